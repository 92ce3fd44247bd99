/-! CLASS: lists -/
def doV (M : M3) (p j : Int) : Int := if j = 5 then 3 else if j = 0 then -1 else M 13 p j
def poDo (M : M3) (r : Int) (N : M3) : Prop := r = mGn M ∧ (∀ b : Int, 0 ≤ b → b < 6 → N 41 0 b = mGi M b) ∧ ∀ p j : Int, N 13 p j = if (0 ≤ p ∧ p < M 44 0 1) ∧ lsP M p then doV M p j else M 13 p j
theorem lX7_do2 {E : E3} {Q : Q3} {M0 : M3} (k : ∀ (N : M3), RM3 N → (∀ q : Nat, q ∉ ([41] : List Nat) → N q = M0 q) → (∀ b : Int, 0 ≤ b → b < 6 → N 41 0 b = 0) → G3 E YX7_driveOut Q 25 [(0, vR 36 0), (1, vI 0), (2, vI 0)] [] N) : ∀ (n : Nat) (x1 : Int) (M : M3), 0 ≤ x1 → x1 + n = 6 → (∀ q : Nat, q ∉ ([41] : List Nat) → M q = M0 q) → (∀ b : Int, 0 ≤ b → b < x1 → M 41 0 b = 0) → G3 E YX7_driveOut Q 2 [(0, vR 36 0), (1, vI x1)] [] M := by
  intro n
  induction n with
  | zero =>
    intro x1 M h1 h2 h3 h4
    refine g3_rm fun hM => ?_
    refine sX7_driveOut_2 ?_
    refine ⟨?_, ?_⟩
    · first | omega | (exfalso; omega)
    refine ⟨fun c1 => ?_, fun c1 => ?_⟩
    · first | (exfalso; omega) | exact k M hM h3 (fun b a c => h4 b a (by omega))
    · refine ⟨?_, ?_⟩
      · first | omega | (exfalso; omega)
      first | (exfalso; omega) | exact k M hM h3 (fun b a c => h4 b a (by omega))
  | succ n ih =>
    intro x1 M h1 h2 h3 h4
    refine g3_rm fun hM => ?_
    refine sX7_driveOut_2 ?_
    refine ⟨?_, ?_⟩
    · first | omega | (exfalso; omega)
    refine ⟨fun c1 => ?_, fun c1 => ?_⟩
    · first
        | (exfalso; omega)
        | (refine ih _ _ (by omega) (by omega) (fr_up h3 (by decide)) (fun b a c => ?_)
           by_cases e : b = x1
           · rw [e, up3_eq]
           · rw [up3_nj e]; exact h4 b a (by omega))
    · refine ⟨?_, ?_⟩
      · first | omega | (exfalso; omega)
      first
        | (exfalso; omega)
        | (refine ih _ _ (by omega) (by omega) (fr_up h3 (by decide)) (fun b a c => ?_)
           by_cases e : b = x1
           · rw [e, up3_eq]
           · rw [up3_nj e]; exact h4 b a (by omega))
theorem lX7_do25 {E : E3} {Q : Q3} {M0 : M3} (hI : iCty M0) (k : ∀ (r : Int) (N : M3), RM3 N → (∀ q : Nat, q ∉ ([13, 41] : List Nat) → N q = M0 q) → poDo M0 r N → Q (some (vI r)) N) : ∀ (n : Nat) (x2 x1 : Int) (M : M3), 0 ≤ x2 → x2 + n = M0 44 0 1 → (∀ q : Nat, q ∉ ([13, 41] : List Nat) → M q = M0 q) → x1 = cn3 x2 (fun p => decide (lsP M0 p)) → (∀ b : Int, 0 ≤ b → b < 6 → M 41 0 b = cn3 x2 (fun p => decide (lsP M0 p ∧ M0 45 0 p = b))) → (∀ p j : Int, M 13 p j = if (0 ≤ p ∧ p < x2) ∧ lsP M0 p then doV M0 p j else M0 13 p j) → G3 E YX7_driveOut Q 25 [(0, vR 36 0), (1, vI x1), (2, vI x2)] [] M := by
  intro n
  induction n with
  | zero =>
    intro x2 x1 M h1 h2 h3 h4 h5 h6
    refine g3_rm fun hM => ?_
    have hn := hI.2.1
    have e10 : M 10 0 0 = M0 44 0 1 := by rw [h3 10 (by decide)]; exact hI.1
    have r4 := cn3_rg h1 (fun p => decide (lsP M0 p))
    refine sX7_driveOut_25 ?_
    simp only [e10]
    refine ⟨?_, ?_⟩
    · first | omega | (have := hh (by omega); omega) | (exfalso; omega)
    refine ⟨fun c1 => ?_, fun c1 => ?_⟩
    · first
        | (exfalso; omega)
        | (have ex : x2 = M0 44 0 1 := by omega
           rw [ex] at h4 h5 h6
           exact k _ M hM h3 ⟨h4, h5, h6⟩)
    · refine ⟨?_, ?_⟩
      · first | omega | (have := hh (by omega); omega) | (exfalso; omega)
      refine ⟨fun c2 => ?_, fun c2 => ?_⟩
      · exfalso; omega
      · refine ⟨?_, ?_⟩
        · first | omega | (have := hh (by omega); omega) | (exfalso; omega)
        refine ⟨fun c3 => ?_, fun c3 => ?_⟩
        · exfalso; omega
        · refine ⟨fun c4 => ?_, fun c4 => ?_⟩
          · exfalso; omega
          · refine ⟨fun c5 => ?_, fun c5 => ?_⟩
            · exfalso; omega
            · refine ⟨?_, ?_⟩
              · first | omega | (have := hh (by omega); omega) | (exfalso; omega)
              refine ⟨fun c6 => ?_, fun c6 => ?_⟩
              · exfalso; omega
              · refine ⟨?_, ?_, ?_⟩
                · first | omega | (have := hh (by omega); omega) | (exfalso; omega)
                · first | omega | (have := hh (by omega); omega) | (exfalso; omega)
                exfalso; omega
  | succ n ih =>
    intro x2 x1 M h1 h2 h3 h4 h5 h6
    refine g3_rm fun hM => ?_
    have hn := hI.2.1
    have e10 : M 10 0 0 = M0 44 0 1 := by rw [h3 10 (by decide)]; exact hI.1
    have r4 := cn3_rg h1 (fun p => decide (lsP M0 p))
    obtain ⟨⟨p1, p2, p3, p4, p5, p6⟩, q1, q2, q3, q4, q5, q6, q7, q8, q9⟩ := hI.2.2 x2 h1 (by omega)
    have mj : ∀ j : Int, M 13 x2 j = M0 13 x2 j := fun j => by rw [h6 x2 j, if_neg (by omega)]
    have m0 := mj 0
    have m3' := mj 3
    have m4 := mj 4
    have m5 := mj 5
    have m6 : ∀ p : Int, M 13 p 6 = M0 13 p 6 := fun p => by
      rw [h6 p 6]
      by_cases q : (0 ≤ p ∧ p < x2) ∧ lsP M0 p
      · rw [if_pos q, doV, if_neg (by decide), if_neg (by decide)]
      · rw [if_neg q]
    have m6o := m6 (M0 13 x2 4)
    have ho : 0 ≤ M0 49 0 x2 → M0 13 (M0 49 0 x2) 6 = M0 51 0 (M0 49 0 x2) := fun q => (hI.2.2 (M0 49 0 x2) q (by omega)).1.2.2.2.2.2
    have hh : M0 50 0 x2 = 1 → M 41 0 (M0 13 x2 0) = cn3 x2 (fun p => decide (lsP M0 p ∧ M0 45 0 p = M0 45 0 x2)) := fun q => by
      rw [q1 (by omega)]
      exact h5 _ q3.1 (by omega)
    have r5 := cn3_rg h1 (fun p => decide (lsP M0 p ∧ M0 45 0 p = M0 45 0 x2))
    refine sX7_driveOut_25 ?_
    simp only [e10]
    rw [m0, m3', m4, m5, m6o, p4]
    refine ⟨?_, ?_⟩
    · first | omega | (have := hh (by omega); omega) | (exfalso; omega)
    refine ⟨fun c1 => ?_, fun c1 => ?_⟩
    · exfalso; omega
    · refine ⟨?_, ?_⟩
      · first | omega | (have := hh (by omega); omega) | (exfalso; omega)
      refine ⟨fun c2 => ?_, fun c2 => ?_⟩
      · first
          | (exfalso; omega)
          | (have ho' := ho (by omega)
             have hP : lsP M0 x2 := ⟨by omega, by omega, by omega⟩
             have hbt := q1 (by omega)
             have hh' := hh (by omega)
             refine ih _ _ _ (by omega) (by omega) (fr_up (fr_up (fr_up h3 (by decide)) (by decide)) (by decide)) (by rw [cn3_t h1 (decide_eq_true hP), h4]) (fun b b0 b1 => ?_) (fun p j => ?_)
             · rw [up3_nr (by decide), up3_nr (by decide)]
               by_cases e : b = M0 13 x2 0
               · rw [e, up3_eq, hh', hbt, cn3_t h1 (decide_eq_true ⟨hP, rfl⟩)]
               · rw [up3_nj e, h5 b b0 b1, cn3_f h1 (decide_eq_false fun y => e (by rw [hbt]; exact y.2.symm))]
             · by_cases e : p = x2
               · rw [e, if_pos ⟨by omega, hP⟩, doV]
                 by_cases j5 : j = 5
                 · rw [j5, up3_nj (by decide), up3_eq, if_pos rfl]
                 · by_cases j0 : j = 0
                   · rw [j0, up3_eq, if_neg (by decide), if_pos rfl]
                   · rw [up3_nj j0, up3_nj j5, up3_nr (by decide), mj j, if_neg j5, if_neg j0]
               · rw [up3_ni e, up3_ni e, up3_nr (by decide), h6 p j]
                 by_cases q : (0 ≤ p ∧ p < x2) ∧ lsP M0 p
                 · rw [if_pos q, if_pos ⟨by omega, q.2⟩]
                 · rw [if_neg q, if_neg fun y => q ⟨by omega, y.2⟩])
          | (have hP : ¬ lsP M0 x2 := fun z => by
               obtain ⟨z1, z2, z3⟩ := z
               have ho' := ho (by omega)
               have hbt := q1 (by omega)
               omega
             refine ih _ _ _ (by omega) (by omega) h3 (by rw [cn3_f h1 (decide_eq_false hP), h4]) (fun b b0 b1 => by rw [h5 b b0 b1, cn3_f h1 (decide_eq_false fun y => hP y.1)]) (fun p j => ?_)
             rw [h6 p j]
             by_cases q : (0 ≤ p ∧ p < x2) ∧ lsP M0 p
             · rw [if_pos q, if_pos ⟨by omega, q.2⟩]
             · rw [if_neg q, if_neg fun y => q ⟨by
                 by_cases e : p = x2
                 · rw [e] at y; exact absurd y.2 hP
                 · omega, y.2⟩])
      · refine ⟨?_, ?_⟩
        · first | omega | (have := hh (by omega); omega) | (exfalso; omega)
        refine ⟨fun c3 => ?_, fun c3 => ?_⟩
        · first
            | (exfalso; omega)
            | (have ho' := ho (by omega)
               have hP : lsP M0 x2 := ⟨by omega, by omega, by omega⟩
               have hbt := q1 (by omega)
               have hh' := hh (by omega)
               refine ih _ _ _ (by omega) (by omega) (fr_up (fr_up (fr_up h3 (by decide)) (by decide)) (by decide)) (by rw [cn3_t h1 (decide_eq_true hP), h4]) (fun b b0 b1 => ?_) (fun p j => ?_)
               · rw [up3_nr (by decide), up3_nr (by decide)]
                 by_cases e : b = M0 13 x2 0
                 · rw [e, up3_eq, hh', hbt, cn3_t h1 (decide_eq_true ⟨hP, rfl⟩)]
                 · rw [up3_nj e, h5 b b0 b1, cn3_f h1 (decide_eq_false fun y => e (by rw [hbt]; exact y.2.symm))]
               · by_cases e : p = x2
                 · rw [e, if_pos ⟨by omega, hP⟩, doV]
                   by_cases j5 : j = 5
                   · rw [j5, up3_nj (by decide), up3_eq, if_pos rfl]
                   · by_cases j0 : j = 0
                     · rw [j0, up3_eq, if_neg (by decide), if_pos rfl]
                     · rw [up3_nj j0, up3_nj j5, up3_nr (by decide), mj j, if_neg j5, if_neg j0]
                 · rw [up3_ni e, up3_ni e, up3_nr (by decide), h6 p j]
                   by_cases q : (0 ≤ p ∧ p < x2) ∧ lsP M0 p
                   · rw [if_pos q, if_pos ⟨by omega, q.2⟩]
                   · rw [if_neg q, if_neg fun y => q ⟨by omega, y.2⟩])
            | (have hP : ¬ lsP M0 x2 := fun z => by
                 obtain ⟨z1, z2, z3⟩ := z
                 have ho' := ho (by omega)
                 have hbt := q1 (by omega)
                 omega
               refine ih _ _ _ (by omega) (by omega) h3 (by rw [cn3_f h1 (decide_eq_false hP), h4]) (fun b b0 b1 => by rw [h5 b b0 b1, cn3_f h1 (decide_eq_false fun y => hP y.1)]) (fun p j => ?_)
               rw [h6 p j]
               by_cases q : (0 ≤ p ∧ p < x2) ∧ lsP M0 p
               · rw [if_pos q, if_pos ⟨by omega, q.2⟩]
               · rw [if_neg q, if_neg fun y => q ⟨by
                   by_cases e : p = x2
                   · rw [e] at y; exact absurd y.2 hP
                   · omega, y.2⟩])
        · refine ⟨fun c4 => ?_, fun c4 => ?_⟩
          · first
              | (exfalso; omega)
              | (have ho' := ho (by omega)
                 have hP : lsP M0 x2 := ⟨by omega, by omega, by omega⟩
                 have hbt := q1 (by omega)
                 have hh' := hh (by omega)
                 refine ih _ _ _ (by omega) (by omega) (fr_up (fr_up (fr_up h3 (by decide)) (by decide)) (by decide)) (by rw [cn3_t h1 (decide_eq_true hP), h4]) (fun b b0 b1 => ?_) (fun p j => ?_)
                 · rw [up3_nr (by decide), up3_nr (by decide)]
                   by_cases e : b = M0 13 x2 0
                   · rw [e, up3_eq, hh', hbt, cn3_t h1 (decide_eq_true ⟨hP, rfl⟩)]
                   · rw [up3_nj e, h5 b b0 b1, cn3_f h1 (decide_eq_false fun y => e (by rw [hbt]; exact y.2.symm))]
                 · by_cases e : p = x2
                   · rw [e, if_pos ⟨by omega, hP⟩, doV]
                     by_cases j5 : j = 5
                     · rw [j5, up3_nj (by decide), up3_eq, if_pos rfl]
                     · by_cases j0 : j = 0
                       · rw [j0, up3_eq, if_neg (by decide), if_pos rfl]
                       · rw [up3_nj j0, up3_nj j5, up3_nr (by decide), mj j, if_neg j5, if_neg j0]
                   · rw [up3_ni e, up3_ni e, up3_nr (by decide), h6 p j]
                     by_cases q : (0 ≤ p ∧ p < x2) ∧ lsP M0 p
                     · rw [if_pos q, if_pos ⟨by omega, q.2⟩]
                     · rw [if_neg q, if_neg fun y => q ⟨by omega, y.2⟩])
              | (have hP : ¬ lsP M0 x2 := fun z => by
                   obtain ⟨z1, z2, z3⟩ := z
                   have ho' := ho (by omega)
                   have hbt := q1 (by omega)
                   omega
                 refine ih _ _ _ (by omega) (by omega) h3 (by rw [cn3_f h1 (decide_eq_false hP), h4]) (fun b b0 b1 => by rw [h5 b b0 b1, cn3_f h1 (decide_eq_false fun y => hP y.1)]) (fun p j => ?_)
                 rw [h6 p j]
                 by_cases q : (0 ≤ p ∧ p < x2) ∧ lsP M0 p
                 · rw [if_pos q, if_pos ⟨by omega, q.2⟩]
                 · rw [if_neg q, if_neg fun y => q ⟨by
                     by_cases e : p = x2
                     · rw [e] at y; exact absurd y.2 hP
                     · omega, y.2⟩])
          · refine ⟨fun c5 => ?_, fun c5 => ?_⟩
            · first
                | (exfalso; omega)
                | (have ho' := ho (by omega)
                   have hP : lsP M0 x2 := ⟨by omega, by omega, by omega⟩
                   have hbt := q1 (by omega)
                   have hh' := hh (by omega)
                   refine ih _ _ _ (by omega) (by omega) (fr_up (fr_up (fr_up h3 (by decide)) (by decide)) (by decide)) (by rw [cn3_t h1 (decide_eq_true hP), h4]) (fun b b0 b1 => ?_) (fun p j => ?_)
                   · rw [up3_nr (by decide), up3_nr (by decide)]
                     by_cases e : b = M0 13 x2 0
                     · rw [e, up3_eq, hh', hbt, cn3_t h1 (decide_eq_true ⟨hP, rfl⟩)]
                     · rw [up3_nj e, h5 b b0 b1, cn3_f h1 (decide_eq_false fun y => e (by rw [hbt]; exact y.2.symm))]
                   · by_cases e : p = x2
                     · rw [e, if_pos ⟨by omega, hP⟩, doV]
                       by_cases j5 : j = 5
                       · rw [j5, up3_nj (by decide), up3_eq, if_pos rfl]
                       · by_cases j0 : j = 0
                         · rw [j0, up3_eq, if_neg (by decide), if_pos rfl]
                         · rw [up3_nj j0, up3_nj j5, up3_nr (by decide), mj j, if_neg j5, if_neg j0]
                     · rw [up3_ni e, up3_ni e, up3_nr (by decide), h6 p j]
                       by_cases q : (0 ≤ p ∧ p < x2) ∧ lsP M0 p
                       · rw [if_pos q, if_pos ⟨by omega, q.2⟩]
                       · rw [if_neg q, if_neg fun y => q ⟨by omega, y.2⟩])
                | (have hP : ¬ lsP M0 x2 := fun z => by
                     obtain ⟨z1, z2, z3⟩ := z
                     have ho' := ho (by omega)
                     have hbt := q1 (by omega)
                     omega
                   refine ih _ _ _ (by omega) (by omega) h3 (by rw [cn3_f h1 (decide_eq_false hP), h4]) (fun b b0 b1 => by rw [h5 b b0 b1, cn3_f h1 (decide_eq_false fun y => hP y.1)]) (fun p j => ?_)
                   rw [h6 p j]
                   by_cases q : (0 ≤ p ∧ p < x2) ∧ lsP M0 p
                   · rw [if_pos q, if_pos ⟨by omega, q.2⟩]
                   · rw [if_neg q, if_neg fun y => q ⟨by
                       by_cases e : p = x2
                       · rw [e] at y; exact absurd y.2 hP
                       · omega, y.2⟩])
            · refine ⟨?_, ?_⟩
              · first | omega | (have := hh (by omega); omega) | (exfalso; omega)
              refine ⟨fun c6 => ?_, fun c6 => ?_⟩
              · first
                  | (exfalso; omega)
                  | (have ho' := ho (by omega)
                     have hP : lsP M0 x2 := ⟨by omega, by omega, by omega⟩
                     have hbt := q1 (by omega)
                     have hh' := hh (by omega)
                     refine ih _ _ _ (by omega) (by omega) (fr_up (fr_up (fr_up h3 (by decide)) (by decide)) (by decide)) (by rw [cn3_t h1 (decide_eq_true hP), h4]) (fun b b0 b1 => ?_) (fun p j => ?_)
                     · rw [up3_nr (by decide), up3_nr (by decide)]
                       by_cases e : b = M0 13 x2 0
                       · rw [e, up3_eq, hh', hbt, cn3_t h1 (decide_eq_true ⟨hP, rfl⟩)]
                       · rw [up3_nj e, h5 b b0 b1, cn3_f h1 (decide_eq_false fun y => e (by rw [hbt]; exact y.2.symm))]
                     · by_cases e : p = x2
                       · rw [e, if_pos ⟨by omega, hP⟩, doV]
                         by_cases j5 : j = 5
                         · rw [j5, up3_nj (by decide), up3_eq, if_pos rfl]
                         · by_cases j0 : j = 0
                           · rw [j0, up3_eq, if_neg (by decide), if_pos rfl]
                           · rw [up3_nj j0, up3_nj j5, up3_nr (by decide), mj j, if_neg j5, if_neg j0]
                       · rw [up3_ni e, up3_ni e, up3_nr (by decide), h6 p j]
                         by_cases q : (0 ≤ p ∧ p < x2) ∧ lsP M0 p
                         · rw [if_pos q, if_pos ⟨by omega, q.2⟩]
                         · rw [if_neg q, if_neg fun y => q ⟨by omega, y.2⟩])
                  | (have hP : ¬ lsP M0 x2 := fun z => by
                       obtain ⟨z1, z2, z3⟩ := z
                       have ho' := ho (by omega)
                       have hbt := q1 (by omega)
                       omega
                     refine ih _ _ _ (by omega) (by omega) h3 (by rw [cn3_f h1 (decide_eq_false hP), h4]) (fun b b0 b1 => by rw [h5 b b0 b1, cn3_f h1 (decide_eq_false fun y => hP y.1)]) (fun p j => ?_)
                     rw [h6 p j]
                     by_cases q : (0 ≤ p ∧ p < x2) ∧ lsP M0 p
                     · rw [if_pos q, if_pos ⟨by omega, q.2⟩]
                     · rw [if_neg q, if_neg fun y => q ⟨by
                         by_cases e : p = x2
                         · rw [e] at y; exact absurd y.2 hP
                         · omega, y.2⟩])
              · refine ⟨?_, ?_, ?_⟩
                · first | omega | (have := hh (by omega); omega) | (exfalso; omega)
                · first | omega | (have := hh (by omega); omega) | (exfalso; omega)
                first
                  | (exfalso; omega)
                  | (have ho' := ho (by omega)
                     have hP : lsP M0 x2 := ⟨by omega, by omega, by omega⟩
                     have hbt := q1 (by omega)
                     have hh' := hh (by omega)
                     refine ih _ _ _ (by omega) (by omega) (fr_up (fr_up (fr_up h3 (by decide)) (by decide)) (by decide)) (by rw [cn3_t h1 (decide_eq_true hP), h4]) (fun b b0 b1 => ?_) (fun p j => ?_)
                     · rw [up3_nr (by decide), up3_nr (by decide)]
                       by_cases e : b = M0 13 x2 0
                       · rw [e, up3_eq, hh', hbt, cn3_t h1 (decide_eq_true ⟨hP, rfl⟩)]
                       · rw [up3_nj e, h5 b b0 b1, cn3_f h1 (decide_eq_false fun y => e (by rw [hbt]; exact y.2.symm))]
                     · by_cases e : p = x2
                       · rw [e, if_pos ⟨by omega, hP⟩, doV]
                         by_cases j5 : j = 5
                         · rw [j5, up3_nj (by decide), up3_eq, if_pos rfl]
                         · by_cases j0 : j = 0
                           · rw [j0, up3_eq, if_neg (by decide), if_pos rfl]
                           · rw [up3_nj j0, up3_nj j5, up3_nr (by decide), mj j, if_neg j5, if_neg j0]
                       · rw [up3_ni e, up3_ni e, up3_nr (by decide), h6 p j]
                         by_cases q : (0 ≤ p ∧ p < x2) ∧ lsP M0 p
                         · rw [if_pos q, if_pos ⟨by omega, q.2⟩]
                         · rw [if_neg q, if_neg fun y => q ⟨by omega, y.2⟩])
                  | (have hP : ¬ lsP M0 x2 := fun z => by
                       obtain ⟨z1, z2, z3⟩ := z
                       have ho' := ho (by omega)
                       have hbt := q1 (by omega)
                       omega
                     refine ih _ _ _ (by omega) (by omega) h3 (by rw [cn3_f h1 (decide_eq_false hP), h4]) (fun b b0 b1 => by rw [h5 b b0 b1, cn3_f h1 (decide_eq_false fun y => hP y.1)]) (fun p j => ?_)
                     rw [h6 p j]
                     by_cases q : (0 ≤ p ∧ p < x2) ∧ lsP M0 p
                     · rw [if_pos q, if_pos ⟨by omega, q.2⟩]
                     · rw [if_neg q, if_neg fun y => q ⟨by
                         by_cases e : p = x2
                         · rw [e] at y; exact absurd y.2 hP
                         · omega, y.2⟩])
theorem kX7_driveOut {E : E3} {Q : Q3} {M : M3} (h : iCty M) (k : ∀ (r : Int) (N : M3), RM3 N → (∀ q : Nat, q ∉ ([13, 41] : List Nat) → N q = M q) → poDo M r N → Q (some (vI r)) N) : C3 E YX7_driveOut [vR 36 0] M Q :=
  sX7_driveOut (lX7_do2 (fun N a b c => lX7_do25 h k (M 44 0 1).toNat 0 0 N (by omega) (by have := h.2.1; omega) (fr_sub b (by decide)) rfl (fun x x0 x1 => c x x0 x1) (fun p j => by rw [if_neg (by omega), b 13 (by decide)])) 6 0 M (by omega) (by omega) fr_rf (fun b a c => by omega))
/-- how many are gone in the beat of one -/
def sn3 (M : M3) (p : Int) : Int := if 0 ≤ M 13 p 0 ∧ M 13 p 0 ≤ 5 then M 41 0 (M 13 p 0) else 0
abbrev fkP (M : M3) (p : Int) : Prop := 0 < sn3 M p ∧ M 13 p 5 = 1 ∧ 10 ≤ M 13 p 3 + sn3 M p
def preFr (M : M3) : Prop := (0 ≤ M 10 0 0 ∧ M 10 0 0 ≤ 48) ∧ (∀ p : Int, 0 ≤ p → p < 48 → 0 ≤ M 13 p 3 ∧ M 13 p 3 ≤ 9) ∧ ∀ b : Int, 0 ≤ b → b < 6 → 0 ≤ M 41 0 b ∧ M 41 0 b ≤ 48
def frV (M : M3) (p j : Int) : Int := if j = 5 then (if fkP M p then 2 else M 13 p 5) else if j = 3 then (if 0 < sn3 M p then min 9 (M 13 p 3 + 1) else M 13 p 3) else M 13 p j
def poFr (M : M3) (r : Int) (N : M3) : Prop := r = cn3 (M 10 0 0) (fun p => decide (fkP M p)) ∧ ∀ p j : Int, N 13 p j = if 0 ≤ p ∧ p < M 10 0 0 then frV M p j else M 13 p j
theorem lX7_frighten {E : E3} {Q : Q3} {M0 : M3} (hz : preFr M0) (k : ∀ (r : Int) (N : M3), RM3 N → (∀ q : Nat, q ∉ ([13] : List Nat) → N q = M0 q) → poFr M0 r N → Q (some (vI r)) N) : ∀ (n : Nat) (x2 x1 : Int) (M : M3), 0 ≤ x2 → x2 + n = M0 10 0 0 → (∀ q : Nat, q ∉ ([13] : List Nat) → M q = M0 q) → x1 = cn3 x2 (fun p => decide (fkP M0 p)) → (∀ p j : Int, M 13 p j = if 0 ≤ p ∧ p < x2 then frV M0 p j else M0 13 p j) → G3 E YX7_frighten Q 4 [(0, vR 36 0), (1, vI x1), (2, vI x2)] [] M := by
  intro n
  induction n with
  | zero =>
    intro x2 x1 M h1 h2 h3 h4 h5
    refine g3_rm fun hM => ?_
    obtain ⟨z1, z2, z3⟩ := hz
    have e10 : M 10 0 0 = M0 10 0 0 := by rw [h3 10 (by decide)]
    have e41 : M 41 = M0 41 := h3 41 (by decide)
    have r4 := cn3_rg h1 (fun p => decide (fkP M0 p))
    refine sX7_frighten_4 ?_
    simp only [e10, e41]
    refine ⟨?_, ?_⟩
    · first | omega | exact ⟨by omega, by omega, by omega⟩ | (have := r41 (by omega) (by omega); omega) | (exfalso; omega)
    refine ⟨fun c1 => ?_, fun c1 => ?_⟩
    · first
        | (exfalso; omega)
        | (have ex : x2 = M0 10 0 0 := by omega
           rw [ex] at h4 h5
           exact k _ M hM h3 ⟨h4, h5⟩)
    · refine ⟨?_, ?_, ?_⟩
      · first | omega | exact ⟨by omega, by omega, by omega⟩ | (have := r41 (by omega) (by omega); omega) | (exfalso; omega)
      · first | omega | exact ⟨by omega, by omega, by omega⟩ | (have := r41 (by omega) (by omega); omega) | (exfalso; omega)
      refine ⟨fun c2 => ?_, fun c2 => ?_⟩
      · exfalso; omega
      · refine ⟨?_, ?_⟩
        · first | omega | exact ⟨by omega, by omega, by omega⟩ | (have := r41 (by omega) (by omega); omega) | (exfalso; omega)
        refine ⟨fun c3 => ?_, fun c3 => ?_⟩
        · exfalso; omega
        · refine ⟨fun c4 => ?_, fun c4 => ?_⟩
          · refine ⟨?_, ?_, ?_⟩
            · first | omega | exact ⟨by omega, by omega, by omega⟩ | (have := r41 (by omega) (by omega); omega) | (exfalso; omega)
            · first | omega | exact ⟨by omega, by omega, by omega⟩ | (have := r41 (by omega) (by omega); omega) | (exfalso; omega)
            exfalso; omega
          · refine ⟨?_, ?_⟩
            · first | omega | exact ⟨by omega, by omega, by omega⟩ | (have := r41 (by omega) (by omega); omega) | (exfalso; omega)
            refine ⟨fun c5 => ?_, fun c5 => ?_⟩
            · refine ⟨?_, ?_, ?_⟩
              · first | omega | exact ⟨by omega, by omega, by omega⟩ | (have := r41 (by omega) (by omega); omega) | (exfalso; omega)
              · first | omega | exact ⟨by omega, by omega, by omega⟩ | (have := r41 (by omega) (by omega); omega) | (exfalso; omega)
              exfalso; omega
            · refine ⟨?_, ?_, ?_⟩
              · first | omega | exact ⟨by omega, by omega, by omega⟩ | (have := r41 (by omega) (by omega); omega) | (exfalso; omega)
              · first | omega | exact ⟨by omega, by omega, by omega⟩ | (have := r41 (by omega) (by omega); omega) | (exfalso; omega)
              exfalso; omega
  | succ n ih =>
    intro x2 x1 M h1 h2 h3 h4 h5
    refine g3_rm fun hM => ?_
    obtain ⟨z1, z2, z3⟩ := hz
    have e10 : M 10 0 0 = M0 10 0 0 := by rw [h3 10 (by decide)]
    have e41 : M 41 = M0 41 := h3 41 (by decide)
    have r4 := cn3_rg h1 (fun p => decide (fkP M0 p))
    have mj : ∀ j : Int, M 13 x2 j = M0 13 x2 j := fun j => by rw [h5 x2 j, if_neg (by omega)]
    have m0 := mj 0
    have m3' := mj 3
    have m5 := mj 5
    have r3 := z2 x2 h1 (by omega)
    have r0 := hM 13 x2 0
    rw [m0] at r0
    have r41 : 0 ≤ M0 13 x2 0 → M0 13 x2 0 < 6 → 0 ≤ M0 41 0 (M0 13 x2 0) ∧ M0 41 0 (M0 13 x2 0) ≤ 48 := fun a b => z3 _ a b
    have sn : (0 ≤ M0 13 x2 0 ∧ M0 13 x2 0 ≤ 5 ∧ sn3 M0 x2 = M0 41 0 (M0 13 x2 0)) ∨ (¬ (0 ≤ M0 13 x2 0 ∧ M0 13 x2 0 ≤ 5) ∧ sn3 M0 x2 = 0) := by
      by_cases q : 0 ≤ M0 13 x2 0 ∧ M0 13 x2 0 ≤ 5
      · exact Or.inl ⟨q.1, q.2, if_pos q⟩
      · exact Or.inr ⟨q, if_neg q⟩
    have step : ∀ (N : M3) (y : Int), (∀ q : Nat, q ∉ ([13] : List Nat) → N q = M0 q) → y = x1 + (if fkP M0 x2 then 1 else 0) → (∀ p j : Int, N 13 p j = if p = x2 then frV M0 x2 j else M 13 p j) → G3 E YX7_frighten Q 4 [(0, vR 36 0), (1, vI y), (2, vI (x2 + 1))] [] N := fun N y a b c => by
      refine ih _ _ _ (by omega) (by omega) a ?_ (fun p j => ?_)
      · rw [b, cn3_s h1, h4]
        congr 1
        by_cases q : fkP M0 x2
        · rw [if_pos q, if_pos (decide_eq_true q)]
        · rw [if_neg q, if_neg fun z => q (of_decide_eq_true z)]
      · rw [c p j]
        by_cases e : p = x2
        · rw [if_pos e, e, if_pos (by omega)]
        · rw [if_neg e, h5 p j]
          by_cases q : 0 ≤ p ∧ p < x2
          · rw [if_pos q, if_pos (by omega)]
          · rw [if_neg q, if_neg (by omega)]
    refine sX7_frighten_4 ?_
    simp only [e10, e41]
    rw [m0, m3', m5]
    refine ⟨?_, ?_⟩
    · first | omega | exact ⟨by omega, by omega, by omega⟩ | (have := r41 (by omega) (by omega); omega) | (exfalso; omega)
    refine ⟨fun c1 => ?_, fun c1 => ?_⟩
    · exfalso; omega
    · refine ⟨?_, ?_, ?_⟩
      · first | omega | exact ⟨by omega, by omega, by omega⟩ | (have := r41 (by omega) (by omega); omega) | (exfalso; omega)
      · first | omega | exact ⟨by omega, by omega, by omega⟩ | (have := r41 (by omega) (by omega); omega) | (exfalso; omega)
      refine ⟨fun c2 => ?_, fun c2 => ?_⟩
      · first
          | (exfalso; omega)
          | (have hs : 0 < sn3 M0 x2 := by omega
             have hk : fkP M0 x2 := ⟨hs, by omega, by omega⟩
             refine step _ _ (fr_up (fr_up h3 (by decide)) (by decide)) (by rw [if_pos hk]) (fun p j => ?_)
             by_cases e : p = x2
             · rw [if_pos e, e, frV]
               by_cases j5 : j = 5
               · rw [j5, up3_nj (by decide), up3_eq, if_pos rfl, if_pos hk]
               · by_cases j3 : j = 3
                 · rw [j3, up3_eq, if_neg (by decide), if_pos rfl, if_pos hs]
                 · rw [up3_nj j3, up3_nj j5, mj j, if_neg j5, if_neg j3]
             · rw [if_neg e, up3_ni e, up3_ni e])
          | (have hs : 0 < sn3 M0 x2 := by omega
             have hk : ¬ fkP M0 x2 := fun z => by have := z.2; omega
             refine step _ _ (fr_up h3 (by decide)) (by rw [if_neg hk]; omega) (fun p j => ?_)
             by_cases e : p = x2
             · rw [if_pos e, e, frV]
               by_cases j5 : j = 5
               · rw [j5, up3_nj (by decide), mj 5, if_pos rfl, if_neg hk]
               · by_cases j3 : j = 3
                 · rw [j3, up3_eq, if_neg (by decide), if_pos rfl, if_pos hs]
                 · rw [up3_nj j3, mj j, if_neg j5, if_neg j3]
             · rw [if_neg e, up3_ni e])
          | (have hs : ¬ 0 < sn3 M0 x2 := by omega
             have hk : ¬ fkP M0 x2 := fun z => hs z.1
             refine step _ _ h3 (by rw [if_neg hk]; omega) (fun p j => ?_)
             by_cases e : p = x2
             · rw [if_pos e, e, frV, mj j]
               by_cases j5 : j = 5
               · rw [j5, if_pos rfl, if_neg hk]
               · by_cases j3 : j = 3
                 · rw [j3, if_neg (by decide), if_pos rfl, if_neg hs]
                 · rw [if_neg j5, if_neg j3]
             · rw [if_neg e])
      · refine ⟨?_, ?_⟩
        · first | omega | exact ⟨by omega, by omega, by omega⟩ | (have := r41 (by omega) (by omega); omega) | (exfalso; omega)
        refine ⟨fun c3 => ?_, fun c3 => ?_⟩
        · first
            | (exfalso; omega)
            | (have hs : 0 < sn3 M0 x2 := by omega
               have hk : fkP M0 x2 := ⟨hs, by omega, by omega⟩
               refine step _ _ (fr_up (fr_up h3 (by decide)) (by decide)) (by rw [if_pos hk]) (fun p j => ?_)
               by_cases e : p = x2
               · rw [if_pos e, e, frV]
                 by_cases j5 : j = 5
                 · rw [j5, up3_nj (by decide), up3_eq, if_pos rfl, if_pos hk]
                 · by_cases j3 : j = 3
                   · rw [j3, up3_eq, if_neg (by decide), if_pos rfl, if_pos hs]
                   · rw [up3_nj j3, up3_nj j5, mj j, if_neg j5, if_neg j3]
               · rw [if_neg e, up3_ni e, up3_ni e])
            | (have hs : 0 < sn3 M0 x2 := by omega
               have hk : ¬ fkP M0 x2 := fun z => by have := z.2; omega
               refine step _ _ (fr_up h3 (by decide)) (by rw [if_neg hk]; omega) (fun p j => ?_)
               by_cases e : p = x2
               · rw [if_pos e, e, frV]
                 by_cases j5 : j = 5
                 · rw [j5, up3_nj (by decide), mj 5, if_pos rfl, if_neg hk]
                 · by_cases j3 : j = 3
                   · rw [j3, up3_eq, if_neg (by decide), if_pos rfl, if_pos hs]
                   · rw [up3_nj j3, mj j, if_neg j5, if_neg j3]
               · rw [if_neg e, up3_ni e])
            | (have hs : ¬ 0 < sn3 M0 x2 := by omega
               have hk : ¬ fkP M0 x2 := fun z => hs z.1
               refine step _ _ h3 (by rw [if_neg hk]; omega) (fun p j => ?_)
               by_cases e : p = x2
               · rw [if_pos e, e, frV, mj j]
                 by_cases j5 : j = 5
                 · rw [j5, if_pos rfl, if_neg hk]
                 · by_cases j3 : j = 3
                   · rw [j3, if_neg (by decide), if_pos rfl, if_neg hs]
                   · rw [if_neg j5, if_neg j3]
               · rw [if_neg e])
        · refine ⟨fun c4 => ?_, fun c4 => ?_⟩
          · refine ⟨?_, ?_, ?_⟩
            · first | omega | exact ⟨by omega, by omega, by omega⟩ | (have := r41 (by omega) (by omega); omega) | (exfalso; omega)
            · first | omega | exact ⟨by omega, by omega, by omega⟩ | (have := r41 (by omega) (by omega); omega) | (exfalso; omega)
            first
              | (exfalso; omega)
              | (have hs : 0 < sn3 M0 x2 := by omega
                 have hk : fkP M0 x2 := ⟨hs, by omega, by omega⟩
                 refine step _ _ (fr_up (fr_up h3 (by decide)) (by decide)) (by rw [if_pos hk]) (fun p j => ?_)
                 by_cases e : p = x2
                 · rw [if_pos e, e, frV]
                   by_cases j5 : j = 5
                   · rw [j5, up3_nj (by decide), up3_eq, if_pos rfl, if_pos hk]
                   · by_cases j3 : j = 3
                     · rw [j3, up3_eq, if_neg (by decide), if_pos rfl, if_pos hs]
                     · rw [up3_nj j3, up3_nj j5, mj j, if_neg j5, if_neg j3]
                 · rw [if_neg e, up3_ni e, up3_ni e])
              | (have hs : 0 < sn3 M0 x2 := by omega
                 have hk : ¬ fkP M0 x2 := fun z => by have := z.2; omega
                 refine step _ _ (fr_up h3 (by decide)) (by rw [if_neg hk]; omega) (fun p j => ?_)
                 by_cases e : p = x2
                 · rw [if_pos e, e, frV]
                   by_cases j5 : j = 5
                   · rw [j5, up3_nj (by decide), mj 5, if_pos rfl, if_neg hk]
                   · by_cases j3 : j = 3
                     · rw [j3, up3_eq, if_neg (by decide), if_pos rfl, if_pos hs]
                     · rw [up3_nj j3, mj j, if_neg j5, if_neg j3]
                 · rw [if_neg e, up3_ni e])
              | (have hs : ¬ 0 < sn3 M0 x2 := by omega
                 have hk : ¬ fkP M0 x2 := fun z => hs z.1
                 refine step _ _ h3 (by rw [if_neg hk]; omega) (fun p j => ?_)
                 by_cases e : p = x2
                 · rw [if_pos e, e, frV, mj j]
                   by_cases j5 : j = 5
                   · rw [j5, if_pos rfl, if_neg hk]
                   · by_cases j3 : j = 3
                     · rw [j3, if_neg (by decide), if_pos rfl, if_neg hs]
                     · rw [if_neg j5, if_neg j3]
                 · rw [if_neg e])
          · refine ⟨?_, ?_⟩
            · first | omega | exact ⟨by omega, by omega, by omega⟩ | (have := r41 (by omega) (by omega); omega) | (exfalso; omega)
            refine ⟨fun c5 => ?_, fun c5 => ?_⟩
            · refine ⟨?_, ?_, ?_⟩
              · first | omega | exact ⟨by omega, by omega, by omega⟩ | (have := r41 (by omega) (by omega); omega) | (exfalso; omega)
              · first | omega | exact ⟨by omega, by omega, by omega⟩ | (have := r41 (by omega) (by omega); omega) | (exfalso; omega)
              first
                | (exfalso; omega)
                | (have hs : 0 < sn3 M0 x2 := by omega
                   have hk : fkP M0 x2 := ⟨hs, by omega, by omega⟩
                   refine step _ _ (fr_up (fr_up h3 (by decide)) (by decide)) (by rw [if_pos hk]) (fun p j => ?_)
                   by_cases e : p = x2
                   · rw [if_pos e, e, frV]
                     by_cases j5 : j = 5
                     · rw [j5, up3_nj (by decide), up3_eq, if_pos rfl, if_pos hk]
                     · by_cases j3 : j = 3
                       · rw [j3, up3_eq, if_neg (by decide), if_pos rfl, if_pos hs]
                       · rw [up3_nj j3, up3_nj j5, mj j, if_neg j5, if_neg j3]
                   · rw [if_neg e, up3_ni e, up3_ni e])
                | (have hs : 0 < sn3 M0 x2 := by omega
                   have hk : ¬ fkP M0 x2 := fun z => by have := z.2; omega
                   refine step _ _ (fr_up h3 (by decide)) (by rw [if_neg hk]; omega) (fun p j => ?_)
                   by_cases e : p = x2
                   · rw [if_pos e, e, frV]
                     by_cases j5 : j = 5
                     · rw [j5, up3_nj (by decide), mj 5, if_pos rfl, if_neg hk]
                     · by_cases j3 : j = 3
                       · rw [j3, up3_eq, if_neg (by decide), if_pos rfl, if_pos hs]
                       · rw [up3_nj j3, mj j, if_neg j5, if_neg j3]
                   · rw [if_neg e, up3_ni e])
                | (have hs : ¬ 0 < sn3 M0 x2 := by omega
                   have hk : ¬ fkP M0 x2 := fun z => hs z.1
                   refine step _ _ h3 (by rw [if_neg hk]; omega) (fun p j => ?_)
                   by_cases e : p = x2
                   · rw [if_pos e, e, frV, mj j]
                     by_cases j5 : j = 5
                     · rw [j5, if_pos rfl, if_neg hk]
                     · by_cases j3 : j = 3
                       · rw [j3, if_neg (by decide), if_pos rfl, if_neg hs]
                       · rw [if_neg j5, if_neg j3]
                   · rw [if_neg e])
            · refine ⟨?_, ?_, ?_⟩
              · first | omega | exact ⟨by omega, by omega, by omega⟩ | (have := r41 (by omega) (by omega); omega) | (exfalso; omega)
              · first | omega | exact ⟨by omega, by omega, by omega⟩ | (have := r41 (by omega) (by omega); omega) | (exfalso; omega)
              first
                | (exfalso; omega)
                | (have hs : 0 < sn3 M0 x2 := by omega
                   have hk : fkP M0 x2 := ⟨hs, by omega, by omega⟩
                   refine step _ _ (fr_up (fr_up h3 (by decide)) (by decide)) (by rw [if_pos hk]) (fun p j => ?_)
                   by_cases e : p = x2
                   · rw [if_pos e, e, frV]
                     by_cases j5 : j = 5
                     · rw [j5, up3_nj (by decide), up3_eq, if_pos rfl, if_pos hk]
                     · by_cases j3 : j = 3
                       · rw [j3, up3_eq, if_neg (by decide), if_pos rfl, if_pos hs]
                       · rw [up3_nj j3, up3_nj j5, mj j, if_neg j5, if_neg j3]
                   · rw [if_neg e, up3_ni e, up3_ni e])
                | (have hs : 0 < sn3 M0 x2 := by omega
                   have hk : ¬ fkP M0 x2 := fun z => by have := z.2; omega
                   refine step _ _ (fr_up h3 (by decide)) (by rw [if_neg hk]; omega) (fun p j => ?_)
                   by_cases e : p = x2
                   · rw [if_pos e, e, frV]
                     by_cases j5 : j = 5
                     · rw [j5, up3_nj (by decide), mj 5, if_pos rfl, if_neg hk]
                     · by_cases j3 : j = 3
                       · rw [j3, up3_eq, if_neg (by decide), if_pos rfl, if_pos hs]
                       · rw [up3_nj j3, mj j, if_neg j5, if_neg j3]
                   · rw [if_neg e, up3_ni e])
                | (have hs : ¬ 0 < sn3 M0 x2 := by omega
                   have hk : ¬ fkP M0 x2 := fun z => hs z.1
                   refine step _ _ h3 (by rw [if_neg hk]; omega) (fun p j => ?_)
                   by_cases e : p = x2
                   · rw [if_pos e, e, frV, mj j]
                     by_cases j5 : j = 5
                     · rw [j5, if_pos rfl, if_neg hk]
                     · by_cases j3 : j = 3
                       · rw [j3, if_neg (by decide), if_pos rfl, if_neg hs]
                       · rw [if_neg j5, if_neg j3]
                   · rw [if_neg e])
theorem kX7_frighten {E : E3} {Q : Q3} {M : M3} (h : preFr M) (k : ∀ (r : Int) (N : M3), RM3 N → (∀ q : Nat, q ∉ ([13] : List Nat) → N q = M q) → poFr M r N → Q (some (vI r)) N) : C3 E YX7_frighten [vR 36 0] M Q :=
  sX7_frighten (lX7_frighten h k (M 10 0 0).toNat 0 0 M (by omega) (by have := h.1; omega) fr_rf rfl (fun p j => by rw [if_neg (by omega)]))
