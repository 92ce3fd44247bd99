/-! MODEL: a list is printed -/
abbrev lsP (M : M3) (p : Int) : Prop := M 50 0 p = 1 ∧ M 49 0 p ≠ -1 ∧ M 48 0 p < M 51 0 (M 49 0 p)
def mGi (M : M3) (b : Int) : Int := cn3 (M 44 0 1) fun p => decide (lsP M p ∧ M 45 0 p = b)
abbrev sgP (M : M3) (p : Int) : Prop := ¬ lsP M p ∧ M 50 0 p < 3 ∧ 0 < mGi M (M 45 0 p)
abbrev skP (M : M3) (p : Int) : Prop := sgP M p ∧ M 50 0 p = 1 ∧ 10 ≤ M 48 0 p + mGi M (M 45 0 p)
def nSt (M : M3) (p : Int) : Int := if lsP M p then 3 else if skP M p then 2 else M 50 0 p
def nFe (M : M3) (p : Int) : Int := if sgP M p ∧ M 48 0 p < 9 then M 48 0 p + 1 else M 48 0 p
def mGn (M : M3) : Int := cn3 (M 44 0 1) fun p => decide (lsP M p)
def mSk (M : M3) : Int := cn3 (M 44 0 1) fun p => decide (skP M p)
def okS (M : M3) : Prop := (0 ≤ M 44 0 1 ∧ M 44 0 1 ≤ 48) ∧ (0 ≤ M 44 0 39 ∧ M 44 0 39 ≤ 30) ∧ ∀ p : Int, 0 ≤ p → p < M 44 0 1 → (0 ≤ M 45 0 p ∧ M 45 0 p ≤ 5) ∧ (-1 ≤ M 49 0 p ∧ M 49 0 p < 48) ∧ (0 ≤ M 48 0 p ∧ M 48 0 p ≤ 9)
/-- behind the list: of the memory at the start -/
def poLst (M N : M3) : Prop := (∀ q : Nat, q ∉ ([44, 48, 50, 71, 72, 73] : List Nat) → N q = M q) ∧ (∀ j : Int, j ≠ 39 → N 44 0 j = M 44 0 j) ∧ N 44 0 39 = M 44 0 39 + 1 ∧ (∀ p : Int, 0 ≤ p → p < M 44 0 1 → N 50 0 p = nSt M p ∧ N 48 0 p = nFe M p) ∧ (∀ p : Int, ¬ (0 ≤ p ∧ p < M 44 0 1) → N 50 0 p = M 50 0 p ∧ N 48 0 p = M 48 0 p) ∧ N 71 0 (4 * M 44 0 39) = M 44 0 0 ∧ N 71 0 (4 * M 44 0 39 + 1) = mRoll M (-1) (-1) 1 ∧ N 71 0 (4 * M 44 0 39 + 2) = mGn M ∧ N 71 0 (4 * M 44 0 39 + 3) = mSk M ∧ ∀ j : Int, ¬ (4 * M 44 0 39 ≤ j ∧ j < 4 * M 44 0 39 + 4) → N 71 0 j = M 71 0 j
theorem mGi_rg {M : M3} (h : 0 ≤ M 44 0 1 ∧ M 44 0 1 ≤ 48) (b : Int) : 0 ≤ mGi M b ∧ mGi M b ≤ 48 := by
  have := cn3_rg h.1 (fun p => decide (lsP M p ∧ M 45 0 p = b))
  unfold mGi
  omega
theorem lX12_list53 {E : E3} {Q : Q3} {M0 : M3} (k : ∀ (N : M3), RM3 N → (∀ q : Nat, q ∉ ([72] : List Nat) → N q = M0 q) → (∀ z : Int, 0 ≤ z → z < 6 → N 72 0 z = 0) → G3 E YX12_list Q 74 [(0, vR 44 0), (1, vI 0), (2, vI 0), (3, vI 0)] [] N) : ∀ (n : Nat) (x3 x1 x2 : Int) (M : M3), 0 ≤ x3 → x3 + n = 6 → (∀ q : Nat, q ∉ ([72] : List Nat) → M q = M0 q) → x1 = 0 → x2 = 0 → (∀ z : Int, 0 ≤ z → z < x3 → M 72 0 z = 0) → G3 E YX12_list Q 53 [(0, vR 44 0), (1, vI x1), (2, vI x2), (3, vI x3)] [] M := by
  intro n
  induction n with
  | zero =>
    intro x3 x1 x2 M h1 h2 h3 h4 h5 h6
    refine g3_rm fun hM => ?_
    refine sX12_list_53 ?_
    refine ⟨?_, ?_⟩
    · first | omega | (exfalso; omega)
    refine ⟨fun c1 => ?_, fun c1 => ?_⟩
    · first
        | (exfalso; omega)
        | (rw [h4, h5]; exact k M hM h3 (fun z a b => h6 z a (by omega)))
    · refine ⟨?_, ?_⟩
      · first | omega | (exfalso; omega)
      first
        | (exfalso; omega)
        | (rw [h4, h5]; exact k M hM h3 (fun z a b => h6 z a (by omega)))
  | succ n ih =>
    intro x3 x1 x2 M h1 h2 h3 h4 h5 h6
    refine g3_rm fun hM => ?_
    refine sX12_list_53 ?_
    refine ⟨?_, ?_⟩
    · first | omega | (exfalso; omega)
    refine ⟨fun c1 => ?_, fun c1 => ?_⟩
    · first
        | (exfalso; omega)
        | (refine ih _ _ _ _ (by omega) (by omega) (fr_up h3 (by decide)) h4 h5 (fun z a b => ?_)
           by_cases e : z = x3
           · rw [e]; exact up3_eq
           · rw [up3_nj e]; exact h6 z a (by omega))
    · refine ⟨?_, ?_⟩
      · first | omega | (exfalso; omega)
      first
        | (exfalso; omega)
        | (refine ih _ _ _ _ (by omega) (by omega) (fr_up h3 (by decide)) h4 h5 (fun z a b => ?_)
           by_cases e : z = x3
           · rw [e]; exact up3_eq
           · rw [up3_nj e]; exact h6 z a (by omega))
theorem lX12_list74 {E : E3} {Q : Q3} {M0 : M3} (hz : okS M0) (k : ∀ (N : M3), RM3 N → (∀ q : Nat, q ∉ ([72, 73] : List Nat) → N q = M0 q) → (∀ z : Int, 0 ≤ z → z < 6 → N 72 0 z = 0) → (∀ z : Int, 0 ≤ z → z < M0 44 0 1 → (N 73 0 z ≠ 0 ↔ lsP M0 z)) → G3 E YX12_list Q 155 [(0, vR 44 0), (1, vI 0), (2, vI 0), (3, vI 0)] [] N) : ∀ (n : Nat) (x3 x1 x2 : Int) (M : M3), 0 ≤ x3 → x3 + n = M0 44 0 1 → (∀ q : Nat, q ∉ ([72, 73] : List Nat) → M q = M0 q) → x1 = 0 → x2 = 0 → (∀ z : Int, 0 ≤ z → z < 6 → M 72 0 z = 0) → (∀ z : Int, 0 ≤ z → z < x3 → (M 73 0 z ≠ 0 ↔ lsP M0 z)) → G3 E YX12_list Q 74 [(0, vR 44 0), (1, vI x1), (2, vI x2), (3, vI x3)] [] M := by
  intro n
  induction n with
  | zero =>
    intro x3 x1 x2 M h1 h2 h3 h4 h5 h6 h7
    refine g3_rm fun hM => ?_
    have hz1 := hz.1
    have e44 : M 44 = M0 44 := h3 44 (by decide)
    have e48 : M 48 = M0 48 := h3 48 (by decide)
    have e49 : M 49 = M0 49 := h3 49 (by decide)
    have e50 : M 50 = M0 50 := h3 50 (by decide)
    have e51 : M 51 = M0 51 := h3 51 (by decide)
    refine sX12_list_74 ?_
    simp only [e44, e48, e49, e50, e51]
    refine ⟨?_, ?_⟩
    · first | omega | (exfalso; omega)
    refine ⟨fun c1 => ?_, fun c1 => ?_⟩
    · first
        | (exfalso; omega)
        | (rw [h4, h5]; exact k M hM h3 h6 (fun z a b => h7 z a (by omega)))
    · refine ⟨?_, ?_⟩
      · first | omega | (exfalso; omega)
      refine ⟨fun c2 => ?_, fun c2 => ?_⟩
      · first
          | (exfalso; omega)
          | (rw [h4, h5]; exact k M hM h3 h6 (fun z a b => h7 z a (by omega)))
      · refine ⟨fun c3 => ?_, fun c3 => ?_⟩
        · first
            | (exfalso; omega)
            | (rw [h4, h5]; exact k M hM h3 h6 (fun z a b => h7 z a (by omega)))
        · refine ⟨fun c4 => ?_, fun c4 => ?_⟩
          · refine ⟨?_, ?_⟩
            · first | omega | (exfalso; omega)
            refine ⟨fun c5 => ?_, fun c5 => ?_⟩
            · first
                | (exfalso; omega)
                | (rw [h4, h5]; exact k M hM h3 h6 (fun z a b => h7 z a (by omega)))
            · first
                | (exfalso; omega)
                | (rw [h4, h5]; exact k M hM h3 h6 (fun z a b => h7 z a (by omega)))
          · refine ⟨fun c5 => ?_, fun c5 => ?_⟩
            · first
                | (exfalso; omega)
                | (rw [h4, h5]; exact k M hM h3 h6 (fun z a b => h7 z a (by omega)))
            · first
                | (exfalso; omega)
                | (rw [h4, h5]; exact k M hM h3 h6 (fun z a b => h7 z a (by omega)))
  | succ n ih =>
    intro x3 x1 x2 M h1 h2 h3 h4 h5 h6 h7
    refine g3_rm fun hM => ?_
    have hz1 := hz.1
    have e44 : M 44 = M0 44 := h3 44 (by decide)
    have e48 : M 48 = M0 48 := h3 48 (by decide)
    have e49 : M 49 = M0 49 := h3 49 (by decide)
    have e50 : M 50 = M0 50 := h3 50 (by decide)
    have e51 : M 51 = M0 51 := h3 51 (by decide)
    obtain ⟨w1, w2, w3⟩ := hz.2.2 x3 h1 (by omega)
    have t : ∀ v : Int, (v ≠ 0 ↔ lsP M0 x3) → ∀ z : Int, 0 ≤ z → z < x3 + 1 → (up3 M 73 0 x3 v 73 0 z ≠ 0 ↔ lsP M0 z) := fun v hv z a b => by
      by_cases e : z = x3
      · rw [e, up3_eq]; exact hv
      · rw [up3_nj e]; exact h7 z a (by omega)
    refine sX12_list_74 ?_
    simp only [e44, e48, e49, e50, e51]
    refine ⟨?_, ?_⟩
    · first | omega | (exfalso; omega)
    refine ⟨fun c1 => ?_, fun c1 => ?_⟩
    · first
        | (exfalso; omega)
        | (refine ih _ _ _ _ (by omega) (by omega) (fr_up h3 (by decide)) h4 h5 (fun z a b => by rw [up3_nr (by decide)]; exact h6 z a b) (t _ ?_)
           first
             | exact ⟨fun _ => ⟨by assumption, by assumption, by assumption⟩, fun _ => by decide⟩
             | exact ⟨fun z => absurd rfl z, fun z => by obtain ⟨z1, z2, z3⟩ := z; first | contradiction | omega⟩)
    · refine ⟨?_, ?_⟩
      · first | omega | (exfalso; omega)
      refine ⟨fun c2 => ?_, fun c2 => ?_⟩
      · first
          | (exfalso; omega)
          | (refine ih _ _ _ _ (by omega) (by omega) (fr_up h3 (by decide)) h4 h5 (fun z a b => by rw [up3_nr (by decide)]; exact h6 z a b) (t _ ?_)
             first
               | exact ⟨fun _ => ⟨by assumption, by assumption, by assumption⟩, fun _ => by decide⟩
               | exact ⟨fun z => absurd rfl z, fun z => by obtain ⟨z1, z2, z3⟩ := z; first | contradiction | omega⟩)
      · refine ⟨fun c3 => ?_, fun c3 => ?_⟩
        · first
            | (exfalso; omega)
            | (refine ih _ _ _ _ (by omega) (by omega) (fr_up h3 (by decide)) h4 h5 (fun z a b => by rw [up3_nr (by decide)]; exact h6 z a b) (t _ ?_)
               first
                 | exact ⟨fun _ => ⟨by assumption, by assumption, by assumption⟩, fun _ => by decide⟩
                 | exact ⟨fun z => absurd rfl z, fun z => by obtain ⟨z1, z2, z3⟩ := z; first | contradiction | omega⟩)
        · refine ⟨fun c4 => ?_, fun c4 => ?_⟩
          · refine ⟨?_, ?_⟩
            · first | omega | (exfalso; omega)
            refine ⟨fun c5 => ?_, fun c5 => ?_⟩
            · first
                | (exfalso; omega)
                | (refine ih _ _ _ _ (by omega) (by omega) (fr_up h3 (by decide)) h4 h5 (fun z a b => by rw [up3_nr (by decide)]; exact h6 z a b) (t _ ?_)
                   first
                     | exact ⟨fun _ => ⟨by assumption, by assumption, by assumption⟩, fun _ => by decide⟩
                     | exact ⟨fun z => absurd rfl z, fun z => by obtain ⟨z1, z2, z3⟩ := z; first | contradiction | omega⟩)
            · first
                | (exfalso; omega)
                | (refine ih _ _ _ _ (by omega) (by omega) (fr_up h3 (by decide)) h4 h5 (fun z a b => by rw [up3_nr (by decide)]; exact h6 z a b) (t _ ?_)
                   first
                     | exact ⟨fun _ => ⟨by assumption, by assumption, by assumption⟩, fun _ => by decide⟩
                     | exact ⟨fun z => absurd rfl z, fun z => by obtain ⟨z1, z2, z3⟩ := z; first | contradiction | omega⟩)
          · refine ⟨fun c5 => ?_, fun c5 => ?_⟩
            · first
                | (exfalso; omega)
                | (refine ih _ _ _ _ (by omega) (by omega) (fr_up h3 (by decide)) h4 h5 (fun z a b => by rw [up3_nr (by decide)]; exact h6 z a b) (t _ ?_)
                   first
                     | exact ⟨fun _ => ⟨by assumption, by assumption, by assumption⟩, fun _ => by decide⟩
                     | exact ⟨fun z => absurd rfl z, fun z => by obtain ⟨z1, z2, z3⟩ := z; first | contradiction | omega⟩)
            · first
                | (exfalso; omega)
                | (refine ih _ _ _ _ (by omega) (by omega) (fr_up h3 (by decide)) h4 h5 (fun z a b => by rw [up3_nr (by decide)]; exact h6 z a b) (t _ ?_)
                   first
                     | exact ⟨fun _ => ⟨by assumption, by assumption, by assumption⟩, fun _ => by decide⟩
                     | exact ⟨fun z => absurd rfl z, fun z => by obtain ⟨z1, z2, z3⟩ := z; first | contradiction | omega⟩)
abbrev st1 (M : M3) (p : Int) : Int := if lsP M p then 3 else M 50 0 p
theorem lX12_list155 {E : E3} {Q : Q3} {M0 : M3} (hz : okS M0) (k : ∀ (N : M3), RM3 N → (∀ q : Nat, q ∉ ([50, 72, 73] : List Nat) → N q = M0 q) → (∀ z : Int, 0 ≤ z → z < 6 → N 72 0 z = mGi M0 z) → (∀ z : Int, N 50 0 z = if 0 ≤ z ∧ z < M0 44 0 1 then st1 M0 z else M0 50 0 z) → G3 E YX12_list Q 205 [(0, vR 44 0), (1, vI (mGn M0)), (2, vI 0), (3, vI 0)] [] N) : ∀ (n : Nat) (x3 x1 x2 : Int) (M : M3), 0 ≤ x3 → x3 + n = M0 44 0 1 → (∀ q : Nat, q ∉ ([50, 72, 73] : List Nat) → M q = M0 q) → x1 = cn3 x3 (fun p => decide (lsP M0 p)) → x2 = 0 → (∀ z : Int, 0 ≤ z → z < M0 44 0 1 → (M 73 0 z ≠ 0 ↔ lsP M0 z)) → (∀ z : Int, 0 ≤ z → z < 6 → M 72 0 z = cn3 x3 (fun p => decide (lsP M0 p ∧ M0 45 0 p = z))) → (∀ z : Int, M 50 0 z = if 0 ≤ z ∧ z < x3 then st1 M0 z else M0 50 0 z) → G3 E YX12_list Q 155 [(0, vR 44 0), (1, vI x1), (2, vI x2), (3, vI x3)] [] M := by
  intro n
  induction n with
  | zero =>
    intro x3 x1 x2 M h1 h2 h3 h4 h5 h6 h7 h8
    refine g3_rm fun hM => ?_
    have hz1 := hz.1
    have e44 : M 44 = M0 44 := h3 44 (by decide)
    have e45 : M 45 = M0 45 := h3 45 (by decide)
    refine sX12_list_155 ?_
    simp only [e44, e45]
    refine ⟨?_, ?_⟩
    · first | omega | (exfalso; omega)
    refine ⟨fun c1 => ?_, fun c1 => ?_⟩
    · first
        | (exfalso; omega)
        | (have ex : x3 = M0 44 0 1 := by omega
           rw [h5, h4, ex]
           rw [ex] at h7 h8
           exact k M hM h3 h7 h8)
    · refine ⟨?_, ?_⟩
      · first | omega | (exfalso; omega)
      refine ⟨fun c2 => ?_, fun c2 => ?_⟩
      · first
          | (exfalso; omega)
          | (have ex : x3 = M0 44 0 1 := by omega
             rw [h5, h4, ex]
             rw [ex] at h7 h8
             exact k M hM h3 h7 h8)
      · refine ⟨?_, ?_, ?_⟩
        · first | omega | (exfalso; omega)
        · first | omega | (exfalso; omega)
        first
          | (exfalso; omega)
          | (have ex : x3 = M0 44 0 1 := by omega
             rw [h5, h4, ex]
             rw [ex] at h7 h8
             exact k M hM h3 h7 h8)
  | succ n ih =>
    intro x3 x1 x2 M h1 h2 h3 h4 h5 h6 h7 h8
    refine g3_rm fun hM => ?_
    have hz1 := hz.1
    have e44 : M 44 = M0 44 := h3 44 (by decide)
    have e45 : M 45 = M0 45 := h3 45 (by decide)
    obtain ⟨w1, w2, w3⟩ := hz.2.2 x3 h1 (by omega)
    have e7 := h7 (M0 45 0 x3) w1.1 (by omega)
    have r7 := cn3_rg h1 (fun p => decide (lsP M0 p ∧ M0 45 0 p = M0 45 0 x3))
    refine sX12_list_155 ?_
    simp only [e44, e45]
    refine ⟨?_, ?_⟩
    · first | omega | (exfalso; omega)
    refine ⟨fun c1 => ?_, fun c1 => ?_⟩
    · first
        | (have hP : lsP M0 x3 := (h6 x3 h1 (by omega)).mp (by assumption)
           refine ih _ _ _ _ (by omega) (by omega) (fr_up (fr_up h3 (by decide)) (by decide)) (by rw [cn3_t h1 (decide_eq_true hP), h4]) h5 (fun z a b => by rw [up3_nr (by decide), up3_nr (by decide)]; exact h6 z a b) (fun z a b => ?_) (fun z => ?_)
           · by_cases e : z = M0 45 0 x3
             · rw [e, up3_eq, cn3_t h1 (decide_eq_true ⟨hP, rfl⟩), e7]
             · rw [up3_nj e, up3_nr (by decide), h7 z a b, cn3_f h1 (decide_eq_false fun y => e y.2.symm)]
           · rw [up3_nr (by decide)]
             by_cases e : z = x3
             · rw [e, up3_eq, if_pos (by omega)]; exact (if_pos hP).symm
             · rw [up3_nj e, h8 z]
               by_cases q : 0 ≤ z ∧ z < x3
               · rw [if_pos q, if_pos (by omega)]
               · rw [if_neg q, if_neg (by omega)])
        | (have hP : ¬ lsP M0 x3 := fun z => (h6 x3 h1 (by omega)).mpr z (by assumption)
           refine ih _ _ _ _ (by omega) (by omega) h3 (by rw [cn3_f h1 (decide_eq_false hP), h4]) h5 h6 (fun z a b => ?_) (fun z => ?_)
           · rw [h7 z a b, cn3_f h1 (decide_eq_false fun y => hP y.1)]
           · rw [h8 z]
             by_cases e : z = x3
             · rw [e, if_neg (by omega), if_pos (by omega)]; exact (if_neg hP).symm
             · by_cases q : 0 ≤ z ∧ z < x3
               · rw [if_pos q, if_pos (by omega)]
               · rw [if_neg q, if_neg (by omega)])
        | (exfalso; omega)
    · refine ⟨?_, ?_⟩
      · first | omega | (exfalso; omega)
      refine ⟨fun c2 => ?_, fun c2 => ?_⟩
      · first
          | (have hP : lsP M0 x3 := (h6 x3 h1 (by omega)).mp (by assumption)
             refine ih _ _ _ _ (by omega) (by omega) (fr_up (fr_up h3 (by decide)) (by decide)) (by rw [cn3_t h1 (decide_eq_true hP), h4]) h5 (fun z a b => by rw [up3_nr (by decide), up3_nr (by decide)]; exact h6 z a b) (fun z a b => ?_) (fun z => ?_)
             · by_cases e : z = M0 45 0 x3
               · rw [e, up3_eq, cn3_t h1 (decide_eq_true ⟨hP, rfl⟩), e7]
               · rw [up3_nj e, up3_nr (by decide), h7 z a b, cn3_f h1 (decide_eq_false fun y => e y.2.symm)]
             · rw [up3_nr (by decide)]
               by_cases e : z = x3
               · rw [e, up3_eq, if_pos (by omega)]; exact (if_pos hP).symm
               · rw [up3_nj e, h8 z]
                 by_cases q : 0 ≤ z ∧ z < x3
                 · rw [if_pos q, if_pos (by omega)]
                 · rw [if_neg q, if_neg (by omega)])
          | (have hP : ¬ lsP M0 x3 := fun z => (h6 x3 h1 (by omega)).mpr z (by assumption)
             refine ih _ _ _ _ (by omega) (by omega) h3 (by rw [cn3_f h1 (decide_eq_false hP), h4]) h5 h6 (fun z a b => ?_) (fun z => ?_)
             · rw [h7 z a b, cn3_f h1 (decide_eq_false fun y => hP y.1)]
             · rw [h8 z]
               by_cases e : z = x3
               · rw [e, if_neg (by omega), if_pos (by omega)]; exact (if_neg hP).symm
               · by_cases q : 0 ≤ z ∧ z < x3
                 · rw [if_pos q, if_pos (by omega)]
                 · rw [if_neg q, if_neg (by omega)])
          | (exfalso; omega)
      · refine ⟨?_, ?_, ?_⟩
        · first | omega | (exfalso; omega)
        · first | omega | (exfalso; omega)
        first
          | (have hP : lsP M0 x3 := (h6 x3 h1 (by omega)).mp (by assumption)
             refine ih _ _ _ _ (by omega) (by omega) (fr_up (fr_up h3 (by decide)) (by decide)) (by rw [cn3_t h1 (decide_eq_true hP), h4]) h5 (fun z a b => by rw [up3_nr (by decide), up3_nr (by decide)]; exact h6 z a b) (fun z a b => ?_) (fun z => ?_)
             · by_cases e : z = M0 45 0 x3
               · rw [e, up3_eq, cn3_t h1 (decide_eq_true ⟨hP, rfl⟩), e7]
               · rw [up3_nj e, up3_nr (by decide), h7 z a b, cn3_f h1 (decide_eq_false fun y => e y.2.symm)]
             · rw [up3_nr (by decide)]
               by_cases e : z = x3
               · rw [e, up3_eq, if_pos (by omega)]; exact (if_pos hP).symm
               · rw [up3_nj e, h8 z]
                 by_cases q : 0 ≤ z ∧ z < x3
                 · rw [if_pos q, if_pos (by omega)]
                 · rw [if_neg q, if_neg (by omega)])
          | (have hP : ¬ lsP M0 x3 := fun z => (h6 x3 h1 (by omega)).mpr z (by assumption)
             refine ih _ _ _ _ (by omega) (by omega) h3 (by rw [cn3_f h1 (decide_eq_false hP), h4]) h5 h6 (fun z a b => ?_) (fun z => ?_)
             · rw [h7 z a b, cn3_f h1 (decide_eq_false fun y => hP y.1)]
             · rw [h8 z]
               by_cases e : z = x3
               · rw [e, if_neg (by omega), if_pos (by omega)]; exact (if_neg hP).symm
               · by_cases q : 0 ≤ z ∧ z < x3
                 · rw [if_pos q, if_pos (by omega)]
                 · rw [if_neg q, if_neg (by omega)])
          | (exfalso; omega)
theorem lX12_list205 {E : E3} {Q : Q3} {M0 : M3} {x1 : Int} (hz : okS M0) (hl : M0 44 0 39 < 30) (k : ∀ (N : M3), RM3 N → (∀ q : Nat, q ∉ ([44, 48, 50, 71, 72, 73] : List Nat) → N q = M0 q) → (∀ j : Int, j ≠ 39 → N 44 0 j = M0 44 0 j) → N 44 0 39 = M0 44 0 39 + 1 → (∀ p : Int, 0 ≤ p → p < M0 44 0 1 → N 50 0 p = nSt M0 p ∧ N 48 0 p = nFe M0 p) → (∀ p : Int, ¬ (0 ≤ p ∧ p < M0 44 0 1) → N 50 0 p = M0 50 0 p ∧ N 48 0 p = M0 48 0 p) → N 71 0 (4 * M0 44 0 39 + 2) = mGn M0 → N 71 0 (4 * M0 44 0 39 + 3) = mSk M0 → (∀ j : Int, j ≠ 4 * M0 44 0 39 + 2 → j ≠ 4 * M0 44 0 39 + 3 → N 71 0 j = M0 71 0 j) → Q (some (vI (mGn M0))) N) : ∀ (n : Nat) (x3 x2 : Int) (M : M3), 0 ≤ x3 → x3 + n = M0 44 0 1 → (∀ q : Nat, q ∉ ([48, 50, 72, 73] : List Nat) → M q = M0 q) → x1 = mGn M0 → x2 = cn3 x3 (fun p => decide (skP M0 p)) → (∀ z : Int, 0 ≤ z → z < 6 → M 72 0 z = mGi M0 z) → (∀ z : Int, M 50 0 z = if 0 ≤ z ∧ z < x3 then nSt M0 z else if 0 ≤ z ∧ z < M0 44 0 1 then st1 M0 z else M0 50 0 z) → (∀ z : Int, M 48 0 z = if 0 ≤ z ∧ z < x3 then nFe M0 z else M0 48 0 z) → G3 E YX12_list Q 205 [(0, vR 44 0), (1, vI x1), (2, vI x2), (3, vI x3)] [] M := by
  intro n
  induction n with
  | zero =>
    intro x3 x2 M h1 h2 h3 h4 h5 h6 h7 h8
    refine g3_rm fun hM => ?_
    obtain ⟨hz1, hz2, hz3⟩ := hz
    have e44 : M 44 = M0 44 := h3 44 (by decide)
    have e45 : M 45 = M0 45 := h3 45 (by decide)
    have rg : -2147483648 ≤ mGn M0 ∧ mGn M0 ≤ 2147483647 := by
      have := cn3_rg hz1.1 (fun p => decide (lsP M0 p))
      unfold mGn
      omega
    have rs := cn3_rg h1 (fun p => decide (skP M0 p))
    refine sX12_list_205 ?_
    simp only [e44, e45]
    refine ⟨?_, ?_⟩
    · first | omega | (rcases hst with hst | hst <;> omega) | (exfalso; omega)
    refine ⟨fun c1 => ?_, fun c1 => ?_⟩
    · refine ⟨?_, ?_, ?_, ?_, ?_, ?_⟩
      · first | omega | (rcases hst with hst | hst <;> omega) | (exfalso; omega)
      · first | omega | (rcases hst with hst | hst <;> omega) | (exfalso; omega)
      · first | omega | (rcases hst with hst | hst <;> omega) | (exfalso; omega)
      · first | omega | (rcases hst with hst | hst <;> omega) | (exfalso; omega)
      · first | omega | (rcases hst with hst | hst <;> omega) | (exfalso; omega)
      first
        | (exfalso; omega)
        | (have ex : x3 = M0 44 0 1 := by omega
           rw [ex] at h5 h7 h8 rs
           rw [h4, h5]
           refine k _ (((hM.up (by omega)).up (by omega)).up (by omega)) (fr_up (fr_up (fr_up (fr_sub h3 (by decide)) (by decide)) (by decide)) (by decide)) (fun j a => by rw [up3_nj a, up3_nr (by decide), up3_nr (by decide), e44]) up3_eq (fun p a b => ⟨by rw [up3_nr (by decide), up3_nr (by decide), up3_nr (by decide), h7 p, if_pos ⟨a, b⟩], by rw [up3_nr (by decide), up3_nr (by decide), up3_nr (by decide), h8 p, if_pos ⟨a, b⟩]⟩) (fun p a => ⟨by rw [up3_nr (by decide), up3_nr (by decide), up3_nr (by decide), h7 p, if_neg a, if_neg a], by rw [up3_nr (by decide), up3_nr (by decide), up3_nr (by decide), h8 p, if_neg a]⟩) (by rw [up3_nr (by decide), up3_nj (by omega), up3_eq]) (by rw [up3_nr (by decide), up3_eq]; rfl) (fun j a b => by rw [up3_nr (by decide), up3_nj b, up3_nj a, h3 71 (by decide)]))
    · refine ⟨?_, ?_, ?_⟩
      · first | omega | (rcases hst with hst | hst <;> omega) | (exfalso; omega)
      · first | omega | (rcases hst with hst | hst <;> omega) | (exfalso; omega)
      refine ⟨fun c2 => ?_, fun c2 => ?_⟩
      · exfalso; omega
      · refine ⟨fun c3 => ?_, fun c3 => ?_⟩
        · exfalso; omega
        · refine ⟨fun c4 => ?_, fun c4 => ?_⟩
          · refine ⟨fun c5 => ?_, fun c5 => ?_⟩
            · refine ⟨?_, ?_⟩
              · first | omega | (rcases hst with hst | hst <;> omega) | (exfalso; omega)
              exfalso; omega
            · refine ⟨?_, ?_⟩
              · first | omega | (rcases hst with hst | hst <;> omega) | (exfalso; omega)
              exfalso; omega
          · refine ⟨?_, ?_⟩
            · first | omega | (rcases hst with hst | hst <;> omega) | (exfalso; omega)
            refine ⟨fun c5 => ?_, fun c5 => ?_⟩
            · refine ⟨fun c6 => ?_, fun c6 => ?_⟩
              · refine ⟨?_, ?_⟩
                · first | omega | (rcases hst with hst | hst <;> omega) | (exfalso; omega)
                exfalso; omega
              · refine ⟨?_, ?_⟩
                · first | omega | (rcases hst with hst | hst <;> omega) | (exfalso; omega)
                exfalso; omega
            · refine ⟨fun c6 => ?_, fun c6 => ?_⟩
              · refine ⟨?_, ?_⟩
                · first | omega | (rcases hst with hst | hst <;> omega) | (exfalso; omega)
                exfalso; omega
              · refine ⟨?_, ?_⟩
                · first | omega | (rcases hst with hst | hst <;> omega) | (exfalso; omega)
                exfalso; omega
  | succ n ih =>
    intro x3 x2 M h1 h2 h3 h4 h5 h6 h7 h8
    refine g3_rm fun hM => ?_
    obtain ⟨hz1, hz2, hz3⟩ := hz
    have e44 : M 44 = M0 44 := h3 44 (by decide)
    have e45 : M 45 = M0 45 := h3 45 (by decide)
    have rg : -2147483648 ≤ mGn M0 ∧ mGn M0 ≤ 2147483647 := by
      have := cn3_rg hz1.1 (fun p => decide (lsP M0 p))
      unfold mGn
      omega
    have rs := cn3_rg h1 (fun p => decide (skP M0 p))
    obtain ⟨w1, w2, w3⟩ := hz3 x3 h1 (by omega)
    have e7 := h6 (M0 45 0 x3) w1.1 (by omega)
    have r7 := mGi_rg hz1 (M0 45 0 x3)
    have e50 : M 50 0 x3 = st1 M0 x3 := by rw [h7 x3, if_neg (by omega), if_pos (by omega)]
    have e48 : M 48 0 x3 = M0 48 0 x3 := by rw [h8 x3, if_neg (by omega)]
    have hst : (lsP M0 x3 ∧ st1 M0 x3 = 3) ∨ (¬ lsP M0 x3 ∧ st1 M0 x3 = M0 50 0 x3) := by
      by_cases q : lsP M0 x3
      · exact Or.inl ⟨q, if_pos q⟩
      · exact Or.inr ⟨q, if_neg q⟩
    have step : ∀ (N : M3) (y : Int), (∀ q : Nat, q ∉ ([48, 50, 72, 73] : List Nat) → N q = M0 q) → y = x2 + (if skP M0 x3 then 1 else 0) → (∀ z : Int, N 72 0 z = M 72 0 z) → (∀ z : Int, N 50 0 z = if z = x3 then nSt M0 z else M 50 0 z) → (∀ z : Int, N 48 0 z = if z = x3 then nFe M0 z else M 48 0 z) → G3 E YX12_list Q 205 [(0, vR 44 0), (1, vI x1), (2, vI y), (3, vI (x3 + 1))] [] N := fun N y f1 f2 f3 f4 f5 => by
      refine ih _ _ _ (by omega) (by omega) f1 h4 ?_ (fun z a b => by rw [f3]; exact h6 z a b) (fun z => ?_) (fun z => ?_)
      · rw [cn3_s h1, f2, h5]
        congr 1
        by_cases q : skP M0 x3
        · rw [if_pos q, if_pos (decide_eq_true q)]
        · rw [if_neg q, if_neg (fun y => q (of_decide_eq_true y))]
      · rw [f4 z]
        by_cases e : z = x3
        · rw [if_pos e, if_pos (by omega)]
        · rw [if_neg e, h7 z]
          by_cases q : 0 ≤ z ∧ z < x3
          · rw [if_pos q, if_pos (by omega)]
          · rw [if_neg q, if_neg (show ¬ (0 ≤ z ∧ z < x3 + 1) by omega)]
      · rw [f5 z]
        by_cases e : z = x3
        · rw [if_pos e, if_pos (by omega)]
        · rw [if_neg e, h8 z]
          by_cases q : 0 ≤ z ∧ z < x3
          · rw [if_pos q, if_pos (by omega)]
          · rw [if_neg q, if_neg (show ¬ (0 ≤ z ∧ z < x3 + 1) by omega)]
    have w50 : ∀ (v w : Int), v = nSt M0 x3 → ∀ z : Int, up3 (up3 M 50 0 x3 v) 48 0 x3 w 50 0 z = if z = x3 then nSt M0 z else M 50 0 z := fun v w hv z => by
      rw [up3_nr (by decide)]
      by_cases e : z = x3
      · rw [if_pos e, e, up3_eq, hv]
      · rw [if_neg e, up3_nj e]
    have w48 : ∀ (v w : Int), w = nFe M0 x3 → ∀ z : Int, up3 (up3 M 50 0 x3 v) 48 0 x3 w 48 0 z = if z = x3 then nFe M0 z else M 48 0 z := fun v w hv z => by
      by_cases e : z = x3
      · rw [if_pos e, e, up3_eq, hv]
      · rw [if_neg e, up3_nj e, up3_nr (by decide)]
    have nn : nSt M0 x3 = M 50 0 x3 → nFe M0 x3 = M 48 0 x3 → (∀ z : Int, M 50 0 z = if z = x3 then nSt M0 z else M 50 0 z) ∧ (∀ z : Int, M 48 0 z = if z = x3 then nFe M0 z else M 48 0 z) := fun a b => ⟨fun z => by
      by_cases e : z = x3
      · rw [if_pos e, e, a]
      · rw [if_neg e], fun z => by
      by_cases e : z = x3
      · rw [if_pos e, e, b]
      · rw [if_neg e]⟩

    refine sX12_list_205 ?_
    simp only [e44, e45]
    rw [e7, e50, e48]
    refine ⟨?_, ?_⟩
    · first | omega | (rcases hst with hst | hst <;> omega) | (exfalso; omega)
    refine ⟨fun c1 => ?_, fun c1 => ?_⟩
    · refine ⟨?_, ?_, ?_, ?_, ?_, ?_⟩
      · first | omega | (rcases hst with hst | hst <;> omega) | (exfalso; omega)
      · first | omega | (rcases hst with hst | hst <;> omega) | (exfalso; omega)
      · first | omega | (rcases hst with hst | hst <;> omega) | (exfalso; omega)
      · first | omega | (rcases hst with hst | hst <;> omega) | (exfalso; omega)
      · first | omega | (rcases hst with hst | hst <;> omega) | (exfalso; omega)
      exfalso; omega
    · refine ⟨?_, ?_, ?_⟩
      · first | omega | (rcases hst with hst | hst <;> omega) | (exfalso; omega)
      · first | omega | (rcases hst with hst | hst <;> omega) | (exfalso; omega)
      refine ⟨fun c2 => ?_, fun c2 => ?_⟩
      · first
          | (exfalso; omega)
          | (rcases hst with ⟨q, e⟩ | ⟨q, e⟩
             · exfalso; omega
             · have hs : sgP M0 x3 := ⟨q, by omega, by omega⟩
               first
                 | (have hk : skP M0 x3 := ⟨hs, by omega, by omega⟩
                    refine step _ _ (fr_up (fr_up h3 (by decide)) (by decide)) (by rw [if_pos hk]) (fun z => by rw [up3_nr (by decide), up3_nr (by decide)]) (w50 _ _ ?_) (w48 _ _ ?_)
                    · rw [nSt, if_neg q, if_pos hk]
                    · first | (rw [nFe, if_pos ⟨hs, by omega⟩]) | (rw [nFe, if_neg (fun z => by omega)]; omega))
                 | (have hk : ¬ skP M0 x3 := fun z => by have := z.2; omega
                    refine step _ _ (fr_up (fr_up h3 (by decide)) (by decide)) (by rw [if_neg hk]) (fun z => by rw [up3_nr (by decide), up3_nr (by decide)]) (w50 _ _ ?_) (w48 _ _ ?_)
                    · rw [nSt, if_neg q, if_neg hk]; first | rfl | exact e
                    · first | (rw [nFe, if_pos ⟨hs, by omega⟩]) | (rw [nFe, if_neg (fun z => by omega)]; omega)))
          | (have hs : ¬ sgP M0 x3 := fun z => by
               obtain ⟨z1, z2, z3⟩ := z
               rcases hst with ⟨q, e⟩ | ⟨q, e⟩
               · exact z1 q
               · omega
             have hk : ¬ skP M0 x3 := fun z => hs z.1
             have a1 : nSt M0 x3 = M 50 0 x3 := by
               rw [e50, nSt]
               by_cases q : lsP M0 x3
               · rw [if_pos q]; exact (if_pos q).symm
               · rw [if_neg q, if_neg hk]; exact (if_neg q).symm
             have a2 : nFe M0 x3 = M 48 0 x3 := by rw [e48, nFe, if_neg (fun z => hs z.1)]
             exact step M _ h3 (by rw [if_neg hk]; omega) (fun z => rfl) (nn a1 a2).1 (nn a1 a2).2)
      · refine ⟨fun c3 => ?_, fun c3 => ?_⟩
        · first
            | (exfalso; omega)
            | (rcases hst with ⟨q, e⟩ | ⟨q, e⟩
               · exfalso; omega
               · have hs : sgP M0 x3 := ⟨q, by omega, by omega⟩
                 first
                   | (have hk : skP M0 x3 := ⟨hs, by omega, by omega⟩
                      refine step _ _ (fr_up (fr_up h3 (by decide)) (by decide)) (by rw [if_pos hk]) (fun z => by rw [up3_nr (by decide), up3_nr (by decide)]) (w50 _ _ ?_) (w48 _ _ ?_)
                      · rw [nSt, if_neg q, if_pos hk]
                      · first | (rw [nFe, if_pos ⟨hs, by omega⟩]) | (rw [nFe, if_neg (fun z => by omega)]; omega))
                   | (have hk : ¬ skP M0 x3 := fun z => by have := z.2; omega
                      refine step _ _ (fr_up (fr_up h3 (by decide)) (by decide)) (by rw [if_neg hk]) (fun z => by rw [up3_nr (by decide), up3_nr (by decide)]) (w50 _ _ ?_) (w48 _ _ ?_)
                      · rw [nSt, if_neg q, if_neg hk]; first | rfl | exact e
                      · first | (rw [nFe, if_pos ⟨hs, by omega⟩]) | (rw [nFe, if_neg (fun z => by omega)]; omega)))
            | (have hs : ¬ sgP M0 x3 := fun z => by
                 obtain ⟨z1, z2, z3⟩ := z
                 rcases hst with ⟨q, e⟩ | ⟨q, e⟩
                 · exact z1 q
                 · omega
               have hk : ¬ skP M0 x3 := fun z => hs z.1
               have a1 : nSt M0 x3 = M 50 0 x3 := by
                 rw [e50, nSt]
                 by_cases q : lsP M0 x3
                 · rw [if_pos q]; exact (if_pos q).symm
                 · rw [if_neg q, if_neg hk]; exact (if_neg q).symm
               have a2 : nFe M0 x3 = M 48 0 x3 := by rw [e48, nFe, if_neg (fun z => hs z.1)]
               exact step M _ h3 (by rw [if_neg hk]; omega) (fun z => rfl) (nn a1 a2).1 (nn a1 a2).2)
        · refine ⟨fun c4 => ?_, fun c4 => ?_⟩
          · refine ⟨fun c5 => ?_, fun c5 => ?_⟩
            · refine ⟨?_, ?_⟩
              · first | omega | (rcases hst with hst | hst <;> omega) | (exfalso; omega)
              first
                | (exfalso; omega)
                | (rcases hst with ⟨q, e⟩ | ⟨q, e⟩
                   · exfalso; omega
                   · have hs : sgP M0 x3 := ⟨q, by omega, by omega⟩
                     first
                       | (have hk : skP M0 x3 := ⟨hs, by omega, by omega⟩
                          refine step _ _ (fr_up (fr_up h3 (by decide)) (by decide)) (by rw [if_pos hk]) (fun z => by rw [up3_nr (by decide), up3_nr (by decide)]) (w50 _ _ ?_) (w48 _ _ ?_)
                          · rw [nSt, if_neg q, if_pos hk]
                          · first | (rw [nFe, if_pos ⟨hs, by omega⟩]) | (rw [nFe, if_neg (fun z => by omega)]; omega))
                       | (have hk : ¬ skP M0 x3 := fun z => by have := z.2; omega
                          refine step _ _ (fr_up (fr_up h3 (by decide)) (by decide)) (by rw [if_neg hk]) (fun z => by rw [up3_nr (by decide), up3_nr (by decide)]) (w50 _ _ ?_) (w48 _ _ ?_)
                          · rw [nSt, if_neg q, if_neg hk]; first | rfl | exact e
                          · first | (rw [nFe, if_pos ⟨hs, by omega⟩]) | (rw [nFe, if_neg (fun z => by omega)]; omega)))
                | (have hs : ¬ sgP M0 x3 := fun z => by
                     obtain ⟨z1, z2, z3⟩ := z
                     rcases hst with ⟨q, e⟩ | ⟨q, e⟩
                     · exact z1 q
                     · omega
                   have hk : ¬ skP M0 x3 := fun z => hs z.1
                   have a1 : nSt M0 x3 = M 50 0 x3 := by
                     rw [e50, nSt]
                     by_cases q : lsP M0 x3
                     · rw [if_pos q]; exact (if_pos q).symm
                     · rw [if_neg q, if_neg hk]; exact (if_neg q).symm
                   have a2 : nFe M0 x3 = M 48 0 x3 := by rw [e48, nFe, if_neg (fun z => hs z.1)]
                   exact step M _ h3 (by rw [if_neg hk]; omega) (fun z => rfl) (nn a1 a2).1 (nn a1 a2).2)
            · refine ⟨?_, ?_⟩
              · first | omega | (rcases hst with hst | hst <;> omega) | (exfalso; omega)
              first
                | (exfalso; omega)
                | (rcases hst with ⟨q, e⟩ | ⟨q, e⟩
                   · exfalso; omega
                   · have hs : sgP M0 x3 := ⟨q, by omega, by omega⟩
                     first
                       | (have hk : skP M0 x3 := ⟨hs, by omega, by omega⟩
                          refine step _ _ (fr_up (fr_up h3 (by decide)) (by decide)) (by rw [if_pos hk]) (fun z => by rw [up3_nr (by decide), up3_nr (by decide)]) (w50 _ _ ?_) (w48 _ _ ?_)
                          · rw [nSt, if_neg q, if_pos hk]
                          · first | (rw [nFe, if_pos ⟨hs, by omega⟩]) | (rw [nFe, if_neg (fun z => by omega)]; omega))
                       | (have hk : ¬ skP M0 x3 := fun z => by have := z.2; omega
                          refine step _ _ (fr_up (fr_up h3 (by decide)) (by decide)) (by rw [if_neg hk]) (fun z => by rw [up3_nr (by decide), up3_nr (by decide)]) (w50 _ _ ?_) (w48 _ _ ?_)
                          · rw [nSt, if_neg q, if_neg hk]; first | rfl | exact e
                          · first | (rw [nFe, if_pos ⟨hs, by omega⟩]) | (rw [nFe, if_neg (fun z => by omega)]; omega)))
                | (have hs : ¬ sgP M0 x3 := fun z => by
                     obtain ⟨z1, z2, z3⟩ := z
                     rcases hst with ⟨q, e⟩ | ⟨q, e⟩
                     · exact z1 q
                     · omega
                   have hk : ¬ skP M0 x3 := fun z => hs z.1
                   have a1 : nSt M0 x3 = M 50 0 x3 := by
                     rw [e50, nSt]
                     by_cases q : lsP M0 x3
                     · rw [if_pos q]; exact (if_pos q).symm
                     · rw [if_neg q, if_neg hk]; exact (if_neg q).symm
                   have a2 : nFe M0 x3 = M 48 0 x3 := by rw [e48, nFe, if_neg (fun z => hs z.1)]
                   exact step M _ h3 (by rw [if_neg hk]; omega) (fun z => rfl) (nn a1 a2).1 (nn a1 a2).2)
          · refine ⟨?_, ?_⟩
            · first | omega | (rcases hst with hst | hst <;> omega) | (exfalso; omega)
            refine ⟨fun c5 => ?_, fun c5 => ?_⟩
            · refine ⟨fun c6 => ?_, fun c6 => ?_⟩
              · refine ⟨?_, ?_⟩
                · first | omega | (rcases hst with hst | hst <;> omega) | (exfalso; omega)
                first
                  | (exfalso; omega)
                  | (rcases hst with ⟨q, e⟩ | ⟨q, e⟩
                     · exfalso; omega
                     · have hs : sgP M0 x3 := ⟨q, by omega, by omega⟩
                       first
                         | (have hk : skP M0 x3 := ⟨hs, by omega, by omega⟩
                            refine step _ _ (fr_up (fr_up h3 (by decide)) (by decide)) (by rw [if_pos hk]) (fun z => by rw [up3_nr (by decide), up3_nr (by decide)]) (w50 _ _ ?_) (w48 _ _ ?_)
                            · rw [nSt, if_neg q, if_pos hk]
                            · first | (rw [nFe, if_pos ⟨hs, by omega⟩]) | (rw [nFe, if_neg (fun z => by omega)]; omega))
                         | (have hk : ¬ skP M0 x3 := fun z => by have := z.2; omega
                            refine step _ _ (fr_up (fr_up h3 (by decide)) (by decide)) (by rw [if_neg hk]) (fun z => by rw [up3_nr (by decide), up3_nr (by decide)]) (w50 _ _ ?_) (w48 _ _ ?_)
                            · rw [nSt, if_neg q, if_neg hk]; first | rfl | exact e
                            · first | (rw [nFe, if_pos ⟨hs, by omega⟩]) | (rw [nFe, if_neg (fun z => by omega)]; omega)))
                  | (have hs : ¬ sgP M0 x3 := fun z => by
                       obtain ⟨z1, z2, z3⟩ := z
                       rcases hst with ⟨q, e⟩ | ⟨q, e⟩
                       · exact z1 q
                       · omega
                     have hk : ¬ skP M0 x3 := fun z => hs z.1
                     have a1 : nSt M0 x3 = M 50 0 x3 := by
                       rw [e50, nSt]
                       by_cases q : lsP M0 x3
                       · rw [if_pos q]; exact (if_pos q).symm
                       · rw [if_neg q, if_neg hk]; exact (if_neg q).symm
                     have a2 : nFe M0 x3 = M 48 0 x3 := by rw [e48, nFe, if_neg (fun z => hs z.1)]
                     exact step M _ h3 (by rw [if_neg hk]; omega) (fun z => rfl) (nn a1 a2).1 (nn a1 a2).2)
              · refine ⟨?_, ?_⟩
                · first | omega | (rcases hst with hst | hst <;> omega) | (exfalso; omega)
                first
                  | (exfalso; omega)
                  | (rcases hst with ⟨q, e⟩ | ⟨q, e⟩
                     · exfalso; omega
                     · have hs : sgP M0 x3 := ⟨q, by omega, by omega⟩
                       first
                         | (have hk : skP M0 x3 := ⟨hs, by omega, by omega⟩
                            refine step _ _ (fr_up (fr_up h3 (by decide)) (by decide)) (by rw [if_pos hk]) (fun z => by rw [up3_nr (by decide), up3_nr (by decide)]) (w50 _ _ ?_) (w48 _ _ ?_)
                            · rw [nSt, if_neg q, if_pos hk]
                            · first | (rw [nFe, if_pos ⟨hs, by omega⟩]) | (rw [nFe, if_neg (fun z => by omega)]; omega))
                         | (have hk : ¬ skP M0 x3 := fun z => by have := z.2; omega
                            refine step _ _ (fr_up (fr_up h3 (by decide)) (by decide)) (by rw [if_neg hk]) (fun z => by rw [up3_nr (by decide), up3_nr (by decide)]) (w50 _ _ ?_) (w48 _ _ ?_)
                            · rw [nSt, if_neg q, if_neg hk]; first | rfl | exact e
                            · first | (rw [nFe, if_pos ⟨hs, by omega⟩]) | (rw [nFe, if_neg (fun z => by omega)]; omega)))
                  | (have hs : ¬ sgP M0 x3 := fun z => by
                       obtain ⟨z1, z2, z3⟩ := z
                       rcases hst with ⟨q, e⟩ | ⟨q, e⟩
                       · exact z1 q
                       · omega
                     have hk : ¬ skP M0 x3 := fun z => hs z.1
                     have a1 : nSt M0 x3 = M 50 0 x3 := by
                       rw [e50, nSt]
                       by_cases q : lsP M0 x3
                       · rw [if_pos q]; exact (if_pos q).symm
                       · rw [if_neg q, if_neg hk]; exact (if_neg q).symm
                     have a2 : nFe M0 x3 = M 48 0 x3 := by rw [e48, nFe, if_neg (fun z => hs z.1)]
                     exact step M _ h3 (by rw [if_neg hk]; omega) (fun z => rfl) (nn a1 a2).1 (nn a1 a2).2)
            · refine ⟨fun c6 => ?_, fun c6 => ?_⟩
              · refine ⟨?_, ?_⟩
                · first | omega | (rcases hst with hst | hst <;> omega) | (exfalso; omega)
                first
                  | (exfalso; omega)
                  | (rcases hst with ⟨q, e⟩ | ⟨q, e⟩
                     · exfalso; omega
                     · have hs : sgP M0 x3 := ⟨q, by omega, by omega⟩
                       first
                         | (have hk : skP M0 x3 := ⟨hs, by omega, by omega⟩
                            refine step _ _ (fr_up (fr_up h3 (by decide)) (by decide)) (by rw [if_pos hk]) (fun z => by rw [up3_nr (by decide), up3_nr (by decide)]) (w50 _ _ ?_) (w48 _ _ ?_)
                            · rw [nSt, if_neg q, if_pos hk]
                            · first | (rw [nFe, if_pos ⟨hs, by omega⟩]) | (rw [nFe, if_neg (fun z => by omega)]; omega))
                         | (have hk : ¬ skP M0 x3 := fun z => by have := z.2; omega
                            refine step _ _ (fr_up (fr_up h3 (by decide)) (by decide)) (by rw [if_neg hk]) (fun z => by rw [up3_nr (by decide), up3_nr (by decide)]) (w50 _ _ ?_) (w48 _ _ ?_)
                            · rw [nSt, if_neg q, if_neg hk]; first | rfl | exact e
                            · first | (rw [nFe, if_pos ⟨hs, by omega⟩]) | (rw [nFe, if_neg (fun z => by omega)]; omega)))
                  | (have hs : ¬ sgP M0 x3 := fun z => by
                       obtain ⟨z1, z2, z3⟩ := z
                       rcases hst with ⟨q, e⟩ | ⟨q, e⟩
                       · exact z1 q
                       · omega
                     have hk : ¬ skP M0 x3 := fun z => hs z.1
                     have a1 : nSt M0 x3 = M 50 0 x3 := by
                       rw [e50, nSt]
                       by_cases q : lsP M0 x3
                       · rw [if_pos q]; exact (if_pos q).symm
                       · rw [if_neg q, if_neg hk]; exact (if_neg q).symm
                     have a2 : nFe M0 x3 = M 48 0 x3 := by rw [e48, nFe, if_neg (fun z => hs z.1)]
                     exact step M _ h3 (by rw [if_neg hk]; omega) (fun z => rfl) (nn a1 a2).1 (nn a1 a2).2)
              · refine ⟨?_, ?_⟩
                · first | omega | (rcases hst with hst | hst <;> omega) | (exfalso; omega)
                first
                  | (exfalso; omega)
                  | (rcases hst with ⟨q, e⟩ | ⟨q, e⟩
                     · exfalso; omega
                     · have hs : sgP M0 x3 := ⟨q, by omega, by omega⟩
                       first
                         | (have hk : skP M0 x3 := ⟨hs, by omega, by omega⟩
                            refine step _ _ (fr_up (fr_up h3 (by decide)) (by decide)) (by rw [if_pos hk]) (fun z => by rw [up3_nr (by decide), up3_nr (by decide)]) (w50 _ _ ?_) (w48 _ _ ?_)
                            · rw [nSt, if_neg q, if_pos hk]
                            · first | (rw [nFe, if_pos ⟨hs, by omega⟩]) | (rw [nFe, if_neg (fun z => by omega)]; omega))
                         | (have hk : ¬ skP M0 x3 := fun z => by have := z.2; omega
                            refine step _ _ (fr_up (fr_up h3 (by decide)) (by decide)) (by rw [if_neg hk]) (fun z => by rw [up3_nr (by decide), up3_nr (by decide)]) (w50 _ _ ?_) (w48 _ _ ?_)
                            · rw [nSt, if_neg q, if_neg hk]; first | rfl | exact e
                            · first | (rw [nFe, if_pos ⟨hs, by omega⟩]) | (rw [nFe, if_neg (fun z => by omega)]; omega)))
                  | (have hs : ¬ sgP M0 x3 := fun z => by
                       obtain ⟨z1, z2, z3⟩ := z
                       rcases hst with ⟨q, e⟩ | ⟨q, e⟩
                       · exact z1 q
                       · omega
                     have hk : ¬ skP M0 x3 := fun z => hs z.1
                     have a1 : nSt M0 x3 = M 50 0 x3 := by
                       rw [e50, nSt]
                       by_cases q : lsP M0 x3
                       · rw [if_pos q]; exact (if_pos q).symm
                       · rw [if_neg q, if_neg hk]; exact (if_neg q).symm
                     have a2 : nFe M0 x3 = M 48 0 x3 := by rw [e48, nFe, if_neg (fun z => hs z.1)]
                     exact step M _ h3 (by rw [if_neg hk]; omega) (fun z => rfl) (nn a1 a2).1 (nn a1 a2).2)
theorem kX12_list {E : E3} {Q : Q3} {M : M3} (h : okS M) (k1 : M 44 0 39 = 30 → Q (some (vI (-4))) M) (k : M 44 0 39 < 30 → ∀ (N : M3), RM3 N → poLst M N → Q (some (vI (mGn M))) N) : C3 E YX12_list [vR 44 0] M Q := by
  refine c3_rm fun hM => ?_
  have hz := h.1
  have hl := h.2.1
  have rr := mRoll_rg hz (-1) (-1) 1
  have er : mRoll (up3 M 71 0 (4 * M 44 0 39) (M 44 0 0)) (-1) (-1) 1 = mRoll M (-1) (-1) 1 := by
    unfold mRoll
    simp only [up3_r (show (50 : Nat) ≠ 71 by decide), up3_r (show (45 : Nat) ≠ 71 by decide), up3_r (show (46 : Nat) ≠ 71 by decide), up3_r (show (44 : Nat) ≠ 71 by decide)]
  refine sX12_list ?_
  refine ⟨fun c1 => ?_, fun c1 => ?_⟩
  · refine ⟨?_, ?_, ?_, ?_, ?_⟩
    · first | omega | (rw [up3_nr (by decide)]; omega) | (rw [er]; omega)
    · first | omega | (rw [up3_nr (by decide)]; omega) | (rw [er]; omega)
    · first | omega | (rw [up3_nr (by decide)]; omega) | (rw [er]; omega)
    · first | omega | (rw [up3_nr (by decide)]; omega) | (rw [er]; omega)
    rw [er]
    have hl2 : M 44 0 39 < 30 := by omega
    have kk := k hl2
    have F1 : ∀ q : Nat, q ∉ ([71] : List Nat) → up3 (up3 M 71 0 (4 * M 44 0 39) (M 44 0 0)) 71 0 (4 * M 44 0 39 + 1) (mRoll M (-1) (-1) 1) q = M q := fr_up (fr_up fr_rf (by decide)) (by decide)
    have eM : ∀ p : Int, lsP (up3 (up3 M 71 0 (4 * M 44 0 39) (M 44 0 0)) 71 0 (4 * M 44 0 39 + 1) (mRoll M (-1) (-1) 1)) p = lsP M p := fun p => by
      unfold lsP
      rw [F1 50 (by decide), F1 49 (by decide), F1 48 (by decide), F1 51 (by decide)]
    generalize hB : up3 (up3 M 71 0 (4 * M 44 0 39) (M 44 0 0)) 71 0 (4 * M 44 0 39 + 1) (mRoll M (-1) (-1) 1) = B at *
    have b0 : B 71 0 (4 * M 44 0 39) = M 44 0 0 := by rw [← hB, up3_nj (by omega), up3_eq]
    have b1 : B 71 0 (4 * M 44 0 39 + 1) = mRoll M (-1) (-1) 1 := by rw [← hB, up3_eq]
    have b2 : ∀ j : Int, ¬ (4 * M 44 0 39 ≤ j ∧ j < 4 * M 44 0 39 + 4) → B 71 0 j = M 71 0 j := fun j hj => by rw [← hB, up3_nj (by omega), up3_nj (by omega)]
    have c44 := F1 44 (by decide)
    have c45 := F1 45 (by decide)
    have c48 := F1 48 (by decide)
    have c49 := F1 49 (by decide)
    have c50 := F1 50 (by decide)
    have c51 := F1 51 (by decide)
    have eL : lsP B = lsP M := funext fun p => by unfold lsP; rw [c48, c49, c50, c51]
    have eG : mGi B = mGi M := funext fun b => by unfold mGi; simp only [lsP, c48, c49, c50, c51, c44, c45]
    have eS : nSt B = nSt M := funext fun p => by unfold nSt skP sgP; simp only [lsP, c48, c49, c50, c51, c45, eG]
    have eF : nFe B = nFe M := funext fun p => by unfold nFe sgP; simp only [lsP, c48, c49, c50, c51, c45, eG]
    have eN : mGn B = mGn M := by unfold mGn; simp only [lsP, c48, c49, c50, c51, c44]
    have eK : mSk B = mSk M := by unfold mSk skP sgP; simp only [lsP, c48, c49, c50, c51, c44, c45, eG]
    have hS : okS B := by unfold okS; rw [c44, c45, c48, c49]; exact h
    have hMB : RM3 B := by rw [← hB]; exact (hM.up (by have := hM 44 0 0; omega)).up (by omega)
    refine lX12_list53 (M0 := B) (fun N n1 n2 n3 => lX12_list74 (M0 := B) hS (fun N2 m1 m2 m3 m4 => lX12_list155 (M0 := B) hS (fun N3 o1 o2 o3 o4 => lX12_list205 (M0 := B) hS (by rw [c44]; exact hl2) (fun N4 p1 p2 p3 p4 p5 p6 p7 p8 p9 => ?_) (B 44 0 1).toNat 0 0 N3 (by omega) (by rw [c44]; omega) (fr_sub o2 (by decide)) rfl rfl o3 (fun z => by rw [if_neg (show ¬ (0 ≤ z ∧ z < 0) by omega)]; exact o4 z) (fun z => by rw [if_neg (show ¬ (0 ≤ z ∧ z < 0) by omega), o2 48 (by decide)])) (B 44 0 1).toNat 0 0 0 N2 (by omega) (by rw [c44]; omega) (fr_sub m2 (by decide)) rfl rfl m4 (fun z a b => m3 z a b) (fun z => by rw [if_neg (show ¬ (0 ≤ z ∧ z < 0) by omega), m2 50 (by decide)])) (B 44 0 1).toNat 0 0 0 N (by omega) (by rw [c44]; omega) (fr_sub n2 (by decide)) rfl rfl n3 (fun z a b => by omega)) 6 0 0 0 B (by omega) (by omega) fr_rf rfl rfl (fun z a b => by omega)
    rw [eN]
    rw [c44] at p3 p4 p5 p6 p7 p8 p9
    rw [eS, eF] at p5
    rw [c50, c48] at p6
    rw [eN] at p7
    rw [eK] at p8
    refine kk N4 p1 ⟨fun q hq => (p2 q hq).trans (F1 q (fun z => hq (by rw [List.mem_singleton.mp z]; decide))), p3, p4, p5, p6, ?_, ?_, p7, p8, fun j hj => ?_⟩
    · rw [p9 _ (by omega) (by omega), b0]
    · rw [p9 _ (by omega) (by omega), b1]
    · rw [p9 _ (by omega) (by omega), b2 j hj]
  · first | (exfalso; omega) | exact k1 (by assumption)
