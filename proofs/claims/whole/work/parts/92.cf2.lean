/-! CLASS: reasons, pairs -/
theorem kX2_trueReasons {E : E3} {Q : Q3} {M : M3} {i1 : Int} (h : LwC M ∧ IA M ∧ 0 ≤ i1 ∧ i1 < M 44 0 18) (k : ∀ (N : M3), RM3 N → Ec M N → LwC N → Q (some (vI (mTrue M i1))) N) : C3 E YX2_trueReasons [vR 14 0, vR 18 i1] M Q := by
  obtain ⟨hL, ⟨hB, hW⟩, h0, h1⟩ := h
  have hn := hB.2.2.2.1.2.1
  have e10 := (hW i1 h0 h1).2
  obtain ⟨k1, k2, k3, k4⟩ := mLck_c M i1
  obtain ⟨w1, w2, w3, w4, w5, w6, w7, w8, w9, w10, w11, w12, w13, w14, w15, w16, w17, w18, -⟩ := or3_c
  have ot : ∀ v : Int, 0 ≤ v → v ≤ 7 → or3 v 8 = v + 8 := fun v a b => by
    rcases (show v = 0 ∨ v = 1 ∨ v = 2 ∨ v = 3 ∨ v = 4 ∨ v = 5 ∨ v = 6 ∨ v = 7 by omega) with e | e | e | e | e | e | e | e <;> rw [e] <;> assumption
  refine sX2_trueReasons ?_
  refine ⟨?_, ?_⟩
  · first | omega | exact ⟨hL, hB, h0, h1⟩
  intro N1 hN1 he1 hp1
  refine ⟨fun c1 => ?_, fun c1 => ?_⟩
  · refine ⟨?_, ?_⟩
    · first | omega | exact ⟨hL, hB, h0, h1⟩
    have kk := k N1 hN1 he1 hp1
    first
      | (rw [k4, if_pos (by assumption)] at kk
         rw [e10]
         first
           | (rw [show shl3 1 3 = 8 by decide +kernel, ot _ k2 k3]; exact kk)
           | (rw [ot _ k2 k3]; exact kk))
      | (rw [k4, if_neg (by assumption), ← e10] at kk
         exact kk)
  · refine ⟨?_, ?_⟩
    · first | omega | exact ⟨hL, hB, h0, h1⟩
    have kk := k N1 hN1 he1 hp1
    first
      | (rw [k4, if_pos (by assumption)] at kk
         rw [e10]
         first
           | (rw [show shl3 1 3 = 8 by decide +kernel, ot _ k2 k3]; exact kk)
           | (rw [ot _ k2 k3]; exact kk))
      | (rw [k4, if_neg (by assumption), ← e10] at kk
         exact kk)
theorem eX2_trueReasons {E : E3} {Q : Q3} {M0 M : M3} {i1 : Int} (e : Ec M0 M) (h : LwC M ∧ IA M0 ∧ 0 ≤ i1 ∧ i1 < M0 44 0 18) (k : ∀ (N : M3), RM3 N → Ec M N → LwC N → Q (some (vI (mTrue M0 i1))) N) : C3 E YX2_trueReasons [vR 14 0, vR 18 i1] M Q :=
  kX2_trueReasons ⟨h.1, h.2.1.s (Es.c e), h.2.2.1, by rw [e.1 44 (by decide)]; exact h.2.2.2⟩ (fun N a b d => by rw [mTrue_q e.hm i1]; exact k N a b d)
theorem lX2_unlikePairs {E : E3} {Q : Q3} {M : M3} {x1 : Int} (hI : IA M) (hx : 0 ≤ x1 ∧ x1 ≤ 3) (k : Q (some (vI (mUof M x1))) M) : ∀ (n : Nat) (x3 x2 : Int), 0 ≤ x3 → x3 + n = M 44 0 18 → x2 = sm3 x3 (fun f => cn3 (M 44 0 18) fun g => decide (mUnl M x1 f g)) → G3 E YX2_unlikePairs Q 4 [(0, vR 14 0), (1, vI x1), (2, vI x2), (3, vI x3)] [] M := by
  obtain ⟨hB, hW⟩ := hI
  have hn := hB.2.2.2.1.2.1
  have e14 : M 14 0 0 = M 44 0 18 := hB.2.2.2.1.1
  intro n
  induction n with
  | zero =>
    intro x3 x2 h1 h2 h3
    refine sX2_unlikePairs_4 ?_
    refine ⟨?_, ?_⟩
    · omega
    refine ⟨fun c1 => ?_, fun c1 => ?_⟩
    · first | (exfalso; omega) | (rw [mUof, ← show x3 = M 44 0 18 by omega] at k; rw [h3]; rw [show M 44 0 18 = x3 by omega]; exact k)
    · refine ⟨?_, ?_⟩
      · omega
      refine ⟨fun c2 => ?_, fun c2 => ?_⟩
      · exfalso; omega
      · refine ⟨?_, ?_⟩
        · omega
        refine ⟨fun c3 => ?_, fun c3 => ?_⟩
        · exfalso; omega
        · refine ⟨fun c4 => ?_, fun c4 => ?_⟩
          · exfalso; omega
          · exfalso; omega
  | succ n ih =>
    intro x3 x2 h1 h2 h3
    have hw := hB.how h1 (show x3 < M 44 0 18 by omega)
    have hv := mHow_v hB h1 (show x3 < M 44 0 18 by omega)
    have hrd : 0 < mHow M x3 → M 18 x3 5 = M 60 0 x3 ∧ M 18 x3 6 = M 61 0 x3 ∧ (M 18 x3 7 = 1 ↔ mHow M x3 = 1) := fun q => ⟨(hB.rd h1 (by omega) q).1, (hB.rd h1 (by omega) q).2.1, (hB.rd h1 (by omega) q).2.2.1⟩
    have f1 := (hB.f h1 (show x3 < M 44 0 18 by omega)).1
    have f7 := (hB.f h1 (show x3 < M 44 0 18 by omega)).2.2.2.1
    have hww := (hW x3 h1 (by omega)).1
    have rr := mRights_rg M x3
    have sr := sm3_rg (B := 60) h1 (f := fun f => cn3 (M 44 0 18) fun g => decide (mUnl M x1 f g)) (fun k _ _ => by
      have := cn3_rg hn.1 (fun g => decide (mUnl M x1 k g))
      show 0 ≤ cn3 (M 44 0 18) (fun g => decide (mUnl M x1 k g)) ∧ cn3 (M 44 0 18) (fun g => decide (mUnl M x1 k g)) ≤ 60
      omega)
    have inner : mHow M x3 = 1 → M 61 0 x3 = x1 → ∀ (m : Nat) (x4 y2 : Int), 0 ≤ x4 → x4 + m = M 44 0 18 → y2 = x2 + cn3 x4 (fun g => decide (mUnl M x1 x3 g)) → G3 E YX2_unlikePairs Q 44 [(0, vR 14 0), (1, vI x1), (2, vI y2), (3, vI x3), (4, vI x4)] [] M := fun q1 q2 => by
      intro m
      induction m with
      | zero =>
        intro x4 y2 g1 g2 g3
        refine sX2_unlikePairs_44 ?_
        refine ⟨?_, ?_⟩
        · first | omega | (exfalso; omega)
        refine ⟨fun c1 => ?_, fun c1 => ?_⟩
        · first
          | (exfalso; omega)
          | exact ih _ _ (by omega) (by omega) (by rw [sm3_s h1, g3, h3, show x4 = M 44 0 18 by omega])
        · refine ⟨?_, ?_, ?_⟩
          · first | omega | (exfalso; omega)
          · first | omega | (exfalso; omega)
          refine ⟨fun c2 => ?_, fun c2 => ?_⟩
          · first
            | (exfalso; omega)
            | exact ih _ _ (by omega) (by omega) (by rw [sm3_s h1, g3, h3, show x4 = M 44 0 18 by omega])
          · refine ⟨?_, ?_⟩
            · first | omega | (exfalso; omega)
            refine ⟨fun c3 => ?_, fun c3 => ?_⟩
            · first
              | (exfalso; omega)
              | exact ih _ _ (by omega) (by omega) (by rw [sm3_s h1, g3, h3, show x4 = M 44 0 18 by omega])
            · refine ⟨fun c4 => ?_, fun c4 => ?_⟩
              · first
                | (exfalso; omega)
                | exact ih _ _ (by omega) (by omega) (by rw [sm3_s h1, g3, h3, show x4 = M 44 0 18 by omega])
              · refine ⟨fun c5 => ?_, fun c5 => ?_⟩
                · first
                  | (exfalso; omega)
                  | exact ih _ _ (by omega) (by omega) (by rw [sm3_s h1, g3, h3, show x4 = M 44 0 18 by omega])
                · refine ⟨fun c6 => ?_, fun c6 => ?_⟩
                  · first
                    | (exfalso; omega)
                    | exact ih _ _ (by omega) (by omega) (by rw [sm3_s h1, g3, h3, show x4 = M 44 0 18 by omega])
                  · first
                    | (exfalso; omega)
                    | exact ih _ _ (by omega) (by omega) (by rw [sm3_s h1, g3, h3, show x4 = M 44 0 18 by omega])
      | succ m ih2 =>
        intro x4 y2 g1 g2 g3
        have hwb := hB.how g1 (show x4 < M 44 0 18 by omega)
        have hvb := mHow_v hB g1 (show x4 < M 44 0 18 by omega)
        have hrdb : 0 < mHow M x4 → M 18 x4 5 = M 60 0 x4 ∧ M 18 x4 6 = M 61 0 x4 ∧ (M 18 x4 7 = 1 ↔ mHow M x4 = 1) := fun q => ⟨(hB.rd g1 (by omega) q).1, (hB.rd g1 (by omega) q).2.1, (hB.rd g1 (by omega) q).2.2.1⟩
        have f1b := (hB.f g1 (show x4 < M 44 0 18 by omega)).1
        have f7b := (hB.f g1 (show x4 < M 44 0 18 by omega)).2.2.2.1
        have hwwb := (hW x4 g1 (by omega)).1
        have rrb := mRights_rg M x4
        have cr := cn3_rg g1 (fun g => decide (mUnl M x1 x3 g))
        refine sX2_unlikePairs_44 ?_
        refine ⟨?_, ?_⟩
        · first | omega | (exfalso; omega)
        refine ⟨fun c1 => ?_, fun c1 => ?_⟩
        · first
          | (exfalso; omega)
          | (refine ih2 _ _ (by omega) (by omega) ?_
             rw [cn3_s g1, g3]
             first
               | (rw [if_pos (decide_eq_true ⟨q1, by omega, q2, by omega, by omega, by omega⟩)]; omega)
               | (rw [if_neg (fun z => by obtain ⟨z1, z2, z3, z4, z5, z6⟩ := of_decide_eq_true z; omega)]; omega))
        · refine ⟨?_, ?_, ?_⟩
          · first | omega | (exfalso; omega)
          · first | omega | (exfalso; omega)
          refine ⟨fun c2 => ?_, fun c2 => ?_⟩
          · first
            | (exfalso; omega)
            | (refine ih2 _ _ (by omega) (by omega) ?_
               rw [cn3_s g1, g3]
               first
                 | (rw [if_pos (decide_eq_true ⟨q1, by omega, q2, by omega, by omega, by omega⟩)]; omega)
                 | (rw [if_neg (fun z => by obtain ⟨z1, z2, z3, z4, z5, z6⟩ := of_decide_eq_true z; omega)]; omega))
          · refine ⟨?_, ?_⟩
            · first | omega | (exfalso; omega)
            refine ⟨fun c3 => ?_, fun c3 => ?_⟩
            · first
              | (exfalso; omega)
              | (refine ih2 _ _ (by omega) (by omega) ?_
                 rw [cn3_s g1, g3]
                 first
                   | (rw [if_pos (decide_eq_true ⟨q1, by omega, q2, by omega, by omega, by omega⟩)]; omega)
                   | (rw [if_neg (fun z => by obtain ⟨z1, z2, z3, z4, z5, z6⟩ := of_decide_eq_true z; omega)]; omega))
            · refine ⟨fun c4 => ?_, fun c4 => ?_⟩
              · first
                | (exfalso; omega)
                | (refine ih2 _ _ (by omega) (by omega) ?_
                   rw [cn3_s g1, g3]
                   first
                     | (rw [if_pos (decide_eq_true ⟨q1, by omega, q2, by omega, by omega, by omega⟩)]; omega)
                     | (rw [if_neg (fun z => by obtain ⟨z1, z2, z3, z4, z5, z6⟩ := of_decide_eq_true z; omega)]; omega))
              · refine ⟨fun c5 => ?_, fun c5 => ?_⟩
                · first
                  | (exfalso; omega)
                  | (refine ih2 _ _ (by omega) (by omega) ?_
                     rw [cn3_s g1, g3]
                     first
                       | (rw [if_pos (decide_eq_true ⟨q1, by omega, q2, by omega, by omega, by omega⟩)]; omega)
                       | (rw [if_neg (fun z => by obtain ⟨z1, z2, z3, z4, z5, z6⟩ := of_decide_eq_true z; omega)]; omega))
                · refine ⟨fun c6 => ?_, fun c6 => ?_⟩
                  · first
                    | (exfalso; omega)
                    | (refine ih2 _ _ (by omega) (by omega) ?_
                       rw [cn3_s g1, g3]
                       first
                         | (rw [if_pos (decide_eq_true ⟨q1, by omega, q2, by omega, by omega, by omega⟩)]; omega)
                         | (rw [if_neg (fun z => by obtain ⟨z1, z2, z3, z4, z5, z6⟩ := of_decide_eq_true z; omega)]; omega))
                  · first
                    | (exfalso; omega)
                    | (refine ih2 _ _ (by omega) (by omega) ?_
                       rw [cn3_s g1, g3]
                       first
                         | (rw [if_pos (decide_eq_true ⟨q1, by omega, q2, by omega, by omega, by omega⟩)]; omega)
                         | (rw [if_neg (fun z => by obtain ⟨z1, z2, z3, z4, z5, z6⟩ := of_decide_eq_true z; omega)]; omega))
    have none1 : ¬ (mHow M x3 = 1 ∧ M 61 0 x3 = x1) → cn3 (M 44 0 18) (fun g => decide (mUnl M x1 x3 g)) = 0 := fun q => cn3_zero.mpr fun g _ _ => decide_eq_false fun z => q ⟨z.1, z.2.2.1⟩
    refine sX2_unlikePairs_4 ?_
    refine ⟨?_, ?_⟩
    · first | omega | (exfalso; omega)
    refine ⟨fun c1 => ?_, fun c1 => ?_⟩
    · exfalso; omega
    · refine ⟨?_, ?_⟩
      · first | omega | (exfalso; omega)
      refine ⟨fun c2 => ?_, fun c2 => ?_⟩
      · first
        | (exfalso; omega)
        | exact ih _ _ (by omega) (by omega) (by rw [sm3_s h1, none1 (fun z => by omega), h3]; omega)
      · refine ⟨?_, ?_⟩
        · first | omega | (exfalso; omega)
        refine ⟨fun c3 => ?_, fun c3 => ?_⟩
        · first
          | (exfalso; omega)
          | exact ih _ _ (by omega) (by omega) (by rw [sm3_s h1, none1 (fun z => by omega), h3]; omega)
        · refine ⟨fun c4 => ?_, fun c4 => ?_⟩
          · first
            | (exfalso; omega)
            | exact inner (by omega) (by omega) (M 44 0 18).toNat 0 _ (by omega) (by omega) (by rw [cn3_0]; omega)
          · first
            | (exfalso; omega)
            | exact ih _ _ (by omega) (by omega) (by rw [sm3_s h1, none1 (fun z => by omega), h3]; omega)
theorem kX2_unlikePairs {E : E3} {Q : Q3} {M : M3} {x1 : Int} (h : IA M ∧ 0 ≤ x1 ∧ x1 ≤ 3) (k : Q (some (vI (mUof M x1))) M) : C3 E YX2_unlikePairs [vR 14 0, vI x1] M Q :=
  sX2_unlikePairs (lX2_unlikePairs h.1 h.2 k (M 44 0 18).toNat 0 0 (by omega) (by have := h.1.1.2.2.2.1.2.1; omega) rfl)
theorem lX2_firstUnlikePair {E : E3} {Q : Q3} {M : M3} {x1 : Int} (hI : IA M) (hx : 0 ≤ x1 ∧ x1 ≤ 3) (k : Q (some (vI (mPrv M x1))) M) : ∀ (n : Nat) (x2 : Int), 0 ≤ x2 → x2 + n = M 44 0 18 → (∀ y : Int, 0 ≤ y → y < x2 → mP1 M x1 y = -1) → G3 E YX2_firstUnlikePair Q 2 [(0, vR 14 0), (1, vI x1), (2, vI x2)] [] M := by
  obtain ⟨hB, hW⟩ := hI
  have hn := hB.2.2.2.1.2.1
  have e14 : M 14 0 0 = M 44 0 18 := hB.2.2.2.1.1
  intro n
  induction n with
  | zero =>
    intro x2 h1 h2 h3
    have a : mP0 M x1 = -1 := ff3_no (by omega) fun y z w => decide_eq_false (fun q => q (h3 y z (by omega)))
    refine sX2_firstUnlikePair_2 ?_
    refine ⟨?_, ?_⟩
    · omega
    refine ⟨fun c1 => ?_, fun c1 => ?_⟩
    · first | (exfalso; omega) | (rw [mPrv, if_pos a] at k; exact k)
    · refine ⟨?_, ?_⟩
      · omega
      refine ⟨fun c2 => ?_, fun c2 => ?_⟩
      · exfalso; omega
      · refine ⟨?_, ?_⟩
        · omega
        refine ⟨fun c3 => ?_, fun c3 => ?_⟩
        · exfalso; omega
        · refine ⟨fun c4 => ?_, fun c4 => ?_⟩
          · exfalso; omega
          · exfalso; omega
  | succ n ih =>
    intro x2 h1 h2 h3
    have hw := hB.how h1 (show x2 < M 44 0 18 by omega)
    have hv := mHow_v hB h1 (show x2 < M 44 0 18 by omega)
    have hrd : 0 < mHow M x2 → M 18 x2 5 = M 60 0 x2 ∧ M 18 x2 6 = M 61 0 x2 ∧ (M 18 x2 7 = 1 ↔ mHow M x2 = 1) := fun q => ⟨(hB.rd h1 (by omega) q).1, (hB.rd h1 (by omega) q).2.1, (hB.rd h1 (by omega) q).2.2.1⟩
    have f1 := (hB.f h1 (show x2 < M 44 0 18 by omega)).1
    have f7 := (hB.f h1 (show x2 < M 44 0 18 by omega)).2.2.2.1
    have hww := (hW x2 h1 (by omega)).1
    have rr := mRights_rg M x2
    have next : mP1 M x1 x2 = -1 → G3 E YX2_firstUnlikePair Q 2 [(0, vR 14 0), (1, vI x1), (2, vI (x2 + 1))] [] M := fun q => ih _ (by omega) (by omega) (fun y a b => by
      by_cases e : y < x2
      · exact h3 y a e
      · rw [show y = x2 by omega]
        exact q)
    have inner : mHow M x2 = 1 → M 61 0 x2 = x1 → ∀ (m : Nat) (x3 : Int), 0 ≤ x3 → x3 + m = M 44 0 18 → (∀ z : Int, 0 ≤ z → z < x3 → ¬ mUnl M x1 x2 z) → G3 E YX2_firstUnlikePair Q 41 [(0, vR 14 0), (1, vI x1), (2, vI x2), (3, vI x3)] [] M := fun q1 q2 => by
      intro m
      induction m with
      | zero =>
        intro x3 g1 g2 g3
        refine sX2_firstUnlikePair_41 ?_
        refine ⟨?_, ?_⟩
        · first | omega | (exfalso; omega)
        refine ⟨fun c1 => ?_, fun c1 => ?_⟩
        · first
          | (exfalso; omega)
          | exact next (ff3_no (by omega) fun z c d => decide_eq_false (g3 z c (by omega)))
        · refine ⟨?_, ?_, ?_⟩
          · first | omega | (exfalso; omega)
          · first | omega | (exfalso; omega)
          refine ⟨fun c2 => ?_, fun c2 => ?_⟩
          · first
            | (exfalso; omega)
            | exact next (ff3_no (by omega) fun z c d => decide_eq_false (g3 z c (by omega)))
          · refine ⟨?_, ?_⟩
            · first | omega | (exfalso; omega)
            refine ⟨fun c3 => ?_, fun c3 => ?_⟩
            · first
              | (exfalso; omega)
              | exact next (ff3_no (by omega) fun z c d => decide_eq_false (g3 z c (by omega)))
            · refine ⟨fun c4 => ?_, fun c4 => ?_⟩
              · first
                | (exfalso; omega)
                | exact next (ff3_no (by omega) fun z c d => decide_eq_false (g3 z c (by omega)))
              · refine ⟨fun c5 => ?_, fun c5 => ?_⟩
                · first
                  | (exfalso; omega)
                  | exact next (ff3_no (by omega) fun z c d => decide_eq_false (g3 z c (by omega)))
                · refine ⟨fun c6 => ?_, fun c6 => ?_⟩
                  · first
                    | (exfalso; omega)
                    | exact next (ff3_no (by omega) fun z c d => decide_eq_false (g3 z c (by omega)))
                  · exfalso; omega
      | succ m ih2 =>
        intro x3 g1 g2 g3
        have hwb := hB.how g1 (show x3 < M 44 0 18 by omega)
        have hvb := mHow_v hB g1 (show x3 < M 44 0 18 by omega)
        have hrdb : 0 < mHow M x3 → M 18 x3 5 = M 60 0 x3 ∧ M 18 x3 6 = M 61 0 x3 ∧ (M 18 x3 7 = 1 ↔ mHow M x3 = 1) := fun q => ⟨(hB.rd g1 (by omega) q).1, (hB.rd g1 (by omega) q).2.1, (hB.rd g1 (by omega) q).2.2.1⟩
        have f1b := (hB.f g1 (show x3 < M 44 0 18 by omega)).1
        have f7b := (hB.f g1 (show x3 < M 44 0 18 by omega)).2.2.2.1
        have hwwb := (hW x3 g1 (by omega)).1
        have rrb := mRights_rg M x3
        refine sX2_firstUnlikePair_41 ?_
        refine ⟨?_, ?_⟩
        · first | omega | (exfalso; omega)
        refine ⟨fun c1 => ?_, fun c1 => ?_⟩
        · first
          | (exfalso; omega)
          | exact ih2 _ (by omega) (by omega) (fun z a b => by
              by_cases e : z = x3
              · rw [e]
                intro y
                obtain ⟨z1, z2, z3, z4, z5, z6⟩ := y
                omega
              · exact g3 z a (by omega))
        · refine ⟨?_, ?_, ?_⟩
          · first | omega | (exfalso; omega)
          · first | omega | (exfalso; omega)
          refine ⟨fun c2 => ?_, fun c2 => ?_⟩
          · first
            | (exfalso; omega)
            | exact ih2 _ (by omega) (by omega) (fun z a b => by
                by_cases e : z = x3
                · rw [e]
                  intro y
                  obtain ⟨z1, z2, z3, z4, z5, z6⟩ := y
                  omega
                · exact g3 z a (by omega))
          · refine ⟨?_, ?_⟩
            · first | omega | (exfalso; omega)
            refine ⟨fun c3 => ?_, fun c3 => ?_⟩
            · first
              | (exfalso; omega)
              | exact ih2 _ (by omega) (by omega) (fun z a b => by
                  by_cases e : z = x3
                  · rw [e]
                    intro y
                    obtain ⟨z1, z2, z3, z4, z5, z6⟩ := y
                    omega
                  · exact g3 z a (by omega))
            · refine ⟨fun c4 => ?_, fun c4 => ?_⟩
              · first
                | (exfalso; omega)
                | exact ih2 _ (by omega) (by omega) (fun z a b => by
                    by_cases e : z = x3
                    · rw [e]
                      intro y
                      obtain ⟨z1, z2, z3, z4, z5, z6⟩ := y
                      omega
                    · exact g3 z a (by omega))
              · refine ⟨fun c5 => ?_, fun c5 => ?_⟩
                · first
                  | (exfalso; omega)
                  | exact ih2 _ (by omega) (by omega) (fun z a b => by
                      by_cases e : z = x3
                      · rw [e]
                        intro y
                        obtain ⟨z1, z2, z3, z4, z5, z6⟩ := y
                        omega
                      · exact g3 z a (by omega))
                · refine ⟨fun c6 => ?_, fun c6 => ?_⟩
                  · first
                    | (exfalso; omega)
                    | exact ih2 _ (by omega) (by omega) (fun z a b => by
                        by_cases e : z = x3
                        · rw [e]
                          intro y
                          obtain ⟨z1, z2, z3, z4, z5, z6⟩ := y
                          omega
                        · exact g3 z a (by omega))
                  · first
                    | (exfalso; omega)
                    | (rw [← mPrv_is ⟨h1, by omega⟩ ⟨g1, by omega⟩ ⟨q1, by omega, q2, by omega, by omega, by omega⟩ g3 h3] at k; exact k)
    have none1 : ¬ (mHow M x2 = 1 ∧ M 61 0 x2 = x1) → mP1 M x1 x2 = -1 := fun q => ff3_no (by omega) fun z c d => decide_eq_false fun y => q ⟨y.1, y.2.2.1⟩
    refine sX2_firstUnlikePair_2 ?_
    refine ⟨?_, ?_⟩
    · first | omega | (exfalso; omega)
    refine ⟨fun c1 => ?_, fun c1 => ?_⟩
    · exfalso; omega
    · refine ⟨?_, ?_⟩
      · first | omega | (exfalso; omega)
      refine ⟨fun c2 => ?_, fun c2 => ?_⟩
      · first
        | (exfalso; omega)
        | exact next (none1 (fun z => by omega))
      · refine ⟨?_, ?_⟩
        · first | omega | (exfalso; omega)
        refine ⟨fun c3 => ?_, fun c3 => ?_⟩
        · first
          | (exfalso; omega)
          | exact next (none1 (fun z => by omega))
        · refine ⟨fun c4 => ?_, fun c4 => ?_⟩
          · first
            | (exfalso; omega)
            | exact inner (by omega) (by omega) (M 44 0 18).toNat 0 (by omega) (by omega) (fun z a b => by omega)
          · first
            | (exfalso; omega)
            | exact next (none1 (fun z => by omega))
theorem kX2_firstUnlikePair {E : E3} {Q : Q3} {M : M3} {x1 : Int} (h : IA M ∧ 0 ≤ x1 ∧ x1 ≤ 3) (k : Q (some (vI (mPrv M x1))) M) : C3 E YX2_firstUnlikePair [vR 14 0, vI x1] M Q :=
  sX2_firstUnlikePair (lX2_firstUnlikePair h.1 h.2 k (M 44 0 18).toNat 0 (by omega) (by have := h.1.1.2.2.2.1.2.1; omega) (fun y a b => by omega))
/-! CLASS: ripe -/
abbrev rpP (M : M3) (a b f : Int) : Prop := mHow M f = 2 ∧ mPtd M f ∧ M 46 0 (M 56 0 f) = 1 ∧ (a ≤ M 57 0 f ∧ M 57 0 f ≤ b)
theorem cn3_two {n : Int} {f g h : Int → Bool} (hd : ∀ k : Int, 0 ≤ k → k < n → (h k = true ↔ (f k = true ∨ g k = true)) ∧ ¬ (f k = true ∧ g k = true)) : cn3 n h = cn3 n f + cn3 n g := by
  have key : ∀ m : Nat, (m : Int) ≤ n → cnN h m = cnN f m + cnN g m := by
    intro m
    induction m with
    | zero => intro _; rfl
    | succ m ih =>
      intro hm
      have d := hd m (by omega) (by omega)
      show cnN h m + (if h m = true then 1 else 0) = cnN f m + (if f m = true then 1 else 0) + (cnN g m + (if g m = true then 1 else 0))
      rw [ih (by omega)]
      by_cases p : f m = true
      · rw [if_pos p, if_pos (d.1.mpr (Or.inl p)), if_neg fun z => d.2 ⟨p, z⟩]
        omega
      · by_cases q : g m = true
        · rw [if_neg p, if_pos q, if_pos (d.1.mpr (Or.inr q))]
          omega
        · rw [if_neg p, if_neg q, if_neg fun z => by rcases d.1.mp z with z | z; exact p z; exact q z]
          omega
  by_cases hn : 0 ≤ n
  · exact key n.toNat (by omega)
  · rw [cn3_neg (by omega), cn3_neg (by omega), cn3_neg (by omega)]
    rfl
theorem mRp_is {M : M3} {n a b r : Int} (hn : 0 ≤ mNow M) (h : 0 ≤ r) (h1 : n ≤ mRpN M a b r) (h2 : ∀ d : Int, 0 ≤ d → d < r → mRpN M a b d < n) : mRp M n a b = r := by
  have top : ∀ d : Int, mNow M ≤ d → mRpN M a b d = mRpN M a b (mNow M) := fun d hd => by
    unfold mRpN
    refine cn3_congr fun f _ _ => decide_eq_decide.mpr ?_
    constructor
    · intro z
      refine ⟨z.1, z.2.1, z.2.2.1, z.2.2.2.1, ?_⟩
      rcases mHow_c M f with q | q <;> omega
    · intro z
      exact ⟨z.1, z.2.1, z.2.2.1, z.2.2.2.1, by omega⟩
  have hr : r ≤ mNow M := Classical.byContradiction fun z => by
    have a1 := top r (by omega)
    have a2 := h2 (mNow M) hn (by omega)
    omega
  exact ff3_is ⟨h, by omega⟩ (decide_eq_true h1) fun k c d => decide_eq_false (by have := h2 k c d; omega)
theorem mRp_no {M : M3} {n a b : Int} (hn : 0 ≤ mNow M ∧ mNow M ≤ 399) (h2 : ∀ d : Int, 0 ≤ d → d ≤ 399 → mRpN M a b d < n) : mRp M n a b = -1 :=
  ff3_no (by omega) fun k c d => decide_eq_false (by have := h2 k c (by omega); omega)
theorem lX2_rp3 {E : E3} {Q : Q3} {M0 : M3} {x1 x2 x3 : Int} (k : ∀ (N : M3), RM3 N → (∀ q : Nat, q ∉ ([17] : List Nat) → N q = M0 q) → (∀ d : Int, 0 ≤ d → d < 400 → N 17 0 d = 0) → G3 E YX2_ripeOn Q 28 [(0, vR 14 0), (1, vI x1), (2, vI x2), (3, vI x3), (4, vI 0)] [] N) : ∀ (n : Nat) (x4 : Int) (M : M3), 0 ≤ x4 → x4 + n = 400 → (∀ q : Nat, q ∉ ([17] : List Nat) → M q = M0 q) → (∀ d : Int, 0 ≤ d → d < x4 → M 17 0 d = 0) → G3 E YX2_ripeOn Q 3 [(0, vR 14 0), (1, vI x1), (2, vI x2), (3, vI x3), (4, vI x4)] [] M := by
  intro n
  induction n with
  | zero =>
    intro x4 M h1 h2 h3 h4
    refine g3_rm fun hM => ?_
    refine sX2_ripeOn_3 ?_
    refine ⟨?_, ?_⟩
    · first | omega | (exfalso; omega)
    refine ⟨fun c1 => ?_, fun c1 => ?_⟩
    · first | (exfalso; omega) | exact k M hM h3 (fun d a b => h4 d a (by omega))
    · refine ⟨?_, ?_⟩
      · first | omega | (exfalso; omega)
      first | (exfalso; omega) | exact k M hM h3 (fun d a b => h4 d a (by omega))
  | succ n ih =>
    intro x4 M h1 h2 h3 h4
    refine g3_rm fun hM => ?_
    refine sX2_ripeOn_3 ?_
    refine ⟨?_, ?_⟩
    · first | omega | (exfalso; omega)
    refine ⟨fun c1 => ?_, fun c1 => ?_⟩
    · first
        | (exfalso; omega)
        | (refine ih _ _ (by omega) (by omega) (fr_up h3 (by decide)) (fun d a b => ?_)
           by_cases e : d = x4
           · rw [e, up3_eq]
           · rw [up3_nj e]; exact h4 d a (by omega))
    · refine ⟨?_, ?_⟩
      · first | omega | (exfalso; omega)
      first
        | (exfalso; omega)
        | (refine ih _ _ (by omega) (by omega) (fr_up h3 (by decide)) (fun d a b => ?_)
           by_cases e : d = x4
           · rw [e, up3_eq]
           · rw [up3_nj e]; exact h4 d a (by omega))
theorem lX2_rp28 {E : E3} {Q : Q3} {M0 : M3} {x1 x2 x3 : Int} (hI : IA M0) (hx : (1 ≤ x1 ∧ x1 ≤ 30) ∧ (0 ≤ x2 ∧ x2 ≤ 399) ∧ (0 ≤ x3 ∧ x3 ≤ 399)) (k : ∀ (N : M3), RM3 N → (∀ q : Nat, q ∉ ([17] : List Nat) → N q = M0 q) → (∀ d : Int, 0 ≤ d → d < 400 → N 17 0 d = cn3 (M0 44 0 18) fun f => decide (rpP M0 x2 x3 f ∧ M0 60 0 f = d)) → G3 E YX2_ripeOn Q 113 [(0, vR 14 0), (1, vI x1), (4, vI 0), (5, vI 0)] [] N) : ∀ (n : Nat) (x4 : Int) (M : M3), 0 ≤ x4 → x4 + n = M0 44 0 18 → (∀ q : Nat, q ∉ ([17] : List Nat) → M q = M0 q) → (∀ d : Int, 0 ≤ d → d < 400 → M 17 0 d = cn3 x4 fun f => decide (rpP M0 x2 x3 f ∧ M0 60 0 f = d)) → G3 E YX2_ripeOn Q 28 [(0, vR 14 0), (1, vI x1), (2, vI x2), (3, vI x3), (4, vI x4)] [] M := by
  intro n
  induction n with
  | zero =>
    intro x4 M h1 h2 h3 h4
    refine g3_rm fun hM => ?_
    obtain ⟨hB, hW⟩ := hI
    have hn := hB.2.2.2.1.2.1
    have e14 : M0 14 0 0 = M0 44 0 18 := hB.2.2.2.1.1
    have e18 : M 18 = M0 18 := h3 18 (by decide)
    have e14' : M 14 = M0 14 := h3 14 (by decide)
    have eT : cTold M = cTold M0 := by unfold cTold; rw [h3 2 (by decide)]
    refine sX2_ripeOn_28 ?_
    simp only [e18, e14', eT]
    refine ⟨?_, ?_⟩
    · first | omega | (have z0 := r60 (hw.mp (by assumption)); have z1 := (hrd (hw.mp (by assumption))).1; have z2 := e17 _ z0.1 z0.2; rw [z1]; first | exact z0 | (clear hw hrd r60; omega)) | (exfalso; omega)
    refine ⟨fun c1 => ?_, fun c1 => ?_⟩
    · first | (exfalso; omega) | exact k M hM h3 (by rw [show x4 = M0 44 0 18 by omega] at h4; exact h4)
    · refine ⟨?_, ?_⟩
      · first | omega | (have z0 := r60 (hw.mp (by assumption)); have z1 := (hrd (hw.mp (by assumption))).1; have z2 := e17 _ z0.1 z0.2; rw [z1]; first | exact z0 | (clear hw hrd r60; omega)) | (exfalso; omega)
      refine ⟨fun c2 => ?_, fun c2 => ?_⟩
      · first | (exfalso; omega) | exact k M hM h3 (by rw [show x4 = M0 44 0 18 by omega] at h4; exact h4)
      · refine ⟨fun c3 => ?_, fun c3 => ?_⟩
        · first | (exfalso; omega) | exact k M hM h3 (by rw [show x4 = M0 44 0 18 by omega] at h4; exact h4)
        · refine ⟨?_, ?_⟩
          · first | omega | (have z0 := r60 (hw.mp (by assumption)); have z1 := (hrd (hw.mp (by assumption))).1; have z2 := e17 _ z0.1 z0.2; rw [z1]; first | exact z0 | (clear hw hrd r60; omega)) | (exfalso; omega)
          refine ⟨fun c4 => ?_, fun c4 => ?_⟩
          · first | (exfalso; omega) | exact k M hM h3 (by rw [show x4 = M0 44 0 18 by omega] at h4; exact h4)
          · refine ⟨fun c5 => ?_, fun c5 => ?_⟩
            · first | (exfalso; omega) | exact k M hM h3 (by rw [show x4 = M0 44 0 18 by omega] at h4; exact h4)
            · refine ⟨fun c6 => ?_, fun c6 => ?_⟩
              · first | (exfalso; omega) | exact k M hM h3 (by rw [show x4 = M0 44 0 18 by omega] at h4; exact h4)
              · refine ⟨?_, ?_, ?_⟩
                · first | omega | (have z0 := r60 (hw.mp (by assumption)); have z1 := (hrd (hw.mp (by assumption))).1; have z2 := e17 _ z0.1 z0.2; rw [z1]; first | exact z0 | (clear hw hrd r60; omega)) | (exfalso; omega)
                · first | omega | (have z0 := r60 (hw.mp (by assumption)); have z1 := (hrd (hw.mp (by assumption))).1; have z2 := e17 _ z0.1 z0.2; rw [z1]; first | exact z0 | (clear hw hrd r60; omega)) | (exfalso; omega)
                first | (exfalso; omega) | exact k M hM h3 (by rw [show x4 = M0 44 0 18 by omega] at h4; exact h4)
  | succ n ih =>
    intro x4 M h1 h2 h3 h4
    refine g3_rm fun hM => ?_
    obtain ⟨hB, hW⟩ := hI
    have hn := hB.2.2.2.1.2.1
    have e14 : M0 14 0 0 = M0 44 0 18 := hB.2.2.2.1.1
    have e18 : M 18 = M0 18 := h3 18 (by decide)
    have e14' : M 14 = M0 14 := h3 14 (by decide)
    have eT : cTold M = cTold M0 := by unfold cTold; rw [h3 2 (by decide)]
    have hw := hB.how h1 (show x4 < M0 44 0 18 by omega)
    have hv := mHow_v hB h1 (show x4 < M0 44 0 18 by omega)
    have hrd : 0 < mHow M0 x4 → M0 18 x4 5 = M0 60 0 x4 ∧ M0 18 x4 6 = M0 61 0 x4 ∧ (M0 18 x4 7 = 1 ↔ mHow M0 x4 = 1) := fun q => ⟨(hB.rd h1 (by omega) q).1, (hB.rd h1 (by omega) q).2.1, (hB.rd h1 (by omega) q).2.2.1⟩
    have f1 := (hB.f h1 (show x4 < M0 44 0 18 by omega)).1
    have f7 := (hB.f h1 (show x4 < M0 44 0 18 by omega)).2.2.2.1
    have hww := (hW x4 h1 (by omega)).1
    have rr := mRights_rg M0 x4
    have hlk := (hW x4 h1 (by omega)).2
    have f8 := (hB.f h1 (show x4 < M0 44 0 18 by omega)).2.2.2.2.2.2.2.1
    have hlc := (mLck_c M0 x4).1
    have hd := hB.1.2.2.1
    have f6 := (hB.f h1 (show x4 < M0 44 0 18 by omega)).2.2.2.2.2.1
    have hh := hB.rd h1 (show x4 < M0 44 0 18 by omega)
    have r60 : 0 < mHow M0 x4 → 0 ≤ M0 60 0 x4 ∧ M0 60 0 x4 < 400 := fun q => by
      have a := (hh q).2.2.2.2
      have b := f6 (by omega)
      have c := (hB.f h1 (show x4 < M0 44 0 18 by omega)).2.2.2.2.2.2.2.1
      omega
    have bt : ∀ _ : Bool, (mByT M0 x4 ↔ M0 18 x4 10 = 0) := fun _ => by rw [hlk]; exact hlc.symm
    clear hlc f6
    have no : ¬ rpP M0 x2 x3 x4 → ∀ d : Int, 0 ≤ d → d < 400 → M 17 0 d = cn3 (x4 + 1) (fun f => decide (rpP M0 x2 x3 f ∧ M0 60 0 f = d)) := fun q d a b => by
      rw [cn3_f h1 (decide_eq_false fun z => q z.1)]
      exact h4 d a b
    have e17 : ∀ d : Int, 0 ≤ d → d < 400 → 0 ≤ M 17 0 d ∧ M 17 0 d ≤ 60 := fun d a b => by
      have := cn3_rg h1 (fun f => decide (rpP M0 x2 x3 f ∧ M0 60 0 f = d))
      have := h4 d a b
      omega
    refine sX2_ripeOn_28 ?_
    simp only [e18, e14', eT]
    refine ⟨?_, ?_⟩
    · first | omega | (have z0 := r60 (hw.mp (by assumption)); have z1 := (hrd (hw.mp (by assumption))).1; have z2 := e17 _ z0.1 z0.2; rw [z1]; first | exact z0 | (clear hw hrd r60; omega)) | (exfalso; omega)
    refine ⟨fun c1 => ?_, fun c1 => ?_⟩
    · first
        | (exfalso; omega)
        | (have hP : rpP M0 x2 x3 x4 := by
             have hq : 0 < mHow M0 x4 := by omega
             have z1 := hrd hq
             have z2 : mHow M0 x4 = 2 := by omega
             exact ⟨z2, ⟨hq, Or.inr ⟨by omega, (bt true).mpr (by assumption)⟩⟩, by omega, by omega⟩
           have hq : 0 < mHow M0 x4 := by omega
           have z0 := r60 hq
           have z1 := (hrd hq).1
           rw [z1]
           refine ih _ _ (by omega) (by omega) (fr_up h3 (by decide)) (fun d a b => ?_)
           by_cases e : d = M0 60 0 x4
           · rw [e, up3_eq, cn3_t h1 (decide_eq_true ⟨hP, rfl⟩), h4 _ z0.1 z0.2]
           · rw [up3_nj e, cn3_f h1 (decide_eq_false fun z => e z.2.symm)]
             exact h4 d a b)
        | (refine ih _ _ (by omega) (by omega) h3 (no fun z => ?_)
           obtain ⟨z1, ⟨z2, z3⟩, z4, z5⟩ := z
           rcases z3 with z3 | z3
           · omega
           · have z6 := (bt true).mp z3.2
             have z7 := hrd z2
             omega)
    · refine ⟨?_, ?_⟩
      · first | omega | (have z0 := r60 (hw.mp (by assumption)); have z1 := (hrd (hw.mp (by assumption))).1; have z2 := e17 _ z0.1 z0.2; rw [z1]; first | exact z0 | (clear hw hrd r60; omega)) | (exfalso; omega)
      refine ⟨fun c2 => ?_, fun c2 => ?_⟩
      · first
          | (exfalso; omega)
          | (have hP : rpP M0 x2 x3 x4 := by
               have hq : 0 < mHow M0 x4 := by omega
               have z1 := hrd hq
               have z2 : mHow M0 x4 = 2 := by omega
               exact ⟨z2, ⟨hq, Or.inr ⟨by omega, (bt true).mpr (by assumption)⟩⟩, by omega, by omega⟩
             have hq : 0 < mHow M0 x4 := by omega
             have z0 := r60 hq
             have z1 := (hrd hq).1
             rw [z1]
             refine ih _ _ (by omega) (by omega) (fr_up h3 (by decide)) (fun d a b => ?_)
             by_cases e : d = M0 60 0 x4
             · rw [e, up3_eq, cn3_t h1 (decide_eq_true ⟨hP, rfl⟩), h4 _ z0.1 z0.2]
             · rw [up3_nj e, cn3_f h1 (decide_eq_false fun z => e z.2.symm)]
               exact h4 d a b)
          | (refine ih _ _ (by omega) (by omega) h3 (no fun z => ?_)
             obtain ⟨z1, ⟨z2, z3⟩, z4, z5⟩ := z
             rcases z3 with z3 | z3
             · omega
             · have z6 := (bt true).mp z3.2
               have z7 := hrd z2
               omega)
      · refine ⟨fun c3 => ?_, fun c3 => ?_⟩
        · first
            | (exfalso; omega)
            | (have hP : rpP M0 x2 x3 x4 := by
                 have hq : 0 < mHow M0 x4 := by omega
                 have z1 := hrd hq
                 have z2 : mHow M0 x4 = 2 := by omega
                 exact ⟨z2, ⟨hq, Or.inr ⟨by omega, (bt true).mpr (by assumption)⟩⟩, by omega, by omega⟩
               have hq : 0 < mHow M0 x4 := by omega
               have z0 := r60 hq
               have z1 := (hrd hq).1
               rw [z1]
               refine ih _ _ (by omega) (by omega) (fr_up h3 (by decide)) (fun d a b => ?_)
               by_cases e : d = M0 60 0 x4
               · rw [e, up3_eq, cn3_t h1 (decide_eq_true ⟨hP, rfl⟩), h4 _ z0.1 z0.2]
               · rw [up3_nj e, cn3_f h1 (decide_eq_false fun z => e z.2.symm)]
                 exact h4 d a b)
            | (refine ih _ _ (by omega) (by omega) h3 (no fun z => ?_)
               obtain ⟨z1, ⟨z2, z3⟩, z4, z5⟩ := z
               rcases z3 with z3 | z3
               · omega
               · have z6 := (bt true).mp z3.2
                 have z7 := hrd z2
                 omega)
        · refine ⟨?_, ?_⟩
          · first | omega | (have z0 := r60 (hw.mp (by assumption)); have z1 := (hrd (hw.mp (by assumption))).1; have z2 := e17 _ z0.1 z0.2; rw [z1]; first | exact z0 | (clear hw hrd r60; omega)) | (exfalso; omega)
          refine ⟨fun c4 => ?_, fun c4 => ?_⟩
          · first
              | (exfalso; omega)
              | (have hP : rpP M0 x2 x3 x4 := by
                   have hq : 0 < mHow M0 x4 := by omega
                   have z1 := hrd hq
                   have z2 : mHow M0 x4 = 2 := by omega
                   exact ⟨z2, ⟨hq, Or.inr ⟨by omega, (bt true).mpr (by assumption)⟩⟩, by omega, by omega⟩
                 have hq : 0 < mHow M0 x4 := by omega
                 have z0 := r60 hq
                 have z1 := (hrd hq).1
                 rw [z1]
                 refine ih _ _ (by omega) (by omega) (fr_up h3 (by decide)) (fun d a b => ?_)
                 by_cases e : d = M0 60 0 x4
                 · rw [e, up3_eq, cn3_t h1 (decide_eq_true ⟨hP, rfl⟩), h4 _ z0.1 z0.2]
                 · rw [up3_nj e, cn3_f h1 (decide_eq_false fun z => e z.2.symm)]
                   exact h4 d a b)
              | (refine ih _ _ (by omega) (by omega) h3 (no fun z => ?_)
                 obtain ⟨z1, ⟨z2, z3⟩, z4, z5⟩ := z
                 rcases z3 with z3 | z3
                 · omega
                 · have z6 := (bt true).mp z3.2
                   have z7 := hrd z2
                   omega)
          · refine ⟨fun c5 => ?_, fun c5 => ?_⟩
            · first
                | (exfalso; omega)
                | (have hP : rpP M0 x2 x3 x4 := by
                     have hq : 0 < mHow M0 x4 := by omega
                     have z1 := hrd hq
                     have z2 : mHow M0 x4 = 2 := by omega
                     exact ⟨z2, ⟨hq, Or.inr ⟨by omega, (bt true).mpr (by assumption)⟩⟩, by omega, by omega⟩
                   have hq : 0 < mHow M0 x4 := by omega
                   have z0 := r60 hq
                   have z1 := (hrd hq).1
                   rw [z1]
                   refine ih _ _ (by omega) (by omega) (fr_up h3 (by decide)) (fun d a b => ?_)
                   by_cases e : d = M0 60 0 x4
                   · rw [e, up3_eq, cn3_t h1 (decide_eq_true ⟨hP, rfl⟩), h4 _ z0.1 z0.2]
                   · rw [up3_nj e, cn3_f h1 (decide_eq_false fun z => e z.2.symm)]
                     exact h4 d a b)
                | (refine ih _ _ (by omega) (by omega) h3 (no fun z => ?_)
                   obtain ⟨z1, ⟨z2, z3⟩, z4, z5⟩ := z
                   rcases z3 with z3 | z3
                   · omega
                   · have z6 := (bt true).mp z3.2
                     have z7 := hrd z2
                     omega)
            · refine ⟨fun c6 => ?_, fun c6 => ?_⟩
              · first
                  | (exfalso; omega)
                  | (have hP : rpP M0 x2 x3 x4 := by
                       have hq : 0 < mHow M0 x4 := by omega
                       have z1 := hrd hq
                       have z2 : mHow M0 x4 = 2 := by omega
                       exact ⟨z2, ⟨hq, Or.inr ⟨by omega, (bt true).mpr (by assumption)⟩⟩, by omega, by omega⟩
                     have hq : 0 < mHow M0 x4 := by omega
                     have z0 := r60 hq
                     have z1 := (hrd hq).1
                     rw [z1]
                     refine ih _ _ (by omega) (by omega) (fr_up h3 (by decide)) (fun d a b => ?_)
                     by_cases e : d = M0 60 0 x4
                     · rw [e, up3_eq, cn3_t h1 (decide_eq_true ⟨hP, rfl⟩), h4 _ z0.1 z0.2]
                     · rw [up3_nj e, cn3_f h1 (decide_eq_false fun z => e z.2.symm)]
                       exact h4 d a b)
                  | (refine ih _ _ (by omega) (by omega) h3 (no fun z => ?_)
                     obtain ⟨z1, ⟨z2, z3⟩, z4, z5⟩ := z
                     rcases z3 with z3 | z3
                     · omega
                     · have z6 := (bt true).mp z3.2
                       have z7 := hrd z2
                       omega)
              · refine ⟨?_, ?_, ?_⟩
                · first | omega | (have z0 := r60 (hw.mp (by assumption)); have z1 := (hrd (hw.mp (by assumption))).1; have z2 := e17 _ z0.1 z0.2; rw [z1]; first | exact z0 | (clear hw hrd r60; omega)) | (exfalso; omega)
                · first | omega | (have z0 := r60 (hw.mp (by assumption)); have z1 := (hrd (hw.mp (by assumption))).1; have z2 := e17 _ z0.1 z0.2; rw [z1]; first | exact z0 | (clear hw hrd r60; omega)) | (exfalso; omega)
                first
                  | (exfalso; omega)
                  | (have hP : rpP M0 x2 x3 x4 := by
                       have hq : 0 < mHow M0 x4 := by omega
                       have z1 := hrd hq
                       have z2 : mHow M0 x4 = 2 := by omega
                       exact ⟨z2, ⟨hq, Or.inr ⟨by omega, (bt true).mpr (by assumption)⟩⟩, by omega, by omega⟩
                     have hq : 0 < mHow M0 x4 := by omega
                     have z0 := r60 hq
                     have z1 := (hrd hq).1
                     rw [z1]
                     refine ih _ _ (by omega) (by omega) (fr_up h3 (by decide)) (fun d a b => ?_)
                     by_cases e : d = M0 60 0 x4
                     · rw [e, up3_eq, cn3_t h1 (decide_eq_true ⟨hP, rfl⟩), h4 _ z0.1 z0.2]
                     · rw [up3_nj e, cn3_f h1 (decide_eq_false fun z => e z.2.symm)]
                       exact h4 d a b)
                  | (refine ih _ _ (by omega) (by omega) h3 (no fun z => ?_)
                     obtain ⟨z1, ⟨z2, z3⟩, z4, z5⟩ := z
                     rcases z3 with z3 | z3
                     · omega
                     · have z6 := (bt true).mp z3.2
                       have z7 := hrd z2
                       omega)
theorem lX2_rp113 {E : E3} {Q : Q3} {M0 : M3} {x1 x2 x3 : Int} (hI : IB M0) (hx : 1 ≤ x1 ∧ x1 ≤ 30) (k : ∀ (N : M3), RM3 N → (∀ q : Nat, q ∉ ([17] : List Nat) → N q = M0 q) → Q (some (vI (mRp M0 x1 x2 x3))) N) : ∀ (n : Nat) (x5 x4 : Int) (M : M3), 0 ≤ x5 → x5 + n = 400 → (∀ q : Nat, q ∉ ([17] : List Nat) → M q = M0 q) → (∀ d : Int, 0 ≤ d → d < 400 → M 17 0 d = cn3 (M0 44 0 18) fun f => decide (rpP M0 x2 x3 f ∧ M0 60 0 f = d)) → x4 = mRpN M0 x2 x3 (x5 - 1) → (∀ d : Int, 0 ≤ d → d < x5 → mRpN M0 x2 x3 d < x1) → G3 E YX2_ripeOn Q 113 [(0, vR 14 0), (1, vI x1), (4, vI x4), (5, vI x5)] [] M := by
  intro n
  induction n with
  | zero =>
    intro x5 x4 M h1 h2 h3 h4 h5 h6
    refine g3_rm fun hM => ?_
    have hn := hI.2.2.2.1.2.1
    have hnow := hI.nowr
    have hd := hI.1.2.2.1
    have r4 := cn3_rg hn.1 (fun f => decide (mHow M0 f = 2 ∧ mPtd M0 f ∧ M0 46 0 (M0 56 0 f) = 1 ∧ (x2 ≤ M0 57 0 f ∧ M0 57 0 f ≤ x3) ∧ M0 60 0 f ≤ x5 - 1))
    have e4 : x4 = cn3 (M0 44 0 18) (fun f => decide (mHow M0 f = 2 ∧ mPtd M0 f ∧ M0 46 0 (M0 56 0 f) = 1 ∧ (x2 ≤ M0 57 0 f ∧ M0 57 0 f ≤ x3) ∧ M0 60 0 f ≤ x5 - 1)) := h5
    refine sX2_ripeOn_113 ?_
    refine ⟨?_, ?_⟩
    · first | omega | (exfalso; omega)
    refine ⟨fun c1 => ?_, fun c1 => ?_⟩
    · first
        | (exfalso; omega)
        | (have k1 := k M hM h3
           rw [mRp_no (by omega) (fun d a b => h6 d a (by omega))] at k1
           exact k1)
    · refine ⟨?_, ?_, ?_, ?_⟩
      · first | omega | (exfalso; omega)
      · first | omega | (exfalso; omega)
      · first | omega | (exfalso; omega)
      refine ⟨fun c2 => ?_, fun c2 => ?_⟩
      · exfalso; omega
      · first
          | (exfalso; omega)
          | (have k1 := k M hM h3
             rw [mRp_no (by omega) (fun d a b => h6 d a (by omega))] at k1
             exact k1)
  | succ n ih =>
    intro x5 x4 M h1 h2 h3 h4 h5 h6
    refine g3_rm fun hM => ?_
    have hn := hI.2.2.2.1.2.1
    have hnow := hI.nowr
    have hd := hI.1.2.2.1
    have r4 := cn3_rg hn.1 (fun f => decide (mHow M0 f = 2 ∧ mPtd M0 f ∧ M0 46 0 (M0 56 0 f) = 1 ∧ (x2 ≤ M0 57 0 f ∧ M0 57 0 f ≤ x3) ∧ M0 60 0 f ≤ x5 - 1))
    have e4 : x4 = cn3 (M0 44 0 18) (fun f => decide (mHow M0 f = 2 ∧ mPtd M0 f ∧ M0 46 0 (M0 56 0 f) = 1 ∧ (x2 ≤ M0 57 0 f ∧ M0 57 0 f ≤ x3) ∧ M0 60 0 f ≤ x5 - 1)) := h5
    have e17 := h4 x5 h1 (by omega)
    have r17 := cn3_rg hn.1 (fun f => decide (rpP M0 x2 x3 f ∧ M0 60 0 f = x5))
    have add : mRpN M0 x2 x3 x5 = x4 + M 17 0 x5 := by
      rw [e17, e4]
      refine cn3_two fun f _ _ => ?_
      simp only [decide_eq_true_eq]
      constructor
      · constructor
        · intro z
          by_cases q : M0 60 0 f = x5
          · exact Or.inr ⟨⟨z.1, z.2.1, z.2.2.1, z.2.2.2.1⟩, q⟩
          · exact Or.inl ⟨z.1, z.2.1, z.2.2.1, z.2.2.2.1, by have := z.2.2.2.2; omega⟩
        · intro z
          rcases z with z | z
          · exact ⟨z.1, z.2.1, z.2.2.1, z.2.2.2.1, by have := z.2.2.2.2; omega⟩
          · exact ⟨z.1.1, z.1.2.1, z.1.2.2.1, z.1.2.2.2, by have := z.2; omega⟩
      · intro z
        have := z.1.2.2.2.2
        have := z.2.2
        omega
    refine sX2_ripeOn_113 ?_
    refine ⟨?_, ?_⟩
    · first | omega | (exfalso; omega)
    refine ⟨fun c1 => ?_, fun c1 => ?_⟩
    · first
        | (exfalso; omega)
        | (have k1 := k M hM h3
           rw [mRp_is (r := x5) hnow.1 h1 (by rw [add]; assumption) h6] at k1
           exact k1)
    · refine ⟨?_, ?_, ?_, ?_⟩
      · first | omega | (exfalso; omega)
      · first | omega | (exfalso; omega)
      · first | omega | (exfalso; omega)
      refine ⟨fun c2 => ?_, fun c2 => ?_⟩
      · first
          | (exfalso; omega)
          | (refine ih _ _ _ (by omega) (by omega) h3 h4 (by rw [show x5 + 1 - 1 = x5 by omega, add]) (fun d a b => ?_)
             by_cases e : d = x5
             · rw [e, add]; assumption
             · exact h6 d a (by omega))
      · first
          | (exfalso; omega)
          | (have k1 := k M hM h3
             rw [mRp_is (r := x5) hnow.1 h1 (by rw [add]; assumption) h6] at k1
             exact k1)
theorem kX2_ripeOn {E : E3} {Q : Q3} {M : M3} {x1 x2 x3 : Int} (h : IA M ∧ (1 ≤ x1 ∧ x1 ≤ 30) ∧ (0 ≤ x2 ∧ x2 ≤ 399) ∧ (0 ≤ x3 ∧ x3 ≤ 399)) (k : ∀ (N : M3), RM3 N → (∀ q : Nat, q ∉ ([17] : List Nat) → N q = M q) → Q (some (vI (mRp M x1 x2 x3))) N) : C3 E YX2_ripeOn [vR 14 0, vI x1, vI x2, vI x3] M Q := by
  have hn := h.1.1.2.2.2.1.2.1
  have e0 : mRpN M x2 x3 (-1) = 0 := cn3_zero.mpr fun f a b => decide_eq_false fun z => by
    obtain ⟨z1, z2, z3, z4, z5⟩ := z
    have q := h.1.1.rd a b z2.1
    have f6 := (h.1.1.f a b).2.2.2.2.2.1 (by omega)
    have f8 := (h.1.1.f a b).2.2.2.2.2.2.2.1
    omega
  exact sX2_ripeOn (lX2_rp3 (fun N a b c => lX2_rp28 (M0 := M) h.1 h.2 (fun N2 a2 b2 c2 => lX2_rp113 (M0 := M) h.1.1 h.2.1 k 400 0 0 N2 (by omega) (by omega) b2 c2 e0.symm (fun d x y => by omega)) (M 44 0 18).toNat 0 N (by omega) (by omega) b (fun d x y => c d x y)) 400 0 M (by omega) (by omega) fr_rf (fun d a b => by omega))
