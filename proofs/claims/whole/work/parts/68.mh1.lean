/-! MODEL: about, form, count -/
def mKnN (M : M3) (x1 : Int) : Int := cn3 (M 44 0 18) fun p => decide (M 56 0 p = x1 ∧ M 57 0 p ≤ mNow M)
theorem lX12_aboutOf_112 {E : E3} {Q : Q3} {M : M3} {x1 : Int} (hz : 0 ≤ M 44 0 18 ∧ M 44 0 18 ≤ 60) (hx : -2147483648 ≤ x1 ∧ x1 ≤ 2147483647) (k : Q (some (vI (mKnN M x1))) M) : ∀ (n : Nat) (x3 x4 : Int), 0 ≤ x4 → x4 + n = M 44 0 18 → x3 = cn3 x4 (fun p => decide (M 56 0 p = x1 ∧ M 57 0 p ≤ mNow M)) → G3 E YX12_aboutOf Q 112 [(0, vR 44 0), (1, vI x1), (3, vI x3), (4, vI x4)] [] M := by
  intro n
  induction n with
  | zero =>
    intro x3 x4 h1 h2 h3
    skip
    refine sX12_aboutOf_112 ?_
    refine ⟨?_, ?_⟩
    · first | omega | (exfalso; omega)
    refine ⟨fun c1 => ?_, fun c1 => ?_⟩
    · first | (exfalso; omega) | (rw [h3, show x4 = M 44 0 18 by omega]; exact k)
    · refine ⟨?_, ?_, ?_⟩
      · first | omega | (exfalso; omega)
      · first | omega | (exfalso; omega)
      refine ⟨fun c2 => ?_, fun c2 => ?_⟩
      · exfalso; omega
      · refine ⟨fun c3 => ?_, fun c3 => ?_⟩
        · exfalso; omega
        · exfalso; omega
  | succ n ih =>
    intro x3 x4 h1 h2 h3
    skip
    refine sX12_aboutOf_112 ?_
    refine ⟨?_, ?_⟩
    · first | omega | (exfalso; omega)
    refine ⟨fun c1 => ?_, fun c1 => ?_⟩
    · exfalso; omega
    · refine ⟨?_, ?_, ?_⟩
      · first | omega | (exfalso; omega)
      · first | omega | (exfalso; omega)
      refine ⟨fun c2 => ?_, fun c2 => ?_⟩
      · first
        | (exfalso; omega)
        | (refine ih _ _ (by omega) (by omega) ?_
           rw [cn3_s h1, h3]
           by_cases hP : (M 56 0 x4 = x1 ∧ M 57 0 x4 ≤ mNow M)
           · rw [if_pos (decide_eq_true hP)] <;> omega
           · rw [if_neg (fun q => hP (of_decide_eq_true q))] <;> omega)
      · refine ⟨fun c3 => ?_, fun c3 => ?_⟩
        · first
          | (exfalso; omega)
          | (refine ih _ _ (by omega) (by omega) ?_
             rw [cn3_s h1, h3]
             by_cases hP : (M 56 0 x4 = x1 ∧ M 57 0 x4 ≤ mNow M)
             · rw [if_pos (decide_eq_true hP)] <;> omega
             · rw [if_neg (fun q => hP (of_decide_eq_true q))] <;> omega)
        · first
          | (exfalso; omega)
          | (refine ih _ _ (by omega) (by omega) ?_
             rw [cn3_s h1, h3]
             by_cases hP : (M 56 0 x4 = x1 ∧ M 57 0 x4 ≤ mNow M)
             · rw [if_pos (decide_eq_true hP)] <;> omega
             · rw [if_neg (fun q => hP (of_decide_eq_true q))] <;> omega)
def mAb (M : M3) (p w : Int) : Int := if w = 0 then (if M 50 0 p < 3 then M 45 0 p else -1) else if w = 1 then M 46 0 p else if w = 2 then M 47 0 p else if w = 3 then M 48 0 p else if w = 4 then M 49 0 p else if w = 5 then M 50 0 p else if w = 6 then M 51 0 p else if w = 7 then mKnN M p else -2
theorem mAb_rg {M : M3} (hM : RM3 M) (p w : Int) : -2147483648 ≤ mAb M p w ∧ mAb M p w ≤ 2147483647 := by
  have h1 := hM 45 0 p
  have h2 := hM 46 0 p
  have h3 := hM 47 0 p
  have h4 := hM 48 0 p
  have h5 := hM 49 0 p
  have h6 := hM 50 0 p
  have h7 := hM 51 0 p
  have h8 : -2147483648 ≤ mKnN M p ∧ mKnN M p ≤ 2147483647 := by
    have a := hM 44 0 18
    by_cases q : 0 ≤ M 44 0 18
    · have b : 0 ≤ mKnN M p ∧ mKnN M p ≤ M 44 0 18 := cn3_rg q _
      omega
    · have b : mKnN M p = 0 := cn3_neg (by omega) _
      omega
  unfold mAb
  repeat (first | split | omega)
theorem kX12_aboutOf {E : E3} {Q : Q3} {M : M3} {x1 x2 : Int} (h : (0 ≤ M 44 0 18 ∧ M 44 0 18 ≤ 60) ∧ (0 ≤ x1 ∧ x1 < 48) ∧ (-2147483648 ≤ x2 ∧ x2 ≤ 2147483647)) (k : Q (some (vI (mAb M x1 x2))) M) : C3 E YX12_aboutOf [vR 44 0, vI x1, vI x2] M Q := by
  obtain ⟨h1, h2, h3⟩ := h
  unfold mAb at k
  refine sX12_aboutOf ?_
  refine ⟨?_, ?_⟩
  · omega
  refine ⟨fun c1 => ?_, fun c1 => ?_⟩
  · refine ⟨?_, ?_⟩
    · omega
    refine ⟨fun c2 => ?_, fun c2 => ?_⟩
    · (repeat (first | rw [if_pos (by first | omega | assumption)] at k | rw [if_neg (by first | omega | assumption)] at k)
       exact k)
    · (repeat (first | rw [if_pos (by first | omega | assumption)] at k | rw [if_neg (by first | omega | assumption)] at k)
       exact k)
  · refine ⟨fun c2 => ?_, fun c2 => ?_⟩
    · refine ⟨?_, ?_⟩
      · omega
      (repeat (first | rw [if_pos (by first | omega | assumption)] at k | rw [if_neg (by first | omega | assumption)] at k)
       exact k)
    · refine ⟨fun c3 => ?_, fun c3 => ?_⟩
      · refine ⟨?_, ?_⟩
        · omega
        (repeat (first | rw [if_pos (by first | omega | assumption)] at k | rw [if_neg (by first | omega | assumption)] at k)
         exact k)
      · refine ⟨fun c4 => ?_, fun c4 => ?_⟩
        · refine ⟨?_, ?_⟩
          · omega
          (repeat (first | rw [if_pos (by first | omega | assumption)] at k | rw [if_neg (by first | omega | assumption)] at k)
           exact k)
        · refine ⟨fun c5 => ?_, fun c5 => ?_⟩
          · refine ⟨?_, ?_⟩
            · omega
            (repeat (first | rw [if_pos (by first | omega | assumption)] at k | rw [if_neg (by first | omega | assumption)] at k)
             exact k)
          · refine ⟨fun c6 => ?_, fun c6 => ?_⟩
            · refine ⟨?_, ?_⟩
              · omega
              (repeat (first | rw [if_pos (by first | omega | assumption)] at k | rw [if_neg (by first | omega | assumption)] at k)
               exact k)
            · refine ⟨fun c7 => ?_, fun c7 => ?_⟩
              · refine ⟨?_, ?_⟩
                · omega
                (repeat (first | rw [if_pos (by first | omega | assumption)] at k | rw [if_neg (by first | omega | assumption)] at k)
                 exact k)
              · refine ⟨fun c8 => ?_, fun c8 => ?_⟩
                · (repeat (first | rw [if_pos (by first | omega | assumption)] at k | rw [if_neg (by first | omega | assumption)] at k)
                   exact lX12_aboutOf_112 h1 (by omega) k (M 44 0 18).toNat 0 0 (by omega) (by omega) rfl)
                · (repeat (first | rw [if_pos (by first | omega | assumption)] at k | rw [if_neg (by first | omega | assumption)] at k)
                   exact k)
def mEmp (M : M3) (x1 : Int) : Int := cn3 (20) fun p => decide (M 59 0 (20 * x1 + p) = -1)
theorem lX12_formOf_106 {E : E3} {Q : Q3} {M : M3} {x1 : Int} (hz : 0 ≤ x1 ∧ x1 < 60) (k : Q (some (vI (mEmp M x1))) M) : ∀ (n : Nat) (x4 x5 : Int), 0 ≤ x5 → x5 + n = 20 → x4 = cn3 x5 (fun p => decide (M 59 0 (20 * x1 + p) = -1)) → G3 E YX12_formOf Q 106 [(0, vR 44 0), (1, vI x1), (4, vI x4), (5, vI x5)] [] M := by
  intro n
  induction n with
  | zero =>
    intro x4 x5 h1 h2 h3
    skip
    refine sX12_formOf_106 ?_
    refine ⟨?_, ?_⟩
    · first | omega | (exfalso; omega)
    refine ⟨fun c1 => ?_, fun c1 => ?_⟩
    · first | (exfalso; omega) | (rw [h3, show x5 = 20 by omega]; exact k)
    · refine ⟨?_, ?_⟩
      · first | omega | (exfalso; omega)
      refine ⟨fun c2 => ?_, fun c2 => ?_⟩
      · exfalso; omega
      · exfalso; omega
  | succ n ih =>
    intro x4 x5 h1 h2 h3
    skip
    refine sX12_formOf_106 ?_
    refine ⟨?_, ?_⟩
    · first | omega | (exfalso; omega)
    refine ⟨fun c1 => ?_, fun c1 => ?_⟩
    · exfalso; omega
    · refine ⟨?_, ?_⟩
      · first | omega | (exfalso; omega)
      refine ⟨fun c2 => ?_, fun c2 => ?_⟩
      · first
        | (exfalso; omega)
        | (refine ih _ _ (by omega) (by omega) ?_
           rw [cn3_s h1, h3]
           by_cases hP : (M 59 0 (20 * x1 + x5) = -1)
           · rw [if_pos (decide_eq_true hP)] <;> omega
           · rw [if_neg (fun q => hP (of_decide_eq_true q))] <;> omega)
      · first
        | (exfalso; omega)
        | (refine ih _ _ (by omega) (by omega) ?_
           rw [cn3_s h1, h3]
           by_cases hP : (M 59 0 (20 * x1 + x5) = -1)
           · rw [if_pos (decide_eq_true hP)] <;> omega
           · rw [if_neg (fun q => hP (of_decide_eq_true q))] <;> omega)
def mFo (M : M3) (f w : Int) : Int := if w = 0 then M 56 0 f else if w = 1 then M 57 0 f else if w = 2 then M 58 0 f else if w = 3 then mRights M f else if w = 4 then mEmp M f else if w = 5 then (if mByT M f then 1 else 0) else if w = 6 then (if 0 < mHow M f then M 60 0 f else -1) else if w = 7 then (if 0 < mHow M f then M 61 0 f else -1) else if w = 8 then mHow M f else if w = 9 then (if 0 < mHow M f then M 63 0 f else -1) else if w = 10 then mTrue M f else (if mLate M f then 1 else 0)
theorem mEmp_e {M N : M3} (e : Em M N) (f : Int) : mEmp N f = mEmp M f := by unfold mEmp; rw [e.1 59 (by decide)]
theorem mLate_e {M N : M3} (e : Em M N) (f : Int) : mLate N f ↔ mLate M f := by simp only [mLate, e.L, mEnd_e e, e.1 57 (by decide)]
theorem mFo_e {M N : M3} (e : Em M N) (f w : Int) : mFo N f w = mFo M f w := by
  unfold mFo
  simp only [e.1 56 (by decide), e.1 57 (by decide), e.1 58 (by decide), mRights_e e, mEmp_e e, mByT_e e, mHow_e e, e.1 60 (by decide), e.1 61 (by decide), e.1 63 (by decide), mTrue_e e, mLate_e e]
theorem kX12_formOf {E : E3} {Q : Q3} {M : M3} {x1 x2 : Int} (h : RdC M ∧ okR M x1 ∧ (-2147483648 ≤ x2 ∧ x2 ≤ 2147483647)) (k : ∀ (N : M3), RM3 N → Em M N → RdC N → Q (some (vI (mFo M x1 x2))) N) : C3 E YX12_formOf [vR 44 0, vI x1, vI x2] M Q := by
  refine c3_rm fun hM => ?_
  obtain ⟨hR, h2, h3⟩ := h
  have h1 := h2.1.1
  unfold mFo at k
  refine sX12_formOf ?_
  refine ⟨?_, ?_⟩
  · first | omega | exact ⟨hR, h2.1⟩ | exact ⟨hR, h2⟩
  refine ⟨fun c1 => ?_, fun c1 => ?_⟩
  · refine ⟨?_, ?_⟩
    · first | omega | exact ⟨hR, h2.1⟩ | exact ⟨hR, h2⟩
    refine ⟨fun c2 => ?_, fun c2 => ?_⟩
    · (have k1 := k M hM Em.rf (by first | exact h.1 | exact hR)
       repeat (first | rw [if_pos (by first | omega | assumption)] at k1 | rw [if_neg (by first | omega | assumption)] at k1)
       exact k1)
    · refine ⟨fun c3 => ?_, fun c3 => ?_⟩
      · (have k1 := k M hM Em.rf (by first | exact h.1 | exact hR)
         repeat (first | rw [if_pos (by first | omega | assumption)] at k1 | rw [if_neg (by first | omega | assumption)] at k1)
         exact k1)
      · refine ⟨fun c4 => ?_, fun c4 => ?_⟩
        · (have k1 := k M hM Em.rf (by first | exact h.1 | exact hR)
           repeat (first | rw [if_pos (by first | omega | assumption)] at k1 | rw [if_neg (by first | omega | assumption)] at k1)
           exact k1)
        · refine ⟨fun c5 => ?_, fun c5 => ?_⟩
          · refine ⟨?_, ?_⟩
            · first | omega | exact ⟨hR, h2.1⟩ | exact ⟨hR, h2⟩
            intro N1 hN1 he1 hp1
            (have k1 := k N1 hN1 (Em.tr Em.rf he1) (by first | exact hp1 | exact hR)
             repeat (first | rw [if_pos (by first | omega | assumption)] at k1 | rw [if_neg (by first | omega | assumption)] at k1)
             exact k1)
          · refine ⟨fun c6 => ?_, fun c6 => ?_⟩
            · (have k1 := k M hM Em.rf hR
               repeat (first | rw [if_pos (by first | omega | assumption)] at k1 | rw [if_neg (by first | omega | assumption)] at k1)
               exact lX12_formOf_106 h1 k1 20 0 0 (by omega) (by omega) rfl)
            · refine ⟨fun c7 => ?_, fun c7 => ?_⟩
              · refine ⟨?_, ?_⟩
                · first | omega | exact ⟨hR, h2.1⟩ | exact ⟨hR, h2⟩
                intro N1 hN1 he1 hp1
                refine ⟨fun c8 => ?_, fun c8 => ?_⟩
                · (have k1 := k N1 hN1 (Em.tr Em.rf he1) (by first | exact hp1 | exact hR)
                   repeat (first | rw [if_pos (by first | omega | assumption)] at k1 | rw [if_neg (by first | omega | assumption)] at k1)
                   exact k1)
                · (have k1 := k N1 hN1 (Em.tr Em.rf he1) (by first | exact hp1 | exact hR)
                   repeat (first | rw [if_pos (by first | omega | assumption)] at k1 | rw [if_neg (by first | omega | assumption)] at k1)
                   exact k1)
              · refine ⟨fun c8 => ?_, fun c8 => ?_⟩
                · (have k1 := k M hM Em.rf (by first | exact h.1 | exact hR)
                   repeat (first | rw [if_pos (by first | omega | assumption)] at k1 | rw [if_neg (by first | omega | assumption)] at k1)
                   exact k1)
                · refine ⟨fun c9 => ?_, fun c9 => ?_⟩
                  · (have k1 := k M hM Em.rf (by first | exact h.1 | exact hR)
                     repeat (first | rw [if_pos (by first | omega | assumption)] at k1 | rw [if_neg (by first | omega | assumption)] at k1)
                     exact k1)
                  · refine ⟨fun c10 => ?_, fun c10 => ?_⟩
                    · (have k1 := k M hM Em.rf (by first | exact h.1 | exact hR)
                       repeat (first | rw [if_pos (by first | omega | assumption)] at k1 | rw [if_neg (by first | omega | assumption)] at k1)
                       exact k1)
                    · refine ⟨fun c11 => ?_, fun c11 => ?_⟩
                      · (have k1 := k M hM Em.rf (by first | exact h.1 | exact hR)
                         repeat (first | rw [if_pos (by first | omega | assumption)] at k1 | rw [if_neg (by first | omega | assumption)] at k1)
                         exact k1)
                      · refine ⟨fun c12 => ?_, fun c12 => ?_⟩
                        · refine ⟨?_, ?_⟩
                          · first | omega | exact ⟨hR, h2.1⟩ | exact ⟨hR, h2⟩
                          intro N1 hN1 he1 hp1
                          (have k1 := k N1 hN1 (Em.tr Em.rf he1) (by first | exact hp1 | exact hR)
                           repeat (first | rw [if_pos (by first | omega | assumption)] at k1 | rw [if_neg (by first | omega | assumption)] at k1)
                           exact k1)
                        · refine ⟨?_, ?_⟩
                          · first | omega | exact ⟨hR, h2.1⟩ | exact ⟨hR, h2⟩
                          intro N1 hN1 he1 hp1
                          refine ⟨fun c13 => ?_, fun c13 => ?_⟩
                          · (have k1 := k N1 hN1 (Em.tr Em.rf he1) (by first | exact hp1 | exact hR)
                             repeat (first | rw [if_pos (by first | omega | assumption)] at k1 | rw [if_neg (by first | omega | assumption)] at k1)
                             exact k1)
                          · (have k1 := k N1 hN1 (Em.tr Em.rf he1) (by first | exact hp1 | exact hR)
                             repeat (first | rw [if_pos (by first | omega | assumption)] at k1 | rw [if_neg (by first | omega | assumption)] at k1)
                             exact k1)
  · refine ⟨?_, ?_⟩
    · first | omega | exact ⟨hR, h2.1⟩ | exact ⟨hR, h2⟩
    refine ⟨fun c2 => ?_, fun c2 => ?_⟩
    · (have k1 := k M hM Em.rf (by first | exact h.1 | exact hR)
       repeat (first | rw [if_pos (by first | omega | assumption)] at k1 | rw [if_neg (by first | omega | assumption)] at k1)
       exact k1)
    · refine ⟨fun c3 => ?_, fun c3 => ?_⟩
      · (have k1 := k M hM Em.rf (by first | exact h.1 | exact hR)
         repeat (first | rw [if_pos (by first | omega | assumption)] at k1 | rw [if_neg (by first | omega | assumption)] at k1)
         exact k1)
      · refine ⟨fun c4 => ?_, fun c4 => ?_⟩
        · (have k1 := k M hM Em.rf (by first | exact h.1 | exact hR)
           repeat (first | rw [if_pos (by first | omega | assumption)] at k1 | rw [if_neg (by first | omega | assumption)] at k1)
           exact k1)
        · refine ⟨fun c5 => ?_, fun c5 => ?_⟩
          · refine ⟨?_, ?_⟩
            · first | omega | exact ⟨hR, h2.1⟩ | exact ⟨hR, h2⟩
            intro N1 hN1 he1 hp1
            (have k1 := k N1 hN1 (Em.tr Em.rf he1) (by first | exact hp1 | exact hR)
             repeat (first | rw [if_pos (by first | omega | assumption)] at k1 | rw [if_neg (by first | omega | assumption)] at k1)
             exact k1)
          · refine ⟨fun c6 => ?_, fun c6 => ?_⟩
            · (have k1 := k M hM Em.rf hR
               repeat (first | rw [if_pos (by first | omega | assumption)] at k1 | rw [if_neg (by first | omega | assumption)] at k1)
               exact lX12_formOf_106 h1 k1 20 0 0 (by omega) (by omega) rfl)
            · refine ⟨fun c7 => ?_, fun c7 => ?_⟩
              · refine ⟨?_, ?_⟩
                · first | omega | exact ⟨hR, h2.1⟩ | exact ⟨hR, h2⟩
                intro N1 hN1 he1 hp1
                refine ⟨fun c8 => ?_, fun c8 => ?_⟩
                · (have k1 := k N1 hN1 (Em.tr Em.rf he1) (by first | exact hp1 | exact hR)
                   repeat (first | rw [if_pos (by first | omega | assumption)] at k1 | rw [if_neg (by first | omega | assumption)] at k1)
                   exact k1)
                · (have k1 := k N1 hN1 (Em.tr Em.rf he1) (by first | exact hp1 | exact hR)
                   repeat (first | rw [if_pos (by first | omega | assumption)] at k1 | rw [if_neg (by first | omega | assumption)] at k1)
                   exact k1)
              · refine ⟨fun c8 => ?_, fun c8 => ?_⟩
                · (have k1 := k M hM Em.rf (by first | exact h.1 | exact hR)
                   repeat (first | rw [if_pos (by first | omega | assumption)] at k1 | rw [if_neg (by first | omega | assumption)] at k1)
                   exact k1)
                · refine ⟨fun c9 => ?_, fun c9 => ?_⟩
                  · (have k1 := k M hM Em.rf (by first | exact h.1 | exact hR)
                     repeat (first | rw [if_pos (by first | omega | assumption)] at k1 | rw [if_neg (by first | omega | assumption)] at k1)
                     exact k1)
                  · refine ⟨fun c10 => ?_, fun c10 => ?_⟩
                    · (have k1 := k M hM Em.rf (by first | exact h.1 | exact hR)
                       repeat (first | rw [if_pos (by first | omega | assumption)] at k1 | rw [if_neg (by first | omega | assumption)] at k1)
                       exact k1)
                    · refine ⟨fun c11 => ?_, fun c11 => ?_⟩
                      · (have k1 := k M hM Em.rf (by first | exact h.1 | exact hR)
                         repeat (first | rw [if_pos (by first | omega | assumption)] at k1 | rw [if_neg (by first | omega | assumption)] at k1)
                         exact k1)
                      · refine ⟨fun c12 => ?_, fun c12 => ?_⟩
                        · refine ⟨?_, ?_⟩
                          · first | omega | exact ⟨hR, h2.1⟩ | exact ⟨hR, h2⟩
                          intro N1 hN1 he1 hp1
                          (have k1 := k N1 hN1 (Em.tr Em.rf he1) (by first | exact hp1 | exact hR)
                           repeat (first | rw [if_pos (by first | omega | assumption)] at k1 | rw [if_neg (by first | omega | assumption)] at k1)
                           exact k1)
                        · refine ⟨?_, ?_⟩
                          · first | omega | exact ⟨hR, h2.1⟩ | exact ⟨hR, h2⟩
                          intro N1 hN1 he1 hp1
                          refine ⟨fun c13 => ?_, fun c13 => ?_⟩
                          · (have k1 := k N1 hN1 (Em.tr Em.rf he1) (by first | exact hp1 | exact hR)
                             repeat (first | rw [if_pos (by first | omega | assumption)] at k1 | rw [if_neg (by first | omega | assumption)] at k1)
                             exact k1)
                          · (have k1 := k N1 hN1 (Em.tr Em.rf he1) (by first | exact hp1 | exact hR)
                             repeat (first | rw [if_pos (by first | omega | assumption)] at k1 | rw [if_neg (by first | omega | assumption)] at k1)
                             exact k1)
theorem eX12_formOf {E : E3} {Q : Q3} {M0 M : M3} {x1 x2 : Int} (e : Em M0 M) (h : RdC M ∧ okR M0 x1 ∧ (-2147483648 ≤ x2 ∧ x2 ≤ 2147483647)) (k : ∀ (N : M3), RM3 N → Em M N → RdC N → Q (some (vI (mFo M0 x1 x2))) N) : C3 E YX12_formOf [vR 44 0, vI x1, vI x2] M Q :=
  kX12_formOf ⟨h.1, okR_e e h.2.1, h.2.2⟩ (fun N a b d => by rw [mFo_e e]; exact k N a b d)
def mCk (M : M3) : Int := cn3 (M 44 0 18) fun p => decide (M 57 0 p ≤ mNow M)
theorem lX12_count_76 {E : E3} {Q : Q3} {M : M3} (hz : 0 ≤ M 44 0 18 ∧ M 44 0 18 ≤ 60) (k : Q (some (vI (mCk M))) M) : ∀ (n : Nat) (x2 x3 : Int), 0 ≤ x3 → x3 + n = M 44 0 18 → x2 = cn3 x3 (fun p => decide (M 57 0 p ≤ mNow M)) → G3 E YX12_count Q 76 [(0, vR 44 0), (2, vI x2), (3, vI x3)] [] M := by
  intro n
  induction n with
  | zero =>
    intro x2 x3 h1 h2 h3
    skip
    refine sX12_count_76 ?_
    refine ⟨?_, ?_⟩
    · first | omega | (exfalso; omega)
    refine ⟨fun c1 => ?_, fun c1 => ?_⟩
    · first | (exfalso; omega) | (rw [h3, show x3 = M 44 0 18 by omega]; exact k)
    · refine ⟨?_, ?_⟩
      · first | omega | (exfalso; omega)
      refine ⟨fun c2 => ?_, fun c2 => ?_⟩
      · exfalso; omega
      · exfalso; omega
  | succ n ih =>
    intro x2 x3 h1 h2 h3
    skip
    refine sX12_count_76 ?_
    refine ⟨?_, ?_⟩
    · first | omega | (exfalso; omega)
    refine ⟨fun c1 => ?_, fun c1 => ?_⟩
    · exfalso; omega
    · refine ⟨?_, ?_⟩
      · first | omega | (exfalso; omega)
      refine ⟨fun c2 => ?_, fun c2 => ?_⟩
      · first
        | (exfalso; omega)
        | (refine ih _ _ (by omega) (by omega) ?_
           rw [cn3_s h1, h3]
           by_cases hP : (M 57 0 x3 ≤ mNow M)
           · rw [if_pos (decide_eq_true hP)] <;> omega
           · rw [if_neg (fun q => hP (of_decide_eq_true q))] <;> omega)
      · first
        | (exfalso; omega)
        | (refine ih _ _ (by omega) (by omega) ?_
           rw [cn3_s h1, h3]
           by_cases hP : (M 57 0 x3 ≤ mNow M)
           · rw [if_pos (decide_eq_true hP)] <;> omega
           · rw [if_neg (fun q => hP (of_decide_eq_true q))] <;> omega)
def mCr (M : M3) : Int := cn3 (M 44 0 18) fun p => decide (0 < mHow M p)
theorem lX12_count_110 {E : E3} {Q : Q3} {M : M3} (hz : 0 ≤ M 44 0 18 ∧ M 44 0 18 ≤ 60) (k : Q (some (vI (mCr M))) M) : ∀ (n : Nat) (x2 x3 : Int), 0 ≤ x3 → x3 + n = M 44 0 18 → x2 = cn3 x3 (fun p => decide (0 < mHow M p)) → G3 E YX12_count Q 110 [(0, vR 44 0), (2, vI x2), (3, vI x3)] [] M := by
  intro n
  induction n with
  | zero =>
    intro x2 x3 h1 h2 h3
    skip
    refine sX12_count_110 ?_
    refine ⟨?_, ?_⟩
    · first | omega | (exfalso; omega)
    refine ⟨fun c1 => ?_, fun c1 => ?_⟩
    · first | (exfalso; omega) | (rw [h3, show x3 = M 44 0 18 by omega]; exact k)
    · refine ⟨?_, ?_⟩
      · first | omega | (exfalso; omega)
      refine ⟨fun c2 => ?_, fun c2 => ?_⟩
      · exfalso; omega
      · exfalso; omega
  | succ n ih =>
    intro x2 x3 h1 h2 h3
    skip
    refine sX12_count_110 ?_
    refine ⟨?_, ?_⟩
    · first | omega | (exfalso; omega)
    refine ⟨fun c1 => ?_, fun c1 => ?_⟩
    · exfalso; omega
    · refine ⟨?_, ?_⟩
      · first | omega | (exfalso; omega)
      refine ⟨fun c2 => ?_, fun c2 => ?_⟩
      · first
        | (exfalso; omega)
        | (refine ih _ _ (by omega) (by omega) ?_
           rw [cn3_s h1, h3]
           by_cases hP : (0 < mHow M x3)
           · rw [if_pos (decide_eq_true hP)] <;> omega
           · rw [if_neg (fun q => hP (of_decide_eq_true q))] <;> omega)
      · first
        | (exfalso; omega)
        | (refine ih _ _ (by omega) (by omega) ?_
           rw [cn3_s h1, h3]
           by_cases hP : (0 < mHow M x3)
           · rw [if_pos (decide_eq_true hP)] <;> omega
           · rw [if_neg (fun q => hP (of_decide_eq_true q))] <;> omega)
def mCt (M : M3) (w : Int) : Int := if w = 0 then M 44 0 0 else if w = 1 then M 44 0 1 else if w = 2 then mRoll M (-1) (-1) 1 else if w = 3 then mCk M else if w = 4 then mCr M else if w = 5 then M 44 0 39 else if w = 6 then M 44 0 32 else if w = 7 then M 44 0 44 else if w = 8 then M 44 0 9 else if w = 9 then M 44 0 58 else -2
theorem kX12_count {E : E3} {Q : Q3} {M : M3} {x1 : Int} (h : (0 ≤ M 44 0 18 ∧ M 44 0 18 ≤ 60) ∧ (0 ≤ M 44 0 1 ∧ M 44 0 1 ≤ 48) ∧ (-2147483648 ≤ x1 ∧ x1 ≤ 2147483647)) (k : Q (some (vI (mCt M x1))) M) : C3 E YX12_count [vR 44 0, vI x1] M Q := by
  obtain ⟨h1, h2, h3⟩ := h
  unfold mCt at k
  refine sX12_count ?_
  refine ⟨?_, ?_⟩
  · omega
  refine ⟨fun c1 => ?_, fun c1 => ?_⟩
  · (repeat (first | rw [if_pos (by first | omega | assumption)] at k | rw [if_neg (by first | omega | assumption)] at k)
     exact k)
  · refine ⟨fun c2 => ?_, fun c2 => ?_⟩
    · (repeat (first | rw [if_pos (by first | omega | assumption)] at k | rw [if_neg (by first | omega | assumption)] at k)
       exact k)
    · refine ⟨fun c3 => ?_, fun c3 => ?_⟩
      · refine ⟨?_, ?_⟩
        · omega
        (repeat (first | rw [if_pos (by first | omega | assumption)] at k | rw [if_neg (by first | omega | assumption)] at k)
         exact k)
      · refine ⟨fun c4 => ?_, fun c4 => ?_⟩
        · (repeat (first | rw [if_pos (by first | omega | assumption)] at k | rw [if_neg (by first | omega | assumption)] at k)
           exact lX12_count_76 h1 k (M 44 0 18).toNat 0 0 (by omega) (by omega) rfl)
        · refine ⟨fun c5 => ?_, fun c5 => ?_⟩
          · (repeat (first | rw [if_pos (by first | omega | assumption)] at k | rw [if_neg (by first | omega | assumption)] at k)
             exact lX12_count_110 h1 k (M 44 0 18).toNat 0 0 (by omega) (by omega) rfl)
          · refine ⟨fun c6 => ?_, fun c6 => ?_⟩
            · (repeat (first | rw [if_pos (by first | omega | assumption)] at k | rw [if_neg (by first | omega | assumption)] at k)
               exact k)
            · refine ⟨fun c7 => ?_, fun c7 => ?_⟩
              · (repeat (first | rw [if_pos (by first | omega | assumption)] at k | rw [if_neg (by first | omega | assumption)] at k)
                 exact k)
              · refine ⟨fun c8 => ?_, fun c8 => ?_⟩
                · (repeat (first | rw [if_pos (by first | omega | assumption)] at k | rw [if_neg (by first | omega | assumption)] at k)
                   exact k)
                · refine ⟨fun c9 => ?_, fun c9 => ?_⟩
                  · (repeat (first | rw [if_pos (by first | omega | assumption)] at k | rw [if_neg (by first | omega | assumption)] at k)
                     exact k)
                  · refine ⟨fun c10 => ?_, fun c10 => ?_⟩
                    · (repeat (first | rw [if_pos (by first | omega | assumption)] at k | rw [if_neg (by first | omega | assumption)] at k)
                       exact k)
                    · (repeat (first | rw [if_pos (by first | omega | assumption)] at k | rw [if_neg (by first | omega | assumption)] at k)
                       exact k)
