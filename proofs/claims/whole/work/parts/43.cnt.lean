/-! COUNTS of class and model -/
def mRoll (M : M3) (x1 x2 x3 : Int) : Int := cn3 (M 44 0 1) fun p => decide (M 50 0 p = x3 ∧ (x1 = -1 ∨ M 45 0 p = x1) ∧ (x2 = -1 ∨ M 46 0 p = x2))
theorem lX12_rollOf_6 {E : E3} {Q : Q3} {M : M3} {x1 x2 x3 : Int} (hz : 0 ≤ M 44 0 1 ∧ M 44 0 1 ≤ 48) (hx : ((-2147483648 ≤ x1 ∧ x1 ≤ 2147483647) ∧ (-2147483648 ≤ x2 ∧ x2 ≤ 2147483647) ∧ (-2147483648 ≤ x3 ∧ x3 ≤ 2147483647))) (k : Q (some (vI (mRoll M x1 x2 x3))) M) : ∀ (n : Nat) (x4 x5 : Int), 0 ≤ x5 → x5 + n = M 44 0 1 → x4 = cn3 x5 (fun p => decide (M 50 0 p = x3 ∧ (x1 = -1 ∨ M 45 0 p = x1) ∧ (x2 = -1 ∨ M 46 0 p = x2))) → G3 E YX12_rollOf Q 6 [(0, vR 44 0), (1, vI x1), (2, vI x2), (3, vI x3), (4, vI x4), (5, vI x5)] [] M := by
  intro n
  induction n with
  | zero =>
    intro x4 x5 h1 h2 h3
    skip
    refine sX12_rollOf_6 ?_
    refine ⟨?_, ?_⟩
    · first | omega | (exfalso; omega)
    refine ⟨fun c1 => ?_, fun c1 => ?_⟩
    · first | (exfalso; omega) | (rw [h3, show x5 = M 44 0 1 by omega]; exact k)
    · refine ⟨?_, ?_, ?_⟩
      · first | omega | (exfalso; omega)
      · first | omega | (exfalso; omega)
      refine ⟨fun c2 => ?_, fun c2 => ?_⟩
      · exfalso; omega
      · refine ⟨?_, ?_⟩
        · first | omega | (exfalso; omega)
        refine ⟨fun c3 => ?_, fun c3 => ?_⟩
        · refine ⟨?_, ?_⟩
          · first | omega | (exfalso; omega)
          refine ⟨fun c4 => ?_, fun c4 => ?_⟩
          · exfalso; omega
          · refine ⟨fun c5 => ?_, fun c5 => ?_⟩
            · exfalso; omega
            · exfalso; omega
        · refine ⟨fun c4 => ?_, fun c4 => ?_⟩
          · exfalso; omega
          · refine ⟨?_, ?_⟩
            · first | omega | (exfalso; omega)
            refine ⟨fun c5 => ?_, fun c5 => ?_⟩
            · exfalso; omega
            · refine ⟨fun c6 => ?_, fun c6 => ?_⟩
              · exfalso; omega
              · exfalso; omega
  | succ n ih =>
    intro x4 x5 h1 h2 h3
    skip
    refine sX12_rollOf_6 ?_
    refine ⟨?_, ?_⟩
    · first | omega | (exfalso; omega)
    refine ⟨fun c1 => ?_, fun c1 => ?_⟩
    · exfalso; omega
    · refine ⟨?_, ?_, ?_⟩
      · first | omega | (exfalso; omega)
      · first | omega | (exfalso; omega)
      refine ⟨fun c2 => ?_, fun c2 => ?_⟩
      · first
        | (exfalso; omega)
        | (refine ih _ _ (by omega) (by omega) ?_
           rw [cn3_s h1, h3]
           by_cases hP : (M 50 0 x5 = x3 ∧ (x1 = -1 ∨ M 45 0 x5 = x1) ∧ (x2 = -1 ∨ M 46 0 x5 = x2))
           · rw [if_pos (decide_eq_true hP)] <;> omega
           · rw [if_neg (fun q => hP (of_decide_eq_true q))] <;> omega)
      · refine ⟨?_, ?_⟩
        · first | omega | (exfalso; omega)
        refine ⟨fun c3 => ?_, fun c3 => ?_⟩
        · refine ⟨?_, ?_⟩
          · first | omega | (exfalso; omega)
          refine ⟨fun c4 => ?_, fun c4 => ?_⟩
          · first
            | (exfalso; omega)
            | (refine ih _ _ (by omega) (by omega) ?_
               rw [cn3_s h1, h3]
               by_cases hP : (M 50 0 x5 = x3 ∧ (x1 = -1 ∨ M 45 0 x5 = x1) ∧ (x2 = -1 ∨ M 46 0 x5 = x2))
               · rw [if_pos (decide_eq_true hP)] <;> omega
               · rw [if_neg (fun q => hP (of_decide_eq_true q))] <;> omega)
          · refine ⟨fun c5 => ?_, fun c5 => ?_⟩
            · first
              | (exfalso; omega)
              | (refine ih _ _ (by omega) (by omega) ?_
                 rw [cn3_s h1, h3]
                 by_cases hP : (M 50 0 x5 = x3 ∧ (x1 = -1 ∨ M 45 0 x5 = x1) ∧ (x2 = -1 ∨ M 46 0 x5 = x2))
                 · rw [if_pos (decide_eq_true hP)] <;> omega
                 · rw [if_neg (fun q => hP (of_decide_eq_true q))] <;> omega)
            · first
              | (exfalso; omega)
              | (refine ih _ _ (by omega) (by omega) ?_
                 rw [cn3_s h1, h3]
                 by_cases hP : (M 50 0 x5 = x3 ∧ (x1 = -1 ∨ M 45 0 x5 = x1) ∧ (x2 = -1 ∨ M 46 0 x5 = x2))
                 · rw [if_pos (decide_eq_true hP)] <;> omega
                 · rw [if_neg (fun q => hP (of_decide_eq_true q))] <;> omega)
        · refine ⟨fun c4 => ?_, fun c4 => ?_⟩
          · first
            | (exfalso; omega)
            | (refine ih _ _ (by omega) (by omega) ?_
               rw [cn3_s h1, h3]
               by_cases hP : (M 50 0 x5 = x3 ∧ (x1 = -1 ∨ M 45 0 x5 = x1) ∧ (x2 = -1 ∨ M 46 0 x5 = x2))
               · rw [if_pos (decide_eq_true hP)] <;> omega
               · rw [if_neg (fun q => hP (of_decide_eq_true q))] <;> omega)
          · refine ⟨?_, ?_⟩
            · first | omega | (exfalso; omega)
            refine ⟨fun c5 => ?_, fun c5 => ?_⟩
            · first
              | (exfalso; omega)
              | (refine ih _ _ (by omega) (by omega) ?_
                 rw [cn3_s h1, h3]
                 by_cases hP : (M 50 0 x5 = x3 ∧ (x1 = -1 ∨ M 45 0 x5 = x1) ∧ (x2 = -1 ∨ M 46 0 x5 = x2))
                 · rw [if_pos (decide_eq_true hP)] <;> omega
                 · rw [if_neg (fun q => hP (of_decide_eq_true q))] <;> omega)
            · refine ⟨fun c6 => ?_, fun c6 => ?_⟩
              · first
                | (exfalso; omega)
                | (refine ih _ _ (by omega) (by omega) ?_
                   rw [cn3_s h1, h3]
                   by_cases hP : (M 50 0 x5 = x3 ∧ (x1 = -1 ∨ M 45 0 x5 = x1) ∧ (x2 = -1 ∨ M 46 0 x5 = x2))
                   · rw [if_pos (decide_eq_true hP)] <;> omega
                   · rw [if_neg (fun q => hP (of_decide_eq_true q))] <;> omega)
              · first
                | (exfalso; omega)
                | (refine ih _ _ (by omega) (by omega) ?_
                   rw [cn3_s h1, h3]
                   by_cases hP : (M 50 0 x5 = x3 ∧ (x1 = -1 ∨ M 45 0 x5 = x1) ∧ (x2 = -1 ∨ M 46 0 x5 = x2))
                   · rw [if_pos (decide_eq_true hP)] <;> omega
                   · rw [if_neg (fun q => hP (of_decide_eq_true q))] <;> omega)
theorem kX12_rollOf {E : E3} {Q : Q3} {M : M3} {x1 x2 x3 : Int} (h : (0 ≤ M 44 0 1 ∧ M 44 0 1 ≤ 48) ∧ ((-2147483648 ≤ x1 ∧ x1 ≤ 2147483647) ∧ (-2147483648 ≤ x2 ∧ x2 ≤ 2147483647) ∧ (-2147483648 ≤ x3 ∧ x3 ≤ 2147483647))) (k : Q (some (vI (mRoll M x1 x2 x3))) M) : C3 E YX12_rollOf [vR 44 0, vI x1, vI x2, vI x3] M Q :=
  sX12_rollOf (lX12_rollOf_6 h.1 h.2 k (M 44 0 1).toNat 0 0 (by omega) (by omega) rfl)
def cKnown (M : M3) (x1 : Int) : Int := cn3 (M 14 0 0) fun p => decide (M 18 p 2 ≤ cTold M ∧ (x1 = -1 ∨ M 18 p 0 = x1))
theorem lX2_knownOf_4 {E : E3} {Q : Q3} {M : M3} {x1 : Int} (hz : 0 ≤ M 14 0 0 ∧ M 14 0 0 ≤ 60) (hx : ((-2147483648 ≤ x1 ∧ x1 ≤ 2147483647))) (k : Q (some (vI (cKnown M x1))) M) : ∀ (n : Nat) (x2 x3 : Int), 0 ≤ x3 → x3 + n = M 14 0 0 → x2 = cn3 x3 (fun p => decide (M 18 p 2 ≤ cTold M ∧ (x1 = -1 ∨ M 18 p 0 = x1))) → G3 E YX2_knownOf Q 4 [(0, vR 14 0), (1, vI x1), (2, vI x2), (3, vI x3)] [] M := by
  intro n
  induction n with
  | zero =>
    intro x2 x3 h1 h2 h3
    skip
    refine sX2_knownOf_4 ?_
    refine ⟨?_, ?_⟩
    · first | omega | (exfalso; omega)
    refine ⟨fun c1 => ?_, fun c1 => ?_⟩
    · first | (exfalso; omega) | (rw [h3, show x3 = M 14 0 0 by omega]; exact k)
    · refine ⟨?_, ?_⟩
      · first | omega | (exfalso; omega)
      refine ⟨fun c2 => ?_, fun c2 => ?_⟩
      · exfalso; omega
      · refine ⟨?_, ?_⟩
        · first | omega | (exfalso; omega)
        refine ⟨fun c3 => ?_, fun c3 => ?_⟩
        · exfalso; omega
        · refine ⟨fun c4 => ?_, fun c4 => ?_⟩
          · exfalso; omega
          · exfalso; omega
  | succ n ih =>
    intro x2 x3 h1 h2 h3
    skip
    refine sX2_knownOf_4 ?_
    refine ⟨?_, ?_⟩
    · first | omega | (exfalso; omega)
    refine ⟨fun c1 => ?_, fun c1 => ?_⟩
    · exfalso; omega
    · refine ⟨?_, ?_⟩
      · first | omega | (exfalso; omega)
      refine ⟨fun c2 => ?_, fun c2 => ?_⟩
      · first
        | (exfalso; omega)
        | (refine ih _ _ (by omega) (by omega) ?_
           rw [cn3_s h1, h3]
           by_cases hP : (M 18 x3 2 ≤ cTold M ∧ (x1 = -1 ∨ M 18 x3 0 = x1))
           · rw [if_pos (decide_eq_true hP)] <;> omega
           · rw [if_neg (fun q => hP (of_decide_eq_true q))] <;> omega)
      · refine ⟨?_, ?_⟩
        · first | omega | (exfalso; omega)
        refine ⟨fun c3 => ?_, fun c3 => ?_⟩
        · first
          | (exfalso; omega)
          | (refine ih _ _ (by omega) (by omega) ?_
             rw [cn3_s h1, h3]
             by_cases hP : (M 18 x3 2 ≤ cTold M ∧ (x1 = -1 ∨ M 18 x3 0 = x1))
             · rw [if_pos (decide_eq_true hP)] <;> omega
             · rw [if_neg (fun q => hP (of_decide_eq_true q))] <;> omega)
        · refine ⟨fun c4 => ?_, fun c4 => ?_⟩
          · first
            | (exfalso; omega)
            | (refine ih _ _ (by omega) (by omega) ?_
               rw [cn3_s h1, h3]
               by_cases hP : (M 18 x3 2 ≤ cTold M ∧ (x1 = -1 ∨ M 18 x3 0 = x1))
               · rw [if_pos (decide_eq_true hP)] <;> omega
               · rw [if_neg (fun q => hP (of_decide_eq_true q))] <;> omega)
          · first
            | (exfalso; omega)
            | (refine ih _ _ (by omega) (by omega) ?_
               rw [cn3_s h1, h3]
               by_cases hP : (M 18 x3 2 ≤ cTold M ∧ (x1 = -1 ∨ M 18 x3 0 = x1))
               · rw [if_pos (decide_eq_true hP)] <;> omega
               · rw [if_neg (fun q => hP (of_decide_eq_true q))] <;> omega)
theorem kX2_knownOf {E : E3} {Q : Q3} {M : M3} {x1 : Int} (h : (0 ≤ M 14 0 0 ∧ M 14 0 0 ≤ 60) ∧ ((-2147483648 ≤ x1 ∧ x1 ≤ 2147483647))) (k : Q (some (vI (cKnown M x1))) M) : C3 E YX2_knownOf [vR 14 0, vI x1] M Q :=
  sX2_knownOf (lX2_knownOf_4 h.1 h.2 k (M 14 0 0).toNat 0 0 (by omega) (by omega) rfl)
def cReads (M : M3) : Int := cn3 (M 14 0 0) fun p => decide (M 18 p 5 ≠ -1 ∧ M 18 p 5 ≤ cTold M)
theorem lX2_readOnes_4 {E : E3} {Q : Q3} {M : M3} (hz : 0 ≤ M 14 0 0 ∧ M 14 0 0 ≤ 60) (k : Q (some (vI (cReads M))) M) : ∀ (n : Nat) (x1 x2 : Int), 0 ≤ x2 → x2 + n = M 14 0 0 → x1 = cn3 x2 (fun p => decide (M 18 p 5 ≠ -1 ∧ M 18 p 5 ≤ cTold M)) → G3 E YX2_readOnes Q 4 [(0, vR 14 0), (1, vI x1), (2, vI x2)] [] M := by
  intro n
  induction n with
  | zero =>
    intro x1 x2 h1 h2 h3
    skip
    refine sX2_readOnes_4 ?_
    refine ⟨?_, ?_⟩
    · first | omega | (exfalso; omega)
    refine ⟨fun c1 => ?_, fun c1 => ?_⟩
    · first | (exfalso; omega) | (rw [h3, show x2 = M 14 0 0 by omega]; exact k)
    · refine ⟨?_, ?_⟩
      · first | omega | (exfalso; omega)
      refine ⟨fun c2 => ?_, fun c2 => ?_⟩
      · exfalso; omega
      · exfalso; omega
  | succ n ih =>
    intro x1 x2 h1 h2 h3
    skip
    refine sX2_readOnes_4 ?_
    refine ⟨?_, ?_⟩
    · first | omega | (exfalso; omega)
    refine ⟨fun c1 => ?_, fun c1 => ?_⟩
    · exfalso; omega
    · refine ⟨?_, ?_⟩
      · first | omega | (exfalso; omega)
      refine ⟨fun c2 => ?_, fun c2 => ?_⟩
      · first
        | (exfalso; omega)
        | (refine ih _ _ (by omega) (by omega) ?_
           rw [cn3_s h1, h3]
           by_cases hP : (M 18 x2 5 ≠ -1 ∧ M 18 x2 5 ≤ cTold M)
           · rw [if_pos (decide_eq_true hP)] <;> omega
           · rw [if_neg (fun q => hP (of_decide_eq_true q))] <;> omega)
      · first
        | (exfalso; omega)
        | (refine ih _ _ (by omega) (by omega) ?_
           rw [cn3_s h1, h3]
           by_cases hP : (M 18 x2 5 ≠ -1 ∧ M 18 x2 5 ≤ cTold M)
           · rw [if_pos (decide_eq_true hP)] <;> omega
           · rw [if_neg (fun q => hP (of_decide_eq_true q))] <;> omega)
theorem kX2_readOnes {E : E3} {Q : Q3} {M : M3} (h : 0 ≤ M 14 0 0 ∧ M 14 0 0 ≤ 60) (k : Q (some (vI (cReads M))) M) : C3 E YX2_readOnes [vR 14 0] M Q :=
  sX2_readOnes (lX2_readOnes_4 h k (M 14 0 0).toNat 0 0 (by omega) (by omega) rfl)
def cEmpty (M : M3) (i0 : Int) : Int := cn3 (20) fun p => decide (M 19 i0 p = -1)
theorem lX2_emptyOnes_4 {E : E3} {Q : Q3} {M : M3} {i0 : Int} (hz : 0 ≤ i0 ∧ i0 < 60) (k : Q (some (vI (cEmpty M i0))) M) : ∀ (n : Nat) (x1 x2 : Int), 0 ≤ x2 → x2 + n = 20 → x1 = cn3 x2 (fun p => decide (M 19 i0 p = -1)) → G3 E YX2_emptyOnes Q 4 [(0, vR 18 i0), (1, vI x1), (2, vI x2)] [] M := by
  intro n
  induction n with
  | zero =>
    intro x1 x2 h1 h2 h3
    skip
    refine sX2_emptyOnes_4 ?_
    refine ⟨?_, ?_⟩
    · first | omega | (exfalso; omega)
    refine ⟨fun c1 => ?_, fun c1 => ?_⟩
    · first | (exfalso; omega) | (rw [h3, show x2 = 20 by omega]; exact k)
    · refine ⟨?_, ?_, ?_⟩
      · first | omega | (exfalso; omega)
      · first | omega | (exfalso; omega)
      refine ⟨fun c2 => ?_, fun c2 => ?_⟩
      · exfalso; omega
      · exfalso; omega
  | succ n ih =>
    intro x1 x2 h1 h2 h3
    skip
    refine sX2_emptyOnes_4 ?_
    refine ⟨?_, ?_⟩
    · first | omega | (exfalso; omega)
    refine ⟨fun c1 => ?_, fun c1 => ?_⟩
    · exfalso; omega
    · refine ⟨?_, ?_, ?_⟩
      · first | omega | (exfalso; omega)
      · first | omega | (exfalso; omega)
      refine ⟨fun c2 => ?_, fun c2 => ?_⟩
      · first
        | (exfalso; omega)
        | (refine ih _ _ (by omega) (by omega) ?_
           rw [cn3_s h1, h3]
           by_cases hP : (M 19 i0 x2 = -1)
           · rw [if_pos (decide_eq_true hP)] <;> omega
           · rw [if_neg (fun q => hP (of_decide_eq_true q))] <;> omega)
      · first
        | (exfalso; omega)
        | (refine ih _ _ (by omega) (by omega) ?_
           rw [cn3_s h1, h3]
           by_cases hP : (M 19 i0 x2 = -1)
           · rw [if_pos (decide_eq_true hP)] <;> omega
           · rw [if_neg (fun q => hP (of_decide_eq_true q))] <;> omega)
theorem kX2_emptyOnes {E : E3} {Q : Q3} {M : M3} {i0 : Int} (h : 0 ≤ i0 ∧ i0 < 60) (k : Q (some (vI (cEmpty M i0))) M) : C3 E YX2_emptyOnes [vR 18 i0] M Q :=
  sX2_emptyOnes (lX2_emptyOnes_4 h k 20 0 0 (by omega) (by omega) rfl)
