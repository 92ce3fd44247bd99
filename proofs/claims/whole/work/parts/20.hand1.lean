/-- how many of a beat, a sort (-1: any), in a state -/
def fTally (M : M3) (b s t : Int) : Int := cn3 (M 10 0 0) fun p => decide (M 13 p 5 = t ∧ (b = -1 ∨ M 13 p 0 = b) ∧ (s = -1 ∨ M 13 p 1 = s))
theorem lX0_tally {E : E3} {Q : Q3} {M : M3} {x1 x2 x3 : Int} (hz : 0 ≤ M 10 0 0 ∧ M 10 0 0 ≤ 48) (hx : (-2147483648 ≤ x1 ∧ x1 ≤ 2147483647) ∧ (-2147483648 ≤ x2 ∧ x2 ≤ 2147483647) ∧ (-2147483648 ≤ x3 ∧ x3 ≤ 2147483647)) (k : Q (some (vI (fTally M x1 x2 x3))) M) : ∀ (n : Nat) (x4 x5 : Int), 0 ≤ x5 → x5 + n = M 10 0 0 → x4 = cn3 x5 (fun p => decide (M 13 p 5 = x3 ∧ (x1 = -1 ∨ M 13 p 0 = x1) ∧ (x2 = -1 ∨ M 13 p 1 = x2))) → G3 E YX0_tally Q 6 [(0, vR 10 0), (1, vI x1), (2, vI x2), (3, vI x3), (4, vI x4), (5, vI x5)] [] M := by
  intro n
  induction n with
  | zero =>
    intro x4 x5 h1 h2 h3
    refine sX0_tally_6 ?_
    refine ⟨?_, ?_⟩
    · omega
    refine ⟨fun c1 => ?_, fun c1 => ?_⟩
    · first | omega | (rw [h3, show x5 = M 10 0 0 by omega]; exact k)
    · refine ⟨?_, ?_, ?_⟩
      · omega
      · omega
      refine ⟨fun c2 => ?_, fun c2 => ?_⟩
      · omega
      · refine ⟨?_, ?_⟩
        · omega
        refine ⟨fun c3 => ?_, fun c3 => ?_⟩
        · refine ⟨?_, ?_⟩
          · omega
          refine ⟨fun c4 => ?_, fun c4 => ?_⟩
          · omega
          · refine ⟨fun c5 => ?_, fun c5 => ?_⟩
            · omega
            · omega
        · refine ⟨fun c4 => ?_, fun c4 => ?_⟩
          · omega
          · refine ⟨?_, ?_⟩
            · omega
            refine ⟨fun c5 => ?_, fun c5 => ?_⟩
            · omega
            · refine ⟨fun c6 => ?_, fun c6 => ?_⟩
              · omega
              · omega
  | succ n ih =>
    intro x4 x5 h1 h2 h3
    refine sX0_tally_6 ?_
    refine ⟨?_, ?_⟩
    · omega
    refine ⟨fun c1 => ?_, fun c1 => ?_⟩
    · omega
    · refine ⟨?_, ?_, ?_⟩
      · omega
      · omega
      refine ⟨fun c2 => ?_, fun c2 => ?_⟩
      · exact ih _ _ (by omega) (by omega) (by rw [cn3_s h1, h3]; simp [*])
      · refine ⟨?_, ?_⟩
        · omega
        refine ⟨fun c3 => ?_, fun c3 => ?_⟩
        · refine ⟨?_, ?_⟩
          · omega
          refine ⟨fun c4 => ?_, fun c4 => ?_⟩
          · exact ih _ _ (by omega) (by omega) (by rw [cn3_s h1, h3]; simp [*])
          · refine ⟨fun c5 => ?_, fun c5 => ?_⟩
            · exact ih _ _ (by omega) (by omega) (by rw [cn3_s h1, h3]; simp [*])
            · exact ih _ _ (by omega) (by omega) (by rw [cn3_s h1, h3]; simp [*])
        · refine ⟨fun c4 => ?_, fun c4 => ?_⟩
          · exact ih _ _ (by omega) (by omega) (by rw [cn3_s h1, h3]; simp [*])
          · refine ⟨?_, ?_⟩
            · omega
            refine ⟨fun c5 => ?_, fun c5 => ?_⟩
            · exact ih _ _ (by omega) (by omega) (by rw [cn3_s h1, h3]; simp [*])
            · refine ⟨fun c6 => ?_, fun c6 => ?_⟩
              · exact ih _ _ (by omega) (by omega) (by rw [cn3_s h1, h3]; simp [*])
              · exact ih _ _ (by omega) (by omega) (by rw [cn3_s h1, h3]; simp [*])
theorem kX0_tally {E : E3} {Q : Q3} {M : M3} {x1 x2 x3 : Int} (h : (0 ≤ M 10 0 0 ∧ M 10 0 0 ≤ 48) ∧ (-2147483648 ≤ x1 ∧ x1 ≤ 2147483647) ∧ (-2147483648 ≤ x2 ∧ x2 ≤ 2147483647) ∧ (-2147483648 ≤ x3 ∧ x3 ≤ 2147483647)) (k : Q (some (vI (fTally M x1 x2 x3))) M) : C3 E YX0_tally [vR 10 0, vI x1, vI x2, vI x3] M Q :=
  sX0_tally (lX0_tally h.1 h.2 k (M 10 0 0).toNat 0 0 (by omega) (by omega) rfl)
