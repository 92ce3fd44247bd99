/-! SMALL TESTS -/
theorem c3_rm {E : E3} {Y : Y3} {as : List V3} {Q : Q3} {M : M3} (h : RM3 M → C3 E Y as M Q) : C3 E Y as M Q := fun hM => h hM hM
def cTold (M : M3) : Int := if M 2 0 1 = -1 then M 2 0 0 else M 2 0 1
theorem cTold_c (M : M3) : (M 2 0 1 = -1 ∧ cTold M = M 2 0 0) ∨ (M 2 0 1 ≠ -1 ∧ cTold M = M 2 0 1) := by
  unfold cTold
  split
  · exact Or.inl ⟨by assumption, rfl⟩
  · exact Or.inr ⟨by assumption, rfl⟩
theorem cTold_rg {M : M3} (h : RM3 M) : -2147483648 ≤ cTold M ∧ cTold M ≤ 2147483647 := by
  have h1 := h 2 0 0
  have h2 := h 2 0 1
  rcases cTold_c M with q | q <;> omega
def mNow (M : M3) : Int := if M 44 0 27 = -1 then M 44 0 0 else M 44 0 27
theorem mNow_c (M : M3) : (M 44 0 27 = -1 ∧ mNow M = M 44 0 0) ∨ (M 44 0 27 ≠ -1 ∧ mNow M = M 44 0 27) := by
  unfold mNow
  split
  · exact Or.inl ⟨by assumption, rfl⟩
  · exact Or.inr ⟨by assumption, rfl⟩
theorem mNow_rg {M : M3} (h : RM3 M) : -2147483648 ≤ mNow M ∧ mNow M ≤ 2147483647 := by
  have h1 := h 44 0 0
  have h2 := h 44 0 27
  rcases mNow_c M with q | q <;> omega
theorem kX11_within {E : E3} {Q : Q3} {M : M3} {x0 x1 x2 : Int} (h : (-2147483648 ≤ x0 ∧ x0 ≤ 2147483647) ∧ (-2147483648 ≤ x1 ∧ x1 ≤ 2147483647) ∧ (-2147483648 ≤ x2 ∧ x2 ≤ 2147483647)) (k : Q (some (vI (bo3 (x1 ≤ x0 ∧ x0 ≤ x2)))) M) : C3 E YX11_within [vI x0, vI x1, vI x2] M Q := by
  refine c3_rm fun hM => ?_
  refine sX11_within ?_
  refine ⟨?_, ?_, ?_⟩
  · first | omega | exact cTold_rg hM | exact mNow_rg hM | exact ⟨by omega, by omega⟩
  · first | omega | exact cTold_rg hM | exact mNow_rg hM | exact ⟨by omega, by omega⟩
  refine ⟨fun c1 => ?_, fun c1 => ?_⟩
  · first | (rw [bo3_t (by omega)] at k; exact k) | (rw [bo3_f (by omega)] at k; exact k)
  · refine ⟨?_, ?_⟩
    · first | omega | exact cTold_rg hM | exact mNow_rg hM | exact ⟨by omega, by omega⟩
    refine ⟨fun c2 => ?_, fun c2 => ?_⟩
    · first | (rw [bo3_t (by omega)] at k; exact k) | (rw [bo3_f (by omega)] at k; exact k)
    · first | (rw [bo3_t (by omega)] at k; exact k) | (rw [bo3_f (by omega)] at k; exact k)

theorem kX12_in {E : E3} {Q : Q3} {M : M3} {x0 x1 x2 : Int} (h : (-2147483648 ≤ x0 ∧ x0 ≤ 2147483647) ∧ (-2147483648 ≤ x1 ∧ x1 ≤ 2147483647) ∧ (-2147483648 ≤ x2 ∧ x2 ≤ 2147483647)) (k : Q (some (vI (bo3 (x1 ≤ x0 ∧ x0 ≤ x2)))) M) : C3 E YX12_in [vI x0, vI x1, vI x2] M Q := by
  refine c3_rm fun hM => ?_
  refine sX12_in ?_
  refine ⟨?_, ?_, ?_⟩
  · first | omega | exact cTold_rg hM | exact mNow_rg hM | exact ⟨by omega, by omega⟩
  · first | omega | exact cTold_rg hM | exact mNow_rg hM | exact ⟨by omega, by omega⟩
  refine ⟨fun c1 => ?_, fun c1 => ?_⟩
  · first | (rw [bo3_t (by omega)] at k; exact k) | (rw [bo3_f (by omega)] at k; exact k)
  · refine ⟨?_, ?_⟩
    · first | omega | exact cTold_rg hM | exact mNow_rg hM | exact ⟨by omega, by omega⟩
    refine ⟨fun c2 => ?_, fun c2 => ?_⟩
    · first | (rw [bo3_t (by omega)] at k; exact k) | (rw [bo3_f (by omega)] at k; exact k)
    · first | (rw [bo3_t (by omega)] at k; exact k) | (rw [bo3_f (by omega)] at k; exact k)

theorem kX8_waits {E : E3} {Q : Q3} {M : M3} {i0 : Int} (h : 0 ≤ i0 ∧ i0 < 48) (k : Q (some (vI (bo3 (M 13 i0 5 = 0 ∨ M 13 i0 5 = 2)))) M) : C3 E YX8_waits [vR 13 i0] M Q := by
  refine c3_rm fun hM => ?_
  refine sX8_waits ?_
  refine ⟨?_, ?_⟩
  · first | omega | exact cTold_rg hM | exact mNow_rg hM | exact ⟨by omega, by omega⟩
  refine ⟨fun c1 => ?_, fun c1 => ?_⟩
  · first | (rw [bo3_t (by omega)] at k; exact k) | (rw [bo3_f (by omega)] at k; exact k)
  · refine ⟨fun c2 => ?_, fun c2 => ?_⟩
    · first | (rw [bo3_t (by omega)] at k; exact k) | (rw [bo3_f (by omega)] at k; exact k)
    · first | (rw [bo3_t (by omega)] at k; exact k) | (rw [bo3_f (by omega)] at k; exact k)

theorem kX12_isOff {E : E3} {Q : Q3} {M : M3} {x1 : Int} (h : 0 ≤ x1 ∧ x1 < 48) (k : Q (some (vI (bo3 (M 50 0 x1 = 0 ∨ M 50 0 x1 = 2)))) M) : C3 E YX12_isOff [vR 44 0, vI x1] M Q := by
  refine c3_rm fun hM => ?_
  refine sX12_isOff ?_
  refine ⟨?_, ?_⟩
  · first | omega | exact cTold_rg hM | exact mNow_rg hM | exact ⟨by omega, by omega⟩
  refine ⟨fun c1 => ?_, fun c1 => ?_⟩
  · first | (rw [bo3_t (by omega)] at k; exact k) | (rw [bo3_f (by omega)] at k; exact k)
  · refine ⟨fun c2 => ?_, fun c2 => ?_⟩
    · first | (rw [bo3_t (by omega)] at k; exact k) | (rw [bo3_f (by omega)] at k; exact k)
    · first | (rw [bo3_t (by omega)] at k; exact k) | (rw [bo3_f (by omega)] at k; exact k)

theorem kX12_lives {E : E3} {Q : Q3} {M : M3} {x1 : Int} (h : 0 ≤ x1 ∧ x1 < 48) (k : Q (some (vI (bo3 (M 50 0 x1 < 3)))) M) : C3 E YX12_lives [vR 44 0, vI x1] M Q := by
  refine c3_rm fun hM => ?_
  refine sX12_lives ?_
  refine ⟨?_, ?_⟩
  · first | omega | exact cTold_rg hM | exact mNow_rg hM | exact ⟨by omega, by omega⟩
  refine ⟨fun c1 => ?_, fun c1 => ?_⟩
  · first | (rw [bo3_t (by omega)] at k; exact k) | (rw [bo3_f (by omega)] at k; exact k)
  · first | (rw [bo3_t (by omega)] at k; exact k) | (rw [bo3_f (by omega)] at k; exact k)

theorem kX1_told {E : E3} {Q : Q3} {M : M3} (k : Q (some (vI (cTold M))) M) : C3 E YX1_told [vR 2 0] M Q := by
  have hc := cTold_c M
  refine sX1_told ?_
  refine ⟨fun c1 => ?_, fun c1 => ?_⟩
  · first | (rw [show cTold M = M 2 0 0 by omega] at k; exact k) | (rw [show cTold M = M 2 0 1 by omega] at k; exact k)
  · first | (rw [show cTold M = M 2 0 0 by omega] at k; exact k) | (rw [show cTold M = M 2 0 1 by omega] at k; exact k)
theorem kX12_asOfNow {E : E3} {Q : Q3} {M : M3} (k : Q (some (vI (mNow M))) M) : C3 E YX12_asOfNow [vR 44 0] M Q := by
  have hc := mNow_c M
  refine sX12_asOfNow ?_
  refine ⟨fun c1 => ?_, fun c1 => ?_⟩
  · first | (rw [show mNow M = M 44 0 0 by omega] at k; exact k) | (rw [show mNow M = M 44 0 27 by omega] at k; exact k)
  · first | (rw [show mNow M = M 44 0 0 by omega] at k; exact k) | (rw [show mNow M = M 44 0 27 by omega] at k; exact k)
theorem kX12_sortOfForm {E : E3} {Q : Q3} {M : M3} {x1 : Int} (h : (0 ≤ x1 ∧ x1 < 60) ∧ 0 ≤ M 56 0 x1 ∧ M 56 0 x1 < 48) (k : Q (some (vI (M 46 0 (M 56 0 x1)))) M) : C3 E YX12_sortOfForm [vR 44 0, vI x1] M Q := by
  refine sX12_sortOfForm ?_
  refine ⟨?_, ?_, ?_⟩
  · omega
  · omega
  exact k
