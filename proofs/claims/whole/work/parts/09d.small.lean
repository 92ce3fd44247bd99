theorem kX2_isKnown {E : E3} {Q : Q3} {M : M3} {x1 : Int} (h : 0 ≤ x1 ∧ x1 < 60) (k : Q (some (vI (bo3 (M 18 x1 2 ≤ cTold M)))) M) : C3 E YX2_isKnown [vR 14 0, vI x1] M Q := by
  refine c3_rm fun hM => ?_
  refine sX2_isKnown ?_
  refine ⟨?_, ?_, ?_⟩
  · first | omega | exact cTold_rg hM | exact mNow_rg hM | exact ⟨by omega, by omega⟩
  · first | omega | exact cTold_rg hM | exact mNow_rg hM | exact ⟨by omega, by omega⟩
  refine ⟨fun c1 => ?_, fun c1 => ?_⟩
  · first | (rw [bo3_t (by omega)] at k; exact k) | (rw [bo3_f (by omega)] at k; exact k)
  · first | (rw [bo3_t (by omega)] at k; exact k) | (rw [bo3_f (by omega)] at k; exact k)

theorem kX2_isRead {E : E3} {Q : Q3} {M : M3} {i1 : Int} (h : 0 ≤ i1 ∧ i1 < 60) (k : Q (some (vI (bo3 (M 18 i1 5 ≠ -1 ∧ M 18 i1 5 ≤ cTold M)))) M) : C3 E YX2_isRead [vR 14 0, vR 18 i1] M Q := by
  refine c3_rm fun hM => ?_
  refine sX2_isRead ?_
  refine ⟨?_, ?_⟩
  · first | omega | exact cTold_rg hM | exact mNow_rg hM | exact ⟨by omega, by omega⟩
  refine ⟨fun c1 => ?_, fun c1 => ?_⟩
  · first | (rw [bo3_t (by omega)] at k; exact k) | (rw [bo3_f (by omega)] at k; exact k)
  · refine ⟨?_, ?_⟩
    · first | omega | exact cTold_rg hM | exact mNow_rg hM | exact ⟨by omega, by omega⟩
    refine ⟨fun c2 => ?_, fun c2 => ?_⟩
    · first | (rw [bo3_t (by omega)] at k; exact k) | (rw [bo3_f (by omega)] at k; exact k)
    · first | (rw [bo3_t (by omega)] at k; exact k) | (rw [bo3_f (by omega)] at k; exact k)

theorem kX12_isKnown {E : E3} {Q : Q3} {M : M3} {x1 : Int} (h : 0 ≤ x1 ∧ x1 < 60) (k : Q (some (vI (bo3 (M 57 0 x1 ≤ mNow M)))) M) : C3 E YX12_isKnown [vR 44 0, vI x1] M Q := by
  refine c3_rm fun hM => ?_
  refine sX12_isKnown ?_
  refine ⟨?_, ?_, ?_⟩
  · first | omega | exact cTold_rg hM | exact mNow_rg hM | exact ⟨by omega, by omega⟩
  · first | omega | exact cTold_rg hM | exact mNow_rg hM | exact ⟨by omega, by omega⟩
  refine ⟨fun c1 => ?_, fun c1 => ?_⟩
  · first | (rw [bo3_t (by omega)] at k; exact k) | (rw [bo3_f (by omega)] at k; exact k)
  · first | (rw [bo3_t (by omega)] at k; exact k) | (rw [bo3_f (by omega)] at k; exact k)

