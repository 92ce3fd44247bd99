def mHow (M : M3) (f : Int) : Int := if M 57 0 f ≤ mNow M ∧ 0 < M 62 0 f ∧ M 60 0 f ≤ mNow M then M 62 0 f else 0
theorem mHow_c (M : M3) (f : Int) : ((M 57 0 f ≤ mNow M ∧ 0 < M 62 0 f ∧ M 60 0 f ≤ mNow M) ∧ mHow M f = M 62 0 f) ∨ (¬ (M 57 0 f ≤ mNow M ∧ 0 < M 62 0 f ∧ M 60 0 f ≤ mNow M) ∧ mHow M f = 0) := by
  unfold mHow
  split
  · exact Or.inl ⟨by assumption, rfl⟩
  · exact Or.inr ⟨by assumption, rfl⟩
theorem kX12_howOf {E : E3} {Q : Q3} {M : M3} {x1 : Int} (h : 0 ≤ x1 ∧ x1 < 60) (k : Q (some (vI (mHow M x1))) M) : C3 E YX12_howOf [vR 44 0, vI x1] M Q := by
  refine c3_rm fun hM => ?_
  have hc := mHow_c M x1
  refine sX12_howOf ?_
  refine ⟨?_, ?_⟩
  · first | omega | exact mNow_rg hM | exact ⟨by omega, mNow_rg hM⟩
  refine ⟨fun c1 => ?_, fun c1 => ?_⟩
  · first | (rw [show mHow M x1 = 0 by omega] at k; exact k) | (rw [show mHow M x1 = M 62 0 x1 by omega] at k; exact k)
  · refine ⟨fun c2 => ?_, fun c2 => ?_⟩
    · first | (rw [show mHow M x1 = 0 by omega] at k; exact k) | (rw [show mHow M x1 = M 62 0 x1 by omega] at k; exact k)
    · refine ⟨?_, ?_⟩
      · first | omega | exact mNow_rg hM | exact ⟨by omega, mNow_rg hM⟩
      refine ⟨fun c3 => ?_, fun c3 => ?_⟩
      · first | (rw [show mHow M x1 = 0 by omega] at k; exact k) | (rw [show mHow M x1 = M 62 0 x1 by omega] at k; exact k)
      · first | (rw [show mHow M x1 = 0 by omega] at k; exact k) | (rw [show mHow M x1 = M 62 0 x1 by omega] at k; exact k)
theorem mHow_rg {M : M3} (h : RM3 M) (f : Int) : -2147483648 ≤ mHow M f ∧ mHow M f ≤ 2147483647 := by
  have h1 := h 62 0 f
  rcases mHow_c M f with q | q <;> omega
