theorem kX12_byText {E : E3} {Q : Q3} {M : M3} {x1 : Int} (h : RdC M ∧ okF M x1) (k : ∀ (N : M3), RM3 N → Em M N → RdC N → Q (some (vI (bo3 (mByT M x1)))) N) : C3 E YX12_byText [vR 44 0, vI x1] M Q := by
  obtain ⟨hR, ho⟩ := h
  have ho0 := ho
  obtain ⟨o1, o2, o3⟩ := ho
  have s1 := hR.sd 22 (M 57 0 x1)
  have s2 := hR.sd 20 (M 57 0 x1)
  have s3 := mRights_rg M x1
  refine sX12_byText ?_
  refine ⟨?_, ?_, ?_, ?_⟩
  · first | omega | exact ⟨hR, by omega⟩ | exact ⟨hp1, by omega⟩ | exact ⟨hp1, by omega, by omega⟩ | exact ⟨hp2, ho0⟩ | exact ⟨hp3, by omega, by omega⟩
  · first | omega | exact ⟨hR, by omega⟩ | exact ⟨hp1, by omega⟩ | exact ⟨hp1, by omega, by omega⟩ | exact ⟨hp2, ho0⟩ | exact ⟨hp3, by omega, by omega⟩
  · first | omega | exact ⟨hR, by omega⟩ | exact ⟨hp1, by omega⟩ | exact ⟨hp1, by omega, by omega⟩ | exact ⟨hp2, ho0⟩ | exact ⟨hp3, by omega, by omega⟩
  intro N1 hN1 he1 hp1
  refine ⟨fun c1 => ?_, fun c1 => ?_⟩
  · have k1 := k N1 hN1 (Em.tr Em.rf he1) hp1
    first | (rw [bo3_t ⟨by assumption, by assumption, by assumption⟩] at k1; exact k1) | (rw [bo3_f (fun z => by have := z.1; have := z.2.1; have := z.2.2; first | contradiction | omega)] at k1; exact k1)
  · refine ⟨?_, ?_⟩
    · first | omega | exact ⟨hR, by omega⟩ | exact ⟨hp1, by omega⟩ | exact ⟨hp1, by omega, by omega⟩ | exact ⟨hp2, ho0⟩ | exact ⟨hp3, by omega, by omega⟩
    intro N2 hN2 he2 hp2
    refine ⟨?_, ?_⟩
    · first | omega | exact ⟨hR, by omega⟩ | exact ⟨hp1, by omega⟩ | exact ⟨hp1, by omega, by omega⟩ | exact ⟨hp2, ho0⟩ | exact ⟨hp3, by omega, by omega⟩
    refine ⟨fun c2 => ?_, fun c2 => ?_⟩
    · have k1 := k N2 hN2 (Em.tr (Em.tr Em.rf he1) he2) hp2
      first | (rw [bo3_t ⟨by assumption, by assumption, by assumption⟩] at k1; exact k1) | (rw [bo3_f (fun z => by have := z.1; have := z.2.1; have := z.2.2; first | contradiction | omega)] at k1; exact k1)
    · refine ⟨?_, ?_⟩
      · first | omega | exact ⟨hR, by omega⟩ | exact ⟨hp1, by omega⟩ | exact ⟨hp1, by omega, by omega⟩ | exact ⟨hp2, ho0⟩ | exact ⟨hp3, by omega, by omega⟩
      intro N3 hN3 he3 hp3
      refine ⟨?_, ?_⟩
      · first | omega | exact ⟨hR, by omega⟩ | exact ⟨hp1, by omega⟩ | exact ⟨hp1, by omega, by omega⟩ | exact ⟨hp2, ho0⟩ | exact ⟨hp3, by omega, by omega⟩
      intro N4 hN4 he4 hp4
      refine ⟨?_, ?_⟩
      · first | omega | exact ⟨hR, by omega⟩ | exact ⟨hp1, by omega⟩ | exact ⟨hp1, by omega, by omega⟩ | exact ⟨hp2, ho0⟩ | exact ⟨hp3, by omega, by omega⟩
      refine ⟨fun c3 => ?_, fun c3 => ?_⟩
      · have k1 := k N4 hN4 (Em.tr (Em.tr (Em.tr (Em.tr Em.rf he1) he2) he3) he4) hp4
        first | (rw [bo3_t ⟨by assumption, by assumption, by assumption⟩] at k1; exact k1) | (rw [bo3_f (fun z => by have := z.1; have := z.2.1; have := z.2.2; first | contradiction | omega)] at k1; exact k1)
      · have k1 := k N4 hN4 (Em.tr (Em.tr (Em.tr (Em.tr Em.rf he1) he2) he3) he4) hp4
        first | (rw [bo3_t ⟨by assumption, by assumption, by assumption⟩] at k1; exact k1) | (rw [bo3_f (fun z => by have := z.1; have := z.2.1; have := z.2.2; first | contradiction | omega)] at k1; exact k1)
theorem eX12_byText {E : E3} {Q : Q3} {M0 M : M3} {x1 : Int} (e : Em M0 M) (h : RdC M ∧ okF M0 x1) (k : ∀ (N : M3), RM3 N → Em M N → RdC N → Q (some (vI (bo3 (mByT M0 x1)))) N) : C3 E YX12_byText [vR 44 0, vI x1] M Q :=
  kX12_byText ⟨h.1, okF_e e h.2⟩ (fun N a b d => by
    have k1 := k N a b d
    have q : mByT M x1 ↔ mByT M0 x1 := by simp only [mByT, alw3, e.L, mRights_e e, e.1 46 (by decide), e.1 56 (by decide), e.1 57 (by decide), e.1 58 (by decide)]
    rw [show bo3 (mByT M x1) = bo3 (mByT M0 x1) from by unfold bo3; simp only [q]]
    exact k1)
theorem mEnd_c (M : M3) (f : Int) : (0 < mHow M f ∧ mEnd M f = M 60 0 f) ∨ (mHow M f ≤ 0 ∧ mEnd M f = mNow M) := by
  unfold mEnd
  split
  · exact Or.inl ⟨by assumption, rfl⟩
  · exact Or.inr ⟨by omega, rfl⟩
theorem kX12_isLate {E : E3} {Q : Q3} {M : M3} {x1 : Int} (h : RdC M ∧ okR M x1) (k : ∀ (N : M3), RM3 N → Em M N → RdC N → Q (some (vI (bo3 (mLate M x1)))) N) : C3 E YX12_isLate [vR 44 0, vI x1] M Q := by
  obtain ⟨hR, ⟨o1, o2, o3⟩, o4, o5, o6⟩ := h
  have hc := mHow_c M x1
  have he := mEnd_c M x1
  have s1 := hR.sd 23 (M 60 0 x1)
  have s2 := hR.sd 23 (mNow M)
  have o7 : 0 < mHow M x1 → 0 < M 62 0 x1 := fun q => by omega
  refine sX12_isLate ?_
  refine ⟨?_, ?_⟩
  · first | omega | exact ⟨hR, by omega, by omega⟩ | exact ⟨hR, by omega, (o6 (o7 (by assumption))).1⟩ | (have := o6 (o7 (by assumption)); omega)
  refine ⟨fun c1 => ?_, fun c1 => ?_⟩
  · refine ⟨?_, ?_⟩
    · first | omega | exact ⟨hR, by omega, by omega⟩ | exact ⟨hR, by omega, (o6 (o7 (by assumption))).1⟩ | (have := o6 (o7 (by assumption)); omega)
    intro N1 hN1 he1 hp1
    refine ⟨?_, ?_, ?_⟩
    · first | omega | exact ⟨hR, by omega, by omega⟩ | exact ⟨hR, by omega, (o6 (o7 (by assumption))).1⟩ | (have := o6 (o7 (by assumption)); omega)
    · first | omega | exact ⟨hR, by omega, by omega⟩ | exact ⟨hR, by omega, (o6 (o7 (by assumption))).1⟩ | (have := o6 (o7 (by assumption)); omega)
    refine ⟨fun c2 => ?_, fun c2 => ?_⟩
    · have k1 := k N1 hN1 (Em.tr Em.rf he1) hp1
      have e1 : mEnd M x1 = mNow M ∨ mEnd M x1 = M 60 0 x1 := by omega
      first
        | (rw [bo3_t (show mLate M x1 by unfold mLate; first | (rw [show mEnd M x1 = mNow M by omega]; assumption) | (rw [show mEnd M x1 = M 60 0 x1 by omega]; assumption))] at k1; exact k1)
        | (rw [bo3_f (show ¬ mLate M x1 by unfold mLate; first | (rw [show mEnd M x1 = mNow M by omega]; omega) | (rw [show mEnd M x1 = M 60 0 x1 by omega]; omega))] at k1; exact k1)
    · have k1 := k N1 hN1 (Em.tr Em.rf he1) hp1
      have e1 : mEnd M x1 = mNow M ∨ mEnd M x1 = M 60 0 x1 := by omega
      first
        | (rw [bo3_t (show mLate M x1 by unfold mLate; first | (rw [show mEnd M x1 = mNow M by omega]; assumption) | (rw [show mEnd M x1 = M 60 0 x1 by omega]; assumption))] at k1; exact k1)
        | (rw [bo3_f (show ¬ mLate M x1 by unfold mLate; first | (rw [show mEnd M x1 = mNow M by omega]; omega) | (rw [show mEnd M x1 = M 60 0 x1 by omega]; omega))] at k1; exact k1)
  · refine ⟨?_, ?_⟩
    · first | omega | exact ⟨hR, by omega, by omega⟩ | exact ⟨hR, by omega, (o6 (o7 (by assumption))).1⟩ | (have := o6 (o7 (by assumption)); omega)
    intro N1 hN1 he1 hp1
    refine ⟨?_, ?_, ?_⟩
    · first | omega | exact ⟨hR, by omega, by omega⟩ | exact ⟨hR, by omega, (o6 (o7 (by assumption))).1⟩ | (have := o6 (o7 (by assumption)); omega)
    · first | omega | exact ⟨hR, by omega, by omega⟩ | exact ⟨hR, by omega, (o6 (o7 (by assumption))).1⟩ | (have := o6 (o7 (by assumption)); omega)
    refine ⟨fun c2 => ?_, fun c2 => ?_⟩
    · have k1 := k N1 hN1 (Em.tr Em.rf he1) hp1
      have e1 : mEnd M x1 = mNow M ∨ mEnd M x1 = M 60 0 x1 := by omega
      first
        | (rw [bo3_t (show mLate M x1 by unfold mLate; first | (rw [show mEnd M x1 = mNow M by omega]; assumption) | (rw [show mEnd M x1 = M 60 0 x1 by omega]; assumption))] at k1; exact k1)
        | (rw [bo3_f (show ¬ mLate M x1 by unfold mLate; first | (rw [show mEnd M x1 = mNow M by omega]; omega) | (rw [show mEnd M x1 = M 60 0 x1 by omega]; omega))] at k1; exact k1)
    · have k1 := k N1 hN1 (Em.tr Em.rf he1) hp1
      have e1 : mEnd M x1 = mNow M ∨ mEnd M x1 = M 60 0 x1 := by omega
      first
        | (rw [bo3_t (show mLate M x1 by unfold mLate; first | (rw [show mEnd M x1 = mNow M by omega]; assumption) | (rw [show mEnd M x1 = M 60 0 x1 by omega]; assumption))] at k1; exact k1)
        | (rw [bo3_f (show ¬ mLate M x1 by unfold mLate; first | (rw [show mEnd M x1 = mNow M by omega]; omega) | (rw [show mEnd M x1 = M 60 0 x1 by omega]; omega))] at k1; exact k1)
theorem eX12_isLate {E : E3} {Q : Q3} {M0 M : M3} {x1 : Int} (e : Em M0 M) (h : RdC M ∧ okR M0 x1) (k : ∀ (N : M3), RM3 N → Em M N → RdC N → Q (some (vI (bo3 (mLate M0 x1)))) N) : C3 E YX12_isLate [vR 44 0, vI x1] M Q :=
  kX12_isLate ⟨h.1, okR_e e h.2⟩ (fun N a b d => by
    have k1 := k N a b d
    have q : mLate M x1 ↔ mLate M0 x1 := by simp only [mLate, e.L, mEnd_e e, e.1 57 (by decide)]
    rw [show bo3 (mLate M x1) = bo3 (mLate M0 x1) from by unfold bo3; simp only [q]]
    exact k1)
