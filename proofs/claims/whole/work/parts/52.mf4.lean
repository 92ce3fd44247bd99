theorem or3_rg (x y : Int) : -2147483648 ≤ or3 x y ∧ or3 x y ≤ 2147483647 := t3_tr _
theorem kX12_isFalse {E : E3} {Q : Q3} {M : M3} {x1 : Int} (h : RdC M ∧ okR M x1) (k : ∀ (N : M3), RM3 N → Em M N → RdC N → Q (some (vI (bo3 (mFls M x1)))) N) : C3 E YX12_isFalse [vR 44 0, vI x1] M Q := by
  refine c3_rm fun hM => ?_
  obtain ⟨hR, ho⟩ := h
  have ho0 := ho
  obtain ⟨⟨o1, o2, o3⟩, o4, o5, o6⟩ := ho
  have hc := mHow_c M x1
  refine sX12_isFalse ?_
  refine ⟨?_, ?_⟩
  · first | omega | exact ⟨hR, ho0⟩
  refine ⟨fun c1 => ?_, fun c1 => ?_⟩
  · first
      | (have k1 := k M hM Em.rf hR
         rw [bo3_f (fun z => absurd z.1 (by assumption))] at k1
         exact k1)
      | (have k1 := k M hM Em.rf h.1
         first
           | (rw [bo3_t ⟨by assumption, by assumption⟩] at k1; exact k1)
           | (rw [bo3_f (fun z => absurd z.2 (by assumption))] at k1; exact k1))
  · refine ⟨?_, ?_⟩
    · first | omega | exact ⟨hR, ho0⟩
    intro N1 hN1 he1 hp1
    refine ⟨fun c2 => ?_, fun c2 => ?_⟩
    · first
        | (have k1 := k M hM Em.rf hR
           rw [bo3_f (fun z => absurd z.1 (by assumption))] at k1
           exact k1)
        | (have k1 := k N1 hN1 (Em.tr Em.rf he1) hp1
           first
             | (rw [bo3_t ⟨by assumption, by assumption⟩] at k1; exact k1)
             | (rw [bo3_f (fun z => absurd z.2 (by assumption))] at k1; exact k1))
    · first
        | (have k1 := k M hM Em.rf hR
           rw [bo3_f (fun z => absurd z.1 (by assumption))] at k1
           exact k1)
        | (have k1 := k N1 hN1 (Em.tr Em.rf he1) hp1
           first
             | (rw [bo3_t ⟨by assumption, by assumption⟩] at k1; exact k1)
             | (rw [bo3_f (fun z => absurd z.2 (by assumption))] at k1; exact k1))
theorem eX12_isFalse {E : E3} {Q : Q3} {M0 M : M3} {x1 : Int} (e : Em M0 M) (h : RdC M ∧ okR M0 x1) (k : ∀ (N : M3), RM3 N → Em M N → RdC N → Q (some (vI (bo3 (mFls M0 x1)))) N) : C3 E YX12_isFalse [vR 44 0, vI x1] M Q :=
  kX12_isFalse ⟨h.1, okR_e e h.2⟩ (fun N a b d => by rw [bo3_of (mFls_e e x1)]; exact k N a b d)
