/-! MODEL: asksSome -/
abbrev mAsk (M : M3) (d : Int) : Prop := 0 < sSd (LM3 M) 22 d ∨ ff3 20 (fun q => decide (sSd (LM3 M) q d ≠ -1)) ≠ -1
theorem mAsk_e {M N : M3} (e : Em M N) (d : Int) : mAsk N d ↔ mAsk M d := by unfold mAsk; rw [e.L]
theorem lX12_asksSome {E : E3} {Q : Q3} {M0 : M3} {x1 : Int} (hx : 0 ≤ x1 ∧ x1 ≤ 399) (hz : sSd (LM3 M0) 22 x1 ≤ 0) (k : ∀ (N : M3), RM3 N → Em M0 N → RdC N → Q (some (vI (bo3 (mAsk M0 x1)))) N) : ∀ (n : Nat) (x2 : Int) (M : M3), 0 ≤ x2 → x2 + n = 20 → RdC M → Em M0 M → (∀ q : Int, 0 ≤ q → q < x2 → sSd (LM3 M0) q x1 = -1) → G3 E YX12_asksSome Q 13 [(0, vR 44 0), (1, vI x1), (2, vI x2)] [] M := by
  intro n
  induction n with
  | zero =>
    intro x2 M h1 h2 h3 h4 h5
    refine g3_rm fun hM => ?_
    refine sX12_asksSome_13 ?_
    refine ⟨?_, ?_⟩
    · first | omega | (exfalso; omega)
    refine ⟨fun c1 => ?_, fun c1 => ?_⟩
    · first
      | (exfalso; omega)
      | (have k1 := k M hM h4 h3
         rw [bo3_f (fun z => by rcases z with a | a; (· omega); exact a (ff3_no (by omega) fun q b c => decide_eq_false (fun z => z (h5 q b (by omega)))))] at k1
         exact k1)
    · refine ⟨?_, ?_⟩
      · first | omega | (exfalso; omega)
      intro N1 hN1 he1 hp1
      refine ⟨?_, ?_⟩
      · first | omega | (exfalso; omega)
      refine ⟨fun c2 => ?_, fun c2 => ?_⟩
      · exfalso; omega
      · first
        | (exfalso; omega)
        | (have k1 := k M hM h4 h3
           rw [bo3_f (fun z => by rcases z with a | a; (· omega); exact a (ff3_no (by omega) fun q b c => decide_eq_false (fun z => z (h5 q b (by omega)))))] at k1
           exact k1)
  | succ n ih =>
    intro x2 M h1 h2 h3 h4 h5
    refine g3_rm fun hM => ?_
    have s1 := h3.sd x2 x1
    refine sX12_asksSome_13 ?_
    rw [h4.L] at s1 ⊢
    refine ⟨?_, ?_⟩
    · first | omega | exact ⟨h3, by omega, hx⟩ | exact ⟨by omega, by omega⟩
    refine ⟨fun c1 => ?_, fun c1 => ?_⟩
    · first
      | (exfalso; omega)
      | (have k1 := k N1 hN1 (Em.tr h4 he1) hp1
         rw [bo3_t (Or.inr (by rw [ff3_is (r := x2) ⟨h1, by omega⟩ (decide_eq_true (by assumption)) (fun q b c => decide_eq_false (fun z => z (h5 q b (by omega))))]; omega))] at k1
         exact k1)
    · refine ⟨?_, ?_⟩
      · first | omega | exact ⟨h3, by omega, hx⟩ | exact ⟨by omega, by omega⟩
      intro N1 hN1 he1 hp1
      refine ⟨?_, ?_⟩
      · first | omega | exact ⟨h3, by omega, hx⟩ | exact ⟨by omega, by omega⟩
      refine ⟨fun c2 => ?_, fun c2 => ?_⟩
      · first
        | (exfalso; omega)
        | (refine ih _ _ (by omega) (by omega) hp1 (Em.tr h4 he1) (fun z a b => ?_)
           by_cases e : z < x2
           · exact h5 z a e
           · rw [show z = x2 by omega]
             assumption)
      · first
        | (exfalso; omega)
        | (have k1 := k N1 hN1 (Em.tr h4 he1) hp1
           rw [bo3_t (Or.inr (by rw [ff3_is (r := x2) ⟨h1, by omega⟩ (decide_eq_true (by assumption)) (fun q b c => decide_eq_false (fun z => z (h5 q b (by omega))))]; omega))] at k1
           exact k1)
theorem kX12_asksSome {E : E3} {Q : Q3} {M : M3} {x1 : Int} (h : RdC M ∧ 0 ≤ x1 ∧ x1 ≤ 399) (k : ∀ (N : M3), RM3 N → Em M N → RdC N → Q (some (vI (bo3 (mAsk M x1)))) N) : C3 E YX12_asksSome [vR 44 0, vI x1] M Q := by
  refine c3_rm fun hM => ?_
  obtain ⟨hR, hx⟩ := h
  have s1 := hR.sd 22 x1
  refine sX12_asksSome ?_
  refine ⟨?_, ?_⟩
  · first | omega | exact ⟨hR, by omega, hx⟩ | exact ⟨by omega, by omega⟩
  intro N1 hN1 he1 hp1
  refine ⟨?_, ?_⟩
  · first | omega | exact ⟨hR, by omega, hx⟩ | exact ⟨by omega, by omega⟩
  refine ⟨fun c1 => ?_, fun c1 => ?_⟩
  · exact lX12_asksSome hx (by assumption) k 20 0 N1 (by omega) (by omega) hp1 he1 (fun z a b => by omega)
  · have k1 := k N1 hN1 he1 hp1
    rw [bo3_t (Or.inl (by assumption))] at k1
    exact k1
theorem eX12_asksSome {E : E3} {Q : Q3} {M0 M : M3} {x1 : Int} (e : Em M0 M) (h : RdC M ∧ 0 ≤ x1 ∧ x1 ≤ 399) (k : ∀ (N : M3), RM3 N → Em M N → RdC N → Q (some (vI (bo3 (mAsk M0 x1)))) N) : C3 E YX12_asksSome [vR 44 0, vI x1] M Q :=
  kX12_asksSome h (fun N a b d => by rw [bo3_of (mAsk_e e x1)]; exact k N a b d)
