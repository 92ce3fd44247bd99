/-! MODEL: forms -/
theorem kX12_isAllowed {E : E3} {Q : Q3} {M : M3} {x1 x2 : Int} (h : RdC M ∧ 0 ≤ x2 ∧ x2 ≤ 399) (k : ∀ (N : M3), RM3 N → Em M N → RdC N → Q (some (vI (bo3 (alw3 (LM3 M) x1 x2)))) N) : C3 E YX12_isAllowed [vR 44 0, vI x1, vI x2] M Q := by
  refine sX12_isAllowed ?_
  refine ⟨?_, ?_⟩
  · exact ⟨h.1, by omega, h.2⟩
  intro N1 hN1 he1 hp1
  refine ⟨fun c1 => ?_, fun c1 => ?_⟩
  · have k1 := k N1 hN1 (Em.tr Em.rf he1) hp1
    first | (rw [bo3_t (by assumption)] at k1; exact k1) | (rw [bo3_f (by assumption)] at k1; exact k1)
  · have k1 := k N1 hN1 (Em.tr Em.rf he1) hp1
    first | (rw [bo3_t (by assumption)] at k1; exact k1) | (rw [bo3_f (by assumption)] at k1; exact k1)
theorem eX12_isAllowed {E : E3} {Q : Q3} {M0 M : M3} {x1 x2 : Int} (e : Em M0 M) (h : RdC M ∧ 0 ≤ x2 ∧ x2 ≤ 399) (k : ∀ (N : M3), RM3 N → Em M N → RdC N → Q (some (vI (bo3 (alw3 (LM3 M0) x1 x2)))) N) : C3 E YX12_isAllowed [vR 44 0, vI x1, vI x2] M Q :=
  kX12_isAllowed h (fun N a b d => by simp only [alw3, e.L]; exact k N a b d)
theorem lX12_rightsOf {E : E3} {Q : Q3} {M0 : M3} {x1 : Int} (ho : okF M0 x1) (k : ∀ (N : M3), RM3 N → Em M0 N → RdC N → Q (some (vI (mRights M0 x1))) N) : ∀ (n : Nat) (x2 x3 : Int) (M : M3), 0 ≤ x3 → x3 + n = 20 → RdC M → Em M0 M → x2 = cn3 x3 (fun q => decide (M0 59 0 (20 * x1 + q) ≠ -1 ∧ M0 59 0 (20 * x1 + q) = sSd (LM3 M0) q (M0 57 0 x1))) → G3 E YX12_rightsOf Q 4 [(0, vR 44 0), (1, vI x1), (2, vI x2), (3, vI x3)] [] M := by
  intro n
  obtain ⟨o1, o2, o3⟩ := ho
  induction n with
  | zero =>
    intro x2 x3 M h1 h2 h3 h4 h5
    refine g3_rm fun hM => ?_
    refine sX12_rightsOf_4 ⟨by omega, fun _ => ?_, fun c => absurd c (by omega)⟩
    rw [h5, show x3 = 20 by omega]
    exact k M hM h4 h3
  | succ n ih =>
    intro x2 x3 M h1 h2 h3 h4 h5
    have e57 : M 57 = M0 57 := h4.1 57 (by decide)
    have e59 : M 59 = M0 59 := h4.1 59 (by decide)
    have eL := h4.L
    have hsd := h3.sd x3 (M0 57 0 x1)
    have t : ∀ N : M3, RdC N → Em M0 N → ∀ x : Int, x = x2 + (if M0 59 0 (20 * x1 + x3) ≠ -1 ∧ M0 59 0 (20 * x1 + x3) = sSd (LM3 M0) x3 (M0 57 0 x1) then 1 else 0) → G3 E YX12_rightsOf Q 4 [(0, vR 44 0), (1, vI x1), (2, vI x), (3, vI (x3 + 1))] [] N := fun N a b x hx => by
      refine ih _ _ N (by omega) (by omega) a b ?_
      rw [cn3_s h1, ← h5, hx]
      congr 1
      by_cases q : M0 59 0 (20 * x1 + x3) ≠ -1 ∧ M0 59 0 (20 * x1 + x3) = sSd (LM3 M0) x3 (M0 57 0 x1)
      · rw [if_pos q, if_pos (decide_eq_true q)]
      · rw [if_neg q, if_neg (fun z => q (of_decide_eq_true z))]
    refine sX12_rightsOf_4 ?_
    rw [e57, e59, eL] at *
    refine ⟨by omega, fun c => absurd c (by omega), fun _ => ⟨by omega, fun c => ?_, fun c => ⟨o1, ⟨h3, by omega, o2⟩, ?_⟩⟩⟩
    · exact t M h3 h4 _ (by rw [if_neg (fun z => z.1 c)])
    · intro N1 hN1 he1 hp1
      refine ⟨by omega, fun c2 => ?_, fun c2 => ?_⟩
      · exact t N1 hp1 (Em.tr h4 he1) _ (by rw [if_neg (fun z => c2 z.2)])
      · exact t N1 hp1 (Em.tr h4 he1) _ (by rw [if_pos ⟨c, c2⟩])
theorem kX12_rightsOf {E : E3} {Q : Q3} {M : M3} {x1 : Int} (h : RdC M ∧ okF M x1) (k : ∀ (N : M3), RM3 N → Em M N → RdC N → Q (some (vI (mRights M x1))) N) : C3 E YX12_rightsOf [vR 44 0, vI x1] M Q :=
  sX12_rightsOf (lX12_rightsOf h.2 k 20 0 0 M (by omega) (by omega) h.1 Em.rf rfl)
theorem eX12_rightsOf {E : E3} {Q : Q3} {M0 M : M3} {x1 : Int} (e : Em M0 M) (h : RdC M ∧ okF M0 x1) (k : ∀ (N : M3), RM3 N → Em M N → RdC N → Q (some (vI (mRights M0 x1))) N) : C3 E YX12_rightsOf [vR 44 0, vI x1] M Q :=
  kX12_rightsOf ⟨h.1, okF_e e h.2⟩ (fun N a b d => by rw [mRights_e e]; exact k N a b d)
