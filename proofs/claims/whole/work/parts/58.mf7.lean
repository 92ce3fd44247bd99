def mFtg (M : M3) (x1 x2 : Int) : Int := cn3 (22) fun p => decide (mFit M x1 x2 p)
theorem lX12_fitting_5 {E : E3} {Q : Q3} {M0 : M3} {x1 x2 : Int} (ha : okA M0) (hx : (-2147483648 ≤ x1 ∧ x1 ≤ 2147483647) ∧ (-2147483648 ≤ x2 ∧ x2 ≤ 2147483647)) (k : ∀ (N : M3), RM3 N → Em M0 N → RdC N → Q (some (vI (mFtg M0 x1 x2))) N) : ∀ (n : Nat) (x3 x4 : Int) (M : M3), 0 ≤ x4 → x4 + n = 22 → RdC M → Em M0 M → x3 = cn3 x4 (fun p => decide (mFit M0 x1 x2 p)) → G3 E YX12_fitting Q 5 [(0, vR 44 0), (1, vI x1), (2, vI x2), (3, vI x3), (4, vI x4)] [] M := by
  intro n
  induction n with
  | zero =>
    intro x3 x4 M h1 h2 h3 h4 h5
    refine g3_rm fun hM => ?_
    have hR := h3
    skip
    refine sX12_fitting_5 ?_
    simp only [mFit, mBad_e h4]
    refine ⟨?_, ?_⟩
    · first | omega | exact ⟨h3, okA_e h4 ha, hx.1, hx.2, by omega⟩ | (exfalso; omega)
    refine ⟨fun c1 => ?_, fun c1 => ?_⟩
    · first | (exfalso; omega) | (rw [h5, show x4 = 22 by omega]; exact k M hM h4 h3)
    · refine ⟨?_, ?_⟩
      · first | omega | exact ⟨h3, okA_e h4 ha, hx.1, hx.2, by omega⟩ | (exfalso; omega)
      intro N1 hN1 he1 hp1
      refine ⟨fun c2 => ?_, fun c2 => ?_⟩
      · exfalso; omega
      · exfalso; omega
  | succ n ih =>
    intro x3 x4 M h1 h2 h3 h4 h5
    refine g3_rm fun hM => ?_
    have hR := h3
    skip
    refine sX12_fitting_5 ?_
    simp only [mFit, mBad_e h4]
    refine ⟨?_, ?_⟩
    · first | omega | exact ⟨h3, okA_e h4 ha, hx.1, hx.2, by omega⟩ | (exfalso; omega)
    refine ⟨fun c1 => ?_, fun c1 => ?_⟩
    · exfalso; omega
    · refine ⟨?_, ?_⟩
      · first | omega | exact ⟨h3, okA_e h4 ha, hx.1, hx.2, by omega⟩ | (exfalso; omega)
      intro N1 hN1 he1 hp1
      refine ⟨fun c2 => ?_, fun c2 => ?_⟩
      · first
        | (exfalso; omega)
        | (refine ih _ _ _ (by omega) (by omega) (by first | assumption | exact h3) (by first | exact h4 | exact Em.tr h4 (Em.tr Em.rf he1)) ?_
           rw [cn3_s h1, ← h5]
           by_cases hP : (mFit M0 x1 x2 x4)
           · rw [if_pos (decide_eq_true hP)] <;> first | omega | (exfalso; simp_all)
           · rw [if_neg (fun q => hP (of_decide_eq_true q))] <;> first | omega | (exfalso; simp_all))
      · first
        | (exfalso; omega)
        | (refine ih _ _ _ (by omega) (by omega) (by first | assumption | exact h3) (by first | exact h4 | exact Em.tr h4 (Em.tr Em.rf he1)) ?_
           rw [cn3_s h1, ← h5]
           by_cases hP : (mFit M0 x1 x2 x4)
           · rw [if_pos (decide_eq_true hP)] <;> first | omega | (exfalso; simp_all)
           · rw [if_neg (fun q => hP (of_decide_eq_true q))] <;> first | omega | (exfalso; simp_all))
theorem kX12_fitting {E : E3} {Q : Q3} {M : M3} {x1 x2 : Int} (h : RdC M ∧ okA M ∧ (-2147483648 ≤ x1 ∧ x1 ≤ 2147483647) ∧ (-2147483648 ≤ x2 ∧ x2 ≤ 2147483647)) (k : ∀ (N : M3), RM3 N → Em M N → RdC N → Q (some (vI (mFtg M x1 x2))) N) : C3 E YX12_fitting [vR 44 0, vI x1, vI x2] M Q :=
  sX12_fitting (lX12_fitting_5 h.2.1 h.2.2 k 22 0 0 M (by omega) (by omega) h.1 Em.rf rfl)
theorem mFtg_e {M N : M3} (e : Em M N) (c s : Int) : mFtg N c s = mFtg M c s := by
  unfold mFtg
  simp only [mFit, mBad_e e]
theorem eX12_fitting {E : E3} {Q : Q3} {M0 M : M3} {x1 x2 : Int} (e : Em M0 M) (h : RdC M ∧ okA M0 ∧ (-2147483648 ≤ x1 ∧ x1 ≤ 2147483647) ∧ (-2147483648 ≤ x2 ∧ x2 ≤ 2147483647)) (k : ∀ (N : M3), RM3 N → Em M N → RdC N → Q (some (vI (mFtg M0 x1 x2))) N) : C3 E YX12_fitting [vR 44 0, vI x1, vI x2] M Q :=
  kX12_fitting ⟨h.1, okA_e e h.2.1, h.2.2⟩ (fun N a b d => by rw [mFtg_e e]; exact k N a b d)
