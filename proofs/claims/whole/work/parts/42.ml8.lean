theorem sRm_s (l : List (Int × Int × Int)) (d : Int) : sRm l d = cn3 20 fun q => decide (sPt l q d ≠ -1) := rfl
theorem lX12_rightMany {E : E3} {Q : Q3} {M0 : M3} (hd : 0 ≤ M0 44 0 0 ∧ M0 44 0 0 ≤ 399) (k : ∀ (N : M3), RM3 N → (∀ q : Nat, q ∉ ([44, 53, 54, 55] : List Nat) → N q = M0 q) → (∀ j : Int, j ∉ ([11, 12, 13, 17] : List Int) → N 44 0 j = M0 44 0 j) → RdC N → Q (some (vI (sRm (LM3 M0) (M0 44 0 0)))) N) : ∀ (n : Nat) (x1 x2 : Int) (M : M3), x2 + n = 20 → 0 ≤ x2 → RdC M → (∀ q : Nat, q ∉ ([44, 53, 54, 55] : List Nat) → M q = M0 q) → (∀ j : Int, j ∉ ([11, 12, 13, 17] : List Int) → M 44 0 j = M0 44 0 j) → x1 = cn3 x2 (fun q => decide (sPt (LM3 M0) q (M0 44 0 0) ≠ -1)) → G3 E YX12_rightMany Q 4 [(0, vR 44 0), (1, vI x1), (2, vI x2)] [] M := by
  intro n
  induction n with
  | zero =>
    intro x1 x2 M h1 h2 h3 h4 h5 h6
    refine g3_rm fun hM => ?_
    have e0 : M 44 0 0 = M0 44 0 0 := h5 0 (by decide)
    refine sX12_rightMany_4 ⟨by omega, fun _ => ?_, fun c => absurd c (by omega)⟩
    rw [h6, show x2 = 20 by omega]
    exact k M hM h4 h5 h3
  | succ n ih =>
    intro x1 x2 M h1 h2 h3 h4 h5 h6
    have e0 : M 44 0 0 = M0 44 0 0 := h5 0 (by decide)
    have eL : LM3 M = LM3 M0 := LM3_eq (h4 52 (by decide)) (h5 9 (by decide))
    have hsd := h3.sd x2 (M 44 0 0)
    have hq := sSd_q h3.lok.1 (q := x2) (d := M 44 0 0) (by omega)
    rw [eL, e0] at hq
    refine sX12_rightMany_4 ⟨by omega, fun c => absurd c (by omega), fun _ => ⟨⟨h3, by omega, by omega⟩, ?_⟩⟩
    intro N1 hN1 hf1 hs1 hp1
    rw [eL, e0] at hsd ⊢
    refine ⟨by omega, fun c => ?_, fun c => ?_⟩
    · exact ih _ _ _ (by omega) (by omega) hp1 (fr_tr h4 hf1) (fun j hj => (hs1 j hj).trans (h5 j hj)) (by rw [cn3_t h2 (by rw [decide_eq_true_eq]; exact fun q => c (hq.mpr q)), h6])
    · exact ih _ _ _ (by omega) (by omega) hp1 (fr_tr h4 hf1) (fun j hj => (hs1 j hj).trans (h5 j hj)) (by rw [cn3_f h2 (by rw [decide_eq_false_iff_not]; exact fun q => q (hq.mp c)), h6]; omega)
theorem kX12_rightMany {E : E3} {Q : Q3} {M : M3} (h : RdC M ∧ 0 ≤ M 44 0 0 ∧ M 44 0 0 ≤ 399) (k : ∀ (N : M3), RM3 N → (∀ q : Nat, q ∉ ([44, 53, 54, 55] : List Nat) → N q = M q) → (∀ j : Int, j ∉ ([11, 12, 13, 17] : List Int) → N 44 0 j = M 44 0 j) → RdC N → Q (some (vI (sRm (LM3 M) (M 44 0 0)))) N) : C3 E YX12_rightMany [vR 44 0] M Q :=
  sX12_rightMany (lX12_rightMany h.2 k 20 0 0 M (by omega) (by omega) h.1 fr_rf (fun _ _ => rfl) rfl)
