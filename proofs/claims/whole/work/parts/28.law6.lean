theorem lX4_rightAnswers {E : E3} {Q : Q3} {M0 : M3} {x1 : Int} (hd : 0 ≤ x1 ∧ x1 ≤ 399) (k : ∀ (N : M3), RM3 N → (∀ q : Nat, q ∉ ([3, 8, 9] : List Nat) → N q = M0 q) → (∀ j : Int, j ∉ ([10] : List Int) → N 3 0 j = M0 3 0 j) → LwC N → Q (some (vI (sRm (LL3 M0) x1))) N) : ∀ (n : Nat) (x2 x3 : Int) (M : M3), x3 + n = 20 → 0 ≤ x3 → LwC M → (∀ q : Nat, q ∉ ([3, 8, 9] : List Nat) → M q = M0 q) → (∀ j : Int, j ∉ ([10] : List Int) → M 3 0 j = M0 3 0 j) → x2 = cn3 x3 (fun q => decide (sPt (LL3 M0) q x1 ≠ -1)) → G3 E YX4_rightAnswers Q 4 [(0, vR 3 0), (1, vI x1), (2, vI x2), (3, vI x3)] [] M := by
  intro n
  induction n with
  | zero =>
    intro x2 x3 M h1 h2 h3 h4 h5 h6
    refine g3_rm fun hM => ?_
    refine sX4_rightAnswers_4 ?_
    refine ⟨?_, ?_⟩
    · first | omega | exact ⟨h3, by omega, hd⟩ | (have := h3.pt x3 x1; omega)
    refine ⟨fun c1 => ?_, fun c1 => ?_⟩
    · first
      | (exfalso; omega)
      | (rw [h6, show x3 = 20 by omega]
         exact k M hM h4 h5 h3)
    · refine ⟨?_, ?_⟩
      · first | omega | exact ⟨h3, by omega, hd⟩ | (have := h3.pt x3 x1; omega)
      intro N1 hN1 hf1 hs1 hp1
      refine ⟨?_, ?_⟩
      · first | omega | exact ⟨h3, by omega, hd⟩ | (have := h3.pt x3 x1; omega)
      refine ⟨fun c2 => ?_, fun c2 => ?_⟩
      · exfalso; omega
      · exfalso; omega
  | succ n ih =>
    intro x2 x3 M h1 h2 h3 h4 h5 h6
    have eL : LL3 M = LL3 M0 := LL3_eq (h4 4 (by decide)) (h5 0 (by decide))
    refine sX4_rightAnswers_4 ?_
    refine ⟨?_, ?_⟩
    · first | omega | exact ⟨h3, by omega, hd⟩ | (have := h3.pt x3 x1; omega)
    refine ⟨fun c1 => ?_, fun c1 => ?_⟩
    · exfalso; omega
    · refine ⟨?_, ?_⟩
      · first | omega | exact ⟨h3, by omega, hd⟩ | (have := h3.pt x3 x1; omega)
      intro N1 hN1 hf1 hs1 hp1
      refine ⟨?_, ?_⟩
      · first | omega | exact ⟨h3, by omega, hd⟩ | (have := h3.pt x3 x1; omega)
      refine ⟨fun c2 => ?_, fun c2 => ?_⟩
      · exact ih _ _ _ (by omega) (by omega) hp1 (fr_tr h4 hf1) (fun j hj => (hs1 j hj).trans (h5 j hj)) (by rw [eL] at *; rw [cn3_s h2, h6]; simp [*])
      · exact ih _ _ _ (by omega) (by omega) hp1 (fr_tr h4 hf1) (fun j hj => (hs1 j hj).trans (h5 j hj)) (by rw [eL] at *; rw [cn3_s h2, h6]; simp [*])
theorem kX4_rightAnswers {E : E3} {Q : Q3} {M : M3} {x1 : Int} (h : LwC M ∧ 0 ≤ x1 ∧ x1 ≤ 399) (k : ∀ (N : M3), RM3 N → (∀ q : Nat, q ∉ ([3, 8, 9] : List Nat) → N q = M q) → (∀ j : Int, j ∉ ([10] : List Int) → N 3 0 j = M 3 0 j) → LwC N → Q (some (vI (sRm (LL3 M) x1))) N) : C3 E YX4_rightAnswers [vR 3 0, vI x1] M Q :=
  sX4_rightAnswers (lX4_rightAnswers h.2 k 20 0 0 M (by omega) (by omega) h.1 fr_rf (fun _ _ => rfl) rfl)
