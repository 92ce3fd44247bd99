/-! PAIRS: form -/
def hvM (M : M3) (s q : Int) : Int := if q < M 82 0 s ∧ 0 ≤ M 83 0 (40 * s + q) ∧ M 83 0 (40 * s + q) ≤ 99 then M 83 0 (40 * s + q) else -1
theorem lX12_form {E : E3} {Q : Q3} {M0 : M3} {x1 x2 : Int} (hz : (0 ≤ x1 ∧ x1 < 48) ∧ (0 ≤ x2 ∧ x2 ≤ 3) ∧ (0 ≤ M0 44 0 18 ∧ M0 44 0 18 < 60)) (hx1 : -2147483648 ≤ x1 ∧ x1 ≤ 2147483647) (k : (∀ (K : M3), (∀ q : Nat, q ∉ ([44, 56, 57, 58, 59, 62] : List Nat) → K q = M0 q) → (∀ j : Int, j ≠ 18 → K 44 0 j = M0 44 0 j) → K 44 0 18 = M0 44 0 18 + 1 → (K 56 0 (M0 44 0 18) = x1 ∧ K 57 0 (M0 44 0 18) = M0 44 0 0 ∧ K 58 0 (M0 44 0 18) = M0 47 0 x1 ∧ K 62 0 (M0 44 0 18) = 0) → (∀ f : Int, f ≠ M0 44 0 18 → K 56 0 f = M0 56 0 f ∧ K 57 0 f = M0 57 0 f ∧ K 58 0 f = M0 58 0 f ∧ K 62 0 f = M0 62 0 f) → (∀ q : Int, 0 ≤ q → q < 20 → K 59 0 (20 * M0 44 0 18 + q) = hvM M0 x2 q) → (∀ j : Int, ¬ (20 * M0 44 0 18 ≤ j ∧ j < 20 * M0 44 0 18 + 20) → K 59 0 j = M0 59 0 j) → Q (some (vI (M0 44 0 18))) K)) : ∀ (n : Nat) (x3 : Int) (M : M3), 0 ≤ x3 → x3 + n = 20 → (∀ q : Nat, q ∉ ([59] : List Nat) → M q = M0 q) → (∀ q : Int, 0 ≤ q → q < x3 → M 59 0 (20 * M0 44 0 18 + q) = hvM M0 x2 q) → (∀ j : Int, ¬ (20 * M0 44 0 18 ≤ j ∧ j < 20 * M0 44 0 18 + 20) → M 59 0 j = M0 59 0 j) → G3 E YX12_form Q 58 [(0, vR 44 0), (1, vI x1), (2, vI x2), (3, vI x3)] [] M := by
  intro n
  induction n with
  | zero =>
    intro x3 M h1 h2 h3 h4 h5
    refine g3_rm fun hM => ?_
    have e44 : M 44 = M0 44 := h3 44 (by decide)
    have e47 : M 47 = M0 47 := h3 47 (by decide)
    have e82 : M 82 = M0 82 := h3 82 (by decide)
    have e83 : M 83 = M0 83 := h3 83 (by decide)
    obtain ⟨z1, z2, z3⟩ := hz
    refine sX12_form_58 ?_
    simp only [e44, e47, e82, e83]
    refine ⟨?_, ?_⟩
    · first | omega | exact hM0 | (have := hM 83 0 (40 * x2 + x3); rw [e83] at this; omega) | (exfalso; omega)
    refine ⟨fun c1 => ?_, fun c1 => ?_⟩
    · refine ⟨?_, ?_, ?_, ?_, ?_⟩
      · first | omega | exact hM0 | (have := hM 83 0 (40 * x2 + x3); rw [e83] at this; omega) | (exfalso; omega)
      · first | omega | exact hM0 | (have := hM 83 0 (40 * x2 + x3); rw [e83] at this; omega) | (exfalso; omega)
      · first | omega | exact hM0 | (have := hM 83 0 (40 * x2 + x3); rw [e83] at this; omega) | (exfalso; omega)
      · first | omega | exact hM0 | (have := hM 83 0 (40 * x2 + x3); rw [e83] at this; omega) | (exfalso; omega)
      first
        | (exfalso; omega)
        | (have k1 := k (up3 (up3 (up3 (up3 (up3 M 56 0 (M0 44 0 18) x1) 57 0 (M0 44 0 18) (M0 44 0 0)) 58 0 (M0 44 0 18) (M0 47 0 x1)) 62 0 (M0 44 0 18) 0) 44 0 18 (M0 44 0 18 + 1)) (fun q hq => (fr_up (fr_up (fr_up (fr_up (fr_up fr_rf (by decide)) (by decide)) (by decide)) (by decide)) (by decide) q hq).trans (h3 q (fun z => hq ((show ∀ y ∈ ([59] : List Nat), y ∈ ([44, 56, 57, 58, 59, 62] : List Nat) by decide) q z)))) (fun j hj => by rw [up3_nj hj, up3_nr (by decide), up3_nr (by decide), up3_nr (by decide), up3_nr (by decide), e44]) up3_eq ⟨by rw [up3_nr (by decide), up3_nr (by decide), up3_nr (by decide), up3_nr (by decide), up3_eq], by rw [up3_nr (by decide), up3_nr (by decide), up3_nr (by decide), up3_eq], by rw [up3_nr (by decide), up3_nr (by decide), up3_eq], by rw [up3_nr (by decide), up3_eq]⟩ (fun f hf => ⟨by rw [up3_nr (by decide), up3_nr (by decide), up3_nr (by decide), up3_nr (by decide), up3_nj hf, h3 56 (by decide)], by rw [up3_nr (by decide), up3_nr (by decide), up3_nr (by decide), up3_nj hf, up3_nr (by decide), h3 57 (by decide)], by rw [up3_nr (by decide), up3_nr (by decide), up3_nj hf, up3_nr (by decide), up3_nr (by decide), h3 58 (by decide)], by rw [up3_nr (by decide), up3_nj hf, up3_nr (by decide), up3_nr (by decide), up3_nr (by decide), h3 62 (by decide)]⟩) (fun q a b => by rw [up3_nr (by decide), up3_nr (by decide), up3_nr (by decide), up3_nr (by decide), up3_nr (by decide)]; exact h4 q a (by omega)) (fun j hj => by rw [up3_nr (by decide), up3_nr (by decide), up3_nr (by decide), up3_nr (by decide), up3_nr (by decide)]; exact h5 j hj)
           exact qI (by omega) k1)
    · refine ⟨?_, ?_⟩
      · first | omega | exact hM0 | (have := hM 83 0 (40 * x2 + x3); rw [e83] at this; omega) | (exfalso; omega)
      refine ⟨fun c2 => ?_, fun c2 => ?_⟩
      · refine ⟨?_, ?_⟩
        · first | omega | exact hM0 | (have := hM 83 0 (40 * x2 + x3); rw [e83] at this; omega) | (exfalso; omega)
        exfalso; omega
      · refine ⟨?_, ?_, ?_⟩
        · first | omega | exact hM0 | (have := hM 83 0 (40 * x2 + x3); rw [e83] at this; omega) | (exfalso; omega)
        · first | omega | exact hM0 | (have := hM 83 0 (40 * x2 + x3); rw [e83] at this; omega) | (exfalso; omega)
        refine ⟨fun c3 => ?_, fun c3 => ?_⟩
        · refine ⟨?_, ?_⟩
          · first | omega | exact hM0 | (have := hM 83 0 (40 * x2 + x3); rw [e83] at this; omega) | (exfalso; omega)
          exfalso; omega
        · refine ⟨?_, ?_⟩
          · first | omega | exact hM0 | (have := hM 83 0 (40 * x2 + x3); rw [e83] at this; omega) | (exfalso; omega)
          exfalso; omega
  | succ n ih =>
    intro x3 M h1 h2 h3 h4 h5
    refine g3_rm fun hM => ?_
    have e44 : M 44 = M0 44 := h3 44 (by decide)
    have e47 : M 47 = M0 47 := h3 47 (by decide)
    have e82 : M 82 = M0 82 := h3 82 (by decide)
    have e83 : M 83 = M0 83 := h3 83 (by decide)
    obtain ⟨z1, z2, z3⟩ := hz
    skip
    refine sX12_form_58 ?_
    simp only [e44, e47, e82, e83]
    refine ⟨?_, ?_⟩
    · first | omega | exact hM0 | (have := hM 83 0 (40 * x2 + x3); rw [e83] at this; omega) | (exfalso; omega)
    refine ⟨fun c1 => ?_, fun c1 => ?_⟩
    · refine ⟨?_, ?_, ?_, ?_, ?_⟩
      · first | omega | exact hM0 | (have := hM 83 0 (40 * x2 + x3); rw [e83] at this; omega) | (exfalso; omega)
      · first | omega | exact hM0 | (have := hM 83 0 (40 * x2 + x3); rw [e83] at this; omega) | (exfalso; omega)
      · first | omega | exact hM0 | (have := hM 83 0 (40 * x2 + x3); rw [e83] at this; omega) | (exfalso; omega)
      · first | omega | exact hM0 | (have := hM 83 0 (40 * x2 + x3); rw [e83] at this; omega) | (exfalso; omega)
      exfalso; omega
    · refine ⟨?_, ?_⟩
      · first | omega | exact hM0 | (have := hM 83 0 (40 * x2 + x3); rw [e83] at this; omega) | (exfalso; omega)
      refine ⟨fun c2 => ?_, fun c2 => ?_⟩
      · refine ⟨?_, ?_⟩
        · first | omega | exact hM0 | (have := hM 83 0 (40 * x2 + x3); rw [e83] at this; omega) | (exfalso; omega)
        first
          | (exfalso; omega)
          | (refine ih _ _ (by omega) (by omega) (fr_up h3 (by decide)) (fun q a b => ?_) (fun j hj => ?_)
             · by_cases e : q = x3
               · rw [e, up3_eq]
                 unfold hvM
                 first | (rw [if_neg (by omega)]; done) | (rw [if_pos (by omega)]; done)
               · rw [up3_nj (by omega)]
                 exact h4 q a (by omega)
             · rw [up3_nj (by omega)]
               exact h5 j hj)
      · refine ⟨?_, ?_, ?_⟩
        · first | omega | exact hM0 | (have := hM 83 0 (40 * x2 + x3); rw [e83] at this; omega) | (exfalso; omega)
        · first | omega | exact hM0 | (have := hM 83 0 (40 * x2 + x3); rw [e83] at this; omega) | (exfalso; omega)
        refine ⟨fun c3 => ?_, fun c3 => ?_⟩
        · refine ⟨?_, ?_⟩
          · first | omega | exact hM0 | (have := hM 83 0 (40 * x2 + x3); rw [e83] at this; omega) | (exfalso; omega)
          first
            | (exfalso; omega)
            | (refine ih _ _ (by omega) (by omega) (fr_up h3 (by decide)) (fun q a b => ?_) (fun j hj => ?_)
               · by_cases e : q = x3
                 · rw [e, up3_eq]
                   unfold hvM
                   first | (rw [if_neg (by omega)]; done) | (rw [if_pos (by omega)]; done)
                 · rw [up3_nj (by omega)]
                   exact h4 q a (by omega)
               · rw [up3_nj (by omega)]
                 exact h5 j hj)
        · refine ⟨?_, ?_⟩
          · first | omega | exact hM0 | (have := hM 83 0 (40 * x2 + x3); rw [e83] at this; omega) | (exfalso; omega)
          first
            | (exfalso; omega)
            | (refine ih _ _ (by omega) (by omega) (fr_up h3 (by decide)) (fun q a b => ?_) (fun j hj => ?_)
               · by_cases e : q = x3
                 · rw [e, up3_eq]
                   unfold hvM
                   first | (rw [if_neg (by omega)]; done) | (rw [if_pos (by omega)]; done)
                 · rw [up3_nj (by omega)]
                   exact h4 q a (by omega)
               · rw [up3_nj (by omega)]
                 exact h5 j hj)
theorem m_form {E : E3} {Q : Q3} {M : M3} {x1 x2 : Int} (hW : WM M) (hx1 : -2147483648 ≤ x1 ∧ x1 ≤ 2147483647) (hx2 : -2147483648 ≤ x2 ∧ x2 ≤ 2147483647) (k1 : ¬ ((0 ≤ x1 ∧ x1 < M 44 0 1) ∧ (0 ≤ x2 ∧ x2 ≤ 3)) → Q (some (vI (-2))) M) (k2 : ((0 ≤ x1 ∧ x1 < M 44 0 1) ∧ (0 ≤ x2 ∧ x2 ≤ 3)) → M 80 0 x2 = 0 → Q (some (vI (-11))) (up3 M 44 0 58 1)) (k3 : ((0 ≤ x1 ∧ x1 < M 44 0 1) ∧ (0 ≤ x2 ∧ x2 ≤ 3)) → M 80 0 x2 ≠ 0 → ¬ (M 50 0 x1 = 0 ∨ M 50 0 x1 = 2) → Q (some (vI (-3))) M) (k4 : ((0 ≤ x1 ∧ x1 < M 44 0 1) ∧ (0 ≤ x2 ∧ x2 ≤ 3)) → M 80 0 x2 ≠ 0 → (M 50 0 x1 = 0 ∨ M 50 0 x1 = 2) → M 44 0 18 = 60 → Q (some (vI (-4))) M) (k : ((0 ≤ x1 ∧ x1 < M 44 0 1) ∧ (0 ≤ x2 ∧ x2 ≤ 3)) → M 80 0 x2 ≠ 0 → (M 50 0 x1 = 0 ∨ M 50 0 x1 = 2) → M 44 0 18 < 60 → (∀ (K : M3), (∀ q : Nat, q ∉ ([44, 56, 57, 58, 59, 62] : List Nat) → K q = M q) → (∀ j : Int, j ≠ 18 → K 44 0 j = M 44 0 j) → K 44 0 18 = M 44 0 18 + 1 → (K 56 0 (M 44 0 18) = x1 ∧ K 57 0 (M 44 0 18) = M 44 0 0 ∧ K 58 0 (M 44 0 18) = M 47 0 x1 ∧ K 62 0 (M 44 0 18) = 0) → (∀ f : Int, f ≠ M 44 0 18 → K 56 0 f = M 56 0 f ∧ K 57 0 f = M 57 0 f ∧ K 58 0 f = M 58 0 f ∧ K 62 0 f = M 62 0 f) → (∀ q : Int, 0 ≤ q → q < 20 → K 59 0 (20 * M 44 0 18 + q) = hvM M x2 q) → (∀ j : Int, ¬ (20 * M 44 0 18 ≤ j ∧ j < 20 * M 44 0 18 + 20) → K 59 0 j = M 59 0 j) → Q (some (vI (M 44 0 18))) K)) : C3 E YX12_form [vR 44 0, vI x1, vI x2] M Q := by
  refine c3_rm fun hM => ?_
  obtain ⟨w1, w2, w3, w4, w5, w6, w7, w8⟩ := hW.1
  refine sX12_form ?_
  refine ⟨?_, ?_⟩
  · omega
  refine ⟨fun c1 => ?_, fun c1 => ?_⟩
  · first | exact k1 (by omega) | exact k2 (by omega) (by omega) | exact k3 (by omega) (by omega) (by omega) | exact k4 (by omega) (by omega) (by omega) (by omega) | (exfalso; omega)
  · refine ⟨?_, ?_⟩
    · omega
    refine ⟨fun c2 => ?_, fun c2 => ?_⟩
    · refine ⟨?_, ?_⟩
      · omega
      refine ⟨fun c3 => ?_, fun c3 => ?_⟩
      · refine ⟨?_, ?_⟩
        · omega
        refine ⟨fun c4 => ?_, fun c4 => ?_⟩
        · refine ⟨fun c5 => ?_, fun c5 => ?_⟩
          · first
            | (exfalso; omega)
            | exact lX12_form ⟨by omega, by omega, by omega⟩ hx1 (k (by omega) (by omega) (by omega) (by omega)) 20 0 M (by omega) (by omega) (fun _ _ => rfl) (fun q a b => by exfalso; omega) (fun _ _ => rfl)
          · first | exact k1 (by omega) | exact k2 (by omega) (by omega) | exact k3 (by omega) (by omega) (by omega) | exact k4 (by omega) (by omega) (by omega) (by omega) | (exfalso; omega)
        · first | exact k1 (by omega) | exact k2 (by omega) (by omega) | exact k3 (by omega) (by omega) (by omega) | exact k4 (by omega) (by omega) (by omega) (by omega) | (exfalso; omega)
      · first | exact k1 (by omega) | exact k2 (by omega) (by omega) | exact k3 (by omega) (by omega) (by omega) | exact k4 (by omega) (by omega) (by omega) (by omega) | (exfalso; omega)
    · first | exact k1 (by omega) | exact k2 (by omega) (by omega) | exact k3 (by omega) (by omega) (by omega) | exact k4 (by omega) (by omega) (by omega) (by omega) | (exfalso; omega)
