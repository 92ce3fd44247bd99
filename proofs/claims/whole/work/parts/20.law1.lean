/-! CLASS: the text of the laws is read -/
abbrev tb3 (M : M3) : Int → Int := by3 (M 3 0 0) (M 4 0)
theorem tb3_c (M : M3) (hp : 0 ≤ M 3 0 3) : (M 3 0 3 < M 3 0 0 ∧ tb3 M (M 3 0 3) = M 4 0 (M 3 0 3)) ∨ (M 3 0 0 ≤ M 3 0 3 ∧ tb3 M (M 3 0 3) = -1) := by
  by_cases q : M 3 0 3 < M 3 0 0
  · exact Or.inl ⟨q, by3_in ⟨hp, q⟩⟩
  · exact Or.inr ⟨by omega, by3_out (by omega)⟩
def preNum (M : M3) (f lo hi : Int) : Prop := (0 ≤ f ∧ f ≤ 3) ∧ ((-2147483648 ≤ lo ∧ lo ≤ 2147483647) ∧ (-2147483648 ≤ hi ∧ hi ≤ 2147483647)) ∧ (0 ≤ M 3 0 3 ∧ M 3 0 3 ≤ 300) ∧ 0 ≤ M 3 0 0 ∧ M 3 0 0 ≤ 200
def poNum (M : M3) (f lo hi r : Int) (N : M3) : Prop := N 3 0 3 = (nu3 (tb3 M) f.toNat (M 3 0 3) 0).2 ∧ (∀ j : Int, j ≠ 3 → j ≠ 1 → N 3 0 j = M 3 0 j) ∧ (ba3 (nu3 (tb3 M) f.toNat (M 3 0 3) 0) (M 3 0 3) lo hi → r = -1 ∧ N 3 0 1 = M 3 0 3) ∧ (¬ ba3 (nu3 (tb3 M) f.toNat (M 3 0 3) 0) (M 3 0 3) lo hi → r = (nu3 (tb3 M) f.toNat (M 3 0 3) 0).1 ∧ N 3 0 1 = M 3 0 1) ∧ -1 ≤ r ∧ r ≤ 999999
theorem lX4_takeNumber {E : E3} {Q : Q3} {M0 : M3} {x1 x2 x3 : Int} (h : preNum M0 x1 x2 x3) (k : ∀ (r : Int) (N : M3), RM3 N → (∀ q : Nat, q ∉ ([3] : List Nat) → N q = M0 q) → poNum M0 x1 x2 x3 r N → Q (some (vI r)) N) : ∀ (n : Nat) (M : M3) (x5 x6 : Int), x6 + n = x1 → 0 ≤ x6 → (∀ q : Nat, q ∉ ([3] : List Nat) → M q = M0 q) → (∀ j : Int, j ≠ 3 → M 3 0 j = M0 3 0 j) → (M0 3 0 3 ≤ M 3 0 3 ∧ M 3 0 3 ≤ M0 3 0 3 + x6) → (0 ≤ x5 ∧ (x6 = 0 → x5 ≤ 0) ∧ (x6 = 1 → x5 ≤ 9) ∧ (x6 = 2 → x5 ≤ 99) ∧ (x6 = 3 → x5 ≤ 999)) → nu3 (tb3 M0) n (M 3 0 3) x5 = nu3 (tb3 M0) x1.toNat (M0 3 0 3) 0 → G3 E YX4_takeNumber Q 12 [(0, vR 3 0), (1, vI x1), (2, vI x2), (3, vI x3), (4, vI (M0 3 0 3)), (5, vI x5), (6, vI x6)] [] M := by
  obtain ⟨hf, ⟨hlo, hhi⟩, hp, hl⟩ := h
  have fin : ∀ (M : M3) (x5 : Int), RM3 M → (∀ q : Nat, q ∉ ([3] : List Nat) → M q = M0 q) → (∀ j : Int, j ≠ 3 → M 3 0 j = M0 3 0 j) → nu3 (tb3 M0) x1.toNat (M0 3 0 3) 0 = (x5, M 3 0 3) → (0 ≤ x5 ∧ x5 ≤ 999) → ((M 3 0 3 = M0 3 0 3 ∨ x5 < x2 ∨ x3 < x5) → Q (some (vI (-1))) (up3 M 3 0 1 (M0 3 0 3))) ∧ (¬ (M 3 0 3 = M0 3 0 3 ∨ x5 < x2 ∨ x3 < x5) → Q (some (vI x5)) M) := by
    intro M x5 hM hfr hj hw h5
    refine ⟨fun hb => k _ _ (hM.up (by omega)) (fr_up hfr (by decide)) ⟨by rw [hw]; exact up3_nj (by decide), fun j h1 h2 => (up3_nj h2).trans (hj j h1), fun _ => ⟨rfl, up3_eq⟩, fun q => absurd (by rw [hw]; exact hb) q, by omega⟩, fun hb => k _ _ hM hfr ⟨by rw [hw], fun j h1 h2 => hj j h1, fun q => absurd (by rw [hw] at q; exact q) hb, fun _ => ⟨by rw [hw], hj 1 (by decide)⟩, by omega⟩⟩
  intro n
  induction n with
  | zero =>
    intro M x5 x6 h1 h2 h3 h4 h5 h6 h7
    refine g3_rm fun hM => ?_
    obtain ⟨hb, hg⟩ := fin M x5 hM h3 h4 h7.symm (by omega)
    refine sX4_takeNumber_12 ?_
    refine ⟨?_, ?_, ?_⟩
    · omega
    · omega
    refine ⟨fun c1 => ?_, fun c1 => ?_⟩
    · refine ⟨?_, ?_⟩
      · omega
      refine ⟨fun c2 => ?_, fun c2 => ?_⟩
      · first | (exfalso; omega) | exact hb (by omega) | exact hg (by omega)
      · refine ⟨?_, ?_, ?_⟩
        · omega
        · omega
        refine ⟨fun c3 => ?_, fun c3 => ?_⟩
        · first | (exfalso; omega) | exact hb (by omega) | exact hg (by omega)
        · refine ⟨?_, ?_⟩
          · omega
          refine ⟨fun c4 => ?_, fun c4 => ?_⟩
          · first | (exfalso; omega) | exact hb (by omega) | exact hg (by omega)
          · first | (exfalso; omega) | exact hb (by omega) | exact hg (by omega)
    · refine ⟨fun c2 => ?_, fun c2 => ?_⟩
      · refine ⟨?_, ?_⟩
        · omega
        refine ⟨fun c3 => ?_, fun c3 => ?_⟩
        · first | (exfalso; omega) | exact hb (by omega) | exact hg (by omega)
        · refine ⟨?_, ?_, ?_⟩
          · omega
          · omega
          refine ⟨fun c4 => ?_, fun c4 => ?_⟩
          · first | (exfalso; omega) | exact hb (by omega) | exact hg (by omega)
          · refine ⟨?_, ?_⟩
            · omega
            refine ⟨fun c5 => ?_, fun c5 => ?_⟩
            · first | (exfalso; omega) | exact hb (by omega) | exact hg (by omega)
            · first | (exfalso; omega) | exact hb (by omega) | exact hg (by omega)
      · refine ⟨?_, ?_⟩
        · omega
        refine ⟨fun c3 => ?_, fun c3 => ?_⟩
        · refine ⟨?_, ?_⟩
          · omega
          refine ⟨fun c4 => ?_, fun c4 => ?_⟩
          · first | (exfalso; omega) | exact hb (by omega) | exact hg (by omega)
          · refine ⟨?_, ?_, ?_⟩
            · omega
            · omega
            refine ⟨fun c5 => ?_, fun c5 => ?_⟩
            · first | (exfalso; omega) | exact hb (by omega) | exact hg (by omega)
            · refine ⟨?_, ?_⟩
              · omega
              refine ⟨fun c6 => ?_, fun c6 => ?_⟩
              · first | (exfalso; omega) | exact hb (by omega) | exact hg (by omega)
              · first | (exfalso; omega) | exact hb (by omega) | exact hg (by omega)
        · refine ⟨fun c4 => ?_, fun c4 => ?_⟩
          · refine ⟨?_, ?_⟩
            · omega
            refine ⟨fun c5 => ?_, fun c5 => ?_⟩
            · first | (exfalso; omega) | exact hb (by omega) | exact hg (by omega)
            · refine ⟨?_, ?_, ?_⟩
              · omega
              · omega
              refine ⟨fun c6 => ?_, fun c6 => ?_⟩
              · first | (exfalso; omega) | exact hb (by omega) | exact hg (by omega)
              · refine ⟨?_, ?_⟩
                · omega
                refine ⟨fun c7 => ?_, fun c7 => ?_⟩
                · first | (exfalso; omega) | exact hb (by omega) | exact hg (by omega)
                · first | (exfalso; omega) | exact hb (by omega) | exact hg (by omega)
          · refine ⟨?_, ?_⟩
            · omega
            exfalso; omega
  | succ n ih =>
    intro M x5 x6 h1 h2 h3 h4 h5 h6 h7
    refine g3_rm fun hM => ?_
    have e4 : M 4 = M0 4 := h3 4 (by decide)
    have e0 : M 3 0 0 = M0 3 0 0 := h4 0 (by decide)
    have hc := tb3_c M (by omega)
    have et : tb3 M = tb3 M0 := by unfold tb3; rw [e4, e0]
    rw [et] at hc
    have hst : ¬ (48 ≤ tb3 M0 (M 3 0 3) ∧ tb3 M0 (M 3 0 3) ≤ 57) → nu3 (tb3 M0) x1.toNat (M0 3 0 3) 0 = (x5, M 3 0 3) := fun q => by
      rw [← h7]
      unfold nu3
      rw [if_neg q]
    have hgo : (48 ≤ tb3 M0 (M 3 0 3) ∧ tb3 M0 (M 3 0 3) ≤ 57) → nu3 (tb3 M0) n (M 3 0 3 + 1) (10 * x5 + tb3 M0 (M 3 0 3) - 48) = nu3 (tb3 M0) x1.toNat (M0 3 0 3) 0 := fun q => by
      rw [← h7, nu3.eq_2, if_pos q]
    refine sX4_takeNumber_12 ?_
    refine ⟨?_, ?_, ?_⟩
    · omega
    · omega
    refine ⟨fun c1 => ?_, fun c1 => ?_⟩
    · refine ⟨?_, ?_⟩
      · omega
      refine ⟨fun c2 => ?_, fun c2 => ?_⟩
      · first | (exfalso; omega) | exact (fin M x5 hM h3 h4 (hst (by omega)) (by omega)).1 (by omega) | exact (fin M x5 hM h3 h4 (hst (by omega)) (by omega)).2 (by omega)
      · refine ⟨?_, ?_, ?_⟩
        · omega
        · omega
        refine ⟨fun c3 => ?_, fun c3 => ?_⟩
        · first | (exfalso; omega) | exact (fin M x5 hM h3 h4 (hst (by omega)) (by omega)).1 (by omega) | exact (fin M x5 hM h3 h4 (hst (by omega)) (by omega)).2 (by omega)
        · refine ⟨?_, ?_⟩
          · omega
          refine ⟨fun c4 => ?_, fun c4 => ?_⟩
          · first | (exfalso; omega) | exact (fin M x5 hM h3 h4 (hst (by omega)) (by omega)).1 (by omega) | exact (fin M x5 hM h3 h4 (hst (by omega)) (by omega)).2 (by omega)
          · first | (exfalso; omega) | exact (fin M x5 hM h3 h4 (hst (by omega)) (by omega)).1 (by omega) | exact (fin M x5 hM h3 h4 (hst (by omega)) (by omega)).2 (by omega)
    · refine ⟨fun c2 => ?_, fun c2 => ?_⟩
      · refine ⟨?_, ?_⟩
        · omega
        refine ⟨fun c3 => ?_, fun c3 => ?_⟩
        · first | (exfalso; omega) | exact (fin M x5 hM h3 h4 (hst (by omega)) (by omega)).1 (by omega) | exact (fin M x5 hM h3 h4 (hst (by omega)) (by omega)).2 (by omega)
        · refine ⟨?_, ?_, ?_⟩
          · omega
          · omega
          refine ⟨fun c4 => ?_, fun c4 => ?_⟩
          · first | (exfalso; omega) | exact (fin M x5 hM h3 h4 (hst (by omega)) (by omega)).1 (by omega) | exact (fin M x5 hM h3 h4 (hst (by omega)) (by omega)).2 (by omega)
          · refine ⟨?_, ?_⟩
            · omega
            refine ⟨fun c5 => ?_, fun c5 => ?_⟩
            · first | (exfalso; omega) | exact (fin M x5 hM h3 h4 (hst (by omega)) (by omega)).1 (by omega) | exact (fin M x5 hM h3 h4 (hst (by omega)) (by omega)).2 (by omega)
            · first | (exfalso; omega) | exact (fin M x5 hM h3 h4 (hst (by omega)) (by omega)).1 (by omega) | exact (fin M x5 hM h3 h4 (hst (by omega)) (by omega)).2 (by omega)
      · refine ⟨?_, ?_⟩
        · omega
        refine ⟨fun c3 => ?_, fun c3 => ?_⟩
        · refine ⟨?_, ?_⟩
          · omega
          refine ⟨fun c4 => ?_, fun c4 => ?_⟩
          · first | (exfalso; omega) | exact (fin M x5 hM h3 h4 (hst (by omega)) (by omega)).1 (by omega) | exact (fin M x5 hM h3 h4 (hst (by omega)) (by omega)).2 (by omega)
          · refine ⟨?_, ?_, ?_⟩
            · omega
            · omega
            refine ⟨fun c5 => ?_, fun c5 => ?_⟩
            · first | (exfalso; omega) | exact (fin M x5 hM h3 h4 (hst (by omega)) (by omega)).1 (by omega) | exact (fin M x5 hM h3 h4 (hst (by omega)) (by omega)).2 (by omega)
            · refine ⟨?_, ?_⟩
              · omega
              refine ⟨fun c6 => ?_, fun c6 => ?_⟩
              · first | (exfalso; omega) | exact (fin M x5 hM h3 h4 (hst (by omega)) (by omega)).1 (by omega) | exact (fin M x5 hM h3 h4 (hst (by omega)) (by omega)).2 (by omega)
              · first | (exfalso; omega) | exact (fin M x5 hM h3 h4 (hst (by omega)) (by omega)).1 (by omega) | exact (fin M x5 hM h3 h4 (hst (by omega)) (by omega)).2 (by omega)
        · refine ⟨fun c4 => ?_, fun c4 => ?_⟩
          · refine ⟨?_, ?_⟩
            · omega
            refine ⟨fun c5 => ?_, fun c5 => ?_⟩
            · first | (exfalso; omega) | exact (fin M x5 hM h3 h4 (hst (by omega)) (by omega)).1 (by omega) | exact (fin M x5 hM h3 h4 (hst (by omega)) (by omega)).2 (by omega)
            · refine ⟨?_, ?_, ?_⟩
              · omega
              · omega
              refine ⟨fun c6 => ?_, fun c6 => ?_⟩
              · first | (exfalso; omega) | exact (fin M x5 hM h3 h4 (hst (by omega)) (by omega)).1 (by omega) | exact (fin M x5 hM h3 h4 (hst (by omega)) (by omega)).2 (by omega)
              · refine ⟨?_, ?_⟩
                · omega
                refine ⟨fun c7 => ?_, fun c7 => ?_⟩
                · first | (exfalso; omega) | exact (fin M x5 hM h3 h4 (hst (by omega)) (by omega)).1 (by omega) | exact (fin M x5 hM h3 h4 (hst (by omega)) (by omega)).2 (by omega)
                · first | (exfalso; omega) | exact (fin M x5 hM h3 h4 (hst (by omega)) (by omega)).1 (by omega) | exact (fin M x5 hM h3 h4 (hst (by omega)) (by omega)).2 (by omega)
          · refine ⟨?_, ?_⟩
            · omega
            refine ih _ _ _ (by omega) (by omega) (fr_up h3 (by decide)) (fun j hj => (up3_nj hj).trans (h4 j hj)) (by rw [up3_eq]; omega) (by omega) ?_
            have h9 := hgo (by omega)
            rw [up3_eq]
            rw [show tb3 M0 (M 3 0 3) = M 4 0 (M 3 0 3) by omega] at h9
            exact h9
theorem kX4_takeNumber {E : E3} {Q : Q3} {M : M3} {x1 x2 x3 : Int} (h : preNum M x1 x2 x3) (k : ∀ (r : Int) (N : M3), RM3 N → (∀ q : Nat, q ∉ ([3] : List Nat) → N q = M q) → poNum M x1 x2 x3 r N → Q (some (vI r)) N) : C3 E YX4_takeNumber [vR 3 0, vI x1, vI x2, vI x3] M Q :=
  sX4_takeNumber (lX4_takeNumber h k x1.toNat M 0 0 (by have := h.1; omega) (by omega) fr_rf (fun _ _ => rfl) (by omega) (by omega) rfl)
