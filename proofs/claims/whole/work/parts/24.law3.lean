/-! CLASS: the whole text is read -/
abbrev len3 (M : M3) : Int := M 3 0 0
abbrev LL3 (M : M3) : List (Int × Int × Int) := lwL (M 3 0 0) (M 4 0)
def ars3 (N : M3) (ps : List (Int × Int × Int)) : Prop := ∀ k : Int, 0 ≤ k → k < (ps.length : Int) → N 5 0 k = (gp3 ps k).1 ∧ N 6 0 k = (gp3 ps k).2.1 ∧ N 7 0 k = (gp3 ps k).2.2
def poParse (M N : M3) : Prop := (∀ j : Int, j ≠ 1 → j ≠ 3 → j ≠ 4 → j ≠ 10 → N 3 0 j = M 3 0 j) ∧ N 3 0 10 = -1 ∧ N 3 0 1 = lwF (M 3 0 0) (M 4 0) ∧ N 3 0 4 = ((LL3 M).length : Int) ∧ ars3 N (LL3 M)
def preParse (M : M3) : Prop := 0 ≤ M 3 0 0 ∧ M 3 0 0 ≤ 200
theorem gp3_old {ps : List (Int × Int × Int)} {x : Int × Int × Int} {k : Int} (h : 0 ≤ k ∧ k < (ps.length : Int)) : gp3 (ps ++ [x]) k = gp3 ps k := by
  unfold gp3
  rw [List.getD_eq_getElem?_getD, List.getD_eq_getElem?_getD, List.getElem?_append_left (by omega)]
theorem gp3_new {ps : List (Int × Int × Int)} {x : Int × Int × Int} {k : Int} (h : k = (ps.length : Int)) : gp3 (ps ++ [x]) k = x := by
  unfold gp3
  rw [List.getD_eq_getElem?_getD, h, show ((ps.length : Int)).toNat = ps.length by omega]
  simp
theorem lX4_parse {E : E3} {Q : Q3} {M0 : M3} (hl : preParse M0) (k : ∀ (N : M3), RM3 N → (∀ q : Nat, q ∉ ([3, 5, 6, 7] : List Nat) → N q = M0 q) → poParse M0 N → Q none N) : ∀ (n : Nat) (M : M3) (x1 : Int) (ps : List (Int × Int × Int)), x1 + n = 51 → (ps.length : Int) = x1 → (∀ q : Nat, q ∉ ([3, 5, 6, 7] : List Nat) → M q = M0 q) → (∀ j : Int, j ≠ 1 → j ≠ 3 → j ≠ 4 → j ≠ 10 → M 3 0 j = M0 3 0 j) → M 3 0 10 = -1 → M 3 0 1 = -1 → M 3 0 4 = x1 → (4 * x1 ≤ M 3 0 3 ∧ M 3 0 3 ≤ M0 3 0 0) → ars3 M ps → pz3 (M0 3 0 0) (tb3 M0) n (M 3 0 3) ps = lwA (M0 3 0 0) (M0 4 0) → G3 E YX4_parse Q 22 [(0, vR 3 0), (1, vI x1)] [] M := by
  intro n
  induction n with
  | zero =>
    intro M x1 ps h1 h2 h3 h4 h5 h6 h7 h8 h9 h10
    exact absurd h8 (by have := hl.2; omega)
  | succ n ih =>
    intro M x1 ps h1 h2 h3 h4 h5 h6 h7 h8 h9 h10
    have hl1 := hl.1
    have hl2 := hl.2
    have e0 : M 3 0 0 = M0 3 0 0 := h4 0 (by decide) (by decide) (by decide) (by decide)
    have et : tb3 M = tb3 M0 := by unfold tb3; rw [e0, h3 4 (by decide)]
    rw [pz3.eq_2] at h10
    have fin1 : ∀ (N : M3) (qs : List (Int × Int × Int)), RM3 N → (∀ q : Nat, q ∉ ([3, 5, 6, 7] : List Nat) → N q = M0 q) → (∀ j : Int, j ≠ 1 → j ≠ 3 → j ≠ 4 → j ≠ 10 → N 3 0 j = M0 3 0 j) → N 3 0 10 = -1 → N 3 0 1 = -1 → N 3 0 4 = (qs.length : Int) → ars3 N qs → lwA (M0 3 0 0) (M0 4 0) = (-1, qs) → Q none N := fun N qs a b c d e f g h => by
      have hF : lwF (M0 3 0 0) (M0 4 0) = -1 := by unfold lwF; rw [h]
      have hL : LL3 M0 = qs := by show lwL _ _ = qs; unfold lwL; rw [if_pos hF, h]
      exact k N a b ⟨c, d, by rw [hF]; exact e, by rw [f, hL], by rw [hL]; exact g⟩
    have fin2 : ∀ (N : M3) (f : Int) (qs : List (Int × Int × Int)), RM3 N → (∀ q : Nat, q ∉ ([3, 5, 6, 7] : List Nat) → N q = M0 q) → (∀ j : Int, j ≠ 1 → j ≠ 3 → j ≠ 4 → j ≠ 10 → N 3 0 j = M0 3 0 j) → N 3 0 10 = -1 → N 3 0 1 = f → f ≠ -1 → N 3 0 4 = 0 → lwA (M0 3 0 0) (M0 4 0) = (f, qs) → Q none N := fun N f qs a b c d e g f4 h => by
      have hF : lwF (M0 3 0 0) (M0 4 0) = f := by unfold lwF; rw [h]
      have hL : LL3 M0 = [] := by show lwL _ _ = []; unfold lwL; rw [if_neg (by rw [hF]; exact g)]
      exact k N a b ⟨c, d, by rw [hF]; exact e, by rw [f4, hL]; rfl, by rw [hL]; exact fun k h0 h1 => by simp at h1; omega⟩
    have e00 := e0
    refine sX4_parse_22 ?_
    refine ⟨by omega, fun c1 => absurd c1 (by omega), fun c1 => ?_⟩
    refine ⟨⟨by omega, by omega, by omega, by omega⟩, ?_⟩
    intro r1 N1 hN1 hf1 hp1
    unfold poTake at hp1
    rw [et] at hp1
    have f0 : N1 3 0 0 = M0 3 0 0 := (hp1.1 0 (by decide) (by decide) (by decide)).trans e0
    have f10 : N1 3 0 10 = -1 := (hp1.1 10 (by decide) (by decide) (by decide)).trans h5
    have fr1 := fr_tr h3 hf1
    have fj1 : ∀ j : Int, j ≠ 1 → j ≠ 3 → j ≠ 4 → j ≠ 10 → N1 3 0 j = M0 3 0 j := fun j a b c d => (hp1.1 j b a c).trans (h4 j a b c d)
    by_cases hP : (pa3 (tb3 M0) (M 3 0 3)).1 ≠ -1
    · rw [if_pos hP] at h10
      obtain ⟨g1, g2, g3, g4, g5, g6⟩ := hp1.2.1 hP
      refine ⟨by omega, fun c2 => ⟨fun c3 => absurd (g2.symm.trans c3) hP, fun c3 => ?_⟩, fun c2 => absurd g1 c2⟩
      exact fin2 _ _ ps (hN1.up (by omega)) (fr_up fr1 (by decide)) (fun j a b c d => (up3_nj c).trans (fj1 j a b c d)) ((up3_nj (by decide)).trans f10) ((up3_nj (by decide)).trans g2) hP up3_eq h10.symm
    · rw [if_neg hP] at h10
      have hP1 := Classical.byContradiction hP
      obtain ⟨g1, g2, g3, g4, g5⟩ := hp1.2.2 hP1
      have ok := pa3_ok hP1 (by omega)
      have okA : M 3 0 3 + 3 ≤ (pa3 (tb3 M0) (M 3 0 3)).2.2 := ok.2.1
      have okB : (pa3 (tb3 M0) (M 3 0 3)).2.2 ≤ M0 3 0 0 := ok.2.2
      have ar : ars3 N1 (ps ++ [(pa3 (tb3 M0) (M 3 0 3)).2.1]) := fun k a b => by
        have hlen : ((ps ++ [(pa3 (tb3 M0) (M 3 0 3)).2.1]).length : Int) = x1 + 1 := by simp; omega
        rw [hlen] at b
        obtain ⟨b1, b2, b3⟩ := g5 k
        by_cases q : k = M 3 0 4
        · rw [gp3_new (by omega)]
          rw [if_pos q] at b1 b2 b3
          exact ⟨b1, b2, b3⟩
        · rw [gp3_old (by omega)]
          rw [if_neg q] at b1 b2 b3
          obtain ⟨d1, d2, d3⟩ := h9 k a (by omega)
          exact ⟨b1.trans d1, b2.trans d2, b3.trans d3⟩
      have f1 : N1 3 0 1 = -1 := g2.trans h6
      have f4 : N1 3 0 4 = ((ps ++ [(pa3 (tb3 M0) (M 3 0 3)).2.1]).length : Int) := by simp; omega
      refine ⟨by omega, fun c2 => absurd c2 (by omega), fun c2 => ?_⟩
      rw [f0, g3]
      refine ⟨fun c3 => ⟨fun c4 => ?_, fun c4 => absurd f1 c4⟩, fun c3 => ⟨fun c4 => absurd c3 (by omega), fun c4 => ?_⟩⟩
      · rw [if_pos c3] at h10
        exact fin1 N1 _ hN1 fr1 fj1 f10 f1 f4 ar h10.symm
      · rw [if_neg (by omega)] at h10
        have eb : M 4 0 (pa3 (tb3 M0) (M 3 0 3)).2.2 = tb3 M0 (pa3 (tb3 M0) (M 3 0 3)).2.2 := by
          rw [h3 4 (by decide)]
          exact (by3_in (by omega)).symm
        rw [eb]
        refine ⟨by omega, fun c5 => ⟨by omega, ?_⟩, fun c5 => ⟨by omega, fun c6 => absurd c6 (by omega), fun c6 => ?_⟩⟩
        · rw [if_pos c5] at h10
          refine ih _ _ (ps ++ [(pa3 (tb3 M0) (M 3 0 3)).2.1]) (by omega) (by simp; omega) (fr_up fr1 (by decide)) (fun j a b c d => (up3_nj b).trans (fj1 j a b c d)) ((up3_nj (by decide)).trans f10) ((up3_nj (by decide)).trans f1) ((up3_nj (by decide)).trans (by omega)) (by rw [up3_eq]; omega) (fun k a b => ?_) (by rw [up3_eq]; exact h10)
          rw [up3_nr (by decide), up3_nr (by decide), up3_nr (by decide)]
          exact ar k a b
        · rw [if_neg c5] at h10
          exact fin2 _ _ _ ((hN1.up (by omega)).up (by omega)) (fr_up (fr_up fr1 (by decide)) (by decide)) (fun j a b c d => (up3_nj c).trans ((up3_nj a).trans (fj1 j a b c d))) ((up3_nj (by decide)).trans ((up3_nj (by decide)).trans f10)) ((up3_nj (by decide)).trans up3_eq) c6 up3_eq h10.symm
theorem kX4_parse {E : E3} {Q : Q3} {M : M3} (h : preParse M) (k : ∀ (N : M3), RM3 N → (∀ q : Nat, q ∉ ([3, 5, 6, 7] : List Nat) → N q = M q) → poParse M N → Q none N) : C3 E YX4_parse [vR 3 0] M Q := by
  refine sX4_parse (lX4_parse h k 51 _ 0 [] (by omega) rfl ?_ ?_ ?_ ?_ ?_ ?_ ?_ ?_)
  · exact fr_up (fr_up (fr_up (fr_up fr_rf (by decide)) (by decide)) (by decide)) (by decide)
  · exact fun j a b c d => (up3_nj a).trans ((up3_nj b).trans ((up3_nj c).trans (up3_nj d)))
  · exact (up3_nj (by decide)).trans ((up3_nj (by decide)).trans ((up3_nj (by decide)).trans up3_eq))
  · exact up3_eq
  · exact (up3_nj (by decide)).trans ((up3_nj (by decide)).trans up3_eq)
  · rw [show (up3 (up3 (up3 (up3 M 3 0 10 (-1)) 3 0 4 0) 3 0 3 0) 3 0 1 (-1)) 3 0 3 = 0 from (up3_nj (by decide)).trans up3_eq]
    have := h.1
    omega
  · exact fun k a b => by simp at b; omega
  · rw [show (up3 (up3 (up3 (up3 M 3 0 10 (-1)) 3 0 4 0) 3 0 3 0) 3 0 1 (-1)) 3 0 3 = 0 from (up3_nj (by decide)).trans up3_eq]
    rfl
