/-! MODEL: some choices are taken -/
/-- the same but for what judging leaves -/
def Ej (M N : M3) : Prop := (∀ q : Nat, q ∉ ([44, 53, 54, 55, 78, 79] : List Nat) → N q = M q) ∧ ∀ j : Int, j ∉ ([11, 12, 13, 17, 50, 51, 52] : List Int) → N 44 0 j = M 44 0 j
theorem Ej.rf {M : M3} : Ej M M := ⟨fun _ _ => rfl, fun _ _ => rfl⟩
theorem Ej.tr {M N K : M3} (h : Ej M N) (h2 : Ej N K) : Ej M K := ⟨fr_tr h.1 h2.1, fun j hj => (h2.2 j hj).trans (h.2 j hj)⟩
theorem Ej.m {M N : M3} (h : Em M N) : Ej M N := by
  refine ⟨fr_sub h.1 (by decide), fun j hj => h.2 j fun z => hj ?_⟩
  have : ∀ x ∈ ([11, 12, 13, 17] : List Int), x ∈ ([11, 12, 13, 17, 50, 51, 52] : List Int) := by decide
  exact this j z
theorem Ej.up {M N : M3} (h : Ej M N) {r : Nat} {i j v : Int} (hr : r ∈ ([78, 79] : List Nat)) : Ej M (up3 N r i j v) := by
  refine ⟨fr_up h.1 ?_, fun k hk => (up3_nr fun e => by rw [← e] at hr; exact absurd hr (by decide)).trans (h.2 k hk)⟩
  have : ∀ x ∈ ([78, 79] : List Nat), x ∈ ([44, 53, 54, 55, 78, 79] : List Nat) := by decide
  exact this r hr
theorem Ej.ups {M N : M3} (h : Ej M N) {j v : Int} (hj : j ∈ ([50, 51, 52] : List Int)) : Ej M (up3 N 44 0 j v) := by
  refine ⟨fr_up h.1 (by decide), fun k hk => (up3_nj fun e => hk ?_).trans (h.2 k hk)⟩
  have : ∀ x ∈ ([50, 51, 52] : List Int), x ∈ ([11, 12, 13, 17, 50, 51, 52] : List Int) := by decide
  rw [e]
  exact this j hj
theorem Ej.L {M N : M3} (h : Ej M N) : LM3 N = LM3 M := LM3_eq (h.1 52 (by decide)) (h.2 9 (by decide))
theorem Es.j {M N : M3} (h : Ej M N) : Es M N := by
  refine ⟨fun q hq => h.1 q fun z => hq ?_, fun j _ => by rw [h.1 3 (by decide)], fun j _ => by rw [h.1 31 (by decide)], h.2⟩
  have : ∀ x ∈ ([44, 53, 54, 55, 78, 79] : List Nat), x ∈ (3 :: 31 :: 44 :: scR : List Nat) := by decide
  exact this q z
abbrev lsnP (M : M3) (bits b j : Int) : Prop := tkP bits j ∧ M 75 0 j = 0 ∧ M 76 0 j = b
/-- lessons for a beat by the first k choices -/
def gvs (M : M3) (bits k b : Int) : Int := cn3 k fun j => decide (lsnP M bits b j)
abbrev askd (M : M3) : Int := sSd (LM3 M) 22 (M 44 0 0)
abbrev allR (M : M3) : Prop := sSd (LM3 M) 20 (M 44 0 0) ≤ sRm (LM3 M) (M 44 0 0)
abbrev rdP (M : M3) (bits k p : Int) : Prop := tkP bits k ∧ M 75 0 k ≠ 0 ∧ M 76 0 k = p ∧ frP M p ∧ askd M ≤ min 20 (M 47 0 p + 2 * gvs M bits k (M 45 0 p)) ∧ allR M
/-- who came by the first k choices -/
def cmN (M : M3) (bits : Int) : Nat → Int → Bool
  | 0, _ => false
  | n + 1, p => cmN M bits n p || decide (rdP M bits n p)
abbrev cmI (M : M3) (bits k p : Int) : Bool := cmN M bits k.toNat p
theorem cm_s {M : M3} {bits k p : Int} (h : 0 ≤ k) : cmI M bits (k + 1) p = (cmI M bits k p || decide (rdP M bits k p)) := by
  obtain ⟨n, rfl⟩ := Int.eq_ofNat_of_zero_le h
  rfl
theorem cm_n {M : M3} {bits k p : Int} (h : 0 ≤ k) (hr : ¬ rdP M bits k p) : cmI M bits (k + 1) p = cmI M bits k p := by
  rw [cm_s h, decide_eq_false hr, Bool.or_false]
theorem gvs_s {M : M3} {bits k b : Int} (h : 0 ≤ k) : gvs M bits (k + 1) b = gvs M bits k b + (if lsnP M bits b k then 1 else 0) := by
  unfold gvs
  rw [cn3_s h]
  congr 1
  by_cases q : lsnP M bits b k
  · rw [if_pos q, if_pos (decide_eq_true q)]
  · rw [if_neg q, if_neg fun z => q (of_decide_eq_true z)]
theorem gvs_rg {M : M3} {bits k b : Int} (h : 0 ≤ k) : 0 ≤ gvs M bits k b ∧ gvs M bits k b ≤ k := cn3_rg h _
def prs (M : M3) (bits k : Int) : Int := sm3 k fun j => if tkP bits j then M 77 0 j else 0
def jOn (M : M3) (bits : Int) : Int := cn3 (M 44 0 1) fun p => cmI M bits (M 44 0 44) p
abbrev rdyP (M : M3) (bits p : Int) : Prop := frP M p ∧ cmI M bits (M 44 0 44) p = false ∧ askd M ≤ min 20 (M 47 0 p + 2 * gvs M bits (M 44 0 44) (M 45 0 p))
def jRd (M : M3) (bits : Int) : Int := cn3 (M 44 0 1) fun p => decide (rdyP M bits p)
def jPr (M : M3) (bits : Int) : Int := prs M bits (M 44 0 44)
def okJ (M : M3) : Prop := okP M ∧ (0 ≤ M 44 0 44 ∧ M 44 0 44 ≤ 8) ∧ ∀ k : Int, 0 ≤ k → k < M 44 0 44 → (M 75 0 k ≠ 0 → 0 ≤ M 76 0 k ∧ M 76 0 k < M 44 0 1) ∧ (0 ≤ M 77 0 k ∧ M 77 0 k ≤ 100)
def poJd (M : M3) (bits : Int) (N : M3) : Prop := N 44 0 50 = jOn M bits ∧ N 44 0 51 = jRd M bits ∧ N 44 0 52 = jPr M bits
theorem prs_rg {M : M3} (h : okJ M) {bits k : Int} (hk : 0 ≤ k ∧ k ≤ M 44 0 44) : 0 ≤ prs M bits k ∧ prs M bits k ≤ 800 := by
  have := sm3_rg (n := k) (B := 100) hk.1 (f := fun j => if tkP bits j then M 77 0 j else 0) fun j a b => by
    have := (h.2.2 j a (by omega)).2
    show 0 ≤ (if tkP bits j then M 77 0 j else 0) ∧ (if tkP bits j then M 77 0 j else 0) ≤ 100
    split <;> omega
  have := h.2.1
  unfold prs
  omega
/-- how it stands behind the first k choices -/
def jI (M : M3) (bits k : Int) (N : M3) : Prop := (∀ p : Int, 0 ≤ p → p < M 44 0 1 → (N 79 0 p = 0 ↔ cmI M bits k p = false) ∧ (0 ≤ N 78 0 p ∧ N 78 0 p ≤ 20) ∧ (frP M p → cmI M bits k p = false → N 78 0 p = min 20 (M 47 0 p + 2 * gvs M bits k (M 45 0 p)))) ∧ N 44 0 50 = cn3 (M 44 0 1) (fun p => cmI M bits k p) ∧ N 44 0 51 = 0 ∧ N 44 0 52 = prs M bits k
theorem jI_no {M N : M3} {bits k : Int} (hk : 0 ≤ k) (h : jI M bits k N) (ht : ¬ tkP bits k) : jI M bits (k + 1) N := by
  obtain ⟨h1, h2, h3, h4⟩ := h
  have ec : ∀ p : Int, cmI M bits (k + 1) p = cmI M bits k p := fun p => cm_n hk fun z => ht z.1
  have eg : ∀ b : Int, gvs M bits (k + 1) b = gvs M bits k b := fun b => by rw [gvs_s hk, if_neg fun z => ht z.1]; omega
  unfold jI
  simp only [ec, eg]
  refine ⟨h1, h2, h3, ?_⟩
  rw [h4, prs, prs, sm3_s hk, if_neg ht]
  omega
theorem frP_e {M N : M3} (h : Ej M N) (p : Int) : frP N p ↔ frP M p := by
  unfold frP alw3
  rw [h.L, h.1 50 (by decide), h.1 46 (by decide), h.2 0 (by decide)]
theorem jI_yes {M N K : M3} {bits k x2 : Int} (hJ : okJ M) (hk : 0 ≤ k ∧ k < M 44 0 44) (h : jI M bits k N) (hN : Ej M N) (ht : tkP bits k) (hx : x2 = if allR M then 1 else 0) (hT : Em (tkM (up3 N 44 0 52 (N 44 0 52 + N 77 0 k)) k (askd M) x2) K) : jI M bits (k + 1) K := by
  obtain ⟨h1, h2, h3, h4⟩ := h
  have hB := hN.ups (j := 52) (v := N 44 0 52 + N 77 0 k) (by decide)
  have b52 : up3 N 44 0 52 (N 44 0 52 + N 77 0 k) 44 0 52 = prs M bits (k + 1) := by
    rw [up3_eq, h4, prs, prs, sm3_s hk.1, if_pos ht, hN.1 77 (by decide)]
  have b50 : up3 N 44 0 52 (N 44 0 52 + N 77 0 k) 44 0 50 = cn3 (M 44 0 1) (fun p => cmI M bits k p) := (up3_nj (by decide)).trans h2
  have b51 : up3 N 44 0 52 (N 44 0 52 + N 77 0 k) 44 0 51 = 0 := (up3_nj (by decide)).trans h3
  have b78 : up3 N 44 0 52 (N 44 0 52 + N 77 0 k) 78 = N 78 := up3_r (by decide)
  have b79 : up3 N 44 0 52 (N 44 0 52 + N 77 0 k) 79 = N 79 := up3_r (by decide)
  generalize up3 N 44 0 52 (N 44 0 52 + N 77 0 k) = B at *
  obtain ⟨⟨p1, p2, p3⟩, j1, j2⟩ := hJ
  have c1 := (j2 k hk.1 hk.2).1
  have e75 : B 75 = M 75 := hB.1 75 (by decide)
  have e76 : B 76 = M 76 := hB.1 76 (by decide)
  have e45 : B 45 = M 45 := hB.1 45 (by decide)
  have e1 : B 44 0 1 = M 44 0 1 := hB.2 1 (by decide)
  unfold tkM at hT
  rw [e75, e76, e1] at hT
  by_cases hr : M 75 0 k = 0
  · rw [if_pos hr] at hT
    have ec : ∀ p : Int, cmI M bits (k + 1) p = cmI M bits k p := fun p => cm_n hk.1 fun z => z.2.1 hr
    have k79 : K 79 = N 79 := ((hT.1 79 (by decide)).trans (ws1_r (by decide))).trans b79
    have k44 : ∀ j : Int, j ∉ ([11, 12, 13, 17] : List Int) → K 44 0 j = B 44 0 j := fun j hj => (hT.2 j hj).trans (by rw [ws1_r (by decide)])
    refine ⟨fun p a b => ?_, ?_, (k44 51 (by decide)).trans b51, (k44 52 (by decide)).trans b52⟩
    · obtain ⟨i1, i2, i3⟩ := h1 p a b
      rw [ec p, k79]
      by_cases hl : lnC B (M 76 0 k) p
      · have kv : K 78 0 p = min 20 (N 78 0 p + 2) := by
          rw [hT.1 78 (by decide), ws1_in ⟨a, b⟩ (decide_eq_true hl)]
          show min 20 (B 78 0 p + 2) = _
          rw [b78]
        rw [kv]
        refine ⟨i1, by omega, fun f c => ?_⟩
        have := i3 f c
        rw [gvs_s hk.1, if_pos ⟨ht, hr, by rw [← e45]; exact hl.2.2.symm⟩]
        omega
      · have kv : K 78 0 p = N 78 0 p := by rw [hT.1 78 (by decide), ws1_no (decide_eq_false hl), b78]
        rw [kv]
        refine ⟨i1, i2, fun f c => ?_⟩
        have := i3 f c
        rw [gvs_s hk.1, if_neg fun z => hl ⟨(frP_e hB p).mpr f, by rw [b79]; exact i1.mpr c, by rw [e45]; exact z.2.2.symm⟩]
        omega
    · rw [k44 50 (by decide), b50]
      exact cn3_congr fun p _ _ => (ec p).symm
  · rw [if_neg hr] at hT
    have hp := c1 hr
    obtain ⟨i1, i2, i3⟩ := h1 (M 76 0 k) hp.1 hp.2
    have eg : ∀ b : Int, gvs M bits (k + 1) b = gvs M bits k b := fun b => by rw [gvs_s hk.1, if_neg fun z => hr z.2.1]; omega
    have ne : ∀ p : Int, p ≠ M 76 0 k → cmI M bits (k + 1) p = cmI M bits k p := fun p hp => cm_n hk.1 fun z => hp z.2.2.1.symm
    have hiff : rdC B (M 76 0 k) (askd M) x2 ↔ cmI M bits k (M 76 0 k) = false ∧ rdP M bits k (M 76 0 k) := by
      constructor
      · intro z
        obtain ⟨z1, z2, z3, z4⟩ := z
        have f := (frP_e hB _).mp z1
        rw [b79] at z2
        rw [b78] at z3
        have c := i1.mp z2
        refine ⟨c, ht, hr, rfl, f, by rw [← i3 f c]; exact z3, ?_⟩
        exact Classical.byContradiction fun y => z4 (by rw [hx, if_neg y])
      · intro z
        obtain ⟨z0, z1, z2, z3, z4, z5, z6⟩ := z
        refine ⟨(frP_e hB _).mpr z4, by rw [b79]; exact i1.mpr z0, by rw [b78, i3 z4 z0]; exact z5, ?_⟩
        rw [hx, if_pos z6]
        decide
    by_cases hc : rdC B (M 76 0 k) (askd M) x2
    · rw [if_pos hc] at hT
      obtain ⟨z0, z1⟩ := hiff.mp hc
      have ct : cmI M bits (k + 1) (M 76 0 k) = true := by rw [cm_s hk.1, decide_eq_true z1, Bool.or_true]
      have k78 : K 78 = N 78 := (((hT.1 78 (by decide)).trans (up3_r (by decide))).trans (up3_r (by decide))).trans b78
      have k44 : ∀ j : Int, j ≠ 50 → j ∉ ([11, 12, 13, 17] : List Int) → K 44 0 j = B 44 0 j := fun j a hj => (hT.2 j hj).trans (by rw [up3_nj a, up3_nr (by decide)])
      refine ⟨fun p a b => ?_, ?_, (k44 51 (by decide) (by decide)).trans b51, (k44 52 (by decide) (by decide)).trans b52⟩
      · obtain ⟨y1, y2, y3⟩ := h1 p a b
        rw [k78, eg]
        by_cases e : p = M 76 0 k
        · rw [e, ct, hT.1 79 (by decide), up3_nr (by decide), up3_eq]
          rw [e] at y2
          exact ⟨⟨fun q => absurd q (by decide), fun q => absurd q (by decide)⟩, y2, fun _ q => absurd q (by decide)⟩
        · rw [ne p e, hT.1 79 (by decide), up3_nr (by decide), up3_nj e, b79]
          exact ⟨y1, y2, y3⟩
      · rw [hT.2 50 (by decide), up3_eq, b50]
        exact (cn3_one hp z0 ct fun p _ _ e => ne p e).symm
    · rw [if_neg hc] at hT
      have ec : ∀ p : Int, cmI M bits (k + 1) p = cmI M bits k p := fun p => by
        by_cases e : p = M 76 0 k
        · rw [e, cm_s hk.1]
          by_cases z : rdP M bits k (M 76 0 k)
          · cases hv : cmI M bits k (M 76 0 k) with
            | true => rfl
            | false => exact absurd (hiff.mpr ⟨hv, z⟩) hc
          · rw [decide_eq_false z, Bool.or_false]
        · exact ne p e
      have k78 : K 78 = N 78 := (hT.1 78 (by decide)).trans b78
      have k79 : K 79 = N 79 := (hT.1 79 (by decide)).trans b79
      refine ⟨fun p a b => ?_, ?_, (hT.2 51 (by decide)).trans b51, (hT.2 52 (by decide)).trans b52⟩
      · rw [k78, k79, eg, ec p]
        exact h1 p a b
      · rw [hT.2 50 (by decide), b50]
        exact cn3_congr fun p _ _ => (ec p).symm
theorem lX12_j50 {E : E3} {Q : Q3} {M0 : M3} {x1 x2 x3 : Int} (hz : okJ M0) (k : ∀ (N : M3), RM3 N → Ej M0 N → RdC N → jI M0 x1 0 N → G3 E YX12_judges Q 90 [(0, vR 44 0), (1, vI x1), (2, vI x2), (3, vI x3), (4, vI 0)] [] N) : ∀ (n : Nat) (x4 : Int) (M : M3), 0 ≤ x4 → x4 + n = M0 44 0 1 → RdC M → Ej M0 M → (∀ p : Int, 0 ≤ p → p < x4 → M 79 0 p = 0 ∧ M 78 0 p = M0 47 0 p) → (M 44 0 50 = 0 ∧ M 44 0 51 = 0 ∧ M 44 0 52 = 0) → G3 E YX12_judges Q 50 [(0, vR 44 0), (1, vI x1), (2, vI x2), (3, vI x3), (4, vI x4)] [] M := by
  intro n
  induction n with
  | zero =>
    intro x4 M h1 h2 h3 h4 h5 h6
    refine g3_rm fun hM => ?_
    have hz1 := hz.1.1
    have e1 : M 44 0 1 = M0 44 0 1 := h4.2 1 (by decide)
    have e47 : M 47 = M0 47 := h4.1 47 (by decide)
    refine sX12_judges_50 ?_
    simp only [e1, e47]
    refine ⟨?_, ?_⟩
    · first | omega | (exfalso; omega)
    refine ⟨fun c1 => ?_, fun c1 => ?_⟩
    · first
        | (exfalso; omega)
        | (refine k M hM h4 h3 ⟨fun p a b => ?_, ?_, h6.2.1, h6.2.2⟩
           · have hp := hz.1.2.2 p a b
             obtain ⟨a1, a2⟩ := h5 p a (by omega)
             rw [a1, a2]
             refine ⟨⟨fun _ => rfl, fun _ => rfl⟩, hp, fun _ _ => ?_⟩
             have : gvs M0 x1 0 (M0 45 0 p) = 0 := rfl
             rw [this]
             omega
           · rw [h6.1]
             exact (cn3_zero.mpr fun p _ _ => rfl).symm)
    · refine ⟨?_, ?_⟩
      · first | omega | (exfalso; omega)
      first
        | (exfalso; omega)
        | (refine k M hM h4 h3 ⟨fun p a b => ?_, ?_, h6.2.1, h6.2.2⟩
           · have hp := hz.1.2.2 p a b
             obtain ⟨a1, a2⟩ := h5 p a (by omega)
             rw [a1, a2]
             refine ⟨⟨fun _ => rfl, fun _ => rfl⟩, hp, fun _ _ => ?_⟩
             have : gvs M0 x1 0 (M0 45 0 p) = 0 := rfl
             rw [this]
             omega
           · rw [h6.1]
             exact (cn3_zero.mpr fun p _ _ => rfl).symm)
  | succ n ih =>
    intro x4 M h1 h2 h3 h4 h5 h6
    refine g3_rm fun hM => ?_
    have hz1 := hz.1.1
    have e1 : M 44 0 1 = M0 44 0 1 := h4.2 1 (by decide)
    have e47 : M 47 = M0 47 := h4.1 47 (by decide)
    refine sX12_judges_50 ?_
    simp only [e1, e47]
    refine ⟨?_, ?_⟩
    · first | omega | (exfalso; omega)
    refine ⟨fun c1 => ?_, fun c1 => ?_⟩
    · first
        | (exfalso; omega)
        | (refine ih _ _ (by omega) (by omega) ((h3.up (by decide)).up (by decide)) ((h4.up (by decide)).up (by decide)) (fun p a b => ?_) ?_
           · by_cases e : p = x4
             · rw [e]
               exact ⟨up3_eq, (up3_nr (by decide)).trans up3_eq⟩
             · rw [up3_nj e, up3_nr (by decide), up3_nr (by decide), up3_nj e]
               exact h5 p a (by omega)
           · rw [up3_nr (by decide), up3_nr (by decide), up3_nr (by decide), up3_nr (by decide), up3_nr (by decide), up3_nr (by decide)]
             exact h6)
    · refine ⟨?_, ?_⟩
      · first | omega | (exfalso; omega)
      first
        | (exfalso; omega)
        | (refine ih _ _ (by omega) (by omega) ((h3.up (by decide)).up (by decide)) ((h4.up (by decide)).up (by decide)) (fun p a b => ?_) ?_
           · by_cases e : p = x4
             · rw [e]
               exact ⟨up3_eq, (up3_nr (by decide)).trans up3_eq⟩
             · rw [up3_nj e, up3_nr (by decide), up3_nr (by decide), up3_nj e]
               exact h5 p a (by omega)
           · rw [up3_nr (by decide), up3_nr (by decide), up3_nr (by decide), up3_nr (by decide), up3_nr (by decide), up3_nr (by decide)]
             exact h6)
theorem lX12_j90 {E : E3} {Q : Q3} {M0 : M3} {x1 x2 x3 : Int} (hz : okJ M0) (hx : x2 = (if allR M0 then 1 else 0) ∧ x3 = askd M0) (k : ∀ (N : M3), RM3 N → Ej M0 N → RdC N → jI M0 x1 (M0 44 0 44) N → G3 E YX12_judges Q 142 [(0, vR 44 0), (3, vI x3), (4, vI 0)] [] N) : ∀ (n : Nat) (x4 : Int) (M : M3), 0 ≤ x4 → x4 + n = M0 44 0 44 → RdC M → Ej M0 M → jI M0 x1 x4 M → G3 E YX12_judges Q 90 [(0, vR 44 0), (1, vI x1), (2, vI x2), (3, vI x3), (4, vI x4)] [] M := by
  intro n
  induction n with
  | zero =>
    intro x4 M h1 h2 h3 h4 h5
    refine g3_rm fun hM => ?_
    have hz1 := hz.1.1
    have hz2 := hz.2.1
    have e44 : M 44 0 44 = M0 44 0 44 := h4.2 44 (by decide)
    have e77 : M 77 = M0 77 := h4.1 77 (by decide)
    have hx2 : x2 = 0 ∨ x2 = 1 := by
      rw [hx.1]
      split
      · exact Or.inr rfl
      · exact Or.inl rfl
    refine sX12_judges_90 ?_
    simp only [e44, e77]
    refine ⟨?_, ?_⟩
    · first | omega | exact hob | (exfalso; omega)
    refine ⟨fun c1 => ?_, fun c1 => ?_⟩
    · first
        | (exfalso; omega)
        | (rw [show x4 = M0 44 0 44 by omega] at h5; exact k M hM h4 h3 h5)
    · refine ⟨fun c2 => ?_, fun c2 => ?_⟩
      · first
          | (exfalso; omega)
          | (rw [show x4 = M0 44 0 44 by omega] at h5; exact k M hM h4 h3 h5)
      · refine ⟨?_, ?_, ?_, ?_⟩
        · first | omega | exact hob | (exfalso; omega)
        · first | omega | exact hob | (exfalso; omega)
        · first | omega | exact hob | (exfalso; omega)
        intro N1 hN1 hf1 hs1 hp1
        first
          | (exfalso; omega)
          | (rw [show x4 = M0 44 0 44 by omega] at h5; exact k M hM h4 h3 h5)
  | succ n ih =>
    intro x4 M h1 h2 h3 h4 h5
    refine g3_rm fun hM => ?_
    have hz1 := hz.1.1
    have hz2 := hz.2.1
    have e44 : M 44 0 44 = M0 44 0 44 := h4.2 44 (by decide)
    have e77 : M 77 = M0 77 := h4.1 77 (by decide)
    have hx2 : x2 = 0 ∨ x2 = 1 := by
      rw [hx.1]
      split
      · exact Or.inr rfl
      · exact Or.inl rfl
    have hp7 := (hz.2.2 x4 h1 (by omega)).2
    have hpr := prs_rg hz (bits := x1) (k := x4) (by omega)
    have hcc := (hz.2.2 x4 h1 (by omega)).1
    have hday := hz.1.2.1
    have h52 := h5.2.2.2
    have h50 := h5.2.1
    have hcn := cn3_rg hz1.1 (fun p => cmI M0 x1 x4 p)
    have s22 := h3.sd 22 (M 44 0 0)
    have eask : askd M = askd M0 := by unfold askd; rw [h4.L, h4.2 0 (by decide)]
    have hob : RdC (up3 M 44 0 52 (M 44 0 52 + M0 77 0 x4)) ∧ preTk (up3 M 44 0 52 (M 44 0 52 + M0 77 0 x4)) x4 x3 x2 := by
      refine ⟨h3.ups (by decide), by omega, ?_, ?_, ?_, fun p a b => ?_, ?_, ?_, by omega⟩
      · rw [up3_r (by decide), up3_r (by decide), h4.1 75 (by decide), h4.1 76 (by decide)]
        intro q
        have := hcc q
        omega
      · rw [up3_nj (by decide), h4.2 1 (by decide)]
        exact hz1
      · rw [up3_nj (by decide), h4.2 0 (by decide)]
        exact hday
      · rw [up3_nj (by decide), h4.2 1 (by decide)] at b
        rw [up3_r (by decide)]
        exact (h5.1 p a b).2.1
      · rw [up3_nj (by decide), h50]
        omega
      · rw [hx.2, ← eask]
        unfold askd
        omega
    refine sX12_judges_90 ?_
    simp only [e44, e77]
    refine ⟨?_, ?_⟩
    · first | omega | exact hob | (exfalso; omega)
    refine ⟨fun c1 => ?_, fun c1 => ?_⟩
    · first
        | (exfalso; omega)
        | exact ih _ _ (by omega) (by omega) h3 h4 (jI_no h1 h5 (by assumption))
        | (have ht : tkP x1 x4 := by assumption
           rw [hx.2] at hp1
           have hp2 : Em (tkM (up3 M 44 0 52 (M 44 0 52 + M 77 0 x4)) x4 (askd M0) x2) N1 := by rw [e77]; exact hp1.2
           refine ih _ _ (by omega) (by omega) hp1.1 ?_ (jI_yes hz ⟨h1, by omega⟩ h5 h4 ht hx.1 hp2)
           refine ((h4.ups (j := 52) (v := M 44 0 52 + M0 77 0 x4) (by decide)).tr ⟨hf1, fun j hj => hs1 j fun z => hj ?_⟩)
           have : ∀ x ∈ ([11, 12, 13, 17, 50] : List Int), x ∈ ([11, 12, 13, 17, 50, 51, 52] : List Int) := by decide
           exact this j z)
    · refine ⟨fun c2 => ?_, fun c2 => ?_⟩
      · first
          | (exfalso; omega)
          | exact ih _ _ (by omega) (by omega) h3 h4 (jI_no h1 h5 (by assumption))
          | (have ht : tkP x1 x4 := by assumption
             rw [hx.2] at hp1
             have hp2 : Em (tkM (up3 M 44 0 52 (M 44 0 52 + M 77 0 x4)) x4 (askd M0) x2) N1 := by rw [e77]; exact hp1.2
             refine ih _ _ (by omega) (by omega) hp1.1 ?_ (jI_yes hz ⟨h1, by omega⟩ h5 h4 ht hx.1 hp2)
             refine ((h4.ups (j := 52) (v := M 44 0 52 + M0 77 0 x4) (by decide)).tr ⟨hf1, fun j hj => hs1 j fun z => hj ?_⟩)
             have : ∀ x ∈ ([11, 12, 13, 17, 50] : List Int), x ∈ ([11, 12, 13, 17, 50, 51, 52] : List Int) := by decide
             exact this j z)
      · refine ⟨?_, ?_, ?_, ?_⟩
        · first | omega | exact hob | (exfalso; omega)
        · first | omega | exact hob | (exfalso; omega)
        · first | omega | exact hob | (exfalso; omega)
        intro N1 hN1 hf1 hs1 hp1
        first
          | (exfalso; omega)
          | exact ih _ _ (by omega) (by omega) h3 h4 (jI_no h1 h5 (by assumption))
          | (have ht : tkP x1 x4 := by assumption
             rw [hx.2] at hp1
             have hp2 : Em (tkM (up3 M 44 0 52 (M 44 0 52 + M 77 0 x4)) x4 (askd M0) x2) N1 := by rw [e77]; exact hp1.2
             refine ih _ _ (by omega) (by omega) hp1.1 ?_ (jI_yes hz ⟨h1, by omega⟩ h5 h4 ht hx.1 hp2)
             refine ((h4.ups (j := 52) (v := M 44 0 52 + M0 77 0 x4) (by decide)).tr ⟨hf1, fun j hj => hs1 j fun z => hj ?_⟩)
             have : ∀ x ∈ ([11, 12, 13, 17, 50] : List Int), x ∈ ([11, 12, 13, 17, 50, 51, 52] : List Int) := by decide
             exact this j z)
theorem lX12_j142 {E : E3} {Q : Q3} {M0 : M3} {x1 x3 : Int} (hz : okJ M0) (hx : x3 = askd M0 ∧ -1000 ≤ x3 ∧ x3 ≤ 1000) (k : ∀ (N : M3), RM3 N → Ej M0 N → RdC N → poJd M0 x1 N → Q none N) : ∀ (n : Nat) (x4 : Int) (M : M3), 0 ≤ x4 → x4 + n = M0 44 0 1 → RdC M → Ej M0 M → (∀ p : Int, 0 ≤ p → p < M0 44 0 1 → (M 79 0 p = 0 ↔ cmI M0 x1 (M0 44 0 44) p = false) ∧ (frP M0 p → cmI M0 x1 (M0 44 0 44) p = false → M 78 0 p = min 20 (M0 47 0 p + 2 * gvs M0 x1 (M0 44 0 44) (M0 45 0 p)))) → M 44 0 50 = jOn M0 x1 → M 44 0 51 = cn3 x4 (fun p => decide (rdyP M0 x1 p)) → M 44 0 52 = jPr M0 x1 → G3 E YX12_judges Q 142 [(0, vR 44 0), (3, vI x3), (4, vI x4)] [] M := by
  intro n
  induction n with
  | zero =>
    intro x4 M h1 h2 h3 h4 h5 h6 h7 h8
    refine g3_rm fun hM => ?_
    have hz1 := hz.1.1
    have hday := hz.1.2.1
    have e1 : M 44 0 1 = M0 44 0 1 := h4.2 1 (by decide)
    have e0 : M 44 0 0 = M0 44 0 0 := h4.2 0 (by decide)
    have e50 : M 50 = M0 50 := h4.1 50 (by decide)
    have e46 : M 46 = M0 46 := h4.1 46 (by decide)
    have eL := h4.L
    have rc := cn3_rg h1 (fun p => decide (rdyP M0 x1 p))
    refine sX12_judges_142 ?_
    simp only [e1, e0, e50, e46, eL]
    refine ⟨?_, ?_⟩
    · first | omega | exact ⟨h3, hday⟩ | (exfalso; omega)
    refine ⟨fun c1 => ?_, fun c1 => ?_⟩
    · first
        | (exfalso; omega)
        | (rw [show x4 = M0 44 0 1 by omega] at h7
           exact k M hM h4 h3 ⟨h6, h7, h8⟩)
    · refine ⟨?_, ?_⟩
      · first | omega | exact ⟨h3, hday⟩ | (exfalso; omega)
      refine ⟨fun c2 => ?_, fun c2 => ?_⟩
      · refine ⟨?_, ?_⟩
        · first | omega | exact ⟨h3, hday⟩ | (exfalso; omega)
        exfalso; omega
      · refine ⟨fun c3 => ?_, fun c3 => ?_⟩
        · refine ⟨?_, ?_⟩
          · first | omega | exact ⟨h3, hday⟩ | (exfalso; omega)
          exfalso; omega
        · refine ⟨?_, ?_⟩
          · first | omega | exact ⟨h3, hday⟩ | (exfalso; omega)
          intro N1 hN1 he1 hp1
          refine ⟨fun c4 => ?_, fun c4 => ?_⟩
          · refine ⟨?_, ?_⟩
            · first | omega | exact ⟨h3, hday⟩ | (exfalso; omega)
            exfalso; omega
          · refine ⟨?_, ?_⟩
            · first | omega | exact ⟨h3, hday⟩ | (exfalso; omega)
            refine ⟨fun c5 => ?_, fun c5 => ?_⟩
            · refine ⟨?_, ?_⟩
              · first | omega | exact ⟨h3, hday⟩ | (exfalso; omega)
              exfalso; omega
            · refine ⟨?_, ?_⟩
              · first | omega | exact ⟨h3, hday⟩ | (exfalso; omega)
              exfalso; omega
  | succ n ih =>
    intro x4 M h1 h2 h3 h4 h5 h6 h7 h8
    refine g3_rm fun hM => ?_
    have hz1 := hz.1.1
    have hday := hz.1.2.1
    have e1 : M 44 0 1 = M0 44 0 1 := h4.2 1 (by decide)
    have e0 : M 44 0 0 = M0 44 0 0 := h4.2 0 (by decide)
    have e50 : M 50 = M0 50 := h4.1 50 (by decide)
    have e46 : M 46 = M0 46 := h4.1 46 (by decide)
    have eL := h4.L
    have rc := cn3_rg h1 (fun p => decide (rdyP M0 x1 p))
    obtain ⟨i1, i2⟩ := h5 x4 h1 (by omega)
    have step : ∀ (N : M3) (v : Int), Ej M0 N → RdC N → (∀ p : Int, N 79 0 p = M 79 0 p ∧ N 78 0 p = M 78 0 p) → N 44 0 50 = M 44 0 50 → N 44 0 52 = M 44 0 52 → v = M 44 0 51 + (if rdyP M0 x1 x4 then 1 else 0) → G3 E YX12_judges Q 142 [(0, vR 44 0), (3, vI x3), (4, vI (x4 + 1))] [] (up3 N 44 0 51 v) := fun N v a b c d e f => by
      refine ih _ _ (by omega) (by omega) (b.ups (by decide)) (a.ups (by decide)) (fun p p0 p1 => ?_) ?_ ?_ ?_
      · rw [up3_nr (by decide), up3_nr (by decide), (c p).1, (c p).2]
        exact h5 p p0 p1
      · rw [up3_nj (by decide), d, h6]
      · rw [up3_eq, f, h7, cn3_s h1]
        congr 1
        by_cases q : rdyP M0 x1 x4
        · rw [if_pos q, if_pos (decide_eq_true q)]
        · rw [if_neg q, if_neg fun z => q (of_decide_eq_true z)]
      · rw [up3_nj (by decide), e, h8]
    have hno : ¬ frP M0 x4 ∨ M 79 0 x4 ≠ 0 ∨ M 78 0 x4 < x3 → ¬ rdyP M0 x1 x4 := fun q z => by
      obtain ⟨z1, z2, z3⟩ := z
      rcases q with q | q | q
      · exact q z1
      · exact q (i1.mpr z2)
      · have := i2 z1 z2
        omega
    refine sX12_judges_142 ?_
    simp only [e1, e0, e50, e46, eL]
    refine ⟨?_, ?_⟩
    · first | omega | exact ⟨h3, hday⟩ | (exfalso; omega)
    refine ⟨fun c1 => ?_, fun c1 => ?_⟩
    · exfalso; omega
    · refine ⟨?_, ?_⟩
      · first | omega | exact ⟨h3, hday⟩ | (exfalso; omega)
      refine ⟨fun c2 => ?_, fun c2 => ?_⟩
      · refine ⟨?_, ?_⟩
        · first | omega | exact ⟨h3, hday⟩ | (exfalso; omega)
        first
          | (exfalso; omega)
          | (have hP : ¬ rdyP M0 x1 x4 := hno (by first | exact Or.inr (Or.inl (by assumption)) | exact Or.inr (Or.inr (by assumption)) | exact Or.inl (fun z => by first | exact absurd z.1 (by assumption) | exact absurd z.2 (by assumption)))
             first
               | exact step M _ h4 h3 (fun p => ⟨rfl, rfl⟩) rfl rfl (by rw [if_neg hP])
               | exact step N1 _ (h4.tr (Ej.m he1)) hp1 (fun p => by rw [he1.1 79 (by decide), he1.1 78 (by decide)]; exact ⟨rfl, rfl⟩) (he1.2 50 (by decide)) (he1.2 52 (by decide)) (by rw [if_neg hP]))
          | (have hf : frP M0 x4 := ⟨by assumption, by assumption⟩
             have hcm := i1.mp (by assumption)
             have hP : rdyP M0 x1 x4 := ⟨hf, hcm, by have := i2 hf hcm; omega⟩
             exact step N1 _ (h4.tr (Ej.m he1)) hp1 (fun p => by rw [he1.1 79 (by decide), he1.1 78 (by decide)]; exact ⟨rfl, rfl⟩) (he1.2 50 (by decide)) (he1.2 52 (by decide)) (by rw [if_pos hP]))
      · refine ⟨fun c3 => ?_, fun c3 => ?_⟩
        · refine ⟨?_, ?_⟩
          · first | omega | exact ⟨h3, hday⟩ | (exfalso; omega)
          first
            | (exfalso; omega)
            | (have hP : ¬ rdyP M0 x1 x4 := hno (by first | exact Or.inr (Or.inl (by assumption)) | exact Or.inr (Or.inr (by assumption)) | exact Or.inl (fun z => by first | exact absurd z.1 (by assumption) | exact absurd z.2 (by assumption)))
               first
                 | exact step M _ h4 h3 (fun p => ⟨rfl, rfl⟩) rfl rfl (by rw [if_neg hP])
                 | exact step N1 _ (h4.tr (Ej.m he1)) hp1 (fun p => by rw [he1.1 79 (by decide), he1.1 78 (by decide)]; exact ⟨rfl, rfl⟩) (he1.2 50 (by decide)) (he1.2 52 (by decide)) (by rw [if_neg hP]))
            | (have hf : frP M0 x4 := ⟨by assumption, by assumption⟩
               have hcm := i1.mp (by assumption)
               have hP : rdyP M0 x1 x4 := ⟨hf, hcm, by have := i2 hf hcm; omega⟩
               exact step N1 _ (h4.tr (Ej.m he1)) hp1 (fun p => by rw [he1.1 79 (by decide), he1.1 78 (by decide)]; exact ⟨rfl, rfl⟩) (he1.2 50 (by decide)) (he1.2 52 (by decide)) (by rw [if_pos hP]))
        · refine ⟨?_, ?_⟩
          · first | omega | exact ⟨h3, hday⟩ | (exfalso; omega)
          intro N1 hN1 he1 hp1
          refine ⟨fun c4 => ?_, fun c4 => ?_⟩
          · refine ⟨?_, ?_⟩
            · first | omega | exact ⟨h3, hday⟩ | (exfalso; omega)
            first
              | (exfalso; omega)
              | (have hP : ¬ rdyP M0 x1 x4 := hno (by first | exact Or.inr (Or.inl (by assumption)) | exact Or.inr (Or.inr (by assumption)) | exact Or.inl (fun z => by first | exact absurd z.1 (by assumption) | exact absurd z.2 (by assumption)))
                 first
                   | exact step M _ h4 h3 (fun p => ⟨rfl, rfl⟩) rfl rfl (by rw [if_neg hP])
                   | exact step N1 _ (h4.tr (Ej.m he1)) hp1 (fun p => by rw [he1.1 79 (by decide), he1.1 78 (by decide)]; exact ⟨rfl, rfl⟩) (he1.2 50 (by decide)) (he1.2 52 (by decide)) (by rw [if_neg hP]))
              | (have hf : frP M0 x4 := ⟨by assumption, by assumption⟩
                 have hcm := i1.mp (by assumption)
                 have hP : rdyP M0 x1 x4 := ⟨hf, hcm, by have := i2 hf hcm; omega⟩
                 exact step N1 _ (h4.tr (Ej.m he1)) hp1 (fun p => by rw [he1.1 79 (by decide), he1.1 78 (by decide)]; exact ⟨rfl, rfl⟩) (he1.2 50 (by decide)) (he1.2 52 (by decide)) (by rw [if_pos hP]))
          · refine ⟨?_, ?_⟩
            · first | omega | exact ⟨h3, hday⟩ | (exfalso; omega)
            refine ⟨fun c5 => ?_, fun c5 => ?_⟩
            · refine ⟨?_, ?_⟩
              · first | omega | exact ⟨h3, hday⟩ | (exfalso; omega)
              first
                | (exfalso; omega)
                | (have hP : ¬ rdyP M0 x1 x4 := hno (by first | exact Or.inr (Or.inl (by assumption)) | exact Or.inr (Or.inr (by assumption)) | exact Or.inl (fun z => by first | exact absurd z.1 (by assumption) | exact absurd z.2 (by assumption)))
                   first
                     | exact step M _ h4 h3 (fun p => ⟨rfl, rfl⟩) rfl rfl (by rw [if_neg hP])
                     | exact step N1 _ (h4.tr (Ej.m he1)) hp1 (fun p => by rw [he1.1 79 (by decide), he1.1 78 (by decide)]; exact ⟨rfl, rfl⟩) (he1.2 50 (by decide)) (he1.2 52 (by decide)) (by rw [if_neg hP]))
                | (have hf : frP M0 x4 := ⟨by assumption, by assumption⟩
                   have hcm := i1.mp (by assumption)
                   have hP : rdyP M0 x1 x4 := ⟨hf, hcm, by have := i2 hf hcm; omega⟩
                   exact step N1 _ (h4.tr (Ej.m he1)) hp1 (fun p => by rw [he1.1 79 (by decide), he1.1 78 (by decide)]; exact ⟨rfl, rfl⟩) (he1.2 50 (by decide)) (he1.2 52 (by decide)) (by rw [if_pos hP]))
            · refine ⟨?_, ?_⟩
              · first | omega | exact ⟨h3, hday⟩ | (exfalso; omega)
              first
                | (exfalso; omega)
                | (have hP : ¬ rdyP M0 x1 x4 := hno (by first | exact Or.inr (Or.inl (by assumption)) | exact Or.inr (Or.inr (by assumption)) | exact Or.inl (fun z => by first | exact absurd z.1 (by assumption) | exact absurd z.2 (by assumption)))
                   first
                     | exact step M _ h4 h3 (fun p => ⟨rfl, rfl⟩) rfl rfl (by rw [if_neg hP])
                     | exact step N1 _ (h4.tr (Ej.m he1)) hp1 (fun p => by rw [he1.1 79 (by decide), he1.1 78 (by decide)]; exact ⟨rfl, rfl⟩) (he1.2 50 (by decide)) (he1.2 52 (by decide)) (by rw [if_neg hP]))
                | (have hf : frP M0 x4 := ⟨by assumption, by assumption⟩
                   have hcm := i1.mp (by assumption)
                   have hP : rdyP M0 x1 x4 := ⟨hf, hcm, by have := i2 hf hcm; omega⟩
                   exact step N1 _ (h4.tr (Ej.m he1)) hp1 (fun p => by rw [he1.1 79 (by decide), he1.1 78 (by decide)]; exact ⟨rfl, rfl⟩) (he1.2 50 (by decide)) (he1.2 52 (by decide)) (by rw [if_pos hP]))
theorem kX12_judges {E : E3} {Q : Q3} {M : M3} {x1 : Int} (h : RdC M ∧ okJ M) (k : ∀ (N : M3), RM3 N → (∀ q : Nat, q ∉ ([44, 53, 54, 55, 78, 79] : List Nat) → N q = M q) → (∀ j : Int, j ∉ ([11, 12, 13, 17, 50, 51, 52] : List Int) → N 44 0 j = M 44 0 j) → RdC N ∧ poJd M x1 N → Q none N) : C3 E YX12_judges [vR 44 0, vI x1] M Q := by
  refine c3_rm fun hM => ?_
  obtain ⟨hR, hz⟩ := h
  have hz1 := hz.1.1
  have hz2 := hz.2.1
  have hday := hz.1.2.1
  have s22 := hR.sd 22 (M 44 0 0)
  have s20 := hR.sd 20 (M 44 0 0)
  have srm : 0 ≤ sRm (LM3 M) (M 44 0 0) ∧ sRm (LM3 M) (M 44 0 0) ≤ 20 := cn3_rg (by omega) _
  have hs22 : -1000 ≤ sSd (LM3 M) 22 (M 44 0 0) ∧ sSd (LM3 M) 22 (M 44 0 0) ≤ 1000 := by omega
  have main : ∀ (x2 : Int) (N : M3), x2 = (if allR M then 1 else 0) → RM3 N → Em M N → RdC N → G3 E YX12_judges Q 50 [(0, vR 44 0), (1, vI x1), (2, vI x2), (3, vI (sSd (LM3 M) 22 (M 44 0 0))), (4, vI 0)] [] (up3 (up3 (up3 N 44 0 50 0) 44 0 51 0) 44 0 52 0) := fun x2 N a b c d =>
    lX12_j50 hz (fun N2 a2 b2 c2 d2 => lX12_j90 hz ⟨a, rfl⟩ (fun N3 a3 b3 c3 d3 => lX12_j142 (x1 := x1) hz ⟨rfl, hs22⟩ (fun N4 a4 b4 c4 d4 => k N4 a4 b4.1 b4.2 ⟨c4, d4⟩) (M 44 0 1).toNat 0 N3 (by omega) (by omega) c3 b3 (fun p p0 p1 => ⟨(d3.1 p p0 p1).1, (d3.1 p p0 p1).2.2⟩) d3.2.1 d3.2.2.1 d3.2.2.2) (M 44 0 44).toNat 0 N2 (by omega) (by omega) c2 b2 d2) (M 44 0 1).toNat 0 _ (by omega) (by omega) (((d.ups (by decide)).ups (by decide)).ups (by decide)) ((((Ej.m c).ups (by decide)).ups (by decide)).ups (by decide)) (fun p a b => by omega) ⟨by rw [up3_nj (by decide), up3_nj (by decide), up3_eq], by rw [up3_nj (by decide), up3_eq], up3_eq⟩
  refine sX12_judges ?_
  refine ⟨?_, ?_⟩
  · first | omega | exact ⟨hR, hday⟩ | exact ⟨hp1, by omega, hday⟩ | exact ⟨hp2, by omega, hday⟩
  intro N1 hN1 he1 hp1
  refine ⟨?_, ?_⟩
  · first | omega | exact ⟨hR, hday⟩ | exact ⟨hp1, by omega, hday⟩ | exact ⟨hp2, by omega, hday⟩
  intro N2 hN2 he2 hp2
  refine ⟨?_, ?_, ?_⟩
  · first | omega | exact ⟨hR, hday⟩ | exact ⟨hp1, by omega, hday⟩ | exact ⟨hp2, by omega, hday⟩
  · first | omega | exact ⟨hR, hday⟩ | exact ⟨hp1, by omega, hday⟩ | exact ⟨hp2, by omega, hday⟩
  refine ⟨fun c1 => ?_, fun c1 => ?_⟩
  · refine ⟨?_, ?_⟩
    · first | omega | exact ⟨hR, hday⟩ | exact ⟨hp1, by omega, hday⟩ | exact ⟨hp2, by omega, hday⟩
    intro N3 hN3 he3 hp3
    first
    | exact main 0 N3 (by rw [if_neg (by unfold allR; omega)]) hN3 (Em.tr (Em.tr he1 he2) he3) hp3
    | exact main 1 N3 (by rw [if_pos (by assumption)]) hN3 (Em.tr (Em.tr he1 he2) he3) hp3
  · refine ⟨?_, ?_⟩
    · first | omega | exact ⟨hR, hday⟩ | exact ⟨hp1, by omega, hday⟩ | exact ⟨hp2, by omega, hday⟩
    intro N3 hN3 he3 hp3
    first
    | exact main 0 N3 (by rw [if_neg (by unfold allR; omega)]) hN3 (Em.tr (Em.tr he1 he2) he3) hp3
    | exact main 1 N3 (by rw [if_pos (by assumption)]) hN3 (Em.tr (Em.tr he1 he2) he3) hp3
