/-! PAIRS: read -/
def uR (M : M3) (x1 x2 a b : Int) : M3 := up3 (up3 (up3 (up3 M 18 x1 5 (M 2 0 0)) 18 x1 6 x2) 18 x1 7 a) 18 x1 8 b
def wR (M : M3) (x1 x2 d t b : Int) : M3 := up3 (up3 (up3 (up3 M 62 0 x1 d) 60 0 x1 t) 61 0 x1 x2) 63 0 x1 b
abbrev barP (M : M3) (x1 x2 : Int) : Prop := (0 < M 62 0 x1 ∨ (M 74 0 x2 ≠ -1 ∧ M 74 0 x2 ≤ M 44 0 0 ∧ mByT M x1))
theorem uR_r {M : M3} {x1 x2 a b : Int} {q : Nat} (h : q ≠ 18) : uR M x1 x2 a b q = M q := by
  unfold uR
  rw [up3_r h, up3_r h, up3_r h, up3_r h]
theorem uR_j {M : M3} {x1 x2 a b i j : Int} (h : i ≠ x1 ∨ (j ≠ 5 ∧ j ≠ 6 ∧ j ≠ 7 ∧ j ≠ 8)) : uR M x1 x2 a b 18 i j = M 18 i j := by
  unfold uR
  rcases h with h | ⟨h1, h2, h3, h4⟩
  · rw [up3_ni h, up3_ni h, up3_ni h, up3_ni h]
  · rw [up3_nj h4, up3_nj h3, up3_nj h2, up3_nj h1]
theorem uR_5 {M : M3} {x1 x2 a b : Int} : uR M x1 x2 a b 18 x1 5 = M 2 0 0 ∧ uR M x1 x2 a b 18 x1 6 = x2 ∧ uR M x1 x2 a b 18 x1 7 = a ∧ uR M x1 x2 a b 18 x1 8 = b := by
  unfold uR
  exact ⟨by rw [up3_nj (by decide), up3_nj (by decide), up3_nj (by decide), up3_eq], by rw [up3_nj (by decide), up3_nj (by decide), up3_eq], by rw [up3_nj (by decide), up3_eq], up3_eq⟩
theorem wR_r {M : M3} {x1 x2 d t b : Int} {q : Nat} (h : q ∉ ([60, 61, 62, 63] : List Nat)) : wR M x1 x2 d t b q = M q := fr_up (fr_up (fr_up (fr_up fr_rf (by decide)) (by decide)) (by decide)) (by decide) q h
theorem wR_n {M : M3} {x1 x2 d t b i : Int} (h : i ≠ x1) : wR M x1 x2 d t b 60 0 i = M 60 0 i ∧ wR M x1 x2 d t b 61 0 i = M 61 0 i ∧ wR M x1 x2 d t b 62 0 i = M 62 0 i ∧ wR M x1 x2 d t b 63 0 i = M 63 0 i := by
  unfold wR
  exact ⟨by rw [up3_nr (by decide), up3_nr (by decide), up3_nj h, up3_nr (by decide)], by rw [up3_nr (by decide), up3_nj h, up3_nr (by decide), up3_nr (by decide)], by rw [up3_nr (by decide), up3_nr (by decide), up3_nr (by decide), up3_nj h], by rw [up3_nj h, up3_nr (by decide), up3_nr (by decide), up3_nr (by decide)]⟩
theorem wR_v {M : M3} {x1 x2 d t b : Int} : wR M x1 x2 d t b 60 0 x1 = t ∧ wR M x1 x2 d t b 61 0 x1 = x2 ∧ wR M x1 x2 d t b 62 0 x1 = d ∧ wR M x1 x2 d t b 63 0 x1 = b := by
  unfold wR
  exact ⟨by rw [up3_nr (by decide), up3_nr (by decide), up3_eq], by rw [up3_nr (by decide), up3_eq], by rw [up3_nr (by decide), up3_nr (by decide), up3_nr (by decide), up3_eq], up3_eq⟩
theorem inv_read {M K : M3} {x1 x2 h r : Int} (hI : Inv M) (hv : 0 ≤ x1 ∧ x1 < M 44 0 18) (hx2 : 0 ≤ x2 ∧ x2 ≤ 3) (hh : h = 1 ∨ h = 2) (hr : -1 ≤ r ∧ r ≤ 4) (hr2 : h = 2 → 0 ≤ r) (f : ∀ q : Nat, q ∉ ([13, 18, 44, 50, 53, 54, 55, 60, 61, 62, 63] : List Nat) → K q = M q) (f44 : ∀ j : Int, j ∉ ([11, 12, 13, 17] : List Int) → K 44 0 j = M 44 0 j) (f18 : ∀ i j : Int, (i ≠ x1 ∨ (j ≠ 5 ∧ j ≠ 6 ∧ j ≠ 7 ∧ j ≠ 8)) → K 18 i j = M 18 i j) (v5 : K 18 x1 5 = M 44 0 0) (v6 : K 18 x1 6 = x2) (v7 : K 18 x1 7 = if h = 1 then 1 else 0) (v8 : K 18 x1 8 = r) (f60 : ∀ i : Int, i ≠ x1 → K 60 0 i = M 60 0 i ∧ K 61 0 i = M 61 0 i ∧ K 62 0 i = M 62 0 i ∧ K 63 0 i = M 63 0 i) (w60 : K 60 0 x1 = M 44 0 0 ∧ K 61 0 x1 = x2 ∧ K 62 0 x1 = h ∧ K 63 0 x1 = r) (hst : (K 13 = M 13 ∧ K 50 = M 50) ∨ ((M 50 0 (M 56 0 x1) = 0 ∨ M 50 0 (M 56 0 x1) = 2) ∧ (∀ i j : Int, (i ≠ M 56 0 x1 ∨ j ≠ 5) → K 13 i j = M 13 i j) ∧ K 13 (M 56 0 x1) 5 = 1 ∧ (∀ i : Int, i ≠ M 56 0 x1 → K 50 0 i = M 50 0 i) ∧ K 50 0 (M 56 0 x1) = 1)) (hR : RdC K) : Inv K := by
  have hF := hI.1.1.2.2.2.1
  have hx := (hF.2.2 x1 hv.1 hv.2).2.2.2.2.2.2.1
  have hcc := hI.1.1.2.2.1.2.1
  have hP : iCty K := by
    refine ⟨by rw [f 10 (by decide), f44 1 (by decide)]; exact hI.1.1.2.2.1.1, by rw [f44 1 (by decide)]; exact hcc, fun p a c => ?_⟩
    have w := hI.1.1.p a c
    unfold iP at w ⊢
    rw [f44 1 (by decide), f 45 (by decide), f 46 (by decide), f 47 (by decide), f 48 (by decide), f 49 (by decide), f 51 (by decide)]
    rcases hst with ⟨e1, e2⟩ | ⟨e0, e1, e2, e3, e4⟩
    · rw [e1, e2]
      exact w
    · by_cases z : p = M 56 0 x1
      · rw [z] at w ⊢
        rw [e1 _ 0 (Or.inr (by decide)), e1 _ 1 (Or.inr (by decide)), e1 _ 2 (Or.inr (by decide)), e1 _ 3 (Or.inr (by decide)), e1 _ 4 (Or.inr (by decide)), e1 _ 6 (Or.inr (by decide)), e2, e4]
        obtain ⟨⟨p1, p2, p3, p4, p5, p6⟩, q1, q2, q3, q4, q5, q6, q7, q8, q9⟩ := w
        exact ⟨⟨p1, p2, p3, p4, rfl, p6⟩, fun _ => q1 (by omega), fun y => by omega, q3, q4, q5, q6, q7, ⟨by omega, by omega, fun y => by omega⟩, q9⟩
      · rw [e1 _ 0 (Or.inl z), e1 _ 1 (Or.inl z), e1 _ 2 (Or.inl z), e1 _ 3 (Or.inl z), e1 _ 4 (Or.inl z), e1 _ 5 (Or.inl z), e1 _ 6 (Or.inl z), e3 p z]
        exact w
  have hFr : iFrm K := by
    refine ⟨by rw [f 14 (by decide), f44 18 (by decide)]; exact hF.1, by rw [f44 18 (by decide)]; exact hF.2.1, fun g a b => ?_⟩
    rw [f44 18 (by decide)] at b
    have w := hF.2.2 g a b
    unfold iF at w ⊢
    rw [f44 0 (by decide), f44 1 (by decide), f 19 (by decide), f 46 (by decide), f 56 (by decide), f 57 (by decide), f 58 (by decide), f 59 (by decide)]
    by_cases z : g = x1
    · rw [z] at w ⊢
      obtain ⟨g1, g2, g3, g4, g5, g6, g7, g8, g9⟩ := w
      obtain ⟨u1, u2, u3, u4⟩ := w60
      rw [f18 x1 0 (Or.inr (by decide)), f18 x1 1 (Or.inr (by decide)), f18 x1 2 (Or.inr (by decide)), f18 x1 3 (Or.inr (by decide)), v5, v6, v7, v8, u1, u2, u3, u4]
      refine ⟨g1, g2, by omega, ?_, fun y => by omega, fun y => ⟨rfl, rfl, ?_, rfl, ⟨by omega, by omega⟩, hx2, hr, hr2⟩, g7, g8, g9⟩
      · split <;> omega
      · split <;> omega
    · obtain ⟨u1, u2, u3, u4⟩ := f60 g z
      rw [f18 g 0 (Or.inl z), f18 g 1 (Or.inl z), f18 g 2 (Or.inl z), f18 g 3 (Or.inl z), f18 g 5 (Or.inl z), f18 g 6 (Or.inl z), f18 g 7 (Or.inl z), f18 g 8 (Or.inl z), u1, u2, u3, u4]
      exact w
  have hW : iW K := fun g a b => by
    rw [f44 18 (by decide)] at b
    have w := hI.1.2 g a b
    have eL : LM3 K = LM3 M := LM3_eq (f 52 (by decide)) (f44 9 (by decide))
    unfold mLck mRights at w ⊢
    rw [eL, f18 g 9 (Or.inr (by decide)), f18 g 10 (Or.inr (by decide)), f 46 (by decide), f 56 (by decide), f 57 (by decide), f 58 (by decide), f 59 (by decide)]
    exact w
  clear f18 v5 v6 v7 v8 f60 w60 hst
  exact ⟨⟨⟨(iBas_of (by first | exact f _ (by decide) | rw [f _ (by decide)] | exact f44 _ (by decide)) (by first | exact f _ (by decide) | rw [f _ (by decide)] | exact f44 _ (by decide)) (by first | exact f _ (by decide) | rw [f _ (by decide)] | exact f44 _ (by decide)) (by first | exact f _ (by decide) | rw [f _ (by decide)] | exact f44 _ (by decide)) (by first | exact f _ (by decide) | rw [f _ (by decide)] | exact f44 _ (by decide)) (by first | exact f _ (by decide) | rw [f _ (by decide)] | exact f44 _ (by decide)) hI.1.1.1), (iLaw_of (by first | exact f _ (by decide) | rw [f _ (by decide)] | exact f44 _ (by decide)) (by first | exact f _ (by decide) | rw [f _ (by decide)] | exact f44 _ (by decide)) (by first | exact f _ (by decide) | rw [f _ (by decide)] | exact f44 _ (by decide)) (by first | exact f _ (by decide) | rw [f _ (by decide)] | exact f44 _ (by decide)) hI.1.1.2.1), hP, hFr, (iOrd_of (by first | exact f _ (by decide) | rw [f _ (by decide)] | exact f44 _ (by decide)) (by first | exact f _ (by decide) | rw [f _ (by decide)] | exact f44 _ (by decide)) hI.1.1.2.2.2.2.1), (iLin_of (by first | exact f _ (by decide) | rw [f _ (by decide)] | exact f44 _ (by decide)) (by first | exact f _ (by decide) | rw [f _ (by decide)] | exact f44 _ (by decide)) (by first | exact f _ (by decide) | rw [f _ (by decide)] | exact f44 _ (by decide)) (by first | exact f _ (by decide) | rw [f _ (by decide)] | exact f44 _ (by decide)) (by first | exact f _ (by decide) | rw [f _ (by decide)] | exact f44 _ (by decide)) (by first | exact f _ (by decide) | rw [f _ (by decide)] | exact f44 _ (by decide)) (by first | exact f _ (by decide) | rw [f _ (by decide)] | exact f44 _ (by decide)) (by first | exact f _ (by decide) | rw [f _ (by decide)] | exact f44 _ (by decide)) (by first | exact f _ (by decide) | rw [f _ (by decide)] | exact f44 _ (by decide)) (by first | exact f _ (by decide) | rw [f _ (by decide)] | exact f44 _ (by decide)) (by first | exact f _ (by decide) | rw [f _ (by decide)] | exact f44 _ (by decide)) (by first | exact f _ (by decide) | rw [f _ (by decide)] | exact f44 _ (by decide)) (by first | exact f _ (by decide) | rw [f _ (by decide)] | exact f44 _ (by decide)) (by first | exact f _ (by decide) | rw [f _ (by decide)] | exact f44 _ (by decide)) (by first | exact f _ (by decide) | rw [f _ (by decide)] | exact f44 _ (by decide)) (by first | exact f _ (by decide) | rw [f _ (by decide)] | exact f44 _ (by decide)) (by first | exact f _ (by decide) | rw [f _ (by decide)] | exact f44 _ (by decide)) hI.1.1.2.2.2.2.2.1), (iLst_of (by first | exact f _ (by decide) | rw [f _ (by decide)] | exact f44 _ (by decide)) (by first | exact f _ (by decide) | rw [f _ (by decide)] | exact f44 _ (by decide)) (by first | exact f _ (by decide) | rw [f _ (by decide)] | exact f44 _ (by decide)) (by first | exact f _ (by decide) | rw [f _ (by decide)] | exact f44 _ (by decide)) (by first | exact f _ (by decide) | rw [f _ (by decide)] | exact f44 _ (by decide)) (by first | exact f _ (by decide) | rw [f _ (by decide)] | exact f44 _ (by decide)) (by first | exact f _ (by decide) | rw [f _ (by decide)] | exact f44 _ (by decide)) hI.1.1.2.2.2.2.2.2.1), (iSum_of (by first | exact f _ (by decide) | rw [f _ (by decide)] | exact f44 _ (by decide)) (by first | exact f _ (by decide) | rw [f _ (by decide)] | exact f44 _ (by decide)) (by first | exact f _ (by decide) | rw [f _ (by decide)] | exact f44 _ (by decide)) (by first | exact f _ (by decide) | rw [f _ (by decide)] | exact f44 _ (by decide)) (by first | exact f _ (by decide) | rw [f _ (by decide)] | exact f44 _ (by decide)) (by first | exact f _ (by decide) | rw [f _ (by decide)] | exact f44 _ (by decide)) (by first | exact f _ (by decide) | rw [f _ (by decide)] | exact f44 _ (by decide)) (by first | exact f _ (by decide) | rw [f _ (by decide)] | exact f44 _ (by decide)) (by first | exact f _ (by decide) | rw [f _ (by decide)] | exact f44 _ (by decide)) hI.1.1.2.2.2.2.2.2.2.1), (iSht_of (by first | exact f _ (by decide) | rw [f _ (by decide)] | exact f44 _ (by decide)) (by first | exact f _ (by decide) | rw [f _ (by decide)] | exact f44 _ (by decide)) (by first | exact f _ (by decide) | rw [f _ (by decide)] | exact f44 _ (by decide)) (by first | exact f _ (by decide) | rw [f _ (by decide)] | exact f44 _ (by decide)) (by first | exact f _ (by decide) | rw [f _ (by decide)] | exact f44 _ (by decide)) (by first | exact f _ (by decide) | rw [f _ (by decide)] | exact f44 _ (by decide)) hI.1.1.2.2.2.2.2.2.2.2)⟩, hW⟩, (LwC_of (by first | exact f _ (by decide) | rw [f _ (by decide)] | exact f44 _ (by decide)) (by first | exact f _ (by decide) | rw [f _ (by decide)] | exact f44 _ (by decide)) (by first | exact f _ (by decide) | rw [f _ (by decide)] | exact f44 _ (by decide)) (by first | exact f _ (by decide) | rw [f _ (by decide)] | exact f44 _ (by decide)) (by first | exact f _ (by decide) | rw [f _ (by decide)] | exact f44 _ (by decide)) (by first | exact f _ (by decide) | rw [f _ (by decide)] | exact f44 _ (by decide)) (by first | exact f _ (by decide) | rw [f _ (by decide)] | exact f44 _ (by decide)) (by first | exact f _ (by decide) | rw [f _ (by decide)] | exact f44 _ (by decide)) (by first | exact f _ (by decide) | rw [f _ (by decide)] | exact f44 _ (by decide)) (by first | exact f _ (by decide) | rw [f _ (by decide)] | exact f44 _ (by decide)) hI.2.1), hR⟩
theorem c_readf {E : E3} {Q : Q3} {M : M3} {x1 x2 x4 : Int} (hI : Inv M) (hx1 : -2147483648 ≤ x1 ∧ x1 ≤ 2147483647) (hx2 : -2147483648 ≤ x2 ∧ x2 ≤ 2147483647) (hx4 : -2147483648 ≤ x4 ∧ x4 ≤ 2147483647) (k1 : ¬ ((0 ≤ x1 ∧ x1 < M 44 0 18) ∧ (0 ≤ x2 ∧ x2 ≤ 3) ∧ (0 ≤ x4 ∧ x4 ≤ 4)) → Q (some (vI (-2))) M) (k3 : ((0 ≤ x1 ∧ x1 < M 44 0 18) ∧ (0 ≤ x2 ∧ x2 ≤ 3) ∧ (0 ≤ x4 ∧ x4 ≤ 4)) → barP M x1 x2 → Q (some (vI (-3))) M) (k : ((0 ≤ x1 ∧ x1 < M 44 0 18) ∧ (0 ≤ x2 ∧ x2 ≤ 3) ∧ (0 ≤ x4 ∧ x4 ≤ 4)) → ¬ barP M x1 x2 → Q (some (vI 1)) (uR M x1 x2 0 x4)) : C3 E YX11_read [vR 0 0, vI x1, vI x2, vI 0, vI x4] M Q := by
  refine c3_rm fun hM => ?_
  have hc2 := hI.1.1.2.2.1.2.1
  have hf1 := hI.1.1.2.2.2.1.1
  have hf2 := hI.1.1.2.2.2.1.2.1
  have hd := hI.1.1.1.2.2.1
  have hb := hI.1.1.1.1
  by_cases hv : (0 ≤ x1 ∧ x1 < M 44 0 18) ∧ (0 ≤ x2 ∧ x2 ≤ 3)
  · obtain ⟨⟨g1, _⟩, _, g3, _, g5, g6, g7, g8, _⟩ := hI.1.1.f hv.1.1 hv.1.2
    have h5 : M 18 x1 5 = -1 ↔ ¬ 0 < M 62 0 x1 := by
      constructor
      · intro z y
        obtain ⟨a, _, _, _, b, _⟩ := g6 y
        omega
      · intro z
        exact g5 (by omega)
    have h16 := (hI.1.1.2.2.2.2.1 x2 hv.2.1 (by omega)).1
    have h10 : M 18 x1 10 = 0 ↔ mByT M x1 := by
      rw [(hI.1.2 x1 hv.1.1 hv.1.2).2]
      exact (mLck_c M x1).1
    clear g5 g6
    refine sX11_read_f ?_
    refine ⟨?_, ?_⟩
    · first | omega | exact hM 2 0 0
    refine ⟨fun c1 => ?_, fun c1 => ?_⟩
    · first
      | (exfalso; omega)
      | exact k1 (by omega)
      | exact k3 (by omega) (Or.inl (by omega))
      | exact k3 (by omega) (Or.inr ⟨by omega, by omega, h10.mp (by assumption)⟩)
      | exact k (by omega) (fun z => by rcases z with z | ⟨z1, z2, z3⟩ <;> first | omega | exact absurd (h10.mpr z3) (by assumption))
    · refine ⟨fun c2 => ?_, fun c2 => ?_⟩
      · first
        | (exfalso; omega)
        | exact k1 (by omega)
        | exact k3 (by omega) (Or.inl (by omega))
        | exact k3 (by omega) (Or.inr ⟨by omega, by omega, h10.mp (by assumption)⟩)
        | exact k (by omega) (fun z => by rcases z with z | ⟨z1, z2, z3⟩ <;> first | omega | exact absurd (h10.mpr z3) (by assumption))
      · refine ⟨?_, ?_⟩
        · first | omega | exact hM 2 0 0
        refine ⟨fun c3 => ?_, fun c3 => ?_⟩
        · first
          | (exfalso; omega)
          | exact k1 (by omega)
          | exact k3 (by omega) (Or.inl (by omega))
          | exact k3 (by omega) (Or.inr ⟨by omega, by omega, h10.mp (by assumption)⟩)
          | exact k (by omega) (fun z => by rcases z with z | ⟨z1, z2, z3⟩ <;> first | omega | exact absurd (h10.mpr z3) (by assumption))
        · refine ⟨?_, ?_⟩
          · first | omega | exact hM 2 0 0
          refine ⟨fun c4 => ?_, fun c4 => ?_⟩
          · refine ⟨?_, ?_⟩
            · first | omega | exact hM 2 0 0
            refine ⟨fun c5 => ?_, fun c5 => ?_⟩
            · first
              | (exfalso; omega)
              | exact k1 (by omega)
              | exact k3 (by omega) (Or.inl (by omega))
              | exact k3 (by omega) (Or.inr ⟨by omega, by omega, h10.mp (by assumption)⟩)
              | exact k (by omega) (fun z => by rcases z with z | ⟨z1, z2, z3⟩ <;> first | omega | exact absurd (h10.mpr z3) (by assumption))
            · refine ⟨?_, ?_⟩
              · first | omega | exact hM 2 0 0
              refine ⟨fun c6 => ?_, fun c6 => ?_⟩
              · refine ⟨?_, ?_, ?_, ?_⟩
                · first | omega | exact hM 2 0 0
                · first | omega | exact hM 2 0 0
                · first | omega | exact hM 2 0 0
                first
                | (exfalso; omega)
                | exact k1 (by omega)
                | exact k3 (by omega) (Or.inl (by omega))
                | exact k3 (by omega) (Or.inr ⟨by omega, by omega, h10.mp (by assumption)⟩)
                | exact k (by omega) (fun z => by rcases z with z | ⟨z1, z2, z3⟩ <;> first | omega | exact absurd (h10.mpr z3) (by assumption))
              · refine ⟨fun c7 => ?_, fun c7 => ?_⟩
                · refine ⟨?_, ?_, ?_, ?_⟩
                  · first | omega | exact hM 2 0 0
                  · first | omega | exact hM 2 0 0
                  · first | omega | exact hM 2 0 0
                  first
                  | (exfalso; omega)
                  | exact k1 (by omega)
                  | exact k3 (by omega) (Or.inl (by omega))
                  | exact k3 (by omega) (Or.inr ⟨by omega, by omega, h10.mp (by assumption)⟩)
                  | exact k (by omega) (fun z => by rcases z with z | ⟨z1, z2, z3⟩ <;> first | omega | exact absurd (h10.mpr z3) (by assumption))
                · refine ⟨fun c8 => ?_, fun c8 => ?_⟩
                  · refine ⟨?_, ?_, ?_, ?_⟩
                    · first | omega | exact hM 2 0 0
                    · first | omega | exact hM 2 0 0
                    · first | omega | exact hM 2 0 0
                    first
                    | (exfalso; omega)
                    | exact k1 (by omega)
                    | exact k3 (by omega) (Or.inl (by omega))
                    | exact k3 (by omega) (Or.inr ⟨by omega, by omega, h10.mp (by assumption)⟩)
                    | exact k (by omega) (fun z => by rcases z with z | ⟨z1, z2, z3⟩ <;> first | omega | exact absurd (h10.mpr z3) (by assumption))
                  · first
                    | (exfalso; omega)
                    | exact k1 (by omega)
                    | exact k3 (by omega) (Or.inl (by omega))
                    | exact k3 (by omega) (Or.inr ⟨by omega, by omega, h10.mp (by assumption)⟩)
                    | exact k (by omega) (fun z => by rcases z with z | ⟨z1, z2, z3⟩ <;> first | omega | exact absurd (h10.mpr z3) (by assumption))
          · first
            | (exfalso; omega)
            | exact k1 (by omega)
            | exact k3 (by omega) (Or.inl (by omega))
            | exact k3 (by omega) (Or.inr ⟨by omega, by omega, h10.mp (by assumption)⟩)
            | exact k (by omega) (fun z => by rcases z with z | ⟨z1, z2, z3⟩ <;> first | omega | exact absurd (h10.mpr z3) (by assumption))
  · skip
    refine sX11_read_f ?_
    refine ⟨?_, ?_⟩
    · first | omega | (exfalso; omega)
    refine ⟨fun c1 => ?_, fun c1 => ?_⟩
    · first | (exfalso; omega) | exact k1 (by omega)
    · refine ⟨fun c2 => ?_, fun c2 => ?_⟩
      · first | (exfalso; omega) | exact k1 (by omega)
      · refine ⟨?_, ?_⟩
        · first | omega | (exfalso; omega)
        refine ⟨fun c3 => ?_, fun c3 => ?_⟩
        · first | (exfalso; omega) | exact k1 (by omega)
        · refine ⟨?_, ?_⟩
          · first | omega | (exfalso; omega)
          refine ⟨fun c4 => ?_, fun c4 => ?_⟩
          · refine ⟨?_, ?_⟩
            · first | omega | (exfalso; omega)
            refine ⟨fun c5 => ?_, fun c5 => ?_⟩
            · first | (exfalso; omega) | exact k1 (by omega)
            · refine ⟨?_, ?_⟩
              · first | omega | (exfalso; omega)
              refine ⟨fun c6 => ?_, fun c6 => ?_⟩
              · refine ⟨?_, ?_, ?_, ?_⟩
                · first | omega | (exfalso; omega)
                · first | omega | (exfalso; omega)
                · first | omega | (exfalso; omega)
                first | (exfalso; omega) | exact k1 (by omega)
              · refine ⟨fun c7 => ?_, fun c7 => ?_⟩
                · refine ⟨?_, ?_, ?_, ?_⟩
                  · first | omega | (exfalso; omega)
                  · first | omega | (exfalso; omega)
                  · first | omega | (exfalso; omega)
                  first | (exfalso; omega) | exact k1 (by omega)
                · refine ⟨fun c8 => ?_, fun c8 => ?_⟩
                  · refine ⟨?_, ?_, ?_, ?_⟩
                    · first | omega | (exfalso; omega)
                    · first | omega | (exfalso; omega)
                    · first | omega | (exfalso; omega)
                    first | (exfalso; omega) | exact k1 (by omega)
                  · first | (exfalso; omega) | exact k1 (by omega)
          · first | (exfalso; omega) | exact k1 (by omega)
theorem m_readf {E : E3} {Q : Q3} {M : M3} {x1 x2 x4 : Int} (hR : RdC M) (hW : WM M) (hx1 : -2147483648 ≤ x1 ∧ x1 ≤ 2147483647) (hx2 : -2147483648 ≤ x2 ∧ x2 ≤ 2147483647) (hx4 : -2147483648 ≤ x4 ∧ x4 ≤ 2147483647) (k1 : ¬ ((0 ≤ x1 ∧ x1 < M 44 0 18) ∧ (0 ≤ x2 ∧ x2 ≤ 3) ∧ (0 ≤ x4 ∧ x4 ≤ 4)) → Q (some (vI (-2))) M) (k3 : ((0 ≤ x1 ∧ x1 < M 44 0 18) ∧ (0 ≤ x2 ∧ x2 ≤ 3) ∧ (0 ≤ x4 ∧ x4 ≤ 4)) → barP M x1 x2 → ∀ (N : M3), Em M N → RdC N → Q (some (vI (-3))) N) (k : ((0 ≤ x1 ∧ x1 < M 44 0 18) ∧ (0 ≤ x2 ∧ x2 ≤ 3) ∧ (0 ≤ x4 ∧ x4 ≤ 4)) → ¬ barP M x1 x2 → ∀ (N : M3), Em M N → RdC N → Q (some (vI 1)) (wR N x1 x2 2 (M 44 0 0) x4)) : C3 E YX12_read [vR 44 0, vI x1, vI x2, vI 0, vI x4] M Q := by
  refine c3_rm fun hM => ?_
  obtain ⟨w1, w2, w3, w4, w5, w6, w7, w8⟩ := hW.1
  have hA := hW.2.2.2.2.1
  refine sX12_read_f ?_
  refine ⟨?_, ?_⟩
  · first | omega | exact ⟨hR, (hA.2 _ (by omega) (by omega)).1⟩
  refine ⟨fun c1 => ?_, fun c1 => ?_⟩
  · first
    | (exfalso; omega)
    | exact k1 (by omega)
    | exact k3 (by omega) (Or.inl (by omega)) _ Em.rf hR
    | exact k3 (by omega) (Or.inr ⟨by omega, by omega, by assumption⟩) _ he1 hp1
    | exact k (by omega) (fun z => by rcases z with z | ⟨z1, z2, z3⟩ <;> first | omega | exact absurd z3 (by assumption)) _ he1 hp1
    | exact k (by omega) (fun z => by rcases z with z | ⟨z1, z2, z3⟩ <;> omega) _ Em.rf hR
  · refine ⟨?_, ?_⟩
    · first | omega | exact ⟨hR, (hA.2 _ (by omega) (by omega)).1⟩
    refine ⟨fun c2 => ?_, fun c2 => ?_⟩
    · first
      | (exfalso; omega)
      | exact k1 (by omega)
      | exact k3 (by omega) (Or.inl (by omega)) _ Em.rf hR
      | exact k3 (by omega) (Or.inr ⟨by omega, by omega, by assumption⟩) _ he1 hp1
      | exact k (by omega) (fun z => by rcases z with z | ⟨z1, z2, z3⟩ <;> first | omega | exact absurd z3 (by assumption)) _ he1 hp1
      | exact k (by omega) (fun z => by rcases z with z | ⟨z1, z2, z3⟩ <;> omega) _ Em.rf hR
    · refine ⟨?_, ?_⟩
      · first | omega | exact ⟨hR, (hA.2 _ (by omega) (by omega)).1⟩
      refine ⟨fun c3 => ?_, fun c3 => ?_⟩
      · refine ⟨?_, ?_⟩
        · first | omega | exact ⟨hR, (hA.2 _ (by omega) (by omega)).1⟩
        refine ⟨fun c4 => ?_, fun c4 => ?_⟩
        · refine ⟨?_, ?_⟩
          · first | omega | exact ⟨hR, (hA.2 _ (by omega) (by omega)).1⟩
          refine ⟨fun c5 => ?_, fun c5 => ?_⟩
          · first
            | (exfalso; omega)
            | exact k1 (by omega)
            | exact k3 (by omega) (Or.inl (by omega)) _ Em.rf hR
            | exact k3 (by omega) (Or.inr ⟨by omega, by omega, by assumption⟩) _ he1 hp1
            | exact k (by omega) (fun z => by rcases z with z | ⟨z1, z2, z3⟩ <;> first | omega | exact absurd z3 (by assumption)) _ he1 hp1
            | exact k (by omega) (fun z => by rcases z with z | ⟨z1, z2, z3⟩ <;> omega) _ Em.rf hR
          · refine ⟨?_, ?_, ?_⟩
            · first | omega | exact ⟨hR, (hA.2 _ (by omega) (by omega)).1⟩
            · first | omega | exact ⟨hR, (hA.2 _ (by omega) (by omega)).1⟩
            first
            | (exfalso; omega)
            | exact k1 (by omega)
            | exact k3 (by omega) (Or.inl (by omega)) _ Em.rf hR
            | exact k3 (by omega) (Or.inr ⟨by omega, by omega, by assumption⟩) _ he1 hp1
            | exact k (by omega) (fun z => by rcases z with z | ⟨z1, z2, z3⟩ <;> first | omega | exact absurd z3 (by assumption)) _ he1 hp1
            | exact k (by omega) (fun z => by rcases z with z | ⟨z1, z2, z3⟩ <;> omega) _ Em.rf hR
        · refine ⟨fun c5 => ?_, fun c5 => ?_⟩
          · refine ⟨?_, ?_⟩
            · first | omega | exact ⟨hR, (hA.2 _ (by omega) (by omega)).1⟩
            refine ⟨fun c6 => ?_, fun c6 => ?_⟩
            · first
              | (exfalso; omega)
              | exact k1 (by omega)
              | exact k3 (by omega) (Or.inl (by omega)) _ Em.rf hR
              | exact k3 (by omega) (Or.inr ⟨by omega, by omega, by assumption⟩) _ he1 hp1
              | exact k (by omega) (fun z => by rcases z with z | ⟨z1, z2, z3⟩ <;> first | omega | exact absurd z3 (by assumption)) _ he1 hp1
              | exact k (by omega) (fun z => by rcases z with z | ⟨z1, z2, z3⟩ <;> omega) _ Em.rf hR
            · refine ⟨?_, ?_, ?_⟩
              · first | omega | exact ⟨hR, (hA.2 _ (by omega) (by omega)).1⟩
              · first | omega | exact ⟨hR, (hA.2 _ (by omega) (by omega)).1⟩
              first
              | (exfalso; omega)
              | exact k1 (by omega)
              | exact k3 (by omega) (Or.inl (by omega)) _ Em.rf hR
              | exact k3 (by omega) (Or.inr ⟨by omega, by omega, by assumption⟩) _ he1 hp1
              | exact k (by omega) (fun z => by rcases z with z | ⟨z1, z2, z3⟩ <;> first | omega | exact absurd z3 (by assumption)) _ he1 hp1
              | exact k (by omega) (fun z => by rcases z with z | ⟨z1, z2, z3⟩ <;> omega) _ Em.rf hR
          · refine ⟨?_, ?_⟩
            · first | omega | exact ⟨hR, (hA.2 _ (by omega) (by omega)).1⟩
            refine ⟨fun c6 => ?_, fun c6 => ?_⟩
            · first
              | (exfalso; omega)
              | exact k1 (by omega)
              | exact k3 (by omega) (Or.inl (by omega)) _ Em.rf hR
              | exact k3 (by omega) (Or.inr ⟨by omega, by omega, by assumption⟩) _ he1 hp1
              | exact k (by omega) (fun z => by rcases z with z | ⟨z1, z2, z3⟩ <;> first | omega | exact absurd z3 (by assumption)) _ he1 hp1
              | exact k (by omega) (fun z => by rcases z with z | ⟨z1, z2, z3⟩ <;> omega) _ Em.rf hR
            · refine ⟨?_, ?_⟩
              · first | omega | exact ⟨hR, (hA.2 _ (by omega) (by omega)).1⟩
              intro N1 hN1 he1 hp1
              refine ⟨fun c7 => ?_, fun c7 => ?_⟩
              · refine ⟨?_, ?_, ?_⟩
                · first | omega | exact ⟨hR, (hA.2 _ (by omega) (by omega)).1⟩
                · first | omega | exact ⟨hR, (hA.2 _ (by omega) (by omega)).1⟩
                first
                | (exfalso; omega)
                | exact k1 (by omega)
                | exact k3 (by omega) (Or.inl (by omega)) _ Em.rf hR
                | exact k3 (by omega) (Or.inr ⟨by omega, by omega, by assumption⟩) _ he1 hp1
                | exact k (by omega) (fun z => by rcases z with z | ⟨z1, z2, z3⟩ <;> first | omega | exact absurd z3 (by assumption)) _ he1 hp1
                | exact k (by omega) (fun z => by rcases z with z | ⟨z1, z2, z3⟩ <;> omega) _ Em.rf hR
              · first
                | (exfalso; omega)
                | exact k1 (by omega)
                | exact k3 (by omega) (Or.inl (by omega)) _ Em.rf hR
                | exact k3 (by omega) (Or.inr ⟨by omega, by omega, by assumption⟩) _ he1 hp1
                | exact k (by omega) (fun z => by rcases z with z | ⟨z1, z2, z3⟩ <;> first | omega | exact absurd z3 (by assumption)) _ he1 hp1
                | exact k (by omega) (fun z => by rcases z with z | ⟨z1, z2, z3⟩ <;> omega) _ Em.rf hR
      · first
        | (exfalso; omega)
        | exact k1 (by omega)
        | exact k3 (by omega) (Or.inl (by omega)) _ Em.rf hR
        | exact k3 (by omega) (Or.inr ⟨by omega, by omega, by assumption⟩) _ he1 hp1
        | exact k (by omega) (fun z => by rcases z with z | ⟨z1, z2, z3⟩ <;> first | omega | exact absurd z3 (by assumption)) _ he1 hp1
        | exact k (by omega) (fun z => by rcases z with z | ⟨z1, z2, z3⟩ <;> omega) _ Em.rf hR
theorem c_readt {E : E3} {Q : Q3} {M : M3} {x1 x2 x4 : Int} (hI : Inv M) (hx1 : -2147483648 ≤ x1 ∧ x1 ≤ 2147483647) (hx2 : -2147483648 ≤ x2 ∧ x2 ≤ 2147483647) (hx4 : -2147483648 ≤ x4 ∧ x4 ≤ 2147483647) (k1 : ¬ ((0 ≤ x1 ∧ x1 < M 44 0 18) ∧ (0 ≤ x2 ∧ x2 ≤ 3)) → Q (some (vI (-2))) M) (k3 : ((0 ≤ x1 ∧ x1 < M 44 0 18) ∧ (0 ≤ x2 ∧ x2 ≤ 3)) → 0 < M 62 0 x1 → Q (some (vI (-3))) M) (k4 : ((0 ≤ x1 ∧ x1 < M 44 0 18) ∧ (0 ≤ x2 ∧ x2 ≤ 3)) → ¬ 0 < M 62 0 x1 → ¬ (M 50 0 (M 56 0 x1) = 0 ∨ M 50 0 (M 56 0 x1) = 2) → Q (some (vI 1)) (uR M x1 x2 1 (-1))) (k : ((0 ≤ x1 ∧ x1 < M 44 0 18) ∧ (0 ≤ x2 ∧ x2 ≤ 3)) → ¬ 0 < M 62 0 x1 → (M 50 0 (M 56 0 x1) = 0 ∨ M 50 0 (M 56 0 x1) = 2) → Q (some (vI 1)) (up3 (uR M x1 x2 1 (-1)) 13 (M 56 0 x1) 5 1)) : C3 E YX11_read [vR 0 0, vI x1, vI x2, vI 1, vI x4] M Q := by
  refine c3_rm fun hM => ?_
  have hc2 := hI.1.1.2.2.1.2.1
  have hf1 := hI.1.1.2.2.2.1.1
  have hf2 := hI.1.1.2.2.2.1.2.1
  have hd := hI.1.1.1.2.2.1
  have hb := hI.1.1.1.1
  by_cases hv : (0 ≤ x1 ∧ x1 < M 44 0 18) ∧ (0 ≤ x2 ∧ x2 ≤ 3)
  · obtain ⟨⟨g1, _⟩, _, g3, _, g5, g6, g7, g8, _⟩ := hI.1.1.f hv.1.1 hv.1.2
    have h5 : M 18 x1 5 = -1 ↔ ¬ 0 < M 62 0 x1 := by
      constructor
      · intro z y
        obtain ⟨a, _, _, _, b, _⟩ := g6 y
        omega
      · intro z
        exact g5 (by omega)
    have h16 := (hI.1.1.2.2.2.2.1 x2 hv.2.1 (by omega)).1
    have h10 : M 18 x1 10 = 0 ↔ mByT M x1 := by
      rw [(hI.1.2 x1 hv.1.1 hv.1.2).2]
      exact (mLck_c M x1).1
    clear g5 g6
    have h13 := (hI.1.1.p g7.1 (by omega)).1.2.2.2.2.1
    have hu : (up3 (up3 (up3 (up3 M 18 x1 5 (M 2 0 0)) 18 x1 6 x2) 18 x1 7 1) 18 x1 8 (-1)) 13 (M 18 x1 0) 5 = M 50 0 (M 56 0 x1) := by
      rw [up3_nr (by decide), up3_nr (by decide), up3_nr (by decide), up3_nr (by decide), g1]
      exact h13
    have hk : (M 50 0 (M 56 0 x1) = 0 ∨ M 50 0 (M 56 0 x1) = 2) → ¬ 0 < M 62 0 x1 → Q (some (vI 1)) (up3 (up3 (up3 (up3 (up3 M 18 x1 5 (M 2 0 0)) 18 x1 6 x2) 18 x1 7 1) 18 x1 8 (-1)) 13 (M 18 x1 0) 5 1) := fun a b => by
      rw [g1]
      exact k hv b a
    have hg := g1
    refine sX11_read_t ?_
    refine ⟨?_, ?_⟩
    · first | omega | exact hM 2 0 0
    refine ⟨fun c1 => ?_, fun c1 => ?_⟩
    · first
      | (exfalso; omega)
      | exact k1 (by omega)
      | exact k3 hv (by omega)
      | exact k4 hv (by omega) (by omega)
      | exact hk (by omega) (by omega)
    · refine ⟨fun c2 => ?_, fun c2 => ?_⟩
      · first
        | (exfalso; omega)
        | exact k1 (by omega)
        | exact k3 hv (by omega)
        | exact k4 hv (by omega) (by omega)
        | exact hk (by omega) (by omega)
      · refine ⟨?_, ?_⟩
        · first | omega | exact hM 2 0 0
        refine ⟨fun c3 => ?_, fun c3 => ?_⟩
        · first
          | (exfalso; omega)
          | exact k1 (by omega)
          | exact k3 hv (by omega)
          | exact k4 hv (by omega) (by omega)
          | exact hk (by omega) (by omega)
        · refine ⟨?_, ?_⟩
          · first | omega | exact hM 2 0 0
          refine ⟨fun c4 => ?_, fun c4 => ?_⟩
          · first
            | (exfalso; omega)
            | exact k1 (by omega)
            | exact k3 hv (by omega)
            | exact k4 hv (by omega) (by omega)
            | exact hk (by omega) (by omega)
          · refine ⟨?_, ?_, ?_, ?_⟩
            · first | omega | exact hM 2 0 0
            · first | omega | exact hM 2 0 0
            · first | omega | exact hM 2 0 0
            refine ⟨fun c5 => ?_, fun c5 => ?_⟩
            · first
              | (exfalso; omega)
              | exact k1 (by omega)
              | exact k3 hv (by omega)
              | exact k4 hv (by omega) (by omega)
              | exact hk (by omega) (by omega)
            · first
              | (exfalso; omega)
              | exact k1 (by omega)
              | exact k3 hv (by omega)
              | exact k4 hv (by omega) (by omega)
              | exact hk (by omega) (by omega)
  · skip
    refine sX11_read_t ?_
    refine ⟨?_, ?_⟩
    · first | omega | (exfalso; omega)
    refine ⟨fun c1 => ?_, fun c1 => ?_⟩
    · first | (exfalso; omega) | exact k1 (by omega)
    · refine ⟨fun c2 => ?_, fun c2 => ?_⟩
      · first | (exfalso; omega) | exact k1 (by omega)
      · refine ⟨?_, ?_⟩
        · first | omega | (exfalso; omega)
        refine ⟨fun c3 => ?_, fun c3 => ?_⟩
        · first | (exfalso; omega) | exact k1 (by omega)
        · refine ⟨?_, ?_⟩
          · first | omega | (exfalso; omega)
          refine ⟨fun c4 => ?_, fun c4 => ?_⟩
          · first | (exfalso; omega) | exact k1 (by omega)
          · refine ⟨?_, ?_, ?_, ?_⟩
            · first | omega | (exfalso; omega)
            · first | omega | (exfalso; omega)
            · first | omega | (exfalso; omega)
            refine ⟨fun c5 => ?_, fun c5 => ?_⟩
            · first | (exfalso; omega) | exact k1 (by omega)
            · first | (exfalso; omega) | exact k1 (by omega)
theorem m_readt {E : E3} {Q : Q3} {M : M3} {x1 x2 x4 : Int} (hW : WM M) (hx1 : -2147483648 ≤ x1 ∧ x1 ≤ 2147483647) (hx2 : -2147483648 ≤ x2 ∧ x2 ≤ 2147483647) (hx4 : -2147483648 ≤ x4 ∧ x4 ≤ 2147483647) (k1 : ¬ ((0 ≤ x1 ∧ x1 < M 44 0 18) ∧ (0 ≤ x2 ∧ x2 ≤ 3)) → Q (some (vI (-2))) M) (k3 : ((0 ≤ x1 ∧ x1 < M 44 0 18) ∧ (0 ≤ x2 ∧ x2 ≤ 3)) → 0 < M 62 0 x1 → Q (some (vI (-3))) M) (k4 : ((0 ≤ x1 ∧ x1 < M 44 0 18) ∧ (0 ≤ x2 ∧ x2 ≤ 3)) → ¬ 0 < M 62 0 x1 → ¬ (M 50 0 (M 56 0 x1) = 0 ∨ M 50 0 (M 56 0 x1) = 2) → Q (some (vI 1)) (wR M x1 x2 1 (M 44 0 0) (-1))) (k : ((0 ≤ x1 ∧ x1 < M 44 0 18) ∧ (0 ≤ x2 ∧ x2 ≤ 3)) → ¬ 0 < M 62 0 x1 → (M 50 0 (M 56 0 x1) = 0 ∨ M 50 0 (M 56 0 x1) = 2) → Q (some (vI 1)) (up3 (wR M x1 x2 1 (M 44 0 0) (-1)) 50 0 (M 56 0 x1) 1)) : C3 E YX12_read [vR 44 0, vI x1, vI x2, vI 1, vI x4] M Q := by
  refine c3_rm fun hM => ?_
  obtain ⟨w1, w2, w3, w4, w5, w6, w7, w8⟩ := hW.1
  have hA := hW.2.2.2.2.1
  have hA' : (0 ≤ x1 ∧ x1 < M 44 0 18) → 0 ≤ M 56 0 x1 ∧ M 56 0 x1 < 48 := fun z => (hA.2 x1 z.1 z.2).1.2.2
  have hu : (up3 (up3 (up3 (up3 M 62 0 x1 1) 60 0 x1 (M 44 0 0)) 61 0 x1 x2) 63 0 x1 (-1)) 50 0 (M 56 0 x1) = M 50 0 (M 56 0 x1) := by
    rw [up3_nr (by decide), up3_nr (by decide), up3_nr (by decide), up3_nr (by decide)]
  refine sX12_read_t ?_
  refine ⟨?_, ?_⟩
  · first | omega | exact hA' (by omega)
  refine ⟨fun c1 => ?_, fun c1 => ?_⟩
  · first
    | (exfalso; omega)
    | exact k1 (by omega)
    | exact k3 (by omega) (by omega)
    | exact k4 (by omega) (by omega) (by omega)
    | exact k (by omega) (by omega) (by omega)
  · refine ⟨?_, ?_⟩
    · first | omega | exact hA' (by omega)
    refine ⟨fun c2 => ?_, fun c2 => ?_⟩
    · first
      | (exfalso; omega)
      | exact k1 (by omega)
      | exact k3 (by omega) (by omega)
      | exact k4 (by omega) (by omega) (by omega)
      | exact k (by omega) (by omega) (by omega)
    · refine ⟨?_, ?_⟩
      · first | omega | exact hA' (by omega)
      refine ⟨fun c3 => ?_, fun c3 => ?_⟩
      · refine ⟨?_, ?_⟩
        · first | omega | exact hA' (by omega)
        refine ⟨fun c4 => ?_, fun c4 => ?_⟩
        · first
          | (exfalso; omega)
          | exact k1 (by omega)
          | exact k3 (by omega) (by omega)
          | exact k4 (by omega) (by omega) (by omega)
          | exact k (by omega) (by omega) (by omega)
        · refine ⟨?_, ?_, ?_⟩
          · first | omega | exact hA' (by omega)
          · first | omega | exact hA' (by omega)
          refine ⟨fun c5 => ?_, fun c5 => ?_⟩
          · first
            | (exfalso; omega)
            | exact k1 (by omega)
            | exact k3 (by omega) (by omega)
            | exact k4 (by omega) (by omega) (by omega)
            | exact k (by omega) (by omega) (by omega)
          · refine ⟨?_, ?_⟩
            · first | omega | exact hA' (by omega)
            first
            | (exfalso; omega)
            | exact k1 (by omega)
            | exact k3 (by omega) (by omega)
            | exact k4 (by omega) (by omega) (by omega)
            | exact k (by omega) (by omega) (by omega)
      · refine ⟨fun c4 => ?_, fun c4 => ?_⟩
        · refine ⟨?_, ?_⟩
          · first | omega | exact hA' (by omega)
          refine ⟨fun c5 => ?_, fun c5 => ?_⟩
          · first
            | (exfalso; omega)
            | exact k1 (by omega)
            | exact k3 (by omega) (by omega)
            | exact k4 (by omega) (by omega) (by omega)
            | exact k (by omega) (by omega) (by omega)
          · refine ⟨?_, ?_, ?_⟩
            · first | omega | exact hA' (by omega)
            · first | omega | exact hA' (by omega)
            refine ⟨fun c6 => ?_, fun c6 => ?_⟩
            · first
              | (exfalso; omega)
              | exact k1 (by omega)
              | exact k3 (by omega) (by omega)
              | exact k4 (by omega) (by omega) (by omega)
              | exact k (by omega) (by omega) (by omega)
            · refine ⟨?_, ?_⟩
              · first | omega | exact hA' (by omega)
              first
              | (exfalso; omega)
              | exact k1 (by omega)
              | exact k3 (by omega) (by omega)
              | exact k4 (by omega) (by omega) (by omega)
              | exact k (by omega) (by omega) (by omega)
        · refine ⟨?_, ?_⟩
          · first | omega | exact hA' (by omega)
          refine ⟨fun c5 => ?_, fun c5 => ?_⟩
          · first
            | (exfalso; omega)
            | exact k1 (by omega)
            | exact k3 (by omega) (by omega)
            | exact k4 (by omega) (by omega) (by omega)
            | exact k (by omega) (by omega) (by omega)
          · refine ⟨?_, ?_, ?_⟩
            · first | omega | exact hA' (by omega)
            · first | omega | exact hA' (by omega)
            refine ⟨fun c6 => ?_, fun c6 => ?_⟩
            · first
              | (exfalso; omega)
              | exact k1 (by omega)
              | exact k3 (by omega) (by omega)
              | exact k4 (by omega) (by omega) (by omega)
              | exact k (by omega) (by omega) (by omega)
            · refine ⟨?_, ?_⟩
              · first | omega | exact hA' (by omega)
              first
              | (exfalso; omega)
              | exact k1 (by omega)
              | exact k3 (by omega) (by omega)
              | exact k4 (by omega) (by omega) (by omega)
              | exact k (by omega) (by omega) (by omega)
theorem barP_q {M N : M3} (h : Hm M N) (a b : Int) : barP N a b ↔ barP M a b := by
  unfold barP
  rw [mByT_q h, h 44 (by decide), h 62 (by decide), h 74 (by decide)]
theorem p_readf {E : E3} {M : M3} {x1 x2 x4 : Int} (hI : Inv M) (hx1 : -2147483648 ≤ x1 ∧ x1 ≤ 2147483647) (hx2 : -2147483648 ≤ x2 ∧ x2 ≤ 2147483647) (hx4 : -2147483648 ≤ x4 ∧ x4 ≤ 2147483647) : C3 E YX11_read [vR 0 0, vI x1, vI x2, vI 0, vI x4] M (P2 E YX12_read [vR 44 0, vI x1, vI x2, vI 0, vI x4]) := by
  have hbb := hI.1.1.1.1
  refine c_readf hI hx1 hx2 hx4 (fun z => p2I ?_) (fun z y => p2I ?_) (fun z y => p2I ?_)
  · exact m_readf hI.2.2 hI.1.1.wm hx1 hx2 hx4 (fun _ => r2I rfl hI) (fun w => absurd w z) (fun w => absurd w z)
  · exact m_readf hI.2.2 hI.1.1.wm hx1 hx2 hx4 (fun w => absurd z w) (fun _ _ N e r => r2I rfl (hI.m e r)) (fun _ w => absurd y w)
  · have hm : Hm M (uR M x1 x2 0 x4) := fun q hq => uR_r (by omega)
    refine m_readf (RdC.k hm hI.2.2) (WM_q hm hI.1.1.wm) hx1 hx2 hx4 (fun w => ?_) (fun _ w => ?_) (fun _ _ N e r => r2I rfl ?_)
    · rw [hm 44 (by decide)] at w
      exact absurd z w
    · exact absurd ((barP_q hm x1 x2).mp w) y
    · rw [hm 44 (by decide)]
      have e18 : (wR N x1 x2 2 (M 44 0 0) x4) 18 = uR M x1 x2 0 x4 18 := (wR_r (by decide)).trans (e.1 18 (by decide))
      refine inv_read hI z.1 z.2.1 (Or.inr rfl) (show -1 ≤ x4 ∧ x4 ≤ 4 by omega) (fun _ => z.2.2.1) (fun q hq => (wR_r (fun z => hq ((show ∀ y ∈ ([60, 61, 62, 63] : List Nat), y ∈ ([13, 18, 44, 50, 53, 54, 55, 60, 61, 62, 63] : List Nat) by decide) q z))).trans ((e.1 q (fun z => hq ((show ∀ y ∈ ([44, 53, 54, 55] : List Nat), y ∈ ([13, 18, 44, 50, 53, 54, 55, 60, 61, 62, 63] : List Nat) by decide) q z))).trans (uR_r fun w => hq (by rw [w]; decide)))) (fun j hj => by rw [wR_r (by decide), e.2 j hj, uR_r (by decide)]) (fun i j h => by rw [e18]; exact uR_j h) (by rw [e18, uR_5.1]; exact hbb) (by rw [e18, uR_5.2.1]) (by rw [e18, uR_5.2.2.1]; rfl) (by rw [e18, uR_5.2.2.2]) (fun i h => ?_) ?_ (Or.inl ⟨?_, ?_⟩) ?_
      · obtain ⟨a, b, c, d⟩ := wR_n (M := N) (x1 := x1) (x2 := x2) (d := 2) (t := M 44 0 0) (b := x4) h
        rw [a, b, c, d, e.1 60 (by decide), e.1 61 (by decide), e.1 62 (by decide), e.1 63 (by decide), uR_r (by decide), uR_r (by decide), uR_r (by decide), uR_r (by decide)]
        exact ⟨rfl, rfl, rfl, rfl⟩
      · exact wR_v
      · rw [wR_r (by decide), e.1 13 (by decide), uR_r (by decide)]
      · rw [wR_r (by decide), e.1 50 (by decide), uR_r (by decide)]
      · exact RdC_of (by rw [wR_r (by decide)]) (by rw [wR_r (by decide)]) (by rw [wR_r (by decide)]) (by rw [wR_r (by decide)]) (wR_r (by decide)) (wR_r (by decide)) (wR_r (by decide)) (wR_r (by decide)) r
theorem p_readt {E : E3} {M : M3} {x1 x2 x4 : Int} (hI : Inv M) (hx1 : -2147483648 ≤ x1 ∧ x1 ≤ 2147483647) (hx2 : -2147483648 ≤ x2 ∧ x2 ≤ 2147483647) (hx4 : -2147483648 ≤ x4 ∧ x4 ≤ 2147483647) : C3 E YX11_read [vR 0 0, vI x1, vI x2, vI 1, vI x4] M (P2 E YX12_read [vR 44 0, vI x1, vI x2, vI 1, vI x4]) := by
  have hbb := hI.1.1.1.1
  refine c_readt hI hx1 hx2 hx4 (fun z => p2I ?_) (fun z y => p2I ?_) (fun z y w => p2I ?_) (fun z y w => p2I ?_)
  · exact m_readt hI.1.1.wm hx1 hx2 hx4 (fun _ => r2I rfl hI) (fun w => absurd w z) (fun w => absurd w z) (fun w => absurd w z)
  · exact m_readt hI.1.1.wm hx1 hx2 hx4 (fun w => absurd z w) (fun _ _ => r2I rfl hI) (fun _ w => absurd y w) (fun _ w => absurd y w)
  · have hm : Hm M (uR M x1 x2 1 (-1)) := fun q hq => uR_r (by omega)
    refine m_readt (WM_q hm hI.1.1.wm) hx1 hx2 hx4 (fun v => ?_) (fun _ v => ?_) (fun _ _ _ => r2I rfl ?_) (fun _ _ v => ?_)
    · rw [hm 44 (by decide)] at v
      exact absurd z v
    · rw [hm 62 (by decide)] at v
      exact absurd v y
    · rw [hm 44 (by decide)]
      refine inv_read hI z.1 z.2 (Or.inl rfl) (show -1 ≤ (-1 : Int) ∧ (-1 : Int) ≤ 4 by decide) (fun v => by omega) (fun q hq => (wR_r (fun z => hq ((show ∀ y ∈ ([60, 61, 62, 63] : List Nat), y ∈ ([13, 18, 44, 50, 53, 54, 55, 60, 61, 62, 63] : List Nat) by decide) q z))).trans (uR_r fun w => hq (by rw [w]; decide))) (fun j hj => by rw [wR_r (by decide), uR_r (by decide)]) (fun i j h => by rw [wR_r (by decide)]; exact uR_j h) (by rw [wR_r (by decide), uR_5.1]; exact hbb) (by rw [wR_r (by decide), uR_5.2.1]) (by rw [wR_r (by decide), uR_5.2.2.1]; rfl) (by rw [wR_r (by decide), uR_5.2.2.2]) (fun i h => ?_) wR_v (Or.inl ⟨?_, ?_⟩) ?_
      · obtain ⟨a, b, c, d⟩ := wR_n (M := uR M x1 x2 1 (-1)) (x1 := x1) (x2 := x2) (d := 1) (t := M 44 0 0) (b := -1) h
        rw [a, b, c, d, uR_r (by decide), uR_r (by decide), uR_r (by decide), uR_r (by decide)]
        exact ⟨rfl, rfl, rfl, rfl⟩
      · rw [wR_r (by decide), uR_r (by decide)]
      · rw [wR_r (by decide), uR_r (by decide)]
      · exact RdC_of (by rw [wR_r (by decide)]) (by rw [wR_r (by decide)]) (by rw [wR_r (by decide)]) (by rw [wR_r (by decide)]) (wR_r (by decide)) (wR_r (by decide)) (wR_r (by decide)) (wR_r (by decide)) (RdC.k hm hI.2.2)
    · rw [hm 50 (by decide), hm 56 (by decide)] at v
      exact absurd v w
  · have hm : Hm M (up3 (uR M x1 x2 1 (-1)) 13 (M 56 0 x1) 5 1) := fun q hq => (up3_r (by omega)).trans (uR_r (by omega))
    refine m_readt (WM_q hm hI.1.1.wm) hx1 hx2 hx4 (fun v => ?_) (fun _ v => ?_) (fun _ _ v => ?_) (fun _ _ _ => r2I rfl ?_)
    · rw [hm 44 (by decide)] at v
      exact absurd z v
    · rw [hm 62 (by decide)] at v
      exact absurd v y
    · rw [hm 50 (by decide), hm 56 (by decide)] at v
      exact absurd w v
    · rw [hm 44 (by decide), hm 56 (by decide)]
      have e18 : (up3 (wR (up3 (uR M x1 x2 1 (-1)) 13 (M 56 0 x1) 5 1) x1 x2 1 (M 44 0 0) (-1)) 50 0 (M 56 0 x1) 1) 18 = uR M x1 x2 1 (-1) 18 := by rw [up3_r (by decide), wR_r (by decide), up3_r (by decide)]
      have e13 : (up3 (wR (up3 (uR M x1 x2 1 (-1)) 13 (M 56 0 x1) 5 1) x1 x2 1 (M 44 0 0) (-1)) 50 0 (M 56 0 x1) 1) 13 = up3 (uR M x1 x2 1 (-1)) 13 (M 56 0 x1) 5 1 13 := by rw [up3_r (by decide), wR_r (by decide)]
      refine inv_read hI z.1 z.2 (Or.inl rfl) (show -1 ≤ (-1 : Int) ∧ (-1 : Int) ≤ 4 by decide) (fun v => by omega) (fun q hq => (up3_r fun w => hq (by rw [w]; decide)).trans ((wR_r (fun z => hq ((show ∀ y ∈ ([60, 61, 62, 63] : List Nat), y ∈ ([13, 18, 44, 50, 53, 54, 55, 60, 61, 62, 63] : List Nat) by decide) q z))).trans ((up3_r fun w => hq (by rw [w]; decide)).trans (uR_r fun w => hq (by rw [w]; decide))))) (fun j hj => by rw [up3_nr (by decide), wR_r (by decide), up3_nr (by decide), uR_r (by decide)]) (fun i j h => by rw [e18]; exact uR_j h) (by rw [e18, uR_5.1]; exact hbb) (by rw [e18, uR_5.2.1]) (by rw [e18, uR_5.2.2.1]; rfl) (by rw [e18, uR_5.2.2.2]) (fun i h => ?_) ?_ (Or.inr ⟨w, fun i j h => ?_, ?_, fun i h => ?_, up3_eq⟩) ?_
      · obtain ⟨a, b, c, d⟩ := wR_n (M := up3 (uR M x1 x2 1 (-1)) 13 (M 56 0 x1) 5 1) (x1 := x1) (x2 := x2) (d := 1) (t := M 44 0 0) (b := -1) h
        rw [up3_nr (by decide), up3_nr (by decide), up3_nr (by decide), up3_nr (by decide), a, b, c, d, up3_nr (by decide), up3_nr (by decide), up3_nr (by decide), up3_nr (by decide), uR_r (by decide), uR_r (by decide), uR_r (by decide), uR_r (by decide)]
        exact ⟨rfl, rfl, rfl, rfl⟩
      · rw [up3_nr (by decide), up3_nr (by decide), up3_nr (by decide), up3_nr (by decide)]
        exact wR_v
      · rw [e13]
        rcases h with h | h
        · rw [up3_ni h, uR_r (by decide)]
        · rw [up3_nj h, uR_r (by decide)]
      · rw [e13, up3_eq]
      · rw [up3_nj h, wR_r (by decide), up3_nr (by decide), uR_r (by decide)]
      · refine RdC_of ?_ ?_ ?_ ?_ ?_ ?_ ?_ ?_ hI.2.2
        · rw [up3_nr (by decide), wR_r (by decide), up3_nr (by decide), uR_r (by decide)]
        · rw [up3_nr (by decide), wR_r (by decide), up3_nr (by decide), uR_r (by decide)]
        · rw [up3_nr (by decide), wR_r (by decide), up3_nr (by decide), uR_r (by decide)]
        · rw [up3_nr (by decide), wR_r (by decide), up3_nr (by decide), uR_r (by decide)]
        · rw [up3_r (by decide), wR_r (by decide), up3_r (by decide), uR_r (by decide)]
        · rw [up3_r (by decide), wR_r (by decide), up3_r (by decide), uR_r (by decide)]
        · rw [up3_r (by decide), wR_r (by decide), up3_r (by decide), uR_r (by decide)]
        · rw [up3_r (by decide), wR_r (by decide), up3_r (by decide), uR_r (by decide)]
theorem p_read {E : E3} {M : M3} {x1 x2 x3 x4 : Int} (hI : Inv M) (hx1 : -2147483648 ≤ x1 ∧ x1 ≤ 2147483647) (hx2 : -2147483648 ≤ x2 ∧ x2 ≤ 2147483647) (hx3 : x3 = 0 ∨ x3 = 1) (hx4 : -2147483648 ≤ x4 ∧ x4 ≤ 2147483647) : C3 E YX11_read [vR 0 0, vI x1, vI x2, vI x3, vI x4] M (P2 E YX12_read [vR 44 0, vI x1, vI x2, vI x3, vI x4]) := by
  rcases hx3 with rfl | rfl
  · exact p_readf hI hx1 hx2 hx4
  · exact p_readt hI hx1 hx2 hx4
