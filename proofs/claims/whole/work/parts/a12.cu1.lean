/-! CLASS: the line -/
def cPlc (M : M3) (x1 : Int) : Int := ff3 (M 20 0 0) fun k => decide (M 21 0 k = x1)
theorem lX6_placeOf {E : E3} {Q : Q3} {M : M3} {x1 : Int} (hz : 0 ≤ M 20 0 0 ∧ M 20 0 0 ≤ 24) (hx : -2147483648 ≤ x1 ∧ x1 ≤ 2147483647) (k : Q (some (vI (cPlc M x1))) M) : ∀ (n : Nat) (x2 : Int), 0 ≤ x2 → x2 + n = M 20 0 0 → (∀ z : Int, 0 ≤ z → z < x2 → M 21 0 z ≠ x1) → G3 E YX6_placeOf Q 2 [(0, vR 20 0), (1, vI x1), (2, vI x2)] [] M := by
  intro n
  induction n with
  | zero =>
    intro x2 h1 h2 h3
    refine g3_rm fun hM => ?_
    refine sX6_placeOf_2 ?_
    refine ⟨?_, ?_⟩
    · first | omega | (exfalso; omega)
    refine ⟨fun c1 => ?_, fun c1 => ?_⟩
    · first | (exfalso; omega) | (rw [cPlc, ff3_no (by omega) (fun z a b => decide_eq_false (h3 z a (by omega)))] at k; exact k)
    · refine ⟨?_, ?_, ?_⟩
      · first | omega | (exfalso; omega)
      · first | omega | (exfalso; omega)
      refine ⟨fun c2 => ?_, fun c2 => ?_⟩
      · exfalso; omega
      · first | (exfalso; omega) | (rw [cPlc, ff3_no (by omega) (fun z a b => decide_eq_false (h3 z a (by omega)))] at k; exact k)
  | succ n ih =>
    intro x2 h1 h2 h3
    refine g3_rm fun hM => ?_
    refine sX6_placeOf_2 ?_
    refine ⟨?_, ?_⟩
    · first | omega | (exfalso; omega)
    refine ⟨fun c1 => ?_, fun c1 => ?_⟩
    · first
        | (rw [cPlc, ff3_is (r := x2) ⟨h1, by omega⟩ (decide_eq_true (by assumption)) (fun z a b => decide_eq_false (h3 z a b))] at k; exact k)
        | (exfalso; omega)
    · refine ⟨?_, ?_, ?_⟩
      · first | omega | (exfalso; omega)
      · first | omega | (exfalso; omega)
      refine ⟨fun c2 => ?_, fun c2 => ?_⟩
      · exact ih _ (by omega) (by omega) (fun z a b => by
            by_cases e : z = x2
            · rw [e]; assumption
            · exact h3 z a (by omega))
      · first
          | (rw [cPlc, ff3_is (r := x2) ⟨h1, by omega⟩ (decide_eq_true (by assumption)) (fun z a b => decide_eq_false (h3 z a b))] at k; exact k)
          | (exfalso; omega)
theorem kX6_placeOf {E : E3} {Q : Q3} {M : M3} {x1 : Int} (h : (0 ≤ M 20 0 0 ∧ M 20 0 0 ≤ 24) ∧ (-2147483648 ≤ x1 ∧ x1 ≤ 2147483647)) (k : Q (some (vI (cPlc M x1))) M) : C3 E YX6_placeOf [vR 20 0, vI x1] M Q :=
  sX6_placeOf (lX6_placeOf h.1 h.2 k (M 20 0 0).toNat 0 (by omega) (by omega) (fun z a b => by omega))
/-- places of one who stands in the line: of the class, of the model -/
theorem plc_c {M : M3} (h : iLin M) {s : Int → Int} (hs : SgP M s) (hc : ∀ i : Int, 0 ≤ i → i < M 44 0 32 → M 21 0 i = M 65 0 (s i)) (p : Int) : (cPlc M p = -1 ∧ mPlc M p = -1) ∨ ((0 ≤ cPlc M p ∧ cPlc M p < M 44 0 32) ∧ s (cPlc M p) = mPlc M p) := by
  obtain ⟨⟨a1, a2, a3, a4⟩, b, c, d, e, _⟩ := h
  have hn := c.1
  rcases ff3_c (n := M 20 0 0) (by omega) (fun k => decide (M 21 0 k = p)) with ⟨x, y⟩ | ⟨x, y, z⟩
  · refine Or.inl ⟨x, ff3_no hn.1 fun j j0 j1 => decide_eq_false fun q => ?_⟩
    obtain ⟨i, hi, ei⟩ := hs.2.2 j j0 j1
    have := of_decide_eq_false (y i hi.1 (by omega))
    rw [hc i hi.1 hi.2, ei] at this
    exact this q
  · have ex : cPlc M p = ff3 (M 20 0 0) (fun k => decide (M 21 0 k = p)) := rfl
    rw [← ex] at x y
    have h1 := of_decide_eq_true y
    rw [hc _ x.1 (by omega)] at h1
    have si := hs.1 _ x.1 (by omega)
    refine Or.inr ⟨by omega, ?_⟩
    rcases ff3_c hn.1 (fun k => decide (M 65 0 k = p)) with ⟨u, v⟩ | ⟨u, v, w⟩
    · exact absurd h1 (of_decide_eq_false (v _ si.1 si.2))
    · have h2 := of_decide_eq_true v
      exact d _ _ si.1 si.2 u.1 u.2 (h1.trans h2.symm)
def poSv (M : M3) (c d r : Int) (N : M3) : Prop := ∃ s : Int → Int, SgP M s ∧ (∀ i : Int, 0 ≤ i → i < M 44 0 32 → M 21 0 i = M 65 0 (s i)) ∧ (r = if opn3 (M 44 0 29) d then mSv M c s else 0) ∧ ∀ i : Int, 0 ≤ i → i < r → N 24 0 i = max (fr3 (M 44 0 30) (mCm M s) (mMn M c s) i) (M 66 0 (s i))
theorem lX6_serve {E : E3} {Q : Q3} {M0 : M3} {x1 : Int} {x2 : Int} {s : Int → Int} (hI : iLin M0) (hx : 0 ≤ x1 ∧ x1 ≤ 3) (hop : opn3 (M0 44 0 29) x2) (hs : SgP M0 s) (hc : ∀ i : Int, 0 ≤ i → i < M0 44 0 32 → M0 21 0 i = M0 65 0 (s i) ∧ M0 22 0 i = M0 46 0 (M0 65 0 (s i)) ∧ M0 23 0 i = M0 66 0 (s i)) (k : ∀ (r : Int) (N : M3), RM3 N → (∀ q : Nat, q ∉ ([24] : List Nat) → N q = M0 q) → poSv M0 x1 x2 r N → Q (some (vI r)) N) : ∀ (n : Nat) (x4 x3 : Int) (M : M3), 0 ≤ x4 → x4 + n = M0 44 0 32 → (∀ q : Nat, q ∉ ([24] : List Nat) → M q = M0 q) → x3 = fr3 (M0 44 0 30) (mCm M0 s) (mMn M0 x1 s) x4 → (∀ j : Int, 0 ≤ j → j < x4 → fr3 (M0 44 0 30) (mCm M0 s) (mMn M0 x1 s) (j + 1) ≤ M0 44 0 31) → (∀ j : Int, 0 ≤ j → j < x4 → M 24 0 j = max (fr3 (M0 44 0 30) (mCm M0 s) (mMn M0 x1 s) j) (M0 66 0 (s j))) → G3 E YX6_serve Q 24 [(0, vR 20 0), (1, vI x1), (3, vI x3), (4, vI x4)] [] M := by
  intro n
  induction n with
  | zero =>
    intro x4 x3 M h1 h2 h3 h4 h5 h6
    refine g3_rm fun hM => ?_
    obtain ⟨⟨i1, i2, i3, i4⟩, i5, ⟨z1, z2, z3, z4, z5, z6⟩, i6, i7, _⟩ := hI
    have e0 : M 20 0 0 = M0 44 0 32 := by rw [h3 20 (by decide)]; exact i1
    have e8 : M 20 0 8 = M0 44 0 31 := by rw [h3 20 (by decide)]; exact i4
    have e22 : M 22 = M0 22 := h3 22 (by decide)
    have e23 : M 23 = M0 23 := h3 23 (by decide)
    have e25 : M 25 = M0 25 := h3 25 (by decide)
    have fin : ∀ (r : Int) (N : M3), RM3 N → (∀ q : Nat, q ∉ ([24] : List Nat) → N q = M0 q) → r = x4 → mSv M0 x1 s = x4 → (∀ j : Int, 0 ≤ j → j < x4 → N 24 0 j = max (fr3 (M0 44 0 30) (mCm M0 s) (mMn M0 x1 s) j) (M0 66 0 (s j))) → Q (some (vI r)) N := fun r N a b er es f => by
      rw [er]
      exact k x4 N a b ⟨s, hs, fun i a b => (hc i a b).1, by rw [if_pos hop, es], fun i a b => f i a b⟩
    refine sX6_serve_24 ?_
    simp only [e0, e8, e22, e23, e25]
    refine ⟨?_, ?_⟩
    · first | omega | (exfalso; omega)
    refine ⟨fun c1 => ?_, fun c1 => ?_⟩
    · first
        | (exfalso; omega)
        | exact fin _ M hM h3 (by omega) (by
            rw [mSv, sv3, if_pos (ff3_no z1.1 fun j a b => decide_eq_false (by have := h5 j a (by omega); omega))]
            omega) h6
    · refine ⟨?_, ?_, ?_, ?_, ?_, ?_⟩
      · first | omega | (exfalso; omega)
      · first | omega | (exfalso; omega)
      · first | omega | (exfalso; omega)
      · first | omega | (exfalso; omega)
      · first | omega | (exfalso; omega)
      refine ⟨fun c2 => ?_, fun c2 => ?_⟩
      · exfalso; omega
      · first
          | (exfalso; omega)
          | exact fin _ M hM h3 (by omega) (by
              rw [mSv, sv3, if_pos (ff3_no z1.1 fun j a b => decide_eq_false (by have := h5 j a (by omega); omega))]
              omega) h6
  | succ n ih =>
    intro x4 x3 M h1 h2 h3 h4 h5 h6
    refine g3_rm fun hM => ?_
    obtain ⟨⟨i1, i2, i3, i4⟩, i5, ⟨z1, z2, z3, z4, z5, z6⟩, i6, i7, _⟩ := hI
    have e0 : M 20 0 0 = M0 44 0 32 := by rw [h3 20 (by decide)]; exact i1
    have e8 : M 20 0 8 = M0 44 0 31 := by rw [h3 20 (by decide)]; exact i4
    have e22 : M 22 = M0 22 := h3 22 (by decide)
    have e23 : M 23 = M0 23 := h3 23 (by decide)
    have e25 : M 25 = M0 25 := h3 25 (by decide)
    have fin : ∀ (r : Int) (N : M3), RM3 N → (∀ q : Nat, q ∉ ([24] : List Nat) → N q = M0 q) → r = x4 → mSv M0 x1 s = x4 → (∀ j : Int, 0 ≤ j → j < x4 → N 24 0 j = max (fr3 (M0 44 0 30) (mCm M0 s) (mMn M0 x1 s) j) (M0 66 0 (s j))) → Q (some (vI r)) N := fun r N a b er es f => by
      rw [er]
      exact k x4 N a b ⟨s, hs, fun i a b => (hc i a b).1, by rw [if_pos hop, es], fun i a b => f i a b⟩
    obtain ⟨c1', c2', c3'⟩ := hc x4 h1 (by omega)
    have s5 := hs.1 x4 h1 (by omega)
    obtain ⟨w1, w2, w3⟩ := z6 (s x4) s5.1 s5.2
    have hfr := fr3_rg (B := 0) (op := M0 44 0 30) (cm := mCm M0 s) (mn := mMn M0 x1 s) (n := M0 44 0 32) z2 (fun i a b => (z6 (s i) (hs.1 i a b).1 (hs.1 i a b).2).2.1) (fun i a b => z5 _ (by have := (z6 (s i) (hs.1 i a b).1 (hs.1 i a b).2).2.2; omega) (by have := (z6 (s i) (hs.1 i a b).1 (hs.1 i a b).2).2.2; omega)) x4.toNat (by omega)
    have hfs := fr3_s (op := M0 44 0 30) (cm := mCm M0 s) (mn := mMn M0 x1 s) h1
    have hmn := z5 (2 * x1 + M0 46 0 (M0 65 0 (s x4))) (by omega) (by omega)
    have hmc := i5 (2 * x1 + M0 46 0 (M0 65 0 (s x4))) (by omega) (by omega)
    have hfs2 : fr3 (M0 44 0 30) (mCm M0 s) (mMn M0 x1 s) (x4 + 1) = max x3 (M0 66 0 (s x4)) + M0 64 0 (2 * x1 + M0 46 0 (M0 65 0 (s x4))) := by rw [hfs, h4]
    have h4b : x3 = frN (M0 44 0 30) (mCm M0 s) (mMn M0 x1 s) x4.toNat := h4
    have bg : ∀ j : Int, 0 ≤ j → j < x4 + 1 → up3 M 24 0 x4 (max x3 (M0 66 0 (s x4))) 24 0 j = max (fr3 (M0 44 0 30) (mCm M0 s) (mMn M0 x1 s) j) (M0 66 0 (s j)) := fun j a b => by
      by_cases e : j = x4
      · rw [e, up3_eq, ← h4]
      · rw [up3_nj e]
        exact h6 j a (by omega)
    refine sX6_serve_24 ?_
    simp only [e0, e8, e22, e23, e25]
    rw [c2', c3', hmc]
    refine ⟨?_, ?_⟩
    · first | omega | (exfalso; omega)
    refine ⟨fun c1 => ?_, fun c1 => ?_⟩
    · first
        | (exfalso; omega)
        | (refine fin _ _ (hM.up (by omega)) (fr_up h3 (by decide)) rfl ?_ (fun j a b => bg j a (by omega))
           have e : ff3 (M0 44 0 32) (fun i => decide (M0 44 0 31 < fr3 (M0 44 0 30) (mCm M0 s) (mMn M0 x1 s) (i + 1))) = x4 := ff3_is ⟨h1, by omega⟩ (decide_eq_true (by rw [hfs2]; omega)) fun j a b => decide_eq_false (by have := h5 j a b; omega)
           rw [mSv, sv3, e, if_neg (by omega)])
    · refine ⟨?_, ?_, ?_, ?_, ?_, ?_⟩
      · first | omega | (exfalso; omega)
      · first | omega | (exfalso; omega)
      · first | omega | (exfalso; omega)
      · first | omega | (exfalso; omega)
      · first | omega | (exfalso; omega)
      refine ⟨fun c2 => ?_, fun c2 => ?_⟩
      · first
          | (exfalso; omega)
          | (refine ih _ _ _ (by omega) (by omega) (fr_up h3 (by decide)) (by rw [hfs2]) (fun j a b => ?_) bg
             by_cases e : j = x4
             · rw [e, hfs2]; omega
             · exact h5 j a (by omega))
      · first
          | (exfalso; omega)
          | (refine fin _ _ (hM.up (by omega)) (fr_up h3 (by decide)) rfl ?_ (fun j a b => bg j a (by omega))
             have e : ff3 (M0 44 0 32) (fun i => decide (M0 44 0 31 < fr3 (M0 44 0 30) (mCm M0 s) (mMn M0 x1 s) (i + 1))) = x4 := ff3_is ⟨h1, by omega⟩ (decide_eq_true (by rw [hfs2]; omega)) fun j a b => decide_eq_false (by have := h5 j a b; omega)
             rw [mSv, sv3, e, if_neg (by omega)])
theorem kX6_serve {E : E3} {Q : Q3} {M : M3} {x1 x2 : Int} (h : iLin M ∧ (0 ≤ x1 ∧ x1 ≤ 3) ∧ 0 ≤ x2 ∧ x2 ≤ 399) (k : ∀ (r : Int) (N : M3), RM3 N → (∀ q : Nat, q ∉ ([24] : List Nat) → N q = M q) → poSv M x1 x2 r N → Q (some (vI r)) N) : C3 E YX6_serve [vR 20 0, vI x1, vI x2] M Q := by
  refine c3_rm fun hM => ?_
  obtain ⟨hI, hx, hy⟩ := h
  have hI' := hI
  obtain ⟨⟨i1, i2, i3, i4⟩, i5, hL, i6, i7, s, hs, hc⟩ := hI'
  have hz := hL.1
  refine sX6_serve ?_
  refine ⟨?_, ?_⟩
  · omega
  refine ⟨fun c1 => ?_, fun c1 => ?_⟩
  · (rw [i3]
     exact lX6_serve hI hx (by rw [← i2]; assumption) hs hc k (M 44 0 32).toNat 0 _ M (by omega) (by omega) fr_rf rfl (fun j a b => by omega) (fun j a b => by omega))
  · exact k 0 M hM fr_rf ⟨s, hs, fun i a b => (hc i a b).1, by rw [if_neg (fun z => z (by rw [← i2]; assumption))], fun i a b => by omega⟩
def poJn (M : M3) (x1 x2 x3 r : Int) (N : M3) : Prop := r = M 44 0 32 + 1 ∧ N 20 0 0 = M 44 0 32 + 1 ∧ (∀ j : Int, j ≠ 0 → N 20 0 j = M 20 0 j) ∧ ∃ z : Int, (0 ≤ z ∧ z ≤ M 44 0 32) ∧ (∀ i : Int, 0 ≤ i → i < z → M 23 0 i ≤ x3) ∧ (∀ i : Int, z ≤ i → i < M 44 0 32 → x3 < M 23 0 i) ∧ ∀ i : Int, 0 ≤ i → i ≤ M 44 0 32 → (N 21 0 i = if i < z then M 21 0 i else if i = z then x1 else M 21 0 (i - 1)) ∧ (N 22 0 i = if i < z then M 22 0 i else if i = z then x2 else M 22 0 (i - 1)) ∧ (N 23 0 i = if i < z then M 23 0 i else if i = z then x3 else M 23 0 (i - 1))
theorem lX6_join {E : E3} {Q : Q3} {M0 : M3} {x1 x2 x3 : Int} (hI : iLin M0) (hx : (-2147483648 ≤ x1 ∧ x1 ≤ 2147483647) ∧ (-2147483648 ≤ x2 ∧ x2 ≤ 2147483647) ∧ (-2147483648 ≤ x3 ∧ x3 ≤ 2147483647)) (hl : M0 44 0 32 < 24) (k : ∀ (r : Int) (N : M3), RM3 N → (∀ q : Nat, q ∉ ([20, 21, 22, 23] : List Nat) → N q = M0 q) → poJn M0 x1 x2 x3 r N → Q (some (vI r)) N) : ∀ (n : Nat) (x4 : Int) (M : M3), 0 ≤ x4 → x4 = n → (∀ q : Nat, q ∉ ([21, 22, 23] : List Nat) → M q = M0 q) → x4 ≤ M0 44 0 32 → (∀ i : Int, x4 ≤ i → i < M0 44 0 32 → x3 < M0 23 0 i) → (∀ i : Int, 0 ≤ i → i ≤ M0 44 0 32 → (M 21 0 i = if i ≤ x4 then M0 21 0 i else M0 21 0 (i - 1))) → (∀ i : Int, 0 ≤ i → i ≤ M0 44 0 32 → (M 22 0 i = if i ≤ x4 then M0 22 0 i else M0 22 0 (i - 1))) → (∀ i : Int, 0 ≤ i → i ≤ M0 44 0 32 → (M 23 0 i = if i ≤ x4 then M0 23 0 i else M0 23 0 (i - 1))) → G3 E YX6_join Q 6 [(0, vR 20 0), (1, vI x1), (2, vI x2), (3, vI x3), (4, vI x4)] [] M := by
  intro n
  induction n with
  | zero =>
    intro x4 M h1 h2 h3 h4 h5 h6 h7 h8
    refine g3_rm fun hM => ?_
    have hI' := hI
    obtain ⟨⟨i1, i2, i3, i4⟩, i5, hL, i6, i7, s, hs, hc⟩ := hI'
    have hz := hL.1
    have e0 : M 20 0 0 = M0 44 0 32 := by rw [h3 20 (by decide)]; exact i1
    have e20 : M 20 = M0 20 := h3 20 (by decide)
    have fin : (x4 ≤ 0 ∨ M0 23 0 (x4 - 1) ≤ x3) → 0 ≤ x4 → Q (some (vI (M0 44 0 32 + 1))) (up3 (up3 (up3 (up3 M 21 0 x4 x1) 22 0 x4 x2) 23 0 x4 x3) 20 0 0 (M0 44 0 32 + 1)) := fun hst h1 => by
      have sorted : ∀ i j : Int, 0 ≤ i → i < j → j < M0 44 0 32 → M0 23 0 i ≤ M0 23 0 j := fun i j a b c => by
        have l := hs.2.1 i j a b c
        rw [(hc i a (by omega)).2.2, (hc j (by omega) c).2.2]
        unfold lt3 at l
        omega
      refine k _ _ ((((hM.up hx.1).up hx.2.1).up hx.2.2).up (by omega)) (fr_up (fr_up (fr_up (fr_up (fr_sub h3 (by decide)) (by decide)) (by decide)) (by decide)) (by decide)) ⟨rfl, up3_eq, fun j hj => by rw [up3_nj hj, up3_nr (by decide), up3_nr (by decide), up3_nr (by decide), e20], x4, ⟨h1, h4⟩, fun i a b => ?_, h5, fun i a b => ?_⟩
      · rcases hst with hst | hst
        · omega
        · by_cases e : i = x4 - 1
          · rw [e]; exact hst
          · have := sorted i (x4 - 1) a (by omega) (by omega)
            omega
      · refine ⟨?_, ?_, ?_⟩
        · rw [up3_nr (by decide), up3_nr (by decide), up3_nr (by decide)]
          by_cases e : i = x4
          · rw [e, up3_eq, if_neg (by omega), if_pos rfl]
          · rw [up3_nj e, h6 i a b]
            by_cases q : i < x4
            · rw [if_pos (show i ≤ x4 by omega), if_pos q]
            · rw [if_neg (show ¬ i ≤ x4 by omega), if_neg q, if_neg e]
        · rw [up3_nr (by decide), up3_nr (by decide)]
          by_cases e : i = x4
          · rw [e, up3_eq, if_neg (by omega), if_pos rfl]
          · rw [up3_nj e, up3_nr (by decide), h7 i a b]
            by_cases q : i < x4
            · rw [if_pos (show i ≤ x4 by omega), if_pos q]
            · rw [if_neg (show ¬ i ≤ x4 by omega), if_neg q, if_neg e]
        · rw [up3_nr (by decide)]
          by_cases e : i = x4
          · rw [e, up3_eq, if_neg (by omega), if_pos rfl]
          · rw [up3_nj e, up3_nr (by decide), up3_nr (by decide), h8 i a b]
            by_cases q : i < x4
            · rw [if_pos (show i ≤ x4 by omega), if_pos q]
            · rw [if_neg (show ¬ i ≤ x4 by omega), if_neg q, if_neg e]
    refine sX6_join_6 ?_
    simp only [e0]
    refine ⟨?_, ?_⟩
    · first | omega | (exfalso; omega)
    refine ⟨fun c1 => ?_, fun c1 => ?_⟩
    · refine ⟨?_, ?_, ?_, ?_, ?_, ?_⟩
      · first | omega | (exfalso; omega)
      · first | omega | (exfalso; omega)
      · first | omega | (exfalso; omega)
      · first | omega | (exfalso; omega)
      · first | omega | (exfalso; omega)
      first | (exfalso; omega) | exact fin (Or.inl (by omega)) h1
    · refine ⟨?_, ?_, ?_⟩
      · first | omega | (exfalso; omega)
      · first | omega | (exfalso; omega)
      refine ⟨fun c2 => ?_, fun c2 => ?_⟩
      · refine ⟨?_, ?_, ?_, ?_, ?_⟩
        · first | omega | (exfalso; omega)
        · first | omega | (exfalso; omega)
        · first | omega | (exfalso; omega)
        · first | omega | (exfalso; omega)
        first | (exfalso; omega) | exact fin (Or.inl (by omega)) h1
      · refine ⟨?_, ?_⟩
        · first | omega | (exfalso; omega)
        exfalso; omega
  | succ n ih =>
    intro x4 M h1 h2 h3 h4 h5 h6 h7 h8
    refine g3_rm fun hM => ?_
    have hI' := hI
    obtain ⟨⟨i1, i2, i3, i4⟩, i5, hL, i6, i7, s, hs, hc⟩ := hI'
    have hz := hL.1
    have e0 : M 20 0 0 = M0 44 0 32 := by rw [h3 20 (by decide)]; exact i1
    have e20 : M 20 = M0 20 := h3 20 (by decide)
    have fin : (x4 ≤ 0 ∨ M0 23 0 (x4 - 1) ≤ x3) → 0 ≤ x4 → Q (some (vI (M0 44 0 32 + 1))) (up3 (up3 (up3 (up3 M 21 0 x4 x1) 22 0 x4 x2) 23 0 x4 x3) 20 0 0 (M0 44 0 32 + 1)) := fun hst h1 => by
      have sorted : ∀ i j : Int, 0 ≤ i → i < j → j < M0 44 0 32 → M0 23 0 i ≤ M0 23 0 j := fun i j a b c => by
        have l := hs.2.1 i j a b c
        rw [(hc i a (by omega)).2.2, (hc j (by omega) c).2.2]
        unfold lt3 at l
        omega
      refine k _ _ ((((hM.up hx.1).up hx.2.1).up hx.2.2).up (by omega)) (fr_up (fr_up (fr_up (fr_up (fr_sub h3 (by decide)) (by decide)) (by decide)) (by decide)) (by decide)) ⟨rfl, up3_eq, fun j hj => by rw [up3_nj hj, up3_nr (by decide), up3_nr (by decide), up3_nr (by decide), e20], x4, ⟨h1, h4⟩, fun i a b => ?_, h5, fun i a b => ?_⟩
      · rcases hst with hst | hst
        · omega
        · by_cases e : i = x4 - 1
          · rw [e]; exact hst
          · have := sorted i (x4 - 1) a (by omega) (by omega)
            omega
      · refine ⟨?_, ?_, ?_⟩
        · rw [up3_nr (by decide), up3_nr (by decide), up3_nr (by decide)]
          by_cases e : i = x4
          · rw [e, up3_eq, if_neg (by omega), if_pos rfl]
          · rw [up3_nj e, h6 i a b]
            by_cases q : i < x4
            · rw [if_pos (show i ≤ x4 by omega), if_pos q]
            · rw [if_neg (show ¬ i ≤ x4 by omega), if_neg q, if_neg e]
        · rw [up3_nr (by decide), up3_nr (by decide)]
          by_cases e : i = x4
          · rw [e, up3_eq, if_neg (by omega), if_pos rfl]
          · rw [up3_nj e, up3_nr (by decide), h7 i a b]
            by_cases q : i < x4
            · rw [if_pos (show i ≤ x4 by omega), if_pos q]
            · rw [if_neg (show ¬ i ≤ x4 by omega), if_neg q, if_neg e]
        · rw [up3_nr (by decide)]
          by_cases e : i = x4
          · rw [e, up3_eq, if_neg (by omega), if_pos rfl]
          · rw [up3_nj e, up3_nr (by decide), up3_nr (by decide), h8 i a b]
            by_cases q : i < x4
            · rw [if_pos (show i ≤ x4 by omega), if_pos q]
            · rw [if_neg (show ¬ i ≤ x4 by omega), if_neg q, if_neg e]
    have v1 : M 21 0 (x4 - 1) = M0 21 0 (x4 - 1) := by rw [h6 _ (by omega) (by omega), if_pos (by omega)]
    have v2 : M 22 0 (x4 - 1) = M0 22 0 (x4 - 1) := by rw [h7 _ (by omega) (by omega), if_pos (by omega)]
    have v3 : M 23 0 (x4 - 1) = M0 23 0 (x4 - 1) := by rw [h8 _ (by omega) (by omega), if_pos (by omega)]
    refine sX6_join_6 ?_
    simp only [e0]
    rw [v1, v2, v3]
    refine ⟨?_, ?_⟩
    · first | omega | (exfalso; omega)
    refine ⟨fun c1 => ?_, fun c1 => ?_⟩
    · refine ⟨?_, ?_, ?_, ?_, ?_, ?_⟩
      · first | omega | (exfalso; omega)
      · first | omega | (exfalso; omega)
      · first | omega | (exfalso; omega)
      · first | omega | (exfalso; omega)
      · first | omega | (exfalso; omega)
      first | (exfalso; omega) | exact fin (Or.inr (by assumption)) h1
    · refine ⟨?_, ?_, ?_⟩
      · first | omega | (exfalso; omega)
      · first | omega | (exfalso; omega)
      refine ⟨fun c2 => ?_, fun c2 => ?_⟩
      · refine ⟨?_, ?_, ?_, ?_, ?_⟩
        · first | omega | (exfalso; omega)
        · first | omega | (exfalso; omega)
        · first | omega | (exfalso; omega)
        · first | omega | (exfalso; omega)
        first | (exfalso; omega) | exact fin (Or.inr (by assumption)) h1
      · refine ⟨?_, ?_⟩
        · first | omega | (exfalso; omega)
        first
          | (exfalso; omega)
          | (have e1 : x4 + -1 = x4 - 1 := by omega
             rw [e1]
             refine ih _ _ (by omega) (by omega) (fr_up (fr_up (fr_up h3 (by decide)) (by decide)) (by decide)) (by omega) (fun i a b => ?_) (fun i a b => ?_) (fun i a b => ?_) (fun i a b => ?_)
             · by_cases e : i = x4 - 1
               · rw [e]; assumption
               · exact h5 i (by omega) b
             · rw [up3_nr (by decide), up3_nr (by decide)]
               by_cases e : i = x4
               · rw [e, up3_eq, if_neg (by omega)]
               · rw [up3_nj e, h6 i a b]
                 by_cases q : i ≤ x4 - 1
                 · rw [if_pos q, if_pos (by omega)]
                 · rw [if_neg q, if_neg (by omega)]
             · rw [up3_nr (by decide)]
               by_cases e : i = x4
               · rw [e, up3_eq, if_neg (by omega)]
               · rw [up3_nj e, up3_nr (by decide), h7 i a b]
                 by_cases q : i ≤ x4 - 1
                 · rw [if_pos q, if_pos (by omega)]
                 · rw [if_neg q, if_neg (by omega)]
             · by_cases e : i = x4
               · rw [e, up3_eq, if_neg (by omega)]
               · rw [up3_nj e, up3_nr (by decide), up3_nr (by decide), h8 i a b]
                 by_cases q : i ≤ x4 - 1
                 · rw [if_pos q, if_pos (by omega)]
                 · rw [if_neg q, if_neg (by omega)])
theorem kX6_join {E : E3} {Q : Q3} {M : M3} {x1 x2 x3 : Int} (h : iLin M ∧ M 44 0 32 < 24 ∧ (-2147483648 ≤ x1 ∧ x1 ≤ 2147483647) ∧ (-2147483648 ≤ x2 ∧ x2 ≤ 2147483647) ∧ (-2147483648 ≤ x3 ∧ x3 ≤ 2147483647)) (k : ∀ (r : Int) (N : M3), RM3 N → (∀ q : Nat, q ∉ ([20, 21, 22, 23] : List Nat) → N q = M q) → poJn M x1 x2 x3 r N → Q (some (vI r)) N) : C3 E YX6_join [vR 20 0, vI x1, vI x2, vI x3] M Q := by
  have hz := h.1.2.2.1.1
  have e0 := h.1.1.1
  refine sX6_join ?_
  rw [e0]
  exact lX6_join h.1 ⟨h.2.2.1, h.2.2.2.1, h.2.2.2.2⟩ h.2.1 k (M 44 0 32).toNat (M 44 0 32) M (by omega) (by omega) fr_rf (by omega) (fun i a b => by omega) (fun i a b => by rw [if_pos (by omega)]) (fun i a b => by rw [if_pos (by omega)]) (fun i a b => by rw [if_pos (by omega)])
