/-! MODEL: the line -/
abbrev lt3 (M : M3) (a b : Int) : Prop := M 66 0 a < M 66 0 b ∨ (M 66 0 b = M 66 0 a ∧ a < b)
/-- s tells the line in the order in which it is seen -/
def SgP (M : M3) (s : Int → Int) : Prop := (∀ i : Int, 0 ≤ i → i < M 44 0 32 → 0 ≤ s i ∧ s i < M 44 0 32) ∧ (∀ i j : Int, 0 ≤ i → i < j → j < M 44 0 32 → lt3 M (s i) (s j)) ∧ (∀ j : Int, 0 ≤ j → j < M 44 0 32 → ∃ i : Int, (0 ≤ i ∧ i < M 44 0 32) ∧ s i = j)
theorem mNxN_c (M : M3) (l : Int) : ∀ n : Nat, (mNxN M l n = -1 ∧ ∀ k : Int, 0 ≤ k → k < n → ¬ bhd3 M l k) ∨ ((0 ≤ mNxN M l n ∧ mNxN M l n < n) ∧ bhd3 M l (mNxN M l n) ∧ ∀ k : Int, 0 ≤ k → k < n → bhd3 M l k → M 66 0 (mNxN M l n) < M 66 0 k ∨ (M 66 0 k = M 66 0 (mNxN M l n) ∧ mNxN M l n ≤ k))
  | 0 => Or.inl ⟨rfl, fun k a b => by omega⟩
  | n + 1 => by
    unfold mNxN
    rcases mNxN_c M l n with ⟨h1, h2⟩ | ⟨h1, h2, h3⟩
    · by_cases q : bhd3 M l n
      · rw [if_pos ⟨q, Or.inl h1⟩]
        refine Or.inr ⟨by omega, q, fun k a b c => ?_⟩
        by_cases e : k = (n : Int)
        · rw [e]
          exact Or.inr ⟨rfl, Int.le_refl _⟩
        · exact absurd c (h2 k a (by omega))
      · rw [if_neg fun z => q z.1]
        refine Or.inl ⟨h1, fun k a b => ?_⟩
        by_cases e : k = (n : Int)
        · rw [e]
          exact q
        · exact h2 k a (by omega)
    · by_cases q : bhd3 M l n ∧ (mNxN M l n = -1 ∨ M 66 0 n < M 66 0 (mNxN M l n))
      · rw [if_pos q]
        refine Or.inr ⟨by omega, q.1, fun k a b c => ?_⟩
        by_cases e : k = (n : Int)
        · rw [e]
          exact Or.inr ⟨rfl, Int.le_refl _⟩
        · have := h3 k a (by omega) c
          have := q.2
          omega
      · rw [if_neg q]
        refine Or.inr ⟨by omega, h2, fun k a b c => ?_⟩
        by_cases e : k = (n : Int)
        · have : ¬ (mNxN M l n = -1 ∨ M 66 0 n < M 66 0 (mNxN M l n)) := fun z => q ⟨by rw [← e]; exact c, z⟩
          rw [e]
          omega
        · exact h3 k a (by omega) c
theorem mNxt_is {M : M3} {l r : Int} (hn : 0 ≤ M 44 0 32) (h : 0 ≤ r ∧ r < M 44 0 32) (h1 : bhd3 M l r) (h2 : ∀ k : Int, 0 ≤ k → k < M 44 0 32 → bhd3 M l k → k = r ∨ lt3 M r k) : mNxt M l = r := by
  have hc := mNxN_c M l (M 44 0 32).toNat
  unfold mNxt
  rcases hc with ⟨a, b⟩ | ⟨a, b, c⟩
  · exact absurd h1 (b r h.1 (by omega))
  · have d := c r h.1 (by omega) h1
    have e := h2 _ a.1 (by omega) b
    unfold lt3 at e
    omega
theorem mNxt_no {M : M3} {l : Int} (hn : 0 ≤ M 44 0 32) (h : ∀ k : Int, 0 ≤ k → k < M 44 0 32 → ¬ bhd3 M l k) : mNxt M l = -1 := by
  rcases mNxN_c M l (M 44 0 32).toNat with ⟨a, b⟩ | ⟨a, b, c⟩
  · exact a
  · exact absurd b (h _ a.1 (by omega))
def sqn (M : M3) (s : Int → Int) (i : Int) : Int := if i < M 44 0 32 then s i else -1
theorem nxt_0 {M : M3} {s : Int → Int} (hn : 0 ≤ M 44 0 32) (h : SgP M s) : mNxt M (-1) = sqn M s 0 := by
  obtain ⟨h1, h2, h3⟩ := h
  unfold sqn
  by_cases q : 0 < M 44 0 32
  · rw [if_pos q]
    refine mNxt_is hn (h1 0 (by omega) q) (Or.inl rfl) fun k a b _ => ?_
    obtain ⟨i, hi, e⟩ := h3 k a b
    by_cases z : i = 0
    · exact Or.inl (by rw [← e, z])
    · exact Or.inr (by rw [← e]; exact h2 0 i (by omega) (by omega) hi.2)
  · rw [if_neg q]
    exact mNxt_no hn fun k a b => by omega
theorem nxt_s {M : M3} {s : Int → Int} {i : Int} (hn : 0 ≤ M 44 0 32) (h : SgP M s) (hi : 0 ≤ i ∧ i < M 44 0 32) : mNxt M (s i) = sqn M s (i + 1) := by
  obtain ⟨h1, h2, h3⟩ := h
  have si := h1 i hi.1 hi.2
  have key : ∀ k : Int, 0 ≤ k → k < M 44 0 32 → bhd3 M (s i) k → ∃ j : Int, (i < j ∧ j < M 44 0 32) ∧ s j = k := fun k a b c => by
    obtain ⟨j, hj, e⟩ := h3 k a b
    refine ⟨j, ⟨?_, hj.2⟩, e⟩
    rw [← e] at c
    by_cases z : j < i
    · have := h2 j i hj.1 z hi.2
      unfold bhd3 at c
      unfold lt3 at this
      omega
    · by_cases y : j = i
      · rw [y] at c
        unfold bhd3 at c
        omega
      · omega
  unfold sqn
  by_cases q : i + 1 < M 44 0 32
  · rw [if_pos q]
    refine mNxt_is hn (h1 _ (by omega) q) ?_ fun k a b c => ?_
    · have := h2 i (i + 1) hi.1 (by omega) q
      unfold lt3 at this
      unfold bhd3
      omega
    · obtain ⟨j, hj, e⟩ := key k a b c
      by_cases z : j = i + 1
      · exact Or.inl (by rw [← e, z])
      · exact Or.inr (by rw [← e]; exact h2 (i + 1) j (by omega) (by omega) hj.2)
  · rw [if_neg q]
    refine mNxt_no hn fun k a b c => ?_
    obtain ⟨j, hj, _⟩ := key k a b c
    omega
/-- when the i-th of a line is begun, if all before are seen -/
def frN (op : Int) (cm mn : Int → Int) : Nat → Int
  | 0 => op
  | n + 1 => max (frN op cm mn n) (cm n) + mn n
abbrev fr3 (op : Int) (cm mn : Int → Int) (i : Int) : Int := frN op cm mn i.toNat
theorem fr3_s {op : Int} {cm mn : Int → Int} {i : Int} (h : 0 ≤ i) : fr3 op cm mn (i + 1) = max (fr3 op cm mn i) (cm i) + mn i := by
  obtain ⟨k, rfl⟩ := Int.eq_ofNat_of_zero_le h
  rfl
/-- how many are seen -/
def sv3 (n cl op : Int) (cm mn : Int → Int) : Int := if ff3 n (fun i => decide (cl < fr3 op cm mn (i + 1))) = -1 then n else ff3 n (fun i => decide (cl < fr3 op cm mn (i + 1)))
theorem fr3_rg {op B : Int} {cm mn : Int → Int} {n : Int} (ho : 0 ≤ op ∧ op ≤ 1439) (hc : ∀ i : Int, 0 ≤ i → i < n → 0 ≤ cm i ∧ cm i ≤ 1439) (hm : ∀ i : Int, 0 ≤ i → i < n → 1 ≤ mn i ∧ mn i ≤ 120) : ∀ k : Nat, (k : Int) ≤ n → 0 ≤ frN op cm mn k ∧ frN op cm mn k ≤ 1439 + 120 * k
  | 0, _ => by unfold frN; omega
  | k + 1, h => by
    have h1 := fr3_rg (B := B) ho hc hm k (by omega)
    have h2 := hc k (by omega) (by omega)
    have h3 := hm k (by omega) (by omega)
    show 0 ≤ max (frN op cm mn k) (cm k) + mn k ∧ max (frN op cm mn k) (cm k) + mn k ≤ _
    omega
theorem frN_congr {op : Int} {cm mn cm' mn' : Int → Int} {n : Int} (h : ∀ i : Int, 0 ≤ i → i < n → cm i = cm' i ∧ mn i = mn' i) : ∀ k : Nat, (k : Int) ≤ n → frN op cm mn k = frN op cm' mn' k
  | 0, _ => rfl
  | k + 1, hk => by
    have h1 := frN_congr (op := op) h k (by omega)
    have h2 := h k (by omega) (by omega)
    show max (frN op cm mn k) (cm k) + mn k = max (frN op cm' mn' k) (cm' k) + mn' k
    rw [h1, h2.1, h2.2]
theorem sv3_congr {n cl op : Int} {cm mn cm' mn' : Int → Int} (hn : 0 ≤ n) (h : ∀ i : Int, 0 ≤ i → i < n → cm i = cm' i ∧ mn i = mn' i) : sv3 n cl op cm mn = sv3 n cl op cm' mn' := by
  have e : ff3 n (fun i => decide (cl < fr3 op cm mn (i + 1))) = ff3 n (fun i => decide (cl < fr3 op cm' mn' (i + 1))) := ff3_congr hn fun k a b => by
    show decide (cl < frN op cm mn (k + 1).toNat) = decide (cl < frN op cm' mn' (k + 1).toNat)
    rw [frN_congr h (k + 1).toNat (by omega)]
  unfold sv3
  rw [e]
abbrev mCm (M : M3) (s : Int → Int) (i : Int) : Int := M 66 0 (s i)
abbrev mMn (M : M3) (c : Int) (s : Int → Int) (i : Int) : Int := M 64 0 (2 * c + M 46 0 (M 65 0 (s i)))
/-- what holds of line and office -/
def okL (M : M3) : Prop := (0 ≤ M 44 0 32 ∧ M 44 0 32 ≤ 24) ∧ (0 ≤ M 44 0 30 ∧ M 44 0 30 ≤ 1439) ∧ (0 ≤ M 44 0 31 ∧ M 44 0 31 ≤ 1439) ∧ (0 ≤ M 44 0 29 ∧ M 44 0 29 ≤ 127) ∧ (∀ k : Int, 0 ≤ k → k < 8 → 1 ≤ M 64 0 k ∧ M 64 0 k ≤ 120) ∧ ∀ k : Int, 0 ≤ k → k < M 44 0 32 → (0 ≤ M 65 0 k ∧ M 65 0 k < 48) ∧ (0 ≤ M 66 0 k ∧ M 66 0 k ≤ 1439) ∧ (0 ≤ M 46 0 (M 65 0 k) ∧ M 46 0 (M 65 0 k) ≤ 1)
abbrev opn3 (b d : Int) : Prop := and3 (shr3 b (d % 7)) 1 ≠ 0
def mSv (M : M3) (c : Int) (s : Int → Int) : Int := sv3 (M 44 0 32) (M 44 0 31) (M 44 0 30) (mCm M s) (mMn M c s)
/-- what is left of looking at the line -/
def poSee (M : M3) (c d r : Int) (N : M3) : Prop := ∀ s : Int → Int, SgP M s → (r = if opn3 (M 44 0 29) d then mSv M c s else 0) ∧ ∀ i : Int, 0 ≤ i → i < M 44 0 32 → N 67 0 (s i) = if i < r then max (fr3 (M 44 0 30) (mCm M s) (mMn M c s) i) (M 66 0 (s i)) else -1
theorem mNxt_e {M N : M3} (e44 : N 44 = M 44) (e66 : N 66 = M 66) (l : Int) : mNxt N l = mNxt M l := by
  unfold mNxt
  rw [e44]
  have key : ∀ n : Nat, mNxN N l n = mNxN M l n := by
    intro n
    induction n with
    | zero => rfl
    | succ n ih =>
      unfold mNxN
      rw [ih]
      unfold bhd3
      rw [e66]
  exact key _
theorem Sg_u {M : M3} {s t : Int → Int} (h : SgP M s) (h2 : SgP M t) : ∀ i : Int, 0 ≤ i → i < M 44 0 32 → s i = t i := by
  have key : ∀ n : Nat, ∀ i : Int, 0 ≤ i → i < n → i < M 44 0 32 → s i = t i := by
    intro n
    induction n with
    | zero => intro i a b; omega
    | succ n ih =>
      intro i a b c
      by_cases z : i < (n : Int)
      · exact ih i a z c
      · have hn : 0 ≤ M 44 0 32 := by omega
        by_cases y : i = 0
        · have e1 := nxt_0 hn h
          have e2 := nxt_0 hn h2
          rw [e1, sqn, sqn, if_pos (by omega), if_pos (by omega)] at e2
          rw [y]
          exact e2
        · have e0 := ih (i - 1) (by omega) (by omega) (by omega)
          have e1 := nxt_s hn h (i := i - 1) ⟨by omega, by omega⟩
          have e2 := nxt_s hn h2 (i := i - 1) ⟨by omega, by omega⟩
          rw [e0, e2, sqn, sqn, if_pos (by omega), if_pos (by omega), show i - 1 + 1 = i by omega] at e1
          exact e1.symm
  intro i a b
  exact key (i.toNat + 1) i a (by omega) b
theorem lX12_sees2 {E : E3} {Q : Q3} {M0 : M3} {x1 x2 : Int} (hz : okL M0) (hx : (0 ≤ x1 ∧ x1 ≤ 3) ∧ 0 ≤ x2 ∧ x2 ≤ 399) (hs : ∃ s, SgP M0 s) (k : ∀ (r : Int) (N : M3), RM3 N → (∀ q : Nat, q ∉ ([67] : List Nat) → N q = M0 q) → poSee M0 x1 x2 r N → Q (some (vI r)) N) (k2 : ∀ N : M3, RM3 N → opn3 (M0 44 0 29) x2 → (∀ q : Nat, q ∉ ([67] : List Nat) → N q = M0 q) → (∀ z : Int, 0 ≤ z → z < M0 44 0 32 → N 67 0 z = -1) → G3 E YX12_seesOf Q 54 [(0, vR 44 0), (1, vI x1), (3, vI 0), (4, vI (M0 44 0 30)), (5, vI (mNxt M0 (-1)))] [] N) : ∀ (n : Nat) (x3 : Int) (M : M3), 0 ≤ x3 → x3 + n = M0 44 0 32 → (∀ q : Nat, q ∉ ([67] : List Nat) → M q = M0 q) → (∀ z : Int, 0 ≤ z → z < x3 → M 67 0 z = -1) → G3 E YX12_seesOf Q 2 [(0, vR 44 0), (1, vI x1), (2, vI x2), (3, vI x3)] [] M := by
  intro n
  induction n with
  | zero =>
    intro x3 M h1 h2 h3 h4
    refine g3_rm fun hM => ?_
    have hz1 := hz.1
    have e44 : M 44 = M0 44 := h3 44 (by decide)
    have e66 : M 66 = M0 66 := h3 66 (by decide)
    have en : mNxt M (-1) = mNxt M0 (-1) := mNxt_e e44 e66 _
    refine sX12_seesOf_2 ?_
    simp only [e44, en]
    refine ⟨?_, ?_⟩
    · first | omega | (exfalso; omega)
    refine ⟨fun c1 => ?_, fun c1 => ?_⟩
    · refine ⟨?_, ?_⟩
      · first | omega | (exfalso; omega)
      refine ⟨fun c2 => ?_, fun c2 => ?_⟩
      · refine ⟨?_, ?_⟩
        · first | omega | (exfalso; omega)
        first
          | (exfalso; omega)
          | exact k2 M hM (by assumption) h3 (fun z a b => h4 z a (by omega))
      · refine k 0 M hM h3 (fun s hs => ⟨(if_neg (fun z => z (by assumption))).symm, fun i a b => ?_⟩)
        rw [if_neg (by omega)]
        exact h4 _ (hs.1 i a b).1 (by have := (hs.1 i a b).2; omega)
    · refine ⟨?_, ?_⟩
      · first | omega | (exfalso; omega)
      first
        | (exfalso; omega)
        | exact k2 M hM (by assumption) h3 (fun z a b => h4 z a (by omega))
  | succ n ih =>
    intro x3 M h1 h2 h3 h4
    refine g3_rm fun hM => ?_
    have hz1 := hz.1
    have e44 : M 44 = M0 44 := h3 44 (by decide)
    have e66 : M 66 = M0 66 := h3 66 (by decide)
    have en : mNxt M (-1) = mNxt M0 (-1) := mNxt_e e44 e66 _
    refine sX12_seesOf_2 ?_
    simp only [e44, en]
    refine ⟨?_, ?_⟩
    · first | omega | (exfalso; omega)
    refine ⟨fun c1 => ?_, fun c1 => ?_⟩
    · refine ⟨?_, ?_⟩
      · first | omega | (exfalso; omega)
      refine ⟨fun c2 => ?_, fun c2 => ?_⟩
      · refine ⟨?_, ?_⟩
        · first | omega | (exfalso; omega)
        first
          | (exfalso; omega)
          | (refine ih _ _ (by omega) (by omega) (fr_up h3 (by decide)) (fun z a b => ?_)
             by_cases e : z = x3
             · rw [e]; exact up3_eq
             · rw [up3_nj e]
               exact h4 z a (by omega))
      · exfalso; omega
    · refine ⟨?_, ?_⟩
      · first | omega | (exfalso; omega)
      first
        | (exfalso; omega)
        | (refine ih _ _ (by omega) (by omega) (fr_up h3 (by decide)) (fun z a b => ?_)
           by_cases e : z = x3
           · rw [e]; exact up3_eq
           · rw [up3_nj e]
             exact h4 z a (by omega))
theorem lX12_sees54 {E : E3} {Q : Q3} {M0 : M3} {x1 : Int} {x2 : Int} {s : Int → Int} (hz : okL M0) (hx : 0 ≤ x1 ∧ x1 ≤ 3) (hop : opn3 (M0 44 0 29) x2) (hs : SgP M0 s) (k : ∀ (r : Int) (N : M3), RM3 N → (∀ q : Nat, q ∉ ([67] : List Nat) → N q = M0 q) → poSee M0 x1 x2 r N → Q (some (vI r)) N) : ∀ (n : Nat) (x3 x4 x5 : Int) (M : M3), 0 ≤ x3 → x3 + n = M0 44 0 32 → (∀ q : Nat, q ∉ ([67] : List Nat) → M q = M0 q) → x4 = fr3 (M0 44 0 30) (mCm M0 s) (mMn M0 x1 s) x3 → x5 = sqn M0 s x3 → (∀ j : Int, 0 ≤ j → j < x3 → fr3 (M0 44 0 30) (mCm M0 s) (mMn M0 x1 s) (j + 1) ≤ M0 44 0 31) → (∀ j : Int, 0 ≤ j → j < M0 44 0 32 → M 67 0 (s j) = if j < x3 then max (fr3 (M0 44 0 30) (mCm M0 s) (mMn M0 x1 s) j) (M0 66 0 (s j)) else -1) → G3 E YX12_seesOf Q 54 [(0, vR 44 0), (1, vI x1), (3, vI x3), (4, vI x4), (5, vI x5)] [] M := by
  intro n
  induction n with
  | zero =>
    intro x3 x4 x5 M h1 h2 h3 h4 h5 h6 h7
    refine g3_rm fun hM => ?_
    obtain ⟨z1, z2, z3, z4, z5, z6⟩ := hz
    have e44 : M 44 = M0 44 := h3 44 (by decide)
    have e64 : M 64 = M0 64 := h3 64 (by decide)
    have e65 : M 65 = M0 65 := h3 65 (by decide)
    have e66 : M 66 = M0 66 := h3 66 (by decide)
    have e46 : M 46 = M0 46 := h3 46 (by decide)
    have fin : ∀ r : Int, (0 ≤ r ∧ r ≤ M0 44 0 32) → r = x3 → mSv M0 x1 s = x3 → Q (some (vI r)) M := fun r _ er es => by
      rw [er]
      refine k x3 M hM h3 (fun s' hs' => ?_)
      have hss : ∀ i : Int, 0 ≤ i → i < M0 44 0 32 → s' i = s i := Sg_u hs' hs
      have hsv : mSv M0 x1 s' = x3 := by
        rw [← es]
        exact sv3_congr z1.1 fun i a b => by
          show M0 66 0 (s' i) = M0 66 0 (s i) ∧ M0 64 0 (2 * x1 + M0 46 0 (M0 65 0 (s' i))) = M0 64 0 (2 * x1 + M0 46 0 (M0 65 0 (s i)))
          rw [hss i a b]
          exact ⟨rfl, rfl⟩
      refine ⟨by rw [if_pos hop, hsv], fun i a b => ?_⟩
      rw [hss i a b, h7 i a b]
      have ef : fr3 (M0 44 0 30) (mCm M0 s') (mMn M0 x1 s') i = fr3 (M0 44 0 30) (mCm M0 s) (mMn M0 x1 s) i := frN_congr (n := M0 44 0 32) (fun j c d => by
          show M0 66 0 (s' j) = M0 66 0 (s j) ∧ M0 64 0 (2 * x1 + M0 46 0 (M0 65 0 (s' j))) = M0 64 0 (2 * x1 + M0 46 0 (M0 65 0 (s j)))
          rw [hss j c d]
          exact ⟨rfl, rfl⟩) i.toNat (by omega)
      rw [ef]
    have e5 : x5 = -1 := by rw [h5, sqn, if_neg (by omega)]
    refine sX12_seesOf_54 ?_
    simp only [e44, e64, e65, e66, e46]
    refine ⟨?_, ?_⟩
    · first | omega | (rw [up3_nr (by decide), e44]; omega) | (exfalso; omega)
    refine ⟨fun c1 => ?_, fun c1 => ?_⟩
    · first
        | (exfalso; omega)
        | exact fin x3 (by omega) rfl (by
            rw [mSv, sv3, if_pos (ff3_no z1.1 fun j a b => decide_eq_false (by have := h6 j a (by omega); omega))]
            omega)
    · refine ⟨?_, ?_, ?_⟩
      · first | omega | (rw [up3_nr (by decide), e44]; omega) | (exfalso; omega)
      · first | omega | (rw [up3_nr (by decide), e44]; omega) | (exfalso; omega)
      refine ⟨fun c2 => ?_, fun c2 => ?_⟩
      · refine ⟨?_, ?_, ?_, ?_⟩
        · first | omega | (rw [up3_nr (by decide), e44]; omega) | (exfalso; omega)
        · first | omega | (rw [up3_nr (by decide), e44]; omega) | (exfalso; omega)
        · first | omega | (rw [up3_nr (by decide), e44]; omega) | (exfalso; omega)
        refine ⟨fun c3 => ?_, fun c3 => ?_⟩
        · refine ⟨?_, ?_⟩
          · first | omega | (rw [up3_nr (by decide), e44]; omega) | (exfalso; omega)
          exfalso; omega
        · first
            | (exfalso; omega)
            | exact fin x3 (by omega) rfl (by
                rw [mSv, sv3, if_pos (ff3_no z1.1 fun j a b => decide_eq_false (by have := h6 j a (by omega); omega))]
                omega)
      · refine ⟨?_, ?_, ?_, ?_⟩
        · first | omega | (rw [up3_nr (by decide), e44]; omega) | (exfalso; omega)
        · first | omega | (rw [up3_nr (by decide), e44]; omega) | (exfalso; omega)
        · first | omega | (rw [up3_nr (by decide), e44]; omega) | (exfalso; omega)
        refine ⟨fun c3 => ?_, fun c3 => ?_⟩
        · refine ⟨?_, ?_⟩
          · first | omega | (rw [up3_nr (by decide), e44]; omega) | (exfalso; omega)
          exfalso; omega
        · first
            | (exfalso; omega)
            | exact fin x3 (by omega) rfl (by
                rw [mSv, sv3, if_pos (ff3_no z1.1 fun j a b => decide_eq_false (by have := h6 j a (by omega); omega))]
                omega)
  | succ n ih =>
    intro x3 x4 x5 M h1 h2 h3 h4 h5 h6 h7
    refine g3_rm fun hM => ?_
    obtain ⟨z1, z2, z3, z4, z5, z6⟩ := hz
    have e44 : M 44 = M0 44 := h3 44 (by decide)
    have e64 : M 64 = M0 64 := h3 64 (by decide)
    have e65 : M 65 = M0 65 := h3 65 (by decide)
    have e66 : M 66 = M0 66 := h3 66 (by decide)
    have e46 : M 46 = M0 46 := h3 46 (by decide)
    have fin : ∀ r : Int, (0 ≤ r ∧ r ≤ M0 44 0 32) → r = x3 → mSv M0 x1 s = x3 → Q (some (vI r)) M := fun r _ er es => by
      rw [er]
      refine k x3 M hM h3 (fun s' hs' => ?_)
      have hss : ∀ i : Int, 0 ≤ i → i < M0 44 0 32 → s' i = s i := Sg_u hs' hs
      have hsv : mSv M0 x1 s' = x3 := by
        rw [← es]
        exact sv3_congr z1.1 fun i a b => by
          show M0 66 0 (s' i) = M0 66 0 (s i) ∧ M0 64 0 (2 * x1 + M0 46 0 (M0 65 0 (s' i))) = M0 64 0 (2 * x1 + M0 46 0 (M0 65 0 (s i)))
          rw [hss i a b]
          exact ⟨rfl, rfl⟩
      refine ⟨by rw [if_pos hop, hsv], fun i a b => ?_⟩
      rw [hss i a b, h7 i a b]
      have ef : fr3 (M0 44 0 30) (mCm M0 s') (mMn M0 x1 s') i = fr3 (M0 44 0 30) (mCm M0 s) (mMn M0 x1 s) i := frN_congr (n := M0 44 0 32) (fun j c d => by
          show M0 66 0 (s' j) = M0 66 0 (s j) ∧ M0 64 0 (2 * x1 + M0 46 0 (M0 65 0 (s' j))) = M0 64 0 (2 * x1 + M0 46 0 (M0 65 0 (s j)))
          rw [hss j c d]
          exact ⟨rfl, rfl⟩) i.toNat (by omega)
      rw [ef]
    have e5 : x5 = s x3 := by rw [h5, sqn, if_pos (by omega)]
    have s5 := hs.1 x3 h1 (by omega)
    obtain ⟨w1, w2, w3⟩ := z6 (s x3) s5.1 s5.2
    have hfr := fr3_rg (B := 0) (op := M0 44 0 30) (cm := mCm M0 s) (mn := mMn M0 x1 s) (n := M0 44 0 32) z2 (fun i a b => (z6 (s i) (hs.1 i a b).1 (hs.1 i a b).2).2.1) (fun i a b => z5 _ (by have := (z6 (s i) (hs.1 i a b).1 (hs.1 i a b).2).2.2; omega) (by have := (z6 (s i) (hs.1 i a b).1 (hs.1 i a b).2).2.2; omega)) x3.toNat (by omega)
    have hfs := fr3_s (op := M0 44 0 30) (cm := mCm M0 s) (mn := mMn M0 x1 s) h1
    have hmn := z5 (2 * x1 + M0 46 0 (M0 65 0 (s x3))) (by omega) (by omega)
    have hfs2 : fr3 (M0 44 0 30) (mCm M0 s) (mMn M0 x1 s) (x3 + 1) = max x4 (M0 66 0 (s x3)) + M0 64 0 (2 * x1 + M0 46 0 (M0 65 0 (s x3))) := by rw [hfs, h4]
    have h4b : x4 = frN (M0 44 0 30) (mCm M0 s) (mMn M0 x1 s) x3.toNat := h4
    have inj : ∀ j : Int, 0 ≤ j → j < M0 44 0 32 → j ≠ x3 → s j ≠ s x3 := fun j a b c d => by
      by_cases q : j < x3
      · have := hs.2.1 j x3 a q (by omega)
        unfold lt3 at this
        rw [d] at this
        omega
      · have := hs.2.1 x3 j h1 (by omega) b
        unfold lt3 at this
        rw [d] at this
        omega
    rw [e5]
    have enx : ∀ v : Int, mNxt (up3 M 67 0 (s x3) v) (s x3) = sqn M0 s (x3 + 1) := fun v => (mNxt_e ((up3_r (by decide)).trans e44) ((up3_r (by decide)).trans e66) _).trans (nxt_s z1.1 hs ⟨h1, by omega⟩)
    refine sX12_seesOf_54 ?_
    simp only [e44, e64, e65, e66, e46]
    refine ⟨?_, ?_⟩
    · first | omega | (rw [up3_nr (by decide), e44]; omega) | (exfalso; omega)
    refine ⟨fun c1 => ?_, fun c1 => ?_⟩
    · first
        | (exfalso; omega)
        | exact fin x3 (by omega) rfl (by
            have e : ff3 (M0 44 0 32) (fun i => decide (M0 44 0 31 < fr3 (M0 44 0 30) (mCm M0 s) (mMn M0 x1 s) (i + 1))) = x3 := ff3_is ⟨h1, by omega⟩ (decide_eq_true (by rw [hfs2]; omega)) fun j a b => decide_eq_false (by have := h6 j a b; omega)
            rw [mSv, sv3, e, if_neg (by omega)])
    · refine ⟨?_, ?_, ?_⟩
      · first | omega | (rw [up3_nr (by decide), e44]; omega) | (exfalso; omega)
      · first | omega | (rw [up3_nr (by decide), e44]; omega) | (exfalso; omega)
      refine ⟨fun c2 => ?_, fun c2 => ?_⟩
      · refine ⟨?_, ?_, ?_, ?_⟩
        · first | omega | (rw [up3_nr (by decide), e44]; omega) | (exfalso; omega)
        · first | omega | (rw [up3_nr (by decide), e44]; omega) | (exfalso; omega)
        · first | omega | (rw [up3_nr (by decide), e44]; omega) | (exfalso; omega)
        refine ⟨fun c3 => ?_, fun c3 => ?_⟩
        · refine ⟨?_, ?_⟩
          · first | omega | (rw [up3_nr (by decide), e44]; omega) | (exfalso; omega)
          first
            | (exfalso; omega)
            | (rw [enx]
               refine ih _ _ _ _ (by omega) (by omega) (fr_up h3 (by decide)) (by rw [hfs2]; omega) rfl (fun j a b => ?_) (fun j a b => ?_)
               · by_cases e : j = x3
                 · rw [e, hfs2]; omega
                 · exact h6 j a (by omega)
               · by_cases e : j = x3
                 · rw [e, up3_eq, if_pos (by omega), ← h4]
                   omega
                 · rw [up3_nj (inj j a b e), h7 j a b]
                   by_cases q : j < x3
                   · rw [if_pos q, if_pos (by omega)]
                   · rw [if_neg q, if_neg (by omega)])
        · first
            | (exfalso; omega)
            | exact fin x3 (by omega) rfl (by
                have e : ff3 (M0 44 0 32) (fun i => decide (M0 44 0 31 < fr3 (M0 44 0 30) (mCm M0 s) (mMn M0 x1 s) (i + 1))) = x3 := ff3_is ⟨h1, by omega⟩ (decide_eq_true (by rw [hfs2]; omega)) fun j a b => decide_eq_false (by have := h6 j a b; omega)
                rw [mSv, sv3, e, if_neg (by omega)])
      · refine ⟨?_, ?_, ?_, ?_⟩
        · first | omega | (rw [up3_nr (by decide), e44]; omega) | (exfalso; omega)
        · first | omega | (rw [up3_nr (by decide), e44]; omega) | (exfalso; omega)
        · first | omega | (rw [up3_nr (by decide), e44]; omega) | (exfalso; omega)
        refine ⟨fun c3 => ?_, fun c3 => ?_⟩
        · refine ⟨?_, ?_⟩
          · first | omega | (rw [up3_nr (by decide), e44]; omega) | (exfalso; omega)
          first
            | (exfalso; omega)
            | (rw [enx]
               refine ih _ _ _ _ (by omega) (by omega) (fr_up h3 (by decide)) (by rw [hfs2]; omega) rfl (fun j a b => ?_) (fun j a b => ?_)
               · by_cases e : j = x3
                 · rw [e, hfs2]; omega
                 · exact h6 j a (by omega)
               · by_cases e : j = x3
                 · rw [e, up3_eq, if_pos (by omega), ← h4]
                   omega
                 · rw [up3_nj (inj j a b e), h7 j a b]
                   by_cases q : j < x3
                   · rw [if_pos q, if_pos (by omega)]
                   · rw [if_neg q, if_neg (by omega)])
        · first
            | (exfalso; omega)
            | exact fin x3 (by omega) rfl (by
                have e : ff3 (M0 44 0 32) (fun i => decide (M0 44 0 31 < fr3 (M0 44 0 30) (mCm M0 s) (mMn M0 x1 s) (i + 1))) = x3 := ff3_is ⟨h1, by omega⟩ (decide_eq_true (by rw [hfs2]; omega)) fun j a b => decide_eq_false (by have := h6 j a b; omega)
                rw [mSv, sv3, e, if_neg (by omega)])
theorem kX12_seesOf {E : E3} {Q : Q3} {M : M3} {x1 x2 : Int} (h : okL M ∧ (∃ s, SgP M s) ∧ (0 ≤ x1 ∧ x1 ≤ 3) ∧ 0 ≤ x2 ∧ x2 ≤ 399) (k : ∀ (r : Int) (N : M3), RM3 N → (∀ q : Nat, q ∉ ([67] : List Nat) → N q = M q) → poSee M x1 x2 r N → Q (some (vI r)) N) : C3 E YX12_seesOf [vR 44 0, vI x1, vI x2] M Q := by
  refine c3_rm fun hM => ?_
  obtain ⟨h1, ⟨s, hs⟩, h3, h4⟩ := h
  have z1 := h1.1
  refine sX12_seesOf (lX12_sees2 h1 ⟨h3, h4⟩ ⟨s, hs⟩ k (fun N hN hop hf hm => ?_) (M 44 0 32).toNat 0 M (by omega) (by omega) fr_rf (fun z a b => by omega))
  rw [nxt_0 z1.1 hs]
  exact lX12_sees54 h1 h3 hop hs k (M 44 0 32).toNat 0 _ _ N (by omega) (by omega) hf rfl rfl (fun j a b => by omega) (fun j a b => by rw [if_neg (by omega)]; exact hm _ (hs.1 j a b).1 (hs.1 j a b).2)
