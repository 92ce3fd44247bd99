/-! CLASS: the county -/
theorem IB.cty {M : M3} (h : IB M) : 0 ≤ M 10 0 0 ∧ M 10 0 0 ≤ 48 := by rw [h.2.2.1.1]; exact h.2.2.1.2.1
theorem kX0_winner {E : E3} {Q : Q3} {M : M3} {x1 : Int} (h : IB M ∧ 0 ≤ x1 ∧ x1 ≤ 5) (k : Q (some (vI (mChs M x1))) M) : C3 E YX0_winner [vR 10 0, vI x1] M Q := by
  obtain ⟨hI, hx⟩ := h
  have h1 := hI.2.2.1.2.1
  have hc := hI.cty
  have r1 := mRoll_rg h1 x1 0 1
  have r2 := mRoll_rg h1 x1 1 1
  refine sX0_winner ?_
  rw [hI.tly (by omega), hI.tly (by omega)]
  unfold mChs at k
  refine ⟨?_, ?_, ?_, ?_⟩
  · omega
  · omega
  · omega
  refine ⟨fun c1 => ?_, fun c1 => ?_⟩
  · refine ⟨fun c2 => ?_, fun c2 => ?_⟩
    · repeat (first | rw [if_pos (by first | omega | assumption)] at k | rw [if_neg (by first | omega | assumption)] at k)
      exact k
    · repeat (first | rw [if_pos (by first | omega | assumption)] at k | rw [if_neg (by first | omega | assumption)] at k)
      exact k
  · repeat (first | rw [if_pos (by first | omega | assumption)] at k | rw [if_neg (by first | omega | assumption)] at k)
    exact k
theorem kX0_namesFor {E : E3} {Q : Q3} {M : M3} {x1 x2 : Int} (h : IB M ∧ (0 ≤ x1 ∧ x1 ≤ 5) ∧ (0 ≤ x2 ∧ x2 ≤ 1)) (k : Q (some (vI (mWnt M x1 x2))) M) : C3 E YX0_namesFor [vR 10 0, vI x1, vI x2] M Q := by
  obtain ⟨hI, hx, hy⟩ := h
  have h1 := hI.2.2.1.2.1
  have hc := hI.cty
  have r1 := mRoll_rg h1 x1 (1 - x2) 1
  have r2 := mRoll_rg h1 x1 x2 1
  have r3 := mRoll_rg h1 x1 x2 0
  have r4 := mRoll_rg h1 x1 x2 2
  have t1 : fTally M x1 (1 - x2) 1 = mRoll M x1 (1 - x2) 1 := hI.tly (by omega)
  have t2 : fTally M x1 x2 1 = mRoll M x1 x2 1 := hI.tly (by omega)
  have t3 : fTally M x1 x2 0 = mRoll M x1 x2 0 := hI.tly (by omega)
  have t4 : fTally M x1 x2 2 = mRoll M x1 x2 2 := hI.tly (by omega)
  refine sX0_namesFor ?_
  simp only [t1, t2, t3, t4]
  unfold mWnt at k
  refine ⟨?_, ?_, ?_, ?_⟩
  · omega
  · omega
  · omega
  refine ⟨fun c1 => ?_, fun c1 => ?_⟩
  · refine ⟨?_, ?_, ?_, ?_⟩
    · omega
    · omega
    · omega
    refine ⟨fun c2 => ?_, fun c2 => ?_⟩
    · first
      | (rw [if_neg (by omega)] at k; exact k)
      | (rw [if_pos (by omega), show max 0 (mRoll M x1 (1 - x2) 1 - mRoll M x1 x2 1 + 1) = 0 by omega] at k; exact k)
      | (rw [if_pos (by omega), show max 0 (mRoll M x1 (1 - x2) 1 - mRoll M x1 x2 1 + 1) = mRoll M x1 (1 - x2) 1 - mRoll M x1 x2 1 + 1 by omega] at k; exact k)
    · first
      | (rw [if_neg (by omega)] at k; exact k)
      | (rw [if_pos (by omega), show max 0 (mRoll M x1 (1 - x2) 1 - mRoll M x1 x2 1 + 1) = 0 by omega] at k; exact k)
      | (rw [if_pos (by omega), show max 0 (mRoll M x1 (1 - x2) 1 - mRoll M x1 x2 1 + 1) = mRoll M x1 (1 - x2) 1 - mRoll M x1 x2 1 + 1 by omega] at k; exact k)
  · first
    | (rw [if_neg (by omega)] at k; exact k)
    | (rw [if_pos (by omega), show max 0 (mRoll M x1 (1 - x2) 1 - mRoll M x1 x2 1 + 1) = 0 by omega] at k; exact k)
    | (rw [if_pos (by omega), show max 0 (mRoll M x1 (1 - x2) 1 - mRoll M x1 x2 1 + 1) = mRoll M x1 (1 - x2) 1 - mRoll M x1 x2 1 + 1 by omega] at k; exact k)
def preKo (M : M3) (x1 x2 : Int) : Prop := (0 ≤ x2 ∧ x2 < 6) ∧ (-2147483648 ≤ x1 ∧ x1 ≤ 2147483647) ∧ ∀ i j : Int, 0 ≤ i → i < j → j < x2 → M 12 0 i ≤ M 12 0 j
def poKo (M : M3) (x1 x2 : Int) (N : M3) : Prop := (∀ i j : Int, 0 ≤ i → i < j → j ≤ x2 → N 12 0 i ≤ N 12 0 j) ∧ ∀ v : Int, cn3 (x2 + 1) (fun i => decide (N 12 0 i ≤ v)) = cn3 x2 (fun i => decide (M 12 0 i ≤ v)) + (if x1 ≤ v then 1 else 0)
theorem ins_cn {f g : Int → Int} {z x v : Int} (hz : 0 ≤ z) (h0 : ∀ i : Int, 0 ≤ i → i < z → g i = f i) (h1 : g z = x) : ∀ m : Nat, (∀ i : Int, z < i → i ≤ z + m → g i = f (i - 1)) → cn3 (z + m + 1) (fun i => decide (g i ≤ v)) = cn3 (z + m) (fun i => decide (f i ≤ v)) + (if x ≤ v then 1 else 0)
  | 0, _ => by
    rw [show z + ((0 : Nat) : Int) = z by omega, cn3_s hz, h1]
    have e : cn3 z (fun i => decide (g i ≤ v)) = cn3 z (fun i => decide (f i ≤ v)) := cn3_congr fun i a b => by rw [h0 i a b]
    rw [e]
    congr 1
    by_cases q : x ≤ v
    · rw [if_pos q, if_pos (decide_eq_true q)]
    · rw [if_neg q, if_neg fun z => q (of_decide_eq_true z)]
  | m + 1, h2 => by
    have ih := ins_cn (v := v) hz h0 h1 m fun i a b => h2 i a (by omega)
    have e : g (z + m + 1) = f (z + m) := by
      have := h2 (z + m + 1) (by omega) (by omega)
      rw [show z + (m : Int) + 1 - 1 = z + m by omega] at this
      exact this
    rw [show z + ((m + 1 : Nat) : Int) = z + m + 1 by omega, cn3_s (show 0 ≤ z + (m : Int) + 1 by omega), ih, cn3_s (show 0 ≤ z + (m : Int) by omega), e]
    omega
theorem lX0_ko {E : E3} {Q : Q3} {M0 : M3} {x1 : Int} {x2 : Int} (hz : preKo M0 x1 x2) (k : ∀ (N : M3), RM3 N → (∀ q : Nat, q ∉ ([12] : List Nat) → N q = M0 q) → poKo M0 x1 x2 N → Q none N) : ∀ (n : Nat) (x3 : Int) (M : M3), 0 ≤ x3 → x3 = n → (∀ q : Nat, q ∉ ([12] : List Nat) → M q = M0 q) → x3 ≤ x2 → (∀ i : Int, x3 ≤ i → i < x2 → x1 < M0 12 0 i) → (∀ i : Int, 0 ≤ i → i ≤ x2 → M 12 0 i = if i ≤ x3 then M0 12 0 i else M0 12 0 (i - 1)) → G3 E YX0_keepInOrder Q 2 [(0, vR 10 0), (1, vI x1), (3, vI x3)] [] M := by
  intro n
  induction n with
  | zero =>
    intro x3 M h1 h2 h3 h4 h5 h6
    refine g3_rm fun hM => ?_
    obtain ⟨z1, z2, z3⟩ := hz
    have fin : (x3 ≤ 0 ∨ M0 12 0 (x3 - 1) ≤ x1) → Q none (up3 M 12 0 x3 x1) := fun hst => by
      have le : ∀ i : Int, 0 ≤ i → i < x3 → M0 12 0 i ≤ x1 := fun i a b => by
        rcases hst with hst | hst
        · omega
        · by_cases e : i = x3 - 1
          · rw [e]; exact hst
          · have := z3 i (x3 - 1) a (by omega) (by omega)
            omega
      have val : ∀ i : Int, 0 ≤ i → i ≤ x2 → up3 M 12 0 x3 x1 12 0 i = if i < x3 then M0 12 0 i else if i = x3 then x1 else M0 12 0 (i - 1) := fun i a b => by
        by_cases e : i = x3
        · rw [e, up3_eq, if_neg (by omega), if_pos rfl]
        · rw [up3_nj e, h6 i a b]
          by_cases q : i < x3
          · rw [if_pos (show i ≤ x3 by omega), if_pos q]
          · rw [if_neg (show ¬ i ≤ x3 by omega), if_neg q, if_neg e]
      refine k _ (hM.up z2) (fr_up h3 (by decide)) ⟨fun i j a b c => ?_, fun v => ?_⟩
      · rw [val i a (by omega), val j (by omega) c]
        by_cases q1 : i < x3
        · rw [if_pos q1]
          by_cases q2 : j < x3
          · rw [if_pos q2]; exact z3 i j a b (by omega)
          · rw [if_neg q2]
            by_cases q3 : j = x3
            · rw [if_pos q3]; exact le i a q1
            · rw [if_neg q3]
              have := le i a q1
              have := h5 (j - 1) (by omega) (by omega)
              omega
        · rw [if_neg q1, if_neg (show ¬ j < x3 by omega), if_neg (show ¬ j = x3 by omega)]
          by_cases q3 : i = x3
          · rw [if_pos q3]
            have := h5 (j - 1) (by omega) (by omega)
            omega
          · rw [if_neg q3]
            by_cases q4 : i - 1 = j - 1
            · omega
            · exact z3 _ _ (by omega) (by omega) (by omega)
      · have h := ins_cn (f := fun i => M0 12 0 i) (g := fun i => up3 M 12 0 x3 x1 12 0 i) (z := x3) (x := x1) (v := v) h1 (fun i a b => by show up3 M 12 0 x3 x1 12 0 i = _; rw [val i a (by omega), if_pos b]) (by show up3 M 12 0 x3 x1 12 0 x3 = _; exact up3_eq) (x2 - x3).toNat (fun i a b => by show up3 M 12 0 x3 x1 12 0 i = _; rw [val i (by omega) (by omega), if_neg (by omega), if_neg (by omega)])
        rw [show x3 + (((x2 - x3).toNat : Nat) : Int) = x2 by omega] at h
        exact h
    refine sX0_keepInOrder_2 ?_
    refine ⟨?_, ?_⟩
    · first | omega | (exfalso; omega)
    refine ⟨fun c1 => ?_, fun c1 => ?_⟩
    · refine ⟨?_, ?_, ?_⟩
      · first | omega | (exfalso; omega)
      · first | omega | (exfalso; omega)
      first | (exfalso; omega) | exact fin (Or.inl (by omega))
    · refine ⟨?_, ?_, ?_⟩
      · first | omega | (exfalso; omega)
      · first | omega | (exfalso; omega)
      refine ⟨fun c2 => ?_, fun c2 => ?_⟩
      · refine ⟨?_, ?_⟩
        · first | omega | (exfalso; omega)
        first | (exfalso; omega) | exact fin (Or.inl (by omega))
      · refine ⟨?_, ?_⟩
        · first | omega | (exfalso; omega)
        exfalso; omega
  | succ n ih =>
    intro x3 M h1 h2 h3 h4 h5 h6
    refine g3_rm fun hM => ?_
    obtain ⟨z1, z2, z3⟩ := hz
    have fin : (x3 ≤ 0 ∨ M0 12 0 (x3 - 1) ≤ x1) → Q none (up3 M 12 0 x3 x1) := fun hst => by
      have le : ∀ i : Int, 0 ≤ i → i < x3 → M0 12 0 i ≤ x1 := fun i a b => by
        rcases hst with hst | hst
        · omega
        · by_cases e : i = x3 - 1
          · rw [e]; exact hst
          · have := z3 i (x3 - 1) a (by omega) (by omega)
            omega
      have val : ∀ i : Int, 0 ≤ i → i ≤ x2 → up3 M 12 0 x3 x1 12 0 i = if i < x3 then M0 12 0 i else if i = x3 then x1 else M0 12 0 (i - 1) := fun i a b => by
        by_cases e : i = x3
        · rw [e, up3_eq, if_neg (by omega), if_pos rfl]
        · rw [up3_nj e, h6 i a b]
          by_cases q : i < x3
          · rw [if_pos (show i ≤ x3 by omega), if_pos q]
          · rw [if_neg (show ¬ i ≤ x3 by omega), if_neg q, if_neg e]
      refine k _ (hM.up z2) (fr_up h3 (by decide)) ⟨fun i j a b c => ?_, fun v => ?_⟩
      · rw [val i a (by omega), val j (by omega) c]
        by_cases q1 : i < x3
        · rw [if_pos q1]
          by_cases q2 : j < x3
          · rw [if_pos q2]; exact z3 i j a b (by omega)
          · rw [if_neg q2]
            by_cases q3 : j = x3
            · rw [if_pos q3]; exact le i a q1
            · rw [if_neg q3]
              have := le i a q1
              have := h5 (j - 1) (by omega) (by omega)
              omega
        · rw [if_neg q1, if_neg (show ¬ j < x3 by omega), if_neg (show ¬ j = x3 by omega)]
          by_cases q3 : i = x3
          · rw [if_pos q3]
            have := h5 (j - 1) (by omega) (by omega)
            omega
          · rw [if_neg q3]
            by_cases q4 : i - 1 = j - 1
            · omega
            · exact z3 _ _ (by omega) (by omega) (by omega)
      · have h := ins_cn (f := fun i => M0 12 0 i) (g := fun i => up3 M 12 0 x3 x1 12 0 i) (z := x3) (x := x1) (v := v) h1 (fun i a b => by show up3 M 12 0 x3 x1 12 0 i = _; rw [val i a (by omega), if_pos b]) (by show up3 M 12 0 x3 x1 12 0 x3 = _; exact up3_eq) (x2 - x3).toNat (fun i a b => by show up3 M 12 0 x3 x1 12 0 i = _; rw [val i (by omega) (by omega), if_neg (by omega), if_neg (by omega)])
        rw [show x3 + (((x2 - x3).toNat : Nat) : Int) = x2 by omega] at h
        exact h
    have v1 : M 12 0 (x3 - 1) = M0 12 0 (x3 - 1) := by rw [h6 _ (by omega) (by omega), if_pos (by omega)]
    refine sX0_keepInOrder_2 ?_
    rw [v1]
    refine ⟨?_, ?_⟩
    · first | omega | (exfalso; omega)
    refine ⟨fun c1 => ?_, fun c1 => ?_⟩
    · refine ⟨?_, ?_, ?_⟩
      · first | omega | (exfalso; omega)
      · first | omega | (exfalso; omega)
      first | (exfalso; omega) | exact fin (Or.inr (by assumption))
    · refine ⟨?_, ?_, ?_⟩
      · first | omega | (exfalso; omega)
      · first | omega | (exfalso; omega)
      refine ⟨fun c2 => ?_, fun c2 => ?_⟩
      · refine ⟨?_, ?_⟩
        · first | omega | (exfalso; omega)
        first | (exfalso; omega) | exact fin (Or.inr (by assumption))
      · refine ⟨?_, ?_⟩
        · first | omega | (exfalso; omega)
        first
          | (exfalso; omega)
          | (rw [show x3 + -1 = x3 - 1 by omega]
             refine ih _ _ (by omega) (by omega) (fr_up h3 (by decide)) (by omega) (fun i a b => ?_) (fun i a b => ?_)
             · by_cases e : i = x3 - 1
               · rw [e]; assumption
               · exact h5 i (by omega) b
             · by_cases e : i = x3
               · rw [e, up3_eq, if_neg (by omega)]
               · rw [up3_nj e, h6 i a b]
                 by_cases q : i ≤ x3 - 1
                 · rw [if_pos q, if_pos (by omega)]
                 · rw [if_neg q, if_neg (by omega)])
theorem kX0_keepInOrder {E : E3} {Q : Q3} {M : M3} {x1 x2 : Int} (h : preKo M x1 x2) (k : ∀ (N : M3), RM3 N → (∀ q : Nat, q ∉ ([12] : List Nat) → N q = M q) → poKo M x1 x2 N → Q none N) : C3 E YX0_keepInOrder [vR 10 0, vI x1, vI x2] M Q := by
  have hz := h.1
  exact sX0_keepInOrder (lX0_ko h k x2.toNat x2 M (by omega) (by omega) fr_rf (by omega) (fun i a b => by omega) (fun i a b => by rw [if_pos (by omega)]))
def poRn (M : M3) (i0 x1 x2 : Int) (N : M3) : Prop := (∀ i j : Int, N 42 i j = if i = i0 ∧ j = 0 then x1 else if i = i0 ∧ j = 1 then x2 else M 42 i j) ∧ (∀ j : Int, 0 ≤ j → j < 40 → N 43 i0 j = 0) ∧ ∀ i j : Int, i ≠ i0 → N 43 i j = M 43 i j
theorem lX9_renew {E : E3} {Q : Q3} {M0 : M3} {i0 : Int} (hz : 0 ≤ i0 ∧ i0 < 4) (k : ∀ (N : M3), RM3 N → (∀ q : Nat, q ∉ ([43] : List Nat) → N q = M0 q) → (∀ j : Int, 0 ≤ j → j < 40 → N 43 i0 j = 0) → (∀ i j : Int, i ≠ i0 → N 43 i j = M0 43 i j) → Q none N) : ∀ (n : Nat) (x3 : Int) (M : M3), 0 ≤ x3 → x3 + n = 40 → (∀ q : Nat, q ∉ ([43] : List Nat) → M q = M0 q) → (∀ j : Int, 0 ≤ j → j < x3 → M 43 i0 j = 0) → (∀ i j : Int, i ≠ i0 → M 43 i j = M0 43 i j) → G3 E YX9_renew Q 12 [(0, vR 42 i0), (3, vI x3)] [] M := by
  intro n
  induction n with
  | zero =>
    intro x3 M h1 h2 h3 h4 h5
    refine g3_rm fun hM => ?_
    refine sX9_renew_12 ?_
    refine ⟨?_, ?_⟩
    · first | omega | (exfalso; omega)
    refine ⟨fun c1 => ?_, fun c1 => ?_⟩
    · first | (exfalso; omega) | exact k M hM h3 (fun j a b => h4 j a (by omega)) h5
    · refine ⟨?_, ?_, ?_⟩
      · first | omega | (exfalso; omega)
      · first | omega | (exfalso; omega)
      exfalso; omega
  | succ n ih =>
    intro x3 M h1 h2 h3 h4 h5
    refine g3_rm fun hM => ?_
    refine sX9_renew_12 ?_
    refine ⟨?_, ?_⟩
    · first | omega | (exfalso; omega)
    refine ⟨fun c1 => ?_, fun c1 => ?_⟩
    · exfalso; omega
    · refine ⟨?_, ?_, ?_⟩
      · first | omega | (exfalso; omega)
      · first | omega | (exfalso; omega)
      first
        | (exfalso; omega)
        | (refine ih _ _ (by omega) (by omega) (fr_up h3 (by decide)) (fun j a b => ?_) (fun i j a => by rw [up3_ni a]; exact h5 i j a)
           by_cases e : j = x3
           · rw [e, up3_eq]
           · rw [up3_nj e]; exact h4 j a (by omega))
theorem kX9_renew {E : E3} {Q : Q3} {M : M3} {i0 x1 x2 : Int} (h : (0 ≤ i0 ∧ i0 < 4) ∧ (-2147483648 ≤ x1 ∧ x1 ≤ 2147483647) ∧ (-2147483648 ≤ x2 ∧ x2 ≤ 2147483647)) (k : ∀ (N : M3), RM3 N → (∀ q : Nat, q ∉ ([42, 43] : List Nat) → N q = M q) → poRn M i0 x1 x2 N → Q none N) : C3 E YX9_renew [vR 42 i0, vI x1, vI x2] M Q := by
  obtain ⟨h1, h2, h3⟩ := h
  refine sX9_renew ⟨h1, h2, h3, lX9_renew (M0 := up3 (up3 M 42 i0 0 x1) 42 i0 1 x2) h1 (fun N a b c d => k N a (fun q hq => (b q fun z => hq (by rw [List.mem_singleton.mp z]; decide)).trans (fr_up (fr_up (fr_rf (L := [42, 43])) (by decide)) (by decide) q hq)) ⟨fun i j => ?_, c, fun i j hi => by rw [d i j hi, up3_nr (by decide), up3_nr (by decide)]⟩) 40 0 _ (by omega) (by omega) fr_rf (fun j a b => by omega) (fun i j _ => rfl)⟩
  rw [b 42 (by decide)]
  by_cases p : i = i0 ∧ j = 1
  · rw [p.1, p.2, up3_eq, if_neg (by omega), if_pos ⟨rfl, rfl⟩]
  · by_cases q : i = i0 ∧ j = 0
    · rw [q.1, q.2, up3_nj (by decide), up3_eq, if_pos ⟨rfl, rfl⟩]
    · rw [if_neg q, if_neg p]
      by_cases e : i = i0
      · rw [up3_nj (fun z => p ⟨e, z⟩), up3_nj (fun z => q ⟨e, z⟩)]
      · rw [up3_ni e, up3_ni e]
