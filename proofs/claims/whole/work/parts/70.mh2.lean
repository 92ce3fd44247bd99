/-! MODEL: votes, places, lessons -/
theorem mRoll_rg {M : M3} (h : 0 ≤ M 44 0 1 ∧ M 44 0 1 ≤ 48) (a b c : Int) : 0 ≤ mRoll M a b c ∧ mRoll M a b c ≤ 48 := by
  have := cn3_rg h.1 (fun p => decide (M 50 0 p = c ∧ (a = -1 ∨ M 45 0 p = a) ∧ (b = -1 ∨ M 46 0 p = b)))
  unfold mRoll
  omega
def mWnt (M : M3) (b s : Int) : Int := if max 0 (mRoll M b (1 - s) 1 - mRoll M b s 1 + 1) ≤ mRoll M b s 0 + mRoll M b s 2 then max 0 (mRoll M b (1 - s) 1 - mRoll M b s 1 + 1) else -1
theorem kX12_wants {E : E3} {Q : Q3} {M : M3} {x1 x2 : Int} (h : (0 ≤ M 44 0 1 ∧ M 44 0 1 ≤ 48) ∧ (0 ≤ x1 ∧ x1 ≤ 5) ∧ (0 ≤ x2 ∧ x2 ≤ 1)) (k : Q (some (vI (mWnt M x1 x2))) M) : C3 E YX12_wants [vR 44 0, vI x1, vI x2] M Q := by
  obtain ⟨h1, h2, h3⟩ := h
  have r1 := mRoll_rg h1 x1 (1 - x2) 1
  have r2 := mRoll_rg h1 x1 x2 1
  have r3 := mRoll_rg h1 x1 x2 0
  have r4 := mRoll_rg h1 x1 x2 2
  unfold mWnt at k
  refine sX12_wants ?_
  refine ⟨?_, ?_, ?_, ?_⟩
  · omega
  · omega
  · omega
  refine ⟨fun c1 => ?_, fun c1 => ?_⟩
  · refine ⟨?_, ?_, ?_, ?_⟩
    · omega
    · omega
    · omega
    refine ⟨fun c2 => ?_, fun c2 => ?_⟩
    · first
      | (rw [if_neg (by omega)] at k; exact k)
      | (rw [if_pos (by omega), show max 0 (mRoll M x1 (1 - x2) 1 - mRoll M x1 x2 1 + 1) = 0 by omega] at k; exact k)
      | (rw [if_pos (by omega), show max 0 (mRoll M x1 (1 - x2) 1 - mRoll M x1 x2 1 + 1) = mRoll M x1 (1 - x2) 1 - mRoll M x1 x2 1 + 1 by omega] at k; exact k)
    · first
      | (rw [if_neg (by omega)] at k; exact k)
      | (rw [if_pos (by omega), show max 0 (mRoll M x1 (1 - x2) 1 - mRoll M x1 x2 1 + 1) = 0 by omega] at k; exact k)
      | (rw [if_pos (by omega), show max 0 (mRoll M x1 (1 - x2) 1 - mRoll M x1 x2 1 + 1) = mRoll M x1 (1 - x2) 1 - mRoll M x1 x2 1 + 1 by omega] at k; exact k)
  · refine ⟨?_, ?_, ?_, ?_⟩
    · omega
    · omega
    · omega
    refine ⟨fun c2 => ?_, fun c2 => ?_⟩
    · first
      | (rw [if_neg (by omega)] at k; exact k)
      | (rw [if_pos (by omega), show max 0 (mRoll M x1 (1 - x2) 1 - mRoll M x1 x2 1 + 1) = 0 by omega] at k; exact k)
      | (rw [if_pos (by omega), show max 0 (mRoll M x1 (1 - x2) 1 - mRoll M x1 x2 1 + 1) = mRoll M x1 (1 - x2) 1 - mRoll M x1 x2 1 + 1 by omega] at k; exact k)
    · first
      | (rw [if_neg (by omega)] at k; exact k)
      | (rw [if_pos (by omega), show max 0 (mRoll M x1 (1 - x2) 1 - mRoll M x1 x2 1 + 1) = 0 by omega] at k; exact k)
      | (rw [if_pos (by omega), show max 0 (mRoll M x1 (1 - x2) 1 - mRoll M x1 x2 1 + 1) = mRoll M x1 (1 - x2) 1 - mRoll M x1 x2 1 + 1 by omega] at k; exact k)
def mChs (M : M3) (b : Int) : Int := if mRoll M b 1 1 < mRoll M b 0 1 then 0 else if mRoll M b 0 1 < mRoll M b 1 1 then 1 else -1
theorem kX12_chosenIn {E : E3} {Q : Q3} {M : M3} {x1 : Int} (h : (0 ≤ M 44 0 1 ∧ M 44 0 1 ≤ 48) ∧ (0 ≤ x1 ∧ x1 ≤ 5)) (k : Q (some (vI (mChs M x1))) M) : C3 E YX12_chosenIn [vR 44 0, vI x1] M Q := by
  obtain ⟨h1, h2⟩ := h
  have r1 := mRoll_rg h1 x1 0 1
  have r2 := mRoll_rg h1 x1 1 1
  unfold mChs at k
  refine sX12_chosenIn ?_
  refine ⟨?_, ?_, ?_, ?_, ?_⟩
  · omega
  · omega
  · omega
  · omega
  refine ⟨fun c1 => ?_, fun c1 => ?_⟩
  · refine ⟨fun c2 => ?_, fun c2 => ?_⟩
    · (repeat (first | rw [if_pos (by first | omega | assumption)] at k | rw [if_neg (by first | omega | assumption)] at k)
       exact k)
    · (repeat (first | rw [if_pos (by first | omega | assumption)] at k | rw [if_neg (by first | omega | assumption)] at k)
       exact k)
  · (repeat (first | rw [if_pos (by first | omega | assumption)] at k | rw [if_neg (by first | omega | assumption)] at k)
     exact k)
def mPlc (M : M3) (x1 : Int) : Int := ff3 (M 44 0 32) fun k => decide (M 65 0 k = x1)
theorem lX12_placeOf {E : E3} {Q : Q3} {M : M3} {x1 : Int} (hz : 0 ≤ M 44 0 32 ∧ M 44 0 32 ≤ 24) (hx : -2147483648 ≤ x1 ∧ x1 ≤ 2147483647) (k : Q (some (vI (mPlc M x1))) M) : ∀ (n : Nat) (x2 : Int), 0 ≤ x2 → x2 + n = M 44 0 32 → (∀ z : Int, 0 ≤ z → z < x2 → M 65 0 z ≠ x1) → G3 E YX12_placeOf Q 2 [(0, vR 44 0), (1, vI x1), (2, vI x2)] [] M := by
  intro n
  induction n with
  | zero =>
    intro x2 h1 h2 h3
    refine g3_rm fun hM => ?_
    refine sX12_placeOf_2 ?_
    refine ⟨?_, ?_⟩
    · first | omega | (exfalso; omega)
    refine ⟨fun c1 => ?_, fun c1 => ?_⟩
    · first | (exfalso; omega) | (rw [mPlc, ff3_no (by omega) (fun z a b => decide_eq_false (h3 z a (by omega)))] at k; exact k)
    · refine ⟨?_, ?_, ?_⟩
      · first | omega | (exfalso; omega)
      · first | omega | (exfalso; omega)
      refine ⟨fun c2 => ?_, fun c2 => ?_⟩
      · exfalso; omega
      · first | (exfalso; omega) | (rw [mPlc, ff3_no (by omega) (fun z a b => decide_eq_false (h3 z a (by omega)))] at k; exact k)
  | succ n ih =>
    intro x2 h1 h2 h3
    refine g3_rm fun hM => ?_
    refine sX12_placeOf_2 ?_
    refine ⟨?_, ?_⟩
    · first | omega | (exfalso; omega)
    refine ⟨fun c1 => ?_, fun c1 => ?_⟩
    · first
        | (rw [mPlc, ff3_is (r := x2) ⟨h1, by omega⟩ (decide_eq_true (by assumption)) (fun z a b => decide_eq_false (h3 z a b))] at k; exact k)
        | (exfalso; omega)
    · refine ⟨?_, ?_, ?_⟩
      · first | omega | (exfalso; omega)
      · first | omega | (exfalso; omega)
      refine ⟨fun c2 => ?_, fun c2 => ?_⟩
      · exact ih _ (by omega) (by omega) (fun z a b => by
            by_cases e : z = x2
            · rw [e]; assumption
            · exact h3 z a (by omega))
      · first
          | (rw [mPlc, ff3_is (r := x2) ⟨h1, by omega⟩ (decide_eq_true (by assumption)) (fun z a b => decide_eq_false (h3 z a b))] at k; exact k)
          | (exfalso; omega)
theorem kX12_placeOf {E : E3} {Q : Q3} {M : M3} {x1 : Int} (h : (0 ≤ M 44 0 32 ∧ M 44 0 32 ≤ 24) ∧ (-2147483648 ≤ x1 ∧ x1 ≤ 2147483647)) (k : Q (some (vI (mPlc M x1))) M) : C3 E YX12_placeOf [vR 44 0, vI x1] M Q :=
  sX12_placeOf (lX12_placeOf h.1 h.2 k (M 44 0 32).toNat 0 (by omega) (by omega) (fun z a b => by omega))
abbrev bhd3 (M : M3) (l k : Int) : Prop := l = -1 ∨ M 66 0 l < M 66 0 k ∨ (M 66 0 k = M 66 0 l ∧ l < k)
def mNxN (M : M3) (l : Int) : Nat → Int
  | 0 => -1
  | n + 1 => if bhd3 M l n ∧ (mNxN M l n = -1 ∨ M 66 0 n < M 66 0 (mNxN M l n)) then (n : Int) else mNxN M l n
def mNxt (M : M3) (l : Int) : Int := mNxN M l (M 44 0 32).toNat
theorem mNxN_s {M : M3} {l x : Int} (h : 0 ≤ x) : mNxN M l (x + 1).toNat = if bhd3 M l x ∧ (mNxN M l x.toNat = -1 ∨ M 66 0 x < M 66 0 (mNxN M l x.toNat)) then x else mNxN M l x.toNat := by
  obtain ⟨k, rfl⟩ := Int.eq_ofNat_of_zero_le h
  rfl
theorem mNxN_rg (M : M3) (l : Int) : ∀ n : Nat, -1 ≤ mNxN M l n ∧ mNxN M l n < n
  | 0 => by unfold mNxN; omega
  | n + 1 => by
    have h := mNxN_rg M l n
    unfold mNxN
    split <;> omega
theorem lX12_nextIn {E : E3} {Q : Q3} {M : M3} {x1 : Int} (hz : 0 ≤ M 44 0 32 ∧ M 44 0 32 ≤ 24) (hx : -1 ≤ x1 ∧ x1 < 24) (k : Q (some (vI (mNxt M x1))) M) : ∀ (n : Nat) (x3 x2 : Int), 0 ≤ x3 → x3 + n = M 44 0 32 → x2 = mNxN M x1 x3.toNat → G3 E YX12_nextIn Q 4 [(0, vR 44 0), (1, vI x1), (2, vI x2), (3, vI x3)] [] M := by
  intro n
  induction n with
  | zero =>
    intro x3 x2 h1 h2 h3
    refine g3_rm fun hM => ?_
    have hr := mNxN_rg M x1 x3.toNat
    refine sX12_nextIn_4 ?_
    refine ⟨?_, ?_⟩
    · first | omega | (exfalso; omega)
    refine ⟨fun c1 => ?_, fun c1 => ?_⟩
    · first | (exfalso; omega) | (rw [mNxt, ← show x3 = M 44 0 32 by omega, ← h3] at k; exact k)
    · refine ⟨?_, ?_⟩
      · first | omega | (exfalso; omega)
      refine ⟨fun c2 => ?_, fun c2 => ?_⟩
      · refine ⟨?_, ?_⟩
        · first | omega | (exfalso; omega)
        refine ⟨fun c3 => ?_, fun c3 => ?_⟩
        · exfalso; omega
        · refine ⟨?_, ?_, ?_⟩
          · first | omega | (exfalso; omega)
          · first | omega | (exfalso; omega)
          refine ⟨fun c4 => ?_, fun c4 => ?_⟩
          · exfalso; omega
          · exfalso; omega
      · refine ⟨?_, ?_, ?_⟩
        · first | omega | (exfalso; omega)
        · first | omega | (exfalso; omega)
        refine ⟨fun c3 => ?_, fun c3 => ?_⟩
        · refine ⟨?_, ?_⟩
          · first | omega | (exfalso; omega)
          refine ⟨fun c4 => ?_, fun c4 => ?_⟩
          · exfalso; omega
          · refine ⟨?_, ?_⟩
            · first | omega | (exfalso; omega)
            refine ⟨fun c5 => ?_, fun c5 => ?_⟩
            · exfalso; omega
            · exfalso; omega
        · refine ⟨fun c4 => ?_, fun c4 => ?_⟩
          · exfalso; omega
          · refine ⟨fun c5 => ?_, fun c5 => ?_⟩
            · exfalso; omega
            · refine ⟨?_, ?_⟩
              · first | omega | (exfalso; omega)
              refine ⟨fun c6 => ?_, fun c6 => ?_⟩
              · exfalso; omega
              · refine ⟨?_, ?_⟩
                · first | omega | (exfalso; omega)
                refine ⟨fun c7 => ?_, fun c7 => ?_⟩
                · exfalso; omega
                · exfalso; omega
  | succ n ih =>
    intro x3 x2 h1 h2 h3
    refine g3_rm fun hM => ?_
    have hr := mNxN_rg M x1 x3.toNat
    refine sX12_nextIn_4 ?_
    refine ⟨?_, ?_⟩
    · first | omega | (exfalso; omega)
    refine ⟨fun c1 => ?_, fun c1 => ?_⟩
    · exfalso; omega
    · refine ⟨?_, ?_⟩
      · first | omega | (exfalso; omega)
      refine ⟨fun c2 => ?_, fun c2 => ?_⟩
      · refine ⟨?_, ?_⟩
        · first | omega | (exfalso; omega)
        refine ⟨fun c3 => ?_, fun c3 => ?_⟩
        · refine ih _ _ (by omega) (by omega) ?_
          rw [mNxN_s h1, ← h3]
          first
            | exact (if_pos (by unfold bhd3; omega)).symm
            | exact (if_neg (by unfold bhd3; omega)).symm
        · refine ⟨?_, ?_, ?_⟩
          · first | omega | (exfalso; omega)
          · first | omega | (exfalso; omega)
          refine ⟨fun c4 => ?_, fun c4 => ?_⟩
          · refine ih _ _ (by omega) (by omega) ?_
            rw [mNxN_s h1, ← h3]
            first
              | exact (if_pos (by unfold bhd3; omega)).symm
              | exact (if_neg (by unfold bhd3; omega)).symm
          · refine ih _ _ (by omega) (by omega) ?_
            rw [mNxN_s h1, ← h3]
            first
              | exact (if_pos (by unfold bhd3; omega)).symm
              | exact (if_neg (by unfold bhd3; omega)).symm
      · refine ⟨?_, ?_, ?_⟩
        · first | omega | (exfalso; omega)
        · first | omega | (exfalso; omega)
        refine ⟨fun c3 => ?_, fun c3 => ?_⟩
        · refine ⟨?_, ?_⟩
          · first | omega | (exfalso; omega)
          refine ⟨fun c4 => ?_, fun c4 => ?_⟩
          · refine ih _ _ (by omega) (by omega) ?_
            rw [mNxN_s h1, ← h3]
            first
              | exact (if_pos (by unfold bhd3; omega)).symm
              | exact (if_neg (by unfold bhd3; omega)).symm
          · refine ⟨?_, ?_⟩
            · first | omega | (exfalso; omega)
            refine ⟨fun c5 => ?_, fun c5 => ?_⟩
            · refine ih _ _ (by omega) (by omega) ?_
              rw [mNxN_s h1, ← h3]
              first
                | exact (if_pos (by unfold bhd3; omega)).symm
                | exact (if_neg (by unfold bhd3; omega)).symm
            · refine ih _ _ (by omega) (by omega) ?_
              rw [mNxN_s h1, ← h3]
              first
                | exact (if_pos (by unfold bhd3; omega)).symm
                | exact (if_neg (by unfold bhd3; omega)).symm
        · refine ⟨fun c4 => ?_, fun c4 => ?_⟩
          · refine ih _ _ (by omega) (by omega) ?_
            rw [mNxN_s h1, ← h3]
            first
              | exact (if_pos (by unfold bhd3; omega)).symm
              | exact (if_neg (by unfold bhd3; omega)).symm
          · refine ⟨fun c5 => ?_, fun c5 => ?_⟩
            · refine ih _ _ (by omega) (by omega) ?_
              rw [mNxN_s h1, ← h3]
              first
                | exact (if_pos (by unfold bhd3; omega)).symm
                | exact (if_neg (by unfold bhd3; omega)).symm
            · refine ⟨?_, ?_⟩
              · first | omega | (exfalso; omega)
              refine ⟨fun c6 => ?_, fun c6 => ?_⟩
              · refine ih _ _ (by omega) (by omega) ?_
                rw [mNxN_s h1, ← h3]
                first
                  | exact (if_pos (by unfold bhd3; omega)).symm
                  | exact (if_neg (by unfold bhd3; omega)).symm
              · refine ⟨?_, ?_⟩
                · first | omega | (exfalso; omega)
                refine ⟨fun c7 => ?_, fun c7 => ?_⟩
                · refine ih _ _ (by omega) (by omega) ?_
                  rw [mNxN_s h1, ← h3]
                  first
                    | exact (if_pos (by unfold bhd3; omega)).symm
                    | exact (if_neg (by unfold bhd3; omega)).symm
                · refine ih _ _ (by omega) (by omega) ?_
                  rw [mNxN_s h1, ← h3]
                  first
                    | exact (if_pos (by unfold bhd3; omega)).symm
                    | exact (if_neg (by unfold bhd3; omega)).symm
theorem kX12_nextIn {E : E3} {Q : Q3} {M : M3} {x1 : Int} (h : (0 ≤ M 44 0 32 ∧ M 44 0 32 ≤ 24) ∧ -1 ≤ x1 ∧ x1 < 24) (k : Q (some (vI (mNxt M x1))) M) : C3 E YX12_nextIn [vR 44 0, vI x1] M Q :=
  sX12_nextIn (lX12_nextIn h.1 h.2 k (M 44 0 32).toNat 0 (-1) (by omega) (by omega) rfl)
/-! rows of cells written by a loop -/
def ws1 (M : M3) (r : Nat) (i x : Int) (c : Int → Bool) (v : Int → Int) : M3 := fun r' i' j => if r' = r ∧ i' = i ∧ (0 ≤ j ∧ j < x) ∧ c j = true then v j else M r' i' j
def ws2 (M : M3) (r : Nat) (j x : Int) (c : Int → Bool) (v : Int → Int) : M3 := fun r' i j' => if r' = r ∧ j' = j ∧ (0 ≤ i ∧ i < x) ∧ c i = true then v i else M r' i j'
section WS
variable {M : M3} {r r' : Nat} {i i' j j' x : Int} {c : Int → Bool} {v : Int → Int}
theorem ws1_r (h : r' ≠ r) : ws1 M r i x c v r' = M r' := by
  funext a b
  exact if_neg fun z => h z.1
theorem ws1_out (h : ¬ (0 ≤ j ∧ j < x)) : ws1 M r i x c v r' i' j = M r' i' j := if_neg fun z => h z.2.2.1
theorem ws1_no (h : c j = false) : ws1 M r i x c v r' i' j = M r' i' j := if_neg fun z => by rw [h] at z; exact absurd z.2.2.2 (by decide)
theorem ws1_in (h : 0 ≤ j ∧ j < x) (hc : c j = true) : ws1 M r i x c v r i j = v j := if_pos ⟨rfl, rfl, h, hc⟩
theorem ws1_0 : ws1 M r i 0 c v = M := by
  funext a b d
  exact if_neg fun z => by omega
theorem ws1_t (h : 0 ≤ x) (hc : c x = true) {w : Int} (hw : w = v x) : up3 (ws1 M r i x c v) r i x w = ws1 M r i (x + 1) c v := by
  funext a b d
  unfold up3 ws1
  by_cases e : a = r ∧ b = i ∧ d = x
  · rw [if_pos e, if_pos ⟨e.1, e.2.1, by omega, by rw [e.2.2]; exact hc⟩, e.2.2, hw]
  · rw [if_neg e]
    by_cases q : a = r ∧ b = i ∧ (0 ≤ d ∧ d < x) ∧ c d = true
    · rw [if_pos q, if_pos ⟨q.1, q.2.1, by omega, q.2.2.2⟩]
    · rw [if_neg q, if_neg fun z => q ⟨z.1, z.2.1, by have := z.2.2.1; have : d ≠ x := fun y => e ⟨z.1, z.2.1, y⟩; omega, z.2.2.2⟩]
theorem ws1_f (hc : c x = false) : ws1 M r i (x + 1) c v = ws1 M r i x c v := by
  funext a b d
  unfold ws1
  by_cases q : a = r ∧ b = i ∧ (0 ≤ d ∧ d < x) ∧ c d = true
  · rw [if_pos q, if_pos ⟨q.1, q.2.1, by omega, q.2.2.2⟩]
  · rw [if_neg q, if_neg fun z => q ⟨z.1, z.2.1, by have := z.2.2.1; have : d ≠ x := fun y => (by rw [y, hc] at z; exact absurd z.2.2.2 (by decide)); omega, z.2.2.2⟩]
theorem ws2_r (h : r' ≠ r) : ws2 M r j x c v r' = M r' := by
  funext a b
  exact if_neg fun z => h z.1
theorem ws2_j (h : j' ≠ j) : ws2 M r j x c v r' i j' = M r' i j' := if_neg fun z => h z.2.1
theorem ws2_out (h : ¬ (0 ≤ i ∧ i < x)) : ws2 M r j x c v r' i j' = M r' i j' := if_neg fun z => h z.2.2.1
theorem ws2_no (h : c i = false) : ws2 M r j x c v r' i j' = M r' i j' := if_neg fun z => by rw [h] at z; exact absurd z.2.2.2 (by decide)
theorem ws2_in (h : 0 ≤ i ∧ i < x) (hc : c i = true) : ws2 M r j x c v r i j = v i := if_pos ⟨rfl, rfl, h, hc⟩
theorem ws2_0 : ws2 M r j 0 c v = M := by
  funext a b d
  exact if_neg fun z => by omega
theorem ws2_t (h : 0 ≤ x) (hc : c x = true) {w : Int} (hw : w = v x) : up3 (ws2 M r j x c v) r x j w = ws2 M r j (x + 1) c v := by
  funext a b d
  unfold up3 ws2
  by_cases e : a = r ∧ b = x ∧ d = j
  · rw [if_pos e, if_pos ⟨e.1, e.2.2, by omega, by rw [e.2.1]; exact hc⟩, e.2.1, hw]
  · rw [if_neg e]
    by_cases q : a = r ∧ d = j ∧ (0 ≤ b ∧ b < x) ∧ c b = true
    · rw [if_pos q, if_pos ⟨q.1, q.2.1, by omega, q.2.2.2⟩]
    · rw [if_neg q, if_neg fun z => q ⟨z.1, z.2.1, by have := z.2.2.1; have : b ≠ x := fun y => e ⟨z.1, y, z.2.1⟩; omega, z.2.2.2⟩]
theorem ws2_f (hc : c x = false) : ws2 M r j (x + 1) c v = ws2 M r j x c v := by
  funext a b d
  unfold ws2
  by_cases q : a = r ∧ d = j ∧ (0 ≤ b ∧ b < x) ∧ c b = true
  · rw [if_pos q, if_pos ⟨q.1, q.2.1, by omega, q.2.2.2⟩]
  · rw [if_neg q, if_neg fun z => q ⟨z.1, z.2.1, by have := z.2.2.1; have : b ≠ x := fun y => (by rw [y, hc] at z; exact absurd z.2.2.2 (by decide)); omega, z.2.2.2⟩]
end WS
theorem Em.up {A B : M3} (h : Em A B) (r : Nat) (i j v : Int) : Em (up3 A r i j v) (up3 B r i j v) := by
  refine ⟨fun q hq => ?_, fun j' hj => ?_⟩
  · funext a b
    unfold up3
    rw [h.1 q hq]
  · unfold up3
    rw [h.2 j' hj]
theorem Ec.up {A B : M3} (h : Ec A B) (r : Nat) (i j v : Int) : Ec (up3 A r i j v) (up3 B r i j v) := by
  refine ⟨fun q hq => ?_, fun j' hj => ?_⟩
  · funext a b
    unfold up3
    rw [h.1 q hq]
  · unfold up3
    rw [h.2 j' hj]
theorem RdC.same {M N : M3} (h : RdC M) (h44 : ∀ j : Int, j ∈ ([9, 11, 12, 13] : List Int) → N 44 0 j = M 44 0 j) (hr : ∀ q : Nat, q ∈ ([52, 53, 54, 55] : List Nat) → N q = M q) : RdC N := by
  unfold RdC arm3 at h ⊢
  rw [LM3_eq (hr 52 (by decide)) (h44 9 (by decide)), h44 9 (by decide), h44 11 (by decide), h44 12 (by decide), h44 13 (by decide), hr 52 (by decide), hr 53 (by decide), hr 54 (by decide), hr 55 (by decide)]
  exact h
theorem RdC.up {M : M3} (h : RdC M) {r : Nat} {i j v : Int} (hr : r ∉ ([44, 52, 53, 54, 55] : List Nat)) : RdC (up3 M r i j v) :=
  h.same (fun k _ => up3_nr (fun e => hr (by rw [← e]; decide))) (fun q hq => up3_r (fun e => hr (by rw [← e]; exact List.mem_cons_of_mem _ hq)))
theorem RdC.ups {M : M3} (h : RdC M) {j v : Int} (hj : j ∉ ([9, 11, 12, 13] : List Int)) : RdC (up3 M 44 0 j v) :=
  h.same (fun k hk => up3_nj (fun e => hj (by rw [← e]; exact hk))) (fun q hq => up3_r (fun e => by rw [e] at hq; exact absurd hq (by decide)))
theorem LwC.same {M N : M3} (h : LwC M) (h3 : ∀ j : Int, j ∈ ([0, 1, 4, 10] : List Int) → N 3 0 j = M 3 0 j) (hr : ∀ q : Nat, q ∈ ([4, 5, 6, 7, 8, 9] : List Nat) → N q = M q) : LwC N := by
  unfold LwC ars3 at h ⊢
  rw [LL3_eq (hr 4 (by decide)) (h3 0 (by decide)), h3 0 (by decide), h3 1 (by decide), h3 4 (by decide), h3 10 (by decide), hr 4 (by decide), hr 5 (by decide), hr 6 (by decide), hr 7 (by decide), hr 8 (by decide), hr 9 (by decide)]
  exact h
theorem LwC.up {M : M3} (h : LwC M) {r : Nat} {i j v : Int} (hr : r ∉ ([3, 4, 5, 6, 7, 8, 9] : List Nat)) : LwC (up3 M r i j v) :=
  h.same (fun k _ => up3_nr (fun e => hr (by rw [← e]; decide))) (fun q hq => up3_r (fun e => hr (by rw [← e]; exact List.mem_cons_of_mem _ hq)))
/-! MODEL: a lesson -/
abbrev tcP (M : M3) (b p : Int) : Prop := (M 50 0 p = 0 ∨ M 50 0 p = 2) ∧ M 45 0 p = b ∧ alw3 (LM3 M) (M 46 0 p) (M 44 0 0) ∧ M 47 0 p < 20
def tcM (M : M3) (b x : Int) : M3 := ws1 M 47 0 x (fun p => decide (tcP M b p)) (fun p => min 20 (M 47 0 p + 2))
def mTch (M : M3) (b : Int) : Int := cn3 (M 44 0 1) fun p => decide (tcP M b p)
theorem lX12_teach {E : E3} {Q : Q3} {M0 : M3} {x1 : Int} (hz : okP M0) (hx : 0 ≤ x1 ∧ x1 ≤ 5) (k : ∀ (N : M3), RM3 N → Em (tcM M0 x1 (M0 44 0 1)) N → RdC N → Q (some (vI (mTch M0 x1))) N) : ∀ (n : Nat) (x3 x2 : Int) (M : M3), 0 ≤ x3 → x3 + n = M0 44 0 1 → RdC M → Em (tcM M0 x1 x3) M → x2 = cn3 x3 (fun p => decide (tcP M0 x1 p)) → G3 E YX12_teach Q 14 [(0, vR 44 0), (1, vI x1), (2, vI x2), (3, vI x3)] [] M := by
  intro n
  induction n with
  | zero =>
    intro x3 x2 M h1 h2 h3 h4 h5
    refine g3_rm fun hM => ?_
    obtain ⟨hz1, hz2, hz3⟩ := hz
    have e50 : M 50 = M0 50 := (h4.1 50 (by decide)).trans (ws1_r (by decide))
    have e45 : M 45 = M0 45 := (h4.1 45 (by decide)).trans (ws1_r (by decide))
    have e46 : M 46 = M0 46 := (h4.1 46 (by decide)).trans (ws1_r (by decide))
    have e47 : M 47 0 x3 = M0 47 0 x3 := by rw [h4.1 47 (by decide)]; exact ws1_out (by omega)
    have e0 : M 44 0 0 = M0 44 0 0 := (h4.2 0 (by decide)).trans (by rw [tcM, ws1_r (by decide)])
    have e1 : M 44 0 1 = M0 44 0 1 := (h4.2 1 (by decide)).trans (by rw [tcM, ws1_r (by decide)])
    have eL : LM3 M = LM3 M0 := h4.L.trans (LM3_eq (ws1_r (by decide)) (by rw [tcM, ws1_r (by decide)]))
    refine sX12_teach_14 ?_
    simp only [e50, e45, e46, e47, e0, e1, eL]
    refine ⟨?_, ?_⟩
    · first | omega | exact ⟨h3, hz2⟩ | (have := hz3 x3 h1 (by omega); omega) | (exfalso; omega)
    refine ⟨fun c1 => ?_, fun c1 => ?_⟩
    · first
        | (exfalso; omega)
        | (have hx3 : x3 = M0 44 0 1 := by omega
           rw [hx3] at h4 h5
           rw [h5]
           exact k M hM h4 h3)
    · refine ⟨?_, ?_⟩
      · first | omega | exact ⟨h3, hz2⟩ | (have := hz3 x3 h1 (by omega); omega) | (exfalso; omega)
      refine ⟨fun c2 => ?_, fun c2 => ?_⟩
      · exfalso; omega
      · refine ⟨?_, ?_⟩
        · first | omega | exact ⟨h3, hz2⟩ | (have := hz3 x3 h1 (by omega); omega) | (exfalso; omega)
        refine ⟨fun c3 => ?_, fun c3 => ?_⟩
        · exfalso; omega
        · refine ⟨?_, ?_⟩
          · first | omega | exact ⟨h3, hz2⟩ | (have := hz3 x3 h1 (by omega); omega) | (exfalso; omega)
          intro N1 hN1 he1 hp1
          refine ⟨fun c4 => ?_, fun c4 => ?_⟩
          · exfalso; omega
          · refine ⟨fun c5 => ?_, fun c5 => ?_⟩
            · exfalso; omega
            · refine ⟨fun c6 => ?_, fun c6 => ?_⟩
              · refine ⟨?_, ?_⟩
                · first | omega | exact ⟨h3, hz2⟩ | (have := hz3 x3 h1 (by omega); omega) | (exfalso; omega)
                exfalso; omega
              · exfalso; omega
  | succ n ih =>
    intro x3 x2 M h1 h2 h3 h4 h5
    refine g3_rm fun hM => ?_
    obtain ⟨hz1, hz2, hz3⟩ := hz
    have e50 : M 50 = M0 50 := (h4.1 50 (by decide)).trans (ws1_r (by decide))
    have e45 : M 45 = M0 45 := (h4.1 45 (by decide)).trans (ws1_r (by decide))
    have e46 : M 46 = M0 46 := (h4.1 46 (by decide)).trans (ws1_r (by decide))
    have e47 : M 47 0 x3 = M0 47 0 x3 := by rw [h4.1 47 (by decide)]; exact ws1_out (by omega)
    have e0 : M 44 0 0 = M0 44 0 0 := (h4.2 0 (by decide)).trans (by rw [tcM, ws1_r (by decide)])
    have e1 : M 44 0 1 = M0 44 0 1 := (h4.2 1 (by decide)).trans (by rw [tcM, ws1_r (by decide)])
    have eL : LM3 M = LM3 M0 := h4.L.trans (LM3_eq (ws1_r (by decide)) (by rw [tcM, ws1_r (by decide)]))
    refine sX12_teach_14 ?_
    simp only [e50, e45, e46, e47, e0, e1, eL]
    refine ⟨?_, ?_⟩
    · first | omega | exact ⟨h3, hz2⟩ | (have := hz3 x3 h1 (by omega); omega) | (exfalso; omega)
    refine ⟨fun c1 => ?_, fun c1 => ?_⟩
    · exfalso; omega
    · refine ⟨?_, ?_⟩
      · first | omega | exact ⟨h3, hz2⟩ | (have := hz3 x3 h1 (by omega); omega) | (exfalso; omega)
      refine ⟨fun c2 => ?_, fun c2 => ?_⟩
      · first
          | (have hP : tcP M0 x1 x3 := ⟨by assumption, by assumption, by assumption, by assumption⟩
             refine ih _ _ _ (by omega) (by omega) (hp1.up (by decide)) ?_ (by rw [cn3_t h1 (decide_eq_true hP), h5])
             rw [tcM, ← ws1_t h1 (decide_eq_true hP) rfl]
             have e9 := (Em.tr h4 he1).up 47 0 x3 (min 20 (M0 47 0 x3 + 2))
             first
               | (rw [show min 20 (M0 47 0 x3 + 2) = M0 47 0 x3 + 2 by omega] at e9 ⊢; exact e9)
               | (rw [show min 20 (M0 47 0 x3 + 2) = 20 by omega] at e9 ⊢; exact e9))
          | (have hP : ¬ tcP M0 x1 x3 := fun z => by obtain ⟨z1, z2, z3, z4⟩ := z; first | contradiction | omega
             refine ih _ _ _ (by omega) (by omega) (by first | exact hp1 | exact h3) ?_ (by rw [cn3_f h1 (decide_eq_false hP), h5])
             rw [tcM, ws1_f (decide_eq_false hP)]
             first | exact h4 | exact Em.tr h4 he1)
          | (exfalso; omega)
      · refine ⟨?_, ?_⟩
        · first | omega | exact ⟨h3, hz2⟩ | (have := hz3 x3 h1 (by omega); omega) | (exfalso; omega)
        refine ⟨fun c3 => ?_, fun c3 => ?_⟩
        · first
            | (have hP : tcP M0 x1 x3 := ⟨by assumption, by assumption, by assumption, by assumption⟩
               refine ih _ _ _ (by omega) (by omega) (hp1.up (by decide)) ?_ (by rw [cn3_t h1 (decide_eq_true hP), h5])
               rw [tcM, ← ws1_t h1 (decide_eq_true hP) rfl]
               have e9 := (Em.tr h4 he1).up 47 0 x3 (min 20 (M0 47 0 x3 + 2))
               first
                 | (rw [show min 20 (M0 47 0 x3 + 2) = M0 47 0 x3 + 2 by omega] at e9 ⊢; exact e9)
                 | (rw [show min 20 (M0 47 0 x3 + 2) = 20 by omega] at e9 ⊢; exact e9))
            | (have hP : ¬ tcP M0 x1 x3 := fun z => by obtain ⟨z1, z2, z3, z4⟩ := z; first | contradiction | omega
               refine ih _ _ _ (by omega) (by omega) (by first | exact hp1 | exact h3) ?_ (by rw [cn3_f h1 (decide_eq_false hP), h5])
               rw [tcM, ws1_f (decide_eq_false hP)]
               first | exact h4 | exact Em.tr h4 he1)
            | (exfalso; omega)
        · refine ⟨?_, ?_⟩
          · first | omega | exact ⟨h3, hz2⟩ | (have := hz3 x3 h1 (by omega); omega) | (exfalso; omega)
          intro N1 hN1 he1 hp1
          refine ⟨fun c4 => ?_, fun c4 => ?_⟩
          · first
              | (have hP : tcP M0 x1 x3 := ⟨by assumption, by assumption, by assumption, by assumption⟩
                 refine ih _ _ _ (by omega) (by omega) (hp1.up (by decide)) ?_ (by rw [cn3_t h1 (decide_eq_true hP), h5])
                 rw [tcM, ← ws1_t h1 (decide_eq_true hP) rfl]
                 have e9 := (Em.tr h4 he1).up 47 0 x3 (min 20 (M0 47 0 x3 + 2))
                 first
                   | (rw [show min 20 (M0 47 0 x3 + 2) = M0 47 0 x3 + 2 by omega] at e9 ⊢; exact e9)
                   | (rw [show min 20 (M0 47 0 x3 + 2) = 20 by omega] at e9 ⊢; exact e9))
              | (have hP : ¬ tcP M0 x1 x3 := fun z => by obtain ⟨z1, z2, z3, z4⟩ := z; first | contradiction | omega
                 refine ih _ _ _ (by omega) (by omega) (by first | exact hp1 | exact h3) ?_ (by rw [cn3_f h1 (decide_eq_false hP), h5])
                 rw [tcM, ws1_f (decide_eq_false hP)]
                 first | exact h4 | exact Em.tr h4 he1)
              | (exfalso; omega)
          · refine ⟨fun c5 => ?_, fun c5 => ?_⟩
            · first
                | (have hP : tcP M0 x1 x3 := ⟨by assumption, by assumption, by assumption, by assumption⟩
                   refine ih _ _ _ (by omega) (by omega) (hp1.up (by decide)) ?_ (by rw [cn3_t h1 (decide_eq_true hP), h5])
                   rw [tcM, ← ws1_t h1 (decide_eq_true hP) rfl]
                   have e9 := (Em.tr h4 he1).up 47 0 x3 (min 20 (M0 47 0 x3 + 2))
                   first
                     | (rw [show min 20 (M0 47 0 x3 + 2) = M0 47 0 x3 + 2 by omega] at e9 ⊢; exact e9)
                     | (rw [show min 20 (M0 47 0 x3 + 2) = 20 by omega] at e9 ⊢; exact e9))
                | (have hP : ¬ tcP M0 x1 x3 := fun z => by obtain ⟨z1, z2, z3, z4⟩ := z; first | contradiction | omega
                   refine ih _ _ _ (by omega) (by omega) (by first | exact hp1 | exact h3) ?_ (by rw [cn3_f h1 (decide_eq_false hP), h5])
                   rw [tcM, ws1_f (decide_eq_false hP)]
                   first | exact h4 | exact Em.tr h4 he1)
                | (exfalso; omega)
            · refine ⟨fun c6 => ?_, fun c6 => ?_⟩
              · refine ⟨?_, ?_⟩
                · first | omega | exact ⟨h3, hz2⟩ | (have := hz3 x3 h1 (by omega); omega) | (exfalso; omega)
                first
                  | (have hP : tcP M0 x1 x3 := ⟨by assumption, by assumption, by assumption, by assumption⟩
                     refine ih _ _ _ (by omega) (by omega) (hp1.up (by decide)) ?_ (by rw [cn3_t h1 (decide_eq_true hP), h5])
                     rw [tcM, ← ws1_t h1 (decide_eq_true hP) rfl]
                     have e9 := (Em.tr h4 he1).up 47 0 x3 (min 20 (M0 47 0 x3 + 2))
                     first
                       | (rw [show min 20 (M0 47 0 x3 + 2) = M0 47 0 x3 + 2 by omega] at e9 ⊢; exact e9)
                       | (rw [show min 20 (M0 47 0 x3 + 2) = 20 by omega] at e9 ⊢; exact e9))
                  | (have hP : ¬ tcP M0 x1 x3 := fun z => by obtain ⟨z1, z2, z3, z4⟩ := z; first | contradiction | omega
                     refine ih _ _ _ (by omega) (by omega) (by first | exact hp1 | exact h3) ?_ (by rw [cn3_f h1 (decide_eq_false hP), h5])
                     rw [tcM, ws1_f (decide_eq_false hP)]
                     first | exact h4 | exact Em.tr h4 he1)
                  | (exfalso; omega)
              · first
                  | (have hP : tcP M0 x1 x3 := ⟨by assumption, by assumption, by assumption, by assumption⟩
                     refine ih _ _ _ (by omega) (by omega) (hp1.up (by decide)) ?_ (by rw [cn3_t h1 (decide_eq_true hP), h5])
                     rw [tcM, ← ws1_t h1 (decide_eq_true hP) rfl]
                     have e9 := (Em.tr h4 he1).up 47 0 x3 (min 20 (M0 47 0 x3 + 2))
                     first
                       | (rw [show min 20 (M0 47 0 x3 + 2) = M0 47 0 x3 + 2 by omega] at e9 ⊢; exact e9)
                       | (rw [show min 20 (M0 47 0 x3 + 2) = 20 by omega] at e9 ⊢; exact e9))
                  | (have hP : ¬ tcP M0 x1 x3 := fun z => by obtain ⟨z1, z2, z3, z4⟩ := z; first | contradiction | omega
                     refine ih _ _ _ (by omega) (by omega) (by first | exact hp1 | exact h3) ?_ (by rw [cn3_f h1 (decide_eq_false hP), h5])
                     rw [tcM, ws1_f (decide_eq_false hP)]
                     first | exact h4 | exact Em.tr h4 he1)
                  | (exfalso; omega)
theorem kX12_teach {E : E3} {Q : Q3} {M : M3} {x1 : Int} (h : RdC M ∧ okP M ∧ (-2147483648 ≤ x1 ∧ x1 ≤ 2147483647)) (k : ∀ (N : M3), RM3 N → Em (if 0 ≤ x1 ∧ x1 ≤ 5 then tcM M x1 (M 44 0 1) else M) N → RdC N → Q (some (vI (if 0 ≤ x1 ∧ x1 ≤ 5 then mTch M x1 else -2))) N) : C3 E YX12_teach [vR 44 0, vI x1] M Q := by
  refine c3_rm fun hM => ?_
  obtain ⟨hR, ha, hx⟩ := h
  refine sX12_teach ?_
  refine ⟨?_, ?_⟩
  · omega
  refine ⟨fun c1 => ?_, fun c1 => ?_⟩
  · exact lX12_teach ha (by assumption) (fun N a b d => by
      have k1 := k N a
      rw [if_pos (by assumption), if_pos (by assumption)] at k1
      exact k1 b d) (M 44 0 1).toNat 0 0 M (by omega) (by have := ha.1; omega) hR (by rw [tcM, ws1_0]; exact Em.rf) rfl
  · have k1 := k M hM
    rw [if_neg (by assumption), if_neg (by assumption)] at k1
    exact k1 Em.rf hR
