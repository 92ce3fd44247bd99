/-! COUNTS -/
def cnN (f : Int → Bool) : Nat → Int
  | 0 => 0
  | n + 1 => cnN f n + (if f n = true then 1 else 0)
/-- how many k from 0 on, below n, are f -/
def cn3 (n : Int) (f : Int → Bool) : Int := cnN f n.toNat
theorem cn3_0 (f : Int → Bool) : cn3 0 f = 0 := rfl
theorem cn3_s {n : Int} (h : 0 ≤ n) (f : Int → Bool) : cn3 (n + 1) f = cn3 n f + (if f n = true then 1 else 0) := by
  obtain ⟨k, rfl⟩ := Int.eq_ofNat_of_zero_le h
  show cnN f ((k : Int) + 1).toNat = cnN f (k : Int).toNat + _
  rw [show ((k : Int) + 1).toNat = k + 1 by omega, show (k : Int).toNat = k by omega]
  rfl
theorem cn3_t {n : Int} (h : 0 ≤ n) {f : Int → Bool} (hf : f n = true) : cn3 (n + 1) f = cn3 n f + 1 := by rw [cn3_s h, if_pos hf]
theorem cn3_f {n : Int} (h : 0 ≤ n) {f : Int → Bool} (hf : f n = false) : cn3 (n + 1) f = cn3 n f := by
  rw [cn3_s h, if_neg (by rw [hf]; decide)]
  omega
theorem cnN_rg (f : Int → Bool) : ∀ n : Nat, 0 ≤ cnN f n ∧ cnN f n ≤ n
  | 0 => ⟨Int.le_refl _, Int.le_refl _⟩
  | n + 1 => by
    have h := cnN_rg f n
    show 0 ≤ cnN f n + (if f n = true then 1 else 0) ∧ cnN f n + (if f n = true then 1 else 0) ≤ ((n + 1 : Nat) : Int)
    split <;> omega
theorem cn3_rg {n : Int} (h : 0 ≤ n) (f : Int → Bool) : 0 ≤ cn3 n f ∧ cn3 n f ≤ n := by
  have := cnN_rg f n.toNat
  unfold cn3
  omega
theorem cnN_congr {f g : Int → Bool} : ∀ n : Nat, (∀ k : Int, 0 ≤ k → k < n → f k = g k) → cnN f n = cnN g n
  | 0, _ => rfl
  | n + 1, h => by
    show cnN f n + (if f n = true then 1 else 0) = cnN g n + (if g n = true then 1 else 0)
    rw [cnN_congr n (fun k h1 h2 => h k h1 (by omega)), h n (by omega) (by omega)]
theorem cn3_congr {n : Int} {f g : Int → Bool} (h : ∀ k : Int, 0 ≤ k → k < n → f k = g k) : cn3 n f = cn3 n g := by
  by_cases hn : 0 ≤ n
  · exact cnN_congr _ fun k h1 h2 => h k h1 (by omega)
  · unfold cn3
    rw [show n.toNat = 0 by omega]
    rfl
theorem cn3_neg {n : Int} (h : n ≤ 0) (f : Int → Bool) : cn3 n f = 0 := by
  unfold cn3
  rw [show n.toNat = 0 by omega]
  rfl
theorem cn3_le {n : Int} {f g : Int → Bool} (h : ∀ k : Int, 0 ≤ k → k < n → f k = true → g k = true) : cn3 n f ≤ cn3 n g := by
  have key : ∀ m : Nat, (∀ k : Int, 0 ≤ k → k < m → f k = true → g k = true) → cnN f m ≤ cnN g m := by
    intro m
    induction m with
    | zero => intro _; exact Int.le_refl _
    | succ m ih =>
      intro h
      show cnN f m + (if f m = true then 1 else 0) ≤ cnN g m + (if g m = true then 1 else 0)
      have h1 := ih fun k a b => h k a (by omega)
      have h2 := h m (by omega) (by omega)
      by_cases q : f m = true
      · rw [if_pos q, if_pos (h2 q)]
        omega
      · rw [if_neg q]
        split <;> omega
  by_cases hn : 0 ≤ n
  · exact key _ fun k h1 h2 => h k h1 (by omega)
  · rw [cn3_neg (by omega), cn3_neg (by omega)]
    exact Int.le_refl _
