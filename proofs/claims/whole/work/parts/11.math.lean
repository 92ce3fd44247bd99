/-! COUNTS -/
def cnN (f : Int → Bool) : Nat → Int
  | 0 => 0
  | n + 1 => cnN f n + (if f n = true then 1 else 0)
/-- how many k from 0 on, below n, are f -/
def cn3 (n : Int) (f : Int → Bool) : Int := cnN f n.toNat
theorem cn3_0 (f : Int → Bool) : cn3 0 f = 0 := rfl
theorem cn3_s {n : Int} (h : 0 ≤ n) (f : Int → Bool) : cn3 (n + 1) f = cn3 n f + (if f n = true then 1 else 0) := by
  obtain ⟨k, rfl⟩ := Int.eq_ofNat_of_zero_le h
  show cnN f ((k : Int) + 1).toNat = cnN f (k : Int).toNat + _
  rw [show ((k : Int) + 1).toNat = k + 1 by omega, show (k : Int).toNat = k by omega]
  rfl
theorem cn3_t {n : Int} (h : 0 ≤ n) {f : Int → Bool} (hf : f n = true) : cn3 (n + 1) f = cn3 n f + 1 := by rw [cn3_s h, if_pos hf]
theorem cn3_f {n : Int} (h : 0 ≤ n) {f : Int → Bool} (hf : f n = false) : cn3 (n + 1) f = cn3 n f := by
  rw [cn3_s h, if_neg (by rw [hf]; decide)]
  omega
theorem cnN_rg (f : Int → Bool) : ∀ n : Nat, 0 ≤ cnN f n ∧ cnN f n ≤ n
  | 0 => ⟨Int.le_refl _, Int.le_refl _⟩
  | n + 1 => by
    have h := cnN_rg f n
    show 0 ≤ cnN f n + (if f n = true then 1 else 0) ∧ cnN f n + (if f n = true then 1 else 0) ≤ ((n + 1 : Nat) : Int)
    split <;> omega
theorem cn3_rg {n : Int} (h : 0 ≤ n) (f : Int → Bool) : 0 ≤ cn3 n f ∧ cn3 n f ≤ n := by
  have := cnN_rg f n.toNat
  unfold cn3
  omega
theorem cnN_congr {f g : Int → Bool} : ∀ n : Nat, (∀ k : Int, 0 ≤ k → k < n → f k = g k) → cnN f n = cnN g n
  | 0, _ => rfl
  | n + 1, h => by
    show cnN f n + (if f n = true then 1 else 0) = cnN g n + (if g n = true then 1 else 0)
    rw [cnN_congr n (fun k h1 h2 => h k h1 (by omega)), h n (by omega) (by omega)]
theorem cn3_congr {n : Int} {f g : Int → Bool} (h : ∀ k : Int, 0 ≤ k → k < n → f k = g k) : cn3 n f = cn3 n g := by
  by_cases hn : 0 ≤ n
  · exact cnN_congr _ fun k h1 h2 => h k h1 (by omega)
  · unfold cn3
    rw [show n.toNat = 0 by omega]
    rfl
theorem cn3_neg {n : Int} (h : n ≤ 0) (f : Int → Bool) : cn3 n f = 0 := by
  unfold cn3
  rw [show n.toNat = 0 by omega]
  rfl
theorem cn3_le {n : Int} {f g : Int → Bool} (h : ∀ k : Int, 0 ≤ k → k < n → f k = true → g k = true) : cn3 n f ≤ cn3 n g := by
  have key : ∀ m : Nat, (∀ k : Int, 0 ≤ k → k < m → f k = true → g k = true) → cnN f m ≤ cnN g m := by
    intro m
    induction m with
    | zero => intro _; exact Int.le_refl _
    | succ m ih =>
      intro h
      show cnN f m + (if f m = true then 1 else 0) ≤ cnN g m + (if g m = true then 1 else 0)
      have h1 := ih fun k a b => h k a (by omega)
      have h2 := h m (by omega) (by omega)
      by_cases q : f m = true
      · rw [if_pos q, if_pos (h2 q)]
        omega
      · rw [if_neg q]
        split <;> omega
  by_cases hn : 0 ≤ n
  · exact key _ fun k h1 h2 => h k h1 (by omega)
  · rw [cn3_neg (by omega), cn3_neg (by omega)]
    exact Int.le_refl _
theorem cn3_zero {n : Int} {f : Int → Bool} : cn3 n f = 0 ↔ ∀ k : Int, 0 ≤ k → k < n → f k = false := by
  have key : ∀ m : Nat, cnN f m = 0 ↔ ∀ k : Int, 0 ≤ k → k < m → f k = false := by
    intro m
    induction m with
    | zero => exact ⟨fun _ k a b => by omega, fun _ => rfl⟩
    | succ m ih =>
      have hr := cnN_rg f m
      have e : cnN f (m + 1) = cnN f m + (if f m = true then 1 else 0) := rfl
      rw [e]
      constructor
      · intro h k a b
        by_cases q : f m = true
        · rw [if_pos q] at h
          omega
        · rw [if_neg q] at h
          by_cases z : k = (m : Int)
          · rw [z]
            simpa using q
          · exact ih.mp (by omega) k a (by omega)
      · intro h
        rw [ih.mpr (fun k a b => h k a (by omega)), if_neg (by rw [h m (by omega) (by omega)]; decide)]
        rfl
  by_cases hn : 0 ≤ n
  · unfold cn3
    rw [key]
    exact ⟨fun h k a b => h k a (by omega), fun h k a b => h k a (by omega)⟩
  · rw [cn3_neg (by omega)]
    exact ⟨fun _ k a b => by omega, fun _ => rfl⟩
/-- how many are below a mark -/
theorem cn3_thr {n r : Int} {f : Int → Bool} (hr : 0 ≤ r ∧ r ≤ n) (h : ∀ k : Int, 0 ≤ k → k < n → (f k = true ↔ k < r)) : cn3 n f = r := by
  have key : ∀ m : Nat, (m : Int) ≤ n → cnN f m = min (m : Int) r := by
    intro m
    induction m with
    | zero => intro _; show (0 : Int) = _; omega
    | succ m ih =>
      intro hm
      show cnN f m + (if f m = true then 1 else 0) = _
      rw [ih (by omega)]
      have := h m (by omega) (by omega)
      by_cases q : f m = true
      · rw [if_pos q]
        have := this.mp q
        omega
      · rw [if_neg q]
        have : ¬ (m : Int) < r := fun z => q (this.mpr z)
        omega
  unfold cn3
  rw [key n.toNat (by omega)]
  omega
def smN (f : Int → Int) : Nat → Int
  | 0 => 0
  | n + 1 => smN f n + f n
/-- the sum of f k for k from 0 on, below n -/
def sm3 (n : Int) (f : Int → Int) : Int := smN f n.toNat
theorem sm3_0 (f : Int → Int) : sm3 0 f = 0 := rfl
theorem sm3_s {n : Int} (h : 0 ≤ n) (f : Int → Int) : sm3 (n + 1) f = sm3 n f + f n := by
  obtain ⟨k, rfl⟩ := Int.eq_ofNat_of_zero_le h
  show smN f ((k : Int) + 1).toNat = smN f (k : Int).toNat + _
  rw [show ((k : Int) + 1).toNat = k + 1 by omega, show (k : Int).toNat = k by omega]
  rfl
theorem sm3_congr {n : Int} {f g : Int → Int} (h : ∀ k : Int, 0 ≤ k → k < n → f k = g k) : sm3 n f = sm3 n g := by
  have key : ∀ m : Nat, (∀ k : Int, 0 ≤ k → k < m → f k = g k) → smN f m = smN g m := by
    intro m
    induction m with
    | zero => intro _; rfl
    | succ m ih =>
      intro h
      show smN f m + f m = smN g m + g m
      rw [ih (fun k a b => h k a (by omega)), h m (by omega) (by omega)]
  by_cases hn : 0 ≤ n
  · exact key _ fun k a b => h k a (by omega)
  · unfold sm3
    rw [show n.toNat = 0 by omega]
    rfl
theorem sm3_rg {n B : Int} (hn : 0 ≤ n) {f : Int → Int} (h : ∀ k : Int, 0 ≤ k → k < n → 0 ≤ f k ∧ f k ≤ B) : 0 ≤ sm3 n f ∧ sm3 n f ≤ n * B := by
  have key : ∀ m : Nat, (∀ k : Int, 0 ≤ k → k < m → 0 ≤ f k ∧ f k ≤ B) → 0 ≤ smN f m ∧ smN f m ≤ (m : Int) * B := by
    intro m
    induction m with
    | zero => intro _; exact ⟨Int.le_refl _, by show (0 : Int) ≤ ((0 : Nat) : Int) * B; simp⟩
    | succ m ih =>
      intro h
      have h1 := ih fun k a b => h k a (by omega)
      have h2 := h m (by omega) (by omega)
      have e : ((m + 1 : Nat) : Int) * B = (m : Int) * B + B := by rw [show ((m + 1 : Nat) : Int) = (m : Int) + 1 by omega, Int.add_mul, Int.one_mul]
      show 0 ≤ smN f m + f m ∧ smN f m + f m ≤ _
      rw [e]
      omega
  have h1 := key n.toNat fun k a b => h k a (by omega)
  unfold sm3
  rw [show ((n.toNat : Nat) : Int) = n by omega] at h1
  exact h1
def ffN (f : Int → Bool) : Nat → Int
  | 0 => -1
  | n + 1 => if ffN f n ≠ -1 then ffN f n else if f n = true then n else -1
/-- the first k from 0 on, below n, that is f; -1 -/
def ff3 (n : Int) (f : Int → Bool) : Int := ffN f n.toNat
theorem ffN_c (f : Int → Bool) : ∀ n : Nat, (ffN f n = -1 ∧ ∀ k : Int, 0 ≤ k → k < n → f k = false) ∨ ((0 ≤ ffN f n ∧ ffN f n < n) ∧ f (ffN f n) = true ∧ ∀ k : Int, 0 ≤ k → k < ffN f n → f k = false)
  | 0 => Or.inl ⟨rfl, fun k a b => by omega⟩
  | n + 1 => by
    unfold ffN
    rcases ffN_c f n with ⟨h1, h2⟩ | ⟨h1, h2, h3⟩
    · rw [if_neg (by omega)]
      by_cases q : f n = true
      · rw [if_pos q]
        exact Or.inr ⟨by omega, q, h2⟩
      · rw [if_neg q]
        refine Or.inl ⟨rfl, fun k a b => ?_⟩
        by_cases z : k = (n : Int)
        · rw [z]
          simpa using q
        · exact h2 k a (by omega)
    · rw [if_pos (by omega)]
      exact Or.inr ⟨by omega, h2, h3⟩
theorem ff3_c {n : Int} (hn : 0 ≤ n) (f : Int → Bool) : (ff3 n f = -1 ∧ ∀ k : Int, 0 ≤ k → k < n → f k = false) ∨ ((0 ≤ ff3 n f ∧ ff3 n f < n) ∧ f (ff3 n f) = true ∧ ∀ k : Int, 0 ≤ k → k < ff3 n f → f k = false) := by
  have h := ffN_c f n.toNat
  unfold ff3
  rw [show ((n.toNat : Nat) : Int) = n by omega] at h
  exact h
theorem ff3_is {n r : Int} {f : Int → Bool} (h : 0 ≤ r ∧ r < n) (h1 : f r = true) (h2 : ∀ k : Int, 0 ≤ k → k < r → f k = false) : ff3 n f = r := by
  rcases ff3_c (n := n) (by omega) f with ⟨a, b⟩ | ⟨a, b, c⟩
  · rw [b r h.1 h.2] at h1
    cases h1
  · by_cases q : ff3 n f < r
    · rw [h2 _ a.1 q] at b
      cases b
    · by_cases z : r < ff3 n f
      · rw [c r h.1 z] at h1
        cases h1
      · omega
theorem ff3_no {n : Int} {f : Int → Bool} (hn : 0 ≤ n) (h : ∀ k : Int, 0 ≤ k → k < n → f k = false) : ff3 n f = -1 := by
  rcases ff3_c hn f with ⟨a, b⟩ | ⟨a, b, c⟩
  · exact a
  · rw [h _ a.1 a.2] at b
    cases b
theorem ff3_congr {n : Int} {f g : Int → Bool} (hn : 0 ≤ n) (h : ∀ k : Int, 0 ≤ k → k < n → f k = g k) : ff3 n f = ff3 n g := by
  rcases ff3_c hn g with ⟨a, b⟩ | ⟨a, b, c⟩
  · rw [a]
    exact ff3_no hn fun k x y => (h k x y).trans (b k x y)
  · exact ff3_is a ((h _ a.1 a.2).trans b) fun k x y => (h k x (by omega)).trans (c k x y)
