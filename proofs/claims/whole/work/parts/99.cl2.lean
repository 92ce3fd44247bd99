/-! CLASS: the helpers -/
/-- the greatest of 0 and f k for k below n -/
def mxN (f : Int → Int) : Nat → Int
  | 0 => 0
  | n + 1 => max (mxN f n) (f n)
abbrev mx3 (f : Int → Int) (n : Int) : Int := mxN f n.toNat
theorem mx3_s {f : Int → Int} {n : Int} (h : 0 ≤ n) : mx3 f (n + 1) = max (mx3 f n) (f n) := by
  obtain ⟨k, rfl⟩ := Int.eq_ofNat_of_zero_le h
  rfl
theorem mxN_ge {f : Int → Int} : ∀ (n : Nat) (k : Int), 0 ≤ k → k < n → f k ≤ mxN f n
  | 0, k, a, b => by omega
  | n + 1, k, a, b => by
    show f k ≤ max (mxN f n) (f n)
    by_cases e : k = (n : Int)
    · rw [e]; omega
    · have := mxN_ge (f := f) n k a (by omega)
      omega
theorem mxN_at {f : Int → Int} : ∀ n : Nat, (∀ k : Int, 0 ≤ k → k < n → 0 ≤ f k) → 0 < n → ∃ k : Int, (0 ≤ k ∧ k < n) ∧ f k = mxN f n
  | 0, _, h => absurd h (by decide)
  | n + 1, hf, _ => by
    have h0 := hf n (by omega) (by omega)
    show ∃ k : Int, (0 ≤ k ∧ k < ((n + 1 : Nat) : Int)) ∧ f k = max (mxN f n) (f n)
    by_cases e : n = 0
    · refine ⟨n, by omega, ?_⟩
      have : mxN f n = 0 := by rw [e]; rfl
      omega
    · obtain ⟨k, hk, hv⟩ := mxN_at n (fun k a b => hf k a (by omega)) (by omega)
      by_cases q : f n ≤ f k
      · exact ⟨k, by omega, by omega⟩
      · exact ⟨n, by omega, by omega⟩
theorem mxN_rg {f : Int → Int} {B : Int} (hB : 0 ≤ B) : ∀ n : Nat, (∀ k : Int, 0 ≤ k → k < n → f k ≤ B) → 0 ≤ mxN f n ∧ mxN f n ≤ B
  | 0, _ => ⟨Int.le_refl 0, hB⟩
  | n + 1, hf => by
    have h := mxN_rg hB n fun k a b => hf k a (by omega)
    have := hf n (by omega) (by omega)
    show 0 ≤ max (mxN f n) (f n) ∧ max (mxN f n) (f n) ≤ B
    omega
/-- the most of the k + 1 last beats with just g lessons -/
def mfN (R : Int → Int → Int) : Nat → Int → Int
  | 0, g => R 5 g
  | k + 1, g => mxN (fun y => R (4 - k) y + mfN R k (g - y)) (g + 1).toNat
def okR3 (R : Int → Int → Int) : Prop := ∀ b g : Int, 0 ≤ b → b < 6 → 0 ≤ g → g ≤ 12 → 0 ≤ R b g ∧ R b g ≤ 48
theorem mfN_rg {R : Int → Int → Int} (hR : okR3 R) : ∀ (k : Nat) (g : Int), k ≤ 5 → 0 ≤ g → g ≤ 12 → 0 ≤ mfN R k g ∧ mfN R k g ≤ 48 * (k + 1)
  | 0, g, _, a, b => by
    have := hR 5 g (by omega) (by omega) a b
    show 0 ≤ R 5 g ∧ R 5 g ≤ 48 * (((0 : Nat) : Int) + 1)
    omega
  | k + 1, g, hk, a, b => by
    refine mxN_rg (by omega) _ fun y y0 y1 => ?_
    have h1 := hR (4 - k) y (by omega) (by omega) y0 (by omega)
    have h2 := mfN_rg hR k (g - y) (by omega) (by omega) (by omega)
    omega
theorem mfN_ge {R : Int → Int → Int} {k : Nat} {g y : Int} (hy : 0 ≤ y ∧ y ≤ g) : R (4 - k) y + mfN R k (g - y) ≤ mfN R (k + 1) g :=
  mxN_ge (f := fun y => R (4 - k) y + mfN R k (g - y)) (g + 1).toNat y hy.1 (by omega)
theorem mfN_at {R : Int → Int → Int} (hR : okR3 R) {k : Nat} {g : Int} (hk : k ≤ 4) (hg : 0 ≤ g ∧ g ≤ 12) : ∃ y : Int, (0 ≤ y ∧ y ≤ g) ∧ R (4 - k) y + mfN R k (g - y) = mfN R (k + 1) g := by
  obtain ⟨y, hy, e⟩ := mxN_at (f := fun y => R (4 - k) y + mfN R k (g - y)) (g + 1).toNat (fun y a b => by
    have h1 := hR (4 - k) y (by omega) (by omega) a (by omega)
    have h2 := mfN_rg hR k (g - y) (by omega) (by omega) (by omega)
    show 0 ≤ R (4 - k) y + mfN R k (g - y)
    omega) (by omega)
  exact ⟨y, by omega, e⟩
/-- from n on down the first y that f brings to m, or 0 -/
def ghN (f : Int → Int) (m : Int) : Nat → Int
  | 0 => 0
  | n + 1 => if m ≤ f (n + 1) then (n : Int) + 1 else ghN f m n
theorem ghN_is {f : Int → Int} {m r : Int} : ∀ n : Nat, 0 ≤ r → r ≤ n → (r = 0 ∨ m ≤ f r) → (∀ y : Int, r < y → y ≤ n → f y < m) → ghN f m n = r
  | 0, a, b, _, _ => by show (0 : Int) = r; omega
  | n + 1, a, b, c, d => by
    show (if m ≤ f (n + 1) then (n : Int) + 1 else ghN f m n) = r
    by_cases e : r = (n : Int) + 1
    · rw [if_pos (by rcases c with c | c; omega; rw [e] at c; exact c), e]
    · rw [if_neg (by have := d ((n : Int) + 1) (by omega) (by omega); omega)]
      exact ghN_is n a (by omega) c fun y y0 y1 => d y y0 (by omega)
theorem ghN_c (f : Int → Int) (m : Int) : ∀ n : Nat, (0 ≤ ghN f m n ∧ ghN f m n ≤ n) ∧ (ghN f m n = 0 ∨ m ≤ f (ghN f m n)) ∧ ∀ y : Int, ghN f m n < y → y ≤ n → f y < m
  | 0 => ⟨by show (0 : Int) ≤ 0 ∧ (0 : Int) ≤ _; omega, Or.inl rfl, fun y a b => by have a' : (0 : Int) < y := a; omega⟩
  | n + 1 => by
    have h := ghN_c f m n
    show (0 ≤ (if m ≤ f (n + 1) then (n : Int) + 1 else ghN f m n) ∧ (if m ≤ f (n + 1) then (n : Int) + 1 else ghN f m n) ≤ _) ∧ ((if m ≤ f (n + 1) then (n : Int) + 1 else ghN f m n) = 0 ∨ m ≤ f (if m ≤ f (n + 1) then (n : Int) + 1 else ghN f m n)) ∧ ∀ y : Int, (if m ≤ f (n + 1) then (n : Int) + 1 else ghN f m n) < y → y ≤ _ → f y < m
    by_cases e : m ≤ f (n + 1)
    · rw [if_pos e]
      exact ⟨by omega, Or.inr e, fun y a b => by omega⟩
    · rw [if_neg e]
      refine ⟨by omega, h.2.1, fun y a b => ?_⟩
      by_cases q : y = (n : Int) + 1
      · rw [q]; omega
      · exact h.2.2 y a (by omega)
/-- the lessons of beat e, when l are left -/
def hrF (R : Int → Int → Int) (e : Nat) (l : Int) : Int := ghN (fun y => R e y + mfN R (4 - e) (l - y)) (mfN R (5 - e) l) l.toNat
def lfN (R : Int → Int → Int) (used : Int) : Nat → Int
  | 0 => used
  | e + 1 => lfN R used e - hrF R e (lfN R used e)
def grV (R : Int → Int → Int) (used : Int) (b : Int) : Int := if b = 5 then lfN R used 5 else hrF R b.toNat (lfN R used b.toNat)
theorem hrF_c {R : Int → Int → Int} (hR : okR3 R) {e : Nat} {l : Int} (he : e ≤ 4) (hl : 0 ≤ l ∧ l ≤ 12) : (0 ≤ hrF R e l ∧ hrF R e l ≤ l) ∧ R e (hrF R e l) + mfN R (4 - e) (l - hrF R e l) = mfN R (5 - e) l ∧ ∀ y : Int, hrF R e l < y → y ≤ l → R e y + mfN R (4 - e) (l - y) < mfN R (5 - e) l := by
  obtain ⟨h1, h2, h3⟩ := ghN_c (fun y => R e y + mfN R (4 - e) (l - y)) (mfN R (5 - e) l) l.toNat
  have ek : 5 - e = (4 - e) + 1 := by omega
  have eb : (4 : Int) - ((4 - e : Nat) : Int) = (e : Int) := by omega
  have ge : ∀ y : Int, 0 ≤ y → y ≤ l → R e y + mfN R (4 - e) (l - y) ≤ mfN R (5 - e) l := fun y a b => by
    have h := mfN_ge (R := R) (k := 4 - e) (g := l) (y := y) ⟨a, b⟩
    rw [eb] at h
    rw [ek]
    exact h
  have e0 : hrF R e l = ghN (fun y => R e y + mfN R (4 - e) (l - y)) (mfN R (5 - e) l) l.toNat := rfl
  rw [← e0] at h1 h2 h3
  refine ⟨by omega, ?_, fun y a b => h3 y a (by omega)⟩
  have g0 := ge (hrF R e l) (by omega) (by omega)
  rcases h2 with h2 | h2
  · obtain ⟨y, hy, ey⟩ := mfN_at hR (k := 4 - e) (g := l) (by omega) hl
    rw [eb, ← ek] at ey
    by_cases q : y = 0
    · rw [h2]
      rw [q] at ey
      exact ey
    · have h4 : R e y + mfN R (4 - e) (l - y) < mfN R (5 - e) l := h3 y (by omega) (by omega)
      omega
  · have h5 : mfN R (5 - e) l ≤ R e (hrF R e l) + mfN R (4 - e) (l - hrF R e l) := h2
    omega
theorem lX5_rm2 {E : E3} {Q : Q3} {M0 : M3} {x1 : Int} (hx : 0 ≤ x1 ∧ x1 ≤ 12) (k : ∀ (N : M3), RM3 N → (∀ q : Nat, q ∉ ([30] : List Nat) → N q = M0 q) → (∀ g : Int, 0 ≤ g → g ≤ x1 → N 30 5 g = mfN (M0 28) 0 g) → G3 E YX5_reckonMostFrom Q 31 [(0, vR 26 0), (1, vI x1), (2, vI 4)] [] N) : ∀ (n : Nat) (x2 : Int) (M : M3), 0 ≤ x2 → x2 + n = x1 + 1 → (∀ q : Nat, q ∉ ([30] : List Nat) → M q = M0 q) → (∀ g : Int, 0 ≤ g → g < x2 → M 30 5 g = mfN (M0 28) 0 g) → G3 E YX5_reckonMostFrom Q 2 [(0, vR 26 0), (1, vI x1), (2, vI x2)] [] M := by
  intro n
  induction n with
  | zero =>
    intro x2 M h1 h2 h3 h4
    refine g3_rm fun hM => ?_
    refine sX5_reckonMostFrom_2 ?_
    refine ⟨?_, ?_, ?_⟩
    · omega
    · omega
    refine ⟨fun c1 => ?_, fun c1 => ?_⟩
    · first | (exfalso; omega) | exact k M hM h3 (fun g a b => h4 g a (by omega))
    · refine ⟨?_, ?_⟩
      · omega
      first | (exfalso; omega) | exact k M hM h3 (fun g a b => h4 g a (by omega))
  | succ n ih =>
    intro x2 M h1 h2 h3 h4
    refine g3_rm fun hM => ?_
    refine sX5_reckonMostFrom_2 ?_
    refine ⟨?_, ?_, ?_⟩
    · first | omega | (exfalso; omega)
    · first | omega | (exfalso; omega)
    refine ⟨fun c1 => ?_, fun c1 => ?_⟩
    · first | (exfalso; omega) | exact ih _ _ (by omega) (by omega) (fr_up h3 (by decide)) (fun g a b => by
        by_cases e : g = x2
        · rw [e, up3_eq, h3 28 (by decide)]; rfl
        · rw [up3_nj e]; exact h4 g a (by omega))
    · refine ⟨?_, ?_⟩
      · first | omega | (exfalso; omega)
      first | (exfalso; omega) | exact ih _ _ (by omega) (by omega) (fr_up h3 (by decide)) (fun g a b => by
        by_cases e : g = x2
        · rw [e, up3_eq, h3 28 (by decide)]; rfl
        · rw [up3_nj e]; exact h4 g a (by omega))
theorem lX5_rm31 {E : E3} {Q : Q3} {M0 : M3} {x1 : Int} (hx : 0 ≤ x1 ∧ x1 ≤ 12) (hR : okR3 (M0 28)) (k : ∀ (N : M3), RM3 N → (∀ q : Nat, q ∉ ([30] : List Nat) → N q = M0 q) → (∀ (b : Nat) (g : Int), b ≤ 5 → 0 ≤ g → g ≤ x1 → N 30 (5 - b) g = mfN (M0 28) b g) → Q none N) : ∀ (n : Nat) (x2 : Int) (M : M3), x2 + 1 = n → n ≤ 5 → (∀ q : Nat, q ∉ ([30] : List Nat) → M q = M0 q) → (∀ (b : Nat) (g : Int), (b : Int) < 5 - x2 → 0 ≤ g → g ≤ x1 → M 30 (5 - b) g = mfN (M0 28) b g) → G3 E YX5_reckonMostFrom Q 31 [(0, vR 26 0), (1, vI x1), (2, vI x2)] [] M := by
  intro n
  induction n with
  | zero =>
    intro x2 M h1 h2 h3 h4
    refine g3_rm fun hM => ?_
    refine sX5_reckonMostFrom_31 ?_
    refine ⟨?_, ?_⟩
    · omega
    refine ⟨fun c1 => ?_, fun c1 => ?_⟩
    · first | (exfalso; omega) | exact k M hM h3 (fun b g hb a c => h4 b g (by omega) a c)
    · exfalso; omega
  | succ n ih =>
    intro x2 M h1 h2 h3 h4
    have ekn : ((4 : Int) - x2) = ((4 - x2).toNat : Int) := by omega
    have row : ∀ (m : Nat) (x3 : Int) (M : M3), 0 ≤ x3 → x3 + m = x1 + 1 → (∀ q : Nat, q ∉ ([30] : List Nat) → M q = M0 q) → (∀ (b : Nat) (g : Int), (b : Int) < 5 - x2 → 0 ≤ g → g ≤ x1 → M 30 (5 - b) g = mfN (M0 28) b g) → (∀ g : Int, 0 ≤ g → g < x3 → M 30 x2 g = mfN (M0 28) (5 - x2).toNat g) → G3 E YX5_reckonMostFrom Q 37 [(0, vR 26 0), (1, vI x1), (2, vI x2), (3, vI x3)] [] M := by
      intro m
      induction m with
      | zero =>
        intro x3 M g1 g2 g3 g4 g5
        refine g3_rm fun hM => ?_
        refine sX5_reckonMostFrom_37 ?_
        refine ⟨?_, ?_, ?_⟩
        · omega
        · omega
        refine ⟨fun c1 => ?_, fun c1 => ?_⟩
        · first | (exfalso; omega) | exact ih _ _ (by omega) (by omega) g3 (fun b g hb a c => by
            by_cases e : (b : Int) = 5 - x2
            · have e2 : b = (5 - x2).toNat := by omega
              rw [show (5 : Int) - (b : Int) = x2 by omega, e2]
              exact g5 g a (by omega)
            · exact g4 b g (by omega) a c)
        · refine ⟨?_, ?_, ?_⟩
          · omega
          · omega
          exfalso; omega
      | succ m ih2 =>
        intro x3 M g1 g2 g3 g4 g5
        have cell : ∀ (l : Nat) (x4 : Int) (M : M3), 0 ≤ x4 → x4 + l = x3 + 1 → (∀ q : Nat, q ∉ ([30] : List Nat) → M q = M0 q) → (∀ (b : Nat) (g : Int), (b : Int) < 5 - x2 → 0 ≤ g → g ≤ x1 → M 30 (5 - b) g = mfN (M0 28) b g) → (∀ g : Int, 0 ≤ g → g < x3 → M 30 x2 g = mfN (M0 28) (5 - x2).toNat g) → M 30 x2 x3 = mx3 (fun y => M0 28 x2 y + mfN (M0 28) (4 - x2).toNat (x3 - y)) x4 → G3 E YX5_reckonMostFrom Q 54 [(0, vR 26 0), (1, vI x1), (2, vI x2), (3, vI x3), (4, vI x4)] [] M := by
          intro l
          induction l with
          | zero =>
            intro x4 M f1 f2 f3 f4 f5 f6
            refine g3_rm fun hM => ?_
            refine sX5_reckonMostFrom_54 ?_
            refine ⟨?_, ?_, ?_⟩
            · omega
            · omega
            refine ⟨fun c1 => ?_, fun c1 => ?_⟩
            · first | (exfalso; omega) | exact ih2 _ _ (by omega) (by omega) f3 f4 (fun g a b => by
                by_cases e : g = x3
                · rw [e, f6, show x4 = x3 + 1 by omega, show (5 - x2).toNat = (4 - x2).toNat + 1 by omega]
                  show _ = mxN (fun y => M0 28 (4 - ((4 - x2).toNat : Int)) y + mfN (M0 28) (4 - x2).toNat (x3 - y)) (x3 + 1).toNat
                  rw [show (4 : Int) - ((4 - x2).toNat : Int) = x2 by omega]
                · exact f5 g a (by omega))
            · refine ⟨?_, ?_, ?_, ?_, ?_, ?_, ?_, ?_⟩
              · omega
              · omega
              · omega
              · omega
              · omega
              · omega
              · omega
              exfalso; omega
          | succ l ih3 =>
            intro x4 M f1 f2 f3 f4 f5 f6
            refine g3_rm fun hM => ?_
            have e28 : M 28 = M0 28 := f3 28 (by decide)
            have v1 := hR x2 x4 (by omega) (by omega) f1 (by omega)
            have v2 := mfN_rg hR (4 - x2).toNat (x3 - x4) (by omega) (by omega) (by omega)
            have v3 : M 30 (x2 + 1) (x3 - x4) = mfN (M0 28) (4 - x2).toNat (x3 - x4) := by
              have h := f4 (4 - x2).toNat (x3 - x4) (by omega) (by omega) (by omega)
              rw [show (5 : Int) - ((4 - x2).toNat : Int) = x2 + 1 by omega] at h
              exact h
            have v4 := mxN_rg (f := fun y => M0 28 x2 y + mfN (M0 28) (4 - x2).toNat (x3 - y)) (B := 400) (by omega) x4.toNat (fun y a b => by
              have w1 := hR x2 y (by omega) (by omega) a (by omega)
              have w2 := mfN_rg hR (4 - x2).toNat (x3 - y) (by omega) (by omega) (by omega)
              show M0 28 x2 y + mfN (M0 28) (4 - x2).toNat (x3 - y) ≤ 400
              omega)
            have v5 : mx3 (fun y => M0 28 x2 y + mfN (M0 28) (4 - x2).toNat (x3 - y)) x4 = mxN (fun y => M0 28 x2 y + mfN (M0 28) (4 - x2).toNat (x3 - y)) x4.toNat := rfl
            refine sX5_reckonMostFrom_54 ?_
            rw [e28, v3, f6]
            refine ⟨?_, ?_, ?_⟩
            · first | omega | (exfalso; omega)
            · first | omega | (exfalso; omega)
            refine ⟨fun c1 => ?_, fun c1 => ?_⟩
            · exfalso; omega
            · refine ⟨?_, ?_, ?_, ?_, ?_, ?_, ?_, ?_⟩
              · first | omega | (exfalso; omega)
              · first | omega | (exfalso; omega)
              · first | omega | (exfalso; omega)
              · first | omega | (exfalso; omega)
              · first | omega | (exfalso; omega)
              · first | omega | (exfalso; omega)
              · first | omega | (exfalso; omega)
              first
              | (exfalso; omega)
              | (refine ih3 _ _ (by omega) (by omega) (fr_up f3 (by decide)) (fun b g hb a c => by rw [up3_ni (by omega)]; exact f4 b g hb a c) (fun g a b => by rw [up3_nj (by omega)]; exact f5 g a b) ?_
                 rw [up3_eq, mx3_s f1])
        refine g3_rm fun hM => ?_
        refine sX5_reckonMostFrom_37 ?_
        refine ⟨?_, ?_, ?_⟩
        · first | omega | (exfalso; omega)
        · first | omega | (exfalso; omega)
        refine ⟨fun c1 => ?_, fun c1 => ?_⟩
        · exfalso; omega
        · refine ⟨?_, ?_, ?_⟩
          · first | omega | (exfalso; omega)
          · first | omega | (exfalso; omega)
          first | (exfalso; omega) | exact cell (x3 + 1).toNat 0 _ (by omega) (by omega) (fr_up g3 (by decide)) (fun b g hb a c => by rw [up3_ni (by omega)]; exact g4 b g hb a c) (fun g a b => by rw [up3_nj (by omega)]; exact g5 g a b) (by rw [up3_eq]; rfl)
    refine g3_rm fun hM => ?_
    refine sX5_reckonMostFrom_31 ?_
    refine ⟨?_, ?_⟩
    · omega
    refine ⟨fun c1 => ?_, fun c1 => ?_⟩
    · exfalso; omega
    · first | (exfalso; omega) | exact row (x1 + 1).toNat 0 M (by omega) (by omega) h3 h4 (fun g a b => by omega)
def poRm (M : M3) (x1 : Int) (N : M3) : Prop := ∀ (b : Nat) (g : Int), b ≤ 5 → 0 ≤ g → g ≤ x1 → N 30 (5 - b) g = mfN (M 28) b g
theorem kX5_reckonMostFrom {E : E3} {Q : Q3} {M : M3} {x1 : Int} (h : (0 ≤ x1 ∧ x1 ≤ 12) ∧ okR3 (M 28)) (k : ∀ (N : M3), RM3 N → (∀ q : Nat, q ∉ ([30] : List Nat) → N q = M q) → poRm M x1 N → Q none N) : C3 E YX5_reckonMostFrom [vR 26 0, vI x1] M Q :=
  sX5_reckonMostFrom (lX5_rm2 h.1 (fun N a b c => lX5_rm31 (M0 := M) h.1 h.2 k 5 4 N (by omega) (by omega) b (fun d g hd a c2 => by
    rw [show d = 0 by omega]
    exact c g a c2)) (x1 + 1).toNat 0 M (by omega) (by omega) fr_rf (fun g a b => by omega))
def okT3 (M : M3) (R : Int → Int → Int) (x2 : Int) : Prop := okR3 R ∧ (0 ≤ x2 ∧ x2 ≤ 12) ∧ ∀ g : Int, 0 ≤ g → g ≤ x2 → (∀ b : Int, 0 ≤ b → b < 6 → M 28 b g = R b g) ∧ ∀ b : Nat, b ≤ 5 → M 30 (5 - b) g = mfN R b g
theorem lX5_lessonsFor {E : E3} {Q : Q3} {M : M3} {R : Int → Int → Int} {x1 x2 : Int} (hx : 0 ≤ x1 ∧ x1 ≤ 5) (hT : okT3 M R x2) (k : Q (some (vI (grV R x2 x1))) M) : ∀ (n : Nat) (x4 x3 : Int), 0 ≤ x4 → x4 + n = 5 → x4 ≤ x1 → x3 = lfN R x2 x4.toNat → (0 ≤ x3 ∧ x3 ≤ x2) → G3 E YX5_lessonsFor Q 5 [(0, vR 26 0), (1, vI x1), (3, vI x3), (4, vI x4)] [] M := by
  obtain ⟨hR, hx2, hT⟩ := hT
  intro n
  induction n with
  | zero =>
    intro x4 x3 h1 h2 h3 h4 h5
    refine sX5_lessonsFor_5 ?_
    refine ⟨?_, ?_⟩
    · omega
    refine ⟨fun c1 => ?_, fun c1 => ?_⟩
    · first | (exfalso; omega) | (rw [grV, if_pos (by omega)] at k; rw [h4, show x4.toNat = 5 by omega]; exact k)
    · exfalso; omega
  | succ n ih =>
    intro x4 x3 h1 h2 h3 h4 h5
    obtain ⟨e, rfl⟩ := Int.eq_ofNat_of_zero_le h1
    rw [show ((e : Int)).toNat = e by omega] at h4
    have hc := hrF_c hR (e := e) (l := x3) (by omega) (by omega)
    have hd : hrF R e x3 = ghN (fun y => R e y + mfN R (4 - e) (x3 - y)) (mfN R (5 - e) x3) x3.toNat := rfl
    have inner : ∀ (m : Nat) (x5 : Int), x5 = m → x5 ≤ x3 → (∀ y : Int, x5 < y → y ≤ x3 → R e y + mfN R (4 - e) (x3 - y) < mfN R (5 - e) x3) → G3 E YX5_lessonsFor Q 14 [(0, vR 26 0), (1, vI x1), (3, vI x3), (4, vI e), (5, vI x5)] [] M := by
      intro m
      induction m with
      | zero =>
        intro x5 g1 g2 g3
        have ehr : hrF R e x3 = x5 := by
          rw [hd]
          exact ghN_is _ (by omega) (by omega) (Or.inl (by omega)) fun y a b => g3 y a (by omega)
        refine sX5_lessonsFor_14 ?_
        refine ⟨?_, ?_⟩
        · first | omega | (exfalso; omega)
        refine ⟨fun c1 => ?_, fun c1 => ?_⟩
        · refine ⟨?_, ?_, ?_⟩
          · first | omega | (exfalso; omega)
          · first | omega | (exfalso; omega)
          refine ⟨fun c2 => ?_, fun c2 => ?_⟩
          · first
            | (exfalso; omega)
            | (refine ih _ _ (by omega) (by omega) (by omega) ?_ (by omega)
               rw [show ((e : Int) + 1).toNat = e + 1 by omega]
               show _ = lfN R x2 e - hrF R e (lfN R x2 e)
               rw [← h4, ehr])
          · first | (exfalso; omega) | (rw [grV, if_neg (by omega), ← show (e : Int) = x1 by assumption, show ((e : Int)).toNat = e by omega, ← h4, ehr] at k; exact k)
        · refine ⟨?_, ?_, ?_, ?_, ?_, ?_, ?_⟩
          · first | omega | (exfalso; omega)
          · first | omega | (exfalso; omega)
          · first | omega | (exfalso; omega)
          · first | omega | (exfalso; omega)
          · first | omega | (exfalso; omega)
          · first | omega | (exfalso; omega)
          refine ⟨fun c2 => ?_, fun c2 => ?_⟩
          · refine ⟨?_, ?_, ?_⟩
            · first | omega | (exfalso; omega)
            · first | omega | (exfalso; omega)
            refine ⟨fun c3 => ?_, fun c3 => ?_⟩
            · first
              | (exfalso; omega)
              | (refine ih _ _ (by omega) (by omega) (by omega) ?_ (by omega)
                 rw [show ((e : Int) + 1).toNat = e + 1 by omega]
                 show _ = lfN R x2 e - hrF R e (lfN R x2 e)
                 rw [← h4, ehr])
            · first | (exfalso; omega) | (rw [grV, if_neg (by omega), ← show (e : Int) = x1 by assumption, show ((e : Int)).toNat = e by omega, ← h4, ehr] at k; exact k)
          · exfalso; omega
      | succ m ih2 =>
        intro x5 g1 g2 g3
        have v1 : M 28 (e : Int) x5 = R e x5 := (hT x5 (by omega) (by omega)).1 e (by omega) (by omega)
        have v2 : M 30 ((e : Int) + 1) (x3 - x5) = mfN R (4 - e) (x3 - x5) := by
          have h := (hT (x3 - x5) (by omega) (by omega)).2 (4 - e) (by omega)
          rw [show (5 : Int) - ((4 - e : Nat) : Int) = (e : Int) + 1 by omega] at h
          exact h
        have v3 : M 30 (e : Int) x3 = mfN R (5 - e) x3 := by
          have h := (hT x3 (by omega) (by omega)).2 (5 - e) (by omega)
          rw [show (5 : Int) - ((5 - e : Nat) : Int) = (e : Int) by omega] at h
          exact h
        have r1 := hR e x5 (by omega) (by omega) (by omega) (by omega)
        have r2 := mfN_rg hR (4 - e) (x3 - x5) (by omega) (by omega) (by omega)
        have hit : mfN R (5 - e) x3 ≤ R e x5 + mfN R (4 - e) (x3 - x5) → hrF R e x3 = x5 := fun q => by
          rw [hd]
          exact ghN_is _ (by omega) (by omega) (Or.inr q) fun y a b => g3 y a (by omega)
        refine sX5_lessonsFor_14 ?_
        rw [v1, v2, v3]
        refine ⟨?_, ?_⟩
        · first | omega | (exfalso; omega)
        refine ⟨fun c1 => ?_, fun c1 => ?_⟩
        · refine ⟨?_, ?_, ?_⟩
          · first | omega | (exfalso; omega)
          · first | omega | (exfalso; omega)
          refine ⟨fun c2 => ?_, fun c2 => ?_⟩
          · first
            | (exfalso; omega)
            | (refine ih _ _ (by omega) (by omega) (by omega) ?_ (by omega)
               rw [show ((e : Int) + 1).toNat = e + 1 by omega]
               show _ = lfN R x2 e - hrF R e (lfN R x2 e)
               rw [← h4, hit (by assumption)])
          · first | (exfalso; omega) | (rw [grV, if_neg (by omega), ← show (e : Int) = x1 by assumption, show ((e : Int)).toNat = e by omega, ← h4, hit (by assumption)] at k; exact k)
        · refine ⟨?_, ?_, ?_, ?_, ?_, ?_, ?_⟩
          · first | omega | (exfalso; omega)
          · first | omega | (exfalso; omega)
          · first | omega | (exfalso; omega)
          · first | omega | (exfalso; omega)
          · first | omega | (exfalso; omega)
          · first | omega | (exfalso; omega)
          refine ⟨fun c2 => ?_, fun c2 => ?_⟩
          · refine ⟨?_, ?_, ?_⟩
            · first | omega | (exfalso; omega)
            · first | omega | (exfalso; omega)
            refine ⟨fun c3 => ?_, fun c3 => ?_⟩
            · first
              | (exfalso; omega)
              | (refine ih _ _ (by omega) (by omega) (by omega) ?_ (by omega)
                 rw [show ((e : Int) + 1).toNat = e + 1 by omega]
                 show _ = lfN R x2 e - hrF R e (lfN R x2 e)
                 rw [← h4, hit (by assumption)])
            · first | (exfalso; omega) | (rw [grV, if_neg (by omega), ← show (e : Int) = x1 by assumption, show ((e : Int)).toNat = e by omega, ← h4, hit (by assumption)] at k; exact k)
          · first | (exfalso; omega) | exact ih2 _ (by omega) (by omega) (fun y a b => by
              by_cases z : y = x5
              · rw [z]; assumption
              · exact g3 y (by omega) b)
    refine sX5_lessonsFor_5 ?_
    refine ⟨?_, ?_⟩
    · omega
    refine ⟨fun c1 => ?_, fun c1 => ?_⟩
    · exfalso; omega
    · first | (exfalso; omega) | exact inner x3.toNat x3 (by omega) (by omega) (fun y a b => by omega)
theorem kX5_lessonsFor {E : E3} {Q : Q3} {M : M3} {R : Int → Int → Int} {x1 x2 : Int} (h : (0 ≤ x1 ∧ x1 ≤ 5) ∧ okT3 M R x2) (k : Q (some (vI (grV R x2 x1))) M) : C3 E YX5_lessonsFor [vR 26 0, vI x1, vI x2] M Q :=
  sX5_lessonsFor (lX5_lessonsFor h.1 h.2 k 5 0 x2 (by omega) (by omega) (by omega) rfl ⟨h.2.2.1.1, Int.le_refl _⟩)
