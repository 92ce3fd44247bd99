/-! THE LAWS' TEXT: what both sides read of it. A text is its length and its bytes; by3: the byte at a place, -1 behind the end. -/
def by3 (n : Int) (t : Int → Int) (k : Int) : Int := if 0 ≤ k ∧ k < n then t k else -1
/-- figures from a place on: the number, the place behind -/
def nu3 (b : Int → Int) : Nat → Int → Int → Int × Int
  | 0, p, v => (v, p)
  | f + 1, p, v => if 48 ≤ b p ∧ b p ≤ 57 then nu3 b f (p + 1) (10 * v + b p - 48) else (v, p)
abbrev ba3 (w : Int × Int) (p lo hi : Int) : Prop := w.2 = p ∨ w.1 < lo ∨ hi < w.1
/-- a kind: (fault or -1, kind, place behind) -/
def ka3 (b : Int → Int) (p : Int) : Int × Int × Int :=
  if b p = 113 then (if ba3 (nu3 b 2 (p + 1) 0) (p + 1) 0 19 then (p + 1, 0, 0) else (-1, (nu3 b 2 (p + 1) 0).1, (nu3 b 2 (p + 1) 0).2))
  else if b p = 110 then (-1, 20, p + 1) else if b p = 107 then (-1, 21, p + 1) else if b p = 115 then (-1, 22, p + 1) else if b p = 119 then (-1, 23, p + 1) else (p, 0, 0)
/-- what it says: (fault or -1, number, place behind) -/
def sa3 (b : Int → Int) (kind p : Int) : Int × Int × Int :=
  if b p = 61 then
    (if kind = 21 then (if ba3 (nu3 b 1 (p + 1) 0) (p + 1) 1 3 then (p + 1, 0, 0) else (-1, (nu3 b 1 (p + 1) 0).1, (nu3 b 1 (p + 1) 0).2))
    else (if ba3 (nu3 b 2 (p + 1) 0) (p + 1) 0 99 then (p + 1, 0, 0) else (-1, (nu3 b 2 (p + 1) 0).1, (nu3 b 2 (p + 1) 0).2)))
  else (p, 0, 0)
/-- from which day on -/
def fa3 (b : Int → Int) (p : Int) : Int × Int × Int :=
  if b p = 64 then (if ba3 (nu3 b 3 (p + 1) 0) (p + 1) 0 399 then (p + 1, 0, 0) else (-1, (nu3 b 3 (p + 1) 0).1, (nu3 b 3 (p + 1) 0).2)) else (-1, 0, p)
/-- a part: (fault or -1, (kind, says, from), place behind) -/
def pa3 (b : Int → Int) (p : Int) : Int × (Int × Int × Int) × Int :=
  if (ka3 b p).1 ≠ -1 then ((ka3 b p).1, (0, 0, 0), 0)
  else if (sa3 b (ka3 b p).2.1 (ka3 b p).2.2).1 ≠ -1 then ((sa3 b (ka3 b p).2.1 (ka3 b p).2.2).1, (0, 0, 0), 0)
  else if (fa3 b (sa3 b (ka3 b p).2.1 (ka3 b p).2.2).2.2).1 ≠ -1 then ((fa3 b (sa3 b (ka3 b p).2.1 (ka3 b p).2.2).2.2).1, (0, 0, 0), 0)
  else (-1, ((ka3 b p).2.1, (sa3 b (ka3 b p).2.1 (ka3 b p).2.2).2.1, (fa3 b (sa3 b (ka3 b p).2.1 (ka3 b p).2.2).2.2).2.1), (fa3 b (sa3 b (ka3 b p).2.1 (ka3 b p).2.2).2.2).2.2)
/-- the parts: (fault or -1, the parts read) -/
def pz3 (n : Int) (b : Int → Int) : Nat → Int → List (Int × Int × Int) → Int × List (Int × Int × Int)
  | 0, _, ps => (-1, ps)
  | f + 1, p, ps =>
    if (pa3 b p).1 ≠ -1 then ((pa3 b p).1, ps)
    else if n ≤ (pa3 b p).2.2 then (-1, ps ++ [(pa3 b p).2.1])
    else if b (pa3 b p).2.2 = 59 then pz3 n b f ((pa3 b p).2.2 + 1) (ps ++ [(pa3 b p).2.1])
    else ((pa3 b p).2.2, ps ++ [(pa3 b p).2.1])
def lwA (n : Int) (t : Int → Int) : Int × List (Int × Int × Int) := pz3 n (by3 n t) 51 0 []
def lwF (n : Int) (t : Int → Int) : Int := (lwA n t).1
def lwL (n : Int) (t : Int → Int) : List (Int × Int × Int) := if lwF n t = -1 then (lwA n t).2 else []
/-- the last k below n that is f; -1 -/
def lsN (f : Int → Bool) : Nat → Int
  | 0 => -1
  | n + 1 => if f n = true then (n : Int) else lsN f n
abbrev gp3 (l : List (Int × Int × Int)) (k : Int) : Int × Int × Int := l.getD k.toNat (0, 0, 0)
def sPt (l : List (Int × Int × Int)) (kind day : Int) : Int := lsN (fun k => decide ((gp3 l k).1 = kind ∧ (gp3 l k).2.2 ≤ day)) l.length
def dfl3 (kind : Int) : Int := if kind = 20 then 1 else if kind = 21 then 3 else if kind = 22 then 0 else if kind = 23 then 99 else -1
def sSd (l : List (Int × Int × Int)) (kind day : Int) : Int := if sPt l kind day = -1 then dfl3 kind else (gp3 l (sPt l kind day)).2.1
theorem by3_congr {n : Int} {t u : Int → Int} (h : ∀ k : Int, 0 ≤ k → k < n → t k = u k) : by3 n t = by3 n u := by
  funext k
  unfold by3
  split
  · exact h k (by omega) (by omega)
  · rfl
theorem lw_congr {n : Int} {t u : Int → Int} (h : ∀ k : Int, 0 ≤ k → k < n → t k = u k) : lwA n t = lwA n u := by
  unfold lwA
  rw [by3_congr h]
theorem by3_in {n : Int} {t : Int → Int} {k : Int} (h : 0 ≤ k ∧ k < n) : by3 n t k = t k := if_pos h
theorem by3_out {n : Int} {t : Int → Int} {k : Int} (h : n ≤ k) : by3 n t k = -1 := if_neg (by omega)
theorem nu3_at {b : Int → Int} : ∀ (f : Nat) (p v : Int), p ≤ (nu3 b f p v).2 ∧ (nu3 b f p v).2 ≤ p + f
  | 0, p, v => ⟨Int.le_refl _, by show p ≤ p + ((0 : Nat) : Int); omega⟩
  | f + 1, p, v => by
    unfold nu3
    split
    · have h := nu3_at (b := b) f (p + 1) (10 * v + b p - 48)
      omega
    · exact ⟨Int.le_refl _, by show p ≤ p + ((f + 1 : Nat) : Int); omega⟩
theorem nu3_in {n : Int} {t : Int → Int} : ∀ (f : Nat) (p v : Int), p ≤ n → (nu3 (by3 n t) f p v).2 ≤ n
  | 0, _, _, h => h
  | f + 1, p, v, h => by
    unfold nu3
    split
    · next hc =>
      by_cases q : 0 ≤ p ∧ p < n
      · exact nu3_in f (p + 1) _ (by omega)
      · unfold by3 at hc
        rw [if_neg q] at hc
        omega
    · exact h
theorem nu3_v {b : Int → Int} : ∀ (f : Nat) (p v : Int), 0 ≤ v → 0 ≤ (nu3 b f p v).1 ∧ (nu3 b f p v).1 < (v + 1) * (10 : Int) ^ f
  | 0, p, v, h => by
    show 0 ≤ v ∧ v < (v + 1) * (10 : Int) ^ 0
    simp
    omega
  | f + 1, p, v, h => by
    unfold nu3
    split
    · next hc =>
      have h1 := nu3_v (b := b) f (p + 1) (10 * v + b p - 48) (by omega)
      refine ⟨h1.1, Int.lt_of_lt_of_le h1.2 ?_⟩
      rw [Int.pow_succ, Int.mul_comm ((10 : Int) ^ f) 10, ← Int.mul_assoc]
      exact Int.mul_le_mul_of_nonneg_right (by omega) (Int.pow_nonneg (by decide))
    · refine ⟨h, ?_⟩
      show v < (v + 1) * (10 : Int) ^ (f + 1)
      have h2 : (0 : Int) < (10 : Int) ^ (f + 1) := Int.pow_pos (by decide)
      have h3 : (v + 1) * 1 ≤ (v + 1) * (10 : Int) ^ (f + 1) := Int.mul_le_mul_of_nonneg_left (by omega) (by omega)
      omega
/-- frames: what a method left as it was -/
theorem fr_rf {M : M3} {L : List Nat} : ∀ q : Nat, q ∉ L → M q = M q := fun _ _ => rfl
theorem fr_up {M N : M3} {L : List Nat} {r : Nat} {i j v : Int} (h : ∀ q : Nat, q ∉ L → N q = M q) (hr : r ∈ L) : ∀ q : Nat, q ∉ L → up3 N r i j v q = M q := fun q hq => (up3_r (fun e => hq (by rw [e]; exact hr))).trans (h q hq)
theorem fr_tr {M N K : M3} {L : List Nat} (h : ∀ q : Nat, q ∉ L → N q = M q) (h2 : ∀ q : Nat, q ∉ L → K q = N q) : ∀ q : Nat, q ∉ L → K q = M q := fun q hq => (h2 q hq).trans (h q hq)
theorem fr_sub {M N : M3} {L L2 : List Nat} (h : ∀ q : Nat, q ∉ L → N q = M q) (hs : ∀ q ∈ L, q ∈ L2) : ∀ q : Nat, q ∉ L2 → N q = M q := fun q hq => h q (fun z => hq (hs q z))
