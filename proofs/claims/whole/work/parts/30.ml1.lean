/-! MODEL: the text of the laws is read -/
abbrev tm3 (M : M3) : Int → Int := by3 (M 44 0 9) (M 52 0)
def pby3 (M : M3) (k : Int) : Prop := (0 ≤ k ∧ k ≤ 2147483647) ∧ 0 ≤ M 44 0 9 ∧ M 44 0 9 ≤ 200
theorem kX12_byteAt {E : E3} {Q : Q3} {M : M3} {x1 : Int} (h : pby3 M x1) (k : Q (some (vI (tm3 M x1))) M) : C3 E YX12_byteAt [vR 44 0, vI x1] M Q := by
  obtain ⟨h1, h2⟩ := h
  refine sX12_byteAt ?_
  refine ⟨?_, ?_⟩
  · omega
  refine ⟨fun c1 => ?_, fun c1 => ?_⟩
  · first
    | (have e : tm3 M x1 = -1 := by3_out (by omega)
       rw [e] at k; exact k)
    | (have e : tm3 M x1 = M 52 0 x1 := by3_in ⟨h1.1, by omega⟩
       rw [e] at k; exact k)
  · refine ⟨?_, ?_⟩
    · omega
    first
    | (have e : tm3 M x1 = -1 := by3_out (by omega)
       rw [e] at k; exact k)
    | (have e : tm3 M x1 = M 52 0 x1 := by3_in ⟨h1.1, by omega⟩
       rw [e] at k; exact k)
theorem tm3_fr {M N : M3} (h52 : N 52 = M 52) (h9 : N 44 0 9 = M 44 0 9) : tm3 N = tm3 M := by unfold tm3; rw [h52, h9]
theorem tm3_up {M : M3} {r : Nat} {i j v : Int} (h1 : r ≠ 52) (h2 : r ≠ 44 ∨ j ≠ 9) : tm3 (up3 M r i j v) = tm3 M := by
  refine tm3_fr (up3_r (Ne.symm h1)) ?_
  rcases h2 with h2 | h2
  · exact up3_nr (Ne.symm h2)
  · exact up3_nj (Ne.symm h2)
theorem tm3_rg {M : M3} (h : RM3 M) (k : Int) : -2147483648 ≤ tm3 M k ∧ tm3 M k ≤ 2147483647 := by
  unfold tm3 by3
  split
  · exact h 52 0 k
  · omega
def preFig (M : M3) (f lo hi : Int) : Prop := (0 ≤ f ∧ f ≤ 3) ∧ ((-2147483648 ≤ lo ∧ lo ≤ 2147483647) ∧ (-2147483648 ≤ hi ∧ hi ≤ 2147483647)) ∧ (0 ≤ M 44 0 17 ∧ M 44 0 17 ≤ 400) ∧ 0 ≤ M 44 0 9 ∧ M 44 0 9 ≤ 200
def poFig (M : M3) (f lo hi r : Int) (N : M3) : Prop := (M 44 0 12 ≠ -1 → r = 0 ∧ N 44 0 12 = M 44 0 12 ∧ N 44 0 17 = M 44 0 17) ∧ (M 44 0 12 = -1 → N 44 0 17 = (nu3 (tm3 M) f.toNat (M 44 0 17) 0).2 ∧ r = (nu3 (tm3 M) f.toNat (M 44 0 17) 0).1 ∧ N 44 0 12 = (if ba3 (nu3 (tm3 M) f.toNat (M 44 0 17) 0) (M 44 0 17) lo hi then M 44 0 17 else -1)) ∧ 0 ≤ r ∧ r ≤ 999999
