def poWg (M : M3) (i : Int) (N : M3) : Prop := Ec (up3 (up3 M 18 i 9 (cRts M i)) 18 i 10 (cLck M i)) N
theorem kX2_weighR {E : E3} {Q : Q3} {M : M3} {i1 : Int} (h : LwC M ∧ (0 ≤ i1 ∧ i1 < 60) ∧ (0 ≤ M 18 i1 2 ∧ M 18 i1 2 ≤ 399)) (k : ∀ (N : M3), RM3 N → (∀ q : Nat, q ∉ ([3, 8, 9, 18] : List Nat) → N q = M q) → (∀ j : Int, j ∉ ([10] : List Int) → N 3 0 j = M 3 0 j) → LwC N ∧ poWg M i1 N → Q none N) : C3 E YX2_weigh [vR 14 0, vR 18 i1] M Q :=
  kX2_weigh h (fun N a b c => k N a (fun q hq => (b.1 q fun z => hq (by
      have : ∀ x ∈ ([3, 8, 9] : List Nat), x ∈ ([3, 8, 9, 18] : List Nat) := by decide
      exact this q z)).trans (fr_up (fr_up (fr_rf (L := [3, 8, 9, 18])) (by decide)) (by decide) q hq)) (fun j hj => (b.2 j hj).trans (by rw [up3_nr (by decide), up3_nr (by decide)])) ⟨c, b⟩)
