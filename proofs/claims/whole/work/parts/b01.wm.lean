/-! what holds of the model alone -/
def wS (M : M3) (s : Int) : Prop := M 80 0 s = 0 ∨ (M 80 0 s = 1 ∧ (0 ≤ M 81 0 s ∧ M 81 0 s ≤ 2) ∧ (0 ≤ M 82 0 s ∧ M 82 0 s ≤ 40))
def wP (M : M3) (p : Int) : Prop := (0 ≤ M 45 0 p ∧ M 45 0 p ≤ 5) ∧ (0 ≤ M 46 0 p ∧ M 46 0 p ≤ 1) ∧ (0 ≤ M 47 0 p ∧ M 47 0 p ≤ 20) ∧ (0 ≤ M 48 0 p ∧ M 48 0 p ≤ 9) ∧ (-1 ≤ M 49 0 p ∧ M 49 0 p < 48) ∧ (0 ≤ M 50 0 p ∧ M 50 0 p ≤ 4) ∧ (0 ≤ M 51 0 p ∧ M 51 0 p ≤ 9)
def WM (M : M3) : Prop := ((0 ≤ M 44 0 0 ∧ M 44 0 0 ≤ 399) ∧ (-1 ≤ M 44 0 27 ∧ M 44 0 27 ≤ M 44 0 0) ∧ (0 ≤ M 44 0 1 ∧ M 44 0 1 ≤ 48) ∧ (0 ≤ M 44 0 9 ∧ M 44 0 9 ≤ 200) ∧ (0 ≤ M 44 0 18 ∧ M 44 0 18 ≤ 60) ∧ (0 ≤ M 44 0 32 ∧ M 44 0 32 ≤ 24) ∧ (0 ≤ M 44 0 39 ∧ M 44 0 39 ≤ 30) ∧ (0 ≤ M 44 0 44 ∧ M 44 0 44 ≤ 8)) ∧ (∀ p : Int, 0 ≤ p → p < 48 → wP M p) ∧ (∀ s : Int, 0 ≤ s → s < 4 → wS M s) ∧ (∀ c : Int, 0 ≤ c → c < 4 → -1 ≤ M 74 0 c ∧ M 74 0 c ≤ 399) ∧ okA M ∧ okP M ∧ okJ M ∧ okS M ∧ okL M
theorem IB.wm {M : M3} (h : IB M) : WM M := by
  have hA := h.okA
  have hP := h.okP
  have hJ := h.okJ
  have hS := h.okS
  have hL := h.okL
  have h' := h
  obtain ⟨b, l, c, f, o, n, t, u, s⟩ := h'
  refine ⟨⟨b.2.2.1, b.2.2.2.1, c.2.1, l.2.1, f.2.1, hL.1, t.2.1, u.2.1⟩, fun p a d => ?_, fun x a d => ?_, fun x a d => (o x a d).2, hA, hP, hJ, hS, hL⟩
  · obtain ⟨_, _, _, q3, q4, q5, q6, q7, q8, q9⟩ := c.2.2 p a d
    exact ⟨q3, q4, q5, q6, ⟨q7.1, q7.2.1⟩, ⟨q8.1, q8.2.1⟩, q9⟩
  · rcases s x a d with q | q
    · exact Or.inl q.1
    · exact Or.inr ⟨q.1, q.2.2.2.1, q.2.2.2.2.1⟩
theorem WM_q {M N : M3} (h : Hm M N) (w : WM M) : WM N := by
  unfold WM wP wS okA okR okF okP okJ okS okL mNow at w ⊢
  unfold okP at w ⊢
  simp only [h 44 (by decide), h 45 (by decide), h 46 (by decide), h 47 (by decide), h 48 (by decide), h 49 (by decide), h 50 (by decide), h 51 (by decide), h 56 (by decide), h 57 (by decide), h 60 (by decide), h 62 (by decide), h 63 (by decide), h 64 (by decide), h 65 (by decide), h 66 (by decide), h 74 (by decide), h 75 (by decide), h 76 (by decide), h 77 (by decide), h 80 (by decide), h 81 (by decide), h 82 (by decide)]
  exact w
theorem Hm.rf {M : M3} : Hm M M := fun _ _ => rfl
theorem Hm.up {M N : M3} (h : Hm M N) {r : Nat} {i j v : Int} (hr : r < 44) : Hm M (up3 N r i j v) := fun q hq => (up3_r (by omega)).trans (h q hq)
theorem qI {Q : Q3} {a b : Int} {M : M3} (h : a = b) (k : Q (some (vI b)) M) : Q (some (vI a)) M := by rw [h]; exact k
/-- a pair out of its halves -/
theorem p2I {E : E3} {Y : Y3} {as : List V3} {a : Int} {N : M3} (k : C3 E Y as N (R2 (some (vI a)))) : P2 E Y as (some (vI a)) N := ⟨⟨a, rfl⟩, k⟩
