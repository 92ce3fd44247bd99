/-! PAIRS: class and model called one behind the other -/
def R2 (v : Option V3) : Q3 := fun v2 K => v2 = v ∧ Inv K
theorem r2I {v v2 : Option V3} {K : M3} (h : v2 = v) (h2 : Inv K) : R2 v v2 K := ⟨h, h2⟩
def P2 (E : E3) (Y : Y3) (as : List V3) : Q3 := fun v N => (∃ x : Int, v = some (vI x)) ∧ C3 E Y as N (R2 v)
theorem svI {a b : Int} (h : a = b) : (some (vI a) : Option V3) = some (vI b) := by rw [h]
theorem LwC_of {M N : M3} (e3_0 : N 3 0 0 = M 3 0 0) (e3_1 : N 3 0 1 = M 3 0 1) (e3_4 : N 3 0 4 = M 3 0 4) (e3_10 : N 3 0 10 = M 3 0 10) (e4 : N 4 = M 4) (e5 : N 5 = M 5) (e6 : N 6 = M 6) (e7 : N 7 = M 7) (e8 : N 8 = M 8) (e9 : N 9 = M 9) (h : LwC M) : LwC N := by
  unfold LwC ars3 at h ⊢
  rw [LL3_eq e4 e3_0, e3_0, e3_1, e3_4, e3_10, e4, e5, e6, e7, e8, e9]
  exact h
theorem RdC_of {M N : M3} (e44_9 : N 44 0 9 = M 44 0 9) (e44_11 : N 44 0 11 = M 44 0 11) (e44_12 : N 44 0 12 = M 44 0 12) (e44_13 : N 44 0 13 = M 44 0 13) (e52 : N 52 = M 52) (e53 : N 53 = M 53) (e54 : N 54 = M 54) (e55 : N 55 = M 55) (h : RdC M) : RdC N := by
  unfold RdC arm3 at h ⊢
  rw [LM3_eq e52 e44_9, e44_9, e44_11, e44_12, e44_13, e52, e53, e54, e55]
  exact h
theorem iCty_at {M N : M3} {p : Int} (h : iCty M) (e10 : N 10 0 0 = M 10 0 0) (e44 : N 44 0 1 = M 44 0 1) (hs : ∀ x : Int, x ≠ p → (∀ j : Int, N 13 x j = M 13 x j) ∧ N 45 0 x = M 45 0 x ∧ N 46 0 x = M 46 0 x ∧ N 47 0 x = M 47 0 x ∧ N 48 0 x = M 48 0 x ∧ N 49 0 x = M 49 0 x ∧ N 50 0 x = M 50 0 x ∧ N 51 0 x = M 51 0 x) (hp : 0 ≤ p → p < 48 → iP N p) : iCty N := by
  refine ⟨by rw [e10, e44]; exact h.1, by rw [e44]; exact h.2.1, fun x a b => ?_⟩
  by_cases e : x = p
  · rw [e]
    exact hp (by omega) (by omega)
  · obtain ⟨s1, s2, s3, s4, s5, s6, s7, s8⟩ := hs x e
    have w := h.2.2 x a b
    unfold iP at w ⊢
    simp only [s1, s2, s3, s4, s5, s6, s7, s8, e44]
    exact w
