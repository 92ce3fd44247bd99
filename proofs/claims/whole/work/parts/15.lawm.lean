/-! what is read lies where it may -/
theorem by3_lt {n : Int} {t : Int → Int} {p : Int} (h : by3 n t p ≠ -1) : 0 ≤ p ∧ p < n := by
  by_cases q : 0 ≤ p ∧ p < n
  · exact q
  · exact absurd (if_neg q) h
theorem ka3_ok {n : Int} {t : Int → Int} {p : Int} (h : (ka3 (by3 n t) p).1 = -1) (hp : 0 ≤ p) : (0 ≤ (ka3 (by3 n t) p).2.1 ∧ (ka3 (by3 n t) p).2.1 ≤ 23) ∧ p + 1 ≤ (ka3 (by3 n t) p).2.2 ∧ (ka3 (by3 n t) p).2.2 ≤ n := by
  have one : ∀ x : Int, 0 ≤ x ∧ x ≤ 23 → by3 n t p ≠ -1 → ka3 (by3 n t) p = (-1, x, p + 1) → (0 ≤ (ka3 (by3 n t) p).2.1 ∧ (ka3 (by3 n t) p).2.1 ≤ 23) ∧ p + 1 ≤ (ka3 (by3 n t) p).2.2 ∧ (ka3 (by3 n t) p).2.2 ≤ n := fun x hx hb e => by
    rw [e]
    have := by3_lt hb
    exact ⟨hx, Int.le_refl _, by show p + 1 ≤ n; omega⟩
  by_cases q1 : by3 n t p = 113
  · have e : ka3 (by3 n t) p = _ := if_pos q1
    have hb := by3_lt (n := n) (t := t) (p := p) (by omega)
    by_cases q : ba3 (nu3 (by3 n t) 2 (p + 1) 0) (p + 1) 0 19
    · rw [if_pos q] at e
      rw [e] at h
      have h' : p + 1 = -1 := h
      omega
    · rw [if_neg q] at e
      rw [e]
      have h1 := nu3_at (b := by3 n t) 2 (p + 1) 0
      have h2 := nu3_in (n := n) (t := t) 2 (p + 1) 0 (by omega)
      have h3 : ¬ ((nu3 (by3 n t) 2 (p + 1) 0).1 < 0 ∨ 19 < (nu3 (by3 n t) 2 (p + 1) 0).1) := fun z => q (Or.inr z)
      exact ⟨⟨by show 0 ≤ (nu3 (by3 n t) 2 (p + 1) 0).1; omega, by show (nu3 (by3 n t) 2 (p + 1) 0).1 ≤ 23; omega⟩, h1.1, h2⟩
  by_cases q2 : by3 n t p = 110
  · exact one 20 (by omega) (by omega) (by unfold ka3; rw [if_neg q1, if_pos q2])
  by_cases q3 : by3 n t p = 107
  · exact one 21 (by omega) (by omega) (by unfold ka3; rw [if_neg q1, if_neg q2, if_pos q3])
  by_cases q4 : by3 n t p = 115
  · exact one 22 (by omega) (by omega) (by unfold ka3; rw [if_neg q1, if_neg q2, if_neg q3, if_pos q4])
  by_cases q5 : by3 n t p = 119
  · exact one 23 (by omega) (by omega) (by unfold ka3; rw [if_neg q1, if_neg q2, if_neg q3, if_neg q4, if_pos q5])
  · have e : ka3 (by3 n t) p = (p, 0, 0) := by unfold ka3; rw [if_neg q1, if_neg q2, if_neg q3, if_neg q4, if_neg q5]
    rw [e] at h
    have h' : p = -1 := h
    omega
theorem nuok3 {n : Int} {t : Int → Int} {f : Nat} {p lo hi : Int} (hp : 0 ≤ p ∧ p < n) (q : ¬ ba3 (nu3 (by3 n t) f (p + 1) 0) (p + 1) lo hi) : (lo ≤ (nu3 (by3 n t) f (p + 1) 0).1 ∧ (nu3 (by3 n t) f (p + 1) 0).1 ≤ hi) ∧ p + 2 ≤ (nu3 (by3 n t) f (p + 1) 0).2 ∧ (nu3 (by3 n t) f (p + 1) 0).2 ≤ n := by
  have h1 := nu3_at (b := by3 n t) f (p + 1) 0
  have h2 := nu3_in (n := n) (t := t) f (p + 1) 0 (by omega)
  have h3 : ¬ ((nu3 (by3 n t) f (p + 1) 0).1 < lo ∨ hi < (nu3 (by3 n t) f (p + 1) 0).1) := fun z => q (Or.inr z)
  have h4 : ¬ (nu3 (by3 n t) f (p + 1) 0).2 = p + 1 := fun z => q (Or.inl z)
  omega
theorem sa3_ok {n : Int} {t : Int → Int} {kd p : Int} (h : (sa3 (by3 n t) kd p).1 = -1) (hp : 0 ≤ p) : (0 ≤ (sa3 (by3 n t) kd p).2.1 ∧ (sa3 (by3 n t) kd p).2.1 ≤ 99) ∧ (kd = 21 → 1 ≤ (sa3 (by3 n t) kd p).2.1 ∧ (sa3 (by3 n t) kd p).2.1 ≤ 3) ∧ p + 2 ≤ (sa3 (by3 n t) kd p).2.2 ∧ (sa3 (by3 n t) kd p).2.2 ≤ n := by
  by_cases q1 : by3 n t p = 61
  · have e : sa3 (by3 n t) kd p = _ := if_pos q1
    have hb := by3_lt (n := n) (t := t) (p := p) (by omega)
    by_cases q2 : kd = 21
    · rw [if_pos q2] at e
      by_cases q : ba3 (nu3 (by3 n t) 1 (p + 1) 0) (p + 1) 1 3
      · rw [if_pos q] at e
        rw [e] at h
        have h' : p + 1 = -1 := h
        omega
      · rw [if_neg q] at e
        rw [e]
        have := nuok3 hb q
        exact ⟨⟨by show 0 ≤ (nu3 (by3 n t) 1 (p + 1) 0).1; omega, by show (nu3 (by3 n t) 1 (p + 1) 0).1 ≤ 99; omega⟩, fun _ => this.1, this.2⟩
    · rw [if_neg q2] at e
      by_cases q : ba3 (nu3 (by3 n t) 2 (p + 1) 0) (p + 1) 0 99
      · rw [if_pos q] at e
        rw [e] at h
        have h' : p + 1 = -1 := h
        omega
      · rw [if_neg q] at e
        rw [e]
        have := nuok3 hb q
        exact ⟨this.1, fun z => absurd z q2, this.2⟩
  · have e : sa3 (by3 n t) kd p = (p, 0, 0) := if_neg q1
    rw [e] at h
    have h' : p = -1 := h
    omega
theorem fa3_ok {n : Int} {t : Int → Int} {p : Int} (h : (fa3 (by3 n t) p).1 = -1) (hp : 0 ≤ p ∧ p ≤ n) : (0 ≤ (fa3 (by3 n t) p).2.1 ∧ (fa3 (by3 n t) p).2.1 ≤ 399) ∧ p ≤ (fa3 (by3 n t) p).2.2 ∧ (fa3 (by3 n t) p).2.2 ≤ n := by
  by_cases q1 : by3 n t p = 64
  · have e : fa3 (by3 n t) p = _ := if_pos q1
    have hb := by3_lt (n := n) (t := t) (p := p) (by omega)
    by_cases q : ba3 (nu3 (by3 n t) 3 (p + 1) 0) (p + 1) 0 399
    · rw [if_pos q] at e
      rw [e] at h
      have h' : p + 1 = -1 := h
      omega
    · rw [if_neg q] at e
      rw [e]
      have := nuok3 hb q
      exact ⟨this.1, by show p ≤ (nu3 (by3 n t) 3 (p + 1) 0).2; omega, this.2.2⟩
  · have e : fa3 (by3 n t) p = (-1, 0, p) := if_neg q1
    rw [e]
    exact ⟨⟨Int.le_refl 0, (by decide : (0 : Int) ≤ 399)⟩, Int.le_refl _, hp.2⟩
def ok1 (x : Int × Int × Int) : Prop := (0 ≤ x.1 ∧ x.1 ≤ 23) ∧ (0 ≤ x.2.1 ∧ x.2.1 ≤ 99) ∧ (x.1 = 21 → 1 ≤ x.2.1 ∧ x.2.1 ≤ 3) ∧ 0 ≤ x.2.2 ∧ x.2.2 ≤ 399
theorem pa3_ok {n : Int} {t : Int → Int} {p : Int} (h : (pa3 (by3 n t) p).1 = -1) (hp : 0 ≤ p) : ok1 (pa3 (by3 n t) p).2.1 ∧ p + 3 ≤ (pa3 (by3 n t) p).2.2 ∧ (pa3 (by3 n t) p).2.2 ≤ n := by
  by_cases q1 : (ka3 (by3 n t) p).1 ≠ -1
  · have e : pa3 (by3 n t) p = _ := if_pos q1
    rw [e] at h
    exact absurd h q1
  have k1 := ka3_ok (Classical.byContradiction q1) hp
  by_cases q2 : (sa3 (by3 n t) (ka3 (by3 n t) p).2.1 (ka3 (by3 n t) p).2.2).1 ≠ -1
  · have e : pa3 (by3 n t) p = _ := (if_neg q1).trans (if_pos q2)
    rw [e] at h
    exact absurd h q2
  have k2 := sa3_ok (Classical.byContradiction q2) (by omega)
  by_cases q3 : (fa3 (by3 n t) (sa3 (by3 n t) (ka3 (by3 n t) p).2.1 (ka3 (by3 n t) p).2.2).2.2).1 ≠ -1
  · have e : pa3 (by3 n t) p = _ := (if_neg q1).trans ((if_neg q2).trans (if_pos q3))
    rw [e] at h
    exact absurd h q3
  have k3 := fa3_ok (Classical.byContradiction q3) (by omega)
  have e : pa3 (by3 n t) p = _ := (if_neg q1).trans ((if_neg q2).trans (if_neg q3))
  rw [e]
  exact ⟨⟨k1.1, k2.1, k2.2.1, k3.1⟩, by show p + 3 ≤ (fa3 (by3 n t) (sa3 (by3 n t) (ka3 (by3 n t) p).2.1 (ka3 (by3 n t) p).2.2).2.2).2.2; omega, k3.2.2⟩
theorem pz3_ok {n : Int} {t : Int → Int} (hn : n ≤ 200) : ∀ (f : Nat) (p : Int) (ps : List (Int × Int × Int)), 0 ≤ p → 4 * (ps.length : Int) ≤ p → p ≤ n → (∀ x ∈ ps, ok1 x) → (∀ x ∈ (pz3 n (by3 n t) f p ps).2, ok1 x) ∧ ((pz3 n (by3 n t) f p ps).2.length : Int) ≤ 50
  | 0, p, ps, h0, h1, h2, h3 => ⟨h3, by show (ps.length : Int) ≤ 50; omega⟩
  | f + 1, p, ps, h0, h1, h2, h3 => by
    unfold pz3
    by_cases q1 : (pa3 (by3 n t) p).1 ≠ -1
    · rw [if_pos q1]
      exact ⟨h3, by show (ps.length : Int) ≤ 50; omega⟩
    rw [if_neg q1]
    have k := pa3_ok (Classical.byContradiction q1) h0
    have h4 : ∀ x ∈ ps ++ [(pa3 (by3 n t) p).2.1], ok1 x := fun x hx => by
      rcases List.mem_append.mp hx with h | h
      · exact h3 x h
      · rw [List.mem_singleton.mp h]
        exact k.1
    have h5 : ((ps ++ [(pa3 (by3 n t) p).2.1]).length : Int) = ps.length + 1 := by simp
    by_cases q2 : n ≤ (pa3 (by3 n t) p).2.2
    · rw [if_pos q2]
      exact ⟨h4, by show ((ps ++ [(pa3 (by3 n t) p).2.1]).length : Int) ≤ 50; omega⟩
    rw [if_neg q2]
    by_cases q3 : by3 n t (pa3 (by3 n t) p).2.2 = 59
    · rw [if_pos q3]
      exact pz3_ok hn f _ _ (by omega) (by omega) (by omega) h4
    · rw [if_neg q3]
      exact ⟨h4, by show ((ps ++ [(pa3 (by3 n t) p).2.1]).length : Int) ≤ 50; omega⟩
theorem lwL_ok {n : Int} (t : Int → Int) (hn : 0 ≤ n ∧ n ≤ 200) : (∀ k : Int, 0 ≤ k → k < (lwL n t).length → ok1 (gp3 (lwL n t) k)) ∧ ((lwL n t).length : Int) ≤ 50 := by
  have h := pz3_ok (t := t) hn.2 51 0 [] (by omega) (by simp) hn.1 (fun x hx => by cases hx)
  unfold lwL
  by_cases q : lwF n t = -1
  · rw [if_pos q]
    refine ⟨fun k h0 h1 => h.1 _ ?_, h.2⟩
    have h2 : k.toNat < (lwA n t).2.length := by omega
    unfold gp3
    rw [List.getD_eq_getElem?_getD, List.getElem?_eq_getElem h2]
    exact List.getElem_mem h2
  · rw [if_neg q]
    exact ⟨fun k h0 h1 => by simp at h1; omega, by simp⟩
