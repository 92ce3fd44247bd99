section G3X
variable {E : E3} {Y : Y3} {Q : Q3} {pc : Nat} {lv : List (Nat × V3)} {st : List V3} {M : M3}
theorem t3_tr (x : Int32) : -2147483648 ≤ x.toInt ∧ x.toInt ≤ 2147483647 := ⟨Int32.minValue_le_toInt x, Int32.toInt_le x⟩
theorem cg3 {f g : Int → Int → Int} (h : f = g) (i j : Int) : f i j = g i j := by rw [h]
theorem up3_nr {r r' : Nat} {i j v i' j' : Int} (h : r' ≠ r) : up3 M r i j v r' i' j' = M r' i' j' := by
  unfold up3
  rw [if_neg (fun q => h q.1)]
theorem up3_ni {r r' : Nat} {i j v i' j' : Int} (h : i' ≠ i) : up3 M r i j v r' i' j' = M r' i' j' := by
  unfold up3
  rw [if_neg (fun q => h q.2.1)]
theorem up3_nj {r r' : Nat} {i j v i' j' : Int} (h : j' ≠ j) : up3 M r i j v r' i' j' = M r' i' j' := by
  unfold up3
  rw [if_neg (fun q => h q.2.2)]
theorem up3_eq {r : Nat} {i j v : Int} : up3 M r i j v r i j = v := by
  unfold up3
  rw [if_pos ⟨rfl, rfl, rfl⟩]
theorem up3_r {r r' : Nat} {i j v : Int} (h : r' ≠ r) : up3 M r i j v r' = M r' := by
  funext i' j'
  exact up3_nr h
def bo3 (P : Prop) [Decidable P] : Int := if P then 1 else 0
theorem bo3_01 (P : Prop) [Decidable P] : bo3 P = 0 ∨ bo3 P = 1 := by
  unfold bo3
  split
  · exact Or.inr rfl
  · exact Or.inl rfl
theorem bo3_rg (P : Prop) [Decidable P] : -2147483648 ≤ bo3 P ∧ bo3 P ≤ 2147483647 := by
  rcases bo3_01 P with h | h <;> rw [h] <;> decide
theorem bo3_eq0 {P : Prop} [Decidable P] : bo3 P = 0 ↔ ¬ P := by
  unfold bo3
  split <;> simp [*]
theorem bo3_eq1 {P : Prop} [Decidable P] : bo3 P = 1 ↔ P := by
  unfold bo3
  split <;> simp [*]
theorem bo3_t {P : Prop} [Decidable P] (h : P) : bo3 P = 1 := bo3_eq1.mpr h
theorem bo3_f {P : Prop} [Decidable P] (h : ¬ P) : bo3 P = 0 := bo3_eq0.mpr h
theorem g3_val {x y : Int} (h : x = y) (k : G3 E Y Q pc lv (vI y :: st) M) : G3 E Y Q pc lv (vI x :: st) M := by
  rw [h]
  exact k
theorem g3_r1 {v : V3} (k : G3 E Y Q pc lv (v :: st) M) : G3 E Y Q pc lv ((some v).toList ++ st) M := k
theorem g3_r0 (k : G3 E Y Q pc lv st M) : G3 E Y Q pc lv ((none : Option V3).toList ++ st) M := k
theorem g3_bool_eq {P : Prop} [Decidable P] {off : Int} {tgt : Nat} (hd : decode Y.2.1 pc = .ok (.ifCond .eq off, 3)) (ht : (pc : Int) + off = (tgt : Int)) (kt : ¬ P → G3 E Y Q tgt lv st M) (kf : P → G3 E Y Q (pc + 3) lv st M) : G3 E Y Q pc lv (vI (bo3 P) :: st) M :=
  g3_if_eq hd ht (bo3_rg P) (fun h => kt (bo3_eq0.mp h)) (fun h => kf (Classical.byContradiction fun q => h (bo3_eq0.mpr q)))
theorem g3_bool_ne {P : Prop} [Decidable P] {off : Int} {tgt : Nat} (hd : decode Y.2.1 pc = .ok (.ifCond .ne off, 3)) (ht : (pc : Int) + off = (tgt : Int)) (kt : P → G3 E Y Q tgt lv st M) (kf : ¬ P → G3 E Y Q (pc + 3) lv st M) : G3 E Y Q pc lv (vI (bo3 P) :: st) M :=
  g3_if_ne hd ht (bo3_rg P) (fun h => kt (Classical.byContradiction fun q => h (bo3_eq0.mpr q))) (fun h => kf (bo3_eq0.mp h))
theorem g3_icmp_eq_T {x y off : Int} {tgt : Nat} (hd : decode Y.2.1 pc = .ok (.if_icmp .eq off, 3)) (ht : (pc : Int) + off = (tgt : Int)) (h0 : True) (h : -2147483648 ≤ x ∧ x ≤ 2147483647 ∧ -2147483648 ≤ y ∧ y ≤ 2147483647 ∧ x = y) (k : G3 E Y Q tgt lv st M) : G3 E Y Q pc lv (vI y :: vI x :: st) M :=
  g3_icmp_eq hd ht ⟨h.1, h.2.1⟩ ⟨h.2.2.1, h.2.2.2.1⟩ (fun _ => k) (fun c => absurd h.2.2.2.2 c)
theorem g3_icmp_eq_F {x y off : Int} {tgt : Nat} (hd : decode Y.2.1 pc = .ok (.if_icmp .eq off, 3)) (ht : (pc : Int) + off = (tgt : Int)) (h0 : True) (h : -2147483648 ≤ x ∧ x ≤ 2147483647 ∧ -2147483648 ≤ y ∧ y ≤ 2147483647 ∧ x ≠ y) (k : G3 E Y Q (pc + 3) lv st M) : G3 E Y Q pc lv (vI y :: vI x :: st) M :=
  g3_icmp_eq hd ht ⟨h.1, h.2.1⟩ ⟨h.2.2.1, h.2.2.2.1⟩ (fun c => absurd c h.2.2.2.2) (fun _ => k)
theorem g3_if_eq_T {x off : Int} {tgt : Nat} (hd : decode Y.2.1 pc = .ok (.ifCond .eq off, 3)) (ht : (pc : Int) + off = (tgt : Int)) (h : -2147483648 ≤ x ∧ x ≤ 2147483647 ∧ x = 0) (k : G3 E Y Q tgt lv st M) : G3 E Y Q pc lv (vI x :: st) M :=
  g3_if_eq hd ht ⟨h.1, h.2.1⟩ (fun _ => k) (fun c => absurd h.2.2 c)
theorem g3_if_eq_F {x off : Int} {tgt : Nat} (hd : decode Y.2.1 pc = .ok (.ifCond .eq off, 3)) (ht : (pc : Int) + off = (tgt : Int)) (h : -2147483648 ≤ x ∧ x ≤ 2147483647 ∧ x ≠ 0) (k : G3 E Y Q (pc + 3) lv st M) : G3 E Y Q pc lv (vI x :: st) M :=
  g3_if_eq hd ht ⟨h.1, h.2.1⟩ (fun c => absurd c h.2.2) (fun _ => k)
theorem g3_icmp_ne_T {x y off : Int} {tgt : Nat} (hd : decode Y.2.1 pc = .ok (.if_icmp .ne off, 3)) (ht : (pc : Int) + off = (tgt : Int)) (h0 : True) (h : -2147483648 ≤ x ∧ x ≤ 2147483647 ∧ -2147483648 ≤ y ∧ y ≤ 2147483647 ∧ x ≠ y) (k : G3 E Y Q tgt lv st M) : G3 E Y Q pc lv (vI y :: vI x :: st) M :=
  g3_icmp_ne hd ht ⟨h.1, h.2.1⟩ ⟨h.2.2.1, h.2.2.2.1⟩ (fun _ => k) (fun c => absurd c h.2.2.2.2)
theorem g3_icmp_ne_F {x y off : Int} {tgt : Nat} (hd : decode Y.2.1 pc = .ok (.if_icmp .ne off, 3)) (ht : (pc : Int) + off = (tgt : Int)) (h0 : True) (h : -2147483648 ≤ x ∧ x ≤ 2147483647 ∧ -2147483648 ≤ y ∧ y ≤ 2147483647 ∧ x = y) (k : G3 E Y Q (pc + 3) lv st M) : G3 E Y Q pc lv (vI y :: vI x :: st) M :=
  g3_icmp_ne hd ht ⟨h.1, h.2.1⟩ ⟨h.2.2.1, h.2.2.2.1⟩ (fun c => absurd h.2.2.2.2 c) (fun _ => k)
theorem g3_if_ne_T {x off : Int} {tgt : Nat} (hd : decode Y.2.1 pc = .ok (.ifCond .ne off, 3)) (ht : (pc : Int) + off = (tgt : Int)) (h : -2147483648 ≤ x ∧ x ≤ 2147483647 ∧ x ≠ 0) (k : G3 E Y Q tgt lv st M) : G3 E Y Q pc lv (vI x :: st) M :=
  g3_if_ne hd ht ⟨h.1, h.2.1⟩ (fun _ => k) (fun c => absurd c h.2.2)
theorem g3_if_ne_F {x off : Int} {tgt : Nat} (hd : decode Y.2.1 pc = .ok (.ifCond .ne off, 3)) (ht : (pc : Int) + off = (tgt : Int)) (h : -2147483648 ≤ x ∧ x ≤ 2147483647 ∧ x = 0) (k : G3 E Y Q (pc + 3) lv st M) : G3 E Y Q pc lv (vI x :: st) M :=
  g3_if_ne hd ht ⟨h.1, h.2.1⟩ (fun c => absurd h.2.2 c) (fun _ => k)
theorem g3_icmp_lt_T {x y off : Int} {tgt : Nat} (hd : decode Y.2.1 pc = .ok (.if_icmp .lt off, 3)) (ht : (pc : Int) + off = (tgt : Int)) (h0 : True) (h : -2147483648 ≤ x ∧ x ≤ 2147483647 ∧ -2147483648 ≤ y ∧ y ≤ 2147483647 ∧ x < y) (k : G3 E Y Q tgt lv st M) : G3 E Y Q pc lv (vI y :: vI x :: st) M :=
  g3_icmp_lt hd ht ⟨h.1, h.2.1⟩ ⟨h.2.2.1, h.2.2.2.1⟩ (fun _ => k) (fun c => absurd h.2.2.2.2 (Int.not_lt.mpr c))
theorem g3_icmp_lt_F {x y off : Int} {tgt : Nat} (hd : decode Y.2.1 pc = .ok (.if_icmp .lt off, 3)) (ht : (pc : Int) + off = (tgt : Int)) (h0 : True) (h : -2147483648 ≤ x ∧ x ≤ 2147483647 ∧ -2147483648 ≤ y ∧ y ≤ 2147483647 ∧ y ≤ x) (k : G3 E Y Q (pc + 3) lv st M) : G3 E Y Q pc lv (vI y :: vI x :: st) M :=
  g3_icmp_lt hd ht ⟨h.1, h.2.1⟩ ⟨h.2.2.1, h.2.2.2.1⟩ (fun c => absurd c (Int.not_lt.mpr h.2.2.2.2)) (fun _ => k)
theorem g3_if_lt_T {x off : Int} {tgt : Nat} (hd : decode Y.2.1 pc = .ok (.ifCond .lt off, 3)) (ht : (pc : Int) + off = (tgt : Int)) (h : -2147483648 ≤ x ∧ x ≤ 2147483647 ∧ x < 0) (k : G3 E Y Q tgt lv st M) : G3 E Y Q pc lv (vI x :: st) M :=
  g3_if_lt hd ht ⟨h.1, h.2.1⟩ (fun _ => k) (fun c => absurd h.2.2 (Int.not_lt.mpr c))
theorem g3_if_lt_F {x off : Int} {tgt : Nat} (hd : decode Y.2.1 pc = .ok (.ifCond .lt off, 3)) (ht : (pc : Int) + off = (tgt : Int)) (h : -2147483648 ≤ x ∧ x ≤ 2147483647 ∧ 0 ≤ x) (k : G3 E Y Q (pc + 3) lv st M) : G3 E Y Q pc lv (vI x :: st) M :=
  g3_if_lt hd ht ⟨h.1, h.2.1⟩ (fun c => absurd c (Int.not_lt.mpr h.2.2)) (fun _ => k)
theorem g3_icmp_ge_T {x y off : Int} {tgt : Nat} (hd : decode Y.2.1 pc = .ok (.if_icmp .ge off, 3)) (ht : (pc : Int) + off = (tgt : Int)) (h0 : True) (h : -2147483648 ≤ x ∧ x ≤ 2147483647 ∧ -2147483648 ≤ y ∧ y ≤ 2147483647 ∧ y ≤ x) (k : G3 E Y Q tgt lv st M) : G3 E Y Q pc lv (vI y :: vI x :: st) M :=
  g3_icmp_ge hd ht ⟨h.1, h.2.1⟩ ⟨h.2.2.1, h.2.2.2.1⟩ (fun _ => k) (fun c => absurd h.2.2.2.2 (Int.not_le.mpr c))
theorem g3_icmp_ge_F {x y off : Int} {tgt : Nat} (hd : decode Y.2.1 pc = .ok (.if_icmp .ge off, 3)) (ht : (pc : Int) + off = (tgt : Int)) (h0 : True) (h : -2147483648 ≤ x ∧ x ≤ 2147483647 ∧ -2147483648 ≤ y ∧ y ≤ 2147483647 ∧ x < y) (k : G3 E Y Q (pc + 3) lv st M) : G3 E Y Q pc lv (vI y :: vI x :: st) M :=
  g3_icmp_ge hd ht ⟨h.1, h.2.1⟩ ⟨h.2.2.1, h.2.2.2.1⟩ (fun c => absurd c (Int.not_le.mpr h.2.2.2.2)) (fun _ => k)
theorem g3_if_ge_T {x off : Int} {tgt : Nat} (hd : decode Y.2.1 pc = .ok (.ifCond .ge off, 3)) (ht : (pc : Int) + off = (tgt : Int)) (h : -2147483648 ≤ x ∧ x ≤ 2147483647 ∧ 0 ≤ x) (k : G3 E Y Q tgt lv st M) : G3 E Y Q pc lv (vI x :: st) M :=
  g3_if_ge hd ht ⟨h.1, h.2.1⟩ (fun _ => k) (fun c => absurd h.2.2 (Int.not_le.mpr c))
theorem g3_if_ge_F {x off : Int} {tgt : Nat} (hd : decode Y.2.1 pc = .ok (.ifCond .ge off, 3)) (ht : (pc : Int) + off = (tgt : Int)) (h : -2147483648 ≤ x ∧ x ≤ 2147483647 ∧ x < 0) (k : G3 E Y Q (pc + 3) lv st M) : G3 E Y Q pc lv (vI x :: st) M :=
  g3_if_ge hd ht ⟨h.1, h.2.1⟩ (fun c => absurd c (Int.not_le.mpr h.2.2)) (fun _ => k)
theorem g3_icmp_gt_T {x y off : Int} {tgt : Nat} (hd : decode Y.2.1 pc = .ok (.if_icmp .gt off, 3)) (ht : (pc : Int) + off = (tgt : Int)) (h0 : True) (h : -2147483648 ≤ x ∧ x ≤ 2147483647 ∧ -2147483648 ≤ y ∧ y ≤ 2147483647 ∧ y < x) (k : G3 E Y Q tgt lv st M) : G3 E Y Q pc lv (vI y :: vI x :: st) M :=
  g3_icmp_gt hd ht ⟨h.1, h.2.1⟩ ⟨h.2.2.1, h.2.2.2.1⟩ (fun _ => k) (fun c => absurd h.2.2.2.2 (Int.not_lt.mpr c))
theorem g3_icmp_gt_F {x y off : Int} {tgt : Nat} (hd : decode Y.2.1 pc = .ok (.if_icmp .gt off, 3)) (ht : (pc : Int) + off = (tgt : Int)) (h0 : True) (h : -2147483648 ≤ x ∧ x ≤ 2147483647 ∧ -2147483648 ≤ y ∧ y ≤ 2147483647 ∧ x ≤ y) (k : G3 E Y Q (pc + 3) lv st M) : G3 E Y Q pc lv (vI y :: vI x :: st) M :=
  g3_icmp_gt hd ht ⟨h.1, h.2.1⟩ ⟨h.2.2.1, h.2.2.2.1⟩ (fun c => absurd c (Int.not_lt.mpr h.2.2.2.2)) (fun _ => k)
theorem g3_if_gt_T {x off : Int} {tgt : Nat} (hd : decode Y.2.1 pc = .ok (.ifCond .gt off, 3)) (ht : (pc : Int) + off = (tgt : Int)) (h : -2147483648 ≤ x ∧ x ≤ 2147483647 ∧ 0 < x) (k : G3 E Y Q tgt lv st M) : G3 E Y Q pc lv (vI x :: st) M :=
  g3_if_gt hd ht ⟨h.1, h.2.1⟩ (fun _ => k) (fun c => absurd h.2.2 (Int.not_lt.mpr c))
theorem g3_if_gt_F {x off : Int} {tgt : Nat} (hd : decode Y.2.1 pc = .ok (.ifCond .gt off, 3)) (ht : (pc : Int) + off = (tgt : Int)) (h : -2147483648 ≤ x ∧ x ≤ 2147483647 ∧ x ≤ 0) (k : G3 E Y Q (pc + 3) lv st M) : G3 E Y Q pc lv (vI x :: st) M :=
  g3_if_gt hd ht ⟨h.1, h.2.1⟩ (fun c => absurd c (Int.not_lt.mpr h.2.2)) (fun _ => k)
theorem g3_icmp_le_T {x y off : Int} {tgt : Nat} (hd : decode Y.2.1 pc = .ok (.if_icmp .le off, 3)) (ht : (pc : Int) + off = (tgt : Int)) (h0 : True) (h : -2147483648 ≤ x ∧ x ≤ 2147483647 ∧ -2147483648 ≤ y ∧ y ≤ 2147483647 ∧ x ≤ y) (k : G3 E Y Q tgt lv st M) : G3 E Y Q pc lv (vI y :: vI x :: st) M :=
  g3_icmp_le hd ht ⟨h.1, h.2.1⟩ ⟨h.2.2.1, h.2.2.2.1⟩ (fun _ => k) (fun c => absurd h.2.2.2.2 (Int.not_le.mpr c))
theorem g3_icmp_le_F {x y off : Int} {tgt : Nat} (hd : decode Y.2.1 pc = .ok (.if_icmp .le off, 3)) (ht : (pc : Int) + off = (tgt : Int)) (h0 : True) (h : -2147483648 ≤ x ∧ x ≤ 2147483647 ∧ -2147483648 ≤ y ∧ y ≤ 2147483647 ∧ y < x) (k : G3 E Y Q (pc + 3) lv st M) : G3 E Y Q pc lv (vI y :: vI x :: st) M :=
  g3_icmp_le hd ht ⟨h.1, h.2.1⟩ ⟨h.2.2.1, h.2.2.2.1⟩ (fun c => absurd c (Int.not_le.mpr h.2.2.2.2)) (fun _ => k)
theorem g3_if_le_T {x off : Int} {tgt : Nat} (hd : decode Y.2.1 pc = .ok (.ifCond .le off, 3)) (ht : (pc : Int) + off = (tgt : Int)) (h : -2147483648 ≤ x ∧ x ≤ 2147483647 ∧ x ≤ 0) (k : G3 E Y Q tgt lv st M) : G3 E Y Q pc lv (vI x :: st) M :=
  g3_if_le hd ht ⟨h.1, h.2.1⟩ (fun _ => k) (fun c => absurd h.2.2 (Int.not_le.mpr c))
theorem g3_if_le_F {x off : Int} {tgt : Nat} (hd : decode Y.2.1 pc = .ok (.ifCond .le off, 3)) (ht : (pc : Int) + off = (tgt : Int)) (h : -2147483648 ≤ x ∧ x ≤ 2147483647 ∧ 0 < x) (k : G3 E Y Q (pc + 3) lv st M) : G3 E Y Q pc lv (vI x :: st) M :=
  g3_if_le hd ht ⟨h.1, h.2.1⟩ (fun c => absurd c (Int.not_le.mpr h.2.2)) (fun _ => k)
theorem g3_max {x y : Int} {idx : Nat} (hd : decode Y.2.1 pc = .ok (.invokestatic idx, 3)) (hl2 : Cond.methodLink Y.1.cls idx ⟨"java/lang/Math", "max", "(II)I"⟩ ∈ gt3) (hh : 1 ≤ Y.2.2.2.2) (hs : (st.map ct3).sum ≤ 8) (hx : -2147483648 ≤ x ∧ x ≤ 2147483647) (hy : -2147483648 ≤ y ∧ y ≤ 2147483647) (k : G3 E Y Q (pc + 3) lv (vI (max x y) :: st) M) : G3 E Y Q pc lv (vI y :: vI x :: st) M := by
  intro p e R s m args below meth c cells slots Z H locs ls hA hM hP hS hl
  have hts := hA.2.2.2.2.1
  have hR := hA.2.2.2.2.2.1
  refine va_mmax (ls := ls) hA.1 hA.2.1 (hA.2.2.1.trans hl.1.symm) hA.2.2.2.1 (hts _ hl2) (hts _ (mem3 808 (by decide +kernel) rfl)) (hts _ (mem3 92 (by decide +kernel) rfl)) (hts _ (mem3 809 (by decide +kernel) rfl)) (Nat.le_trans hh hR.1) ?_ hR.2.2.1 hR.2.2.2 hd ?_
  · have h1 := g3_stk (E := E) hs
    have h2 := hR.2.1
    show ((st.map (cv3 (ad3 E))).map fun v => v.category).sum + 13 ≤ R.locals
    omega
  have h9 : (if Int32.ofInt x < Int32.ofInt y then Int32.ofInt y else Int32.ofInt x) = Int32.ofInt (max x y) := by
    by_cases q : x < y
    · rw [if_pos ((t3_lt hx hy).mpr q), show max x y = y by omega]
    · rw [if_neg (fun z => q ((t3_lt hx hy).mp z)), show max x y = x by omega]
  rw [h9]
  exact k p e R s m args below meth c cells slots Z H locs ls hA hM hP hS hl
theorem g3_min {x y : Int} {idx : Nat} (hd : decode Y.2.1 pc = .ok (.invokestatic idx, 3)) (hl2 : Cond.methodLink Y.1.cls idx ⟨"java/lang/Math", "min", "(II)I"⟩ ∈ gt3) (hh : 1 ≤ Y.2.2.2.2) (hs : (st.map ct3).sum ≤ 8) (hx : -2147483648 ≤ x ∧ x ≤ 2147483647) (hy : -2147483648 ≤ y ∧ y ≤ 2147483647) (k : G3 E Y Q (pc + 3) lv (vI (min x y) :: st) M) : G3 E Y Q pc lv (vI y :: vI x :: st) M := by
  intro p e R s m args below meth c cells slots Z H locs ls hA hM hP hS hl
  have hts := hA.2.2.2.2.1
  have hR := hA.2.2.2.2.2.1
  refine va_mmin (ls := ls) hA.1 hA.2.1 (hA.2.2.1.trans hl.1.symm) hA.2.2.2.1 (hts _ hl2) (hts _ (mem3 801 (by decide +kernel) rfl)) (hts _ (mem3 92 (by decide +kernel) rfl)) (hts _ (mem3 802 (by decide +kernel) rfl)) (Nat.le_trans hh hR.1) ?_ hR.2.2.1 hR.2.2.2 hd ?_
  · have h1 := g3_stk (E := E) hs
    have h2 := hR.2.1
    show ((st.map (cv3 (ad3 E))).map fun v => v.category).sum + 13 ≤ R.locals
    omega
  have h9 : (if Int32.ofInt y < Int32.ofInt x then Int32.ofInt y else Int32.ofInt x) = Int32.ofInt (min x y) := by
    by_cases q : y < x
    · rw [if_pos ((t3_lt hy hx).mpr q), show min x y = y by omega]
    · rw [if_neg (fun z => q ((t3_lt hy hx).mp z)), show min x y = x by omega]
  rw [h9]
  exact k p e R s m args below meth c cells slots Z H locs ls hA hM hP hS hl
/-- n items of the array i of region r, from sp on, come to its array j, from dp on -/
def cp3 (M : M3) (r : Nat) (i sp j dp n : Int) : M3 := fun r' i' j' => if r' = r ∧ i' = j ∧ dp ≤ j' ∧ j' < dp + n then M r i (sp + (j' - dp)) else M r' i' j'
theorem RM3.cp (h : RM3 M) {r : Nat} {i sp j dp n : Int} : RM3 (cp3 M r i sp j dp n) := by
  intro r' i' j'
  unfold cp3
  split
  · exact h _ _ _
  · exact h _ _ _
theorem g3_acopy {r idx : Nat} {i j sp dp n nz : Int} {lz : Int} (hd : decode Y.2.1 pc = .ok (.invokestatic idx, 3)) (hl2 : Cond.methodLink Y.1.cls idx arraycopyName ∈ gt3) (ha : ar3 0 r nz lz) (hh : 1 ≤ Y.2.2.2.2) (hs : (st.map ct3).sum ≤ 8) (hi : 0 ≤ i ∧ i < nz) (hj : 0 ≤ j ∧ j < nz) (ho : 0 ≤ sp ∧ 0 ≤ dp ∧ 0 ≤ n ∧ sp + n ≤ lz ∧ dp + n ≤ lz) (k : G3 E Y Q (pc + 3) lv st (cp3 M r i sp j dp n)) : G3 E Y Q pc lv (vI n :: vI dp :: vR r j :: vI sp :: vR r i :: st) M := by
  intro p e R s m args below meth c cells slots Z H locs ls hA hM hP hS hl
  obtain ⟨kk, h1, h2, h3, h4, h5⟩ := ha
  obtain ⟨i', rfl⟩ := Int.eq_ofNat_of_zero_le hi.1
  obtain ⟨j', rfl⟩ := Int.eq_ofNat_of_zero_le hj.1
  obtain ⟨sp', rfl⟩ := Int.eq_ofNat_of_zero_le ho.1
  obtain ⟨dp', rfl⟩ := Int.eq_ofNat_of_zero_le ho.2.1
  obtain ⟨n', rfl⟩ := Int.eq_ofNat_of_zero_le ho.2.2.1
  obtain ⟨q0, hq, hw⟩ := wl3_at E M (i := i') h1 (by omega)
  obtain ⟨q1, hq1, hw1⟩ := wl3_at E M (i := j') h1 (by omega)
  rw [el3_0 h2] at hw hw1
  have hts := hA.2.2.2.2.1
  have hR := hA.2.2.2.2.2.1
  have e1 : (Int32.ofInt (sp' : Int)).toNatClampNeg = sp' := t3_cl (by omega)
  have e2 : (Int32.ofInt (dp' : Int)).toNatClampNeg = dp' := t3_cl (by omega)
  have e3 : (Int32.ofInt (n' : Int)).toNatClampNeg = n' := t3_cl (by omega)
  have neg : ∀ z : Int, 0 ≤ z ∧ z ≤ 2147483647 → ¬ Int32.ofInt z < 0 := fun z hz q => by
    rw [t3_0, t3_lt (by omega) (by omega)] at q
    omega
  refine va_copyi (ls := ls) hA.1 hA.2.1 (hA.2.2.1.trans hl.1.symm) hA.2.2.2.1 (hts _ hl2) (hts _ (mem3 1182 (by decide +kernel) rfl)) (hts _ (mem3 1181 (by decide +kernel) rfl)) (hts _ (mem3 94 (by decide +kernel) rfl)) hA.2.2.2.2.2.2.1 hP (hA.2.2.2.2.2.2.2.2.2.1.D M) hS q0 q1 0 0 hw hw1 rfl rfl rfl (neg _ (by omega)) (neg _ (by omega)) (neg _ (by omega)) (by rw [e1, e3]; omega) (by rw [e2, e3]; omega) (fun _ _ => rfl) (Nat.le_trans hh hR.1) ?_ hd (fun H1 locs1 hP1 _ hS1 => ?_)
  · have h9 := g3_stk (E := E) hs
    have h10 := hR.2.1
    have h11 : nativeFrameWords "java/lang/System" "arraycopy" 5 + 11 ≤ 31 := by decide +kernel
    show ((st.map (cv3 (ad3 E))).map fun v => v.category).sum + _ ≤ R.locals
    omega
  · refine k p e R s m args below meth c cells slots Z H1 locs1 ls hA hM.cp (wl3_up hA.2.2.2.2.2.2.2.2.2.1 h1 hq1 ?_ (fun r' i'' hne => ?_) hP1) hS1 hl
    · rw [el3_0 h2, e1, e2, e3]
      refine congrArg (fun z => (ad3 E r j', (Sum.inl (ca3 E 0, kk.2.2.1, Sum.inl z) : va_E))) ?_
      funext q
      unfold va_cpy cp3
      by_cases hc : dp' ≤ q ∧ q < dp' + n'
      · rw [if_pos hc, if_pos ⟨rfl, rfl, by omega, by omega⟩]
        show Int32.ofInt (M r i' ((sp' + (q - dp') : Nat) : Int)) = _
        rw [show ((sp' + (q - dp') : Nat) : Int) = (sp' : Int) + ((q : Int) - (dp' : Int)) by omega]
      · rw [if_neg hc, if_neg (fun z => hc (by omega))]
    · have hf : ∀ z : Int, cp3 M r i' sp' j' dp' n' r' i'' z = M r' i'' z := fun z => by
        unfold cp3
        rw [if_neg (fun q => hne ⟨q.1, by omega⟩)]
      have hg : ∀ (cs : List Nat) (j0 : Nat), fv3 (ad3 E) (cp3 M r i' sp' j' dp' n') r' i'' j0 cs = fv3 (ad3 E) M r' i'' j0 cs := by
        intro cs
        induction cs with
        | nil => intro j0; rfl
        | cons a cs ih =>
          intro j0
          show _ :: fv3 (ad3 E) _ r' i'' (j0 + 1) cs = _ :: fv3 (ad3 E) _ r' i'' (j0 + 1) cs
          rw [ih (j0 + 1), hf]
      unfold el3
      simp only [hf, hg]
end G3X
