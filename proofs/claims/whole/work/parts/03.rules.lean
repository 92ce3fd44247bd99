/-! THE WALK'S OWN JUDGEMENT: G3 E Y Q pc lv st M: from the frame at pc of method Y, whose locals are lv, stack st, over any heap that holds memory M, the machine comes to Y's end with Q of the answer and the memory -/
def ws3 (Y : Y3) : List Cond := Cond.code Y.1 Y.2.1 Y.2.2.1 Y.2.2.2.1 :: gt3
def rm3 (h : Nat) : Room := { frames := h, cells := 0, slots := 0, locals := 39 * h }
def tys3 (E : E3) : List (ClassId × FieldType) := [(ca3 E 0, .int), (ca3 E 1, .boolean), (ca3 E 2, .object RX8), (ca3 E 3, .object RX3), (ca3 E 4, .object RX9), (ca3 E 5, .array .int)]
abbrev D3 (E : E3) : va_G := E.2.1
abbrev b3 (E : E3) : Nat := E.2.2.2.2.2.1
abbrev L3 (E : E3) : Nat := E.2.2.2.2.2.2.1
abbrev xs3 (E : E3) : Nat → Int32 := E.2.2.2.2.2.2.2
def nst3 (U : State) : Prop := ∀ w ∈ nl3, va_Nw w U
def wo3 (E : E3) (M : M3) (U : State) : Prop := RM3 M ∧ ok3 E ∧ nst3 U ∧ va_P (D3 E) vwCl (wl3 E M) U.heap ∧ va_K (D3 E) vwCl (tys3 E) U ∧ va_X (b3 E) (L3 E) (xs3 E) U U.heap ∧ b3 E < U.heap.size ∧ ¬ A3 E (b3 E)
abbrev Q3 : Type := Option V3 → M3 → Prop
def qc3 (E : E3) (Q : Q3) : Array Value → State → Outcome → State → Prop := fun _ st oc t => (∃ (v : Option V3) (M : M3), oc = .returned (v.map (cv3 (ad3 E))) ∧ Q v M ∧ RM3 M ∧ va_P (D3 E) vwCl (wl3 E M) t.heap) ∧ va_F (A3 E) st t
/-- the contract of a call -/
def C3 (E : E3) (Y : Y3) (as : List V3) (M : M3) (Q : Q3) : Prop := RM3 M → Met E.1 Y.1 (ws3 Y) (rm3 Y.2.2.2.2) (va_Pc (as.map (cv3 (ad3 E))) (wo3 E M)) (qc3 E Q) 0 0 (A3 E)
/-- the answer fits the method's end -/
def en3 (Y : Y3) (pc : Nat) (v : Option V3) : Prop := match v with
  | none => decode Y.2.1 pc = .ok (.return_, 1) ∧ Y.2.2.2.1 = none
  | some (.inl x) => decode Y.2.1 pc = .ok (.ireturn, 1) ∧ (Y.2.2.2.1 = some .int ∨ (Y.2.2.2.1 = some .boolean ∧ (x = 0 ∨ x = 1)))
  | some (.inr (.inl _)) => decode Y.2.1 pc = .ok (.lreturn, 1) ∧ Y.2.2.2.1 = some .long
  | some (.inr (.inr _)) => decode Y.2.1 pc = .ok (.areturn, 1) ∧ ∃ C, Y.2.2.2.1 = some (.object C)
def fin3 (E : E3) (Y : Y3) (Q : Q3) (p : Program) (e : Env) (R : Room) (s : State) (m : MethodId) (args : Array Value) (below : List Frame) (meth : Method) (c : Code) (cells slots : Nat) (Z : State → Prop) : Prop :=
  ∀ (v : Option V3) (M : M3) (H : Heap) (locs : List Loc) (ls : Array Slot) (pc : Nat), en3 Y pc v → RM3 M → va_P (D3 E) vwCl (wl3 E M) H → va_S (A3 E) s.heap H locs → Q v M → W p E.1 e R s m args below meth c H locs cells slots Z (F0 m pc ls (v.toList.map (cv3 (ad3 E))))
def Ac3 (E : E3) (Y : Y3) (Q : Q3) (p : Program) (e : Env) (R : Room) (s : State) (m : MethodId) (args : Array Value) (below : List Frame) (meth : Method) (c : Code) (cells slots : Nat) (Z : State → Prop) : Prop :=
  p.tables.exec = Jvm.exec ∧ c.code = Y.2.1 ∧ c.maxLocals = Y.2.2.1 ∧ s.vm.findClass Y.1.cls = some m.cls ∧ (∀ w ∈ gt3, w.before args s = true) ∧ (Y.2.2.2.2 ≤ R.frames ∧ 39 * Y.2.2.2.2 ≤ R.locals ∧ cells ≤ R.cells ∧ slots ≤ R.slots) ∧ va_K (D3 E) vwCl (tys3 E) s ∧ (va_X (b3 E) (L3 E) (xs3 E) s s.heap ∧ b3 E < s.heap.size ∧ ¬ A3 E (b3 E)) ∧ nst3 s ∧ ok3 E ∧ fin3 E Y Q p e R s m args below meth c cells slots Z
def G3 (E : E3) (Y : Y3) (Q : Q3) (pc : Nat) (lv : List (Nat × V3)) (st : List V3) (M : M3) : Prop :=
  ∀ (p : Program) (e : Env) (R : Room) (s : State) (m : MethodId) (args : Array Value) (below : List Frame) (meth : Method) (c : Code) (cells slots : Nat) (Z : State → Prop) (H : Heap) (locs : List Loc) (ls : Array Slot), Ac3 E Y Q p e R s m args below meth c cells slots Z → RM3 M → va_P (D3 E) vwCl (wl3 E M) H → va_S (A3 E) s.heap H locs → lv_has ls Y.2.2.1 (lv.map fun q => (q.1, cv3 (ad3 E) q.2)) → W p E.1 e R s m args below meth c H locs cells slots Z (F0 m pc ls (st.map (cv3 (ad3 E))))
section G3S
variable {E : E3} {Y : Y3} {Q : Q3} {pc : Nat} {lv lv' : List (Nat × V3)} {st : List V3} {M : M3}
theorem g3_rm (h : RM3 M → G3 E Y Q pc lv st M) : G3 E Y Q pc lv st M := by
  intro p e R s m args below meth c cells slots Z H locs ls hA hM hP hS hl
  exact h hM p e R s m args below meth c cells slots Z H locs ls hA hM hP hS hl
theorem g3_at {ls : Array Slot} {ad : Nat → Nat → Nat} {nL : Nat} (hl : lv_has ls nL (lv.map fun q => (q.1, cv3 ad q.2))) (k : Nat) {i : Nat} {v : V3} (h : lv[k]? = some (i, v)) : ls[i]? = some (.val (cv3 ad v)) := by
  refine lv_at hl k ?_
  rw [List.getElem?_map, h]
  rfl
theorem g3_iconst {n : Int} (hd : decode Y.2.1 pc = .ok (.iconst n, 1)) (k : G3 E Y Q (pc + 1) lv (vI n :: st) M) : G3 E Y Q pc lv st M := by
  intro p e R s m args below meth c cells slots Z H locs ls hA hM hP hS hl
  exact lv_iconst hA.1 hA.2.1 hd rfl (k p e R s m args below meth c cells slots Z H locs ls hA hM hP hS hl)
theorem g3_bipush {n : Int} (hd : decode Y.2.1 pc = .ok (.bipush n, 2)) (hn : (Int8.ofInt n).toInt32 = Int32.ofInt n) (k : G3 E Y Q (pc + 2) lv (vI n :: st) M) : G3 E Y Q pc lv st M := by
  intro p e R s m args below meth c cells slots Z H locs ls hA hM hP hS hl
  exact lv_bipush hA.1 hA.2.1 hd hn (k p e R s m args below meth c cells slots Z H locs ls hA hM hP hS hl)
theorem g3_sipush {n : Int} (hd : decode Y.2.1 pc = .ok (.sipush n, 3)) (hn : (Int16.ofInt n).toInt32 = Int32.ofInt n) (k : G3 E Y Q (pc + 3) lv (vI n :: st) M) : G3 E Y Q pc lv st M := by
  intro p e R s m args below meth c cells slots Z H locs ls hA hM hP hS hl
  exact lv_sipush hA.1 hA.2.1 hd hn (k p e R s m args below meth c cells slots Z H locs ls hA hM hP hS hl)
theorem g3_ldc {i : Nat} {n : Int} (hd : decode Y.2.1 pc = .ok (.ldc i, 2)) (hw : Cond.constant Y.1.cls i (Int32.ofInt n) ∈ gt3) (k : G3 E Y Q (pc + 2) lv (vI n :: st) M) : G3 E Y Q pc lv st M := by
  intro p e R s m args below meth c cells slots Z H locs ls hA hM hP hS hl
  exact lv_ldc hA.1 hA.2.1 hA.2.2.2.1 (hA.2.2.2.2.1 _ hw) hd (k p e R s m args below meth c cells slots Z H locs ls hA hM hP hS hl)
theorem g3_ldcw {i : Nat} {n : Int} (hd : decode Y.2.1 pc = .ok (.ldc_w i, 3)) (hw : Cond.constant Y.1.cls i (Int32.ofInt n) ∈ gt3) (k : G3 E Y Q (pc + 3) lv (vI n :: st) M) : G3 E Y Q pc lv st M := by
  intro p e R s m args below meth c cells slots Z H locs ls hA hM hP hS hl
  exact lv_ldcw hA.1 hA.2.1 hA.2.2.2.1 (hA.2.2.2.2.1 _ hw) hd (k p e R s m args below meth c cells slots Z H locs ls hA hM hP hS hl)
theorem g3_lconst {n : Fin 2} {v : Int64} (hd : decode Y.2.1 pc = .ok (.lconst n, 1)) (hv : Int64.ofNat (n : Nat) = v) (k : G3 E Y Q (pc + 1) lv (vL v :: st) M) : G3 E Y Q pc lv st M := by
  intro p e R s m args below meth c cells slots Z H locs ls hA hM hP hS hl
  exact lv_lconst hA.1 hA.2.1 hd hv (k p e R s m args below meth c cells slots Z H locs ls hA hM hP hS hl)
theorem g3_ldc2 {i : Nat} {v : Int64} (hd : decode Y.2.1 pc = .ok (.ldc2_w i, 3)) (hw : Cond.constantLong Y.1.cls i v ∈ gt3) (k : G3 E Y Q (pc + 3) lv (vL v :: st) M) : G3 E Y Q pc lv st M := by
  intro p e R s m args below meth c cells slots Z H locs ls hA hM hP hS hl
  exact lv_ldc2 hA.1 hA.2.1 hA.2.2.2.1 (hA.2.2.2.2.1 _ hw) hd (k p e R s m args below meth c cells slots Z H locs ls hA hM hP hS hl)
theorem g3_iload_n {n : Fin 4} {i : Nat} {x : Int} (j : Nat) (hd : decode Y.2.1 pc = .ok (.iload_n n, 1)) (hi : (n : Nat) = i) (h : lv[j]? = some (i, vI x)) (k : G3 E Y Q (pc + 1) lv (vI x :: st) M) : G3 E Y Q pc lv st M := by
  intro p e R s m args below meth c cells slots Z H locs ls hA hM hP hS hl
  exact lv_iload_n hA.1 hA.2.1 hd hi (g3_at hl j h) (k p e R s m args below meth c cells slots Z H locs ls hA hM hP hS hl)
theorem g3_iload {i : Nat} {x : Int} (j : Nat) (hd : decode Y.2.1 pc = .ok (.iload i, 2)) (h : lv[j]? = some (i, vI x)) (k : G3 E Y Q (pc + 2) lv (vI x :: st) M) : G3 E Y Q pc lv st M := by
  intro p e R s m args below meth c cells slots Z H locs ls hA hM hP hS hl
  exact lv_iload hA.1 hA.2.1 hd (g3_at hl j h) (k p e R s m args below meth c cells slots Z H locs ls hA hM hP hS hl)
theorem g3_lload_n {n : Fin 4} {i : Nat} {x : Int64} (j : Nat) (hd : decode Y.2.1 pc = .ok (.lload_n n, 1)) (hi : (n : Nat) = i) (h : lv[j]? = some (i, vL x)) (k : G3 E Y Q (pc + 1) lv (vL x :: st) M) : G3 E Y Q pc lv st M := by
  intro p e R s m args below meth c cells slots Z H locs ls hA hM hP hS hl
  exact lv_lload_n hA.1 hA.2.1 hd hi (g3_at hl j h) (k p e R s m args below meth c cells slots Z H locs ls hA hM hP hS hl)
theorem g3_lload {i : Nat} {x : Int64} (j : Nat) (hd : decode Y.2.1 pc = .ok (.lload i, 2)) (h : lv[j]? = some (i, vL x)) (k : G3 E Y Q (pc + 2) lv (vL x :: st) M) : G3 E Y Q pc lv st M := by
  intro p e R s m args below meth c cells slots Z H locs ls hA hM hP hS hl
  exact lv_lload hA.1 hA.2.1 hd (g3_at hl j h) (k p e R s m args below meth c cells slots Z H locs ls hA hM hP hS hl)
theorem g3_aload_n {n : Fin 4} {i r : Nat} {x : Int} (j : Nat) (hd : decode Y.2.1 pc = .ok (.aload_n n, 1)) (hi : (n : Nat) = i) (h : lv[j]? = some (i, vR r x)) (k : G3 E Y Q (pc + 1) lv (vR r x :: st) M) : G3 E Y Q pc lv st M := by
  intro p e R s m args below meth c cells slots Z H locs ls hA hM hP hS hl
  exact lv_aload_n hA.1 hA.2.1 hd hi (g3_at hl j h) (k p e R s m args below meth c cells slots Z H locs ls hA hM hP hS hl)
theorem g3_aload {i r : Nat} {x : Int} (j : Nat) (hd : decode Y.2.1 pc = .ok (.aload i, 2)) (h : lv[j]? = some (i, vR r x)) (k : G3 E Y Q (pc + 2) lv (vR r x :: st) M) : G3 E Y Q pc lv st M := by
  intro p e R s m args below meth c cells slots Z H locs ls hA hM hP hS hl
  exact lv_aload hA.1 hA.2.1 hd (g3_at hl j h) (k p e R s m args below meth c cells slots Z H locs ls hA hM hP hS hl)
/-- the locals behind a store of one word -/
def s13 (lv : List (Nat × V3)) (i : Nat) (v : V3) : List (Nat × V3) := (i, v) :: lv.filter (fun q => !(q.1 == i) && !(q.1 + 1 == i && ct3 q.2 == 2))
def s23 (lv : List (Nat × V3)) (i : Nat) (v : V3) : List (Nat × V3) := (i, v) :: lv.filter (fun q => !(q.1 == i) && (!(q.1 == i + 1) && !(q.1 + 1 == i && ct3 q.2 == 2)))
theorem s13_map (ad : Nat → Nat → Nat) (i : Nat) (v : V3) : (i, cv3 ad v) :: (lv.map fun q => (q.1, cv3 ad q.2)).filter (fun q => !(q.1 == i) && !(q.1 + 1 == i && q.2.category == 2)) = (s13 lv i v).map fun q => (q.1, cv3 ad q.2) := by
  unfold s13
  rw [List.map_cons, List.filter_map]
  congr 3
  funext q
  simp [cv3_cat]
theorem s23_map (ad : Nat → Nat → Nat) (i : Nat) (v : V3) : (i, cv3 ad v) :: (lv.map fun q => (q.1, cv3 ad q.2)).filter (fun q => !(q.1 == i) && (!(q.1 == i + 1) && !(q.1 + 1 == i && q.2.category == 2))) = (s23 lv i v).map fun q => (q.1, cv3 ad q.2) := by
  unfold s23
  rw [List.map_cons, List.filter_map]
  congr 3
  funext q
  simp [cv3_cat]
theorem g3_istore_n {n : Fin 4} {i : Nat} {x : Int} (hd : decode Y.2.1 pc = .ok (.istore_n n, 1)) (hi : (n : Nat) = i) (hn : i < Y.2.2.1) (h : s13 lv i (vI x) = lv') (k : G3 E Y Q (pc + 1) lv' st M) : G3 E Y Q pc lv (vI x :: st) M := by
  intro p e R s m args below meth c cells slots Z H locs ls hA hM hP hS hl
  subst h
  exact lv_istore_n hA.1 hA.2.1 hd hi hl hn (s13_map (ad3 E) i (vI x)) (fun ls' hl' => k p e R s m args below meth c cells slots Z H locs ls' hA hM hP hS hl')
theorem g3_istore {i : Nat} {x : Int} (hd : decode Y.2.1 pc = .ok (.istore i, 2)) (hn : i < Y.2.2.1) (h : s13 lv i (vI x) = lv') (k : G3 E Y Q (pc + 2) lv' st M) : G3 E Y Q pc lv (vI x :: st) M := by
  intro p e R s m args below meth c cells slots Z H locs ls hA hM hP hS hl
  subst h
  exact lv_istore hA.1 hA.2.1 hd hl hn (s13_map (ad3 E) i (vI x)) (fun ls' hl' => k p e R s m args below meth c cells slots Z H locs ls' hA hM hP hS hl')
theorem g3_astore_n {n : Fin 4} {i r : Nat} {x : Int} (hd : decode Y.2.1 pc = .ok (.astore_n n, 1)) (hi : (n : Nat) = i) (hn : i < Y.2.2.1) (h : s13 lv i (vR r x) = lv') (k : G3 E Y Q (pc + 1) lv' st M) : G3 E Y Q pc lv (vR r x :: st) M := by
  intro p e R s m args below meth c cells slots Z H locs ls hA hM hP hS hl
  subst h
  exact lv_astore_n hA.1 hA.2.1 hd hi hl hn (s13_map (ad3 E) i (vR r x)) (fun ls' hl' => k p e R s m args below meth c cells slots Z H locs ls' hA hM hP hS hl')
theorem g3_astore {i r : Nat} {x : Int} (hd : decode Y.2.1 pc = .ok (.astore i, 2)) (hn : i < Y.2.2.1) (h : s13 lv i (vR r x) = lv') (k : G3 E Y Q (pc + 2) lv' st M) : G3 E Y Q pc lv (vR r x :: st) M := by
  intro p e R s m args below meth c cells slots Z H locs ls hA hM hP hS hl
  subst h
  exact lv_astore hA.1 hA.2.1 hd hl hn (s13_map (ad3 E) i (vR r x)) (fun ls' hl' => k p e R s m args below meth c cells slots Z H locs ls' hA hM hP hS hl')
theorem g3_lstore_n {n : Fin 4} {i : Nat} {x : Int64} (hd : decode Y.2.1 pc = .ok (.lstore_n n, 1)) (hi : (n : Nat) = i) (hn : i + 1 < Y.2.2.1) (h : s23 lv i (vL x) = lv') (k : G3 E Y Q (pc + 1) lv' st M) : G3 E Y Q pc lv (vL x :: st) M := by
  intro p e R s m args below meth c cells slots Z H locs ls hA hM hP hS hl
  subst h
  exact lv_lstore_n hA.1 hA.2.1 hd hi hl hn (s23_map (ad3 E) i (vL x)) (fun ls' hl' => k p e R s m args below meth c cells slots Z H locs ls' hA hM hP hS hl')
theorem g3_lstore {i : Nat} {x : Int64} (hd : decode Y.2.1 pc = .ok (.lstore i, 2)) (hn : i + 1 < Y.2.2.1) (h : s23 lv i (vL x) = lv') (k : G3 E Y Q (pc + 2) lv' st M) : G3 E Y Q pc lv (vL x :: st) M := by
  intro p e R s m args below meth c cells slots Z H locs ls hA hM hP hS hl
  subst h
  exact lv_lstore hA.1 hA.2.1 hd hl hn (s23_map (ad3 E) i (vL x)) (fun ls' hl' => k p e R s m args below meth c cells slots Z H locs ls' hA hM hP hS hl')
theorem g3_iinc {i : Nat} {n x : Int} (j : Nat) (hd : decode Y.2.1 pc = .ok (.iinc i n, 3)) (hj : lv[j]? = some (i, vI x)) (hn : i < Y.2.2.1) (h : s13 lv i (vI (x + n)) = lv') (k : G3 E Y Q (pc + 3) lv' st M) : G3 E Y Q pc lv st M := by
  intro p e R s m args below meth c cells slots Z H locs ls hA hM hP hS hl
  subst h
  refine lv_iinc (k := j) (v := Int32.ofInt (x + n)) (x := Int32.ofInt x) hA.1 hA.2.1 hd hl ?_ (Int32.ofInt_add _ _).symm hn (s13_map (ad3 E) i (vI (x + n))) (fun ls' hl' => k p e R s m args below meth c cells slots Z H locs ls' hA hM hP hS hl')
  rw [List.getElem?_map, hj]
  rfl
/-- fewer locals, in another order -/
def pk3 (lv : List (Nat × V3)) (ks : List Nat) : List (Nat × V3) := ks.filterMap (fun k => lv[k]?)
theorem g3_sub (ks : List Nat) (h : pk3 lv ks = lv') (k : G3 E Y Q pc lv' st M) : G3 E Y Q pc lv st M := by
  intro p e R s m args below meth c cells slots Z H locs ls hA hM hP hS hl
  subst h
  refine k p e R s m args below meth c cells slots Z H locs ls hA hM hP hS (lv_sub hl ks ?_)
  unfold lv_pick pk3
  rw [List.map_filterMap]
  congr 1
  funext k
  rw [List.getElem?_map]
theorem g3_goto {off : Int} {tgt : Nat} (hd : decode Y.2.1 pc = .ok (.goto off, 3)) (ht : (pc : Int) + off = (tgt : Int)) (k : G3 E Y Q tgt lv st M) : G3 E Y Q pc lv st M := by
  intro p e R s m args below meth c cells slots Z H locs ls hA hM hP hS hl
  exact lv_goto hA.1 hA.2.1 hd ht (k p e R s m args below meth c cells slots Z H locs ls hA hM hP hS hl)
theorem g3_dup {v : V3} (hd : decode Y.2.1 pc = .ok (.dup, 1)) (hv : ct3 v = 1) (k : G3 E Y Q (pc + 1) lv (v :: v :: st) M) : G3 E Y Q pc lv (v :: st) M := by
  intro p e R s m args below meth c cells slots Z H locs ls hA hM hP hS hl
  exact lv_dup hA.1 hA.2.1 hd ((cv3_cat _ v).trans hv) (k p e R s m args below meth c cells slots Z H locs ls hA hM hP hS hl)
theorem g3_dup2 {v w : V3} (hd : decode Y.2.1 pc = .ok (.dup2, 1)) (hv : ct3 v = 1) (hw : ct3 w = 1) (k : G3 E Y Q (pc + 1) lv (v :: w :: v :: w :: st) M) : G3 E Y Q pc lv (v :: w :: st) M := by
  intro p e R s m args below meth c cells slots Z H locs ls hA hM hP hS hl
  exact lv_dup2_11 hA.1 hA.2.1 hd ((cv3_cat _ v).trans hv) ((cv3_cat _ w).trans hw) (k p e R s m args below meth c cells slots Z H locs ls hA hM hP hS hl)
theorem g3_dup_x1 {v w : V3} (hd : decode Y.2.1 pc = .ok (.dup_x1, 1)) (hv : ct3 v = 1) (hw : ct3 w = 1) (k : G3 E Y Q (pc + 1) lv (v :: w :: v :: st) M) : G3 E Y Q pc lv (v :: w :: st) M := by
  intro p e R s m args below meth c cells slots Z H locs ls hA hM hP hS hl
  exact lv_dup_x1 hA.1 hA.2.1 hd ((cv3_cat _ v).trans hv) ((cv3_cat _ w).trans hw) (k p e R s m args below meth c cells slots Z H locs ls hA hM hP hS hl)
theorem g3_pop {v : V3} (hd : decode Y.2.1 pc = .ok (.pop, 1)) (hv : ct3 v = 1) (k : G3 E Y Q (pc + 1) lv st M) : G3 E Y Q pc lv (v :: st) M := by
  intro p e R s m args below meth c cells slots Z H locs ls hA hM hP hS hl
  exact lv_pop hA.1 hA.2.1 hd ((cv3_cat _ v).trans hv) (k p e R s m args below meth c cells slots Z H locs ls hA hM hP hS hl)
/-- numbers of 32 bits as whole numbers -/
theorem t3_in {x : Int} (h : -2147483648 ≤ x ∧ x ≤ 2147483647) : (Int32.ofInt x).toInt = x := Int32.toInt_ofInt_of_le (by show (-2147483648 : Int) ≤ x; exact h.1) (by show x < (2147483648 : Int); omega)
theorem t3_lt {x y : Int} (hx : -2147483648 ≤ x ∧ x ≤ 2147483647) (hy : -2147483648 ≤ y ∧ y ≤ 2147483647) : Int32.ofInt x < Int32.ofInt y ↔ x < y := by
  rw [Int32.lt_iff_toInt_lt, t3_in hx, t3_in hy]
theorem t3_le {x y : Int} (hx : -2147483648 ≤ x ∧ x ≤ 2147483647) (hy : -2147483648 ≤ y ∧ y ≤ 2147483647) : Int32.ofInt x ≤ Int32.ofInt y ↔ x ≤ y := by
  rw [Int32.le_iff_toInt_le, t3_in hx, t3_in hy]
theorem t3_eq {x y : Int} (hx : -2147483648 ≤ x ∧ x ≤ 2147483647) (hy : -2147483648 ≤ y ∧ y ≤ 2147483647) : Int32.ofInt x = Int32.ofInt y ↔ x = y := by
  rw [← Int32.toInt_inj, t3_in hx, t3_in hy]
theorem t3_0 : (0 : Int32) = Int32.ofInt 0 := rfl
theorem t3_cl {x : Int} (h : 0 ≤ x ∧ x ≤ 2147483647) : (Int32.ofInt x).toNatClampNeg = x.toNat := by
  have h1 : (Int32.ofInt x).toInt = x := t3_in (by omega)
  show (Int32.ofInt x).toInt.toNat = x.toNat
  rw [h1]
theorem t3_vp {x : Int} {n : Nat} (h : 0 ≤ x ∧ x < (n : Int)) (hn : n < 2147483648) : vp_in (Int32.ofInt x) n := by
  intro q
  rcases q with q | q
  · rw [t3_0, t3_lt (by omega) (by omega)] at q
    omega
  · rw [t3_cl (by omega)] at q
    omega
end G3S
