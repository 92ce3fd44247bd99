/-! THE CONSTRUCTORS' JUDGEMENT: cells lie one behind the other, in the order in which they are made -/
abbrev B4 (E : E3) : Nat := ad3 E 98 0
abbrev Im4 : Type := Nat → va_E
def wd4 (E : E3) (c : Im4) (n : Nat) : va_W := (List.range n).map fun k => (B4 E + k, c k)
def up4 (c : Im4) (k : Nat) (x : va_E) : Im4 := fun j => if j = k then x else c j
theorem up4_eq {c : Im4} {k : Nat} {x : va_E} : up4 c k x k = x := if_pos rfl
theorem up4_ne {c : Im4} {k j : Nat} {x : va_E} (h : j ≠ k) : up4 c k x j = c j := if_neg h
theorem wd4_at {E : E3} {c : Im4} {n k : Nat} (h : k < n) : (wd4 E c n)[k]? = some (B4 E + k, c k) := by
  unfold wd4
  rw [List.getElem?_map, List.getElem?_range h]
  rfl
theorem wd4_of {E : E3} {c : Im4} {n k : Nat} {q : Nat × va_E} (h : (wd4 E c n)[k]? = some q) : k < n ∧ q = (B4 E + k, c k) := by
  have hk : k < n := by
    have := (List.getElem?_eq_some_iff.mp h).1
    unfold wd4 at this
    rw [List.length_map, List.length_range] at this
    exact this
  rw [wd4_at hk] at h
  exact ⟨hk, (Option.some.inj h).symm⟩
abbrev At4 (E : E3) (c : Im4) (n : Nat) (H : Heap) : Prop := (∀ k : Nat, k < n → va_at (D3 E) vwCl (B4 E + k, c k) H) ∧ H.size = B4 E + n
theorem at4_P {E : E3} {c : Im4} {n : Nat} {H : Heap} (h : At4 E c n H) : va_P (D3 E) vwCl (wd4 E c n) H := fun k q hq => by
  obtain ⟨hk, rfl⟩ := wd4_of hq
  exact h.1 k hk
theorem at4_up {E : E3} {c : Im4} {n k : Nat} {H H1 : Heap} {x : va_E} (h : At4 E c n H) (he : va_at (D3 E) vwCl (B4 E + k, x) H1) (hz : H1.size = H.size) (oq : ∀ q : Nat, q ≠ B4 E + k → H1[q]? = H[q]?) : At4 E (up4 c k x) n H1 := by
  refine ⟨fun j hj => ?_, hz.trans h.2⟩
  by_cases e : j = k
  · rw [e, up4_eq]
    exact he
  · rw [up4_ne e]
    exact (h.1 j hj).kept (oq _ (by show B4 E + j ≠ B4 E + k; omega))
theorem at4_new {E : E3} {c : Im4} {n : Nat} {H H1 : Heap} {x : va_E} (h : At4 E c n H) (he : va_at (D3 E) vwCl (B4 E + n, x) H1) (hz : H1.size = H.size + 1) (oq : ∀ q : Nat, q < H.size → H1[q]? = H[q]?) : At4 E (up4 c n x) (n + 1) H1 := by
  refine ⟨fun j hj => ?_, by rw [hz, h.2]; omega⟩
  by_cases e : j = n
  · rw [e, up4_eq]
    exact he
  · rw [up4_ne e]
    exact (h.1 j (by omega)).kept (oq _ (by show B4 E + j < H.size; rw [h.2]; omega))
def nl4 : List Cond := [.methodLinkNest RX11 9 yX1_init RX11, .methodLinkNest RX11 18 yX4_init RX11, .methodLinkNest RX0 21 yX8_init RX11, .methodLinkNest RX2 36 yX3_init RX11, .methodLinkNest RX11 77 yX9_init RX11]
def ov4 (U : State) : Prop := (∀ C ∈ ([RX8, RX3, RX9] : List String), va_AO C U) ∧ (Cond.arrayOver (.array .int)).before #[] U = true
theorem ov4.moved {u U : State} (hvm : u.vm.Alike U.vm) (h : ov4 u) : ov4 U := by
  refine ⟨fun C hC => (h.1 C hC).moved hvm, ?_⟩
  obtain ⟨comp, c, k, h1, h2, h3, h4, h5⟩ := arrayOverA_spec h.2
  obtain ⟨k', hk', he⟩ := hvm.2.2 _ _ h3
  have hi : (U.vm.classes.findIdx? fun (x : Class) => match x.kind with | .array component _ => component == comp | _ => false) = some c := by
    rw [hvm.findIdx?_eq _ (fun _ => rfl)]
    exact h2
  have hkind : k'.kind = .array comp (.array .int) := by rw [he]; exact h4
  have f1 : U.vm.findClass (FieldType.array .int).toString = some comp := by rw [hvm.findClass]; exact h1
  have f2 : U.vm.findClass ("[" ++ (FieldType.array .int).toString) = some c := by rw [hvm.findClass]; exact h5
  unfold Cond.before Cond.holds
  simp only [Cond.value]
  rw [f1, Option.bind_some]
  refine (congrArg (fun o : Option Nat => (o.bind (fun c => (U.vm.classes[c]?).map fun (k : Class) => match k.kind with | .array _ ty => decide (ty = FieldType.array .int) && decide (U.vm.findClass ("[" ++ (FieldType.array .int).toString) = some c) | _ => false) == some true)) hi).trans ?_
  simp [hk', hkind, f2]
def nst4 (U : State) : Prop := (∀ w ∈ nl4, va_Nw w U) ∧ ov4 U
def ok4 (E : E3) : Prop := ∀ q : Nat, B4 E ≤ q → A3 E q
def wo4 (E : E3) (c : Im4) (n : Nat) (U : State) : Prop := ok4 E ∧ nst4 U ∧ At4 E c n U.heap ∧ va_K (D3 E) vwCl (tys3 E) U
abbrev Q4 : Type := Im4 → Nat → Prop
abbrev Fn4 : Type := Program → Env → Room → State → MethodId → Array Value → List Frame → Method → Code → (State → Prop) → Prop
def qc4 (E : E3) (Q : Q4) : Array Value → State → Outcome → State → Prop := fun _ st oc t => (∃ (c : Im4) (n : Nat), oc = .returned none ∧ Q c n ∧ At4 E c n t.heap) ∧ va_F (A3 E) st t
def rm4 (h mc ms : Nat) : Room := { frames := h, cells := mc, slots := ms, locals := 39 * h }
def C4 (E : E3) (Y : Y3) (mc ms : Nat) (as : List Value) (c : Im4) (n : Nat) (Q : Q4) : Prop := Met E.1 Y.1 (ws3 Y) (rm4 Y.2.2.2.2 mc ms) (va_Pc as (wo4 E c n)) (qc4 E Q) mc ms (A3 E)
def fin4 (E : E3) (Y : Y3) (mc ms : Nat) (Q : Q4) (p : Program) (e : Env) (R : Room) (s : State) (m : MethodId) (args : Array Value) (below : List Frame) (meth : Method) (cd : Code) (Z : State → Prop) : Prop :=
  ∀ (c : Im4) (n uc us : Nat) (H : Heap) (locs : List Loc) (ls : Array Slot) (pc : Nat), decode Y.2.1 pc = .ok (.return_, 1) → uc ≤ mc → us ≤ ms → At4 E c n H → va_S (A3 E) s.heap H locs → Q c n → W p E.1 e R s m args below meth cd H locs uc us Z (F0 m pc ls [])
def Ac4 (E : E3) (Y : Y3) (mc ms : Nat) (F : Fn4) (p : Program) (e : Env) (R : Room) (s : State) (m : MethodId) (args : Array Value) (below : List Frame) (meth : Method) (cd : Code) (Z : State → Prop) : Prop :=
  p.tables.exec = Jvm.exec ∧ cd.code = Y.2.1 ∧ cd.maxLocals = Y.2.2.1 ∧ s.vm.findClass Y.1.cls = some m.cls ∧ (∀ w ∈ gt3, w.before args s = true) ∧ (Y.2.2.2.2 ≤ R.frames ∧ 39 * Y.2.2.2.2 ≤ R.locals ∧ mc ≤ R.cells ∧ ms ≤ R.slots) ∧ va_K (D3 E) vwCl (tys3 E) s ∧ nst4 s ∧ ok4 E ∧ B4 E ≤ s.heap.size ∧ (Y.1.name = "<init>" → meth.name = "<init>") ∧ F p e R s m args below meth cd Z
def N4 (E : E3) (Y : Y3) (mc ms : Nat) (F : Fn4) (uc us pc : Nat) (lv : List (Nat × Value)) (st : List Value) (c : Im4) (n : Nat) : Prop :=
  ∀ (p : Program) (e : Env) (R : Room) (s : State) (m : MethodId) (args : Array Value) (below : List Frame) (meth : Method) (cd : Code) (Z : State → Prop) (H : Heap) (locs : List Loc) (ls : Array Slot), Ac4 E Y mc ms F p e R s m args below meth cd Z → At4 E c n H → va_S (A3 E) s.heap H locs → lv_has ls Y.2.2.1 lv → W p E.1 e R s m args below meth cd H locs uc us Z (F0 m pc ls st)
section N4S
variable {E : E3} {Y Y2 : Y3} {mc ms uc us pc n : Nat} {F : Fn4} {lv lv' : List (Nat × Value)} {st : List Value} {c : Im4}
theorem n4_iconst {k : Int} (hd : decode Y.2.1 pc = .ok (.iconst k, 1)) (kk : N4 E Y mc ms F uc us (pc + 1) lv (.int (Int32.ofInt k) :: st) c n) : N4 E Y mc ms F uc us pc lv st c n := by
  intro p e R s m args below meth cd Z H locs ls hA hP hS hl
  exact lv_iconst hA.1 hA.2.1 hd rfl (kk p e R s m args below meth cd Z H locs ls hA hP hS hl)
theorem n4_bipush {k : Int} (hd : decode Y.2.1 pc = .ok (.bipush k, 2)) (hn : (Int8.ofInt k).toInt32 = Int32.ofInt k) (kk : N4 E Y mc ms F uc us (pc + 2) lv (.int (Int32.ofInt k) :: st) c n) : N4 E Y mc ms F uc us pc lv st c n := by
  intro p e R s m args below meth cd Z H locs ls hA hP hS hl
  exact lv_bipush hA.1 hA.2.1 hd hn (kk p e R s m args below meth cd Z H locs ls hA hP hS hl)
theorem n4_sipush {k : Int} (hd : decode Y.2.1 pc = .ok (.sipush k, 3)) (hn : (Int16.ofInt k).toInt32 = Int32.ofInt k) (kk : N4 E Y mc ms F uc us (pc + 3) lv (.int (Int32.ofInt k) :: st) c n) : N4 E Y mc ms F uc us pc lv st c n := by
  intro p e R s m args below meth cd Z H locs ls hA hP hS hl
  exact lv_sipush hA.1 hA.2.1 hd hn (kk p e R s m args below meth cd Z H locs ls hA hP hS hl)
theorem n4_aload_n {k : Fin 4} {i a : Nat} (j : Nat) (hd : decode Y.2.1 pc = .ok (.aload_n k, 1)) (hi : (k : Nat) = i) (h : lv[j]? = some (i, .ref a)) (kk : N4 E Y mc ms F uc us (pc + 1) lv (.ref a :: st) c n) : N4 E Y mc ms F uc us pc lv st c n := by
  intro p e R s m args below meth cd Z H locs ls hA hP hS hl
  exact lv_aload_n hA.1 hA.2.1 hd hi (lv_at hl j h) (kk p e R s m args below meth cd Z H locs ls hA hP hS hl)
theorem n4_aload {i a : Nat} (j : Nat) (hd : decode Y.2.1 pc = .ok (.aload i, 2)) (h : lv[j]? = some (i, .ref a)) (kk : N4 E Y mc ms F uc us (pc + 2) lv (.ref a :: st) c n) : N4 E Y mc ms F uc us pc lv st c n := by
  intro p e R s m args below meth cd Z H locs ls hA hP hS hl
  exact lv_aload hA.1 hA.2.1 hd (lv_at hl j h) (kk p e R s m args below meth cd Z H locs ls hA hP hS hl)
theorem n4_iload_n {k : Fin 4} {i : Nat} {x : Int32} (j : Nat) (hd : decode Y.2.1 pc = .ok (.iload_n k, 1)) (hi : (k : Nat) = i) (h : lv[j]? = some (i, .int x)) (kk : N4 E Y mc ms F uc us (pc + 1) lv (.int x :: st) c n) : N4 E Y mc ms F uc us pc lv st c n := by
  intro p e R s m args below meth cd Z H locs ls hA hP hS hl
  exact lv_iload_n hA.1 hA.2.1 hd hi (lv_at hl j h) (kk p e R s m args below meth cd Z H locs ls hA hP hS hl)
theorem n4_iload {i : Nat} {x : Int32} (j : Nat) (hd : decode Y.2.1 pc = .ok (.iload i, 2)) (h : lv[j]? = some (i, .int x)) (kk : N4 E Y mc ms F uc us (pc + 2) lv (.int x :: st) c n) : N4 E Y mc ms F uc us pc lv st c n := by
  intro p e R s m args below meth cd Z H locs ls hA hP hS hl
  exact lv_iload hA.1 hA.2.1 hd (lv_at hl j h) (kk p e R s m args below meth cd Z H locs ls hA hP hS hl)
abbrev s14 (lv : List (Nat × Value)) (i : Nat) (v : Value) : List (Nat × Value) := (i, v) :: lv.filter (fun q => !(q.1 == i) && !(q.1 + 1 == i && q.2.category == 2))
theorem n4_istore_n {k : Fin 4} {i : Nat} {x : Int32} (hd : decode Y.2.1 pc = .ok (.istore_n k, 1)) (hi : (k : Nat) = i) (hn : i < Y.2.2.1) (h : s14 lv i (.int x) = lv') (kk : N4 E Y mc ms F uc us (pc + 1) lv' st c n) : N4 E Y mc ms F uc us pc lv (.int x :: st) c n := by
  intro p e R s m args below meth cd Z H locs ls hA hP hS hl
  exact lv_istore_n hA.1 hA.2.1 hd hi hl hn h (fun ls' hl' => kk p e R s m args below meth cd Z H locs ls' hA hP hS hl')
theorem n4_istore {i : Nat} {x : Int32} (hd : decode Y.2.1 pc = .ok (.istore i, 2)) (hn : i < Y.2.2.1) (h : s14 lv i (.int x) = lv') (kk : N4 E Y mc ms F uc us (pc + 2) lv' st c n) : N4 E Y mc ms F uc us pc lv (.int x :: st) c n := by
  intro p e R s m args below meth cd Z H locs ls hA hP hS hl
  exact lv_istore hA.1 hA.2.1 hd hl hn h (fun ls' hl' => kk p e R s m args below meth cd Z H locs ls' hA hP hS hl')
theorem n4_astore_n {k : Fin 4} {i a : Nat} (hd : decode Y.2.1 pc = .ok (.astore_n k, 1)) (hi : (k : Nat) = i) (hn : i < Y.2.2.1) (h : s14 lv i (.ref a) = lv') (kk : N4 E Y mc ms F uc us (pc + 1) lv' st c n) : N4 E Y mc ms F uc us pc lv (.ref a :: st) c n := by
  intro p e R s m args below meth cd Z H locs ls hA hP hS hl
  exact lv_astore_n hA.1 hA.2.1 hd hi hl hn h (fun ls' hl' => kk p e R s m args below meth cd Z H locs ls' hA hP hS hl')
theorem n4_iinc {i : Nat} {k x : Int} (j : Nat) (hd : decode Y.2.1 pc = .ok (.iinc i k, 3)) (hj : lv[j]? = some (i, .int (Int32.ofInt x))) (hn : i < Y.2.2.1) (h : s14 lv i (.int (Int32.ofInt (x + k))) = lv') (kk : N4 E Y mc ms F uc us (pc + 3) lv' st c n) : N4 E Y mc ms F uc us pc lv st c n := by
  intro p e R s m args below meth cd Z H locs ls hA hP hS hl
  exact lv_iinc (k := j) hA.1 hA.2.1 hd hl hj (Int32.ofInt_add _ _).symm hn h (fun ls' hl' => kk p e R s m args below meth cd Z H locs ls' hA hP hS hl')
theorem n4_sub (is : List Nat) (h : is.filterMap (fun i => lv[i]?) = lv') (kk : N4 E Y mc ms F uc us pc lv' st c n) : N4 E Y mc ms F uc us pc lv st c n := by
  intro p e R s m args below meth cd Z H locs ls hA hP hS hl
  exact kk p e R s m args below meth cd Z H locs ls hA hP hS (lv_sub hl is h)
theorem n4_dup {v : Value} (hd : decode Y.2.1 pc = .ok (.dup, 1)) (hv : v.category = 1) (kk : N4 E Y mc ms F uc us (pc + 1) lv (v :: v :: st) c n) : N4 E Y mc ms F uc us pc lv (v :: st) c n := by
  intro p e R s m args below meth cd Z H locs ls hA hP hS hl
  exact lv_dup hA.1 hA.2.1 hd hv (kk p e R s m args below meth cd Z H locs ls hA hP hS hl)
theorem n4_iadd {x y : Int} (hd : decode Y.2.1 pc = .ok (.iadd, 1)) (kk : N4 E Y mc ms F uc us (pc + 1) lv (.int (Int32.ofInt (x + y)) :: st) c n) : N4 E Y mc ms F uc us pc lv (.int (Int32.ofInt y) :: .int (Int32.ofInt x) :: st) c n := by
  intro p e R s m args below meth cd Z H locs ls hA hP hS hl
  refine lv_iadd hA.1 hA.2.1 hd ?_
  rw [← Int32.ofInt_add]
  exact kk p e R s m args below meth cd Z H locs ls hA hP hS hl
theorem n4_imul {x y : Int} (hd : decode Y.2.1 pc = .ok (.imul, 1)) (kk : N4 E Y mc ms F uc us (pc + 1) lv (.int (Int32.ofInt (x * y)) :: st) c n) : N4 E Y mc ms F uc us pc lv (.int (Int32.ofInt y) :: .int (Int32.ofInt x) :: st) c n := by
  intro p e R s m args below meth cd Z H locs ls hA hP hS hl
  refine lv_imul hA.1 hA.2.1 hd ?_
  rw [← Int32.ofInt_mul]
  exact kk p e R s m args below meth cd Z H locs ls hA hP hS hl
theorem n4_goto {off : Int} {tgt : Nat} (hd : decode Y.2.1 pc = .ok (.goto off, 3)) (ht : (pc : Int) + off = (tgt : Int)) (kk : N4 E Y mc ms F uc us tgt lv st c n) : N4 E Y mc ms F uc us pc lv st c n := by
  intro p e R s m args below meth cd Z H locs ls hA hP hS hl
  exact lv_goto hA.1 hA.2.1 hd ht (kk p e R s m args below meth cd Z H locs ls hA hP hS hl)
theorem n4_icmp_ge {x y off : Int} {tgt : Nat} (hd : decode Y.2.1 pc = .ok (.if_icmp .ge off, 3)) (ht : (pc : Int) + off = (tgt : Int)) (hx : -2147483648 ≤ x ∧ x ≤ 2147483647) (hy : -2147483648 ≤ y ∧ y ≤ 2147483647) (kt : y ≤ x → N4 E Y mc ms F uc us tgt lv st c n) (kf : x < y → N4 E Y mc ms F uc us (pc + 3) lv st c n) : N4 E Y mc ms F uc us pc lv (.int (Int32.ofInt y) :: .int (Int32.ofInt x) :: st) c n := by
  intro p e R s m args below meth cd Z H locs ls hA hP hS hl
  refine lv_icmp_ge hA.1 hA.2.1 hd ht (fun h => kt ((t3_le hy hx).mp h) p e R s m args below meth cd Z H locs ls hA hP hS hl) (fun h => kf ?_ p e R s m args below meth cd Z H locs ls hA hP hS hl)
  exact Int.not_le.mp fun z => h ((t3_le hy hx).mpr z)
theorem at4_agree {c' : Im4} {H : Heap} (h : ∀ j : Nat, j < n → c j = c' j) (hP : At4 E c n H) : At4 E c' n H := ⟨fun j hj => by rw [← h j hj]; exact hP.1 j hj, hP.2⟩
theorem n4_agree {c' : Im4} (h : ∀ j : Nat, j < n → c j = c' j) (kk : N4 E Y mc ms F uc us pc lv st c' n) : N4 E Y mc ms F uc us pc lv st c n := by
  intro p e R s m args below meth cd Z H locs ls hA hP hS hl
  exact kk p e R s m args below meth cd Z H locs ls hA (at4_agree h hP) hS hl
theorem n4_return {Q : Q4} (hd : decode Y.2.1 pc = .ok (.return_, 1)) (h1 : uc ≤ mc) (h2 : us ≤ ms) (hq : Q c n) : N4 E Y mc ms (fin4 E Y mc ms Q) uc us pc lv [] c n := by
  intro p e R s m args below meth cd Z H locs ls hA hP hS hl
  exact hA.2.2.2.2.2.2.2.2.2.2.2 c n uc us H locs ls pc hd h1 h2 hP hS hq
/-- Object's own constructor -/
theorem n4_obj {idx a : Nat} (hd : decode Y.2.1 pc = .ok (.invokespecial idx, 3)) (h1 : 1 ≤ Y.2.2.2.2) (hl1 : Cond.methodLink Y.1.cls idx Lib.objectInit ∈ gt3) (hl2 : Cond.instanceMethod Lib.objectInit ∈ gt3) (hl3 : Cond.code Lib.objectInit ⟨#[0xb1]⟩ 1 none ∈ gt3) (hs : (st.map fun v => v.category).sum ≤ 8) (kk : N4 E Y mc ms F uc us (pc + 3) lv st c n) : N4 E Y mc ms F uc us pc lv (.ref a :: st) c n := by
  intro p e R s m args below meth cd Z H locs ls hA hP hS hl
  have hts := hA.2.2.2.2.1
  have hR := hA.2.2.2.2.2.1
  refine W.objInit (a := a) (rest := st) hA.1 hA.2.1 hA.2.2.2.1 (hts _ hl1) (hts _ hl2) (hts _ hl3) rfl (by rw [hA.2.2.1]; exact hl.1) rfl hd (Nat.le_trans h1 hR.1) ?_ (kk p e R s m args below meth cd Z H locs ls hA hP hS hl)
  have h8 : 2 * (F0 m pc ls (Value.ref a :: st)).monitorRoom + (st.map fun v => v.category).sum ≤ 8 := lv_room hs
  have h9 := hR.2.1
  omega
end N4S
