/-! THE MACHINE: rows of rows (multianewarray of two dimensions) -/
section MUL
variable {p : Program} {l : Launch} {e : Env} {R : Room} {s : State} {m : MethodId} {args : Array Value} {below : List Frame} {meth : Method} {c : Code} {cells slots : Nat}
/-- behind i rounds: u is the heap with the outer row at h and i rows behind it -/
def muI (p : Program) (l : Launch) (e : Env) (R : Room) (s : State) (m : MethodId) (args : Array Value) (below : List Frame) (meth : Method) (c : Code) (locs : List Loc) (cells slots : Nat) (T : State) (cA cI : ClassId) (n1 n2 : Nat) (g : JFrame) (i : Nat) (s' : State) : Prop :=
  ∃ (u : State) (L : List Loc), s' = u.setTop g ∧ Stand p l e R s m args below meth c u (locs ++ L) (cells + 1 + i) (slots + n1 + i * n2) ∧ (∀ q ∈ L, q.base = T.heap.size) ∧ u.vm = T.vm ∧ u.heap.size = T.heap.size + 1 + i ∧ u.heap[T.heap.size]? = some (arrV cA n1 (fun j => if j < i then .ref (T.heap.size + 1 + j) else .null)) ∧ (∀ j : Nat, j < i → u.heap[T.heap.size + 1 + j]? = some (arrV cI n2 (fun _ => .int 0))) ∧ ∀ q : Nat, q < T.heap.size → u.heap[q]? = T.heap[q]?
theorem muStep {T : State} {locs : List Loc} {cA cI comp : ClassId} {kA kI : Class} {n1 : Nat} {x2 : Int32} {g : JFrame} {i : Nat} {s' : State} {E : CtlPost} {d : Bool} {acts : List Action} {Q : ForInStep PUnit → Pre} (hkA : T.vm.classes[cA]? = some kA) (hkindA : kA.kind = .array cI (.array .int)) (hkI : T.vm.classes[cI]? = some kI) (hkindI : kI.kind = .array comp .int) (h2 : ¬ x2 < 0) (hl2 : ¬ x2.toNatClampNeg > e.platform.arrayLengthLimit) (hb2 : ¬ x2.toNatClampNeg * componentBytes .int > e.platform.maxHeapBytes) (hi : i < n1) (hc : cells + 1 + (i + 1) ≤ R.cells) (hs : slots + n1 + (i + 1) * x2.toNatClampNeg ≤ R.slots)
    (hI : muI p l e R s m args below meth c locs cells slots T cA cI n1 x2.toNatClampNeg g i s') (hq : ∀ s'' d' acts', muI p l e R s m args below meth c locs cells slots T cA cI n1 x2.toNatClampNeg g (i + 1) s'' → Q (ForInStep.yield PUnit.unit) d' acts' s'') :
    wp (do let r ← Jvm.Op.multianewarray.make cI [x2]; Jvm.writeLoc T.heap.size i (.ref r); Pure.pure (ForInStep.yield PUnit.unit)) Q E e d acts s' := by
  obtain ⟨u, L, rfl, X, hL, hvm, hsz, hout, hrow, hold⟩ := hI
  have hkA1 : u.vm.classes[cA]? = some kA := by rw [hvm]; exact hkA
  have hkI1 : u.vm.classes[cI]? = some kI := by rw [hvm]; exact hkI
  obtain ⟨hr1, hr2⟩ := X.roomAbove (a := 1) (b := x2.toNatClampNeg) (by omega) (by rw [Nat.succ_mul] at hs; omega)
  simp only [wp_bind', Jvm.Op.multianewarray.make, W.ite, h2, if_false, W.theClass, State.vm_setTop, hkI1, Option.some.injEq, exists_eq_left', hkindI]
  refine W.newArray_of (s := u.setTop g) hkI1 hkindI hl2 hb2 (by show u.heap.size < _; omega) (by show u.slotsUsed + _ ≤ _; exact hr2) rfl fun acts' => ?_
  simp only [W.writeLoc, wp_pure', State.heap_setTop, State.pushCell_setTop]
  have hsh : T.heap.size < u.heap.size := by omega
  have hcell : (u.pushCell { cls := cI, slots := Array.replicate x2.toNatClampNeg (defaultValue .int) }).heap[T.heap.size]? = some (arrV cA n1 (fun j => if j < i then .ref (T.heap.size + 1 + j) else .null)) := by
    show (u.heap.push _)[T.heap.size]? = _
    rw [Array.getElem?_push, if_neg (Nat.ne_of_lt hsh)]
    exact hout
  refine ⟨arrV cA n1 (fun j => if j < i then .ref (T.heap.size + 1 + j) else .null), hcell, (fun h => by cases h), (by rw [arrV_size]; exact hi), ?_, ?_⟩
  · simp [State.fitsSlot, State.slotType?, arrV, hkA1, hkindA]
    rfl
  · rw [State.setCell_setTop]
    refine hq _ _ _ ⟨_, L ++ [⟨T.heap.size, i⟩], rfl, ?_, ?_, hvm, ?_, ?_, ?_, ?_⟩
    · have X2 := (X.pushed { cls := cI, slots := Array.replicate x2.toNatClampNeg (defaultValue .int) }).stored hcell i (.ref u.heap.size)
      rw [List.append_assoc] at X2
      have e1 : slots + n1 + i * x2.toNatClampNeg + (Array.replicate x2.toNatClampNeg (defaultValue .int)).size = slots + n1 + (i + 1) * x2.toNatClampNeg := by
        rw [Array.size_replicate, Nat.succ_mul]
        omega
      rw [e1] at X2
      exact X2
    · intro q hq2
      rcases List.mem_append.mp hq2 with h | h
      · exact hL q h
      · rw [List.mem_singleton.mp h]
    · show ((u.heap.push _).setIfInBounds _ _).size = _
      rw [Array.size_setIfInBounds, Array.size_push, hsz]
      rfl
    · show ((u.heap.push _).setIfInBounds T.heap.size _)[T.heap.size]? = _
      rw [Array.getElem?_setIfInBounds_self_of_lt (by rw [Array.size_push]; omega), arrV_store]
      congr 2
      funext j
      unfold updV
      by_cases e1 : j = i
      · rw [if_pos e1, if_pos (by omega), hsz, e1]
      · rw [if_neg e1]
        show (if j < i then _ else _) = _
        by_cases e2 : j < i
        · rw [if_pos e2, if_pos (by omega)]
        · rw [if_neg e2, if_neg (by omega)]
    · intro j hj
      show ((u.heap.push _).setIfInBounds T.heap.size _)[T.heap.size + 1 + j]? = _
      rw [Array.getElem?_setIfInBounds_ne (by omega)]
      by_cases e1 : j = i
      · have e2 : T.heap.size + 1 + j = u.heap.size := by omega
        rw [e2, Array.getElem?_push_size, ← arrV_new]
        rfl
      · rw [Array.getElem?_push, if_neg (by omega)]
        exact hrow j (by omega)
    · intro q hq2
      show ((u.heap.push _).setIfInBounds T.heap.size _)[q]? = _
      rw [Array.getElem?_setIfInBounds_ne (by omega), Array.getElem?_push, if_neg (by omega)]
      exact hold q hq2
theorem muMake {T : State} {locs : List Loc} {cA cI comp : ClassId} {kA kI : Class} {x1 x2 : Int32} {g : JFrame} {E : CtlPost} {d : Bool} {acts : List Action} {Q : Addr → Pre} (hkA : T.vm.classes[cA]? = some kA) (hkindA : kA.kind = .array cI (.array .int)) (hkI : T.vm.classes[cI]? = some kI) (hkindI : kI.kind = .array comp .int) (h1 : ¬ x1 < 0) (h2 : ¬ x2 < 0) (hl1 : ¬ x1.toNatClampNeg > e.platform.arrayLengthLimit) (hb1 : ¬ x1.toNatClampNeg * componentBytes (.array .int) > e.platform.maxHeapBytes) (hl2 : ¬ x2.toNatClampNeg > e.platform.arrayLengthLimit) (hb2 : ¬ x2.toNatClampNeg * componentBytes .int > e.platform.maxHeapBytes) (hc : cells + 1 + x1.toNatClampNeg ≤ R.cells) (hs : slots + x1.toNatClampNeg + x1.toNatClampNeg * x2.toNatClampNeg ≤ R.slots)
    (X : Stand p l e R s m args below meth c T locs cells slots) (hq : ∀ s'' d' acts', muI p l e R s m args below meth c locs cells slots T cA cI x1.toNatClampNeg x2.toNatClampNeg g x1.toNatClampNeg s'' → Q T.heap.size d' acts' s'') :
    wp (Jvm.Op.multianewarray.make cA [x1, x2]) Q E e d acts (T.setTop g) := by
  obtain ⟨hr1, hr2⟩ := X.roomAbove (a := 1) (b := x1.toNatClampNeg) (by omega) (by omega)
  rw [Jvm.Op.multianewarray.make]
  simp only [wp_bind', W.ite, h1, if_false, wp_pure', W.theClass, State.vm_setTop, hkA, Option.some.injEq, exists_eq_left', hkindA]
  refine W.newArray_of (s := T.setTop g) hkA hkindA hl1 hb1 (by show T.heap.size < _; omega) (by show T.slotsUsed + _ ≤ _; exact hr2) rfl fun acts' => ?_
  have hneg : ([x2].find? fun x => decide (x < 0)) = none := by simp [h2]
  simp only [hneg, ite_self, wp_bind', wp_pure', State.heap_setTop, State.pushCell_setTop, Std.Legacy.Range.forIn_eq_forIn_range']
  refine wp_forIn_inv (fun rest s' => ∃ i : Nat, i ≤ x1.toNatClampNeg ∧ rest = List.range' i (x1.toNatClampNeg - i) ∧ muI p l e R s m args below meth c locs cells slots T cA cI x1.toNatClampNeg x2.toNatClampNeg g i s') _ _ ?_ ?_ ?_
  · refine ⟨0, Nat.zero_le _, by simp [Std.Legacy.Range.size], ?_⟩
    refine ⟨_, [], rfl, ?_, (fun q hq => by cases hq), rfl, Array.size_push _, ?_, (fun j hj => absurd hj (Nat.not_lt_zero j)), (fun q hq2 => ?_)⟩
    · have X2 := X.pushed { cls := cA, slots := Array.replicate x1.toNatClampNeg .null }
      rw [Array.size_replicate] at X2
      rw [List.append_nil, Nat.zero_mul]
      exact X2
    · show (T.heap.push _)[T.heap.size]? = _
      rw [Array.getElem?_push_size]
      have e1 : (fun j : Nat => if j < 0 then Value.ref (T.heap.size + 1 + j) else Value.null) = fun _ => .null := funext fun j => if_neg (Nat.not_lt_zero j)
      rw [e1, ← arrV_new]
    · show (T.heap.push _)[q]? = _
      rw [Array.getElem?_push, if_neg (Nat.ne_of_lt hq2)]
  · rintro x rest s' d' acts' Q' ⟨i, hi, hl, hI⟩ hnext
    have hlt : i < x1.toNatClampNeg := by
      rcases Nat.lt_or_ge i x1.toNatClampNeg with h | h
      · exact h
      · rw [Nat.sub_eq_zero_of_le h] at hl
        cases hl
    have hl3 : List.range' i (x1.toNatClampNeg - i) = i :: List.range' (i + 1) (x1.toNatClampNeg - (i + 1)) := by
      have e1 : x1.toNatClampNeg - i = (x1.toNatClampNeg - (i + 1)) + 1 := by omega
      rw [e1, List.range'_succ]
    rw [hl3] at hl
    obtain ⟨rfl, hrest⟩ := List.cons.inj hl
    have hmul : (x + 1) * x2.toNatClampNeg ≤ x1.toNatClampNeg * x2.toNatClampNeg := Nat.mul_le_mul_right _ hlt
    exact muStep hkA hkindA hkI hkindI h2 hl2 hb2 hlt (by omega) (by omega) hI fun s'' d'' acts'' h => hnext s'' d'' acts'' ⟨x + 1, hlt, hrest, h⟩
  · rintro s' d' acts' ⟨i, hi, hl, hI⟩
    have hiN : i = x1.toNatClampNeg := by
      rcases Nat.lt_or_ge i x1.toNatClampNeg with h | h
      · have e1 : x1.toNatClampNeg - i = (x1.toNatClampNeg - (i + 1)) + 1 := by omega
        rw [e1, List.range'_succ] at hl
        cases hl
      · omega
    subst hiN
    simp only [wp_pure']
    exact hq _ _ _ hI
theorem muSem {T : State} {locs : List Loc} {cA cI comp : ClassId} {kA kI : Class} {x1 x2 : Int32} {f : JFrame} {rest : List Value} {index : Nat} {E : CtlPost} {d : Bool} {acts : List Action} {Q : Unit → Pre} (hs0 : T.topJava?.isSome) (hr : T.vm.classReady f.method.cls index cA) (hst : f.stack = .int x2 :: .int x1 :: rest) (hkA : T.vm.classes[cA]? = some kA) (hkindA : kA.kind = .array cI (.array .int)) (hkI : T.vm.classes[cI]? = some kI) (hkindI : kI.kind = .array comp .int) (h1 : ¬ x1 < 0) (h2 : ¬ x2 < 0) (hl1 : ¬ x1.toNatClampNeg > e.platform.arrayLengthLimit) (hb1 : ¬ x1.toNatClampNeg * componentBytes (.array .int) > e.platform.maxHeapBytes) (hl2 : ¬ x2.toNatClampNeg > e.platform.arrayLengthLimit) (hb2 : ¬ x2.toNatClampNeg * componentBytes .int > e.platform.maxHeapBytes) (hc : cells + 1 + x1.toNatClampNeg ≤ R.cells) (hs : slots + x1.toNatClampNeg + x1.toNatClampNeg * x2.toNatClampNeg ≤ R.slots)
    (X : Stand p l e R s m args below meth c T locs cells slots) (hq : ∀ (u : State) (d' : Bool) (acts' : List Action), muI p l e R s m args below meth c locs cells slots T cA cI x1.toNatClampNeg x2.toNatClampNeg { f with stack := rest } x1.toNatClampNeg (u.setTop { f with stack := rest }) → Q () d' acts' (u.setTop { f with stack := .ref T.heap.size :: rest })) :
    wp (Jvm.Op.multianewarray.sem index 2) Q E e d acts (T.setTop f) := by
  simp only [Jvm.Op.multianewarray.sem, wp_bind', W.resolveClassAt_ready (State.method?_setTop f hs0) hr, W.popN]
  rw [if_neg (by decide)]
  refine ⟨f, State.topJava?_setTop' f hs0, [.int x1, .int x2], rest, rfl, hst, ?_⟩
  simp only [State.setTop_setTop, List.mapM_cons, List.mapM_nil, wp_bind', wp_pure']
  refine muMake (g := { f with stack := rest }) hkA hkindA hkI hkindI h1 h2 hl1 hb1 hl2 hb2 hc hs X fun s'' d' acts' hI => ?_
  have hI0 := hI
  obtain ⟨u, L, rfl, X2, -⟩ := hI
  have htop : u.topJava?.isSome := X2.here.top
  simp only [wp_bind', wp_pure', W.mark, W.pushRef, State.topJava?_setTop' _ htop, Option.some.injEq, exists_eq_left', State.setTop_setTop]
  exact hq u _ _ hI0
/-- an instruction's end is one state: what is said of it is said of that state -/
theorem muEnds {tb : Tables} [Ours tb] {s0 : State} {f : JFrame} {c0 : Code} {i : Instr} {len : Nat} {S : State → Prop} (h : At s0 f.method c0 below) (hd : decode c0.code f.pc = .ok (i, len)) (hw : wpRun (tb.exec i) (fun _ s₁ _ => S s₁) (fun _ _ _ => False) e (s0.setTop f)) : ∃ s₁ : State, S s₁ ∧ ∀ target : State, (∀ acts, Steps tb e below (afterInstr e len (.ok () s₁ acts)).1 target) → Steps tb e below (s0.setTop f) target := by
  have hw2 := (wpRun_iff_run _ _ _ _ _).mp hw
  cases hr : (tb.exec i).run e (s0.setTop f) with
  | ok a s₁ acts =>
    rw [hr] at hw2
    refine ⟨s₁, hw2, fun target ht => Steps.instr h ?_⟩
    rw [hd]
    refine (wpRun_iff_run _ _ _ _ _).mpr ?_
    rw [hr]
    exact ht
  | ctl x s₁ acts =>
    rw [hr] at hw2
    cases x <;> exact hw2.elim
end MUL
section N4M
variable {E : E3} {Y Y2 : Y3} {mc ms uc us pc n : Nat} {F : Fn4} {lv lv' : List (Nat × Value)} {st : List Value} {c : Im4}
theorem n4_multi {idx N M : Nat} {k1 k2 : Int} (hd : decode Y.2.1 pc = .ok (.multianewarray idx 2, 4)) (h1 : Cond.classLink Y.1.cls idx "[[I" ∈ gt3) (hk1 : 0 ≤ k1 ∧ k1 < 1000 ∧ k1.toNat = N) (hk2 : 0 ≤ k2 ∧ k2 < 1000 ∧ k2.toNat = M) (hm : uc + 1 + N ≤ mc) (hs : us + N + N * M ≤ ms) (kk : ∀ c' : Im4, (∀ j : Nat, j < n → c' j = c j) → c' n = .inl (ca3 E 5, N, .inr (.inr (.inr (.inr (fun j => if j < N then some (B4 E + n + 1 + j) else none))))) → (∀ j : Nat, j < N → c' (n + 1 + j) = .inl (ca3 E 0, M, .inl (fun _ => 0))) → N4 E Y mc ms F (uc + 1 + N) (us + N + N * M) (pc + 4) lv (.ref (B4 E + n) :: st) c' (n + 1 + N)) : N4 E Y mc ms F uc us pc lv (.int (Int32.ofInt k2) :: .int (Int32.ofInt k1) :: st) c n := by
  intro p e R s m args below meth cd Z H locs ls hA hP hS hl T hT X
  have hexec := hA.1
  have hcd := hA.2.1
  have hts := hA.2.2.2.2.1
  have hR := hA.2.2.2.2.2.1
  have hN : (Int32.ofInt k1).toNatClampNeg = N := by rw [t3_cl (by omega)]; exact hk1.2.2
  have hM : (Int32.ofInt k2).toNatClampNeg = M := by rw [t3_cl (by omega)]; exact hk2.2.2
  have hlt : N < 1000 ∧ M < 1000 := by omega
  subst hT
  have hpl : e.platform.magicAccessors = ({} : Platform).magicAccessors := by rw [X.admits.platform]
  obtain ⟨comp, cA, kA, hcomp, -, hkA, hkindA, hnameA⟩ := arrayOverA_spec (args := args) (first := s) (o := none) (idx := []) hA.2.2.2.2.2.2.2.1.2.2
  obtain ⟨cc', hfcc, hcl⟩ := Cond.classLink_spec hA.2.2.2.1 (hts _ h1) e.platform hpl
  cases hnameA.symm.trans hfcc
  obtain ⟨-, kI, hkI, comp0, hkindI⟩ := (hA.2.2.2.2.2.2.1.2 0 _ rfl).1 0 (fun _ => .int 0)
  have ecA : cA = ca3 E 5 := Option.some.inj (hnameA.symm.trans (hA.2.2.2.2.2.2.1.2 5 _ rfl).2)
  have ecI : comp = ca3 E 0 := Option.some.inj (hcomp.symm.trans (hA.2.2.2.2.2.2.1.2 0 _ rfl).2)
  subst ecA
  subst ecI
  have hmc : (F0 m pc ls (.int (Int32.ofInt k2) :: .int (Int32.ofInt k1) :: st)).method.cls = m.cls := rfl
  obtain ⟨hg₁, hwarm₁, hready₁⟩ := State.classEntry (e := e) X.warmed hcl
  generalize T.vm.noted m.cls idx (.cls (ca3 E 5)) = vm₁ at hg₁ hwarm₁ hready₁
  have hal : s.vm.Alike vm₁ := hwarm₁.alike
  obtain ⟨kA₁, hkA₁, heA⟩ := hal.2.2 _ _ hkA
  obtain ⟨kI₁, hkI₁, heI⟩ := hal.2.2 _ _ hkI
  have hlim : e.platform.arrayLengthLimit = 2147483645 := Launch.admits_arrayLengthLimit X.admits
  have hhp : e.platform.maxHeapBytes = 536870912 := Launch.admits_maxHeapBytes X.admits
  have X₁ := X.noted hwarm₁
  have hc9 := hR.2.2.1
  have hs9 := hR.2.2.2
  obtain ⟨s₁, ⟨u, rfl, hI⟩, stp⟩ := muEnds (tb := p.tables) (e := e) (below := below) (s0 := T) (f := F0 m pc ls (.int (Int32.ofInt k2) :: .int (Int32.ofInt k1) :: st)) (i := .multianewarray idx 2) (len := 4) (S := fun s₁ => ∃ u : State, s₁ = u.setTop (F0 m pc ls (.ref T.heap.size :: st)) ∧ muI p E.1 e R s m args below meth cd locs uc us (T.setVm vm₁) (ca3 E 5) (ca3 E 0) N M (F0 m pc ls st) N (u.setTop (F0 m pc ls st))) X.here (by rw [hcd]; exact hd) (by
    rw [hexec]
    show wp (Jvm.Op.multianewarray.sem idx 2) _ _ _ _ _ _
    rw [Jvm.Op.multianewarray.sem, wp_bind', W.resolveClassAt_transfer (s := T.setTop _) (State.method?_setTop _ X.here.top) hg₁ hready₁, ← wp_bind']
    refine muSem (T := T.setVm vm₁) (f := F0 m pc ls (.int (Int32.ofInt k2) :: .int (Int32.ofInt k1) :: st)) X.here.top hready₁ rfl hkA₁ (by rw [heA]; exact hkindA) hkI₁ (by rw [heI]; exact hkindI) (fun z => by rw [t3_0, t3_lt (by omega) (by omega)] at z; omega) (fun z => by rw [t3_0, t3_lt (by omega) (by omega)] at z; omega) (by rw [hN, hlim]; omega) (by rw [hN, hhp]; show ¬ N * 4 > _; omega) (by rw [hM, hlim]; omega) (by rw [hM, hhp]; show ¬ M * 4 > _; omega) (by rw [hN]; omega) (by rw [hN, hM]; omega) X₁ fun u d' acts' hI => ?_
    rw [hN, hM] at hI
    exact ⟨u, rfl, hI⟩)
  obtain ⟨u2, L, hu, X2, hL, hvm, hsz, hout, hrow, hold⟩ := hI
  have g2 : T.heap.size = B4 E + n := hP.2
  have g1 : (T.setVm vm₁).heap.size = B4 E + n := hP.2
  rw [g1] at hL hsz hout hrow hold
  have hu3 : ∀ f' : JFrame, u.setTop f' = u2.setTop f' := fun f' => by
    rw [← State.setTop_setTop (f := F0 m pc ls st) (s := u), hu, State.setTop_setTop]
  let c' : Im4 := fun j => if j < n then c j else if j = n then .inl (ca3 E 5, N, .inr (.inr (.inr (.inr (fun j => if j < N then some (B4 E + n + 1 + j) else none))))) else .inl (ca3 E 0, M, .inl (fun _ => 0))
  have hc0 : ∀ j : Nat, j < n → c' j = c j := fun j hj => if_pos hj
  have hc1 : c' n = .inl (ca3 E 5, N, .inr (.inr (.inr (.inr (fun j => if j < N then some (B4 E + n + 1 + j) else none))))) := (if_neg (Nat.lt_irrefl n)).trans (if_pos rfl)
  have hc2 : ∀ j : Nat, n < j → c' j = .inl (ca3 E 0, M, .inl (fun _ => 0)) := fun j hj => (if_neg (by omega)).trans (if_neg (by omega))
  have hAt : At4 E c' (n + 1 + N) u2.heap := by
    refine ⟨fun j hj => ?_, by rw [hsz]; omega⟩
    rcases Nat.lt_trichotomy j n with h | h | h
    · rw [hc0 j h]
      exact (hP.1 j h).kept (hold _ (by show B4 E + j < B4 E + n; omega))
    · subst h
      rw [hc1]
      show u2.heap[B4 E + j]? = some (vp_cell _ _)
      rw [hout, vp_cell_q]
      congr 2
      funext q
      by_cases hq : q < N
      · simp [hq, va_rf]
      · simp [hq, va_rf]
    · rw [hc2 j h]
      show u2.heap[B4 E + j]? = some (vp_cell _ _)
      have h9 := hrow (j - n - 1) (by omega)
      rw [show B4 E + n + 1 + (j - n - 1) = B4 E + j by omega] at h9
      rw [h9, vp_cell_i]
  have hbl : ∀ q : Nat, B4 E ≤ q → A3 E q := hA.2.2.2.2.2.2.2.2.1
  have hS' : va_S (A3 E) s.heap u2.heap (locs ++ L) := ⟨Nat.le_trans hS.1 (by rw [hsz]; omega), fun x a b => (hold x (by have := hS.1; omega)).trans (hS.2.1 x a b), fun q hq => by
    rcases List.mem_append.mp hq with h | h
    · exact hS.2.2 q h
    · rw [hL q h]
      exact hbl _ (by omega)⟩
  obtain ⟨t2, a1, b1⟩ := kk c' hc0 hc1 (fun j hj => hc2 _ (by omega)) p e R s m args below meth cd Z u2.heap (locs ++ L) ls hA hAt hS' hl u2 rfl X2
  refine ⟨t2, stp t2 fun acts => ?_, b1⟩
  rw [afterInstr_ok, hu3, g2]
  exact a1
end N4M
