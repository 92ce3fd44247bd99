/-- what the tables say of a method that is called (of an object: st = false; static: true), n: how many arguments behind the receiver -/
def my3 (Y : Y3) (st : Bool) (n : Nat) : Prop := Cond.code Y.1 Y.2.1 Y.2.2.1 Y.2.2.2.1 ∈ gt3 ∧ Cond.initialized Y.1.cls ∈ gt3 ∧ (if st = true then Cond.static Y.1 ∈ gt3 else (Cond.instanceMethod Y.1 ∈ gt3 ∧ Cond.selects Y.1.cls Y.1 Y.1 ∈ gt3)) ∧ (Y.1.cls ≠ "java/lang/invoke/MethodHandle" ∧ Y.1.cls ≠ "java/lang/invoke/VarHandle" ∧ (parseMethodDescriptor Y.1.desc).map (fun d => d.parameters.length) = some n) ∧ Y.2.2.1 ≤ 20
section G3C
variable {E : E3} {Y Y2 : Y3} {Q : Q3} {pc : Nat} {lv lv' : List (Nat × V3)} {st : List V3} {M : M3} {as : List V3}
theorem ws3_good (h : Cond.code Y.1 Y.2.1 Y.2.2.1 Y.2.2.2.1 ∈ gt3) : GoodIn gt3 (ws3 Y) := fun w hw => by
  rcases List.mem_cons.mp hw with rfl | hw
  · exact good3 _ h
  · exact good3 _ hw
theorem wo3_blind (E : E3) (M : M3) (av : List Value) : FrameBlind (va_Pc av (wo3 E M)) := fun a U g mk q => by
  obtain ⟨h0, h1, h2, h3, h4, h5, h6, h7⟩ := q
  exact ⟨h0, h1, h2, fun w hw => va_Nw.same (by rcases (List.mem_cons.mp hw) with rfl | hw; rfl; rcases (List.mem_cons.mp hw) with rfl | hw; rfl; rcases (List.mem_cons.mp hw) with rfl | hw; rfl; rcases (List.mem_cons.mp hw) with rfl | hw; rfl; cases hw) (u := U) (U := U.calling g mk a) rfl (h3 w hw), h4, va_K.moved (u := U) (U := U.calling g mk a) (Vm.Alike.refl U.vm) h5, va_X.moved (u := U) (U := U.calling g mk a) (Vm.Alike.refl U.vm) h6, h7⟩
theorem nst3_warm {s U : State} (hW : s.WarmedH U.vm) (h : nst3 s) : nst3 U := fun w hw => by
  have h1 := h w hw
  rcases (List.mem_cons.mp hw) with rfl | hw
  · exact va_Nw.warmM hW h1
  rcases (List.mem_cons.mp hw) with rfl | hw
  · exact va_Nw.warmM hW h1
  rcases (List.mem_cons.mp hw) with rfl | hw
  · exact va_Nw.warmM hW h1
  rcases (List.mem_cons.mp hw) with rfl | hw
  · exact va_Nw.warmM hW h1
  cases hw
theorem wo3_of {s : State} {H : Heap} {locs : List Loc} (hM : RM3 M) (ho : ok3 E) (hn : nst3 s) (hP : va_P (D3 E) vwCl (wl3 E M) H) (hK : va_K (D3 E) vwCl (tys3 E) s) (hX : va_X (b3 E) (L3 E) (xs3 E) s s.heap ∧ b3 E < s.heap.size ∧ ¬ A3 E (b3 E)) (hS : va_S (A3 E) s.heap H locs) (U : State) (hU : U.heap = H) (hW : s.WarmedH U.vm) : wo3 E M U :=
  ⟨hM, ho, nst3_warm hW hn, by rw [hU]; exact hP, va_K.moved hW.alike hK, va_X.moved hW.alike (hX.1.kept (by rw [hU]; exact hS.2.1 _ hX.2.1 hX.2.2)), by rw [hU]; exact Nat.lt_of_lt_of_le hX.2.1 hS.1, hX.2.2⟩
/-- behind a call -/
theorem g3_back {p : Program} {e : Env} {R : Room} {s : State} {m : MethodId} {args : Array Value} {below : List Frame} {meth : Method} {c : Code} {cells slots : Nat} {Z : State → Prop} {H : Heap} {locs : List Loc} {ls : Array Slot} {st0 : List Value} {a : Array Value} (hA : Ac3 E Y Q p e R s m args below meth c cells slots Z) (hS : va_S (A3 E) s.heap H locs) (hl : lv_has ls Y.2.2.1 (lv.map fun q => (q.1, cv3 (ad3 E) q.2)))
    (hr : va_Run p E.1 e R s m args below meth c H locs cells slots 0 0 (F0 m pc ls st0) (st.map (cv3 (ad3 E))) (qc3 E (fun v M' => G3 E Y Q (pc + 3) lv (v.toList ++ st) M') a) (A3 E)) : W p E.1 e R s m args below meth c H locs cells slots Z (F0 m pc ls st0) := by
  intro T hT X
  obtain ⟨v, st₀, t, T', L, h0, X', hL, e1, e2, ⟨⟨v', M', hv, hQ, hM', hP'⟩, hz, hk⟩, stp⟩ := hr T hT X
  cases hv
  rw [h0] at hz hk
  have hS' : va_S (A3 E) s.heap T'.heap (locs ++ L) := ⟨Nat.le_trans hS.1 (by rw [e1]; exact hz), fun q h1 h2 => by rw [e1, hk q (Nat.lt_of_lt_of_le h1 hS.1) h2]; exact hS.2.1 q h1 h2, fun q hq => by
      rcases List.mem_append.mp hq with h | h
      · exact hS.2.2 q h
      · exact hL q h⟩
  obtain ⟨t2, a1, b1⟩ := hQ p e R s m args below meth c cells slots Z T'.heap (locs ++ L) ls hA hM' (by rw [e1]; exact hP') hS' hl T' rfl X'
  refine ⟨t2, stp t2 ?_, b1⟩
  have e3 : (v'.toList ++ st).map (cv3 (ad3 E)) = (v'.map (cv3 (ad3 E))).toList ++ st.map (cv3 (ad3 E)) := by cases v' <;> simp
  rw [e3] at a1
  exact a1
theorem g3_stk (h : (st.map ct3).sum ≤ 8) : ((st.map (cv3 (ad3 E))).map fun v => v.category).sum ≤ 8 := by
  rw [List.map_map]
  have : (fun v => Value.category v) ∘ cv3 (ad3 E) = ct3 := funext fun v => cv3_cat _ v
  rw [this]
  exact h
theorem g3_callV {idx r : Nat} {i nz : Int} {n : Nat} (hd : decode Y.2.1 pc = .ok (.invokevirtual idx, 3)) (hm : my3 Y2 false n) (hl2 : Cond.methodLink Y.1.cls idx Y2.1 ∈ gt3) (hh : Y2.2.2.2.2 < Y.2.2.2.2) (hob : ob3 r Y2.1.cls nz) (hi : 0 ≤ i ∧ i < nz) (hs : (st.map ct3).sum ≤ 8) (hn : as.length = n) (k : C3 E Y2 (vR r i :: as) M (fun v M' => G3 E Y Q (pc + 3) lv (v.toList ++ st) M')) : G3 E Y Q pc lv (as.reverse ++ vR r i :: st) M := by
  intro p e R s m args below meth c cells slots Z H locs ls hA hM hP hS hl
  obtain ⟨kk, T, N, h1, h2, h3, h4⟩ := hob
  obtain ⟨i', rfl⟩ := Int.eq_ofNat_of_zero_le hi.1
  obtain ⟨q0, hq, hw⟩ := wl3_at E M (i := i') h1 (by omega)
  rw [el3_ob h2] at hw
  have hC := k hM
  obtain ⟨m1, m2, m3, m4, m5⟩ := hm
  obtain ⟨m6, m7⟩ := m3
  have hts := hA.2.2.2.2.1
  refine g3_back (st := st) (a := (Value.ref (ad3 E r i') :: as.map (cv3 (ad3 E))).toArray) hA hS hl (va_runV (b := ad3 E r i') (As := as.map (cv3 (ad3 E))) (Ts := gt3) (nL := Y.2.2.1) (bytes := Y2.2.1) (maxL := Y2.2.2.1) (ret := Y2.2.2.2.1) (rm := rm3 Y2.2.2.2.2) (ws := ws3 Y2) (C := Y2.1.cls) (n := n) ⟨hA.1, hA.2.1, hA.2.2.1, hA.2.2.2.1, hts⟩ hC
    ⟨callB_of n hts (ws3_good m1) rfl rfl rfl (hts _ m2) (hts _ hl2) m4 ⟨?_, ?_⟩, hts _ m6, hts _ m7⟩
    ⟨wo3_blind E M _, va_recv hA.2.2.2.2.2.2.1 hP h3 hw, fun U hU hW => ⟨rfl, wo3_of hM hA.2.2.2.2.2.2.2.2.2.1 hA.2.2.2.2.2.2.2.2.1 hP hA.2.2.2.2.2.2.1 hA.2.2.2.2.2.2.2.1 hS U hU hW⟩⟩ rfl (by rw [List.length_map]; exact hn) hl.1 ?_ (lv_room (g3_stk hs)) hd ⟨hA.2.2.2.2.2.1.2.2.1, hA.2.2.2.2.2.1.2.2.2⟩)
  · have h9 : Y2.2.2.2.2 + 1 ≤ R.frames := Nat.le_trans hh hA.2.2.2.2.2.1.1
    exact h9
  · have h9 := hA.2.2.2.2.2.1.2.1
    show 8 + (Y2.2.2.1 + 11) + 39 * Y2.2.2.2.2 ≤ R.locals
    omega
  · show (as.reverse ++ vR r (i' : Int) :: st).map (cv3 (ad3 E)) = _
    rw [List.map_append, List.map_reverse]
    rfl
theorem g3_callS {idx : Nat} {n : Nat} (hd : decode Y.2.1 pc = .ok (.invokestatic idx, 3)) (hm : my3 Y2 true n) (hl2 : Cond.methodLink Y.1.cls idx Y2.1 ∈ gt3) (hh : Y2.2.2.2.2 < Y.2.2.2.2) (hs : (st.map ct3).sum ≤ 8) (hn : as.length = n) (k : C3 E Y2 as M (fun v M' => G3 E Y Q (pc + 3) lv (v.toList ++ st) M')) : G3 E Y Q pc lv (as.reverse ++ st) M := by
  intro p e R s m args below meth c cells slots Z H locs ls hA hM hP hS hl
  have hC := k hM
  obtain ⟨m1, m2, m3, m4, m5⟩ := hm
  have hts := hA.2.2.2.2.1
  refine g3_back (st := st) (a := (as.map (cv3 (ad3 E))).toArray) hA hS hl (va_runS (As := as.map (cv3 (ad3 E))) (Ts := gt3) (nL := Y.2.2.1) (bytes := Y2.2.1) (maxL := Y2.2.2.1) (ret := Y2.2.2.2.1) (rm := rm3 Y2.2.2.2.2) (ws := ws3 Y2) (n := n) ⟨hA.1, hA.2.1, hA.2.2.1, hA.2.2.2.1, hts⟩ hC
    ⟨callB_of n hts (ws3_good m1) rfl rfl rfl (hts _ m2) (hts _ hl2) m4 ⟨?_, ?_⟩, hts _ m3⟩
    ⟨wo3_blind E M _, fun U hU hW => ⟨rfl, wo3_of hM hA.2.2.2.2.2.2.2.2.2.1 hA.2.2.2.2.2.2.2.2.1 hP hA.2.2.2.2.2.2.1 hA.2.2.2.2.2.2.2.1 hS U hU hW⟩⟩ rfl (by rw [List.length_map]; exact hn) hl.1 ?_ (lv_room (g3_stk hs)) hd ⟨hA.2.2.2.2.2.1.2.2.1, hA.2.2.2.2.2.1.2.2.2⟩)
  · have h9 : Y2.2.2.2.2 + 1 ≤ R.frames := Nat.le_trans hh hA.2.2.2.2.2.1.1
    exact h9
  · have h9 := hA.2.2.2.2.2.1.2.1
    show 8 + (Y2.2.2.1 + 11) + 39 * Y2.2.2.2.2 ≤ R.locals
    omega
  · show (as.reverse ++ st).map (cv3 (ad3 E)) = _
    rw [List.map_append, List.map_reverse]
theorem g3_callN {idx : Nat} {n : Nat} {host : String} (hd : decode Y.2.1 pc = .ok (.invokestatic idx, 3)) (hm : my3 Y2 true n) (hl2 : Cond.methodLinkNest Y.1.cls idx Y2.1 host ∈ nl3) (hh : Y2.2.2.2.2 < Y.2.2.2.2) (hs : (st.map ct3).sum ≤ 8) (hn : as.length = n) (k : C3 E Y2 as M (fun v M' => G3 E Y Q (pc + 3) lv (v.toList ++ st) M')) : G3 E Y Q pc lv (as.reverse ++ st) M := by
  intro p e R s m args below meth c cells slots Z H locs ls hA hM hP hS hl
  have hC := k hM
  obtain ⟨m1, m2, m3, m4, m5⟩ := hm
  have hts := hA.2.2.2.2.1
  refine g3_back (st := st) (a := (as.map (cv3 (ad3 E))).toArray) hA hS hl (va_runSN (host := host) (As := as.map (cv3 (ad3 E))) (Ts := gt3) (nL := Y.2.2.1) (bytes := Y2.2.1) (maxL := Y2.2.2.1) (ret := Y2.2.2.2.1) (rm := rm3 Y2.2.2.2.2) (ws := ws3 Y2) (n := n) ⟨hA.1, hA.2.1, hA.2.2.1, hA.2.2.2.1, hts⟩ hC
    ⟨va_cnB n hts (ws3_good m1) rfl rfl rfl (hA.2.2.2.2.2.2.2.2.1 _ hl2) (hts _ m2) m4 ⟨?_, ?_⟩, hts _ m3, trivial⟩
    ⟨wo3_blind E M _, fun U hU hW => ⟨rfl, wo3_of hM hA.2.2.2.2.2.2.2.2.2.1 hA.2.2.2.2.2.2.2.2.1 hP hA.2.2.2.2.2.2.1 hA.2.2.2.2.2.2.2.1 hS U hU hW⟩⟩ rfl (by rw [List.length_map]; exact hn) hl.1 ?_ (lv_room (g3_stk hs)) hd ⟨hA.2.2.2.2.2.1.2.2.1, hA.2.2.2.2.2.1.2.2.2⟩)
  · have h9 : Y2.2.2.2.2 + 1 ≤ R.frames := Nat.le_trans hh hA.2.2.2.2.2.1.1
    exact h9
  · have h9 := hA.2.2.2.2.2.1.2.1
    show 8 + (Y2.2.2.1 + 11) + 39 * Y2.2.2.2.2 ≤ R.locals
    omega
  · show (as.reverse ++ st).map (cv3 (ad3 E)) = _
    rw [List.map_append, List.map_reverse]
theorem g3_cV0 {idx r : Nat} {i nz : Int} (hd : decode Y.2.1 pc = .ok (.invokevirtual idx, 3)) (hm : my3 Y2 false 0) (hl2 : Cond.methodLink Y.1.cls idx Y2.1 ∈ gt3) (hh : Y2.2.2.2.2 < Y.2.2.2.2) (hob : ob3 r Y2.1.cls nz) (hi : 0 ≤ i ∧ i < nz) (hs : (st.map ct3).sum ≤ 8) (k : C3 E Y2 (vR r i :: []) M (fun v M' => G3 E Y Q (pc + 3) lv (v.toList ++ st) M')) : G3 E Y Q pc lv (vR r i :: st) M := g3_callV (as := []) hd hm hl2 hh hob hi hs rfl k
theorem g3_cV1 {idx r : Nat} {i nz : Int} {a1 : V3} (hd : decode Y.2.1 pc = .ok (.invokevirtual idx, 3)) (hm : my3 Y2 false 1) (hl2 : Cond.methodLink Y.1.cls idx Y2.1 ∈ gt3) (hh : Y2.2.2.2.2 < Y.2.2.2.2) (hob : ob3 r Y2.1.cls nz) (hi : 0 ≤ i ∧ i < nz) (hs : (st.map ct3).sum ≤ 8) (k : C3 E Y2 (vR r i :: [a1]) M (fun v M' => G3 E Y Q (pc + 3) lv (v.toList ++ st) M')) : G3 E Y Q pc lv (a1 :: vR r i :: st) M := g3_callV (as := [a1]) hd hm hl2 hh hob hi hs rfl k
theorem g3_cS1 {idx : Nat} {a1 : V3} (hd : decode Y.2.1 pc = .ok (.invokestatic idx, 3)) (hm : my3 Y2 true 1) (hl2 : Cond.methodLink Y.1.cls idx Y2.1 ∈ gt3) (hh : Y2.2.2.2.2 < Y.2.2.2.2) (hs : (st.map ct3).sum ≤ 8) (k : C3 E Y2 [a1] M (fun v M' => G3 E Y Q (pc + 3) lv (v.toList ++ st) M')) : G3 E Y Q pc lv (a1 :: st) M := g3_callS (as := [a1]) hd hm hl2 hh hs rfl k
theorem g3_cN1 {idx : Nat} {host : String} {a1 : V3} (hd : decode Y.2.1 pc = .ok (.invokestatic idx, 3)) (hm : my3 Y2 true 1) (hl2 : Cond.methodLinkNest Y.1.cls idx Y2.1 host ∈ nl3) (hh : Y2.2.2.2.2 < Y.2.2.2.2) (hs : (st.map ct3).sum ≤ 8) (k : C3 E Y2 [a1] M (fun v M' => G3 E Y Q (pc + 3) lv (v.toList ++ st) M')) : G3 E Y Q pc lv (a1 :: st) M := g3_callN (as := [a1]) hd hm hl2 hh hs rfl k
theorem g3_cV2 {idx r : Nat} {i nz : Int} {a1 a2 : V3} (hd : decode Y.2.1 pc = .ok (.invokevirtual idx, 3)) (hm : my3 Y2 false 2) (hl2 : Cond.methodLink Y.1.cls idx Y2.1 ∈ gt3) (hh : Y2.2.2.2.2 < Y.2.2.2.2) (hob : ob3 r Y2.1.cls nz) (hi : 0 ≤ i ∧ i < nz) (hs : (st.map ct3).sum ≤ 8) (k : C3 E Y2 (vR r i :: [a1, a2]) M (fun v M' => G3 E Y Q (pc + 3) lv (v.toList ++ st) M')) : G3 E Y Q pc lv (a2 :: a1 :: vR r i :: st) M := g3_callV (as := [a1, a2]) hd hm hl2 hh hob hi hs rfl k
theorem g3_cS2 {idx : Nat} {a1 a2 : V3} (hd : decode Y.2.1 pc = .ok (.invokestatic idx, 3)) (hm : my3 Y2 true 2) (hl2 : Cond.methodLink Y.1.cls idx Y2.1 ∈ gt3) (hh : Y2.2.2.2.2 < Y.2.2.2.2) (hs : (st.map ct3).sum ≤ 8) (k : C3 E Y2 [a1, a2] M (fun v M' => G3 E Y Q (pc + 3) lv (v.toList ++ st) M')) : G3 E Y Q pc lv (a2 :: a1 :: st) M := g3_callS (as := [a1, a2]) hd hm hl2 hh hs rfl k
theorem g3_cN2 {idx : Nat} {host : String} {a1 a2 : V3} (hd : decode Y.2.1 pc = .ok (.invokestatic idx, 3)) (hm : my3 Y2 true 2) (hl2 : Cond.methodLinkNest Y.1.cls idx Y2.1 host ∈ nl3) (hh : Y2.2.2.2.2 < Y.2.2.2.2) (hs : (st.map ct3).sum ≤ 8) (k : C3 E Y2 [a1, a2] M (fun v M' => G3 E Y Q (pc + 3) lv (v.toList ++ st) M')) : G3 E Y Q pc lv (a2 :: a1 :: st) M := g3_callN (as := [a1, a2]) hd hm hl2 hh hs rfl k
theorem g3_cV3 {idx r : Nat} {i nz : Int} {a1 a2 a3 : V3} (hd : decode Y.2.1 pc = .ok (.invokevirtual idx, 3)) (hm : my3 Y2 false 3) (hl2 : Cond.methodLink Y.1.cls idx Y2.1 ∈ gt3) (hh : Y2.2.2.2.2 < Y.2.2.2.2) (hob : ob3 r Y2.1.cls nz) (hi : 0 ≤ i ∧ i < nz) (hs : (st.map ct3).sum ≤ 8) (k : C3 E Y2 (vR r i :: [a1, a2, a3]) M (fun v M' => G3 E Y Q (pc + 3) lv (v.toList ++ st) M')) : G3 E Y Q pc lv (a3 :: a2 :: a1 :: vR r i :: st) M := g3_callV (as := [a1, a2, a3]) hd hm hl2 hh hob hi hs rfl k
theorem g3_cS3 {idx : Nat} {a1 a2 a3 : V3} (hd : decode Y.2.1 pc = .ok (.invokestatic idx, 3)) (hm : my3 Y2 true 3) (hl2 : Cond.methodLink Y.1.cls idx Y2.1 ∈ gt3) (hh : Y2.2.2.2.2 < Y.2.2.2.2) (hs : (st.map ct3).sum ≤ 8) (k : C3 E Y2 [a1, a2, a3] M (fun v M' => G3 E Y Q (pc + 3) lv (v.toList ++ st) M')) : G3 E Y Q pc lv (a3 :: a2 :: a1 :: st) M := g3_callS (as := [a1, a2, a3]) hd hm hl2 hh hs rfl k
theorem g3_cN3 {idx : Nat} {host : String} {a1 a2 a3 : V3} (hd : decode Y.2.1 pc = .ok (.invokestatic idx, 3)) (hm : my3 Y2 true 3) (hl2 : Cond.methodLinkNest Y.1.cls idx Y2.1 host ∈ nl3) (hh : Y2.2.2.2.2 < Y.2.2.2.2) (hs : (st.map ct3).sum ≤ 8) (k : C3 E Y2 [a1, a2, a3] M (fun v M' => G3 E Y Q (pc + 3) lv (v.toList ++ st) M')) : G3 E Y Q pc lv (a3 :: a2 :: a1 :: st) M := g3_callN (as := [a1, a2, a3]) hd hm hl2 hh hs rfl k
theorem g3_cV4 {idx r : Nat} {i nz : Int} {a1 a2 a3 a4 : V3} (hd : decode Y.2.1 pc = .ok (.invokevirtual idx, 3)) (hm : my3 Y2 false 4) (hl2 : Cond.methodLink Y.1.cls idx Y2.1 ∈ gt3) (hh : Y2.2.2.2.2 < Y.2.2.2.2) (hob : ob3 r Y2.1.cls nz) (hi : 0 ≤ i ∧ i < nz) (hs : (st.map ct3).sum ≤ 8) (k : C3 E Y2 (vR r i :: [a1, a2, a3, a4]) M (fun v M' => G3 E Y Q (pc + 3) lv (v.toList ++ st) M')) : G3 E Y Q pc lv (a4 :: a3 :: a2 :: a1 :: vR r i :: st) M := g3_callV (as := [a1, a2, a3, a4]) hd hm hl2 hh hob hi hs rfl k
theorem g3_cS4 {idx : Nat} {a1 a2 a3 a4 : V3} (hd : decode Y.2.1 pc = .ok (.invokestatic idx, 3)) (hm : my3 Y2 true 4) (hl2 : Cond.methodLink Y.1.cls idx Y2.1 ∈ gt3) (hh : Y2.2.2.2.2 < Y.2.2.2.2) (hs : (st.map ct3).sum ≤ 8) (k : C3 E Y2 [a1, a2, a3, a4] M (fun v M' => G3 E Y Q (pc + 3) lv (v.toList ++ st) M')) : G3 E Y Q pc lv (a4 :: a3 :: a2 :: a1 :: st) M := g3_callS (as := [a1, a2, a3, a4]) hd hm hl2 hh hs rfl k
theorem g3_cN4 {idx : Nat} {host : String} {a1 a2 a3 a4 : V3} (hd : decode Y.2.1 pc = .ok (.invokestatic idx, 3)) (hm : my3 Y2 true 4) (hl2 : Cond.methodLinkNest Y.1.cls idx Y2.1 host ∈ nl3) (hh : Y2.2.2.2.2 < Y.2.2.2.2) (hs : (st.map ct3).sum ≤ 8) (k : C3 E Y2 [a1, a2, a3, a4] M (fun v M' => G3 E Y Q (pc + 3) lv (v.toList ++ st) M')) : G3 E Y Q pc lv (a4 :: a3 :: a2 :: a1 :: st) M := g3_callN (as := [a1, a2, a3, a4]) hd hm hl2 hh hs rfl k
theorem g3_cV5 {idx r : Nat} {i nz : Int} {a1 a2 a3 a4 a5 : V3} (hd : decode Y.2.1 pc = .ok (.invokevirtual idx, 3)) (hm : my3 Y2 false 5) (hl2 : Cond.methodLink Y.1.cls idx Y2.1 ∈ gt3) (hh : Y2.2.2.2.2 < Y.2.2.2.2) (hob : ob3 r Y2.1.cls nz) (hi : 0 ≤ i ∧ i < nz) (hs : (st.map ct3).sum ≤ 8) (k : C3 E Y2 (vR r i :: [a1, a2, a3, a4, a5]) M (fun v M' => G3 E Y Q (pc + 3) lv (v.toList ++ st) M')) : G3 E Y Q pc lv (a5 :: a4 :: a3 :: a2 :: a1 :: vR r i :: st) M := g3_callV (as := [a1, a2, a3, a4, a5]) hd hm hl2 hh hob hi hs rfl k
theorem g3_cS5 {idx : Nat} {a1 a2 a3 a4 a5 : V3} (hd : decode Y.2.1 pc = .ok (.invokestatic idx, 3)) (hm : my3 Y2 true 5) (hl2 : Cond.methodLink Y.1.cls idx Y2.1 ∈ gt3) (hh : Y2.2.2.2.2 < Y.2.2.2.2) (hs : (st.map ct3).sum ≤ 8) (k : C3 E Y2 [a1, a2, a3, a4, a5] M (fun v M' => G3 E Y Q (pc + 3) lv (v.toList ++ st) M')) : G3 E Y Q pc lv (a5 :: a4 :: a3 :: a2 :: a1 :: st) M := g3_callS (as := [a1, a2, a3, a4, a5]) hd hm hl2 hh hs rfl k
theorem g3_cN5 {idx : Nat} {host : String} {a1 a2 a3 a4 a5 : V3} (hd : decode Y.2.1 pc = .ok (.invokestatic idx, 3)) (hm : my3 Y2 true 5) (hl2 : Cond.methodLinkNest Y.1.cls idx Y2.1 host ∈ nl3) (hh : Y2.2.2.2.2 < Y.2.2.2.2) (hs : (st.map ct3).sum ≤ 8) (k : C3 E Y2 [a1, a2, a3, a4, a5] M (fun v M' => G3 E Y Q (pc + 3) lv (v.toList ++ st) M')) : G3 E Y Q pc lv (a5 :: a4 :: a3 :: a2 :: a1 :: st) M := g3_callN (as := [a1, a2, a3, a4, a5]) hd hm hl2 hh hs rfl k
/-- a method's entry: its arguments are its locals -/
def la3 : Nat → List V3 → List (Nat × V3)
  | _, [] => []
  | i, v :: vs => (i, v) :: la3 (i + 1) vs
theorem la3_map (ad : Nat → Nat → Nat) : ∀ (as : List V3) (i : Nat), (as.all fun v => ct3 v == 1) = true → lv_args i (as.map (cv3 ad)) = (la3 i as).map fun q => (q.1, cv3 ad q.2)
  | [], _, _ => rfl
  | v :: vs, i, h => by
    simp only [List.all_cons, Bool.and_eq_true, beq_iff_eq] at h
    show (i, cv3 ad v) :: lv_args (if (cv3 ad v).category = 2 then i + 2 else i + 1) (vs.map (cv3 ad)) = (i, cv3 ad v) :: _
    rw [cv3_cat, h.1, if_neg (by decide), la3_map ad vs (i + 1) h.2]
theorem la3_len (ad : Nat → Nat → Nat) : ∀ (as : List V3), (as.all fun v => ct3 v == 1) = true → (lg_sl (as.map (cv3 ad))).length = as.length
  | [], _ => rfl
  | v :: vs, h => by
    simp only [List.all_cons, Bool.and_eq_true, beq_iff_eq] at h
    have h1 := la3_len ad vs h.2
    unfold lg_sl at h1 ⊢
    rw [List.map_cons, List.flatMap_cons, List.length_append, h1, cv3_cat, h.1, if_neg (by decide)]
    simp
    omega
theorem c3_in (hy : plainName Y.1.cls = true) (hc : (as.all fun v => ct3 v == 1) = true) (hlen : as.length ≤ Y.2.2.1) (h : G3 E Y Q 0 (la3 0 as) [] M) : C3 E Y as M Q := by
  intro hM
  refine Met.ofW (cc := Y.2.1) (maxL := Y.2.2.1) (ret := Y.2.2.2.1) hy rfl ?_
  intro p e s m args below meth c s₁ B hml hv
  obtain ⟨rfl, -, hok, hn, hP, hK, hX, hbl, hbA⟩ := hv
  have hts := atoms_spec (ws := ws3 Y) B.pre
  have hown : s.vm.findClass Y.1.cls = some m.cls := findClass_of_methodNamed B.named
  have hlocks := B.notSynchronized
  have hr := B.returns
  rw [lg_entry_eq]
  have hl := lv_entry (as.map (cv3 (ad3 E))) (n := Y.2.2.1) (by rw [la3_len _ _ hc]; exact hlen)
  rw [la3_map _ _ _ hc] at hl
  refine h p e (rm3 Y.2.2.2.2) s m _ below meth c 0 0 _ s.heap [] _ ⟨B.exec, B.bytes, hml, hown, fun w hw => hts w (List.mem_cons_of_mem _ hw), ⟨Nat.le_refl _, Nat.le_refl _, Nat.le_refl _, Nat.le_refl _⟩, hK, ⟨hX, hbl, hbA⟩, hn, hok, ?_⟩ hM hP va_S.rf hl
  intro v M' H locs ls pc hen hM' hP' hS' hQ
  have hF : ∀ t : State, t.heap = H → va_F (A3 E) s t := fun t ht => hS'.F ht
  rcases v with _ | x | y | q
  · exact W.vret B.exec B.bytes (hr.trans hen.2) (fun t ht hW => ⟨⟨none, M', rfl, hQ, hM', by rw [ht]; exact hP'⟩, hF t ht⟩) hS'.2.2 hen.1 hlocks
  · rcases hen.2 with h1 | ⟨h1, h2⟩
    · exact W.iret B.exec B.bytes (hr.trans h1) (fun t ht hW => ⟨⟨some (vI x), M', rfl, hQ, hM', by rw [ht]; exact hP'⟩, hF t ht⟩) hS'.2.2 hen.1 hlocks
    · exact W.zret B.exec B.bytes (hr.trans h1) (by rcases h2 with rfl | rfl <;> decide) (fun t ht hW => ⟨⟨some (vI x), M', rfl, hQ, hM', by rw [ht]; exact hP'⟩, hF t ht⟩) hS'.2.2 hen.1 hlocks
  · exact W.lret B.exec B.bytes (hr.trans hen.2) (fun t ht hW => ⟨⟨some (vL y), M', rfl, hQ, hM', by rw [ht]; exact hP'⟩, hF t ht⟩) hS'.2.2 hen.1 hlocks
  · obtain ⟨C, hC⟩ := hen.2
    exact W.aret B.exec B.bytes (hr.trans hC) (Or.inl ⟨C, rfl⟩) (Or.inr ⟨_, rfl⟩) (fun t ht hW => ⟨⟨some (vR q.1 q.2), M', rfl, hQ, hM', by rw [ht]; exact hP'⟩, hF t ht⟩) hS'.2.2 hen.1 hlocks
theorem c3_mono {Q' : Q3} (h : C3 E Y as M Q) (hq : ∀ v M', RM3 M' → Q v M' → Q' v M') : C3 E Y as M Q' := by
  intro hM p e ha hc hk s m args below hf hfit hheap happ
  obtain ⟨k, o, h1, h2, h3, hQ⟩ := h hM p e ha hc hk s m args below hf hfit hheap happ
  exact ⟨k, o, h1, h2, h3, ⟨⟨by obtain ⟨⟨v, M', e1, e2, e3, e4⟩, hF⟩ := hQ.1; exact ⟨v, M', e1, hq v M' e3 e2, e3, e4⟩, hQ.1.2⟩, hQ.2⟩⟩
end G3C
