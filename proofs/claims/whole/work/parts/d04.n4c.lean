/-! THE CONSTRUCTORS: calls and entries -/
def my4 (Y : Y3) (n : Nat) : Prop := Cond.code Y.1 Y.2.1 Y.2.2.1 none ∈ gt3 ∧ Y.2.2.2.1 = none ∧ Cond.initialized Y.1.cls ∈ gt3 ∧ Cond.instanceMethod Y.1 ∈ gt3 ∧ Y.1.name = "<init>" ∧ (Y.1.cls ≠ "java/lang/invoke/MethodHandle" ∧ Y.1.cls ≠ "java/lang/invoke/VarHandle" ∧ (parseMethodDescriptor Y.1.desc).map (fun d => d.parameters.length) = some n) ∧ Y.2.2.1 ≤ 20
theorem ws4_eq {Y : Y3} (h : Y.2.2.2.1 = none) : ws3 Y = Cond.code Y.1 Y.2.1 Y.2.2.1 none :: gt3 := by
  unfold ws3
  rw [h]
theorem ws4_good {Y : Y3} (h : Y.2.2.2.1 = none) (h1 : Cond.code Y.1 Y.2.1 Y.2.2.1 none ∈ gt3) : GoodIn gt3 (ws3 Y) := ws3_good (by rw [h]; exact h1)
theorem nst4_same {u U : State} (e : u.vm = U.vm) (h : nst4 u) : nst4 U := ⟨fun w hw => va_Nw.same (by rcases (List.mem_cons.mp hw) with rfl | hw; rfl; rcases (List.mem_cons.mp hw) with rfl | hw; rfl; rcases (List.mem_cons.mp hw) with rfl | hw; rfl; rcases (List.mem_cons.mp hw) with rfl | hw; rfl; rcases (List.mem_cons.mp hw) with rfl | hw; rfl; cases hw) e (h.1 w hw), h.2.moved (by rw [e]; exact Vm.Alike.refl U.vm)⟩
theorem nst4_warm {s U : State} (hW : s.WarmedH U.vm) (h : nst4 s) : nst4 U := by
  refine ⟨fun w hw => ?_, h.2.moved hW.alike⟩
  have h1 := h.1 w hw
  rcases (List.mem_cons.mp hw) with rfl | hw
  · exact va_Nw.warmM hW h1
  rcases (List.mem_cons.mp hw) with rfl | hw
  · exact va_Nw.warmM hW h1
  rcases (List.mem_cons.mp hw) with rfl | hw
  · exact va_Nw.warmM hW h1
  rcases (List.mem_cons.mp hw) with rfl | hw
  · exact va_Nw.warmM hW h1
  rcases (List.mem_cons.mp hw) with rfl | hw
  · exact va_Nw.warmM hW h1
  cases hw
theorem wo4_blind (E : E3) (c : Im4) (n : Nat) (av : List Value) : FrameBlind (va_Pc av (wo4 E c n)) := fun a U g mk q => by
  obtain ⟨h0, h1, h2, h3, h4⟩ := q
  exact ⟨h0, h1, nst4_same (u := U) (U := U.calling g mk a) rfl h2, h3, va_K.moved (u := U) (U := U.calling g mk a) (Vm.Alike.refl U.vm) h4⟩
section N4C
variable {E : E3} {Y Y2 : Y3} {mc ms mc2 ms2 uc us pc n : Nat} {F : Fn4} {lv lv' : List (Nat × Value)} {st as : List Value} {c : Im4}
theorem n4_back {p : Program} {e : Env} {R : Room} {s : State} {m : MethodId} {args : Array Value} {below : List Frame} {meth : Method} {cd : Code} {Z : State → Prop} {H : Heap} {locs : List Loc} {ls : Array Slot} {st0 : List Value} {a : Array Value} (hA : Ac4 E Y mc ms F p e R s m args below meth cd Z) (hS : va_S (A3 E) s.heap H locs) (hl : lv_has ls Y.2.2.1 lv)
    (hr : va_Run p E.1 e R s m args below meth cd H locs uc us mc2 ms2 (F0 m pc ls st0) st (qc4 E (fun c' n' => N4 E Y mc ms F (uc + mc2) (us + ms2) (pc + 3) lv st c' n') a) (A3 E)) : W p E.1 e R s m args below meth cd H locs uc us Z (F0 m pc ls st0) := by
  intro T hT X
  obtain ⟨v, st₀, t, T', L, h0, X', hL, e1, e2, ⟨⟨c', n', hv, hQ, hP'⟩, hz, hk⟩, stp⟩ := hr T hT X
  cases hv
  rw [h0] at hz hk
  have hS' : va_S (A3 E) s.heap T'.heap (locs ++ L) := ⟨Nat.le_trans hS.1 (by rw [e1]; exact hz), fun q h1 h2 => by rw [e1, hk q (Nat.lt_of_lt_of_le h1 hS.1) h2]; exact hS.2.1 q h1 h2, fun q hq => by
      rcases List.mem_append.mp hq with h | h
      · exact hS.2.2 q h
      · exact hL q h⟩
  obtain ⟨t2, a1, b1⟩ := hQ p e R s m args below meth cd Z T'.heap (locs ++ L) ls hA (by rw [e1]; exact hP') hS' hl T' rfl X'
  exact ⟨t2, stp t2 a1, b1⟩
theorem wo4_of {s : State} {H : Heap} (ho : ok4 E) (hn : nst4 s) (hP : At4 E c n H) (hK : va_K (D3 E) vwCl (tys3 E) s) (U : State) (hU : U.heap = H) (hW : s.WarmedH U.vm) : wo4 E c n U := ⟨ho, nst4_warm hW hn, by rw [hU]; exact hP, va_K.moved hW.alike hK⟩
theorem n4_call {idx a k : Nat} (hd : decode Y.2.1 pc = .ok (.invokespecial idx, 3)) (hm : my4 Y2 k) (hl2 : Cond.methodLink Y.1.cls idx Y2.1 ∈ gt3) (hh : Y2.2.2.2.2 < Y.2.2.2.2) (hs : (st.map fun v => v.category).sum ≤ 8) (hn : as.length = k) (hc : uc + mc2 ≤ mc) (hsl : us + ms2 ≤ ms) (kk : C4 E Y2 mc2 ms2 (.ref a :: as) c n (fun c' n' => N4 E Y mc ms F (uc + mc2) (us + ms2) (pc + 3) lv st c' n')) : N4 E Y mc ms F uc us pc lv (as.reverse ++ .ref a :: st) c n := by
  intro p e R s m args below meth cd Z H locs ls hA hP hS hl
  obtain ⟨m1, m2, m3, m4, m5, m6, m7⟩ := hm
  have hts := hA.2.2.2.2.1
  have hR := hA.2.2.2.2.2.1
  refine n4_back (st := st) (a := (Value.ref a :: as).toArray) hA hS hl (va_runI (b := a) (As := as) (rest := st) (Ts := gt3) (nL := Y.2.2.1) (bytes := Y2.2.1) (maxL := Y2.2.2.1) (rm := rm4 Y2.2.2.2.2 mc2 ms2) (ws := ws3 Y2) (n := k) ⟨hA.1, hA.2.1, hA.2.2.1, hA.2.2.2.1, hts⟩ kk
    (cwI k hts (ws4_good m2 m1) (ws4_eq m2) rfl rfl (hts _ m3) (hts _ hl2) (hts _ m4) m5 m6 ⟨?_, ?_⟩)
    ⟨wo4_blind E c n _, fun U hU hW => ⟨rfl, wo4_of hA.2.2.2.2.2.2.2.2.1 hA.2.2.2.2.2.2.2.1 hP hA.2.2.2.2.2.2.1 U hU hW⟩⟩ rfl hn hl.1 rfl (lv_room hs) hd ⟨Nat.le_trans hc hR.2.2.1, Nat.le_trans hsl hR.2.2.2⟩)
  · have h9 : Y2.2.2.2.2 + 1 ≤ R.frames := Nat.le_trans hh hR.1
    exact h9
  · have h9 := hR.2.1
    show 8 + (Y2.2.2.1 + 11) + 39 * Y2.2.2.2.2 ≤ R.locals
    omega
theorem n4_callN {idx a k : Nat} {host : String} (hd : decode Y.2.1 pc = .ok (.invokespecial idx, 3)) (hm : my4 Y2 k) (hl2 : Cond.methodLinkNest Y.1.cls idx Y2.1 host ∈ nl4) (hh : Y2.2.2.2.2 < Y.2.2.2.2) (hs : (st.map fun v => v.category).sum ≤ 8) (hn : as.length = k) (hc : uc + mc2 ≤ mc) (hsl : us + ms2 ≤ ms) (kk : C4 E Y2 mc2 ms2 (.ref a :: as) c n (fun c' n' => N4 E Y mc ms F (uc + mc2) (us + ms2) (pc + 3) lv st c' n')) : N4 E Y mc ms F uc us pc lv (as.reverse ++ .ref a :: st) c n := by
  intro p e R s m args below meth cd Z H locs ls hA hP hS hl
  obtain ⟨m1, m2, m3, m4, m5, m6, m7⟩ := hm
  have hts := hA.2.2.2.2.1
  have hR := hA.2.2.2.2.2.1
  refine n4_back (st := st) (a := (Value.ref a :: as).toArray) hA hS hl (va_runIN (host := host) (b := a) (As := as) (rest := st) (Ts := gt3) (nL := Y.2.2.1) (bytes := Y2.2.1) (maxL := Y2.2.2.1) (rm := rm4 Y2.2.2.2.2 mc2 ms2) (ws := ws3 Y2) (n := k) ⟨hA.1, hA.2.1, hA.2.2.1, hA.2.2.2.1, hts⟩ kk
    ⟨va_cnB k hts (ws4_good m2 m1) (ws4_eq m2) rfl rfl (hA.2.2.2.2.2.2.2.1.1 _ hl2) (hts _ m3) m6 ⟨?_, ?_⟩, m5, hts _ m4⟩
    ⟨wo4_blind E c n _, fun U hU hW => ⟨rfl, wo4_of hA.2.2.2.2.2.2.2.2.1 hA.2.2.2.2.2.2.2.1 hP hA.2.2.2.2.2.2.1 U hU hW⟩⟩ rfl hn hl.1 rfl (lv_room hs) hd ⟨Nat.le_trans hc hR.2.2.1, Nat.le_trans hsl hR.2.2.2⟩)
  · have h9 : Y2.2.2.2.2 + 1 ≤ R.frames := Nat.le_trans hh hR.1
    exact h9
  · have h9 := hR.2.1
    show 8 + (Y2.2.2.1 + 11) + 39 * Y2.2.2.2.2 ≤ R.locals
    omega
theorem c4_in {Q : Q4} (hy : plainName Y.1.cls = true) (hr0 : Y.2.2.2.1 = none) (hla : lv_args 0 as = lv) (hlen : (lg_sl as).length ≤ Y.2.2.1) (h : N4 E Y mc ms (fin4 E Y mc ms Q) 0 0 0 lv [] c n) : C4 E Y mc ms as c n Q := by
  refine Met.ofW (cc := Y.2.1) (maxL := Y.2.2.1) (ret := Y.2.2.2.1) hy rfl ?_
  intro p e s m args below meth cd s₁ B hml hv
  obtain ⟨rfl, hok, hn, hP, hK⟩ := hv
  have hts := atoms_spec (ws := ws3 Y) B.pre
  have hown : s.vm.findClass Y.1.cls = some m.cls := findClass_of_methodNamed B.named
  have hlocks := B.notSynchronized
  have hr := B.returns
  have hnm : meth.name = Y.1.name := (name_of_methodNamed B.named B.method).1
  rw [lg_entry_eq]
  have hl := lv_entry as (n := Y.2.2.1) hlen
  rw [hla] at hl
  refine h p e (rm4 Y.2.2.2.2 mc ms) s m _ below meth cd _ s.heap [] _ ⟨B.exec, B.bytes, hml, hown, fun w hw => hts w (List.mem_cons_of_mem _ hw), ⟨Nat.le_refl _, Nat.le_refl _, Nat.le_refl _, Nat.le_refl _⟩, hK, hn, hok, by rw [hP.2]; exact Nat.le_add_right _ _, fun h => hnm.trans h, ?_⟩ hP va_S.rf hl
  intro c' n' uc us H locs ls pc hd h1 h2 hP' hS' hQ
  refine W.widen h1 h2 ?_
  exact W.vret B.exec B.bytes (hr.trans hr0) (fun t ht hW => ⟨⟨c', n', rfl, hQ, by rw [ht]; exact hP'⟩, hS'.F ht⟩) hS'.2.2 hd hlocks
theorem c4_mono {Q Q' : Q4} (h : C4 E Y mc ms as c n Q) (hq : ∀ c' n', Q c' n' → Q' c' n') : C4 E Y mc ms as c n Q' := by
  intro p e ha hc hk s m args below hf hfit hheap happ
  obtain ⟨k, o, h1, h2, h3, hQ⟩ := h p e ha hc hk s m args below hf hfit hheap happ
  exact ⟨k, o, h1, h2, h3, ⟨⟨by obtain ⟨⟨c', n', e1, e2, e4⟩, hF⟩ := hQ.1; exact ⟨c', n', e1, hq c' n' e2, e4⟩, hQ.1.2⟩, hQ.2⟩⟩
end N4C
