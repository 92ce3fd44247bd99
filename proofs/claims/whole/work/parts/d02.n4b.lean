/-! THE CONSTRUCTORS: cells read, written, made -/
section N4T
variable {E : E3} {Y Y2 : Y3} {mc ms uc us pc n : Nat} {F : Fn4} {lv lv' : List (Nat × Value)} {st : List Value} {c : Im4}
/-- what the tables say of a field, for its own class's constructor -/
def fd4 (own : String) (idx ci j N : Nat) (ty : FieldType) : Prop := ∃ (T : u_T), vwCl[ci]? = some (own, T, N) ∧ j < N ∧ (T j).1 = own ∧ Cond.fieldLink own idx own (T j).2.1 (T j).2.2.1 ∈ gt3 ∧ parseFieldDescriptor (T j).2.2.1 = some ty
theorem n4_put {idx ci j N k : Nat} {ty : FieldType} {v : Value} {fs : List Value} (hd : decode Y.2.1 pc = .ok (.putfield idx, 3)) (hF : fd4 Y.1.cls idx ci j N ty) (hi : Y.1.name = "<init>") (hn : narrow ty v = v) (hf : fits ty v = true) (hk : k < n) (hc : c k = .inr (ci, fs)) (hl0 : j < fs.length) (kk : N4 E Y mc ms F uc us (pc + 3) lv st (up4 c k (.inr (ci, fs.set j v))) n) : N4 E Y mc ms F uc us pc lv (v :: .ref (B4 E + k) :: st) c n := by
  intro p e R s m args below meth cd Z H locs ls hA hP hS hl
  obtain ⟨T, hC, hj, hT, hlink, hty⟩ := hF
  have hts := hA.2.2.2.2.1
  have hK := hA.2.2.2.2.2.2.1
  have hap := va_apart (own := Y.1.cls) hts (in3 hC) _ (okty3 hC) (oknm3 hC) hK hC
  have hk0 := hP.1 k hk
  rw [hc] at hk0
  obtain ⟨r, h1, cell, q1, q2, q3, q4⟩ := hk0
  have hr : r = (Y.1.cls, T, N) := Option.some.inj (h1.symm.trans hC)
  subst hr
  obtain ⟨hSl, hfc, kC, hkC, hkind⟩ := hK.1 ci _ hC
  obtain ⟨cf, kf, fi, f, hi2, hsl⟩ := hSl j hj
  have hlay := hts _ (in3 hC _ (u_in_lay hj))
  have hsame : s.fieldFound? Y.1.cls (T j).2.1 (T j).2.2.1 = some (cf, kf, fi, f) := by rw [← hT]; exact hi2
  have hbl : A3 E (B4 E + k) := hA.2.2.2.2.2.2.2.2.1 _ (Nat.le_add_right _ _)
  have done : ∀ H' : Heap, H'[B4 E + k]? = some (cell.setSlot f.slot v) → H'.size = H.size → (∀ q, q ≠ B4 E + k → H'[q]? = H[q]?) → W p E.1 e R s m args below meth cd H' (locs ++ [⟨B4 E + k, f.slot⟩]) uc us Z (F0 m (pc + 3) ls st) := fun H' e1 e2 e3 => by
    rw [hsl] at e1 ⊢
    exact kk p e R s m args below meth cd Z H' _ ls hA (at4_up hP ⟨_, hC, t_OB.to (V := updV (vp_V fs) j v) ⟨_, e1, q2, q3, t_set q4 hap hj v⟩ (fun i _ => vp_updV_set hl0 v i)⟩ e2 e3) (hS.put e2 e3 hbl) hl
  by_cases hfin : (T j).2.2.2 = true
  · unfold u_lay at hlay
    rw [if_pos hfin] at hlay
    have hst := (u_facts hfc hkC (u_lays hts (in3 hC) hj) hi2).1
    have hcf : m.cls = cf := by
      obtain ⟨_, _, c', _, _, _, -, -, hf', -, -, -, hown2, -⟩ := Cond.laysFinal_spec hlay
      have e1 : c' = cf := by have := hi2.symm.trans hf'; simp at this; exact this.1.symm
      rw [hT] at hown2
      rw [← e1]
      exact Option.some.inj (hA.2.2.2.1.symm.trans hown2)
    have h6 := u_fits hfc hkC hkind (Or.inr hlay) hi2 hty hn hf
    exact W.putFinK hA.1 hA.2.1 hA.2.2.2.1 (hts _ hlink) hsame hst hcf (hA.2.2.2.2.2.2.2.2.2.2.1 hi) (by rw [q2]; exact h6) q1 q3 (by rw [hsl]; exact k2_hasslot (q4 j hj)) rfl rfl hd done
  · unfold u_lay at hlay
    rw [if_neg hfin] at hlay
    have hst := (u_facts hfc hkC (u_lays hts (in3 hC) hj) hi2).1
    have h6 := u_store hfc hkC hkind hlay hi2 hty hn hf
    exact W.putK hA.1 hA.2.1 (f := f) ⟨hA.2.2.2.1, hts _ hlink, ⟨_, _, _, hsame⟩, hst⟩ (by rw [q2]; exact h6) q1 q3 (by rw [hsl]; exact k2_hasslot (q4 j hj)) rfl rfl hd done
theorem n4_get {idx ci j N k : Nat} {ty : FieldType} {v : Value} {fs : List Value} (hd : decode Y.2.1 pc = .ok (.getfield idx, 3)) (hF : fd4 Y.1.cls idx ci j N ty) (hk : k < n) (hc : c k = .inr (ci, fs)) (hv : fs[j]? = some v) (kk : N4 E Y mc ms F uc us (pc + 3) lv (v :: st) c n) : N4 E Y mc ms F uc us pc lv (.ref (B4 E + k) :: st) c n := by
  intro p e R s m args below meth cd Z H locs ls hA hP hS hl
  obtain ⟨T, hC, hj, hT, hlink, hty⟩ := hF
  have hts := hA.2.2.2.2.1
  have hw := wd4_at (E := E) (c := c) hk
  rw [hc] at hw
  exact va_get hA.1 hA.2.1 hts (in3 hC) hA.2.2.2.1 hA.2.2.2.2.2.2.1 (at4_P hP) k hw hC j hj (hts _ hlink) (fun x hx => by rw [← hT]; exact hx) hv hd (kk p e R s m args below meth cd Z H locs ls hA hP hS hl)
/-- a new object -/
theorem n4_new {idx ci N : Nat} {C : String} {T : u_T} {fs : List Value} (hd : decode Y.2.1 pc = .ok (.new idx, 3)) (hC : vwCl[ci]? = some (C, T, N)) (h1 : Cond.classLink Y.1.cls idx C ∈ gt3) (h2 : Cond.instantiable C N ∈ gt3) (h3 : Cond.initialized C ∈ gt3) (hfs : ∀ j, j < N → defaultValue (ty3 ci j) = vp_V fs j) (hm : uc + 1 ≤ mc) (hs : us + N ≤ ms) (kk : N4 E Y mc ms F (uc + 1) (us + N) (pc + 3) lv (.ref (B4 E + n) :: st) (up4 c n (.inr (ci, fs))) (n + 1)) : N4 E Y mc ms F uc us pc lv st c n := by
  intro p e R s m args below meth cd Z H locs ls hA hP hS hl
  have hts := hA.2.2.2.2.1
  have hR := hA.2.2.2.2.2.1
  have hKn := hA.2.2.2.2.2.2.1.1 ci _ hC
  refine W.newcK hA.1 hA.2.1 hA.2.2.2.1 (hts _ h1) (hts _ h2) (hts _ h3) rfl hd (Nat.le_trans hm hR.2.2.1) (Nat.le_trans hs hR.2.2.2) hKn.2.1 hP.2 fun H1 kC hkC e1 z1 o1 => ?_
  refine kk p e R s m args below meth cd Z H1 locs ls hA (at4_new hP ⟨_, hC, (u_born (ty3 ci) hts (in3 hC) hKn hkC e1 (okty3 hC)).to hfs⟩ (by rw [z1, hP.2]) (fun q hq => o1 q (by rw [← hP.2]; exact hq))) ⟨Nat.le_trans hS.1 (by rw [z1, hP.2]; omega), fun x a b => (o1 x (by rw [← hP.2]; exact Nat.lt_of_lt_of_le a hS.1)).trans (hS.2.1 x a b), hS.2.2⟩ hl
/-- a new row of ints or of booleans -/
theorem n4_newa {at0 : ArrayType} {t0 N : Nat} {k : Int} (hd : decode Y.2.1 pc = .ok (.newarray at0, 2)) (hw : Cond.arrayClass (newarray.typeOf at0) ∈ gt3) (ht : (tys3 E)[t0]? = some (ca3 E t0, newarray.typeOf at0)) (hu : ∀ (s : State) (cA : ClassId), va_RA s (ca3 E t0) (newarray.typeOf at0) → s.vm.findClass ("[" ++ (newarray.typeOf at0).toString) = some cA → cA = ca3 E t0) (h0 : ∀ cA : ClassId, vp_cell cA (N, .inl (fun _ => 0)) = arrV cA N (fun _ => defaultValue (newarray.typeOf at0))) (hk : 0 ≤ k ∧ k < 2147483648 ∧ k.toNat = N) (hb : N * componentBytes (newarray.typeOf at0) ≤ 536870912) (hm : uc + 1 ≤ mc) (hs : us + N ≤ ms) (kk : N4 E Y mc ms F (uc + 1) (us + N) (pc + 2) lv (.ref (B4 E + n) :: st) (up4 c n (.inl (ca3 E t0, N, .inl (fun _ => 0)))) (n + 1)) : N4 E Y mc ms F uc us pc lv (.int (Int32.ofInt k) :: st) c n := by
  intro p e R s m args below meth cd Z H locs ls hA hP hS hl
  have hts := hA.2.2.2.2.1
  have hR := hA.2.2.2.2.2.1
  refine va_newaK hA.1 hA.2.1 (hts _ hw) rfl hd rfl (fun z => ?_) (N := N) ?_ hb (Nat.le_trans hm hR.2.2.1) (Nat.le_trans hs hR.2.2.2) hP.2 fun H1 cA e1 z1 o1 hAr hNm => ?_
  · rw [t3_0, t3_lt (by omega) (by omega)] at z
    omega
  · rw [t3_cl (by omega)]
    exact hk.2.2
  · have ec := hu s cA (hA.2.2.2.2.2.2.1.2 t0 _ ht).2 hNm
    rw [ec] at e1
    refine kk p e R s m args below meth cd Z H1 locs ls hA (at4_new hP ?_ (by rw [z1, hP.2]) (fun q hq => o1 q (by rw [← hP.2]; exact hq))) ⟨Nat.le_trans hS.1 (by rw [z1, hP.2]; omega), fun x a b => (o1 x (by rw [← hP.2]; exact Nat.lt_of_lt_of_le a hS.1)).trans (hS.2.1 x a b), hS.2.2⟩ hl
    show H1[B4 E + n]? = some (vp_cell _ _)
    rw [h0]
    exact e1
/-- a new row of references -/
theorem n4_newq {idx t0 N : Nat} {C : String} {k : Int} (hd : decode Y.2.1 pc = .ok (.anewarray idx, 3)) (h1 : Cond.classLink Y.1.cls idx C ∈ gt3) (h2 : C ∈ ([RX8, RX3, RX9] : List String)) (ht : (tys3 E)[t0]? = some (ca3 E t0, .object C)) (hk : 0 ≤ k ∧ k < 2147483648 ∧ k.toNat = N) (hb : N * 4 ≤ 536870912) (hm : uc + 1 ≤ mc) (hs : us + N ≤ ms) (kk : N4 E Y mc ms F (uc + 1) (us + N) (pc + 3) lv (.ref (B4 E + n) :: st) (up4 c n (.inl (ca3 E t0, N, .inr (.inr (.inr (.inr (fun _ => none))))))) (n + 1)) : N4 E Y mc ms F uc us pc lv (.int (Int32.ofInt k) :: st) c n := by
  intro p e R s m args below meth cd Z H locs ls hA hP hS hl
  have hts := hA.2.2.2.2.1
  have hR := hA.2.2.2.2.2.1
  have hN : (Int32.ofInt k).toNatClampNeg = N := by rw [t3_cl (by omega)]; exact hk.2.2
  obtain ⟨kA0, comp0, g1, g2, g3, g4⟩ := (hA.2.2.2.2.2.2.1.2 t0 _ ht).2
  refine W.anew hA.1 hA.2.1 hA.2.2.2.1 (hts _ h1) (hA.2.2.2.2.2.2.2.1.2.1 C h2).use rfl hd rfl (fun z => ?_) (by rw [hN]; exact hb) (Nat.le_trans hm hR.2.2.1) (by rw [hN]; exact Nat.le_trans hs hR.2.2.2) fun cA kA comp f1 f2 f3 f4 => ?_
  · rw [t3_0, t3_lt (by omega) (by omega)] at z
    omega
  · have ec : cA = ca3 E t0 := Option.some.inj (f1.symm.trans g4)
    subst ec
    rw [hN]
    have z1 : (H.push ({ cls := ca3 E t0, slots := Array.replicate N .null, vm := .none } : Cell)).size = H.size + 1 := Array.size_push _
    have o1 : ∀ q : Nat, q < H.size → (H.push ({ cls := ca3 E t0, slots := Array.replicate N .null, vm := .none } : Cell))[q]? = H[q]? := fun q hq => by rw [Array.getElem?_push, if_neg (Nat.ne_of_lt hq)]
    have h9 := kk p e R s m args below meth cd Z (H.push ({ cls := ca3 E t0, slots := Array.replicate N .null, vm := .none } : Cell)) locs ls hA (at4_new hP ?_ z1 o1) ⟨Nat.le_trans hS.1 (by rw [z1]; omega), fun x a b => (o1 x (Nat.lt_of_lt_of_le a hS.1)).trans (hS.2.1 x a b), hS.2.2⟩ hl
    · rw [← hP.2] at h9
      exact h9
    · show (H.push _)[B4 E + n]? = some (vp_cell _ _)
      rw [← hP.2, Array.getElem?_push_size, vp_cell_q, ← arrV_new]
      rfl
theorem n4_iast {t0 k N : Nat} {f : Nat → Int32} {i : Int} {x : Int32} (hd : decode Y.2.1 pc = .ok (.iastore, 1)) (ht : (tys3 E)[t0]? = some (ca3 E t0, .int)) (hk : k < n) (hc : c k = .inl (ca3 E t0, N, .inl f)) (hi : 0 ≤ i ∧ i < (N : Int) ∧ N < 2147483648) (kk : N4 E Y mc ms F uc us (pc + 1) lv st (up4 c k (.inl (ca3 E t0, N, .inl (upd f i.toNat x)))) n) : N4 E Y mc ms F uc us pc lv (.int x :: .int (Int32.ofInt i) :: .ref (B4 E + k) :: st) c n := by
  intro p e R s m args below meth cd Z H locs ls hA hP hS hl
  have hk0 := hP.1 k hk
  rw [hc] at hk0
  have hbl : A3 E (B4 E + k) := hA.2.2.2.2.2.2.2.2.1 _ (Nat.le_add_right _ _)
  have hin : vp_in (Int32.ofInt i) N := t3_vp ⟨hi.1, hi.2.1⟩ hi.2.2
  refine W.iast hA.1 hA.2.1 hk0 ((hA.2.2.2.2.2.2.1.2 t0 _ ht).1 N (fun j => .int (f j))) (fun q => by cases q) (by show ¬ (_ < 0 ∨ (arrV _ _ _).slots.size ≤ _); rw [arrV_size]; exact hin) rfl rfl hd fun H1 e1 z oq => ?_
  refine kk p e R s m args below meth cd Z H1 _ ls hA (at4_up hP ?_ z oq) (hS.put z oq hbl) hl
  show H1[B4 E + k]? = some (vp_cell _ _)
  rw [e1, t3_cl ⟨hi.1, by omega⟩, vp_cell_i, vp_cell_i, arrV_store]
  congr 2
  funext q
  by_cases hq : q = i.toNat
  · simp [updV, upd, hq]
  · simp [updV, upd, hq]
theorem n4_aast {t0 k k2 N ci : Nat} {r : vw_C} {vs : List Value} {f : Nat → Option Nat} {i : Int} (hd : decode Y.2.1 pc = .ok (.aastore, 1)) (hr : vwCl[ci]? = some r) (ht : (tys3 E)[t0]? = some (ca3 E t0, .object r.1)) (hk : k < n) (hc : c k = .inl (ca3 E t0, N, .inr (.inr (.inr (.inr f))))) (hk2 : k2 < n) (hc2 : c k2 = .inr (ci, vs)) (hi : 0 ≤ i ∧ i < (N : Int) ∧ N < 2147483648) (kk : N4 E Y mc ms F uc us (pc + 1) lv st (up4 c k (.inl (ca3 E t0, N, .inr (.inr (.inr (.inr (va_up f i.toNat (some (B4 E + k2)))))))) ) n) : N4 E Y mc ms F uc us pc lv (.ref (B4 E + k2) :: .int (Int32.ofInt i) :: .ref (B4 E + k) :: st) c n := by
  intro p e R s m args below meth cd Z H locs ls hA hP hS hl
  have hk0 := hP.1 k hk
  rw [hc] at hk0
  have hk02 := hP.1 k2 hk2
  rw [hc2] at hk02
  have hK := hA.2.2.2.2.2.2.1
  have hbl : A3 E (B4 E + k) := hA.2.2.2.2.2.2.2.2.1 _ (Nat.le_add_right _ _)
  have hin : vp_in (Int32.ofInt i) N := t3_vp ⟨hi.1, hi.2.1⟩ hi.2.2
  obtain ⟨r', hr', cellV, g1, g2, g3, -⟩ := hk02
  have hcls := (hK.1 ci r hr).2
  obtain ⟨kA, comp, k1, k3, k4, -⟩ := (hK.2 t0 _ ht).2
  have hcomp : comp = (D3 E).1 ci := Option.some.inj (k4.symm.trans hcls.1)
  subst hcomp
  obtain ⟨kC, hkC, -⟩ := hcls.2
  refine W.aast hA.1 hA.2.1 hk0 (fun q h => by cases h) (fun h => by cases h) k1 k3 rfl hkC ⟨fun q => hin (Or.inl q), by show _ < (arrV _ _ _).slots.size; rw [arrV_size]; exact Nat.not_le.mp fun q => hin (Or.inr q)⟩ g1 (fun q h => by rw [g3] at h; cases h) (by rw [g2]; exact hkC) (by rw [g2]; exact va_assign hcls) rfl rfl hd fun H1 e1 z oq => ?_
  refine kk p e R s m args below meth cd Z H1 _ ls hA (at4_up hP ?_ z oq) (hS.put z oq hbl) hl
  show H1[B4 E + k]? = some (vp_cell _ _)
  rw [e1, t3_cl ⟨hi.1, by omega⟩, vp_cell_q, vp_cell_q, arrV_store]
  congr 2
  funext q
  by_cases hq : q = i.toNat
  · simp [updV, va_up, va_rf, hq]
  · simp [updV, va_up, va_rf, hq]
end N4T
