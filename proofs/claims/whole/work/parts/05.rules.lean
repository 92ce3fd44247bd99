/-- what a link of a field says: own class, place, region, slot, kind (0 int, 1 boolean, 2 + 2 t the cell of region t, 3 + 2 t its own of region t), how many there are -/
def fl3 (own : String) (idx r : Nat) (jz : Int) (c : Nat) (nz : Int) : Prop := ∃ (k : K3) (C : String) (T : u_T) (N j : Nat), RT3[r]? = some k ∧ k.2.1 = 3 ∧ k.2.2.2.2[j]? = some c ∧ vwCl[k.2.2.1]? = some (C, T, N) ∧ j < N ∧ (T j).1 = C ∧ jz = (j : Int) ∧ nz = (k.1 : Int) ∧ Cond.fieldLink own idx C (T j).2.1 (T j).2.2.1 ∈ gt3
def fp3 (own : String) (idx r : Nat) (jz : Int) (c : Nat) (nz : Int) : Prop := ∃ (k : K3) (C : String) (T : u_T) (N j : Nat), RT3[r]? = some k ∧ k.2.1 = 3 ∧ k.2.2.2.2[j]? = some c ∧ vwCl[k.2.2.1]? = some (C, T, N) ∧ j < N ∧ (T j).1 = C ∧ jz = (j : Int) ∧ nz = (k.1 : Int) ∧ Cond.fieldLink own idx C (T j).2.1 (T j).2.2.1 ∈ gt3 ∧ (T j).2.2.2 = false ∧ parseFieldDescriptor (T j).2.2.1 = some (if c = 0 then .int else .boolean)
def ar3 (tag r : Nat) (nz lz : Int) : Prop := ∃ k : K3, RT3[r]? = some k ∧ k.2.1 = tag ∧ nz = (k.1 : Int) ∧ lz = (k.2.2.1 : Int) ∧ k.2.2.1 < 2147483648
def aq3 (r t : Nat) (lz : Int) : Prop := ∃ k : K3, RT3[r]? = some k ∧ k.2.1 = 2 ∧ k.1 = 1 ∧ lz = (k.2.2.1 : Int) ∧ k.2.2.1 < 2147483648 ∧ k.2.2.2.1 = t ∧ (k.2.2.2.2 = [2] ∨ k.2.2.2.2 = [3] ∨ k.2.2.2.2 = [4] ∨ k.2.2.2.2 = [5])
def ob3 (r : Nat) (C : String) (nz : Int) : Prop := ∃ (k : K3) (T : u_T) (N : Nat), RT3[r]? = some k ∧ k.2.1 = 3 ∧ vwCl[k.2.2.1]? = some (C, T, N) ∧ nz = (k.1 : Int)
section G3H
variable {E : E3} {Y : Y3} {Q : Q3} {pc : Nat} {lv lv' : List (Nat × V3)} {st : List V3} {M : M3}
theorem el3_ob {k : K3} (h : k.2.1 = 3) (M : M3) (r i : Nat) : el3 E k M r i = .inr (k.2.2.1, fv3 (ad3 E) M r i 0 k.2.2.2.2) := by
  unfold el3
  rw [h]
  rfl
theorem el3_0 {k : K3} (h : k.2.1 = 0) (M : M3) (r i : Nat) : el3 E k M r i = .inl (ca3 E 0, k.2.2.1, .inl (fun j => Int32.ofInt (M r i j))) := by
  unfold el3
  rw [h]
  rfl
theorem el3_1 {k : K3} (h : k.2.1 = 1) (M : M3) (r i : Nat) : el3 E k M r i = .inl (ca3 E 1, k.2.2.1, .inl (fun j => Int32.ofInt (M r i j))) := by
  unfold el3
  rw [h]
  rfl
theorem el3_2 {k : K3} (h : k.2.1 = 2) (M : M3) (r i : Nat) : el3 E k M r i = .inl (ca3 E (k.2.2.2.2.headD 0), k.2.2.1, .inr (.inr (.inr (.inr (fun j => some (ad3 E k.2.2.2.1 j)))))) := by
  unfold el3
  rw [h]
  rfl
theorem g3_getI {idx r t : Nat} {i jz nz : Int} {kc : Nat} (hd : decode Y.2.1 pc = .ok (.getfield idx, 3)) (hf : fl3 Y.1.cls idx r jz kc nz) (hc : kc < 2) (hi : 0 ≤ i ∧ i < nz) (k : G3 E Y Q (pc + 3) lv (vI (M r i jz) :: st) M) : G3 E Y Q pc lv (vR r i :: st) M := by
  intro p e R s m args below meth c cells slots Z H locs ls hA hM hP hS hl
  obtain ⟨kk, C, T, N, j, h1, h2, h3, h4, h5, h6, h7, h8, h9⟩ := hf
  obtain ⟨i', rfl⟩ := Int.eq_ofNat_of_zero_le hi.1
  obtain ⟨q0, hq, hw⟩ := wl3_at E M (i := i') h1 (by omega)
  rw [el3_ob h2] at hw
  refine va_get (ref := C) hA.1 hA.2.1 hA.2.2.2.2.1 (in3 h4) hA.2.2.2.1 hA.2.2.2.2.2.2.1 hP q0 hw h4 j h5 (hA.2.2.2.2.1 _ h9) (fun x hx => by rw [h6] at hx; exact hx) (fv3_at (ad3 E) M r i' _ 0 j kc h3) hd ?_
  have h := k p e R s m args below meth c cells slots Z H locs ls hA hM hP hS hl
  rw [if_pos hc, Nat.zero_add, ← h7]
  exact h
theorem g3_getR0 {idx r t : Nat} {i jz nz : Int} {kc : Nat} (hd : decode Y.2.1 pc = .ok (.getfield idx, 3)) (hf : fl3 Y.1.cls idx r jz kc nz) (hc : kc = 2 + 2 * t) (hi : 0 ≤ i ∧ i < nz) (k : G3 E Y Q (pc + 3) lv (vR t 0 :: st) M) : G3 E Y Q pc lv (vR r i :: st) M := by
  intro p e R s m args below meth c cells slots Z H locs ls hA hM hP hS hl
  obtain ⟨kk, C, T, N, j, h1, h2, h3, h4, h5, h6, h7, h8, h9⟩ := hf
  obtain ⟨i', rfl⟩ := Int.eq_ofNat_of_zero_le hi.1
  obtain ⟨q0, hq, hw⟩ := wl3_at E M (i := i') h1 (by omega)
  rw [el3_ob h2] at hw
  refine va_get (ref := C) hA.1 hA.2.1 hA.2.2.2.2.1 (in3 h4) hA.2.2.2.1 hA.2.2.2.2.2.2.1 hP q0 hw h4 j h5 (hA.2.2.2.2.1 _ h9) (fun x hx => by rw [h6] at hx; exact hx) (fv3_at (ad3 E) M r i' _ 0 j kc h3) hd ?_
  have h := k p e R s m args below meth c cells slots Z H locs ls hA hM hP hS hl
  rw [if_neg (by omega), if_pos (by omega), show (kc - 2) / 2 = t by omega]
  exact h
theorem g3_getRi {idx r t : Nat} {i jz nz : Int} {kc : Nat} (hd : decode Y.2.1 pc = .ok (.getfield idx, 3)) (hf : fl3 Y.1.cls idx r jz kc nz) (hc : kc = 3 + 2 * t) (hi : 0 ≤ i ∧ i < nz) (k : G3 E Y Q (pc + 3) lv (vR t i :: st) M) : G3 E Y Q pc lv (vR r i :: st) M := by
  intro p e R s m args below meth c cells slots Z H locs ls hA hM hP hS hl
  obtain ⟨kk, C, T, N, j, h1, h2, h3, h4, h5, h6, h7, h8, h9⟩ := hf
  obtain ⟨i', rfl⟩ := Int.eq_ofNat_of_zero_le hi.1
  obtain ⟨q0, hq, hw⟩ := wl3_at E M (i := i') h1 (by omega)
  rw [el3_ob h2] at hw
  refine va_get (ref := C) hA.1 hA.2.1 hA.2.2.2.2.1 (in3 h4) hA.2.2.2.1 hA.2.2.2.2.2.2.1 hP q0 hw h4 j h5 (hA.2.2.2.2.1 _ h9) (fun x hx => by rw [h6] at hx; exact hx) (fv3_at (ad3 E) M r i' _ 0 j kc h3) hd ?_
  have h := k p e R s m args below meth c cells slots Z H locs ls hA hM hP hS hl
  rw [if_neg (by omega), if_neg (by omega), show (kc - 2) / 2 = t by omega]
  exact h
theorem g3_put {idx r : Nat} {i jz nz v : Int} {kc : Nat} (hd : decode Y.2.1 pc = .ok (.putfield idx, 3)) (hf : fp3 Y.1.cls idx r jz kc nz) (hc : kc = 0 ∨ (kc = 1 ∧ (v = 0 ∨ v = 1))) (hi : 0 ≤ i ∧ i < nz) (hv : -2147483648 ≤ v ∧ v ≤ 2147483647) (k : G3 E Y Q (pc + 3) lv st (up3 M r i jz v)) : G3 E Y Q pc lv (vI v :: vR r i :: st) M := by
  intro p e R s m args below meth c cells slots Z H locs ls hA hM hP hS hl
  obtain ⟨kk, C, T, N, j, h1, h2, h3, h4, h5, h6, h7, h8, h9, h10, h11⟩ := hf
  obtain ⟨i', rfl⟩ := Int.eq_ofNat_of_zero_le hi.1
  obtain ⟨q0, hq, hw⟩ := wl3_at E M (i := i') h1 (by omega)
  rw [el3_ob h2] at hw
  have hlen : j < (fv3 (ad3 E) M r i' 0 kk.2.2.2.2).length := by
    rw [fv3_len]
    exact (List.getElem?_eq_some_iff.mp h3).1
  have hset := fv3_set (ad3 E) M r i' v kk.2.2.2.2 0 j kc h3 (by omega)
  rw [Nat.zero_add, ← h7] at hset
  have hnn : narrow (if kc = 0 then .int else .boolean) (.int (Int32.ofInt v)) = .int (Int32.ofInt v) ∧ fits (if kc = 0 then .int else .boolean) (.int (Int32.ofInt v)) = true := by
    rcases hc with rfl | ⟨rfl, rfl | rfl⟩
    · exact ⟨rfl, rfl⟩
    · decide
    · decide
  refine va_put (ref := C) (v := .int (Int32.ofInt v)) hA.1 hA.2.1 hA.2.2.2.2.1 (in3 h4) (ty3 kk.2.2.1) (okty3 h4) (oknm3 h4) hA.2.2.2.1 hA.2.2.2.2.2.2.1 hP (hA.2.2.2.2.2.2.2.2.2.1.D M) hS q0 hw h4 j h5 (hA.2.2.2.2.1 _ h9) (fun x hx => by rw [h6] at hx; exact hx) h10 h11 hnn.1 hnn.2 hlen hd (fun H1 locs1 hP1 _ hS1 => ?_)
  refine k p e R s m args below meth c cells slots Z H1 locs1 ls hA (hM.up hv) (wl3_up hA.2.2.2.2.2.2.2.2.2.1 h1 hq ?_ (fun r' i'' hne => el3_ne hne) hP1) hS1 hl
  rw [el3_ob h2, hset]
theorem g3_iald {r : Nat} {i x nz lz : Int} (hd : decode Y.2.1 pc = .ok (.iaload, 1)) (ha : ar3 0 r nz lz) (hi : 0 ≤ i ∧ i < nz) (hx : 0 ≤ x ∧ x < lz) (k : G3 E Y Q (pc + 1) lv (vI (M r i x) :: st) M) : G3 E Y Q pc lv (vI x :: vR r i :: st) M := by
  intro p e R s m args below meth c cells slots Z H locs ls hA hM hP hS hl
  obtain ⟨kk, h1, h2, h3, h4, h5⟩ := ha
  obtain ⟨i', rfl⟩ := Int.eq_ofNat_of_zero_le hi.1
  obtain ⟨q0, hq, hw⟩ := wl3_at E M (i := i') h1 (by omega)
  rw [el3_0 h2] at hw
  refine va_iald hA.1 hA.2.1 hA.2.2.2.2.2.2.1 hP q0 0 hw rfl (t3_vp (by omega) h5) hd ?_
  have h := k p e R s m args below meth c cells slots Z H locs ls hA hM hP hS hl
  obtain ⟨x', rfl⟩ := Int.eq_ofNat_of_zero_le hx.1
  rw [t3_cl (by omega)]
  exact h
theorem g3_zald {r : Nat} {i x nz lz : Int} (hd : decode Y.2.1 pc = .ok (.baload, 1)) (ha : ar3 1 r nz lz) (hi : 0 ≤ i ∧ i < nz) (hx : 0 ≤ x ∧ x < lz) (k : G3 E Y Q (pc + 1) lv (vI (M r i x) :: st) M) : G3 E Y Q pc lv (vI x :: vR r i :: st) M := by
  intro p e R s m args below meth c cells slots Z H locs ls hA hM hP hS hl
  obtain ⟨kk, h1, h2, h3, h4, h5⟩ := ha
  obtain ⟨i', rfl⟩ := Int.eq_ofNat_of_zero_le hi.1
  obtain ⟨q0, hq, hw⟩ := wl3_at E M (i := i') h1 (by omega)
  rw [el3_1 h2] at hw
  refine va_zald hA.1 hA.2.1 hA.2.2.2.2.2.2.1 hP q0 1 hw rfl (t3_vp (by omega) h5) hd ?_
  have h := k p e R s m args below meth c cells slots Z H locs ls hA hM hP hS hl
  obtain ⟨x', rfl⟩ := Int.eq_ofNat_of_zero_le hx.1
  rw [t3_cl (by omega)]
  exact h
theorem up3_arr (M : M3) (r i : Nat) (x : Nat) (v : Int) : (fun j : Nat => Int32.ofInt (up3 M r i x v r i j)) = upd (fun j : Nat => Int32.ofInt (M r i j)) x (Int32.ofInt v) := by
  funext j
  unfold upd up3
  by_cases e : j = x
  · subst e
    simp
  · have : ¬ ((j : Int) = (x : Int)) := by omega
    simp [e, this]
theorem g3_iast {r : Nat} {i x v nz lz : Int} (hd : decode Y.2.1 pc = .ok (.iastore, 1)) (ha : ar3 0 r nz lz) (hi : 0 ≤ i ∧ i < nz) (hx : 0 ≤ x ∧ x < lz) (hv : -2147483648 ≤ v ∧ v ≤ 2147483647) (k : G3 E Y Q (pc + 1) lv st (up3 M r i x v)) : G3 E Y Q pc lv (vI v :: vI x :: vR r i :: st) M := by
  intro p e R s m args below meth c cells slots Z H locs ls hA hM hP hS hl
  obtain ⟨kk, h1, h2, h3, h4, h5⟩ := ha
  obtain ⟨i', rfl⟩ := Int.eq_ofNat_of_zero_le hi.1
  obtain ⟨q0, hq, hw⟩ := wl3_at E M (i := i') h1 (by omega)
  rw [el3_0 h2] at hw
  refine va_iast hA.1 hA.2.1 hA.2.2.2.2.2.2.1 hP (hA.2.2.2.2.2.2.2.2.2.1.D M) hS q0 0 hw rfl (t3_vp (by omega) h5) hd (fun H1 locs1 hP1 _ hS1 => ?_)
  refine k p e R s m args below meth c cells slots Z H1 locs1 ls hA (hM.up hv) (wl3_up hA.2.2.2.2.2.2.2.2.2.1 h1 hq ?_ (fun r' i'' hne => el3_ne hne) hP1) hS1 hl
  obtain ⟨x', rfl⟩ := Int.eq_ofNat_of_zero_le hx.1
  rw [el3_0 h2, t3_cl (by omega)]
  have h9 := up3_arr M r i' x' v
  have h10 : ((x' : Int)).toNat = x' := rfl
  rw [h10]
  exact congrArg (fun z => (ad3 E r i', (Sum.inl (ca3 E 0, kk.2.2.1, Sum.inl z) : va_E))) h9.symm
theorem g3_zast {r : Nat} {i x v nz lz : Int} (hd : decode Y.2.1 pc = .ok (.bastore, 1)) (ha : ar3 1 r nz lz) (hi : 0 ≤ i ∧ i < nz) (hx : 0 ≤ x ∧ x < lz) (hv : v = 0 ∨ v = 1) (k : G3 E Y Q (pc + 1) lv st (up3 M r i x v)) : G3 E Y Q pc lv (vI v :: vI x :: vR r i :: st) M := by
  intro p e R s m args below meth c cells slots Z H locs ls hA hM hP hS hl
  obtain ⟨kk, h1, h2, h3, h4, h5⟩ := ha
  obtain ⟨i', rfl⟩ := Int.eq_ofNat_of_zero_le hi.1
  obtain ⟨q0, hq, hw⟩ := wl3_at E M (i := i') h1 (by omega)
  rw [el3_1 h2] at hw
  refine va_zast hA.1 hA.2.1 hA.2.2.2.2.2.2.1 hP (hA.2.2.2.2.2.2.2.2.2.1.D M) hS q0 1 hw rfl (t3_vp (by omega) h5) hd (fun H1 locs1 hP1 _ hS1 => ?_)
  refine k p e R s m args below meth c cells slots Z H1 locs1 ls hA (hM.up (by omega)) (wl3_up hA.2.2.2.2.2.2.2.2.2.1 h1 hq ?_ (fun r' i'' hne => el3_ne hne) hP1) hS1 hl
  obtain ⟨x', rfl⟩ := Int.eq_ofNat_of_zero_le hx.1
  rw [el3_1 h2, t3_cl (by omega)]
  have h9 := up3_arr M r i' x' v
  have h10 : ((x' : Int)).toNat = x' := rfl
  have h11 : vp_nar .boolean (Int32.ofInt v) = Int32.ofInt v := by rcases hv with rfl | rfl <;> decide
  rw [h10, h11]
  exact congrArg (fun z => (ad3 E r i', (Sum.inl (ca3 E 1, kk.2.2.1, Sum.inl z) : va_E))) h9.symm
theorem g3_aald {r t : Nat} {x lz : Int} (hd : decode Y.2.1 pc = .ok (.aaload, 1)) (ha : aq3 r t lz) (hx : 0 ≤ x ∧ x < lz) (k : G3 E Y Q (pc + 1) lv (vR t x :: st) M) : G3 E Y Q pc lv (vI x :: vR r 0 :: st) M := by
  intro p e R s m args below meth c cells slots Z H locs ls hA hM hP hS hl
  obtain ⟨kk, h1, h2, h3, h4, h5, h6, h7⟩ := ha
  obtain ⟨q0, hq, hw⟩ := wl3_at E M (i := 0) h1 (by omega)
  rw [el3_2 h2] at hw
  have hin : vp_in (Int32.ofInt x) kk.2.2.1 := t3_vp (by omega) h5
  have hlt : (Int32.ofInt x).toNatClampNeg < kk.2.2.1 := Nat.not_le.mp fun q => hin (Or.inr q)
  obtain ⟨ty, hty, hrf⟩ : ∃ ty : FieldType, (tys3 E)[kk.2.2.2.2.headD 0]? = some (ca3 E (kk.2.2.2.2.headD 0), ty) ∧ ty.isReference = true := by
    rcases h7 with h | h | h | h <;> rw [h]
    · exact ⟨.object RX8, rfl, rfl⟩
    · exact ⟨.object RX3, rfl, rfl⟩
    · exact ⟨.object RX9, rfl, rfl⟩
    · exact ⟨.array .int, rfl, rfl⟩
  refine W.aald (v := .ref (ad3 E t x.toNat)) (ty := ty) hA.1 hA.2.1 (hP q0 _ hw) ((hA.2.2.2.2.2.2.1.2 _ _ hty).1 kk.2.2.1 (fun j => va_rf (some (ad3 E kk.2.2.2.1 j)))) hrf (fun q => by cases q) (by show ¬ (Int32.ofInt x < 0 ∨ (arrV _ _ _).slots.size ≤ _); rw [arrV_size]; exact hin) ?_ rfl rfl hd ?_
  · show (arrV _ _ _).slots[_]? = _
    rw [arrV_read _ _ hlt, t3_cl (by omega), h6]
    rfl
  · exact k p e R s m args below meth c cells slots Z H locs ls hA hM hP hS hl
end G3H
