section G3T
variable {E : E3} {Y : Y3} {Q : Q3} {pc : Nat} {lv lv' : List (Nat × V3)} {st : List V3} {M : M3}
theorem t3_back (x : Int32) : Int32.ofInt x.toInt = x := Int32.toInt_inj.mp (t3_in ⟨Int32.minValue_le_toInt x, Int32.toInt_le x⟩)
/-- the operations of bits, as whole numbers -/
def and3 (x y : Int) : Int := (Int32.ofInt x &&& Int32.ofInt y).toInt
def or3 (x y : Int) : Int := (Int32.ofInt x ||| Int32.ofInt y).toInt
def shl3 (x y : Int) : Int := (Int32.ofInt x <<< (Int32.ofInt y &&& 31)).toInt
def shr3 (x y : Int) : Int := (Int32.ofInt x >>> (Int32.ofInt y &&& 31)).toInt
def ushr3 (x y : Int) : Int := ((Int32.ofInt x).toUInt32 >>> ((Int32.ofInt y).toUInt32 &&& Int32.toUInt32 31)).toInt32.toInt
def i2b3 (x : Int) : Int := (Int32.ofInt x).toInt8.toInt32.toInt
def i2s3 (x : Int) : Int := (Int32.ofInt x).toInt16.toInt32.toInt
def i2l3 (x : Int) : Int64 := (Int32.ofInt x).toInt64
def cmp3 (x y : Int64) : Int := (lg_cmp x y).toInt
def lshl3 (x : Int64) (y : Int) : Int64 := x <<< ((Int32.ofInt y).toInt64 &&& 63)
def lshr3 (x : Int64) (y : Int) : Int64 := x >>> ((Int32.ofInt y).toInt64 &&& 63)
theorem g3_iadd {x y : Int} (hd : decode Y.2.1 pc = .ok (.iadd, 1)) (k : G3 E Y Q (pc + 1) lv (vI (x + y) :: st) M) : G3 E Y Q pc lv (vI y :: vI x :: st) M := by
  intro p e R s m args below meth c cells slots Z H locs ls hA hM hP hS hl
  refine lv_iadd hA.1 hA.2.1 hd ?_
  have h := k p e R s m args below meth c cells slots Z H locs ls hA hM hP hS hl
  rw [← Int32.ofInt_add]
  exact h
theorem g3_isub {x y : Int} (hd : decode Y.2.1 pc = .ok (.isub, 1)) (k : G3 E Y Q (pc + 1) lv (vI (x - y) :: st) M) : G3 E Y Q pc lv (vI y :: vI x :: st) M := by
  intro p e R s m args below meth c cells slots Z H locs ls hA hM hP hS hl
  refine lv_isub hA.1 hA.2.1 hd ?_
  have h := k p e R s m args below meth c cells slots Z H locs ls hA hM hP hS hl
  rw [← Int32.ofInt_sub]
  exact h
theorem g3_imul {x y : Int} (hd : decode Y.2.1 pc = .ok (.imul, 1)) (k : G3 E Y Q (pc + 1) lv (vI (x * y) :: st) M) : G3 E Y Q pc lv (vI y :: vI x :: st) M := by
  intro p e R s m args below meth c cells slots Z H locs ls hA hM hP hS hl
  refine lv_imul hA.1 hA.2.1 hd ?_
  have h := k p e R s m args below meth c cells slots Z H locs ls hA hM hP hS hl
  rw [← Int32.ofInt_mul]
  exact h
theorem g3_iand {x y : Int} (hd : decode Y.2.1 pc = .ok (.iand, 1)) (k : G3 E Y Q (pc + 1) lv (vI (and3 x y) :: st) M) : G3 E Y Q pc lv (vI y :: vI x :: st) M := by
  intro p e R s m args below meth c cells slots Z H locs ls hA hM hP hS hl
  refine lv_iand hA.1 hA.2.1 hd ?_
  have h := k p e R s m args below meth c cells slots Z H locs ls hA hM hP hS hl
  rw [← t3_back (Int32.ofInt x &&& Int32.ofInt y)]
  exact h
theorem g3_ior {x y : Int} (hd : decode Y.2.1 pc = .ok (.ior, 1)) (k : G3 E Y Q (pc + 1) lv (vI (or3 x y) :: st) M) : G3 E Y Q pc lv (vI y :: vI x :: st) M := by
  intro p e R s m args below meth c cells slots Z H locs ls hA hM hP hS hl
  refine lv_ior hA.1 hA.2.1 hd ?_
  have h := k p e R s m args below meth c cells slots Z H locs ls hA hM hP hS hl
  rw [← t3_back (Int32.ofInt x ||| Int32.ofInt y)]
  exact h
theorem g3_ishl {x y : Int} (hd : decode Y.2.1 pc = .ok (.ishl, 1)) (k : G3 E Y Q (pc + 1) lv (vI (shl3 x y) :: st) M) : G3 E Y Q pc lv (vI y :: vI x :: st) M := by
  intro p e R s m args below meth c cells slots Z H locs ls hA hM hP hS hl
  refine lv_ishl hA.1 hA.2.1 hd ?_
  have h := k p e R s m args below meth c cells slots Z H locs ls hA hM hP hS hl
  rw [← t3_back (Int32.ofInt x <<< (Int32.ofInt y &&& 31))]
  exact h
theorem g3_ishr {x y : Int} (hd : decode Y.2.1 pc = .ok (.ishr, 1)) (k : G3 E Y Q (pc + 1) lv (vI (shr3 x y) :: st) M) : G3 E Y Q pc lv (vI y :: vI x :: st) M := by
  intro p e R s m args below meth c cells slots Z H locs ls hA hM hP hS hl
  refine lv_ishr hA.1 hA.2.1 hd ?_
  have h := k p e R s m args below meth c cells slots Z H locs ls hA hM hP hS hl
  rw [← t3_back (Int32.ofInt x >>> (Int32.ofInt y &&& 31))]
  exact h
theorem t3_div {x y : Int} (hx : 0 ≤ x ∧ x ≤ 2147483647) (hy : 0 < y ∧ y ≤ 2147483647) : Int32.ofInt x / Int32.ofInt y = Int32.ofInt (x / y) := by
  obtain ⟨a, rfl⟩ := Int.eq_ofNat_of_zero_le hx.1
  obtain ⟨b, rfl⟩ := Int.eq_ofNat_of_zero_le (Int.le_of_lt hy.1)
  have h := pk_div (a := a) (d := b) (by omega) (by omega) (by omega)
  exact h
theorem t3_rem {x y : Int} (hx : 0 ≤ x ∧ x ≤ 2147483647) (hy : 0 < y ∧ y ≤ 2147483647) : Int32.ofInt x - Int32.ofInt x / Int32.ofInt y * Int32.ofInt y = Int32.ofInt (x % y) := by
  obtain ⟨a, rfl⟩ := Int.eq_ofNat_of_zero_le hx.1
  obtain ⟨b, rfl⟩ := Int.eq_ofNat_of_zero_le (Int.le_of_lt hy.1)
  have h := pk_rem (a := a) (d := b) (by omega) (by omega) (by omega)
  exact h
theorem g3_idiv {x y : Int} (hd : decode Y.2.1 pc = .ok (.idiv, 1)) (hx : 0 ≤ x ∧ x ≤ 2147483647) (hy : 0 < y ∧ y ≤ 2147483647) (k : G3 E Y Q (pc + 1) lv (vI (x / y) :: st) M) : G3 E Y Q pc lv (vI y :: vI x :: st) M := by
  intro p e R s m args below meth c cells slots Z H locs ls hA hM hP hS hl
  refine lv_idiv hA.1 hA.2.1 hd ?_ ?_
  · rw [t3_0, t3_eq (by omega) (by omega)]
    omega
  have h := k p e R s m args below meth c cells slots Z H locs ls hA hM hP hS hl
  rw [t3_div hx hy]
  exact h
theorem g3_irem {x y : Int} (hd : decode Y.2.1 pc = .ok (.irem, 1)) (hx : 0 ≤ x ∧ x ≤ 2147483647) (hy : 0 < y ∧ y ≤ 2147483647) (k : G3 E Y Q (pc + 1) lv (vI (x % y) :: st) M) : G3 E Y Q pc lv (vI y :: vI x :: st) M := by
  intro p e R s m args below meth c cells slots Z H locs ls hA hM hP hS hl
  refine lv_irem hA.1 hA.2.1 hd ?_ ?_
  · rw [t3_0, t3_eq (by omega) (by omega)]
    omega
  have h := k p e R s m args below meth c cells slots Z H locs ls hA hM hP hS hl
  rw [t3_rem hx hy]
  exact h
theorem g3_ineg {x : Int} (hd : decode Y.2.1 pc = .ok (.ineg, 1)) (k : G3 E Y Q (pc + 1) lv (vI (-x) :: st) M) : G3 E Y Q pc lv (vI x :: st) M := by
  intro p e R s m args below meth c cells slots Z H locs ls hA hM hP hS hl
  refine lv_ineg hA.1 hA.2.1 hd ?_
  have h := k p e R s m args below meth c cells slots Z H locs ls hA hM hP hS hl
  rw [← Int32.ofInt_neg]
  exact h
theorem g3_iushr {x y : Int} (hd : decode Y.2.1 pc = .ok (.iushr, 1)) (k : G3 E Y Q (pc + 1) lv (vI (ushr3 x y) :: st) M) : G3 E Y Q pc lv (vI y :: vI x :: st) M := by
  intro p e R s m args below meth c cells slots Z H locs ls hA hM hP hS hl
  refine lv_iushr hA.1 hA.2.1 hd (v := Int32.ofInt (ushr3 x y)) (t3_back _).symm ?_
  exact k p e R s m args below meth c cells slots Z H locs ls hA hM hP hS hl
theorem g3_i2b {x : Int} (hd : decode Y.2.1 pc = .ok (.i2b, 1)) (k : G3 E Y Q (pc + 1) lv (vI (i2b3 x) :: st) M) : G3 E Y Q pc lv (vI x :: st) M := by
  intro p e R s m args below meth c cells slots Z H locs ls hA hM hP hS hl
  refine lv_i2b hA.1 hA.2.1 hd (v := Int32.ofInt (i2b3 x)) (t3_back _).symm ?_
  exact k p e R s m args below meth c cells slots Z H locs ls hA hM hP hS hl
theorem g3_i2s {x : Int} (hd : decode Y.2.1 pc = .ok (.i2s, 1)) (k : G3 E Y Q (pc + 1) lv (vI (i2s3 x) :: st) M) : G3 E Y Q pc lv (vI x :: st) M := by
  intro p e R s m args below meth c cells slots Z H locs ls hA hM hP hS hl
  refine lv_i2s hA.1 hA.2.1 hd (v := Int32.ofInt (i2s3 x)) (t3_back _).symm ?_
  exact k p e R s m args below meth c cells slots Z H locs ls hA hM hP hS hl
theorem g3_i2l {x : Int} (hd : decode Y.2.1 pc = .ok (.i2l, 1)) (k : G3 E Y Q (pc + 1) lv (vL (i2l3 x) :: st) M) : G3 E Y Q pc lv (vI x :: st) M := by
  intro p e R s m args below meth c cells slots Z H locs ls hA hM hP hS hl
  exact lv_i2l hA.1 hA.2.1 hd rfl (k p e R s m args below meth c cells slots Z H locs ls hA hM hP hS hl)
theorem g3_ladd {x y : Int64} (hd : decode Y.2.1 pc = .ok (.ladd, 1)) (k : G3 E Y Q (pc + 1) lv (vL (x + y) :: st) M) : G3 E Y Q pc lv (vL y :: vL x :: st) M := by
  intro p e R s m args below meth c cells slots Z H locs ls hA hM hP hS hl
  exact lv_ladd hA.1 hA.2.1 hd (k p e R s m args below meth c cells slots Z H locs ls hA hM hP hS hl)
theorem g3_lmul {x y : Int64} (hd : decode Y.2.1 pc = .ok (.lmul, 1)) (k : G3 E Y Q (pc + 1) lv (vL (x * y) :: st) M) : G3 E Y Q pc lv (vL y :: vL x :: st) M := by
  intro p e R s m args below meth c cells slots Z H locs ls hA hM hP hS hl
  exact lv_lmul hA.1 hA.2.1 hd (k p e R s m args below meth c cells slots Z H locs ls hA hM hP hS hl)
theorem g3_land {x y : Int64} (hd : decode Y.2.1 pc = .ok (.land, 1)) (k : G3 E Y Q (pc + 1) lv (vL (x &&& y) :: st) M) : G3 E Y Q pc lv (vL y :: vL x :: st) M := by
  intro p e R s m args below meth c cells slots Z H locs ls hA hM hP hS hl
  exact lv_land hA.1 hA.2.1 hd (k p e R s m args below meth c cells slots Z H locs ls hA hM hP hS hl)
theorem g3_lor {x y : Int64} (hd : decode Y.2.1 pc = .ok (.lor, 1)) (k : G3 E Y Q (pc + 1) lv (vL (x ||| y) :: st) M) : G3 E Y Q pc lv (vL y :: vL x :: st) M := by
  intro p e R s m args below meth c cells slots Z H locs ls hA hM hP hS hl
  exact lv_lor hA.1 hA.2.1 hd (k p e R s m args below meth c cells slots Z H locs ls hA hM hP hS hl)
theorem g3_lshl {x : Int64} {y : Int} (hd : decode Y.2.1 pc = .ok (.lshl, 1)) (k : G3 E Y Q (pc + 1) lv (vL (lshl3 x y) :: st) M) : G3 E Y Q pc lv (vI y :: vL x :: st) M := by
  intro p e R s m args below meth c cells slots Z H locs ls hA hM hP hS hl
  exact lv_lshl hA.1 hA.2.1 hd rfl (k p e R s m args below meth c cells slots Z H locs ls hA hM hP hS hl)
theorem g3_lshr {x : Int64} {y : Int} (hd : decode Y.2.1 pc = .ok (.lshr, 1)) (k : G3 E Y Q (pc + 1) lv (vL (lshr3 x y) :: st) M) : G3 E Y Q pc lv (vI y :: vL x :: st) M := by
  intro p e R s m args below meth c cells slots Z H locs ls hA hM hP hS hl
  exact lv_lshr hA.1 hA.2.1 hd rfl (k p e R s m args below meth c cells slots Z H locs ls hA hM hP hS hl)
theorem g3_lcmp {x y : Int64} (hd : decode Y.2.1 pc = .ok (.lcmp, 1)) (k : G3 E Y Q (pc + 1) lv (vI (cmp3 x y) :: st) M) : G3 E Y Q pc lv (vL y :: vL x :: st) M := by
  intro p e R s m args below meth c cells slots Z H locs ls hA hM hP hS hl
  refine W.lcmp hA.1 hA.2.1 hd ?_
  have h := k p e R s m args below meth c cells slots Z H locs ls hA hM hP hS hl
  rw [← t3_back (lg_cmp x y)]
  exact h
theorem g3_icmp_eq {x y off : Int} {tgt : Nat} (hd : decode Y.2.1 pc = .ok (.if_icmp .eq off, 3)) (ht : (pc : Int) + off = (tgt : Int)) (hx : -2147483648 ≤ x ∧ x ≤ 2147483647) (hy : -2147483648 ≤ y ∧ y ≤ 2147483647) (kt : x = y → G3 E Y Q tgt lv st M) (kf : x ≠ y → G3 E Y Q (pc + 3) lv st M) : G3 E Y Q pc lv (vI y :: vI x :: st) M := by
  intro p e R s m args below meth c cells slots Z H locs ls hA hM hP hS hl
  refine lv_icmp_eq hA.1 hA.2.1 hd ht (fun h => kt ?_ p e R s m args below meth c cells slots Z H locs ls hA hM hP hS hl) (fun h => kf ?_ p e R s m args below meth c cells slots Z H locs ls hA hM hP hS hl)
  · exact (t3_eq hx hy).mp h
  · exact fun h2 => h ((t3_eq hx hy).mpr h2)
theorem g3_if_eq {x off : Int} {tgt : Nat} (hd : decode Y.2.1 pc = .ok (.ifCond .eq off, 3)) (ht : (pc : Int) + off = (tgt : Int)) (hx : -2147483648 ≤ x ∧ x ≤ 2147483647) (kt : x = 0 → G3 E Y Q tgt lv st M) (kf : x ≠ 0 → G3 E Y Q (pc + 3) lv st M) : G3 E Y Q pc lv (vI x :: st) M := by
  intro p e R s m args below meth c cells slots Z H locs ls hA hM hP hS hl
  have hy : -2147483648 ≤ (0 : Int) ∧ (0 : Int) ≤ 2147483647 := by omega
  refine lv_if_eq hA.1 hA.2.1 hd ht (fun h => kt ?_ p e R s m args below meth c cells slots Z H locs ls hA hM hP hS hl) (fun h => kf ?_ p e R s m args below meth c cells slots Z H locs ls hA hM hP hS hl)
  · exact (t3_eq hx hy).mp h
  · exact fun h2 => h ((t3_eq hx hy).mpr h2)
theorem g3_icmp_ne {x y off : Int} {tgt : Nat} (hd : decode Y.2.1 pc = .ok (.if_icmp .ne off, 3)) (ht : (pc : Int) + off = (tgt : Int)) (hx : -2147483648 ≤ x ∧ x ≤ 2147483647) (hy : -2147483648 ≤ y ∧ y ≤ 2147483647) (kt : x ≠ y → G3 E Y Q tgt lv st M) (kf : x = y → G3 E Y Q (pc + 3) lv st M) : G3 E Y Q pc lv (vI y :: vI x :: st) M := by
  intro p e R s m args below meth c cells slots Z H locs ls hA hM hP hS hl
  refine lv_icmp_ne hA.1 hA.2.1 hd ht (fun h => kt ?_ p e R s m args below meth c cells slots Z H locs ls hA hM hP hS hl) (fun h => kf ?_ p e R s m args below meth c cells slots Z H locs ls hA hM hP hS hl)
  · exact fun h2 => h ((t3_eq hx hy).mpr h2)
  · exact (t3_eq hx hy).mp h
theorem g3_if_ne {x off : Int} {tgt : Nat} (hd : decode Y.2.1 pc = .ok (.ifCond .ne off, 3)) (ht : (pc : Int) + off = (tgt : Int)) (hx : -2147483648 ≤ x ∧ x ≤ 2147483647) (kt : x ≠ 0 → G3 E Y Q tgt lv st M) (kf : x = 0 → G3 E Y Q (pc + 3) lv st M) : G3 E Y Q pc lv (vI x :: st) M := by
  intro p e R s m args below meth c cells slots Z H locs ls hA hM hP hS hl
  have hy : -2147483648 ≤ (0 : Int) ∧ (0 : Int) ≤ 2147483647 := by omega
  refine lv_if_ne hA.1 hA.2.1 hd ht (fun h => kt ?_ p e R s m args below meth c cells slots Z H locs ls hA hM hP hS hl) (fun h => kf ?_ p e R s m args below meth c cells slots Z H locs ls hA hM hP hS hl)
  · exact fun h2 => h ((t3_eq hx hy).mpr h2)
  · exact (t3_eq hx hy).mp h
theorem g3_icmp_lt {x y off : Int} {tgt : Nat} (hd : decode Y.2.1 pc = .ok (.if_icmp .lt off, 3)) (ht : (pc : Int) + off = (tgt : Int)) (hx : -2147483648 ≤ x ∧ x ≤ 2147483647) (hy : -2147483648 ≤ y ∧ y ≤ 2147483647) (kt : x < y → G3 E Y Q tgt lv st M) (kf : y ≤ x → G3 E Y Q (pc + 3) lv st M) : G3 E Y Q pc lv (vI y :: vI x :: st) M := by
  intro p e R s m args below meth c cells slots Z H locs ls hA hM hP hS hl
  refine lv_icmp_lt hA.1 hA.2.1 hd ht (fun h => kt ?_ p e R s m args below meth c cells slots Z H locs ls hA hM hP hS hl) (fun h => kf ?_ p e R s m args below meth c cells slots Z H locs ls hA hM hP hS hl)
  · exact (t3_lt hx hy).mp h
  · exact Int.not_lt.mp (fun h2 => h ((t3_lt hx hy).mpr h2))
theorem g3_if_lt {x off : Int} {tgt : Nat} (hd : decode Y.2.1 pc = .ok (.ifCond .lt off, 3)) (ht : (pc : Int) + off = (tgt : Int)) (hx : -2147483648 ≤ x ∧ x ≤ 2147483647) (kt : x < 0 → G3 E Y Q tgt lv st M) (kf : 0 ≤ x → G3 E Y Q (pc + 3) lv st M) : G3 E Y Q pc lv (vI x :: st) M := by
  intro p e R s m args below meth c cells slots Z H locs ls hA hM hP hS hl
  have hy : -2147483648 ≤ (0 : Int) ∧ (0 : Int) ≤ 2147483647 := by omega
  refine lv_if_lt hA.1 hA.2.1 hd ht (fun h => kt ?_ p e R s m args below meth c cells slots Z H locs ls hA hM hP hS hl) (fun h => kf ?_ p e R s m args below meth c cells slots Z H locs ls hA hM hP hS hl)
  · exact (t3_lt hx hy).mp h
  · exact Int.not_lt.mp (fun h2 => h ((t3_lt hx hy).mpr h2))
theorem g3_icmp_ge {x y off : Int} {tgt : Nat} (hd : decode Y.2.1 pc = .ok (.if_icmp .ge off, 3)) (ht : (pc : Int) + off = (tgt : Int)) (hx : -2147483648 ≤ x ∧ x ≤ 2147483647) (hy : -2147483648 ≤ y ∧ y ≤ 2147483647) (kt : y ≤ x → G3 E Y Q tgt lv st M) (kf : x < y → G3 E Y Q (pc + 3) lv st M) : G3 E Y Q pc lv (vI y :: vI x :: st) M := by
  intro p e R s m args below meth c cells slots Z H locs ls hA hM hP hS hl
  refine lv_icmp_ge hA.1 hA.2.1 hd ht (fun h => kt ?_ p e R s m args below meth c cells slots Z H locs ls hA hM hP hS hl) (fun h => kf ?_ p e R s m args below meth c cells slots Z H locs ls hA hM hP hS hl)
  · exact (t3_le hy hx).mp h
  · exact Int.not_le.mp (fun h2 => h ((t3_le hy hx).mpr h2))
theorem g3_if_ge {x off : Int} {tgt : Nat} (hd : decode Y.2.1 pc = .ok (.ifCond .ge off, 3)) (ht : (pc : Int) + off = (tgt : Int)) (hx : -2147483648 ≤ x ∧ x ≤ 2147483647) (kt : 0 ≤ x → G3 E Y Q tgt lv st M) (kf : x < 0 → G3 E Y Q (pc + 3) lv st M) : G3 E Y Q pc lv (vI x :: st) M := by
  intro p e R s m args below meth c cells slots Z H locs ls hA hM hP hS hl
  have hy : -2147483648 ≤ (0 : Int) ∧ (0 : Int) ≤ 2147483647 := by omega
  refine lv_if_ge hA.1 hA.2.1 hd ht (fun h => kt ?_ p e R s m args below meth c cells slots Z H locs ls hA hM hP hS hl) (fun h => kf ?_ p e R s m args below meth c cells slots Z H locs ls hA hM hP hS hl)
  · exact (t3_le hy hx).mp h
  · exact Int.not_le.mp (fun h2 => h ((t3_le hy hx).mpr h2))
theorem g3_icmp_gt {x y off : Int} {tgt : Nat} (hd : decode Y.2.1 pc = .ok (.if_icmp .gt off, 3)) (ht : (pc : Int) + off = (tgt : Int)) (hx : -2147483648 ≤ x ∧ x ≤ 2147483647) (hy : -2147483648 ≤ y ∧ y ≤ 2147483647) (kt : y < x → G3 E Y Q tgt lv st M) (kf : x ≤ y → G3 E Y Q (pc + 3) lv st M) : G3 E Y Q pc lv (vI y :: vI x :: st) M := by
  intro p e R s m args below meth c cells slots Z H locs ls hA hM hP hS hl
  refine lv_icmp_gt hA.1 hA.2.1 hd ht (fun h => kt ?_ p e R s m args below meth c cells slots Z H locs ls hA hM hP hS hl) (fun h => kf ?_ p e R s m args below meth c cells slots Z H locs ls hA hM hP hS hl)
  · exact (t3_lt hy hx).mp h
  · exact Int.not_lt.mp (fun h2 => h ((t3_lt hy hx).mpr h2))
theorem g3_if_gt {x off : Int} {tgt : Nat} (hd : decode Y.2.1 pc = .ok (.ifCond .gt off, 3)) (ht : (pc : Int) + off = (tgt : Int)) (hx : -2147483648 ≤ x ∧ x ≤ 2147483647) (kt : 0 < x → G3 E Y Q tgt lv st M) (kf : x ≤ 0 → G3 E Y Q (pc + 3) lv st M) : G3 E Y Q pc lv (vI x :: st) M := by
  intro p e R s m args below meth c cells slots Z H locs ls hA hM hP hS hl
  have hy : -2147483648 ≤ (0 : Int) ∧ (0 : Int) ≤ 2147483647 := by omega
  refine lv_if_gt hA.1 hA.2.1 hd ht (fun h => kt ?_ p e R s m args below meth c cells slots Z H locs ls hA hM hP hS hl) (fun h => kf ?_ p e R s m args below meth c cells slots Z H locs ls hA hM hP hS hl)
  · exact (t3_lt hy hx).mp h
  · exact Int.not_lt.mp (fun h2 => h ((t3_lt hy hx).mpr h2))
theorem g3_icmp_le {x y off : Int} {tgt : Nat} (hd : decode Y.2.1 pc = .ok (.if_icmp .le off, 3)) (ht : (pc : Int) + off = (tgt : Int)) (hx : -2147483648 ≤ x ∧ x ≤ 2147483647) (hy : -2147483648 ≤ y ∧ y ≤ 2147483647) (kt : x ≤ y → G3 E Y Q tgt lv st M) (kf : y < x → G3 E Y Q (pc + 3) lv st M) : G3 E Y Q pc lv (vI y :: vI x :: st) M := by
  intro p e R s m args below meth c cells slots Z H locs ls hA hM hP hS hl
  refine lv_icmp_le hA.1 hA.2.1 hd ht (fun h => kt ?_ p e R s m args below meth c cells slots Z H locs ls hA hM hP hS hl) (fun h => kf ?_ p e R s m args below meth c cells slots Z H locs ls hA hM hP hS hl)
  · exact (t3_le hx hy).mp h
  · exact Int.not_le.mp (fun h2 => h ((t3_le hx hy).mpr h2))
theorem g3_if_le {x off : Int} {tgt : Nat} (hd : decode Y.2.1 pc = .ok (.ifCond .le off, 3)) (ht : (pc : Int) + off = (tgt : Int)) (hx : -2147483648 ≤ x ∧ x ≤ 2147483647) (kt : x ≤ 0 → G3 E Y Q tgt lv st M) (kf : 0 < x → G3 E Y Q (pc + 3) lv st M) : G3 E Y Q pc lv (vI x :: st) M := by
  intro p e R s m args below meth c cells slots Z H locs ls hA hM hP hS hl
  have hy : -2147483648 ≤ (0 : Int) ∧ (0 : Int) ≤ 2147483647 := by omega
  refine lv_if_le hA.1 hA.2.1 hd ht (fun h => kt ?_ p e R s m args below meth c cells slots Z H locs ls hA hM hP hS hl) (fun h => kf ?_ p e R s m args below meth c cells slots Z H locs ls hA hM hP hS hl)
  · exact (t3_le hx hy).mp h
  · exact Int.not_le.mp (fun h2 => h ((t3_le hx hy).mpr h2))
theorem g3_by {a : Prop} (kt : a → G3 E Y Q pc lv st M) (kf : ¬ a → G3 E Y Q pc lv st M) : G3 E Y Q pc lv st M := (Classical.em a).elim kt kf
theorem g3_tin {x n : Int} {dflt lo hi off : Int} {offs : Array Int} {len tgt : Nat} (hd : decode Y.2.1 pc = .ok (.tableswitch dflt lo hi offs, len)) (hx : x = n) (hn : -2147483648 ≤ n ∧ n ≤ 2147483647) (h1 : lo ≤ n ∧ n ≤ hi) (ho : offs[(n - lo).toNat]? = some off) (ht : (pc : Int) + off = (tgt : Int)) (k : G3 E Y Q tgt lv st M) : G3 E Y Q pc lv (vI x :: st) M := by
  intro p e R s m args below meth c cells slots Z H locs ls hA hM hP hS hl
  subst hx
  refine lv_tableIn hA.1 hA.2.1 (x := Int32.ofInt x) hd (by rw [t3_in hn]; omega) (by rw [t3_in hn]; omega) (by rw [t3_in hn]; exact ho) ht (k p e R s m args below meth c cells slots Z H locs ls hA hM hP hS hl)
theorem g3_tout {x : Int} {dflt lo hi : Int} {offs : Array Int} {len tgt : Nat} (hd : decode Y.2.1 pc = .ok (.tableswitch dflt lo hi offs, len)) (hn : -2147483648 ≤ x ∧ x ≤ 2147483647) (h1 : x < lo ∨ hi < x) (ht : (pc : Int) + dflt = (tgt : Int)) (k : G3 E Y Q tgt lv st M) : G3 E Y Q pc lv (vI x :: st) M := by
  intro p e R s m args below meth c cells slots Z H locs ls hA hM hP hS hl
  refine lv_tableOut hA.1 hA.2.1 (x := Int32.ofInt x) hd (by rw [t3_in hn]; exact h1) ht (k p e R s m args below meth c cells slots Z H locs ls hA hM hP hS hl)
theorem g3_look {x dflt off : Int} {ps : Array (Int × Int)} {len tgt : Nat} (hd : decode Y.2.1 pc = .ok (.lookupswitch dflt ps, len)) (hp : (ps.toList.zip (ps.toList.drop 1)).all (fun (a, next) => a.1 < next.1) = true) (hn : -2147483648 ≤ x ∧ x ≤ 2147483647) (ho : Op.lookupswitch.offset ps.toList dflt x = off) (ht : (pc : Int) + off = (tgt : Int)) (k : G3 E Y Q tgt lv st M) : G3 E Y Q pc lv (vI x :: st) M := by
  intro p e R s m args below meth c cells slots Z H locs ls hA hM hP hS hl
  refine lv_lookup hA.1 hA.2.1 (x := Int32.ofInt x) hd hp (by rw [t3_in hn]; exact ho) ht (k p e R s m args below meth c cells slots Z H locs ls hA hM hP hS hl)
/-- the ends -/
theorem g3_ireturn {x : Int} (hd : decode Y.2.1 pc = .ok (.ireturn, 1)) (hr : Y.2.2.2.1 = some .int) (k : Q (some (vI x)) M) : G3 E Y Q pc lv [vI x] M := by
  intro p e R s m args below meth c cells slots Z H locs ls hA hM hP hS hl
  exact hA.2.2.2.2.2.2.2.2.2.2 (some (vI x)) M H locs ls pc ⟨hd, Or.inl hr⟩ hM hP hS k
theorem g3_zreturn {x : Int} (hd : decode Y.2.1 pc = .ok (.ireturn, 1)) (hr : Y.2.2.2.1 = some .boolean) (hx : x = 0 ∨ x = 1) (k : Q (some (vI x)) M) : G3 E Y Q pc lv [vI x] M := by
  intro p e R s m args below meth c cells slots Z H locs ls hA hM hP hS hl
  exact hA.2.2.2.2.2.2.2.2.2.2 (some (vI x)) M H locs ls pc ⟨hd, Or.inr ⟨hr, hx⟩⟩ hM hP hS k
theorem g3_lreturn {x : Int64} (hd : decode Y.2.1 pc = .ok (.lreturn, 1)) (hr : Y.2.2.2.1 = some .long) (k : Q (some (vL x)) M) : G3 E Y Q pc lv [vL x] M := by
  intro p e R s m args below meth c cells slots Z H locs ls hA hM hP hS hl
  exact hA.2.2.2.2.2.2.2.2.2.2 (some (vL x)) M H locs ls pc ⟨hd, hr⟩ hM hP hS k
theorem g3_areturn {r : Nat} {x : Int} {C : String} (hd : decode Y.2.1 pc = .ok (.areturn, 1)) (hr : Y.2.2.2.1 = some (.object C)) (k : Q (some (vR r x)) M) : G3 E Y Q pc lv [vR r x] M := by
  intro p e R s m args below meth c cells slots Z H locs ls hA hM hP hS hl
  exact hA.2.2.2.2.2.2.2.2.2.2 (some (vR r x)) M H locs ls pc ⟨hd, C, hr⟩ hM hP hS k
theorem g3_return (hd : decode Y.2.1 pc = .ok (.return_, 1)) (hr : Y.2.2.2.1 = none) (k : Q none M) : G3 E Y Q pc lv [] M := by
  intro p e R s m args below meth c cells slots Z H locs ls hA hM hP hS hl
  exact hA.2.2.2.2.2.2.2.2.2.2 none M H locs ls pc ⟨hd, hr⟩ hM hP hS k
end G3T
