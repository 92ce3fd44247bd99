/-! THE LAW: its script, and answers that are the same -/
def sx3 (E : E3) (j : Int) : Int := (xs3 E j.toNat).toInt
theorem sx3_rg (E : E3) (j : Int) : -2147483648 ≤ sx3 E j ∧ sx3 E j ≤ 2147483647 := t3_tr _
section G3L
variable {E : E3} {Y : Y3} {Q : Q3} {pc : Nat} {lv : List (Nat × V3)} {st : List V3} {M : M3}
theorem g3_slen (hE : ad3 E 99 0 = b3 E) (hd : decode Y.2.1 pc = .ok (.arraylength, 1)) (k : G3 E Y Q (pc + 1) lv (vI (L3 E : Int) :: st) M) : G3 E Y Q pc lv (vR 99 0 :: st) M := by
  intro p e R s m args below meth c cells slots Z H locs ls hA hM hP hS hl
  have hX := hA.2.2.2.2.2.2.2.1
  have h := k p e R s m args below meth c cells slots Z H locs ls hA hM hP hS hl
  have hw := va_slen (rest := st.map (cv3 (ad3 E))) hA.1 hA.2.1 hX.1 hX.2.1 hX.2.2 hS hd h
  rw [← hE] at hw
  exact hw
theorem g3_sld {x : Int} (hE : ad3 E 99 0 = b3 E) (hd : decode Y.2.1 pc = .ok (.iaload, 1)) (hx : 0 ≤ x ∧ x < (L3 E : Int) ∧ (L3 E : Int) ≤ 2147483647) (k : G3 E Y Q (pc + 1) lv (vI (sx3 E x) :: st) M) : G3 E Y Q pc lv (vI x :: vR 99 0 :: st) M := by
  intro p e R s m args below meth c cells slots Z H locs ls hA hM hP hS hl
  have hX := hA.2.2.2.2.2.2.2.1
  have h := k p e R s m args below meth c cells slots Z H locs ls hA hM hP hS hl
  have e1 : Int32.ofInt (sx3 E x) = xs3 E (Int32.ofInt x).toNatClampNeg := by
    unfold sx3
    rw [t3_back, t3_cl (by omega)]
  have h9 : W p E.1 e R s m args below meth c H locs cells slots Z (F0 m (pc + 1) ls (.int (xs3 E (Int32.ofInt x).toNatClampNeg) :: st.map (cv3 (ad3 E)))) := by
    rw [← e1]
    exact h
  have hw := va_sld (i := Int32.ofInt x) hA.1 hA.2.1 hX.1 hX.2.1 hX.2.2 hS (t3_vp (by omega) (by omega)) hd h9
  rw [← hE] at hw
  exact hw
theorem g3_same {x off : Int} {tgt : Nat} (hd : decode Y.2.1 pc = .ok (.if_icmp .eq off, 3)) (ht : (pc : Int) + off = (tgt : Int)) (k : G3 E Y Q tgt lv st M) : G3 E Y Q pc lv (vI x :: vI x :: st) M := by
  intro p e R s m args below meth c cells slots Z H locs ls hA hM hP hS hl
  exact lv_icmp_eq hA.1 hA.2.1 hd ht (fun _ => k p e R s m args below meth c cells slots Z H locs ls hA hM hP hS hl) (fun h => absurd rfl h)
theorem cmp3_self (x : Int64) : cmp3 x x = 0 := by
  unfold cmp3
  rw [(lg_cmp_eq x x).mpr rfl]
  rfl
end G3L
