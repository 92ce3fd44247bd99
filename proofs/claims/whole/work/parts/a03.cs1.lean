/-! BITS OF A LONG -/
abbrev bL3 (x : Int64) (t : Int) : Prop := cmp3 ((lshr3 x t) &&& (1 : Int64)) (0 : Int64) ≠ 0
theorem bl_k : ∀ t : Fin 48, (((Int32.ofInt t.val).toInt64 &&& 63).toBitVec.smod 64#64).toNat = t.val := by decide +kernel
theorem bl_z (y : BitVec 64) : (y &&& 1#64) = 0#64 ↔ y.getLsbD 0 = false := by
  rw [BitVec.and_one_eq_setWidth_ofBool_getLsbD]
  cases y.getLsbD 0 <;> decide
theorem bl_c (x : Int64) {t : Int} (h : 0 ≤ t ∧ t < 48) : bL3 x t ↔ x.toBitVec.getLsbD t.toNat = true := by
  obtain ⟨t', rfl⟩ := Int.eq_ofNat_of_zero_le h.1
  have k1 : ∀ a : Int64, cmp3 a 0 = 0 ↔ a = 0 := fun a => by
    unfold cmp3
    constructor
    · intro q
      exact (lg_cmp_eq a 0).mp (Int32.toInt_inj.mp (q.trans rfl))
    · intro q
      rw [(lg_cmp_eq a 0).mpr q]
      rfl
  have k2 : ((lshr3 x t') &&& (1 : Int64)).toBitVec = (x.toBitVec.sshiftRight' (((Int32.ofInt t').toInt64 &&& 63).toBitVec.smod 64#64)) &&& 1#64 := rfl
  have k3 : (lshr3 x t') &&& (1 : Int64) = 0 ↔ x.toBitVec.getLsbD t' = false := by
    rw [← Int64.toBitVec_inj, k2]
    have e0 : (0 : Int64).toBitVec = 0#64 := rfl
    have ek : (((Int32.ofInt (t' : Int)).toInt64 &&& 63).toBitVec.smod 64#64).toNat = t' := bl_k ⟨t', by omega⟩
    rw [e0, bl_z, BitVec.getLsbD_sshiftRight', ek, if_pos (by omega)]
    simp
  rw [show ((t' : Int)).toNat = t' by omega]
  constructor
  · intro q
    cases hv : x.toBitVec.getLsbD t' with
    | true => rfl
    | false => exact absurd ((k1 _).mpr (k3.mpr hv)) q
  · intro q z
    have := k3.mp ((k1 _).mp z)
    rw [q] at this
    cases this
theorem bl_1 : ∀ t : Fin 48, ∀ c : Fin 48, (lshl3 (1 : Int64) c.val).toBitVec.getLsbD t.val = decide (t.val = c.val) := by decide +kernel
theorem bl_0 {t : Int} (h : 0 ≤ t ∧ t < 48) : ¬ bL3 0 t := by
  rw [bl_c 0 h]
  have e0 : (0 : Int64).toBitVec = 0#64 := rfl
  rw [e0]
  simp
theorem bl_or {x : Int64} {t c : Int} (h : 0 ≤ t ∧ t < 48) (hc : 0 ≤ c ∧ c < 48) : bL3 (x ||| lshl3 (1 : Int64) c) t ↔ t = c ∨ bL3 x t := by
  rw [bl_c _ h, bl_c _ h]
  obtain ⟨t', rfl⟩ := Int.eq_ofNat_of_zero_le h.1
  obtain ⟨c', rfl⟩ := Int.eq_ofNat_of_zero_le hc.1
  have e : (x ||| lshl3 (1 : Int64) c').toBitVec = x.toBitVec ||| (lshl3 (1 : Int64) c').toBitVec := rfl
  have b1 : (lshl3 (1 : Int64) (c' : Int)).toBitVec.getLsbD t' = decide (t' = c') := bl_1 ⟨t', by omega⟩ ⟨c', by omega⟩
  rw [e, show ((t' : Int)).toNat = t' by omega, BitVec.getLsbD_or, b1]
  by_cases q : t' = c'
  · rw [decide_eq_true q, Bool.or_true]
    exact ⟨fun _ => Or.inl (by omega), fun _ => rfl⟩
  · rw [decide_eq_false q, Bool.or_false]
    exact ⟨fun z => Or.inr z, fun z => by rcases z with z | z; omega; exact z⟩
/-! CLASS: the summer -/
def Eg (M N : M3) : Prop := (∀ q : Nat, q ∉ ([3, 8, 9, 31, 35] : List Nat) → N q = M q) ∧ (∀ j : Int, j ≠ 10 → N 3 0 j = M 3 0 j) ∧ ∀ j : Int, j ∉ ([10, 11] : List Int) → N 31 0 j = M 31 0 j
theorem Eg.rf {M : M3} : Eg M M := ⟨fun _ _ => rfl, fun _ _ => rfl, fun _ _ => rfl⟩
theorem Eg.tr {M N K : M3} (h : Eg M N) (h2 : Eg N K) : Eg M K := ⟨fr_tr h.1 h2.1, fun j hj => (h2.2.1 j hj).trans (h.2.1 j hj), fun j hj => (h2.2.2 j hj).trans (h.2.2 j hj)⟩
theorem Eg.c {M N : M3} (h : Ec M N) : Eg M N := ⟨fr_sub h.1 (by decide), fun j hj => h.2 j fun z => hj (List.mem_singleton.mp z), fun j _ => by rw [h.1 31 (by decide)]⟩
theorem Eg.up {M N : M3} (h : Eg M N) {j v : Int} : Eg M (up3 N 35 0 j v) := ⟨fr_up h.1 (by decide), fun k hk => (up3_nr (by decide)).trans (h.2.1 k hk), fun k hk => (up3_nr (by decide)).trans (h.2.2 k hk)⟩
theorem Eg.ups {M N : M3} (h : Eg M N) {j v : Int} (hj : j ∈ ([10, 11] : List Int)) : Eg M (up3 N 31 0 j v) := ⟨fr_up h.1 (by decide), fun k hk => (up3_nr (by decide)).trans (h.2.1 k hk), fun k hk => (up3_nj fun e => hk (by rw [e]; exact hj)).trans (h.2.2 k hk)⟩
theorem Eg.L {M N : M3} (h : Eg M N) : LL3 N = LL3 M := LL3_eq (h.1 4 (by decide)) (h.2.1 0 (by decide))
theorem Es.g {M N : M3} (h : Eg M N) : Es M N := by
  refine ⟨fun q hq => h.1 q fun z => hq ?_, h.2.1, fun j hj => h.2.2 j fun z => hj ?_, fun j _ => by rw [h.1 44 (by decide)]⟩
  · have : ∀ x ∈ ([3, 8, 9, 31, 35] : List Nat), x ∈ (3 :: 31 :: 44 :: scR : List Nat) := by decide
    exact this q z
  · have : ∀ x ∈ ([10, 11] : List Int), x ∈ ([9, 10, 11] : List Int) := by decide
    exact this j z
theorem gvs_mono {M : M3} {bits k b : Int} (h : 0 ≤ k) : gvs M bits k b ≤ gvs M bits (k + 1) b := by
  rw [gvs_s h]
  split <;> omega
abbrev rdA (M : M3) (bits k p : Int) : Prop := frP M p ∧ askd M ≤ min 20 (M 47 0 p + 2 * gvs M bits k (M 45 0 p))
theorem cm_A {M : M3} {bits p : Int} : ∀ n : Nat, cmN M bits n p = true → rdA M bits n p
  | 0, h => by cases h
  | n + 1, h => by
    have m := gvs_mono (M := M) (bits := bits) (k := (n : Int)) (b := M 45 0 p) (by omega)
    have e : ((n + 1 : Nat) : Int) = (n : Int) + 1 := by omega
    have h' : (cmN M bits n p || decide (rdP M bits n p)) = true := h
    rw [Bool.or_eq_true] at h'
    unfold rdA
    rw [e]
    rcases h' with h' | h'
    · have := cm_A n h'
      exact ⟨this.1, by have := this.2; omega⟩
    · have := of_decide_eq_true h'
      exact ⟨this.2.2.2.1, by have := this.2.2.2.2.1; omega⟩
theorem sum_b {M : M3} {g : Int → Int} (n : Nat) (hb : ∀ p : Int, 0 ≤ p → p < n → 0 ≤ M 45 0 p ∧ M 45 0 p ≤ 5) : cnN (fun p => decide (fsP M 0 (g 0) p)) n + cnN (fun p => decide (fsP M 1 (g 1) p)) n + cnN (fun p => decide (fsP M 2 (g 2) p)) n + cnN (fun p => decide (fsP M 3 (g 3) p)) n + cnN (fun p => decide (fsP M 4 (g 4) p)) n + cnN (fun p => decide (fsP M 5 (g 5) p)) n = cnN (fun p => decide (frP M p ∧ askd M ≤ min 20 (M 47 0 p + 2 * g (M 45 0 p)))) n := by
  induction n with
  | zero => rfl
  | succ n ih =>
    have h1 := ih fun p a b => hb p a (by omega)
    have h2 := hb n (by omega) (by omega)
    have one : ∀ b : Int, (if decide (fsP M b (g b) n) = true then (1 : Int) else 0) = if M 45 0 n = b ∨ b = -1 then (if decide (frP M n ∧ askd M ≤ min 20 (M 47 0 n + 2 * g b)) = true then 1 else 0) else 0 := fun b => by
      by_cases q : M 45 0 n = b ∨ b = -1
      · rw [if_pos q]
        by_cases z : frP M n ∧ askd M ≤ min 20 (M 47 0 n + 2 * g b)
        · rw [if_pos (decide_eq_true z), if_pos (decide_eq_true ⟨z.1.1, by omega, z.1.2, z.2⟩)]
        · rw [if_neg (fun y => z (of_decide_eq_true y)), if_neg (fun y => z (by have := of_decide_eq_true y; exact ⟨⟨this.1, this.2.2.1⟩, this.2.2.2⟩))]
      · rw [if_neg q, if_neg (fun y => q (by have := (of_decide_eq_true y).2.1; omega))]
    have st : ∀ f : Int → Bool, cnN f (n + 1) = cnN f n + (if f n = true then 1 else 0) := fun f => rfl
    rw [st, st, st, st, st, st, st]
    show cnN _ n + (if decide (fsP M 0 (g 0) n) = true then (1 : Int) else 0) + (cnN _ n + (if decide (fsP M 1 (g 1) n) = true then (1 : Int) else 0)) + (cnN _ n + (if decide (fsP M 2 (g 2) n) = true then (1 : Int) else 0)) + (cnN _ n + (if decide (fsP M 3 (g 3) n) = true then (1 : Int) else 0)) + (cnN _ n + (if decide (fsP M 4 (g 4) n) = true then (1 : Int) else 0)) + (cnN _ n + (if decide (fsP M 5 (g 5) n) = true then (1 : Int) else 0)) = cnN _ n + (if decide (frP M n ∧ askd M ≤ min 20 (M 47 0 n + 2 * g (M 45 0 n))) = true then (1 : Int) else 0)
    rw [one 0, one 1, one 2, one 3, one 4, one 5, ← h1]
    rcases (show M 45 0 n = 0 ∨ M 45 0 n = 1 ∨ M 45 0 n = 2 ∨ M 45 0 n = 3 ∨ M 45 0 n = 4 ∨ M 45 0 n = 5 by omega) with e | e | e | e | e | e <;> rw [e] <;> simp <;> omega
theorem rd_sum {M : M3} (h : IB M) (bits : Int) : mRdy M 0 (gvs M bits (M 44 0 44) 0) + mRdy M 1 (gvs M bits (M 44 0 44) 1) + mRdy M 2 (gvs M bits (M 44 0 44) 2) + mRdy M 3 (gvs M bits (M 44 0 44) 3) + mRdy M 4 (gvs M bits (M 44 0 44) 4) + mRdy M 5 (gvs M bits (M 44 0 44) 5) = jRd M bits + jOn M bits := by
  have hn := h.2.2.1.2.1
  have hk := h.2.2.2.2.2.2.2.1.2.1
  have e := sum_b (M := M) (g := gvs M bits (M 44 0 44)) (M 44 0 1).toNat (fun p a b => (h.p a (by omega)).2.2.2.1)
  have e2 : cn3 (M 44 0 1) (fun p => decide (frP M p ∧ askd M ≤ min 20 (M 47 0 p + 2 * gvs M bits (M 44 0 44) (M 45 0 p)))) = jRd M bits + jOn M bits := by
    refine cn3_two fun p a b => ?_
    have ca := cm_A (M := M) (bits := bits) (p := p) (M 44 0 44).toNat
    rw [show (((M 44 0 44).toNat : Nat) : Int) = M 44 0 44 by omega] at ca
    simp only [decide_eq_true_eq]
    constructor
    · constructor
      · intro z
        cases hv : cmI M bits (M 44 0 44) p with
        | true => exact Or.inr rfl
        | false => exact Or.inl ⟨z.1, hv, z.2⟩
      · intro z
        rcases z with z | z
        · exact ⟨z.1, z.2.2⟩
        · exact ca z
    · intro z
      have y := z.1.2.1
      rw [z.2] at y
      cases y
  rw [← e2]
  exact e
theorem lX10_gt2 {E : E3} {Q : Q3} {M0 : M3} {x1 : Int} (k : ∀ (N : M3), RM3 N → (∀ q : Nat, q ∉ ([35] : List Nat) → N q = M0 q) → (∀ b : Int, 0 ≤ b → b < 6 → N 35 0 b = 0) → G3 E YX10_goThrough Q 31 [(0, vR 31 0), (1, vI x1), (2, vL (0 : Int64)), (4, vI 0)] [] (up3 N 31 0 10 0)) : ∀ (n : Nat) (x2 : Int) (M : M3), 0 ≤ x2 → x2 + n = 6 → (∀ q : Nat, q ∉ ([35] : List Nat) → M q = M0 q) → (∀ b : Int, 0 ≤ b → b < x2 → M 35 0 b = 0) → G3 E YX10_goThrough Q 2 [(0, vR 31 0), (1, vI x1), (2, vI x2)] [] M := by
  intro n
  induction n with
  | zero =>
    intro x2 M h1 h2 h3 h4
    refine g3_rm fun hM => ?_
    refine sX10_goThrough_2 ?_
    refine ⟨?_, ?_⟩
    · omega
    refine ⟨fun c1 => ?_, fun c1 => ?_⟩
    · first | (exfalso; omega) | exact k M hM h3 (fun b a c => h4 b a (by omega))
    · refine ⟨?_, ?_⟩
      · omega
      exfalso; omega
  | succ n ih =>
    intro x2 M h1 h2 h3 h4
    refine g3_rm fun hM => ?_
    refine sX10_goThrough_2 ?_
    refine ⟨?_, ?_⟩
    · first | omega | (exfalso; omega)
    refine ⟨fun c1 => ?_, fun c1 => ?_⟩
    · exfalso; omega
    · refine ⟨?_, ?_⟩
      · first | omega | (exfalso; omega)
      first | (exfalso; omega) | exact ih _ _ (by omega) (by omega) (fr_up h3 (by decide)) (fun b a c => by
        by_cases e : b = x2
        · rw [e, up3_eq]
        · rw [up3_nj e]; exact h4 b a (by omega))
/-- how the class stands behind the first k choices -/
def gI (M : M3) (bits k : Int) (x : Int64) (N : M3) : Prop := (∀ b : Int, 0 ≤ b → b < 6 → N 35 0 b = gvs M bits k b) ∧ N 31 0 10 = cn3 (M 44 0 1) (fun p => cmI M bits k p) ∧ ∀ p : Int, 0 ≤ p → p < M 44 0 1 → (bL3 x p ↔ cmI M bits k p = true)
theorem gI_no {M N K : M3} {bits k : Int} {x : Int64} (hk : 0 ≤ k) (h : gI M bits k x N) (hl : ∀ b : Int, ¬ lsnP M bits b k) (hr : ∀ p : Int, 0 ≤ p → p < M 44 0 1 → rdP M bits k p → cmI M bits k p = true) (e35 : K 35 = N 35) (e31 : K 31 = N 31) : gI M bits (k + 1) x K := by
  have ec : ∀ p : Int, 0 ≤ p → p < M 44 0 1 → cmI M bits (k + 1) p = cmI M bits k p := fun p a b => by
    rw [cm_s hk]
    by_cases z : rdP M bits k p
    · rw [hr p a b z, Bool.true_or]
    · rw [decide_eq_false z, Bool.or_false]
  obtain ⟨h1, h2, h3⟩ := h
  refine ⟨fun b a c => ?_, ?_, fun p a b => by rw [ec p a b]; exact h3 p a b⟩
  · rw [e35, h1 b a c, gvs_s hk, if_neg (hl b)]
    omega
  · rw [e31, h2]
    exact cn3_congr fun p a b => (ec p a b).symm
