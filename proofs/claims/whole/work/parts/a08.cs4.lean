/-! CLASS: the best of a summer -/
section HQ
variable {M N : M3} {bits : Int}
theorem frP_q (h : Hm M N) (p : Int) : frP N p ↔ frP M p := by
  unfold frP alw3
  rw [LM3_q h, h 50 (by decide), h 46 (by decide), h 44 (by decide)]
theorem gvs_q (h : Hm M N) (k b : Int) : gvs N bits k b = gvs M bits k b := by
  unfold gvs lsnP
  rw [h 75 (by decide), h 76 (by decide)]
theorem rdP_q (h : Hm M N) (k p : Int) : rdP N bits k p ↔ rdP M bits k p := by
  have f := frP_q h p
  unfold rdP askd allR
  rw [gvs_q h, LM3_q h, h 44 (by decide), h 47 (by decide), h 45 (by decide), h 75 (by decide), h 76 (by decide)]
  exact ⟨fun z => ⟨z.1, z.2.1, z.2.2.1, f.mp z.2.2.2.1, z.2.2.2.2⟩, fun z => ⟨z.1, z.2.1, z.2.2.1, f.mpr z.2.2.2.1, z.2.2.2.2⟩⟩
theorem cmN_q (h : Hm M N) : ∀ (n : Nat) (p : Int), cmN N bits n p = cmN M bits n p
  | 0, _ => rfl
  | n + 1, p => by
    show (cmN N bits n p || decide (rdP N bits n p)) = (cmN M bits n p || decide (rdP M bits n p))
    rw [cmN_q h n p, decide_eq_decide.mpr (rdP_q h n p)]
theorem jOn_q (h : Hm M N) : jOn N bits = jOn M bits := by
  unfold jOn
  rw [h 44 (by decide)]
  exact cn3_congr fun p _ _ => cmN_q h _ p
theorem jRd_q (h : Hm M N) : jRd N bits = jRd M bits := by
  unfold jRd
  have e1 : N 44 0 1 = M 44 0 1 := by rw [h 44 (by decide)]
  rw [e1]
  refine cn3_congr fun p _ _ => decide_eq_decide.mpr ?_
  have f := frP_q h p
  unfold rdyP askd cmI
  rw [h 44 (by decide), cmN_q h, gvs_q h, LM3_q h, h 47 (by decide), h 45 (by decide)]
  exact ⟨fun z => ⟨f.mp z.1, z.2⟩, fun z => ⟨f.mpr z.1, z.2⟩⟩
theorem jPr_q (h : Hm M N) : jPr N bits = jPr M bits := by
  unfold jPr prs
  rw [h 44 (by decide), h 77 (by decide)]
end HQ
theorem Hm.tr {M N K : M3} (h : Hm M N) (h2 : Hm N K) : Hm M K := fun q hq => (h2 q hq).trans (h q hq)
theorem Hm.fr {M N : M3} {L : List Nat} (h : ∀ q : Nat, q ∉ L → N q = M q) (hL : ∀ q ∈ L, q < 44) : Hm M N := fun q hq => h q fun z => by
  have := hL q z
  omega
theorem tk_0 : ∀ j : Fin 8, ¬ tkP 0 j.val := by decide +kernel
theorem jPr_0 {M : M3} (h : IB M) : jPr M 0 = 0 := by
  have hk := h.2.2.2.2.2.2.2.1.2.1
  have : prs M 0 (M 44 0 44) = sm3 (M 44 0 44) (fun _ => 0) := sm3_congr fun j a b => by
    obtain ⟨j', rfl⟩ := Int.eq_ofNat_of_zero_le a
    exact if_neg (tk_0 ⟨j', by omega⟩)
  have z : ∀ n : Nat, smN (fun _ => (0 : Int)) n = 0 := by
    intro n
    induction n with
    | zero => rfl
    | succ n ih => show smN (fun _ => (0 : Int)) n + 0 = 0; omega
  unfold jPr
  rw [this]
  exact z _
def bwI (M0 M : M3) : Prop := LwC M ∧ Hm M0 M ∧ Es M0 M ∧ (∀ b g : Int, 0 ≤ b → b < 6 → 0 ≤ g → g ≤ 12 → M 28 b g = mRdy M0 b g) ∧ M 31 0 9 = sRm (LM3 M0) (M0 44 0 0)
theorem bwI.pre {M0 M : M3} (hI : IB M0) (h : bwI M0 M) : preGt M := by
  obtain ⟨a, b, c, d, e⟩ := h
  refine ⟨a, hI.s c, fun x g x0 x1 g0 g1 => ?_, ?_⟩
  · rw [d x g x0 x1 g0 g1]
    exact (mRdy_q (fun q hq => b q (by
      have : ∀ x ∈ ([44, 45, 46, 47, 50, 52] : List Nat), 44 ≤ x := by decide
      exact this q hq)) x g).symm
  · rw [e, LM3_q b, b 44 (by decide)]
theorem bwI.go {M0 M N : M3} {bits : Int} (h : bwI M0 M) (hg : poGt M bits N) : bwI M0 N ∧ N 31 0 10 = jOn M0 bits ∧ N 31 0 11 = jRd M0 bits := by
  obtain ⟨a, b, c, d, e⟩ := h
  obtain ⟨p1, p2, p3, p4⟩ := hg
  refine ⟨⟨p1, b.tr (Hm.fr p4.1 (by decide)), c.tr (Es.g p4), fun x g x0 x1 g0 g1 => ?_, (p4.2.2 9 (by decide)).trans e⟩, p2.trans (jOn_q b), p3.trans (jRd_q b)⟩
  rw [p4.1 28 (by decide)]
  exact d x g x0 x1 g0 g1
theorem bw_in {M N1 N2 : M3} (hI : IB M) (hf1 : ∀ q : Nat, q ∉ ([3, 8, 9, 28] : List Nat) → N1 q = M q) (hs1 : ∀ j : Int, j ∉ ([10] : List Int) → N1 3 0 j = M 3 0 j) (hp1 : poFs M N1) (he2 : Ec N1 N2) (hL : LwC N2) : bwI M (up3 N2 31 0 9 (sRm (LL3 N1) (M 2 0 0))) := by
  have x1 : Ex [28] M N1 := ⟨hf1, fun j hj => hs1 j fun z => hj (List.mem_singleton.mp z)⟩
  have eS : Es M N2 := (Es.x x1 (by decide)).tr (Es.c he2)
  have eL : LL3 N1 = LM3 M := (x1.L (by decide)).trans hI.L
  refine ⟨hL.up (by decide), ?_, ?_, fun x g x0 x2 g0 g1 => ?_, ?_⟩
  · intro q hq
    rw [up3_r (by omega), he2.hm q hq, hf1 q (fun z => by
      have : ∀ x ∈ ([3, 8, 9, 28] : List Nat), x < 44 := by decide
      have := this q z
      omega)]
  · refine eS.tr ⟨fun q hq => up3_r fun e => hq (by rw [e]; decide), fun j _ => up3_nr (by decide), fun j hj => up3_nj fun e => hj (by rw [e]; decide), fun j _ => up3_nr (by decide)⟩
  · rw [up3_r (by decide), he2.1 28 (by decide)]
    exact hp1.2 x g x0 x2 g0 g1
  · rw [up3_eq, eL, hI.1.1]
theorem lX10_bw {E : E3} {Q : Q3} {M0 : M3} {x1 : Int} (hI : IB M0) (hx : 0 ≤ x1 ∧ x1 ≤ 1000) (k : ∀ (N : M3), RM3 N → Es M0 N → Hm M0 N → LwC N → Q (some (vI (mBs M0 x1))) N) : ∀ (n : Nat) (x5 x2 x3 x4 : Int) (M : M3), 1 ≤ x5 → x5 + n = shl3 1 (M0 44 0 44) → bwI M0 M → x2 = bsN M0 x1 x5.toNat → 0 ≤ x2 → x3 = jOn M0 x2 → x4 = jRd M0 x2 → G3 E YX10_bestWithin Q 46 [(0, vR 31 0), (1, vI x1), (2, vI x2), (3, vI x3), (4, vI x4), (5, vI x5)] [] M := by
  have hk := hI.2.2.2.2.2.2.2.1.2.1
  have hk0 := hI.2.2.2.2.2.2.2.1.1
  have hc := shl_rg hk
  have hz1 := hI.2.2.1.2.1
  intro n
  induction n with
  | zero =>
    intro x5 x2 x3 x4 M h1 h2 h3 h4 h5 h6 h7
    refine g3_rm fun hM => ?_
    have eK : M 31 0 0 = M0 44 0 44 := (h3.2.2.1.2.2.1 0 (by decide)).trans hk0
    refine sX10_bestWithin_46 ?_
    rw [eK]
    refine ⟨by omega, by omega, fun _ => ?_, fun c => absurd c (by omega)⟩
    have k1 := k M hM h3.2.2.1 h3.2.1 h3.1
    rw [mBs, ← show x5 = shl3 1 (M0 44 0 44) by omega, ← h4] at k1
    exact k1
  | succ n ih =>
    intro x5 x2 x3 x4 M h1 h2 h3 h4 h5 h6 h7
    refine g3_rm fun hM => ?_
    have eK : M 31 0 0 = M0 44 0 44 := (h3.2.2.1.2.2.1 0 (by decide)).trans hk0
    have r2 := bsN_rg M0 x1 x5.toNat
    have a1 := jOn_rg hz1 x2
    have a2 := jRd_rg hz1 x2
    have a3 := prs_rg hI.okJ (bits := x2) (k := M0 44 0 44) (by omega)
    have b1 := jOn_rg hz1 x5
    have b2 := jRd_rg hz1 x5
    have b3 := prs_rg hI.okJ (bits := x5) (k := M0 44 0 44) (by omega)
    have o1 := ones_rg x2
    have o2 := ones_rg x5
    have e3 : prs M0 x2 (M0 44 0 44) = jPr M0 x2 := rfl
    have e6 : prs M0 x5 (M0 44 0 44) = jPr M0 x5 := rfl
    rw [e3] at a3
    rw [e6] at b3
    have e2 := bsN_s (M := M0) (price := x1) (x := x5) (by omega)
    rw [← h4] at e2
    have no : ∀ N : M3, bwI M0 N → ¬ (jPr M0 x5 ≤ x1 ∧ (x2 = -1 ∨ bet3 M0 x5 x2)) → G3 E YX10_bestWithin Q 46 [(0, vR 31 0), (1, vI x1), (2, vI x2), (3, vI x3), (4, vI x4), (5, vI (x5 + 1))] [] N := fun N hN z => by
      rw [if_neg z] at e2
      exact ih _ _ _ _ N (by omega) (by omega) hN e2.symm h5 h6 h7
    have yes : ∀ N : M3, bwI M0 N → jPr M0 x5 ≤ x1 ∧ (x2 = -1 ∨ bet3 M0 x5 x2) → G3 E YX10_bestWithin Q 46 [(0, vR 31 0), (1, vI x1), (2, vI x5), (3, vI (jOn M0 x5)), (4, vI (jRd M0 x5)), (5, vI (x5 + 1))] [] N := fun N hN z => by
      rw [if_pos z] at e2
      exact ih _ _ _ _ N (by omega) (by omega) hN e2.symm (by omega) rfl rfl
    subst h6 h7
    have hS : iSum M := (hI.2.2.2.2.2.2.2.1).s h3.2.2.1
    refine sX10_bestWithin_46 ?_
    rw [eK, jPr_q h3.2.1]
    refine ⟨by omega, by omega, fun c => absurd c (by omega), fun _ => ⟨hS, by omega, by omega, fun c1 => ⟨h3.pre hI, fun N1 hN1 hf1 hs1 hp1 => ?_⟩, fun c => no M h3 (fun z => by omega)⟩⟩
    obtain ⟨hb, q1, q2⟩ := h3.go hp1
    rw [q1, q2, jPr_q hb.2.1, jPr_q hb.2.1]
    have hS1 : iSum N1 := (hI.2.2.2.2.2.2.2.1).s hb.2.2.1
    exact ⟨by omega, fun c => yes N1 hb (by omega), fun _ => ⟨fun c => no N1 hb (fun z => by omega), fun c => ⟨by omega, fun c => yes N1 hb (by omega), fun _ => ⟨fun c => no N1 hb (fun z => by omega), fun c => ⟨hS1, by omega, fun c => yes N1 hb (by omega), fun _ => ⟨fun c => no N1 hb (fun z => by omega), fun c => ⟨by omega, by omega, by omega, by omega, fun c => no N1 hb (fun z => by omega), fun c => yes N1 hb (by omega)⟩⟩⟩⟩⟩⟩⟩
theorem kX10_bestWithin {E : E3} {Q : Q3} {M : M3} {x1 : Int} (h : LwC M ∧ IB M ∧ 0 ≤ x1 ∧ x1 ≤ 1000) (k : ∀ (N : M3), RM3 N → Es M N → Hm M N → LwC N → Q (some (vI (mBs M x1))) N) : C3 E YX10_bestWithin [vR 31 0, vI x1] M Q := by
  refine c3_rm fun hM => ?_
  obtain ⟨hL, hI, hx⟩ := h
  have hk := hI.2.2.2.2.2.2.2.1.2.1
  have hc := shl_rg hk
  have hd := hI.1.2.2.1
  have hd0 := hI.1.1
  have hr : ∀ N : M3, 0 ≤ sRm (LL3 N) (M 2 0 0) ∧ sRm (LL3 N) (M 2 0 0) ≤ 20 := fun N => cn3_rg (by omega) _
  refine sX10_bestWithin ?_
  refine ⟨?_, ?_⟩
  · first | exact ⟨hL, hI⟩ | exact ⟨hp1.1, by omega, by omega⟩ | (have := hr N1; omega) | exact (bw_in hI hf1 hs1 hp1 he2 hp2).pre hI
  intro N1 hN1 hf1 hs1 hp1
  refine ⟨?_, ?_⟩
  · first | exact ⟨hL, hI⟩ | exact ⟨hp1.1, by omega, by omega⟩ | (have := hr N1; omega) | exact (bw_in hI hf1 hs1 hp1 he2 hp2).pre hI
  intro N2 hN2 he2 hp2
  refine ⟨?_, ?_, ?_⟩
  · first | exact ⟨hL, hI⟩ | exact ⟨hp1.1, by omega, by omega⟩ | (have := hr N1; omega) | exact (bw_in hI hf1 hs1 hp1 he2 hp2).pre hI
  · first | exact ⟨hL, hI⟩ | exact ⟨hp1.1, by omega, by omega⟩ | (have := hr N1; omega) | exact (bw_in hI hf1 hs1 hp1 he2 hp2).pre hI
  intro N3 hN3 hf3 hs3 hp3
  (obtain ⟨hb, q1, q2⟩ := (bw_in hI hf1 hs1 hp1 he2 hp2).go hp3
   have e1 : bsN M x1 1 = 0 := by
     have := bsN_s (M := M) (price := x1) (x := 0) (by omega)
     rw [if_pos ⟨by rw [jPr_0 hI]; omega, Or.inl rfl⟩] at this
     exact this
   exact lX10_bw hI hx k (shl3 1 (M 44 0 44) - 1).toNat 1 0 _ _ N3 (by omega) (by omega) hb e1.symm (by omega) q1 q2)
theorem kX10_outcome {E : E3} {Q : Q3} {M : M3} {x1 x2 : Int} (h : LwC M ∧ IB M ∧ 0 ≤ x2 ∧ x2 ≤ 2) (k : ∀ (N : M3), RM3 N → Es M N → Hm M N → LwC N → Q (some (vI (if x2 = 0 then jOn M x1 else if x2 = 1 then jRd M x1 else jPr M x1))) N) : C3 E YX10_outcome [vR 31 0, vI x1, vI x2] M Q := by
  refine c3_rm fun hM => ?_
  obtain ⟨hL, hI, hx⟩ := h
  have hd := hI.1.2.2.1
  have hd0 := hI.1.1
  have hr : ∀ N : M3, 0 ≤ sRm (LL3 N) (M 2 0 0) ∧ sRm (LL3 N) (M 2 0 0) ≤ 20 := fun N => cn3_rg (by omega) _
  refine sX10_outcome ?_
  refine ⟨?_, ?_⟩
  · first | omega | exact ⟨hL, hI⟩ | exact ⟨hp1.1, by omega, by omega⟩ | (have := hr N1; omega) | exact (bw_in hI hf1 hs1 hp1 he2 hp2).pre hI | exact hI.2.2.2.2.2.2.2.1
  refine ⟨fun c1 => ?_, fun c1 => ?_⟩
  · refine ⟨?_, ?_⟩
    · first | omega | exact ⟨hL, hI⟩ | exact ⟨hp1.1, by omega, by omega⟩ | (have := hr N1; omega) | exact (bw_in hI hf1 hs1 hp1 he2 hp2).pre hI | exact hI.2.2.2.2.2.2.2.1
    intro N1 hN1 hf1 hs1 hp1
    refine ⟨?_, ?_⟩
    · first | omega | exact ⟨hL, hI⟩ | exact ⟨hp1.1, by omega, by omega⟩ | (have := hr N1; omega) | exact (bw_in hI hf1 hs1 hp1 he2 hp2).pre hI | exact hI.2.2.2.2.2.2.2.1
    intro N2 hN2 he2 hp2
    refine ⟨?_, ?_, ?_⟩
    · first | omega | exact ⟨hL, hI⟩ | exact ⟨hp1.1, by omega, by omega⟩ | (have := hr N1; omega) | exact (bw_in hI hf1 hs1 hp1 he2 hp2).pre hI | exact hI.2.2.2.2.2.2.2.1
    · first | omega | exact ⟨hL, hI⟩ | exact ⟨hp1.1, by omega, by omega⟩ | (have := hr N1; omega) | exact (bw_in hI hf1 hs1 hp1 he2 hp2).pre hI | exact hI.2.2.2.2.2.2.2.1
    intro N3 hN3 hf3 hs3 hp3
    refine ⟨fun c2 => ?_, fun c2 => ?_⟩
    · first
      | (have k1 := k M hM Es.rf (fun _ _ => rfl) hL
         rw [if_neg (by omega), if_neg (by omega)] at k1
         exact k1)
      | (obtain ⟨hb, q1, q2⟩ := (bw_in hI hf1 hs1 hp1 he2 hp2).go hp3
         have k1 := k N3 hN3 hb.2.2.1 hb.2.1 hb.1
         first
           | (rw [if_pos (by omega), ← q1] at k1; exact k1)
           | (rw [if_neg (by omega), if_pos (by omega), ← q2] at k1; exact k1))
    · first
      | (have k1 := k M hM Es.rf (fun _ _ => rfl) hL
         rw [if_neg (by omega), if_neg (by omega)] at k1
         exact k1)
      | (obtain ⟨hb, q1, q2⟩ := (bw_in hI hf1 hs1 hp1 he2 hp2).go hp3
         have k1 := k N3 hN3 hb.2.2.1 hb.2.1 hb.1
         first
           | (rw [if_pos (by omega), ← q1] at k1; exact k1)
           | (rw [if_neg (by omega), if_pos (by omega), ← q2] at k1; exact k1))
  · refine ⟨?_, ?_⟩
    · first | omega | exact ⟨hL, hI⟩ | exact ⟨hp1.1, by omega, by omega⟩ | (have := hr N1; omega) | exact (bw_in hI hf1 hs1 hp1 he2 hp2).pre hI | exact hI.2.2.2.2.2.2.2.1
    first
    | (have k1 := k M hM Es.rf (fun _ _ => rfl) hL
       rw [if_neg (by omega), if_neg (by omega)] at k1
       exact k1)
    | (obtain ⟨hb, q1, q2⟩ := (bw_in hI hf1 hs1 hp1 he2 hp2).go hp3
       have k1 := k N3 hN3 hb.2.2.1 hb.2.1 hb.1
       first
         | (rw [if_pos (by omega), ← q1] at k1; exact k1)
         | (rw [if_neg (by omega), if_pos (by omega), ← q2] at k1; exact k1))
