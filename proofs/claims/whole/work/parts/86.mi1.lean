/-! MODEL: the best choices -/
section EJ
variable {M N : M3} {bits : Int}
theorem gvs_e (h : Ej M N) (k b : Int) : gvs N bits k b = gvs M bits k b := by
  unfold gvs lsnP
  rw [h.1 75 (by decide), h.1 76 (by decide)]
theorem rdP_e (h : Ej M N) (k p : Int) : rdP N bits k p ↔ rdP M bits k p := by
  have f := frP_e h p
  unfold rdP askd allR
  rw [gvs_e h, h.L, h.2 0 (by decide), h.1 47 (by decide), h.1 45 (by decide), h.1 75 (by decide), h.1 76 (by decide)]
  exact ⟨fun z => ⟨z.1, z.2.1, z.2.2.1, f.mp z.2.2.2.1, z.2.2.2.2⟩, fun z => ⟨z.1, z.2.1, z.2.2.1, f.mpr z.2.2.2.1, z.2.2.2.2⟩⟩
theorem cmN_e (h : Ej M N) : ∀ (n : Nat) (p : Int), cmN N bits n p = cmN M bits n p
  | 0, _ => rfl
  | n + 1, p => by
    show (cmN N bits n p || decide (rdP N bits n p)) = (cmN M bits n p || decide (rdP M bits n p))
    rw [cmN_e h n p, decide_eq_decide.mpr (rdP_e h n p)]
theorem jOn_e (h : Ej M N) : jOn N bits = jOn M bits := by
  unfold jOn
  rw [h.2 1 (by decide), h.2 44 (by decide)]
  exact cn3_congr fun p _ _ => cmN_e h _ p
theorem jRd_e (h : Ej M N) : jRd N bits = jRd M bits := by
  unfold jRd
  rw [h.2 1 (by decide)]
  refine cn3_congr fun p _ _ => decide_eq_decide.mpr ?_
  have f := frP_e h p
  unfold rdyP askd cmI
  rw [h.2 44 (by decide), cmN_e h, gvs_e h, h.L, h.2 0 (by decide), h.1 47 (by decide), h.1 45 (by decide)]
  exact ⟨fun z => ⟨f.mp z.1, z.2⟩, fun z => ⟨f.mpr z.1, z.2⟩⟩
theorem jPr_e (h : Ej M N) : jPr N bits = jPr M bits := by
  unfold jPr prs
  rw [h.2 44 (by decide), h.1 77 (by decide)]
theorem okJ_e (h : Ej M N) (o : okJ M) : okJ N := by
  unfold okJ okP at o ⊢
  rw [h.2 1 (by decide), h.2 0 (by decide), h.2 44 (by decide), h.1 47 (by decide), h.1 75 (by decide), h.1 76 (by decide), h.1 77 (by decide)]
  exact o
end EJ
theorem shl_1 : ∀ n : Fin 9, shl3 1 n.val = 2 ^ n.val := by decide +kernel
theorem shl_rg {n : Int} (h : 0 ≤ n ∧ n ≤ 8) : 1 ≤ shl3 1 n ∧ shl3 1 n ≤ 256 := by
  obtain ⟨k, rfl⟩ := Int.eq_ofNat_of_zero_le h.1
  have e := shl_1 ⟨k, by omega⟩
  have e2 : shl3 1 (k : Int) = 2 ^ k := e
  have key : ∀ m : Fin 9, (1 : Int) ≤ 2 ^ m.val ∧ (2 : Int) ^ m.val ≤ 256 := by decide +kernel
  rw [e2]
  exact key ⟨k, by omega⟩
abbrev bet3 (M : M3) (a b : Int) : Prop := jOn M b < jOn M a ∨ (jOn M a = jOn M b ∧ (jRd M b < jRd M a ∨ (jRd M a = jRd M b ∧ (jPr M a < jPr M b ∨ (jPr M a = jPr M b ∧ ones3 a < ones3 b)))))
def bsN (M : M3) (price : Int) : Nat → Int
  | 0 => -1
  | n + 1 => if jPr M n ≤ price ∧ (bsN M price n = -1 ∨ bet3 M n (bsN M price n)) then (n : Int) else bsN M price n
theorem bsN_s {M : M3} {price x : Int} (h : 0 ≤ x) : bsN M price (x + 1).toNat = if jPr M x ≤ price ∧ (bsN M price x.toNat = -1 ∨ bet3 M x (bsN M price x.toNat)) then x else bsN M price x.toNat := by
  obtain ⟨k, rfl⟩ := Int.eq_ofNat_of_zero_le h
  rfl
def mBs (M : M3) (price : Int) : Int := bsN M price (shl3 1 (M 44 0 44)).toNat
theorem bsN_rg (M : M3) (price : Int) : ∀ n : Nat, -1 ≤ bsN M price n ∧ bsN M price n < n
  | 0 => by unfold bsN; omega
  | n + 1 => by
    have h := bsN_rg M price n
    unfold bsN
    split <;> omega
theorem jOn_rg {M : M3} (h : 0 ≤ M 44 0 1 ∧ M 44 0 1 ≤ 48) (bits : Int) : 0 ≤ jOn M bits ∧ jOn M bits ≤ 48 := by
  have := cn3_rg h.1 (fun p => cmI M bits (M 44 0 44) p)
  unfold jOn
  omega
theorem jRd_rg {M : M3} (h : 0 ≤ M 44 0 1 ∧ M 44 0 1 ≤ 48) (bits : Int) : 0 ≤ jRd M bits ∧ jRd M bits ≤ 48 := by
  have := cn3_rg h.1 (fun p => decide (rdyP M bits p))
  unfold jRd
  omega
theorem ones_rg (b : Int) : 0 ≤ ones3 b ∧ ones3 b ≤ 8 := by
  have h := sm3_rg (n := 8) (B := 1) (by omega) (f := fun k => and3 (shr3 b k) 1) fun k _ _ => by
    show 0 ≤ and3 (shr3 b k) 1 ∧ and3 (shr3 b k) 1 ≤ 1
    rcases and3_1 (shr3 b k) with e | e <;> omega
  unfold ones3
  omega
theorem lX12_best {E : E3} {Q : Q3} {M0 : M3} {x1 : Int} (hz : okJ M0) (hx : 0 ≤ x1 ∧ x1 ≤ 1000) (k : ∀ (N : M3), RM3 N → Ej M0 N → RdC N → Q (some (vI (mBs M0 x1))) N) : ∀ (n : Nat) (x6 x2 x3 x4 x5 : Int) (M : M3), 0 ≤ x6 → x6 + n = shl3 1 (M0 44 0 44) → RdC M → Ej M0 M → x2 = bsN M0 x1 x6.toNat → (x2 ≠ -1 → x3 = jOn M0 x2 ∧ x4 = jRd M0 x2 ∧ x5 = jPr M0 x2) → G3 E YX12_best Q 27 [(0, vR 44 0), (1, vI x1), (2, vI x2), (3, vI x3), (4, vI x4), (5, vI x5), (6, vI x6)] [] M := by
  have hc := shl_rg hz.2.1
  have hz1 := hz.1.1
  have hz2 := hz.2.1
  intro n
  induction n with
  | zero =>
    intro x6 x2 x3 x4 x5 M h1 h2 h3 h4 h5 h6
    refine g3_rm fun hM => ?_
    refine sX12_best_27 ?_
    rw [h4.2 44 (by decide)]
    refine ⟨by omega, fun _ => ?_, fun c => absurd c (by omega)⟩
    have k1 := k M hM h4 h3
    rw [mBs, ← show x6 = shl3 1 (M0 44 0 44) by omega, ← h5] at k1
    exact k1
  | succ n ih =>
    intro x6 x2 x3 x4 x5 M h1 h2 h3 h4 h5 h6
    refine g3_rm fun hM => ?_
    have r2 := bsN_rg M0 x1 x6.toNat
    have a1 := jOn_rg hz1 x2
    have a2 := jRd_rg hz1 x2
    have a3 := prs_rg hz (bits := x2) (k := M0 44 0 44) (by omega)
    have b1 := jOn_rg hz1 x6
    have b2 := jRd_rg hz1 x6
    have b3 := prs_rg hz (bits := x6) (k := M0 44 0 44) (by omega)
    have o1 := ones_rg x2
    have o2 := ones_rg x6
    have e3 : prs M0 x2 (M0 44 0 44) = jPr M0 x2 := rfl
    have e6 : prs M0 x6 (M0 44 0 44) = jPr M0 x6 := rfl
    rw [e3] at a3
    rw [e6] at b3
    have e2 := bsN_s (M := M0) (price := x1) h1
    rw [← h5] at e2
    refine sX12_best_27 ?_
    rw [h4.2 44 (by decide)]
    refine ⟨by omega, fun c => absurd c (by omega), fun c1 => ⟨⟨h3, okJ_e h4 hz⟩, fun N1 hN1 hf1 hs1 hp1 => ?_⟩⟩
    obtain ⟨hR1, q1, q2, q3⟩ := hp1
    rw [jOn_e h4] at q1
    rw [jRd_e h4] at q2
    rw [jPr_e h4] at q3
    have hJ : Ej M0 N1 := h4.tr ⟨hf1, hs1⟩
    have no : ¬ (jPr M0 x6 ≤ x1 ∧ (x2 = -1 ∨ bet3 M0 x6 x2)) → G3 E YX12_best Q 27 [(0, vR 44 0), (1, vI x1), (2, vI x2), (3, vI x3), (4, vI x4), (5, vI x5), (6, vI (x6 + 1))] [] N1 := fun z => by
      rw [if_neg z] at e2
      exact ih _ _ _ _ _ N1 (by omega) (by omega) hR1 hJ e2.symm h6
    have yes : jPr M0 x6 ≤ x1 ∧ (x2 = -1 ∨ bet3 M0 x6 x2) → G3 E YX12_best Q 27 [(0, vR 44 0), (1, vI x1), (2, vI x6), (3, vI (jOn M0 x6)), (4, vI (jRd M0 x6)), (5, vI (jPr M0 x6)), (6, vI (x6 + 1))] [] N1 := fun z => by
      rw [if_pos z] at e2
      exact ih _ _ _ _ _ N1 (by omega) (by omega) hR1 hJ e2.symm (fun _ => ⟨rfl, rfl, rfl⟩)
    rw [q1, q2, q3]
    by_cases hb : x2 = -1
    · refine ⟨by omega, fun c => absurd hb c, fun _ => ⟨by omega, fun c => no (fun z => by omega), fun c => yes ⟨c, Or.inl hb⟩⟩⟩
    · obtain ⟨w1, w2, w3⟩ := h6 hb
      subst w1 w2 w3
      refine ⟨by omega, fun _ => ⟨by omega, fun c1 => ⟨fun c2 => ⟨fun c3 => ⟨by omega, fun c => no (fun z => by omega), fun d => ⟨fun c => no (fun z => by omega), fun c => yes (by omega)⟩⟩, fun c3 => absurd c3 c1⟩, fun c2 => absurd c2 c1⟩, fun c1 => ⟨by omega, fun c2 => ⟨fun c3 => ⟨by omega, fun c => no (fun z => by omega), fun d => ⟨fun c => no (fun z => by omega), fun c => yes (by omega)⟩⟩, fun c3 => absurd c3 c2⟩, fun c2 => ⟨by omega, fun c3 => ⟨by omega, fun c => no (fun z => by omega), fun d => ⟨fun c => no (fun z => by omega), fun c => yes (by omega)⟩⟩, fun c3 => ⟨by omega, fun c => no (fun z => by omega), fun d => ⟨by omega, fun c => no (fun z => by omega), fun c => yes (by omega)⟩⟩⟩⟩⟩, fun c => absurd c hb⟩
theorem kX12_best {E : E3} {Q : Q3} {M : M3} {x1 : Int} (h : RdC M ∧ okJ M ∧ (-2147483648 ≤ x1 ∧ x1 ≤ 2147483647)) (k : ∀ (N : M3), RM3 N → Ej M N → RdC N → Q (some (vI (if 0 ≤ x1 ∧ x1 ≤ 1000 then mBs M x1 else -2))) N) : C3 E YX12_best [vR 44 0, vI x1] M Q := by
  refine c3_rm fun hM => ?_
  obtain ⟨hR, hJ, hx⟩ := h
  have hc := shl_rg hJ.2.1
  refine sX12_best ?_
  refine ⟨?_, ?_⟩
  · omega
  refine ⟨fun c1 => ?_, fun c1 => ?_⟩
  · refine lX12_best hJ (by assumption) (fun N a b c => ?_) (shl3 1 (M 44 0 44)).toNat 0 (-1) 0 0 0 M (by omega) (by omega) hR Ej.rf rfl (fun z => absurd rfl z)
    have k1 := k N a b c
    rw [if_pos (by assumption)] at k1
    exact k1
  · have k1 := k M hM Ej.rf hR
    rw [if_neg (by assumption)] at k1
    exact k1
theorem kX12_judge {E : E3} {Q : Q3} {M : M3} {x1 x2 : Int} (h : RdC M ∧ okJ M ∧ (-2147483648 ≤ x1 ∧ x1 ≤ 2147483647) ∧ (-2147483648 ≤ x2 ∧ x2 ≤ 2147483647)) (k : ∀ (N : M3), RM3 N → Ej M N → RdC N → Q (some (vI (if (0 ≤ x1 ∧ x1 ≤ shl3 1 (M 44 0 44) - 1) ∧ (0 ≤ x2 ∧ x2 ≤ 2) then (if x2 = 0 then jOn M x1 else if x2 = 1 then jRd M x1 else jPr M x1) else -2))) N) : C3 E YX12_judge [vR 44 0, vI x1, vI x2] M Q := by
  refine c3_rm fun hM => ?_
  obtain ⟨hR, hJ, hx, hy⟩ := h
  have hc := shl_rg hJ.2.1
  refine sX12_judge ?_
  refine ⟨?_, ?_⟩
  · first | omega | exact ⟨hR, hJ⟩
  refine ⟨fun c1 => ?_, fun c1 => ?_⟩
  · first
    | (have k1 := k M hM Ej.rf hR
       rw [if_neg (fun z => by first | exact absurd z.1 (by assumption) | exact absurd z.2 (by assumption))] at k1
       exact k1)
    | (obtain ⟨hR1, q1, q2, q3⟩ := hp1
       have k1 := k N1 hN1 ⟨hf1, hs1⟩ hR1
       rw [if_pos ⟨by assumption, by assumption⟩] at k1
       first
         | (rw [if_pos (by assumption), ← q1] at k1; exact k1)
         | (rw [if_neg (by assumption), if_pos (by assumption), ← q2] at k1; exact k1)
         | (rw [if_neg (by assumption), if_neg (by assumption), ← q3] at k1; exact k1))
  · refine ⟨?_, ?_⟩
    · first | omega | exact ⟨hR, hJ⟩
    refine ⟨fun c2 => ?_, fun c2 => ?_⟩
    · refine ⟨?_, ?_⟩
      · first | omega | exact ⟨hR, hJ⟩
      intro N1 hN1 hf1 hs1 hp1
      refine ⟨?_, ?_⟩
      · first | omega | exact ⟨hR, hJ⟩
      refine ⟨fun c3 => ?_, fun c3 => ?_⟩
      · refine ⟨fun c4 => ?_, fun c4 => ?_⟩
        · first
          | (have k1 := k M hM Ej.rf hR
             rw [if_neg (fun z => by first | exact absurd z.1 (by assumption) | exact absurd z.2 (by assumption))] at k1
             exact k1)
          | (obtain ⟨hR1, q1, q2, q3⟩ := hp1
             have k1 := k N1 hN1 ⟨hf1, hs1⟩ hR1
             rw [if_pos ⟨by assumption, by assumption⟩] at k1
             first
               | (rw [if_pos (by assumption), ← q1] at k1; exact k1)
               | (rw [if_neg (by assumption), if_pos (by assumption), ← q2] at k1; exact k1)
               | (rw [if_neg (by assumption), if_neg (by assumption), ← q3] at k1; exact k1))
        · first
          | (have k1 := k M hM Ej.rf hR
             rw [if_neg (fun z => by first | exact absurd z.1 (by assumption) | exact absurd z.2 (by assumption))] at k1
             exact k1)
          | (obtain ⟨hR1, q1, q2, q3⟩ := hp1
             have k1 := k N1 hN1 ⟨hf1, hs1⟩ hR1
             rw [if_pos ⟨by assumption, by assumption⟩] at k1
             first
               | (rw [if_pos (by assumption), ← q1] at k1; exact k1)
               | (rw [if_neg (by assumption), if_pos (by assumption), ← q2] at k1; exact k1)
               | (rw [if_neg (by assumption), if_neg (by assumption), ← q3] at k1; exact k1))
      · first
        | (have k1 := k M hM Ej.rf hR
           rw [if_neg (fun z => by first | exact absurd z.1 (by assumption) | exact absurd z.2 (by assumption))] at k1
           exact k1)
        | (obtain ⟨hR1, q1, q2, q3⟩ := hp1
           have k1 := k N1 hN1 ⟨hf1, hs1⟩ hR1
           rw [if_pos ⟨by assumption, by assumption⟩] at k1
           first
             | (rw [if_pos (by assumption), ← q1] at k1; exact k1)
             | (rw [if_neg (by assumption), if_pos (by assumption), ← q2] at k1; exact k1)
             | (rw [if_neg (by assumption), if_neg (by assumption), ← q3] at k1; exact k1))
    · first
      | (have k1 := k M hM Ej.rf hR
         rw [if_neg (fun z => by first | exact absurd z.1 (by assumption) | exact absurd z.2 (by assumption))] at k1
         exact k1)
      | (obtain ⟨hR1, q1, q2, q3⟩ := hp1
         have k1 := k N1 hN1 ⟨hf1, hs1⟩ hR1
         rw [if_pos ⟨by assumption, by assumption⟩] at k1
         first
           | (rw [if_pos (by assumption), ← q1] at k1; exact k1)
           | (rw [if_neg (by assumption), if_pos (by assumption), ← q2] at k1; exact k1)
           | (rw [if_neg (by assumption), if_neg (by assumption), ← q3] at k1; exact k1))
