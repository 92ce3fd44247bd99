/-! PAIRS: rules, rule -/
theorem cLst_rg (M : M3) (c s : Int) : 0 ≤ cLst M c s ∧ cLst M c s ≤ 21 := lstN_rg M c s _
theorem cMst_rg (M : M3) (c s : Int) : 0 ≤ cMst M c s ∧ cMst M c s ≤ 21 := mstN_rg M c s _
theorem mFtg_rg (M : M3) (c s : Int) : 0 ≤ mFtg M c s ∧ mFtg M c s ≤ 22 := cn3_rg (by decide) _
theorem mul22 {a b : Int} (ha : 0 ≤ a ∧ a ≤ 22) (hb : 0 ≤ b ∧ b ≤ 22) : 0 ≤ a * b ∧ a * b ≤ 484 := ⟨Int.mul_nonneg ha.1 hb.1, Int.le_trans (Int.mul_le_mul ha.2 hb.2 hb.1 (by decide)) (by decide)⟩
def a_rules (M : M3) (x1 : Int) : Int := if 0 ≤ x1 ∧ x1 ≤ 3 then mFtg M x1 0 * mFtg M x1 1 else -2
theorem c_rules {E : E3} {Q : Q3} {M : M3} {x1 : Int} (hI : Inv M) (hx1 : -2147483648 ≤ x1 ∧ x1 ≤ 2147483647) (k : Q (some (vI (a_rules M x1))) M) : C3 E YX11_rules [vR 0 0, vI x1] M Q := by
  refine c3_rm fun hM => ?_
  have r0 := cLst_rg M x1 0
  have r1 := cLst_rg M x1 1
  have r2 := cMst_rg M x1 0
  have r3 := cMst_rg M x1 1
  have f0 : max 0 (((cMst M x1 0) - (cLst M x1 0)) + 1) = mFtg M x1 0 := (ftg_is hI.1.1 x1 0).symm
  have f1 : max 0 (((cMst M x1 1) - (cLst M x1 1)) + 1) = mFtg M x1 1 := (ftg_is hI.1.1 x1 1).symm
  have g0 := mFtg_rg M x1 0
  have g1 := mFtg_rg M x1 1
  have g2 := mul22 g0 g1
  have hv0 : (max 0 (((cMst M x1 0) - (cLst M x1 0)) + 1)) * (max 0 (((cMst M x1 1) - (cLst M x1 1)) + 1)) = mFtg M x1 0 * mFtg M x1 1 := by rw [f0, f1]
  unfold a_rules at k
  refine sX11_rules ?_
  refine ⟨?_, ?_⟩
  · first | omega | exact ⟨hI.1, by omega⟩
  refine ⟨fun c1 => ?_, fun c1 => ?_⟩
  · first
    | (refine qI ?_ (k)
       (repeat (first | rw [if_pos (by omega)] | rw [if_neg (by omega)]))
       all_goals (first | rfl | omega))
    | (exfalso; omega)
  · refine ⟨?_, ?_, ?_, ?_, ?_⟩
    · first | omega | exact ⟨hI.1, by omega⟩
    · first | omega | exact ⟨hI.1, by omega⟩
    · first | omega | exact ⟨hI.1, by omega⟩
    · first | omega | exact ⟨hI.1, by omega⟩
    first
    | (refine qI ?_ (k)
       (repeat (first | rw [if_pos (by omega)] | rw [if_neg (by omega)]))
       all_goals (first | rfl | omega))
    | (exfalso; omega)
theorem m_rules {E : E3} {Q : Q3} {M : M3} {x1 : Int} (hI : Inv M) (hx1 : -2147483648 ≤ x1 ∧ x1 ≤ 2147483647) (k : ∀ (N : M3), Inv N → Q (some (vI (a_rules M x1))) N) : C3 E YX12_rules [vR 44 0, vI x1] M Q := by
  refine c3_rm fun hM => ?_
  skip
  unfold a_rules at k
  refine sX12_rules ?_
  refine ⟨?_, ?_⟩
  · first | omega | exact ⟨hI.2.2, hI.1.1.okA, by omega⟩ | exact ⟨hp1, hI.1.1.okA, by omega⟩ | exact ⟨hp2, hI.1.1.okA, by omega⟩ | exact ⟨hp3, hI.1.1.okA, by omega⟩
  refine ⟨fun c1 => ?_, fun c1 => ?_⟩
  · first
    | (refine qI ?_ (k _ ((hI.m he1 hp1).m he2 hp2))
       (repeat (first | rw [if_pos (by omega)] | rw [if_neg (by omega)]))
       all_goals (first | rfl | omega))
    | (refine qI ?_ (k _ hI)
       (repeat (first | rw [if_pos (by omega)] | rw [if_neg (by omega)]))
       all_goals (first | rfl | omega))
    | (exfalso; omega)
  · refine ⟨?_, ?_⟩
    · first | omega | exact ⟨hI.2.2, hI.1.1.okA, by omega⟩ | exact ⟨hp1, hI.1.1.okA, by omega⟩ | exact ⟨hp2, hI.1.1.okA, by omega⟩ | exact ⟨hp3, hI.1.1.okA, by omega⟩
    intro N1 hN1 he1 hp1
    refine ⟨?_, ?_⟩
    · first | omega | exact ⟨hI.2.2, hI.1.1.okA, by omega⟩ | exact ⟨hp1, hI.1.1.okA, by omega⟩ | exact ⟨hp2, hI.1.1.okA, by omega⟩ | exact ⟨hp3, hI.1.1.okA, by omega⟩
    intro N2 hN2 he2 hp2
    first
    | (refine qI ?_ (k _ ((hI.m he1 hp1).m he2 hp2))
       (repeat (first | rw [if_pos (by omega)] | rw [if_neg (by omega)]))
       all_goals (first | rfl | omega))
    | (refine qI ?_ (k _ hI)
       (repeat (first | rw [if_pos (by omega)] | rw [if_neg (by omega)]))
       all_goals (first | rfl | omega))
    | (exfalso; omega)
theorem p_rules {E : E3} {M : M3} {x1 : Int} (hI : Inv M) (hx1 : -2147483648 ≤ x1 ∧ x1 ≤ 2147483647) : C3 E YX11_rules [vR 0 0, vI x1] M (P2 E YX12_rules [vR 44 0, vI x1]) :=
  c_rules hI hx1 (p2I (m_rules hI hx1 (fun K hK => r2I rfl hK)))
def a_rule (M : M3) (x1 x2 : Int) : Int := if (0 ≤ x1 ∧ x1 ≤ 3) ∧ 0 ≤ x2 then (if x2 < mFtg M x1 0 * mFtg M x1 1 then 100 * mAt M x1 0 (x2 / mFtg M x1 1) + mAt M x1 1 (x2 % mFtg M x1 1) else -1) else -2
theorem c_rule {E : E3} {Q : Q3} {M : M3} {x1 x2 : Int} (hI : Inv M) (hx1 : -2147483648 ≤ x1 ∧ x1 ≤ 2147483647) (hx2 : -2147483648 ≤ x2 ∧ x2 ≤ 2147483647) (k : Q (some (vI (a_rule M x1 x2))) M) : C3 E YX11_rule [vR 0 0, vI x1, vI x2] M Q := by
  refine c3_rm fun hM => ?_
  have r0 := cLst_rg M x1 0
  have r1 := cLst_rg M x1 1
  have r2 := cMst_rg M x1 0
  have r3 := cMst_rg M x1 1
  have f0 : max 0 (((cMst M x1 0) - (cLst M x1 0)) + 1) = mFtg M x1 0 := (ftg_is hI.1.1 x1 0).symm
  have f1 : max 0 (((cMst M x1 1) - (cLst M x1 1)) + 1) = mFtg M x1 1 := (ftg_is hI.1.1 x1 1).symm
  have g0 := mFtg_rg M x1 0
  have g1 := mFtg_rg M x1 1
  have g2 := mul22 g0 g1
  have hv0 : (max 0 (((cMst M x1 1) - (cLst M x1 1)) + 1)) * (max 0 (((cMst M x1 0) - (cLst M x1 0)) + 1)) = mFtg M x1 0 * mFtg M x1 1 := by rw [f0, f1, Int.mul_comm]
  have hz : mFtg M x1 1 = 0 → mFtg M x1 0 * mFtg M x1 1 = 0 := fun z => by rw [z, Int.mul_zero]
  unfold a_rule at k
  refine sX11_rule ?_
  refine ⟨?_, ?_⟩
  · first | omega | exact ⟨hI.1, by omega⟩
  refine ⟨fun c1 => ?_, fun c1 => ?_⟩
  · first
    | (refine qI ?_ (k)
       (repeat (first | rw [if_pos (by omega)] | rw [if_neg (by omega)]))
       all_goals (first | rfl | omega))
    | (refine qI ?_ (k)
       rw [f1, if_pos (by omega), if_pos (by omega)]
       have w0 : 0 < mFtg M x1 1 := by omega
       have w1 : x2 / mFtg M x1 1 < mFtg M x1 0 := Int.ediv_lt_of_lt_mul w0 (by omega)
       have w2 : 0 ≤ x2 / mFtg M x1 1 := Int.ediv_nonneg (by omega) (by omega)
       have w3 := Int.emod_nonneg x2 (show mFtg M x1 1 ≠ 0 by omega)
       have w4 := Int.emod_lt_of_pos x2 w0
       rw [at_is hI.1.1 ⟨w2, w1⟩, at_is hI.1.1 ⟨w3, w4⟩]
       generalize x2 / mFtg M x1 1 = u
       generalize x2 % mFtg M x1 1 = v
       omega)
    | (refine qI ?_ (k)
       have z1 : mFtg M x1 1 = 0 := by omega
       have z2 := hz z1
       rw [if_pos (by omega), if_neg (by omega)])
    | (exfalso; omega)
  · refine ⟨?_, ?_⟩
    · first | omega | exact ⟨hI.1, by omega⟩
    refine ⟨fun c2 => ?_, fun c2 => ?_⟩
    · refine ⟨?_, ?_, ?_, ?_⟩
      · first | omega | exact ⟨hI.1, by omega⟩
      · first | omega | exact ⟨hI.1, by omega⟩
      · first | omega | exact ⟨hI.1, by omega⟩
      refine ⟨fun c3 => ?_, fun c3 => ?_⟩
      · first
        | (refine qI ?_ (k)
           (repeat (first | rw [if_pos (by omega)] | rw [if_neg (by omega)]))
           all_goals (first | rfl | omega))
        | (refine qI ?_ (k)
           rw [f1, if_pos (by omega), if_pos (by omega)]
           have w0 : 0 < mFtg M x1 1 := by omega
           have w1 : x2 / mFtg M x1 1 < mFtg M x1 0 := Int.ediv_lt_of_lt_mul w0 (by omega)
           have w2 : 0 ≤ x2 / mFtg M x1 1 := Int.ediv_nonneg (by omega) (by omega)
           have w3 := Int.emod_nonneg x2 (show mFtg M x1 1 ≠ 0 by omega)
           have w4 := Int.emod_lt_of_pos x2 w0
           rw [at_is hI.1.1 ⟨w2, w1⟩, at_is hI.1.1 ⟨w3, w4⟩]
           generalize x2 / mFtg M x1 1 = u
           generalize x2 % mFtg M x1 1 = v
           omega)
        | (refine qI ?_ (k)
           have z1 : mFtg M x1 1 = 0 := by omega
           have z2 := hz z1
           rw [if_pos (by omega), if_neg (by omega)])
        | (exfalso; omega)
      · refine ⟨?_, ?_, ?_, ?_⟩
        · first | omega | exact ⟨hI.1, by omega⟩
        · first | omega | exact ⟨hI.1, by omega⟩
        · first | omega | exact ⟨hI.1, by omega⟩
        refine ⟨fun c4 => ?_, fun c4 => ?_⟩
        · refine ⟨?_, ?_, ?_⟩
          · first | omega | exact ⟨hI.1, by omega⟩
          · first | omega | exact ⟨hI.1, by omega⟩
          first
          | (refine qI ?_ (k)
             (repeat (first | rw [if_pos (by omega)] | rw [if_neg (by omega)]))
             all_goals (first | rfl | omega))
          | (refine qI ?_ (k)
             rw [f1, if_pos (by omega), if_pos (by omega)]
             have w0 : 0 < mFtg M x1 1 := by omega
             have w1 : x2 / mFtg M x1 1 < mFtg M x1 0 := Int.ediv_lt_of_lt_mul w0 (by omega)
             have w2 : 0 ≤ x2 / mFtg M x1 1 := Int.ediv_nonneg (by omega) (by omega)
             have w3 := Int.emod_nonneg x2 (show mFtg M x1 1 ≠ 0 by omega)
             have w4 := Int.emod_lt_of_pos x2 w0
             rw [at_is hI.1.1 ⟨w2, w1⟩, at_is hI.1.1 ⟨w3, w4⟩]
             generalize x2 / mFtg M x1 1 = u
             generalize x2 % mFtg M x1 1 = v
             omega)
          | (refine qI ?_ (k)
             have z1 : mFtg M x1 1 = 0 := by omega
             have z2 := hz z1
             rw [if_pos (by omega), if_neg (by omega)])
          | (exfalso; omega)
        · first
          | (refine qI ?_ (k)
             (repeat (first | rw [if_pos (by omega)] | rw [if_neg (by omega)]))
             all_goals (first | rfl | omega))
          | (refine qI ?_ (k)
             rw [f1, if_pos (by omega), if_pos (by omega)]
             have w0 : 0 < mFtg M x1 1 := by omega
             have w1 : x2 / mFtg M x1 1 < mFtg M x1 0 := Int.ediv_lt_of_lt_mul w0 (by omega)
             have w2 : 0 ≤ x2 / mFtg M x1 1 := Int.ediv_nonneg (by omega) (by omega)
             have w3 := Int.emod_nonneg x2 (show mFtg M x1 1 ≠ 0 by omega)
             have w4 := Int.emod_lt_of_pos x2 w0
             rw [at_is hI.1.1 ⟨w2, w1⟩, at_is hI.1.1 ⟨w3, w4⟩]
             generalize x2 / mFtg M x1 1 = u
             generalize x2 % mFtg M x1 1 = v
             omega)
          | (refine qI ?_ (k)
             have z1 : mFtg M x1 1 = 0 := by omega
             have z2 := hz z1
             rw [if_pos (by omega), if_neg (by omega)])
          | (exfalso; omega)
    · first
      | (refine qI ?_ (k)
         (repeat (first | rw [if_pos (by omega)] | rw [if_neg (by omega)]))
         all_goals (first | rfl | omega))
      | (refine qI ?_ (k)
         rw [f1, if_pos (by omega), if_pos (by omega)]
         have w0 : 0 < mFtg M x1 1 := by omega
         have w1 : x2 / mFtg M x1 1 < mFtg M x1 0 := Int.ediv_lt_of_lt_mul w0 (by omega)
         have w2 : 0 ≤ x2 / mFtg M x1 1 := Int.ediv_nonneg (by omega) (by omega)
         have w3 := Int.emod_nonneg x2 (show mFtg M x1 1 ≠ 0 by omega)
         have w4 := Int.emod_lt_of_pos x2 w0
         rw [at_is hI.1.1 ⟨w2, w1⟩, at_is hI.1.1 ⟨w3, w4⟩]
         generalize x2 / mFtg M x1 1 = u
         generalize x2 % mFtg M x1 1 = v
         omega)
      | (refine qI ?_ (k)
         have z1 : mFtg M x1 1 = 0 := by omega
         have z2 := hz z1
         rw [if_pos (by omega), if_neg (by omega)])
      | (exfalso; omega)
theorem m_rule {E : E3} {Q : Q3} {M : M3} {x1 x2 : Int} (hI : Inv M) (hx1 : -2147483648 ≤ x1 ∧ x1 ≤ 2147483647) (hx2 : -2147483648 ≤ x2 ∧ x2 ≤ 2147483647) (k : ∀ (N : M3), Inv N → Q (some (vI (a_rule M x1 x2))) N) : C3 E YX12_rule [vR 44 0, vI x1, vI x2] M Q := by
  refine c3_rm fun hM => ?_
  have g0 := mFtg_rg M x1 0
  have g1 := mFtg_rg M x1 1
  have g2 := mul22 g0 g1
  have hz : mFtg M x1 1 = 0 → mFtg M x1 0 * mFtg M x1 1 = 0 := fun z => by rw [z, Int.mul_zero]
  have hz1 : x2 < mFtg M x1 0 * mFtg M x1 1 → 0 ≤ x2 → 0 < mFtg M x1 1 := fun a b => by
    rcases (show mFtg M x1 1 = 0 ∨ 0 < mFtg M x1 1 by omega) with z | z
    · rw [hz z] at a
      omega
    · exact z
  unfold a_rule at k
  refine sX12_rule ?_
  refine ⟨?_, ?_⟩
  · first | omega | exact ⟨hI.2.2, hI.1.1.okA, by omega⟩ | exact ⟨hp1, hI.1.1.okA, by omega⟩ | exact ⟨hp2, hI.1.1.okA, by omega⟩ | exact ⟨hp3, hI.1.1.okA, by omega⟩ | exact ⟨hz1 (by assumption) (by assumption), by omega⟩ | exact ⟨hp2, hI.1.1.okA, by omega, by omega, Int.ediv_nonneg (by omega) (by omega), Int.ediv_lt_of_lt_mul (hz1 (by assumption) (by assumption)) (by omega)⟩ | exact ⟨hp3, hI.1.1.okA, by omega, by omega, Int.emod_nonneg _ (Int.ne_of_gt (hz1 (by assumption) (by assumption))), Int.emod_lt_of_pos _ (hz1 (by assumption) (by assumption))⟩
  refine ⟨fun c1 => ?_, fun c1 => ?_⟩
  · first
    | (refine qI ?_ (k _ ((((hI.m he1 hp1).m he2 hp2).m he3 hp3).m he4 hp4))
       (repeat (first | rw [if_pos (by omega)] | rw [if_neg (by omega)]))
       all_goals (first | rfl | omega))
    | (refine qI ?_ (k _ ((hI.m he1 hp1).m he2 hp2))
       (repeat (first | rw [if_pos (by omega)] | rw [if_neg (by omega)]))
       all_goals (first | rfl | omega))
    | (refine qI ?_ (k _ hI)
       (repeat (first | rw [if_pos (by omega)] | rw [if_neg (by omega)]))
       all_goals (first | rfl | omega))
    | (exfalso; omega)
  · refine ⟨?_, ?_⟩
    · first | omega | exact ⟨hI.2.2, hI.1.1.okA, by omega⟩ | exact ⟨hp1, hI.1.1.okA, by omega⟩ | exact ⟨hp2, hI.1.1.okA, by omega⟩ | exact ⟨hp3, hI.1.1.okA, by omega⟩ | exact ⟨hz1 (by assumption) (by assumption), by omega⟩ | exact ⟨hp2, hI.1.1.okA, by omega, by omega, Int.ediv_nonneg (by omega) (by omega), Int.ediv_lt_of_lt_mul (hz1 (by assumption) (by assumption)) (by omega)⟩ | exact ⟨hp3, hI.1.1.okA, by omega, by omega, Int.emod_nonneg _ (Int.ne_of_gt (hz1 (by assumption) (by assumption))), Int.emod_lt_of_pos _ (hz1 (by assumption) (by assumption))⟩
    refine ⟨fun c2 => ?_, fun c2 => ?_⟩
    · refine ⟨?_, ?_⟩
      · first | omega | exact ⟨hI.2.2, hI.1.1.okA, by omega⟩ | exact ⟨hp1, hI.1.1.okA, by omega⟩ | exact ⟨hp2, hI.1.1.okA, by omega⟩ | exact ⟨hp3, hI.1.1.okA, by omega⟩ | exact ⟨hz1 (by assumption) (by assumption), by omega⟩ | exact ⟨hp2, hI.1.1.okA, by omega, by omega, Int.ediv_nonneg (by omega) (by omega), Int.ediv_lt_of_lt_mul (hz1 (by assumption) (by assumption)) (by omega)⟩ | exact ⟨hp3, hI.1.1.okA, by omega, by omega, Int.emod_nonneg _ (Int.ne_of_gt (hz1 (by assumption) (by assumption))), Int.emod_lt_of_pos _ (hz1 (by assumption) (by assumption))⟩
      intro N1 hN1 he1 hp1
      refine ⟨?_, ?_⟩
      · first | omega | exact ⟨hI.2.2, hI.1.1.okA, by omega⟩ | exact ⟨hp1, hI.1.1.okA, by omega⟩ | exact ⟨hp2, hI.1.1.okA, by omega⟩ | exact ⟨hp3, hI.1.1.okA, by omega⟩ | exact ⟨hz1 (by assumption) (by assumption), by omega⟩ | exact ⟨hp2, hI.1.1.okA, by omega, by omega, Int.ediv_nonneg (by omega) (by omega), Int.ediv_lt_of_lt_mul (hz1 (by assumption) (by assumption)) (by omega)⟩ | exact ⟨hp3, hI.1.1.okA, by omega, by omega, Int.emod_nonneg _ (Int.ne_of_gt (hz1 (by assumption) (by assumption))), Int.emod_lt_of_pos _ (hz1 (by assumption) (by assumption))⟩
      intro N2 hN2 he2 hp2
      refine ⟨?_, ?_⟩
      · first | omega | exact ⟨hI.2.2, hI.1.1.okA, by omega⟩ | exact ⟨hp1, hI.1.1.okA, by omega⟩ | exact ⟨hp2, hI.1.1.okA, by omega⟩ | exact ⟨hp3, hI.1.1.okA, by omega⟩ | exact ⟨hz1 (by assumption) (by assumption), by omega⟩ | exact ⟨hp2, hI.1.1.okA, by omega, by omega, Int.ediv_nonneg (by omega) (by omega), Int.ediv_lt_of_lt_mul (hz1 (by assumption) (by assumption)) (by omega)⟩ | exact ⟨hp3, hI.1.1.okA, by omega, by omega, Int.emod_nonneg _ (Int.ne_of_gt (hz1 (by assumption) (by assumption))), Int.emod_lt_of_pos _ (hz1 (by assumption) (by assumption))⟩
      refine ⟨fun c3 => ?_, fun c3 => ?_⟩
      · refine ⟨?_, ?_, ?_, ?_⟩
        · first | omega | exact ⟨hI.2.2, hI.1.1.okA, by omega⟩ | exact ⟨hp1, hI.1.1.okA, by omega⟩ | exact ⟨hp2, hI.1.1.okA, by omega⟩ | exact ⟨hp3, hI.1.1.okA, by omega⟩ | exact ⟨hz1 (by assumption) (by assumption), by omega⟩ | exact ⟨hp2, hI.1.1.okA, by omega, by omega, Int.ediv_nonneg (by omega) (by omega), Int.ediv_lt_of_lt_mul (hz1 (by assumption) (by assumption)) (by omega)⟩ | exact ⟨hp3, hI.1.1.okA, by omega, by omega, Int.emod_nonneg _ (Int.ne_of_gt (hz1 (by assumption) (by assumption))), Int.emod_lt_of_pos _ (hz1 (by assumption) (by assumption))⟩
        · first | omega | exact ⟨hI.2.2, hI.1.1.okA, by omega⟩ | exact ⟨hp1, hI.1.1.okA, by omega⟩ | exact ⟨hp2, hI.1.1.okA, by omega⟩ | exact ⟨hp3, hI.1.1.okA, by omega⟩ | exact ⟨hz1 (by assumption) (by assumption), by omega⟩ | exact ⟨hp2, hI.1.1.okA, by omega, by omega, Int.ediv_nonneg (by omega) (by omega), Int.ediv_lt_of_lt_mul (hz1 (by assumption) (by assumption)) (by omega)⟩ | exact ⟨hp3, hI.1.1.okA, by omega, by omega, Int.emod_nonneg _ (Int.ne_of_gt (hz1 (by assumption) (by assumption))), Int.emod_lt_of_pos _ (hz1 (by assumption) (by assumption))⟩
        · first | omega | exact ⟨hI.2.2, hI.1.1.okA, by omega⟩ | exact ⟨hp1, hI.1.1.okA, by omega⟩ | exact ⟨hp2, hI.1.1.okA, by omega⟩ | exact ⟨hp3, hI.1.1.okA, by omega⟩ | exact ⟨hz1 (by assumption) (by assumption), by omega⟩ | exact ⟨hp2, hI.1.1.okA, by omega, by omega, Int.ediv_nonneg (by omega) (by omega), Int.ediv_lt_of_lt_mul (hz1 (by assumption) (by assumption)) (by omega)⟩ | exact ⟨hp3, hI.1.1.okA, by omega, by omega, Int.emod_nonneg _ (Int.ne_of_gt (hz1 (by assumption) (by assumption))), Int.emod_lt_of_pos _ (hz1 (by assumption) (by assumption))⟩
        intro N3 hN3 he3 hp3
        refine ⟨?_, ?_⟩
        · first | omega | exact ⟨hI.2.2, hI.1.1.okA, by omega⟩ | exact ⟨hp1, hI.1.1.okA, by omega⟩ | exact ⟨hp2, hI.1.1.okA, by omega⟩ | exact ⟨hp3, hI.1.1.okA, by omega⟩ | exact ⟨hz1 (by assumption) (by assumption), by omega⟩ | exact ⟨hp2, hI.1.1.okA, by omega, by omega, Int.ediv_nonneg (by omega) (by omega), Int.ediv_lt_of_lt_mul (hz1 (by assumption) (by assumption)) (by omega)⟩ | exact ⟨hp3, hI.1.1.okA, by omega, by omega, Int.emod_nonneg _ (Int.ne_of_gt (hz1 (by assumption) (by assumption))), Int.emod_lt_of_pos _ (hz1 (by assumption) (by assumption))⟩
        intro N4 hN4 he4 hp4
        first
        | (refine qI ?_ (k _ ((((hI.m he1 hp1).m he2 hp2).m he3 hp3).m he4 hp4))
           (repeat (first | rw [if_pos (by omega)] | rw [if_neg (by omega)]))
           all_goals (first | rfl | omega))
        | (refine qI ?_ (k _ ((hI.m he1 hp1).m he2 hp2))
           (repeat (first | rw [if_pos (by omega)] | rw [if_neg (by omega)]))
           all_goals (first | rfl | omega))
        | (refine qI ?_ (k _ hI)
           (repeat (first | rw [if_pos (by omega)] | rw [if_neg (by omega)]))
           all_goals (first | rfl | omega))
        | (exfalso; omega)
      · first
        | (refine qI ?_ (k _ ((((hI.m he1 hp1).m he2 hp2).m he3 hp3).m he4 hp4))
           (repeat (first | rw [if_pos (by omega)] | rw [if_neg (by omega)]))
           all_goals (first | rfl | omega))
        | (refine qI ?_ (k _ ((hI.m he1 hp1).m he2 hp2))
           (repeat (first | rw [if_pos (by omega)] | rw [if_neg (by omega)]))
           all_goals (first | rfl | omega))
        | (refine qI ?_ (k _ hI)
           (repeat (first | rw [if_pos (by omega)] | rw [if_neg (by omega)]))
           all_goals (first | rfl | omega))
        | (exfalso; omega)
    · first
      | (refine qI ?_ (k _ ((((hI.m he1 hp1).m he2 hp2).m he3 hp3).m he4 hp4))
         (repeat (first | rw [if_pos (by omega)] | rw [if_neg (by omega)]))
         all_goals (first | rfl | omega))
      | (refine qI ?_ (k _ ((hI.m he1 hp1).m he2 hp2))
         (repeat (first | rw [if_pos (by omega)] | rw [if_neg (by omega)]))
         all_goals (first | rfl | omega))
      | (refine qI ?_ (k _ hI)
         (repeat (first | rw [if_pos (by omega)] | rw [if_neg (by omega)]))
         all_goals (first | rfl | omega))
      | (exfalso; omega)
theorem p_rule {E : E3} {M : M3} {x1 x2 : Int} (hI : Inv M) (hx1 : -2147483648 ≤ x1 ∧ x1 ≤ 2147483647) (hx2 : -2147483648 ≤ x2 ∧ x2 ≤ 2147483647) : C3 E YX11_rule [vR 0 0, vI x1, vI x2] M (P2 E YX12_rule [vR 44 0, vI x1, vI x2]) :=
  c_rule hI hx1 hx2 (p2I (m_rule hI hx1 hx2 (fun K hK => r2I rfl hK)))
