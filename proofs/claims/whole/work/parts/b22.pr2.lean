/-! PAIRS: about, formIs, count, fault, number -/
def a_about (M : M3) (x1 x2 : Int) : Int := if (0 ≤ x1 ∧ x1 < M 44 0 1) ∧ (0 ≤ x2 ∧ x2 ≤ 7) then mAb M x1 x2 else -2
theorem c_about {E : E3} {Q : Q3} {M : M3} {x1 x2 : Int} (hI : Inv M) (hx1 : -2147483648 ≤ x1 ∧ x1 ≤ 2147483647) (hx2 : -2147483648 ≤ x2 ∧ x2 ≤ 2147483647) (k : Q (some (vI (a_about M x1 x2))) M) : C3 E YX11_about [vR 0 0, vI x1, vI x2] M Q := by
  refine c3_rm fun hM => ?_
  have hc1 := hI.1.1.2.2.1.1
  have hc2 := hI.1.1.2.2.1.2.1
  have hf1 := hI.1.1.2.2.2.1.1
  have hf2 := hI.1.1.2.2.2.1.2.1
  unfold a_about mAb at k
  by_cases hv : 0 ≤ x1 ∧ x1 < M 44 0 1
  · obtain ⟨⟨p1, p2, p3, p4, p5, p6⟩, q1, q2, q3, q4, q5, q6, q7, q8, q9⟩ := hI.1.1.p hv.1 (by omega)
    have hk : cKnown M x1 = mKnN M x1 := (hI.1.1.knw x1).trans (if_neg (by omega))
    have h0 : (M 50 0 x1 < 3 ∧ M 13 x1 0 = M 45 0 x1) ∨ (¬ M 50 0 x1 < 3 ∧ M 13 x1 0 = -1) := by
      by_cases z : M 50 0 x1 < 3
      · exact Or.inl ⟨z, q1 (by omega)⟩
      · exact Or.inr ⟨z, q2 (by omega)⟩
    clear q1 q2 q7 q8
    refine sX11_about ?_
    refine ⟨?_, ?_⟩
    · first | omega
    refine ⟨fun c1 => ?_, fun c1 => ?_⟩
    · first
      | (refine qI ?_ (k)
         (repeat (first | rw [if_pos (by omega)] | rw [if_neg (by omega)]))
         all_goals (first | rfl | omega))
      | (exfalso; omega)
    · refine ⟨fun c2 => ?_, fun c2 => ?_⟩
      · first
        | (refine qI ?_ (k)
           (repeat (first | rw [if_pos (by omega)] | rw [if_neg (by omega)]))
           all_goals (first | rfl | omega))
        | (exfalso; omega)
      · refine ⟨?_, ?_⟩
        · first | omega
        refine ⟨fun c3 => ?_, fun c3 => ?_⟩
        · refine ⟨?_, ?_⟩
          · first | omega
          refine ⟨fun c4 => ?_, fun c4 => ?_⟩
          · refine ⟨?_, ?_⟩
            · first | omega
            refine ⟨fun c5 => ?_, fun c5 => ?_⟩
            · first
              | (refine qI ?_ (k)
                 (repeat (first | rw [if_pos (by omega)] | rw [if_neg (by omega)]))
                 all_goals (first | rfl | omega))
              | (exfalso; omega)
            · refine ⟨fun c6 => ?_, fun c6 => ?_⟩
              · first
                | (refine qI ?_ (k)
                   (repeat (first | rw [if_pos (by omega)] | rw [if_neg (by omega)]))
                   all_goals (first | rfl | omega))
                | (exfalso; omega)
              · refine ⟨fun c7 => ?_, fun c7 => ?_⟩
                · first
                  | (refine qI ?_ (k)
                     (repeat (first | rw [if_pos (by omega)] | rw [if_neg (by omega)]))
                     all_goals (first | rfl | omega))
                  | (exfalso; omega)
                · refine ⟨fun c8 => ?_, fun c8 => ?_⟩
                  · first
                    | (refine qI ?_ (k)
                       (repeat (first | rw [if_pos (by omega)] | rw [if_neg (by omega)]))
                       all_goals (first | rfl | omega))
                    | (exfalso; omega)
                  · refine ⟨fun c9 => ?_, fun c9 => ?_⟩
                    · first
                      | (refine qI ?_ (k)
                         (repeat (first | rw [if_pos (by omega)] | rw [if_neg (by omega)]))
                         all_goals (first | rfl | omega))
                      | (exfalso; omega)
                    · refine ⟨fun c10 => ?_, fun c10 => ?_⟩
                      · first
                        | (refine qI ?_ (k)
                           (repeat (first | rw [if_pos (by omega)] | rw [if_neg (by omega)]))
                           all_goals (first | rfl | omega))
                        | (exfalso; omega)
                      · first
                        | (refine qI ?_ (k)
                           (repeat (first | rw [if_pos (by omega)] | rw [if_neg (by omega)]))
                           all_goals (first | rfl | omega))
                        | (exfalso; omega)
          · refine ⟨?_, ?_⟩
            · first | omega
            first
            | (refine qI ?_ (k)
               (repeat (first | rw [if_pos (by omega)] | rw [if_neg (by omega)]))
               all_goals (first | rfl | omega))
            | (exfalso; omega)
        · first
          | (refine qI ?_ (k)
             (repeat (first | rw [if_pos (by omega)] | rw [if_neg (by omega)]))
             all_goals (first | rfl | omega))
          | (exfalso; omega)
  · skip
    refine sX11_about ?_
    refine ⟨?_, ?_⟩
    · first | omega
    refine ⟨fun c1 => ?_, fun c1 => ?_⟩
    · first
      | (refine qI ?_ (k)
         (repeat (first | rw [if_pos (by omega)] | rw [if_neg (by omega)]))
         all_goals (first | rfl | omega))
      | (exfalso; omega)
    · refine ⟨fun c2 => ?_, fun c2 => ?_⟩
      · first
        | (refine qI ?_ (k)
           (repeat (first | rw [if_pos (by omega)] | rw [if_neg (by omega)]))
           all_goals (first | rfl | omega))
        | (exfalso; omega)
      · refine ⟨?_, ?_⟩
        · first | omega
        refine ⟨fun c3 => ?_, fun c3 => ?_⟩
        · refine ⟨?_, ?_⟩
          · first | omega
          refine ⟨fun c4 => ?_, fun c4 => ?_⟩
          · refine ⟨?_, ?_⟩
            · first | omega
            refine ⟨fun c5 => ?_, fun c5 => ?_⟩
            · first
              | (refine qI ?_ (k)
                 (repeat (first | rw [if_pos (by omega)] | rw [if_neg (by omega)]))
                 all_goals (first | rfl | omega))
              | (exfalso; omega)
            · refine ⟨fun c6 => ?_, fun c6 => ?_⟩
              · first
                | (refine qI ?_ (k)
                   (repeat (first | rw [if_pos (by omega)] | rw [if_neg (by omega)]))
                   all_goals (first | rfl | omega))
                | (exfalso; omega)
              · refine ⟨fun c7 => ?_, fun c7 => ?_⟩
                · first
                  | (refine qI ?_ (k)
                     (repeat (first | rw [if_pos (by omega)] | rw [if_neg (by omega)]))
                     all_goals (first | rfl | omega))
                  | (exfalso; omega)
                · refine ⟨fun c8 => ?_, fun c8 => ?_⟩
                  · first
                    | (refine qI ?_ (k)
                       (repeat (first | rw [if_pos (by omega)] | rw [if_neg (by omega)]))
                       all_goals (first | rfl | omega))
                    | (exfalso; omega)
                  · refine ⟨fun c9 => ?_, fun c9 => ?_⟩
                    · first
                      | (refine qI ?_ (k)
                         (repeat (first | rw [if_pos (by omega)] | rw [if_neg (by omega)]))
                         all_goals (first | rfl | omega))
                      | (exfalso; omega)
                    · refine ⟨fun c10 => ?_, fun c10 => ?_⟩
                      · first
                        | (refine qI ?_ (k)
                           (repeat (first | rw [if_pos (by omega)] | rw [if_neg (by omega)]))
                           all_goals (first | rfl | omega))
                        | (exfalso; omega)
                      · first
                        | (refine qI ?_ (k)
                           (repeat (first | rw [if_pos (by omega)] | rw [if_neg (by omega)]))
                           all_goals (first | rfl | omega))
                        | (exfalso; omega)
          · refine ⟨?_, ?_⟩
            · first | omega
            first
            | (refine qI ?_ (k)
               (repeat (first | rw [if_pos (by omega)] | rw [if_neg (by omega)]))
               all_goals (first | rfl | omega))
            | (exfalso; omega)
        · first
          | (refine qI ?_ (k)
             (repeat (first | rw [if_pos (by omega)] | rw [if_neg (by omega)]))
             all_goals (first | rfl | omega))
          | (exfalso; omega)
theorem m_about {E : E3} {Q : Q3} {M : M3} {x1 x2 : Int} (hI : Inv M) (hx1 : -2147483648 ≤ x1 ∧ x1 ≤ 2147483647) (hx2 : -2147483648 ≤ x2 ∧ x2 ≤ 2147483647) (k : Q (some (vI (a_about M x1 x2))) M) : C3 E YX12_about [vR 44 0, vI x1, vI x2] M Q := by
  refine c3_rm fun hM => ?_
  have hc2 := hI.1.1.2.2.1.2.1
  have hf2 := hI.1.1.2.2.2.1.2.1
  unfold a_about at k
  refine sX12_about ?_
  refine ⟨?_, ?_⟩
  · first | omega | exact ⟨hf2, by omega, by omega⟩
  refine ⟨fun c1 => ?_, fun c1 => ?_⟩
  · first
    | (refine qI ?_ (k)
       (repeat (first | rw [if_pos (by omega)] | rw [if_neg (by omega)]))
       all_goals (first | rfl | omega))
    | (refine qI ?_ (k)
       by_cases z : 0 ≤ x2 ∧ x2 ≤ 7
       · rw [if_pos (by omega)]
       · rw [if_neg (by omega)]
         unfold mAb
         (repeat (first | rw [if_pos (by omega)] | rw [if_neg (by omega)])))
    | (exfalso; omega)
  · refine ⟨?_, ?_⟩
    · first | omega | exact ⟨hf2, by omega, by omega⟩
    first
    | (refine qI ?_ (k)
       (repeat (first | rw [if_pos (by omega)] | rw [if_neg (by omega)]))
       all_goals (first | rfl | omega))
    | (refine qI ?_ (k)
       by_cases z : 0 ≤ x2 ∧ x2 ≤ 7
       · rw [if_pos (by omega)]
       · rw [if_neg (by omega)]
         unfold mAb
         (repeat (first | rw [if_pos (by omega)] | rw [if_neg (by omega)])))
    | (exfalso; omega)
theorem p_about {E : E3} {M : M3} {x1 x2 : Int} (hI : Inv M) (hx1 : -2147483648 ≤ x1 ∧ x1 ≤ 2147483647) (hx2 : -2147483648 ≤ x2 ∧ x2 ≤ 2147483647) : C3 E YX11_about [vR 0 0, vI x1, vI x2] M (P2 E YX12_about [vR 44 0, vI x1, vI x2]) :=
  c_about hI hx1 hx2 (p2I (m_about hI hx1 hx2 (r2I rfl hI)))
def a_count (M : M3) (x1 : Int) : Int := mCt M x1
theorem c_count {E : E3} {Q : Q3} {M : M3} {x1 : Int} (hI : Inv M) (hx1 : -2147483648 ≤ x1 ∧ x1 ≤ 2147483647) (k : Q (some (vI (a_count M x1))) M) : C3 E YX11_count [vR 0 0, vI x1] M Q := by
  refine c3_rm fun hM => ?_
  have hc1 := hI.1.1.2.2.1.1
  have hc2 := hI.1.1.2.2.1.2.1
  have hf1 := hI.1.1.2.2.2.1.1
  have hf2 := hI.1.1.2.2.2.1.2.1
  have h2 := hI.1.1.tly (b := -1) (s := -1) (t := 1) (by decide)
  have h3 := (hI.1.1.knw (-1)).trans (if_pos rfl)
  have h4 := hI.1.1.rds
  obtain ⟨b1, b2, b3, b4, b5⟩ := hI.1.1.1
  have l1 := hI.1.1.2.1.1
  have l2 := hI.1.1.2.2.2.2.2.1.1.1
  have l3 := hI.1.1.2.2.2.2.2.2.1.1
  have l4 := hI.1.1.2.2.2.2.2.2.2.1.1
  unfold a_count mCt at k
  refine sX11_count ?_
  refine ⟨?_, ?_⟩
  · first | omega
  refine ⟨fun c1 => ?_, fun c1 => ?_⟩
  · first
    | (refine qI ?_ (k)
       (repeat (first | rw [if_pos (by omega)] | rw [if_neg (by omega)]))
       all_goals (first | rfl | omega))
    | (exfalso; omega)
  · refine ⟨fun c2 => ?_, fun c2 => ?_⟩
    · first
      | (refine qI ?_ (k)
         (repeat (first | rw [if_pos (by omega)] | rw [if_neg (by omega)]))
         all_goals (first | rfl | omega))
      | (exfalso; omega)
    · refine ⟨fun c3 => ?_, fun c3 => ?_⟩
      · refine ⟨?_, ?_⟩
        · first | omega
        first
        | (refine qI ?_ (k)
           (repeat (first | rw [if_pos (by omega)] | rw [if_neg (by omega)]))
           all_goals (first | rfl | omega))
        | (exfalso; omega)
      · refine ⟨fun c4 => ?_, fun c4 => ?_⟩
        · refine ⟨?_, ?_⟩
          · first | omega
          first
          | (refine qI ?_ (k)
             (repeat (first | rw [if_pos (by omega)] | rw [if_neg (by omega)]))
             all_goals (first | rfl | omega))
          | (exfalso; omega)
        · refine ⟨fun c5 => ?_, fun c5 => ?_⟩
          · refine ⟨?_, ?_⟩
            · first | omega
            first
            | (refine qI ?_ (k)
               (repeat (first | rw [if_pos (by omega)] | rw [if_neg (by omega)]))
               all_goals (first | rfl | omega))
            | (exfalso; omega)
          · refine ⟨fun c6 => ?_, fun c6 => ?_⟩
            · first
              | (refine qI ?_ (k)
                 (repeat (first | rw [if_pos (by omega)] | rw [if_neg (by omega)]))
                 all_goals (first | rfl | omega))
              | (exfalso; omega)
            · refine ⟨fun c7 => ?_, fun c7 => ?_⟩
              · first
                | (refine qI ?_ (k)
                   (repeat (first | rw [if_pos (by omega)] | rw [if_neg (by omega)]))
                   all_goals (first | rfl | omega))
                | (exfalso; omega)
              · refine ⟨fun c8 => ?_, fun c8 => ?_⟩
                · first
                  | (refine qI ?_ (k)
                     (repeat (first | rw [if_pos (by omega)] | rw [if_neg (by omega)]))
                     all_goals (first | rfl | omega))
                  | (exfalso; omega)
                · refine ⟨fun c9 => ?_, fun c9 => ?_⟩
                  · first
                    | (refine qI ?_ (k)
                       (repeat (first | rw [if_pos (by omega)] | rw [if_neg (by omega)]))
                       all_goals (first | rfl | omega))
                    | (exfalso; omega)
                  · refine ⟨fun c10 => ?_, fun c10 => ?_⟩
                    · first
                      | (refine qI ?_ (k)
                         (repeat (first | rw [if_pos (by omega)] | rw [if_neg (by omega)]))
                         all_goals (first | rfl | omega))
                      | (exfalso; omega)
                    · first
                      | (refine qI ?_ (k)
                         (repeat (first | rw [if_pos (by omega)] | rw [if_neg (by omega)]))
                         all_goals (first | rfl | omega))
                      | (exfalso; omega)
theorem m_count {E : E3} {Q : Q3} {M : M3} {x1 : Int} (hI : Inv M) (hx1 : -2147483648 ≤ x1 ∧ x1 ≤ 2147483647) (k : Q (some (vI (a_count M x1))) M) : C3 E YX12_count [vR 44 0, vI x1] M Q := kX12_count ⟨hI.1.1.2.2.2.1.2.1, hI.1.1.2.2.1.2.1, hx1⟩ k
theorem p_count {E : E3} {M : M3} {x1 : Int} (hI : Inv M) (hx1 : -2147483648 ≤ x1 ∧ x1 ≤ 2147483647) : C3 E YX11_count [vR 0 0, vI x1] M (P2 E YX12_count [vR 44 0, vI x1]) :=
  c_count hI hx1 (p2I (m_count hI hx1 (r2I rfl hI)))
def a_fault (M : M3) : Int := lwF (M 44 0 9) (M 52 0)
theorem c_fault {E : E3} {Q : Q3} {M : M3} (hI : Inv M) (k : Q (some (vI (a_fault M))) M) : C3 E YX11_fault [vR 0 0] M Q := by
  refine c3_rm fun hM => ?_
  have hL := hI.2.1.2.1
  have hl := hI.1.1.2.1
  have e : lwF (M 3 0 0) (M 4 0) = lwF (M 44 0 9) (M 52 0) := by
    rw [hl.1]
    unfold lwF
    rw [lw_congr hl.2.2]
  unfold a_fault at k
  refine sX11_fault ?_
  first
  | (refine qI ?_ (k)
     (repeat (first | rw [if_pos (by omega)] | rw [if_neg (by omega)]))
     all_goals (first | rfl | omega))
  | (exfalso; omega)
theorem m_fault {E : E3} {Q : Q3} {M : M3} (hI : Inv M) (k : ∀ (N : M3), Inv N → Q (some (vI (a_fault M))) N) : C3 E YX12_fault [vR 44 0] M Q := by
  refine c3_rm fun hM => ?_
  skip
  unfold a_fault at k
  refine sX12_fault ?_
  refine ⟨?_, ?_⟩
  · first | omega | exact hI.2.2
  intro N1 hN1 hf1 hs1 hp1
  first
  | (refine qI ?_ (k _ (hI.m ⟨hf1, hs1⟩ hp1.1))
     have z := hp1.1.2
     have e1 := hs1 9 (by decide)
     have e2 := hf1 52 (by decide)
     rw [e1, e2] at z
     rcases z with z | z
     · have := hp1.2
       omega
     · exact z.2.1)
  | (exfalso; omega)
theorem p_fault {E : E3} {M : M3} (hI : Inv M) : C3 E YX11_fault [vR 0 0] M (P2 E YX12_fault [vR 44 0]) :=
  c_fault hI (p2I (m_fault hI (fun K hK => r2I rfl hK)))
theorem ask_is {M : M3} (hR : RdC M) (d : Int) : mAsk M d ↔ (0 < sSd (LM3 M) 22 d ∨ 0 < sRm (LM3 M) d) := by
  have hz : sRm (LM3 M) d = 0 ↔ ∀ q : Int, 0 ≤ q → q < 20 → decide (sPt (LM3 M) q d ≠ -1) = false := cn3_zero
  have hr' : 0 ≤ sRm (LM3 M) d := (cn3_rg (n := 20) (by decide) _).1
  unfold mAsk
  rcases ff3_c (n := 20) (by decide) (fun q => decide (sSd (LM3 M) q d ≠ -1)) with ⟨e, h⟩ | ⟨h0, h1, h2⟩
  · have w := hz.mpr (fun q a b => by
      have z := of_decide_eq_false (h q a b)
      exact decide_eq_false fun y => z fun x => y ((sSd_q hR.lok.1 ⟨a, b⟩).mp x))
    rw [e, w]
    constructor
    · intro z
      omega
    · intro z
      omega
  · have w : sRm (LM3 M) d ≠ 0 := fun x => by
      have y := of_decide_eq_false (hz.mp x _ h0.1 h0.2)
      have z := of_decide_eq_true h1
      exact y fun x => z ((sSd_q hR.lok.1 h0).mpr x)
    constructor
    · intro _
      exact Or.inr (by omega)
    · intro _
      exact Or.inr (by omega)
theorem mul110 {a b : Int} (ha : 0 ≤ a ∧ a ≤ 100) (hb : 0 ≤ b ∧ b ≤ 1100) : 0 ≤ a * b ∧ a * b ≤ 110000 := ⟨Int.mul_nonneg ha.1 hb.1, Int.le_trans (Int.mul_le_mul ha.2 hb.2 hb.1 (by decide)) (by decide)⟩
abbrev nbV (M : M3) (x1 x2 x3 x4 : Int) : Int := if mAsk M x4 then (if 100 * mRoll M (-1) (-1) 1 < x1 * (x2 - x3) then 2 else if 100 * mRoll M (-1) (-1) 1 < x1 * (x2 + x3) then 1 else 0) else 0
def a_number (M : M3) (x1 x2 x3 x4 : Int) : Int := if ((1 ≤ x1 ∧ x1 ≤ 100) ∧ (1 ≤ x2 ∧ x2 ≤ 1000)) ∧ (((0 ≤ x3 ∧ x3 ≤ 100) ∧ x3 < x2) ∧ (0 ≤ x4 ∧ x4 ≤ 399)) then nbV M x1 x2 x3 x4 else -2
theorem c_number {E : E3} {Q : Q3} {M : M3} {x1 x2 x3 x4 : Int} (hI : Inv M) (hx1 : -2147483648 ≤ x1 ∧ x1 ≤ 2147483647) (hx2 : -2147483648 ≤ x2 ∧ x2 ≤ 2147483647) (hx3 : -2147483648 ≤ x3 ∧ x3 ≤ 2147483647) (hx4 : -2147483648 ≤ x4 ∧ x4 ≤ 2147483647) (k : ∀ (N : M3), Inv N → Hm M N → Q (some (vI (a_number M x1 x2 x3 x4))) N) : C3 E YX11_number [vR 0 0, vI x1, vI x2, vI x3, vI x4] M Q := by
  refine c3_rm fun hM => ?_
  have hc1 := hI.1.1.2.2.1.1
  have hc2 := hI.1.1.2.2.1.2.1
  have hL := hI.1.1.L
  have h2 := hI.1.1.tly (b := -1) (s := -1) (t := 1) (by decide)
  have h3 := mRoll_rg hc2 (-1) (-1) 1
  have hask := ask_is hI.2.2 x4
  have hsd := hI.2.2.sd 22 x4
  have hsr : 0 ≤ sRm (LM3 M) x4 ∧ sRm (LM3 M) x4 ≤ 20 := cn3_rg (by decide) _
  rw [← hL] at hask hsd hsr
  unfold a_number at k
  by_cases hv : ((1 ≤ x1 ∧ x1 ≤ 100) ∧ (1 ≤ x2 ∧ x2 ≤ 1000)) ∧ (((0 ≤ x3 ∧ x3 ≤ 100) ∧ x3 < x2) ∧ (0 ≤ x4 ∧ x4 ≤ 399))
  · have m1 := mul110 (a := x1) (b := x2 - x3) (by omega) (by omega)
    have m2 := mul110 (a := x1) (b := x2 + x3) (by omega) (by omega)
    refine sX11_number ?_
    refine ⟨?_, ?_⟩
    · first | omega | exact ⟨hI.2.1, by omega⟩ | exact ⟨hp1, by omega⟩ | (rw [he1.1 10 (by decide)]; omega) | (rw [(he1.tr he2).1 10 (by decide)]; omega)
    refine ⟨fun c1 => ?_, fun c1 => ?_⟩
    · first
      | (refine qI ?_ (k _ ((hI.c he1 hp1).c he2 hp2) (he1.hm.tr he2.hm))
         rw [if_pos (by omega)]
         unfold nbV
         by_cases ha : mAsk M x4
         · have hb := hask.mp ha
           rw [if_pos ha]
           (repeat (first | rw [if_pos (by omega)] | rw [if_neg (by omega)]))
           all_goals (first | rfl | omega)
         · have hb : ¬ (0 < sSd (LL3 M) 22 x4 ∨ 0 < sRm (LL3 M) x4) := fun z => ha (hask.mpr z)
           rw [if_neg ha]
           all_goals (first | rfl | omega))
      | (refine qI ?_ (k _ (hI.c he1 hp1) he1.hm)
         rw [if_pos (by omega)]
         unfold nbV
         by_cases ha : mAsk M x4
         · have hb := hask.mp ha
           rw [if_pos ha]
           (repeat (first | rw [if_pos (by omega)] | rw [if_neg (by omega)]))
           all_goals (first | rfl | omega)
         · have hb : ¬ (0 < sSd (LL3 M) 22 x4 ∨ 0 < sRm (LL3 M) x4) := fun z => ha (hask.mpr z)
           rw [if_neg ha]
           all_goals (first | rfl | omega))
      | (refine qI ?_ (k _ hI Hm.rf)
         (repeat (first | rw [if_pos (by omega)] | rw [if_neg (by omega)]))
         all_goals (first | rfl | omega))
      | (exfalso; omega)
    · refine ⟨?_, ?_⟩
      · first | omega | exact ⟨hI.2.1, by omega⟩ | exact ⟨hp1, by omega⟩ | (rw [he1.1 10 (by decide)]; omega) | (rw [(he1.tr he2).1 10 (by decide)]; omega)
      refine ⟨fun c2 => ?_, fun c2 => ?_⟩
      · first
        | (refine qI ?_ (k _ ((hI.c he1 hp1).c he2 hp2) (he1.hm.tr he2.hm))
           rw [if_pos (by omega)]
           unfold nbV
           by_cases ha : mAsk M x4
           · have hb := hask.mp ha
             rw [if_pos ha]
             (repeat (first | rw [if_pos (by omega)] | rw [if_neg (by omega)]))
             all_goals (first | rfl | omega)
           · have hb : ¬ (0 < sSd (LL3 M) 22 x4 ∨ 0 < sRm (LL3 M) x4) := fun z => ha (hask.mpr z)
             rw [if_neg ha]
             all_goals (first | rfl | omega))
        | (refine qI ?_ (k _ (hI.c he1 hp1) he1.hm)
           rw [if_pos (by omega)]
           unfold nbV
           by_cases ha : mAsk M x4
           · have hb := hask.mp ha
             rw [if_pos ha]
             (repeat (first | rw [if_pos (by omega)] | rw [if_neg (by omega)]))
             all_goals (first | rfl | omega)
           · have hb : ¬ (0 < sSd (LL3 M) 22 x4 ∨ 0 < sRm (LL3 M) x4) := fun z => ha (hask.mpr z)
             rw [if_neg ha]
             all_goals (first | rfl | omega))
        | (refine qI ?_ (k _ hI Hm.rf)
           (repeat (first | rw [if_pos (by omega)] | rw [if_neg (by omega)]))
           all_goals (first | rfl | omega))
        | (exfalso; omega)
      · refine ⟨?_, ?_⟩
        · first | omega | exact ⟨hI.2.1, by omega⟩ | exact ⟨hp1, by omega⟩ | (rw [he1.1 10 (by decide)]; omega) | (rw [(he1.tr he2).1 10 (by decide)]; omega)
        refine ⟨fun c3 => ?_, fun c3 => ?_⟩
        · first
          | (refine qI ?_ (k _ ((hI.c he1 hp1).c he2 hp2) (he1.hm.tr he2.hm))
             rw [if_pos (by omega)]
             unfold nbV
             by_cases ha : mAsk M x4
             · have hb := hask.mp ha
               rw [if_pos ha]
               (repeat (first | rw [if_pos (by omega)] | rw [if_neg (by omega)]))
               all_goals (first | rfl | omega)
             · have hb : ¬ (0 < sSd (LL3 M) 22 x4 ∨ 0 < sRm (LL3 M) x4) := fun z => ha (hask.mpr z)
               rw [if_neg ha]
               all_goals (first | rfl | omega))
          | (refine qI ?_ (k _ (hI.c he1 hp1) he1.hm)
             rw [if_pos (by omega)]
             unfold nbV
             by_cases ha : mAsk M x4
             · have hb := hask.mp ha
               rw [if_pos ha]
               (repeat (first | rw [if_pos (by omega)] | rw [if_neg (by omega)]))
               all_goals (first | rfl | omega)
             · have hb : ¬ (0 < sSd (LL3 M) 22 x4 ∨ 0 < sRm (LL3 M) x4) := fun z => ha (hask.mpr z)
               rw [if_neg ha]
               all_goals (first | rfl | omega))
          | (refine qI ?_ (k _ hI Hm.rf)
             (repeat (first | rw [if_pos (by omega)] | rw [if_neg (by omega)]))
             all_goals (first | rfl | omega))
          | (exfalso; omega)
        · refine ⟨?_, ?_, ?_⟩
          · first | omega | exact ⟨hI.2.1, by omega⟩ | exact ⟨hp1, by omega⟩ | (rw [he1.1 10 (by decide)]; omega) | (rw [(he1.tr he2).1 10 (by decide)]; omega)
          · first | omega | exact ⟨hI.2.1, by omega⟩ | exact ⟨hp1, by omega⟩ | (rw [he1.1 10 (by decide)]; omega) | (rw [(he1.tr he2).1 10 (by decide)]; omega)
          refine ⟨fun c4 => ?_, fun c4 => ?_⟩
          · first
            | (refine qI ?_ (k _ ((hI.c he1 hp1).c he2 hp2) (he1.hm.tr he2.hm))
               rw [if_pos (by omega)]
               unfold nbV
               by_cases ha : mAsk M x4
               · have hb := hask.mp ha
                 rw [if_pos ha]
                 (repeat (first | rw [if_pos (by omega)] | rw [if_neg (by omega)]))
                 all_goals (first | rfl | omega)
               · have hb : ¬ (0 < sSd (LL3 M) 22 x4 ∨ 0 < sRm (LL3 M) x4) := fun z => ha (hask.mpr z)
                 rw [if_neg ha]
                 all_goals (first | rfl | omega))
            | (refine qI ?_ (k _ (hI.c he1 hp1) he1.hm)
               rw [if_pos (by omega)]
               unfold nbV
               by_cases ha : mAsk M x4
               · have hb := hask.mp ha
                 rw [if_pos ha]
                 (repeat (first | rw [if_pos (by omega)] | rw [if_neg (by omega)]))
                 all_goals (first | rfl | omega)
               · have hb : ¬ (0 < sSd (LL3 M) 22 x4 ∨ 0 < sRm (LL3 M) x4) := fun z => ha (hask.mpr z)
                 rw [if_neg ha]
                 all_goals (first | rfl | omega))
            | (refine qI ?_ (k _ hI Hm.rf)
               (repeat (first | rw [if_pos (by omega)] | rw [if_neg (by omega)]))
               all_goals (first | rfl | omega))
            | (exfalso; omega)
          · refine ⟨?_, ?_⟩
            · first | omega | exact ⟨hI.2.1, by omega⟩ | exact ⟨hp1, by omega⟩ | (rw [he1.1 10 (by decide)]; omega) | (rw [(he1.tr he2).1 10 (by decide)]; omega)
            refine ⟨fun c5 => ?_, fun c5 => ?_⟩
            · refine ⟨?_, ?_⟩
              · first | omega | exact ⟨hI.2.1, by omega⟩ | exact ⟨hp1, by omega⟩ | (rw [he1.1 10 (by decide)]; omega) | (rw [(he1.tr he2).1 10 (by decide)]; omega)
              intro N1 hN1 he1 hp1
              refine ⟨?_, ?_⟩
              · first | omega | exact ⟨hI.2.1, by omega⟩ | exact ⟨hp1, by omega⟩ | (rw [he1.1 10 (by decide)]; omega) | (rw [(he1.tr he2).1 10 (by decide)]; omega)
              refine ⟨fun c6 => ?_, fun c6 => ?_⟩
              · refine ⟨?_, ?_, ?_, ?_⟩
                · first | omega | exact ⟨hI.2.1, by omega⟩ | exact ⟨hp1, by omega⟩ | (rw [he1.1 10 (by decide)]; omega) | (rw [(he1.tr he2).1 10 (by decide)]; omega)
                · first | omega | exact ⟨hI.2.1, by omega⟩ | exact ⟨hp1, by omega⟩ | (rw [he1.1 10 (by decide)]; omega) | (rw [(he1.tr he2).1 10 (by decide)]; omega)
                · first | omega | exact ⟨hI.2.1, by omega⟩ | exact ⟨hp1, by omega⟩ | (rw [he1.1 10 (by decide)]; omega) | (rw [(he1.tr he2).1 10 (by decide)]; omega)
                refine ⟨fun c7 => ?_, fun c7 => ?_⟩
                · refine ⟨?_, ?_⟩
                  · first | omega | exact ⟨hI.2.1, by omega⟩ | exact ⟨hp1, by omega⟩ | (rw [he1.1 10 (by decide)]; omega) | (rw [(he1.tr he2).1 10 (by decide)]; omega)
                  refine ⟨fun c8 => ?_, fun c8 => ?_⟩
                  · first
                    | (refine qI ?_ (k _ ((hI.c he1 hp1).c he2 hp2) (he1.hm.tr he2.hm))
                       rw [if_pos (by omega)]
                       unfold nbV
                       by_cases ha : mAsk M x4
                       · have hb := hask.mp ha
                         rw [if_pos ha]
                         (repeat (first | rw [if_pos (by omega)] | rw [if_neg (by omega)]))
                         all_goals (first | rfl | omega)
                       · have hb : ¬ (0 < sSd (LL3 M) 22 x4 ∨ 0 < sRm (LL3 M) x4) := fun z => ha (hask.mpr z)
                         rw [if_neg ha]
                         all_goals (first | rfl | omega))
                    | (refine qI ?_ (k _ (hI.c he1 hp1) he1.hm)
                       rw [if_pos (by omega)]
                       unfold nbV
                       by_cases ha : mAsk M x4
                       · have hb := hask.mp ha
                         rw [if_pos ha]
                         (repeat (first | rw [if_pos (by omega)] | rw [if_neg (by omega)]))
                         all_goals (first | rfl | omega)
                       · have hb : ¬ (0 < sSd (LL3 M) 22 x4 ∨ 0 < sRm (LL3 M) x4) := fun z => ha (hask.mpr z)
                         rw [if_neg ha]
                         all_goals (first | rfl | omega))
                    | (refine qI ?_ (k _ hI Hm.rf)
                       (repeat (first | rw [if_pos (by omega)] | rw [if_neg (by omega)]))
                       all_goals (first | rfl | omega))
                    | (exfalso; omega)
                  · first
                    | (refine qI ?_ (k _ ((hI.c he1 hp1).c he2 hp2) (he1.hm.tr he2.hm))
                       rw [if_pos (by omega)]
                       unfold nbV
                       by_cases ha : mAsk M x4
                       · have hb := hask.mp ha
                         rw [if_pos ha]
                         (repeat (first | rw [if_pos (by omega)] | rw [if_neg (by omega)]))
                         all_goals (first | rfl | omega)
                       · have hb : ¬ (0 < sSd (LL3 M) 22 x4 ∨ 0 < sRm (LL3 M) x4) := fun z => ha (hask.mpr z)
                         rw [if_neg ha]
                         all_goals (first | rfl | omega))
                    | (refine qI ?_ (k _ (hI.c he1 hp1) he1.hm)
                       rw [if_pos (by omega)]
                       unfold nbV
                       by_cases ha : mAsk M x4
                       · have hb := hask.mp ha
                         rw [if_pos ha]
                         (repeat (first | rw [if_pos (by omega)] | rw [if_neg (by omega)]))
                         all_goals (first | rfl | omega)
                       · have hb : ¬ (0 < sSd (LL3 M) 22 x4 ∨ 0 < sRm (LL3 M) x4) := fun z => ha (hask.mpr z)
                         rw [if_neg ha]
                         all_goals (first | rfl | omega))
                    | (refine qI ?_ (k _ hI Hm.rf)
                       (repeat (first | rw [if_pos (by omega)] | rw [if_neg (by omega)]))
                       all_goals (first | rfl | omega))
                    | (exfalso; omega)
                · first
                  | (refine qI ?_ (k _ ((hI.c he1 hp1).c he2 hp2) (he1.hm.tr he2.hm))
                     rw [if_pos (by omega)]
                     unfold nbV
                     by_cases ha : mAsk M x4
                     · have hb := hask.mp ha
                       rw [if_pos ha]
                       (repeat (first | rw [if_pos (by omega)] | rw [if_neg (by omega)]))
                       all_goals (first | rfl | omega)
                     · have hb : ¬ (0 < sSd (LL3 M) 22 x4 ∨ 0 < sRm (LL3 M) x4) := fun z => ha (hask.mpr z)
                       rw [if_neg ha]
                       all_goals (first | rfl | omega))
                  | (refine qI ?_ (k _ (hI.c he1 hp1) he1.hm)
                     rw [if_pos (by omega)]
                     unfold nbV
                     by_cases ha : mAsk M x4
                     · have hb := hask.mp ha
                       rw [if_pos ha]
                       (repeat (first | rw [if_pos (by omega)] | rw [if_neg (by omega)]))
                       all_goals (first | rfl | omega)
                     · have hb : ¬ (0 < sSd (LL3 M) 22 x4 ∨ 0 < sRm (LL3 M) x4) := fun z => ha (hask.mpr z)
                       rw [if_neg ha]
                       all_goals (first | rfl | omega))
                  | (refine qI ?_ (k _ hI Hm.rf)
                     (repeat (first | rw [if_pos (by omega)] | rw [if_neg (by omega)]))
                     all_goals (first | rfl | omega))
                  | (exfalso; omega)
              · refine ⟨?_, ?_⟩
                · first | omega | exact ⟨hI.2.1, by omega⟩ | exact ⟨hp1, by omega⟩ | (rw [he1.1 10 (by decide)]; omega) | (rw [(he1.tr he2).1 10 (by decide)]; omega)
                intro N2 hN2 he2 hp2
                refine ⟨?_, ?_⟩
                · first | omega | exact ⟨hI.2.1, by omega⟩ | exact ⟨hp1, by omega⟩ | (rw [he1.1 10 (by decide)]; omega) | (rw [(he1.tr he2).1 10 (by decide)]; omega)
                refine ⟨fun c7 => ?_, fun c7 => ?_⟩
                · first
                  | (refine qI ?_ (k _ ((hI.c he1 hp1).c he2 hp2) (he1.hm.tr he2.hm))
                     rw [if_pos (by omega)]
                     unfold nbV
                     by_cases ha : mAsk M x4
                     · have hb := hask.mp ha
                       rw [if_pos ha]
                       (repeat (first | rw [if_pos (by omega)] | rw [if_neg (by omega)]))
                       all_goals (first | rfl | omega)
                     · have hb : ¬ (0 < sSd (LL3 M) 22 x4 ∨ 0 < sRm (LL3 M) x4) := fun z => ha (hask.mpr z)
                       rw [if_neg ha]
                       all_goals (first | rfl | omega))
                  | (refine qI ?_ (k _ (hI.c he1 hp1) he1.hm)
                     rw [if_pos (by omega)]
                     unfold nbV
                     by_cases ha : mAsk M x4
                     · have hb := hask.mp ha
                       rw [if_pos ha]
                       (repeat (first | rw [if_pos (by omega)] | rw [if_neg (by omega)]))
                       all_goals (first | rfl | omega)
                     · have hb : ¬ (0 < sSd (LL3 M) 22 x4 ∨ 0 < sRm (LL3 M) x4) := fun z => ha (hask.mpr z)
                       rw [if_neg ha]
                       all_goals (first | rfl | omega))
                  | (refine qI ?_ (k _ hI Hm.rf)
                     (repeat (first | rw [if_pos (by omega)] | rw [if_neg (by omega)]))
                     all_goals (first | rfl | omega))
                  | (exfalso; omega)
                · refine ⟨?_, ?_, ?_, ?_⟩
                  · first | omega | exact ⟨hI.2.1, by omega⟩ | exact ⟨hp1, by omega⟩ | (rw [he1.1 10 (by decide)]; omega) | (rw [(he1.tr he2).1 10 (by decide)]; omega)
                  · first | omega | exact ⟨hI.2.1, by omega⟩ | exact ⟨hp1, by omega⟩ | (rw [he1.1 10 (by decide)]; omega) | (rw [(he1.tr he2).1 10 (by decide)]; omega)
                  · first | omega | exact ⟨hI.2.1, by omega⟩ | exact ⟨hp1, by omega⟩ | (rw [he1.1 10 (by decide)]; omega) | (rw [(he1.tr he2).1 10 (by decide)]; omega)
                  refine ⟨fun c8 => ?_, fun c8 => ?_⟩
                  · refine ⟨?_, ?_⟩
                    · first | omega | exact ⟨hI.2.1, by omega⟩ | exact ⟨hp1, by omega⟩ | (rw [he1.1 10 (by decide)]; omega) | (rw [(he1.tr he2).1 10 (by decide)]; omega)
                    refine ⟨fun c9 => ?_, fun c9 => ?_⟩
                    · first
                      | (refine qI ?_ (k _ ((hI.c he1 hp1).c he2 hp2) (he1.hm.tr he2.hm))
                         rw [if_pos (by omega)]
                         unfold nbV
                         by_cases ha : mAsk M x4
                         · have hb := hask.mp ha
                           rw [if_pos ha]
                           (repeat (first | rw [if_pos (by omega)] | rw [if_neg (by omega)]))
                           all_goals (first | rfl | omega)
                         · have hb : ¬ (0 < sSd (LL3 M) 22 x4 ∨ 0 < sRm (LL3 M) x4) := fun z => ha (hask.mpr z)
                           rw [if_neg ha]
                           all_goals (first | rfl | omega))
                      | (refine qI ?_ (k _ (hI.c he1 hp1) he1.hm)
                         rw [if_pos (by omega)]
                         unfold nbV
                         by_cases ha : mAsk M x4
                         · have hb := hask.mp ha
                           rw [if_pos ha]
                           (repeat (first | rw [if_pos (by omega)] | rw [if_neg (by omega)]))
                           all_goals (first | rfl | omega)
                         · have hb : ¬ (0 < sSd (LL3 M) 22 x4 ∨ 0 < sRm (LL3 M) x4) := fun z => ha (hask.mpr z)
                           rw [if_neg ha]
                           all_goals (first | rfl | omega))
                      | (refine qI ?_ (k _ hI Hm.rf)
                         (repeat (first | rw [if_pos (by omega)] | rw [if_neg (by omega)]))
                         all_goals (first | rfl | omega))
                      | (exfalso; omega)
                    · first
                      | (refine qI ?_ (k _ ((hI.c he1 hp1).c he2 hp2) (he1.hm.tr he2.hm))
                         rw [if_pos (by omega)]
                         unfold nbV
                         by_cases ha : mAsk M x4
                         · have hb := hask.mp ha
                           rw [if_pos ha]
                           (repeat (first | rw [if_pos (by omega)] | rw [if_neg (by omega)]))
                           all_goals (first | rfl | omega)
                         · have hb : ¬ (0 < sSd (LL3 M) 22 x4 ∨ 0 < sRm (LL3 M) x4) := fun z => ha (hask.mpr z)
                           rw [if_neg ha]
                           all_goals (first | rfl | omega))
                      | (refine qI ?_ (k _ (hI.c he1 hp1) he1.hm)
                         rw [if_pos (by omega)]
                         unfold nbV
                         by_cases ha : mAsk M x4
                         · have hb := hask.mp ha
                           rw [if_pos ha]
                           (repeat (first | rw [if_pos (by omega)] | rw [if_neg (by omega)]))
                           all_goals (first | rfl | omega)
                         · have hb : ¬ (0 < sSd (LL3 M) 22 x4 ∨ 0 < sRm (LL3 M) x4) := fun z => ha (hask.mpr z)
                           rw [if_neg ha]
                           all_goals (first | rfl | omega))
                      | (refine qI ?_ (k _ hI Hm.rf)
                         (repeat (first | rw [if_pos (by omega)] | rw [if_neg (by omega)]))
                         all_goals (first | rfl | omega))
                      | (exfalso; omega)
                  · first
                    | (refine qI ?_ (k _ ((hI.c he1 hp1).c he2 hp2) (he1.hm.tr he2.hm))
                       rw [if_pos (by omega)]
                       unfold nbV
                       by_cases ha : mAsk M x4
                       · have hb := hask.mp ha
                         rw [if_pos ha]
                         (repeat (first | rw [if_pos (by omega)] | rw [if_neg (by omega)]))
                         all_goals (first | rfl | omega)
                       · have hb : ¬ (0 < sSd (LL3 M) 22 x4 ∨ 0 < sRm (LL3 M) x4) := fun z => ha (hask.mpr z)
                         rw [if_neg ha]
                         all_goals (first | rfl | omega))
                    | (refine qI ?_ (k _ (hI.c he1 hp1) he1.hm)
                       rw [if_pos (by omega)]
                       unfold nbV
                       by_cases ha : mAsk M x4
                       · have hb := hask.mp ha
                         rw [if_pos ha]
                         (repeat (first | rw [if_pos (by omega)] | rw [if_neg (by omega)]))
                         all_goals (first | rfl | omega)
                       · have hb : ¬ (0 < sSd (LL3 M) 22 x4 ∨ 0 < sRm (LL3 M) x4) := fun z => ha (hask.mpr z)
                         rw [if_neg ha]
                         all_goals (first | rfl | omega))
                    | (refine qI ?_ (k _ hI Hm.rf)
                       (repeat (first | rw [if_pos (by omega)] | rw [if_neg (by omega)]))
                       all_goals (first | rfl | omega))
                    | (exfalso; omega)
            · first
              | (refine qI ?_ (k _ ((hI.c he1 hp1).c he2 hp2) (he1.hm.tr he2.hm))
                 rw [if_pos (by omega)]
                 unfold nbV
                 by_cases ha : mAsk M x4
                 · have hb := hask.mp ha
                   rw [if_pos ha]
                   (repeat (first | rw [if_pos (by omega)] | rw [if_neg (by omega)]))
                   all_goals (first | rfl | omega)
                 · have hb : ¬ (0 < sSd (LL3 M) 22 x4 ∨ 0 < sRm (LL3 M) x4) := fun z => ha (hask.mpr z)
                   rw [if_neg ha]
                   all_goals (first | rfl | omega))
              | (refine qI ?_ (k _ (hI.c he1 hp1) he1.hm)
                 rw [if_pos (by omega)]
                 unfold nbV
                 by_cases ha : mAsk M x4
                 · have hb := hask.mp ha
                   rw [if_pos ha]
                   (repeat (first | rw [if_pos (by omega)] | rw [if_neg (by omega)]))
                   all_goals (first | rfl | omega)
                 · have hb : ¬ (0 < sSd (LL3 M) 22 x4 ∨ 0 < sRm (LL3 M) x4) := fun z => ha (hask.mpr z)
                   rw [if_neg ha]
                   all_goals (first | rfl | omega))
              | (refine qI ?_ (k _ hI Hm.rf)
                 (repeat (first | rw [if_pos (by omega)] | rw [if_neg (by omega)]))
                 all_goals (first | rfl | omega))
              | (exfalso; omega)
  · skip
    refine sX11_number ?_
    refine ⟨?_, ?_⟩
    · first | omega | exact ⟨hI.2.1, by omega⟩ | exact ⟨hp1, by omega⟩ | (rw [he1.1 10 (by decide)]; omega) | (rw [(he1.tr he2).1 10 (by decide)]; omega)
    refine ⟨fun c1 => ?_, fun c1 => ?_⟩
    · first
      | (refine qI ?_ (k _ ((hI.c he1 hp1).c he2 hp2) (he1.hm.tr he2.hm))
         rw [if_pos (by omega)]
         unfold nbV
         by_cases ha : mAsk M x4
         · have hb := hask.mp ha
           rw [if_pos ha]
           (repeat (first | rw [if_pos (by omega)] | rw [if_neg (by omega)]))
           all_goals (first | rfl | omega)
         · have hb : ¬ (0 < sSd (LL3 M) 22 x4 ∨ 0 < sRm (LL3 M) x4) := fun z => ha (hask.mpr z)
           rw [if_neg ha]
           all_goals (first | rfl | omega))
      | (refine qI ?_ (k _ (hI.c he1 hp1) he1.hm)
         rw [if_pos (by omega)]
         unfold nbV
         by_cases ha : mAsk M x4
         · have hb := hask.mp ha
           rw [if_pos ha]
           (repeat (first | rw [if_pos (by omega)] | rw [if_neg (by omega)]))
           all_goals (first | rfl | omega)
         · have hb : ¬ (0 < sSd (LL3 M) 22 x4 ∨ 0 < sRm (LL3 M) x4) := fun z => ha (hask.mpr z)
           rw [if_neg ha]
           all_goals (first | rfl | omega))
      | (refine qI ?_ (k _ hI Hm.rf)
         (repeat (first | rw [if_pos (by omega)] | rw [if_neg (by omega)]))
         all_goals (first | rfl | omega))
      | (exfalso; omega)
    · refine ⟨?_, ?_⟩
      · first | omega | exact ⟨hI.2.1, by omega⟩ | exact ⟨hp1, by omega⟩ | (rw [he1.1 10 (by decide)]; omega) | (rw [(he1.tr he2).1 10 (by decide)]; omega)
      refine ⟨fun c2 => ?_, fun c2 => ?_⟩
      · first
        | (refine qI ?_ (k _ ((hI.c he1 hp1).c he2 hp2) (he1.hm.tr he2.hm))
           rw [if_pos (by omega)]
           unfold nbV
           by_cases ha : mAsk M x4
           · have hb := hask.mp ha
             rw [if_pos ha]
             (repeat (first | rw [if_pos (by omega)] | rw [if_neg (by omega)]))
             all_goals (first | rfl | omega)
           · have hb : ¬ (0 < sSd (LL3 M) 22 x4 ∨ 0 < sRm (LL3 M) x4) := fun z => ha (hask.mpr z)
             rw [if_neg ha]
             all_goals (first | rfl | omega))
        | (refine qI ?_ (k _ (hI.c he1 hp1) he1.hm)
           rw [if_pos (by omega)]
           unfold nbV
           by_cases ha : mAsk M x4
           · have hb := hask.mp ha
             rw [if_pos ha]
             (repeat (first | rw [if_pos (by omega)] | rw [if_neg (by omega)]))
             all_goals (first | rfl | omega)
           · have hb : ¬ (0 < sSd (LL3 M) 22 x4 ∨ 0 < sRm (LL3 M) x4) := fun z => ha (hask.mpr z)
             rw [if_neg ha]
             all_goals (first | rfl | omega))
        | (refine qI ?_ (k _ hI Hm.rf)
           (repeat (first | rw [if_pos (by omega)] | rw [if_neg (by omega)]))
           all_goals (first | rfl | omega))
        | (exfalso; omega)
      · refine ⟨?_, ?_⟩
        · first | omega | exact ⟨hI.2.1, by omega⟩ | exact ⟨hp1, by omega⟩ | (rw [he1.1 10 (by decide)]; omega) | (rw [(he1.tr he2).1 10 (by decide)]; omega)
        refine ⟨fun c3 => ?_, fun c3 => ?_⟩
        · first
          | (refine qI ?_ (k _ ((hI.c he1 hp1).c he2 hp2) (he1.hm.tr he2.hm))
             rw [if_pos (by omega)]
             unfold nbV
             by_cases ha : mAsk M x4
             · have hb := hask.mp ha
               rw [if_pos ha]
               (repeat (first | rw [if_pos (by omega)] | rw [if_neg (by omega)]))
               all_goals (first | rfl | omega)
             · have hb : ¬ (0 < sSd (LL3 M) 22 x4 ∨ 0 < sRm (LL3 M) x4) := fun z => ha (hask.mpr z)
               rw [if_neg ha]
               all_goals (first | rfl | omega))
          | (refine qI ?_ (k _ (hI.c he1 hp1) he1.hm)
             rw [if_pos (by omega)]
             unfold nbV
             by_cases ha : mAsk M x4
             · have hb := hask.mp ha
               rw [if_pos ha]
               (repeat (first | rw [if_pos (by omega)] | rw [if_neg (by omega)]))
               all_goals (first | rfl | omega)
             · have hb : ¬ (0 < sSd (LL3 M) 22 x4 ∨ 0 < sRm (LL3 M) x4) := fun z => ha (hask.mpr z)
               rw [if_neg ha]
               all_goals (first | rfl | omega))
          | (refine qI ?_ (k _ hI Hm.rf)
             (repeat (first | rw [if_pos (by omega)] | rw [if_neg (by omega)]))
             all_goals (first | rfl | omega))
          | (exfalso; omega)
        · refine ⟨?_, ?_, ?_⟩
          · first | omega | exact ⟨hI.2.1, by omega⟩ | exact ⟨hp1, by omega⟩ | (rw [he1.1 10 (by decide)]; omega) | (rw [(he1.tr he2).1 10 (by decide)]; omega)
          · first | omega | exact ⟨hI.2.1, by omega⟩ | exact ⟨hp1, by omega⟩ | (rw [he1.1 10 (by decide)]; omega) | (rw [(he1.tr he2).1 10 (by decide)]; omega)
          refine ⟨fun c4 => ?_, fun c4 => ?_⟩
          · first
            | (refine qI ?_ (k _ ((hI.c he1 hp1).c he2 hp2) (he1.hm.tr he2.hm))
               rw [if_pos (by omega)]
               unfold nbV
               by_cases ha : mAsk M x4
               · have hb := hask.mp ha
                 rw [if_pos ha]
                 (repeat (first | rw [if_pos (by omega)] | rw [if_neg (by omega)]))
                 all_goals (first | rfl | omega)
               · have hb : ¬ (0 < sSd (LL3 M) 22 x4 ∨ 0 < sRm (LL3 M) x4) := fun z => ha (hask.mpr z)
                 rw [if_neg ha]
                 all_goals (first | rfl | omega))
            | (refine qI ?_ (k _ (hI.c he1 hp1) he1.hm)
               rw [if_pos (by omega)]
               unfold nbV
               by_cases ha : mAsk M x4
               · have hb := hask.mp ha
                 rw [if_pos ha]
                 (repeat (first | rw [if_pos (by omega)] | rw [if_neg (by omega)]))
                 all_goals (first | rfl | omega)
               · have hb : ¬ (0 < sSd (LL3 M) 22 x4 ∨ 0 < sRm (LL3 M) x4) := fun z => ha (hask.mpr z)
                 rw [if_neg ha]
                 all_goals (first | rfl | omega))
            | (refine qI ?_ (k _ hI Hm.rf)
               (repeat (first | rw [if_pos (by omega)] | rw [if_neg (by omega)]))
               all_goals (first | rfl | omega))
            | (exfalso; omega)
          · refine ⟨?_, ?_⟩
            · first | omega | exact ⟨hI.2.1, by omega⟩ | exact ⟨hp1, by omega⟩ | (rw [he1.1 10 (by decide)]; omega) | (rw [(he1.tr he2).1 10 (by decide)]; omega)
            refine ⟨fun c5 => ?_, fun c5 => ?_⟩
            · refine ⟨?_, ?_⟩
              · first | omega | exact ⟨hI.2.1, by omega⟩ | exact ⟨hp1, by omega⟩ | (rw [he1.1 10 (by decide)]; omega) | (rw [(he1.tr he2).1 10 (by decide)]; omega)
              intro N1 hN1 he1 hp1
              refine ⟨?_, ?_⟩
              · first | omega | exact ⟨hI.2.1, by omega⟩ | exact ⟨hp1, by omega⟩ | (rw [he1.1 10 (by decide)]; omega) | (rw [(he1.tr he2).1 10 (by decide)]; omega)
              refine ⟨fun c6 => ?_, fun c6 => ?_⟩
              · refine ⟨?_, ?_, ?_, ?_⟩
                · first | omega | exact ⟨hI.2.1, by omega⟩ | exact ⟨hp1, by omega⟩ | (rw [he1.1 10 (by decide)]; omega) | (rw [(he1.tr he2).1 10 (by decide)]; omega)
                · first | omega | exact ⟨hI.2.1, by omega⟩ | exact ⟨hp1, by omega⟩ | (rw [he1.1 10 (by decide)]; omega) | (rw [(he1.tr he2).1 10 (by decide)]; omega)
                · first | omega | exact ⟨hI.2.1, by omega⟩ | exact ⟨hp1, by omega⟩ | (rw [he1.1 10 (by decide)]; omega) | (rw [(he1.tr he2).1 10 (by decide)]; omega)
                refine ⟨fun c7 => ?_, fun c7 => ?_⟩
                · refine ⟨?_, ?_⟩
                  · first | omega | exact ⟨hI.2.1, by omega⟩ | exact ⟨hp1, by omega⟩ | (rw [he1.1 10 (by decide)]; omega) | (rw [(he1.tr he2).1 10 (by decide)]; omega)
                  refine ⟨fun c8 => ?_, fun c8 => ?_⟩
                  · first
                    | (refine qI ?_ (k _ ((hI.c he1 hp1).c he2 hp2) (he1.hm.tr he2.hm))
                       rw [if_pos (by omega)]
                       unfold nbV
                       by_cases ha : mAsk M x4
                       · have hb := hask.mp ha
                         rw [if_pos ha]
                         (repeat (first | rw [if_pos (by omega)] | rw [if_neg (by omega)]))
                         all_goals (first | rfl | omega)
                       · have hb : ¬ (0 < sSd (LL3 M) 22 x4 ∨ 0 < sRm (LL3 M) x4) := fun z => ha (hask.mpr z)
                         rw [if_neg ha]
                         all_goals (first | rfl | omega))
                    | (refine qI ?_ (k _ (hI.c he1 hp1) he1.hm)
                       rw [if_pos (by omega)]
                       unfold nbV
                       by_cases ha : mAsk M x4
                       · have hb := hask.mp ha
                         rw [if_pos ha]
                         (repeat (first | rw [if_pos (by omega)] | rw [if_neg (by omega)]))
                         all_goals (first | rfl | omega)
                       · have hb : ¬ (0 < sSd (LL3 M) 22 x4 ∨ 0 < sRm (LL3 M) x4) := fun z => ha (hask.mpr z)
                         rw [if_neg ha]
                         all_goals (first | rfl | omega))
                    | (refine qI ?_ (k _ hI Hm.rf)
                       (repeat (first | rw [if_pos (by omega)] | rw [if_neg (by omega)]))
                       all_goals (first | rfl | omega))
                    | (exfalso; omega)
                  · first
                    | (refine qI ?_ (k _ ((hI.c he1 hp1).c he2 hp2) (he1.hm.tr he2.hm))
                       rw [if_pos (by omega)]
                       unfold nbV
                       by_cases ha : mAsk M x4
                       · have hb := hask.mp ha
                         rw [if_pos ha]
                         (repeat (first | rw [if_pos (by omega)] | rw [if_neg (by omega)]))
                         all_goals (first | rfl | omega)
                       · have hb : ¬ (0 < sSd (LL3 M) 22 x4 ∨ 0 < sRm (LL3 M) x4) := fun z => ha (hask.mpr z)
                         rw [if_neg ha]
                         all_goals (first | rfl | omega))
                    | (refine qI ?_ (k _ (hI.c he1 hp1) he1.hm)
                       rw [if_pos (by omega)]
                       unfold nbV
                       by_cases ha : mAsk M x4
                       · have hb := hask.mp ha
                         rw [if_pos ha]
                         (repeat (first | rw [if_pos (by omega)] | rw [if_neg (by omega)]))
                         all_goals (first | rfl | omega)
                       · have hb : ¬ (0 < sSd (LL3 M) 22 x4 ∨ 0 < sRm (LL3 M) x4) := fun z => ha (hask.mpr z)
                         rw [if_neg ha]
                         all_goals (first | rfl | omega))
                    | (refine qI ?_ (k _ hI Hm.rf)
                       (repeat (first | rw [if_pos (by omega)] | rw [if_neg (by omega)]))
                       all_goals (first | rfl | omega))
                    | (exfalso; omega)
                · first
                  | (refine qI ?_ (k _ ((hI.c he1 hp1).c he2 hp2) (he1.hm.tr he2.hm))
                     rw [if_pos (by omega)]
                     unfold nbV
                     by_cases ha : mAsk M x4
                     · have hb := hask.mp ha
                       rw [if_pos ha]
                       (repeat (first | rw [if_pos (by omega)] | rw [if_neg (by omega)]))
                       all_goals (first | rfl | omega)
                     · have hb : ¬ (0 < sSd (LL3 M) 22 x4 ∨ 0 < sRm (LL3 M) x4) := fun z => ha (hask.mpr z)
                       rw [if_neg ha]
                       all_goals (first | rfl | omega))
                  | (refine qI ?_ (k _ (hI.c he1 hp1) he1.hm)
                     rw [if_pos (by omega)]
                     unfold nbV
                     by_cases ha : mAsk M x4
                     · have hb := hask.mp ha
                       rw [if_pos ha]
                       (repeat (first | rw [if_pos (by omega)] | rw [if_neg (by omega)]))
                       all_goals (first | rfl | omega)
                     · have hb : ¬ (0 < sSd (LL3 M) 22 x4 ∨ 0 < sRm (LL3 M) x4) := fun z => ha (hask.mpr z)
                       rw [if_neg ha]
                       all_goals (first | rfl | omega))
                  | (refine qI ?_ (k _ hI Hm.rf)
                     (repeat (first | rw [if_pos (by omega)] | rw [if_neg (by omega)]))
                     all_goals (first | rfl | omega))
                  | (exfalso; omega)
              · refine ⟨?_, ?_⟩
                · first | omega | exact ⟨hI.2.1, by omega⟩ | exact ⟨hp1, by omega⟩ | (rw [he1.1 10 (by decide)]; omega) | (rw [(he1.tr he2).1 10 (by decide)]; omega)
                intro N2 hN2 he2 hp2
                refine ⟨?_, ?_⟩
                · first | omega | exact ⟨hI.2.1, by omega⟩ | exact ⟨hp1, by omega⟩ | (rw [he1.1 10 (by decide)]; omega) | (rw [(he1.tr he2).1 10 (by decide)]; omega)
                refine ⟨fun c7 => ?_, fun c7 => ?_⟩
                · first
                  | (refine qI ?_ (k _ ((hI.c he1 hp1).c he2 hp2) (he1.hm.tr he2.hm))
                     rw [if_pos (by omega)]
                     unfold nbV
                     by_cases ha : mAsk M x4
                     · have hb := hask.mp ha
                       rw [if_pos ha]
                       (repeat (first | rw [if_pos (by omega)] | rw [if_neg (by omega)]))
                       all_goals (first | rfl | omega)
                     · have hb : ¬ (0 < sSd (LL3 M) 22 x4 ∨ 0 < sRm (LL3 M) x4) := fun z => ha (hask.mpr z)
                       rw [if_neg ha]
                       all_goals (first | rfl | omega))
                  | (refine qI ?_ (k _ (hI.c he1 hp1) he1.hm)
                     rw [if_pos (by omega)]
                     unfold nbV
                     by_cases ha : mAsk M x4
                     · have hb := hask.mp ha
                       rw [if_pos ha]
                       (repeat (first | rw [if_pos (by omega)] | rw [if_neg (by omega)]))
                       all_goals (first | rfl | omega)
                     · have hb : ¬ (0 < sSd (LL3 M) 22 x4 ∨ 0 < sRm (LL3 M) x4) := fun z => ha (hask.mpr z)
                       rw [if_neg ha]
                       all_goals (first | rfl | omega))
                  | (refine qI ?_ (k _ hI Hm.rf)
                     (repeat (first | rw [if_pos (by omega)] | rw [if_neg (by omega)]))
                     all_goals (first | rfl | omega))
                  | (exfalso; omega)
                · refine ⟨?_, ?_, ?_, ?_⟩
                  · first | omega | exact ⟨hI.2.1, by omega⟩ | exact ⟨hp1, by omega⟩ | (rw [he1.1 10 (by decide)]; omega) | (rw [(he1.tr he2).1 10 (by decide)]; omega)
                  · first | omega | exact ⟨hI.2.1, by omega⟩ | exact ⟨hp1, by omega⟩ | (rw [he1.1 10 (by decide)]; omega) | (rw [(he1.tr he2).1 10 (by decide)]; omega)
                  · first | omega | exact ⟨hI.2.1, by omega⟩ | exact ⟨hp1, by omega⟩ | (rw [he1.1 10 (by decide)]; omega) | (rw [(he1.tr he2).1 10 (by decide)]; omega)
                  refine ⟨fun c8 => ?_, fun c8 => ?_⟩
                  · refine ⟨?_, ?_⟩
                    · first | omega | exact ⟨hI.2.1, by omega⟩ | exact ⟨hp1, by omega⟩ | (rw [he1.1 10 (by decide)]; omega) | (rw [(he1.tr he2).1 10 (by decide)]; omega)
                    refine ⟨fun c9 => ?_, fun c9 => ?_⟩
                    · first
                      | (refine qI ?_ (k _ ((hI.c he1 hp1).c he2 hp2) (he1.hm.tr he2.hm))
                         rw [if_pos (by omega)]
                         unfold nbV
                         by_cases ha : mAsk M x4
                         · have hb := hask.mp ha
                           rw [if_pos ha]
                           (repeat (first | rw [if_pos (by omega)] | rw [if_neg (by omega)]))
                           all_goals (first | rfl | omega)
                         · have hb : ¬ (0 < sSd (LL3 M) 22 x4 ∨ 0 < sRm (LL3 M) x4) := fun z => ha (hask.mpr z)
                           rw [if_neg ha]
                           all_goals (first | rfl | omega))
                      | (refine qI ?_ (k _ (hI.c he1 hp1) he1.hm)
                         rw [if_pos (by omega)]
                         unfold nbV
                         by_cases ha : mAsk M x4
                         · have hb := hask.mp ha
                           rw [if_pos ha]
                           (repeat (first | rw [if_pos (by omega)] | rw [if_neg (by omega)]))
                           all_goals (first | rfl | omega)
                         · have hb : ¬ (0 < sSd (LL3 M) 22 x4 ∨ 0 < sRm (LL3 M) x4) := fun z => ha (hask.mpr z)
                           rw [if_neg ha]
                           all_goals (first | rfl | omega))
                      | (refine qI ?_ (k _ hI Hm.rf)
                         (repeat (first | rw [if_pos (by omega)] | rw [if_neg (by omega)]))
                         all_goals (first | rfl | omega))
                      | (exfalso; omega)
                    · first
                      | (refine qI ?_ (k _ ((hI.c he1 hp1).c he2 hp2) (he1.hm.tr he2.hm))
                         rw [if_pos (by omega)]
                         unfold nbV
                         by_cases ha : mAsk M x4
                         · have hb := hask.mp ha
                           rw [if_pos ha]
                           (repeat (first | rw [if_pos (by omega)] | rw [if_neg (by omega)]))
                           all_goals (first | rfl | omega)
                         · have hb : ¬ (0 < sSd (LL3 M) 22 x4 ∨ 0 < sRm (LL3 M) x4) := fun z => ha (hask.mpr z)
                           rw [if_neg ha]
                           all_goals (first | rfl | omega))
                      | (refine qI ?_ (k _ (hI.c he1 hp1) he1.hm)
                         rw [if_pos (by omega)]
                         unfold nbV
                         by_cases ha : mAsk M x4
                         · have hb := hask.mp ha
                           rw [if_pos ha]
                           (repeat (first | rw [if_pos (by omega)] | rw [if_neg (by omega)]))
                           all_goals (first | rfl | omega)
                         · have hb : ¬ (0 < sSd (LL3 M) 22 x4 ∨ 0 < sRm (LL3 M) x4) := fun z => ha (hask.mpr z)
                           rw [if_neg ha]
                           all_goals (first | rfl | omega))
                      | (refine qI ?_ (k _ hI Hm.rf)
                         (repeat (first | rw [if_pos (by omega)] | rw [if_neg (by omega)]))
                         all_goals (first | rfl | omega))
                      | (exfalso; omega)
                  · first
                    | (refine qI ?_ (k _ ((hI.c he1 hp1).c he2 hp2) (he1.hm.tr he2.hm))
                       rw [if_pos (by omega)]
                       unfold nbV
                       by_cases ha : mAsk M x4
                       · have hb := hask.mp ha
                         rw [if_pos ha]
                         (repeat (first | rw [if_pos (by omega)] | rw [if_neg (by omega)]))
                         all_goals (first | rfl | omega)
                       · have hb : ¬ (0 < sSd (LL3 M) 22 x4 ∨ 0 < sRm (LL3 M) x4) := fun z => ha (hask.mpr z)
                         rw [if_neg ha]
                         all_goals (first | rfl | omega))
                    | (refine qI ?_ (k _ (hI.c he1 hp1) he1.hm)
                       rw [if_pos (by omega)]
                       unfold nbV
                       by_cases ha : mAsk M x4
                       · have hb := hask.mp ha
                         rw [if_pos ha]
                         (repeat (first | rw [if_pos (by omega)] | rw [if_neg (by omega)]))
                         all_goals (first | rfl | omega)
                       · have hb : ¬ (0 < sSd (LL3 M) 22 x4 ∨ 0 < sRm (LL3 M) x4) := fun z => ha (hask.mpr z)
                         rw [if_neg ha]
                         all_goals (first | rfl | omega))
                    | (refine qI ?_ (k _ hI Hm.rf)
                       (repeat (first | rw [if_pos (by omega)] | rw [if_neg (by omega)]))
                       all_goals (first | rfl | omega))
                    | (exfalso; omega)
            · first
              | (refine qI ?_ (k _ ((hI.c he1 hp1).c he2 hp2) (he1.hm.tr he2.hm))
                 rw [if_pos (by omega)]
                 unfold nbV
                 by_cases ha : mAsk M x4
                 · have hb := hask.mp ha
                   rw [if_pos ha]
                   (repeat (first | rw [if_pos (by omega)] | rw [if_neg (by omega)]))
                   all_goals (first | rfl | omega)
                 · have hb : ¬ (0 < sSd (LL3 M) 22 x4 ∨ 0 < sRm (LL3 M) x4) := fun z => ha (hask.mpr z)
                   rw [if_neg ha]
                   all_goals (first | rfl | omega))
              | (refine qI ?_ (k _ (hI.c he1 hp1) he1.hm)
                 rw [if_pos (by omega)]
                 unfold nbV
                 by_cases ha : mAsk M x4
                 · have hb := hask.mp ha
                   rw [if_pos ha]
                   (repeat (first | rw [if_pos (by omega)] | rw [if_neg (by omega)]))
                   all_goals (first | rfl | omega)
                 · have hb : ¬ (0 < sSd (LL3 M) 22 x4 ∨ 0 < sRm (LL3 M) x4) := fun z => ha (hask.mpr z)
                   rw [if_neg ha]
                   all_goals (first | rfl | omega))
              | (refine qI ?_ (k _ hI Hm.rf)
                 (repeat (first | rw [if_pos (by omega)] | rw [if_neg (by omega)]))
                 all_goals (first | rfl | omega))
              | (exfalso; omega)
theorem m_number {E : E3} {Q : Q3} {M : M3} {x1 x2 x3 x4 : Int} (hI : Inv M) (hx1 : -2147483648 ≤ x1 ∧ x1 ≤ 2147483647) (hx2 : -2147483648 ≤ x2 ∧ x2 ≤ 2147483647) (hx3 : -2147483648 ≤ x3 ∧ x3 ≤ 2147483647) (hx4 : -2147483648 ≤ x4 ∧ x4 ≤ 2147483647) (k : ∀ (N : M3), Inv N → Q (some (vI (a_number M x1 x2 x3 x4))) N) : C3 E YX12_number [vR 44 0, vI x1, vI x2, vI x3, vI x4] M Q := by
  refine c3_rm fun hM => ?_
  have hc2 := hI.1.1.2.2.1.2.1
  have h3 := mRoll_rg hc2 (-1) (-1) 1
  unfold a_number at k
  by_cases hv : ((1 ≤ x1 ∧ x1 ≤ 100) ∧ (1 ≤ x2 ∧ x2 ≤ 1000)) ∧ (((0 ≤ x3 ∧ x3 ≤ 100) ∧ x3 < x2) ∧ (0 ≤ x4 ∧ x4 ≤ 399))
  · have m1 := mul110 (a := x1) (b := x2 - x3) (by omega) (by omega)
    have m2 := mul110 (a := x1) (b := x2 + x3) (by omega) (by omega)
    refine sX12_number ?_
    refine ⟨?_, ?_⟩
    · first | omega | exact ⟨hI.2.2, by omega⟩
    refine ⟨fun c1 => ?_, fun c1 => ?_⟩
    · first
      | (refine qI ?_ (k _ (hI.m he1 hp1))
         rw [if_pos (by omega)]
         unfold nbV
         by_cases ha : mAsk M x4
         · rw [if_pos ha]
           all_goals first
           | (exfalso; exact absurd ha (by assumption))
           | skip
           (repeat (first | rw [if_pos (by omega)] | rw [if_neg (by omega)]))
           all_goals (first | rfl | omega)
         · rw [if_neg ha]
           all_goals first
           | (exfalso; exact ha (by assumption))
           | rfl)
      | (refine qI ?_ (k _ hI)
         (repeat (first | rw [if_pos (by omega)] | rw [if_neg (by omega)]))
         all_goals (first | rfl | omega))
      | (exfalso; omega)
    · refine ⟨?_, ?_⟩
      · first | omega | exact ⟨hI.2.2, by omega⟩
      refine ⟨fun c2 => ?_, fun c2 => ?_⟩
      · first
        | (refine qI ?_ (k _ (hI.m he1 hp1))
           rw [if_pos (by omega)]
           unfold nbV
           by_cases ha : mAsk M x4
           · rw [if_pos ha]
             all_goals first
             | (exfalso; exact absurd ha (by assumption))
             | skip
             (repeat (first | rw [if_pos (by omega)] | rw [if_neg (by omega)]))
             all_goals (first | rfl | omega)
           · rw [if_neg ha]
             all_goals first
             | (exfalso; exact ha (by assumption))
             | rfl)
        | (refine qI ?_ (k _ hI)
           (repeat (first | rw [if_pos (by omega)] | rw [if_neg (by omega)]))
           all_goals (first | rfl | omega))
        | (exfalso; omega)
      · refine ⟨?_, ?_⟩
        · first | omega | exact ⟨hI.2.2, by omega⟩
        refine ⟨fun c3 => ?_, fun c3 => ?_⟩
        · first
          | (refine qI ?_ (k _ (hI.m he1 hp1))
             rw [if_pos (by omega)]
             unfold nbV
             by_cases ha : mAsk M x4
             · rw [if_pos ha]
               all_goals first
               | (exfalso; exact absurd ha (by assumption))
               | skip
               (repeat (first | rw [if_pos (by omega)] | rw [if_neg (by omega)]))
               all_goals (first | rfl | omega)
             · rw [if_neg ha]
               all_goals first
               | (exfalso; exact ha (by assumption))
               | rfl)
          | (refine qI ?_ (k _ hI)
             (repeat (first | rw [if_pos (by omega)] | rw [if_neg (by omega)]))
             all_goals (first | rfl | omega))
          | (exfalso; omega)
        · refine ⟨?_, ?_, ?_⟩
          · first | omega | exact ⟨hI.2.2, by omega⟩
          · first | omega | exact ⟨hI.2.2, by omega⟩
          refine ⟨fun c4 => ?_, fun c4 => ?_⟩
          · first
            | (refine qI ?_ (k _ (hI.m he1 hp1))
               rw [if_pos (by omega)]
               unfold nbV
               by_cases ha : mAsk M x4
               · rw [if_pos ha]
                 all_goals first
                 | (exfalso; exact absurd ha (by assumption))
                 | skip
                 (repeat (first | rw [if_pos (by omega)] | rw [if_neg (by omega)]))
                 all_goals (first | rfl | omega)
               · rw [if_neg ha]
                 all_goals first
                 | (exfalso; exact ha (by assumption))
                 | rfl)
            | (refine qI ?_ (k _ hI)
               (repeat (first | rw [if_pos (by omega)] | rw [if_neg (by omega)]))
               all_goals (first | rfl | omega))
            | (exfalso; omega)
          · refine ⟨?_, ?_⟩
            · first | omega | exact ⟨hI.2.2, by omega⟩
            refine ⟨fun c5 => ?_, fun c5 => ?_⟩
            · refine ⟨?_, ?_, ?_⟩
              · first | omega | exact ⟨hI.2.2, by omega⟩
              · first | omega | exact ⟨hI.2.2, by omega⟩
              intro N1 hN1 he1 hp1
              refine ⟨fun c6 => ?_, fun c6 => ?_⟩
              · refine ⟨?_, ?_, ?_⟩
                · first | omega | exact ⟨hI.2.2, by omega⟩
                · first | omega | exact ⟨hI.2.2, by omega⟩
                refine ⟨fun c7 => ?_, fun c7 => ?_⟩
                · refine ⟨?_, ?_⟩
                  · first | omega | exact ⟨hI.2.2, by omega⟩
                  refine ⟨fun c8 => ?_, fun c8 => ?_⟩
                  · first
                    | (refine qI ?_ (k _ (hI.m he1 hp1))
                       rw [if_pos (by omega)]
                       unfold nbV
                       by_cases ha : mAsk M x4
                       · rw [if_pos ha]
                         all_goals first
                         | (exfalso; exact absurd ha (by assumption))
                         | skip
                         (repeat (first | rw [if_pos (by omega)] | rw [if_neg (by omega)]))
                         all_goals (first | rfl | omega)
                       · rw [if_neg ha]
                         all_goals first
                         | (exfalso; exact ha (by assumption))
                         | rfl)
                    | (refine qI ?_ (k _ hI)
                       (repeat (first | rw [if_pos (by omega)] | rw [if_neg (by omega)]))
                       all_goals (first | rfl | omega))
                    | (exfalso; omega)
                  · first
                    | (refine qI ?_ (k _ (hI.m he1 hp1))
                       rw [if_pos (by omega)]
                       unfold nbV
                       by_cases ha : mAsk M x4
                       · rw [if_pos ha]
                         all_goals first
                         | (exfalso; exact absurd ha (by assumption))
                         | skip
                         (repeat (first | rw [if_pos (by omega)] | rw [if_neg (by omega)]))
                         all_goals (first | rfl | omega)
                       · rw [if_neg ha]
                         all_goals first
                         | (exfalso; exact ha (by assumption))
                         | rfl)
                    | (refine qI ?_ (k _ hI)
                       (repeat (first | rw [if_pos (by omega)] | rw [if_neg (by omega)]))
                       all_goals (first | rfl | omega))
                    | (exfalso; omega)
                · first
                  | (refine qI ?_ (k _ (hI.m he1 hp1))
                     rw [if_pos (by omega)]
                     unfold nbV
                     by_cases ha : mAsk M x4
                     · rw [if_pos ha]
                       all_goals first
                       | (exfalso; exact absurd ha (by assumption))
                       | skip
                       (repeat (first | rw [if_pos (by omega)] | rw [if_neg (by omega)]))
                       all_goals (first | rfl | omega)
                     · rw [if_neg ha]
                       all_goals first
                       | (exfalso; exact ha (by assumption))
                       | rfl)
                  | (refine qI ?_ (k _ hI)
                     (repeat (first | rw [if_pos (by omega)] | rw [if_neg (by omega)]))
                     all_goals (first | rfl | omega))
                  | (exfalso; omega)
              · first
                | (refine qI ?_ (k _ (hI.m he1 hp1))
                   rw [if_pos (by omega)]
                   unfold nbV
                   by_cases ha : mAsk M x4
                   · rw [if_pos ha]
                     all_goals first
                     | (exfalso; exact absurd ha (by assumption))
                     | skip
                     (repeat (first | rw [if_pos (by omega)] | rw [if_neg (by omega)]))
                     all_goals (first | rfl | omega)
                   · rw [if_neg ha]
                     all_goals first
                     | (exfalso; exact ha (by assumption))
                     | rfl)
                | (refine qI ?_ (k _ hI)
                   (repeat (first | rw [if_pos (by omega)] | rw [if_neg (by omega)]))
                   all_goals (first | rfl | omega))
                | (exfalso; omega)
            · first
              | (refine qI ?_ (k _ (hI.m he1 hp1))
                 rw [if_pos (by omega)]
                 unfold nbV
                 by_cases ha : mAsk M x4
                 · rw [if_pos ha]
                   all_goals first
                   | (exfalso; exact absurd ha (by assumption))
                   | skip
                   (repeat (first | rw [if_pos (by omega)] | rw [if_neg (by omega)]))
                   all_goals (first | rfl | omega)
                 · rw [if_neg ha]
                   all_goals first
                   | (exfalso; exact ha (by assumption))
                   | rfl)
              | (refine qI ?_ (k _ hI)
                 (repeat (first | rw [if_pos (by omega)] | rw [if_neg (by omega)]))
                 all_goals (first | rfl | omega))
              | (exfalso; omega)
  · skip
    refine sX12_number ?_
    refine ⟨?_, ?_⟩
    · first | omega | exact ⟨hI.2.2, by omega⟩
    refine ⟨fun c1 => ?_, fun c1 => ?_⟩
    · first
      | (refine qI ?_ (k _ (hI.m he1 hp1))
         rw [if_pos (by omega)]
         unfold nbV
         by_cases ha : mAsk M x4
         · rw [if_pos ha]
           all_goals first
           | (exfalso; exact absurd ha (by assumption))
           | skip
           (repeat (first | rw [if_pos (by omega)] | rw [if_neg (by omega)]))
           all_goals (first | rfl | omega)
         · rw [if_neg ha]
           all_goals first
           | (exfalso; exact ha (by assumption))
           | rfl)
      | (refine qI ?_ (k _ hI)
         (repeat (first | rw [if_pos (by omega)] | rw [if_neg (by omega)]))
         all_goals (first | rfl | omega))
      | (exfalso; omega)
    · refine ⟨?_, ?_⟩
      · first | omega | exact ⟨hI.2.2, by omega⟩
      refine ⟨fun c2 => ?_, fun c2 => ?_⟩
      · first
        | (refine qI ?_ (k _ (hI.m he1 hp1))
           rw [if_pos (by omega)]
           unfold nbV
           by_cases ha : mAsk M x4
           · rw [if_pos ha]
             all_goals first
             | (exfalso; exact absurd ha (by assumption))
             | skip
             (repeat (first | rw [if_pos (by omega)] | rw [if_neg (by omega)]))
             all_goals (first | rfl | omega)
           · rw [if_neg ha]
             all_goals first
             | (exfalso; exact ha (by assumption))
             | rfl)
        | (refine qI ?_ (k _ hI)
           (repeat (first | rw [if_pos (by omega)] | rw [if_neg (by omega)]))
           all_goals (first | rfl | omega))
        | (exfalso; omega)
      · refine ⟨?_, ?_⟩
        · first | omega | exact ⟨hI.2.2, by omega⟩
        refine ⟨fun c3 => ?_, fun c3 => ?_⟩
        · first
          | (refine qI ?_ (k _ (hI.m he1 hp1))
             rw [if_pos (by omega)]
             unfold nbV
             by_cases ha : mAsk M x4
             · rw [if_pos ha]
               all_goals first
               | (exfalso; exact absurd ha (by assumption))
               | skip
               (repeat (first | rw [if_pos (by omega)] | rw [if_neg (by omega)]))
               all_goals (first | rfl | omega)
             · rw [if_neg ha]
               all_goals first
               | (exfalso; exact ha (by assumption))
               | rfl)
          | (refine qI ?_ (k _ hI)
             (repeat (first | rw [if_pos (by omega)] | rw [if_neg (by omega)]))
             all_goals (first | rfl | omega))
          | (exfalso; omega)
        · refine ⟨?_, ?_, ?_⟩
          · first | omega | exact ⟨hI.2.2, by omega⟩
          · first | omega | exact ⟨hI.2.2, by omega⟩
          refine ⟨fun c4 => ?_, fun c4 => ?_⟩
          · first
            | (refine qI ?_ (k _ (hI.m he1 hp1))
               rw [if_pos (by omega)]
               unfold nbV
               by_cases ha : mAsk M x4
               · rw [if_pos ha]
                 all_goals first
                 | (exfalso; exact absurd ha (by assumption))
                 | skip
                 (repeat (first | rw [if_pos (by omega)] | rw [if_neg (by omega)]))
                 all_goals (first | rfl | omega)
               · rw [if_neg ha]
                 all_goals first
                 | (exfalso; exact ha (by assumption))
                 | rfl)
            | (refine qI ?_ (k _ hI)
               (repeat (first | rw [if_pos (by omega)] | rw [if_neg (by omega)]))
               all_goals (first | rfl | omega))
            | (exfalso; omega)
          · refine ⟨?_, ?_⟩
            · first | omega | exact ⟨hI.2.2, by omega⟩
            refine ⟨fun c5 => ?_, fun c5 => ?_⟩
            · refine ⟨?_, ?_, ?_⟩
              · first | omega | exact ⟨hI.2.2, by omega⟩
              · first | omega | exact ⟨hI.2.2, by omega⟩
              intro N1 hN1 he1 hp1
              refine ⟨fun c6 => ?_, fun c6 => ?_⟩
              · refine ⟨?_, ?_, ?_⟩
                · first | omega | exact ⟨hI.2.2, by omega⟩
                · first | omega | exact ⟨hI.2.2, by omega⟩
                refine ⟨fun c7 => ?_, fun c7 => ?_⟩
                · refine ⟨?_, ?_⟩
                  · first | omega | exact ⟨hI.2.2, by omega⟩
                  refine ⟨fun c8 => ?_, fun c8 => ?_⟩
                  · first
                    | (refine qI ?_ (k _ (hI.m he1 hp1))
                       rw [if_pos (by omega)]
                       unfold nbV
                       by_cases ha : mAsk M x4
                       · rw [if_pos ha]
                         all_goals first
                         | (exfalso; exact absurd ha (by assumption))
                         | skip
                         (repeat (first | rw [if_pos (by omega)] | rw [if_neg (by omega)]))
                         all_goals (first | rfl | omega)
                       · rw [if_neg ha]
                         all_goals first
                         | (exfalso; exact ha (by assumption))
                         | rfl)
                    | (refine qI ?_ (k _ hI)
                       (repeat (first | rw [if_pos (by omega)] | rw [if_neg (by omega)]))
                       all_goals (first | rfl | omega))
                    | (exfalso; omega)
                  · first
                    | (refine qI ?_ (k _ (hI.m he1 hp1))
                       rw [if_pos (by omega)]
                       unfold nbV
                       by_cases ha : mAsk M x4
                       · rw [if_pos ha]
                         all_goals first
                         | (exfalso; exact absurd ha (by assumption))
                         | skip
                         (repeat (first | rw [if_pos (by omega)] | rw [if_neg (by omega)]))
                         all_goals (first | rfl | omega)
                       · rw [if_neg ha]
                         all_goals first
                         | (exfalso; exact ha (by assumption))
                         | rfl)
                    | (refine qI ?_ (k _ hI)
                       (repeat (first | rw [if_pos (by omega)] | rw [if_neg (by omega)]))
                       all_goals (first | rfl | omega))
                    | (exfalso; omega)
                · first
                  | (refine qI ?_ (k _ (hI.m he1 hp1))
                     rw [if_pos (by omega)]
                     unfold nbV
                     by_cases ha : mAsk M x4
                     · rw [if_pos ha]
                       all_goals first
                       | (exfalso; exact absurd ha (by assumption))
                       | skip
                       (repeat (first | rw [if_pos (by omega)] | rw [if_neg (by omega)]))
                       all_goals (first | rfl | omega)
                     · rw [if_neg ha]
                       all_goals first
                       | (exfalso; exact ha (by assumption))
                       | rfl)
                  | (refine qI ?_ (k _ hI)
                     (repeat (first | rw [if_pos (by omega)] | rw [if_neg (by omega)]))
                     all_goals (first | rfl | omega))
                  | (exfalso; omega)
              · first
                | (refine qI ?_ (k _ (hI.m he1 hp1))
                   rw [if_pos (by omega)]
                   unfold nbV
                   by_cases ha : mAsk M x4
                   · rw [if_pos ha]
                     all_goals first
                     | (exfalso; exact absurd ha (by assumption))
                     | skip
                     (repeat (first | rw [if_pos (by omega)] | rw [if_neg (by omega)]))
                     all_goals (first | rfl | omega)
                   · rw [if_neg ha]
                     all_goals first
                     | (exfalso; exact ha (by assumption))
                     | rfl)
                | (refine qI ?_ (k _ hI)
                   (repeat (first | rw [if_pos (by omega)] | rw [if_neg (by omega)]))
                   all_goals (first | rfl | omega))
                | (exfalso; omega)
            · first
              | (refine qI ?_ (k _ (hI.m he1 hp1))
                 rw [if_pos (by omega)]
                 unfold nbV
                 by_cases ha : mAsk M x4
                 · rw [if_pos ha]
                   all_goals first
                   | (exfalso; exact absurd ha (by assumption))
                   | skip
                   (repeat (first | rw [if_pos (by omega)] | rw [if_neg (by omega)]))
                   all_goals (first | rfl | omega)
                 · rw [if_neg ha]
                   all_goals first
                   | (exfalso; exact ha (by assumption))
                   | rfl)
              | (refine qI ?_ (k _ hI)
                 (repeat (first | rw [if_pos (by omega)] | rw [if_neg (by omega)]))
                 all_goals (first | rfl | omega))
              | (exfalso; omega)
theorem a_number_q {M N : M3} (h : Hm M N) (x1 x2 x3 x4 : Int) : a_number N x1 x2 x3 x4 = a_number M x1 x2 x3 x4 := by unfold a_number; simp only [nbV, mAsk, LM3_q h, mRoll_q h]
theorem p_number {E : E3} {M : M3} {x1 x2 x3 x4 : Int} (hI : Inv M) (hx1 : -2147483648 ≤ x1 ∧ x1 ≤ 2147483647) (hx2 : -2147483648 ≤ x2 ∧ x2 ≤ 2147483647) (hx3 : -2147483648 ≤ x3 ∧ x3 ≤ 2147483647) (hx4 : -2147483648 ≤ x4 ∧ x4 ≤ 2147483647) : C3 E YX11_number [vR 0 0, vI x1, vI x2, vI x3, vI x4] M (P2 E YX12_number [vR 44 0, vI x1, vI x2, vI x3, vI x4]) :=
  c_number hI hx1 hx2 hx3 hx4 (fun N hN hq => p2I (m_number hN hx1 hx2 hx3 hx4 (fun K hK => r2I (svI (a_number_q hq x1 x2 x3 x4)) hK)))
