/-! PAIRS: formIs -/
theorem emp_is {M : M3} (h : IB M) {f : Int} (h0 : 0 ≤ f) (h1 : f < M 44 0 18) : cEmpty M f = mEmp M f := cn3_congr fun q a b => by
  obtain ⟨f1, f2, _⟩ := h.f h0 h1
  rw [(f2 q a b).1]
theorem mEmp_q {M N : M3} (h : Hm M N) (f : Int) : mEmp N f = mEmp M f := by unfold mEmp; rw [h 59 (by decide)]
theorem mFo_q {M N : M3} (h : Hm M N) (f w : Int) : mFo N f w = mFo M f w := by unfold mFo; simp only [mRights_q h, mEmp_q h, mByT_q h, mHow_q h, mLate_q h, mTrue_q h, h 56 (by decide), h 57 (by decide), h 58 (by decide), h 60 (by decide), h 61 (by decide), h 63 (by decide)]
def a_formIs (M : M3) (x1 x2 : Int) : Int := if (0 ≤ x1 ∧ x1 < M 44 0 18) ∧ (0 ≤ x2 ∧ x2 ≤ 11) then (if M 57 0 x1 ≤ mNow M then mFo M x1 x2 else -3) else -2
theorem c_formIs {E : E3} {Q : Q3} {M : M3} {x1 x2 : Int} (hI : Inv M) (hx1 : -2147483648 ≤ x1 ∧ x1 ≤ 2147483647) (hx2 : -2147483648 ≤ x2 ∧ x2 ≤ 2147483647) (k : ∀ (N : M3), Inv N → Hm M N → Q (some (vI (a_formIs M x1 x2))) N) : C3 E YX11_formIs [vR 0 0, vI x1, vI x2] M Q := by
  refine c3_rm fun hM => ?_
  have hf1 := hI.1.1.2.2.2.1.1
  have hf2 := hI.1.1.2.2.2.1.2.1
  have hnow := hI.1.1.now
  unfold a_formIs mFo at k
  by_cases hv : 0 ≤ x1 ∧ x1 < M 44 0 18
  · have g1 := hI.1.1.how hv.1 hv.2
    have g2 := mHow_v hI.1.1 hv.1 hv.2
    have g3 : 0 < mHow M x1 → M 18 x1 5 = M 60 0 x1 ∧ M 18 x1 6 = M 61 0 x1 ∧ (M 18 x1 7 = 1 ↔ mHow M x1 = 1) ∧ M 18 x1 8 = M 63 0 x1 := fun z => by
      obtain ⟨a, b, c, d, e⟩ := hI.1.1.rd hv.1 hv.2 z
      exact ⟨a, b, c, d⟩
    have g4 := hI.1.2 x1 hv.1 hv.2
    have g5 := emp_is hI.1.1 hv.1 hv.2
    have g6 : mLck M x1 = 0 ↔ mByT M x1 := (mLck_c M x1).1
    have g7 := (mLck_c M x1).2.1
    obtain ⟨⟨f1, f2, f3, f4⟩, _, _, f7, _⟩ := hI.1.1.f hv.1 hv.2
    refine sX11_formIs ?_
    refine ⟨?_, ?_⟩
    · first | omega | exact ⟨hI.2.1, hI.1, by omega⟩ | exact ⟨hI.2.1, hI.1.1, by omega⟩
    refine ⟨fun c1 => ?_, fun c1 => ?_⟩
    · first
      | (refine qI ?_ (k _ (hI.c he1 hp1) he1.hm)
         (repeat (first | rw [if_pos (by omega)] | rw [if_neg (by omega)]))
         all_goals (first | rfl | omega | rw [if_pos (g6.mp (by omega))] | rw [if_neg (fun z => absurd (g6.mpr z) (by omega))] | rw [if_pos (by assumption)] | rw [if_neg (by assumption)]))
      | (refine qI ?_ (k _ hI Hm.rf)
         (repeat (first | rw [if_pos (by omega)] | rw [if_neg (by omega)]))
         all_goals (first | rfl | omega | rw [if_pos (g6.mp (by omega))] | rw [if_neg (fun z => absurd (g6.mpr z) (by omega))] | rw [if_pos (by assumption)] | rw [if_neg (by assumption)]))
      | (exfalso; omega)
    · refine ⟨fun c2 => ?_, fun c2 => ?_⟩
      · first
        | (refine qI ?_ (k _ (hI.c he1 hp1) he1.hm)
           (repeat (first | rw [if_pos (by omega)] | rw [if_neg (by omega)]))
           all_goals (first | rfl | omega | rw [if_pos (g6.mp (by omega))] | rw [if_neg (fun z => absurd (g6.mpr z) (by omega))] | rw [if_pos (by assumption)] | rw [if_neg (by assumption)]))
        | (refine qI ?_ (k _ hI Hm.rf)
           (repeat (first | rw [if_pos (by omega)] | rw [if_neg (by omega)]))
           all_goals (first | rfl | omega | rw [if_pos (g6.mp (by omega))] | rw [if_neg (fun z => absurd (g6.mpr z) (by omega))] | rw [if_pos (by assumption)] | rw [if_neg (by assumption)]))
        | (exfalso; omega)
      · refine ⟨?_, ?_⟩
        · first | omega | exact ⟨hI.2.1, hI.1, by omega⟩ | exact ⟨hI.2.1, hI.1.1, by omega⟩
        refine ⟨fun c3 => ?_, fun c3 => ?_⟩
        · refine ⟨?_, ?_⟩
          · first | omega | exact ⟨hI.2.1, hI.1, by omega⟩ | exact ⟨hI.2.1, hI.1.1, by omega⟩
          refine ⟨fun c4 => ?_, fun c4 => ?_⟩
          · refine ⟨?_, ?_⟩
            · first | omega | exact ⟨hI.2.1, hI.1, by omega⟩ | exact ⟨hI.2.1, hI.1.1, by omega⟩
            refine ⟨fun c5 => ?_, fun c5 => ?_⟩
            · first
              | (refine qI ?_ (k _ (hI.c he1 hp1) he1.hm)
                 (repeat (first | rw [if_pos (by omega)] | rw [if_neg (by omega)]))
                 all_goals (first | rfl | omega | rw [if_pos (g6.mp (by omega))] | rw [if_neg (fun z => absurd (g6.mpr z) (by omega))] | rw [if_pos (by assumption)] | rw [if_neg (by assumption)]))
              | (refine qI ?_ (k _ hI Hm.rf)
                 (repeat (first | rw [if_pos (by omega)] | rw [if_neg (by omega)]))
                 all_goals (first | rfl | omega | rw [if_pos (g6.mp (by omega))] | rw [if_neg (fun z => absurd (g6.mpr z) (by omega))] | rw [if_pos (by assumption)] | rw [if_neg (by assumption)]))
              | (exfalso; omega)
            · refine ⟨fun c6 => ?_, fun c6 => ?_⟩
              · first
                | (refine qI ?_ (k _ (hI.c he1 hp1) he1.hm)
                   (repeat (first | rw [if_pos (by omega)] | rw [if_neg (by omega)]))
                   all_goals (first | rfl | omega | rw [if_pos (g6.mp (by omega))] | rw [if_neg (fun z => absurd (g6.mpr z) (by omega))] | rw [if_pos (by assumption)] | rw [if_neg (by assumption)]))
                | (refine qI ?_ (k _ hI Hm.rf)
                   (repeat (first | rw [if_pos (by omega)] | rw [if_neg (by omega)]))
                   all_goals (first | rfl | omega | rw [if_pos (g6.mp (by omega))] | rw [if_neg (fun z => absurd (g6.mpr z) (by omega))] | rw [if_pos (by assumption)] | rw [if_neg (by assumption)]))
                | (exfalso; omega)
              · refine ⟨fun c7 => ?_, fun c7 => ?_⟩
                · first
                  | (refine qI ?_ (k _ (hI.c he1 hp1) he1.hm)
                     (repeat (first | rw [if_pos (by omega)] | rw [if_neg (by omega)]))
                     all_goals (first | rfl | omega | rw [if_pos (g6.mp (by omega))] | rw [if_neg (fun z => absurd (g6.mpr z) (by omega))] | rw [if_pos (by assumption)] | rw [if_neg (by assumption)]))
                  | (refine qI ?_ (k _ hI Hm.rf)
                     (repeat (first | rw [if_pos (by omega)] | rw [if_neg (by omega)]))
                     all_goals (first | rfl | omega | rw [if_pos (g6.mp (by omega))] | rw [if_neg (fun z => absurd (g6.mpr z) (by omega))] | rw [if_pos (by assumption)] | rw [if_neg (by assumption)]))
                  | (exfalso; omega)
                · refine ⟨fun c8 => ?_, fun c8 => ?_⟩
                  · first
                    | (refine qI ?_ (k _ (hI.c he1 hp1) he1.hm)
                       (repeat (first | rw [if_pos (by omega)] | rw [if_neg (by omega)]))
                       all_goals (first | rfl | omega | rw [if_pos (g6.mp (by omega))] | rw [if_neg (fun z => absurd (g6.mpr z) (by omega))] | rw [if_pos (by assumption)] | rw [if_neg (by assumption)]))
                    | (refine qI ?_ (k _ hI Hm.rf)
                       (repeat (first | rw [if_pos (by omega)] | rw [if_neg (by omega)]))
                       all_goals (first | rfl | omega | rw [if_pos (g6.mp (by omega))] | rw [if_neg (fun z => absurd (g6.mpr z) (by omega))] | rw [if_pos (by assumption)] | rw [if_neg (by assumption)]))
                    | (exfalso; omega)
                  · refine ⟨fun c9 => ?_, fun c9 => ?_⟩
                    · first
                      | (refine qI ?_ (k _ (hI.c he1 hp1) he1.hm)
                         (repeat (first | rw [if_pos (by omega)] | rw [if_neg (by omega)]))
                         all_goals (first | rfl | omega | rw [if_pos (g6.mp (by omega))] | rw [if_neg (fun z => absurd (g6.mpr z) (by omega))] | rw [if_pos (by assumption)] | rw [if_neg (by assumption)]))
                      | (refine qI ?_ (k _ hI Hm.rf)
                         (repeat (first | rw [if_pos (by omega)] | rw [if_neg (by omega)]))
                         all_goals (first | rfl | omega | rw [if_pos (g6.mp (by omega))] | rw [if_neg (fun z => absurd (g6.mpr z) (by omega))] | rw [if_pos (by assumption)] | rw [if_neg (by assumption)]))
                      | (exfalso; omega)
                    · refine ⟨fun c10 => ?_, fun c10 => ?_⟩
                      · refine ⟨fun c11 => ?_, fun c11 => ?_⟩
                        · first
                          | (refine qI ?_ (k _ (hI.c he1 hp1) he1.hm)
                             (repeat (first | rw [if_pos (by omega)] | rw [if_neg (by omega)]))
                             all_goals (first | rfl | omega | rw [if_pos (g6.mp (by omega))] | rw [if_neg (fun z => absurd (g6.mpr z) (by omega))] | rw [if_pos (by assumption)] | rw [if_neg (by assumption)]))
                          | (refine qI ?_ (k _ hI Hm.rf)
                             (repeat (first | rw [if_pos (by omega)] | rw [if_neg (by omega)]))
                             all_goals (first | rfl | omega | rw [if_pos (g6.mp (by omega))] | rw [if_neg (fun z => absurd (g6.mpr z) (by omega))] | rw [if_pos (by assumption)] | rw [if_neg (by assumption)]))
                          | (exfalso; omega)
                        · first
                          | (refine qI ?_ (k _ (hI.c he1 hp1) he1.hm)
                             (repeat (first | rw [if_pos (by omega)] | rw [if_neg (by omega)]))
                             all_goals (first | rfl | omega | rw [if_pos (g6.mp (by omega))] | rw [if_neg (fun z => absurd (g6.mpr z) (by omega))] | rw [if_pos (by assumption)] | rw [if_neg (by assumption)]))
                          | (refine qI ?_ (k _ hI Hm.rf)
                             (repeat (first | rw [if_pos (by omega)] | rw [if_neg (by omega)]))
                             all_goals (first | rfl | omega | rw [if_pos (g6.mp (by omega))] | rw [if_neg (fun z => absurd (g6.mpr z) (by omega))] | rw [if_pos (by assumption)] | rw [if_neg (by assumption)]))
                          | (exfalso; omega)
                      · refine ⟨fun c11 => ?_, fun c11 => ?_⟩
                        · refine ⟨fun c12 => ?_, fun c12 => ?_⟩
                          · first
                            | (refine qI ?_ (k _ (hI.c he1 hp1) he1.hm)
                               (repeat (first | rw [if_pos (by omega)] | rw [if_neg (by omega)]))
                               all_goals (first | rfl | omega | rw [if_pos (g6.mp (by omega))] | rw [if_neg (fun z => absurd (g6.mpr z) (by omega))] | rw [if_pos (by assumption)] | rw [if_neg (by assumption)]))
                            | (refine qI ?_ (k _ hI Hm.rf)
                               (repeat (first | rw [if_pos (by omega)] | rw [if_neg (by omega)]))
                               all_goals (first | rfl | omega | rw [if_pos (g6.mp (by omega))] | rw [if_neg (fun z => absurd (g6.mpr z) (by omega))] | rw [if_pos (by assumption)] | rw [if_neg (by assumption)]))
                            | (exfalso; omega)
                          · first
                            | (refine qI ?_ (k _ (hI.c he1 hp1) he1.hm)
                               (repeat (first | rw [if_pos (by omega)] | rw [if_neg (by omega)]))
                               all_goals (first | rfl | omega | rw [if_pos (g6.mp (by omega))] | rw [if_neg (fun z => absurd (g6.mpr z) (by omega))] | rw [if_pos (by assumption)] | rw [if_neg (by assumption)]))
                            | (refine qI ?_ (k _ hI Hm.rf)
                               (repeat (first | rw [if_pos (by omega)] | rw [if_neg (by omega)]))
                               all_goals (first | rfl | omega | rw [if_pos (g6.mp (by omega))] | rw [if_neg (fun z => absurd (g6.mpr z) (by omega))] | rw [if_pos (by assumption)] | rw [if_neg (by assumption)]))
                            | (exfalso; omega)
                        · refine ⟨fun c12 => ?_, fun c12 => ?_⟩
                          · refine ⟨fun c13 => ?_, fun c13 => ?_⟩
                            · first
                              | (refine qI ?_ (k _ (hI.c he1 hp1) he1.hm)
                                 (repeat (first | rw [if_pos (by omega)] | rw [if_neg (by omega)]))
                                 all_goals (first | rfl | omega | rw [if_pos (g6.mp (by omega))] | rw [if_neg (fun z => absurd (g6.mpr z) (by omega))] | rw [if_pos (by assumption)] | rw [if_neg (by assumption)]))
                              | (refine qI ?_ (k _ hI Hm.rf)
                                 (repeat (first | rw [if_pos (by omega)] | rw [if_neg (by omega)]))
                                 all_goals (first | rfl | omega | rw [if_pos (g6.mp (by omega))] | rw [if_neg (fun z => absurd (g6.mpr z) (by omega))] | rw [if_pos (by assumption)] | rw [if_neg (by assumption)]))
                              | (exfalso; omega)
                            · first
                              | (refine qI ?_ (k _ (hI.c he1 hp1) he1.hm)
                                 (repeat (first | rw [if_pos (by omega)] | rw [if_neg (by omega)]))
                                 all_goals (first | rfl | omega | rw [if_pos (g6.mp (by omega))] | rw [if_neg (fun z => absurd (g6.mpr z) (by omega))] | rw [if_pos (by assumption)] | rw [if_neg (by assumption)]))
                              | (refine qI ?_ (k _ hI Hm.rf)
                                 (repeat (first | rw [if_pos (by omega)] | rw [if_neg (by omega)]))
                                 all_goals (first | rfl | omega | rw [if_pos (g6.mp (by omega))] | rw [if_neg (fun z => absurd (g6.mpr z) (by omega))] | rw [if_pos (by assumption)] | rw [if_neg (by assumption)]))
                              | (exfalso; omega)
                          · refine ⟨fun c13 => ?_, fun c13 => ?_⟩
                            · refine ⟨fun c14 => ?_, fun c14 => ?_⟩
                              · refine ⟨fun c15 => ?_, fun c15 => ?_⟩
                                · first
                                  | (refine qI ?_ (k _ (hI.c he1 hp1) he1.hm)
                                     (repeat (first | rw [if_pos (by omega)] | rw [if_neg (by omega)]))
                                     all_goals (first | rfl | omega | rw [if_pos (g6.mp (by omega))] | rw [if_neg (fun z => absurd (g6.mpr z) (by omega))] | rw [if_pos (by assumption)] | rw [if_neg (by assumption)]))
                                  | (refine qI ?_ (k _ hI Hm.rf)
                                     (repeat (first | rw [if_pos (by omega)] | rw [if_neg (by omega)]))
                                     all_goals (first | rfl | omega | rw [if_pos (g6.mp (by omega))] | rw [if_neg (fun z => absurd (g6.mpr z) (by omega))] | rw [if_pos (by assumption)] | rw [if_neg (by assumption)]))
                                  | (exfalso; omega)
                                · first
                                  | (refine qI ?_ (k _ (hI.c he1 hp1) he1.hm)
                                     (repeat (first | rw [if_pos (by omega)] | rw [if_neg (by omega)]))
                                     all_goals (first | rfl | omega | rw [if_pos (g6.mp (by omega))] | rw [if_neg (fun z => absurd (g6.mpr z) (by omega))] | rw [if_pos (by assumption)] | rw [if_neg (by assumption)]))
                                  | (refine qI ?_ (k _ hI Hm.rf)
                                     (repeat (first | rw [if_pos (by omega)] | rw [if_neg (by omega)]))
                                     all_goals (first | rfl | omega | rw [if_pos (g6.mp (by omega))] | rw [if_neg (fun z => absurd (g6.mpr z) (by omega))] | rw [if_pos (by assumption)] | rw [if_neg (by assumption)]))
                                  | (exfalso; omega)
                              · first
                                | (refine qI ?_ (k _ (hI.c he1 hp1) he1.hm)
                                   (repeat (first | rw [if_pos (by omega)] | rw [if_neg (by omega)]))
                                   all_goals (first | rfl | omega | rw [if_pos (g6.mp (by omega))] | rw [if_neg (fun z => absurd (g6.mpr z) (by omega))] | rw [if_pos (by assumption)] | rw [if_neg (by assumption)]))
                                | (refine qI ?_ (k _ hI Hm.rf)
                                   (repeat (first | rw [if_pos (by omega)] | rw [if_neg (by omega)]))
                                   all_goals (first | rfl | omega | rw [if_pos (g6.mp (by omega))] | rw [if_neg (fun z => absurd (g6.mpr z) (by omega))] | rw [if_pos (by assumption)] | rw [if_neg (by assumption)]))
                                | (exfalso; omega)
                            · refine ⟨fun c14 => ?_, fun c14 => ?_⟩
                              · refine ⟨fun c15 => ?_, fun c15 => ?_⟩
                                · first
                                  | (refine qI ?_ (k _ (hI.c he1 hp1) he1.hm)
                                     (repeat (first | rw [if_pos (by omega)] | rw [if_neg (by omega)]))
                                     all_goals (first | rfl | omega | rw [if_pos (g6.mp (by omega))] | rw [if_neg (fun z => absurd (g6.mpr z) (by omega))] | rw [if_pos (by assumption)] | rw [if_neg (by assumption)]))
                                  | (refine qI ?_ (k _ hI Hm.rf)
                                     (repeat (first | rw [if_pos (by omega)] | rw [if_neg (by omega)]))
                                     all_goals (first | rfl | omega | rw [if_pos (g6.mp (by omega))] | rw [if_neg (fun z => absurd (g6.mpr z) (by omega))] | rw [if_pos (by assumption)] | rw [if_neg (by assumption)]))
                                  | (exfalso; omega)
                                · first
                                  | (refine qI ?_ (k _ (hI.c he1 hp1) he1.hm)
                                     (repeat (first | rw [if_pos (by omega)] | rw [if_neg (by omega)]))
                                     all_goals (first | rfl | omega | rw [if_pos (g6.mp (by omega))] | rw [if_neg (fun z => absurd (g6.mpr z) (by omega))] | rw [if_pos (by assumption)] | rw [if_neg (by assumption)]))
                                  | (refine qI ?_ (k _ hI Hm.rf)
                                     (repeat (first | rw [if_pos (by omega)] | rw [if_neg (by omega)]))
                                     all_goals (first | rfl | omega | rw [if_pos (g6.mp (by omega))] | rw [if_neg (fun z => absurd (g6.mpr z) (by omega))] | rw [if_pos (by assumption)] | rw [if_neg (by assumption)]))
                                  | (exfalso; omega)
                              · refine ⟨fun c15 => ?_, fun c15 => ?_⟩
                                · refine ⟨?_, ?_⟩
                                  · first | omega | exact ⟨hI.2.1, hI.1, by omega⟩ | exact ⟨hI.2.1, hI.1.1, by omega⟩
                                  intro N1 hN1 he1 hp1
                                  first
                                  | (refine qI ?_ (k _ (hI.c he1 hp1) he1.hm)
                                     (repeat (first | rw [if_pos (by omega)] | rw [if_neg (by omega)]))
                                     all_goals (first | rfl | omega | rw [if_pos (g6.mp (by omega))] | rw [if_neg (fun z => absurd (g6.mpr z) (by omega))] | rw [if_pos (by assumption)] | rw [if_neg (by assumption)]))
                                  | (refine qI ?_ (k _ hI Hm.rf)
                                     (repeat (first | rw [if_pos (by omega)] | rw [if_neg (by omega)]))
                                     all_goals (first | rfl | omega | rw [if_pos (g6.mp (by omega))] | rw [if_neg (fun z => absurd (g6.mpr z) (by omega))] | rw [if_pos (by assumption)] | rw [if_neg (by assumption)]))
                                  | (exfalso; omega)
                                · refine ⟨?_, ?_⟩
                                  · first | omega | exact ⟨hI.2.1, hI.1, by omega⟩ | exact ⟨hI.2.1, hI.1.1, by omega⟩
                                  intro N1 hN1 he1 hp1
                                  refine ⟨fun c16 => ?_, fun c16 => ?_⟩
                                  · first
                                    | (refine qI ?_ (k _ (hI.c he1 hp1) he1.hm)
                                       (repeat (first | rw [if_pos (by omega)] | rw [if_neg (by omega)]))
                                       all_goals (first | rfl | omega | rw [if_pos (g6.mp (by omega))] | rw [if_neg (fun z => absurd (g6.mpr z) (by omega))] | rw [if_pos (by assumption)] | rw [if_neg (by assumption)]))
                                    | (refine qI ?_ (k _ hI Hm.rf)
                                       (repeat (first | rw [if_pos (by omega)] | rw [if_neg (by omega)]))
                                       all_goals (first | rfl | omega | rw [if_pos (g6.mp (by omega))] | rw [if_neg (fun z => absurd (g6.mpr z) (by omega))] | rw [if_pos (by assumption)] | rw [if_neg (by assumption)]))
                                    | (exfalso; omega)
                                  · first
                                    | (refine qI ?_ (k _ (hI.c he1 hp1) he1.hm)
                                       (repeat (first | rw [if_pos (by omega)] | rw [if_neg (by omega)]))
                                       all_goals (first | rfl | omega | rw [if_pos (g6.mp (by omega))] | rw [if_neg (fun z => absurd (g6.mpr z) (by omega))] | rw [if_pos (by assumption)] | rw [if_neg (by assumption)]))
                                    | (refine qI ?_ (k _ hI Hm.rf)
                                       (repeat (first | rw [if_pos (by omega)] | rw [if_neg (by omega)]))
                                       all_goals (first | rfl | omega | rw [if_pos (g6.mp (by omega))] | rw [if_neg (fun z => absurd (g6.mpr z) (by omega))] | rw [if_pos (by assumption)] | rw [if_neg (by assumption)]))
                                    | (exfalso; omega)
          · first
            | (refine qI ?_ (k _ (hI.c he1 hp1) he1.hm)
               (repeat (first | rw [if_pos (by omega)] | rw [if_neg (by omega)]))
               all_goals (first | rfl | omega | rw [if_pos (g6.mp (by omega))] | rw [if_neg (fun z => absurd (g6.mpr z) (by omega))] | rw [if_pos (by assumption)] | rw [if_neg (by assumption)]))
            | (refine qI ?_ (k _ hI Hm.rf)
               (repeat (first | rw [if_pos (by omega)] | rw [if_neg (by omega)]))
               all_goals (first | rfl | omega | rw [if_pos (g6.mp (by omega))] | rw [if_neg (fun z => absurd (g6.mpr z) (by omega))] | rw [if_pos (by assumption)] | rw [if_neg (by assumption)]))
            | (exfalso; omega)
        · first
          | (refine qI ?_ (k _ (hI.c he1 hp1) he1.hm)
             (repeat (first | rw [if_pos (by omega)] | rw [if_neg (by omega)]))
             all_goals (first | rfl | omega | rw [if_pos (g6.mp (by omega))] | rw [if_neg (fun z => absurd (g6.mpr z) (by omega))] | rw [if_pos (by assumption)] | rw [if_neg (by assumption)]))
          | (refine qI ?_ (k _ hI Hm.rf)
             (repeat (first | rw [if_pos (by omega)] | rw [if_neg (by omega)]))
             all_goals (first | rfl | omega | rw [if_pos (g6.mp (by omega))] | rw [if_neg (fun z => absurd (g6.mpr z) (by omega))] | rw [if_pos (by assumption)] | rw [if_neg (by assumption)]))
          | (exfalso; omega)
  · skip
    refine sX11_formIs ?_
    refine ⟨?_, ?_⟩
    · first | omega | exact ⟨hI.2.1, hI.1, by omega⟩ | exact ⟨hI.2.1, hI.1.1, by omega⟩
    refine ⟨fun c1 => ?_, fun c1 => ?_⟩
    · first
      | (refine qI ?_ (k _ (hI.c he1 hp1) he1.hm)
         (repeat (first | rw [if_pos (by omega)] | rw [if_neg (by omega)]))
         all_goals (first | rfl | omega | rw [if_pos (g6.mp (by omega))] | rw [if_neg (fun z => absurd (g6.mpr z) (by omega))] | rw [if_pos (by assumption)] | rw [if_neg (by assumption)]))
      | (refine qI ?_ (k _ hI Hm.rf)
         (repeat (first | rw [if_pos (by omega)] | rw [if_neg (by omega)]))
         all_goals (first | rfl | omega | rw [if_pos (g6.mp (by omega))] | rw [if_neg (fun z => absurd (g6.mpr z) (by omega))] | rw [if_pos (by assumption)] | rw [if_neg (by assumption)]))
      | (exfalso; omega)
    · refine ⟨fun c2 => ?_, fun c2 => ?_⟩
      · first
        | (refine qI ?_ (k _ (hI.c he1 hp1) he1.hm)
           (repeat (first | rw [if_pos (by omega)] | rw [if_neg (by omega)]))
           all_goals (first | rfl | omega | rw [if_pos (g6.mp (by omega))] | rw [if_neg (fun z => absurd (g6.mpr z) (by omega))] | rw [if_pos (by assumption)] | rw [if_neg (by assumption)]))
        | (refine qI ?_ (k _ hI Hm.rf)
           (repeat (first | rw [if_pos (by omega)] | rw [if_neg (by omega)]))
           all_goals (first | rfl | omega | rw [if_pos (g6.mp (by omega))] | rw [if_neg (fun z => absurd (g6.mpr z) (by omega))] | rw [if_pos (by assumption)] | rw [if_neg (by assumption)]))
        | (exfalso; omega)
      · refine ⟨?_, ?_⟩
        · first | omega | exact ⟨hI.2.1, hI.1, by omega⟩ | exact ⟨hI.2.1, hI.1.1, by omega⟩
        refine ⟨fun c3 => ?_, fun c3 => ?_⟩
        · refine ⟨?_, ?_⟩
          · first | omega | exact ⟨hI.2.1, hI.1, by omega⟩ | exact ⟨hI.2.1, hI.1.1, by omega⟩
          refine ⟨fun c4 => ?_, fun c4 => ?_⟩
          · refine ⟨?_, ?_⟩
            · first | omega | exact ⟨hI.2.1, hI.1, by omega⟩ | exact ⟨hI.2.1, hI.1.1, by omega⟩
            refine ⟨fun c5 => ?_, fun c5 => ?_⟩
            · first
              | (refine qI ?_ (k _ (hI.c he1 hp1) he1.hm)
                 (repeat (first | rw [if_pos (by omega)] | rw [if_neg (by omega)]))
                 all_goals (first | rfl | omega | rw [if_pos (g6.mp (by omega))] | rw [if_neg (fun z => absurd (g6.mpr z) (by omega))] | rw [if_pos (by assumption)] | rw [if_neg (by assumption)]))
              | (refine qI ?_ (k _ hI Hm.rf)
                 (repeat (first | rw [if_pos (by omega)] | rw [if_neg (by omega)]))
                 all_goals (first | rfl | omega | rw [if_pos (g6.mp (by omega))] | rw [if_neg (fun z => absurd (g6.mpr z) (by omega))] | rw [if_pos (by assumption)] | rw [if_neg (by assumption)]))
              | (exfalso; omega)
            · refine ⟨fun c6 => ?_, fun c6 => ?_⟩
              · first
                | (refine qI ?_ (k _ (hI.c he1 hp1) he1.hm)
                   (repeat (first | rw [if_pos (by omega)] | rw [if_neg (by omega)]))
                   all_goals (first | rfl | omega | rw [if_pos (g6.mp (by omega))] | rw [if_neg (fun z => absurd (g6.mpr z) (by omega))] | rw [if_pos (by assumption)] | rw [if_neg (by assumption)]))
                | (refine qI ?_ (k _ hI Hm.rf)
                   (repeat (first | rw [if_pos (by omega)] | rw [if_neg (by omega)]))
                   all_goals (first | rfl | omega | rw [if_pos (g6.mp (by omega))] | rw [if_neg (fun z => absurd (g6.mpr z) (by omega))] | rw [if_pos (by assumption)] | rw [if_neg (by assumption)]))
                | (exfalso; omega)
              · refine ⟨fun c7 => ?_, fun c7 => ?_⟩
                · first
                  | (refine qI ?_ (k _ (hI.c he1 hp1) he1.hm)
                     (repeat (first | rw [if_pos (by omega)] | rw [if_neg (by omega)]))
                     all_goals (first | rfl | omega | rw [if_pos (g6.mp (by omega))] | rw [if_neg (fun z => absurd (g6.mpr z) (by omega))] | rw [if_pos (by assumption)] | rw [if_neg (by assumption)]))
                  | (refine qI ?_ (k _ hI Hm.rf)
                     (repeat (first | rw [if_pos (by omega)] | rw [if_neg (by omega)]))
                     all_goals (first | rfl | omega | rw [if_pos (g6.mp (by omega))] | rw [if_neg (fun z => absurd (g6.mpr z) (by omega))] | rw [if_pos (by assumption)] | rw [if_neg (by assumption)]))
                  | (exfalso; omega)
                · refine ⟨fun c8 => ?_, fun c8 => ?_⟩
                  · first
                    | (refine qI ?_ (k _ (hI.c he1 hp1) he1.hm)
                       (repeat (first | rw [if_pos (by omega)] | rw [if_neg (by omega)]))
                       all_goals (first | rfl | omega | rw [if_pos (g6.mp (by omega))] | rw [if_neg (fun z => absurd (g6.mpr z) (by omega))] | rw [if_pos (by assumption)] | rw [if_neg (by assumption)]))
                    | (refine qI ?_ (k _ hI Hm.rf)
                       (repeat (first | rw [if_pos (by omega)] | rw [if_neg (by omega)]))
                       all_goals (first | rfl | omega | rw [if_pos (g6.mp (by omega))] | rw [if_neg (fun z => absurd (g6.mpr z) (by omega))] | rw [if_pos (by assumption)] | rw [if_neg (by assumption)]))
                    | (exfalso; omega)
                  · refine ⟨fun c9 => ?_, fun c9 => ?_⟩
                    · first
                      | (refine qI ?_ (k _ (hI.c he1 hp1) he1.hm)
                         (repeat (first | rw [if_pos (by omega)] | rw [if_neg (by omega)]))
                         all_goals (first | rfl | omega | rw [if_pos (g6.mp (by omega))] | rw [if_neg (fun z => absurd (g6.mpr z) (by omega))] | rw [if_pos (by assumption)] | rw [if_neg (by assumption)]))
                      | (refine qI ?_ (k _ hI Hm.rf)
                         (repeat (first | rw [if_pos (by omega)] | rw [if_neg (by omega)]))
                         all_goals (first | rfl | omega | rw [if_pos (g6.mp (by omega))] | rw [if_neg (fun z => absurd (g6.mpr z) (by omega))] | rw [if_pos (by assumption)] | rw [if_neg (by assumption)]))
                      | (exfalso; omega)
                    · refine ⟨fun c10 => ?_, fun c10 => ?_⟩
                      · refine ⟨fun c11 => ?_, fun c11 => ?_⟩
                        · first
                          | (refine qI ?_ (k _ (hI.c he1 hp1) he1.hm)
                             (repeat (first | rw [if_pos (by omega)] | rw [if_neg (by omega)]))
                             all_goals (first | rfl | omega | rw [if_pos (g6.mp (by omega))] | rw [if_neg (fun z => absurd (g6.mpr z) (by omega))] | rw [if_pos (by assumption)] | rw [if_neg (by assumption)]))
                          | (refine qI ?_ (k _ hI Hm.rf)
                             (repeat (first | rw [if_pos (by omega)] | rw [if_neg (by omega)]))
                             all_goals (first | rfl | omega | rw [if_pos (g6.mp (by omega))] | rw [if_neg (fun z => absurd (g6.mpr z) (by omega))] | rw [if_pos (by assumption)] | rw [if_neg (by assumption)]))
                          | (exfalso; omega)
                        · first
                          | (refine qI ?_ (k _ (hI.c he1 hp1) he1.hm)
                             (repeat (first | rw [if_pos (by omega)] | rw [if_neg (by omega)]))
                             all_goals (first | rfl | omega | rw [if_pos (g6.mp (by omega))] | rw [if_neg (fun z => absurd (g6.mpr z) (by omega))] | rw [if_pos (by assumption)] | rw [if_neg (by assumption)]))
                          | (refine qI ?_ (k _ hI Hm.rf)
                             (repeat (first | rw [if_pos (by omega)] | rw [if_neg (by omega)]))
                             all_goals (first | rfl | omega | rw [if_pos (g6.mp (by omega))] | rw [if_neg (fun z => absurd (g6.mpr z) (by omega))] | rw [if_pos (by assumption)] | rw [if_neg (by assumption)]))
                          | (exfalso; omega)
                      · refine ⟨fun c11 => ?_, fun c11 => ?_⟩
                        · refine ⟨fun c12 => ?_, fun c12 => ?_⟩
                          · first
                            | (refine qI ?_ (k _ (hI.c he1 hp1) he1.hm)
                               (repeat (first | rw [if_pos (by omega)] | rw [if_neg (by omega)]))
                               all_goals (first | rfl | omega | rw [if_pos (g6.mp (by omega))] | rw [if_neg (fun z => absurd (g6.mpr z) (by omega))] | rw [if_pos (by assumption)] | rw [if_neg (by assumption)]))
                            | (refine qI ?_ (k _ hI Hm.rf)
                               (repeat (first | rw [if_pos (by omega)] | rw [if_neg (by omega)]))
                               all_goals (first | rfl | omega | rw [if_pos (g6.mp (by omega))] | rw [if_neg (fun z => absurd (g6.mpr z) (by omega))] | rw [if_pos (by assumption)] | rw [if_neg (by assumption)]))
                            | (exfalso; omega)
                          · first
                            | (refine qI ?_ (k _ (hI.c he1 hp1) he1.hm)
                               (repeat (first | rw [if_pos (by omega)] | rw [if_neg (by omega)]))
                               all_goals (first | rfl | omega | rw [if_pos (g6.mp (by omega))] | rw [if_neg (fun z => absurd (g6.mpr z) (by omega))] | rw [if_pos (by assumption)] | rw [if_neg (by assumption)]))
                            | (refine qI ?_ (k _ hI Hm.rf)
                               (repeat (first | rw [if_pos (by omega)] | rw [if_neg (by omega)]))
                               all_goals (first | rfl | omega | rw [if_pos (g6.mp (by omega))] | rw [if_neg (fun z => absurd (g6.mpr z) (by omega))] | rw [if_pos (by assumption)] | rw [if_neg (by assumption)]))
                            | (exfalso; omega)
                        · refine ⟨fun c12 => ?_, fun c12 => ?_⟩
                          · refine ⟨fun c13 => ?_, fun c13 => ?_⟩
                            · first
                              | (refine qI ?_ (k _ (hI.c he1 hp1) he1.hm)
                                 (repeat (first | rw [if_pos (by omega)] | rw [if_neg (by omega)]))
                                 all_goals (first | rfl | omega | rw [if_pos (g6.mp (by omega))] | rw [if_neg (fun z => absurd (g6.mpr z) (by omega))] | rw [if_pos (by assumption)] | rw [if_neg (by assumption)]))
                              | (refine qI ?_ (k _ hI Hm.rf)
                                 (repeat (first | rw [if_pos (by omega)] | rw [if_neg (by omega)]))
                                 all_goals (first | rfl | omega | rw [if_pos (g6.mp (by omega))] | rw [if_neg (fun z => absurd (g6.mpr z) (by omega))] | rw [if_pos (by assumption)] | rw [if_neg (by assumption)]))
                              | (exfalso; omega)
                            · first
                              | (refine qI ?_ (k _ (hI.c he1 hp1) he1.hm)
                                 (repeat (first | rw [if_pos (by omega)] | rw [if_neg (by omega)]))
                                 all_goals (first | rfl | omega | rw [if_pos (g6.mp (by omega))] | rw [if_neg (fun z => absurd (g6.mpr z) (by omega))] | rw [if_pos (by assumption)] | rw [if_neg (by assumption)]))
                              | (refine qI ?_ (k _ hI Hm.rf)
                                 (repeat (first | rw [if_pos (by omega)] | rw [if_neg (by omega)]))
                                 all_goals (first | rfl | omega | rw [if_pos (g6.mp (by omega))] | rw [if_neg (fun z => absurd (g6.mpr z) (by omega))] | rw [if_pos (by assumption)] | rw [if_neg (by assumption)]))
                              | (exfalso; omega)
                          · refine ⟨fun c13 => ?_, fun c13 => ?_⟩
                            · refine ⟨fun c14 => ?_, fun c14 => ?_⟩
                              · refine ⟨fun c15 => ?_, fun c15 => ?_⟩
                                · first
                                  | (refine qI ?_ (k _ (hI.c he1 hp1) he1.hm)
                                     (repeat (first | rw [if_pos (by omega)] | rw [if_neg (by omega)]))
                                     all_goals (first | rfl | omega | rw [if_pos (g6.mp (by omega))] | rw [if_neg (fun z => absurd (g6.mpr z) (by omega))] | rw [if_pos (by assumption)] | rw [if_neg (by assumption)]))
                                  | (refine qI ?_ (k _ hI Hm.rf)
                                     (repeat (first | rw [if_pos (by omega)] | rw [if_neg (by omega)]))
                                     all_goals (first | rfl | omega | rw [if_pos (g6.mp (by omega))] | rw [if_neg (fun z => absurd (g6.mpr z) (by omega))] | rw [if_pos (by assumption)] | rw [if_neg (by assumption)]))
                                  | (exfalso; omega)
                                · first
                                  | (refine qI ?_ (k _ (hI.c he1 hp1) he1.hm)
                                     (repeat (first | rw [if_pos (by omega)] | rw [if_neg (by omega)]))
                                     all_goals (first | rfl | omega | rw [if_pos (g6.mp (by omega))] | rw [if_neg (fun z => absurd (g6.mpr z) (by omega))] | rw [if_pos (by assumption)] | rw [if_neg (by assumption)]))
                                  | (refine qI ?_ (k _ hI Hm.rf)
                                     (repeat (first | rw [if_pos (by omega)] | rw [if_neg (by omega)]))
                                     all_goals (first | rfl | omega | rw [if_pos (g6.mp (by omega))] | rw [if_neg (fun z => absurd (g6.mpr z) (by omega))] | rw [if_pos (by assumption)] | rw [if_neg (by assumption)]))
                                  | (exfalso; omega)
                              · first
                                | (refine qI ?_ (k _ (hI.c he1 hp1) he1.hm)
                                   (repeat (first | rw [if_pos (by omega)] | rw [if_neg (by omega)]))
                                   all_goals (first | rfl | omega | rw [if_pos (g6.mp (by omega))] | rw [if_neg (fun z => absurd (g6.mpr z) (by omega))] | rw [if_pos (by assumption)] | rw [if_neg (by assumption)]))
                                | (refine qI ?_ (k _ hI Hm.rf)
                                   (repeat (first | rw [if_pos (by omega)] | rw [if_neg (by omega)]))
                                   all_goals (first | rfl | omega | rw [if_pos (g6.mp (by omega))] | rw [if_neg (fun z => absurd (g6.mpr z) (by omega))] | rw [if_pos (by assumption)] | rw [if_neg (by assumption)]))
                                | (exfalso; omega)
                            · refine ⟨fun c14 => ?_, fun c14 => ?_⟩
                              · refine ⟨fun c15 => ?_, fun c15 => ?_⟩
                                · first
                                  | (refine qI ?_ (k _ (hI.c he1 hp1) he1.hm)
                                     (repeat (first | rw [if_pos (by omega)] | rw [if_neg (by omega)]))
                                     all_goals (first | rfl | omega | rw [if_pos (g6.mp (by omega))] | rw [if_neg (fun z => absurd (g6.mpr z) (by omega))] | rw [if_pos (by assumption)] | rw [if_neg (by assumption)]))
                                  | (refine qI ?_ (k _ hI Hm.rf)
                                     (repeat (first | rw [if_pos (by omega)] | rw [if_neg (by omega)]))
                                     all_goals (first | rfl | omega | rw [if_pos (g6.mp (by omega))] | rw [if_neg (fun z => absurd (g6.mpr z) (by omega))] | rw [if_pos (by assumption)] | rw [if_neg (by assumption)]))
                                  | (exfalso; omega)
                                · first
                                  | (refine qI ?_ (k _ (hI.c he1 hp1) he1.hm)
                                     (repeat (first | rw [if_pos (by omega)] | rw [if_neg (by omega)]))
                                     all_goals (first | rfl | omega | rw [if_pos (g6.mp (by omega))] | rw [if_neg (fun z => absurd (g6.mpr z) (by omega))] | rw [if_pos (by assumption)] | rw [if_neg (by assumption)]))
                                  | (refine qI ?_ (k _ hI Hm.rf)
                                     (repeat (first | rw [if_pos (by omega)] | rw [if_neg (by omega)]))
                                     all_goals (first | rfl | omega | rw [if_pos (g6.mp (by omega))] | rw [if_neg (fun z => absurd (g6.mpr z) (by omega))] | rw [if_pos (by assumption)] | rw [if_neg (by assumption)]))
                                  | (exfalso; omega)
                              · refine ⟨fun c15 => ?_, fun c15 => ?_⟩
                                · refine ⟨?_, ?_⟩
                                  · first | omega | exact ⟨hI.2.1, hI.1, by omega⟩ | exact ⟨hI.2.1, hI.1.1, by omega⟩
                                  intro N1 hN1 he1 hp1
                                  first
                                  | (refine qI ?_ (k _ (hI.c he1 hp1) he1.hm)
                                     (repeat (first | rw [if_pos (by omega)] | rw [if_neg (by omega)]))
                                     all_goals (first | rfl | omega | rw [if_pos (g6.mp (by omega))] | rw [if_neg (fun z => absurd (g6.mpr z) (by omega))] | rw [if_pos (by assumption)] | rw [if_neg (by assumption)]))
                                  | (refine qI ?_ (k _ hI Hm.rf)
                                     (repeat (first | rw [if_pos (by omega)] | rw [if_neg (by omega)]))
                                     all_goals (first | rfl | omega | rw [if_pos (g6.mp (by omega))] | rw [if_neg (fun z => absurd (g6.mpr z) (by omega))] | rw [if_pos (by assumption)] | rw [if_neg (by assumption)]))
                                  | (exfalso; omega)
                                · refine ⟨?_, ?_⟩
                                  · first | omega | exact ⟨hI.2.1, hI.1, by omega⟩ | exact ⟨hI.2.1, hI.1.1, by omega⟩
                                  intro N1 hN1 he1 hp1
                                  refine ⟨fun c16 => ?_, fun c16 => ?_⟩
                                  · first
                                    | (refine qI ?_ (k _ (hI.c he1 hp1) he1.hm)
                                       (repeat (first | rw [if_pos (by omega)] | rw [if_neg (by omega)]))
                                       all_goals (first | rfl | omega | rw [if_pos (g6.mp (by omega))] | rw [if_neg (fun z => absurd (g6.mpr z) (by omega))] | rw [if_pos (by assumption)] | rw [if_neg (by assumption)]))
                                    | (refine qI ?_ (k _ hI Hm.rf)
                                       (repeat (first | rw [if_pos (by omega)] | rw [if_neg (by omega)]))
                                       all_goals (first | rfl | omega | rw [if_pos (g6.mp (by omega))] | rw [if_neg (fun z => absurd (g6.mpr z) (by omega))] | rw [if_pos (by assumption)] | rw [if_neg (by assumption)]))
                                    | (exfalso; omega)
                                  · first
                                    | (refine qI ?_ (k _ (hI.c he1 hp1) he1.hm)
                                       (repeat (first | rw [if_pos (by omega)] | rw [if_neg (by omega)]))
                                       all_goals (first | rfl | omega | rw [if_pos (g6.mp (by omega))] | rw [if_neg (fun z => absurd (g6.mpr z) (by omega))] | rw [if_pos (by assumption)] | rw [if_neg (by assumption)]))
                                    | (refine qI ?_ (k _ hI Hm.rf)
                                       (repeat (first | rw [if_pos (by omega)] | rw [if_neg (by omega)]))
                                       all_goals (first | rfl | omega | rw [if_pos (g6.mp (by omega))] | rw [if_neg (fun z => absurd (g6.mpr z) (by omega))] | rw [if_pos (by assumption)] | rw [if_neg (by assumption)]))
                                    | (exfalso; omega)
          · first
            | (refine qI ?_ (k _ (hI.c he1 hp1) he1.hm)
               (repeat (first | rw [if_pos (by omega)] | rw [if_neg (by omega)]))
               all_goals (first | rfl | omega | rw [if_pos (g6.mp (by omega))] | rw [if_neg (fun z => absurd (g6.mpr z) (by omega))] | rw [if_pos (by assumption)] | rw [if_neg (by assumption)]))
            | (refine qI ?_ (k _ hI Hm.rf)
               (repeat (first | rw [if_pos (by omega)] | rw [if_neg (by omega)]))
               all_goals (first | rfl | omega | rw [if_pos (g6.mp (by omega))] | rw [if_neg (fun z => absurd (g6.mpr z) (by omega))] | rw [if_pos (by assumption)] | rw [if_neg (by assumption)]))
            | (exfalso; omega)
        · first
          | (refine qI ?_ (k _ (hI.c he1 hp1) he1.hm)
             (repeat (first | rw [if_pos (by omega)] | rw [if_neg (by omega)]))
             all_goals (first | rfl | omega | rw [if_pos (g6.mp (by omega))] | rw [if_neg (fun z => absurd (g6.mpr z) (by omega))] | rw [if_pos (by assumption)] | rw [if_neg (by assumption)]))
          | (refine qI ?_ (k _ hI Hm.rf)
             (repeat (first | rw [if_pos (by omega)] | rw [if_neg (by omega)]))
             all_goals (first | rfl | omega | rw [if_pos (g6.mp (by omega))] | rw [if_neg (fun z => absurd (g6.mpr z) (by omega))] | rw [if_pos (by assumption)] | rw [if_neg (by assumption)]))
          | (exfalso; omega)
theorem m_formIs {E : E3} {Q : Q3} {M : M3} {x1 x2 : Int} (hI : Inv M) (hx1 : -2147483648 ≤ x1 ∧ x1 ≤ 2147483647) (hx2 : -2147483648 ≤ x2 ∧ x2 ≤ 2147483647) (k : ∀ (N : M3), Inv N → Q (some (vI (a_formIs M x1 x2))) N) : C3 E YX12_formIs [vR 44 0, vI x1, vI x2] M Q := by
  refine c3_rm fun hM => ?_
  have hf2 := hI.1.1.2.2.2.1.2.1
  unfold a_formIs at k
  refine sX12_formIs ?_
  refine ⟨?_, ?_⟩
  · first | omega | exact ⟨hI.2.2, hI.1.1.okA.2 _ (by omega) (by omega), by omega⟩
  refine ⟨fun c1 => ?_, fun c1 => ?_⟩
  · first
    | (refine qI ?_ (k _ (hI.m he1 hp1))
       (repeat (first | rw [if_pos (by omega)] | rw [if_neg (by omega)]))
       all_goals (first | rfl | omega))
    | (refine qI ?_ (k _ hI)
       (repeat (first | rw [if_pos (by omega)] | rw [if_neg (by omega)]))
       all_goals (first | rfl | omega))
    | (exfalso; omega)
  · refine ⟨?_, ?_⟩
    · first | omega | exact ⟨hI.2.2, hI.1.1.okA.2 _ (by omega) (by omega), by omega⟩
    refine ⟨fun c2 => ?_, fun c2 => ?_⟩
    · refine ⟨?_, ?_⟩
      · first | omega | exact ⟨hI.2.2, hI.1.1.okA.2 _ (by omega) (by omega), by omega⟩
      refine ⟨fun c3 => ?_, fun c3 => ?_⟩
      · first
        | (refine qI ?_ (k _ (hI.m he1 hp1))
           (repeat (first | rw [if_pos (by omega)] | rw [if_neg (by omega)]))
           all_goals (first | rfl | omega))
        | (refine qI ?_ (k _ hI)
           (repeat (first | rw [if_pos (by omega)] | rw [if_neg (by omega)]))
           all_goals (first | rfl | omega))
        | (exfalso; omega)
      · refine ⟨?_, ?_⟩
        · first | omega | exact ⟨hI.2.2, hI.1.1.okA.2 _ (by omega) (by omega), by omega⟩
        intro N1 hN1 he1 hp1
        first
        | (refine qI ?_ (k _ (hI.m he1 hp1))
           (repeat (first | rw [if_pos (by omega)] | rw [if_neg (by omega)]))
           all_goals (first | rfl | omega))
        | (refine qI ?_ (k _ hI)
           (repeat (first | rw [if_pos (by omega)] | rw [if_neg (by omega)]))
           all_goals (first | rfl | omega))
        | (exfalso; omega)
    · first
      | (refine qI ?_ (k _ (hI.m he1 hp1))
         (repeat (first | rw [if_pos (by omega)] | rw [if_neg (by omega)]))
         all_goals (first | rfl | omega))
      | (refine qI ?_ (k _ hI)
         (repeat (first | rw [if_pos (by omega)] | rw [if_neg (by omega)]))
         all_goals (first | rfl | omega))
      | (exfalso; omega)
theorem a_formIs_q {M N : M3} (h : Hm M N) (x1 x2 : Int) : a_formIs N x1 x2 = a_formIs M x1 x2 := by unfold a_formIs; simp only [mFo_q h, mNow_q h, h 44 (by decide), h 57 (by decide)]
theorem p_formIs {E : E3} {M : M3} {x1 x2 : Int} (hI : Inv M) (hx1 : -2147483648 ≤ x1 ∧ x1 ≤ 2147483647) (hx2 : -2147483648 ≤ x2 ∧ x2 ≤ 2147483647) : C3 E YX11_formIs [vR 0 0, vI x1, vI x2] M (P2 E YX12_formIs [vR 44 0, vI x1, vI x2]) :=
  c_formIs hI hx1 hx2 (fun N hN hq => p2I (m_formIs hN hx1 hx2 (fun K hK => r2I (svI (a_formIs_q hq x1 x2)) hK)))
