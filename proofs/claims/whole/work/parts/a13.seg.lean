set_option maxRecDepth 20000 in
set_option maxHeartbeats 200000 in
theorem sX0_namesFor {E : E3} {Q : Q3} {M : M3} {x1 x2 : Int}
    (h : ((0 ≤ M 10 0 0 ∧ M 10 0 0 ≤ 48) ∧ (-2147483648 ≤ x1 ∧ x1 ≤ 2147483647) ∧ (-2147483648 ≤ (1 - x2) ∧ (1 - x2) ≤ 2147483647) ∧ (-2147483648 ≤ (1 : Int) ∧ (1 : Int) ≤ 2147483647)) ∧ (((0 ≤ M 10 0 0 ∧ M 10 0 0 ≤ 48) ∧ (-2147483648 ≤ x1 ∧ x1 ≤ 2147483647) ∧ (-2147483648 ≤ x2 ∧ x2 ≤ 2147483647) ∧ (-2147483648 ≤ (1 : Int) ∧ (1 : Int) ≤ 2147483647)) ∧ ((-2147483648 ≤ ((fTally M x1 (1 - x2) 1) - (fTally M x1 x2 1)) + 1 ∧ ((fTally M x1 (1 - x2) 1) - (fTally M x1 x2 1)) + 1 ≤ 2147483647) ∧ ((0 < ((fTally M x1 (1 - x2) 1) - (fTally M x1 x2 1)) + 1 → (((0 ≤ M 10 0 0 ∧ M 10 0 0 ≤ 48) ∧ (-2147483648 ≤ x1 ∧ x1 ≤ 2147483647) ∧ (-2147483648 ≤ x2 ∧ x2 ≤ 2147483647) ∧ (-2147483648 ≤ (0 : Int) ∧ (0 : Int) ≤ 2147483647)) ∧ (((0 ≤ M 10 0 0 ∧ M 10 0 0 ≤ 48) ∧ (-2147483648 ≤ x1 ∧ x1 ≤ 2147483647) ∧ (-2147483648 ≤ x2 ∧ x2 ≤ 2147483647) ∧ (-2147483648 ≤ (2 : Int) ∧ (2 : Int) ≤ 2147483647)) ∧ ((-2147483648 ≤ (fTally M x1 x2 0) + (fTally M x1 x2 2) ∧ (fTally M x1 x2 0) + (fTally M x1 x2 2) ≤ 2147483647) ∧ (((fTally M x1 x2 0) + (fTally M x1 x2 2) < ((fTally M x1 (1 - x2) 1) - (fTally M x1 x2 1)) + 1 → (Q (some (vI (-1))) M)) ∧ (((fTally M x1 (1 - x2) 1) - (fTally M x1 x2 1)) + 1 ≤ (fTally M x1 x2 0) + (fTally M x1 x2 2) → (Q (some (vI (((fTally M x1 (1 - x2) 1) - (fTally M x1 x2 1)) + 1))) M))))))) ∧ (((fTally M x1 (1 - x2) 1) - (fTally M x1 x2 1)) + 1 ≤ 0 → (Q (some (vI 0)) M)))))) :
    C3 E YX0_namesFor [vR 10 0, vI x1, vI x2] M Q := by
  refine c3_in rfl rfl (z3 rfl) (g3_rm fun hM => ?_)
  refine g3_aload_n 0 dX0_namesFor_0 rfl rfl (g3_iload_n 1 dX0_namesFor_1 rfl rfl (g3_iconst dX0_namesFor_2 (g3_iload_n 2 dX0_namesFor_3 rfl rfl (g3_isub dX0_namesFor_4 (g3_iconst dX0_namesFor_5 (g3_cV3 dX0_namesFor_6 myX0_tally mlX0_44 (z3 rfl) ob_10 (z3 rfl) (z3 rfl) (kX0_tally h.1 (g3_r1 (g3_aload_n 0 dX0_namesFor_9 rfl rfl (g3_iload_n 1 dX0_namesFor_10 rfl rfl (g3_iload_n 2 dX0_namesFor_11 rfl rfl (g3_iconst dX0_namesFor_12 (g3_cV3 dX0_namesFor_13 myX0_tally mlX0_44 (z3 rfl) ob_10 (z3 rfl) (z3 rfl) (kX0_tally h.2.1 (g3_r1 (g3_isub dX0_namesFor_16 (g3_iconst dX0_namesFor_17 (g3_iadd dX0_namesFor_18 (g3_istore_n (lv' := [(3, vI (((fTally M x1 (1 - x2) 1) - (fTally M x1 x2 1)) + 1)), (0, vR 10 0), (1, vI x1), (2, vI x2)]) dX0_namesFor_19 rfl (z3 rfl) rfl (g3_iload_n 0 dX0_namesFor_20 rfl rfl (g3_if_gt (tgt := 26) dX0_namesFor_21 rfl h.2.2.1 (fun c => ?_) (fun c => ?_))))))))))))))))))))))
  · have h1 := h; have h := h1.2.2.2.1 c
    have o1 := h1.1
    have o2 := h1.2.1
    have o3 := h1.2.2.1
    refine g3_aload_n 1 dX0_namesFor_26 rfl rfl (g3_iload_n 2 dX0_namesFor_27 rfl rfl (g3_iload_n 3 dX0_namesFor_28 rfl rfl (g3_iconst dX0_namesFor_29 (g3_cV3 dX0_namesFor_30 myX0_tally mlX0_44 (z3 rfl) ob_10 (z3 rfl) (z3 rfl) (kX0_tally h.1 (g3_r1 (g3_aload_n 1 dX0_namesFor_33 rfl rfl (g3_iload_n 2 dX0_namesFor_34 rfl rfl (g3_iload_n 3 dX0_namesFor_35 rfl rfl (g3_iconst dX0_namesFor_36 (g3_cV3 dX0_namesFor_37 myX0_tally mlX0_44 (z3 rfl) ob_10 (z3 rfl) (z3 rfl) (kX0_tally h.2.1 (g3_r1 (g3_iadd dX0_namesFor_40 (g3_istore (lv' := [(4, vI ((fTally M x1 x2 0) + (fTally M x1 x2 2))), (3, vI (((fTally M x1 (1 - x2) 1) - (fTally M x1 x2 1)) + 1)), (0, vR 10 0), (1, vI x1), (2, vI x2)]) dX0_namesFor_41 (z3 rfl) rfl (g3_iload_n 1 dX0_namesFor_43 rfl rfl (g3_iload 0 dX0_namesFor_44 rfl (g3_icmp_gt (tgt := 53) dX0_namesFor_46 rfl o3 h.2.2.1 (fun c => ?_) (fun c => ?_)))))))))))))))))))
    · have h1 := h; have h := h1.2.2.2.1 c
      have o4 := h1.1
      have o5 := h1.2.1
      have o6 := h1.2.2.1
      exact g3_iconst dX0_namesFor_53 (g3_ireturn dX0_namesFor_54 rfl h)
    · have h1 := h; have h := h1.2.2.2.2 c
      have o4 := h1.1
      have o5 := h1.2.1
      have o6 := h1.2.2.1
      exact g3_iload_n 1 dX0_namesFor_49 rfl rfl (g3_goto (tgt := 54) dX0_namesFor_50 rfl (g3_ireturn dX0_namesFor_54 rfl h))
  · have h1 := h; have h := h1.2.2.2.2 c
    have o1 := h1.1
    have o2 := h1.2.1
    have o3 := h1.2.2.1
    exact g3_iconst dX0_namesFor_24 (g3_ireturn dX0_namesFor_25 rfl h)
