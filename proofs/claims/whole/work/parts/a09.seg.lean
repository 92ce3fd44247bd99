set_option maxRecDepth 20000 in
set_option maxHeartbeats 200000 in
theorem sX0_winner {E : E3} {Q : Q3} {M : M3} {x1 : Int}
    (h : ((0 ≤ M 10 0 0 ∧ M 10 0 0 ≤ 48) ∧ (-2147483648 ≤ x1 ∧ x1 ≤ 2147483647) ∧ (-2147483648 ≤ (1 : Int) ∧ (1 : Int) ≤ 2147483647) ∧ (-2147483648 ≤ (1 : Int) ∧ (1 : Int) ≤ 2147483647)) ∧ (((0 ≤ M 10 0 0 ∧ M 10 0 0 ≤ 48) ∧ (-2147483648 ≤ x1 ∧ x1 ≤ 2147483647) ∧ (-2147483648 ≤ (0 : Int) ∧ (0 : Int) ≤ 2147483647) ∧ (-2147483648 ≤ (1 : Int) ∧ (1 : Int) ≤ 2147483647)) ∧ ((-2147483648 ≤ (fTally M x1 1 1) - (fTally M x1 0 1) ∧ (fTally M x1 1 1) - (fTally M x1 0 1) ≤ 2147483647) ∧ (((fTally M x1 1 1) - (fTally M x1 0 1) ≠ 0 → (((fTally M x1 1 1) - (fTally M x1 0 1) ≤ 0 → (Q (some (vI 0)) M)) ∧ (0 < (fTally M x1 1 1) - (fTally M x1 0 1) → (Q (some (vI 1)) M)))) ∧ ((fTally M x1 1 1) - (fTally M x1 0 1) = 0 → (Q (some (vI (-1))) M)))))) :
    C3 E YX0_winner [vR 10 0, vI x1] M Q := by
  refine c3_in rfl rfl (z3 rfl) (g3_rm fun hM => ?_)
  refine g3_aload_n 0 dX0_winner_0 rfl rfl (g3_iload_n 1 dX0_winner_1 rfl rfl (g3_iconst dX0_winner_2 (g3_iconst dX0_winner_3 (g3_cV3 dX0_winner_4 myX0_tally mlX0_44 (z3 rfl) ob_10 (z3 rfl) (z3 rfl) (kX0_tally h.1 (g3_r1 (g3_aload_n 0 dX0_winner_7 rfl rfl (g3_iload_n 1 dX0_winner_8 rfl rfl (g3_iconst dX0_winner_9 (g3_iconst dX0_winner_10 (g3_cV3 dX0_winner_11 myX0_tally mlX0_44 (z3 rfl) ob_10 (z3 rfl) (z3 rfl) (kX0_tally h.2.1 (g3_r1 (g3_isub dX0_winner_14 (g3_istore_n (lv' := [(2, vI ((fTally M x1 1 1) - (fTally M x1 0 1))), (0, vR 10 0), (1, vI x1)]) dX0_winner_15 rfl (z3 rfl) rfl (g3_iload_n 0 dX0_winner_16 rfl rfl (g3_if_ne (tgt := 22) dX0_winner_17 rfl h.2.2.1 (fun c => ?_) (fun c => ?_))))))))))))))))))
  · have h1 := h; have h := h1.2.2.2.1 c
    have o1 := h1.1
    have o2 := h1.2.1
    have o3 := h1.2.2.1
    refine g3_iload_n 0 dX0_winner_22 rfl rfl (g3_if_le (tgt := 30) dX0_winner_23 rfl o3 (fun c => ?_) (fun c => ?_))
    · have h1 := h; have h := h1.1 c
      exact g3_iconst dX0_winner_30 (g3_ireturn dX0_winner_31 rfl h)
    · have h1 := h; have h := h1.2 c
      exact g3_iconst dX0_winner_26 (g3_goto (tgt := 31) dX0_winner_27 rfl (g3_ireturn dX0_winner_31 rfl h))
  · have h1 := h; have h := h1.2.2.2.2 c
    have o1 := h1.1
    have o2 := h1.2.1
    have o3 := h1.2.2.1
    exact g3_iconst dX0_winner_20 (g3_ireturn dX0_winner_21 rfl h)
