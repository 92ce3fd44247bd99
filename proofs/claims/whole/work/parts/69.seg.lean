set_option maxRecDepth 20000 in
set_option maxHeartbeats 200000 in
theorem sX12_wants {E : E3} {Q : Q3} {M : M3} {x1 x2 : Int}
    (h : ((0 ≤ M 44 0 1 ∧ M 44 0 1 ≤ 48) ∧ ((-2147483648 ≤ x1 ∧ x1 ≤ 2147483647) ∧ (-2147483648 ≤ (1 - x2) ∧ (1 - x2) ≤ 2147483647) ∧ (-2147483648 ≤ (1 : Int) ∧ (1 : Int) ≤ 2147483647))) ∧ (((0 ≤ M 44 0 1 ∧ M 44 0 1 ≤ 48) ∧ ((-2147483648 ≤ x1 ∧ x1 ≤ 2147483647) ∧ (-2147483648 ≤ x2 ∧ x2 ≤ 2147483647) ∧ (-2147483648 ≤ (1 : Int) ∧ (1 : Int) ≤ 2147483647))) ∧ ((-2147483648 ≤ ((mRoll M x1 (1 - x2) 1) - (mRoll M x1 x2 1)) + 1 ∧ ((mRoll M x1 (1 - x2) 1) - (mRoll M x1 x2 1)) + 1 ≤ 2147483647) ∧ ((0 ≤ ((mRoll M x1 (1 - x2) 1) - (mRoll M x1 x2 1)) + 1 → (((0 ≤ M 44 0 1 ∧ M 44 0 1 ≤ 48) ∧ ((-2147483648 ≤ x1 ∧ x1 ≤ 2147483647) ∧ (-2147483648 ≤ x2 ∧ x2 ≤ 2147483647) ∧ (-2147483648 ≤ (0 : Int) ∧ (0 : Int) ≤ 2147483647))) ∧ (((0 ≤ M 44 0 1 ∧ M 44 0 1 ≤ 48) ∧ ((-2147483648 ≤ x1 ∧ x1 ≤ 2147483647) ∧ (-2147483648 ≤ x2 ∧ x2 ≤ 2147483647) ∧ (-2147483648 ≤ (2 : Int) ∧ (2 : Int) ≤ 2147483647))) ∧ ((-2147483648 ≤ (mRoll M x1 x2 0) + (mRoll M x1 x2 2) ∧ (mRoll M x1 x2 0) + (mRoll M x1 x2 2) ≤ 2147483647) ∧ (((mRoll M x1 x2 0) + (mRoll M x1 x2 2) < ((mRoll M x1 (1 - x2) 1) - (mRoll M x1 x2 1)) + 1 → (Q (some (vI (-1))) M)) ∧ (((mRoll M x1 (1 - x2) 1) - (mRoll M x1 x2 1)) + 1 ≤ (mRoll M x1 x2 0) + (mRoll M x1 x2 2) → (Q (some (vI (((mRoll M x1 (1 - x2) 1) - (mRoll M x1 x2 1)) + 1))) M))))))) ∧ (((mRoll M x1 (1 - x2) 1) - (mRoll M x1 x2 1)) + 1 < 0 → (((0 ≤ M 44 0 1 ∧ M 44 0 1 ≤ 48) ∧ ((-2147483648 ≤ x1 ∧ x1 ≤ 2147483647) ∧ (-2147483648 ≤ x2 ∧ x2 ≤ 2147483647) ∧ (-2147483648 ≤ (0 : Int) ∧ (0 : Int) ≤ 2147483647))) ∧ (((0 ≤ M 44 0 1 ∧ M 44 0 1 ≤ 48) ∧ ((-2147483648 ≤ x1 ∧ x1 ≤ 2147483647) ∧ (-2147483648 ≤ x2 ∧ x2 ≤ 2147483647) ∧ (-2147483648 ≤ (2 : Int) ∧ (2 : Int) ≤ 2147483647))) ∧ ((-2147483648 ≤ (mRoll M x1 x2 0) + (mRoll M x1 x2 2) ∧ (mRoll M x1 x2 0) + (mRoll M x1 x2 2) ≤ 2147483647) ∧ (((mRoll M x1 x2 0) + (mRoll M x1 x2 2) < 0 → (Q (some (vI (-1))) M)) ∧ (0 ≤ (mRoll M x1 x2 0) + (mRoll M x1 x2 2) → (Q (some (vI 0)) M))))))))))) :
    C3 E YX12_wants [vR 44 0, vI x1, vI x2] M Q := by
  refine c3_in rfl rfl (z3 rfl) (g3_rm fun hM => ?_)
  refine g3_aload_n 0 dX12_wants_0 rfl rfl (g3_iload_n 1 dX12_wants_1 rfl rfl (g3_iconst dX12_wants_2 (g3_iload_n 2 dX12_wants_3 rfl rfl (g3_isub dX12_wants_4 (g3_iconst dX12_wants_5 (g3_cV3 dX12_wants_6 myX12_rollOf mlX12_174 (z3 rfl) ob_44 (z3 rfl) (z3 rfl) (kX12_rollOf h.1 (g3_r1 (g3_aload_n 0 dX12_wants_9 rfl rfl (g3_iload_n 1 dX12_wants_10 rfl rfl (g3_iload_n 2 dX12_wants_11 rfl rfl (g3_iconst dX12_wants_12 (g3_cV3 dX12_wants_13 myX12_rollOf mlX12_174 (z3 rfl) ob_44 (z3 rfl) (z3 rfl) (kX12_rollOf h.2.1 (g3_r1 (g3_isub dX12_wants_16 (g3_iconst dX12_wants_17 (g3_iadd dX12_wants_18 (g3_istore_n (lv' := [(3, vI (((mRoll M x1 (1 - x2) 1) - (mRoll M x1 x2 1)) + 1)), (0, vR 44 0), (1, vI x1), (2, vI x2)]) dX12_wants_19 rfl (z3 rfl) rfl (g3_iload_n 0 dX12_wants_20 rfl rfl (g3_if_ge (tgt := 28) dX12_wants_21 rfl h.2.2.1 (fun c => ?_) (fun c => ?_))))))))))))))))))))))
  · have h1 := h; have h := h1.2.2.2.1 c
    have o1 := h1.1
    have o2 := h1.2.1
    have o3 := h1.2.2.1
    refine g3_iload_n 0 dX12_wants_28 rfl rfl (g3_istore_n (lv' := [(3, vI (((mRoll M x1 (1 - x2) 1) - (mRoll M x1 x2 1)) + 1)), (0, vR 44 0), (1, vI x1), (2, vI x2)]) dX12_wants_29 rfl (z3 rfl) rfl (g3_iload_n 0 dX12_wants_30 rfl rfl (g3_aload_n 1 dX12_wants_31 rfl rfl (g3_iload_n 2 dX12_wants_32 rfl rfl (g3_iload_n 3 dX12_wants_33 rfl rfl (g3_iconst dX12_wants_34 (g3_cV3 dX12_wants_35 myX12_rollOf mlX12_174 (z3 rfl) ob_44 (z3 rfl) (z3 rfl) (kX12_rollOf h.1 (g3_r1 (g3_aload_n 1 dX12_wants_38 rfl rfl (g3_iload_n 2 dX12_wants_39 rfl rfl (g3_iload_n 3 dX12_wants_40 rfl rfl (g3_iconst dX12_wants_41 (g3_cV3 dX12_wants_42 myX12_rollOf mlX12_174 (z3 rfl) ob_44 (z3 rfl) (z3 rfl) (kX12_rollOf h.2.1 (g3_r1 (g3_iadd dX12_wants_45 (g3_icmp_gt (tgt := 53) dX12_wants_46 rfl o3 h.2.2.1 (fun c => ?_) (fun c => ?_)))))))))))))))))))
    · have h1 := h; have h := h1.2.2.2.1 c
      have o4 := h1.1
      have o5 := h1.2.1
      have o6 := h1.2.2.1
      exact g3_iconst dX12_wants_53 (g3_ireturn dX12_wants_54 rfl h)
    · have h1 := h; have h := h1.2.2.2.2 c
      have o4 := h1.1
      have o5 := h1.2.1
      have o6 := h1.2.2.1
      exact g3_iload_n 0 dX12_wants_49 rfl rfl (g3_goto (tgt := 54) dX12_wants_50 rfl (g3_ireturn dX12_wants_54 rfl h))
  · have h1 := h; have h := h1.2.2.2.2 c
    have o1 := h1.1
    have o2 := h1.2.1
    have o3 := h1.2.2.1
    refine g3_iconst dX12_wants_24 (g3_goto (tgt := 29) dX12_wants_25 rfl (g3_istore_n (lv' := [(3, vI 0), (0, vR 44 0), (1, vI x1), (2, vI x2)]) dX12_wants_29 rfl (z3 rfl) rfl (g3_iload_n 0 dX12_wants_30 rfl rfl (g3_aload_n 1 dX12_wants_31 rfl rfl (g3_iload_n 2 dX12_wants_32 rfl rfl (g3_iload_n 3 dX12_wants_33 rfl rfl (g3_iconst dX12_wants_34 (g3_cV3 dX12_wants_35 myX12_rollOf mlX12_174 (z3 rfl) ob_44 (z3 rfl) (z3 rfl) (kX12_rollOf h.1 (g3_r1 (g3_aload_n 1 dX12_wants_38 rfl rfl (g3_iload_n 2 dX12_wants_39 rfl rfl (g3_iload_n 3 dX12_wants_40 rfl rfl (g3_iconst dX12_wants_41 (g3_cV3 dX12_wants_42 myX12_rollOf mlX12_174 (z3 rfl) ob_44 (z3 rfl) (z3 rfl) (kX12_rollOf h.2.1 (g3_r1 (g3_iadd dX12_wants_45 (g3_icmp_gt (tgt := 53) dX12_wants_46 rfl (z3 rfl) h.2.2.1 (fun c => ?_) (fun c => ?_))))))))))))))))))))
    · have h1 := h; have h := h1.2.2.2.1 c
      have o7 := h1.1
      have o8 := h1.2.1
      have o9 := h1.2.2.1
      exact g3_iconst dX12_wants_53 (g3_ireturn dX12_wants_54 rfl h)
    · have h1 := h; have h := h1.2.2.2.2 c
      have o7 := h1.1
      have o8 := h1.2.1
      have o9 := h1.2.2.1
      exact g3_iload_n 0 dX12_wants_49 rfl rfl (g3_goto (tgt := 54) dX12_wants_50 rfl (g3_ireturn dX12_wants_54 rfl h))
set_option maxRecDepth 20000 in
set_option maxHeartbeats 200000 in
theorem sX12_chosenIn {E : E3} {Q : Q3} {M : M3} {x1 : Int}
    (h : ((0 ≤ M 44 0 1 ∧ M 44 0 1 ≤ 48) ∧ ((-2147483648 ≤ x1 ∧ x1 ≤ 2147483647) ∧ (-2147483648 ≤ (0 : Int) ∧ (0 : Int) ≤ 2147483647) ∧ (-2147483648 ≤ (1 : Int) ∧ (1 : Int) ≤ 2147483647))) ∧ (((0 ≤ M 44 0 1 ∧ M 44 0 1 ≤ 48) ∧ ((-2147483648 ≤ x1 ∧ x1 ≤ 2147483647) ∧ (-2147483648 ≤ (1 : Int) ∧ (1 : Int) ≤ 2147483647) ∧ (-2147483648 ≤ (1 : Int) ∧ (1 : Int) ≤ 2147483647))) ∧ ((-2147483648 ≤ mRoll M x1 0 1 ∧ mRoll M x1 0 1 ≤ 2147483647) ∧ ((-2147483648 ≤ mRoll M x1 1 1 ∧ mRoll M x1 1 1 ≤ 2147483647) ∧ ((mRoll M x1 0 1 ≤ mRoll M x1 1 1 → ((mRoll M x1 1 1 ≤ mRoll M x1 0 1 → (Q (some (vI (-1))) M)) ∧ (mRoll M x1 0 1 < mRoll M x1 1 1 → (Q (some (vI 1)) M)))) ∧ (mRoll M x1 1 1 < mRoll M x1 0 1 → (Q (some (vI 0)) M))))))) :
    C3 E YX12_chosenIn [vR 44 0, vI x1] M Q := by
  refine c3_in rfl rfl (z3 rfl) (g3_rm fun hM => ?_)
  refine g3_aload_n 0 dX12_chosenIn_0 rfl rfl (g3_iload_n 1 dX12_chosenIn_1 rfl rfl (g3_iconst dX12_chosenIn_2 (g3_iconst dX12_chosenIn_3 (g3_cV3 dX12_chosenIn_4 myX12_rollOf mlX12_174 (z3 rfl) ob_44 (z3 rfl) (z3 rfl) (kX12_rollOf h.1 (g3_r1 (g3_istore_n (lv' := [(2, vI (mRoll M x1 0 1)), (0, vR 44 0), (1, vI x1)]) dX12_chosenIn_7 rfl (z3 rfl) rfl (g3_aload_n 1 dX12_chosenIn_8 rfl rfl (g3_iload_n 2 dX12_chosenIn_9 rfl rfl (g3_iconst dX12_chosenIn_10 (g3_iconst dX12_chosenIn_11 (g3_cV3 dX12_chosenIn_12 myX12_rollOf mlX12_174 (z3 rfl) ob_44 (z3 rfl) (z3 rfl) (kX12_rollOf h.2.1 (g3_r1 (g3_istore_n (lv' := [(3, vI (mRoll M x1 1 1)), (2, vI (mRoll M x1 0 1)), (0, vR 44 0), (1, vI x1)]) dX12_chosenIn_15 rfl (z3 rfl) rfl (g3_iload_n 1 dX12_chosenIn_16 rfl rfl (g3_iload_n 0 dX12_chosenIn_17 rfl rfl (g3_icmp_le (tgt := 25) dX12_chosenIn_18 rfl h.2.2.1 h.2.2.2.1 (fun c => ?_) (fun c => ?_)))))))))))))))))))
  · have h1 := h; have h := h1.2.2.2.2.1 c
    have o1 := h1.1
    have o2 := h1.2.1
    have o3 := h1.2.2.1
    have o4 := h1.2.2.2.1
    refine g3_iload_n 0 dX12_chosenIn_25 rfl rfl (g3_iload_n 1 dX12_chosenIn_26 rfl rfl (g3_icmp_le (tgt := 34) dX12_chosenIn_27 rfl o4 o3 (fun c => ?_) (fun c => ?_)))
    · have h1 := h; have h := h1.1 c
      exact g3_iconst dX12_chosenIn_34 (g3_ireturn dX12_chosenIn_35 rfl h)
    · have h1 := h; have h := h1.2 c
      exact g3_iconst dX12_chosenIn_30 (g3_goto (tgt := 35) dX12_chosenIn_31 rfl (g3_ireturn dX12_chosenIn_35 rfl h))
  · have h1 := h; have h := h1.2.2.2.2.2 c
    have o1 := h1.1
    have o2 := h1.2.1
    have o3 := h1.2.2.1
    have o4 := h1.2.2.2.1
    exact g3_iconst dX12_chosenIn_21 (g3_goto (tgt := 35) dX12_chosenIn_22 rfl (g3_ireturn dX12_chosenIn_35 rfl h))
set_option maxRecDepth 20000 in
set_option maxHeartbeats 200000 in
theorem sX12_teach {E : E3} {Q : Q3} {M : M3} {x1 : Int}
    (h : ((-2147483648 ≤ x1 ∧ x1 ≤ 2147483647) ∧ (-2147483648 ≤ (0 : Int) ∧ (0 : Int) ≤ 2147483647) ∧ (-2147483648 ≤ (5 : Int) ∧ (5 : Int) ≤ 2147483647)) ∧ (((0 ≤ x1 ∧ x1 ≤ 5) → (G3 E YX12_teach Q 14 [(0, vR 44 0), (1, vI x1), (2, vI 0), (3, vI 0)] [] M)) ∧ (¬(0 ≤ x1 ∧ x1 ≤ 5) → (Q (some (vI (-2))) M)))) :
    C3 E YX12_teach [vR 44 0, vI x1] M Q := by
  refine c3_in rfl rfl (z3 rfl) (g3_rm fun hM => ?_)
  refine g3_iload_n 1 dX12_teach_0 rfl rfl (g3_cS1 dX12_teach_1 myX12_isBeat mlX12_154 (z3 rfl) (z3 rfl) (c3_in rfl rfl (z3 rfl) (g3_iload_n 0 dX12_isBeat_0 rfl rfl (g3_iconst dX12_isBeat_1 (g3_iconst dX12_isBeat_2 (g3_cS3 dX12_isBeat_3 myX12_in mlX12_144 (z3 rfl) (z3 rfl) (kX12_in h.1 (g3_r1 (g3_zreturn dX12_isBeat_6 rfl (bo3_01 _) (g3_r1 (g3_bool_ne (tgt := 10) dX12_teach_4 rfl (fun c => ?_) (fun c => ?_))))))))))))
  · have h1 := h; have h := h1.2.1 c
    have o1 := h1.1
    refine g3_iconst dX12_teach_10 (g3_istore_n (lv' := [(2, vI 0), (0, vR 44 0), (1, vI x1)]) dX12_teach_11 rfl (z3 rfl) rfl (g3_iconst dX12_teach_12 (g3_istore_n (lv' := [(3, vI 0), (2, vI 0), (0, vR 44 0), (1, vI x1)]) dX12_teach_13 rfl (z3 rfl) rfl (g3_sub [2, 3, 1, 0] rfl h))))
  · have h1 := h; have h := h1.2.2 c
    have o1 := h1.1
    exact g3_bipush dX12_teach_7 rfl (g3_ireturn dX12_teach_9 rfl h)
set_option maxRecDepth 20000 in
set_option maxHeartbeats 200000 in
theorem sX12_teach_14 {E : E3} {Q : Q3} {M : M3} {x1 : Int} {x2 : Int} {x3 : Int}
    (h : (-2147483648 ≤ x3 ∧ x3 ≤ 2147483647) ∧ ((M 44 0 1 ≤ x3 → (Q (some (vI x2)) M)) ∧ (x3 < M 44 0 1 → ((0 ≤ x3 ∧ x3 < 48) ∧ ((¬(M 50 0 x3 = 0 ∨ M 50 0 x3 = 2) → (G3 E YX12_teach Q 14 [(0, vR 44 0), (1, vI x1), (2, vI x2), (3, vI (x3 + 1))] [] M)) ∧ ((M 50 0 x3 = 0 ∨ M 50 0 x3 = 2) → ((-2147483648 ≤ x1 ∧ x1 ≤ 2147483647) ∧ ((M 45 0 x3 ≠ x1 → (G3 E YX12_teach Q 14 [(0, vR 44 0), (1, vI x1), (2, vI x2), (3, vI (x3 + 1))] [] M)) ∧ (M 45 0 x3 = x1 → ((RdC M ∧ 0 ≤ (M 44 0 0) ∧ (M 44 0 0) ≤ 399) ∧ (∀ (N1 : M3), RM3 N1 → Em M N1 → (RdC N1) → ((¬(alw3 (LM3 M) (M 46 0 x3) (M 44 0 0)) → (G3 E YX12_teach Q 14 [(0, vR 44 0), (1, vI x1), (2, vI x2), (3, vI (x3 + 1))] [] N1)) ∧ ((alw3 (LM3 M) (M 46 0 x3) (M 44 0 0)) → ((20 ≤ M 47 0 x3 → (G3 E YX12_teach Q 14 [(0, vR 44 0), (1, vI x1), (2, vI x2), (3, vI (x3 + 1))] [] N1)) ∧ (M 47 0 x3 < 20 → ((M 47 0 x3 ≤ 18 → ((-2147483648 ≤ (M 47 0 x3) + 2 ∧ (M 47 0 x3) + 2 ≤ 2147483647) ∧ (G3 E YX12_teach Q 14 [(0, vR 44 0), (1, vI x1), (2, vI (x2 + 1)), (3, vI (x3 + 1))] [] (up3 N1 47 0 x3 ((M 47 0 x3) + 2))))) ∧ (18 < M 47 0 x3 → (G3 E YX12_teach Q 14 [(0, vR 44 0), (1, vI x1), (2, vI (x2 + 1)), (3, vI (x3 + 1))] [] (up3 N1 47 0 x3 20))))))))))))))))))) :
    G3 E YX12_teach Q 14 [(0, vR 44 0), (1, vI x1), (2, vI x2), (3, vI x3)] [] M := by
  refine g3_rm fun hM => ?_
  refine g3_iload_n 3 dX12_teach_14 rfl rfl (g3_aload_n 0 dX12_teach_15 rfl rfl (g3_getI (t := 0) dX12_teach_16 flX12_148 (z3 rfl) (z3 rfl) (g3_icmp_ge (tgt := 107) dX12_teach_19 rfl h.1 (hM 44 0 1) (fun c => ?_) (fun c => ?_))))
  · have h1 := h; have h := h1.2.1 c
    have o1 := h1.1
    exact g3_iload_n 2 dX12_teach_107 rfl rfl (g3_ireturn dX12_teach_108 rfl h)
  · have h1 := h; have h := h1.2.2 c
    have o1 := h1.1
    refine g3_aload_n 0 dX12_teach_22 rfl rfl (g3_iload_n 3 dX12_teach_23 rfl rfl (g3_cV1 dX12_teach_24 myX12_isOff mlX12_229 (z3 rfl) ob_44 (z3 rfl) (z3 rfl) (kX12_isOff h.1 (g3_r1 (g3_bool_eq (tgt := 101) dX12_teach_27 rfl (fun c => ?_) (fun c => ?_))))))
    · have h1 := h; have h := h1.2.1 c
      have o2 := h1.1
      refine g3_iinc (lv' := [(3, vI (x3 + 1)), (0, vR 44 0), (1, vI x1), (2, vI x2)]) 3 dX12_teach_101 rfl (z3 rfl) rfl (g3_goto (tgt := 14) dX12_teach_104 rfl (g3_sub [1, 2, 3, 0] rfl h))
    · have h1 := h; have h := h1.2.2 c
      have o2 := h1.1
      refine g3_aload_n 0 dX12_teach_30 rfl rfl (g3_getR0 (t := 45) dX12_teach_31 flX12_7 rfl (z3 rfl) (g3_iload_n 3 dX12_teach_34 rfl rfl (g3_iald dX12_teach_35 ar_45 (z3 rfl) o2 (g3_iload_n 1 dX12_teach_36 rfl rfl (g3_icmp_ne (tgt := 101) dX12_teach_37 rfl (hM 45 0 x3) h.1 (fun c => ?_) (fun c => ?_))))))
      · have h1 := h; have h := h1.2.1 c
        have o3 := h1.1
        refine g3_iinc (lv' := [(3, vI (x3 + 1)), (0, vR 44 0), (1, vI x1), (2, vI x2)]) 3 dX12_teach_101 rfl (z3 rfl) rfl (g3_goto (tgt := 14) dX12_teach_104 rfl (g3_sub [1, 2, 3, 0] rfl h))
      · have h1 := h; have h := h1.2.2 c
        have o3 := h1.1
        refine g3_aload_n 0 dX12_teach_40 rfl rfl (g3_aload_n 0 dX12_teach_41 rfl rfl (g3_getR0 (t := 46) dX12_teach_42 flX12_13 rfl (z3 rfl) (g3_iload_n 3 dX12_teach_45 rfl rfl (g3_iald dX12_teach_46 ar_46 (z3 rfl) o2 (g3_aload_n 0 dX12_teach_47 rfl rfl (g3_getI (t := 0) dX12_teach_48 flX12_151 (z3 rfl) (z3 rfl) (g3_cV2 dX12_teach_51 myX12_isAllowed mlX12_235 (z3 rfl) ob_44 (z3 rfl) (z3 rfl) (eX12_isAllowed Em.rf h.1 (fun N1 hN1 he1 hp1 => ?_)))))))))
        have o4 := h.1
        have h := h.2 N1 hN1 he1 hp1
        refine g3_r1 ?_
        refine g3_bool_eq (tgt := 101) dX12_teach_54 rfl (fun c => ?_) (fun c => ?_)
        · have h1 := h; have h := h1.1 c
          refine g3_iinc (lv' := [(3, vI (x3 + 1)), (0, vR 44 0), (1, vI x1), (2, vI x2)]) 3 dX12_teach_101 rfl (z3 rfl) rfl (g3_goto (tgt := 14) dX12_teach_104 rfl (g3_sub [1, 2, 3, 0] rfl h))
        · have h1 := h; have h := h1.2 c
          refine g3_aload_n 0 dX12_teach_57 rfl rfl (g3_getR0 (t := 47) dX12_teach_58 flX12_16 rfl (z3 rfl) (g3_iload_n 3 dX12_teach_61 rfl rfl (g3_iald dX12_teach_62 ar_47 (z3 rfl) o2 (g3_val (cg3 (he1.1 47 (by decide)) _ _) (g3_bipush dX12_teach_63 rfl (g3_icmp_ge (tgt := 101) dX12_teach_65 rfl (hM 47 0 x3) (z3 rfl) (fun c => ?_) (fun c => ?_)))))))
          · have h1 := h; have h := h1.1 c
            refine g3_iinc (lv' := [(3, vI (x3 + 1)), (0, vR 44 0), (1, vI x1), (2, vI x2)]) 3 dX12_teach_101 rfl (z3 rfl) rfl (g3_goto (tgt := 14) dX12_teach_104 rfl (g3_sub [1, 2, 3, 0] rfl h))
          · have h1 := h; have h := h1.2 c
            refine g3_aload_n 0 dX12_teach_68 rfl rfl (g3_getR0 (t := 47) dX12_teach_69 flX12_16 rfl (z3 rfl) (g3_iload_n 3 dX12_teach_72 rfl rfl (g3_aload_n 0 dX12_teach_73 rfl rfl (g3_getR0 (t := 47) dX12_teach_74 flX12_16 rfl (z3 rfl) (g3_iload_n 3 dX12_teach_77 rfl rfl (g3_iald dX12_teach_78 ar_47 (z3 rfl) o2 (g3_val (cg3 (he1.1 47 (by decide)) _ _) (g3_bipush dX12_teach_79 rfl (g3_icmp_le (tgt := 89) dX12_teach_81 rfl (hM 47 0 x3) (z3 rfl) (fun c => ?_) (fun c => ?_))))))))))
            · have h1 := h; have h := h1.1 c
              refine g3_aload_n 0 dX12_teach_89 rfl rfl (g3_getR0 (t := 47) dX12_teach_90 flX12_16 rfl (z3 rfl) (g3_iload_n 3 dX12_teach_93 rfl rfl (g3_iald dX12_teach_94 ar_47 (z3 rfl) o2 (g3_val (cg3 (he1.1 47 (by decide)) _ _) (g3_iconst dX12_teach_95 (g3_iadd dX12_teach_96 (g3_iast dX12_teach_97 ar_47 (z3 rfl) o2 h.1 (g3_iinc (lv' := [(2, vI (x2 + 1)), (0, vR 44 0), (1, vI x1), (3, vI x3)]) 2 dX12_teach_98 rfl (z3 rfl) rfl (g3_iinc (lv' := [(3, vI (x3 + 1)), (2, vI (x2 + 1)), (0, vR 44 0), (1, vI x1)]) 3 dX12_teach_101 rfl (z3 rfl) rfl (g3_goto (tgt := 14) dX12_teach_104 rfl (g3_sub [2, 3, 1, 0] rfl h.2)))))))))))
            · have h1 := h; have h := h1.2 c
              refine g3_bipush dX12_teach_84 rfl (g3_goto (tgt := 97) dX12_teach_86 rfl (g3_iast dX12_teach_97 ar_47 (z3 rfl) o2 (z3 rfl) (g3_iinc (lv' := [(2, vI (x2 + 1)), (0, vR 44 0), (1, vI x1), (3, vI x3)]) 2 dX12_teach_98 rfl (z3 rfl) rfl (g3_iinc (lv' := [(3, vI (x3 + 1)), (2, vI (x2 + 1)), (0, vR 44 0), (1, vI x1)]) 3 dX12_teach_101 rfl (z3 rfl) rfl (g3_goto (tgt := 14) dX12_teach_104 rfl (g3_sub [2, 3, 1, 0] rfl h))))))
