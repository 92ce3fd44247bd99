set_option maxRecDepth 20000 in
set_option maxHeartbeats 200000 in
theorem sX11_judge {E : E3} {Q : Q3} {M : M3} {x1 x2 : Int}
    (h : ((-2147483648 ≤ x1 ∧ x1 ≤ 2147483647) ∧ (-2147483648 ≤ (0 : Int) ∧ (0 : Int) ≤ 2147483647) ∧ (-2147483648 ≤ ((shl3 1 (M 31 0 0)) - 1) ∧ ((shl3 1 (M 31 0 0)) - 1) ≤ 2147483647)) ∧ ((¬(0 ≤ x1 ∧ x1 ≤ ((shl3 1 (M 31 0 0)) - 1)) → (Q (some (vI (-2))) M)) ∧ ((0 ≤ x1 ∧ x1 ≤ ((shl3 1 (M 31 0 0)) - 1)) → (((-2147483648 ≤ x2 ∧ x2 ≤ 2147483647) ∧ (-2147483648 ≤ (0 : Int) ∧ (0 : Int) ≤ 2147483647) ∧ (-2147483648 ≤ (2 : Int) ∧ (2 : Int) ≤ 2147483647)) ∧ (((0 ≤ x2 ∧ x2 ≤ 2) → ((LwC M ∧ IB M ∧ 0 ≤ x2 ∧ x2 ≤ 2) ∧ (∀ (N1 : M3), RM3 N1 → (∀ q : Nat, q ∉ ([0, 1, 2, 3, 4, 5, 6, 7, 8, 9, 10, 11, 12, 13, 14, 15, 16, 17, 18, 19, 20, 21, 22, 23, 24, 25, 26, 27, 28, 29, 30, 31, 32, 33, 34, 35, 36, 37, 38, 39, 40, 41, 42, 43, 44, 45, 46, 47, 48, 49, 50, 51, 52, 53, 54, 55, 56, 57, 58, 59, 60, 61, 62, 63, 64, 65, 66, 67, 68, 69, 70, 71, 72, 73, 74, 75, 76, 77, 78, 79, 80, 81, 82, 83, 84, 85, 86, 87, 88, 89] : List Nat) → N1 q = M q) → (Es M N1 ∧ Hm M N1 ∧ LwC N1) → (Q (some (vI (mOut M x1 x2))) N1)))) ∧ (¬(0 ≤ x2 ∧ x2 ≤ 2) → (Q (some (vI (-2))) M))))))) :
    C3 E YX11_judge [vR 0 0, vI x1, vI x2] M Q := by
  refine c3_in rfl rfl (z3 rfl) (g3_rm fun hM => ?_)
  refine g3_iload_n 1 dX11_judge_0 rfl rfl (g3_iconst dX11_judge_1 (g3_aload_n 0 dX11_judge_2 rfl rfl (g3_getR0 (t := 31) dX11_judge_3 flX11_58 rfl (z3 rfl) (g3_cV0 dX11_judge_6 myX10_allBits mlX11_277 (z3 rfl) ob_31 (z3 rfl) (z3 rfl) (c3_in rfl rfl (z3 rfl) (g3_iconst dX10_allBits_0 (g3_aload_n 0 dX10_allBits_1 rfl rfl (g3_getI (t := 0) dX10_allBits_2 flX10_41 (z3 rfl) (z3 rfl) (g3_ishl dX10_allBits_5 (g3_iconst dX10_allBits_6 (g3_isub dX10_allBits_7 (g3_ireturn dX10_allBits_8 rfl (g3_r1 (g3_cS3 dX11_judge_9 myX11_within mlX11_78 (z3 rfl) (z3 rfl) (kX11_within h.1 (g3_r1 (g3_bool_eq (tgt := 24) dX11_judge_12 rfl (fun c => ?_) (fun c => ?_))))))))))))))))))
  · have h1 := h; have h := h1.2.1 c
    have o1 := h1.1
    exact g3_bipush dX11_judge_24 rfl (g3_ireturn dX11_judge_26 rfl h)
  · have h1 := h; have h := h1.2.2 c
    have o1 := h1.1
    refine g3_iload_n 2 dX11_judge_15 rfl rfl (g3_iconst dX11_judge_16 (g3_iconst dX11_judge_17 (g3_cS3 dX11_judge_18 myX11_within mlX11_78 (z3 rfl) (z3 rfl) (kX11_within h.1 (g3_r1 (g3_bool_ne (tgt := 27) dX11_judge_21 rfl (fun c => ?_) (fun c => ?_)))))))
    · have h1 := h; have h := h1.2.1 c
      have o2 := h1.1
      refine g3_aload_n 0 dX11_judge_27 rfl rfl (g3_getR0 (t := 31) dX11_judge_28 flX11_58 rfl (z3 rfl) (g3_iload_n 1 dX11_judge_31 rfl rfl (g3_iload_n 2 dX11_judge_32 rfl rfl (g3_cV2 dX11_judge_33 myX10_outcome mlX11_280 (z3 rfl) ob_31 (z3 rfl) (z3 rfl) (hX10_outcome h.1 (fun N1 hN1 hf1 hp1 => ?_))))))
      have o3 := h.1
      have h := h.2 N1 hN1 hf1 hp1
      refine g3_r1 ?_
      exact g3_ireturn dX11_judge_36 rfl h
    · have h1 := h; have h := h1.2.2 c
      have o2 := h1.1
      exact g3_bipush dX11_judge_24 rfl (g3_ireturn dX11_judge_26 rfl h)
set_option maxRecDepth 20000 in
set_option maxHeartbeats 200000 in
theorem sX11_best {E : E3} {Q : Q3} {M : M3} {x1 : Int}
    (h : ((-2147483648 ≤ x1 ∧ x1 ≤ 2147483647) ∧ (-2147483648 ≤ (0 : Int) ∧ (0 : Int) ≤ 2147483647) ∧ (-2147483648 ≤ (1000 : Int) ∧ (1000 : Int) ≤ 2147483647)) ∧ ((¬(0 ≤ x1 ∧ x1 ≤ 1000) → (Q (some (vI (-2))) M)) ∧ ((0 ≤ x1 ∧ x1 ≤ 1000) → ((LwC M ∧ IB M ∧ 0 ≤ x1 ∧ x1 ≤ 1000) ∧ (∀ (N1 : M3), RM3 N1 → (∀ q : Nat, q ∉ ([0, 1, 2, 3, 4, 5, 6, 7, 8, 9, 10, 11, 12, 13, 14, 15, 16, 17, 18, 19, 20, 21, 22, 23, 24, 25, 26, 27, 28, 29, 30, 31, 32, 33, 34, 35, 36, 37, 38, 39, 40, 41, 42, 43, 44, 45, 46, 47, 48, 49, 50, 51, 52, 53, 54, 55, 56, 57, 58, 59, 60, 61, 62, 63, 64, 65, 66, 67, 68, 69, 70, 71, 72, 73, 74, 75, 76, 77, 78, 79, 80, 81, 82, 83, 84, 85, 86, 87, 88, 89] : List Nat) → N1 q = M q) → (Es M N1 ∧ Hm M N1 ∧ LwC N1) → (Q (some (vI (mBs M x1))) N1)))))) :
    C3 E YX11_best [vR 0 0, vI x1] M Q := by
  refine c3_in rfl rfl (z3 rfl) (g3_rm fun hM => ?_)
  refine g3_iload_n 1 dX11_best_0 rfl rfl (g3_iconst dX11_best_1 (g3_sipush dX11_best_2 rfl (g3_cS3 dX11_best_5 myX11_within mlX11_78 (z3 rfl) (z3 rfl) (kX11_within h.1 (g3_r1 (g3_bool_eq (tgt := 22) dX11_best_8 rfl (fun c => ?_) (fun c => ?_)))))))
  · have h1 := h; have h := h1.2.1 c
    have o1 := h1.1
    exact g3_bipush dX11_best_22 rfl (g3_ireturn dX11_best_24 rfl h)
  · have h1 := h; have h := h1.2.2 c
    have o1 := h1.1
    refine g3_aload_n 0 dX11_best_11 rfl rfl (g3_getR0 (t := 31) dX11_best_12 flX11_58 rfl (z3 rfl) (g3_iload_n 1 dX11_best_15 rfl rfl (g3_cV1 dX11_best_16 myX10_bestWithin mlX11_283 (z3 rfl) ob_31 (z3 rfl) (z3 rfl) (hX10_bestWithin h.1 (fun N1 hN1 hf1 hp1 => ?_)))))
    have o2 := h.1
    have h := h.2 N1 hN1 hf1 hp1
    refine g3_r1 ?_
    exact g3_goto (tgt := 24) dX11_best_19 rfl (g3_ireturn dX11_best_24 rfl h)
