set_option maxRecDepth 20000 in
set_option maxHeartbeats 200000 in
theorem sX11_parted {E : E3} {Q : Q3} {M : M3} {x1 x2 : Int}
    (h : (-2147483648 ≤ x1 ∧ x1 ≤ 2147483647) ∧ ((x1 = (-1) → (((-2147483648 ≤ x2 ∧ x2 ≤ 2147483647) ∧ (-2147483648 ≤ (0 : Int) ∧ (0 : Int) ≤ 2147483647) ∧ (-2147483648 ≤ (2 : Int) ∧ (2 : Int) ≤ 2147483647)) ∧ (((0 ≤ x2 ∧ x2 ≤ 2) → ((LwC M ∧ IA M ∧ (-1 ≤ x1 ∧ x1 ≤ 1) ∧ 0 ≤ x2 ∧ x2 ≤ 2) ∧ (∀ (N1 : M3), RM3 N1 → (∀ q : Nat, q ∉ ([3, 8, 9] : List Nat) → N1 q = M q) → (∀ j : Int, j ∉ ([10] : List Int) → N1 3 0 j = M 3 0 j) → (LwC N1) → (Q (some (vI (mParted M x1 x2))) N1)))) ∧ (¬(0 ≤ x2 ∧ x2 ≤ 2) → (Q (some (vI (-2))) M))))) ∧ (x1 ≠ (-1) → (((-2147483648 ≤ x1 ∧ x1 ≤ 2147483647) ∧ (-2147483648 ≤ (0 : Int) ∧ (0 : Int) ≤ 2147483647) ∧ (-2147483648 ≤ (1 : Int) ∧ (1 : Int) ≤ 2147483647)) ∧ ((¬(0 ≤ x1 ∧ x1 ≤ 1) → (Q (some (vI (-2))) M)) ∧ ((0 ≤ x1 ∧ x1 ≤ 1) → (((-2147483648 ≤ x2 ∧ x2 ≤ 2147483647) ∧ (-2147483648 ≤ (0 : Int) ∧ (0 : Int) ≤ 2147483647) ∧ (-2147483648 ≤ (2 : Int) ∧ (2 : Int) ≤ 2147483647)) ∧ (((0 ≤ x2 ∧ x2 ≤ 2) → ((LwC M ∧ IA M ∧ (-1 ≤ x1 ∧ x1 ≤ 1) ∧ 0 ≤ x2 ∧ x2 ≤ 2) ∧ (∀ (N1 : M3), RM3 N1 → (∀ q : Nat, q ∉ ([3, 8, 9] : List Nat) → N1 q = M q) → (∀ j : Int, j ∉ ([10] : List Int) → N1 3 0 j = M 3 0 j) → (LwC N1) → (Q (some (vI (mParted M x1 x2))) N1)))) ∧ (¬(0 ≤ x2 ∧ x2 ≤ 2) → (Q (some (vI (-2))) M)))))))))) :
    C3 E YX11_parted [vR 0 0, vI x1, vI x2] M Q := by
  refine c3_in rfl rfl (z3 rfl) (g3_rm fun hM => ?_)
  refine g3_iload_n 1 dX11_parted_0 rfl rfl (g3_iconst dX11_parted_1 (g3_icmp_eq (tgt := 12) dX11_parted_2 rfl h.1 (z3 rfl) (fun c => ?_) (fun c => ?_)))
  · have h1 := h; have h := h1.2.1 c
    have o1 := h1.1
    refine g3_iload_n 2 dX11_parted_12 rfl rfl (g3_iconst dX11_parted_13 (g3_iconst dX11_parted_14 (g3_cS3 dX11_parted_15 myX11_within mlX11_78 (z3 rfl) (z3 rfl) (kX11_within h.1 (g3_r1 (g3_bool_ne (tgt := 24) dX11_parted_18 rfl (fun c => ?_) (fun c => ?_)))))))
    · have h1 := h; have h := h1.2.1 c
      have o2 := h1.1
      refine g3_aload_n 0 dX11_parted_24 rfl rfl (g3_getR0 (t := 14) dX11_parted_25 flX11_35 rfl (z3 rfl) (g3_iload_n 1 dX11_parted_28 rfl rfl (g3_iload_n 2 dX11_parted_29 rfl rfl (g3_cV2 dX11_parted_30 myX2_partedOnes mlX11_194 (z3 rfl) ob_14 (z3 rfl) (z3 rfl) (hX2_partedOnes h.1 (fun N1 hN1 hf1 hs1 hp1 => ?_))))))
      have o3 := h.1
      have h := h.2 N1 hN1 hf1 hs1 hp1
      refine g3_r1 ?_
      exact g3_ireturn dX11_parted_33 rfl h
    · have h1 := h; have h := h1.2.2 c
      have o2 := h1.1
      exact g3_bipush dX11_parted_21 rfl (g3_ireturn dX11_parted_23 rfl h)
  · have h1 := h; have h := h1.2.2 c
    have o1 := h1.1
    refine g3_iload_n 1 dX11_parted_5 rfl rfl (g3_cS1 dX11_parted_6 myX11_isSort mlX11_90 (z3 rfl) (z3 rfl) (c3_in rfl rfl (z3 rfl) (g3_iload_n 0 dX11_isSort_0 rfl rfl (g3_iconst dX11_isSort_1 (g3_iconst dX11_isSort_2 (g3_cS3 dX11_isSort_3 myX11_within mlX11_78 (z3 rfl) (z3 rfl) (kX11_within h.1 (g3_r1 (g3_zreturn dX11_isSort_6 rfl (bo3_01 _) (g3_r1 (g3_bool_eq (tgt := 21) dX11_parted_9 rfl (fun c => ?_) (fun c => ?_))))))))))))
    · have h1 := h; have h := h1.2.1 c
      have o4 := h1.1
      exact g3_bipush dX11_parted_21 rfl (g3_ireturn dX11_parted_23 rfl h)
    · have h1 := h; have h := h1.2.2 c
      have o4 := h1.1
      refine g3_iload_n 2 dX11_parted_12 rfl rfl (g3_iconst dX11_parted_13 (g3_iconst dX11_parted_14 (g3_cS3 dX11_parted_15 myX11_within mlX11_78 (z3 rfl) (z3 rfl) (kX11_within h.1 (g3_r1 (g3_bool_ne (tgt := 24) dX11_parted_18 rfl (fun c => ?_) (fun c => ?_)))))))
      · have h1 := h; have h := h1.2.1 c
        have o5 := h1.1
        refine g3_aload_n 0 dX11_parted_24 rfl rfl (g3_getR0 (t := 14) dX11_parted_25 flX11_35 rfl (z3 rfl) (g3_iload_n 1 dX11_parted_28 rfl rfl (g3_iload_n 2 dX11_parted_29 rfl rfl (g3_cV2 dX11_parted_30 myX2_partedOnes mlX11_194 (z3 rfl) ob_14 (z3 rfl) (z3 rfl) (hX2_partedOnes h.1 (fun N1 hN1 hf1 hs1 hp1 => ?_))))))
        have o6 := h.1
        have h := h.2 N1 hN1 hf1 hs1 hp1
        refine g3_r1 ?_
        exact g3_ireturn dX11_parted_33 rfl h
      · have h1 := h; have h := h1.2.2 c
        have o5 := h1.1
        exact g3_bipush dX11_parted_21 rfl (g3_ireturn dX11_parted_23 rfl h)
set_option maxRecDepth 20000 in
set_option maxHeartbeats 200000 in
theorem sX11_unlike {E : E3} {Q : Q3} {M : M3} {x1 : Int}
    (h : ((-2147483648 ≤ x1 ∧ x1 ≤ 2147483647) ∧ (-2147483648 ≤ (0 : Int) ∧ (0 : Int) ≤ 2147483647) ∧ (-2147483648 ≤ (3 : Int) ∧ (3 : Int) ≤ 2147483647)) ∧ ((¬(0 ≤ x1 ∧ x1 ≤ 3) → (Q (some (vI (-2))) M)) ∧ ((0 ≤ x1 ∧ x1 ≤ 3) → ((IA M ∧ 0 ≤ x1 ∧ x1 ≤ 3) ∧ (Q (some (vI (mUof M x1))) M))))) :
    C3 E YX11_unlike [vR 0 0, vI x1] M Q := by
  refine c3_in rfl rfl (z3 rfl) (g3_rm fun hM => ?_)
  refine g3_iload_n 1 dX11_unlike_0 rfl rfl (g3_cS1 dX11_unlike_1 myX11_isClerk mlX11_179 (z3 rfl) (z3 rfl) (c3_in rfl rfl (z3 rfl) (g3_iload_n 0 dX11_isClerk_0 rfl rfl (g3_iconst dX11_isClerk_1 (g3_iconst dX11_isClerk_2 (g3_cS3 dX11_isClerk_3 myX11_within mlX11_78 (z3 rfl) (z3 rfl) (kX11_within h.1 (g3_r1 (g3_zreturn dX11_isClerk_6 rfl (bo3_01 _) (g3_r1 (g3_bool_eq (tgt := 18) dX11_unlike_4 rfl (fun c => ?_) (fun c => ?_))))))))))))
  · have h1 := h; have h := h1.2.1 c
    have o1 := h1.1
    exact g3_bipush dX11_unlike_18 rfl (g3_ireturn dX11_unlike_20 rfl h)
  · have h1 := h; have h := h1.2.2 c
    have o1 := h1.1
    exact g3_aload_n 0 dX11_unlike_7 rfl rfl (g3_getR0 (t := 14) dX11_unlike_8 flX11_35 rfl (z3 rfl) (g3_iload_n 1 dX11_unlike_11 rfl rfl (g3_cV1 dX11_unlike_12 myX2_unlikePairs mlX11_206 (z3 rfl) ob_14 (z3 rfl) (z3 rfl) (kX2_unlikePairs h.1 (g3_r1 (g3_goto (tgt := 20) dX11_unlike_15 rfl (g3_ireturn dX11_unlike_20 rfl h.2)))))))
set_option maxRecDepth 20000 in
set_option maxHeartbeats 200000 in
theorem sX11_proves {E : E3} {Q : Q3} {M : M3} {x1 : Int}
    (h : ((-2147483648 ≤ x1 ∧ x1 ≤ 2147483647) ∧ (-2147483648 ≤ (0 : Int) ∧ (0 : Int) ≤ 2147483647) ∧ (-2147483648 ≤ (3 : Int) ∧ (3 : Int) ≤ 2147483647)) ∧ ((¬(0 ≤ x1 ∧ x1 ≤ 3) → (Q (some (vI (-2))) M)) ∧ ((0 ≤ x1 ∧ x1 ≤ 3) → ((IA M ∧ 0 ≤ x1 ∧ x1 ≤ 3) ∧ (Q (some (vI (mPrv M x1))) M))))) :
    C3 E YX11_proves [vR 0 0, vI x1] M Q := by
  refine c3_in rfl rfl (z3 rfl) (g3_rm fun hM => ?_)
  refine g3_iload_n 1 dX11_proves_0 rfl rfl (g3_cS1 dX11_proves_1 myX11_isClerk mlX11_179 (z3 rfl) (z3 rfl) (c3_in rfl rfl (z3 rfl) (g3_iload_n 0 dX11_isClerk_0 rfl rfl (g3_iconst dX11_isClerk_1 (g3_iconst dX11_isClerk_2 (g3_cS3 dX11_isClerk_3 myX11_within mlX11_78 (z3 rfl) (z3 rfl) (kX11_within h.1 (g3_r1 (g3_zreturn dX11_isClerk_6 rfl (bo3_01 _) (g3_r1 (g3_bool_eq (tgt := 18) dX11_proves_4 rfl (fun c => ?_) (fun c => ?_))))))))))))
  · have h1 := h; have h := h1.2.1 c
    have o1 := h1.1
    exact g3_bipush dX11_proves_18 rfl (g3_ireturn dX11_proves_20 rfl h)
  · have h1 := h; have h := h1.2.2 c
    have o1 := h1.1
    exact g3_aload_n 0 dX11_proves_7 rfl rfl (g3_getR0 (t := 14) dX11_proves_8 flX11_35 rfl (z3 rfl) (g3_iload_n 1 dX11_proves_11 rfl rfl (g3_cV1 dX11_proves_12 myX2_firstUnlikePair mlX11_209 (z3 rfl) ob_14 (z3 rfl) (z3 rfl) (kX2_firstUnlikePair h.1 (g3_r1 (g3_goto (tgt := 20) dX11_proves_15 rfl (g3_ireturn dX11_proves_20 rfl h.2)))))))
set_option maxRecDepth 20000 in
set_option maxHeartbeats 200000 in
theorem sX11_ripe {E : E3} {Q : Q3} {M : M3} {x1 x2 x3 : Int}
    (h : ((-2147483648 ≤ x1 ∧ x1 ≤ 2147483647) ∧ (-2147483648 ≤ (1 : Int) ∧ (1 : Int) ≤ 2147483647) ∧ (-2147483648 ≤ (30 : Int) ∧ (30 : Int) ≤ 2147483647)) ∧ ((¬(1 ≤ x1 ∧ x1 ≤ 30) → (Q (some (vI (-2))) M)) ∧ ((1 ≤ x1 ∧ x1 ≤ 30) → (((-2147483648 ≤ x2 ∧ x2 ≤ 2147483647) ∧ (-2147483648 ≤ (0 : Int) ∧ (0 : Int) ≤ 2147483647) ∧ (-2147483648 ≤ (399 : Int) ∧ (399 : Int) ≤ 2147483647)) ∧ ((¬(0 ≤ x2 ∧ x2 ≤ 399) → (Q (some (vI (-2))) M)) ∧ ((0 ≤ x2 ∧ x2 ≤ 399) → (((-2147483648 ≤ x3 ∧ x3 ≤ 2147483647) ∧ (-2147483648 ≤ (0 : Int) ∧ (0 : Int) ≤ 2147483647) ∧ (-2147483648 ≤ (399 : Int) ∧ (399 : Int) ≤ 2147483647)) ∧ ((¬(0 ≤ x3 ∧ x3 ≤ 399) → (Q (some (vI (-2))) M)) ∧ ((0 ≤ x3 ∧ x3 ≤ 399) → ((-2147483648 ≤ x2 ∧ x2 ≤ 2147483647) ∧ ((-2147483648 ≤ x3 ∧ x3 ≤ 2147483647) ∧ ((x2 ≤ x3 → ((IA M ∧ (1 ≤ x1 ∧ x1 ≤ 30) ∧ (0 ≤ x2 ∧ x2 ≤ 399) ∧ (0 ≤ x3 ∧ x3 ≤ 399)) ∧ (∀ (N1 : M3), RM3 N1 → (∀ q : Nat, q ∉ ([17] : List Nat) → N1 q = M q) → (True) → (Q (some (vI (mRp M x1 x2 x3))) N1)))) ∧ (x3 < x2 → (Q (some (vI (-2))) M)))))))))))))) :
    C3 E YX11_ripe [vR 0 0, vI x1, vI x2, vI x3] M Q := by
  refine c3_in rfl rfl (z3 rfl) (g3_rm fun hM => ?_)
  refine g3_iload_n 1 dX11_ripe_0 rfl rfl (g3_iconst dX11_ripe_1 (g3_bipush dX11_ripe_2 rfl (g3_cS3 dX11_ripe_4 myX11_within mlX11_78 (z3 rfl) (z3 rfl) (kX11_within h.1 (g3_r1 (g3_bool_eq (tgt := 29) dX11_ripe_7 rfl (fun c => ?_) (fun c => ?_)))))))
  · have h1 := h; have h := h1.2.1 c
    have o1 := h1.1
    exact g3_bipush dX11_ripe_29 rfl (g3_ireturn dX11_ripe_31 rfl h)
  · have h1 := h; have h := h1.2.2 c
    have o1 := h1.1
    refine g3_iload_n 2 dX11_ripe_10 rfl rfl (g3_cS1 dX11_ripe_11 myX11_isDay mlX11_151 (z3 rfl) (z3 rfl) (c3_in rfl rfl (z3 rfl) (g3_iload_n 0 dX11_isDay_0 rfl rfl (g3_iconst dX11_isDay_1 (g3_sipush dX11_isDay_2 rfl (g3_cS3 dX11_isDay_5 myX11_within mlX11_78 (z3 rfl) (z3 rfl) (kX11_within h.1 (g3_r1 (g3_zreturn dX11_isDay_8 rfl (bo3_01 _) (g3_r1 (g3_bool_eq (tgt := 29) dX11_ripe_14 rfl (fun c => ?_) (fun c => ?_))))))))))))
    · have h1 := h; have h := h1.2.1 c
      have o2 := h1.1
      exact g3_bipush dX11_ripe_29 rfl (g3_ireturn dX11_ripe_31 rfl h)
    · have h1 := h; have h := h1.2.2 c
      have o2 := h1.1
      refine g3_iload_n 3 dX11_ripe_17 rfl rfl (g3_cS1 dX11_ripe_18 myX11_isDay mlX11_151 (z3 rfl) (z3 rfl) (c3_in rfl rfl (z3 rfl) (g3_iload_n 0 dX11_isDay_0 rfl rfl (g3_iconst dX11_isDay_1 (g3_sipush dX11_isDay_2 rfl (g3_cS3 dX11_isDay_5 myX11_within mlX11_78 (z3 rfl) (z3 rfl) (kX11_within h.1 (g3_r1 (g3_zreturn dX11_isDay_8 rfl (bo3_01 _) (g3_r1 (g3_bool_eq (tgt := 29) dX11_ripe_21 rfl (fun c => ?_) (fun c => ?_))))))))))))
      · have h1 := h; have h := h1.2.1 c
        have o3 := h1.1
        exact g3_bipush dX11_ripe_29 rfl (g3_ireturn dX11_ripe_31 rfl h)
      · have h1 := h; have h := h1.2.2 c
        have o3 := h1.1
        refine g3_iload_n 2 dX11_ripe_24 rfl rfl (g3_iload_n 3 dX11_ripe_25 rfl rfl (g3_icmp_le (tgt := 32) dX11_ripe_26 rfl h.1 h.2.1 (fun c => ?_) (fun c => ?_)))
        · have h1 := h; have h := h1.2.2.1 c
          have o4 := h1.1
          have o5 := h1.2.1
          refine g3_aload_n 0 dX11_ripe_32 rfl rfl (g3_getR0 (t := 14) dX11_ripe_33 flX11_35 rfl (z3 rfl) (g3_iload_n 1 dX11_ripe_36 rfl rfl (g3_iload_n 2 dX11_ripe_37 rfl rfl (g3_iload_n 3 dX11_ripe_38 rfl rfl (g3_cV3 dX11_ripe_39 myX2_ripeOn mlX11_253 (z3 rfl) ob_14 (z3 rfl) (z3 rfl) (hX2_ripeOn h.1 (fun N1 hN1 hf1 hp1 => ?_)))))))
          have o6 := h.1
          have h := h.2 N1 hN1 hf1 hp1
          refine g3_r1 ?_
          exact g3_ireturn dX11_ripe_42 rfl h
        · have h1 := h; have h := h1.2.2.2 c
          have o4 := h1.1
          have o5 := h1.2.1
          exact g3_bipush dX11_ripe_29 rfl (g3_ireturn dX11_ripe_31 rfl h)
set_option maxRecDepth 20000 in
set_option maxHeartbeats 200000 in
theorem sX11_ready {E : E3} {Q : Q3} {M : M3} {x1 : Int}
    (h : (-2147483648 ≤ x1 ∧ x1 ≤ 2147483647) ∧ ((x1 = (-1) → ((LwC M ∧ IB M ∧ -1 ≤ x1 ∧ x1 ≤ 5) ∧ (∀ (N1 : M3), RM3 N1 → (∀ q : Nat, q ∉ ([3, 8, 9] : List Nat) → N1 q = M q) → (∀ j : Int, j ∉ ([10] : List Int) → N1 3 0 j = M 3 0 j) → (LwC N1) → (Q (some (vI (mRdy M x1 0))) N1)))) ∧ (x1 ≠ (-1) → (((-2147483648 ≤ x1 ∧ x1 ≤ 2147483647) ∧ (-2147483648 ≤ (0 : Int) ∧ (0 : Int) ≤ 2147483647) ∧ (-2147483648 ≤ (5 : Int) ∧ (5 : Int) ≤ 2147483647)) ∧ ((¬(0 ≤ x1 ∧ x1 ≤ 5) → (Q (some (vI (-2))) M)) ∧ ((0 ≤ x1 ∧ x1 ≤ 5) → ((LwC M ∧ IB M ∧ -1 ≤ x1 ∧ x1 ≤ 5) ∧ (∀ (N1 : M3), RM3 N1 → (∀ q : Nat, q ∉ ([3, 8, 9] : List Nat) → N1 q = M q) → (∀ j : Int, j ∉ ([10] : List Int) → N1 3 0 j = M 3 0 j) → (LwC N1) → (Q (some (vI (mRdy M x1 0))) N1))))))))) :
    C3 E YX11_ready [vR 0 0, vI x1] M Q := by
  refine c3_in rfl rfl (z3 rfl) (g3_rm fun hM => ?_)
  refine g3_iload_n 1 dX11_ready_0 rfl rfl (g3_iconst dX11_ready_1 (g3_icmp_eq (tgt := 12) dX11_ready_2 rfl h.1 (z3 rfl) (fun c => ?_) (fun c => ?_)))
  · have h1 := h; have h := h1.2.1 c
    have o1 := h1.1
    refine g3_aload_n 0 dX11_ready_12 rfl rfl (g3_getR0 (t := 26) dX11_ready_13 flX11_49 rfl (z3 rfl) (g3_iload_n 1 dX11_ready_16 rfl rfl (g3_cV1 dX11_ready_17 myX5_readyIn mlX11_241 (z3 rfl) ob_26 (z3 rfl) (z3 rfl) (hX5_readyIn h.1 (fun N1 hN1 hf1 hs1 hp1 => ?_)))))
    have o2 := h.1
    have h := h.2 N1 hN1 hf1 hs1 hp1
    refine g3_r1 ?_
    exact g3_goto (tgt := 25) dX11_ready_20 rfl (g3_ireturn dX11_ready_25 rfl h)
  · have h1 := h; have h := h1.2.2 c
    have o1 := h1.1
    refine g3_iload_n 1 dX11_ready_5 rfl rfl (g3_cS1 dX11_ready_6 myX11_isBeat mlX11_86 (z3 rfl) (z3 rfl) (c3_in rfl rfl (z3 rfl) (g3_iload_n 0 dX11_isBeat_0 rfl rfl (g3_iconst dX11_isBeat_1 (g3_iconst dX11_isBeat_2 (g3_cS3 dX11_isBeat_3 myX11_within mlX11_78 (z3 rfl) (z3 rfl) (kX11_within h.1 (g3_r1 (g3_zreturn dX11_isBeat_6 rfl (bo3_01 _) (g3_r1 (g3_bool_eq (tgt := 23) dX11_ready_9 rfl (fun c => ?_) (fun c => ?_))))))))))))
    · have h1 := h; have h := h1.2.1 c
      have o3 := h1.1
      exact g3_bipush dX11_ready_23 rfl (g3_ireturn dX11_ready_25 rfl h)
    · have h1 := h; have h := h1.2.2 c
      have o3 := h1.1
      refine g3_aload_n 0 dX11_ready_12 rfl rfl (g3_getR0 (t := 26) dX11_ready_13 flX11_49 rfl (z3 rfl) (g3_iload_n 1 dX11_ready_16 rfl rfl (g3_cV1 dX11_ready_17 myX5_readyIn mlX11_241 (z3 rfl) ob_26 (z3 rfl) (z3 rfl) (hX5_readyIn h.1 (fun N1 hN1 hf1 hs1 hp1 => ?_)))))
      have o4 := h.1
      have h := h.2 N1 hN1 hf1 hs1 hp1
      refine g3_r1 ?_
      exact g3_goto (tgt := 25) dX11_ready_20 rfl (g3_ireturn dX11_ready_25 rfl h)
set_option maxRecDepth 20000 in
set_option maxHeartbeats 200000 in
theorem sX11_helpers {E : E3} {Q : Q3} {M : M3} {x1 x2 : Int}
    (h : ((-2147483648 ≤ x1 ∧ x1 ≤ 2147483647) ∧ (-2147483648 ≤ (0 : Int) ∧ (0 : Int) ≤ 2147483647) ∧ (-2147483648 ≤ (12 : Int) ∧ (12 : Int) ≤ 2147483647)) ∧ ((¬(0 ≤ x1 ∧ x1 ≤ 12) → (Q (some (vI (-2))) M)) ∧ ((0 ≤ x1 ∧ x1 ≤ 12) → ((-2147483648 ≤ x2 ∧ x2 ≤ 2147483647) ∧ ((x2 = (-1) → ((LwC M ∧ IB M ∧ (0 ≤ x1 ∧ x1 ≤ 12) ∧ -1 ≤ x2 ∧ x2 ≤ 5) ∧ (∀ (r1 : Int) (N1 : M3), RM3 N1 → (∀ q : Nat, q ∉ ([0, 1, 2, 3, 4, 5, 6, 7, 8, 9, 10, 11, 12, 13, 14, 15, 16, 17, 18, 19, 20, 21, 22, 23, 24, 25, 26, 27, 28, 29, 30, 31, 32, 33, 34, 35, 36, 37, 38, 39, 40, 41, 42, 43, 44, 45, 46, 47, 48, 49, 50, 51, 52, 53, 54, 55, 56, 57, 58, 59, 60, 61, 62, 63, 64, 65, 66, 67, 68, 69, 70, 71, 72, 73, 74, 75, 76, 77, 78, 79, 80, 81, 82, 83, 84, 85, 86, 87, 88, 89] : List Nat) → N1 q = M q) → (Ex [28, 30] M N1 ∧ LwC N1 ∧ hpS (mRdy M) x1 x2 r1) → (Q (some (vI r1)) N1)))) ∧ (x2 ≠ (-1) → (((-2147483648 ≤ x2 ∧ x2 ≤ 2147483647) ∧ (-2147483648 ≤ (0 : Int) ∧ (0 : Int) ≤ 2147483647) ∧ (-2147483648 ≤ (5 : Int) ∧ (5 : Int) ≤ 2147483647)) ∧ (((0 ≤ x2 ∧ x2 ≤ 5) → ((LwC M ∧ IB M ∧ (0 ≤ x1 ∧ x1 ≤ 12) ∧ -1 ≤ x2 ∧ x2 ≤ 5) ∧ (∀ (r1 : Int) (N1 : M3), RM3 N1 → (∀ q : Nat, q ∉ ([0, 1, 2, 3, 4, 5, 6, 7, 8, 9, 10, 11, 12, 13, 14, 15, 16, 17, 18, 19, 20, 21, 22, 23, 24, 25, 26, 27, 28, 29, 30, 31, 32, 33, 34, 35, 36, 37, 38, 39, 40, 41, 42, 43, 44, 45, 46, 47, 48, 49, 50, 51, 52, 53, 54, 55, 56, 57, 58, 59, 60, 61, 62, 63, 64, 65, 66, 67, 68, 69, 70, 71, 72, 73, 74, 75, 76, 77, 78, 79, 80, 81, 82, 83, 84, 85, 86, 87, 88, 89] : List Nat) → N1 q = M q) → (Ex [28, 30] M N1 ∧ LwC N1 ∧ hpS (mRdy M) x1 x2 r1) → (Q (some (vI r1)) N1)))) ∧ (¬(0 ≤ x2 ∧ x2 ≤ 5) → (Q (some (vI (-2))) M)))))))))) :
    C3 E YX11_helpers [vR 0 0, vI x1, vI x2] M Q := by
  refine c3_in rfl rfl (z3 rfl) (g3_rm fun hM => ?_)
  refine g3_iload_n 1 dX11_helpers_0 rfl rfl (g3_iconst dX11_helpers_1 (g3_bipush dX11_helpers_2 rfl (g3_cS3 dX11_helpers_4 myX11_within mlX11_78 (z3 rfl) (z3 rfl) (kX11_within h.1 (g3_r1 (g3_bool_eq (tgt := 22) dX11_helpers_7 rfl (fun c => ?_) (fun c => ?_)))))))
  · have h1 := h; have h := h1.2.1 c
    have o1 := h1.1
    exact g3_bipush dX11_helpers_22 rfl (g3_ireturn dX11_helpers_24 rfl h)
  · have h1 := h; have h := h1.2.2 c
    have o1 := h1.1
    refine g3_iload_n 2 dX11_helpers_10 rfl rfl (g3_iconst dX11_helpers_11 (g3_icmp_eq (tgt := 25) dX11_helpers_12 rfl h.1 (z3 rfl) (fun c => ?_) (fun c => ?_)))
    · have h1 := h; have h := h1.2.1 c
      have o2 := h1.1
      refine g3_aload_n 0 dX11_helpers_25 rfl rfl (g3_getR0 (t := 26) dX11_helpers_26 flX11_49 rfl (z3 rfl) (g3_iload_n 1 dX11_helpers_29 rfl rfl (g3_iload_n 2 dX11_helpers_30 rfl rfl (g3_cV2 dX11_helpers_31 myX5_share mlX11_244 (z3 rfl) ob_26 (z3 rfl) (z3 rfl) (hX5_share h.1 (fun r1 N1 hN1 hf1 hp1 => ?_))))))
      have o3 := h.1
      have h := h.2 r1 N1 hN1 hf1 hp1
      refine g3_r1 ?_
      exact g3_ireturn dX11_helpers_34 rfl h
    · have h1 := h; have h := h1.2.2 c
      have o2 := h1.1
      refine g3_iload_n 2 dX11_helpers_15 rfl rfl (g3_cS1 dX11_helpers_16 myX11_isBeat mlX11_86 (z3 rfl) (z3 rfl) (c3_in rfl rfl (z3 rfl) (g3_iload_n 0 dX11_isBeat_0 rfl rfl (g3_iconst dX11_isBeat_1 (g3_iconst dX11_isBeat_2 (g3_cS3 dX11_isBeat_3 myX11_within mlX11_78 (z3 rfl) (z3 rfl) (kX11_within h.1 (g3_r1 (g3_zreturn dX11_isBeat_6 rfl (bo3_01 _) (g3_r1 (g3_bool_ne (tgt := 25) dX11_helpers_19 rfl (fun c => ?_) (fun c => ?_))))))))))))
      · have h1 := h; have h := h1.2.1 c
        have o4 := h1.1
        refine g3_aload_n 0 dX11_helpers_25 rfl rfl (g3_getR0 (t := 26) dX11_helpers_26 flX11_49 rfl (z3 rfl) (g3_iload_n 1 dX11_helpers_29 rfl rfl (g3_iload_n 2 dX11_helpers_30 rfl rfl (g3_cV2 dX11_helpers_31 myX5_share mlX11_244 (z3 rfl) ob_26 (z3 rfl) (z3 rfl) (hX5_share h.1 (fun r1 N1 hN1 hf1 hp1 => ?_))))))
        have o5 := h.1
        have h := h.2 r1 N1 hN1 hf1 hp1
        refine g3_r1 ?_
        exact g3_ireturn dX11_helpers_34 rfl h
      · have h1 := h; have h := h1.2.2 c
        have o4 := h1.1
        exact g3_bipush dX11_helpers_22 rfl (g3_ireturn dX11_helpers_24 rfl h)
set_option maxRecDepth 20000 in
set_option maxHeartbeats 200000 in
theorem sX11_wins {E : E3} {Q : Q3} {M : M3} {x1 : Int}
    (h : ((-2147483648 ≤ x1 ∧ x1 ≤ 2147483647) ∧ (-2147483648 ≤ (0 : Int) ∧ (0 : Int) ≤ 2147483647) ∧ (-2147483648 ≤ (6 : Int) ∧ (6 : Int) ≤ 2147483647)) ∧ ((¬(0 ≤ x1 ∧ x1 ≤ 6) → (Q (some (vI (-2))) M)) ∧ ((0 ≤ x1 ∧ x1 ≤ 6) → ((IB M ∧ 0 ≤ x1 ∧ x1 ≤ 6) ∧ (∀ (r1 : Int) (N1 : M3), RM3 N1 → (∀ q : Nat, q ∉ ([12] : List Nat) → N1 q = M q) → (wnP (wOf M) x1 r1) → (Q (some (vI r1)) N1)))))) :
    C3 E YX11_wins [vR 0 0, vI x1] M Q := by
  refine c3_in rfl rfl (z3 rfl) (g3_rm fun hM => ?_)
  refine g3_iload_n 1 dX11_wins_0 rfl rfl (g3_iconst dX11_wins_1 (g3_bipush dX11_wins_2 rfl (g3_cS3 dX11_wins_4 myX11_within mlX11_78 (z3 rfl) (z3 rfl) (kX11_within h.1 (g3_r1 (g3_bool_eq (tgt := 21) dX11_wins_7 rfl (fun c => ?_) (fun c => ?_)))))))
  · have h1 := h; have h := h1.2.1 c
    have o1 := h1.1
    exact g3_bipush dX11_wins_21 rfl (g3_ireturn dX11_wins_23 rfl h)
  · have h1 := h; have h := h1.2.2 c
    have o1 := h1.1
    refine g3_aload_n 0 dX11_wins_10 rfl rfl (g3_getR0 (t := 10) dX11_wins_11 flX11_26 rfl (z3 rfl) (g3_iload_n 1 dX11_wins_14 rfl rfl (g3_cV1 dX11_wins_15 myX0_namesToWin mlX11_268 (z3 rfl) ob_10 (z3 rfl) (z3 rfl) (kX0_namesToWin h.1 (fun r1 N1 hN1 hf1 hp1 => ?_)))))
    have o2 := h.1
    have h := h.2 r1 N1 hN1 hf1 hp1
    refine g3_r1 ?_
    exact g3_goto (tgt := 23) dX11_wins_18 rfl (g3_ireturn dX11_wins_23 rfl h)
set_option maxRecDepth 20000 in
set_option maxHeartbeats 200000 in
theorem sX11_changed {E : E3} {Q : Q3} {M : M3} {x1 : Int}
    (h : ((-2147483648 ≤ x1 ∧ x1 ≤ 2147483647) ∧ (-2147483648 ≤ (0 : Int) ∧ (0 : Int) ≤ 2147483647) ∧ (-2147483648 ≤ (5 : Int) ∧ (5 : Int) ≤ 2147483647)) ∧ ((¬(0 ≤ x1 ∧ x1 ≤ 5) → (Q (some (vI (-2))) M)) ∧ ((0 ≤ x1 ∧ x1 ≤ 5) → ((IB M ∧ 0 ≤ x1 ∧ x1 ≤ 5) ∧ (Q (some (vI (mChd M x1))) M))))) :
    C3 E YX11_changed [vR 0 0, vI x1] M Q := by
  refine c3_in rfl rfl (z3 rfl) (g3_rm fun hM => ?_)
  refine g3_iload_n 1 dX11_changed_0 rfl rfl (g3_cS1 dX11_changed_1 myX11_isBeat mlX11_86 (z3 rfl) (z3 rfl) (c3_in rfl rfl (z3 rfl) (g3_iload_n 0 dX11_isBeat_0 rfl rfl (g3_iconst dX11_isBeat_1 (g3_iconst dX11_isBeat_2 (g3_cS3 dX11_isBeat_3 myX11_within mlX11_78 (z3 rfl) (z3 rfl) (kX11_within h.1 (g3_r1 (g3_zreturn dX11_isBeat_6 rfl (bo3_01 _) (g3_r1 (g3_bool_eq (tgt := 18) dX11_changed_4 rfl (fun c => ?_) (fun c => ?_))))))))))))
  · have h1 := h; have h := h1.2.1 c
    have o1 := h1.1
    exact g3_bipush dX11_changed_18 rfl (g3_ireturn dX11_changed_20 rfl h)
  · have h1 := h; have h := h1.2.2 c
    have o1 := h1.1
    exact g3_aload_n 0 dX11_changed_7 rfl rfl (g3_getR0 (t := 10) dX11_changed_8 flX11_26 rfl (z3 rfl) (g3_iload_n 1 dX11_changed_11 rfl rfl (g3_cV1 dX11_changed_12 myX0_namesToChange mlX11_265 (z3 rfl) ob_10 (z3 rfl) (z3 rfl) (kX0_namesToChange h.1 (g3_r1 (g3_goto (tgt := 20) dX11_changed_15 rfl (g3_ireturn dX11_changed_20 rfl h.2)))))))
set_option maxRecDepth 20000 in
set_option maxHeartbeats 200000 in
theorem sX11_chosen {E : E3} {Q : Q3} {M : M3} {x1 : Int}
    (h : ((-2147483648 ≤ x1 ∧ x1 ≤ 2147483647) ∧ (-2147483648 ≤ (0 : Int) ∧ (0 : Int) ≤ 2147483647) ∧ (-2147483648 ≤ (5 : Int) ∧ (5 : Int) ≤ 2147483647)) ∧ ((¬(0 ≤ x1 ∧ x1 ≤ 5) → (Q (some (vI (-2))) M)) ∧ ((0 ≤ x1 ∧ x1 ≤ 5) → ((IB M ∧ 0 ≤ x1 ∧ x1 ≤ 5) ∧ (Q (some (vI (mChs M x1))) M))))) :
    C3 E YX11_chosen [vR 0 0, vI x1] M Q := by
  refine c3_in rfl rfl (z3 rfl) (g3_rm fun hM => ?_)
  refine g3_iload_n 1 dX11_chosen_0 rfl rfl (g3_cS1 dX11_chosen_1 myX11_isBeat mlX11_86 (z3 rfl) (z3 rfl) (c3_in rfl rfl (z3 rfl) (g3_iload_n 0 dX11_isBeat_0 rfl rfl (g3_iconst dX11_isBeat_1 (g3_iconst dX11_isBeat_2 (g3_cS3 dX11_isBeat_3 myX11_within mlX11_78 (z3 rfl) (z3 rfl) (kX11_within h.1 (g3_r1 (g3_zreturn dX11_isBeat_6 rfl (bo3_01 _) (g3_r1 (g3_bool_eq (tgt := 18) dX11_chosen_4 rfl (fun c => ?_) (fun c => ?_))))))))))))
  · have h1 := h; have h := h1.2.1 c
    have o1 := h1.1
    exact g3_bipush dX11_chosen_18 rfl (g3_ireturn dX11_chosen_20 rfl h)
  · have h1 := h; have h := h1.2.2 c
    have o1 := h1.1
    exact g3_aload_n 0 dX11_chosen_7 rfl rfl (g3_getR0 (t := 10) dX11_chosen_8 flX11_26 rfl (z3 rfl) (g3_iload_n 1 dX11_chosen_11 rfl rfl (g3_cV1 dX11_chosen_12 myX0_winner mlX11_262 (z3 rfl) ob_10 (z3 rfl) (z3 rfl) (kX0_winner h.1 (g3_r1 (g3_goto (tgt := 20) dX11_chosen_15 rfl (g3_ireturn dX11_chosen_20 rfl h.2)))))))
set_option maxRecDepth 20000 in
set_option maxHeartbeats 200000 in
theorem sX12_unlike {E : E3} {Q : Q3} {M : M3} {x1 : Int}
    (h : ((-2147483648 ≤ x1 ∧ x1 ≤ 2147483647) ∧ (-2147483648 ≤ (0 : Int) ∧ (0 : Int) ≤ 2147483647) ∧ (-2147483648 ≤ (3 : Int) ∧ (3 : Int) ≤ 2147483647)) ∧ ((¬(0 ≤ x1 ∧ x1 ≤ 3) → (Q (some (vI (-2))) M)) ∧ ((0 ≤ x1 ∧ x1 ≤ 3) → ((RdC M ∧ okA M ∧ (-2147483648 ≤ x1 ∧ x1 ≤ 2147483647)) ∧ (∀ (N1 : M3), RM3 N1 → Em M N1 → (RdC N1) → (Q (some (vI (mUof M x1))) N1)))))) :
    C3 E YX12_unlike [vR 44 0, vI x1] M Q := by
  refine c3_in rfl rfl (z3 rfl) (g3_rm fun hM => ?_)
  refine g3_iload_n 1 dX12_unlike_0 rfl rfl (g3_cS1 dX12_unlike_1 myX12_isClerk mlX12_248 (z3 rfl) (z3 rfl) (c3_in rfl rfl (z3 rfl) (g3_iload_n 0 dX12_isClerk_0 rfl rfl (g3_iconst dX12_isClerk_1 (g3_iconst dX12_isClerk_2 (g3_cS3 dX12_isClerk_3 myX12_in mlX12_144 (z3 rfl) (z3 rfl) (kX12_in h.1 (g3_r1 (g3_zreturn dX12_isClerk_6 rfl (bo3_01 _) (g3_r1 (g3_bool_eq (tgt := 15) dX12_unlike_4 rfl (fun c => ?_) (fun c => ?_))))))))))))
  · have h1 := h; have h := h1.2.1 c
    have o1 := h1.1
    exact g3_bipush dX12_unlike_15 rfl (g3_ireturn dX12_unlike_17 rfl h)
  · have h1 := h; have h := h1.2.2 c
    have o1 := h1.1
    refine g3_aload_n 0 dX12_unlike_7 rfl rfl (g3_iload_n 1 dX12_unlike_8 rfl rfl (g3_cV1 dX12_unlike_9 myX12_unlikeOf mlX12_278 (z3 rfl) ob_44 (z3 rfl) (z3 rfl) (eX12_unlikeOf Em.rf h.1 (fun N1 hN1 he1 hp1 => ?_))))
    have o2 := h.1
    have h := h.2 N1 hN1 he1 hp1
    refine g3_r1 ?_
    exact g3_goto (tgt := 17) dX12_unlike_12 rfl (g3_ireturn dX12_unlike_17 rfl h)
set_option maxRecDepth 20000 in
set_option maxHeartbeats 200000 in
theorem sX12_ready {E : E3} {Q : Q3} {M : M3} {x1 : Int}
    (h : ((-2147483648 ≤ x1 ∧ x1 ≤ 2147483647) ∧ (-2147483648 ≤ ((-1) : Int) ∧ ((-1) : Int) ≤ 2147483647) ∧ (-2147483648 ≤ (5 : Int) ∧ (5 : Int) ≤ 2147483647)) ∧ ((¬((-1) ≤ x1 ∧ x1 ≤ 5) → (Q (some (vI (-2))) M)) ∧ (((-1) ≤ x1 ∧ x1 ≤ 5) → ((RdC M ∧ okP M ∧ (-2147483648 ≤ x1 ∧ x1 ≤ 2147483647) ∧ 0 ≤ (0 : Int) ∧ (0 : Int) ≤ 12) ∧ (∀ (N1 : M3), RM3 N1 → Em M N1 → (RdC N1) → (Q (some (vI (mRdy M x1 0))) N1)))))) :
    C3 E YX12_ready [vR 44 0, vI x1] M Q := by
  refine c3_in rfl rfl (z3 rfl) (g3_rm fun hM => ?_)
  refine g3_iload_n 1 dX12_ready_0 rfl rfl (g3_iconst dX12_ready_1 (g3_iconst dX12_ready_2 (g3_cS3 dX12_ready_3 myX12_in mlX12_144 (z3 rfl) (z3 rfl) (kX12_in h.1 (g3_r1 (g3_bool_eq (tgt := 18) dX12_ready_6 rfl (fun c => ?_) (fun c => ?_)))))))
  · have h1 := h; have h := h1.2.1 c
    have o1 := h1.1
    exact g3_bipush dX12_ready_18 rfl (g3_ireturn dX12_ready_20 rfl h)
  · have h1 := h; have h := h1.2.2 c
    have o1 := h1.1
    refine g3_aload_n 0 dX12_ready_9 rfl rfl (g3_iload_n 1 dX12_ready_10 rfl rfl (g3_iconst dX12_ready_11 (g3_cV2 dX12_ready_12 myX12_readyOf mlX12_293 (z3 rfl) ob_44 (z3 rfl) (z3 rfl) (eX12_readyOf Em.rf h.1 (fun N1 hN1 he1 hp1 => ?_)))))
    have o2 := h.1
    have h := h.2 N1 hN1 he1 hp1
    refine g3_r1 ?_
    exact g3_goto (tgt := 20) dX12_ready_15 rfl (g3_ireturn dX12_ready_20 rfl h)
set_option maxRecDepth 20000 in
set_option maxHeartbeats 200000 in
theorem sX12_chosen {E : E3} {Q : Q3} {M : M3} {x1 : Int}
    (h : ((-2147483648 ≤ x1 ∧ x1 ≤ 2147483647) ∧ (-2147483648 ≤ (0 : Int) ∧ (0 : Int) ≤ 2147483647) ∧ (-2147483648 ≤ (5 : Int) ∧ (5 : Int) ≤ 2147483647)) ∧ ((¬(0 ≤ x1 ∧ x1 ≤ 5) → (Q (some (vI (-2))) M)) ∧ ((0 ≤ x1 ∧ x1 ≤ 5) → (((0 ≤ M 44 0 1 ∧ M 44 0 1 ≤ 48) ∧ (0 ≤ x1 ∧ x1 ≤ 5)) ∧ (Q (some (vI (mChs M x1))) M))))) :
    C3 E YX12_chosen [vR 44 0, vI x1] M Q := by
  refine c3_in rfl rfl (z3 rfl) (g3_rm fun hM => ?_)
  refine g3_iload_n 1 dX12_chosen_0 rfl rfl (g3_cS1 dX12_chosen_1 myX12_isBeat mlX12_154 (z3 rfl) (z3 rfl) (c3_in rfl rfl (z3 rfl) (g3_iload_n 0 dX12_isBeat_0 rfl rfl (g3_iconst dX12_isBeat_1 (g3_iconst dX12_isBeat_2 (g3_cS3 dX12_isBeat_3 myX12_in mlX12_144 (z3 rfl) (z3 rfl) (kX12_in h.1 (g3_r1 (g3_zreturn dX12_isBeat_6 rfl (bo3_01 _) (g3_r1 (g3_bool_eq (tgt := 15) dX12_chosen_4 rfl (fun c => ?_) (fun c => ?_))))))))))))
  · have h1 := h; have h := h1.2.1 c
    have o1 := h1.1
    exact g3_bipush dX12_chosen_15 rfl (g3_ireturn dX12_chosen_17 rfl h)
  · have h1 := h; have h := h1.2.2 c
    have o1 := h1.1
    exact g3_aload_n 0 dX12_chosen_7 rfl rfl (g3_iload_n 1 dX12_chosen_8 rfl rfl (g3_cV1 dX12_chosen_9 myX12_chosenIn mlX12_309 (z3 rfl) ob_44 (z3 rfl) (z3 rfl) (kX12_chosenIn h.1 (g3_r1 (g3_goto (tgt := 17) dX12_chosen_12 rfl (g3_ireturn dX12_chosen_17 rfl h.2))))))
