theorem tout_0_5 {x : Int} (c0 : ¬ (x = 0)) (c1 : ¬ (x = 1)) (c2 : ¬ (x = 2)) (c3 : ¬ (x = 3)) (c4 : ¬ (x = 4)) (c5 : ¬ (x = 5)) : x < 0 ∨ 5 < x := by omega
set_option maxRecDepth 20000 in
set_option maxHeartbeats 200000 in
theorem sX11_teach {E : E3} {Q : Q3} {M : M3} {x1 : Int}
    (h : ((-2147483648 ≤ x1 ∧ x1 ≤ 2147483647) ∧ (-2147483648 ≤ (0 : Int) ∧ (0 : Int) ≤ 2147483647) ∧ (-2147483648 ≤ (5 : Int) ∧ (5 : Int) ≤ 2147483647)) ∧ ((¬(0 ≤ x1 ∧ x1 ≤ 5) → (Q (some (vI (-2))) M)) ∧ ((0 ≤ x1 ∧ x1 ≤ 5) → ((LwC M ∧ IB M ∧ 0 ≤ x1 ∧ x1 ≤ 5) ∧ (∀ (N1 : M3), RM3 N1 → (∀ q : Nat, q ∉ ([0, 1, 2, 3, 4, 5, 6, 7, 8, 9, 10, 11, 12, 13, 14, 15, 16, 17, 18, 19, 20, 21, 22, 23, 24, 25, 26, 27, 28, 29, 30, 31, 32, 33, 34, 35, 36, 37, 38, 39, 40, 41, 42, 43, 44, 45, 46, 47, 48, 49, 50, 51, 52, 53, 54, 55, 56, 57, 58, 59, 60, 61, 62, 63, 64, 65, 66, 67, 68, 69, 70, 71, 72, 73, 74, 75, 76, 77, 78, 79, 80, 81, 82, 83, 84, 85, 86, 87, 88, 89] : List Nat) → N1 q = M q) → (Ec (tcC M x1 (M 44 0 1)) N1 ∧ LwC N1) → (Q (some (vI (mTch M x1))) N1)))))) :
    C3 E YX11_teach [vR 0 0, vI x1] M Q := by
  refine c3_in rfl rfl (z3 rfl) (g3_rm fun hM => ?_)
  refine g3_iload_n 1 dX11_teach_0 rfl rfl (g3_cS1 dX11_teach_1 myX11_isBeat mlX11_86 (z3 rfl) (z3 rfl) (c3_in rfl rfl (z3 rfl) (g3_iload_n 0 dX11_isBeat_0 rfl rfl (g3_iconst dX11_isBeat_1 (g3_iconst dX11_isBeat_2 (g3_cS3 dX11_isBeat_3 myX11_within mlX11_78 (z3 rfl) (z3 rfl) (kX11_within h.1 (g3_r1 (g3_zreturn dX11_isBeat_6 rfl (bo3_01 _) (g3_r1 (g3_bool_eq (tgt := 18) dX11_teach_4 rfl (fun c => ?_) (fun c => ?_))))))))))))
  · have h1 := h; have h := h1.2.1 c
    have o1 := h1.1
    exact g3_bipush dX11_teach_18 rfl (g3_ireturn dX11_teach_20 rfl h)
  · have h1 := h; have h := h1.2.2 c
    have o1 := h1.1
    refine g3_aload_n 0 dX11_teach_7 rfl rfl (g3_getR0 (t := 26) dX11_teach_8 flX11_49 rfl (z3 rfl) (g3_iload_n 1 dX11_teach_11 rfl rfl (g3_cV1 dX11_teach_12 myX5_give mlX11_238 (z3 rfl) ob_26 (z3 rfl) (z3 rfl) (hX5_give h.1 (fun N1 hN1 hf1 hp1 => ?_)))))
    have o2 := h.1
    have h := h.2 N1 hN1 hf1 hp1
    refine g3_r1 ?_
    exact g3_goto (tgt := 20) dX11_teach_15 rfl (g3_ireturn dX11_teach_20 rfl h)
set_option maxRecDepth 20000 in
set_option maxHeartbeats 200000 in
theorem sX11_list {E : E3} {Q : Q3} {M : M3}
    (h : (M 36 0 0 < 30 → ((IB M ∧ M 44 0 39 < 30) ∧ (∀ (r1 : Int) (N1 : M3), RM3 N1 → (∀ q : Nat, q ∉ ([13, 36, 37, 38, 39, 40, 41] : List Nat) → N1 q = M q) → (poPr M r1 N1) → (Q (some (vI r1)) N1)))) ∧ (30 ≤ M 36 0 0 → (Q (some (vI (-4))) M))) :
    C3 E YX11_list [vR 0 0] M Q := by
  refine c3_in rfl rfl (z3 rfl) (g3_rm fun hM => ?_)
  refine g3_aload_n 0 dX11_list_0 rfl rfl (g3_getR0 (t := 36) dX11_list_1 flX11_67 rfl (z3 rfl) (g3_cV0 dX11_list_4 myX7_isFull mlX11_247 (z3 rfl) ob_36 (z3 rfl) (z3 rfl) (c3_in rfl rfl (z3 rfl) (g3_aload_n 0 dX7_isFull_0 rfl rfl (g3_getI (t := 0) dX7_isFull_1 flX7_35 (z3 rfl) (z3 rfl) (g3_bipush dX7_isFull_4 rfl (g3_icmp_lt (tgt := 13) dX7_isFull_6 rfl (hM 36 0 0) (z3 rfl) (fun c => ?_) (fun c => ?_))))))))
  · have h1 := h; have h := h1.1 c
    refine g3_iconst dX7_isFull_13 (g3_zreturn dX7_isFull_14 rfl (Or.inl rfl) (g3_r1 (g3_if_eq_T (tgt := 15) dX11_list_7 rfl (z3 rfl) (g3_aload_n 0 dX11_list_15 rfl rfl (g3_getR0 (t := 36) dX11_list_16 flX11_67 rfl (z3 rfl) (g3_cV0 dX11_list_19 myX7_print mlX11_248 (z3 rfl) ob_36 (z3 rfl) (z3 rfl) (kX7_print h.1 (fun r1 N1 hN1 hf1 hp1 => ?_))))))))
    have o1 := h.1
    have h := h.2 r1 N1 hN1 hf1 hp1
    refine g3_r1 ?_
    exact g3_ireturn dX11_list_22 rfl h
  · have h1 := h; have h := h1.2 c
    exact g3_iconst dX7_isFull_9 (g3_goto (tgt := 14) dX7_isFull_10 rfl (g3_zreturn dX7_isFull_14 rfl (Or.inr rfl) (g3_r1 (g3_if_eq_F (tgt := 15) dX11_list_7 rfl (z3 rfl) (g3_bipush dX11_list_10 rfl (g3_goto (tgt := 22) dX11_list_12 rfl (g3_ireturn dX11_list_22 rfl h)))))))
set_option maxRecDepth 20000 in
set_option maxHeartbeats 200000 in
theorem sX11_sees {E : E3} {Q : Q3} {M : M3} {x1 x2 : Int}
    (h : ((-2147483648 ≤ x1 ∧ x1 ≤ 2147483647) ∧ (-2147483648 ≤ (0 : Int) ∧ (0 : Int) ≤ 2147483647) ∧ (-2147483648 ≤ (3 : Int) ∧ (3 : Int) ≤ 2147483647)) ∧ ((¬(0 ≤ x1 ∧ x1 ≤ 3) → (Q (some (vI (-2))) M)) ∧ ((0 ≤ x1 ∧ x1 ≤ 3) → (((-2147483648 ≤ x2 ∧ x2 ≤ 2147483647) ∧ (-2147483648 ≤ (0 : Int) ∧ (0 : Int) ≤ 2147483647) ∧ (-2147483648 ≤ (399 : Int) ∧ (399 : Int) ≤ 2147483647)) ∧ (((0 ≤ x2 ∧ x2 ≤ 399) → ((iLin M ∧ (0 ≤ x1 ∧ x1 ≤ 3) ∧ 0 ≤ x2 ∧ x2 ≤ 399) ∧ (∀ (r1 : Int) (N1 : M3), RM3 N1 → (∀ q : Nat, q ∉ ([24] : List Nat) → N1 q = M q) → (poSv M x1 x2 r1 N1) → (Q (some (vI r1)) N1)))) ∧ (¬(0 ≤ x2 ∧ x2 ≤ 399) → (Q (some (vI (-2))) M))))))) :
    C3 E YX11_sees [vR 0 0, vI x1, vI x2] M Q := by
  refine c3_in rfl rfl (z3 rfl) (g3_rm fun hM => ?_)
  refine g3_iload_n 1 dX11_sees_0 rfl rfl (g3_cS1 dX11_sees_1 myX11_isClerk mlX11_179 (z3 rfl) (z3 rfl) (c3_in rfl rfl (z3 rfl) (g3_iload_n 0 dX11_isClerk_0 rfl rfl (g3_iconst dX11_isClerk_1 (g3_iconst dX11_isClerk_2 (g3_cS3 dX11_isClerk_3 myX11_within mlX11_78 (z3 rfl) (z3 rfl) (kX11_within h.1 (g3_r1 (g3_zreturn dX11_isClerk_6 rfl (bo3_01 _) (g3_r1 (g3_bool_eq (tgt := 14) dX11_sees_4 rfl (fun c => ?_) (fun c => ?_))))))))))))
  · have h1 := h; have h := h1.2.1 c
    have o1 := h1.1
    exact g3_bipush dX11_sees_14 rfl (g3_ireturn dX11_sees_16 rfl h)
  · have h1 := h; have h := h1.2.2 c
    have o1 := h1.1
    refine g3_iload_n 2 dX11_sees_7 rfl rfl (g3_cS1 dX11_sees_8 myX11_isDay mlX11_151 (z3 rfl) (z3 rfl) (c3_in rfl rfl (z3 rfl) (g3_iload_n 0 dX11_isDay_0 rfl rfl (g3_iconst dX11_isDay_1 (g3_sipush dX11_isDay_2 rfl (g3_cS3 dX11_isDay_5 myX11_within mlX11_78 (z3 rfl) (z3 rfl) (kX11_within h.1 (g3_r1 (g3_zreturn dX11_isDay_8 rfl (bo3_01 _) (g3_r1 (g3_bool_ne (tgt := 17) dX11_sees_11 rfl (fun c => ?_) (fun c => ?_))))))))))))
    · have h1 := h; have h := h1.2.1 c
      have o2 := h1.1
      refine g3_aload_n 0 dX11_sees_17 rfl rfl (g3_getR0 (t := 20) dX11_sees_18 flX11_42 rfl (z3 rfl) (g3_iload_n 1 dX11_sees_21 rfl rfl (g3_iload_n 2 dX11_sees_22 rfl rfl (g3_cV2 dX11_sees_23 myX6_serve mlX11_232 (z3 rfl) ob_20 (z3 rfl) (z3 rfl) (kX6_serve h.1 (fun r1 N1 hN1 hf1 hp1 => ?_))))))
      have o3 := h.1
      have h := h.2 r1 N1 hN1 hf1 hp1
      refine g3_r1 ?_
      exact g3_ireturn dX11_sees_26 rfl h
    · have h1 := h; have h := h1.2.2 c
      have o2 := h1.1
      exact g3_bipush dX11_sees_14 rfl (g3_ireturn dX11_sees_16 rfl h)
set_option maxRecDepth 20000 in
set_option maxHeartbeats 200000 in
theorem sX12_sees {E : E3} {Q : Q3} {M : M3} {x1 x2 : Int}
    (h : ((-2147483648 ≤ x1 ∧ x1 ≤ 2147483647) ∧ (-2147483648 ≤ (0 : Int) ∧ (0 : Int) ≤ 2147483647) ∧ (-2147483648 ≤ (3 : Int) ∧ (3 : Int) ≤ 2147483647)) ∧ ((¬(0 ≤ x1 ∧ x1 ≤ 3) → (Q (some (vI (-2))) M)) ∧ ((0 ≤ x1 ∧ x1 ≤ 3) → (((-2147483648 ≤ x2 ∧ x2 ≤ 2147483647) ∧ (-2147483648 ≤ (0 : Int) ∧ (0 : Int) ≤ 2147483647) ∧ (-2147483648 ≤ (399 : Int) ∧ (399 : Int) ≤ 2147483647)) ∧ ((¬(0 ≤ x2 ∧ x2 ≤ 399) → (Q (some (vI (-2))) M)) ∧ ((0 ≤ x2 ∧ x2 ≤ 399) → ((okL M ∧ (∃ s, SgP M s) ∧ (0 ≤ x1 ∧ x1 ≤ 3) ∧ 0 ≤ x2 ∧ x2 ≤ 399) ∧ (∀ (r1 : Int) (N1 : M3), RM3 N1 → (∀ q : Nat, q ∉ ([67] : List Nat) → N1 q = M q) → (poSee M x1 x2 r1 N1) → (Q (some (vI r1)) N1))))))))) :
    C3 E YX12_sees [vR 44 0, vI x1, vI x2] M Q := by
  refine c3_in rfl rfl (z3 rfl) (g3_rm fun hM => ?_)
  refine g3_iload_n 1 dX12_sees_0 rfl rfl (g3_cS1 dX12_sees_1 myX12_isClerk mlX12_248 (z3 rfl) (z3 rfl) (c3_in rfl rfl (z3 rfl) (g3_iload_n 0 dX12_isClerk_0 rfl rfl (g3_iconst dX12_isClerk_1 (g3_iconst dX12_isClerk_2 (g3_cS3 dX12_isClerk_3 myX12_in mlX12_144 (z3 rfl) (z3 rfl) (kX12_in h.1 (g3_r1 (g3_zreturn dX12_isClerk_6 rfl (bo3_01 _) (g3_r1 (g3_bool_eq (tgt := 23) dX12_sees_4 rfl (fun c => ?_) (fun c => ?_))))))))))))
  · have h1 := h; have h := h1.2.1 c
    have o1 := h1.1
    exact g3_bipush dX12_sees_23 rfl (g3_ireturn dX12_sees_25 rfl h)
  · have h1 := h; have h := h1.2.2 c
    have o1 := h1.1
    refine g3_iload_n 2 dX12_sees_7 rfl rfl (g3_cS1 dX12_sees_8 myX12_isDay mlX12_210 (z3 rfl) (z3 rfl) (c3_in rfl rfl (z3 rfl) (g3_iload_n 0 dX12_isDay_0 rfl rfl (g3_iconst dX12_isDay_1 (g3_sipush dX12_isDay_2 rfl (g3_cS3 dX12_isDay_5 myX12_in mlX12_144 (z3 rfl) (z3 rfl) (kX12_in h.1 (g3_r1 (g3_zreturn dX12_isDay_8 rfl (bo3_01 _) (g3_r1 (g3_bool_eq (tgt := 23) dX12_sees_11 rfl (fun c => ?_) (fun c => ?_))))))))))))
    · have h1 := h; have h := h1.2.1 c
      have o2 := h1.1
      exact g3_bipush dX12_sees_23 rfl (g3_ireturn dX12_sees_25 rfl h)
    · have h1 := h; have h := h1.2.2 c
      have o2 := h1.1
      refine g3_aload_n 0 dX12_sees_14 rfl rfl (g3_iload_n 1 dX12_sees_15 rfl rfl (g3_iload_n 2 dX12_sees_16 rfl rfl (g3_cV2 dX12_sees_17 myX12_seesOf mlX12_290 (z3 rfl) ob_44 (z3 rfl) (z3 rfl) (kX12_seesOf h.1 (fun r1 N1 hN1 hf1 hp1 => ?_)))))
      have o3 := h.1
      have h := h.2 r1 N1 hN1 hf1 hp1
      refine g3_r1 ?_
      exact g3_goto (tgt := 25) dX12_sees_20 rfl (g3_ireturn dX12_sees_25 rfl h)
set_option maxRecDepth 20000 in
set_option maxHeartbeats 200000 in
theorem sX11_begun {E : E3} {Q : Q3} {M : M3} {x1 x2 x3 : Int}
    (h : ((-2147483648 ≤ x1 ∧ x1 ≤ 2147483647) ∧ (-2147483648 ≤ (0 : Int) ∧ (0 : Int) ≤ 2147483647) ∧ (-2147483648 ≤ (3 : Int) ∧ (3 : Int) ≤ 2147483647)) ∧ ((¬(0 ≤ x1 ∧ x1 ≤ 3) → (Q (some (vI (-2))) M)) ∧ ((0 ≤ x1 ∧ x1 ≤ 3) → (((-2147483648 ≤ x2 ∧ x2 ≤ 2147483647) ∧ (-2147483648 ≤ (0 : Int) ∧ (0 : Int) ≤ 2147483647) ∧ (-2147483648 ≤ (399 : Int) ∧ (399 : Int) ≤ 2147483647)) ∧ ((¬(0 ≤ x2 ∧ x2 ≤ 399) → (Q (some (vI (-2))) M)) ∧ ((0 ≤ x2 ∧ x2 ≤ 399) → (((0 ≤ M 20 0 0 ∧ M 20 0 0 ≤ 24) ∧ (-2147483648 ≤ x3 ∧ x3 ≤ 2147483647)) ∧ ((-2147483648 ≤ cPlc M x3 ∧ cPlc M x3 ≤ 2147483647) ∧ ((cPlc M x3 ≠ (-1) → ((iLin M ∧ (0 ≤ x1 ∧ x1 ≤ 3) ∧ 0 ≤ x2 ∧ x2 ≤ 399) ∧ (∀ (r1 : Int) (N1 : M3), RM3 N1 → (∀ q : Nat, q ∉ ([24] : List Nat) → N1 q = M q) → (poSv M x1 x2 r1 N1) → ((cPlc M x3 < 0 → (Q (some (vI (-1))) N1)) ∧ (0 ≤ cPlc M x3 → ((-2147483648 ≤ r1 ∧ r1 ≤ 2147483647) ∧ ((r1 ≤ cPlc M x3 → (Q (some (vI (-1))) N1)) ∧ (cPlc M x3 < r1 → ((0 ≤ cPlc M x3 ∧ cPlc M x3 < 24) ∧ (Q (some (vI (N1 24 0 (cPlc M x3)))) N1)))))))))) ∧ (cPlc M x3 = (-1) → (Q (some (vI (-2))) M))))))))))) :
    C3 E YX11_begun [vR 0 0, vI x1, vI x2, vI x3] M Q := by
  refine c3_in rfl rfl (z3 rfl) (g3_rm fun hM => ?_)
  refine g3_iload_n 1 dX11_begun_0 rfl rfl (g3_cS1 dX11_begun_1 myX11_isClerk mlX11_179 (z3 rfl) (z3 rfl) (c3_in rfl rfl (z3 rfl) (g3_iload_n 0 dX11_isClerk_0 rfl rfl (g3_iconst dX11_isClerk_1 (g3_iconst dX11_isClerk_2 (g3_cS3 dX11_isClerk_3 myX11_within mlX11_78 (z3 rfl) (z3 rfl) (kX11_within h.1 (g3_r1 (g3_zreturn dX11_isClerk_6 rfl (bo3_01 _) (g3_r1 (g3_bool_eq (tgt := 26) dX11_begun_4 rfl (fun c => ?_) (fun c => ?_))))))))))))
  · have h1 := h; have h := h1.2.1 c
    have o1 := h1.1
    exact g3_bipush dX11_begun_26 rfl (g3_ireturn dX11_begun_28 rfl h)
  · have h1 := h; have h := h1.2.2 c
    have o1 := h1.1
    refine g3_iload_n 2 dX11_begun_7 rfl rfl (g3_cS1 dX11_begun_8 myX11_isDay mlX11_151 (z3 rfl) (z3 rfl) (c3_in rfl rfl (z3 rfl) (g3_iload_n 0 dX11_isDay_0 rfl rfl (g3_iconst dX11_isDay_1 (g3_sipush dX11_isDay_2 rfl (g3_cS3 dX11_isDay_5 myX11_within mlX11_78 (z3 rfl) (z3 rfl) (kX11_within h.1 (g3_r1 (g3_zreturn dX11_isDay_8 rfl (bo3_01 _) (g3_r1 (g3_bool_eq (tgt := 26) dX11_begun_11 rfl (fun c => ?_) (fun c => ?_))))))))))))
    · have h1 := h; have h := h1.2.1 c
      have o2 := h1.1
      exact g3_bipush dX11_begun_26 rfl (g3_ireturn dX11_begun_28 rfl h)
    · have h1 := h; have h := h1.2.2 c
      have o2 := h1.1
      refine g3_aload_n 0 dX11_begun_14 rfl rfl (g3_getR0 (t := 20) dX11_begun_15 flX11_42 rfl (z3 rfl) (g3_iload_n 3 dX11_begun_18 rfl rfl (g3_cV1 dX11_begun_19 myX6_placeOf mlX11_219 (z3 rfl) ob_20 (z3 rfl) (z3 rfl) (kX6_placeOf h.1 (g3_r1 (g3_iconst dX11_begun_22 (g3_icmp_ne (tgt := 29) dX11_begun_23 rfl h.2.1 (z3 rfl) (fun c => ?_) (fun c => ?_))))))))
      · have h1 := h; have h := h1.2.2.1 c
        have o3 := h1.1
        have o4 := h1.2.1
        refine g3_aload_n 0 dX11_begun_29 rfl rfl (g3_getR0 (t := 20) dX11_begun_30 flX11_42 rfl (z3 rfl) (g3_iload_n 1 dX11_begun_33 rfl rfl (g3_iload_n 2 dX11_begun_34 rfl rfl (g3_iload_n 3 dX11_begun_35 rfl rfl (g3_cV3 dX11_begun_36 myX6_beginOf mlX11_235 (z3 rfl) ob_20 (z3 rfl) (z3 rfl) (c3_in rfl rfl (z3 rfl) (g3_aload_n 0 dX6_beginOf_0 rfl rfl (g3_iload_n 3 dX6_beginOf_1 rfl rfl (g3_cV1 dX6_beginOf_2 myX6_placeOf mlX6_46 (z3 rfl) ob_20 (z3 rfl) (z3 rfl) (kX6_placeOf o3 (g3_r1 (g3_istore (lv' := [(4, vI (cPlc M x3)), (0, vR 20 0), (1, vI x1), (2, vI x2), (3, vI x3)]) dX6_beginOf_5 (z3 rfl) rfl (g3_aload_n 1 dX6_beginOf_7 rfl rfl (g3_iload_n 2 dX6_beginOf_8 rfl rfl (g3_iload_n 3 dX6_beginOf_9 rfl rfl (g3_cV2 dX6_beginOf_10 myX6_serve mlX6_50 (z3 rfl) ob_20 (z3 rfl) (z3 rfl) (kX6_serve h.1 (fun r1 N1 hN1 hf1 hp1 => ?_))))))))))))))))))
        have o5 := h.1
        have h := h.2 r1 N1 hN1 hf1 hp1
        refine g3_r1 ?_
        refine g3_istore (lv' := [(5, vI r1), (4, vI (cPlc M x3)), (0, vR 20 0), (1, vI x1), (2, vI x2), (3, vI x3)]) dX6_beginOf_13 (z3 rfl) rfl (g3_iload 1 dX6_beginOf_15 rfl (g3_if_lt (tgt := 37) dX6_beginOf_17 rfl o4 (fun c => ?_) (fun c => ?_)))
        · have h1 := h; have h := h1.1 c
          exact g3_iconst dX6_beginOf_37 (g3_ireturn dX6_beginOf_38 rfl (g3_r1 (g3_ireturn dX11_begun_39 rfl h)))
        · have h1 := h; have h := h1.2 c
          refine g3_iload 1 dX6_beginOf_20 rfl (g3_iload 0 dX6_beginOf_22 rfl (g3_icmp_ge (tgt := 37) dX6_beginOf_24 rfl o4 h.1 (fun c => ?_) (fun c => ?_)))
          · have h1 := h; have h := h1.2.1 c
            have o6 := h1.1
            exact g3_iconst dX6_beginOf_37 (g3_ireturn dX6_beginOf_38 rfl (g3_r1 (g3_ireturn dX11_begun_39 rfl h)))
          · have h1 := h; have h := h1.2.2 c
            have o6 := h1.1
            exact g3_aload_n 2 dX6_beginOf_27 rfl rfl (g3_getR0 (t := 24) dX6_beginOf_28 flX6_21 rfl (z3 rfl) (g3_iload 1 dX6_beginOf_31 rfl (g3_iald dX6_beginOf_33 ar_24 (z3 rfl) h.1 (g3_goto (tgt := 38) dX6_beginOf_34 rfl (g3_ireturn dX6_beginOf_38 rfl (g3_r1 (g3_ireturn dX11_begun_39 rfl h.2)))))))
      · have h1 := h; have h := h1.2.2.2 c
        have o3 := h1.1
        have o4 := h1.2.1
        exact g3_bipush dX11_begun_26 rfl (g3_ireturn dX11_begun_28 rfl h)
set_option maxRecDepth 20000 in
set_option maxHeartbeats 200000 in
theorem sX12_begun {E : E3} {Q : Q3} {M : M3} {x1 x2 x3 : Int}
    (h : ((-2147483648 ≤ x1 ∧ x1 ≤ 2147483647) ∧ (-2147483648 ≤ (0 : Int) ∧ (0 : Int) ≤ 2147483647) ∧ (-2147483648 ≤ (3 : Int) ∧ (3 : Int) ≤ 2147483647)) ∧ ((¬(0 ≤ x1 ∧ x1 ≤ 3) → (Q (some (vI (-2))) M)) ∧ ((0 ≤ x1 ∧ x1 ≤ 3) → (((-2147483648 ≤ x2 ∧ x2 ≤ 2147483647) ∧ (-2147483648 ≤ (0 : Int) ∧ (0 : Int) ≤ 2147483647) ∧ (-2147483648 ≤ (399 : Int) ∧ (399 : Int) ≤ 2147483647)) ∧ ((¬(0 ≤ x2 ∧ x2 ≤ 399) → (Q (some (vI (-2))) M)) ∧ ((0 ≤ x2 ∧ x2 ≤ 399) → (((0 ≤ M 44 0 32 ∧ M 44 0 32 ≤ 24) ∧ (-2147483648 ≤ x3 ∧ x3 ≤ 2147483647)) ∧ ((-2147483648 ≤ mPlc M x3 ∧ mPlc M x3 ≤ 2147483647) ∧ ((mPlc M x3 ≠ (-1) → ((okL M ∧ (∃ s, SgP M s) ∧ (0 ≤ x1 ∧ x1 ≤ 3) ∧ 0 ≤ x2 ∧ x2 ≤ 399) ∧ (∀ (r1 : Int) (N1 : M3), RM3 N1 → (∀ q : Nat, q ∉ ([67] : List Nat) → N1 q = M q) → (poSee M x1 x2 r1 N1) → (((0 ≤ N1 44 0 32 ∧ N1 44 0 32 ≤ 24) ∧ (-2147483648 ≤ x3 ∧ x3 ≤ 2147483647)) ∧ ((0 ≤ mPlc N1 x3 ∧ mPlc N1 x3 < 24) ∧ (Q (some (vI (N1 67 0 (mPlc N1 x3)))) N1)))))) ∧ (mPlc M x3 = (-1) → (Q (some (vI (-2))) M))))))))))) :
    C3 E YX12_begun [vR 44 0, vI x1, vI x2, vI x3] M Q := by
  refine c3_in rfl rfl (z3 rfl) (g3_rm fun hM => ?_)
  refine g3_iload_n 1 dX12_begun_0 rfl rfl (g3_cS1 dX12_begun_1 myX12_isClerk mlX12_248 (z3 rfl) (z3 rfl) (c3_in rfl rfl (z3 rfl) (g3_iload_n 0 dX12_isClerk_0 rfl rfl (g3_iconst dX12_isClerk_1 (g3_iconst dX12_isClerk_2 (g3_cS3 dX12_isClerk_3 myX12_in mlX12_144 (z3 rfl) (z3 rfl) (kX12_in h.1 (g3_r1 (g3_zreturn dX12_isClerk_6 rfl (bo3_01 _) (g3_r1 (g3_bool_eq (tgt := 23) dX12_begun_4 rfl (fun c => ?_) (fun c => ?_))))))))))))
  · have h1 := h; have h := h1.2.1 c
    have o1 := h1.1
    exact g3_bipush dX12_begun_23 rfl (g3_ireturn dX12_begun_25 rfl h)
  · have h1 := h; have h := h1.2.2 c
    have o1 := h1.1
    refine g3_iload_n 2 dX12_begun_7 rfl rfl (g3_cS1 dX12_begun_8 myX12_isDay mlX12_210 (z3 rfl) (z3 rfl) (c3_in rfl rfl (z3 rfl) (g3_iload_n 0 dX12_isDay_0 rfl rfl (g3_iconst dX12_isDay_1 (g3_sipush dX12_isDay_2 rfl (g3_cS3 dX12_isDay_5 myX12_in mlX12_144 (z3 rfl) (z3 rfl) (kX12_in h.1 (g3_r1 (g3_zreturn dX12_isDay_8 rfl (bo3_01 _) (g3_r1 (g3_bool_eq (tgt := 23) dX12_begun_11 rfl (fun c => ?_) (fun c => ?_))))))))))))
    · have h1 := h; have h := h1.2.1 c
      have o2 := h1.1
      exact g3_bipush dX12_begun_23 rfl (g3_ireturn dX12_begun_25 rfl h)
    · have h1 := h; have h := h1.2.2 c
      have o2 := h1.1
      refine g3_aload_n 0 dX12_begun_14 rfl rfl (g3_iload_n 3 dX12_begun_15 rfl rfl (g3_cV1 dX12_begun_16 myX12_placeOf mlX12_284 (z3 rfl) ob_44 (z3 rfl) (z3 rfl) (kX12_placeOf h.1 (g3_r1 (g3_iconst dX12_begun_19 (g3_icmp_ne (tgt := 26) dX12_begun_20 rfl h.2.1 (z3 rfl) (fun c => ?_) (fun c => ?_)))))))
      · have h1 := h; have h := h1.2.2.1 c
        have o3 := h1.1
        have o4 := h1.2.1
        refine g3_aload_n 0 dX12_begun_26 rfl rfl (g3_iload_n 1 dX12_begun_27 rfl rfl (g3_iload_n 2 dX12_begun_28 rfl rfl (g3_cV2 dX12_begun_29 myX12_seesOf mlX12_290 (z3 rfl) ob_44 (z3 rfl) (z3 rfl) (kX12_seesOf h.1 (fun r1 N1 hN1 hf1 hp1 => ?_)))))
        have o5 := h.1
        have h := h.2 r1 N1 hN1 hf1 hp1
        refine g3_r1 ?_
        exact g3_istore (lv' := [(4, vI r1), (0, vR 44 0), (1, vI x1), (2, vI x2), (3, vI x3)]) dX12_begun_32 (z3 rfl) rfl (g3_aload_n 1 dX12_begun_34 rfl rfl (g3_getR0 (t := 67) dX12_begun_35 flX12_89 rfl (z3 rfl) (g3_aload_n 1 dX12_begun_38 rfl rfl (g3_iload_n 4 dX12_begun_39 rfl rfl (g3_cV1 dX12_begun_40 myX12_placeOf mlX12_284 (z3 rfl) ob_44 (z3 rfl) (z3 rfl) (kX12_placeOf h.1 (g3_r1 (g3_iald dX12_begun_43 ar_67 (z3 rfl) h.2.1 (g3_ireturn dX12_begun_44 rfl h.2.2)))))))))
      · have h1 := h; have h := h1.2.2.2 c
        have o3 := h1.1
        have o4 := h1.2.1
        exact g3_bipush dX12_begun_23 rfl (g3_ireturn dX12_begun_25 rfl h)
set_option maxRecDepth 20000 in
set_option maxHeartbeats 200000 in
theorem sX11_stand {E : E3} {Q : Q3} {M : M3} {x1 x2 : Int}
    (h : (-2147483648 ≤ x1 ∧ x1 ≤ 2147483647) ∧ ((x1 < 0 → (Q (some (vI (-2))) M)) ∧ (0 ≤ x1 → ((M 10 0 0 ≤ x1 → (Q (some (vI (-2))) M)) ∧ (x1 < M 10 0 0 → (((-2147483648 ≤ x2 ∧ x2 ≤ 2147483647) ∧ (-2147483648 ≤ (0 : Int) ∧ (0 : Int) ≤ 2147483647) ∧ (-2147483648 ≤ (1439 : Int) ∧ (1439 : Int) ≤ 2147483647)) ∧ ((¬(0 ≤ x2 ∧ x2 ≤ 1439) → (Q (some (vI (-2))) M)) ∧ ((0 ≤ x2 ∧ x2 ≤ 1439) → (((0 ≤ M 20 0 0 ∧ M 20 0 0 ≤ 24) ∧ (-2147483648 ≤ x1 ∧ x1 ≤ 2147483647)) ∧ ((-2147483648 ≤ cPlc M x1 ∧ cPlc M x1 ≤ 2147483647) ∧ ((cPlc M x1 = (-1) → ((M 20 0 0 < 24 → ((0 ≤ x1 ∧ x1 < 48) ∧ ((iLin M ∧ M 44 0 32 < 24 ∧ (-2147483648 ≤ x1 ∧ x1 ≤ 2147483647) ∧ (-2147483648 ≤ (M 13 x1 1) ∧ (M 13 x1 1) ≤ 2147483647) ∧ (-2147483648 ≤ x2 ∧ x2 ≤ 2147483647)) ∧ (∀ (r1 : Int) (N1 : M3), RM3 N1 → (∀ q : Nat, q ∉ ([20, 21, 22, 23] : List Nat) → N1 q = M q) → (poJn M x1 (M 13 x1 1) x2 r1 N1) → (Q (some (vI r1)) N1))))) ∧ (24 ≤ M 20 0 0 → (Q (some (vI (-4))) M)))) ∧ (cPlc M x1 ≠ (-1) → (Q (some (vI (-2))) M))))))))))))) :
    C3 E YX11_stand [vR 0 0, vI x1, vI x2] M Q := by
  refine c3_in rfl rfl (z3 rfl) (g3_rm fun hM => ?_)
  refine g3_aload_n 0 dX11_stand_0 rfl rfl (g3_getR0 (t := 10) dX11_stand_1 flX11_26 rfl (z3 rfl) (g3_iload_n 1 dX11_stand_4 rfl rfl (g3_cV1 dX11_stand_5 myX0_holds mlX11_93 (z3 rfl) ob_10 (z3 rfl) (z3 rfl) (c3_in rfl rfl (z3 rfl) (g3_iload_n 1 dX0_holds_0 rfl rfl (g3_if_lt (tgt := 16) dX0_holds_1 rfl h.1 (fun c => ?_) (fun c => ?_)))))))
  · have h1 := h; have h := h1.2.1 c
    have o1 := h1.1
    exact g3_iconst dX0_holds_16 (g3_zreturn dX0_holds_17 rfl (Or.inl rfl) (g3_r1 (g3_if_eq_T (tgt := 34) dX11_stand_8 rfl (z3 rfl) (g3_bipush dX11_stand_34 rfl (g3_ireturn dX11_stand_36 rfl h)))))
  · have h1 := h; have h := h1.2.2 c
    have o1 := h1.1
    refine g3_iload_n 1 dX0_holds_4 rfl rfl (g3_aload_n 0 dX0_holds_5 rfl rfl (g3_getI (t := 0) dX0_holds_6 flX0_22 (z3 rfl) (z3 rfl) (g3_icmp_ge (tgt := 16) dX0_holds_9 rfl o1 (hM 10 0 0) (fun c => ?_) (fun c => ?_))))
    · have h1 := h; have h := h1.1 c
      exact g3_iconst dX0_holds_16 (g3_zreturn dX0_holds_17 rfl (Or.inl rfl) (g3_r1 (g3_if_eq_T (tgt := 34) dX11_stand_8 rfl (z3 rfl) (g3_bipush dX11_stand_34 rfl (g3_ireturn dX11_stand_36 rfl h)))))
    · have h1 := h; have h := h1.2 c
      refine g3_iconst dX0_holds_12 (g3_goto (tgt := 17) dX0_holds_13 rfl (g3_zreturn dX0_holds_17 rfl (Or.inr rfl) (g3_r1 (g3_if_eq_F (tgt := 34) dX11_stand_8 rfl (z3 rfl) (g3_iload_n 2 dX11_stand_11 rfl rfl (g3_iconst dX11_stand_12 (g3_sipush dX11_stand_13 rfl (g3_cS3 dX11_stand_16 myX11_within mlX11_78 (z3 rfl) (z3 rfl) (kX11_within h.1 (g3_r1 (g3_bool_eq (tgt := 34) dX11_stand_19 rfl (fun c => ?_) (fun c => ?_))))))))))))
      · have h1 := h; have h := h1.2.1 c
        have o2 := h1.1
        exact g3_bipush dX11_stand_34 rfl (g3_ireturn dX11_stand_36 rfl h)
      · have h1 := h; have h := h1.2.2 c
        have o2 := h1.1
        refine g3_aload_n 0 dX11_stand_22 rfl rfl (g3_getR0 (t := 20) dX11_stand_23 flX11_42 rfl (z3 rfl) (g3_iload_n 1 dX11_stand_26 rfl rfl (g3_cV1 dX11_stand_27 myX6_placeOf mlX11_219 (z3 rfl) ob_20 (z3 rfl) (z3 rfl) (kX6_placeOf h.1 (g3_r1 (g3_iconst dX11_stand_30 (g3_icmp_eq (tgt := 37) dX11_stand_31 rfl h.2.1 (z3 rfl) (fun c => ?_) (fun c => ?_))))))))
        · have h1 := h; have h := h1.2.2.1 c
          have o3 := h1.1
          have o4 := h1.2.1
          refine g3_aload_n 0 dX11_stand_37 rfl rfl (g3_getR0 (t := 20) dX11_stand_38 flX11_42 rfl (z3 rfl) (g3_cV0 dX11_stand_41 myX6_isFull mlX11_222 (z3 rfl) ob_20 (z3 rfl) (z3 rfl) (c3_in rfl rfl (z3 rfl) (g3_aload_n 0 dX6_isFull_0 rfl rfl (g3_getI (t := 0) dX6_isFull_1 flX6_37 (z3 rfl) (z3 rfl) (g3_bipush dX6_isFull_4 rfl (g3_icmp_lt (tgt := 13) dX6_isFull_6 rfl (hM 20 0 0) (z3 rfl) (fun c => ?_) (fun c => ?_))))))))
          · have h1 := h; have h := h1.1 c
            refine g3_iconst dX6_isFull_13 (g3_zreturn dX6_isFull_14 rfl (Or.inl rfl) (g3_r1 (g3_if_eq_T (tgt := 50) dX11_stand_44 rfl (z3 rfl) (g3_aload_n 0 dX11_stand_50 rfl rfl (g3_getR0 (t := 20) dX11_stand_51 flX11_42 rfl (z3 rfl) (g3_iload_n 1 dX11_stand_54 rfl rfl (g3_aload_n 0 dX11_stand_55 rfl rfl (g3_getR0 (t := 10) dX11_stand_56 flX11_26 rfl (z3 rfl) (g3_iload_n 1 dX11_stand_59 rfl rfl (g3_cV1 dX11_stand_60 myX0_at mlX11_108 (z3 rfl) ob_10 (z3 rfl) (z3 rfl) (c3_in rfl rfl (z3 rfl) (g3_aload_n 0 dX0_at_0 rfl rfl (g3_getR0 (t := 11) dX0_at_1 flX0_13 rfl (z3 rfl) (g3_iload_n 1 dX0_at_4 rfl rfl (g3_aald dX0_at_5 aq_11 h.1 (g3_areturn dX0_at_6 rfl (g3_r1 (g3_getI (t := 0) dX11_stand_63 flX11_223 (z3 rfl) h.1 (g3_iload_n 2 dX11_stand_66 rfl rfl (g3_cV3 dX11_stand_67 myX6_join mlX11_226 (z3 rfl) ob_20 (z3 rfl) (z3 rfl) (kX6_join h.2.1 (fun r1 N1 hN1 hf1 hp1 => ?_))))))))))))))))))))))
            have o5 := h.1
            have o6 := h.2.1
            have h := h.2.2 r1 N1 hN1 hf1 hp1
            refine g3_r1 ?_
            exact g3_ireturn dX11_stand_70 rfl h
          · have h1 := h; have h := h1.2 c
            exact g3_iconst dX6_isFull_9 (g3_goto (tgt := 14) dX6_isFull_10 rfl (g3_zreturn dX6_isFull_14 rfl (Or.inr rfl) (g3_r1 (g3_if_eq_F (tgt := 50) dX11_stand_44 rfl (z3 rfl) (g3_bipush dX11_stand_47 rfl (g3_ireturn dX11_stand_49 rfl h))))))
        · have h1 := h; have h := h1.2.2.2 c
          have o3 := h1.1
          have o4 := h1.2.1
          exact g3_bipush dX11_stand_34 rfl (g3_ireturn dX11_stand_36 rfl h)
set_option maxRecDepth 20000 in
set_option maxHeartbeats 200000 in
theorem sX12_stand {E : E3} {Q : Q3} {M : M3} {x1 x2 : Int}
    (h : ((-2147483648 ≤ x1 ∧ x1 ≤ 2147483647) ∧ (-2147483648 ≤ (0 : Int) ∧ (0 : Int) ≤ 2147483647) ∧ (-2147483648 ≤ ((M 44 0 1) - 1) ∧ ((M 44 0 1) - 1) ≤ 2147483647)) ∧ ((¬(0 ≤ x1 ∧ x1 ≤ ((M 44 0 1) - 1)) → (Q (some (vI (-2))) M)) ∧ ((0 ≤ x1 ∧ x1 ≤ ((M 44 0 1) - 1)) → (((-2147483648 ≤ x2 ∧ x2 ≤ 2147483647) ∧ (-2147483648 ≤ (0 : Int) ∧ (0 : Int) ≤ 2147483647) ∧ (-2147483648 ≤ (1439 : Int) ∧ (1439 : Int) ≤ 2147483647)) ∧ ((¬(0 ≤ x2 ∧ x2 ≤ 1439) → (Q (some (vI (-2))) M)) ∧ ((0 ≤ x2 ∧ x2 ≤ 1439) → (((0 ≤ M 44 0 32 ∧ M 44 0 32 ≤ 24) ∧ (-2147483648 ≤ x1 ∧ x1 ≤ 2147483647)) ∧ ((-2147483648 ≤ mPlc M x1 ∧ mPlc M x1 ≤ 2147483647) ∧ ((mPlc M x1 = (-1) → ((M 44 0 32 ≠ 24 → ((0 ≤ M 44 0 32 ∧ M 44 0 32 < 24) ∧ ((-2147483648 ≤ x1 ∧ x1 ≤ 2147483647) ∧ ((-2147483648 ≤ x2 ∧ x2 ≤ 2147483647) ∧ ((-2147483648 ≤ (M 44 0 32) + 1 ∧ (M 44 0 32) + 1 ≤ 2147483647) ∧ (Q (some (vI ((M 44 0 32) + 1))) (up3 (up3 (up3 M 65 0 (M 44 0 32) x1) 66 0 (M 44 0 32) x2) 44 0 32 ((M 44 0 32) + 1)))))))) ∧ (M 44 0 32 = 24 → (Q (some (vI (-4))) M)))) ∧ (mPlc M x1 ≠ (-1) → (Q (some (vI (-2))) M))))))))))) :
    C3 E YX12_stand [vR 44 0, vI x1, vI x2] M Q := by
  refine c3_in rfl rfl (z3 rfl) (g3_rm fun hM => ?_)
  refine g3_aload_n 0 dX12_stand_0 rfl rfl (g3_iload_n 1 dX12_stand_1 rfl rfl (g3_cV1 dX12_stand_2 myX12_isPerson mlX12_167 (z3 rfl) ob_44 (z3 rfl) (z3 rfl) (c3_in rfl rfl (z3 rfl) (g3_iload_n 1 dX12_isPerson_0 rfl rfl (g3_iconst dX12_isPerson_1 (g3_aload_n 0 dX12_isPerson_2 rfl rfl (g3_getI (t := 0) dX12_isPerson_3 flX12_148 (z3 rfl) (z3 rfl) (g3_iconst dX12_isPerson_6 (g3_isub dX12_isPerson_7 (g3_cS3 dX12_isPerson_8 myX12_in mlX12_144 (z3 rfl) (z3 rfl) (kX12_in h.1 (g3_r1 (g3_zreturn dX12_isPerson_11 rfl (bo3_01 _) (g3_r1 (g3_bool_eq (tgt := 28) dX12_stand_5 rfl (fun c => ?_) (fun c => ?_))))))))))))))))
  · have h1 := h; have h := h1.2.1 c
    have o1 := h1.1
    exact g3_bipush dX12_stand_28 rfl (g3_ireturn dX12_stand_30 rfl h)
  · have h1 := h; have h := h1.2.2 c
    have o1 := h1.1
    refine g3_iload_n 2 dX12_stand_8 rfl rfl (g3_iconst dX12_stand_9 (g3_sipush dX12_stand_10 rfl (g3_cS3 dX12_stand_13 myX12_in mlX12_144 (z3 rfl) (z3 rfl) (kX12_in h.1 (g3_r1 (g3_bool_eq (tgt := 28) dX12_stand_16 rfl (fun c => ?_) (fun c => ?_)))))))
    · have h1 := h; have h := h1.2.1 c
      have o2 := h1.1
      exact g3_bipush dX12_stand_28 rfl (g3_ireturn dX12_stand_30 rfl h)
    · have h1 := h; have h := h1.2.2 c
      have o2 := h1.1
      refine g3_aload_n 0 dX12_stand_19 rfl rfl (g3_iload_n 1 dX12_stand_20 rfl rfl (g3_cV1 dX12_stand_21 myX12_placeOf mlX12_284 (z3 rfl) ob_44 (z3 rfl) (z3 rfl) (kX12_placeOf h.1 (g3_r1 (g3_iconst dX12_stand_24 (g3_icmp_eq (tgt := 31) dX12_stand_25 rfl h.2.1 (z3 rfl) (fun c => ?_) (fun c => ?_)))))))
      · have h1 := h; have h := h1.2.2.1 c
        have o3 := h1.1
        have o4 := h1.2.1
        refine g3_aload_n 0 dX12_stand_31 rfl rfl (g3_getI (t := 0) dX12_stand_32 flX12_281 (z3 rfl) (z3 rfl) (g3_bipush dX12_stand_35 rfl (g3_icmp_ne (tgt := 43) dX12_stand_37 rfl (hM 44 0 32) (z3 rfl) (fun c => ?_) (fun c => ?_))))
        · have h1 := h; have h := h1.1 c
          exact g3_aload_n 0 dX12_stand_43 rfl rfl (g3_getR0 (t := 65) dX12_stand_44 flX12_83 rfl (z3 rfl) (g3_aload_n 0 dX12_stand_47 rfl rfl (g3_getI (t := 0) dX12_stand_48 flX12_281 (z3 rfl) (z3 rfl) (g3_iload_n 1 dX12_stand_51 rfl rfl (g3_iast dX12_stand_52 ar_65 (z3 rfl) h.1 h.2.1 (g3_aload_n 0 dX12_stand_53 rfl rfl (g3_getR0 (t := 66) dX12_stand_54 flX12_86 rfl (z3 rfl) (g3_aload_n 0 dX12_stand_57 rfl rfl (g3_getI (t := 0) dX12_stand_58 flX12_281 (z3 rfl) (z3 rfl) (g3_val (up3_nr (by decide)) (g3_iload_n 2 dX12_stand_61 rfl rfl (g3_iast dX12_stand_62 ar_66 (z3 rfl) h.1 h.2.2.1 (g3_aload_n 0 dX12_stand_63 rfl rfl (g3_dup dX12_stand_64 rfl (g3_getI (t := 0) dX12_stand_65 flX12_281 (z3 rfl) (z3 rfl) (g3_val ((up3_nr (by decide)).trans (up3_nr (by decide))) (g3_iconst dX12_stand_68 (g3_iadd dX12_stand_69 (g3_put dX12_stand_70 fpX12_281 (Or.inl rfl) (z3 rfl) h.2.2.2.1 (g3_aload_n 0 dX12_stand_73 rfl rfl (g3_getI (t := 0) dX12_stand_74 flX12_281 (z3 rfl) (z3 rfl) (g3_val (up3_eq) (g3_ireturn dX12_stand_77 rfl h.2.2.2.2)))))))))))))))))))))))
        · have h1 := h; have h := h1.2 c
          exact g3_bipush dX12_stand_40 rfl (g3_ireturn dX12_stand_42 rfl h)
      · have h1 := h; have h := h1.2.2.2 c
        have o3 := h1.1
        have o4 := h1.2.1
        exact g3_bipush dX12_stand_28 rfl (g3_ireturn dX12_stand_30 rfl h)
set_option maxRecDepth 20000 in
set_option maxHeartbeats 200000 in
theorem sX11_rules {E : E3} {Q : Q3} {M : M3} {x1 : Int}
    (h : ((-2147483648 ≤ x1 ∧ x1 ≤ 2147483647) ∧ (-2147483648 ≤ (0 : Int) ∧ (0 : Int) ≤ 2147483647) ∧ (-2147483648 ≤ (3 : Int) ∧ (3 : Int) ≤ 2147483647)) ∧ ((¬(0 ≤ x1 ∧ x1 ≤ 3) → (Q (some (vI (-2))) M)) ∧ ((0 ≤ x1 ∧ x1 ≤ 3) → ((IA M ∧ (0 ≤ x1 ∧ x1 ≤ 3) ∧ (0 ≤ (0 : Int) ∧ (0 : Int) ≤ 1)) ∧ ((-2147483648 ≤ ((cMst M x1 0) - (cLst M x1 0)) + 1 ∧ ((cMst M x1 0) - (cLst M x1 0)) + 1 ≤ 2147483647) ∧ ((IA M ∧ (0 ≤ x1 ∧ x1 ≤ 3) ∧ (0 ≤ (1 : Int) ∧ (1 : Int) ≤ 1)) ∧ ((-2147483648 ≤ ((cMst M x1 1) - (cLst M x1 1)) + 1 ∧ ((cMst M x1 1) - (cLst M x1 1)) + 1 ≤ 2147483647) ∧ (Q (some (vI ((max 0 (((cMst M x1 0) - (cLst M x1 0)) + 1)) * (max 0 (((cMst M x1 1) - (cLst M x1 1)) + 1))))) M)))))))) :
    C3 E YX11_rules [vR 0 0, vI x1] M Q := by
  refine c3_in rfl rfl (z3 rfl) (g3_rm fun hM => ?_)
  refine g3_iload_n 1 dX11_rules_0 rfl rfl (g3_cS1 dX11_rules_1 myX11_isClerk mlX11_179 (z3 rfl) (z3 rfl) (c3_in rfl rfl (z3 rfl) (g3_iload_n 0 dX11_isClerk_0 rfl rfl (g3_iconst dX11_isClerk_1 (g3_iconst dX11_isClerk_2 (g3_cS3 dX11_isClerk_3 myX11_within mlX11_78 (z3 rfl) (z3 rfl) (kX11_within h.1 (g3_r1 (g3_zreturn dX11_isClerk_6 rfl (bo3_01 _) (g3_r1 (g3_bool_eq (tgt := 18) dX11_rules_4 rfl (fun c => ?_) (fun c => ?_))))))))))))
  · have h1 := h; have h := h1.2.1 c
    have o1 := h1.1
    exact g3_bipush dX11_rules_18 rfl (g3_ireturn dX11_rules_20 rfl h)
  · have h1 := h; have h := h1.2.2 c
    have o1 := h1.1
    exact g3_aload_n 0 dX11_rules_7 rfl rfl (g3_getR0 (t := 14) dX11_rules_8 flX11_35 rfl (z3 rfl) (g3_iload_n 1 dX11_rules_11 rfl rfl (g3_cV1 dX11_rules_12 myX2_fittingRules mlX11_200 (z3 rfl) ob_14 (z3 rfl) (z3 rfl) (c3_in rfl rfl (z3 rfl) (g3_aload_n 0 dX2_fittingRules_0 rfl rfl (g3_iload_n 1 dX2_fittingRules_1 rfl rfl (g3_iconst dX2_fittingRules_2 (g3_cV2 dX2_fittingRules_3 myX2_waysToAsk mlX2_174 (z3 rfl) ob_14 (z3 rfl) (z3 rfl) (c3_in rfl rfl (z3 rfl) (g3_iconst dX2_waysToAsk_0 (g3_aload_n 0 dX2_waysToAsk_1 rfl rfl (g3_iload_n 1 dX2_waysToAsk_2 rfl rfl (g3_iload_n 2 dX2_waysToAsk_3 rfl rfl (g3_cV2 dX2_waysToAsk_4 myX2_mostAsked mlX2_168 (z3 rfl) ob_14 (z3 rfl) (z3 rfl) (kX2_mostAsked h.1 (g3_r1 (g3_aload_n 0 dX2_waysToAsk_7 rfl rfl (g3_iload_n 1 dX2_waysToAsk_8 rfl rfl (g3_iload_n 2 dX2_waysToAsk_9 rfl rfl (g3_cV2 dX2_waysToAsk_10 myX2_leastAsked mlX2_171 (z3 rfl) ob_14 (z3 rfl) (z3 rfl) (kX2_leastAsked h.1 (g3_r1 (g3_isub dX2_waysToAsk_13 (g3_iconst dX2_waysToAsk_14 (g3_iadd dX2_waysToAsk_15 (g3_max dX2_waysToAsk_16 mlX2_160 (z3 rfl) (z3 rfl) (z3 rfl) h.2.1 (g3_ireturn dX2_waysToAsk_19 rfl (g3_r1 (g3_aload_n 0 dX2_fittingRules_6 rfl rfl (g3_iload_n 1 dX2_fittingRules_7 rfl rfl (g3_iconst dX2_fittingRules_8 (g3_cV2 dX2_fittingRules_9 myX2_waysToAsk mlX2_174 (z3 rfl) ob_14 (z3 rfl) (z3 rfl) (c3_in rfl rfl (z3 rfl) (g3_iconst dX2_waysToAsk_0 (g3_aload_n 0 dX2_waysToAsk_1 rfl rfl (g3_iload_n 1 dX2_waysToAsk_2 rfl rfl (g3_iload_n 2 dX2_waysToAsk_3 rfl rfl (g3_cV2 dX2_waysToAsk_4 myX2_mostAsked mlX2_168 (z3 rfl) ob_14 (z3 rfl) (z3 rfl) (kX2_mostAsked h.2.2.1 (g3_r1 (g3_aload_n 0 dX2_waysToAsk_7 rfl rfl (g3_iload_n 1 dX2_waysToAsk_8 rfl rfl (g3_iload_n 2 dX2_waysToAsk_9 rfl rfl (g3_cV2 dX2_waysToAsk_10 myX2_leastAsked mlX2_171 (z3 rfl) ob_14 (z3 rfl) (z3 rfl) (kX2_leastAsked h.2.2.1 (g3_r1 (g3_isub dX2_waysToAsk_13 (g3_iconst dX2_waysToAsk_14 (g3_iadd dX2_waysToAsk_15 (g3_max dX2_waysToAsk_16 mlX2_160 (z3 rfl) (z3 rfl) (z3 rfl) h.2.2.2.1 (g3_ireturn dX2_waysToAsk_19 rfl (g3_r1 (g3_imul dX2_fittingRules_12 (g3_ireturn dX2_fittingRules_13 rfl (g3_r1 (g3_goto (tgt := 20) dX11_rules_15 rfl (g3_ireturn dX11_rules_20 rfl h.2.2.2.2)))))))))))))))))))))))))))))))))))))))))))))))))))))))))
set_option maxRecDepth 20000 in
set_option maxHeartbeats 200000 in
theorem sX12_rules {E : E3} {Q : Q3} {M : M3} {x1 : Int}
    (h : ((-2147483648 ≤ x1 ∧ x1 ≤ 2147483647) ∧ (-2147483648 ≤ (0 : Int) ∧ (0 : Int) ≤ 2147483647) ∧ (-2147483648 ≤ (3 : Int) ∧ (3 : Int) ≤ 2147483647)) ∧ ((¬(0 ≤ x1 ∧ x1 ≤ 3) → (Q (some (vI (-2))) M)) ∧ ((0 ≤ x1 ∧ x1 ≤ 3) → ((RdC M ∧ okA M ∧ (-2147483648 ≤ x1 ∧ x1 ≤ 2147483647) ∧ (-2147483648 ≤ (0 : Int) ∧ (0 : Int) ≤ 2147483647)) ∧ (∀ (N1 : M3), RM3 N1 → Em M N1 → (RdC N1) → ((RdC N1 ∧ okA M ∧ (-2147483648 ≤ x1 ∧ x1 ≤ 2147483647) ∧ (-2147483648 ≤ (1 : Int) ∧ (1 : Int) ≤ 2147483647)) ∧ (∀ (N2 : M3), RM3 N2 → Em N1 N2 → (RdC N2) → (Q (some (vI ((mFtg M x1 0) * (mFtg M x1 1)))) N2)))))))) :
    C3 E YX12_rules [vR 44 0, vI x1] M Q := by
  refine c3_in rfl rfl (z3 rfl) (g3_rm fun hM => ?_)
  refine g3_iload_n 1 dX12_rules_0 rfl rfl (g3_cS1 dX12_rules_1 myX12_isClerk mlX12_248 (z3 rfl) (z3 rfl) (c3_in rfl rfl (z3 rfl) (g3_iload_n 0 dX12_isClerk_0 rfl rfl (g3_iconst dX12_isClerk_1 (g3_iconst dX12_isClerk_2 (g3_cS3 dX12_isClerk_3 myX12_in mlX12_144 (z3 rfl) (z3 rfl) (kX12_in h.1 (g3_r1 (g3_zreturn dX12_isClerk_6 rfl (bo3_01 _) (g3_r1 (g3_bool_eq (tgt := 23) dX12_rules_4 rfl (fun c => ?_) (fun c => ?_))))))))))))
  · have h1 := h; have h := h1.2.1 c
    have o1 := h1.1
    exact g3_bipush dX12_rules_23 rfl (g3_ireturn dX12_rules_25 rfl h)
  · have h1 := h; have h := h1.2.2 c
    have o1 := h1.1
    refine g3_aload_n 0 dX12_rules_7 rfl rfl (g3_iload_n 1 dX12_rules_8 rfl rfl (g3_iconst dX12_rules_9 (g3_cV2 dX12_rules_10 myX12_fitting mlX12_269 (z3 rfl) ob_44 (z3 rfl) (z3 rfl) (eX12_fitting Em.rf h.1 (fun N1 hN1 he1 hp1 => ?_)))))
    have o2 := h.1
    have h := h.2 N1 hN1 he1 hp1
    refine g3_r1 ?_
    refine g3_aload_n 0 dX12_rules_13 rfl rfl (g3_iload_n 1 dX12_rules_14 rfl rfl (g3_iconst dX12_rules_15 (g3_cV2 dX12_rules_16 myX12_fitting mlX12_269 (z3 rfl) ob_44 (z3 rfl) (z3 rfl) (eX12_fitting (Em.tr Em.rf he1) h.1 (fun N2 hN2 he2 hp2 => ?_)))))
    have o3 := h.1
    have h := h.2 N2 hN2 he2 hp2
    refine g3_r1 ?_
    exact g3_imul dX12_rules_19 (g3_goto (tgt := 25) dX12_rules_20 rfl (g3_ireturn dX12_rules_25 rfl h))
set_option maxRecDepth 20000 in
set_option maxHeartbeats 200000 in
theorem sX11_rule {E : E3} {Q : Q3} {M : M3} {x1 x2 : Int}
    (h : ((-2147483648 ≤ x1 ∧ x1 ≤ 2147483647) ∧ (-2147483648 ≤ (0 : Int) ∧ (0 : Int) ≤ 2147483647) ∧ (-2147483648 ≤ (3 : Int) ∧ (3 : Int) ≤ 2147483647)) ∧ ((¬(0 ≤ x1 ∧ x1 ≤ 3) → (Q (some (vI (-2))) M)) ∧ ((0 ≤ x1 ∧ x1 ≤ 3) → ((-2147483648 ≤ x2 ∧ x2 ≤ 2147483647) ∧ ((0 ≤ x2 → ((IA M ∧ (0 ≤ x1 ∧ x1 ≤ 3) ∧ (0 ≤ (1 : Int) ∧ (1 : Int) ≤ 1)) ∧ ((-2147483648 ≤ ((cMst M x1 1) - (cLst M x1 1)) + 1 ∧ ((cMst M x1 1) - (cLst M x1 1)) + 1 ≤ 2147483647) ∧ ((-2147483648 ≤ max 0 (((cMst M x1 1) - (cLst M x1 1)) + 1) ∧ max 0 (((cMst M x1 1) - (cLst M x1 1)) + 1) ≤ 2147483647) ∧ ((max 0 (((cMst M x1 1) - (cLst M x1 1)) + 1) ≤ 0 → (Q (some (vI (-1))) M)) ∧ (0 < max 0 (((cMst M x1 1) - (cLst M x1 1)) + 1) → ((IA M ∧ (0 ≤ x1 ∧ x1 ≤ 3) ∧ (0 ≤ (0 : Int) ∧ (0 : Int) ≤ 1)) ∧ ((-2147483648 ≤ ((cMst M x1 0) - (cLst M x1 0)) + 1 ∧ ((cMst M x1 0) - (cLst M x1 0)) + 1 ≤ 2147483647) ∧ ((-2147483648 ≤ (max 0 (((cMst M x1 1) - (cLst M x1 1)) + 1)) * (max 0 (((cMst M x1 0) - (cLst M x1 0)) + 1)) ∧ (max 0 (((cMst M x1 1) - (cLst M x1 1)) + 1)) * (max 0 (((cMst M x1 0) - (cLst M x1 0)) + 1)) ≤ 2147483647) ∧ ((x2 < (max 0 (((cMst M x1 1) - (cLst M x1 1)) + 1)) * (max 0 (((cMst M x1 0) - (cLst M x1 0)) + 1)) → ((0 ≤ x2 ∧ x2 ≤ 2147483647) ∧ ((0 < max 0 (((cMst M x1 1) - (cLst M x1 1)) + 1) ∧ max 0 (((cMst M x1 1) - (cLst M x1 1)) + 1) ≤ 2147483647) ∧ (Q (some (vI (((100 * ((cLst M x1 0) + (x2 / (max 0 (((cMst M x1 1) - (cLst M x1 1)) + 1))))) + (cLst M x1 1)) + (x2 % (max 0 (((cMst M x1 1) - (cLst M x1 1)) + 1)))))) M)))) ∧ ((max 0 (((cMst M x1 1) - (cLst M x1 1)) + 1)) * (max 0 (((cMst M x1 0) - (cLst M x1 0)) + 1)) ≤ x2 → (Q (some (vI (-1))) M)))))))))))) ∧ (x2 < 0 → (Q (some (vI (-2))) M))))))) :
    C3 E YX11_rule [vR 0 0, vI x1, vI x2] M Q := by
  refine c3_in rfl rfl (z3 rfl) (g3_rm fun hM => ?_)
  refine g3_iload_n 1 dX11_rule_0 rfl rfl (g3_cS1 dX11_rule_1 myX11_isClerk mlX11_179 (z3 rfl) (z3 rfl) (c3_in rfl rfl (z3 rfl) (g3_iload_n 0 dX11_isClerk_0 rfl rfl (g3_iconst dX11_isClerk_1 (g3_iconst dX11_isClerk_2 (g3_cS3 dX11_isClerk_3 myX11_within mlX11_78 (z3 rfl) (z3 rfl) (kX11_within h.1 (g3_r1 (g3_zreturn dX11_isClerk_6 rfl (bo3_01 _) (g3_r1 (g3_bool_eq (tgt := 11) dX11_rule_4 rfl (fun c => ?_) (fun c => ?_))))))))))))
  · have h1 := h; have h := h1.2.1 c
    have o1 := h1.1
    exact g3_bipush dX11_rule_11 rfl (g3_ireturn dX11_rule_13 rfl h)
  · have h1 := h; have h := h1.2.2 c
    have o1 := h1.1
    refine g3_iload_n 2 dX11_rule_7 rfl rfl (g3_if_ge (tgt := 14) dX11_rule_8 rfl h.1 (fun c => ?_) (fun c => ?_))
    · have h1 := h; have h := h1.2.1 c
      have o2 := h1.1
      refine g3_aload_n 0 dX11_rule_14 rfl rfl (g3_getR0 (t := 14) dX11_rule_15 flX11_35 rfl (z3 rfl) (g3_iload_n 1 dX11_rule_18 rfl rfl (g3_iload_n 2 dX11_rule_19 rfl rfl (g3_cV2 dX11_rule_20 myX2_fittingRule mlX11_203 (z3 rfl) ob_14 (z3 rfl) (z3 rfl) (c3_in rfl rfl (z3 rfl) (g3_aload_n 0 dX2_fittingRule_0 rfl rfl (g3_iload_n 1 dX2_fittingRule_1 rfl rfl (g3_iconst dX2_fittingRule_2 (g3_cV2 dX2_fittingRule_3 myX2_waysToAsk mlX2_174 (z3 rfl) ob_14 (z3 rfl) (z3 rfl) (c3_in rfl rfl (z3 rfl) (g3_iconst dX2_waysToAsk_0 (g3_aload_n 0 dX2_waysToAsk_1 rfl rfl (g3_iload_n 1 dX2_waysToAsk_2 rfl rfl (g3_iload_n 2 dX2_waysToAsk_3 rfl rfl (g3_cV2 dX2_waysToAsk_4 myX2_mostAsked mlX2_168 (z3 rfl) ob_14 (z3 rfl) (z3 rfl) (kX2_mostAsked h.1 (g3_r1 (g3_aload_n 0 dX2_waysToAsk_7 rfl rfl (g3_iload_n 1 dX2_waysToAsk_8 rfl rfl (g3_iload_n 2 dX2_waysToAsk_9 rfl rfl (g3_cV2 dX2_waysToAsk_10 myX2_leastAsked mlX2_171 (z3 rfl) ob_14 (z3 rfl) (z3 rfl) (kX2_leastAsked h.1 (g3_r1 (g3_isub dX2_waysToAsk_13 (g3_iconst dX2_waysToAsk_14 (g3_iadd dX2_waysToAsk_15 (g3_max dX2_waysToAsk_16 mlX2_160 (z3 rfl) (z3 rfl) (z3 rfl) h.2.1 (g3_ireturn dX2_waysToAsk_19 rfl (g3_r1 (g3_istore_n (lv' := [(3, vI (max 0 (((cMst M x1 1) - (cLst M x1 1)) + 1))), (0, vR 14 0), (1, vI x1), (2, vI x2)]) dX2_fittingRule_6 rfl (z3 rfl) rfl (g3_iload_n 0 dX2_fittingRule_7 rfl rfl (g3_if_le (tgt := 23) dX2_fittingRule_8 rfl h.2.2.1 (fun c => ?_) (fun c => ?_)))))))))))))))))))))))))))))))))
      · have h1 := h; have h := h1.2.2.2.1 c
        have o3 := h1.1
        have o4 := h1.2.1
        have o5 := h1.2.2.1
        exact g3_iconst dX2_fittingRule_23 (g3_ireturn dX2_fittingRule_24 rfl (g3_r1 (g3_ireturn dX11_rule_23 rfl h)))
      · have h1 := h; have h := h1.2.2.2.2 c
        have o3 := h1.1
        have o4 := h1.2.1
        have o5 := h1.2.2.1
        refine g3_iload_n 3 dX2_fittingRule_11 rfl rfl (g3_iload_n 0 dX2_fittingRule_12 rfl rfl (g3_aload_n 1 dX2_fittingRule_13 rfl rfl (g3_iload_n 2 dX2_fittingRule_14 rfl rfl (g3_iconst dX2_fittingRule_15 (g3_cV2 dX2_fittingRule_16 myX2_waysToAsk mlX2_174 (z3 rfl) ob_14 (z3 rfl) (z3 rfl) (c3_in rfl rfl (z3 rfl) (g3_iconst dX2_waysToAsk_0 (g3_aload_n 0 dX2_waysToAsk_1 rfl rfl (g3_iload_n 1 dX2_waysToAsk_2 rfl rfl (g3_iload_n 2 dX2_waysToAsk_3 rfl rfl (g3_cV2 dX2_waysToAsk_4 myX2_mostAsked mlX2_168 (z3 rfl) ob_14 (z3 rfl) (z3 rfl) (kX2_mostAsked h.1 (g3_r1 (g3_aload_n 0 dX2_waysToAsk_7 rfl rfl (g3_iload_n 1 dX2_waysToAsk_8 rfl rfl (g3_iload_n 2 dX2_waysToAsk_9 rfl rfl (g3_cV2 dX2_waysToAsk_10 myX2_leastAsked mlX2_171 (z3 rfl) ob_14 (z3 rfl) (z3 rfl) (kX2_leastAsked h.1 (g3_r1 (g3_isub dX2_waysToAsk_13 (g3_iconst dX2_waysToAsk_14 (g3_iadd dX2_waysToAsk_15 (g3_max dX2_waysToAsk_16 mlX2_160 (z3 rfl) (z3 rfl) (z3 rfl) h.2.1 (g3_ireturn dX2_waysToAsk_19 rfl (g3_r1 (g3_imul dX2_fittingRule_19 (g3_icmp_lt (tgt := 25) dX2_fittingRule_20 rfl o2 h.2.2.1 (fun c => ?_) (fun c => ?_))))))))))))))))))))))))))))
        · have h1 := h; have h := h1.2.2.2.1 c
          have o6 := h1.1
          have o7 := h1.2.1
          have o8 := h1.2.2.1
          exact g3_bipush dX2_fittingRule_25 rfl (g3_aload_n 1 dX2_fittingRule_27 rfl rfl (g3_iload_n 2 dX2_fittingRule_28 rfl rfl (g3_iconst dX2_fittingRule_29 (g3_cV2 dX2_fittingRule_30 myX2_leastAsked mlX2_171 (z3 rfl) ob_14 (z3 rfl) (z3 rfl) (kX2_leastAsked o6 (g3_r1 (g3_iload_n 3 dX2_fittingRule_33 rfl rfl (g3_iload_n 0 dX2_fittingRule_34 rfl rfl (g3_idiv dX2_fittingRule_35 h.1 h.2.1 (g3_iadd dX2_fittingRule_36 (g3_imul dX2_fittingRule_37 (g3_aload_n 1 dX2_fittingRule_38 rfl rfl (g3_iload_n 2 dX2_fittingRule_39 rfl rfl (g3_iconst dX2_fittingRule_40 (g3_cV2 dX2_fittingRule_41 myX2_leastAsked mlX2_171 (z3 rfl) ob_14 (z3 rfl) (z3 rfl) (kX2_leastAsked o3 (g3_r1 (g3_iadd dX2_fittingRule_44 (g3_iload_n 3 dX2_fittingRule_45 rfl rfl (g3_iload_n 0 dX2_fittingRule_46 rfl rfl (g3_irem dX2_fittingRule_47 h.1 h.2.1 (g3_iadd dX2_fittingRule_48 (g3_ireturn dX2_fittingRule_49 rfl (g3_r1 (g3_ireturn dX11_rule_23 rfl h.2.2)))))))))))))))))))))))))
        · have h1 := h; have h := h1.2.2.2.2 c
          have o6 := h1.1
          have o7 := h1.2.1
          have o8 := h1.2.2.1
          exact g3_iconst dX2_fittingRule_23 (g3_ireturn dX2_fittingRule_24 rfl (g3_r1 (g3_ireturn dX11_rule_23 rfl h)))
    · have h1 := h; have h := h1.2.2 c
      have o2 := h1.1
      exact g3_bipush dX11_rule_11 rfl (g3_ireturn dX11_rule_13 rfl h)
set_option maxRecDepth 20000 in
set_option maxHeartbeats 200000 in
theorem sX12_rule {E : E3} {Q : Q3} {M : M3} {x1 x2 : Int}
    (h : ((-2147483648 ≤ x1 ∧ x1 ≤ 2147483647) ∧ (-2147483648 ≤ (0 : Int) ∧ (0 : Int) ≤ 2147483647) ∧ (-2147483648 ≤ (3 : Int) ∧ (3 : Int) ≤ 2147483647)) ∧ ((¬(0 ≤ x1 ∧ x1 ≤ 3) → (Q (some (vI (-2))) M)) ∧ ((0 ≤ x1 ∧ x1 ≤ 3) → ((-2147483648 ≤ x2 ∧ x2 ≤ 2147483647) ∧ ((0 ≤ x2 → ((RdC M ∧ okA M ∧ (-2147483648 ≤ x1 ∧ x1 ≤ 2147483647) ∧ (-2147483648 ≤ (1 : Int) ∧ (1 : Int) ≤ 2147483647)) ∧ (∀ (N1 : M3), RM3 N1 → Em M N1 → (RdC N1) → ((RdC N1 ∧ okA M ∧ (-2147483648 ≤ x1 ∧ x1 ≤ 2147483647) ∧ (-2147483648 ≤ (0 : Int) ∧ (0 : Int) ≤ 2147483647)) ∧ (∀ (N2 : M3), RM3 N2 → Em N1 N2 → (RdC N2) → ((-2147483648 ≤ (mFtg M x1 0) * (mFtg M x1 1) ∧ (mFtg M x1 0) * (mFtg M x1 1) ≤ 2147483647) ∧ ((x2 < (mFtg M x1 0) * (mFtg M x1 1) → ((0 ≤ x2 ∧ x2 ≤ 2147483647) ∧ ((0 < mFtg M x1 1 ∧ mFtg M x1 1 ≤ 2147483647) ∧ ((RdC N2 ∧ okA M ∧ (-2147483648 ≤ x1 ∧ x1 ≤ 2147483647) ∧ (-2147483648 ≤ (0 : Int) ∧ (0 : Int) ≤ 2147483647) ∧ 0 ≤ (x2 / (mFtg M x1 1)) ∧ (x2 / (mFtg M x1 1)) < mFtg M x1 0) ∧ (∀ (N3 : M3), RM3 N3 → Em N2 N3 → (RdC N3) → ((RdC N3 ∧ okA M ∧ (-2147483648 ≤ x1 ∧ x1 ≤ 2147483647) ∧ (-2147483648 ≤ (1 : Int) ∧ (1 : Int) ≤ 2147483647) ∧ 0 ≤ (x2 % (mFtg M x1 1)) ∧ (x2 % (mFtg M x1 1)) < mFtg M x1 1) ∧ (∀ (N4 : M3), RM3 N4 → Em N3 N4 → (RdC N4) → (Q (some (vI ((100 * (mAt M x1 0 (x2 / (mFtg M x1 1)))) + (mAt M x1 1 (x2 % (mFtg M x1 1)))))) N4)))))))) ∧ ((mFtg M x1 0) * (mFtg M x1 1) ≤ x2 → (Q (some (vI (-1))) N2))))))))) ∧ (x2 < 0 → (Q (some (vI (-2))) M))))))) :
    C3 E YX12_rule [vR 44 0, vI x1, vI x2] M Q := by
  refine c3_in rfl rfl (z3 rfl) (g3_rm fun hM => ?_)
  refine g3_iload_n 1 dX12_rule_0 rfl rfl (g3_cS1 dX12_rule_1 myX12_isClerk mlX12_248 (z3 rfl) (z3 rfl) (c3_in rfl rfl (z3 rfl) (g3_iload_n 0 dX12_isClerk_0 rfl rfl (g3_iconst dX12_isClerk_1 (g3_iconst dX12_isClerk_2 (g3_cS3 dX12_isClerk_3 myX12_in mlX12_144 (z3 rfl) (z3 rfl) (kX12_in h.1 (g3_r1 (g3_zreturn dX12_isClerk_6 rfl (bo3_01 _) (g3_r1 (g3_bool_eq (tgt := 11) dX12_rule_4 rfl (fun c => ?_) (fun c => ?_))))))))))))
  · have h1 := h; have h := h1.2.1 c
    have o1 := h1.1
    exact g3_bipush dX12_rule_11 rfl (g3_ireturn dX12_rule_13 rfl h)
  · have h1 := h; have h := h1.2.2 c
    have o1 := h1.1
    refine g3_iload_n 2 dX12_rule_7 rfl rfl (g3_if_ge (tgt := 14) dX12_rule_8 rfl h.1 (fun c => ?_) (fun c => ?_))
    · have h1 := h; have h := h1.2.1 c
      have o2 := h1.1
      refine g3_aload_n 0 dX12_rule_14 rfl rfl (g3_iload_n 1 dX12_rule_15 rfl rfl (g3_iconst dX12_rule_16 (g3_cV2 dX12_rule_17 myX12_fitting mlX12_269 (z3 rfl) ob_44 (z3 rfl) (z3 rfl) (eX12_fitting Em.rf h.1 (fun N1 hN1 he1 hp1 => ?_)))))
      have o3 := h.1
      have h := h.2 N1 hN1 he1 hp1
      refine g3_r1 ?_
      refine g3_istore_n (lv' := [(3, vI (mFtg M x1 1)), (0, vR 44 0), (1, vI x1), (2, vI x2)]) dX12_rule_20 rfl (z3 rfl) rfl (g3_iload_n 3 dX12_rule_21 rfl rfl (g3_aload_n 1 dX12_rule_22 rfl rfl (g3_iload_n 2 dX12_rule_23 rfl rfl (g3_iconst dX12_rule_24 (g3_cV2 dX12_rule_25 myX12_fitting mlX12_269 (z3 rfl) ob_44 (z3 rfl) (z3 rfl) (eX12_fitting (Em.tr Em.rf he1) h.1 (fun N2 hN2 he2 hp2 => ?_)))))))
      have o4 := h.1
      have h := h.2 N2 hN2 he2 hp2
      refine g3_r1 ?_
      refine g3_iload_n 0 dX12_rule_28 rfl rfl (g3_imul dX12_rule_29 (g3_icmp_lt (tgt := 35) dX12_rule_30 rfl o2 h.1 (fun c => ?_) (fun c => ?_)))
      · have h1 := h; have h := h1.2.1 c
        have o5 := h1.1
        refine g3_bipush dX12_rule_35 rfl (g3_aload_n 1 dX12_rule_37 rfl rfl (g3_iload_n 2 dX12_rule_38 rfl rfl (g3_iconst dX12_rule_39 (g3_iload_n 3 dX12_rule_40 rfl rfl (g3_iload_n 0 dX12_rule_41 rfl rfl (g3_idiv dX12_rule_42 h.1 h.2.1 (g3_cV3 dX12_rule_43 myX12_fitAt mlX12_272 (z3 rfl) ob_44 (z3 rfl) (z3 rfl) (eX12_fitAt (Em.tr (Em.tr Em.rf he1) he2) h.2.2.1 (fun N3 hN3 he3 hp3 => ?_)))))))))
        have o6 := h.1
        have o7 := h.2.1
        have o8 := h.2.2.1
        have h := h.2.2.2 N3 hN3 he3 hp3
        refine g3_r1 ?_
        refine g3_imul dX12_rule_46 (g3_aload_n 1 dX12_rule_47 rfl rfl (g3_iload_n 2 dX12_rule_48 rfl rfl (g3_iconst dX12_rule_49 (g3_iload_n 3 dX12_rule_50 rfl rfl (g3_iload_n 0 dX12_rule_51 rfl rfl (g3_irem dX12_rule_52 o6 o7 (g3_cV3 dX12_rule_53 myX12_fitAt mlX12_272 (z3 rfl) ob_44 (z3 rfl) (z3 rfl) (eX12_fitAt (Em.tr (Em.tr (Em.tr Em.rf he1) he2) he3) h.1 (fun N4 hN4 he4 hp4 => ?_)))))))))
        have o9 := h.1
        have h := h.2 N4 hN4 he4 hp4
        refine g3_r1 ?_
        exact g3_iadd dX12_rule_56 (g3_ireturn dX12_rule_57 rfl h)
      · have h1 := h; have h := h1.2.2 c
        have o5 := h1.1
        exact g3_iconst dX12_rule_33 (g3_ireturn dX12_rule_34 rfl h)
    · have h1 := h; have h := h1.2.2 c
      have o2 := h1.1
      exact g3_bipush dX12_rule_11 rfl (g3_ireturn dX12_rule_13 rfl h)
set_option maxRecDepth 20000 in
set_option maxHeartbeats 200000 in
theorem sX11_person {E : E3} {Q : Q3} {M : M3} {x1 x2 x3 x4 x5 : Int}
    (h : ((-2147483648 ≤ x1 ∧ x1 ≤ 2147483647) ∧ (-2147483648 ≤ (0 : Int) ∧ (0 : Int) ≤ 2147483647) ∧ (-2147483648 ≤ (5 : Int) ∧ (5 : Int) ≤ 2147483647)) ∧ ((¬(0 ≤ x1 ∧ x1 ≤ 5) → (Q (some (vI (-2))) M)) ∧ ((0 ≤ x1 ∧ x1 ≤ 5) → (((-2147483648 ≤ x2 ∧ x2 ≤ 2147483647) ∧ (-2147483648 ≤ (0 : Int) ∧ (0 : Int) ≤ 2147483647) ∧ (-2147483648 ≤ (1 : Int) ∧ (1 : Int) ≤ 2147483647)) ∧ ((¬(0 ≤ x2 ∧ x2 ≤ 1) → (Q (some (vI (-2))) M)) ∧ ((0 ≤ x2 ∧ x2 ≤ 1) → (((-2147483648 ≤ x3 ∧ x3 ≤ 2147483647) ∧ (-2147483648 ≤ (0 : Int) ∧ (0 : Int) ≤ 2147483647) ∧ (-2147483648 ≤ (20 : Int) ∧ (20 : Int) ≤ 2147483647)) ∧ ((¬(0 ≤ x3 ∧ x3 ≤ 20) → (Q (some (vI (-2))) M)) ∧ ((0 ≤ x3 ∧ x3 ≤ 20) → (((-2147483648 ≤ x4 ∧ x4 ≤ 2147483647) ∧ (-2147483648 ≤ (0 : Int) ∧ (0 : Int) ≤ 2147483647) ∧ (-2147483648 ≤ (9 : Int) ∧ (9 : Int) ≤ 2147483647)) ∧ ((¬(0 ≤ x4 ∧ x4 ≤ 9) → (Q (some (vI (-2))) M)) ∧ ((0 ≤ x4 ∧ x4 ≤ 9) → ((-2147483648 ≤ x5 ∧ x5 ≤ 2147483647) ∧ ((x5 = (-1) → ((M 10 0 0 < 48 → ((0 ≤ M 10 0 0 ∧ M 10 0 0 < 48) ∧ ((-2147483648 ≤ x1 ∧ x1 ≤ 2147483647) ∧ ((-2147483648 ≤ x2 ∧ x2 ≤ 2147483647) ∧ ((-2147483648 ≤ x3 ∧ x3 ≤ 2147483647) ∧ ((-2147483648 ≤ x4 ∧ x4 ≤ 2147483647) ∧ ((-2147483648 ≤ (M 10 0 0) + 1 ∧ (M 10 0 0) + 1 ≤ 2147483647) ∧ (Q (some (vI (((M 10 0 0) + 1) - 1))) (up3 (up3 (up3 (up3 (up3 (up3 M 13 (M 10 0 0) 0 x1) 13 (M 10 0 0) 1 x2) 13 (M 10 0 0) 2 x3) 13 (M 10 0 0) 3 x4) 13 (M 10 0 0) 4 x5) 10 0 0 ((M 10 0 0) + 1)))))))))) ∧ (48 ≤ M 10 0 0 → (Q (some (vI (-4))) M)))) ∧ (x5 ≠ (-1) → ((x5 < 0 → (Q (some (vI (-2))) M)) ∧ (0 ≤ x5 → ((M 10 0 0 ≤ x5 → (Q (some (vI (-2))) M)) ∧ (x5 < M 10 0 0 → ((M 10 0 0 < 48 → ((0 ≤ M 10 0 0 ∧ M 10 0 0 < 48) ∧ ((-2147483648 ≤ x1 ∧ x1 ≤ 2147483647) ∧ ((-2147483648 ≤ x2 ∧ x2 ≤ 2147483647) ∧ ((-2147483648 ≤ x3 ∧ x3 ≤ 2147483647) ∧ ((-2147483648 ≤ x4 ∧ x4 ≤ 2147483647) ∧ ((-2147483648 ≤ (M 10 0 0) + 1 ∧ (M 10 0 0) + 1 ≤ 2147483647) ∧ (Q (some (vI (((M 10 0 0) + 1) - 1))) (up3 (up3 (up3 (up3 (up3 (up3 M 13 (M 10 0 0) 0 x1) 13 (M 10 0 0) 1 x2) 13 (M 10 0 0) 2 x3) 13 (M 10 0 0) 3 x4) 13 (M 10 0 0) 4 x5) 10 0 0 ((M 10 0 0) + 1)))))))))) ∧ (48 ≤ M 10 0 0 → (Q (some (vI (-4))) M)))))))))))))))))))))) :
    C3 E YX11_person [vR 0 0, vI x1, vI x2, vI x3, vI x4, vI x5] M Q := by
  refine c3_in rfl rfl (z3 rfl) (g3_rm fun hM => ?_)
  refine g3_iload_n 1 dX11_person_0 rfl rfl (g3_cS1 dX11_person_1 myX11_isBeat mlX11_86 (z3 rfl) (z3 rfl) (c3_in rfl rfl (z3 rfl) (g3_iload_n 0 dX11_isBeat_0 rfl rfl (g3_iconst dX11_isBeat_1 (g3_iconst dX11_isBeat_2 (g3_cS3 dX11_isBeat_3 myX11_within mlX11_78 (z3 rfl) (z3 rfl) (kX11_within h.1 (g3_r1 (g3_zreturn dX11_isBeat_6 rfl (bo3_01 _) (g3_r1 (g3_bool_eq (tgt := 53) dX11_person_4 rfl (fun c => ?_) (fun c => ?_))))))))))))
  · have h1 := h; have h := h1.2.1 c
    have o1 := h1.1
    exact g3_bipush dX11_person_53 rfl (g3_ireturn dX11_person_55 rfl h)
  · have h1 := h; have h := h1.2.2 c
    have o1 := h1.1
    refine g3_iload_n 2 dX11_person_7 rfl rfl (g3_cS1 dX11_person_8 myX11_isSort mlX11_90 (z3 rfl) (z3 rfl) (c3_in rfl rfl (z3 rfl) (g3_iload_n 0 dX11_isSort_0 rfl rfl (g3_iconst dX11_isSort_1 (g3_iconst dX11_isSort_2 (g3_cS3 dX11_isSort_3 myX11_within mlX11_78 (z3 rfl) (z3 rfl) (kX11_within h.1 (g3_r1 (g3_zreturn dX11_isSort_6 rfl (bo3_01 _) (g3_r1 (g3_bool_eq (tgt := 53) dX11_person_11 rfl (fun c => ?_) (fun c => ?_))))))))))))
    · have h1 := h; have h := h1.2.1 c
      have o2 := h1.1
      exact g3_bipush dX11_person_53 rfl (g3_ireturn dX11_person_55 rfl h)
    · have h1 := h; have h := h1.2.2 c
      have o2 := h1.1
      refine g3_iload_n 3 dX11_person_14 rfl rfl (g3_iconst dX11_person_15 (g3_bipush dX11_person_16 rfl (g3_cS3 dX11_person_18 myX11_within mlX11_78 (z3 rfl) (z3 rfl) (kX11_within h.1 (g3_r1 (g3_bool_eq (tgt := 53) dX11_person_21 rfl (fun c => ?_) (fun c => ?_)))))))
      · have h1 := h; have h := h1.2.1 c
        have o3 := h1.1
        exact g3_bipush dX11_person_53 rfl (g3_ireturn dX11_person_55 rfl h)
      · have h1 := h; have h := h1.2.2 c
        have o3 := h1.1
        refine g3_iload 4 dX11_person_24 rfl (g3_iconst dX11_person_26 (g3_bipush dX11_person_27 rfl (g3_cS3 dX11_person_29 myX11_within mlX11_78 (z3 rfl) (z3 rfl) (kX11_within h.1 (g3_r1 (g3_bool_eq (tgt := 53) dX11_person_32 rfl (fun c => ?_) (fun c => ?_)))))))
        · have h1 := h; have h := h1.2.1 c
          have o4 := h1.1
          exact g3_bipush dX11_person_53 rfl (g3_ireturn dX11_person_55 rfl h)
        · have h1 := h; have h := h1.2.2 c
          have o4 := h1.1
          refine g3_iload 5 dX11_person_35 rfl (g3_iconst dX11_person_37 (g3_icmp_eq (tgt := 56) dX11_person_38 rfl h.1 (z3 rfl) (fun c => ?_) (fun c => ?_)))
          · have h1 := h; have h := h1.2.1 c
            have o5 := h1.1
            refine g3_aload_n 0 dX11_person_56 rfl rfl (g3_getR0 (t := 10) dX11_person_57 flX11_26 rfl (z3 rfl) (g3_cV0 dX11_person_60 myX0_isFull mlX11_96 (z3 rfl) ob_10 (z3 rfl) (z3 rfl) (c3_in rfl rfl (z3 rfl) (g3_aload_n 0 dX0_isFull_0 rfl rfl (g3_getI (t := 0) dX0_isFull_1 flX0_22 (z3 rfl) (z3 rfl) (g3_bipush dX0_isFull_4 rfl (g3_icmp_lt (tgt := 13) dX0_isFull_6 rfl (hM 10 0 0) (z3 rfl) (fun c => ?_) (fun c => ?_))))))))
            · have h1 := h; have h := h1.1 c
              exact g3_iconst dX0_isFull_13 (g3_zreturn dX0_isFull_14 rfl (Or.inl rfl) (g3_r1 (g3_if_eq_T (tgt := 69) dX11_person_63 rfl (z3 rfl) (g3_aload_n 0 dX11_person_69 rfl rfl (g3_getR0 (t := 10) dX11_person_70 flX11_26 rfl (z3 rfl) (g3_iload_n 1 dX11_person_73 rfl rfl (g3_iload_n 2 dX11_person_74 rfl rfl (g3_iload_n 3 dX11_person_75 rfl rfl (g3_iload 4 dX11_person_76 rfl (g3_iload 5 dX11_person_78 rfl (g3_cV5 dX11_person_80 myX0_settle mlX11_100 (z3 rfl) ob_10 (z3 rfl) (z3 rfl) (c3_in rfl rfl (z3 rfl) (g3_aload_n 0 dX0_settle_0 rfl rfl (g3_getR0 (t := 11) dX0_settle_1 flX0_13 rfl (z3 rfl) (g3_aload_n 0 dX0_settle_4 rfl rfl (g3_getI (t := 0) dX0_settle_5 flX0_22 (z3 rfl) (z3 rfl) (g3_aald dX0_settle_8 aq_11 h.1 (g3_astore (lv' := [(6, vR 13 (M 10 0 0)), (0, vR 10 0), (1, vI x1), (2, vI x2), (3, vI x3), (4, vI x4), (5, vI x5)]) dX0_settle_9 (z3 rfl) rfl (g3_aload 0 dX0_settle_11 rfl (g3_iload_n 2 dX0_settle_13 rfl rfl (g3_put dX0_settle_14 fpX0_26 (Or.inl rfl) h.1 h.2.1 (g3_aload 0 dX0_settle_17 rfl (g3_iload_n 3 dX0_settle_19 rfl rfl (g3_put dX0_settle_20 fpX0_29 (Or.inl rfl) h.1 h.2.2.1 (g3_aload 0 dX0_settle_23 rfl (g3_iload_n 4 dX0_settle_25 rfl rfl (g3_put dX0_settle_26 fpX0_32 (Or.inl rfl) h.1 h.2.2.2.1 (g3_aload 0 dX0_settle_29 rfl (g3_iload 5 dX0_settle_31 rfl (g3_put dX0_settle_33 fpX0_35 (Or.inl rfl) h.1 h.2.2.2.2.1 (g3_aload 0 dX0_settle_36 rfl (g3_iload 6 dX0_settle_38 rfl (g3_put dX0_settle_40 fpX0_38 (Or.inl rfl) h.1 o5 (g3_aload_n 1 dX0_settle_43 rfl rfl (g3_dup dX0_settle_44 rfl (g3_getI (t := 0) dX0_settle_45 flX0_22 (z3 rfl) (z3 rfl) (g3_val (((((up3_nr (by decide)).trans (up3_nr (by decide))).trans (up3_nr (by decide))).trans (up3_nr (by decide))).trans (up3_nr (by decide))) (g3_iconst dX0_settle_48 (g3_iadd dX0_settle_49 (g3_put dX0_settle_50 fpX0_22 (Or.inl rfl) (z3 rfl) h.2.2.2.2.2.1 (g3_aload_n 1 dX0_settle_53 rfl rfl (g3_getI (t := 0) dX0_settle_54 flX0_22 (z3 rfl) (z3 rfl) (g3_val (up3_eq) (g3_iconst dX0_settle_57 (g3_isub dX0_settle_58 (g3_ireturn dX0_settle_59 rfl (g3_r1 (g3_ireturn dX11_person_83 rfl h.2.2.2.2.2.2))))))))))))))))))))))))))))))))))))))))))))))))
            · have h1 := h; have h := h1.2 c
              exact g3_iconst dX0_isFull_9 (g3_goto (tgt := 14) dX0_isFull_10 rfl (g3_zreturn dX0_isFull_14 rfl (Or.inr rfl) (g3_r1 (g3_if_eq_F (tgt := 69) dX11_person_63 rfl (z3 rfl) (g3_bipush dX11_person_66 rfl (g3_ireturn dX11_person_68 rfl h))))))
          · have h1 := h; have h := h1.2.2 c
            have o5 := h1.1
            refine g3_aload_n 0 dX11_person_41 rfl rfl (g3_getR0 (t := 10) dX11_person_42 flX11_26 rfl (z3 rfl) (g3_iload 5 dX11_person_45 rfl (g3_cV1 dX11_person_47 myX0_holds mlX11_93 (z3 rfl) ob_10 (z3 rfl) (z3 rfl) (c3_in rfl rfl (z3 rfl) (g3_iload_n 1 dX0_holds_0 rfl rfl (g3_if_lt (tgt := 16) dX0_holds_1 rfl o5 (fun c => ?_) (fun c => ?_)))))))
            · have h1 := h; have h := h1.1 c
              exact g3_iconst dX0_holds_16 (g3_zreturn dX0_holds_17 rfl (Or.inl rfl) (g3_r1 (g3_if_ne_F (tgt := 56) dX11_person_50 rfl (z3 rfl) (g3_bipush dX11_person_53 rfl (g3_ireturn dX11_person_55 rfl h)))))
            · have h1 := h; have h := h1.2 c
              refine g3_iload_n 1 dX0_holds_4 rfl rfl (g3_aload_n 0 dX0_holds_5 rfl rfl (g3_getI (t := 0) dX0_holds_6 flX0_22 (z3 rfl) (z3 rfl) (g3_icmp_ge (tgt := 16) dX0_holds_9 rfl o5 (hM 10 0 0) (fun c => ?_) (fun c => ?_))))
              · have h1 := h; have h := h1.1 c
                exact g3_iconst dX0_holds_16 (g3_zreturn dX0_holds_17 rfl (Or.inl rfl) (g3_r1 (g3_if_ne_F (tgt := 56) dX11_person_50 rfl (z3 rfl) (g3_bipush dX11_person_53 rfl (g3_ireturn dX11_person_55 rfl h)))))
              · have h1 := h; have h := h1.2 c
                refine g3_iconst dX0_holds_12 (g3_goto (tgt := 17) dX0_holds_13 rfl (g3_zreturn dX0_holds_17 rfl (Or.inr rfl) (g3_r1 (g3_if_ne_T (tgt := 56) dX11_person_50 rfl (z3 rfl) (g3_aload_n 0 dX11_person_56 rfl rfl (g3_getR0 (t := 10) dX11_person_57 flX11_26 rfl (z3 rfl) (g3_cV0 dX11_person_60 myX0_isFull mlX11_96 (z3 rfl) ob_10 (z3 rfl) (z3 rfl) (c3_in rfl rfl (z3 rfl) (g3_aload_n 0 dX0_isFull_0 rfl rfl (g3_getI (t := 0) dX0_isFull_1 flX0_22 (z3 rfl) (z3 rfl) (g3_bipush dX0_isFull_4 rfl (g3_icmp_lt (tgt := 13) dX0_isFull_6 rfl (hM 10 0 0) (z3 rfl) (fun c => ?_) (fun c => ?_)))))))))))))
                · have h1 := h; have h := h1.1 c
                  exact g3_iconst dX0_isFull_13 (g3_zreturn dX0_isFull_14 rfl (Or.inl rfl) (g3_r1 (g3_if_eq_T (tgt := 69) dX11_person_63 rfl (z3 rfl) (g3_aload_n 0 dX11_person_69 rfl rfl (g3_getR0 (t := 10) dX11_person_70 flX11_26 rfl (z3 rfl) (g3_iload_n 1 dX11_person_73 rfl rfl (g3_iload_n 2 dX11_person_74 rfl rfl (g3_iload_n 3 dX11_person_75 rfl rfl (g3_iload 4 dX11_person_76 rfl (g3_iload 5 dX11_person_78 rfl (g3_cV5 dX11_person_80 myX0_settle mlX11_100 (z3 rfl) ob_10 (z3 rfl) (z3 rfl) (c3_in rfl rfl (z3 rfl) (g3_aload_n 0 dX0_settle_0 rfl rfl (g3_getR0 (t := 11) dX0_settle_1 flX0_13 rfl (z3 rfl) (g3_aload_n 0 dX0_settle_4 rfl rfl (g3_getI (t := 0) dX0_settle_5 flX0_22 (z3 rfl) (z3 rfl) (g3_aald dX0_settle_8 aq_11 h.1 (g3_astore (lv' := [(6, vR 13 (M 10 0 0)), (0, vR 10 0), (1, vI x1), (2, vI x2), (3, vI x3), (4, vI x4), (5, vI x5)]) dX0_settle_9 (z3 rfl) rfl (g3_aload 0 dX0_settle_11 rfl (g3_iload_n 2 dX0_settle_13 rfl rfl (g3_put dX0_settle_14 fpX0_26 (Or.inl rfl) h.1 h.2.1 (g3_aload 0 dX0_settle_17 rfl (g3_iload_n 3 dX0_settle_19 rfl rfl (g3_put dX0_settle_20 fpX0_29 (Or.inl rfl) h.1 h.2.2.1 (g3_aload 0 dX0_settle_23 rfl (g3_iload_n 4 dX0_settle_25 rfl rfl (g3_put dX0_settle_26 fpX0_32 (Or.inl rfl) h.1 h.2.2.2.1 (g3_aload 0 dX0_settle_29 rfl (g3_iload 5 dX0_settle_31 rfl (g3_put dX0_settle_33 fpX0_35 (Or.inl rfl) h.1 h.2.2.2.2.1 (g3_aload 0 dX0_settle_36 rfl (g3_iload 6 dX0_settle_38 rfl (g3_put dX0_settle_40 fpX0_38 (Or.inl rfl) h.1 o5 (g3_aload_n 1 dX0_settle_43 rfl rfl (g3_dup dX0_settle_44 rfl (g3_getI (t := 0) dX0_settle_45 flX0_22 (z3 rfl) (z3 rfl) (g3_val (((((up3_nr (by decide)).trans (up3_nr (by decide))).trans (up3_nr (by decide))).trans (up3_nr (by decide))).trans (up3_nr (by decide))) (g3_iconst dX0_settle_48 (g3_iadd dX0_settle_49 (g3_put dX0_settle_50 fpX0_22 (Or.inl rfl) (z3 rfl) h.2.2.2.2.2.1 (g3_aload_n 1 dX0_settle_53 rfl rfl (g3_getI (t := 0) dX0_settle_54 flX0_22 (z3 rfl) (z3 rfl) (g3_val (up3_eq) (g3_iconst dX0_settle_57 (g3_isub dX0_settle_58 (g3_ireturn dX0_settle_59 rfl (g3_r1 (g3_ireturn dX11_person_83 rfl h.2.2.2.2.2.2))))))))))))))))))))))))))))))))))))))))))))))))
                · have h1 := h; have h := h1.2 c
                  exact g3_iconst dX0_isFull_9 (g3_goto (tgt := 14) dX0_isFull_10 rfl (g3_zreturn dX0_isFull_14 rfl (Or.inr rfl) (g3_r1 (g3_if_eq_F (tgt := 69) dX11_person_63 rfl (z3 rfl) (g3_bipush dX11_person_66 rfl (g3_ireturn dX11_person_68 rfl h))))))
set_option maxRecDepth 20000 in
set_option maxHeartbeats 200000 in
theorem sX12_person {E : E3} {Q : Q3} {M : M3} {x1 x2 x3 x4 x5 : Int}
    (h : ((-2147483648 ≤ x1 ∧ x1 ≤ 2147483647) ∧ (-2147483648 ≤ (0 : Int) ∧ (0 : Int) ≤ 2147483647) ∧ (-2147483648 ≤ (5 : Int) ∧ (5 : Int) ≤ 2147483647)) ∧ ((¬(0 ≤ x1 ∧ x1 ≤ 5) → (Q (some (vI (-2))) M)) ∧ ((0 ≤ x1 ∧ x1 ≤ 5) → (((-2147483648 ≤ x2 ∧ x2 ≤ 2147483647) ∧ (-2147483648 ≤ (0 : Int) ∧ (0 : Int) ≤ 2147483647) ∧ (-2147483648 ≤ (1 : Int) ∧ (1 : Int) ≤ 2147483647)) ∧ ((¬(0 ≤ x2 ∧ x2 ≤ 1) → (Q (some (vI (-2))) M)) ∧ ((0 ≤ x2 ∧ x2 ≤ 1) → (((-2147483648 ≤ x3 ∧ x3 ≤ 2147483647) ∧ (-2147483648 ≤ (0 : Int) ∧ (0 : Int) ≤ 2147483647) ∧ (-2147483648 ≤ (20 : Int) ∧ (20 : Int) ≤ 2147483647)) ∧ ((¬(0 ≤ x3 ∧ x3 ≤ 20) → (Q (some (vI (-2))) M)) ∧ ((0 ≤ x3 ∧ x3 ≤ 20) → (((-2147483648 ≤ x4 ∧ x4 ≤ 2147483647) ∧ (-2147483648 ≤ (0 : Int) ∧ (0 : Int) ≤ 2147483647) ∧ (-2147483648 ≤ (9 : Int) ∧ (9 : Int) ≤ 2147483647)) ∧ ((¬(0 ≤ x4 ∧ x4 ≤ 9) → (Q (some (vI (-2))) M)) ∧ ((0 ≤ x4 ∧ x4 ≤ 9) → (((-2147483648 ≤ x5 ∧ x5 ≤ 2147483647) ∧ (-2147483648 ≤ ((-1) : Int) ∧ ((-1) : Int) ≤ 2147483647) ∧ (-2147483648 ≤ ((M 44 0 1) - 1) ∧ ((M 44 0 1) - 1) ≤ 2147483647)) ∧ ((((-1) ≤ x5 ∧ x5 ≤ ((M 44 0 1) - 1)) → ((M 44 0 1 ≠ 48 → ((0 ≤ M 44 0 1 ∧ M 44 0 1 < 48) ∧ ((-2147483648 ≤ x1 ∧ x1 ≤ 2147483647) ∧ ((-2147483648 ≤ x2 ∧ x2 ≤ 2147483647) ∧ ((-2147483648 ≤ x3 ∧ x3 ≤ 2147483647) ∧ ((-2147483648 ≤ x4 ∧ x4 ≤ 2147483647) ∧ ((-2147483648 ≤ x5 ∧ x5 ≤ 2147483647) ∧ ((-2147483648 ≤ (M 44 0 1) + 1 ∧ (M 44 0 1) + 1 ≤ 2147483647) ∧ (Q (some (vI (((M 44 0 1) + 1) - 1))) (up3 (up3 (up3 (up3 (up3 (up3 M 45 0 (M 44 0 1) x1) 46 0 (M 44 0 1) x2) 47 0 (M 44 0 1) x3) 48 0 (M 44 0 1) x4) 49 0 (M 44 0 1) x5) 44 0 1 ((M 44 0 1) + 1))))))))))) ∧ (M 44 0 1 = 48 → (Q (some (vI (-4))) M)))) ∧ (¬((-1) ≤ x5 ∧ x5 ≤ ((M 44 0 1) - 1)) → (Q (some (vI (-2))) M)))))))))))))))) :
    C3 E YX12_person [vR 44 0, vI x1, vI x2, vI x3, vI x4, vI x5] M Q := by
  refine c3_in rfl rfl (z3 rfl) (g3_rm fun hM => ?_)
  refine g3_iload_n 1 dX12_person_0 rfl rfl (g3_cS1 dX12_person_1 myX12_isBeat mlX12_154 (z3 rfl) (z3 rfl) (c3_in rfl rfl (z3 rfl) (g3_iload_n 0 dX12_isBeat_0 rfl rfl (g3_iconst dX12_isBeat_1 (g3_iconst dX12_isBeat_2 (g3_cS3 dX12_isBeat_3 myX12_in mlX12_144 (z3 rfl) (z3 rfl) (kX12_in h.1 (g3_r1 (g3_zreturn dX12_isBeat_6 rfl (bo3_01 _) (g3_r1 (g3_bool_eq (tgt := 52) dX12_person_4 rfl (fun c => ?_) (fun c => ?_))))))))))))
  · have h1 := h; have h := h1.2.1 c
    have o1 := h1.1
    exact g3_bipush dX12_person_52 rfl (g3_ireturn dX12_person_54 rfl h)
  · have h1 := h; have h := h1.2.2 c
    have o1 := h1.1
    refine g3_iload_n 2 dX12_person_7 rfl rfl (g3_iconst dX12_person_8 (g3_iconst dX12_person_9 (g3_cS3 dX12_person_10 myX12_in mlX12_144 (z3 rfl) (z3 rfl) (kX12_in h.1 (g3_r1 (g3_bool_eq (tgt := 52) dX12_person_13 rfl (fun c => ?_) (fun c => ?_)))))))
    · have h1 := h; have h := h1.2.1 c
      have o2 := h1.1
      exact g3_bipush dX12_person_52 rfl (g3_ireturn dX12_person_54 rfl h)
    · have h1 := h; have h := h1.2.2 c
      have o2 := h1.1
      refine g3_iload_n 3 dX12_person_16 rfl rfl (g3_iconst dX12_person_17 (g3_bipush dX12_person_18 rfl (g3_cS3 dX12_person_20 myX12_in mlX12_144 (z3 rfl) (z3 rfl) (kX12_in h.1 (g3_r1 (g3_bool_eq (tgt := 52) dX12_person_23 rfl (fun c => ?_) (fun c => ?_)))))))
      · have h1 := h; have h := h1.2.1 c
        have o3 := h1.1
        exact g3_bipush dX12_person_52 rfl (g3_ireturn dX12_person_54 rfl h)
      · have h1 := h; have h := h1.2.2 c
        have o3 := h1.1
        refine g3_iload 4 dX12_person_26 rfl (g3_iconst dX12_person_28 (g3_bipush dX12_person_29 rfl (g3_cS3 dX12_person_31 myX12_in mlX12_144 (z3 rfl) (z3 rfl) (kX12_in h.1 (g3_r1 (g3_bool_eq (tgt := 52) dX12_person_34 rfl (fun c => ?_) (fun c => ?_)))))))
        · have h1 := h; have h := h1.2.1 c
          have o4 := h1.1
          exact g3_bipush dX12_person_52 rfl (g3_ireturn dX12_person_54 rfl h)
        · have h1 := h; have h := h1.2.2 c
          have o4 := h1.1
          refine g3_iload 5 dX12_person_37 rfl (g3_iconst dX12_person_39 (g3_aload_n 0 dX12_person_40 rfl rfl (g3_getI (t := 0) dX12_person_41 flX12_148 (z3 rfl) (z3 rfl) (g3_iconst dX12_person_44 (g3_isub dX12_person_45 (g3_cS3 dX12_person_46 myX12_in mlX12_144 (z3 rfl) (z3 rfl) (kX12_in h.1 (g3_r1 (g3_bool_ne (tgt := 55) dX12_person_49 rfl (fun c => ?_) (fun c => ?_))))))))))
          · have h1 := h; have h := h1.2.1 c
            have o5 := h1.1
            refine g3_aload_n 0 dX12_person_55 rfl rfl (g3_getI (t := 0) dX12_person_56 flX12_148 (z3 rfl) (z3 rfl) (g3_bipush dX12_person_59 rfl (g3_icmp_ne (tgt := 67) dX12_person_61 rfl (hM 44 0 1) (z3 rfl) (fun c => ?_) (fun c => ?_))))
            · have h1 := h; have h := h1.1 c
              exact g3_aload_n 0 dX12_person_67 rfl rfl (g3_getR0 (t := 45) dX12_person_68 flX12_7 rfl (z3 rfl) (g3_aload_n 0 dX12_person_71 rfl rfl (g3_getI (t := 0) dX12_person_72 flX12_148 (z3 rfl) (z3 rfl) (g3_iload_n 1 dX12_person_75 rfl rfl (g3_iast dX12_person_76 ar_45 (z3 rfl) h.1 h.2.1 (g3_aload_n 0 dX12_person_77 rfl rfl (g3_getR0 (t := 46) dX12_person_78 flX12_13 rfl (z3 rfl) (g3_aload_n 0 dX12_person_81 rfl rfl (g3_getI (t := 0) dX12_person_82 flX12_148 (z3 rfl) (z3 rfl) (g3_val (up3_nr (by decide)) (g3_iload_n 2 dX12_person_85 rfl rfl (g3_iast dX12_person_86 ar_46 (z3 rfl) h.1 h.2.2.1 (g3_aload_n 0 dX12_person_87 rfl rfl (g3_getR0 (t := 47) dX12_person_88 flX12_16 rfl (z3 rfl) (g3_aload_n 0 dX12_person_91 rfl rfl (g3_getI (t := 0) dX12_person_92 flX12_148 (z3 rfl) (z3 rfl) (g3_val ((up3_nr (by decide)).trans (up3_nr (by decide))) (g3_iload_n 3 dX12_person_95 rfl rfl (g3_iast dX12_person_96 ar_47 (z3 rfl) h.1 h.2.2.2.1 (g3_aload_n 0 dX12_person_97 rfl rfl (g3_getR0 (t := 48) dX12_person_98 flX12_19 rfl (z3 rfl) (g3_aload_n 0 dX12_person_101 rfl rfl (g3_getI (t := 0) dX12_person_102 flX12_148 (z3 rfl) (z3 rfl) (g3_val (((up3_nr (by decide)).trans (up3_nr (by decide))).trans (up3_nr (by decide))) (g3_iload 4 dX12_person_105 rfl (g3_iast dX12_person_107 ar_48 (z3 rfl) h.1 h.2.2.2.2.1 (g3_aload_n 0 dX12_person_108 rfl rfl (g3_getR0 (t := 49) dX12_person_109 flX12_22 rfl (z3 rfl) (g3_aload_n 0 dX12_person_112 rfl rfl (g3_getI (t := 0) dX12_person_113 flX12_148 (z3 rfl) (z3 rfl) (g3_val ((((up3_nr (by decide)).trans (up3_nr (by decide))).trans (up3_nr (by decide))).trans (up3_nr (by decide))) (g3_iload 5 dX12_person_116 rfl (g3_iast dX12_person_118 ar_49 (z3 rfl) h.1 h.2.2.2.2.2.1 (g3_aload_n 0 dX12_person_119 rfl rfl (g3_dup dX12_person_120 rfl (g3_getI (t := 0) dX12_person_121 flX12_148 (z3 rfl) (z3 rfl) (g3_val (((((up3_nr (by decide)).trans (up3_nr (by decide))).trans (up3_nr (by decide))).trans (up3_nr (by decide))).trans (up3_nr (by decide))) (g3_iconst dX12_person_124 (g3_iadd dX12_person_125 (g3_put dX12_person_126 fpX12_148 (Or.inl rfl) (z3 rfl) h.2.2.2.2.2.2.1 (g3_aload_n 0 dX12_person_129 rfl rfl (g3_getI (t := 0) dX12_person_130 flX12_148 (z3 rfl) (z3 rfl) (g3_val (up3_eq) (g3_iconst dX12_person_133 (g3_isub dX12_person_134 (g3_ireturn dX12_person_135 rfl h.2.2.2.2.2.2.2))))))))))))))))))))))))))))))))))))))))))))))
            · have h1 := h; have h := h1.2 c
              exact g3_bipush dX12_person_64 rfl (g3_ireturn dX12_person_66 rfl h)
          · have h1 := h; have h := h1.2.2 c
            have o5 := h1.1
            exact g3_bipush dX12_person_52 rfl (g3_ireturn dX12_person_54 rfl h)
set_option maxRecDepth 20000 in
set_option maxHeartbeats 200000 in
theorem sX11_about {E : E3} {Q : Q3} {M : M3} {x1 x2 : Int}
    (h : (-2147483648 ≤ x1 ∧ x1 ≤ 2147483647) ∧ ((x1 < 0 → (Q (some (vI (-2))) M)) ∧ (0 ≤ x1 → ((M 10 0 0 ≤ x1 → (Q (some (vI (-2))) M)) ∧ (x1 < M 10 0 0 → (((-2147483648 ≤ x2 ∧ x2 ≤ 2147483647) ∧ (-2147483648 ≤ (0 : Int) ∧ (0 : Int) ≤ 2147483647) ∧ (-2147483648 ≤ (7 : Int) ∧ (7 : Int) ≤ 2147483647)) ∧ (((0 ≤ x2 ∧ x2 ≤ 7) → ((-2147483648 ≤ x2 ∧ x2 ≤ 2147483647) ∧ ((x2 ≠ 7 → ((0 ≤ x1 ∧ x1 < 48) ∧ ((x2 = 0 → (Q (some (vI (M 13 x1 0))) M)) ∧ (¬(x2 = 0) → ((x2 = 1 → (Q (some (vI (M 13 x1 1))) M)) ∧ (¬(x2 = 1) → ((x2 = 2 → (Q (some (vI (M 13 x1 2))) M)) ∧ (¬(x2 = 2) → ((x2 = 3 → (Q (some (vI (M 13 x1 3))) M)) ∧ (¬(x2 = 3) → ((x2 = 4 → (Q (some (vI (M 13 x1 4))) M)) ∧ (¬(x2 = 4) → ((x2 = 5 → (Q (some (vI (M 13 x1 5))) M)) ∧ (¬(x2 = 5) → (Q (some (vI (M 13 x1 6))) M))))))))))))))) ∧ (x2 = 7 → (((0 ≤ M 14 0 0 ∧ M 14 0 0 ≤ 60) ∧ (-2147483648 ≤ x1 ∧ x1 ≤ 2147483647)) ∧ (Q (some (vI (cKnown M x1))) M)))))) ∧ (¬(0 ≤ x2 ∧ x2 ≤ 7) → (Q (some (vI (-2))) M))))))))) :
    C3 E YX11_about [vR 0 0, vI x1, vI x2] M Q := by
  refine c3_in rfl rfl (z3 rfl) (g3_rm fun hM => ?_)
  refine g3_aload_n 0 dX11_about_0 rfl rfl (g3_getR0 (t := 10) dX11_about_1 flX11_26 rfl (z3 rfl) (g3_iload_n 1 dX11_about_4 rfl rfl (g3_cV1 dX11_about_5 myX0_holds mlX11_93 (z3 rfl) ob_10 (z3 rfl) (z3 rfl) (c3_in rfl rfl (z3 rfl) (g3_iload_n 1 dX0_holds_0 rfl rfl (g3_if_lt (tgt := 16) dX0_holds_1 rfl h.1 (fun c => ?_) (fun c => ?_)))))))
  · have h1 := h; have h := h1.2.1 c
    have o1 := h1.1
    exact g3_iconst dX0_holds_16 (g3_zreturn dX0_holds_17 rfl (Or.inl rfl) (g3_r1 (g3_if_eq_T (tgt := 21) dX11_about_8 rfl (z3 rfl) (g3_bipush dX11_about_21 rfl (g3_ireturn dX11_about_23 rfl h)))))
  · have h1 := h; have h := h1.2.2 c
    have o1 := h1.1
    refine g3_iload_n 1 dX0_holds_4 rfl rfl (g3_aload_n 0 dX0_holds_5 rfl rfl (g3_getI (t := 0) dX0_holds_6 flX0_22 (z3 rfl) (z3 rfl) (g3_icmp_ge (tgt := 16) dX0_holds_9 rfl o1 (hM 10 0 0) (fun c => ?_) (fun c => ?_))))
    · have h1 := h; have h := h1.1 c
      exact g3_iconst dX0_holds_16 (g3_zreturn dX0_holds_17 rfl (Or.inl rfl) (g3_r1 (g3_if_eq_T (tgt := 21) dX11_about_8 rfl (z3 rfl) (g3_bipush dX11_about_21 rfl (g3_ireturn dX11_about_23 rfl h)))))
    · have h1 := h; have h := h1.2 c
      refine g3_iconst dX0_holds_12 (g3_goto (tgt := 17) dX0_holds_13 rfl (g3_zreturn dX0_holds_17 rfl (Or.inr rfl) (g3_r1 (g3_if_eq_F (tgt := 21) dX11_about_8 rfl (z3 rfl) (g3_iload_n 2 dX11_about_11 rfl rfl (g3_iconst dX11_about_12 (g3_bipush dX11_about_13 rfl (g3_cS3 dX11_about_15 myX11_within mlX11_78 (z3 rfl) (z3 rfl) (kX11_within h.1 (g3_r1 (g3_bool_ne (tgt := 24) dX11_about_18 rfl (fun c => ?_) (fun c => ?_))))))))))))
      · have h1 := h; have h := h1.2.1 c
        have o2 := h1.1
        refine g3_iload_n 2 dX11_about_24 rfl rfl (g3_bipush dX11_about_25 rfl (g3_icmp_ne (tgt := 41) dX11_about_27 rfl h.1 (z3 rfl) (fun c => ?_) (fun c => ?_)))
        · have h1 := h; have h := h1.2.1 c
          have o3 := h1.1
          refine g3_aload_n 0 dX11_about_41 rfl rfl (g3_getR0 (t := 10) dX11_about_42 flX11_26 rfl (z3 rfl) (g3_iload_n 1 dX11_about_45 rfl rfl (g3_cV1 dX11_about_46 myX0_at mlX11_108 (z3 rfl) ob_10 (z3 rfl) (z3 rfl) (c3_in rfl rfl (z3 rfl) (g3_aload_n 0 dX0_at_0 rfl rfl (g3_getR0 (t := 11) dX0_at_1 flX0_13 rfl (z3 rfl) (g3_iload_n 1 dX0_at_4 rfl rfl (g3_aald dX0_at_5 aq_11 h.1 (g3_areturn dX0_at_6 rfl (g3_r1 (g3_iload_n 2 dX11_about_49 rfl rfl (g3_cV1 dX11_about_50 myX8_tell mlX11_112 (z3 rfl) ob_13 h.1 (z3 rfl) (c3_in rfl rfl (z3 rfl) (g3_iload_n 1 dX8_tell_0 rfl rfl (?_)))))))))))))))
          have o4 := h.1
          have hx := o3
          have h := h.2
          refine g3_by (a := x2 = 0) (fun c => ?_) (fun cs0 => ?_)
          · have h := h.1 c
            refine g3_tin (n := 0) (tgt := 40) dX8_tell_1 c (z3 rfl) (z3 rfl) rfl rfl ?_
            exact g3_aload_n 0 dX8_tell_40 rfl rfl (g3_getI (t := 0) dX8_tell_41 flX8_19 (z3 rfl) o4 (g3_ireturn dX8_tell_44 rfl (g3_r1 (g3_ireturn dX11_about_53 rfl h))))
          have h := h.2 cs0
          refine g3_by (a := x2 = 1) (fun c => ?_) (fun cs1 => ?_)
          · have h := h.1 c
            refine g3_tin (n := 1) (tgt := 45) dX8_tell_1 c (z3 rfl) (z3 rfl) rfl rfl ?_
            exact g3_aload_n 0 dX8_tell_45 rfl rfl (g3_getI (t := 0) dX8_tell_46 flX8_31 (z3 rfl) o4 (g3_ireturn dX8_tell_49 rfl (g3_r1 (g3_ireturn dX11_about_53 rfl h))))
          have h := h.2 cs1
          refine g3_by (a := x2 = 2) (fun c => ?_) (fun cs2 => ?_)
          · have h := h.1 c
            refine g3_tin (n := 2) (tgt := 50) dX8_tell_1 c (z3 rfl) (z3 rfl) rfl rfl ?_
            exact g3_aload_n 0 dX8_tell_50 rfl rfl (g3_getI (t := 0) dX8_tell_51 flX8_22 (z3 rfl) o4 (g3_ireturn dX8_tell_54 rfl (g3_r1 (g3_ireturn dX11_about_53 rfl h))))
          have h := h.2 cs2
          refine g3_by (a := x2 = 3) (fun c => ?_) (fun cs3 => ?_)
          · have h := h.1 c
            refine g3_tin (n := 3) (tgt := 55) dX8_tell_1 c (z3 rfl) (z3 rfl) rfl rfl ?_
            exact g3_aload_n 0 dX8_tell_55 rfl rfl (g3_getI (t := 0) dX8_tell_56 flX8_34 (z3 rfl) o4 (g3_ireturn dX8_tell_59 rfl (g3_r1 (g3_ireturn dX11_about_53 rfl h))))
          have h := h.2 cs3
          refine g3_by (a := x2 = 4) (fun c => ?_) (fun cs4 => ?_)
          · have h := h.1 c
            refine g3_tin (n := 4) (tgt := 60) dX8_tell_1 c (z3 rfl) (z3 rfl) rfl rfl ?_
            exact g3_aload_n 0 dX8_tell_60 rfl rfl (g3_getI (t := 0) dX8_tell_61 flX8_37 (z3 rfl) o4 (g3_ireturn dX8_tell_64 rfl (g3_r1 (g3_ireturn dX11_about_53 rfl h))))
          have h := h.2 cs4
          refine g3_by (a := x2 = 5) (fun c => ?_) (fun cs5 => ?_)
          · have h := h.1 c
            refine g3_tin (n := 5) (tgt := 65) dX8_tell_1 c (z3 rfl) (z3 rfl) rfl rfl ?_
            exact g3_aload_n 0 dX8_tell_65 rfl rfl (g3_getI (t := 0) dX8_tell_66 flX8_9 (z3 rfl) o4 (g3_ireturn dX8_tell_69 rfl (g3_r1 (g3_ireturn dX11_about_53 rfl h))))
          have h := h.2 cs5
          refine g3_tout (tgt := 70) dX8_tell_1 hx (tout_0_5 cs0 cs1 cs2 cs3 cs4 cs5) rfl ?_
          exact g3_aload_n 0 dX8_tell_70 rfl rfl (g3_getI (t := 0) dX8_tell_71 flX8_40 (z3 rfl) o4 (g3_ireturn dX8_tell_74 rfl (g3_r1 (g3_ireturn dX11_about_53 rfl h))))
        · have h1 := h; have h := h1.2.2 c
          have o3 := h1.1
          exact g3_aload_n 0 dX11_about_30 rfl rfl (g3_getR0 (t := 14) dX11_about_31 flX11_35 rfl (z3 rfl) (g3_iload_n 1 dX11_about_34 rfl rfl (g3_cV1 dX11_about_35 myX2_knownOf mlX11_104 (z3 rfl) ob_14 (z3 rfl) (z3 rfl) (kX2_knownOf h.1 (g3_r1 (g3_goto (tgt := 53) dX11_about_38 rfl (g3_ireturn dX11_about_53 rfl h.2)))))))
      · have h1 := h; have h := h1.2.2 c
        have o2 := h1.1
        exact g3_bipush dX11_about_21 rfl (g3_ireturn dX11_about_23 rfl h)
set_option maxRecDepth 20000 in
set_option maxHeartbeats 200000 in
theorem sX12_about {E : E3} {Q : Q3} {M : M3} {x1 x2 : Int}
    (h : ((-2147483648 ≤ x1 ∧ x1 ≤ 2147483647) ∧ (-2147483648 ≤ (0 : Int) ∧ (0 : Int) ≤ 2147483647) ∧ (-2147483648 ≤ ((M 44 0 1) - 1) ∧ ((M 44 0 1) - 1) ≤ 2147483647)) ∧ ((¬(0 ≤ x1 ∧ x1 ≤ ((M 44 0 1) - 1)) → (Q (some (vI (-2))) M)) ∧ ((0 ≤ x1 ∧ x1 ≤ ((M 44 0 1) - 1)) → (((0 ≤ M 44 0 18 ∧ M 44 0 18 ≤ 60) ∧ (0 ≤ x1 ∧ x1 < 48) ∧ (-2147483648 ≤ x2 ∧ x2 ≤ 2147483647)) ∧ (Q (some (vI (mAb M x1 x2))) M))))) :
    C3 E YX12_about [vR 44 0, vI x1, vI x2] M Q := by
  refine c3_in rfl rfl (z3 rfl) (g3_rm fun hM => ?_)
  refine g3_aload_n 0 dX12_about_0 rfl rfl (g3_iload_n 1 dX12_about_1 rfl rfl (g3_cV1 dX12_about_2 myX12_isPerson mlX12_167 (z3 rfl) ob_44 (z3 rfl) (z3 rfl) (c3_in rfl rfl (z3 rfl) (g3_iload_n 1 dX12_isPerson_0 rfl rfl (g3_iconst dX12_isPerson_1 (g3_aload_n 0 dX12_isPerson_2 rfl rfl (g3_getI (t := 0) dX12_isPerson_3 flX12_148 (z3 rfl) (z3 rfl) (g3_iconst dX12_isPerson_6 (g3_isub dX12_isPerson_7 (g3_cS3 dX12_isPerson_8 myX12_in mlX12_144 (z3 rfl) (z3 rfl) (kX12_in h.1 (g3_r1 (g3_zreturn dX12_isPerson_11 rfl (bo3_01 _) (g3_r1 (g3_bool_eq (tgt := 17) dX12_about_5 rfl (fun c => ?_) (fun c => ?_))))))))))))))))
  · have h1 := h; have h := h1.2.1 c
    have o1 := h1.1
    exact g3_bipush dX12_about_17 rfl (g3_ireturn dX12_about_19 rfl h)
  · have h1 := h; have h := h1.2.2 c
    have o1 := h1.1
    exact g3_aload_n 0 dX12_about_8 rfl rfl (g3_iload_n 1 dX12_about_9 rfl rfl (g3_iload_n 2 dX12_about_10 rfl rfl (g3_cV2 dX12_about_11 myX12_aboutOf mlX12_170 (z3 rfl) ob_44 (z3 rfl) (z3 rfl) (kX12_aboutOf h.1 (g3_r1 (g3_goto (tgt := 19) dX12_about_14 rfl (g3_ireturn dX12_about_19 rfl h.2)))))))
set_option maxRecDepth 20000 in
set_option maxHeartbeats 200000 in
theorem sX11_type {E : E3} {Q : Q3} {M : M3} {x1 : Int}
    (h : ((-2147483648 ≤ x1 ∧ x1 ≤ 2147483647) ∧ (-2147483648 ≤ (0 : Int) ∧ (0 : Int) ≤ 2147483647) ∧ (-2147483648 ≤ (255 : Int) ∧ (255 : Int) ≤ 2147483647)) ∧ (((0 ≤ x1 ∧ x1 ≤ 255) → ((M 3 0 0 < 200 → ((200 ≤ M 3 0 0 → ((preParse M) ∧ (∀ (N1 : M3), RM3 N1 → (∀ q : Nat, q ∉ ([3, 5, 6, 7] : List Nat) → N1 q = M q) → (poParse M N1) → ((LwC N1 ∧ (0 ≤ N1 14 0 0 ∧ N1 14 0 0 ≤ 60) ∧ ∀ i : Int, 0 ≤ i → i < N1 14 0 0 → 0 ≤ N1 18 i 2 ∧ N1 18 i 2 ≤ 399) ∧ (∀ (N2 : M3), RM3 N2 → (∀ q : Nat, q ∉ ([3, 8, 9, 18] : List Nat) → N2 q = N1 q) → (∀ j : Int, j ∉ ([10] : List Int) → N2 3 0 j = N1 3 0 j) → (LwC N2 ∧ poWa N1 N2) → (Q (some (vI (N1 3 0 0))) N2)))))) ∧ (M 3 0 0 < 200 → ((0 ≤ M 3 0 0 ∧ M 3 0 0 < 200) ∧ ((-2147483648 ≤ x1 ∧ x1 ≤ 2147483647) ∧ ((-2147483648 ≤ (M 3 0 0) + 1 ∧ (M 3 0 0) + 1 ≤ 2147483647) ∧ ((preParse (up3 (up3 M 4 0 (M 3 0 0) x1) 3 0 0 ((M 3 0 0) + 1))) ∧ (∀ (N1 : M3), RM3 N1 → (∀ q : Nat, q ∉ ([3, 5, 6, 7] : List Nat) → N1 q = (up3 (up3 M 4 0 (M 3 0 0) x1) 3 0 0 ((M 3 0 0) + 1)) q) → (poParse (up3 (up3 M 4 0 (M 3 0 0) x1) 3 0 0 ((M 3 0 0) + 1)) N1) → ((LwC N1 ∧ (0 ≤ N1 14 0 0 ∧ N1 14 0 0 ≤ 60) ∧ ∀ i : Int, 0 ≤ i → i < N1 14 0 0 → 0 ≤ N1 18 i 2 ∧ N1 18 i 2 ≤ 399) ∧ (∀ (N2 : M3), RM3 N2 → (∀ q : Nat, q ∉ ([3, 8, 9, 18] : List Nat) → N2 q = N1 q) → (∀ j : Int, j ∉ ([10] : List Int) → N2 3 0 j = N1 3 0 j) → (LwC N2 ∧ poWa N1 N2) → (Q (some (vI (N1 3 0 0))) N2))))))))))) ∧ (200 ≤ M 3 0 0 → (Q (some (vI (-4))) M)))) ∧ (¬(0 ≤ x1 ∧ x1 ≤ 255) → (Q (some (vI (-2))) M)))) :
    C3 E YX11_type [vR 0 0, vI x1] M Q := by
  refine c3_in rfl rfl (z3 rfl) (g3_rm fun hM => ?_)
  refine g3_iload_n 1 dX11_type_0 rfl rfl (g3_iconst dX11_type_1 (g3_sipush dX11_type_2 rfl (g3_cS3 dX11_type_5 myX11_within mlX11_78 (z3 rfl) (z3 rfl) (kX11_within h.1 (g3_r1 (g3_bool_ne (tgt := 14) dX11_type_8 rfl (fun c => ?_) (fun c => ?_)))))))
  · have h1 := h; have h := h1.2.1 c
    have o1 := h1.1
    refine g3_aload_n 0 dX11_type_14 rfl rfl (g3_getR0 (t := 3) dX11_type_15 flX11_19 rfl (z3 rfl) (g3_cV0 dX11_type_18 myX4_isFull mlX11_137 (z3 rfl) ob_3 (z3 rfl) (z3 rfl) (c3_in rfl rfl (z3 rfl) (g3_aload_n 0 dX4_isFull_0 rfl rfl (g3_getI (t := 0) dX4_isFull_1 flX4_34 (z3 rfl) (z3 rfl) (g3_sipush dX4_isFull_4 rfl (g3_icmp_lt (tgt := 14) dX4_isFull_7 rfl (hM 3 0 0) (z3 rfl) (fun c => ?_) (fun c => ?_))))))))
    · have h1 := h; have h := h1.1 c
      refine g3_iconst dX4_isFull_14 (g3_zreturn dX4_isFull_15 rfl (Or.inl rfl) (g3_r1 (g3_if_eq_T (tgt := 27) dX11_type_21 rfl (z3 rfl) (g3_aload_n 0 dX11_type_27 rfl rfl (g3_getR0 (t := 3) dX11_type_28 flX11_19 rfl (z3 rfl) (g3_iload_n 1 dX11_type_31 rfl rfl (g3_cV1 dX11_type_32 myX4_append mlX11_138 (z3 rfl) ob_3 (z3 rfl) (z3 rfl) (c3_in rfl rfl (z3 rfl) (g3_aload_n 0 dX4_append_0 rfl rfl (g3_getI (t := 0) dX4_append_1 flX4_34 (z3 rfl) (z3 rfl) (g3_sipush dX4_append_4 rfl (g3_icmp_ge (tgt := 30) dX4_append_7 rfl (hM 3 0 0) (z3 rfl) (fun c => ?_) (fun c => ?_)))))))))))))
      · have h1 := h; have h := h1.1 c
        refine g3_aload_n 0 dX4_append_30 rfl rfl (g3_cV0 dX4_append_31 myX4_parse mlX4_37 (z3 rfl) ob_3 (z3 rfl) (z3 rfl) (kX4_parse h.1 (fun N1 hN1 hf1 hp1 => ?_)))
        have o2 := h.1
        have h := h.2 N1 hN1 hf1 hp1
        refine g3_r0 ?_
        refine g3_aload_n 0 dX4_append_34 rfl rfl (g3_getI (t := 0) dX4_append_35 flX4_34 (z3 rfl) (z3 rfl) (g3_ireturn dX4_append_38 rfl (g3_r1 (g3_istore_n (lv' := [(2, vI (N1 3 0 0)), (0, vR 0 0), (1, vI x1)]) dX11_type_35 rfl (z3 rfl) rfl (g3_aload_n 1 dX11_type_36 rfl rfl (g3_getR0 (t := 14) dX11_type_37 flX11_35 rfl (z3 rfl) (g3_cV0 dX11_type_40 myX2_weighAll mlX11_141 (z3 rfl) ob_14 (z3 rfl) (z3 rfl) (kX2_weighAll h.1 (fun N2 hN2 hf2 hs2 hp2 => ?_)))))))))
        have o3 := h.1
        have h := h.2 N2 hN2 hf2 hs2 hp2
        refine g3_r0 ?_
        exact g3_iload_n 0 dX11_type_43 rfl rfl (g3_ireturn dX11_type_44 rfl h)
      · have h1 := h; have h := h1.2 c
        refine g3_aload_n 0 dX4_append_10 rfl rfl (g3_getR0 (t := 4) dX4_append_11 flX4_11 rfl (z3 rfl) (g3_aload_n 0 dX4_append_14 rfl rfl (g3_getI (t := 0) dX4_append_15 flX4_34 (z3 rfl) (z3 rfl) (g3_iload_n 1 dX4_append_18 rfl rfl (g3_iast dX4_append_19 ar_4 (z3 rfl) h.1 h.2.1 (g3_aload_n 0 dX4_append_20 rfl rfl (g3_dup dX4_append_21 rfl (g3_getI (t := 0) dX4_append_22 flX4_34 (z3 rfl) (z3 rfl) (g3_val (up3_nr (by decide)) (g3_iconst dX4_append_25 (g3_iadd dX4_append_26 (g3_put dX4_append_27 fpX4_34 (Or.inl rfl) (z3 rfl) h.2.2.1 (g3_aload_n 0 dX4_append_30 rfl rfl (g3_cV0 dX4_append_31 myX4_parse mlX4_37 (z3 rfl) ob_3 (z3 rfl) (z3 rfl) (kX4_parse h.2.2.2.1 (fun N1 hN1 hf1 hp1 => ?_))))))))))))))))
        have o4 := h.1
        have o5 := h.2.1
        have o6 := h.2.2.1
        have o7 := h.2.2.2.1
        have h := h.2.2.2.2 N1 hN1 hf1 hp1
        refine g3_r0 ?_
        refine g3_aload_n 0 dX4_append_34 rfl rfl (g3_getI (t := 0) dX4_append_35 flX4_34 (z3 rfl) (z3 rfl) (g3_ireturn dX4_append_38 rfl (g3_r1 (g3_istore_n (lv' := [(2, vI (N1 3 0 0)), (0, vR 0 0), (1, vI x1)]) dX11_type_35 rfl (z3 rfl) rfl (g3_aload_n 1 dX11_type_36 rfl rfl (g3_getR0 (t := 14) dX11_type_37 flX11_35 rfl (z3 rfl) (g3_cV0 dX11_type_40 myX2_weighAll mlX11_141 (z3 rfl) ob_14 (z3 rfl) (z3 rfl) (kX2_weighAll h.1 (fun N2 hN2 hf2 hs2 hp2 => ?_)))))))))
        have o8 := h.1
        have h := h.2 N2 hN2 hf2 hs2 hp2
        refine g3_r0 ?_
        exact g3_iload_n 0 dX11_type_43 rfl rfl (g3_ireturn dX11_type_44 rfl h)
    · have h1 := h; have h := h1.2 c
      exact g3_iconst dX4_isFull_10 (g3_goto (tgt := 15) dX4_isFull_11 rfl (g3_zreturn dX4_isFull_15 rfl (Or.inr rfl) (g3_r1 (g3_if_eq_F (tgt := 27) dX11_type_21 rfl (z3 rfl) (g3_bipush dX11_type_24 rfl (g3_ireturn dX11_type_26 rfl h))))))
  · have h1 := h; have h := h1.2.2 c
    have o1 := h1.1
    exact g3_bipush dX11_type_11 rfl (g3_ireturn dX11_type_13 rfl h)
set_option maxRecDepth 20000 in
set_option maxHeartbeats 200000 in
theorem sX12_type {E : E3} {Q : Q3} {M : M3} {x1 : Int}
    (h : ((-2147483648 ≤ x1 ∧ x1 ≤ 2147483647) ∧ (-2147483648 ≤ (0 : Int) ∧ (0 : Int) ≤ 2147483647) ∧ (-2147483648 ≤ (255 : Int) ∧ (255 : Int) ≤ 2147483647)) ∧ (((0 ≤ x1 ∧ x1 ≤ 255) → ((M 44 0 9 ≠ 200 → ((0 ≤ M 44 0 9 ∧ M 44 0 9 < 200) ∧ ((-2147483648 ≤ x1 ∧ x1 ≤ 2147483647) ∧ ((-2147483648 ≤ (M 44 0 9) + 1 ∧ (M 44 0 9) + 1 ≤ 2147483647) ∧ (Q (some (vI ((M 44 0 9) + 1))) (up3 (up3 (up3 M 52 0 (M 44 0 9) x1) 44 0 9 ((M 44 0 9) + 1)) 44 0 11 0)))))) ∧ (M 44 0 9 = 200 → (Q (some (vI (-4))) M)))) ∧ (¬(0 ≤ x1 ∧ x1 ≤ 255) → (Q (some (vI (-2))) M)))) :
    C3 E YX12_type [vR 44 0, vI x1] M Q := by
  refine c3_in rfl rfl (z3 rfl) (g3_rm fun hM => ?_)
  refine g3_iload_n 1 dX12_type_0 rfl rfl (g3_iconst dX12_type_1 (g3_sipush dX12_type_2 rfl (g3_cS3 dX12_type_5 myX12_in mlX12_144 (z3 rfl) (z3 rfl) (kX12_in h.1 (g3_r1 (g3_bool_ne (tgt := 14) dX12_type_8 rfl (fun c => ?_) (fun c => ?_)))))))
  · have h1 := h; have h := h1.2.1 c
    have o1 := h1.1
    refine g3_aload_n 0 dX12_type_14 rfl rfl (g3_getI (t := 0) dX12_type_15 flX12_178 (z3 rfl) (z3 rfl) (g3_sipush dX12_type_18 rfl (g3_icmp_ne (tgt := 27) dX12_type_21 rfl (hM 44 0 9) (z3 rfl) (fun c => ?_) (fun c => ?_))))
    · have h1 := h; have h := h1.1 c
      exact g3_aload_n 0 dX12_type_27 rfl rfl (g3_getR0 (t := 52) dX12_type_28 flX12_31 rfl (z3 rfl) (g3_aload_n 0 dX12_type_31 rfl rfl (g3_getI (t := 0) dX12_type_32 flX12_178 (z3 rfl) (z3 rfl) (g3_iload_n 1 dX12_type_35 rfl rfl (g3_iast dX12_type_36 ar_52 (z3 rfl) h.1 h.2.1 (g3_aload_n 0 dX12_type_37 rfl rfl (g3_dup dX12_type_38 rfl (g3_getI (t := 0) dX12_type_39 flX12_178 (z3 rfl) (z3 rfl) (g3_val (up3_nr (by decide)) (g3_iconst dX12_type_42 (g3_iadd dX12_type_43 (g3_put dX12_type_44 fpX12_178 (Or.inl rfl) (z3 rfl) h.2.2.1 (g3_aload_n 0 dX12_type_47 rfl rfl (g3_iconst dX12_type_48 (g3_put dX12_type_49 fpX12_181 (Or.inr ⟨rfl, (Or.inl rfl)⟩) (z3 rfl) (z3 rfl) (g3_aload_n 0 dX12_type_52 rfl rfl (g3_getI (t := 0) dX12_type_53 flX12_178 (z3 rfl) (z3 rfl) (g3_val ((up3_nj (by decide)).trans (up3_eq)) (g3_ireturn dX12_type_56 rfl h.2.2.2)))))))))))))))))))
    · have h1 := h; have h := h1.2 c
      exact g3_bipush dX12_type_24 rfl (g3_ireturn dX12_type_26 rfl h)
  · have h1 := h; have h := h1.2.2 c
    have o1 := h1.1
    exact g3_bipush dX12_type_11 rfl (g3_ireturn dX12_type_13 rfl h)
set_option maxRecDepth 20000 in
set_option maxHeartbeats 200000 in
theorem sX11_wipe {E : E3} {Q : Q3} {M : M3}
    (h : (preParse (up3 M 3 0 0 0)) ∧ (∀ (N1 : M3), RM3 N1 → (∀ q : Nat, q ∉ ([3, 5, 6, 7] : List Nat) → N1 q = (up3 M 3 0 0 0) q) → (poParse (up3 M 3 0 0 0) N1) → ((LwC N1 ∧ (0 ≤ N1 14 0 0 ∧ N1 14 0 0 ≤ 60) ∧ ∀ i : Int, 0 ≤ i → i < N1 14 0 0 → 0 ≤ N1 18 i 2 ∧ N1 18 i 2 ≤ 399) ∧ (∀ (N2 : M3), RM3 N2 → (∀ q : Nat, q ∉ ([3, 8, 9, 18] : List Nat) → N2 q = N1 q) → (∀ j : Int, j ∉ ([10] : List Int) → N2 3 0 j = N1 3 0 j) → (LwC N2 ∧ poWa N1 N2) → (Q (some (vI (M 3 0 0))) N2))))) :
    C3 E YX11_wipe [vR 0 0] M Q := by
  refine c3_in rfl rfl (z3 rfl) (g3_rm fun hM => ?_)
  refine g3_aload_n 0 dX11_wipe_0 rfl rfl (g3_getR0 (t := 3) dX11_wipe_1 flX11_19 rfl (z3 rfl) (g3_cV0 dX11_wipe_4 myX4_clear mlX11_144 (z3 rfl) ob_3 (z3 rfl) (z3 rfl) (c3_in rfl rfl (z3 rfl) (g3_aload_n 0 dX4_clear_0 rfl rfl (g3_getI (t := 0) dX4_clear_1 flX4_34 (z3 rfl) (z3 rfl) (g3_istore_n (lv' := [(1, vI (M 3 0 0)), (0, vR 3 0)]) dX4_clear_4 rfl (z3 rfl) rfl (g3_aload_n 1 dX4_clear_5 rfl rfl (g3_iconst dX4_clear_6 (g3_put dX4_clear_7 fpX4_34 (Or.inl rfl) (z3 rfl) (z3 rfl) (g3_aload_n 1 dX4_clear_10 rfl rfl (g3_cV0 dX4_clear_11 myX4_parse mlX4_37 (z3 rfl) ob_3 (z3 rfl) (z3 rfl) (kX4_parse h.1 (fun N1 hN1 hf1 hp1 => ?_)))))))))))))
  have o1 := h.1
  have h := h.2 N1 hN1 hf1 hp1
  refine g3_r0 ?_
  refine g3_iload_n 0 dX4_clear_14 rfl rfl (g3_ireturn dX4_clear_15 rfl (g3_r1 (g3_istore_n (lv' := [(1, vI (M 3 0 0)), (0, vR 0 0)]) dX11_wipe_7 rfl (z3 rfl) rfl (g3_aload_n 1 dX11_wipe_8 rfl rfl (g3_getR0 (t := 14) dX11_wipe_9 flX11_35 rfl (z3 rfl) (g3_cV0 dX11_wipe_12 myX2_weighAll mlX11_141 (z3 rfl) ob_14 (z3 rfl) (z3 rfl) (kX2_weighAll h.1 (fun N2 hN2 hf2 hs2 hp2 => ?_))))))))
  have o2 := h.1
  have h := h.2 N2 hN2 hf2 hs2 hp2
  refine g3_r0 ?_
  exact g3_iload_n 0 dX11_wipe_15 rfl rfl (g3_ireturn dX11_wipe_16 rfl h)
set_option maxRecDepth 20000 in
set_option maxHeartbeats 200000 in
theorem sX12_wipe {E : E3} {Q : Q3} {M : M3}
    (h : Q (some (vI (M 44 0 9))) (up3 (up3 M 44 0 9 0) 44 0 11 0)) :
    C3 E YX12_wipe [vR 44 0] M Q := by
  refine c3_in rfl rfl (z3 rfl) (g3_rm fun hM => ?_)
  exact g3_aload_n 0 dX12_wipe_0 rfl rfl (g3_getI (t := 0) dX12_wipe_1 flX12_178 (z3 rfl) (z3 rfl) (g3_istore_n (lv' := [(1, vI (M 44 0 9)), (0, vR 44 0)]) dX12_wipe_4 rfl (z3 rfl) rfl (g3_aload_n 1 dX12_wipe_5 rfl rfl (g3_iconst dX12_wipe_6 (g3_put dX12_wipe_7 fpX12_178 (Or.inl rfl) (z3 rfl) (z3 rfl) (g3_aload_n 1 dX12_wipe_10 rfl rfl (g3_iconst dX12_wipe_11 (g3_put dX12_wipe_12 fpX12_181 (Or.inr ⟨rfl, (Or.inl rfl)⟩) (z3 rfl) (z3 rfl) (g3_iload_n 0 dX12_wipe_15 rfl rfl (g3_ireturn dX12_wipe_16 rfl h))))))))))
set_option maxRecDepth 20000 in
set_option maxHeartbeats 200000 in
theorem sX11_fault {E : E3} {Q : Q3} {M : M3}
    (h : Q (some (vI (M 3 0 1))) M) :
    C3 E YX11_fault [vR 0 0] M Q := by
  refine c3_in rfl rfl (z3 rfl) (g3_rm fun hM => ?_)
  exact g3_aload_n 0 dX11_fault_0 rfl rfl (g3_getR0 (t := 3) dX11_fault_1 flX11_19 rfl (z3 rfl) (g3_getI (t := 0) dX11_fault_4 flX11_148 (z3 rfl) (z3 rfl) (g3_ireturn dX11_fault_7 rfl h)))
set_option maxRecDepth 20000 in
set_option maxHeartbeats 200000 in
theorem sX12_fault {E : E3} {Q : Q3} {M : M3}
    (h : (RdC M) ∧ (∀ (N1 : M3), RM3 N1 → (∀ q : Nat, q ∉ ([44, 53, 54, 55] : List Nat) → N1 q = M q) → (∀ j : Int, j ∉ ([11, 12, 13, 17] : List Int) → N1 44 0 j = M 44 0 j) → (RdC N1 ∧ N1 44 0 11 = 1) → (Q (some (vI (N1 44 0 12))) N1))) :
    C3 E YX12_fault [vR 44 0] M Q := by
  refine c3_in rfl rfl (z3 rfl) (g3_rm fun hM => ?_)
  refine g3_aload_n 0 dX12_fault_0 rfl rfl (g3_cV0 dX12_fault_1 myX12_reads mlX12_204 (z3 rfl) ob_44 (z3 rfl) (z3 rfl) (kX12_reads h.1 (fun N1 hN1 hf1 hs1 hp1 => ?_)))
  have o1 := h.1
  have h := h.2 N1 hN1 hf1 hs1 hp1
  refine g3_r0 ?_
  exact g3_aload_n 0 dX12_fault_4 rfl rfl (g3_getI (t := 0) dX12_fault_5 flX12_188 (z3 rfl) (z3 rfl) (g3_ireturn dX12_fault_8 rfl h))
set_option maxRecDepth 20000 in
set_option maxHeartbeats 200000 in
theorem sX11_form {E : E3} {Q : Q3} {M : M3} {x1 x2 : Int}
    (h : (-2147483648 ≤ x1 ∧ x1 ≤ 2147483647) ∧ ((x1 < 0 → (Q (some (vI (-2))) M)) ∧ (0 ≤ x1 → ((M 10 0 0 ≤ x1 → (Q (some (vI (-2))) M)) ∧ (x1 < M 10 0 0 → (((-2147483648 ≤ x2 ∧ x2 ≤ 2147483647) ∧ (-2147483648 ≤ (0 : Int) ∧ (0 : Int) ≤ 2147483647) ∧ (-2147483648 ≤ (3 : Int) ∧ (3 : Int) ≤ 2147483647)) ∧ (((0 ≤ x2 ∧ x2 ≤ 3) → ((0 ≤ x2 ∧ x2 < 4) ∧ ((M 42 x2 0 ≠ (-1) → ((0 ≤ x1 ∧ x1 < 48) ∧ (((M 13 x1 5 = 0 ∨ M 13 x1 5 = 2) → ((M 14 0 0 < 60 → ((LwC M ∧ (0 ≤ M 14 0 0 ∧ M 14 0 0 < 60) ∧ (0 ≤ x1 ∧ x1 < 48) ∧ (0 ≤ x2 ∧ x2 < 4) ∧ (0 ≤ M 42 x2 1 ∧ M 42 x2 1 ≤ 40) ∧ (0 ≤ M 2 0 0 ∧ M 2 0 0 ≤ 399)) ∧ (∀ (N1 : M3), RM3 N1 → (∀ q : Nat, q ∉ ([0, 1, 2, 3, 4, 5, 6, 7, 8, 9, 10, 11, 12, 13, 14, 15, 16, 17, 18, 19, 20, 21, 22, 23, 24, 25, 26, 27, 28, 29, 30, 31, 32, 33, 34, 35, 36, 37, 38, 39, 40, 41, 42, 43, 44, 45, 46, 47, 48, 49, 50, 51, 52, 53, 54, 55, 56, 57, 58, 59, 60, 61, 62, 63, 64, 65, 66, 67, 68, 69, 70, 71, 72, 73, 74, 75, 76, 77, 78, 79, 80, 81, 82, 83, 84, 85, 86, 87, 88, 89] : List Nat) → N1 q = M q) → (LwC N1 ∧ Ec (hnM M x1 x2) N1) → (Q (some (vI (M 14 0 0))) N1)))) ∧ (60 ≤ M 14 0 0 → (Q (some (vI (-4))) M)))) ∧ (¬(M 13 x1 5 = 0 ∨ M 13 x1 5 = 2) → (Q (some (vI (-3))) M))))) ∧ (M 42 x2 0 = (-1) → (Q (some (vI ((-10) - 1))) (up3 M 0 0 9 1)))))) ∧ (¬(0 ≤ x2 ∧ x2 ≤ 3) → (Q (some (vI (-2))) M))))))))) :
    C3 E YX11_form [vR 0 0, vI x1, vI x2] M Q := by
  refine c3_in rfl rfl (z3 rfl) (g3_rm fun hM => ?_)
  refine g3_aload_n 0 dX11_form_0 rfl rfl (g3_getR0 (t := 10) dX11_form_1 flX11_26 rfl (z3 rfl) (g3_iload_n 1 dX11_form_4 rfl rfl (g3_cV1 dX11_form_5 myX0_holds mlX11_93 (z3 rfl) ob_10 (z3 rfl) (z3 rfl) (c3_in rfl rfl (z3 rfl) (g3_iload_n 1 dX0_holds_0 rfl rfl (g3_if_lt (tgt := 16) dX0_holds_1 rfl h.1 (fun c => ?_) (fun c => ?_)))))))
  · have h1 := h; have h := h1.2.1 c
    have o1 := h1.1
    exact g3_iconst dX0_holds_16 (g3_zreturn dX0_holds_17 rfl (Or.inl rfl) (g3_r1 (g3_if_eq_T (tgt := 18) dX11_form_8 rfl (z3 rfl) (g3_bipush dX11_form_18 rfl (g3_ireturn dX11_form_20 rfl h)))))
  · have h1 := h; have h := h1.2.2 c
    have o1 := h1.1
    refine g3_iload_n 1 dX0_holds_4 rfl rfl (g3_aload_n 0 dX0_holds_5 rfl rfl (g3_getI (t := 0) dX0_holds_6 flX0_22 (z3 rfl) (z3 rfl) (g3_icmp_ge (tgt := 16) dX0_holds_9 rfl o1 (hM 10 0 0) (fun c => ?_) (fun c => ?_))))
    · have h1 := h; have h := h1.1 c
      exact g3_iconst dX0_holds_16 (g3_zreturn dX0_holds_17 rfl (Or.inl rfl) (g3_r1 (g3_if_eq_T (tgt := 18) dX11_form_8 rfl (z3 rfl) (g3_bipush dX11_form_18 rfl (g3_ireturn dX11_form_20 rfl h)))))
    · have h1 := h; have h := h1.2 c
      refine g3_iconst dX0_holds_12 (g3_goto (tgt := 17) dX0_holds_13 rfl (g3_zreturn dX0_holds_17 rfl (Or.inr rfl) (g3_r1 (g3_if_eq_F (tgt := 18) dX11_form_8 rfl (z3 rfl) (g3_iload_n 2 dX11_form_11 rfl rfl (g3_cS1 dX11_form_12 myX11_isSheet mlX11_161 (z3 rfl) (z3 rfl) (c3_in rfl rfl (z3 rfl) (g3_iload_n 0 dX11_isSheet_0 rfl rfl (g3_iconst dX11_isSheet_1 (g3_iconst dX11_isSheet_2 (g3_cS3 dX11_isSheet_3 myX11_within mlX11_78 (z3 rfl) (z3 rfl) (kX11_within h.1 (g3_r1 (g3_zreturn dX11_isSheet_6 rfl (bo3_01 _) (g3_r1 (g3_bool_ne (tgt := 21) dX11_form_15 rfl (fun c => ?_) (fun c => ?_)))))))))))))))))
      · have h1 := h; have h := h1.2.1 c
        have o2 := h1.1
        refine g3_aload_n 0 dX11_form_21 rfl rfl (g3_getR0 (t := 1) dX11_form_22 flX11_73 rfl (z3 rfl) (g3_iload_n 2 dX11_form_25 rfl rfl (g3_aald dX11_form_26 aq_1 h.1 (g3_cV0 dX11_form_27 myX9_isLost mlX11_164 (z3 rfl) ob_42 h.1 (z3 rfl) (c3_in rfl rfl (z3 rfl) (g3_aload_n 0 dX9_isLost_0 rfl rfl (g3_getI (t := 0) dX9_isLost_1 flX9_9 (z3 rfl) h.1 (g3_iconst dX9_isLost_4 (g3_icmp_ne (tgt := 12) dX9_isLost_5 rfl (hM 42 x2 0) (z3 rfl) (fun c => ?_) (fun c => ?_))))))))))
        · have h1 := h; have h := h1.2.1 c
          have o3 := h1.1
          refine g3_iconst dX9_isLost_12 (g3_zreturn dX9_isLost_13 rfl (Or.inl rfl) (g3_r1 (g3_if_eq_T (tgt := 39) dX11_form_30 rfl (z3 rfl) (g3_aload_n 0 dX11_form_39 rfl rfl (g3_getR0 (t := 10) dX11_form_40 flX11_26 rfl (z3 rfl) (g3_iload_n 1 dX11_form_43 rfl rfl (g3_cV1 dX11_form_44 myX0_at mlX11_108 (z3 rfl) ob_10 (z3 rfl) (z3 rfl) (c3_in rfl rfl (z3 rfl) (g3_aload_n 0 dX0_at_0 rfl rfl (g3_getR0 (t := 11) dX0_at_1 flX0_13 rfl (z3 rfl) (g3_iload_n 1 dX0_at_4 rfl rfl (g3_aald dX0_at_5 aq_11 h.1 (g3_areturn dX0_at_6 rfl (g3_r1 (g3_cV0 dX11_form_47 myX8_waits mlX11_170 (z3 rfl) ob_13 h.1 (z3 rfl) (kX8_waits h.1 (g3_r1 (g3_bool_ne (tgt := 56) dX11_form_50 rfl (fun c => ?_) (fun c => ?_)))))))))))))))))))
          · have h1 := h; have h := h1.2.1 c
            have o4 := h1.1
            refine g3_aload_n 0 dX11_form_56 rfl rfl (g3_getR0 (t := 14) dX11_form_57 flX11_35 rfl (z3 rfl) (g3_cV0 dX11_form_60 myX2_isFull mlX11_173 (z3 rfl) ob_14 (z3 rfl) (z3 rfl) (c3_in rfl rfl (z3 rfl) (g3_aload_n 0 dX2_isFull_0 rfl rfl (g3_getI (t := 0) dX2_isFull_1 flX2_37 (z3 rfl) (z3 rfl) (g3_bipush dX2_isFull_4 rfl (g3_icmp_lt (tgt := 13) dX2_isFull_6 rfl (hM 14 0 0) (z3 rfl) (fun c => ?_) (fun c => ?_))))))))
            · have h1 := h; have h := h1.1 c
              refine g3_iconst dX2_isFull_13 (g3_zreturn dX2_isFull_14 rfl (Or.inl rfl) (g3_r1 (g3_if_eq_T (tgt := 69) dX11_form_63 rfl (z3 rfl) (g3_aload_n 0 dX11_form_69 rfl rfl (g3_getR0 (t := 14) dX11_form_70 flX11_35 rfl (z3 rfl) (g3_iload_n 1 dX11_form_73 rfl rfl (g3_aload_n 0 dX11_form_74 rfl rfl (g3_getR0 (t := 1) dX11_form_75 flX11_73 rfl (z3 rfl) (g3_iload_n 2 dX11_form_78 rfl rfl (g3_aald dX11_form_79 aq_1 o3 (g3_cV2 dX11_form_80 myX2_handIn mlX11_174 (z3 rfl) ob_14 (z3 rfl) (z3 rfl) (hX2_handIn h.1 (fun N1 hN1 hf1 hp1 => ?_)))))))))))))
              have o5 := h.1
              have h := h.2 N1 hN1 hf1 hp1
              refine g3_r1 ?_
              exact g3_ireturn dX11_form_83 rfl h
            · have h1 := h; have h := h1.2 c
              exact g3_iconst dX2_isFull_9 (g3_goto (tgt := 14) dX2_isFull_10 rfl (g3_zreturn dX2_isFull_14 rfl (Or.inr rfl) (g3_r1 (g3_if_eq_F (tgt := 69) dX11_form_63 rfl (z3 rfl) (g3_bipush dX11_form_66 rfl (g3_ireturn dX11_form_68 rfl h))))))
          · have h1 := h; have h := h1.2.2 c
            have o4 := h1.1
            exact g3_bipush dX11_form_53 rfl (g3_ireturn dX11_form_55 rfl h)
        · have h1 := h; have h := h1.2.2 c
          have o3 := h1.1
          exact g3_iconst dX9_isLost_8 (g3_goto (tgt := 13) dX9_isLost_9 rfl (g3_zreturn dX9_isLost_13 rfl (Or.inr rfl) (g3_r1 (g3_if_eq_F (tgt := 39) dX11_form_30 rfl (z3 rfl) (g3_aload_n 0 dX11_form_33 rfl rfl (g3_iconst dX11_form_34 (g3_cV1 dX11_form_35 myX11_found mlX11_167 (z3 rfl) ob_0 (z3 rfl) (z3 rfl) (c3_in rfl rfl (z3 rfl) (g3_aload_n 0 dX11_found_0 rfl rfl (g3_iload_n 1 dX11_found_1 rfl rfl (g3_put dX11_found_2 fpX11_341 (Or.inl rfl) (z3 rfl) (z3 rfl) (g3_bipush dX11_found_5 rfl (g3_iload_n 1 dX11_found_7 rfl rfl (g3_isub dX11_found_8 (g3_ireturn dX11_found_9 rfl (g3_r1 (g3_ireturn dX11_form_38 rfl h)))))))))))))))))
      · have h1 := h; have h := h1.2.2 c
        have o2 := h1.1
        exact g3_bipush dX11_form_18 rfl (g3_ireturn dX11_form_20 rfl h)
set_option maxRecDepth 20000 in
set_option maxHeartbeats 200000 in
theorem sX12_form {E : E3} {Q : Q3} {M : M3} {x1 x2 : Int}
    (h : ((-2147483648 ≤ x1 ∧ x1 ≤ 2147483647) ∧ (-2147483648 ≤ (0 : Int) ∧ (0 : Int) ≤ 2147483647) ∧ (-2147483648 ≤ ((M 44 0 1) - 1) ∧ ((M 44 0 1) - 1) ≤ 2147483647)) ∧ ((¬(0 ≤ x1 ∧ x1 ≤ ((M 44 0 1) - 1)) → (Q (some (vI (-2))) M)) ∧ ((0 ≤ x1 ∧ x1 ≤ ((M 44 0 1) - 1)) → (((-2147483648 ≤ x2 ∧ x2 ≤ 2147483647) ∧ (-2147483648 ≤ (0 : Int) ∧ (0 : Int) ≤ 2147483647) ∧ (-2147483648 ≤ (3 : Int) ∧ (3 : Int) ≤ 2147483647)) ∧ (((0 ≤ x2 ∧ x2 ≤ 3) → ((0 ≤ x2 ∧ x2 < 4) ∧ ((M 80 0 x2 ≠ 0 → ((0 ≤ x1 ∧ x1 < 48) ∧ (((M 50 0 x1 = 0 ∨ M 50 0 x1 = 2) → ((M 44 0 18 ≠ 60 → (G3 E YX12_form Q 58 [(0, vR 44 0), (1, vI x1), (2, vI x2), (3, vI 0)] [] M)) ∧ (M 44 0 18 = 60 → (Q (some (vI (-4))) M)))) ∧ (¬(M 50 0 x1 = 0 ∨ M 50 0 x1 = 2) → (Q (some (vI (-3))) M))))) ∧ (M 80 0 x2 = 0 → (Q (some (vI ((-10) - 1))) (up3 M 44 0 58 1)))))) ∧ (¬(0 ≤ x2 ∧ x2 ≤ 3) → (Q (some (vI (-2))) M))))))) :
    C3 E YX12_form [vR 44 0, vI x1, vI x2] M Q := by
  refine c3_in rfl rfl (z3 rfl) (g3_rm fun hM => ?_)
  refine g3_aload_n 0 dX12_form_0 rfl rfl (g3_iload_n 1 dX12_form_1 rfl rfl (g3_cV1 dX12_form_2 myX12_isPerson mlX12_167 (z3 rfl) ob_44 (z3 rfl) (z3 rfl) (c3_in rfl rfl (z3 rfl) (g3_iload_n 1 dX12_isPerson_0 rfl rfl (g3_iconst dX12_isPerson_1 (g3_aload_n 0 dX12_isPerson_2 rfl rfl (g3_getI (t := 0) dX12_isPerson_3 flX12_148 (z3 rfl) (z3 rfl) (g3_iconst dX12_isPerson_6 (g3_isub dX12_isPerson_7 (g3_cS3 dX12_isPerson_8 myX12_in mlX12_144 (z3 rfl) (z3 rfl) (kX12_in h.1 (g3_r1 (g3_zreturn dX12_isPerson_11 rfl (bo3_01 _) (g3_r1 (g3_bool_eq (tgt := 15) dX12_form_5 rfl (fun c => ?_) (fun c => ?_))))))))))))))))
  · have h1 := h; have h := h1.2.1 c
    have o1 := h1.1
    exact g3_bipush dX12_form_15 rfl (g3_ireturn dX12_form_17 rfl h)
  · have h1 := h; have h := h1.2.2 c
    have o1 := h1.1
    refine g3_iload_n 2 dX12_form_8 rfl rfl (g3_cS1 dX12_form_9 myX12_isSheet mlX12_223 (z3 rfl) (z3 rfl) (c3_in rfl rfl (z3 rfl) (g3_iload_n 0 dX12_isSheet_0 rfl rfl (g3_iconst dX12_isSheet_1 (g3_iconst dX12_isSheet_2 (g3_cS3 dX12_isSheet_3 myX12_in mlX12_144 (z3 rfl) (z3 rfl) (kX12_in h.1 (g3_r1 (g3_zreturn dX12_isSheet_6 rfl (bo3_01 _) (g3_r1 (g3_bool_ne (tgt := 18) dX12_form_12 rfl (fun c => ?_) (fun c => ?_))))))))))))
    · have h1 := h; have h := h1.2.1 c
      have o2 := h1.1
      refine g3_aload_n 0 dX12_form_18 rfl rfl (g3_getR0 (t := 80) dX12_form_19 flX12_129 rfl (z3 rfl) (g3_iload_n 2 dX12_form_22 rfl rfl (g3_zald dX12_form_23 ar_80 (z3 rfl) h.1 (g3_if_ne (tgt := 33) dX12_form_24 rfl (hM 80 0 x2) (fun c => ?_) (fun c => ?_)))))
      · have h1 := h; have h := h1.2.1 c
        have o3 := h1.1
        refine g3_aload_n 0 dX12_form_33 rfl rfl (g3_iload_n 1 dX12_form_34 rfl rfl (g3_cV1 dX12_form_35 myX12_isOff mlX12_229 (z3 rfl) ob_44 (z3 rfl) (z3 rfl) (kX12_isOff h.1 (g3_r1 (g3_bool_ne (tgt := 44) dX12_form_38 rfl (fun c => ?_) (fun c => ?_))))))
        · have h1 := h; have h := h1.2.1 c
          have o4 := h1.1
          refine g3_aload_n 0 dX12_form_44 rfl rfl (g3_getI (t := 0) dX12_form_45 flX12_161 (z3 rfl) (z3 rfl) (g3_bipush dX12_form_48 rfl (g3_icmp_ne (tgt := 56) dX12_form_50 rfl (hM 44 0 18) (z3 rfl) (fun c => ?_) (fun c => ?_))))
          · have h1 := h; have h := h1.1 c
            refine g3_iconst dX12_form_56 (g3_istore_n (lv' := [(3, vI 0), (0, vR 44 0), (1, vI x1), (2, vI x2)]) dX12_form_57 rfl (z3 rfl) rfl (g3_sub [1, 2, 3, 0] rfl h))
          · have h1 := h; have h := h1.2 c
            exact g3_bipush dX12_form_53 rfl (g3_ireturn dX12_form_55 rfl h)
        · have h1 := h; have h := h1.2.2 c
          have o4 := h1.1
          exact g3_bipush dX12_form_41 rfl (g3_ireturn dX12_form_43 rfl h)
      · have h1 := h; have h := h1.2.2 c
        have o3 := h1.1
        exact g3_aload_n 0 dX12_form_27 rfl rfl (g3_iconst dX12_form_28 (g3_cV1 dX12_form_29 myX12_meets mlX12_226 (z3 rfl) ob_44 (z3 rfl) (z3 rfl) (c3_in rfl rfl (z3 rfl) (g3_aload_n 0 dX12_meets_0 rfl rfl (g3_iload_n 1 dX12_meets_1 rfl rfl (g3_put dX12_meets_2 fpX12_344 (Or.inl rfl) (z3 rfl) (z3 rfl) (g3_bipush dX12_meets_5 rfl (g3_iload_n 1 dX12_meets_7 rfl rfl (g3_isub dX12_meets_8 (g3_ireturn dX12_meets_9 rfl (g3_r1 (g3_ireturn dX12_form_32 rfl h))))))))))))
    · have h1 := h; have h := h1.2.2 c
      have o2 := h1.1
      exact g3_bipush dX12_form_15 rfl (g3_ireturn dX12_form_17 rfl h)
set_option maxRecDepth 20000 in
set_option maxHeartbeats 200000 in
theorem sX12_form_58 {E : E3} {Q : Q3} {M : M3} {x1 : Int} {x2 : Int} {x3 : Int}
    (h : (-2147483648 ≤ x3 ∧ x3 ≤ 2147483647) ∧ ((20 ≤ x3 → ((0 ≤ M 44 0 18 ∧ M 44 0 18 < 60) ∧ ((-2147483648 ≤ x1 ∧ x1 ≤ 2147483647) ∧ ((0 ≤ x1 ∧ x1 < 48) ∧ ((-2147483648 ≤ (M 44 0 18) + 1 ∧ (M 44 0 18) + 1 ≤ 2147483647) ∧ (Q (some (vI (((M 44 0 18) + 1) - 1))) (up3 (up3 (up3 (up3 (up3 M 56 0 (M 44 0 18) x1) 57 0 (M 44 0 18) (M 44 0 0)) 58 0 (M 44 0 18) (M 47 0 x1)) 62 0 (M 44 0 18) 0) 44 0 18 ((M 44 0 18) + 1)))))))) ∧ (x3 < 20 → ((0 ≤ x2 ∧ x2 < 4) ∧ ((M 82 0 x2 ≤ x3 → ((0 ≤ (20 * (M 44 0 18)) + x3 ∧ (20 * (M 44 0 18)) + x3 < 1200) ∧ (G3 E YX12_form Q 58 [(0, vR 44 0), (1, vI x1), (2, vI x2), (3, vI (x3 + 1))] [] (up3 M 59 0 ((20 * (M 44 0 18)) + x3) (-1))))) ∧ (x3 < M 82 0 x2 → ((0 ≤ (40 * x2) + x3 ∧ (40 * x2) + x3 < 160) ∧ (((-2147483648 ≤ (M 83 0 ((40 * x2) + x3)) ∧ (M 83 0 ((40 * x2) + x3)) ≤ 2147483647) ∧ (-2147483648 ≤ (0 : Int) ∧ (0 : Int) ≤ 2147483647) ∧ (-2147483648 ≤ (99 : Int) ∧ (99 : Int) ≤ 2147483647)) ∧ ((¬(0 ≤ (M 83 0 ((40 * x2) + x3)) ∧ (M 83 0 ((40 * x2) + x3)) ≤ 99) → ((0 ≤ (20 * (M 44 0 18)) + x3 ∧ (20 * (M 44 0 18)) + x3 < 1200) ∧ (G3 E YX12_form Q 58 [(0, vR 44 0), (1, vI x1), (2, vI x2), (3, vI (x3 + 1))] [] (up3 M 59 0 ((20 * (M 44 0 18)) + x3) (-1))))) ∧ ((0 ≤ (M 83 0 ((40 * x2) + x3)) ∧ (M 83 0 ((40 * x2) + x3)) ≤ 99) → ((0 ≤ (20 * (M 44 0 18)) + x3 ∧ (20 * (M 44 0 18)) + x3 < 1200) ∧ (G3 E YX12_form Q 58 [(0, vR 44 0), (1, vI x1), (2, vI x2), (3, vI (x3 + 1))] [] (up3 M 59 0 ((20 * (M 44 0 18)) + x3) (M 83 0 ((40 * x2) + x3))))))))))))))) :
    G3 E YX12_form Q 58 [(0, vR 44 0), (1, vI x1), (2, vI x2), (3, vI x3)] [] M := by
  refine g3_rm fun hM => ?_
  refine g3_iload_n 3 dX12_form_58 rfl rfl (g3_bipush dX12_form_59 rfl (g3_icmp_ge (tgt := 141) dX12_form_61 rfl h.1 (z3 rfl) (fun c => ?_) (fun c => ?_)))
  · have h1 := h; have h := h1.2.1 c
    have o1 := h1.1
    exact g3_aload_n 0 dX12_form_141 rfl rfl (g3_getR0 (t := 56) dX12_form_142 flX12_43 rfl (z3 rfl) (g3_aload_n 0 dX12_form_145 rfl rfl (g3_getI (t := 0) dX12_form_146 flX12_161 (z3 rfl) (z3 rfl) (g3_iload_n 1 dX12_form_149 rfl rfl (g3_iast dX12_form_150 ar_56 (z3 rfl) h.1 h.2.1 (g3_aload_n 0 dX12_form_151 rfl rfl (g3_getR0 (t := 57) dX12_form_152 flX12_46 rfl (z3 rfl) (g3_aload_n 0 dX12_form_155 rfl rfl (g3_getI (t := 0) dX12_form_156 flX12_161 (z3 rfl) (z3 rfl) (g3_val (up3_nr (by decide)) (g3_aload_n 0 dX12_form_159 rfl rfl (g3_getI (t := 0) dX12_form_160 flX12_151 (z3 rfl) (z3 rfl) (g3_val (up3_nr (by decide)) (g3_iast dX12_form_163 ar_57 (z3 rfl) h.1 (hM 44 0 0) (g3_aload_n 0 dX12_form_164 rfl rfl (g3_getR0 (t := 58) dX12_form_165 flX12_49 rfl (z3 rfl) (g3_aload_n 0 dX12_form_168 rfl rfl (g3_getI (t := 0) dX12_form_169 flX12_161 (z3 rfl) (z3 rfl) (g3_val ((up3_nr (by decide)).trans (up3_nr (by decide))) (g3_aload_n 0 dX12_form_172 rfl rfl (g3_getR0 (t := 47) dX12_form_173 flX12_16 rfl (z3 rfl) (g3_iload_n 1 dX12_form_176 rfl rfl (g3_iald dX12_form_177 ar_47 (z3 rfl) h.2.2.1 (g3_val ((up3_nr (by decide)).trans (up3_nr (by decide))) (g3_iast dX12_form_178 ar_58 (z3 rfl) h.1 (hM 47 0 x1) (g3_aload_n 0 dX12_form_179 rfl rfl (g3_getR0 (t := 62) dX12_form_180 flX12_61 rfl (z3 rfl) (g3_aload_n 0 dX12_form_183 rfl rfl (g3_getI (t := 0) dX12_form_184 flX12_161 (z3 rfl) (z3 rfl) (g3_val (((up3_nr (by decide)).trans (up3_nr (by decide))).trans (up3_nr (by decide))) (g3_iconst dX12_form_187 (g3_iast dX12_form_188 ar_62 (z3 rfl) h.1 (z3 rfl) (g3_aload_n 0 dX12_form_189 rfl rfl (g3_dup dX12_form_190 rfl (g3_getI (t := 0) dX12_form_191 flX12_161 (z3 rfl) (z3 rfl) (g3_val ((((up3_nr (by decide)).trans (up3_nr (by decide))).trans (up3_nr (by decide))).trans (up3_nr (by decide))) (g3_iconst dX12_form_194 (g3_iadd dX12_form_195 (g3_put dX12_form_196 fpX12_161 (Or.inl rfl) (z3 rfl) h.2.2.2.1 (g3_aload_n 0 dX12_form_199 rfl rfl (g3_getI (t := 0) dX12_form_200 flX12_161 (z3 rfl) (z3 rfl) (g3_val (up3_eq) (g3_iconst dX12_form_203 (g3_isub dX12_form_204 (g3_ireturn dX12_form_205 rfl h.2.2.2.2)))))))))))))))))))))))))))))))))))))))))))))
  · have h1 := h; have h := h1.2.2 c
    have o1 := h1.1
    refine g3_iload_n 3 dX12_form_64 rfl rfl (g3_aload_n 0 dX12_form_65 rfl rfl (g3_getR0 (t := 82) dX12_form_66 flX12_135 rfl (z3 rfl) (g3_iload_n 2 dX12_form_69 rfl rfl (g3_iald dX12_form_70 ar_82 (z3 rfl) h.1 (g3_icmp_ge (tgt := 98) dX12_form_71 rfl o1 (hM 82 0 x2) (fun c => ?_) (fun c => ?_))))))
    · have h1 := h; have h := h1.2.1 c
      have o6 := h1.1
      refine g3_iconst dX12_form_98 (g3_istore (lv' := [(4, vI 0), (0, vR 44 0), (1, vI x1), (2, vI x2), (3, vI x3)]) dX12_form_99 (z3 rfl) rfl (g3_aload_n 1 dX12_form_101 rfl rfl (g3_getR0 (t := 59) dX12_form_102 flX12_52 rfl (z3 rfl) (g3_bipush dX12_form_105 rfl (g3_aload_n 1 dX12_form_107 rfl rfl (g3_getI (t := 0) dX12_form_108 flX12_161 (z3 rfl) (z3 rfl) (g3_imul dX12_form_111 (g3_iload_n 4 dX12_form_112 rfl rfl (g3_iadd dX12_form_113 (g3_iload 0 dX12_form_114 rfl (g3_if_eq_T (tgt := 133) dX12_form_116 rfl (z3 rfl) (g3_iconst dX12_form_133 (g3_iast dX12_form_134 ar_59 (z3 rfl) h.1 (z3 rfl) (g3_iinc (lv' := [(3, vI (x3 + 1)), (4, vI 0), (0, vR 44 0), (1, vI x1), (2, vI x2)]) 4 dX12_form_135 rfl (z3 rfl) rfl (g3_goto (tgt := 58) dX12_form_138 rfl (g3_sub [2, 3, 4, 0] rfl h.2))))))))))))))))
    · have h1 := h; have h := h1.2.2 c
      have o6 := h1.1
      refine g3_aload_n 0 dX12_form_74 rfl rfl (g3_getR0 (t := 83) dX12_form_75 flX12_138 rfl (z3 rfl) (g3_bipush dX12_form_78 rfl (g3_iload_n 2 dX12_form_80 rfl rfl (g3_imul dX12_form_81 (g3_iload_n 3 dX12_form_82 rfl rfl (g3_iadd dX12_form_83 (g3_iald dX12_form_84 ar_83 (z3 rfl) h.1 (g3_iconst dX12_form_85 (g3_bipush dX12_form_86 rfl (g3_cS3 dX12_form_88 myX12_in mlX12_144 (z3 rfl) (z3 rfl) (kX12_in h.2.1 (g3_r1 (g3_bool_eq (tgt := 98) dX12_form_91 rfl (fun c => ?_) (fun c => ?_))))))))))))))
      · have h1 := h; have h := h1.2.2.1 c
        have o8 := h1.1
        have o9 := h1.2.1
        refine g3_iconst dX12_form_98 (g3_istore (lv' := [(4, vI 0), (0, vR 44 0), (1, vI x1), (2, vI x2), (3, vI x3)]) dX12_form_99 (z3 rfl) rfl (g3_aload_n 1 dX12_form_101 rfl rfl (g3_getR0 (t := 59) dX12_form_102 flX12_52 rfl (z3 rfl) (g3_bipush dX12_form_105 rfl (g3_aload_n 1 dX12_form_107 rfl rfl (g3_getI (t := 0) dX12_form_108 flX12_161 (z3 rfl) (z3 rfl) (g3_imul dX12_form_111 (g3_iload_n 4 dX12_form_112 rfl rfl (g3_iadd dX12_form_113 (g3_iload 0 dX12_form_114 rfl (g3_if_eq_T (tgt := 133) dX12_form_116 rfl (z3 rfl) (g3_iconst dX12_form_133 (g3_iast dX12_form_134 ar_59 (z3 rfl) h.1 (z3 rfl) (g3_iinc (lv' := [(3, vI (x3 + 1)), (4, vI 0), (0, vR 44 0), (1, vI x1), (2, vI x2)]) 4 dX12_form_135 rfl (z3 rfl) rfl (g3_goto (tgt := 58) dX12_form_138 rfl (g3_sub [2, 3, 4, 0] rfl h.2))))))))))))))))
      · have h1 := h; have h := h1.2.2.2 c
        have o8 := h1.1
        have o9 := h1.2.1
        refine g3_iconst dX12_form_94 (g3_goto (tgt := 99) dX12_form_95 rfl (g3_istore (lv' := [(4, vI 1), (0, vR 44 0), (1, vI x1), (2, vI x2), (3, vI x3)]) dX12_form_99 (z3 rfl) rfl (g3_aload_n 1 dX12_form_101 rfl rfl (g3_getR0 (t := 59) dX12_form_102 flX12_52 rfl (z3 rfl) (g3_bipush dX12_form_105 rfl (g3_aload_n 1 dX12_form_107 rfl rfl (g3_getI (t := 0) dX12_form_108 flX12_161 (z3 rfl) (z3 rfl) (g3_imul dX12_form_111 (g3_iload_n 4 dX12_form_112 rfl rfl (g3_iadd dX12_form_113 (g3_iload 0 dX12_form_114 rfl (g3_if_eq_F (tgt := 133) dX12_form_116 rfl (z3 rfl) (g3_aload_n 1 dX12_form_119 rfl rfl (g3_getR0 (t := 83) dX12_form_120 flX12_138 rfl (z3 rfl) (g3_bipush dX12_form_123 rfl (g3_iload_n 3 dX12_form_125 rfl rfl (g3_imul dX12_form_126 (g3_iload_n 4 dX12_form_127 rfl rfl (g3_iadd dX12_form_128 (g3_iald dX12_form_129 ar_83 (z3 rfl) o8 (g3_goto (tgt := 134) dX12_form_130 rfl (g3_iast dX12_form_134 ar_59 (z3 rfl) h.1 (hM 83 0 ((40 * x2) + x3)) (g3_iinc (lv' := [(3, vI (x3 + 1)), (4, vI 1), (0, vR 44 0), (1, vI x1), (2, vI x2)]) 4 dX12_form_135 rfl (z3 rfl) rfl (g3_goto (tgt := 58) dX12_form_138 rfl (g3_sub [2, 3, 4, 0] rfl h.2)))))))))))))))))))))))))
set_option maxRecDepth 20000 in
set_option maxHeartbeats 200000 in
theorem sX11_formIs {E : E3} {Q : Q3} {M : M3} {x1 x2 : Int}
    (h : (-2147483648 ≤ x1 ∧ x1 ≤ 2147483647) ∧ ((x1 < 0 → (Q (some (vI (-2))) M)) ∧ (0 ≤ x1 → ((M 14 0 0 ≤ x1 → (Q (some (vI (-2))) M)) ∧ (x1 < M 14 0 0 → (((-2147483648 ≤ x2 ∧ x2 ≤ 2147483647) ∧ (-2147483648 ≤ (0 : Int) ∧ (0 : Int) ≤ 2147483647) ∧ (-2147483648 ≤ (11 : Int) ∧ (11 : Int) ≤ 2147483647)) ∧ (((0 ≤ x2 ∧ x2 ≤ 11) → ((0 ≤ x1 ∧ x1 < 60) ∧ (((M 18 x1 2 ≤ cTold M) → ((-2147483648 ≤ x2 ∧ x2 ≤ 2147483647) ∧ ((x2 = 0 → (Q (some (vI (M 18 x1 0))) M)) ∧ (¬(x2 = 0) → ((x2 = 1 → (Q (some (vI (M 18 x1 2))) M)) ∧ (¬(x2 = 1) → ((x2 = 2 → (Q (some (vI (M 18 x1 3))) M)) ∧ (¬(x2 = 2) → ((x2 = 3 → (Q (some (vI (M 18 x1 9))) M)) ∧ (¬(x2 = 3) → ((x2 = 4 → (Q (some (vI (cEmpty M x1))) M)) ∧ (¬(x2 = 4) → ((x2 = 5 → ((M 18 x1 10 ≠ 0 → (Q (some (vI 0)) M)) ∧ (M 18 x1 10 = 0 → (Q (some (vI 1)) M)))) ∧ (¬(x2 = 5) → ((x2 = 6 → ((¬(M 18 x1 5 ≠ -1 ∧ M 18 x1 5 ≤ cTold M) → (Q (some (vI (-1))) M)) ∧ ((M 18 x1 5 ≠ -1 ∧ M 18 x1 5 ≤ cTold M) → (Q (some (vI (M 18 x1 5))) M)))) ∧ (¬(x2 = 6) → ((x2 = 7 → ((¬(M 18 x1 5 ≠ -1 ∧ M 18 x1 5 ≤ cTold M) → (Q (some (vI (-1))) M)) ∧ ((M 18 x1 5 ≠ -1 ∧ M 18 x1 5 ≤ cTold M) → (Q (some (vI (M 18 x1 6))) M)))) ∧ (¬(x2 = 7) → ((x2 = 8 → (((M 18 x1 5 ≠ -1 ∧ M 18 x1 5 ≤ cTold M) → ((M 18 x1 7 = 0 → (Q (some (vI 2)) M)) ∧ (M 18 x1 7 ≠ 0 → (Q (some (vI 1)) M)))) ∧ (¬(M 18 x1 5 ≠ -1 ∧ M 18 x1 5 ≤ cTold M) → (Q (some (vI 0)) M)))) ∧ (¬(x2 = 8) → ((x2 = 9 → ((¬(M 18 x1 5 ≠ -1 ∧ M 18 x1 5 ≤ cTold M) → (Q (some (vI (-1))) M)) ∧ ((M 18 x1 5 ≠ -1 ∧ M 18 x1 5 ≤ cTold M) → (Q (some (vI (M 18 x1 8))) M)))) ∧ (¬(x2 = 9) → ((x2 = 10 → ((LwC M ∧ IA M ∧ 0 ≤ x1 ∧ x1 < M 44 0 18) ∧ (∀ (N1 : M3), RM3 N1 → Ec M N1 → (LwC N1) → (Q (some (vI (mTrue M x1))) N1)))) ∧ (¬(x2 = 10) → ((LwC M ∧ IB M ∧ 0 ≤ x1 ∧ x1 < M 44 0 18) ∧ (∀ (N1 : M3), RM3 N1 → Ec M N1 → (LwC N1) → ((¬(mLate M x1) → (Q (some (vI 0)) N1)) ∧ ((mLate M x1) → (Q (some (vI 1)) N1))))))))))))))))))))))))))))) ∧ (¬(M 18 x1 2 ≤ cTold M) → (Q (some (vI (-3))) M))))) ∧ (¬(0 ≤ x2 ∧ x2 ≤ 11) → (Q (some (vI (-2))) M))))))))) :
    C3 E YX11_formIs [vR 0 0, vI x1, vI x2] M Q := by
  refine c3_in rfl rfl (z3 rfl) (g3_rm fun hM => ?_)
  refine g3_aload_n 0 dX11_formIs_0 rfl rfl (g3_getR0 (t := 14) dX11_formIs_1 flX11_35 rfl (z3 rfl) (g3_iload_n 1 dX11_formIs_4 rfl rfl (g3_cV1 dX11_formIs_5 myX2_holds mlX11_178 (z3 rfl) ob_14 (z3 rfl) (z3 rfl) (c3_in rfl rfl (z3 rfl) (g3_iload_n 1 dX2_holds_0 rfl rfl (g3_if_lt (tgt := 16) dX2_holds_1 rfl h.1 (fun c => ?_) (fun c => ?_)))))))
  · have h1 := h; have h := h1.2.1 c
    have o1 := h1.1
    exact g3_iconst dX2_holds_16 (g3_zreturn dX2_holds_17 rfl (Or.inl rfl) (g3_r1 (g3_if_eq_T (tgt := 21) dX11_formIs_8 rfl (z3 rfl) (g3_bipush dX11_formIs_21 rfl (g3_ireturn dX11_formIs_23 rfl h)))))
  · have h1 := h; have h := h1.2.2 c
    have o1 := h1.1
    refine g3_iload_n 1 dX2_holds_4 rfl rfl (g3_aload_n 0 dX2_holds_5 rfl rfl (g3_getI (t := 0) dX2_holds_6 flX2_37 (z3 rfl) (z3 rfl) (g3_icmp_ge (tgt := 16) dX2_holds_9 rfl o1 (hM 14 0 0) (fun c => ?_) (fun c => ?_))))
    · have h1 := h; have h := h1.1 c
      exact g3_iconst dX2_holds_16 (g3_zreturn dX2_holds_17 rfl (Or.inl rfl) (g3_r1 (g3_if_eq_T (tgt := 21) dX11_formIs_8 rfl (z3 rfl) (g3_bipush dX11_formIs_21 rfl (g3_ireturn dX11_formIs_23 rfl h)))))
    · have h1 := h; have h := h1.2 c
      refine g3_iconst dX2_holds_12 (g3_goto (tgt := 17) dX2_holds_13 rfl (g3_zreturn dX2_holds_17 rfl (Or.inr rfl) (g3_r1 (g3_if_eq_F (tgt := 21) dX11_formIs_8 rfl (z3 rfl) (g3_iload_n 2 dX11_formIs_11 rfl rfl (g3_iconst dX11_formIs_12 (g3_bipush dX11_formIs_13 rfl (g3_cS3 dX11_formIs_15 myX11_within mlX11_78 (z3 rfl) (z3 rfl) (kX11_within h.1 (g3_r1 (g3_bool_ne (tgt := 24) dX11_formIs_18 rfl (fun c => ?_) (fun c => ?_))))))))))))
      · have h1 := h; have h := h1.2.1 c
        have o2 := h1.1
        refine g3_aload_n 0 dX11_formIs_24 rfl rfl (g3_getR0 (t := 14) dX11_formIs_25 flX11_35 rfl (z3 rfl) (g3_iload_n 1 dX11_formIs_28 rfl rfl (g3_cV1 dX11_formIs_29 myX2_isKnown mlX11_186 (z3 rfl) ob_14 (z3 rfl) (z3 rfl) (kX2_isKnown h.1 (g3_r1 (g3_bool_ne (tgt := 38) dX11_formIs_32 rfl (fun c => ?_) (fun c => ?_)))))))
        · have h1 := h; have h := h1.2.1 c
          have o3 := h1.1
          refine g3_aload_n 0 dX11_formIs_38 rfl rfl (g3_getR0 (t := 14) dX11_formIs_39 flX11_35 rfl (z3 rfl) (g3_iload_n 1 dX11_formIs_42 rfl rfl (g3_iload_n 2 dX11_formIs_43 rfl rfl (g3_cV2 dX11_formIs_44 myX2_tell mlX11_189 (z3 rfl) ob_14 (z3 rfl) (z3 rfl) (c3_in rfl rfl (z3 rfl) (g3_aload_n 0 dX2_tell_0 rfl rfl (g3_getR0 (t := 15) dX2_tell_1 flX2_13 rfl (z3 rfl) (g3_iload_n 1 dX2_tell_4 rfl rfl (g3_aald dX2_tell_5 aq_15 o3 (g3_astore_n (lv' := [(3, vR 18 x1), (0, vR 14 0), (1, vI x1), (2, vI x2)]) dX2_tell_6 rfl (z3 rfl) rfl (g3_aload_n 1 dX2_tell_7 rfl rfl (g3_aload_n 0 dX2_tell_8 rfl rfl (g3_cV1 dX2_tell_9 myX2_isRead mlX2_122 (z3 rfl) ob_14 (z3 rfl) (z3 rfl) (kX2_isRead o3 (g3_r1 (g3_istore (lv' := [(4, vI (bo3 (M 18 x1 5 ≠ -1 ∧ M 18 x1 5 ≤ cTold M))), (3, vR 18 x1), (0, vR 14 0), (1, vI x1), (2, vI x2)]) dX2_tell_12 (z3 rfl) rfl (g3_iload_n 4 dX2_tell_14 rfl rfl (?_))))))))))))))))))
          have o4 := h.1
          have hx := h.1
          have h := h.2
          refine g3_by (a := x2 = 0) (fun c => ?_) (fun cs0 => ?_)
          · have h := h.1 c
            refine g3_tin (n := 0) (tgt := 72) dX2_tell_15 c (z3 rfl) (z3 rfl) rfl rfl ?_
            exact g3_aload_n 1 dX2_tell_72 rfl rfl (g3_getI (t := 0) dX2_tell_73 flX2_41 (z3 rfl) o3 (g3_ireturn dX2_tell_76 rfl (g3_r1 (g3_ireturn dX11_formIs_47 rfl h))))
          have h := h.2 cs0
          refine g3_by (a := x2 = 1) (fun c => ?_) (fun cs1 => ?_)
          · have h := h.1 c
            refine g3_tin (n := 1) (tgt := 77) dX2_tell_15 c (z3 rfl) (z3 rfl) rfl rfl ?_
            exact g3_aload_n 1 dX2_tell_77 rfl rfl (g3_getI (t := 0) dX2_tell_78 flX2_65 (z3 rfl) o3 (g3_ireturn dX2_tell_81 rfl (g3_r1 (g3_ireturn dX11_formIs_47 rfl h))))
          have h := h.2 cs1
          refine g3_by (a := x2 = 2) (fun c => ?_) (fun cs2 => ?_)
          · have h := h.1 c
            refine g3_tin (n := 2) (tgt := 82) dX2_tell_15 c (z3 rfl) (z3 rfl) rfl rfl ?_
            exact g3_aload_n 1 dX2_tell_82 rfl rfl (g3_getI (t := 0) dX2_tell_83 flX2_59 (z3 rfl) o3 (g3_ireturn dX2_tell_86 rfl (g3_r1 (g3_ireturn dX11_formIs_47 rfl h))))
          have h := h.2 cs2
          refine g3_by (a := x2 = 3) (fun c => ?_) (fun cs3 => ?_)
          · have h := h.1 c
            refine g3_tin (n := 3) (tgt := 87) dX2_tell_15 c (z3 rfl) (z3 rfl) rfl rfl ?_
            exact g3_aload_n 1 dX2_tell_87 rfl rfl (g3_getI (t := 0) dX2_tell_88 flX2_126 (z3 rfl) o3 (g3_ireturn dX2_tell_91 rfl (g3_r1 (g3_ireturn dX11_formIs_47 rfl h))))
          have h := h.2 cs3
          refine g3_by (a := x2 = 4) (fun c => ?_) (fun cs4 => ?_)
          · have h := h.1 c
            refine g3_tin (n := 4) (tgt := 92) dX2_tell_15 c (z3 rfl) (z3 rfl) rfl rfl ?_
            exact g3_aload_n 1 dX2_tell_92 rfl rfl (g3_cS1 dX2_tell_93 myX2_emptyOnes mlX2_129 (z3 rfl) (z3 rfl) (kX2_emptyOnes o3 (g3_r1 (g3_ireturn dX2_tell_96 rfl (g3_r1 (g3_ireturn dX11_formIs_47 rfl h))))))
          have h := h.2 cs4
          refine g3_by (a := x2 = 5) (fun c => ?_) (fun cs5 => ?_)
          · have h := h.1 c
            refine g3_tin (n := 5) (tgt := 97) dX2_tell_15 c (z3 rfl) (z3 rfl) rfl rfl ?_
            refine g3_aload_n 1 dX2_tell_97 rfl rfl (g3_cV0 dX2_tell_98 myX3_isByText mlX2_111 (z3 rfl) ob_18 o3 (z3 rfl) (c3_in rfl rfl (z3 rfl) (g3_aload_n 0 dX3_isByText_0 rfl rfl (g3_getI (t := 0) dX3_isByText_1 flX3_15 (z3 rfl) o3 (g3_if_ne (tgt := 11) dX3_isByText_4 rfl (hM 18 x1 10) (fun c => ?_) (fun c => ?_))))))
            · have h1 := h; have h := h1.1 c
              exact g3_iconst dX3_isByText_11 (g3_zreturn dX3_isByText_12 rfl (Or.inl rfl) (g3_r1 (g3_if_eq_T (tgt := 108) dX2_tell_101 rfl (z3 rfl) (g3_iconst dX2_tell_108 (g3_ireturn dX2_tell_109 rfl (g3_r1 (g3_ireturn dX11_formIs_47 rfl h)))))))
            · have h1 := h; have h := h1.2 c
              exact g3_iconst dX3_isByText_7 (g3_goto (tgt := 12) dX3_isByText_8 rfl (g3_zreturn dX3_isByText_12 rfl (Or.inr rfl) (g3_r1 (g3_if_eq_F (tgt := 108) dX2_tell_101 rfl (z3 rfl) (g3_iconst dX2_tell_104 (g3_goto (tgt := 109) dX2_tell_105 rfl (g3_ireturn dX2_tell_109 rfl (g3_r1 (g3_ireturn dX11_formIs_47 rfl h)))))))))
          have h := h.2 cs5
          refine g3_by (a := x2 = 6) (fun c => ?_) (fun cs6 => ?_)
          · have h := h.1 c
            refine g3_tin (n := 6) (tgt := 110) dX2_tell_15 c (z3 rfl) (z3 rfl) rfl rfl ?_
            refine g3_iload 0 dX2_tell_110 rfl (g3_bool_eq (tgt := 122) dX2_tell_112 rfl (fun c => ?_) (fun c => ?_))
            · have h1 := h; have h := h1.1 c
              exact g3_iconst dX2_tell_122 (g3_ireturn dX2_tell_123 rfl (g3_r1 (g3_ireturn dX11_formIs_47 rfl h)))
            · have h1 := h; have h := h1.2 c
              exact g3_aload_n 1 dX2_tell_115 rfl rfl (g3_getI (t := 0) dX2_tell_116 flX2_68 (z3 rfl) o3 (g3_goto (tgt := 123) dX2_tell_119 rfl (g3_ireturn dX2_tell_123 rfl (g3_r1 (g3_ireturn dX11_formIs_47 rfl h)))))
          have h := h.2 cs6
          refine g3_by (a := x2 = 7) (fun c => ?_) (fun cs7 => ?_)
          · have h := h.1 c
            refine g3_tin (n := 7) (tgt := 124) dX2_tell_15 c (z3 rfl) (z3 rfl) rfl rfl ?_
            refine g3_iload 0 dX2_tell_124 rfl (g3_bool_eq (tgt := 136) dX2_tell_126 rfl (fun c => ?_) (fun c => ?_))
            · have h1 := h; have h := h1.1 c
              exact g3_iconst dX2_tell_136 (g3_ireturn dX2_tell_137 rfl (g3_r1 (g3_ireturn dX11_formIs_47 rfl h)))
            · have h1 := h; have h := h1.2 c
              exact g3_aload_n 1 dX2_tell_129 rfl rfl (g3_getI (t := 0) dX2_tell_130 flX2_71 (z3 rfl) o3 (g3_goto (tgt := 137) dX2_tell_133 rfl (g3_ireturn dX2_tell_137 rfl (g3_r1 (g3_ireturn dX11_formIs_47 rfl h)))))
          have h := h.2 cs7
          refine g3_by (a := x2 = 8) (fun c => ?_) (fun cs8 => ?_)
          · have h := h.1 c
            refine g3_tin (n := 8) (tgt := 138) dX2_tell_15 c (z3 rfl) (z3 rfl) rfl rfl ?_
            refine g3_aload_n 2 dX2_tell_138 rfl rfl (g3_aload_n 1 dX2_tell_139 rfl rfl (g3_cV1 dX2_tell_140 myX2_outcome mlX2_133 (z3 rfl) ob_14 (z3 rfl) (z3 rfl) (c3_in rfl rfl (z3 rfl) (g3_aload_n 0 dX2_outcome_0 rfl rfl (g3_aload_n 1 dX2_outcome_1 rfl rfl (g3_cV1 dX2_outcome_2 myX2_isRead mlX2_122 (z3 rfl) ob_14 (z3 rfl) (z3 rfl) (kX2_isRead o3 (g3_r1 (g3_bool_ne (tgt := 10) dX2_outcome_5 rfl (fun c => ?_) (fun c => ?_))))))))))
            · have h1 := h; have h := h1.1 c
              refine g3_aload_n 1 dX2_outcome_10 rfl rfl (g3_getI (t := 0) dX2_outcome_11 flX2_77 (z3 rfl) o3 (g3_if_eq (tgt := 21) dX2_outcome_14 rfl (hM 18 x1 7) (fun c => ?_) (fun c => ?_)))
              · have h1 := h; have h := h1.1 c
                exact g3_iconst dX2_outcome_21 (g3_ireturn dX2_outcome_22 rfl (g3_r1 (g3_ireturn dX2_tell_143 rfl (g3_r1 (g3_ireturn dX11_formIs_47 rfl h)))))
              · have h1 := h; have h := h1.2 c
                exact g3_iconst dX2_outcome_17 (g3_goto (tgt := 22) dX2_outcome_18 rfl (g3_ireturn dX2_outcome_22 rfl (g3_r1 (g3_ireturn dX2_tell_143 rfl (g3_r1 (g3_ireturn dX11_formIs_47 rfl h))))))
            · have h1 := h; have h := h1.2 c
              exact g3_iconst dX2_outcome_8 (g3_ireturn dX2_outcome_9 rfl (g3_r1 (g3_ireturn dX2_tell_143 rfl (g3_r1 (g3_ireturn dX11_formIs_47 rfl h)))))
          have h := h.2 cs8
          refine g3_by (a := x2 = 9) (fun c => ?_) (fun cs9 => ?_)
          · have h := h.1 c
            refine g3_tin (n := 9) (tgt := 144) dX2_tell_15 c (z3 rfl) (z3 rfl) rfl rfl ?_
            refine g3_iload 0 dX2_tell_144 rfl (g3_bool_eq (tgt := 156) dX2_tell_146 rfl (fun c => ?_) (fun c => ?_))
            · have h1 := h; have h := h1.1 c
              exact g3_iconst dX2_tell_156 (g3_ireturn dX2_tell_157 rfl (g3_r1 (g3_ireturn dX11_formIs_47 rfl h)))
            · have h1 := h; have h := h1.2 c
              exact g3_aload_n 1 dX2_tell_149 rfl rfl (g3_getI (t := 0) dX2_tell_150 flX2_74 (z3 rfl) o3 (g3_goto (tgt := 157) dX2_tell_153 rfl (g3_ireturn dX2_tell_157 rfl (g3_r1 (g3_ireturn dX11_formIs_47 rfl h)))))
          have h := h.2 cs9
          refine g3_by (a := x2 = 10) (fun c => ?_) (fun cs10 => ?_)
          · have h := h.1 c
            refine g3_tin (n := 10) (tgt := 158) dX2_tell_15 c (z3 rfl) (z3 rfl) rfl rfl ?_
            refine g3_aload_n 2 dX2_tell_158 rfl rfl (g3_aload_n 1 dX2_tell_159 rfl rfl (g3_cV1 dX2_tell_160 myX2_trueReasons mlX2_136 (z3 rfl) ob_14 (z3 rfl) (z3 rfl) (eX2_trueReasons Ec.rf h.1 (fun N1 hN1 he1 hp1 => ?_))))
            have o5 := h.1
            have h := h.2 N1 hN1 he1 hp1
            refine g3_r1 ?_
            exact g3_ireturn dX2_tell_163 rfl (g3_r1 (g3_ireturn dX11_formIs_47 rfl h))
          have h := h.2 cs10
          refine g3_tout (tgt := 164) dX2_tell_15 hx (tout_0_10 cs0 cs1 cs2 cs3 cs4 cs5 cs6 cs7 cs8 cs9 cs10) rfl ?_
          refine g3_aload_n 2 dX2_tell_164 rfl rfl (g3_aload_n 1 dX2_tell_165 rfl rfl (g3_cV1 dX2_tell_166 myX2_isLate mlX2_139 (z3 rfl) ob_14 (z3 rfl) (z3 rfl) (eX2_isLate Ec.rf h.1 (fun N1 hN1 he1 hp1 => ?_))))
          have o6 := h.1
          have h := h.2 N1 hN1 he1 hp1
          refine g3_r1 ?_
          refine g3_bool_eq (tgt := 176) dX2_tell_169 rfl (fun c => ?_) (fun c => ?_)
          · have h1 := h; have h := h1.1 c
            exact g3_iconst dX2_tell_176 (g3_ireturn dX2_tell_177 rfl (g3_r1 (g3_ireturn dX11_formIs_47 rfl h)))
          · have h1 := h; have h := h1.2 c
            exact g3_iconst dX2_tell_172 (g3_goto (tgt := 177) dX2_tell_173 rfl (g3_ireturn dX2_tell_177 rfl (g3_r1 (g3_ireturn dX11_formIs_47 rfl h))))
        · have h1 := h; have h := h1.2.2 c
          have o3 := h1.1
          exact g3_bipush dX11_formIs_35 rfl (g3_ireturn dX11_formIs_37 rfl h)
      · have h1 := h; have h := h1.2.2 c
        have o2 := h1.1
        exact g3_bipush dX11_formIs_21 rfl (g3_ireturn dX11_formIs_23 rfl h)
set_option maxRecDepth 20000 in
set_option maxHeartbeats 200000 in
theorem sX12_formIs {E : E3} {Q : Q3} {M : M3} {x1 x2 : Int}
    (h : ((-2147483648 ≤ x1 ∧ x1 ≤ 2147483647) ∧ (-2147483648 ≤ (0 : Int) ∧ (0 : Int) ≤ 2147483647) ∧ (-2147483648 ≤ ((M 44 0 18) - 1) ∧ ((M 44 0 18) - 1) ≤ 2147483647)) ∧ ((¬(0 ≤ x1 ∧ x1 ≤ ((M 44 0 18) - 1)) → (Q (some (vI (-2))) M)) ∧ ((0 ≤ x1 ∧ x1 ≤ ((M 44 0 18) - 1)) → (((-2147483648 ≤ x2 ∧ x2 ≤ 2147483647) ∧ (-2147483648 ≤ (0 : Int) ∧ (0 : Int) ≤ 2147483647) ∧ (-2147483648 ≤ (11 : Int) ∧ (11 : Int) ≤ 2147483647)) ∧ (((0 ≤ x2 ∧ x2 ≤ 11) → ((0 ≤ x1 ∧ x1 < 60) ∧ ((¬(M 57 0 x1 ≤ mNow M) → (Q (some (vI (-3))) M)) ∧ ((M 57 0 x1 ≤ mNow M) → ((RdC M ∧ okR M x1 ∧ (-2147483648 ≤ x2 ∧ x2 ≤ 2147483647)) ∧ (∀ (N1 : M3), RM3 N1 → Em M N1 → (RdC N1) → (Q (some (vI (mFo M x1 x2))) N1))))))) ∧ (¬(0 ≤ x2 ∧ x2 ≤ 11) → (Q (some (vI (-2))) M))))))) :
    C3 E YX12_formIs [vR 44 0, vI x1, vI x2] M Q := by
  refine c3_in rfl rfl (z3 rfl) (g3_rm fun hM => ?_)
  refine g3_iload_n 1 dX12_formIs_0 rfl rfl (g3_iconst dX12_formIs_1 (g3_aload_n 0 dX12_formIs_2 rfl rfl (g3_getI (t := 0) dX12_formIs_3 flX12_161 (z3 rfl) (z3 rfl) (g3_iconst dX12_formIs_6 (g3_isub dX12_formIs_7 (g3_cS3 dX12_formIs_8 myX12_in mlX12_144 (z3 rfl) (z3 rfl) (kX12_in h.1 (g3_r1 (g3_bool_eq (tgt := 24) dX12_formIs_11 rfl (fun c => ?_) (fun c => ?_))))))))))
  · have h1 := h; have h := h1.2.1 c
    have o1 := h1.1
    exact g3_bipush dX12_formIs_24 rfl (g3_ireturn dX12_formIs_26 rfl h)
  · have h1 := h; have h := h1.2.2 c
    have o1 := h1.1
    refine g3_iload_n 2 dX12_formIs_14 rfl rfl (g3_iconst dX12_formIs_15 (g3_bipush dX12_formIs_16 rfl (g3_cS3 dX12_formIs_18 myX12_in mlX12_144 (z3 rfl) (z3 rfl) (kX12_in h.1 (g3_r1 (g3_bool_ne (tgt := 27) dX12_formIs_21 rfl (fun c => ?_) (fun c => ?_)))))))
    · have h1 := h; have h := h1.2.1 c
      have o2 := h1.1
      refine g3_aload_n 0 dX12_formIs_27 rfl rfl (g3_iload_n 1 dX12_formIs_28 rfl rfl (g3_cV1 dX12_formIs_29 myX12_isKnown mlX12_164 (z3 rfl) ob_44 (z3 rfl) (z3 rfl) (kX12_isKnown h.1 (g3_r1 (g3_bool_eq (tgt := 44) dX12_formIs_32 rfl (fun c => ?_) (fun c => ?_))))))
      · have h1 := h; have h := h1.2.1 c
        have o3 := h1.1
        exact g3_bipush dX12_formIs_44 rfl (g3_ireturn dX12_formIs_46 rfl h)
      · have h1 := h; have h := h1.2.2 c
        have o3 := h1.1
        refine g3_aload_n 0 dX12_formIs_35 rfl rfl (g3_iload_n 1 dX12_formIs_36 rfl rfl (g3_iload_n 2 dX12_formIs_37 rfl rfl (g3_cV2 dX12_formIs_38 myX12_formOf mlX12_257 (z3 rfl) ob_44 (z3 rfl) (z3 rfl) (eX12_formOf Em.rf h.1 (fun N1 hN1 he1 hp1 => ?_)))))
        have o4 := h.1
        have h := h.2 N1 hN1 he1 hp1
        refine g3_r1 ?_
        exact g3_goto (tgt := 46) dX12_formIs_41 rfl (g3_ireturn dX12_formIs_46 rfl h)
    · have h1 := h; have h := h1.2.2 c
      have o2 := h1.1
      exact g3_bipush dX12_formIs_24 rfl (g3_ireturn dX12_formIs_26 rfl h)
set_option maxRecDepth 20000 in
set_option maxHeartbeats 200000 in
theorem sX11_number {E : E3} {Q : Q3} {M : M3} {x1 x2 x3 x4 : Int}
    (h : ((-2147483648 ≤ x1 ∧ x1 ≤ 2147483647) ∧ (-2147483648 ≤ (1 : Int) ∧ (1 : Int) ≤ 2147483647) ∧ (-2147483648 ≤ (100 : Int) ∧ (100 : Int) ≤ 2147483647)) ∧ ((¬(1 ≤ x1 ∧ x1 ≤ 100) → (Q (some (vI (-2))) M)) ∧ ((1 ≤ x1 ∧ x1 ≤ 100) → (((-2147483648 ≤ x2 ∧ x2 ≤ 2147483647) ∧ (-2147483648 ≤ (1 : Int) ∧ (1 : Int) ≤ 2147483647) ∧ (-2147483648 ≤ (1000 : Int) ∧ (1000 : Int) ≤ 2147483647)) ∧ ((¬(1 ≤ x2 ∧ x2 ≤ 1000) → (Q (some (vI (-2))) M)) ∧ ((1 ≤ x2 ∧ x2 ≤ 1000) → (((-2147483648 ≤ x3 ∧ x3 ≤ 2147483647) ∧ (-2147483648 ≤ (0 : Int) ∧ (0 : Int) ≤ 2147483647) ∧ (-2147483648 ≤ (100 : Int) ∧ (100 : Int) ≤ 2147483647)) ∧ ((¬(0 ≤ x3 ∧ x3 ≤ 100) → (Q (some (vI (-2))) M)) ∧ ((0 ≤ x3 ∧ x3 ≤ 100) → ((-2147483648 ≤ x3 ∧ x3 ≤ 2147483647) ∧ ((-2147483648 ≤ x2 ∧ x2 ≤ 2147483647) ∧ ((x2 ≤ x3 → (Q (some (vI (-2))) M)) ∧ (x3 < x2 → (((-2147483648 ≤ x4 ∧ x4 ≤ 2147483647) ∧ (-2147483648 ≤ (0 : Int) ∧ (0 : Int) ≤ 2147483647) ∧ (-2147483648 ≤ (399 : Int) ∧ (399 : Int) ≤ 2147483647)) ∧ (((0 ≤ x4 ∧ x4 ≤ 399) → ((LwC M ∧ (0 ≤ (22 : Int) ∧ (22 : Int) < 24) ∧ 0 ≤ x4 ∧ x4 ≤ 399) ∧ (∀ (N1 : M3), RM3 N1 → Ec M N1 → (LwC N1) → ((-2147483648 ≤ sSd (LL3 M) 22 x4 ∧ sSd (LL3 M) 22 x4 ≤ 2147483647) ∧ ((0 < sSd (LL3 M) 22 x4 → (((0 ≤ N1 10 0 0 ∧ N1 10 0 0 ≤ 48) ∧ (-2147483648 ≤ ((-1) : Int) ∧ ((-1) : Int) ≤ 2147483647) ∧ (-2147483648 ≤ ((-1) : Int) ∧ ((-1) : Int) ≤ 2147483647) ∧ (-2147483648 ≤ (1 : Int) ∧ (1 : Int) ≤ 2147483647)) ∧ ((-2147483648 ≤ 100 * (fTally M (-1) (-1) 1) ∧ 100 * (fTally M (-1) (-1) 1) ≤ 2147483647) ∧ ((-2147483648 ≤ x1 * (x2 - x3) ∧ x1 * (x2 - x3) ≤ 2147483647) ∧ ((x1 * (x2 - x3) ≤ 100 * (fTally M (-1) (-1) 1) → ((-2147483648 ≤ x1 * (x2 + x3) ∧ x1 * (x2 + x3) ≤ 2147483647) ∧ ((x1 * (x2 + x3) ≤ 100 * (fTally M (-1) (-1) 1) → (Q (some (vI 0)) N1)) ∧ (100 * (fTally M (-1) (-1) 1) < x1 * (x2 + x3) → (Q (some (vI 1)) N1))))) ∧ (100 * (fTally M (-1) (-1) 1) < x1 * (x2 - x3) → (Q (some (vI 2)) N1))))))) ∧ (sSd (LL3 M) 22 x4 ≤ 0 → ((LwC N1 ∧ 0 ≤ x4 ∧ x4 ≤ 399) ∧ (∀ (N2 : M3), RM3 N2 → Ec N1 N2 → (LwC N2) → ((-2147483648 ≤ sRm (LL3 M) x4 ∧ sRm (LL3 M) x4 ≤ 2147483647) ∧ ((sRm (LL3 M) x4 ≤ 0 → (Q (some (vI 0)) N2)) ∧ (0 < sRm (LL3 M) x4 → (((0 ≤ N2 10 0 0 ∧ N2 10 0 0 ≤ 48) ∧ (-2147483648 ≤ ((-1) : Int) ∧ ((-1) : Int) ≤ 2147483647) ∧ (-2147483648 ≤ ((-1) : Int) ∧ ((-1) : Int) ≤ 2147483647) ∧ (-2147483648 ≤ (1 : Int) ∧ (1 : Int) ≤ 2147483647)) ∧ ((-2147483648 ≤ 100 * (fTally M (-1) (-1) 1) ∧ 100 * (fTally M (-1) (-1) 1) ≤ 2147483647) ∧ ((-2147483648 ≤ x1 * (x2 - x3) ∧ x1 * (x2 - x3) ≤ 2147483647) ∧ ((x1 * (x2 - x3) ≤ 100 * (fTally M (-1) (-1) 1) → ((-2147483648 ≤ x1 * (x2 + x3) ∧ x1 * (x2 + x3) ≤ 2147483647) ∧ ((x1 * (x2 + x3) ≤ 100 * (fTally M (-1) (-1) 1) → (Q (some (vI 0)) N2)) ∧ (100 * (fTally M (-1) (-1) 1) < x1 * (x2 + x3) → (Q (some (vI 1)) N2))))) ∧ (100 * (fTally M (-1) (-1) 1) < x1 * (x2 - x3) → (Q (some (vI 2)) N2))))))))))))))))) ∧ (¬(0 ≤ x4 ∧ x4 ≤ 399) → (Q (some (vI (-2))) M))))))))))))))))) :
    C3 E YX11_number [vR 0 0, vI x1, vI x2, vI x3, vI x4] M Q := by
  refine c3_in rfl rfl (z3 rfl) (g3_rm fun hM => ?_)
  refine g3_iload_n 1 dX11_number_0 rfl rfl (g3_iconst dX11_number_1 (g3_bipush dX11_number_2 rfl (g3_cS3 dX11_number_4 myX11_within mlX11_78 (z3 rfl) (z3 rfl) (kX11_within h.1 (g3_r1 (g3_bool_eq (tgt := 44) dX11_number_7 rfl (fun c => ?_) (fun c => ?_)))))))
  · have h1 := h; have h := h1.2.1 c
    have o1 := h1.1
    exact g3_bipush dX11_number_44 rfl (g3_ireturn dX11_number_46 rfl h)
  · have h1 := h; have h := h1.2.2 c
    have o1 := h1.1
    refine g3_iload_n 2 dX11_number_10 rfl rfl (g3_iconst dX11_number_11 (g3_sipush dX11_number_12 rfl (g3_cS3 dX11_number_15 myX11_within mlX11_78 (z3 rfl) (z3 rfl) (kX11_within h.1 (g3_r1 (g3_bool_eq (tgt := 44) dX11_number_18 rfl (fun c => ?_) (fun c => ?_)))))))
    · have h1 := h; have h := h1.2.1 c
      have o2 := h1.1
      exact g3_bipush dX11_number_44 rfl (g3_ireturn dX11_number_46 rfl h)
    · have h1 := h; have h := h1.2.2 c
      have o2 := h1.1
      refine g3_iload_n 3 dX11_number_21 rfl rfl (g3_iconst dX11_number_22 (g3_bipush dX11_number_23 rfl (g3_cS3 dX11_number_25 myX11_within mlX11_78 (z3 rfl) (z3 rfl) (kX11_within h.1 (g3_r1 (g3_bool_eq (tgt := 44) dX11_number_28 rfl (fun c => ?_) (fun c => ?_)))))))
      · have h1 := h; have h := h1.2.1 c
        have o3 := h1.1
        exact g3_bipush dX11_number_44 rfl (g3_ireturn dX11_number_46 rfl h)
      · have h1 := h; have h := h1.2.2 c
        have o3 := h1.1
        refine g3_iload_n 3 dX11_number_31 rfl rfl (g3_iload_n 2 dX11_number_32 rfl rfl (g3_icmp_ge (tgt := 44) dX11_number_33 rfl h.1 h.2.1 (fun c => ?_) (fun c => ?_)))
        · have h1 := h; have h := h1.2.2.1 c
          have o4 := h1.1
          have o5 := h1.2.1
          exact g3_bipush dX11_number_44 rfl (g3_ireturn dX11_number_46 rfl h)
        · have h1 := h; have h := h1.2.2.2 c
          have o4 := h1.1
          have o5 := h1.2.1
          refine g3_iload 4 dX11_number_36 rfl (g3_cS1 dX11_number_38 myX11_isDay mlX11_151 (z3 rfl) (z3 rfl) (c3_in rfl rfl (z3 rfl) (g3_iload_n 0 dX11_isDay_0 rfl rfl (g3_iconst dX11_isDay_1 (g3_sipush dX11_isDay_2 rfl (g3_cS3 dX11_isDay_5 myX11_within mlX11_78 (z3 rfl) (z3 rfl) (kX11_within h.1 (g3_r1 (g3_zreturn dX11_isDay_8 rfl (bo3_01 _) (g3_r1 (g3_bool_ne (tgt := 47) dX11_number_41 rfl (fun c => ?_) (fun c => ?_))))))))))))
          · have h1 := h; have h := h1.2.1 c
            have o6 := h1.1
            refine g3_aload_n 0 dX11_number_47 rfl rfl (g3_getR0 (t := 3) dX11_number_48 flX11_19 rfl (z3 rfl) (g3_iload 4 dX11_number_51 rfl (g3_cV1 dX11_number_53 myX4_asksSomething mlX11_259 (z3 rfl) ob_3 (z3 rfl) (z3 rfl) (c3_in rfl rfl (z3 rfl) (g3_aload_n 0 dX4_asksSomething_0 rfl rfl (g3_bipush dX4_asksSomething_1 rfl (g3_iload_n 1 dX4_asksSomething_3 rfl rfl (g3_cV2 dX4_asksSomething_4 myX4_saidOf mlX4_44 (z3 rfl) ob_3 (z3 rfl) (z3 rfl) (eX4_saidOf Ec.rf h.1 (fun N1 hN1 he1 hp1 => ?_))))))))))
            have o7 := h.1
            have h := h.2 N1 hN1 he1 hp1
            refine g3_r1 ?_
            refine g3_if_gt (tgt := 18) dX4_asksSomething_7 rfl h.1 (fun c => ?_) (fun c => ?_)
            · have h1 := h; have h := h1.2.1 c
              have o8 := h1.1
              refine g3_iconst dX4_asksSomething_18 (g3_goto (tgt := 23) dX4_asksSomething_19 rfl (g3_zreturn dX4_asksSomething_23 rfl (Or.inr rfl) (g3_r1 (g3_if_ne_T (tgt := 61) dX11_number_56 rfl (z3 rfl) (g3_bipush dX11_number_61 rfl (g3_aload_n 0 dX11_number_63 rfl rfl (g3_getR0 (t := 10) dX11_number_64 flX11_26 rfl (z3 rfl) (g3_iconst dX11_number_67 (g3_iconst dX11_number_68 (g3_iconst dX11_number_69 (g3_cV3 dX11_number_70 myX0_tally mlX11_133 (z3 rfl) ob_10 (z3 rfl) (z3 rfl) (kX0_tally h.1 (g3_r1 (g3_val (fTally_e (Ec.tr Ec.rf he1) _ _ _) (g3_imul dX11_number_73 (g3_istore (lv' := [(5, vI (100 * (fTally M (-1) (-1) 1))), (0, vR 0 0), (1, vI x1), (2, vI x2), (3, vI x3), (4, vI x4)]) dX11_number_74 (z3 rfl) rfl (g3_iload 0 dX11_number_76 rfl (g3_iload_n 2 dX11_number_78 rfl rfl (g3_iload_n 3 dX11_number_79 rfl rfl (g3_iload_n 4 dX11_number_80 rfl rfl (g3_isub dX11_number_81 (g3_imul dX11_number_82 (g3_icmp_ge (tgt := 88) dX11_number_83 rfl h.2.1 h.2.2.1 (fun c => ?_) (fun c => ?_))))))))))))))))))))))))
              · have h1 := h; have h := h1.2.2.2.1 c
                have o9 := h1.1
                have o10 := h1.2.1
                have o11 := h1.2.2.1
                refine g3_iload 0 dX11_number_88 rfl (g3_iload_n 2 dX11_number_90 rfl rfl (g3_iload_n 3 dX11_number_91 rfl rfl (g3_iload_n 4 dX11_number_92 rfl rfl (g3_iadd dX11_number_93 (g3_imul dX11_number_94 (g3_icmp_ge (tgt := 102) dX11_number_95 rfl o10 h.1 (fun c => ?_) (fun c => ?_)))))))
                · have h1 := h; have h := h1.2.1 c
                  have o12 := h1.1
                  exact g3_iconst dX11_number_102 (g3_ireturn dX11_number_103 rfl h)
                · have h1 := h; have h := h1.2.2 c
                  have o12 := h1.1
                  exact g3_iconst dX11_number_98 (g3_goto (tgt := 103) dX11_number_99 rfl (g3_ireturn dX11_number_103 rfl h))
              · have h1 := h; have h := h1.2.2.2.2 c
                have o9 := h1.1
                have o10 := h1.2.1
                have o11 := h1.2.2.1
                exact g3_iconst dX11_number_86 (g3_ireturn dX11_number_87 rfl h)
            · have h1 := h; have h := h1.2.2 c
              have o8 := h1.1
              refine g3_aload_n 0 dX4_asksSomething_10 rfl rfl (g3_iload_n 1 dX4_asksSomething_11 rfl rfl (g3_cV1 dX4_asksSomething_12 myX4_rightAnswers mlX4_55 (z3 rfl) ob_3 (z3 rfl) (z3 rfl) (eX4_rightAnswers (Ec.tr Ec.rf he1) h.1 (fun N2 hN2 he2 hp2 => ?_))))
              have o13 := h.1
              have h := h.2 N2 hN2 he2 hp2
              refine g3_r1 ?_
              refine g3_if_le (tgt := 22) dX4_asksSomething_15 rfl h.1 (fun c => ?_) (fun c => ?_)
              · have h1 := h; have h := h1.2.1 c
                have o14 := h1.1
                exact g3_iconst dX4_asksSomething_22 (g3_zreturn dX4_asksSomething_23 rfl (Or.inl rfl) (g3_r1 (g3_if_ne_F (tgt := 61) dX11_number_56 rfl (z3 rfl) (g3_iconst dX11_number_59 (g3_ireturn dX11_number_60 rfl h)))))
              · have h1 := h; have h := h1.2.2 c
                have o14 := h1.1
                refine g3_iconst dX4_asksSomething_18 (g3_goto (tgt := 23) dX4_asksSomething_19 rfl (g3_zreturn dX4_asksSomething_23 rfl (Or.inr rfl) (g3_r1 (g3_if_ne_T (tgt := 61) dX11_number_56 rfl (z3 rfl) (g3_bipush dX11_number_61 rfl (g3_aload_n 0 dX11_number_63 rfl rfl (g3_getR0 (t := 10) dX11_number_64 flX11_26 rfl (z3 rfl) (g3_iconst dX11_number_67 (g3_iconst dX11_number_68 (g3_iconst dX11_number_69 (g3_cV3 dX11_number_70 myX0_tally mlX11_133 (z3 rfl) ob_10 (z3 rfl) (z3 rfl) (kX0_tally h.1 (g3_r1 (g3_val (fTally_e (Ec.tr (Ec.tr Ec.rf he1) he2) _ _ _) (g3_imul dX11_number_73 (g3_istore (lv' := [(5, vI (100 * (fTally M (-1) (-1) 1))), (0, vR 0 0), (1, vI x1), (2, vI x2), (3, vI x3), (4, vI x4)]) dX11_number_74 (z3 rfl) rfl (g3_iload 0 dX11_number_76 rfl (g3_iload_n 2 dX11_number_78 rfl rfl (g3_iload_n 3 dX11_number_79 rfl rfl (g3_iload_n 4 dX11_number_80 rfl rfl (g3_isub dX11_number_81 (g3_imul dX11_number_82 (g3_icmp_ge (tgt := 88) dX11_number_83 rfl h.2.1 h.2.2.1 (fun c => ?_) (fun c => ?_))))))))))))))))))))))))
                · have h1 := h; have h := h1.2.2.2.1 c
                  have o15 := h1.1
                  have o16 := h1.2.1
                  have o17 := h1.2.2.1
                  refine g3_iload 0 dX11_number_88 rfl (g3_iload_n 2 dX11_number_90 rfl rfl (g3_iload_n 3 dX11_number_91 rfl rfl (g3_iload_n 4 dX11_number_92 rfl rfl (g3_iadd dX11_number_93 (g3_imul dX11_number_94 (g3_icmp_ge (tgt := 102) dX11_number_95 rfl o16 h.1 (fun c => ?_) (fun c => ?_)))))))
                  · have h1 := h; have h := h1.2.1 c
                    have o18 := h1.1
                    exact g3_iconst dX11_number_102 (g3_ireturn dX11_number_103 rfl h)
                  · have h1 := h; have h := h1.2.2 c
                    have o18 := h1.1
                    exact g3_iconst dX11_number_98 (g3_goto (tgt := 103) dX11_number_99 rfl (g3_ireturn dX11_number_103 rfl h))
                · have h1 := h; have h := h1.2.2.2.2 c
                  have o15 := h1.1
                  have o16 := h1.2.1
                  have o17 := h1.2.2.1
                  exact g3_iconst dX11_number_86 (g3_ireturn dX11_number_87 rfl h)
          · have h1 := h; have h := h1.2.2 c
            have o6 := h1.1
            exact g3_bipush dX11_number_44 rfl (g3_ireturn dX11_number_46 rfl h)
set_option maxRecDepth 20000 in
set_option maxHeartbeats 200000 in
theorem sX12_number {E : E3} {Q : Q3} {M : M3} {x1 x2 x3 x4 : Int}
    (h : ((-2147483648 ≤ x1 ∧ x1 ≤ 2147483647) ∧ (-2147483648 ≤ (1 : Int) ∧ (1 : Int) ≤ 2147483647) ∧ (-2147483648 ≤ (100 : Int) ∧ (100 : Int) ≤ 2147483647)) ∧ ((¬(1 ≤ x1 ∧ x1 ≤ 100) → (Q (some (vI (-2))) M)) ∧ ((1 ≤ x1 ∧ x1 ≤ 100) → (((-2147483648 ≤ x2 ∧ x2 ≤ 2147483647) ∧ (-2147483648 ≤ (1 : Int) ∧ (1 : Int) ≤ 2147483647) ∧ (-2147483648 ≤ (1000 : Int) ∧ (1000 : Int) ≤ 2147483647)) ∧ ((¬(1 ≤ x2 ∧ x2 ≤ 1000) → (Q (some (vI (-2))) M)) ∧ ((1 ≤ x2 ∧ x2 ≤ 1000) → (((-2147483648 ≤ x3 ∧ x3 ≤ 2147483647) ∧ (-2147483648 ≤ (0 : Int) ∧ (0 : Int) ≤ 2147483647) ∧ (-2147483648 ≤ (100 : Int) ∧ (100 : Int) ≤ 2147483647)) ∧ ((¬(0 ≤ x3 ∧ x3 ≤ 100) → (Q (some (vI (-2))) M)) ∧ ((0 ≤ x3 ∧ x3 ≤ 100) → ((-2147483648 ≤ x3 ∧ x3 ≤ 2147483647) ∧ ((-2147483648 ≤ x2 ∧ x2 ≤ 2147483647) ∧ ((x2 ≤ x3 → (Q (some (vI (-2))) M)) ∧ (x3 < x2 → (((-2147483648 ≤ x4 ∧ x4 ≤ 2147483647) ∧ (-2147483648 ≤ (0 : Int) ∧ (0 : Int) ≤ 2147483647) ∧ (-2147483648 ≤ (399 : Int) ∧ (399 : Int) ≤ 2147483647)) ∧ (((0 ≤ x4 ∧ x4 ≤ 399) → (((0 ≤ M 44 0 1 ∧ M 44 0 1 ≤ 48) ∧ ((-2147483648 ≤ ((-1) : Int) ∧ ((-1) : Int) ≤ 2147483647) ∧ (-2147483648 ≤ ((-1) : Int) ∧ ((-1) : Int) ≤ 2147483647) ∧ (-2147483648 ≤ (1 : Int) ∧ (1 : Int) ≤ 2147483647))) ∧ ((RdC M ∧ 0 ≤ x4 ∧ x4 ≤ 399) ∧ (∀ (N1 : M3), RM3 N1 → Em M N1 → (RdC N1) → (((mAsk M x4) → ((-2147483648 ≤ 100 * (mRoll M (-1) (-1) 1) ∧ 100 * (mRoll M (-1) (-1) 1) ≤ 2147483647) ∧ ((-2147483648 ≤ x1 * (x2 - x3) ∧ x1 * (x2 - x3) ≤ 2147483647) ∧ ((x1 * (x2 - x3) ≤ 100 * (mRoll M (-1) (-1) 1) → ((-2147483648 ≤ x1 * (x2 + x3) ∧ x1 * (x2 + x3) ≤ 2147483647) ∧ ((x1 * (x2 + x3) ≤ 100 * (mRoll M (-1) (-1) 1) → (Q (some (vI 0)) N1)) ∧ (100 * (mRoll M (-1) (-1) 1) < x1 * (x2 + x3) → (Q (some (vI 1)) N1))))) ∧ (100 * (mRoll M (-1) (-1) 1) < x1 * (x2 - x3) → (Q (some (vI 2)) N1)))))) ∧ (¬(mAsk M x4) → (Q (some (vI 0)) N1))))))) ∧ (¬(0 ≤ x4 ∧ x4 ≤ 399) → (Q (some (vI (-2))) M))))))))))))))))) :
    C3 E YX12_number [vR 44 0, vI x1, vI x2, vI x3, vI x4] M Q := by
  refine c3_in rfl rfl (z3 rfl) (g3_rm fun hM => ?_)
  refine g3_iload_n 1 dX12_number_0 rfl rfl (g3_iconst dX12_number_1 (g3_bipush dX12_number_2 rfl (g3_cS3 dX12_number_4 myX12_in mlX12_144 (z3 rfl) (z3 rfl) (kX12_in h.1 (g3_r1 (g3_bool_eq (tgt := 44) dX12_number_7 rfl (fun c => ?_) (fun c => ?_)))))))
  · have h1 := h; have h := h1.2.1 c
    have o1 := h1.1
    exact g3_bipush dX12_number_44 rfl (g3_ireturn dX12_number_46 rfl h)
  · have h1 := h; have h := h1.2.2 c
    have o1 := h1.1
    refine g3_iload_n 2 dX12_number_10 rfl rfl (g3_iconst dX12_number_11 (g3_sipush dX12_number_12 rfl (g3_cS3 dX12_number_15 myX12_in mlX12_144 (z3 rfl) (z3 rfl) (kX12_in h.1 (g3_r1 (g3_bool_eq (tgt := 44) dX12_number_18 rfl (fun c => ?_) (fun c => ?_)))))))
    · have h1 := h; have h := h1.2.1 c
      have o2 := h1.1
      exact g3_bipush dX12_number_44 rfl (g3_ireturn dX12_number_46 rfl h)
    · have h1 := h; have h := h1.2.2 c
      have o2 := h1.1
      refine g3_iload_n 3 dX12_number_21 rfl rfl (g3_iconst dX12_number_22 (g3_bipush dX12_number_23 rfl (g3_cS3 dX12_number_25 myX12_in mlX12_144 (z3 rfl) (z3 rfl) (kX12_in h.1 (g3_r1 (g3_bool_eq (tgt := 44) dX12_number_28 rfl (fun c => ?_) (fun c => ?_)))))))
      · have h1 := h; have h := h1.2.1 c
        have o3 := h1.1
        exact g3_bipush dX12_number_44 rfl (g3_ireturn dX12_number_46 rfl h)
      · have h1 := h; have h := h1.2.2 c
        have o3 := h1.1
        refine g3_iload_n 3 dX12_number_31 rfl rfl (g3_iload_n 2 dX12_number_32 rfl rfl (g3_icmp_ge (tgt := 44) dX12_number_33 rfl h.1 h.2.1 (fun c => ?_) (fun c => ?_)))
        · have h1 := h; have h := h1.2.2.1 c
          have o4 := h1.1
          have o5 := h1.2.1
          exact g3_bipush dX12_number_44 rfl (g3_ireturn dX12_number_46 rfl h)
        · have h1 := h; have h := h1.2.2.2 c
          have o4 := h1.1
          have o5 := h1.2.1
          refine g3_iload 4 dX12_number_36 rfl (g3_cS1 dX12_number_38 myX12_isDay mlX12_210 (z3 rfl) (z3 rfl) (c3_in rfl rfl (z3 rfl) (g3_iload_n 0 dX12_isDay_0 rfl rfl (g3_iconst dX12_isDay_1 (g3_sipush dX12_isDay_2 rfl (g3_cS3 dX12_isDay_5 myX12_in mlX12_144 (z3 rfl) (z3 rfl) (kX12_in h.1 (g3_r1 (g3_zreturn dX12_isDay_8 rfl (bo3_01 _) (g3_r1 (g3_bool_ne (tgt := 47) dX12_number_41 rfl (fun c => ?_) (fun c => ?_))))))))))))
          · have h1 := h; have h := h1.2.1 c
            have o6 := h1.1
            refine g3_bipush dX12_number_47 rfl (g3_aload_n 0 dX12_number_49 rfl rfl (g3_iconst dX12_number_50 (g3_iconst dX12_number_51 (g3_iconst dX12_number_52 (g3_cV3 dX12_number_53 myX12_rollOf mlX12_174 (z3 rfl) ob_44 (z3 rfl) (z3 rfl) (kX12_rollOf h.1 (g3_r1 (g3_imul dX12_number_56 (g3_istore (lv' := [(5, vI (100 * (mRoll M (-1) (-1) 1))), (0, vR 44 0), (1, vI x1), (2, vI x2), (3, vI x3), (4, vI x4)]) dX12_number_57 (z3 rfl) rfl (g3_aload_n 1 dX12_number_59 rfl rfl (g3_iload 5 dX12_number_60 rfl (g3_cV1 dX12_number_62 myX12_asksSome mlX12_306 (z3 rfl) ob_44 (z3 rfl) (z3 rfl) (eX12_asksSome Em.rf h.2.1 (fun N1 hN1 he1 hp1 => ?_))))))))))))))
            have o7 := h.1
            have o8 := h.2.1
            have h := h.2.2 N1 hN1 he1 hp1
            refine g3_r1 ?_
            refine g3_bool_ne (tgt := 70) dX12_number_65 rfl (fun c => ?_) (fun c => ?_)
            · have h1 := h; have h := h1.1 c
              refine g3_iload 0 dX12_number_70 rfl (g3_iload_n 2 dX12_number_72 rfl rfl (g3_iload_n 3 dX12_number_73 rfl rfl (g3_iload_n 4 dX12_number_74 rfl rfl (g3_isub dX12_number_75 (g3_imul dX12_number_76 (g3_icmp_ge (tgt := 84) dX12_number_77 rfl h.1 h.2.1 (fun c => ?_) (fun c => ?_)))))))
              · have h1 := h; have h := h1.2.2.1 c
                have o9 := h1.1
                have o10 := h1.2.1
                refine g3_iload 0 dX12_number_84 rfl (g3_iload_n 2 dX12_number_86 rfl rfl (g3_iload_n 3 dX12_number_87 rfl rfl (g3_iload_n 4 dX12_number_88 rfl rfl (g3_iadd dX12_number_89 (g3_imul dX12_number_90 (g3_icmp_ge (tgt := 98) dX12_number_91 rfl o9 h.1 (fun c => ?_) (fun c => ?_)))))))
                · have h1 := h; have h := h1.2.1 c
                  have o11 := h1.1
                  exact g3_iconst dX12_number_98 (g3_ireturn dX12_number_99 rfl h)
                · have h1 := h; have h := h1.2.2 c
                  have o11 := h1.1
                  exact g3_iconst dX12_number_94 (g3_goto (tgt := 99) dX12_number_95 rfl (g3_ireturn dX12_number_99 rfl h))
              · have h1 := h; have h := h1.2.2.2 c
                have o9 := h1.1
                have o10 := h1.2.1
                exact g3_iconst dX12_number_80 (g3_goto (tgt := 99) dX12_number_81 rfl (g3_ireturn dX12_number_99 rfl h))
            · have h1 := h; have h := h1.2 c
              exact g3_iconst dX12_number_68 (g3_ireturn dX12_number_69 rfl h)
          · have h1 := h; have h := h1.2.2 c
            have o6 := h1.1
            exact g3_bipush dX12_number_44 rfl (g3_ireturn dX12_number_46 rfl h)
set_option maxRecDepth 20000 in
set_option maxHeartbeats 200000 in
theorem sX11_sheet {E : E3} {Q : Q3} {M : M3} {x1 x2 x3 : Int}
    (h : ((-2147483648 ≤ x1 ∧ x1 ≤ 2147483647) ∧ (-2147483648 ≤ (0 : Int) ∧ (0 : Int) ≤ 2147483647) ∧ (-2147483648 ≤ (3 : Int) ∧ (3 : Int) ≤ 2147483647)) ∧ ((¬(0 ≤ x1 ∧ x1 ≤ 3) → (Q (some (vI (-2))) M)) ∧ ((0 ≤ x1 ∧ x1 ≤ 3) → (((-2147483648 ≤ x2 ∧ x2 ≤ 2147483647) ∧ (-2147483648 ≤ (0 : Int) ∧ (0 : Int) ≤ 2147483647) ∧ (-2147483648 ≤ (2 : Int) ∧ (2 : Int) ≤ 2147483647)) ∧ ((¬(0 ≤ x2 ∧ x2 ≤ 2) → (Q (some (vI (-2))) M)) ∧ ((0 ≤ x2 ∧ x2 ≤ 2) → ((-2147483648 ≤ x3 ∧ x3 ≤ 2147483647) ∧ ((x3 ≤ 40 → ((0 ≤ x3 → ((0 ≤ x1 ∧ x1 < 4) ∧ (((0 ≤ x1 ∧ x1 < 4) ∧ (-2147483648 ≤ x2 ∧ x2 ≤ 2147483647) ∧ (-2147483648 ≤ x3 ∧ x3 ≤ 2147483647)) ∧ (∀ (N1 : M3), RM3 N1 → (∀ q : Nat, q ∉ ([42, 43] : List Nat) → N1 q = M q) → (poRn M x1 x2 x3 N1) → (Q (some (vI x3)) N1))))) ∧ (x3 < 0 → (Q (some (vI ((-10) - 5))) (up3 M 0 0 9 5))))) ∧ (40 < x3 → (Q (some (vI (-2))) M)))))))))) :
    C3 E YX11_sheet [vR 0 0, vI x1, vI x2, vI x3] M Q := by
  refine c3_in rfl rfl (z3 rfl) (g3_rm fun hM => ?_)
  refine g3_iload_n 1 dX11_sheet_0 rfl rfl (g3_cS1 dX11_sheet_1 myX11_isSheet mlX11_161 (z3 rfl) (z3 rfl) (c3_in rfl rfl (z3 rfl) (g3_iload_n 0 dX11_isSheet_0 rfl rfl (g3_iconst dX11_isSheet_1 (g3_iconst dX11_isSheet_2 (g3_cS3 dX11_isSheet_3 myX11_within mlX11_78 (z3 rfl) (z3 rfl) (kX11_within h.1 (g3_r1 (g3_zreturn dX11_isSheet_6 rfl (bo3_01 _) (g3_r1 (g3_bool_eq (tgt := 20) dX11_sheet_4 rfl (fun c => ?_) (fun c => ?_))))))))))))
  · have h1 := h; have h := h1.2.1 c
    have o1 := h1.1
    exact g3_bipush dX11_sheet_20 rfl (g3_ireturn dX11_sheet_22 rfl h)
  · have h1 := h; have h := h1.2.2 c
    have o1 := h1.1
    refine g3_iload_n 2 dX11_sheet_7 rfl rfl (g3_cS1 dX11_sheet_8 myX11_isType mlX11_286 (z3 rfl) (z3 rfl) (c3_in rfl rfl (z3 rfl) (g3_iload_n 0 dX11_isType_0 rfl rfl (g3_iconst dX11_isType_1 (g3_iconst dX11_isType_2 (g3_cS3 dX11_isType_3 myX11_within mlX11_78 (z3 rfl) (z3 rfl) (kX11_within h.1 (g3_r1 (g3_zreturn dX11_isType_6 rfl (bo3_01 _) (g3_r1 (g3_bool_eq (tgt := 20) dX11_sheet_11 rfl (fun c => ?_) (fun c => ?_))))))))))))
    · have h1 := h; have h := h1.2.1 c
      have o2 := h1.1
      exact g3_bipush dX11_sheet_20 rfl (g3_ireturn dX11_sheet_22 rfl h)
    · have h1 := h; have h := h1.2.2 c
      have o2 := h1.1
      refine g3_iload_n 3 dX11_sheet_14 rfl rfl (g3_bipush dX11_sheet_15 rfl (g3_icmp_le (tgt := 23) dX11_sheet_17 rfl h.1 (z3 rfl) (fun c => ?_) (fun c => ?_)))
      · have h1 := h; have h := h1.2.1 c
        have o3 := h1.1
        refine g3_iload_n 3 dX11_sheet_23 rfl rfl (g3_if_ge (tgt := 33) dX11_sheet_24 rfl o3 (fun c => ?_) (fun c => ?_))
        · have h1 := h; have h := h1.1 c
          refine g3_aload_n 0 dX11_sheet_33 rfl rfl (g3_getR0 (t := 1) dX11_sheet_34 flX11_73 rfl (z3 rfl) (g3_iload_n 1 dX11_sheet_37 rfl rfl (g3_aald dX11_sheet_38 aq_1 h.1 (g3_iload_n 2 dX11_sheet_39 rfl rfl (g3_iload_n 3 dX11_sheet_40 rfl rfl (g3_cV2 dX11_sheet_41 myX9_renew mlX11_289 (z3 rfl) ob_42 h.1 (z3 rfl) (kX9_renew h.2.1 (fun N1 hN1 hf1 hp1 => ?_))))))))
          have o4 := h.1
          have o5 := h.2.1
          have h := h.2.2 N1 hN1 hf1 hp1
          refine g3_r0 ?_
          exact g3_iload_n 3 dX11_sheet_44 rfl rfl (g3_ireturn dX11_sheet_45 rfl h)
        · have h1 := h; have h := h1.2 c
          exact g3_aload_n 0 dX11_sheet_27 rfl rfl (g3_iconst dX11_sheet_28 (g3_cV1 dX11_sheet_29 myX11_found mlX11_167 (z3 rfl) ob_0 (z3 rfl) (z3 rfl) (c3_in rfl rfl (z3 rfl) (g3_aload_n 0 dX11_found_0 rfl rfl (g3_iload_n 1 dX11_found_1 rfl rfl (g3_put dX11_found_2 fpX11_341 (Or.inl rfl) (z3 rfl) (z3 rfl) (g3_bipush dX11_found_5 rfl (g3_iload_n 1 dX11_found_7 rfl rfl (g3_isub dX11_found_8 (g3_ireturn dX11_found_9 rfl (g3_r1 (g3_ireturn dX11_sheet_32 rfl h))))))))))))
      · have h1 := h; have h := h1.2.2 c
        have o3 := h1.1
        exact g3_bipush dX11_sheet_20 rfl (g3_ireturn dX11_sheet_22 rfl h)
set_option maxRecDepth 20000 in
set_option maxHeartbeats 200000 in
theorem sX11_copy {E : E3} {Q : Q3} {M : M3} {x1 x2 x3 x4 x5 : Int}
    (h : ((-2147483648 ≤ x1 ∧ x1 ≤ 2147483647) ∧ (-2147483648 ≤ (0 : Int) ∧ (0 : Int) ≤ 2147483647) ∧ (-2147483648 ≤ (3 : Int) ∧ (3 : Int) ≤ 2147483647)) ∧ ((¬(0 ≤ x1 ∧ x1 ≤ 3) → (Q (some (vI (-2))) M)) ∧ ((0 ≤ x1 ∧ x1 ≤ 3) → (((-2147483648 ≤ x3 ∧ x3 ≤ 2147483647) ∧ (-2147483648 ≤ (0 : Int) ∧ (0 : Int) ≤ 2147483647) ∧ (-2147483648 ≤ (3 : Int) ∧ (3 : Int) ≤ 2147483647)) ∧ (((0 ≤ x3 ∧ x3 ≤ 3) → ((0 ≤ x1 ∧ x1 < 4) ∧ ((0 ≤ x3 ∧ x3 < 4) ∧ ((M 42 x1 0 ≠ (-1) → ((M 42 x3 0 ≠ (-1) → ((M 42 x1 0 = M 42 x3 0 → ((-2147483648 ≤ x2 ∧ x2 ≤ 2147483647) ∧ ((x2 < 0 → (Q (some (vI ((-10) - 2))) (up3 M 0 0 9 2))) ∧ (0 ≤ x2 → ((-2147483648 ≤ x5 ∧ x5 ≤ 2147483647) ∧ ((x5 < 0 → (Q (some (vI ((-10) - 2))) (up3 M 0 0 9 2))) ∧ (0 ≤ x5 → ((M 42 x1 1 < x2 → (Q (some (vI ((-10) - 2))) (up3 M 0 0 9 2))) ∧ (x2 ≤ M 42 x1 1 → ((-2147483648 ≤ (M 42 x1 1) - x2 ∧ (M 42 x1 1) - x2 ≤ 2147483647) ∧ (((M 42 x1 1) - x2 < x5 → (Q (some (vI ((-10) - 2))) (up3 M 0 0 9 2))) ∧ (x5 ≤ (M 42 x1 1) - x2 → ((-2147483648 ≤ x4 ∧ x4 ≤ 2147483647) ∧ ((x4 < 0 → (Q (some (vI ((-10) - 2))) (up3 M 0 0 9 2))) ∧ (0 ≤ x4 → ((x5 < 0 → (Q (some (vI ((-10) - 2))) (up3 M 0 0 9 2))) ∧ (0 ≤ x5 → ((M 42 x3 1 < x4 → (Q (some (vI ((-10) - 2))) (up3 M 0 0 9 2))) ∧ (x4 ≤ M 42 x3 1 → ((-2147483648 ≤ (M 42 x3 1) - x4 ∧ (M 42 x3 1) - x4 ≤ 2147483647) ∧ (((M 42 x3 1) - x4 < x5 → (Q (some (vI ((-10) - 2))) (up3 M 0 0 9 2))) ∧ (x5 ≤ (M 42 x3 1) - x4 → ((0 ≤ x2 ∧ 0 ≤ x4 ∧ 0 ≤ x5 ∧ x2 + x5 ≤ 40 ∧ x4 + x5 ≤ 40) ∧ (Q (some (vI 1)) (cp3 M 43 x1 x2 x3 x4 x5))))))))))))))))))))))))) ∧ (M 42 x1 0 ≠ M 42 x3 0 → (Q (some (vI ((-10) - 4))) (up3 M 0 0 9 4))))) ∧ (M 42 x3 0 = (-1) → (Q (some (vI ((-10) - 1))) (up3 M 0 0 9 1))))) ∧ (M 42 x1 0 = (-1) → (Q (some (vI ((-10) - 1))) (up3 M 0 0 9 1))))))) ∧ (¬(0 ≤ x3 ∧ x3 ≤ 3) → (Q (some (vI (-2))) M))))))) :
    C3 E YX11_copy [vR 0 0, vI x1, vI x2, vI x3, vI x4, vI x5] M Q := by
  refine c3_in rfl rfl (z3 rfl) (g3_rm fun hM => ?_)
  refine g3_iload_n 1 dX11_copy_0 rfl rfl (g3_cS1 dX11_copy_1 myX11_isSheet mlX11_161 (z3 rfl) (z3 rfl) (c3_in rfl rfl (z3 rfl) (g3_iload_n 0 dX11_isSheet_0 rfl rfl (g3_iconst dX11_isSheet_1 (g3_iconst dX11_isSheet_2 (g3_cS3 dX11_isSheet_3 myX11_within mlX11_78 (z3 rfl) (z3 rfl) (kX11_within h.1 (g3_r1 (g3_zreturn dX11_isSheet_6 rfl (bo3_01 _) (g3_r1 (g3_bool_eq (tgt := 14) dX11_copy_4 rfl (fun c => ?_) (fun c => ?_))))))))))))
  · have h1 := h; have h := h1.2.1 c
    have o1 := h1.1
    exact g3_bipush dX11_copy_14 rfl (g3_ireturn dX11_copy_16 rfl h)
  · have h1 := h; have h := h1.2.2 c
    have o1 := h1.1
    refine g3_iload_n 3 dX11_copy_7 rfl rfl (g3_cS1 dX11_copy_8 myX11_isSheet mlX11_161 (z3 rfl) (z3 rfl) (c3_in rfl rfl (z3 rfl) (g3_iload_n 0 dX11_isSheet_0 rfl rfl (g3_iconst dX11_isSheet_1 (g3_iconst dX11_isSheet_2 (g3_cS3 dX11_isSheet_3 myX11_within mlX11_78 (z3 rfl) (z3 rfl) (kX11_within h.1 (g3_r1 (g3_zreturn dX11_isSheet_6 rfl (bo3_01 _) (g3_r1 (g3_bool_ne (tgt := 17) dX11_copy_11 rfl (fun c => ?_) (fun c => ?_))))))))))))
    · have h1 := h; have h := h1.2.1 c
      have o2 := h1.1
      refine g3_aload_n 0 dX11_copy_17 rfl rfl (g3_getR0 (t := 1) dX11_copy_18 flX11_73 rfl (z3 rfl) (g3_iload_n 1 dX11_copy_21 rfl rfl (g3_aald dX11_copy_22 aq_1 h.1 (g3_astore (lv' := [(6, vR 42 x1), (0, vR 0 0), (1, vI x1), (2, vI x2), (3, vI x3), (4, vI x4), (5, vI x5)]) dX11_copy_23 (z3 rfl) rfl (g3_aload_n 1 dX11_copy_25 rfl rfl (g3_getR0 (t := 1) dX11_copy_26 flX11_73 rfl (z3 rfl) (g3_iload_n 4 dX11_copy_29 rfl rfl (g3_aald dX11_copy_30 aq_1 h.2.1 (g3_astore (lv' := [(7, vR 42 x3), (6, vR 42 x1), (0, vR 0 0), (1, vI x1), (2, vI x2), (3, vI x3), (4, vI x4), (5, vI x5)]) dX11_copy_31 (z3 rfl) rfl (g3_aload 1 dX11_copy_33 rfl (g3_cV0 dX11_copy_35 myX9_isLost mlX11_164 (z3 rfl) ob_42 h.1 (z3 rfl) (c3_in rfl rfl (z3 rfl) (g3_aload_n 0 dX9_isLost_0 rfl rfl (g3_getI (t := 0) dX9_isLost_1 flX9_9 (z3 rfl) h.1 (g3_iconst dX9_isLost_4 (g3_icmp_ne (tgt := 12) dX9_isLost_5 rfl (hM 42 x1 0) (z3 rfl) (fun c => ?_) (fun c => ?_)))))))))))))))))
      · have h1 := h; have h := h1.2.2.1 c
        have o3 := h1.1
        have o4 := h1.2.1
        refine g3_iconst dX9_isLost_12 (g3_zreturn dX9_isLost_13 rfl (Or.inl rfl) (g3_r1 (g3_if_ne_F (tgt := 49) dX11_copy_38 rfl (z3 rfl) (g3_aload 0 dX11_copy_41 rfl (g3_cV0 dX11_copy_43 myX9_isLost mlX11_164 (z3 rfl) ob_42 o4 (z3 rfl) (c3_in rfl rfl (z3 rfl) (g3_aload_n 0 dX9_isLost_0 rfl rfl (g3_getI (t := 0) dX9_isLost_1 flX9_9 (z3 rfl) o4 (g3_iconst dX9_isLost_4 (g3_icmp_ne (tgt := 12) dX9_isLost_5 rfl (hM 42 x3 0) (z3 rfl) (fun c => ?_) (fun c => ?_)))))))))))
        · have h1 := h; have h := h1.1 c
          refine g3_iconst dX9_isLost_12 (g3_zreturn dX9_isLost_13 rfl (Or.inl rfl) (g3_r1 (g3_if_eq_T (tgt := 55) dX11_copy_46 rfl (z3 rfl) (g3_aload 1 dX11_copy_55 rfl (g3_getI (t := 0) dX11_copy_57 flX11_306 (z3 rfl) o3 (g3_aload 0 dX11_copy_60 rfl (g3_getI (t := 0) dX11_copy_62 flX11_306 (z3 rfl) o4 (g3_icmp_eq (tgt := 74) dX11_copy_65 rfl (hM 42 x1 0) (hM 42 x3 0) (fun c => ?_) (fun c => ?_)))))))))
          · have h1 := h; have h := h1.1 c
            refine g3_aload 1 dX11_copy_74 rfl (g3_iload_n 4 dX11_copy_76 rfl rfl (g3_iload 7 dX11_copy_77 rfl (g3_cV2 dX11_copy_79 myX9_hasRange mlX11_309 (z3 rfl) ob_42 o3 (z3 rfl) (c3_in rfl rfl (z3 rfl) (g3_iload_n 1 dX9_hasRange_0 rfl rfl (g3_if_lt (tgt := 30) dX9_hasRange_1 rfl h.1 (fun c => ?_) (fun c => ?_)))))))
            · have h1 := h; have h := h1.2.1 c
              have o5 := h1.1
              exact g3_iconst dX9_hasRange_30 (g3_zreturn dX9_hasRange_31 rfl (Or.inl rfl) (g3_r1 (g3_if_eq_T (tgt := 97) dX11_copy_82 rfl (z3 rfl) (g3_aload_n 2 dX11_copy_97 rfl rfl (g3_iconst dX11_copy_98 (g3_cV1 dX11_copy_99 myX11_found mlX11_167 (z3 rfl) ob_0 (z3 rfl) (z3 rfl) (c3_in rfl rfl (z3 rfl) (g3_aload_n 0 dX11_found_0 rfl rfl (g3_iload_n 1 dX11_found_1 rfl rfl (g3_put dX11_found_2 fpX11_341 (Or.inl rfl) (z3 rfl) (z3 rfl) (g3_bipush dX11_found_5 rfl (g3_iload_n 1 dX11_found_7 rfl rfl (g3_isub dX11_found_8 (g3_ireturn dX11_found_9 rfl (g3_r1 (g3_ireturn dX11_copy_102 rfl h))))))))))))))))
            · have h1 := h; have h := h1.2.2 c
              have o5 := h1.1
              refine g3_iload_n 2 dX9_hasRange_4 rfl rfl (g3_if_lt (tgt := 30) dX9_hasRange_5 rfl h.1 (fun c => ?_) (fun c => ?_))
              · have h1 := h; have h := h1.2.1 c
                have o6 := h1.1
                exact g3_iconst dX9_hasRange_30 (g3_zreturn dX9_hasRange_31 rfl (Or.inl rfl) (g3_r1 (g3_if_eq_T (tgt := 97) dX11_copy_82 rfl (z3 rfl) (g3_aload_n 2 dX11_copy_97 rfl rfl (g3_iconst dX11_copy_98 (g3_cV1 dX11_copy_99 myX11_found mlX11_167 (z3 rfl) ob_0 (z3 rfl) (z3 rfl) (c3_in rfl rfl (z3 rfl) (g3_aload_n 0 dX11_found_0 rfl rfl (g3_iload_n 1 dX11_found_1 rfl rfl (g3_put dX11_found_2 fpX11_341 (Or.inl rfl) (z3 rfl) (z3 rfl) (g3_bipush dX11_found_5 rfl (g3_iload_n 1 dX11_found_7 rfl rfl (g3_isub dX11_found_8 (g3_ireturn dX11_found_9 rfl (g3_r1 (g3_ireturn dX11_copy_102 rfl h))))))))))))))))
              · have h1 := h; have h := h1.2.2 c
                have o6 := h1.1
                refine g3_iload_n 1 dX9_hasRange_8 rfl rfl (g3_aload_n 0 dX9_hasRange_9 rfl rfl (g3_getI (t := 0) dX9_hasRange_10 flX9_19 (z3 rfl) o3 (g3_icmp_gt (tgt := 30) dX9_hasRange_13 rfl o5 (hM 42 x1 1) (fun c => ?_) (fun c => ?_))))
                · have h1 := h; have h := h1.1 c
                  exact g3_iconst dX9_hasRange_30 (g3_zreturn dX9_hasRange_31 rfl (Or.inl rfl) (g3_r1 (g3_if_eq_T (tgt := 97) dX11_copy_82 rfl (z3 rfl) (g3_aload_n 2 dX11_copy_97 rfl rfl (g3_iconst dX11_copy_98 (g3_cV1 dX11_copy_99 myX11_found mlX11_167 (z3 rfl) ob_0 (z3 rfl) (z3 rfl) (c3_in rfl rfl (z3 rfl) (g3_aload_n 0 dX11_found_0 rfl rfl (g3_iload_n 1 dX11_found_1 rfl rfl (g3_put dX11_found_2 fpX11_341 (Or.inl rfl) (z3 rfl) (z3 rfl) (g3_bipush dX11_found_5 rfl (g3_iload_n 1 dX11_found_7 rfl rfl (g3_isub dX11_found_8 (g3_ireturn dX11_found_9 rfl (g3_r1 (g3_ireturn dX11_copy_102 rfl h))))))))))))))))
                · have h1 := h; have h := h1.2 c
                  refine g3_iload_n 2 dX9_hasRange_16 rfl rfl (g3_aload_n 0 dX9_hasRange_17 rfl rfl (g3_getI (t := 0) dX9_hasRange_18 flX9_19 (z3 rfl) o3 (g3_iload_n 1 dX9_hasRange_21 rfl rfl (g3_isub dX9_hasRange_22 (g3_icmp_gt (tgt := 30) dX9_hasRange_23 rfl o6 h.1 (fun c => ?_) (fun c => ?_))))))
                  · have h1 := h; have h := h1.2.1 c
                    have o7 := h1.1
                    exact g3_iconst dX9_hasRange_30 (g3_zreturn dX9_hasRange_31 rfl (Or.inl rfl) (g3_r1 (g3_if_eq_T (tgt := 97) dX11_copy_82 rfl (z3 rfl) (g3_aload_n 2 dX11_copy_97 rfl rfl (g3_iconst dX11_copy_98 (g3_cV1 dX11_copy_99 myX11_found mlX11_167 (z3 rfl) ob_0 (z3 rfl) (z3 rfl) (c3_in rfl rfl (z3 rfl) (g3_aload_n 0 dX11_found_0 rfl rfl (g3_iload_n 1 dX11_found_1 rfl rfl (g3_put dX11_found_2 fpX11_341 (Or.inl rfl) (z3 rfl) (z3 rfl) (g3_bipush dX11_found_5 rfl (g3_iload_n 1 dX11_found_7 rfl rfl (g3_isub dX11_found_8 (g3_ireturn dX11_found_9 rfl (g3_r1 (g3_ireturn dX11_copy_102 rfl h))))))))))))))))
                  · have h1 := h; have h := h1.2.2 c
                    have o7 := h1.1
                    refine g3_iconst dX9_hasRange_26 (g3_goto (tgt := 31) dX9_hasRange_27 rfl (g3_zreturn dX9_hasRange_31 rfl (Or.inr rfl) (g3_r1 (g3_if_eq_F (tgt := 97) dX11_copy_82 rfl (z3 rfl) (g3_aload 0 dX11_copy_85 rfl (g3_iload 6 dX11_copy_87 rfl (g3_iload 7 dX11_copy_89 rfl (g3_cV2 dX11_copy_91 myX9_hasRange mlX11_309 (z3 rfl) ob_42 o4 (z3 rfl) (c3_in rfl rfl (z3 rfl) (g3_iload_n 1 dX9_hasRange_0 rfl rfl (g3_if_lt (tgt := 30) dX9_hasRange_1 rfl h.1 (fun c => ?_) (fun c => ?_))))))))))))
                    · have h1 := h; have h := h1.2.1 c
                      have o8 := h1.1
                      exact g3_iconst dX9_hasRange_30 (g3_zreturn dX9_hasRange_31 rfl (Or.inl rfl) (g3_r1 (g3_if_ne_F (tgt := 103) dX11_copy_94 rfl (z3 rfl) (g3_aload_n 2 dX11_copy_97 rfl rfl (g3_iconst dX11_copy_98 (g3_cV1 dX11_copy_99 myX11_found mlX11_167 (z3 rfl) ob_0 (z3 rfl) (z3 rfl) (c3_in rfl rfl (z3 rfl) (g3_aload_n 0 dX11_found_0 rfl rfl (g3_iload_n 1 dX11_found_1 rfl rfl (g3_put dX11_found_2 fpX11_341 (Or.inl rfl) (z3 rfl) (z3 rfl) (g3_bipush dX11_found_5 rfl (g3_iload_n 1 dX11_found_7 rfl rfl (g3_isub dX11_found_8 (g3_ireturn dX11_found_9 rfl (g3_r1 (g3_ireturn dX11_copy_102 rfl h))))))))))))))))
                    · have h1 := h; have h := h1.2.2 c
                      have o8 := h1.1
                      refine g3_iload_n 2 dX9_hasRange_4 rfl rfl (g3_if_lt (tgt := 30) dX9_hasRange_5 rfl o6 (fun c => ?_) (fun c => ?_))
                      · have h1 := h; have h := h1.1 c
                        exact g3_iconst dX9_hasRange_30 (g3_zreturn dX9_hasRange_31 rfl (Or.inl rfl) (g3_r1 (g3_if_ne_F (tgt := 103) dX11_copy_94 rfl (z3 rfl) (g3_aload_n 2 dX11_copy_97 rfl rfl (g3_iconst dX11_copy_98 (g3_cV1 dX11_copy_99 myX11_found mlX11_167 (z3 rfl) ob_0 (z3 rfl) (z3 rfl) (c3_in rfl rfl (z3 rfl) (g3_aload_n 0 dX11_found_0 rfl rfl (g3_iload_n 1 dX11_found_1 rfl rfl (g3_put dX11_found_2 fpX11_341 (Or.inl rfl) (z3 rfl) (z3 rfl) (g3_bipush dX11_found_5 rfl (g3_iload_n 1 dX11_found_7 rfl rfl (g3_isub dX11_found_8 (g3_ireturn dX11_found_9 rfl (g3_r1 (g3_ireturn dX11_copy_102 rfl h))))))))))))))))
                      · have h1 := h; have h := h1.2 c
                        refine g3_iload_n 1 dX9_hasRange_8 rfl rfl (g3_aload_n 0 dX9_hasRange_9 rfl rfl (g3_getI (t := 0) dX9_hasRange_10 flX9_19 (z3 rfl) o4 (g3_icmp_gt (tgt := 30) dX9_hasRange_13 rfl o8 (hM 42 x3 1) (fun c => ?_) (fun c => ?_))))
                        · have h1 := h; have h := h1.1 c
                          exact g3_iconst dX9_hasRange_30 (g3_zreturn dX9_hasRange_31 rfl (Or.inl rfl) (g3_r1 (g3_if_ne_F (tgt := 103) dX11_copy_94 rfl (z3 rfl) (g3_aload_n 2 dX11_copy_97 rfl rfl (g3_iconst dX11_copy_98 (g3_cV1 dX11_copy_99 myX11_found mlX11_167 (z3 rfl) ob_0 (z3 rfl) (z3 rfl) (c3_in rfl rfl (z3 rfl) (g3_aload_n 0 dX11_found_0 rfl rfl (g3_iload_n 1 dX11_found_1 rfl rfl (g3_put dX11_found_2 fpX11_341 (Or.inl rfl) (z3 rfl) (z3 rfl) (g3_bipush dX11_found_5 rfl (g3_iload_n 1 dX11_found_7 rfl rfl (g3_isub dX11_found_8 (g3_ireturn dX11_found_9 rfl (g3_r1 (g3_ireturn dX11_copy_102 rfl h))))))))))))))))
                        · have h1 := h; have h := h1.2 c
                          refine g3_iload_n 2 dX9_hasRange_16 rfl rfl (g3_aload_n 0 dX9_hasRange_17 rfl rfl (g3_getI (t := 0) dX9_hasRange_18 flX9_19 (z3 rfl) o4 (g3_iload_n 1 dX9_hasRange_21 rfl rfl (g3_isub dX9_hasRange_22 (g3_icmp_gt (tgt := 30) dX9_hasRange_23 rfl o6 h.1 (fun c => ?_) (fun c => ?_))))))
                          · have h1 := h; have h := h1.2.1 c
                            have o9 := h1.1
                            exact g3_iconst dX9_hasRange_30 (g3_zreturn dX9_hasRange_31 rfl (Or.inl rfl) (g3_r1 (g3_if_ne_F (tgt := 103) dX11_copy_94 rfl (z3 rfl) (g3_aload_n 2 dX11_copy_97 rfl rfl (g3_iconst dX11_copy_98 (g3_cV1 dX11_copy_99 myX11_found mlX11_167 (z3 rfl) ob_0 (z3 rfl) (z3 rfl) (c3_in rfl rfl (z3 rfl) (g3_aload_n 0 dX11_found_0 rfl rfl (g3_iload_n 1 dX11_found_1 rfl rfl (g3_put dX11_found_2 fpX11_341 (Or.inl rfl) (z3 rfl) (z3 rfl) (g3_bipush dX11_found_5 rfl (g3_iload_n 1 dX11_found_7 rfl rfl (g3_isub dX11_found_8 (g3_ireturn dX11_found_9 rfl (g3_r1 (g3_ireturn dX11_copy_102 rfl h))))))))))))))))
                          · have h1 := h; have h := h1.2.2 c
                            have o9 := h1.1
                            exact g3_iconst dX9_hasRange_26 (g3_goto (tgt := 31) dX9_hasRange_27 rfl (g3_zreturn dX9_hasRange_31 rfl (Or.inr rfl) (g3_r1 (g3_if_ne_T (tgt := 103) dX11_copy_94 rfl (z3 rfl) (g3_aload 1 dX11_copy_103 rfl (g3_getRi (t := 43) dX11_copy_105 flX11_313 rfl o3 (g3_iload_n 4 dX11_copy_108 rfl rfl (g3_aload 0 dX11_copy_109 rfl (g3_getRi (t := 43) dX11_copy_111 flX11_313 rfl o4 (g3_iload 6 dX11_copy_114 rfl (g3_iload 7 dX11_copy_116 rfl (g3_acopy dX11_copy_118 mlX11_317 ar_43 (z3 rfl) (z3 rfl) o3 o4 h.1 (g3_iconst dX11_copy_121 (g3_ireturn dX11_copy_122 rfl h.2))))))))))))))
          · have h1 := h; have h := h1.2 c
            exact g3_aload_n 2 dX11_copy_68 rfl rfl (g3_iconst dX11_copy_69 (g3_cV1 dX11_copy_70 myX11_found mlX11_167 (z3 rfl) ob_0 (z3 rfl) (z3 rfl) (c3_in rfl rfl (z3 rfl) (g3_aload_n 0 dX11_found_0 rfl rfl (g3_iload_n 1 dX11_found_1 rfl rfl (g3_put dX11_found_2 fpX11_341 (Or.inl rfl) (z3 rfl) (z3 rfl) (g3_bipush dX11_found_5 rfl (g3_iload_n 1 dX11_found_7 rfl rfl (g3_isub dX11_found_8 (g3_ireturn dX11_found_9 rfl (g3_r1 (g3_ireturn dX11_copy_73 rfl h))))))))))))
        · have h1 := h; have h := h1.2 c
          exact g3_iconst dX9_isLost_8 (g3_goto (tgt := 13) dX9_isLost_9 rfl (g3_zreturn dX9_isLost_13 rfl (Or.inr rfl) (g3_r1 (g3_if_eq_F (tgt := 55) dX11_copy_46 rfl (z3 rfl) (g3_aload_n 2 dX11_copy_49 rfl rfl (g3_iconst dX11_copy_50 (g3_cV1 dX11_copy_51 myX11_found mlX11_167 (z3 rfl) ob_0 (z3 rfl) (z3 rfl) (c3_in rfl rfl (z3 rfl) (g3_aload_n 0 dX11_found_0 rfl rfl (g3_iload_n 1 dX11_found_1 rfl rfl (g3_put dX11_found_2 fpX11_341 (Or.inl rfl) (z3 rfl) (z3 rfl) (g3_bipush dX11_found_5 rfl (g3_iload_n 1 dX11_found_7 rfl rfl (g3_isub dX11_found_8 (g3_ireturn dX11_found_9 rfl (g3_r1 (g3_ireturn dX11_copy_54 rfl h)))))))))))))))))
      · have h1 := h; have h := h1.2.2.2 c
        have o3 := h1.1
        have o4 := h1.2.1
        exact g3_iconst dX9_isLost_8 (g3_goto (tgt := 13) dX9_isLost_9 rfl (g3_zreturn dX9_isLost_13 rfl (Or.inr rfl) (g3_r1 (g3_if_ne_T (tgt := 49) dX11_copy_38 rfl (z3 rfl) (g3_aload_n 2 dX11_copy_49 rfl rfl (g3_iconst dX11_copy_50 (g3_cV1 dX11_copy_51 myX11_found mlX11_167 (z3 rfl) ob_0 (z3 rfl) (z3 rfl) (c3_in rfl rfl (z3 rfl) (g3_aload_n 0 dX11_found_0 rfl rfl (g3_iload_n 1 dX11_found_1 rfl rfl (g3_put dX11_found_2 fpX11_341 (Or.inl rfl) (z3 rfl) (z3 rfl) (g3_bipush dX11_found_5 rfl (g3_iload_n 1 dX11_found_7 rfl rfl (g3_isub dX11_found_8 (g3_ireturn dX11_found_9 rfl (g3_r1 (g3_ireturn dX11_copy_54 rfl h)))))))))))))))))
    · have h1 := h; have h := h1.2.2 c
      have o2 := h1.1
      exact g3_bipush dX11_copy_14 rfl (g3_ireturn dX11_copy_16 rfl h)
set_option maxRecDepth 20000 in
set_option maxHeartbeats 200000 in
theorem sX11_write {E : E3} {Q : Q3} {M : M3} {x1 : Int}
    (h : ((-2147483648 ≤ x1 ∧ x1 ≤ 2147483647) ∧ (-2147483648 ≤ (0 : Int) ∧ (0 : Int) ≤ 2147483647) ∧ (-2147483648 ≤ (3 : Int) ∧ (3 : Int) ≤ 2147483647)) ∧ (((0 ≤ x1 ∧ x1 ≤ 3) → ((0 ≤ x1 ∧ x1 < 4) ∧ ((M 42 x1 0 ≠ (-1) → (G3 E YX11_write Q 43 [(0, vR 0 0), (2, vR 42 x1), (3, vI (min (M 42 x1 1) 20)), (4, vI 0)] [] M)) ∧ (M 42 x1 0 = (-1) → (Q (some (vI ((-10) - 1))) (up3 M 0 0 9 1)))))) ∧ (¬(0 ≤ x1 ∧ x1 ≤ 3) → (Q (some (vI (-2))) M)))) :
    C3 E YX11_write [vR 0 0, vI x1] M Q := by
  refine c3_in rfl rfl (z3 rfl) (g3_rm fun hM => ?_)
  refine g3_iload_n 1 dX11_write_0 rfl rfl (g3_cS1 dX11_write_1 myX11_isSheet mlX11_161 (z3 rfl) (z3 rfl) (c3_in rfl rfl (z3 rfl) (g3_iload_n 0 dX11_isSheet_0 rfl rfl (g3_iconst dX11_isSheet_1 (g3_iconst dX11_isSheet_2 (g3_cS3 dX11_isSheet_3 myX11_within mlX11_78 (z3 rfl) (z3 rfl) (kX11_within h.1 (g3_r1 (g3_zreturn dX11_isSheet_6 rfl (bo3_01 _) (g3_r1 (g3_bool_ne (tgt := 10) dX11_write_4 rfl (fun c => ?_) (fun c => ?_))))))))))))
  · have h1 := h; have h := h1.2.1 c
    have o1 := h1.1
    refine g3_aload_n 0 dX11_write_10 rfl rfl (g3_getR0 (t := 1) dX11_write_11 flX11_73 rfl (z3 rfl) (g3_iload_n 1 dX11_write_14 rfl rfl (g3_aald dX11_write_15 aq_1 h.1 (g3_astore_n (lv' := [(2, vR 42 x1), (0, vR 0 0), (1, vI x1)]) dX11_write_16 rfl (z3 rfl) rfl (g3_aload_n 0 dX11_write_17 rfl rfl (g3_cV0 dX11_write_18 myX9_isLost mlX11_164 (z3 rfl) ob_42 h.1 (z3 rfl) (c3_in rfl rfl (z3 rfl) (g3_aload_n 0 dX9_isLost_0 rfl rfl (g3_getI (t := 0) dX9_isLost_1 flX9_9 (z3 rfl) h.1 (g3_iconst dX9_isLost_4 (g3_icmp_ne (tgt := 12) dX9_isLost_5 rfl (hM 42 x1 0) (z3 rfl) (fun c => ?_) (fun c => ?_))))))))))))
    · have h1 := h; have h := h1.2.1 c
      have o2 := h1.1
      refine g3_iconst dX9_isLost_12 (g3_zreturn dX9_isLost_13 rfl (Or.inl rfl) (g3_r1 (g3_if_eq_T (tgt := 30) dX11_write_21 rfl (z3 rfl) (g3_aload_n 0 dX11_write_30 rfl rfl (g3_getI (t := 0) dX11_write_31 flX11_323 (z3 rfl) o2 (g3_bipush dX11_write_34 rfl (g3_min dX11_write_36 mlX11_326 (z3 rfl) (z3 rfl) (hM 42 x1 1) (z3 rfl) (g3_istore_n (lv' := [(3, vI (min (M 42 x1 1) 20)), (2, vR 42 x1), (0, vR 0 0), (1, vI x1)]) dX11_write_39 rfl (z3 rfl) rfl (g3_iconst dX11_write_40 (g3_istore (lv' := [(4, vI 0), (3, vI (min (M 42 x1 1) 20)), (2, vR 42 x1), (0, vR 0 0), (1, vI x1)]) dX11_write_41 (z3 rfl) rfl (g3_sub [3, 2, 1, 0] rfl h)))))))))))
    · have h1 := h; have h := h1.2.2 c
      have o2 := h1.1
      exact g3_iconst dX9_isLost_8 (g3_goto (tgt := 13) dX9_isLost_9 rfl (g3_zreturn dX9_isLost_13 rfl (Or.inr rfl) (g3_r1 (g3_if_eq_F (tgt := 30) dX11_write_21 rfl (z3 rfl) (g3_aload_n 1 dX11_write_24 rfl rfl (g3_iconst dX11_write_25 (g3_cV1 dX11_write_26 myX11_found mlX11_167 (z3 rfl) ob_0 (z3 rfl) (z3 rfl) (c3_in rfl rfl (z3 rfl) (g3_aload_n 0 dX11_found_0 rfl rfl (g3_iload_n 1 dX11_found_1 rfl rfl (g3_put dX11_found_2 fpX11_341 (Or.inl rfl) (z3 rfl) (z3 rfl) (g3_bipush dX11_found_5 rfl (g3_iload_n 1 dX11_found_7 rfl rfl (g3_isub dX11_found_8 (g3_ireturn dX11_found_9 rfl (g3_r1 (g3_ireturn dX11_write_29 rfl h)))))))))))))))))
  · have h1 := h; have h := h1.2.2 c
    have o1 := h1.1
    exact g3_bipush dX11_write_7 rfl (g3_ireturn dX11_write_9 rfl h)
set_option maxRecDepth 20000 in
set_option maxHeartbeats 200000 in
theorem sX11_write_43 {E : E3} {Q : Q3} {M : M3} {i2 : Int} {x3 : Int} {x4 : Int}
    (h : (-2147483648 ≤ x4 ∧ x4 ≤ 2147483647) ∧ ((-2147483648 ≤ x3 ∧ x3 ≤ 2147483647) ∧ ((x3 ≤ x4 → (Q (some (vI x3)) M)) ∧ (x4 < x3 → ((LwC M ∧ (0 ≤ x4 ∧ x4 < 24) ∧ 0 ≤ (M 2 0 0) ∧ (M 2 0 0) ≤ 399) ∧ (∀ (N1 : M3), RM3 N1 → Ec M N1 → (LwC N1) → ((0 ≤ i2 ∧ i2 < 4) ∧ (((M 42 i2 0) = 0 → ((0 ≤ x4 ∧ x4 < 40) ∧ (G3 E YX11_write Q 43 [(0, vR 0 0), (2, vR 42 i2), (3, vI x3), (4, vI (x4 + 1))] [] (up3 N1 43 i2 x4 (i2b3 (sSd (LL3 M) x4 (M 2 0 0))))))) ∧ (¬((M 42 i2 0) = 0) → (((M 42 i2 0) = 1 → ((0 ≤ x4 ∧ x4 < 40) ∧ (G3 E YX11_write Q 43 [(0, vR 0 0), (2, vR 42 i2), (3, vI x3), (4, vI (x4 + 1))] [] (up3 N1 43 i2 x4 (i2s3 (sSd (LL3 M) x4 (M 2 0 0))))))) ∧ (¬((M 42 i2 0) = 1) → ((0 ≤ x4 ∧ x4 < 40) ∧ ((-2147483648 ≤ sSd (LL3 M) x4 (M 2 0 0) ∧ sSd (LL3 M) x4 (M 2 0 0) ≤ 2147483647) ∧ (G3 E YX11_write Q 43 [(0, vR 0 0), (2, vR 42 i2), (3, vI x3), (4, vI (x4 + 1))] [] (up3 N1 43 i2 x4 (sSd (LL3 M) x4 (M 2 0 0))))))))))))))))) :
    G3 E YX11_write Q 43 [(0, vR 0 0), (2, vR 42 i2), (3, vI x3), (4, vI x4)] [] M := by
  refine g3_rm fun hM => ?_
  refine g3_iload 3 dX11_write_43 rfl (g3_iload_n 2 dX11_write_45 rfl rfl (g3_icmp_ge (tgt := 77) dX11_write_46 rfl h.1 h.2.1 (fun c => ?_) (fun c => ?_)))
  · have h1 := h; have h := h1.2.2.1 c
    have o1 := h1.1
    have o2 := h1.2.1
    exact g3_iload_n 2 dX11_write_77 rfl rfl (g3_ireturn dX11_write_78 rfl h)
  · have h1 := h; have h := h1.2.2.2 c
    have o1 := h1.1
    have o2 := h1.2.1
    refine g3_aload_n 1 dX11_write_49 rfl rfl (g3_iload 3 dX11_write_50 rfl (g3_aload_n 0 dX11_write_52 rfl rfl (g3_getR0 (t := 3) dX11_write_53 flX11_19 rfl (z3 rfl) (g3_iload 3 dX11_write_56 rfl (g3_aload_n 0 dX11_write_58 rfl rfl (g3_getR0 (t := 2) dX11_write_59 flX11_10 rfl (z3 rfl) (g3_getI (t := 0) dX11_write_62 flX11_82 (z3 rfl) (z3 rfl) (g3_cV2 dX11_write_65 myX4_saidOf mlX11_154 (z3 rfl) ob_3 (z3 rfl) (z3 rfl) (eX4_saidOf Ec.rf h.1 (fun N1 hN1 he1 hp1 => ?_))))))))))
    have o3 := h.1
    have h := h.2 N1 hN1 he1 hp1
    refine g3_r1 ?_
    refine g3_cV2 dX11_write_68 myX9_store mlX11_299 (z3 rfl) ob_42 h.1 (z3 rfl) (c3_in rfl rfl (z3 rfl) (g3_aload_n 0 dX9_store_0 rfl rfl (g3_getI (t := 0) dX9_store_1 flX9_9 (z3 rfl) h.1 (g3_val (cg3 (he1.1 42 (by decide)) _ _) (?_)))))
    have o4 := h.1
    have hx := (hM 42 i2 0)
    have h := h.2
    refine g3_by (a := (M 42 i2 0) = 0) (fun c => ?_) (fun cs0 => ?_)
    · have h := h.1 c
      refine g3_look (tgt := 32) dX9_store_4 rfl hx (by rw [c] <;> rfl) rfl ?_
      refine g3_aload_n 0 dX9_store_32 rfl rfl (g3_getRi (t := 43) dX9_store_33 flX9_15 rfl o4 (g3_iload_n 1 dX9_store_36 rfl rfl (g3_iload_n 2 dX9_store_37 rfl rfl (g3_i2b dX9_store_38 (g3_iast dX9_store_39 ar_43 o4 h.1 (t3_tr _) (g3_goto (tgt := 61) dX9_store_40 rfl (g3_return dX9_store_61 rfl (g3_r0 (g3_iinc (lv' := [(4, vI (x4 + 1)), (0, vR 0 0), (2, vR 42 i2), (3, vI x3)]) 3 dX11_write_71 rfl (z3 rfl) rfl (g3_goto (tgt := 43) dX11_write_74 rfl (g3_sub [1, 2, 3, 0] rfl h.2)))))))))))
    have h := h.2 cs0
    refine g3_by (a := (M 42 i2 0) = 1) (fun c => ?_) (fun cs1 => ?_)
    · have h := h.1 c
      refine g3_look (tgt := 43) dX9_store_4 rfl hx (by rw [c] <;> rfl) rfl ?_
      refine g3_aload_n 0 dX9_store_43 rfl rfl (g3_getRi (t := 43) dX9_store_44 flX9_15 rfl o4 (g3_iload_n 1 dX9_store_47 rfl rfl (g3_iload_n 2 dX9_store_48 rfl rfl (g3_i2s dX9_store_49 (g3_iast dX9_store_50 ar_43 o4 h.1 (t3_tr _) (g3_goto (tgt := 61) dX9_store_51 rfl (g3_return dX9_store_61 rfl (g3_r0 (g3_iinc (lv' := [(4, vI (x4 + 1)), (0, vR 0 0), (2, vR 42 i2), (3, vI x3)]) 3 dX11_write_71 rfl (z3 rfl) rfl (g3_goto (tgt := 43) dX11_write_74 rfl (g3_sub [1, 2, 3, 0] rfl h.2)))))))))))
    have h := h.2 cs1
    refine g3_look (off := 50) (tgt := 54) dX9_store_4 rfl hx (by simp [Op.lookupswitch.offset, cs0, Ne.symm cs0, cs1, Ne.symm cs1]) rfl ?_
    refine g3_aload_n 0 dX9_store_54 rfl rfl (g3_getRi (t := 43) dX9_store_55 flX9_15 rfl o4 (g3_iload_n 1 dX9_store_58 rfl rfl (g3_iload_n 2 dX9_store_59 rfl rfl (g3_iast dX9_store_60 ar_43 o4 h.1 h.2.1 (g3_return dX9_store_61 rfl (g3_r0 (g3_iinc (lv' := [(4, vI (x4 + 1)), (0, vR 0 0), (2, vR 42 i2), (3, vI x3)]) 3 dX11_write_71 rfl (z3 rfl) rfl (g3_goto (tgt := 43) dX11_write_74 rfl (g3_sub [1, 2, 3, 0] rfl h.2.2)))))))))
set_option maxRecDepth 20000 in
set_option maxHeartbeats 200000 in
theorem sX12_write {E : E3} {Q : Q3} {M : M3} {x1 : Int}
    (h : ((-2147483648 ≤ x1 ∧ x1 ≤ 2147483647) ∧ (-2147483648 ≤ (0 : Int) ∧ (0 : Int) ≤ 2147483647) ∧ (-2147483648 ≤ (3 : Int) ∧ (3 : Int) ≤ 2147483647)) ∧ (((0 ≤ x1 ∧ x1 ≤ 3) → ((0 ≤ x1 ∧ x1 < 4) ∧ ((M 80 0 x1 ≠ 0 → (G3 E YX12_write Q 27 [(0, vR 44 0), (1, vI x1), (2, vI 0)] [] M)) ∧ (M 80 0 x1 = 0 → (Q (some (vI ((-10) - 1))) (up3 M 44 0 58 1)))))) ∧ (¬(0 ≤ x1 ∧ x1 ≤ 3) → (Q (some (vI (-2))) M)))) :
    C3 E YX12_write [vR 44 0, vI x1] M Q := by
  refine c3_in rfl rfl (z3 rfl) (g3_rm fun hM => ?_)
  refine g3_iload_n 1 dX12_write_0 rfl rfl (g3_cS1 dX12_write_1 myX12_isSheet mlX12_223 (z3 rfl) (z3 rfl) (c3_in rfl rfl (z3 rfl) (g3_iload_n 0 dX12_isSheet_0 rfl rfl (g3_iconst dX12_isSheet_1 (g3_iconst dX12_isSheet_2 (g3_cS3 dX12_isSheet_3 myX12_in mlX12_144 (z3 rfl) (z3 rfl) (kX12_in h.1 (g3_r1 (g3_zreturn dX12_isSheet_6 rfl (bo3_01 _) (g3_r1 (g3_bool_ne (tgt := 10) dX12_write_4 rfl (fun c => ?_) (fun c => ?_))))))))))))
  · have h1 := h; have h := h1.2.1 c
    have o1 := h1.1
    refine g3_aload_n 0 dX12_write_10 rfl rfl (g3_getR0 (t := 80) dX12_write_11 flX12_129 rfl (z3 rfl) (g3_iload_n 1 dX12_write_14 rfl rfl (g3_zald dX12_write_15 ar_80 (z3 rfl) h.1 (g3_if_ne (tgt := 25) dX12_write_16 rfl (hM 80 0 x1) (fun c => ?_) (fun c => ?_)))))
    · have h1 := h; have h := h1.2.1 c
      have o2 := h1.1
      refine g3_iconst dX12_write_25 (g3_istore_n (lv' := [(2, vI 0), (0, vR 44 0), (1, vI x1)]) dX12_write_26 rfl (z3 rfl) rfl (g3_sub [1, 2, 0] rfl h))
    · have h1 := h; have h := h1.2.2 c
      have o2 := h1.1
      exact g3_aload_n 0 dX12_write_19 rfl rfl (g3_iconst dX12_write_20 (g3_cV1 dX12_write_21 myX12_meets mlX12_226 (z3 rfl) ob_44 (z3 rfl) (z3 rfl) (c3_in rfl rfl (z3 rfl) (g3_aload_n 0 dX12_meets_0 rfl rfl (g3_iload_n 1 dX12_meets_1 rfl rfl (g3_put dX12_meets_2 fpX12_344 (Or.inl rfl) (z3 rfl) (z3 rfl) (g3_bipush dX12_meets_5 rfl (g3_iload_n 1 dX12_meets_7 rfl rfl (g3_isub dX12_meets_8 (g3_ireturn dX12_meets_9 rfl (g3_r1 (g3_ireturn dX12_write_24 rfl h))))))))))))
  · have h1 := h; have h := h1.2.2 c
    have o1 := h1.1
    exact g3_bipush dX12_write_7 rfl (g3_ireturn dX12_write_9 rfl h)
set_option maxRecDepth 20000 in
set_option maxHeartbeats 200000 in
theorem sX12_write_27 {E : E3} {Q : Q3} {M : M3} {x1 : Int} {x2 : Int}
    (h : (-2147483648 ≤ x2 ∧ x2 ≤ 2147483647) ∧ ((20 ≤ x2 → (Q (some (vI x2)) M)) ∧ (x2 < 20 → ((0 ≤ x1 ∧ x1 < 4) ∧ ((M 82 0 x1 ≤ x2 → (Q (some (vI x2)) M)) ∧ (x2 < M 82 0 x1 → ((RdC M ∧ (0 ≤ x2 ∧ x2 < 20) ∧ 0 ≤ (M 44 0 0) ∧ (M 44 0 0) ≤ 399) ∧ (∀ (N1 : M3), RM3 N1 → Em M N1 → (RdC N1) → ((M 81 0 x1 ≠ 0 → ((M 81 0 x1 ≠ 1 → ((0 ≤ (40 * x1) + x2 ∧ (40 * x1) + x2 < 160) ∧ ((-2147483648 ≤ sSd (LM3 M) x2 (M 44 0 0) ∧ sSd (LM3 M) x2 (M 44 0 0) ≤ 2147483647) ∧ (G3 E YX12_write Q 27 [(0, vR 44 0), (1, vI x1), (2, vI (x2 + 1))] [] (up3 N1 83 0 ((40 * x1) + x2) (sSd (LM3 M) x2 (M 44 0 0))))))) ∧ (M 81 0 x1 = 1 → ((0 ≤ (40 * x1) + x2 ∧ (40 * x1) + x2 < 160) ∧ (G3 E YX12_write Q 27 [(0, vR 44 0), (1, vI x1), (2, vI (x2 + 1))] [] (up3 N1 83 0 ((40 * x1) + x2) (i2s3 (sSd (LM3 M) x2 (M 44 0 0))))))))) ∧ (M 81 0 x1 = 0 → ((0 ≤ (40 * x1) + x2 ∧ (40 * x1) + x2 < 160) ∧ (G3 E YX12_write Q 27 [(0, vR 44 0), (1, vI x1), (2, vI (x2 + 1))] [] (up3 N1 83 0 ((40 * x1) + x2) (i2b3 (sSd (LM3 M) x2 (M 44 0 0)))))))))))))))) :
    G3 E YX12_write Q 27 [(0, vR 44 0), (1, vI x1), (2, vI x2)] [] M := by
  refine g3_rm fun hM => ?_
  refine g3_iload_n 2 dX12_write_27 rfl rfl (g3_bipush dX12_write_28 rfl (g3_icmp_ge (tgt := 64) dX12_write_30 rfl h.1 (z3 rfl) (fun c => ?_) (fun c => ?_)))
  · have h1 := h; have h := h1.2.1 c
    have o1 := h1.1
    exact g3_iload_n 2 dX12_write_64 rfl rfl (g3_ireturn dX12_write_65 rfl h)
  · have h1 := h; have h := h1.2.2 c
    have o1 := h1.1
    refine g3_iload_n 2 dX12_write_33 rfl rfl (g3_aload_n 0 dX12_write_34 rfl rfl (g3_getR0 (t := 82) dX12_write_35 flX12_135 rfl (z3 rfl) (g3_iload_n 1 dX12_write_38 rfl rfl (g3_iald dX12_write_39 ar_82 (z3 rfl) h.1 (g3_icmp_ge (tgt := 64) dX12_write_40 rfl o1 (hM 82 0 x1) (fun c => ?_) (fun c => ?_))))))
    · have h1 := h; have h := h1.2.1 c
      have o2 := h1.1
      exact g3_iload_n 2 dX12_write_64 rfl rfl (g3_ireturn dX12_write_65 rfl h)
    · have h1 := h; have h := h1.2.2 c
      have o2 := h1.1
      refine g3_aload_n 0 dX12_write_43 rfl rfl (g3_iload_n 1 dX12_write_44 rfl rfl (g3_iload_n 2 dX12_write_45 rfl rfl (g3_aload_n 0 dX12_write_46 rfl rfl (g3_iload_n 2 dX12_write_47 rfl rfl (g3_aload_n 0 dX12_write_48 rfl rfl (g3_getI (t := 0) dX12_write_49 flX12_151 (z3 rfl) (z3 rfl) (g3_cV2 dX12_write_52 myX12_rightOf mlX12_213 (z3 rfl) ob_44 (z3 rfl) (z3 rfl) (eX12_rightOf Em.rf h.1 (fun N1 hN1 he1 hp1 => ?_)))))))))
      have o3 := h.1
      have h := h.2 N1 hN1 he1 hp1
      refine g3_r1 ?_
      refine g3_cV3 dX12_write_55 myX12_keep mlX12_350 (z3 rfl) ob_44 (z3 rfl) (z3 rfl) (c3_in rfl rfl (z3 rfl) (g3_aload_n 0 dX12_keep_0 rfl rfl (g3_getR0 (t := 83) dX12_keep_1 flX12_138 rfl (z3 rfl) (g3_bipush dX12_keep_4 rfl (g3_iload_n 1 dX12_keep_6 rfl rfl (g3_imul dX12_keep_7 (g3_iload_n 2 dX12_keep_8 rfl rfl (g3_iadd dX12_keep_9 (g3_aload_n 0 dX12_keep_10 rfl rfl (g3_getR0 (t := 81) dX12_keep_11 flX12_132 rfl (z3 rfl) (g3_iload_n 1 dX12_keep_14 rfl rfl (g3_iald dX12_keep_15 ar_81 (z3 rfl) o2 (g3_val (cg3 (he1.1 81 (by decide)) _ _) (g3_if_ne (tgt := 24) dX12_keep_16 rfl (hM 81 0 x1) (fun c => ?_) (fun c => ?_)))))))))))))))
      · have h1 := h; have h := h1.1 c
        refine g3_aload_n 0 dX12_keep_24 rfl rfl (g3_getR0 (t := 81) dX12_keep_25 flX12_132 rfl (z3 rfl) (g3_iload_n 1 dX12_keep_28 rfl rfl (g3_iald dX12_keep_29 ar_81 (z3 rfl) o2 (g3_val (cg3 (he1.1 81 (by decide)) _ _) (g3_iconst dX12_keep_30 (g3_icmp_ne (tgt := 39) dX12_keep_31 rfl (hM 81 0 x1) (z3 rfl) (fun c => ?_) (fun c => ?_)))))))
        · have h1 := h; have h := h1.1 c
          refine g3_iload_n 3 dX12_keep_39 rfl rfl (g3_iast dX12_keep_40 ar_83 (z3 rfl) h.1 h.2.1 (g3_return dX12_keep_41 rfl (g3_r0 (g3_iinc (lv' := [(2, vI (x2 + 1)), (0, vR 44 0), (1, vI x1)]) 2 dX12_write_58 rfl (z3 rfl) rfl (g3_goto (tgt := 27) dX12_write_61 rfl (g3_sub [1, 2, 0] rfl h.2.2))))))
        · have h1 := h; have h := h1.2 c
          refine g3_iload_n 3 dX12_keep_34 rfl rfl (g3_i2s dX12_keep_35 (g3_goto (tgt := 40) dX12_keep_36 rfl (g3_iast dX12_keep_40 ar_83 (z3 rfl) h.1 (t3_tr _) (g3_return dX12_keep_41 rfl (g3_r0 (g3_iinc (lv' := [(2, vI (x2 + 1)), (0, vR 44 0), (1, vI x1)]) 2 dX12_write_58 rfl (z3 rfl) rfl (g3_goto (tgt := 27) dX12_write_61 rfl (g3_sub [1, 2, 0] rfl h.2))))))))
      · have h1 := h; have h := h1.2 c
        refine g3_iload_n 3 dX12_keep_19 rfl rfl (g3_i2b dX12_keep_20 (g3_goto (tgt := 40) dX12_keep_21 rfl (g3_iast dX12_keep_40 ar_83 (z3 rfl) h.1 (t3_tr _) (g3_return dX12_keep_41 rfl (g3_r0 (g3_iinc (lv' := [(2, vI (x2 + 1)), (0, vR 44 0), (1, vI x1)]) 2 dX12_write_58 rfl (z3 rfl) rfl (g3_goto (tgt := 27) dX12_write_61 rfl (g3_sub [1, 2, 0] rfl h.2))))))))
set_option maxRecDepth 20000 in
set_option maxHeartbeats 200000 in
theorem sX11_count {E : E3} {Q : Q3} {M : M3} {x1 : Int}
    (h : (-2147483648 ≤ x1 ∧ x1 ≤ 2147483647) ∧ ((x1 = 0 → (Q (some (vI (M 2 0 0))) M)) ∧ (¬(x1 = 0) → ((x1 = 1 → (Q (some (vI (M 10 0 0))) M)) ∧ (¬(x1 = 1) → ((x1 = 2 → (((0 ≤ M 10 0 0 ∧ M 10 0 0 ≤ 48) ∧ (-2147483648 ≤ ((-1) : Int) ∧ ((-1) : Int) ≤ 2147483647) ∧ (-2147483648 ≤ ((-1) : Int) ∧ ((-1) : Int) ≤ 2147483647) ∧ (-2147483648 ≤ (1 : Int) ∧ (1 : Int) ≤ 2147483647)) ∧ (Q (some (vI (fTally M (-1) (-1) 1))) M))) ∧ (¬(x1 = 2) → ((x1 = 3 → (((0 ≤ M 14 0 0 ∧ M 14 0 0 ≤ 60) ∧ (-2147483648 ≤ ((-1) : Int) ∧ ((-1) : Int) ≤ 2147483647)) ∧ (Q (some (vI (cKnown M (-1)))) M))) ∧ (¬(x1 = 3) → ((x1 = 4 → ((0 ≤ M 14 0 0 ∧ M 14 0 0 ≤ 60) ∧ (Q (some (vI (cReads M))) M))) ∧ (¬(x1 = 4) → ((x1 = 5 → (Q (some (vI (M 36 0 0))) M)) ∧ (¬(x1 = 5) → ((x1 = 6 → (Q (some (vI (M 20 0 0))) M)) ∧ (¬(x1 = 6) → ((x1 = 7 → (Q (some (vI (M 31 0 0))) M)) ∧ (¬(x1 = 7) → ((x1 = 8 → (Q (some (vI (M 3 0 0))) M)) ∧ (¬(x1 = 8) → ((x1 = 9 → (Q (some (vI (M 0 0 9))) M)) ∧ (¬(x1 = 9) → (Q (some (vI (-2))) M)))))))))))))))))))))) :
    C3 E YX11_count [vR 0 0, vI x1] M Q := by
  refine c3_in rfl rfl (z3 rfl) (g3_rm fun hM => ?_)
  refine g3_iload_n 1 dX11_count_0 rfl rfl (?_)
  have o1 := h.1
  have hx := h.1
  have h := h.2
  refine g3_by (a := x1 = 0) (fun c => ?_) (fun cs0 => ?_)
  · have h := h.1 c
    refine g3_tin (n := 0) (tgt := 56) dX11_count_1 c (z3 rfl) (z3 rfl) rfl rfl ?_
    exact g3_aload_n 0 dX11_count_56 rfl rfl (g3_getR0 (t := 2) dX11_count_57 flX11_10 rfl (z3 rfl) (g3_getI (t := 0) dX11_count_60 flX11_82 (z3 rfl) (z3 rfl) (g3_ireturn dX11_count_63 rfl h)))
  have h := h.2 cs0
  refine g3_by (a := x1 = 1) (fun c => ?_) (fun cs1 => ?_)
  · have h := h.1 c
    refine g3_tin (n := 1) (tgt := 64) dX11_count_1 c (z3 rfl) (z3 rfl) rfl rfl ?_
    exact g3_aload_n 0 dX11_count_64 rfl rfl (g3_getR0 (t := 10) dX11_count_65 flX11_26 rfl (z3 rfl) (g3_getI (t := 0) dX11_count_68 flX11_331 (z3 rfl) (z3 rfl) (g3_ireturn dX11_count_71 rfl h)))
  have h := h.2 cs1
  refine g3_by (a := x1 = 2) (fun c => ?_) (fun cs2 => ?_)
  · have h := h.1 c
    refine g3_tin (n := 2) (tgt := 72) dX11_count_1 c (z3 rfl) (z3 rfl) rfl rfl ?_
    exact g3_aload_n 0 dX11_count_72 rfl rfl (g3_getR0 (t := 10) dX11_count_73 flX11_26 rfl (z3 rfl) (g3_iconst dX11_count_76 (g3_iconst dX11_count_77 (g3_iconst dX11_count_78 (g3_cV3 dX11_count_79 myX0_tally mlX11_133 (z3 rfl) ob_10 (z3 rfl) (z3 rfl) (kX0_tally h.1 (g3_r1 (g3_ireturn dX11_count_82 rfl h.2))))))))
  have h := h.2 cs2
  refine g3_by (a := x1 = 3) (fun c => ?_) (fun cs3 => ?_)
  · have h := h.1 c
    refine g3_tin (n := 3) (tgt := 83) dX11_count_1 c (z3 rfl) (z3 rfl) rfl rfl ?_
    exact g3_aload_n 0 dX11_count_83 rfl rfl (g3_getR0 (t := 14) dX11_count_84 flX11_35 rfl (z3 rfl) (g3_iconst dX11_count_87 (g3_cV1 dX11_count_88 myX2_knownOf mlX11_104 (z3 rfl) ob_14 (z3 rfl) (z3 rfl) (kX2_knownOf h.1 (g3_r1 (g3_ireturn dX11_count_91 rfl h.2))))))
  have h := h.2 cs3
  refine g3_by (a := x1 = 4) (fun c => ?_) (fun cs4 => ?_)
  · have h := h.1 c
    refine g3_tin (n := 4) (tgt := 92) dX11_count_1 c (z3 rfl) (z3 rfl) rfl rfl ?_
    exact g3_aload_n 0 dX11_count_92 rfl rfl (g3_getR0 (t := 14) dX11_count_93 flX11_35 rfl (z3 rfl) (g3_cV0 dX11_count_96 myX2_readOnes mlX11_332 (z3 rfl) ob_14 (z3 rfl) (z3 rfl) (kX2_readOnes h.1 (g3_r1 (g3_ireturn dX11_count_99 rfl h.2)))))
  have h := h.2 cs4
  refine g3_by (a := x1 = 5) (fun c => ?_) (fun cs5 => ?_)
  · have h := h.1 c
    refine g3_tin (n := 5) (tgt := 100) dX11_count_1 c (z3 rfl) (z3 rfl) rfl rfl ?_
    exact g3_aload_n 0 dX11_count_100 rfl rfl (g3_getR0 (t := 36) dX11_count_101 flX11_67 rfl (z3 rfl) (g3_getI (t := 0) dX11_count_104 flX11_335 (z3 rfl) (z3 rfl) (g3_ireturn dX11_count_107 rfl h)))
  have h := h.2 cs5
  refine g3_by (a := x1 = 6) (fun c => ?_) (fun cs6 => ?_)
  · have h := h.1 c
    refine g3_tin (n := 6) (tgt := 108) dX11_count_1 c (z3 rfl) (z3 rfl) rfl rfl ?_
    exact g3_aload_n 0 dX11_count_108 rfl rfl (g3_getR0 (t := 20) dX11_count_109 flX11_42 rfl (z3 rfl) (g3_getI (t := 0) dX11_count_112 flX11_336 (z3 rfl) (z3 rfl) (g3_ireturn dX11_count_115 rfl h)))
  have h := h.2 cs6
  refine g3_by (a := x1 = 7) (fun c => ?_) (fun cs7 => ?_)
  · have h := h.1 c
    refine g3_tin (n := 7) (tgt := 116) dX11_count_1 c (z3 rfl) (z3 rfl) rfl rfl ?_
    exact g3_aload_n 0 dX11_count_116 rfl rfl (g3_getR0 (t := 31) dX11_count_117 flX11_58 rfl (z3 rfl) (g3_getI (t := 0) dX11_count_120 flX11_337 (z3 rfl) (z3 rfl) (g3_ireturn dX11_count_123 rfl h)))
  have h := h.2 cs7
  refine g3_by (a := x1 = 8) (fun c => ?_) (fun cs8 => ?_)
  · have h := h.1 c
    refine g3_tin (n := 8) (tgt := 124) dX11_count_1 c (z3 rfl) (z3 rfl) rfl rfl ?_
    exact g3_aload_n 0 dX11_count_124 rfl rfl (g3_getR0 (t := 3) dX11_count_125 flX11_19 rfl (z3 rfl) (g3_getI (t := 0) dX11_count_128 flX11_338 (z3 rfl) (z3 rfl) (g3_ireturn dX11_count_131 rfl h)))
  have h := h.2 cs8
  refine g3_by (a := x1 = 9) (fun c => ?_) (fun cs9 => ?_)
  · have h := h.1 c
    refine g3_tin (n := 9) (tgt := 132) dX11_count_1 c (z3 rfl) (z3 rfl) rfl rfl ?_
    exact g3_aload_n 0 dX11_count_132 rfl rfl (g3_getI (t := 0) dX11_count_133 flX11_341 (z3 rfl) (z3 rfl) (g3_ireturn dX11_count_136 rfl h))
  have h := h.2 cs9
  refine g3_tout (tgt := 137) dX11_count_1 hx (tout_0_9 cs0 cs1 cs2 cs3 cs4 cs5 cs6 cs7 cs8 cs9) rfl ?_
  exact g3_bipush dX11_count_137 rfl (g3_ireturn dX11_count_139 rfl h)
