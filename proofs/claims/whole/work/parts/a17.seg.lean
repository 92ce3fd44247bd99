theorem tout_0_2 {x : Int} (c0 : ¬ (x = 0)) (c1 : ¬ (x = 1)) (c2 : ¬ (x = 2)) : x < 0 ∨ 2 < x := by omega
set_option maxRecDepth 20000 in
set_option maxHeartbeats 200000 in
theorem sX11_pass {E : E3} {Q : Q3} {M : M3} {x1 : Int}
    (h : ((-2147483648 ≤ x1 ∧ x1 ≤ 2147483647) ∧ (-2147483648 ≤ (1 : Int) ∧ (1 : Int) ≤ 2147483647) ∧ (-2147483648 ≤ (100 : Int) ∧ (100 : Int) ≤ 2147483647)) ∧ ((¬(1 ≤ x1 ∧ x1 ≤ 100) → (Q (some (vI (-2))) M)) ∧ ((1 ≤ x1 ∧ x1 ≤ 100) → ((-2147483648 ≤ (M 2 0 0) + x1 ∧ (M 2 0 0) + x1 ≤ 2147483647) ∧ (((M 2 0 0) + x1 ≤ 399 → (Q (some (vI ((M 2 0 0) + x1))) (up3 M 2 0 0 ((M 2 0 0) + x1)))) ∧ (399 < (M 2 0 0) + x1 → (Q (some (vI (-2))) M))))))) :
    C3 E YX11_pass [vR 0 0, vI x1] M Q := by
  refine c3_in rfl rfl (z3 rfl) (g3_rm fun hM => ?_)
  refine g3_iload_n 1 dX11_pass_0 rfl rfl (g3_iconst dX11_pass_1 (g3_bipush dX11_pass_2 rfl (g3_cS3 dX11_pass_4 myX11_within mlX11_78 (z3 rfl) (z3 rfl) (kX11_within h.1 (g3_r1 (g3_bool_eq (tgt := 25) dX11_pass_7 rfl (fun c => ?_) (fun c => ?_)))))))
  · have h1 := h; have h := h1.2.1 c
    have o1 := h1.1
    exact g3_bipush dX11_pass_25 rfl (g3_ireturn dX11_pass_27 rfl h)
  · have h1 := h; have h := h1.2.2 c
    have o1 := h1.1
    refine g3_aload_n 0 dX11_pass_10 rfl rfl (g3_getR0 (t := 2) dX11_pass_11 flX11_10 rfl (z3 rfl) (g3_getI (t := 0) dX11_pass_14 flX11_82 (z3 rfl) (z3 rfl) (g3_iload_n 1 dX11_pass_17 rfl rfl (g3_iadd dX11_pass_18 (g3_sipush dX11_pass_19 rfl (g3_icmp_le (tgt := 28) dX11_pass_22 rfl h.1 (z3 rfl) (fun c => ?_) (fun c => ?_)))))))
    · have h1 := h; have h := h1.2.1 c
      have o2 := h1.1
      exact g3_aload_n 0 dX11_pass_28 rfl rfl (g3_getR0 (t := 2) dX11_pass_29 flX11_10 rfl (z3 rfl) (g3_dup dX11_pass_32 rfl (g3_getI (t := 0) dX11_pass_33 flX11_82 (z3 rfl) (z3 rfl) (g3_iload_n 1 dX11_pass_36 rfl rfl (g3_iadd dX11_pass_37 (g3_put dX11_pass_38 fpX11_82 (Or.inl rfl) (z3 rfl) o2 (g3_aload_n 0 dX11_pass_41 rfl rfl (g3_getR0 (t := 2) dX11_pass_42 flX11_10 rfl (z3 rfl) (g3_getI (t := 0) dX11_pass_45 flX11_82 (z3 rfl) (z3 rfl) (g3_val (up3_eq) (g3_ireturn dX11_pass_48 rfl h)))))))))))
    · have h1 := h; have h := h1.2.2 c
      have o2 := h1.1
      exact g3_bipush dX11_pass_25 rfl (g3_ireturn dX11_pass_27 rfl h)
set_option maxRecDepth 20000 in
set_option maxHeartbeats 200000 in
theorem sX12_pass {E : E3} {Q : Q3} {M : M3} {x1 : Int}
    (h : ((-2147483648 ≤ x1 ∧ x1 ≤ 2147483647) ∧ (-2147483648 ≤ (1 : Int) ∧ (1 : Int) ≤ 2147483647) ∧ (-2147483648 ≤ (100 : Int) ∧ (100 : Int) ≤ 2147483647)) ∧ ((¬(1 ≤ x1 ∧ x1 ≤ 100) → (Q (some (vI (-2))) M)) ∧ ((1 ≤ x1 ∧ x1 ≤ 100) → ((-2147483648 ≤ (M 44 0 0) + x1 ∧ (M 44 0 0) + x1 ≤ 2147483647) ∧ (((M 44 0 0) + x1 ≤ 399 → (Q (some (vI ((M 44 0 0) + x1))) (up3 M 44 0 0 ((M 44 0 0) + x1)))) ∧ (399 < (M 44 0 0) + x1 → (Q (some (vI (-2))) M))))))) :
    C3 E YX12_pass [vR 44 0, vI x1] M Q := by
  refine c3_in rfl rfl (z3 rfl) (g3_rm fun hM => ?_)
  refine g3_iload_n 1 dX12_pass_0 rfl rfl (g3_iconst dX12_pass_1 (g3_bipush dX12_pass_2 rfl (g3_cS3 dX12_pass_4 myX12_in mlX12_144 (z3 rfl) (z3 rfl) (kX12_in h.1 (g3_r1 (g3_bool_eq (tgt := 22) dX12_pass_7 rfl (fun c => ?_) (fun c => ?_)))))))
  · have h1 := h; have h := h1.2.1 c
    have o1 := h1.1
    exact g3_bipush dX12_pass_22 rfl (g3_ireturn dX12_pass_24 rfl h)
  · have h1 := h; have h := h1.2.2 c
    have o1 := h1.1
    refine g3_aload_n 0 dX12_pass_10 rfl rfl (g3_getI (t := 0) dX12_pass_11 flX12_151 (z3 rfl) (z3 rfl) (g3_iload_n 1 dX12_pass_14 rfl rfl (g3_iadd dX12_pass_15 (g3_sipush dX12_pass_16 rfl (g3_icmp_le (tgt := 25) dX12_pass_19 rfl h.1 (z3 rfl) (fun c => ?_) (fun c => ?_))))))
    · have h1 := h; have h := h1.2.1 c
      have o2 := h1.1
      exact g3_aload_n 0 dX12_pass_25 rfl rfl (g3_dup dX12_pass_26 rfl (g3_getI (t := 0) dX12_pass_27 flX12_151 (z3 rfl) (z3 rfl) (g3_iload_n 1 dX12_pass_30 rfl rfl (g3_iadd dX12_pass_31 (g3_put dX12_pass_32 fpX12_151 (Or.inl rfl) (z3 rfl) o2 (g3_aload_n 0 dX12_pass_35 rfl rfl (g3_getI (t := 0) dX12_pass_36 flX12_151 (z3 rfl) (z3 rfl) (g3_val (up3_eq) (g3_ireturn dX12_pass_39 rfl h)))))))))
    · have h1 := h; have h := h1.2.2 c
      have o2 := h1.1
      exact g3_bipush dX12_pass_22 rfl (g3_ireturn dX12_pass_24 rfl h)
set_option maxRecDepth 20000 in
set_option maxHeartbeats 200000 in
theorem sX11_put {E : E3} {Q : Q3} {M : M3} {x1 x2 : Int}
    (h : (-2147483648 ≤ x1 ∧ x1 ≤ 2147483647) ∧ ((x1 < 0 → (Q (some (vI (-2))) M)) ∧ (0 ≤ x1 → ((M 10 0 0 ≤ x1 → (Q (some (vI (-2))) M)) ∧ (x1 < M 10 0 0 → (((-2147483648 ≤ x2 ∧ x2 ≤ 2147483647) ∧ (-2147483648 ≤ (2 : Int) ∧ (2 : Int) ≤ 2147483647) ∧ (-2147483648 ≤ (4 : Int) ∧ (4 : Int) ≤ 2147483647)) ∧ (((2 ≤ x2 ∧ x2 ≤ 4) → ((0 ≤ x1 ∧ x1 < 48) ∧ ((2 < M 13 x1 5 → (Q (some (vI (-3))) M)) ∧ (M 13 x1 5 ≤ 2 → ((-2147483648 ≤ x2 ∧ x2 ≤ 2147483647) ∧ ((x2 ≠ 2 → ((2 < x2 → (Q (some (vI (M 13 x1 5))) (up3 (up3 M 13 x1 5 x2) 13 x1 0 (-1)))) ∧ (x2 ≤ 2 → (Q (some (vI (M 13 x1 5))) (up3 M 13 x1 5 x2))))) ∧ (x2 = 2 → ((M 13 x1 5 = 1 → ((2 < x2 → (Q (some (vI (M 13 x1 5))) (up3 (up3 M 13 x1 5 x2) 13 x1 0 (-1)))) ∧ (x2 ≤ 2 → (Q (some (vI (M 13 x1 5))) (up3 M 13 x1 5 x2))))) ∧ (M 13 x1 5 ≠ 1 → (Q (some (vI (-3))) M)))))))))) ∧ (¬(2 ≤ x2 ∧ x2 ≤ 4) → (Q (some (vI (-2))) M))))))))) :
    C3 E YX11_put [vR 0 0, vI x1, vI x2] M Q := by
  refine c3_in rfl rfl (z3 rfl) (g3_rm fun hM => ?_)
  refine g3_aload_n 0 dX11_put_0 rfl rfl (g3_getR0 (t := 10) dX11_put_1 flX11_26 rfl (z3 rfl) (g3_iload_n 1 dX11_put_4 rfl rfl (g3_cV1 dX11_put_5 myX0_holds mlX11_93 (z3 rfl) ob_10 (z3 rfl) (z3 rfl) (c3_in rfl rfl (z3 rfl) (g3_iload_n 1 dX0_holds_0 rfl rfl (g3_if_lt (tgt := 16) dX0_holds_1 rfl h.1 (fun c => ?_) (fun c => ?_)))))))
  · have h1 := h; have h := h1.2.1 c
    have o1 := h1.1
    exact g3_iconst dX0_holds_16 (g3_zreturn dX0_holds_17 rfl (Or.inl rfl) (g3_r1 (g3_if_eq_T (tgt := 20) dX11_put_8 rfl (z3 rfl) (g3_bipush dX11_put_20 rfl (g3_ireturn dX11_put_22 rfl h)))))
  · have h1 := h; have h := h1.2.2 c
    have o1 := h1.1
    refine g3_iload_n 1 dX0_holds_4 rfl rfl (g3_aload_n 0 dX0_holds_5 rfl rfl (g3_getI (t := 0) dX0_holds_6 flX0_22 (z3 rfl) (z3 rfl) (g3_icmp_ge (tgt := 16) dX0_holds_9 rfl o1 (hM 10 0 0) (fun c => ?_) (fun c => ?_))))
    · have h1 := h; have h := h1.1 c
      exact g3_iconst dX0_holds_16 (g3_zreturn dX0_holds_17 rfl (Or.inl rfl) (g3_r1 (g3_if_eq_T (tgt := 20) dX11_put_8 rfl (z3 rfl) (g3_bipush dX11_put_20 rfl (g3_ireturn dX11_put_22 rfl h)))))
    · have h1 := h; have h := h1.2 c
      refine g3_iconst dX0_holds_12 (g3_goto (tgt := 17) dX0_holds_13 rfl (g3_zreturn dX0_holds_17 rfl (Or.inr rfl) (g3_r1 (g3_if_eq_F (tgt := 20) dX11_put_8 rfl (z3 rfl) (g3_iload_n 2 dX11_put_11 rfl rfl (g3_iconst dX11_put_12 (g3_iconst dX11_put_13 (g3_cS3 dX11_put_14 myX11_within mlX11_78 (z3 rfl) (z3 rfl) (kX11_within h.1 (g3_r1 (g3_bool_ne (tgt := 23) dX11_put_17 rfl (fun c => ?_) (fun c => ?_))))))))))))
      · have h1 := h; have h := h1.2.1 c
        have o2 := h1.1
        refine g3_aload_n 0 dX11_put_23 rfl rfl (g3_getR0 (t := 10) dX11_put_24 flX11_26 rfl (z3 rfl) (g3_iload_n 1 dX11_put_27 rfl rfl (g3_cV1 dX11_put_28 myX0_at mlX11_108 (z3 rfl) ob_10 (z3 rfl) (z3 rfl) (c3_in rfl rfl (z3 rfl) (g3_aload_n 0 dX0_at_0 rfl rfl (g3_getR0 (t := 11) dX0_at_1 flX0_13 rfl (z3 rfl) (g3_iload_n 1 dX0_at_4 rfl rfl (g3_aald dX0_at_5 aq_11 h.1 (g3_areturn dX0_at_6 rfl (g3_r1 (g3_astore_n (lv' := [(3, vR 13 x1), (0, vR 0 0), (1, vI x1), (2, vI x2)]) dX11_put_31 rfl (z3 rfl) rfl (g3_aload_n 0 dX11_put_32 rfl rfl (g3_cV0 dX11_put_33 myX8_lives mlX11_117 (z3 rfl) ob_13 h.1 (z3 rfl) (c3_in rfl rfl (z3 rfl) (g3_aload_n 0 dX8_lives_0 rfl rfl (g3_getI (t := 0) dX8_lives_1 flX8_9 (z3 rfl) h.1 (g3_iconst dX8_lives_4 (g3_icmp_gt (tgt := 12) dX8_lives_5 rfl (hM 13 x1 5) (z3 rfl) (fun c => ?_) (fun c => ?_)))))))))))))))))))
        · have h1 := h; have h := h1.2.1 c
          have o3 := h1.1
          exact g3_iconst dX8_lives_12 (g3_zreturn dX8_lives_13 rfl (Or.inl rfl) (g3_r1 (g3_if_eq_T (tgt := 52) dX11_put_36 rfl (z3 rfl) (g3_bipush dX11_put_52 rfl (g3_ireturn dX11_put_54 rfl h)))))
        · have h1 := h; have h := h1.2.2 c
          have o3 := h1.1
          refine g3_iconst dX8_lives_8 (g3_goto (tgt := 13) dX8_lives_9 rfl (g3_zreturn dX8_lives_13 rfl (Or.inr rfl) (g3_r1 (g3_if_eq_F (tgt := 52) dX11_put_36 rfl (z3 rfl) (g3_iload_n 3 dX11_put_39 rfl rfl (g3_iconst dX11_put_40 (g3_icmp_ne (tgt := 55) dX11_put_41 rfl h.1 (z3 rfl) (fun c => ?_) (fun c => ?_))))))))
          · have h1 := h; have h := h1.2.1 c
            have o4 := h1.1
            refine g3_aload_n 0 dX11_put_55 rfl rfl (g3_getI (t := 0) dX11_put_56 flX11_120 (z3 rfl) o3 (g3_istore (lv' := [(4, vI (M 13 x1 5)), (3, vR 13 x1), (0, vR 0 0), (1, vI x1), (2, vI x2)]) dX11_put_59 (z3 rfl) rfl (g3_aload_n 1 dX11_put_61 rfl rfl (g3_iload_n 4 dX11_put_62 rfl rfl (g3_cV1 dX11_put_63 myX8_become mlX11_123 (z3 rfl) ob_13 o3 (z3 rfl) (c3_in rfl rfl (z3 rfl) (g3_aload_n 0 dX8_become_0 rfl rfl (g3_iload_n 1 dX8_become_1 rfl rfl (g3_put dX8_become_2 fpX8_9 (Or.inl rfl) o3 o4 (g3_aload_n 0 dX8_become_5 rfl rfl (g3_cV0 dX8_become_6 myX8_lives mlX8_15 (z3 rfl) ob_13 o3 (z3 rfl) (c3_in rfl rfl (z3 rfl) (g3_aload_n 0 dX8_lives_0 rfl rfl (g3_getI (t := 0) dX8_lives_1 flX8_9 (z3 rfl) o3 (g3_val (up3_eq) (g3_iconst dX8_lives_4 (g3_icmp_gt (tgt := 12) dX8_lives_5 rfl o4 (z3 rfl) (fun c => ?_) (fun c => ?_))))))))))))))))))
            · have h1 := h; have h := h1.1 c
              exact g3_iconst dX8_lives_12 (g3_zreturn dX8_lives_13 rfl (Or.inl rfl) (g3_r1 (g3_if_ne_F (tgt := 17) dX8_become_9 rfl (z3 rfl) (g3_aload_n 0 dX8_become_12 rfl rfl (g3_iconst dX8_become_13 (g3_put dX8_become_14 fpX8_19 (Or.inl rfl) o3 (z3 rfl) (g3_return dX8_become_17 rfl (g3_r0 (g3_iload 0 dX11_put_66 rfl (g3_ireturn dX11_put_68 rfl h))))))))))
            · have h1 := h; have h := h1.2 c
              exact g3_iconst dX8_lives_8 (g3_goto (tgt := 13) dX8_lives_9 rfl (g3_zreturn dX8_lives_13 rfl (Or.inr rfl) (g3_r1 (g3_if_ne_T (tgt := 17) dX8_become_9 rfl (z3 rfl) (g3_return dX8_become_17 rfl (g3_r0 (g3_iload 0 dX11_put_66 rfl (g3_ireturn dX11_put_68 rfl h))))))))
          · have h1 := h; have h := h1.2.2 c
            have o4 := h1.1
            refine g3_aload_n 0 dX11_put_44 rfl rfl (g3_getI (t := 0) dX11_put_45 flX11_120 (z3 rfl) o3 (g3_iconst dX11_put_48 (g3_icmp_eq (tgt := 55) dX11_put_49 rfl (hM 13 x1 5) (z3 rfl) (fun c => ?_) (fun c => ?_))))
            · have h1 := h; have h := h1.1 c
              refine g3_aload_n 0 dX11_put_55 rfl rfl (g3_getI (t := 0) dX11_put_56 flX11_120 (z3 rfl) o3 (g3_istore (lv' := [(4, vI (M 13 x1 5)), (3, vR 13 x1), (0, vR 0 0), (1, vI x1), (2, vI x2)]) dX11_put_59 (z3 rfl) rfl (g3_aload_n 1 dX11_put_61 rfl rfl (g3_iload_n 4 dX11_put_62 rfl rfl (g3_cV1 dX11_put_63 myX8_become mlX11_123 (z3 rfl) ob_13 o3 (z3 rfl) (c3_in rfl rfl (z3 rfl) (g3_aload_n 0 dX8_become_0 rfl rfl (g3_iload_n 1 dX8_become_1 rfl rfl (g3_put dX8_become_2 fpX8_9 (Or.inl rfl) o3 o4 (g3_aload_n 0 dX8_become_5 rfl rfl (g3_cV0 dX8_become_6 myX8_lives mlX8_15 (z3 rfl) ob_13 o3 (z3 rfl) (c3_in rfl rfl (z3 rfl) (g3_aload_n 0 dX8_lives_0 rfl rfl (g3_getI (t := 0) dX8_lives_1 flX8_9 (z3 rfl) o3 (g3_val (up3_eq) (g3_iconst dX8_lives_4 (g3_icmp_gt (tgt := 12) dX8_lives_5 rfl o4 (z3 rfl) (fun c => ?_) (fun c => ?_))))))))))))))))))
              · have h1 := h; have h := h1.1 c
                exact g3_iconst dX8_lives_12 (g3_zreturn dX8_lives_13 rfl (Or.inl rfl) (g3_r1 (g3_if_ne_F (tgt := 17) dX8_become_9 rfl (z3 rfl) (g3_aload_n 0 dX8_become_12 rfl rfl (g3_iconst dX8_become_13 (g3_put dX8_become_14 fpX8_19 (Or.inl rfl) o3 (z3 rfl) (g3_return dX8_become_17 rfl (g3_r0 (g3_iload 0 dX11_put_66 rfl (g3_ireturn dX11_put_68 rfl h))))))))))
              · have h1 := h; have h := h1.2 c
                exact g3_iconst dX8_lives_8 (g3_goto (tgt := 13) dX8_lives_9 rfl (g3_zreturn dX8_lives_13 rfl (Or.inr rfl) (g3_r1 (g3_if_ne_T (tgt := 17) dX8_become_9 rfl (z3 rfl) (g3_return dX8_become_17 rfl (g3_r0 (g3_iload 0 dX11_put_66 rfl (g3_ireturn dX11_put_68 rfl h))))))))
            · have h1 := h; have h := h1.2 c
              exact g3_bipush dX11_put_52 rfl (g3_ireturn dX11_put_54 rfl h)
      · have h1 := h; have h := h1.2.2 c
        have o2 := h1.1
        exact g3_bipush dX11_put_20 rfl (g3_ireturn dX11_put_22 rfl h)
set_option maxRecDepth 20000 in
set_option maxHeartbeats 200000 in
theorem sX12_put {E : E3} {Q : Q3} {M : M3} {x1 x2 : Int}
    (h : ((-2147483648 ≤ x1 ∧ x1 ≤ 2147483647) ∧ (-2147483648 ≤ (0 : Int) ∧ (0 : Int) ≤ 2147483647) ∧ (-2147483648 ≤ ((M 44 0 1) - 1) ∧ ((M 44 0 1) - 1) ≤ 2147483647)) ∧ ((¬(0 ≤ x1 ∧ x1 ≤ ((M 44 0 1) - 1)) → (Q (some (vI (-2))) M)) ∧ ((0 ≤ x1 ∧ x1 ≤ ((M 44 0 1) - 1)) → (((-2147483648 ≤ x2 ∧ x2 ≤ 2147483647) ∧ (-2147483648 ≤ (2 : Int) ∧ (2 : Int) ≤ 2147483647) ∧ (-2147483648 ≤ (4 : Int) ∧ (4 : Int) ≤ 2147483647)) ∧ (((2 ≤ x2 ∧ x2 ≤ 4) → ((0 ≤ x1 ∧ x1 < 48) ∧ ((¬(M 50 0 x1 < 3) → (Q (some (vI (-3))) M)) ∧ ((M 50 0 x1 < 3) → ((-2147483648 ≤ x2 ∧ x2 ≤ 2147483647) ∧ ((x2 ≠ 2 → (Q (some (vI (M 50 0 x1))) (up3 M 50 0 x1 x2))) ∧ (x2 = 2 → ((M 50 0 x1 = 1 → (Q (some (vI (M 50 0 x1))) (up3 M 50 0 x1 x2))) ∧ (M 50 0 x1 ≠ 1 → (Q (some (vI (-3))) M)))))))))) ∧ (¬(2 ≤ x2 ∧ x2 ≤ 4) → (Q (some (vI (-2))) M))))))) :
    C3 E YX12_put [vR 44 0, vI x1, vI x2] M Q := by
  refine c3_in rfl rfl (z3 rfl) (g3_rm fun hM => ?_)
  refine g3_aload_n 0 dX12_put_0 rfl rfl (g3_iload_n 1 dX12_put_1 rfl rfl (g3_cV1 dX12_put_2 myX12_isPerson mlX12_167 (z3 rfl) ob_44 (z3 rfl) (z3 rfl) (c3_in rfl rfl (z3 rfl) (g3_iload_n 1 dX12_isPerson_0 rfl rfl (g3_iconst dX12_isPerson_1 (g3_aload_n 0 dX12_isPerson_2 rfl rfl (g3_getI (t := 0) dX12_isPerson_3 flX12_148 (z3 rfl) (z3 rfl) (g3_iconst dX12_isPerson_6 (g3_isub dX12_isPerson_7 (g3_cS3 dX12_isPerson_8 myX12_in mlX12_144 (z3 rfl) (z3 rfl) (kX12_in h.1 (g3_r1 (g3_zreturn dX12_isPerson_11 rfl (bo3_01 _) (g3_r1 (g3_bool_eq (tgt := 17) dX12_put_5 rfl (fun c => ?_) (fun c => ?_))))))))))))))))
  · have h1 := h; have h := h1.2.1 c
    have o1 := h1.1
    exact g3_bipush dX12_put_17 rfl (g3_ireturn dX12_put_19 rfl h)
  · have h1 := h; have h := h1.2.2 c
    have o1 := h1.1
    refine g3_iload_n 2 dX12_put_8 rfl rfl (g3_iconst dX12_put_9 (g3_iconst dX12_put_10 (g3_cS3 dX12_put_11 myX12_in mlX12_144 (z3 rfl) (z3 rfl) (kX12_in h.1 (g3_r1 (g3_bool_ne (tgt := 20) dX12_put_14 rfl (fun c => ?_) (fun c => ?_)))))))
    · have h1 := h; have h := h1.2.1 c
      have o2 := h1.1
      refine g3_aload_n 0 dX12_put_20 rfl rfl (g3_iload_n 1 dX12_put_21 rfl rfl (g3_cV1 dX12_put_22 myX12_lives mlX12_158 (z3 rfl) ob_44 (z3 rfl) (z3 rfl) (kX12_lives h.1 (g3_r1 (g3_bool_eq (tgt := 43) dX12_put_25 rfl (fun c => ?_) (fun c => ?_))))))
      · have h1 := h; have h := h1.2.1 c
        have o3 := h1.1
        exact g3_bipush dX12_put_43 rfl (g3_ireturn dX12_put_45 rfl h)
      · have h1 := h; have h := h1.2.2 c
        have o3 := h1.1
        refine g3_iload_n 2 dX12_put_28 rfl rfl (g3_iconst dX12_put_29 (g3_icmp_ne (tgt := 46) dX12_put_30 rfl h.1 (z3 rfl) (fun c => ?_) (fun c => ?_)))
        · have h1 := h; have h := h1.2.1 c
          have o4 := h1.1
          exact g3_aload_n 0 dX12_put_46 rfl rfl (g3_getR0 (t := 50) dX12_put_47 flX12_25 rfl (z3 rfl) (g3_iload_n 1 dX12_put_50 rfl rfl (g3_iald dX12_put_51 ar_50 (z3 rfl) o3 (g3_istore_n (lv' := [(3, vI (M 50 0 x1)), (0, vR 44 0), (1, vI x1), (2, vI x2)]) dX12_put_52 rfl (z3 rfl) rfl (g3_aload_n 1 dX12_put_53 rfl rfl (g3_getR0 (t := 50) dX12_put_54 flX12_25 rfl (z3 rfl) (g3_iload_n 2 dX12_put_57 rfl rfl (g3_iload_n 3 dX12_put_58 rfl rfl (g3_iast dX12_put_59 ar_50 (z3 rfl) o3 o4 (g3_iload_n 0 dX12_put_60 rfl rfl (g3_ireturn dX12_put_61 rfl h)))))))))))
        · have h1 := h; have h := h1.2.2 c
          have o4 := h1.1
          refine g3_aload_n 0 dX12_put_33 rfl rfl (g3_getR0 (t := 50) dX12_put_34 flX12_25 rfl (z3 rfl) (g3_iload_n 1 dX12_put_37 rfl rfl (g3_iald dX12_put_38 ar_50 (z3 rfl) o3 (g3_iconst dX12_put_39 (g3_icmp_eq (tgt := 46) dX12_put_40 rfl (hM 50 0 x1) (z3 rfl) (fun c => ?_) (fun c => ?_))))))
          · have h1 := h; have h := h1.1 c
            exact g3_aload_n 0 dX12_put_46 rfl rfl (g3_getR0 (t := 50) dX12_put_47 flX12_25 rfl (z3 rfl) (g3_iload_n 1 dX12_put_50 rfl rfl (g3_iald dX12_put_51 ar_50 (z3 rfl) o3 (g3_istore_n (lv' := [(3, vI (M 50 0 x1)), (0, vR 44 0), (1, vI x1), (2, vI x2)]) dX12_put_52 rfl (z3 rfl) rfl (g3_aload_n 1 dX12_put_53 rfl rfl (g3_getR0 (t := 50) dX12_put_54 flX12_25 rfl (z3 rfl) (g3_iload_n 2 dX12_put_57 rfl rfl (g3_iload_n 3 dX12_put_58 rfl rfl (g3_iast dX12_put_59 ar_50 (z3 rfl) o3 o4 (g3_iload_n 0 dX12_put_60 rfl rfl (g3_ireturn dX12_put_61 rfl h)))))))))))
          · have h1 := h; have h := h1.2 c
            exact g3_bipush dX12_put_43 rfl (g3_ireturn dX12_put_45 rfl h)
    · have h1 := h; have h := h1.2.2 c
      have o2 := h1.1
      exact g3_bipush dX12_put_17 rfl (g3_ireturn dX12_put_19 rfl h)
set_option maxRecDepth 20000 in
set_option maxHeartbeats 200000 in
theorem sX11_move {E : E3} {Q : Q3} {M : M3} {x1 x2 : Int}
    (h : (-2147483648 ≤ x1 ∧ x1 ≤ 2147483647) ∧ ((x1 < 0 → (Q (some (vI (-2))) M)) ∧ (0 ≤ x1 → ((M 10 0 0 ≤ x1 → (Q (some (vI (-2))) M)) ∧ (x1 < M 10 0 0 → (((-2147483648 ≤ x2 ∧ x2 ≤ 2147483647) ∧ (-2147483648 ≤ (0 : Int) ∧ (0 : Int) ≤ 2147483647) ∧ (-2147483648 ≤ (5 : Int) ∧ (5 : Int) ≤ 2147483647)) ∧ ((¬(0 ≤ x2 ∧ x2 ≤ 5) → (Q (some (vI (-2))) M)) ∧ ((0 ≤ x2 ∧ x2 ≤ 5) → ((0 ≤ x1 ∧ x1 < 48) ∧ ((-2147483648 ≤ x2 ∧ x2 ≤ 2147483647) ∧ ((M 13 x1 0 ≠ x2 → ((2 < M 13 x1 5 → (Q (some (vI (-3))) M)) ∧ (M 13 x1 5 ≤ 2 → (Q (some (vI (M 13 x1 0))) (up3 M 13 x1 0 x2))))) ∧ (M 13 x1 0 = x2 → (Q (some (vI (-2))) M))))))))))))) :
    C3 E YX11_move [vR 0 0, vI x1, vI x2] M Q := by
  refine c3_in rfl rfl (z3 rfl) (g3_rm fun hM => ?_)
  refine g3_aload_n 0 dX11_move_0 rfl rfl (g3_getR0 (t := 10) dX11_move_1 flX11_26 rfl (z3 rfl) (g3_iload_n 1 dX11_move_4 rfl rfl (g3_cV1 dX11_move_5 myX0_holds mlX11_93 (z3 rfl) ob_10 (z3 rfl) (z3 rfl) (c3_in rfl rfl (z3 rfl) (g3_iload_n 1 dX0_holds_0 rfl rfl (g3_if_lt (tgt := 16) dX0_holds_1 rfl h.1 (fun c => ?_) (fun c => ?_)))))))
  · have h1 := h; have h := h1.2.1 c
    have o1 := h1.1
    exact g3_iconst dX0_holds_16 (g3_zreturn dX0_holds_17 rfl (Or.inl rfl) (g3_r1 (g3_if_eq_T (tgt := 33) dX11_move_8 rfl (z3 rfl) (g3_bipush dX11_move_33 rfl (g3_ireturn dX11_move_35 rfl h)))))
  · have h1 := h; have h := h1.2.2 c
    have o1 := h1.1
    refine g3_iload_n 1 dX0_holds_4 rfl rfl (g3_aload_n 0 dX0_holds_5 rfl rfl (g3_getI (t := 0) dX0_holds_6 flX0_22 (z3 rfl) (z3 rfl) (g3_icmp_ge (tgt := 16) dX0_holds_9 rfl o1 (hM 10 0 0) (fun c => ?_) (fun c => ?_))))
    · have h1 := h; have h := h1.1 c
      exact g3_iconst dX0_holds_16 (g3_zreturn dX0_holds_17 rfl (Or.inl rfl) (g3_r1 (g3_if_eq_T (tgt := 33) dX11_move_8 rfl (z3 rfl) (g3_bipush dX11_move_33 rfl (g3_ireturn dX11_move_35 rfl h)))))
    · have h1 := h; have h := h1.2 c
      refine g3_iconst dX0_holds_12 (g3_goto (tgt := 17) dX0_holds_13 rfl (g3_zreturn dX0_holds_17 rfl (Or.inr rfl) (g3_r1 (g3_if_eq_F (tgt := 33) dX11_move_8 rfl (z3 rfl) (g3_iload_n 2 dX11_move_11 rfl rfl (g3_cS1 dX11_move_12 myX11_isBeat mlX11_86 (z3 rfl) (z3 rfl) (c3_in rfl rfl (z3 rfl) (g3_iload_n 0 dX11_isBeat_0 rfl rfl (g3_iconst dX11_isBeat_1 (g3_iconst dX11_isBeat_2 (g3_cS3 dX11_isBeat_3 myX11_within mlX11_78 (z3 rfl) (z3 rfl) (kX11_within h.1 (g3_r1 (g3_zreturn dX11_isBeat_6 rfl (bo3_01 _) (g3_r1 (g3_bool_eq (tgt := 33) dX11_move_15 rfl (fun c => ?_) (fun c => ?_)))))))))))))))))
      · have h1 := h; have h := h1.2.1 c
        have o2 := h1.1
        exact g3_bipush dX11_move_33 rfl (g3_ireturn dX11_move_35 rfl h)
      · have h1 := h; have h := h1.2.2 c
        have o2 := h1.1
        refine g3_aload_n 0 dX11_move_18 rfl rfl (g3_getR0 (t := 10) dX11_move_19 flX11_26 rfl (z3 rfl) (g3_iload_n 1 dX11_move_22 rfl rfl (g3_cV1 dX11_move_23 myX0_at mlX11_108 (z3 rfl) ob_10 (z3 rfl) (z3 rfl) (c3_in rfl rfl (z3 rfl) (g3_aload_n 0 dX0_at_0 rfl rfl (g3_getR0 (t := 11) dX0_at_1 flX0_13 rfl (z3 rfl) (g3_iload_n 1 dX0_at_4 rfl rfl (g3_aald dX0_at_5 aq_11 h.1 (g3_areturn dX0_at_6 rfl (g3_r1 (g3_getI (t := 0) dX11_move_26 flX11_127 (z3 rfl) h.1 (g3_iload_n 2 dX11_move_29 rfl rfl (g3_icmp_ne (tgt := 36) dX11_move_30 rfl (hM 13 x1 0) h.2.1 (fun c => ?_) (fun c => ?_))))))))))))))
        · have h1 := h; have h := h1.2.2.1 c
          have o3 := h1.1
          have o4 := h1.2.1
          refine g3_aload_n 0 dX11_move_36 rfl rfl (g3_getR0 (t := 10) dX11_move_37 flX11_26 rfl (z3 rfl) (g3_iload_n 1 dX11_move_40 rfl rfl (g3_cV1 dX11_move_41 myX0_at mlX11_108 (z3 rfl) ob_10 (z3 rfl) (z3 rfl) (c3_in rfl rfl (z3 rfl) (g3_aload_n 0 dX0_at_0 rfl rfl (g3_getR0 (t := 11) dX0_at_1 flX0_13 rfl (z3 rfl) (g3_iload_n 1 dX0_at_4 rfl rfl (g3_aald dX0_at_5 aq_11 o3 (g3_areturn dX0_at_6 rfl (g3_r1 (g3_astore_n (lv' := [(3, vR 13 x1), (0, vR 0 0), (1, vI x1), (2, vI x2)]) dX11_move_44 rfl (z3 rfl) rfl (g3_aload_n 0 dX11_move_45 rfl rfl (g3_cV0 dX11_move_46 myX8_lives mlX11_117 (z3 rfl) ob_13 o3 (z3 rfl) (c3_in rfl rfl (z3 rfl) (g3_aload_n 0 dX8_lives_0 rfl rfl (g3_getI (t := 0) dX8_lives_1 flX8_9 (z3 rfl) o3 (g3_iconst dX8_lives_4 (g3_icmp_gt (tgt := 12) dX8_lives_5 rfl (hM 13 x1 5) (z3 rfl) (fun c => ?_) (fun c => ?_)))))))))))))))))))
          · have h1 := h; have h := h1.1 c
            exact g3_iconst dX8_lives_12 (g3_zreturn dX8_lives_13 rfl (Or.inl rfl) (g3_r1 (g3_if_ne_F (tgt := 55) dX11_move_49 rfl (z3 rfl) (g3_bipush dX11_move_52 rfl (g3_ireturn dX11_move_54 rfl h)))))
          · have h1 := h; have h := h1.2 c
            exact g3_iconst dX8_lives_8 (g3_goto (tgt := 13) dX8_lives_9 rfl (g3_zreturn dX8_lives_13 rfl (Or.inr rfl) (g3_r1 (g3_if_ne_T (tgt := 55) dX11_move_49 rfl (z3 rfl) (g3_aload_n 0 dX11_move_55 rfl rfl (g3_getI (t := 0) dX11_move_56 flX11_127 (z3 rfl) o3 (g3_istore (lv' := [(4, vI (M 13 x1 0)), (3, vR 13 x1), (0, vR 0 0), (1, vI x1), (2, vI x2)]) dX11_move_59 (z3 rfl) rfl (g3_aload_n 1 dX11_move_61 rfl rfl (g3_iload_n 4 dX11_move_62 rfl rfl (g3_put dX11_move_63 fpX11_127 (Or.inl rfl) o3 o4 (g3_iload 0 dX11_move_66 rfl (g3_ireturn dX11_move_68 rfl h))))))))))))
        · have h1 := h; have h := h1.2.2.2 c
          have o3 := h1.1
          have o4 := h1.2.1
          exact g3_bipush dX11_move_33 rfl (g3_ireturn dX11_move_35 rfl h)
set_option maxRecDepth 20000 in
set_option maxHeartbeats 200000 in
theorem sX12_move {E : E3} {Q : Q3} {M : M3} {x1 x2 : Int}
    (h : ((-2147483648 ≤ x1 ∧ x1 ≤ 2147483647) ∧ (-2147483648 ≤ (0 : Int) ∧ (0 : Int) ≤ 2147483647) ∧ (-2147483648 ≤ ((M 44 0 1) - 1) ∧ ((M 44 0 1) - 1) ≤ 2147483647)) ∧ ((¬(0 ≤ x1 ∧ x1 ≤ ((M 44 0 1) - 1)) → (Q (some (vI (-2))) M)) ∧ ((0 ≤ x1 ∧ x1 ≤ ((M 44 0 1) - 1)) → (((-2147483648 ≤ x2 ∧ x2 ≤ 2147483647) ∧ (-2147483648 ≤ (0 : Int) ∧ (0 : Int) ≤ 2147483647) ∧ (-2147483648 ≤ (5 : Int) ∧ (5 : Int) ≤ 2147483647)) ∧ ((¬(0 ≤ x2 ∧ x2 ≤ 5) → (Q (some (vI (-2))) M)) ∧ ((0 ≤ x2 ∧ x2 ≤ 5) → ((0 ≤ x1 ∧ x1 < 48) ∧ ((¬(M 50 0 x1 < 3) → (((M 50 0 x1 < 3) → ((-2147483648 ≤ x2 ∧ x2 ≤ 2147483647) ∧ (Q (some (vI (M 45 0 x1))) (up3 M 45 0 x1 x2)))) ∧ (¬(M 50 0 x1 < 3) → (Q (some (vI (-3))) M)))) ∧ ((M 50 0 x1 < 3) → ((-2147483648 ≤ x2 ∧ x2 ≤ 2147483647) ∧ ((M 45 0 x1 ≠ x2 → (((M 50 0 x1 < 3) → (Q (some (vI (M 45 0 x1))) (up3 M 45 0 x1 x2))) ∧ (¬(M 50 0 x1 < 3) → (Q (some (vI (-3))) M)))) ∧ (M 45 0 x1 = x2 → (Q (some (vI (-2))) M))))))))))))) :
    C3 E YX12_move [vR 44 0, vI x1, vI x2] M Q := by
  refine c3_in rfl rfl (z3 rfl) (g3_rm fun hM => ?_)
  refine g3_aload_n 0 dX12_move_0 rfl rfl (g3_iload_n 1 dX12_move_1 rfl rfl (g3_cV1 dX12_move_2 myX12_isPerson mlX12_167 (z3 rfl) ob_44 (z3 rfl) (z3 rfl) (c3_in rfl rfl (z3 rfl) (g3_iload_n 1 dX12_isPerson_0 rfl rfl (g3_iconst dX12_isPerson_1 (g3_aload_n 0 dX12_isPerson_2 rfl rfl (g3_getI (t := 0) dX12_isPerson_3 flX12_148 (z3 rfl) (z3 rfl) (g3_iconst dX12_isPerson_6 (g3_isub dX12_isPerson_7 (g3_cS3 dX12_isPerson_8 myX12_in mlX12_144 (z3 rfl) (z3 rfl) (kX12_in h.1 (g3_r1 (g3_zreturn dX12_isPerson_11 rfl (bo3_01 _) (g3_r1 (g3_bool_eq (tgt := 33) dX12_move_5 rfl (fun c => ?_) (fun c => ?_))))))))))))))))
  · have h1 := h; have h := h1.2.1 c
    have o1 := h1.1
    exact g3_bipush dX12_move_33 rfl (g3_ireturn dX12_move_35 rfl h)
  · have h1 := h; have h := h1.2.2 c
    have o1 := h1.1
    refine g3_iload_n 2 dX12_move_8 rfl rfl (g3_cS1 dX12_move_9 myX12_isBeat mlX12_154 (z3 rfl) (z3 rfl) (c3_in rfl rfl (z3 rfl) (g3_iload_n 0 dX12_isBeat_0 rfl rfl (g3_iconst dX12_isBeat_1 (g3_iconst dX12_isBeat_2 (g3_cS3 dX12_isBeat_3 myX12_in mlX12_144 (z3 rfl) (z3 rfl) (kX12_in h.1 (g3_r1 (g3_zreturn dX12_isBeat_6 rfl (bo3_01 _) (g3_r1 (g3_bool_eq (tgt := 33) dX12_move_12 rfl (fun c => ?_) (fun c => ?_))))))))))))
    · have h1 := h; have h := h1.2.1 c
      have o2 := h1.1
      exact g3_bipush dX12_move_33 rfl (g3_ireturn dX12_move_35 rfl h)
    · have h1 := h; have h := h1.2.2 c
      have o2 := h1.1
      refine g3_aload_n 0 dX12_move_15 rfl rfl (g3_iload_n 1 dX12_move_16 rfl rfl (g3_cV1 dX12_move_17 myX12_lives mlX12_158 (z3 rfl) ob_44 (z3 rfl) (z3 rfl) (kX12_lives h.1 (g3_r1 (g3_bool_eq (tgt := 36) dX12_move_20 rfl (fun c => ?_) (fun c => ?_))))))
      · have h1 := h; have h := h1.2.1 c
        have o3 := h1.1
        refine g3_aload_n 0 dX12_move_36 rfl rfl (g3_iload_n 1 dX12_move_37 rfl rfl (g3_cV1 dX12_move_38 myX12_lives mlX12_158 (z3 rfl) ob_44 (z3 rfl) (z3 rfl) (kX12_lives o3 (g3_r1 (g3_bool_ne (tgt := 47) dX12_move_41 rfl (fun c => ?_) (fun c => ?_))))))
        · have h1 := h; have h := h1.1 c
          exact g3_aload_n 0 dX12_move_47 rfl rfl (g3_getR0 (t := 45) dX12_move_48 flX12_7 rfl (z3 rfl) (g3_iload_n 1 dX12_move_51 rfl rfl (g3_iald dX12_move_52 ar_45 (z3 rfl) o3 (g3_istore_n (lv' := [(3, vI (M 45 0 x1)), (0, vR 44 0), (1, vI x1), (2, vI x2)]) dX12_move_53 rfl (z3 rfl) rfl (g3_aload_n 1 dX12_move_54 rfl rfl (g3_getR0 (t := 45) dX12_move_55 flX12_7 rfl (z3 rfl) (g3_iload_n 2 dX12_move_58 rfl rfl (g3_iload_n 3 dX12_move_59 rfl rfl (g3_iast dX12_move_60 ar_45 (z3 rfl) o3 h.1 (g3_iload_n 0 dX12_move_61 rfl rfl (g3_ireturn dX12_move_62 rfl h.2)))))))))))
        · have h1 := h; have h := h1.2 c
          exact g3_bipush dX12_move_44 rfl (g3_ireturn dX12_move_46 rfl h)
      · have h1 := h; have h := h1.2.2 c
        have o3 := h1.1
        refine g3_aload_n 0 dX12_move_23 rfl rfl (g3_getR0 (t := 45) dX12_move_24 flX12_7 rfl (z3 rfl) (g3_iload_n 1 dX12_move_27 rfl rfl (g3_iald dX12_move_28 ar_45 (z3 rfl) o3 (g3_iload_n 2 dX12_move_29 rfl rfl (g3_icmp_ne (tgt := 36) dX12_move_30 rfl (hM 45 0 x1) h.1 (fun c => ?_) (fun c => ?_))))))
        · have h1 := h; have h := h1.2.1 c
          have o5 := h1.1
          refine g3_aload_n 0 dX12_move_36 rfl rfl (g3_iload_n 1 dX12_move_37 rfl rfl (g3_cV1 dX12_move_38 myX12_lives mlX12_158 (z3 rfl) ob_44 (z3 rfl) (z3 rfl) (kX12_lives o3 (g3_r1 (g3_bool_ne (tgt := 47) dX12_move_41 rfl (fun c => ?_) (fun c => ?_))))))
          · have h1 := h; have h := h1.1 c
            exact g3_aload_n 0 dX12_move_47 rfl rfl (g3_getR0 (t := 45) dX12_move_48 flX12_7 rfl (z3 rfl) (g3_iload_n 1 dX12_move_51 rfl rfl (g3_iald dX12_move_52 ar_45 (z3 rfl) o3 (g3_istore_n (lv' := [(3, vI (M 45 0 x1)), (0, vR 44 0), (1, vI x1), (2, vI x2)]) dX12_move_53 rfl (z3 rfl) rfl (g3_aload_n 1 dX12_move_54 rfl rfl (g3_getR0 (t := 45) dX12_move_55 flX12_7 rfl (z3 rfl) (g3_iload_n 2 dX12_move_58 rfl rfl (g3_iload_n 3 dX12_move_59 rfl rfl (g3_iast dX12_move_60 ar_45 (z3 rfl) o3 o5 (g3_iload_n 0 dX12_move_61 rfl rfl (g3_ireturn dX12_move_62 rfl h)))))))))))
          · have h1 := h; have h := h1.2 c
            exact g3_bipush dX12_move_44 rfl (g3_ireturn dX12_move_46 rfl h)
        · have h1 := h; have h := h1.2.2 c
          have o5 := h1.1
          exact g3_bipush dX12_move_33 rfl (g3_ireturn dX12_move_35 rfl h)
set_option maxRecDepth 20000 in
set_option maxHeartbeats 200000 in
theorem sX11_harsh {E : E3} {Q : Q3} {M : M3} {x1 x2 : Int}
    (h : (-2147483648 ≤ x1 ∧ x1 ≤ 2147483647) ∧ ((x1 < 0 → (Q (some (vI (-2))) M)) ∧ (0 ≤ x1 → ((M 10 0 0 ≤ x1 → (Q (some (vI (-2))) M)) ∧ (x1 < M 10 0 0 → (((-2147483648 ≤ x2 ∧ x2 ≤ 2147483647) ∧ (-2147483648 ≤ (0 : Int) ∧ (0 : Int) ≤ 2147483647) ∧ (-2147483648 ≤ (9 : Int) ∧ (9 : Int) ≤ 2147483647)) ∧ (((0 ≤ x2 ∧ x2 ≤ 9) → ((0 ≤ x1 ∧ x1 < 48) ∧ ((-2147483648 ≤ x2 ∧ x2 ≤ 2147483647) ∧ (Q (some (vI (M 13 x1 6))) (up3 M 13 x1 6 x2))))) ∧ (¬(0 ≤ x2 ∧ x2 ≤ 9) → (Q (some (vI (-2))) M))))))))) :
    C3 E YX11_harsh [vR 0 0, vI x1, vI x2] M Q := by
  refine c3_in rfl rfl (z3 rfl) (g3_rm fun hM => ?_)
  refine g3_aload_n 0 dX11_harsh_0 rfl rfl (g3_getR0 (t := 10) dX11_harsh_1 flX11_26 rfl (z3 rfl) (g3_iload_n 1 dX11_harsh_4 rfl rfl (g3_cV1 dX11_harsh_5 myX0_holds mlX11_93 (z3 rfl) ob_10 (z3 rfl) (z3 rfl) (c3_in rfl rfl (z3 rfl) (g3_iload_n 1 dX0_holds_0 rfl rfl (g3_if_lt (tgt := 16) dX0_holds_1 rfl h.1 (fun c => ?_) (fun c => ?_)))))))
  · have h1 := h; have h := h1.2.1 c
    have o1 := h1.1
    exact g3_iconst dX0_holds_16 (g3_zreturn dX0_holds_17 rfl (Or.inl rfl) (g3_r1 (g3_if_eq_T (tgt := 21) dX11_harsh_8 rfl (z3 rfl) (g3_bipush dX11_harsh_21 rfl (g3_ireturn dX11_harsh_23 rfl h)))))
  · have h1 := h; have h := h1.2.2 c
    have o1 := h1.1
    refine g3_iload_n 1 dX0_holds_4 rfl rfl (g3_aload_n 0 dX0_holds_5 rfl rfl (g3_getI (t := 0) dX0_holds_6 flX0_22 (z3 rfl) (z3 rfl) (g3_icmp_ge (tgt := 16) dX0_holds_9 rfl o1 (hM 10 0 0) (fun c => ?_) (fun c => ?_))))
    · have h1 := h; have h := h1.1 c
      exact g3_iconst dX0_holds_16 (g3_zreturn dX0_holds_17 rfl (Or.inl rfl) (g3_r1 (g3_if_eq_T (tgt := 21) dX11_harsh_8 rfl (z3 rfl) (g3_bipush dX11_harsh_21 rfl (g3_ireturn dX11_harsh_23 rfl h)))))
    · have h1 := h; have h := h1.2 c
      refine g3_iconst dX0_holds_12 (g3_goto (tgt := 17) dX0_holds_13 rfl (g3_zreturn dX0_holds_17 rfl (Or.inr rfl) (g3_r1 (g3_if_eq_F (tgt := 21) dX11_harsh_8 rfl (z3 rfl) (g3_iload_n 2 dX11_harsh_11 rfl rfl (g3_iconst dX11_harsh_12 (g3_bipush dX11_harsh_13 rfl (g3_cS3 dX11_harsh_15 myX11_within mlX11_78 (z3 rfl) (z3 rfl) (kX11_within h.1 (g3_r1 (g3_bool_ne (tgt := 24) dX11_harsh_18 rfl (fun c => ?_) (fun c => ?_))))))))))))
      · have h1 := h; have h := h1.2.1 c
        have o2 := h1.1
        exact g3_aload_n 0 dX11_harsh_24 rfl rfl (g3_getR0 (t := 10) dX11_harsh_25 flX11_26 rfl (z3 rfl) (g3_iload_n 1 dX11_harsh_28 rfl rfl (g3_cV1 dX11_harsh_29 myX0_at mlX11_108 (z3 rfl) ob_10 (z3 rfl) (z3 rfl) (c3_in rfl rfl (z3 rfl) (g3_aload_n 0 dX0_at_0 rfl rfl (g3_getR0 (t := 11) dX0_at_1 flX0_13 rfl (z3 rfl) (g3_iload_n 1 dX0_at_4 rfl rfl (g3_aald dX0_at_5 aq_11 h.1 (g3_areturn dX0_at_6 rfl (g3_r1 (g3_astore_n (lv' := [(3, vR 13 x1), (0, vR 0 0), (1, vI x1), (2, vI x2)]) dX11_harsh_32 rfl (z3 rfl) rfl (g3_aload_n 0 dX11_harsh_33 rfl rfl (g3_getI (t := 0) dX11_harsh_34 flX11_130 (z3 rfl) h.1 (g3_istore (lv' := [(4, vI (M 13 x1 6)), (3, vR 13 x1), (0, vR 0 0), (1, vI x1), (2, vI x2)]) dX11_harsh_37 (z3 rfl) rfl (g3_aload_n 1 dX11_harsh_39 rfl rfl (g3_iload_n 4 dX11_harsh_40 rfl rfl (g3_put dX11_harsh_41 fpX11_130 (Or.inl rfl) h.1 h.2.1 (g3_iload 0 dX11_harsh_44 rfl (g3_ireturn dX11_harsh_46 rfl h.2.2)))))))))))))))))))
      · have h1 := h; have h := h1.2.2 c
        have o2 := h1.1
        exact g3_bipush dX11_harsh_21 rfl (g3_ireturn dX11_harsh_23 rfl h)
set_option maxRecDepth 20000 in
set_option maxHeartbeats 200000 in
theorem sX12_harsh {E : E3} {Q : Q3} {M : M3} {x1 x2 : Int}
    (h : ((-2147483648 ≤ x1 ∧ x1 ≤ 2147483647) ∧ (-2147483648 ≤ (0 : Int) ∧ (0 : Int) ≤ 2147483647) ∧ (-2147483648 ≤ ((M 44 0 1) - 1) ∧ ((M 44 0 1) - 1) ≤ 2147483647)) ∧ ((¬(0 ≤ x1 ∧ x1 ≤ ((M 44 0 1) - 1)) → (Q (some (vI (-2))) M)) ∧ ((0 ≤ x1 ∧ x1 ≤ ((M 44 0 1) - 1)) → (((-2147483648 ≤ x2 ∧ x2 ≤ 2147483647) ∧ (-2147483648 ≤ (0 : Int) ∧ (0 : Int) ≤ 2147483647) ∧ (-2147483648 ≤ (9 : Int) ∧ (9 : Int) ≤ 2147483647)) ∧ (((0 ≤ x2 ∧ x2 ≤ 9) → ((0 ≤ x1 ∧ x1 < 48) ∧ ((-2147483648 ≤ x2 ∧ x2 ≤ 2147483647) ∧ (Q (some (vI (M 51 0 x1))) (up3 M 51 0 x1 x2))))) ∧ (¬(0 ≤ x2 ∧ x2 ≤ 9) → (Q (some (vI (-2))) M))))))) :
    C3 E YX12_harsh [vR 44 0, vI x1, vI x2] M Q := by
  refine c3_in rfl rfl (z3 rfl) (g3_rm fun hM => ?_)
  refine g3_aload_n 0 dX12_harsh_0 rfl rfl (g3_iload_n 1 dX12_harsh_1 rfl rfl (g3_cV1 dX12_harsh_2 myX12_isPerson mlX12_167 (z3 rfl) ob_44 (z3 rfl) (z3 rfl) (c3_in rfl rfl (z3 rfl) (g3_iload_n 1 dX12_isPerson_0 rfl rfl (g3_iconst dX12_isPerson_1 (g3_aload_n 0 dX12_isPerson_2 rfl rfl (g3_getI (t := 0) dX12_isPerson_3 flX12_148 (z3 rfl) (z3 rfl) (g3_iconst dX12_isPerson_6 (g3_isub dX12_isPerson_7 (g3_cS3 dX12_isPerson_8 myX12_in mlX12_144 (z3 rfl) (z3 rfl) (kX12_in h.1 (g3_r1 (g3_zreturn dX12_isPerson_11 rfl (bo3_01 _) (g3_r1 (g3_bool_eq (tgt := 18) dX12_harsh_5 rfl (fun c => ?_) (fun c => ?_))))))))))))))))
  · have h1 := h; have h := h1.2.1 c
    have o1 := h1.1
    exact g3_bipush dX12_harsh_18 rfl (g3_ireturn dX12_harsh_20 rfl h)
  · have h1 := h; have h := h1.2.2 c
    have o1 := h1.1
    refine g3_iload_n 2 dX12_harsh_8 rfl rfl (g3_iconst dX12_harsh_9 (g3_bipush dX12_harsh_10 rfl (g3_cS3 dX12_harsh_12 myX12_in mlX12_144 (z3 rfl) (z3 rfl) (kX12_in h.1 (g3_r1 (g3_bool_ne (tgt := 21) dX12_harsh_15 rfl (fun c => ?_) (fun c => ?_)))))))
    · have h1 := h; have h := h1.2.1 c
      have o2 := h1.1
      exact g3_aload_n 0 dX12_harsh_21 rfl rfl (g3_getR0 (t := 51) dX12_harsh_22 flX12_28 rfl (z3 rfl) (g3_iload_n 1 dX12_harsh_25 rfl rfl (g3_iald dX12_harsh_26 ar_51 (z3 rfl) h.1 (g3_istore_n (lv' := [(3, vI (M 51 0 x1)), (0, vR 44 0), (1, vI x1), (2, vI x2)]) dX12_harsh_27 rfl (z3 rfl) rfl (g3_aload_n 1 dX12_harsh_28 rfl rfl (g3_getR0 (t := 51) dX12_harsh_29 flX12_28 rfl (z3 rfl) (g3_iload_n 2 dX12_harsh_32 rfl rfl (g3_iload_n 3 dX12_harsh_33 rfl rfl (g3_iast dX12_harsh_34 ar_51 (z3 rfl) h.1 h.2.1 (g3_iload_n 0 dX12_harsh_35 rfl rfl (g3_ireturn dX12_harsh_36 rfl h.2.2)))))))))))
    · have h1 := h; have h := h1.2.2 c
      have o2 := h1.1
      exact g3_bipush dX12_harsh_18 rfl (g3_ireturn dX12_harsh_20 rfl h)
set_option maxRecDepth 20000 in
set_option maxHeartbeats 200000 in
theorem sX11_roll {E : E3} {Q : Q3} {M : M3} {x1 x2 x3 : Int}
    (h : (-2147483648 ≤ x1 ∧ x1 ≤ 2147483647) ∧ ((x1 = (-1) → ((-2147483648 ≤ x2 ∧ x2 ≤ 2147483647) ∧ ((x2 = (-1) → (((-2147483648 ≤ x3 ∧ x3 ≤ 2147483647) ∧ (-2147483648 ≤ (0 : Int) ∧ (0 : Int) ≤ 2147483647) ∧ (-2147483648 ≤ (2 : Int) ∧ (2 : Int) ≤ 2147483647)) ∧ (((0 ≤ x3 ∧ x3 ≤ 2) → (((0 ≤ M 10 0 0 ∧ M 10 0 0 ≤ 48) ∧ (-2147483648 ≤ x1 ∧ x1 ≤ 2147483647) ∧ (-2147483648 ≤ x2 ∧ x2 ≤ 2147483647) ∧ (-2147483648 ≤ x3 ∧ x3 ≤ 2147483647)) ∧ (Q (some (vI (fTally M x1 x2 x3))) M))) ∧ (¬(0 ≤ x3 ∧ x3 ≤ 2) → (Q (some (vI (-2))) M))))) ∧ (x2 ≠ (-1) → (((-2147483648 ≤ x2 ∧ x2 ≤ 2147483647) ∧ (-2147483648 ≤ (0 : Int) ∧ (0 : Int) ≤ 2147483647) ∧ (-2147483648 ≤ (1 : Int) ∧ (1 : Int) ≤ 2147483647)) ∧ ((¬(0 ≤ x2 ∧ x2 ≤ 1) → (Q (some (vI (-2))) M)) ∧ ((0 ≤ x2 ∧ x2 ≤ 1) → (((-2147483648 ≤ x3 ∧ x3 ≤ 2147483647) ∧ (-2147483648 ≤ (0 : Int) ∧ (0 : Int) ≤ 2147483647) ∧ (-2147483648 ≤ (2 : Int) ∧ (2 : Int) ≤ 2147483647)) ∧ (((0 ≤ x3 ∧ x3 ≤ 2) → (((0 ≤ M 10 0 0 ∧ M 10 0 0 ≤ 48) ∧ (-2147483648 ≤ x1 ∧ x1 ≤ 2147483647) ∧ (-2147483648 ≤ x2 ∧ x2 ≤ 2147483647) ∧ (-2147483648 ≤ x3 ∧ x3 ≤ 2147483647)) ∧ (Q (some (vI (fTally M x1 x2 x3))) M))) ∧ (¬(0 ≤ x3 ∧ x3 ≤ 2) → (Q (some (vI (-2))) M))))))))))) ∧ (x1 ≠ (-1) → (((-2147483648 ≤ x1 ∧ x1 ≤ 2147483647) ∧ (-2147483648 ≤ (0 : Int) ∧ (0 : Int) ≤ 2147483647) ∧ (-2147483648 ≤ (5 : Int) ∧ (5 : Int) ≤ 2147483647)) ∧ ((¬(0 ≤ x1 ∧ x1 ≤ 5) → (Q (some (vI (-2))) M)) ∧ ((0 ≤ x1 ∧ x1 ≤ 5) → ((-2147483648 ≤ x2 ∧ x2 ≤ 2147483647) ∧ ((x2 = (-1) → (((-2147483648 ≤ x3 ∧ x3 ≤ 2147483647) ∧ (-2147483648 ≤ (0 : Int) ∧ (0 : Int) ≤ 2147483647) ∧ (-2147483648 ≤ (2 : Int) ∧ (2 : Int) ≤ 2147483647)) ∧ (((0 ≤ x3 ∧ x3 ≤ 2) → (((0 ≤ M 10 0 0 ∧ M 10 0 0 ≤ 48) ∧ (-2147483648 ≤ x1 ∧ x1 ≤ 2147483647) ∧ (-2147483648 ≤ x2 ∧ x2 ≤ 2147483647) ∧ (-2147483648 ≤ x3 ∧ x3 ≤ 2147483647)) ∧ (Q (some (vI (fTally M x1 x2 x3))) M))) ∧ (¬(0 ≤ x3 ∧ x3 ≤ 2) → (Q (some (vI (-2))) M))))) ∧ (x2 ≠ (-1) → (((-2147483648 ≤ x2 ∧ x2 ≤ 2147483647) ∧ (-2147483648 ≤ (0 : Int) ∧ (0 : Int) ≤ 2147483647) ∧ (-2147483648 ≤ (1 : Int) ∧ (1 : Int) ≤ 2147483647)) ∧ ((¬(0 ≤ x2 ∧ x2 ≤ 1) → (Q (some (vI (-2))) M)) ∧ ((0 ≤ x2 ∧ x2 ≤ 1) → (((-2147483648 ≤ x3 ∧ x3 ≤ 2147483647) ∧ (-2147483648 ≤ (0 : Int) ∧ (0 : Int) ≤ 2147483647) ∧ (-2147483648 ≤ (2 : Int) ∧ (2 : Int) ≤ 2147483647)) ∧ (((0 ≤ x3 ∧ x3 ≤ 2) → (((0 ≤ M 10 0 0 ∧ M 10 0 0 ≤ 48) ∧ (-2147483648 ≤ x1 ∧ x1 ≤ 2147483647) ∧ (-2147483648 ≤ x2 ∧ x2 ≤ 2147483647) ∧ (-2147483648 ≤ x3 ∧ x3 ≤ 2147483647)) ∧ (Q (some (vI (fTally M x1 x2 x3))) M))) ∧ (¬(0 ≤ x3 ∧ x3 ≤ 2) → (Q (some (vI (-2))) M)))))))))))))))) :
    C3 E YX11_roll [vR 0 0, vI x1, vI x2, vI x3] M Q := by
  refine c3_in rfl rfl (z3 rfl) (g3_rm fun hM => ?_)
  refine g3_iload_n 1 dX11_roll_0 rfl rfl (g3_iconst dX11_roll_1 (g3_icmp_eq (tgt := 12) dX11_roll_2 rfl h.1 (z3 rfl) (fun c => ?_) (fun c => ?_)))
  · have h1 := h; have h := h1.2.1 c
    have o1 := h1.1
    refine g3_iload_n 2 dX11_roll_12 rfl rfl (g3_iconst dX11_roll_13 (g3_icmp_eq (tgt := 24) dX11_roll_14 rfl h.1 (z3 rfl) (fun c => ?_) (fun c => ?_)))
    · have h1 := h; have h := h1.2.1 c
      have o2 := h1.1
      refine g3_iload_n 3 dX11_roll_24 rfl rfl (g3_iconst dX11_roll_25 (g3_iconst dX11_roll_26 (g3_cS3 dX11_roll_27 myX11_within mlX11_78 (z3 rfl) (z3 rfl) (kX11_within h.1 (g3_r1 (g3_bool_ne (tgt := 36) dX11_roll_30 rfl (fun c => ?_) (fun c => ?_)))))))
      · have h1 := h; have h := h1.2.1 c
        have o3 := h1.1
        exact g3_aload_n 0 dX11_roll_36 rfl rfl (g3_getR0 (t := 10) dX11_roll_37 flX11_26 rfl (z3 rfl) (g3_iload_n 1 dX11_roll_40 rfl rfl (g3_iload_n 2 dX11_roll_41 rfl rfl (g3_iload_n 3 dX11_roll_42 rfl rfl (g3_cV3 dX11_roll_43 myX0_tally mlX11_133 (z3 rfl) ob_10 (z3 rfl) (z3 rfl) (kX0_tally h.1 (g3_r1 (g3_ireturn dX11_roll_46 rfl h.2))))))))
      · have h1 := h; have h := h1.2.2 c
        have o3 := h1.1
        exact g3_bipush dX11_roll_33 rfl (g3_ireturn dX11_roll_35 rfl h)
    · have h1 := h; have h := h1.2.2 c
      have o2 := h1.1
      refine g3_iload_n 2 dX11_roll_17 rfl rfl (g3_cS1 dX11_roll_18 myX11_isSort mlX11_90 (z3 rfl) (z3 rfl) (c3_in rfl rfl (z3 rfl) (g3_iload_n 0 dX11_isSort_0 rfl rfl (g3_iconst dX11_isSort_1 (g3_iconst dX11_isSort_2 (g3_cS3 dX11_isSort_3 myX11_within mlX11_78 (z3 rfl) (z3 rfl) (kX11_within h.1 (g3_r1 (g3_zreturn dX11_isSort_6 rfl (bo3_01 _) (g3_r1 (g3_bool_eq (tgt := 33) dX11_roll_21 rfl (fun c => ?_) (fun c => ?_))))))))))))
      · have h1 := h; have h := h1.2.1 c
        have o5 := h1.1
        exact g3_bipush dX11_roll_33 rfl (g3_ireturn dX11_roll_35 rfl h)
      · have h1 := h; have h := h1.2.2 c
        have o5 := h1.1
        refine g3_iload_n 3 dX11_roll_24 rfl rfl (g3_iconst dX11_roll_25 (g3_iconst dX11_roll_26 (g3_cS3 dX11_roll_27 myX11_within mlX11_78 (z3 rfl) (z3 rfl) (kX11_within h.1 (g3_r1 (g3_bool_ne (tgt := 36) dX11_roll_30 rfl (fun c => ?_) (fun c => ?_)))))))
        · have h1 := h; have h := h1.2.1 c
          have o6 := h1.1
          exact g3_aload_n 0 dX11_roll_36 rfl rfl (g3_getR0 (t := 10) dX11_roll_37 flX11_26 rfl (z3 rfl) (g3_iload_n 1 dX11_roll_40 rfl rfl (g3_iload_n 2 dX11_roll_41 rfl rfl (g3_iload_n 3 dX11_roll_42 rfl rfl (g3_cV3 dX11_roll_43 myX0_tally mlX11_133 (z3 rfl) ob_10 (z3 rfl) (z3 rfl) (kX0_tally h.1 (g3_r1 (g3_ireturn dX11_roll_46 rfl h.2))))))))
        · have h1 := h; have h := h1.2.2 c
          have o6 := h1.1
          exact g3_bipush dX11_roll_33 rfl (g3_ireturn dX11_roll_35 rfl h)
  · have h1 := h; have h := h1.2.2 c
    have o1 := h1.1
    refine g3_iload_n 1 dX11_roll_5 rfl rfl (g3_cS1 dX11_roll_6 myX11_isBeat mlX11_86 (z3 rfl) (z3 rfl) (c3_in rfl rfl (z3 rfl) (g3_iload_n 0 dX11_isBeat_0 rfl rfl (g3_iconst dX11_isBeat_1 (g3_iconst dX11_isBeat_2 (g3_cS3 dX11_isBeat_3 myX11_within mlX11_78 (z3 rfl) (z3 rfl) (kX11_within h.1 (g3_r1 (g3_zreturn dX11_isBeat_6 rfl (bo3_01 _) (g3_r1 (g3_bool_eq (tgt := 33) dX11_roll_9 rfl (fun c => ?_) (fun c => ?_))))))))))))
    · have h1 := h; have h := h1.2.1 c
      have o8 := h1.1
      exact g3_bipush dX11_roll_33 rfl (g3_ireturn dX11_roll_35 rfl h)
    · have h1 := h; have h := h1.2.2 c
      have o8 := h1.1
      refine g3_iload_n 2 dX11_roll_12 rfl rfl (g3_iconst dX11_roll_13 (g3_icmp_eq (tgt := 24) dX11_roll_14 rfl h.1 (z3 rfl) (fun c => ?_) (fun c => ?_)))
      · have h1 := h; have h := h1.2.1 c
        have o9 := h1.1
        refine g3_iload_n 3 dX11_roll_24 rfl rfl (g3_iconst dX11_roll_25 (g3_iconst dX11_roll_26 (g3_cS3 dX11_roll_27 myX11_within mlX11_78 (z3 rfl) (z3 rfl) (kX11_within h.1 (g3_r1 (g3_bool_ne (tgt := 36) dX11_roll_30 rfl (fun c => ?_) (fun c => ?_)))))))
        · have h1 := h; have h := h1.2.1 c
          have o10 := h1.1
          exact g3_aload_n 0 dX11_roll_36 rfl rfl (g3_getR0 (t := 10) dX11_roll_37 flX11_26 rfl (z3 rfl) (g3_iload_n 1 dX11_roll_40 rfl rfl (g3_iload_n 2 dX11_roll_41 rfl rfl (g3_iload_n 3 dX11_roll_42 rfl rfl (g3_cV3 dX11_roll_43 myX0_tally mlX11_133 (z3 rfl) ob_10 (z3 rfl) (z3 rfl) (kX0_tally h.1 (g3_r1 (g3_ireturn dX11_roll_46 rfl h.2))))))))
        · have h1 := h; have h := h1.2.2 c
          have o10 := h1.1
          exact g3_bipush dX11_roll_33 rfl (g3_ireturn dX11_roll_35 rfl h)
      · have h1 := h; have h := h1.2.2 c
        have o9 := h1.1
        refine g3_iload_n 2 dX11_roll_17 rfl rfl (g3_cS1 dX11_roll_18 myX11_isSort mlX11_90 (z3 rfl) (z3 rfl) (c3_in rfl rfl (z3 rfl) (g3_iload_n 0 dX11_isSort_0 rfl rfl (g3_iconst dX11_isSort_1 (g3_iconst dX11_isSort_2 (g3_cS3 dX11_isSort_3 myX11_within mlX11_78 (z3 rfl) (z3 rfl) (kX11_within h.1 (g3_r1 (g3_zreturn dX11_isSort_6 rfl (bo3_01 _) (g3_r1 (g3_bool_eq (tgt := 33) dX11_roll_21 rfl (fun c => ?_) (fun c => ?_))))))))))))
        · have h1 := h; have h := h1.2.1 c
          have o12 := h1.1
          exact g3_bipush dX11_roll_33 rfl (g3_ireturn dX11_roll_35 rfl h)
        · have h1 := h; have h := h1.2.2 c
          have o12 := h1.1
          refine g3_iload_n 3 dX11_roll_24 rfl rfl (g3_iconst dX11_roll_25 (g3_iconst dX11_roll_26 (g3_cS3 dX11_roll_27 myX11_within mlX11_78 (z3 rfl) (z3 rfl) (kX11_within h.1 (g3_r1 (g3_bool_ne (tgt := 36) dX11_roll_30 rfl (fun c => ?_) (fun c => ?_)))))))
          · have h1 := h; have h := h1.2.1 c
            have o13 := h1.1
            exact g3_aload_n 0 dX11_roll_36 rfl rfl (g3_getR0 (t := 10) dX11_roll_37 flX11_26 rfl (z3 rfl) (g3_iload_n 1 dX11_roll_40 rfl rfl (g3_iload_n 2 dX11_roll_41 rfl rfl (g3_iload_n 3 dX11_roll_42 rfl rfl (g3_cV3 dX11_roll_43 myX0_tally mlX11_133 (z3 rfl) ob_10 (z3 rfl) (z3 rfl) (kX0_tally h.1 (g3_r1 (g3_ireturn dX11_roll_46 rfl h.2))))))))
          · have h1 := h; have h := h1.2.2 c
            have o13 := h1.1
            exact g3_bipush dX11_roll_33 rfl (g3_ireturn dX11_roll_35 rfl h)
set_option maxRecDepth 20000 in
set_option maxHeartbeats 200000 in
theorem sX12_roll {E : E3} {Q : Q3} {M : M3} {x1 x2 x3 : Int}
    (h : ((-2147483648 ≤ x1 ∧ x1 ≤ 2147483647) ∧ (-2147483648 ≤ ((-1) : Int) ∧ ((-1) : Int) ≤ 2147483647) ∧ (-2147483648 ≤ (5 : Int) ∧ (5 : Int) ≤ 2147483647)) ∧ ((¬((-1) ≤ x1 ∧ x1 ≤ 5) → (Q (some (vI (-2))) M)) ∧ (((-1) ≤ x1 ∧ x1 ≤ 5) → (((-2147483648 ≤ x2 ∧ x2 ≤ 2147483647) ∧ (-2147483648 ≤ ((-1) : Int) ∧ ((-1) : Int) ≤ 2147483647) ∧ (-2147483648 ≤ (1 : Int) ∧ (1 : Int) ≤ 2147483647)) ∧ ((¬((-1) ≤ x2 ∧ x2 ≤ 1) → (Q (some (vI (-2))) M)) ∧ (((-1) ≤ x2 ∧ x2 ≤ 1) → (((-2147483648 ≤ x3 ∧ x3 ≤ 2147483647) ∧ (-2147483648 ≤ (0 : Int) ∧ (0 : Int) ≤ 2147483647) ∧ (-2147483648 ≤ (2 : Int) ∧ (2 : Int) ≤ 2147483647)) ∧ ((¬(0 ≤ x3 ∧ x3 ≤ 2) → (Q (some (vI (-2))) M)) ∧ ((0 ≤ x3 ∧ x3 ≤ 2) → (((0 ≤ M 44 0 1 ∧ M 44 0 1 ≤ 48) ∧ ((-2147483648 ≤ x1 ∧ x1 ≤ 2147483647) ∧ (-2147483648 ≤ x2 ∧ x2 ≤ 2147483647) ∧ (-2147483648 ≤ x3 ∧ x3 ≤ 2147483647))) ∧ (Q (some (vI (mRoll M x1 x2 x3))) M))))))))))) :
    C3 E YX12_roll [vR 44 0, vI x1, vI x2, vI x3] M Q := by
  refine c3_in rfl rfl (z3 rfl) (g3_rm fun hM => ?_)
  refine g3_iload_n 1 dX12_roll_0 rfl rfl (g3_iconst dX12_roll_1 (g3_iconst dX12_roll_2 (g3_cS3 dX12_roll_3 myX12_in mlX12_144 (z3 rfl) (z3 rfl) (kX12_in h.1 (g3_r1 (g3_bool_eq (tgt := 37) dX12_roll_6 rfl (fun c => ?_) (fun c => ?_)))))))
  · have h1 := h; have h := h1.2.1 c
    have o1 := h1.1
    exact g3_bipush dX12_roll_37 rfl (g3_ireturn dX12_roll_39 rfl h)
  · have h1 := h; have h := h1.2.2 c
    have o1 := h1.1
    refine g3_iload_n 2 dX12_roll_9 rfl rfl (g3_iconst dX12_roll_10 (g3_iconst dX12_roll_11 (g3_cS3 dX12_roll_12 myX12_in mlX12_144 (z3 rfl) (z3 rfl) (kX12_in h.1 (g3_r1 (g3_bool_eq (tgt := 37) dX12_roll_15 rfl (fun c => ?_) (fun c => ?_)))))))
    · have h1 := h; have h := h1.2.1 c
      have o2 := h1.1
      exact g3_bipush dX12_roll_37 rfl (g3_ireturn dX12_roll_39 rfl h)
    · have h1 := h; have h := h1.2.2 c
      have o2 := h1.1
      refine g3_iload_n 3 dX12_roll_18 rfl rfl (g3_iconst dX12_roll_19 (g3_iconst dX12_roll_20 (g3_cS3 dX12_roll_21 myX12_in mlX12_144 (z3 rfl) (z3 rfl) (kX12_in h.1 (g3_r1 (g3_bool_eq (tgt := 37) dX12_roll_24 rfl (fun c => ?_) (fun c => ?_)))))))
      · have h1 := h; have h := h1.2.1 c
        have o3 := h1.1
        exact g3_bipush dX12_roll_37 rfl (g3_ireturn dX12_roll_39 rfl h)
      · have h1 := h; have h := h1.2.2 c
        have o3 := h1.1
        exact g3_aload_n 0 dX12_roll_27 rfl rfl (g3_iload_n 1 dX12_roll_28 rfl rfl (g3_iload_n 2 dX12_roll_29 rfl rfl (g3_iload_n 3 dX12_roll_30 rfl rfl (g3_cV3 dX12_roll_31 myX12_rollOf mlX12_174 (z3 rfl) ob_44 (z3 rfl) (z3 rfl) (kX12_rollOf h.1 (g3_r1 (g3_goto (tgt := 39) dX12_roll_34 rfl (g3_ireturn dX12_roll_39 rfl h.2))))))))
set_option maxRecDepth 20000 in
set_option maxHeartbeats 200000 in
theorem sX11_right {E : E3} {Q : Q3} {M : M3} {x1 x2 : Int}
    (h : ((-2147483648 ≤ x1 ∧ x1 ≤ 2147483647) ∧ (-2147483648 ≤ (0 : Int) ∧ (0 : Int) ≤ 2147483647) ∧ (-2147483648 ≤ (19 : Int) ∧ (19 : Int) ≤ 2147483647)) ∧ ((¬(0 ≤ x1 ∧ x1 ≤ 19) → (Q (some (vI (-2))) M)) ∧ ((0 ≤ x1 ∧ x1 ≤ 19) → (((-2147483648 ≤ x2 ∧ x2 ≤ 2147483647) ∧ (-2147483648 ≤ (0 : Int) ∧ (0 : Int) ≤ 2147483647) ∧ (-2147483648 ≤ (399 : Int) ∧ (399 : Int) ≤ 2147483647)) ∧ (((0 ≤ x2 ∧ x2 ≤ 399) → ((LwC M ∧ (0 ≤ x1 ∧ x1 < 24) ∧ 0 ≤ x2 ∧ x2 ≤ 399) ∧ (∀ (N1 : M3), RM3 N1 → Ec M N1 → (LwC N1) → (Q (some (vI (sSd (LL3 M) x1 x2))) N1)))) ∧ (¬(0 ≤ x2 ∧ x2 ≤ 399) → (Q (some (vI (-2))) M))))))) :
    C3 E YX11_right [vR 0 0, vI x1, vI x2] M Q := by
  refine c3_in rfl rfl (z3 rfl) (g3_rm fun hM => ?_)
  refine g3_iload_n 1 dX11_right_0 rfl rfl (g3_iconst dX11_right_1 (g3_bipush dX11_right_2 rfl (g3_cS3 dX11_right_4 myX11_within mlX11_78 (z3 rfl) (z3 rfl) (kX11_within h.1 (g3_r1 (g3_bool_eq (tgt := 17) dX11_right_7 rfl (fun c => ?_) (fun c => ?_)))))))
  · have h1 := h; have h := h1.2.1 c
    have o1 := h1.1
    exact g3_bipush dX11_right_17 rfl (g3_ireturn dX11_right_19 rfl h)
  · have h1 := h; have h := h1.2.2 c
    have o1 := h1.1
    refine g3_iload_n 2 dX11_right_10 rfl rfl (g3_cS1 dX11_right_11 myX11_isDay mlX11_151 (z3 rfl) (z3 rfl) (c3_in rfl rfl (z3 rfl) (g3_iload_n 0 dX11_isDay_0 rfl rfl (g3_iconst dX11_isDay_1 (g3_sipush dX11_isDay_2 rfl (g3_cS3 dX11_isDay_5 myX11_within mlX11_78 (z3 rfl) (z3 rfl) (kX11_within h.1 (g3_r1 (g3_zreturn dX11_isDay_8 rfl (bo3_01 _) (g3_r1 (g3_bool_ne (tgt := 20) dX11_right_14 rfl (fun c => ?_) (fun c => ?_))))))))))))
    · have h1 := h; have h := h1.2.1 c
      have o2 := h1.1
      refine g3_aload_n 0 dX11_right_20 rfl rfl (g3_getR0 (t := 3) dX11_right_21 flX11_19 rfl (z3 rfl) (g3_iload_n 1 dX11_right_24 rfl rfl (g3_iload_n 2 dX11_right_25 rfl rfl (g3_cV2 dX11_right_26 myX4_saidOf mlX11_154 (z3 rfl) ob_3 (z3 rfl) (z3 rfl) (eX4_saidOf Ec.rf h.1 (fun N1 hN1 he1 hp1 => ?_))))))
      have o3 := h.1
      have h := h.2 N1 hN1 he1 hp1
      refine g3_r1 ?_
      exact g3_ireturn dX11_right_29 rfl h
    · have h1 := h; have h := h1.2.2 c
      have o2 := h1.1
      exact g3_bipush dX11_right_17 rfl (g3_ireturn dX11_right_19 rfl h)
set_option maxRecDepth 20000 in
set_option maxHeartbeats 200000 in
theorem sX12_right {E : E3} {Q : Q3} {M : M3} {x1 x2 : Int}
    (h : ((-2147483648 ≤ x1 ∧ x1 ≤ 2147483647) ∧ (-2147483648 ≤ (0 : Int) ∧ (0 : Int) ≤ 2147483647) ∧ (-2147483648 ≤ (19 : Int) ∧ (19 : Int) ≤ 2147483647)) ∧ ((¬(0 ≤ x1 ∧ x1 ≤ 19) → (Q (some (vI (-2))) M)) ∧ ((0 ≤ x1 ∧ x1 ≤ 19) → (((-2147483648 ≤ x2 ∧ x2 ≤ 2147483647) ∧ (-2147483648 ≤ (0 : Int) ∧ (0 : Int) ≤ 2147483647) ∧ (-2147483648 ≤ (399 : Int) ∧ (399 : Int) ≤ 2147483647)) ∧ ((¬(0 ≤ x2 ∧ x2 ≤ 399) → (Q (some (vI (-2))) M)) ∧ ((0 ≤ x2 ∧ x2 ≤ 399) → ((RdC M ∧ (0 ≤ x1 ∧ x1 < 20) ∧ 0 ≤ x2 ∧ x2 ≤ 399) ∧ (∀ (N1 : M3), RM3 N1 → Em M N1 → (RdC N1) → (Q (some (vI (sSd (LM3 M) x1 x2))) N1))))))))) :
    C3 E YX12_right [vR 44 0, vI x1, vI x2] M Q := by
  refine c3_in rfl rfl (z3 rfl) (g3_rm fun hM => ?_)
  refine g3_iload_n 1 dX12_right_0 rfl rfl (g3_iconst dX12_right_1 (g3_bipush dX12_right_2 rfl (g3_cS3 dX12_right_4 myX12_in mlX12_144 (z3 rfl) (z3 rfl) (kX12_in h.1 (g3_r1 (g3_bool_eq (tgt := 26) dX12_right_7 rfl (fun c => ?_) (fun c => ?_)))))))
  · have h1 := h; have h := h1.2.1 c
    have o1 := h1.1
    exact g3_bipush dX12_right_26 rfl (g3_ireturn dX12_right_28 rfl h)
  · have h1 := h; have h := h1.2.2 c
    have o1 := h1.1
    refine g3_iload_n 2 dX12_right_10 rfl rfl (g3_cS1 dX12_right_11 myX12_isDay mlX12_210 (z3 rfl) (z3 rfl) (c3_in rfl rfl (z3 rfl) (g3_iload_n 0 dX12_isDay_0 rfl rfl (g3_iconst dX12_isDay_1 (g3_sipush dX12_isDay_2 rfl (g3_cS3 dX12_isDay_5 myX12_in mlX12_144 (z3 rfl) (z3 rfl) (kX12_in h.1 (g3_r1 (g3_zreturn dX12_isDay_8 rfl (bo3_01 _) (g3_r1 (g3_bool_eq (tgt := 26) dX12_right_14 rfl (fun c => ?_) (fun c => ?_))))))))))))
    · have h1 := h; have h := h1.2.1 c
      have o2 := h1.1
      exact g3_bipush dX12_right_26 rfl (g3_ireturn dX12_right_28 rfl h)
    · have h1 := h; have h := h1.2.2 c
      have o2 := h1.1
      refine g3_aload_n 0 dX12_right_17 rfl rfl (g3_iload_n 1 dX12_right_18 rfl rfl (g3_iload_n 2 dX12_right_19 rfl rfl (g3_cV2 dX12_right_20 myX12_rightOf mlX12_213 (z3 rfl) ob_44 (z3 rfl) (z3 rfl) (eX12_rightOf Em.rf h.1 (fun N1 hN1 he1 hp1 => ?_)))))
      have o3 := h.1
      have h := h.2 N1 hN1 he1 hp1
      refine g3_r1 ?_
      exact g3_goto (tgt := 28) dX12_right_23 rfl (g3_ireturn dX12_right_28 rfl h)
set_option maxRecDepth 20000 in
set_option maxHeartbeats 200000 in
theorem sX11_law {E : E3} {Q : Q3} {M : M3} {x1 x2 : Int}
    (h : ((-2147483648 ≤ x1 ∧ x1 ≤ 2147483647) ∧ (-2147483648 ≤ (0 : Int) ∧ (0 : Int) ≤ 2147483647) ∧ (-2147483648 ≤ (3 : Int) ∧ (3 : Int) ≤ 2147483647)) ∧ ((¬(0 ≤ x1 ∧ x1 ≤ 3) → (Q (some (vI (-2))) M)) ∧ ((0 ≤ x1 ∧ x1 ≤ 3) → (((-2147483648 ≤ x2 ∧ x2 ≤ 2147483647) ∧ (-2147483648 ≤ (0 : Int) ∧ (0 : Int) ≤ 2147483647) ∧ (-2147483648 ≤ (399 : Int) ∧ (399 : Int) ≤ 2147483647)) ∧ (((0 ≤ x2 ∧ x2 ≤ 399) → ((LwC M ∧ (0 ≤ (20 + x1) ∧ (20 + x1) < 24) ∧ 0 ≤ x2 ∧ x2 ≤ 399) ∧ (∀ (N1 : M3), RM3 N1 → Ec M N1 → (LwC N1) → (Q (some (vI (sSd (LL3 M) (20 + x1) x2))) N1)))) ∧ (¬(0 ≤ x2 ∧ x2 ≤ 399) → (Q (some (vI (-2))) M))))))) :
    C3 E YX11_law [vR 0 0, vI x1, vI x2] M Q := by
  refine c3_in rfl rfl (z3 rfl) (g3_rm fun hM => ?_)
  refine g3_iload_n 1 dX11_law_0 rfl rfl (g3_iconst dX11_law_1 (g3_iconst dX11_law_2 (g3_cS3 dX11_law_3 myX11_within mlX11_78 (z3 rfl) (z3 rfl) (kX11_within h.1 (g3_r1 (g3_bool_eq (tgt := 16) dX11_law_6 rfl (fun c => ?_) (fun c => ?_)))))))
  · have h1 := h; have h := h1.2.1 c
    have o1 := h1.1
    exact g3_bipush dX11_law_16 rfl (g3_ireturn dX11_law_18 rfl h)
  · have h1 := h; have h := h1.2.2 c
    have o1 := h1.1
    refine g3_iload_n 2 dX11_law_9 rfl rfl (g3_cS1 dX11_law_10 myX11_isDay mlX11_151 (z3 rfl) (z3 rfl) (c3_in rfl rfl (z3 rfl) (g3_iload_n 0 dX11_isDay_0 rfl rfl (g3_iconst dX11_isDay_1 (g3_sipush dX11_isDay_2 rfl (g3_cS3 dX11_isDay_5 myX11_within mlX11_78 (z3 rfl) (z3 rfl) (kX11_within h.1 (g3_r1 (g3_zreturn dX11_isDay_8 rfl (bo3_01 _) (g3_r1 (g3_bool_ne (tgt := 19) dX11_law_13 rfl (fun c => ?_) (fun c => ?_))))))))))))
    · have h1 := h; have h := h1.2.1 c
      have o2 := h1.1
      refine g3_aload_n 0 dX11_law_19 rfl rfl (g3_getR0 (t := 3) dX11_law_20 flX11_19 rfl (z3 rfl) (g3_bipush dX11_law_23 rfl (g3_iload_n 1 dX11_law_25 rfl rfl (g3_iadd dX11_law_26 (g3_iload_n 2 dX11_law_27 rfl rfl (g3_cV2 dX11_law_28 myX4_saidOf mlX11_154 (z3 rfl) ob_3 (z3 rfl) (z3 rfl) (eX4_saidOf Ec.rf h.1 (fun N1 hN1 he1 hp1 => ?_))))))))
      have o3 := h.1
      have h := h.2 N1 hN1 he1 hp1
      refine g3_r1 ?_
      exact g3_ireturn dX11_law_31 rfl h
    · have h1 := h; have h := h1.2.2 c
      have o2 := h1.1
      exact g3_bipush dX11_law_16 rfl (g3_ireturn dX11_law_18 rfl h)
set_option maxRecDepth 20000 in
set_option maxHeartbeats 200000 in
theorem sX12_law {E : E3} {Q : Q3} {M : M3} {x1 x2 : Int}
    (h : ((-2147483648 ≤ x1 ∧ x1 ≤ 2147483647) ∧ (-2147483648 ≤ (0 : Int) ∧ (0 : Int) ≤ 2147483647) ∧ (-2147483648 ≤ (3 : Int) ∧ (3 : Int) ≤ 2147483647)) ∧ ((¬(0 ≤ x1 ∧ x1 ≤ 3) → (Q (some (vI (-2))) M)) ∧ ((0 ≤ x1 ∧ x1 ≤ 3) → (((-2147483648 ≤ x2 ∧ x2 ≤ 2147483647) ∧ (-2147483648 ≤ (0 : Int) ∧ (0 : Int) ≤ 2147483647) ∧ (-2147483648 ≤ (399 : Int) ∧ (399 : Int) ≤ 2147483647)) ∧ ((¬(0 ≤ x2 ∧ x2 ≤ 399) → (Q (some (vI (-2))) M)) ∧ ((0 ≤ x2 ∧ x2 ≤ 399) → ((RdC M ∧ (0 ≤ x1 ∧ x1 < 4) ∧ 0 ≤ x2 ∧ x2 ≤ 399) ∧ (∀ (N1 : M3), RM3 N1 → Em M N1 → (RdC N1) → (Q (some (vI (sSd (LM3 M) (20 + x1) x2))) N1))))))))) :
    C3 E YX12_law [vR 44 0, vI x1, vI x2] M Q := by
  refine c3_in rfl rfl (z3 rfl) (g3_rm fun hM => ?_)
  refine g3_iload_n 1 dX12_law_0 rfl rfl (g3_iconst dX12_law_1 (g3_iconst dX12_law_2 (g3_cS3 dX12_law_3 myX12_in mlX12_144 (z3 rfl) (z3 rfl) (kX12_in h.1 (g3_r1 (g3_bool_eq (tgt := 25) dX12_law_6 rfl (fun c => ?_) (fun c => ?_)))))))
  · have h1 := h; have h := h1.2.1 c
    have o1 := h1.1
    exact g3_bipush dX12_law_25 rfl (g3_ireturn dX12_law_27 rfl h)
  · have h1 := h; have h := h1.2.2 c
    have o1 := h1.1
    refine g3_iload_n 2 dX12_law_9 rfl rfl (g3_cS1 dX12_law_10 myX12_isDay mlX12_210 (z3 rfl) (z3 rfl) (c3_in rfl rfl (z3 rfl) (g3_iload_n 0 dX12_isDay_0 rfl rfl (g3_iconst dX12_isDay_1 (g3_sipush dX12_isDay_2 rfl (g3_cS3 dX12_isDay_5 myX12_in mlX12_144 (z3 rfl) (z3 rfl) (kX12_in h.1 (g3_r1 (g3_zreturn dX12_isDay_8 rfl (bo3_01 _) (g3_r1 (g3_bool_eq (tgt := 25) dX12_law_13 rfl (fun c => ?_) (fun c => ?_))))))))))))
    · have h1 := h; have h := h1.2.1 c
      have o2 := h1.1
      exact g3_bipush dX12_law_25 rfl (g3_ireturn dX12_law_27 rfl h)
    · have h1 := h; have h := h1.2.2 c
      have o2 := h1.1
      refine g3_aload_n 0 dX12_law_16 rfl rfl (g3_iload_n 1 dX12_law_17 rfl rfl (g3_iload_n 2 dX12_law_18 rfl rfl (g3_cV2 dX12_law_19 myX12_lawOf mlX12_216 (z3 rfl) ob_44 (z3 rfl) (z3 rfl) (eX12_lawOf Em.rf h.1 (fun N1 hN1 he1 hp1 => ?_)))))
      have o3 := h.1
      have h := h.2 N1 hN1 he1 hp1
      refine g3_r1 ?_
      exact g3_goto (tgt := 27) dX12_law_22 rfl (g3_ireturn dX12_law_27 rfl h)
set_option maxRecDepth 20000 in
set_option maxHeartbeats 200000 in
theorem sX11_why {E : E3} {Q : Q3} {M : M3} {x1 x2 : Int}
    (h : ((-2147483648 ≤ x1 ∧ x1 ≤ 2147483647) ∧ (-2147483648 ≤ (0 : Int) ∧ (0 : Int) ≤ 2147483647) ∧ (-2147483648 ≤ (23 : Int) ∧ (23 : Int) ≤ 2147483647)) ∧ ((¬(0 ≤ x1 ∧ x1 ≤ 23) → (Q (some (vI (-2))) M)) ∧ ((0 ≤ x1 ∧ x1 ≤ 23) → (((-2147483648 ≤ x2 ∧ x2 ≤ 2147483647) ∧ (-2147483648 ≤ (0 : Int) ∧ (0 : Int) ≤ 2147483647) ∧ (-2147483648 ≤ (399 : Int) ∧ (399 : Int) ≤ 2147483647)) ∧ (((0 ≤ x2 ∧ x2 ≤ 399) → ((LwC M ∧ (0 ≤ x1 ∧ x1 < 24) ∧ 0 ≤ x2 ∧ x2 ≤ 399) ∧ (∀ (N1 : M3), RM3 N1 → Ec M N1 → (LwC N1) → (Q (some (vI (sPt (LL3 M) x1 x2))) N1)))) ∧ (¬(0 ≤ x2 ∧ x2 ≤ 399) → (Q (some (vI (-2))) M))))))) :
    C3 E YX11_why [vR 0 0, vI x1, vI x2] M Q := by
  refine c3_in rfl rfl (z3 rfl) (g3_rm fun hM => ?_)
  refine g3_iload_n 1 dX11_why_0 rfl rfl (g3_iconst dX11_why_1 (g3_bipush dX11_why_2 rfl (g3_cS3 dX11_why_4 myX11_within mlX11_78 (z3 rfl) (z3 rfl) (kX11_within h.1 (g3_r1 (g3_bool_eq (tgt := 17) dX11_why_7 rfl (fun c => ?_) (fun c => ?_)))))))
  · have h1 := h; have h := h1.2.1 c
    have o1 := h1.1
    exact g3_bipush dX11_why_17 rfl (g3_ireturn dX11_why_19 rfl h)
  · have h1 := h; have h := h1.2.2 c
    have o1 := h1.1
    refine g3_iload_n 2 dX11_why_10 rfl rfl (g3_cS1 dX11_why_11 myX11_isDay mlX11_151 (z3 rfl) (z3 rfl) (c3_in rfl rfl (z3 rfl) (g3_iload_n 0 dX11_isDay_0 rfl rfl (g3_iconst dX11_isDay_1 (g3_sipush dX11_isDay_2 rfl (g3_cS3 dX11_isDay_5 myX11_within mlX11_78 (z3 rfl) (z3 rfl) (kX11_within h.1 (g3_r1 (g3_zreturn dX11_isDay_8 rfl (bo3_01 _) (g3_r1 (g3_bool_ne (tgt := 20) dX11_why_14 rfl (fun c => ?_) (fun c => ?_))))))))))))
    · have h1 := h; have h := h1.2.1 c
      have o2 := h1.1
      refine g3_aload_n 0 dX11_why_20 rfl rfl (g3_getR0 (t := 3) dX11_why_21 flX11_19 rfl (z3 rfl) (g3_iload_n 1 dX11_why_24 rfl rfl (g3_iload_n 2 dX11_why_25 rfl rfl (g3_cV2 dX11_why_26 myX4_partFor mlX11_158 (z3 rfl) ob_3 (z3 rfl) (z3 rfl) (eX4_partFor Ec.rf h.1 (fun N1 hN1 he1 hp1 => ?_))))))
      have o3 := h.1
      have h := h.2 N1 hN1 he1 hp1
      refine g3_r1 ?_
      exact g3_ireturn dX11_why_29 rfl h
    · have h1 := h; have h := h1.2.2 c
      have o2 := h1.1
      exact g3_bipush dX11_why_17 rfl (g3_ireturn dX11_why_19 rfl h)
set_option maxRecDepth 20000 in
set_option maxHeartbeats 200000 in
theorem sX12_why {E : E3} {Q : Q3} {M : M3} {x1 x2 : Int}
    (h : ((-2147483648 ≤ x1 ∧ x1 ≤ 2147483647) ∧ (-2147483648 ≤ (0 : Int) ∧ (0 : Int) ≤ 2147483647) ∧ (-2147483648 ≤ (23 : Int) ∧ (23 : Int) ≤ 2147483647)) ∧ ((¬(0 ≤ x1 ∧ x1 ≤ 23) → (Q (some (vI (-2))) M)) ∧ ((0 ≤ x1 ∧ x1 ≤ 23) → (((-2147483648 ≤ x2 ∧ x2 ≤ 2147483647) ∧ (-2147483648 ≤ (0 : Int) ∧ (0 : Int) ≤ 2147483647) ∧ (-2147483648 ≤ (399 : Int) ∧ (399 : Int) ≤ 2147483647)) ∧ ((¬(0 ≤ x2 ∧ x2 ≤ 399) → (Q (some (vI (-2))) M)) ∧ ((0 ≤ x2 ∧ x2 ≤ 399) → ((RdC M ∧ (0 ≤ x1 ∧ x1 < 24) ∧ 0 ≤ x2 ∧ x2 ≤ 399) ∧ (∀ (N1 : M3), RM3 N1 → Em M N1 → (RdC N1) → (Q (some (vI (sPt (LM3 M) x1 x2))) N1))))))))) :
    C3 E YX12_why [vR 44 0, vI x1, vI x2] M Q := by
  refine c3_in rfl rfl (z3 rfl) (g3_rm fun hM => ?_)
  refine g3_iload_n 1 dX12_why_0 rfl rfl (g3_iconst dX12_why_1 (g3_bipush dX12_why_2 rfl (g3_cS3 dX12_why_4 myX12_in mlX12_144 (z3 rfl) (z3 rfl) (kX12_in h.1 (g3_r1 (g3_bool_eq (tgt := 26) dX12_why_7 rfl (fun c => ?_) (fun c => ?_)))))))
  · have h1 := h; have h := h1.2.1 c
    have o1 := h1.1
    exact g3_bipush dX12_why_26 rfl (g3_ireturn dX12_why_28 rfl h)
  · have h1 := h; have h := h1.2.2 c
    have o1 := h1.1
    refine g3_iload_n 2 dX12_why_10 rfl rfl (g3_cS1 dX12_why_11 myX12_isDay mlX12_210 (z3 rfl) (z3 rfl) (c3_in rfl rfl (z3 rfl) (g3_iload_n 0 dX12_isDay_0 rfl rfl (g3_iconst dX12_isDay_1 (g3_sipush dX12_isDay_2 rfl (g3_cS3 dX12_isDay_5 myX12_in mlX12_144 (z3 rfl) (z3 rfl) (kX12_in h.1 (g3_r1 (g3_zreturn dX12_isDay_8 rfl (bo3_01 _) (g3_r1 (g3_bool_eq (tgt := 26) dX12_why_14 rfl (fun c => ?_) (fun c => ?_))))))))))))
    · have h1 := h; have h := h1.2.1 c
      have o2 := h1.1
      exact g3_bipush dX12_why_26 rfl (g3_ireturn dX12_why_28 rfl h)
    · have h1 := h; have h := h1.2.2 c
      have o2 := h1.1
      refine g3_aload_n 0 dX12_why_17 rfl rfl (g3_iload_n 1 dX12_why_18 rfl rfl (g3_iload_n 2 dX12_why_19 rfl rfl (g3_cV2 dX12_why_20 myX12_partOf mlX12_207 (z3 rfl) ob_44 (z3 rfl) (z3 rfl) (eX12_partOf Em.rf h.1 (fun N1 hN1 he1 hp1 => ?_)))))
      have o3 := h.1
      have h := h.2 N1 hN1 he1 hp1
      refine g3_r1 ?_
      exact g3_goto (tgt := 28) dX12_why_23 rfl (g3_ireturn dX12_why_28 rfl h)
set_option maxRecDepth 20000 in
set_option maxHeartbeats 200000 in
theorem sX11_answer {E : E3} {Q : Q3} {M : M3} {x1 x2 : Int}
    (h : (-2147483648 ≤ x1 ∧ x1 ≤ 2147483647) ∧ ((x1 < 0 → (Q (some (vI (-2))) M)) ∧ (0 ≤ x1 → ((M 14 0 0 ≤ x1 → (Q (some (vI (-2))) M)) ∧ (x1 < M 14 0 0 → (((-2147483648 ≤ x2 ∧ x2 ≤ 2147483647) ∧ (-2147483648 ≤ (0 : Int) ∧ (0 : Int) ≤ 2147483647) ∧ (-2147483648 ≤ (19 : Int) ∧ (19 : Int) ≤ 2147483647)) ∧ (((0 ≤ x2 ∧ x2 ≤ 19) → ((0 ≤ x1 ∧ x1 < 60) ∧ (((M 18 x1 2 ≤ cTold M) → ((0 ≤ x2 ∧ x2 < 20) ∧ (Q (some (vI (M 19 x1 x2))) M))) ∧ (¬(M 18 x1 2 ≤ cTold M) → (Q (some (vI (-3))) M))))) ∧ (¬(0 ≤ x2 ∧ x2 ≤ 19) → (Q (some (vI (-2))) M))))))))) :
    C3 E YX11_answer [vR 0 0, vI x1, vI x2] M Q := by
  refine c3_in rfl rfl (z3 rfl) (g3_rm fun hM => ?_)
  refine g3_aload_n 0 dX11_answer_0 rfl rfl (g3_getR0 (t := 14) dX11_answer_1 flX11_35 rfl (z3 rfl) (g3_iload_n 1 dX11_answer_4 rfl rfl (g3_cV1 dX11_answer_5 myX2_holds mlX11_178 (z3 rfl) ob_14 (z3 rfl) (z3 rfl) (c3_in rfl rfl (z3 rfl) (g3_iload_n 1 dX2_holds_0 rfl rfl (g3_if_lt (tgt := 16) dX2_holds_1 rfl h.1 (fun c => ?_) (fun c => ?_)))))))
  · have h1 := h; have h := h1.2.1 c
    have o1 := h1.1
    exact g3_iconst dX2_holds_16 (g3_zreturn dX2_holds_17 rfl (Or.inl rfl) (g3_r1 (g3_if_eq_T (tgt := 21) dX11_answer_8 rfl (z3 rfl) (g3_bipush dX11_answer_21 rfl (g3_ireturn dX11_answer_23 rfl h)))))
  · have h1 := h; have h := h1.2.2 c
    have o1 := h1.1
    refine g3_iload_n 1 dX2_holds_4 rfl rfl (g3_aload_n 0 dX2_holds_5 rfl rfl (g3_getI (t := 0) dX2_holds_6 flX2_37 (z3 rfl) (z3 rfl) (g3_icmp_ge (tgt := 16) dX2_holds_9 rfl o1 (hM 14 0 0) (fun c => ?_) (fun c => ?_))))
    · have h1 := h; have h := h1.1 c
      exact g3_iconst dX2_holds_16 (g3_zreturn dX2_holds_17 rfl (Or.inl rfl) (g3_r1 (g3_if_eq_T (tgt := 21) dX11_answer_8 rfl (z3 rfl) (g3_bipush dX11_answer_21 rfl (g3_ireturn dX11_answer_23 rfl h)))))
    · have h1 := h; have h := h1.2 c
      refine g3_iconst dX2_holds_12 (g3_goto (tgt := 17) dX2_holds_13 rfl (g3_zreturn dX2_holds_17 rfl (Or.inr rfl) (g3_r1 (g3_if_eq_F (tgt := 21) dX11_answer_8 rfl (z3 rfl) (g3_iload_n 2 dX11_answer_11 rfl rfl (g3_iconst dX11_answer_12 (g3_bipush dX11_answer_13 rfl (g3_cS3 dX11_answer_15 myX11_within mlX11_78 (z3 rfl) (z3 rfl) (kX11_within h.1 (g3_r1 (g3_bool_ne (tgt := 24) dX11_answer_18 rfl (fun c => ?_) (fun c => ?_))))))))))))
      · have h1 := h; have h := h1.2.1 c
        have o2 := h1.1
        refine g3_aload_n 0 dX11_answer_24 rfl rfl (g3_getR0 (t := 14) dX11_answer_25 flX11_35 rfl (z3 rfl) (g3_iload_n 1 dX11_answer_28 rfl rfl (g3_cV1 dX11_answer_29 myX2_isKnown mlX11_186 (z3 rfl) ob_14 (z3 rfl) (z3 rfl) (kX2_isKnown h.1 (g3_r1 (g3_bool_ne (tgt := 38) dX11_answer_32 rfl (fun c => ?_) (fun c => ?_)))))))
        · have h1 := h; have h := h1.2.1 c
          have o3 := h1.1
          exact g3_aload_n 0 dX11_answer_38 rfl rfl (g3_getR0 (t := 14) dX11_answer_39 flX11_35 rfl (z3 rfl) (g3_iload_n 1 dX11_answer_42 rfl rfl (g3_iload_n 2 dX11_answer_43 rfl rfl (g3_cV2 dX11_answer_44 myX2_answerOf mlX11_191 (z3 rfl) ob_14 (z3 rfl) (z3 rfl) (c3_in rfl rfl (z3 rfl) (g3_aload_n 0 dX2_answerOf_0 rfl rfl (g3_getR0 (t := 15) dX2_answerOf_1 flX2_13 rfl (z3 rfl) (g3_iload_n 1 dX2_answerOf_4 rfl rfl (g3_aald dX2_answerOf_5 aq_15 o3 (g3_getRi (t := 19) dX2_answerOf_6 flX2_88 rfl o3 (g3_iload_n 2 dX2_answerOf_9 rfl rfl (g3_iald dX2_answerOf_10 ar_19 o3 h.1 (g3_ireturn dX2_answerOf_11 rfl (g3_r1 (g3_ireturn dX11_answer_47 rfl h.2)))))))))))))))
        · have h1 := h; have h := h1.2.2 c
          have o3 := h1.1
          exact g3_bipush dX11_answer_35 rfl (g3_ireturn dX11_answer_37 rfl h)
      · have h1 := h; have h := h1.2.2 c
        have o2 := h1.1
        exact g3_bipush dX11_answer_21 rfl (g3_ireturn dX11_answer_23 rfl h)
set_option maxRecDepth 20000 in
set_option maxHeartbeats 200000 in
theorem sX12_answer {E : E3} {Q : Q3} {M : M3} {x1 x2 : Int}
    (h : ((-2147483648 ≤ x1 ∧ x1 ≤ 2147483647) ∧ (-2147483648 ≤ (0 : Int) ∧ (0 : Int) ≤ 2147483647) ∧ (-2147483648 ≤ ((M 44 0 18) - 1) ∧ ((M 44 0 18) - 1) ≤ 2147483647)) ∧ ((¬(0 ≤ x1 ∧ x1 ≤ ((M 44 0 18) - 1)) → (Q (some (vI (-2))) M)) ∧ ((0 ≤ x1 ∧ x1 ≤ ((M 44 0 18) - 1)) → (((-2147483648 ≤ x2 ∧ x2 ≤ 2147483647) ∧ (-2147483648 ≤ (0 : Int) ∧ (0 : Int) ≤ 2147483647) ∧ (-2147483648 ≤ (19 : Int) ∧ (19 : Int) ≤ 2147483647)) ∧ (((0 ≤ x2 ∧ x2 ≤ 19) → ((0 ≤ x1 ∧ x1 < 60) ∧ ((¬(M 57 0 x1 ≤ mNow M) → (Q (some (vI (-3))) M)) ∧ ((M 57 0 x1 ≤ mNow M) → ((0 ≤ (20 * x1) + x2 ∧ (20 * x1) + x2 < 1200) ∧ (Q (some (vI (M 59 0 ((20 * x1) + x2)))) M)))))) ∧ (¬(0 ≤ x2 ∧ x2 ≤ 19) → (Q (some (vI (-2))) M))))))) :
    C3 E YX12_answer [vR 44 0, vI x1, vI x2] M Q := by
  refine c3_in rfl rfl (z3 rfl) (g3_rm fun hM => ?_)
  refine g3_iload_n 1 dX12_answer_0 rfl rfl (g3_iconst dX12_answer_1 (g3_aload_n 0 dX12_answer_2 rfl rfl (g3_getI (t := 0) dX12_answer_3 flX12_161 (z3 rfl) (z3 rfl) (g3_iconst dX12_answer_6 (g3_isub dX12_answer_7 (g3_cS3 dX12_answer_8 myX12_in mlX12_144 (z3 rfl) (z3 rfl) (kX12_in h.1 (g3_r1 (g3_bool_eq (tgt := 24) dX12_answer_11 rfl (fun c => ?_) (fun c => ?_))))))))))
  · have h1 := h; have h := h1.2.1 c
    have o1 := h1.1
    exact g3_bipush dX12_answer_24 rfl (g3_ireturn dX12_answer_26 rfl h)
  · have h1 := h; have h := h1.2.2 c
    have o1 := h1.1
    refine g3_iload_n 2 dX12_answer_14 rfl rfl (g3_iconst dX12_answer_15 (g3_bipush dX12_answer_16 rfl (g3_cS3 dX12_answer_18 myX12_in mlX12_144 (z3 rfl) (z3 rfl) (kX12_in h.1 (g3_r1 (g3_bool_ne (tgt := 27) dX12_answer_21 rfl (fun c => ?_) (fun c => ?_)))))))
    · have h1 := h; have h := h1.2.1 c
      have o2 := h1.1
      refine g3_aload_n 0 dX12_answer_27 rfl rfl (g3_iload_n 1 dX12_answer_28 rfl rfl (g3_cV1 dX12_answer_29 myX12_isKnown mlX12_164 (z3 rfl) ob_44 (z3 rfl) (z3 rfl) (kX12_isKnown h.1 (g3_r1 (g3_bool_eq (tgt := 49) dX12_answer_32 rfl (fun c => ?_) (fun c => ?_))))))
      · have h1 := h; have h := h1.2.1 c
        have o3 := h1.1
        exact g3_bipush dX12_answer_49 rfl (g3_ireturn dX12_answer_51 rfl h)
      · have h1 := h; have h := h1.2.2 c
        have o3 := h1.1
        exact g3_aload_n 0 dX12_answer_35 rfl rfl (g3_getR0 (t := 59) dX12_answer_36 flX12_52 rfl (z3 rfl) (g3_bipush dX12_answer_39 rfl (g3_iload_n 1 dX12_answer_41 rfl rfl (g3_imul dX12_answer_42 (g3_iload_n 2 dX12_answer_43 rfl rfl (g3_iadd dX12_answer_44 (g3_iald dX12_answer_45 ar_59 (z3 rfl) h.1 (g3_goto (tgt := 51) dX12_answer_46 rfl (g3_ireturn dX12_answer_51 rfl h.2)))))))))
    · have h1 := h; have h := h1.2.2 c
      have o2 := h1.1
      exact g3_bipush dX12_answer_24 rfl (g3_ireturn dX12_answer_26 rfl h)
set_option maxRecDepth 20000 in
set_option maxHeartbeats 200000 in
theorem sX11_asOf {E : E3} {Q : Q3} {M : M3} {x1 : Int}
    (h : (-2147483648 ≤ x1 ∧ x1 ≤ 2147483647) ∧ ((x1 = (-1) → (Q (some (vI (M 2 0 1))) (up3 M 2 0 1 x1))) ∧ (x1 ≠ (-1) → (((-2147483648 ≤ x1 ∧ x1 ≤ 2147483647) ∧ (-2147483648 ≤ (0 : Int) ∧ (0 : Int) ≤ 2147483647) ∧ (-2147483648 ≤ (M 2 0 0) ∧ (M 2 0 0) ≤ 2147483647)) ∧ (((0 ≤ x1 ∧ x1 ≤ (M 2 0 0)) → (Q (some (vI (M 2 0 1))) (up3 M 2 0 1 x1))) ∧ (¬(0 ≤ x1 ∧ x1 ≤ (M 2 0 0)) → (Q (some (vI (-2))) M))))))) :
    C3 E YX11_asOf [vR 0 0, vI x1] M Q := by
  refine c3_in rfl rfl (z3 rfl) (g3_rm fun hM => ?_)
  refine g3_iload_n 1 dX11_asOf_0 rfl rfl (g3_iconst dX11_asOf_1 (g3_icmp_eq (tgt := 23) dX11_asOf_2 rfl h.1 (z3 rfl) (fun c => ?_) (fun c => ?_)))
  · have h1 := h; have h := h1.2.1 c
    have o1 := h1.1
    exact g3_aload_n 0 dX11_asOf_23 rfl rfl (g3_getR0 (t := 2) dX11_asOf_24 flX11_10 rfl (z3 rfl) (g3_getI (t := 0) dX11_asOf_27 flX11_197 (z3 rfl) (z3 rfl) (g3_istore_n (lv' := [(2, vI (M 2 0 1)), (0, vR 0 0), (1, vI x1)]) dX11_asOf_30 rfl (z3 rfl) rfl (g3_aload_n 1 dX11_asOf_31 rfl rfl (g3_getR0 (t := 2) dX11_asOf_32 flX11_10 rfl (z3 rfl) (g3_iload_n 2 dX11_asOf_35 rfl rfl (g3_put dX11_asOf_36 fpX11_197 (Or.inl rfl) (z3 rfl) o1 (g3_iload_n 0 dX11_asOf_39 rfl rfl (g3_ireturn dX11_asOf_40 rfl h)))))))))
  · have h1 := h; have h := h1.2.2 c
    have o1 := h1.1
    refine g3_iload_n 1 dX11_asOf_5 rfl rfl (g3_iconst dX11_asOf_6 (g3_aload_n 0 dX11_asOf_7 rfl rfl (g3_getR0 (t := 2) dX11_asOf_8 flX11_10 rfl (z3 rfl) (g3_getI (t := 0) dX11_asOf_11 flX11_82 (z3 rfl) (z3 rfl) (g3_cS3 dX11_asOf_14 myX11_within mlX11_78 (z3 rfl) (z3 rfl) (kX11_within h.1 (g3_r1 (g3_bool_ne (tgt := 23) dX11_asOf_17 rfl (fun c => ?_) (fun c => ?_)))))))))
    · have h1 := h; have h := h1.2.1 c
      have o2 := h1.1
      exact g3_aload_n 0 dX11_asOf_23 rfl rfl (g3_getR0 (t := 2) dX11_asOf_24 flX11_10 rfl (z3 rfl) (g3_getI (t := 0) dX11_asOf_27 flX11_197 (z3 rfl) (z3 rfl) (g3_istore_n (lv' := [(2, vI (M 2 0 1)), (0, vR 0 0), (1, vI x1)]) dX11_asOf_30 rfl (z3 rfl) rfl (g3_aload_n 1 dX11_asOf_31 rfl rfl (g3_getR0 (t := 2) dX11_asOf_32 flX11_10 rfl (z3 rfl) (g3_iload_n 2 dX11_asOf_35 rfl rfl (g3_put dX11_asOf_36 fpX11_197 (Or.inl rfl) (z3 rfl) o1 (g3_iload_n 0 dX11_asOf_39 rfl rfl (g3_ireturn dX11_asOf_40 rfl h)))))))))
    · have h1 := h; have h := h1.2.2 c
      have o2 := h1.1
      exact g3_bipush dX11_asOf_20 rfl (g3_ireturn dX11_asOf_22 rfl h)
set_option maxRecDepth 20000 in
set_option maxHeartbeats 200000 in
theorem sX12_asOf {E : E3} {Q : Q3} {M : M3} {x1 : Int}
    (h : ((-2147483648 ≤ x1 ∧ x1 ≤ 2147483647) ∧ (-2147483648 ≤ ((-1) : Int) ∧ ((-1) : Int) ≤ 2147483647) ∧ (-2147483648 ≤ (M 44 0 0) ∧ (M 44 0 0) ≤ 2147483647)) ∧ ((((-1) ≤ x1 ∧ x1 ≤ (M 44 0 0)) → ((-2147483648 ≤ x1 ∧ x1 ≤ 2147483647) ∧ (Q (some (vI (M 44 0 27))) (up3 M 44 0 27 x1)))) ∧ (¬((-1) ≤ x1 ∧ x1 ≤ (M 44 0 0)) → (Q (some (vI (-2))) M)))) :
    C3 E YX12_asOf [vR 44 0, vI x1] M Q := by
  refine c3_in rfl rfl (z3 rfl) (g3_rm fun hM => ?_)
  refine g3_iload_n 1 dX12_asOf_0 rfl rfl (g3_iconst dX12_asOf_1 (g3_aload_n 0 dX12_asOf_2 rfl rfl (g3_getI (t := 0) dX12_asOf_3 flX12_151 (z3 rfl) (z3 rfl) (g3_cS3 dX12_asOf_6 myX12_in mlX12_144 (z3 rfl) (z3 rfl) (kX12_in h.1 (g3_r1 (g3_bool_ne (tgt := 15) dX12_asOf_9 rfl (fun c => ?_) (fun c => ?_))))))))
  · have h1 := h; have h := h1.2.1 c
    have o1 := h1.1
    exact g3_aload_n 0 dX12_asOf_15 rfl rfl (g3_getI (t := 0) dX12_asOf_16 flX12_67 (z3 rfl) (z3 rfl) (g3_istore_n (lv' := [(2, vI (M 44 0 27)), (0, vR 44 0), (1, vI x1)]) dX12_asOf_19 rfl (z3 rfl) rfl (g3_aload_n 1 dX12_asOf_20 rfl rfl (g3_iload_n 2 dX12_asOf_21 rfl rfl (g3_put dX12_asOf_22 fpX12_67 (Or.inl rfl) (z3 rfl) h.1 (g3_iload_n 0 dX12_asOf_25 rfl rfl (g3_ireturn dX12_asOf_26 rfl h.2)))))))
  · have h1 := h; have h := h1.2.2 c
    have o1 := h1.1
    exact g3_bipush dX12_asOf_12 rfl (g3_ireturn dX12_asOf_14 rfl h)
set_option maxRecDepth 20000 in
set_option maxHeartbeats 200000 in
theorem sX11_minutes {E : E3} {Q : Q3} {M : M3} {x1 x2 x3 : Int}
    (h : ((-2147483648 ≤ x1 ∧ x1 ≤ 2147483647) ∧ (-2147483648 ≤ (0 : Int) ∧ (0 : Int) ≤ 2147483647) ∧ (-2147483648 ≤ (3 : Int) ∧ (3 : Int) ≤ 2147483647)) ∧ ((¬(0 ≤ x1 ∧ x1 ≤ 3) → (Q (some (vI (-2))) M)) ∧ ((0 ≤ x1 ∧ x1 ≤ 3) → (((-2147483648 ≤ x2 ∧ x2 ≤ 2147483647) ∧ (-2147483648 ≤ (0 : Int) ∧ (0 : Int) ≤ 2147483647) ∧ (-2147483648 ≤ (1 : Int) ∧ (1 : Int) ≤ 2147483647)) ∧ ((¬(0 ≤ x2 ∧ x2 ≤ 1) → (Q (some (vI (-2))) M)) ∧ ((0 ≤ x2 ∧ x2 ≤ 1) → (((-2147483648 ≤ x3 ∧ x3 ≤ 2147483647) ∧ (-2147483648 ≤ (1 : Int) ∧ (1 : Int) ≤ 2147483647) ∧ (-2147483648 ≤ (120 : Int) ∧ (120 : Int) ≤ 2147483647)) ∧ (((1 ≤ x3 ∧ x3 ≤ 120) → ((0 ≤ (2 * x1) + x2 ∧ (2 * x1) + x2 < 8) ∧ ((-2147483648 ≤ x3 ∧ x3 ≤ 2147483647) ∧ (Q (some (vI (M 25 0 ((2 * x1) + x2)))) (up3 M 25 0 ((2 * x1) + x2) x3))))) ∧ (¬(1 ≤ x3 ∧ x3 ≤ 120) → (Q (some (vI (-2))) M)))))))))) :
    C3 E YX11_minutes [vR 0 0, vI x1, vI x2, vI x3] M Q := by
  refine c3_in rfl rfl (z3 rfl) (g3_rm fun hM => ?_)
  refine g3_iload_n 1 dX11_minutes_0 rfl rfl (g3_cS1 dX11_minutes_1 myX11_isClerk mlX11_179 (z3 rfl) (z3 rfl) (c3_in rfl rfl (z3 rfl) (g3_iload_n 0 dX11_isClerk_0 rfl rfl (g3_iconst dX11_isClerk_1 (g3_iconst dX11_isClerk_2 (g3_cS3 dX11_isClerk_3 myX11_within mlX11_78 (z3 rfl) (z3 rfl) (kX11_within h.1 (g3_r1 (g3_zreturn dX11_isClerk_6 rfl (bo3_01 _) (g3_r1 (g3_bool_eq (tgt := 24) dX11_minutes_4 rfl (fun c => ?_) (fun c => ?_))))))))))))
  · have h1 := h; have h := h1.2.1 c
    have o1 := h1.1
    exact g3_bipush dX11_minutes_24 rfl (g3_ireturn dX11_minutes_26 rfl h)
  · have h1 := h; have h := h1.2.2 c
    have o1 := h1.1
    refine g3_iload_n 2 dX11_minutes_7 rfl rfl (g3_cS1 dX11_minutes_8 myX11_isSort mlX11_90 (z3 rfl) (z3 rfl) (c3_in rfl rfl (z3 rfl) (g3_iload_n 0 dX11_isSort_0 rfl rfl (g3_iconst dX11_isSort_1 (g3_iconst dX11_isSort_2 (g3_cS3 dX11_isSort_3 myX11_within mlX11_78 (z3 rfl) (z3 rfl) (kX11_within h.1 (g3_r1 (g3_zreturn dX11_isSort_6 rfl (bo3_01 _) (g3_r1 (g3_bool_eq (tgt := 24) dX11_minutes_11 rfl (fun c => ?_) (fun c => ?_))))))))))))
    · have h1 := h; have h := h1.2.1 c
      have o2 := h1.1
      exact g3_bipush dX11_minutes_24 rfl (g3_ireturn dX11_minutes_26 rfl h)
    · have h1 := h; have h := h1.2.2 c
      have o2 := h1.1
      refine g3_iload_n 3 dX11_minutes_14 rfl rfl (g3_iconst dX11_minutes_15 (g3_bipush dX11_minutes_16 rfl (g3_cS3 dX11_minutes_18 myX11_within mlX11_78 (z3 rfl) (z3 rfl) (kX11_within h.1 (g3_r1 (g3_bool_ne (tgt := 27) dX11_minutes_21 rfl (fun c => ?_) (fun c => ?_)))))))
      · have h1 := h; have h := h1.2.1 c
        have o3 := h1.1
        exact g3_aload_n 0 dX11_minutes_27 rfl rfl (g3_getR0 (t := 20) dX11_minutes_28 flX11_42 rfl (z3 rfl) (g3_iload_n 1 dX11_minutes_31 rfl rfl (g3_iload_n 2 dX11_minutes_32 rfl rfl (g3_iload_n 3 dX11_minutes_33 rfl rfl (g3_cV3 dX11_minutes_34 myX6_setMinutes mlX11_212 (z3 rfl) ob_20 (z3 rfl) (z3 rfl) (c3_in rfl rfl (z3 rfl) (g3_aload_n 0 dX6_setMinutes_0 rfl rfl (g3_getR0 (t := 25) dX6_setMinutes_1 flX6_24 rfl (z3 rfl) (g3_iconst dX6_setMinutes_4 (g3_iload_n 1 dX6_setMinutes_5 rfl rfl (g3_imul dX6_setMinutes_6 (g3_iload_n 2 dX6_setMinutes_7 rfl rfl (g3_iadd dX6_setMinutes_8 (g3_iald dX6_setMinutes_9 ar_25 (z3 rfl) h.1 (g3_istore (lv' := [(4, vI (M 25 0 ((2 * x1) + x2))), (0, vR 20 0), (1, vI x1), (2, vI x2), (3, vI x3)]) dX6_setMinutes_10 (z3 rfl) rfl (g3_aload_n 1 dX6_setMinutes_12 rfl rfl (g3_getR0 (t := 25) dX6_setMinutes_13 flX6_24 rfl (z3 rfl) (g3_iconst dX6_setMinutes_16 (g3_iload_n 2 dX6_setMinutes_17 rfl rfl (g3_imul dX6_setMinutes_18 (g3_iload_n 3 dX6_setMinutes_19 rfl rfl (g3_iadd dX6_setMinutes_20 (g3_iload_n 4 dX6_setMinutes_21 rfl rfl (g3_iast dX6_setMinutes_22 ar_25 (z3 rfl) h.1 h.2.1 (g3_iload 0 dX6_setMinutes_23 rfl (g3_ireturn dX6_setMinutes_25 rfl (g3_r1 (g3_ireturn dX11_minutes_37 rfl h.2.2))))))))))))))))))))))))))))
      · have h1 := h; have h := h1.2.2 c
        have o3 := h1.1
        exact g3_bipush dX11_minutes_24 rfl (g3_ireturn dX11_minutes_26 rfl h)
set_option maxRecDepth 20000 in
set_option maxHeartbeats 200000 in
theorem sX12_minutes {E : E3} {Q : Q3} {M : M3} {x1 x2 x3 : Int}
    (h : ((-2147483648 ≤ x1 ∧ x1 ≤ 2147483647) ∧ (-2147483648 ≤ (0 : Int) ∧ (0 : Int) ≤ 2147483647) ∧ (-2147483648 ≤ (3 : Int) ∧ (3 : Int) ≤ 2147483647)) ∧ ((¬(0 ≤ x1 ∧ x1 ≤ 3) → (Q (some (vI (-2))) M)) ∧ ((0 ≤ x1 ∧ x1 ≤ 3) → (((-2147483648 ≤ x2 ∧ x2 ≤ 2147483647) ∧ (-2147483648 ≤ (0 : Int) ∧ (0 : Int) ≤ 2147483647) ∧ (-2147483648 ≤ (1 : Int) ∧ (1 : Int) ≤ 2147483647)) ∧ ((¬(0 ≤ x2 ∧ x2 ≤ 1) → (Q (some (vI (-2))) M)) ∧ ((0 ≤ x2 ∧ x2 ≤ 1) → (((-2147483648 ≤ x3 ∧ x3 ≤ 2147483647) ∧ (-2147483648 ≤ (1 : Int) ∧ (1 : Int) ≤ 2147483647) ∧ (-2147483648 ≤ (120 : Int) ∧ (120 : Int) ≤ 2147483647)) ∧ (((1 ≤ x3 ∧ x3 ≤ 120) → ((0 ≤ (2 * x1) + x2 ∧ (2 * x1) + x2 < 8) ∧ ((-2147483648 ≤ x3 ∧ x3 ≤ 2147483647) ∧ (Q (some (vI (M 64 0 ((2 * x1) + x2)))) (up3 M 64 0 ((2 * x1) + x2) x3))))) ∧ (¬(1 ≤ x3 ∧ x3 ≤ 120) → (Q (some (vI (-2))) M)))))))))) :
    C3 E YX12_minutes [vR 44 0, vI x1, vI x2, vI x3] M Q := by
  refine c3_in rfl rfl (z3 rfl) (g3_rm fun hM => ?_)
  refine g3_iload_n 1 dX12_minutes_0 rfl rfl (g3_cS1 dX12_minutes_1 myX12_isClerk mlX12_248 (z3 rfl) (z3 rfl) (c3_in rfl rfl (z3 rfl) (g3_iload_n 0 dX12_isClerk_0 rfl rfl (g3_iconst dX12_isClerk_1 (g3_iconst dX12_isClerk_2 (g3_cS3 dX12_isClerk_3 myX12_in mlX12_144 (z3 rfl) (z3 rfl) (kX12_in h.1 (g3_r1 (g3_zreturn dX12_isClerk_6 rfl (bo3_01 _) (g3_r1 (g3_bool_eq (tgt := 26) dX12_minutes_4 rfl (fun c => ?_) (fun c => ?_))))))))))))
  · have h1 := h; have h := h1.2.1 c
    have o1 := h1.1
    exact g3_bipush dX12_minutes_26 rfl (g3_ireturn dX12_minutes_28 rfl h)
  · have h1 := h; have h := h1.2.2 c
    have o1 := h1.1
    refine g3_iload_n 2 dX12_minutes_7 rfl rfl (g3_iconst dX12_minutes_8 (g3_iconst dX12_minutes_9 (g3_cS3 dX12_minutes_10 myX12_in mlX12_144 (z3 rfl) (z3 rfl) (kX12_in h.1 (g3_r1 (g3_bool_eq (tgt := 26) dX12_minutes_13 rfl (fun c => ?_) (fun c => ?_)))))))
    · have h1 := h; have h := h1.2.1 c
      have o2 := h1.1
      exact g3_bipush dX12_minutes_26 rfl (g3_ireturn dX12_minutes_28 rfl h)
    · have h1 := h; have h := h1.2.2 c
      have o2 := h1.1
      refine g3_iload_n 3 dX12_minutes_16 rfl rfl (g3_iconst dX12_minutes_17 (g3_bipush dX12_minutes_18 rfl (g3_cS3 dX12_minutes_20 myX12_in mlX12_144 (z3 rfl) (z3 rfl) (kX12_in h.1 (g3_r1 (g3_bool_ne (tgt := 29) dX12_minutes_23 rfl (fun c => ?_) (fun c => ?_)))))))
      · have h1 := h; have h := h1.2.1 c
        have o3 := h1.1
        exact g3_aload_n 0 dX12_minutes_29 rfl rfl (g3_getR0 (t := 64) dX12_minutes_30 flX12_71 rfl (z3 rfl) (g3_iconst dX12_minutes_33 (g3_iload_n 1 dX12_minutes_34 rfl rfl (g3_imul dX12_minutes_35 (g3_iload_n 2 dX12_minutes_36 rfl rfl (g3_iadd dX12_minutes_37 (g3_iald dX12_minutes_38 ar_64 (z3 rfl) h.1 (g3_istore (lv' := [(4, vI (M 64 0 ((2 * x1) + x2))), (0, vR 44 0), (1, vI x1), (2, vI x2), (3, vI x3)]) dX12_minutes_39 (z3 rfl) rfl (g3_aload_n 1 dX12_minutes_41 rfl rfl (g3_getR0 (t := 64) dX12_minutes_42 flX12_71 rfl (z3 rfl) (g3_iconst dX12_minutes_45 (g3_iload_n 2 dX12_minutes_46 rfl rfl (g3_imul dX12_minutes_47 (g3_iload_n 3 dX12_minutes_48 rfl rfl (g3_iadd dX12_minutes_49 (g3_iload_n 4 dX12_minutes_50 rfl rfl (g3_iast dX12_minutes_51 ar_64 (z3 rfl) h.1 h.2.1 (g3_iload 0 dX12_minutes_52 rfl (g3_ireturn dX12_minutes_54 rfl h.2.2)))))))))))))))))))
      · have h1 := h; have h := h1.2.2 c
        have o3 := h1.1
        exact g3_bipush dX12_minutes_26 rfl (g3_ireturn dX12_minutes_28 rfl h)
set_option maxRecDepth 20000 in
set_option maxHeartbeats 200000 in
theorem sX11_office {E : E3} {Q : Q3} {M : M3} {x1 x2 x3 : Int}
    (h : ((-2147483648 ≤ x1 ∧ x1 ≤ 2147483647) ∧ (-2147483648 ≤ (0 : Int) ∧ (0 : Int) ≤ 2147483647) ∧ (-2147483648 ≤ (127 : Int) ∧ (127 : Int) ≤ 2147483647)) ∧ ((¬(0 ≤ x1 ∧ x1 ≤ 127) → (Q (some (vI (-2))) M)) ∧ ((0 ≤ x1 ∧ x1 ≤ 127) → (((-2147483648 ≤ x2 ∧ x2 ≤ 2147483647) ∧ (-2147483648 ≤ (0 : Int) ∧ (0 : Int) ≤ 2147483647) ∧ (-2147483648 ≤ (1439 : Int) ∧ (1439 : Int) ≤ 2147483647)) ∧ ((¬(0 ≤ x2 ∧ x2 ≤ 1439) → (Q (some (vI (-2))) M)) ∧ ((0 ≤ x2 ∧ x2 ≤ 1439) → (((-2147483648 ≤ x3 ∧ x3 ≤ 2147483647) ∧ (-2147483648 ≤ (0 : Int) ∧ (0 : Int) ≤ 2147483647) ∧ (-2147483648 ≤ (1439 : Int) ∧ (1439 : Int) ≤ 2147483647)) ∧ ((¬(0 ≤ x3 ∧ x3 ≤ 1439) → (Q (some (vI (-2))) M)) ∧ ((0 ≤ x3 ∧ x3 ≤ 1439) → ((-2147483648 ≤ x2 ∧ x2 ≤ 2147483647) ∧ ((-2147483648 ≤ x3 ∧ x3 ≤ 2147483647) ∧ ((x2 < x3 → ((-2147483648 ≤ x1 ∧ x1 ≤ 2147483647) ∧ (Q (some (vI 1)) (up3 (up3 (up3 M 20 0 6 x1) 20 0 7 x2) 20 0 8 x3)))) ∧ (x3 ≤ x2 → (Q (some (vI (-2))) M)))))))))))))) :
    C3 E YX11_office [vR 0 0, vI x1, vI x2, vI x3] M Q := by
  refine c3_in rfl rfl (z3 rfl) (g3_rm fun hM => ?_)
  refine g3_iload_n 1 dX11_office_0 rfl rfl (g3_iconst dX11_office_1 (g3_bipush dX11_office_2 rfl (g3_cS3 dX11_office_4 myX11_within mlX11_78 (z3 rfl) (z3 rfl) (kX11_within h.1 (g3_r1 (g3_bool_eq (tgt := 37) dX11_office_7 rfl (fun c => ?_) (fun c => ?_)))))))
  · have h1 := h; have h := h1.2.1 c
    have o1 := h1.1
    exact g3_bipush dX11_office_37 rfl (g3_ireturn dX11_office_39 rfl h)
  · have h1 := h; have h := h1.2.2 c
    have o1 := h1.1
    refine g3_iload_n 2 dX11_office_10 rfl rfl (g3_iconst dX11_office_11 (g3_sipush dX11_office_12 rfl (g3_cS3 dX11_office_15 myX11_within mlX11_78 (z3 rfl) (z3 rfl) (kX11_within h.1 (g3_r1 (g3_bool_eq (tgt := 37) dX11_office_18 rfl (fun c => ?_) (fun c => ?_)))))))
    · have h1 := h; have h := h1.2.1 c
      have o2 := h1.1
      exact g3_bipush dX11_office_37 rfl (g3_ireturn dX11_office_39 rfl h)
    · have h1 := h; have h := h1.2.2 c
      have o2 := h1.1
      refine g3_iload_n 3 dX11_office_21 rfl rfl (g3_iconst dX11_office_22 (g3_sipush dX11_office_23 rfl (g3_cS3 dX11_office_26 myX11_within mlX11_78 (z3 rfl) (z3 rfl) (kX11_within h.1 (g3_r1 (g3_bool_eq (tgt := 37) dX11_office_29 rfl (fun c => ?_) (fun c => ?_)))))))
      · have h1 := h; have h := h1.2.1 c
        have o3 := h1.1
        exact g3_bipush dX11_office_37 rfl (g3_ireturn dX11_office_39 rfl h)
      · have h1 := h; have h := h1.2.2 c
        have o3 := h1.1
        refine g3_iload_n 2 dX11_office_32 rfl rfl (g3_iload_n 3 dX11_office_33 rfl rfl (g3_icmp_lt (tgt := 40) dX11_office_34 rfl h.1 h.2.1 (fun c => ?_) (fun c => ?_)))
        · have h1 := h; have h := h1.2.2.1 c
          have o4 := h1.1
          have o5 := h1.2.1
          exact g3_aload_n 0 dX11_office_40 rfl rfl (g3_getR0 (t := 20) dX11_office_41 flX11_42 rfl (z3 rfl) (g3_iload_n 1 dX11_office_44 rfl rfl (g3_iload_n 2 dX11_office_45 rfl rfl (g3_iload_n 3 dX11_office_46 rfl rfl (g3_cV3 dX11_office_47 myX6_setHours mlX11_215 (z3 rfl) ob_20 (z3 rfl) (z3 rfl) (c3_in rfl rfl (z3 rfl) (g3_aload_n 0 dX6_setHours_0 rfl rfl (g3_iload_n 1 dX6_setHours_1 rfl rfl (g3_put dX6_setHours_2 fpX6_27 (Or.inl rfl) (z3 rfl) h.1 (g3_aload_n 0 dX6_setHours_5 rfl rfl (g3_iload_n 2 dX6_setHours_6 rfl rfl (g3_put dX6_setHours_7 fpX6_31 (Or.inl rfl) (z3 rfl) o4 (g3_aload_n 0 dX6_setHours_10 rfl rfl (g3_iload_n 3 dX6_setHours_11 rfl rfl (g3_put dX6_setHours_12 fpX6_34 (Or.inl rfl) (z3 rfl) o5 (g3_return dX6_setHours_15 rfl (g3_r0 (g3_iconst dX11_office_50 (g3_ireturn dX11_office_51 rfl h.2)))))))))))))))))))
        · have h1 := h; have h := h1.2.2.2 c
          have o4 := h1.1
          have o5 := h1.2.1
          exact g3_bipush dX11_office_37 rfl (g3_ireturn dX11_office_39 rfl h)
set_option maxRecDepth 20000 in
set_option maxHeartbeats 200000 in
theorem sX12_office {E : E3} {Q : Q3} {M : M3} {x1 x2 x3 : Int}
    (h : ((-2147483648 ≤ x1 ∧ x1 ≤ 2147483647) ∧ (-2147483648 ≤ (0 : Int) ∧ (0 : Int) ≤ 2147483647) ∧ (-2147483648 ≤ (127 : Int) ∧ (127 : Int) ≤ 2147483647)) ∧ ((¬(0 ≤ x1 ∧ x1 ≤ 127) → (Q (some (vI (-2))) M)) ∧ ((0 ≤ x1 ∧ x1 ≤ 127) → (((-2147483648 ≤ x2 ∧ x2 ≤ 2147483647) ∧ (-2147483648 ≤ (0 : Int) ∧ (0 : Int) ≤ 2147483647) ∧ (-2147483648 ≤ (1439 : Int) ∧ (1439 : Int) ≤ 2147483647)) ∧ ((¬(0 ≤ x2 ∧ x2 ≤ 1439) → (Q (some (vI (-2))) M)) ∧ ((0 ≤ x2 ∧ x2 ≤ 1439) → (((-2147483648 ≤ x3 ∧ x3 ≤ 2147483647) ∧ (-2147483648 ≤ (0 : Int) ∧ (0 : Int) ≤ 2147483647) ∧ (-2147483648 ≤ (1439 : Int) ∧ (1439 : Int) ≤ 2147483647)) ∧ ((¬(0 ≤ x3 ∧ x3 ≤ 1439) → (Q (some (vI (-2))) M)) ∧ ((0 ≤ x3 ∧ x3 ≤ 1439) → ((-2147483648 ≤ x2 ∧ x2 ≤ 2147483647) ∧ ((-2147483648 ≤ x3 ∧ x3 ≤ 2147483647) ∧ ((x2 < x3 → ((-2147483648 ≤ x1 ∧ x1 ≤ 2147483647) ∧ (Q (some (vI 1)) (up3 (up3 (up3 M 44 0 29 x1) 44 0 30 x2) 44 0 31 x3)))) ∧ (x3 ≤ x2 → (Q (some (vI (-2))) M)))))))))))))) :
    C3 E YX12_office [vR 44 0, vI x1, vI x2, vI x3] M Q := by
  refine c3_in rfl rfl (z3 rfl) (g3_rm fun hM => ?_)
  refine g3_iload_n 1 dX12_office_0 rfl rfl (g3_iconst dX12_office_1 (g3_bipush dX12_office_2 rfl (g3_cS3 dX12_office_4 myX12_in mlX12_144 (z3 rfl) (z3 rfl) (kX12_in h.1 (g3_r1 (g3_bool_eq (tgt := 37) dX12_office_7 rfl (fun c => ?_) (fun c => ?_)))))))
  · have h1 := h; have h := h1.2.1 c
    have o1 := h1.1
    exact g3_bipush dX12_office_37 rfl (g3_ireturn dX12_office_39 rfl h)
  · have h1 := h; have h := h1.2.2 c
    have o1 := h1.1
    refine g3_iload_n 2 dX12_office_10 rfl rfl (g3_iconst dX12_office_11 (g3_sipush dX12_office_12 rfl (g3_cS3 dX12_office_15 myX12_in mlX12_144 (z3 rfl) (z3 rfl) (kX12_in h.1 (g3_r1 (g3_bool_eq (tgt := 37) dX12_office_18 rfl (fun c => ?_) (fun c => ?_)))))))
    · have h1 := h; have h := h1.2.1 c
      have o2 := h1.1
      exact g3_bipush dX12_office_37 rfl (g3_ireturn dX12_office_39 rfl h)
    · have h1 := h; have h := h1.2.2 c
      have o2 := h1.1
      refine g3_iload_n 3 dX12_office_21 rfl rfl (g3_iconst dX12_office_22 (g3_sipush dX12_office_23 rfl (g3_cS3 dX12_office_26 myX12_in mlX12_144 (z3 rfl) (z3 rfl) (kX12_in h.1 (g3_r1 (g3_bool_eq (tgt := 37) dX12_office_29 rfl (fun c => ?_) (fun c => ?_)))))))
      · have h1 := h; have h := h1.2.1 c
        have o3 := h1.1
        exact g3_bipush dX12_office_37 rfl (g3_ireturn dX12_office_39 rfl h)
      · have h1 := h; have h := h1.2.2 c
        have o3 := h1.1
        refine g3_iload_n 2 dX12_office_32 rfl rfl (g3_iload_n 3 dX12_office_33 rfl rfl (g3_icmp_lt (tgt := 40) dX12_office_34 rfl h.1 h.2.1 (fun c => ?_) (fun c => ?_)))
        · have h1 := h; have h := h1.2.2.1 c
          have o4 := h1.1
          have o5 := h1.2.1
          exact g3_aload_n 0 dX12_office_40 rfl rfl (g3_iload_n 1 dX12_office_41 rfl rfl (g3_put dX12_office_42 fpX12_74 (Or.inl rfl) (z3 rfl) h.1 (g3_aload_n 0 dX12_office_45 rfl rfl (g3_iload_n 2 dX12_office_46 rfl rfl (g3_put dX12_office_47 fpX12_77 (Or.inl rfl) (z3 rfl) o4 (g3_aload_n 0 dX12_office_50 rfl rfl (g3_iload_n 3 dX12_office_51 rfl rfl (g3_put dX12_office_52 fpX12_80 (Or.inl rfl) (z3 rfl) o5 (g3_iconst dX12_office_55 (g3_ireturn dX12_office_56 rfl h.2))))))))))
        · have h1 := h; have h := h1.2.2.2 c
          have o4 := h1.1
          have o5 := h1.2.1
          exact g3_bipush dX12_office_37 rfl (g3_ireturn dX12_office_39 rfl h)
set_option maxRecDepth 20000 in
set_option maxHeartbeats 200000 in
theorem sX11_listIs {E : E3} {Q : Q3} {M : M3} {x1 x2 : Int}
    (h : (-2147483648 ≤ x1 ∧ x1 ≤ 2147483647) ∧ ((x1 < 0 → (Q (some (vI (-2))) M)) ∧ (0 ≤ x1 → ((M 36 0 0 ≤ x1 → (Q (some (vI (-2))) M)) ∧ (x1 < M 36 0 0 → (((-2147483648 ≤ x2 ∧ x2 ≤ 2147483647) ∧ (-2147483648 ≤ (0 : Int) ∧ (0 : Int) ≤ 2147483647) ∧ (-2147483648 ≤ (3 : Int) ∧ (3 : Int) ≤ 2147483647)) ∧ (((0 ≤ x2 ∧ x2 ≤ 3) → ((-2147483648 ≤ x2 ∧ x2 ≤ 2147483647) ∧ ((x2 = 0 → ((0 ≤ x1 ∧ x1 < 30) ∧ (Q (some (vI (M 37 0 x1))) M))) ∧ (¬(x2 = 0) → ((x2 = 1 → ((0 ≤ x1 ∧ x1 < 30) ∧ (Q (some (vI (M 38 0 x1))) M))) ∧ (¬(x2 = 1) → ((x2 = 2 → ((0 ≤ x1 ∧ x1 < 30) ∧ (Q (some (vI (M 39 0 x1))) M))) ∧ (¬(x2 = 2) → ((0 ≤ x1 ∧ x1 < 30) ∧ (Q (some (vI (M 40 0 x1))) M)))))))))) ∧ (¬(0 ≤ x2 ∧ x2 ≤ 3) → (Q (some (vI (-2))) M))))))))) :
    C3 E YX11_listIs [vR 0 0, vI x1, vI x2] M Q := by
  refine c3_in rfl rfl (z3 rfl) (g3_rm fun hM => ?_)
  refine g3_aload_n 0 dX11_listIs_0 rfl rfl (g3_getR0 (t := 36) dX11_listIs_1 flX11_67 rfl (z3 rfl) (g3_iload_n 1 dX11_listIs_4 rfl rfl (g3_cV1 dX11_listIs_5 myX7_holds mlX11_251 (z3 rfl) ob_36 (z3 rfl) (z3 rfl) (c3_in rfl rfl (z3 rfl) (g3_iload_n 1 dX7_holds_0 rfl rfl (g3_if_lt (tgt := 16) dX7_holds_1 rfl h.1 (fun c => ?_) (fun c => ?_)))))))
  · have h1 := h; have h := h1.2.1 c
    have o1 := h1.1
    exact g3_iconst dX7_holds_16 (g3_zreturn dX7_holds_17 rfl (Or.inl rfl) (g3_r1 (g3_if_eq_T (tgt := 20) dX11_listIs_8 rfl (z3 rfl) (g3_bipush dX11_listIs_20 rfl (g3_ireturn dX11_listIs_22 rfl h)))))
  · have h1 := h; have h := h1.2.2 c
    have o1 := h1.1
    refine g3_iload_n 1 dX7_holds_4 rfl rfl (g3_aload_n 0 dX7_holds_5 rfl rfl (g3_getI (t := 0) dX7_holds_6 flX7_35 (z3 rfl) (z3 rfl) (g3_icmp_ge (tgt := 16) dX7_holds_9 rfl o1 (hM 36 0 0) (fun c => ?_) (fun c => ?_))))
    · have h1 := h; have h := h1.1 c
      exact g3_iconst dX7_holds_16 (g3_zreturn dX7_holds_17 rfl (Or.inl rfl) (g3_r1 (g3_if_eq_T (tgt := 20) dX11_listIs_8 rfl (z3 rfl) (g3_bipush dX11_listIs_20 rfl (g3_ireturn dX11_listIs_22 rfl h)))))
    · have h1 := h; have h := h1.2 c
      refine g3_iconst dX7_holds_12 (g3_goto (tgt := 17) dX7_holds_13 rfl (g3_zreturn dX7_holds_17 rfl (Or.inr rfl) (g3_r1 (g3_if_eq_F (tgt := 20) dX11_listIs_8 rfl (z3 rfl) (g3_iload_n 2 dX11_listIs_11 rfl rfl (g3_iconst dX11_listIs_12 (g3_iconst dX11_listIs_13 (g3_cS3 dX11_listIs_14 myX11_within mlX11_78 (z3 rfl) (z3 rfl) (kX11_within h.1 (g3_r1 (g3_bool_ne (tgt := 23) dX11_listIs_17 rfl (fun c => ?_) (fun c => ?_))))))))))))
      · have h1 := h; have h := h1.2.1 c
        have o2 := h1.1
        refine g3_aload_n 0 dX11_listIs_23 rfl rfl (g3_getR0 (t := 36) dX11_listIs_24 flX11_67 rfl (z3 rfl) (g3_iload_n 1 dX11_listIs_27 rfl rfl (g3_iload_n 2 dX11_listIs_28 rfl rfl (g3_cV2 dX11_listIs_29 myX7_tell mlX11_252 (z3 rfl) ob_36 (z3 rfl) (z3 rfl) (c3_in rfl rfl (z3 rfl) (g3_iload_n 2 dX7_tell_0 rfl rfl (?_)))))))
        have o3 := h.1
        have hx := h.1
        have h := h.2
        refine g3_by (a := x2 = 0) (fun c => ?_) (fun cs0 => ?_)
        · have h := h.1 c
          refine g3_tin (n := 0) (tgt := 28) dX7_tell_1 c (z3 rfl) (z3 rfl) rfl rfl ?_
          exact g3_aload_n 0 dX7_tell_28 rfl rfl (g3_getR0 (t := 37) dX7_tell_29 flX7_11 rfl (z3 rfl) (g3_iload_n 1 dX7_tell_32 rfl rfl (g3_iald dX7_tell_33 ar_37 (z3 rfl) h.1 (g3_ireturn dX7_tell_34 rfl (g3_r1 (g3_ireturn dX11_listIs_32 rfl h.2))))))
        have h := h.2 cs0
        refine g3_by (a := x2 = 1) (fun c => ?_) (fun cs1 => ?_)
        · have h := h.1 c
          refine g3_tin (n := 1) (tgt := 35) dX7_tell_1 c (z3 rfl) (z3 rfl) rfl rfl ?_
          exact g3_aload_n 0 dX7_tell_35 rfl rfl (g3_getR0 (t := 38) dX7_tell_36 flX7_15 rfl (z3 rfl) (g3_iload_n 1 dX7_tell_39 rfl rfl (g3_iald dX7_tell_40 ar_38 (z3 rfl) h.1 (g3_ireturn dX7_tell_41 rfl (g3_r1 (g3_ireturn dX11_listIs_32 rfl h.2))))))
        have h := h.2 cs1
        refine g3_by (a := x2 = 2) (fun c => ?_) (fun cs2 => ?_)
        · have h := h.1 c
          refine g3_tin (n := 2) (tgt := 42) dX7_tell_1 c (z3 rfl) (z3 rfl) rfl rfl ?_
          exact g3_aload_n 0 dX7_tell_42 rfl rfl (g3_getR0 (t := 39) dX7_tell_43 flX7_18 rfl (z3 rfl) (g3_iload_n 1 dX7_tell_46 rfl rfl (g3_iald dX7_tell_47 ar_39 (z3 rfl) h.1 (g3_ireturn dX7_tell_48 rfl (g3_r1 (g3_ireturn dX11_listIs_32 rfl h.2))))))
        have h := h.2 cs2
        refine g3_tout (tgt := 49) dX7_tell_1 hx (tout_0_2 cs0 cs1 cs2) rfl ?_
        exact g3_aload_n 0 dX7_tell_49 rfl rfl (g3_getR0 (t := 40) dX7_tell_50 flX7_21 rfl (z3 rfl) (g3_iload_n 1 dX7_tell_53 rfl rfl (g3_iald dX7_tell_54 ar_40 (z3 rfl) h.1 (g3_ireturn dX7_tell_55 rfl (g3_r1 (g3_ireturn dX11_listIs_32 rfl h.2))))))
      · have h1 := h; have h := h1.2.2 c
        have o2 := h1.1
        exact g3_bipush dX11_listIs_20 rfl (g3_ireturn dX11_listIs_22 rfl h)
set_option maxRecDepth 20000 in
set_option maxHeartbeats 200000 in
theorem sX12_listIs {E : E3} {Q : Q3} {M : M3} {x1 x2 : Int}
    (h : ((-2147483648 ≤ x1 ∧ x1 ≤ 2147483647) ∧ (-2147483648 ≤ (0 : Int) ∧ (0 : Int) ≤ 2147483647) ∧ (-2147483648 ≤ ((M 44 0 39) - 1) ∧ ((M 44 0 39) - 1) ≤ 2147483647)) ∧ ((¬(0 ≤ x1 ∧ x1 ≤ ((M 44 0 39) - 1)) → (Q (some (vI (-2))) M)) ∧ ((0 ≤ x1 ∧ x1 ≤ ((M 44 0 39) - 1)) → (((-2147483648 ≤ x2 ∧ x2 ≤ 2147483647) ∧ (-2147483648 ≤ (0 : Int) ∧ (0 : Int) ≤ 2147483647) ∧ (-2147483648 ≤ (3 : Int) ∧ (3 : Int) ≤ 2147483647)) ∧ ((¬(0 ≤ x2 ∧ x2 ≤ 3) → (Q (some (vI (-2))) M)) ∧ ((0 ≤ x2 ∧ x2 ≤ 3) → ((0 ≤ (4 * x1) + x2 ∧ (4 * x1) + x2 < 120) ∧ (Q (some (vI (M 71 0 ((4 * x1) + x2)))) M)))))))) :
    C3 E YX12_listIs [vR 44 0, vI x1, vI x2] M Q := by
  refine c3_in rfl rfl (z3 rfl) (g3_rm fun hM => ?_)
  refine g3_iload_n 1 dX12_listIs_0 rfl rfl (g3_iconst dX12_listIs_1 (g3_aload_n 0 dX12_listIs_2 rfl rfl (g3_getI (t := 0) dX12_listIs_3 flX12_303 (z3 rfl) (z3 rfl) (g3_iconst dX12_listIs_6 (g3_isub dX12_listIs_7 (g3_cS3 dX12_listIs_8 myX12_in mlX12_144 (z3 rfl) (z3 rfl) (kX12_in h.1 (g3_r1 (g3_bool_eq (tgt := 36) dX12_listIs_11 rfl (fun c => ?_) (fun c => ?_))))))))))
  · have h1 := h; have h := h1.2.1 c
    have o1 := h1.1
    exact g3_bipush dX12_listIs_36 rfl (g3_ireturn dX12_listIs_38 rfl h)
  · have h1 := h; have h := h1.2.2 c
    have o1 := h1.1
    refine g3_iload_n 2 dX12_listIs_14 rfl rfl (g3_iconst dX12_listIs_15 (g3_iconst dX12_listIs_16 (g3_cS3 dX12_listIs_17 myX12_in mlX12_144 (z3 rfl) (z3 rfl) (kX12_in h.1 (g3_r1 (g3_bool_eq (tgt := 36) dX12_listIs_20 rfl (fun c => ?_) (fun c => ?_)))))))
    · have h1 := h; have h := h1.2.1 c
      have o2 := h1.1
      exact g3_bipush dX12_listIs_36 rfl (g3_ireturn dX12_listIs_38 rfl h)
    · have h1 := h; have h := h1.2.2 c
      have o2 := h1.1
      exact g3_aload_n 0 dX12_listIs_23 rfl rfl (g3_getR0 (t := 71) dX12_listIs_24 flX12_101 rfl (z3 rfl) (g3_iconst dX12_listIs_27 (g3_iload_n 1 dX12_listIs_28 rfl rfl (g3_imul dX12_listIs_29 (g3_iload_n 2 dX12_listIs_30 rfl rfl (g3_iadd dX12_listIs_31 (g3_iald dX12_listIs_32 ar_71 (z3 rfl) h.1 (g3_goto (tgt := 38) dX12_listIs_33 rfl (g3_ireturn dX12_listIs_38 rfl h.2)))))))))
set_option maxRecDepth 20000 in
set_option maxHeartbeats 200000 in
theorem sX11_order {E : E3} {Q : Q3} {M : M3} {x1 x2 : Int}
    (h : ((-2147483648 ≤ x1 ∧ x1 ≤ 2147483647) ∧ (-2147483648 ≤ (0 : Int) ∧ (0 : Int) ≤ 2147483647) ∧ (-2147483648 ≤ (3 : Int) ∧ (3 : Int) ≤ 2147483647)) ∧ ((¬(0 ≤ x1 ∧ x1 ≤ 3) → (Q (some (vI (-2))) M)) ∧ ((0 ≤ x1 ∧ x1 ≤ 3) → ((-2147483648 ≤ x2 ∧ x2 ≤ 2147483647) ∧ ((x2 = (-1) → ((0 ≤ x1 ∧ x1 < 4) ∧ (Q (some (vI (M 16 0 x1))) (up3 M 16 0 x1 x2)))) ∧ (x2 ≠ (-1) → (((-2147483648 ≤ x2 ∧ x2 ≤ 2147483647) ∧ (-2147483648 ≤ (0 : Int) ∧ (0 : Int) ≤ 2147483647) ∧ (-2147483648 ≤ (399 : Int) ∧ (399 : Int) ≤ 2147483647)) ∧ (((0 ≤ x2 ∧ x2 ≤ 399) → ((0 ≤ x1 ∧ x1 < 4) ∧ (Q (some (vI (M 16 0 x1))) (up3 M 16 0 x1 x2)))) ∧ (¬(0 ≤ x2 ∧ x2 ≤ 399) → (Q (some (vI (-2))) M)))))))))) :
    C3 E YX11_order [vR 0 0, vI x1, vI x2] M Q := by
  refine c3_in rfl rfl (z3 rfl) (g3_rm fun hM => ?_)
  refine g3_iload_n 1 dX11_order_0 rfl rfl (g3_cS1 dX11_order_1 myX11_isClerk mlX11_179 (z3 rfl) (z3 rfl) (c3_in rfl rfl (z3 rfl) (g3_iload_n 0 dX11_isClerk_0 rfl rfl (g3_iconst dX11_isClerk_1 (g3_iconst dX11_isClerk_2 (g3_cS3 dX11_isClerk_3 myX11_within mlX11_78 (z3 rfl) (z3 rfl) (kX11_within h.1 (g3_r1 (g3_zreturn dX11_isClerk_6 rfl (bo3_01 _) (g3_r1 (g3_bool_eq (tgt := 19) dX11_order_4 rfl (fun c => ?_) (fun c => ?_))))))))))))
  · have h1 := h; have h := h1.2.1 c
    have o1 := h1.1
    exact g3_bipush dX11_order_19 rfl (g3_ireturn dX11_order_21 rfl h)
  · have h1 := h; have h := h1.2.2 c
    have o1 := h1.1
    refine g3_iload_n 2 dX11_order_7 rfl rfl (g3_iconst dX11_order_8 (g3_icmp_eq (tgt := 22) dX11_order_9 rfl h.1 (z3 rfl) (fun c => ?_) (fun c => ?_)))
    · have h1 := h; have h := h1.2.1 c
      have o2 := h1.1
      exact g3_aload_n 0 dX11_order_22 rfl rfl (g3_getR0 (t := 14) dX11_order_23 flX11_35 rfl (z3 rfl) (g3_iload_n 1 dX11_order_26 rfl rfl (g3_iload_n 2 dX11_order_27 rfl rfl (g3_cV2 dX11_order_28 myX2_setOrder mlX11_256 (z3 rfl) ob_14 (z3 rfl) (z3 rfl) (c3_in rfl rfl (z3 rfl) (g3_aload_n 0 dX2_setOrder_0 rfl rfl (g3_getR0 (t := 16) dX2_setOrder_1 flX2_17 rfl (z3 rfl) (g3_iload_n 1 dX2_setOrder_4 rfl rfl (g3_iald dX2_setOrder_5 ar_16 (z3 rfl) h.1 (g3_istore_n (lv' := [(3, vI (M 16 0 x1)), (0, vR 14 0), (1, vI x1), (2, vI x2)]) dX2_setOrder_6 rfl (z3 rfl) rfl (g3_aload_n 1 dX2_setOrder_7 rfl rfl (g3_getR0 (t := 16) dX2_setOrder_8 flX2_17 rfl (z3 rfl) (g3_iload_n 2 dX2_setOrder_11 rfl rfl (g3_iload_n 3 dX2_setOrder_12 rfl rfl (g3_iast dX2_setOrder_13 ar_16 (z3 rfl) h.1 o2 (g3_iload_n 0 dX2_setOrder_14 rfl rfl (g3_ireturn dX2_setOrder_15 rfl (g3_r1 (g3_ireturn dX11_order_31 rfl h.2)))))))))))))))))))
    · have h1 := h; have h := h1.2.2 c
      have o2 := h1.1
      refine g3_iload_n 2 dX11_order_12 rfl rfl (g3_cS1 dX11_order_13 myX11_isDay mlX11_151 (z3 rfl) (z3 rfl) (c3_in rfl rfl (z3 rfl) (g3_iload_n 0 dX11_isDay_0 rfl rfl (g3_iconst dX11_isDay_1 (g3_sipush dX11_isDay_2 rfl (g3_cS3 dX11_isDay_5 myX11_within mlX11_78 (z3 rfl) (z3 rfl) (kX11_within h.1 (g3_r1 (g3_zreturn dX11_isDay_8 rfl (bo3_01 _) (g3_r1 (g3_bool_ne (tgt := 22) dX11_order_16 rfl (fun c => ?_) (fun c => ?_))))))))))))
      · have h1 := h; have h := h1.2.1 c
        have o4 := h1.1
        exact g3_aload_n 0 dX11_order_22 rfl rfl (g3_getR0 (t := 14) dX11_order_23 flX11_35 rfl (z3 rfl) (g3_iload_n 1 dX11_order_26 rfl rfl (g3_iload_n 2 dX11_order_27 rfl rfl (g3_cV2 dX11_order_28 myX2_setOrder mlX11_256 (z3 rfl) ob_14 (z3 rfl) (z3 rfl) (c3_in rfl rfl (z3 rfl) (g3_aload_n 0 dX2_setOrder_0 rfl rfl (g3_getR0 (t := 16) dX2_setOrder_1 flX2_17 rfl (z3 rfl) (g3_iload_n 1 dX2_setOrder_4 rfl rfl (g3_iald dX2_setOrder_5 ar_16 (z3 rfl) h.1 (g3_istore_n (lv' := [(3, vI (M 16 0 x1)), (0, vR 14 0), (1, vI x1), (2, vI x2)]) dX2_setOrder_6 rfl (z3 rfl) rfl (g3_aload_n 1 dX2_setOrder_7 rfl rfl (g3_getR0 (t := 16) dX2_setOrder_8 flX2_17 rfl (z3 rfl) (g3_iload_n 2 dX2_setOrder_11 rfl rfl (g3_iload_n 3 dX2_setOrder_12 rfl rfl (g3_iast dX2_setOrder_13 ar_16 (z3 rfl) h.1 o2 (g3_iload_n 0 dX2_setOrder_14 rfl rfl (g3_ireturn dX2_setOrder_15 rfl (g3_r1 (g3_ireturn dX11_order_31 rfl h.2)))))))))))))))))))
      · have h1 := h; have h := h1.2.2 c
        have o4 := h1.1
        exact g3_bipush dX11_order_19 rfl (g3_ireturn dX11_order_21 rfl h)
set_option maxRecDepth 20000 in
set_option maxHeartbeats 200000 in
theorem sX12_order {E : E3} {Q : Q3} {M : M3} {x1 x2 : Int}
    (h : ((-2147483648 ≤ x1 ∧ x1 ≤ 2147483647) ∧ (-2147483648 ≤ (0 : Int) ∧ (0 : Int) ≤ 2147483647) ∧ (-2147483648 ≤ (3 : Int) ∧ (3 : Int) ≤ 2147483647)) ∧ ((¬(0 ≤ x1 ∧ x1 ≤ 3) → (Q (some (vI (-2))) M)) ∧ ((0 ≤ x1 ∧ x1 ≤ 3) → (((-2147483648 ≤ x2 ∧ x2 ≤ 2147483647) ∧ (-2147483648 ≤ ((-1) : Int) ∧ ((-1) : Int) ≤ 2147483647) ∧ (-2147483648 ≤ (399 : Int) ∧ (399 : Int) ≤ 2147483647)) ∧ ((((-1) ≤ x2 ∧ x2 ≤ 399) → ((0 ≤ x1 ∧ x1 < 4) ∧ ((-2147483648 ≤ x2 ∧ x2 ≤ 2147483647) ∧ (Q (some (vI (M 74 0 x1))) (up3 M 74 0 x1 x2))))) ∧ (¬((-1) ≤ x2 ∧ x2 ≤ 399) → (Q (some (vI (-2))) M))))))) :
    C3 E YX12_order [vR 44 0, vI x1, vI x2] M Q := by
  refine c3_in rfl rfl (z3 rfl) (g3_rm fun hM => ?_)
  refine g3_iload_n 1 dX12_order_0 rfl rfl (g3_cS1 dX12_order_1 myX12_isClerk mlX12_248 (z3 rfl) (z3 rfl) (c3_in rfl rfl (z3 rfl) (g3_iload_n 0 dX12_isClerk_0 rfl rfl (g3_iconst dX12_isClerk_1 (g3_iconst dX12_isClerk_2 (g3_cS3 dX12_isClerk_3 myX12_in mlX12_144 (z3 rfl) (z3 rfl) (kX12_in h.1 (g3_r1 (g3_zreturn dX12_isClerk_6 rfl (bo3_01 _) (g3_r1 (g3_bool_eq (tgt := 18) dX12_order_4 rfl (fun c => ?_) (fun c => ?_))))))))))))
  · have h1 := h; have h := h1.2.1 c
    have o1 := h1.1
    exact g3_bipush dX12_order_18 rfl (g3_ireturn dX12_order_20 rfl h)
  · have h1 := h; have h := h1.2.2 c
    have o1 := h1.1
    refine g3_iload_n 2 dX12_order_7 rfl rfl (g3_iconst dX12_order_8 (g3_sipush dX12_order_9 rfl (g3_cS3 dX12_order_12 myX12_in mlX12_144 (z3 rfl) (z3 rfl) (kX12_in h.1 (g3_r1 (g3_bool_ne (tgt := 21) dX12_order_15 rfl (fun c => ?_) (fun c => ?_)))))))
    · have h1 := h; have h := h1.2.1 c
      have o2 := h1.1
      exact g3_aload_n 0 dX12_order_21 rfl rfl (g3_getR0 (t := 74) dX12_order_22 flX12_111 rfl (z3 rfl) (g3_iload_n 1 dX12_order_25 rfl rfl (g3_iald dX12_order_26 ar_74 (z3 rfl) h.1 (g3_istore_n (lv' := [(3, vI (M 74 0 x1)), (0, vR 44 0), (1, vI x1), (2, vI x2)]) dX12_order_27 rfl (z3 rfl) rfl (g3_aload_n 1 dX12_order_28 rfl rfl (g3_getR0 (t := 74) dX12_order_29 flX12_111 rfl (z3 rfl) (g3_iload_n 2 dX12_order_32 rfl rfl (g3_iload_n 3 dX12_order_33 rfl rfl (g3_iast dX12_order_34 ar_74 (z3 rfl) h.1 h.2.1 (g3_iload_n 0 dX12_order_35 rfl rfl (g3_ireturn dX12_order_36 rfl h.2.2)))))))))))
    · have h1 := h; have h := h1.2.2 c
      have o2 := h1.1
      exact g3_bipush dX12_order_18 rfl (g3_ireturn dX12_order_20 rfl h)
set_option maxRecDepth 20000 in
set_option maxHeartbeats 200000 in
theorem sX11_choice {E : E3} {Q : Q3} {M : M3} {x1 x2 x3 : Int}
    (h : (-2147483648 ≤ x1 ∧ x1 ≤ 2147483647) ∧ ((x1 = 0 → (((-2147483648 ≤ x2 ∧ x2 ≤ 2147483647) ∧ (-2147483648 ≤ (0 : Int) ∧ (0 : Int) ≤ 2147483647) ∧ (-2147483648 ≤ (5 : Int) ∧ (5 : Int) ≤ 2147483647)) ∧ ((¬(0 ≤ x2 ∧ x2 ≤ 5) → (Q (some (vI (-2))) M)) ∧ ((0 ≤ x2 ∧ x2 ≤ 5) → (((-2147483648 ≤ x3 ∧ x3 ≤ 2147483647) ∧ (-2147483648 ≤ (0 : Int) ∧ (0 : Int) ≤ 2147483647) ∧ (-2147483648 ≤ (100 : Int) ∧ (100 : Int) ≤ 2147483647)) ∧ (((0 ≤ x3 ∧ x3 ≤ 100) → ((M 31 0 0 < 8 → ((0 ≤ M 31 0 0 ∧ M 31 0 0 < 8) ∧ ((x1 = 0 ∨ x1 = 1) ∧ ((-2147483648 ≤ x2 ∧ x2 ≤ 2147483647) ∧ ((-2147483648 ≤ x3 ∧ x3 ≤ 2147483647) ∧ ((-2147483648 ≤ (M 31 0 0) + 1 ∧ (M 31 0 0) + 1 ≤ 2147483647) ∧ (Q (some (vI ((M 31 0 0) + 1))) (up3 (up3 (up3 (up3 M 32 0 (M 31 0 0) x1) 33 0 (M 31 0 0) x2) 34 0 (M 31 0 0) x3) 31 0 0 ((M 31 0 0) + 1))))))))) ∧ (8 ≤ M 31 0 0 → (Q (some (vI (-4))) M)))) ∧ (¬(0 ≤ x3 ∧ x3 ≤ 100) → (Q (some (vI (-2))) M)))))))) ∧ (x1 ≠ 0 → ((-2147483648 ≤ x2 ∧ x2 ≤ 2147483647) ∧ ((x2 < 0 → (Q (some (vI (-2))) M)) ∧ (0 ≤ x2 → ((M 10 0 0 ≤ x2 → (Q (some (vI (-2))) M)) ∧ (x2 < M 10 0 0 → (((-2147483648 ≤ x3 ∧ x3 ≤ 2147483647) ∧ (-2147483648 ≤ (0 : Int) ∧ (0 : Int) ≤ 2147483647) ∧ (-2147483648 ≤ (100 : Int) ∧ (100 : Int) ≤ 2147483647)) ∧ (((0 ≤ x3 ∧ x3 ≤ 100) → ((M 31 0 0 < 8 → ((0 ≤ M 31 0 0 ∧ M 31 0 0 < 8) ∧ ((x1 = 0 ∨ x1 = 1) ∧ ((-2147483648 ≤ x3 ∧ x3 ≤ 2147483647) ∧ ((-2147483648 ≤ (M 31 0 0) + 1 ∧ (M 31 0 0) + 1 ≤ 2147483647) ∧ (Q (some (vI ((M 31 0 0) + 1))) (up3 (up3 (up3 (up3 M 32 0 (M 31 0 0) x1) 33 0 (M 31 0 0) x2) 34 0 (M 31 0 0) x3) 31 0 0 ((M 31 0 0) + 1)))))))) ∧ (8 ≤ M 31 0 0 → (Q (some (vI (-4))) M)))) ∧ (¬(0 ≤ x3 ∧ x3 ≤ 100) → (Q (some (vI (-2))) M)))))))))))) :
    C3 E YX11_choice [vR 0 0, vI x1, vI x2, vI x3] M Q := by
  refine c3_in rfl rfl (z3 rfl) (g3_rm fun hM => ?_)
  refine g3_iload_n 1 dX11_choice_0 rfl rfl (g3_if_eq (tgt := 18) dX11_choice_1 rfl h.1 (fun c => ?_) (fun c => ?_))
  · have h1 := h; have h := h1.2.1 c
    have o1 := h1.1
    refine g3_iload_n 2 dX11_choice_18 rfl rfl (g3_cS1 dX11_choice_19 myX11_isBeat mlX11_86 (z3 rfl) (z3 rfl) (c3_in rfl rfl (z3 rfl) (g3_iload_n 0 dX11_isBeat_0 rfl rfl (g3_iconst dX11_isBeat_1 (g3_iconst dX11_isBeat_2 (g3_cS3 dX11_isBeat_3 myX11_within mlX11_78 (z3 rfl) (z3 rfl) (kX11_within h.1 (g3_r1 (g3_zreturn dX11_isBeat_6 rfl (bo3_01 _) (g3_r1 (g3_bool_eq (tgt := 35) dX11_choice_22 rfl (fun c => ?_) (fun c => ?_))))))))))))
    · have h1 := h; have h := h1.2.1 c
      have o2 := h1.1
      exact g3_bipush dX11_choice_35 rfl (g3_ireturn dX11_choice_37 rfl h)
    · have h1 := h; have h := h1.2.2 c
      have o2 := h1.1
      refine g3_iload_n 3 dX11_choice_25 rfl rfl (g3_iconst dX11_choice_26 (g3_bipush dX11_choice_27 rfl (g3_cS3 dX11_choice_29 myX11_within mlX11_78 (z3 rfl) (z3 rfl) (kX11_within h.1 (g3_r1 (g3_bool_ne (tgt := 38) dX11_choice_32 rfl (fun c => ?_) (fun c => ?_)))))))
      · have h1 := h; have h := h1.2.1 c
        have o3 := h1.1
        refine g3_aload_n 0 dX11_choice_38 rfl rfl (g3_getR0 (t := 31) dX11_choice_39 flX11_58 rfl (z3 rfl) (g3_cV0 dX11_choice_42 myX10_isFull mlX11_271 (z3 rfl) ob_31 (z3 rfl) (z3 rfl) (c3_in rfl rfl (z3 rfl) (g3_aload_n 0 dX10_isFull_0 rfl rfl (g3_getI (t := 0) dX10_isFull_1 flX10_41 (z3 rfl) (z3 rfl) (g3_bipush dX10_isFull_4 rfl (g3_icmp_lt (tgt := 13) dX10_isFull_6 rfl (hM 31 0 0) (z3 rfl) (fun c => ?_) (fun c => ?_))))))))
        · have h1 := h; have h := h1.1 c
          exact g3_iconst dX10_isFull_13 (g3_zreturn dX10_isFull_14 rfl (Or.inl rfl) (g3_r1 (g3_if_eq_T (tgt := 51) dX11_choice_45 rfl (z3 rfl) (g3_aload_n 0 dX11_choice_51 rfl rfl (g3_getR0 (t := 31) dX11_choice_52 flX11_58 rfl (z3 rfl) (g3_iload_n 1 dX11_choice_55 rfl rfl (g3_iload_n 2 dX11_choice_56 rfl rfl (g3_iload_n 3 dX11_choice_57 rfl rfl (g3_cV3 dX11_choice_58 myX10_offer mlX11_272 (z3 rfl) ob_31 (z3 rfl) (z3 rfl) (c3_in rfl rfl (z3 rfl) (g3_aload_n 0 dX10_offer_0 rfl rfl (g3_getR0 (t := 32) dX10_offer_1 flX10_11 rfl (z3 rfl) (g3_aload_n 0 dX10_offer_4 rfl rfl (g3_getI (t := 0) dX10_offer_5 flX10_41 (z3 rfl) (z3 rfl) (g3_iload_n 1 dX10_offer_8 rfl rfl (g3_zast dX10_offer_9 ar_32 (z3 rfl) h.1 h.2.1 (g3_aload_n 0 dX10_offer_10 rfl rfl (g3_getR0 (t := 33) dX10_offer_11 flX10_15 rfl (z3 rfl) (g3_aload_n 0 dX10_offer_14 rfl rfl (g3_getI (t := 0) dX10_offer_15 flX10_41 (z3 rfl) (z3 rfl) (g3_val (up3_nr (by decide)) (g3_iload_n 2 dX10_offer_18 rfl rfl (g3_iast dX10_offer_19 ar_33 (z3 rfl) h.1 h.2.2.1 (g3_aload_n 0 dX10_offer_20 rfl rfl (g3_getR0 (t := 34) dX10_offer_21 flX10_19 rfl (z3 rfl) (g3_aload_n 0 dX10_offer_24 rfl rfl (g3_getI (t := 0) dX10_offer_25 flX10_41 (z3 rfl) (z3 rfl) (g3_val ((up3_nr (by decide)).trans (up3_nr (by decide))) (g3_iload_n 3 dX10_offer_28 rfl rfl (g3_iast dX10_offer_29 ar_34 (z3 rfl) h.1 h.2.2.2.1 (g3_aload_n 0 dX10_offer_30 rfl rfl (g3_dup dX10_offer_31 rfl (g3_getI (t := 0) dX10_offer_32 flX10_41 (z3 rfl) (z3 rfl) (g3_val (((up3_nr (by decide)).trans (up3_nr (by decide))).trans (up3_nr (by decide))) (g3_iconst dX10_offer_35 (g3_iadd dX10_offer_36 (g3_put dX10_offer_37 fpX10_41 (Or.inl rfl) (z3 rfl) h.2.2.2.2.1 (g3_aload_n 0 dX10_offer_40 rfl rfl (g3_getI (t := 0) dX10_offer_41 flX10_41 (z3 rfl) (z3 rfl) (g3_val (up3_eq) (g3_ireturn dX10_offer_44 rfl (g3_r1 (g3_ireturn dX11_choice_61 rfl h.2.2.2.2.2)))))))))))))))))))))))))))))))))))))))))))
        · have h1 := h; have h := h1.2 c
          exact g3_iconst dX10_isFull_9 (g3_goto (tgt := 14) dX10_isFull_10 rfl (g3_zreturn dX10_isFull_14 rfl (Or.inr rfl) (g3_r1 (g3_if_eq_F (tgt := 51) dX11_choice_45 rfl (z3 rfl) (g3_bipush dX11_choice_48 rfl (g3_ireturn dX11_choice_50 rfl h))))))
      · have h1 := h; have h := h1.2.2 c
        have o3 := h1.1
        exact g3_bipush dX11_choice_35 rfl (g3_ireturn dX11_choice_37 rfl h)
  · have h1 := h; have h := h1.2.2 c
    have o1 := h1.1
    refine g3_aload_n 0 dX11_choice_4 rfl rfl (g3_getR0 (t := 10) dX11_choice_5 flX11_26 rfl (z3 rfl) (g3_iload_n 2 dX11_choice_8 rfl rfl (g3_cV1 dX11_choice_9 myX0_holds mlX11_93 (z3 rfl) ob_10 (z3 rfl) (z3 rfl) (c3_in rfl rfl (z3 rfl) (g3_iload_n 1 dX0_holds_0 rfl rfl (g3_if_lt (tgt := 16) dX0_holds_1 rfl h.1 (fun c => ?_) (fun c => ?_)))))))
    · have h1 := h; have h := h1.2.1 c
      have o9 := h1.1
      exact g3_iconst dX0_holds_16 (g3_zreturn dX0_holds_17 rfl (Or.inl rfl) (g3_r1 (g3_if_eq_T (tgt := 35) dX11_choice_12 rfl (z3 rfl) (g3_bipush dX11_choice_35 rfl (g3_ireturn dX11_choice_37 rfl h)))))
    · have h1 := h; have h := h1.2.2 c
      have o9 := h1.1
      refine g3_iload_n 1 dX0_holds_4 rfl rfl (g3_aload_n 0 dX0_holds_5 rfl rfl (g3_getI (t := 0) dX0_holds_6 flX0_22 (z3 rfl) (z3 rfl) (g3_icmp_ge (tgt := 16) dX0_holds_9 rfl o9 (hM 10 0 0) (fun c => ?_) (fun c => ?_))))
      · have h1 := h; have h := h1.1 c
        exact g3_iconst dX0_holds_16 (g3_zreturn dX0_holds_17 rfl (Or.inl rfl) (g3_r1 (g3_if_eq_T (tgt := 35) dX11_choice_12 rfl (z3 rfl) (g3_bipush dX11_choice_35 rfl (g3_ireturn dX11_choice_37 rfl h)))))
      · have h1 := h; have h := h1.2 c
        refine g3_iconst dX0_holds_12 (g3_goto (tgt := 17) dX0_holds_13 rfl (g3_zreturn dX0_holds_17 rfl (Or.inr rfl) (g3_r1 (g3_if_eq_F (tgt := 35) dX11_choice_12 rfl (z3 rfl) (g3_goto (tgt := 25) dX11_choice_15 rfl (g3_iload_n 3 dX11_choice_25 rfl rfl (g3_iconst dX11_choice_26 (g3_bipush dX11_choice_27 rfl (g3_cS3 dX11_choice_29 myX11_within mlX11_78 (z3 rfl) (z3 rfl) (kX11_within h.1 (g3_r1 (g3_bool_ne (tgt := 38) dX11_choice_32 rfl (fun c => ?_) (fun c => ?_)))))))))))))
        · have h1 := h; have h := h1.2.1 c
          have o10 := h1.1
          refine g3_aload_n 0 dX11_choice_38 rfl rfl (g3_getR0 (t := 31) dX11_choice_39 flX11_58 rfl (z3 rfl) (g3_cV0 dX11_choice_42 myX10_isFull mlX11_271 (z3 rfl) ob_31 (z3 rfl) (z3 rfl) (c3_in rfl rfl (z3 rfl) (g3_aload_n 0 dX10_isFull_0 rfl rfl (g3_getI (t := 0) dX10_isFull_1 flX10_41 (z3 rfl) (z3 rfl) (g3_bipush dX10_isFull_4 rfl (g3_icmp_lt (tgt := 13) dX10_isFull_6 rfl (hM 31 0 0) (z3 rfl) (fun c => ?_) (fun c => ?_))))))))
          · have h1 := h; have h := h1.1 c
            exact g3_iconst dX10_isFull_13 (g3_zreturn dX10_isFull_14 rfl (Or.inl rfl) (g3_r1 (g3_if_eq_T (tgt := 51) dX11_choice_45 rfl (z3 rfl) (g3_aload_n 0 dX11_choice_51 rfl rfl (g3_getR0 (t := 31) dX11_choice_52 flX11_58 rfl (z3 rfl) (g3_iload_n 1 dX11_choice_55 rfl rfl (g3_iload_n 2 dX11_choice_56 rfl rfl (g3_iload_n 3 dX11_choice_57 rfl rfl (g3_cV3 dX11_choice_58 myX10_offer mlX11_272 (z3 rfl) ob_31 (z3 rfl) (z3 rfl) (c3_in rfl rfl (z3 rfl) (g3_aload_n 0 dX10_offer_0 rfl rfl (g3_getR0 (t := 32) dX10_offer_1 flX10_11 rfl (z3 rfl) (g3_aload_n 0 dX10_offer_4 rfl rfl (g3_getI (t := 0) dX10_offer_5 flX10_41 (z3 rfl) (z3 rfl) (g3_iload_n 1 dX10_offer_8 rfl rfl (g3_zast dX10_offer_9 ar_32 (z3 rfl) h.1 h.2.1 (g3_aload_n 0 dX10_offer_10 rfl rfl (g3_getR0 (t := 33) dX10_offer_11 flX10_15 rfl (z3 rfl) (g3_aload_n 0 dX10_offer_14 rfl rfl (g3_getI (t := 0) dX10_offer_15 flX10_41 (z3 rfl) (z3 rfl) (g3_val (up3_nr (by decide)) (g3_iload_n 2 dX10_offer_18 rfl rfl (g3_iast dX10_offer_19 ar_33 (z3 rfl) h.1 o9 (g3_aload_n 0 dX10_offer_20 rfl rfl (g3_getR0 (t := 34) dX10_offer_21 flX10_19 rfl (z3 rfl) (g3_aload_n 0 dX10_offer_24 rfl rfl (g3_getI (t := 0) dX10_offer_25 flX10_41 (z3 rfl) (z3 rfl) (g3_val ((up3_nr (by decide)).trans (up3_nr (by decide))) (g3_iload_n 3 dX10_offer_28 rfl rfl (g3_iast dX10_offer_29 ar_34 (z3 rfl) h.1 h.2.2.1 (g3_aload_n 0 dX10_offer_30 rfl rfl (g3_dup dX10_offer_31 rfl (g3_getI (t := 0) dX10_offer_32 flX10_41 (z3 rfl) (z3 rfl) (g3_val (((up3_nr (by decide)).trans (up3_nr (by decide))).trans (up3_nr (by decide))) (g3_iconst dX10_offer_35 (g3_iadd dX10_offer_36 (g3_put dX10_offer_37 fpX10_41 (Or.inl rfl) (z3 rfl) h.2.2.2.1 (g3_aload_n 0 dX10_offer_40 rfl rfl (g3_getI (t := 0) dX10_offer_41 flX10_41 (z3 rfl) (z3 rfl) (g3_val (up3_eq) (g3_ireturn dX10_offer_44 rfl (g3_r1 (g3_ireturn dX11_choice_61 rfl h.2.2.2.2)))))))))))))))))))))))))))))))))))))))))))
          · have h1 := h; have h := h1.2 c
            exact g3_iconst dX10_isFull_9 (g3_goto (tgt := 14) dX10_isFull_10 rfl (g3_zreturn dX10_isFull_14 rfl (Or.inr rfl) (g3_r1 (g3_if_eq_F (tgt := 51) dX11_choice_45 rfl (z3 rfl) (g3_bipush dX11_choice_48 rfl (g3_ireturn dX11_choice_50 rfl h))))))
        · have h1 := h; have h := h1.2.2 c
          have o10 := h1.1
          exact g3_bipush dX11_choice_35 rfl (g3_ireturn dX11_choice_37 rfl h)
set_option maxRecDepth 20000 in
set_option maxHeartbeats 200000 in
theorem sX12_choice {E : E3} {Q : Q3} {M : M3} {x1 x2 x3 : Int}
    (h : (-2147483648 ≤ x1 ∧ x1 ≤ 2147483647) ∧ ((x1 = 0 → (((-2147483648 ≤ x2 ∧ x2 ≤ 2147483647) ∧ (-2147483648 ≤ (0 : Int) ∧ (0 : Int) ≤ 2147483647) ∧ (-2147483648 ≤ (5 : Int) ∧ (5 : Int) ≤ 2147483647)) ∧ ((¬(0 ≤ x2 ∧ x2 ≤ 5) → (Q (some (vI (-2))) M)) ∧ ((0 ≤ x2 ∧ x2 ≤ 5) → (((-2147483648 ≤ x3 ∧ x3 ≤ 2147483647) ∧ (-2147483648 ≤ (0 : Int) ∧ (0 : Int) ≤ 2147483647) ∧ (-2147483648 ≤ (100 : Int) ∧ (100 : Int) ≤ 2147483647)) ∧ (((0 ≤ x3 ∧ x3 ≤ 100) → ((M 44 0 44 ≠ 8 → ((0 ≤ M 44 0 44 ∧ M 44 0 44 < 8) ∧ ((x1 = 0 ∨ x1 = 1) ∧ ((-2147483648 ≤ x2 ∧ x2 ≤ 2147483647) ∧ ((-2147483648 ≤ x3 ∧ x3 ≤ 2147483647) ∧ ((-2147483648 ≤ (M 44 0 44) + 1 ∧ (M 44 0 44) + 1 ≤ 2147483647) ∧ (Q (some (vI ((M 44 0 44) + 1))) (up3 (up3 (up3 (up3 M 75 0 (M 44 0 44) x1) 76 0 (M 44 0 44) x2) 77 0 (M 44 0 44) x3) 44 0 44 ((M 44 0 44) + 1))))))))) ∧ (M 44 0 44 = 8 → (Q (some (vI (-4))) M)))) ∧ (¬(0 ≤ x3 ∧ x3 ≤ 100) → (Q (some (vI (-2))) M)))))))) ∧ (x1 ≠ 0 → (((-2147483648 ≤ x2 ∧ x2 ≤ 2147483647) ∧ (-2147483648 ≤ (0 : Int) ∧ (0 : Int) ≤ 2147483647) ∧ (-2147483648 ≤ ((M 44 0 1) - 1) ∧ ((M 44 0 1) - 1) ≤ 2147483647)) ∧ ((¬(0 ≤ x2 ∧ x2 ≤ ((M 44 0 1) - 1)) → (Q (some (vI (-2))) M)) ∧ ((0 ≤ x2 ∧ x2 ≤ ((M 44 0 1) - 1)) → (((-2147483648 ≤ x3 ∧ x3 ≤ 2147483647) ∧ (-2147483648 ≤ (0 : Int) ∧ (0 : Int) ≤ 2147483647) ∧ (-2147483648 ≤ (100 : Int) ∧ (100 : Int) ≤ 2147483647)) ∧ (((0 ≤ x3 ∧ x3 ≤ 100) → ((M 44 0 44 ≠ 8 → ((0 ≤ M 44 0 44 ∧ M 44 0 44 < 8) ∧ ((x1 = 0 ∨ x1 = 1) ∧ ((-2147483648 ≤ x2 ∧ x2 ≤ 2147483647) ∧ ((-2147483648 ≤ x3 ∧ x3 ≤ 2147483647) ∧ ((-2147483648 ≤ (M 44 0 44) + 1 ∧ (M 44 0 44) + 1 ≤ 2147483647) ∧ (Q (some (vI ((M 44 0 44) + 1))) (up3 (up3 (up3 (up3 M 75 0 (M 44 0 44) x1) 76 0 (M 44 0 44) x2) 77 0 (M 44 0 44) x3) 44 0 44 ((M 44 0 44) + 1))))))))) ∧ (M 44 0 44 = 8 → (Q (some (vI (-4))) M)))) ∧ (¬(0 ≤ x3 ∧ x3 ≤ 100) → (Q (some (vI (-2))) M)))))))))) :
    C3 E YX12_choice [vR 44 0, vI x1, vI x2, vI x3] M Q := by
  refine c3_in rfl rfl (z3 rfl) (g3_rm fun hM => ?_)
  refine g3_iload_n 1 dX12_choice_0 rfl rfl (g3_if_eq (tgt := 15) dX12_choice_1 rfl h.1 (fun c => ?_) (fun c => ?_))
  · have h1 := h; have h := h1.2.1 c
    have o1 := h1.1
    refine g3_iload_n 2 dX12_choice_15 rfl rfl (g3_cS1 dX12_choice_16 myX12_isBeat mlX12_154 (z3 rfl) (z3 rfl) (c3_in rfl rfl (z3 rfl) (g3_iload_n 0 dX12_isBeat_0 rfl rfl (g3_iconst dX12_isBeat_1 (g3_iconst dX12_isBeat_2 (g3_cS3 dX12_isBeat_3 myX12_in mlX12_144 (z3 rfl) (z3 rfl) (kX12_in h.1 (g3_r1 (g3_zreturn dX12_isBeat_6 rfl (bo3_01 _) (g3_r1 (g3_bool_eq (tgt := 32) dX12_choice_19 rfl (fun c => ?_) (fun c => ?_))))))))))))
    · have h1 := h; have h := h1.2.1 c
      have o2 := h1.1
      exact g3_bipush dX12_choice_32 rfl (g3_ireturn dX12_choice_34 rfl h)
    · have h1 := h; have h := h1.2.2 c
      have o2 := h1.1
      refine g3_iload_n 3 dX12_choice_22 rfl rfl (g3_iconst dX12_choice_23 (g3_bipush dX12_choice_24 rfl (g3_cS3 dX12_choice_26 myX12_in mlX12_144 (z3 rfl) (z3 rfl) (kX12_in h.1 (g3_r1 (g3_bool_ne (tgt := 35) dX12_choice_29 rfl (fun c => ?_) (fun c => ?_)))))))
      · have h1 := h; have h := h1.2.1 c
        have o3 := h1.1
        refine g3_aload_n 0 dX12_choice_35 rfl rfl (g3_getI (t := 0) dX12_choice_36 flX12_315 (z3 rfl) (z3 rfl) (g3_bipush dX12_choice_39 rfl (g3_icmp_ne (tgt := 47) dX12_choice_41 rfl (hM 44 0 44) (z3 rfl) (fun c => ?_) (fun c => ?_))))
        · have h1 := h; have h := h1.1 c
          exact g3_aload_n 0 dX12_choice_47 rfl rfl (g3_getR0 (t := 75) dX12_choice_48 flX12_114 rfl (z3 rfl) (g3_aload_n 0 dX12_choice_51 rfl rfl (g3_getI (t := 0) dX12_choice_52 flX12_315 (z3 rfl) (z3 rfl) (g3_iload_n 1 dX12_choice_55 rfl rfl (g3_zast dX12_choice_56 ar_75 (z3 rfl) h.1 h.2.1 (g3_aload_n 0 dX12_choice_57 rfl rfl (g3_getR0 (t := 76) dX12_choice_58 flX12_117 rfl (z3 rfl) (g3_aload_n 0 dX12_choice_61 rfl rfl (g3_getI (t := 0) dX12_choice_62 flX12_315 (z3 rfl) (z3 rfl) (g3_val (up3_nr (by decide)) (g3_iload_n 2 dX12_choice_65 rfl rfl (g3_iast dX12_choice_66 ar_76 (z3 rfl) h.1 h.2.2.1 (g3_aload_n 0 dX12_choice_67 rfl rfl (g3_getR0 (t := 77) dX12_choice_68 flX12_120 rfl (z3 rfl) (g3_aload_n 0 dX12_choice_71 rfl rfl (g3_getI (t := 0) dX12_choice_72 flX12_315 (z3 rfl) (z3 rfl) (g3_val ((up3_nr (by decide)).trans (up3_nr (by decide))) (g3_iload_n 3 dX12_choice_75 rfl rfl (g3_iast dX12_choice_76 ar_77 (z3 rfl) h.1 h.2.2.2.1 (g3_aload_n 0 dX12_choice_77 rfl rfl (g3_dup dX12_choice_78 rfl (g3_getI (t := 0) dX12_choice_79 flX12_315 (z3 rfl) (z3 rfl) (g3_val (((up3_nr (by decide)).trans (up3_nr (by decide))).trans (up3_nr (by decide))) (g3_iconst dX12_choice_82 (g3_iadd dX12_choice_83 (g3_put dX12_choice_84 fpX12_315 (Or.inl rfl) (z3 rfl) h.2.2.2.2.1 (g3_aload_n 0 dX12_choice_87 rfl rfl (g3_getI (t := 0) dX12_choice_88 flX12_315 (z3 rfl) (z3 rfl) (g3_val (up3_eq) (g3_ireturn dX12_choice_91 rfl h.2.2.2.2.2))))))))))))))))))))))))))))))
        · have h1 := h; have h := h1.2 c
          exact g3_bipush dX12_choice_44 rfl (g3_ireturn dX12_choice_46 rfl h)
      · have h1 := h; have h := h1.2.2 c
        have o3 := h1.1
        exact g3_bipush dX12_choice_32 rfl (g3_ireturn dX12_choice_34 rfl h)
  · have h1 := h; have h := h1.2.2 c
    have o1 := h1.1
    refine g3_aload_n 0 dX12_choice_4 rfl rfl (g3_iload_n 2 dX12_choice_5 rfl rfl (g3_cV1 dX12_choice_6 myX12_isPerson mlX12_167 (z3 rfl) ob_44 (z3 rfl) (z3 rfl) (c3_in rfl rfl (z3 rfl) (g3_iload_n 1 dX12_isPerson_0 rfl rfl (g3_iconst dX12_isPerson_1 (g3_aload_n 0 dX12_isPerson_2 rfl rfl (g3_getI (t := 0) dX12_isPerson_3 flX12_148 (z3 rfl) (z3 rfl) (g3_iconst dX12_isPerson_6 (g3_isub dX12_isPerson_7 (g3_cS3 dX12_isPerson_8 myX12_in mlX12_144 (z3 rfl) (z3 rfl) (kX12_in h.1 (g3_r1 (g3_zreturn dX12_isPerson_11 rfl (bo3_01 _) (g3_r1 (g3_bool_eq (tgt := 32) dX12_choice_9 rfl (fun c => ?_) (fun c => ?_))))))))))))))))
    · have h1 := h; have h := h1.2.1 c
      have o9 := h1.1
      exact g3_bipush dX12_choice_32 rfl (g3_ireturn dX12_choice_34 rfl h)
    · have h1 := h; have h := h1.2.2 c
      have o9 := h1.1
      refine g3_goto (tgt := 22) dX12_choice_12 rfl (g3_iload_n 3 dX12_choice_22 rfl rfl (g3_iconst dX12_choice_23 (g3_bipush dX12_choice_24 rfl (g3_cS3 dX12_choice_26 myX12_in mlX12_144 (z3 rfl) (z3 rfl) (kX12_in h.1 (g3_r1 (g3_bool_ne (tgt := 35) dX12_choice_29 rfl (fun c => ?_) (fun c => ?_))))))))
      · have h1 := h; have h := h1.2.1 c
        have o10 := h1.1
        refine g3_aload_n 0 dX12_choice_35 rfl rfl (g3_getI (t := 0) dX12_choice_36 flX12_315 (z3 rfl) (z3 rfl) (g3_bipush dX12_choice_39 rfl (g3_icmp_ne (tgt := 47) dX12_choice_41 rfl (hM 44 0 44) (z3 rfl) (fun c => ?_) (fun c => ?_))))
        · have h1 := h; have h := h1.1 c
          exact g3_aload_n 0 dX12_choice_47 rfl rfl (g3_getR0 (t := 75) dX12_choice_48 flX12_114 rfl (z3 rfl) (g3_aload_n 0 dX12_choice_51 rfl rfl (g3_getI (t := 0) dX12_choice_52 flX12_315 (z3 rfl) (z3 rfl) (g3_iload_n 1 dX12_choice_55 rfl rfl (g3_zast dX12_choice_56 ar_75 (z3 rfl) h.1 h.2.1 (g3_aload_n 0 dX12_choice_57 rfl rfl (g3_getR0 (t := 76) dX12_choice_58 flX12_117 rfl (z3 rfl) (g3_aload_n 0 dX12_choice_61 rfl rfl (g3_getI (t := 0) dX12_choice_62 flX12_315 (z3 rfl) (z3 rfl) (g3_val (up3_nr (by decide)) (g3_iload_n 2 dX12_choice_65 rfl rfl (g3_iast dX12_choice_66 ar_76 (z3 rfl) h.1 h.2.2.1 (g3_aload_n 0 dX12_choice_67 rfl rfl (g3_getR0 (t := 77) dX12_choice_68 flX12_120 rfl (z3 rfl) (g3_aload_n 0 dX12_choice_71 rfl rfl (g3_getI (t := 0) dX12_choice_72 flX12_315 (z3 rfl) (z3 rfl) (g3_val ((up3_nr (by decide)).trans (up3_nr (by decide))) (g3_iload_n 3 dX12_choice_75 rfl rfl (g3_iast dX12_choice_76 ar_77 (z3 rfl) h.1 h.2.2.2.1 (g3_aload_n 0 dX12_choice_77 rfl rfl (g3_dup dX12_choice_78 rfl (g3_getI (t := 0) dX12_choice_79 flX12_315 (z3 rfl) (z3 rfl) (g3_val (((up3_nr (by decide)).trans (up3_nr (by decide))).trans (up3_nr (by decide))) (g3_iconst dX12_choice_82 (g3_iadd dX12_choice_83 (g3_put dX12_choice_84 fpX12_315 (Or.inl rfl) (z3 rfl) h.2.2.2.2.1 (g3_aload_n 0 dX12_choice_87 rfl rfl (g3_getI (t := 0) dX12_choice_88 flX12_315 (z3 rfl) (z3 rfl) (g3_val (up3_eq) (g3_ireturn dX12_choice_91 rfl h.2.2.2.2.2))))))))))))))))))))))))))))))
        · have h1 := h; have h := h1.2 c
          exact g3_bipush dX12_choice_44 rfl (g3_ireturn dX12_choice_46 rfl h)
      · have h1 := h; have h := h1.2.2 c
        have o10 := h1.1
        exact g3_bipush dX12_choice_32 rfl (g3_ireturn dX12_choice_34 rfl h)
set_option maxRecDepth 20000 in
set_option maxHeartbeats 200000 in
theorem sX11_drop {E : E3} {Q : Q3} {M : M3}
    (h : Q (some (vI (M 31 0 0))) (up3 M 31 0 0 0)) :
    C3 E YX11_drop [vR 0 0] M Q := by
  refine c3_in rfl rfl (z3 rfl) (g3_rm fun hM => ?_)
  exact g3_aload_n 0 dX11_drop_0 rfl rfl (g3_getR0 (t := 31) dX11_drop_1 flX11_58 rfl (z3 rfl) (g3_cV0 dX11_drop_4 myX10_clear mlX11_276 (z3 rfl) ob_31 (z3 rfl) (z3 rfl) (c3_in rfl rfl (z3 rfl) (g3_aload_n 0 dX10_clear_0 rfl rfl (g3_getI (t := 0) dX10_clear_1 flX10_41 (z3 rfl) (z3 rfl) (g3_istore_n (lv' := [(1, vI (M 31 0 0)), (0, vR 31 0)]) dX10_clear_4 rfl (z3 rfl) rfl (g3_aload_n 1 dX10_clear_5 rfl rfl (g3_iconst dX10_clear_6 (g3_put dX10_clear_7 fpX10_41 (Or.inl rfl) (z3 rfl) (z3 rfl) (g3_iload_n 0 dX10_clear_10 rfl rfl (g3_ireturn dX10_clear_11 rfl (g3_r1 (g3_ireturn dX11_drop_7 rfl h)))))))))))))
set_option maxRecDepth 20000 in
set_option maxHeartbeats 200000 in
theorem sX12_drop {E : E3} {Q : Q3} {M : M3}
    (h : Q (some (vI (M 44 0 44))) (up3 M 44 0 44 0)) :
    C3 E YX12_drop [vR 44 0] M Q := by
  refine c3_in rfl rfl (z3 rfl) (g3_rm fun hM => ?_)
  exact g3_aload_n 0 dX12_drop_0 rfl rfl (g3_getI (t := 0) dX12_drop_1 flX12_315 (z3 rfl) (z3 rfl) (g3_istore_n (lv' := [(1, vI (M 44 0 44)), (0, vR 44 0)]) dX12_drop_4 rfl (z3 rfl) rfl (g3_aload_n 1 dX12_drop_5 rfl rfl (g3_iconst dX12_drop_6 (g3_put dX12_drop_7 fpX12_315 (Or.inl rfl) (z3 rfl) (z3 rfl) (g3_iload_n 0 dX12_drop_10 rfl rfl (g3_ireturn dX12_drop_11 rfl h)))))))
set_option maxRecDepth 20000 in
set_option maxHeartbeats 200000 in
theorem sX11_lose {E : E3} {Q : Q3} {M : M3} {x1 : Int}
    (h : ((-2147483648 ≤ x1 ∧ x1 ≤ 2147483647) ∧ (-2147483648 ≤ (0 : Int) ∧ (0 : Int) ≤ 2147483647) ∧ (-2147483648 ≤ (3 : Int) ∧ (3 : Int) ≤ 2147483647)) ∧ (((0 ≤ x1 ∧ x1 ≤ 3) → ((0 ≤ x1 ∧ x1 < 4) ∧ ((M 42 x1 0 ≠ (-1) → (Q (some (vI (M 42 x1 1))) (up3 (up3 M 42 x1 0 (-1)) 42 x1 1 0))) ∧ (M 42 x1 0 = (-1) → (Q (some (vI ((-10) - 1))) (up3 M 0 0 9 1)))))) ∧ (¬(0 ≤ x1 ∧ x1 ≤ 3) → (Q (some (vI (-2))) M)))) :
    C3 E YX11_lose [vR 0 0, vI x1] M Q := by
  refine c3_in rfl rfl (z3 rfl) (g3_rm fun hM => ?_)
  refine g3_iload_n 1 dX11_lose_0 rfl rfl (g3_cS1 dX11_lose_1 myX11_isSheet mlX11_161 (z3 rfl) (z3 rfl) (c3_in rfl rfl (z3 rfl) (g3_iload_n 0 dX11_isSheet_0 rfl rfl (g3_iconst dX11_isSheet_1 (g3_iconst dX11_isSheet_2 (g3_cS3 dX11_isSheet_3 myX11_within mlX11_78 (z3 rfl) (z3 rfl) (kX11_within h.1 (g3_r1 (g3_zreturn dX11_isSheet_6 rfl (bo3_01 _) (g3_r1 (g3_bool_ne (tgt := 10) dX11_lose_4 rfl (fun c => ?_) (fun c => ?_))))))))))))
  · have h1 := h; have h := h1.2.1 c
    have o1 := h1.1
    refine g3_aload_n 0 dX11_lose_10 rfl rfl (g3_getR0 (t := 1) dX11_lose_11 flX11_73 rfl (z3 rfl) (g3_iload_n 1 dX11_lose_14 rfl rfl (g3_aald dX11_lose_15 aq_1 h.1 (g3_cV0 dX11_lose_16 myX9_isLost mlX11_164 (z3 rfl) ob_42 h.1 (z3 rfl) (c3_in rfl rfl (z3 rfl) (g3_aload_n 0 dX9_isLost_0 rfl rfl (g3_getI (t := 0) dX9_isLost_1 flX9_9 (z3 rfl) h.1 (g3_iconst dX9_isLost_4 (g3_icmp_ne (tgt := 12) dX9_isLost_5 rfl (hM 42 x1 0) (z3 rfl) (fun c => ?_) (fun c => ?_))))))))))
    · have h1 := h; have h := h1.2.1 c
      have o2 := h1.1
      exact g3_iconst dX9_isLost_12 (g3_zreturn dX9_isLost_13 rfl (Or.inl rfl) (g3_r1 (g3_if_eq_T (tgt := 30) dX11_lose_19 rfl (z3 rfl) (g3_aload_n 0 dX11_lose_30 rfl rfl (g3_getR0 (t := 1) dX11_lose_31 flX11_73 rfl (z3 rfl) (g3_iload_n 1 dX11_lose_34 rfl rfl (g3_aald dX11_lose_35 aq_1 o2 (g3_cV0 dX11_lose_36 myX9_vanish mlX11_293 (z3 rfl) ob_42 o2 (z3 rfl) (c3_in rfl rfl (z3 rfl) (g3_aload_n 0 dX9_vanish_0 rfl rfl (g3_getI (t := 0) dX9_vanish_1 flX9_19 (z3 rfl) o2 (g3_istore_n (lv' := [(1, vI (M 42 x1 1)), (0, vR 42 x1)]) dX9_vanish_4 rfl (z3 rfl) rfl (g3_aload_n 1 dX9_vanish_5 rfl rfl (g3_iconst dX9_vanish_6 (g3_put dX9_vanish_7 fpX9_9 (Or.inl rfl) o2 (z3 rfl) (g3_aload_n 1 dX9_vanish_10 rfl rfl (g3_iconst dX9_vanish_11 (g3_put dX9_vanish_12 fpX9_19 (Or.inl rfl) o2 (z3 rfl) (g3_iload_n 0 dX9_vanish_15 rfl rfl (g3_ireturn dX9_vanish_16 rfl (g3_r1 (g3_ireturn dX11_lose_39 rfl h))))))))))))))))))))))
    · have h1 := h; have h := h1.2.2 c
      have o2 := h1.1
      exact g3_iconst dX9_isLost_8 (g3_goto (tgt := 13) dX9_isLost_9 rfl (g3_zreturn dX9_isLost_13 rfl (Or.inr rfl) (g3_r1 (g3_if_eq_F (tgt := 30) dX11_lose_19 rfl (z3 rfl) (g3_aload_n 0 dX11_lose_22 rfl rfl (g3_iconst dX11_lose_23 (g3_cV1 dX11_lose_24 myX11_found mlX11_167 (z3 rfl) ob_0 (z3 rfl) (z3 rfl) (c3_in rfl rfl (z3 rfl) (g3_aload_n 0 dX11_found_0 rfl rfl (g3_iload_n 1 dX11_found_1 rfl rfl (g3_put dX11_found_2 fpX11_341 (Or.inl rfl) (z3 rfl) (z3 rfl) (g3_bipush dX11_found_5 rfl (g3_iload_n 1 dX11_found_7 rfl rfl (g3_isub dX11_found_8 (g3_ireturn dX11_found_9 rfl (g3_r1 (g3_goto (tgt := 39) dX11_lose_27 rfl (g3_ireturn dX11_lose_39 rfl h))))))))))))))))))
  · have h1 := h; have h := h1.2.2 c
    have o1 := h1.1
    exact g3_bipush dX11_lose_7 rfl (g3_ireturn dX11_lose_9 rfl h)
set_option maxRecDepth 20000 in
set_option maxHeartbeats 200000 in
theorem sX12_lose {E : E3} {Q : Q3} {M : M3} {x1 : Int}
    (h : ((-2147483648 ≤ x1 ∧ x1 ≤ 2147483647) ∧ (-2147483648 ≤ (0 : Int) ∧ (0 : Int) ≤ 2147483647) ∧ (-2147483648 ≤ (3 : Int) ∧ (3 : Int) ≤ 2147483647)) ∧ (((0 ≤ x1 ∧ x1 ≤ 3) → ((0 ≤ x1 ∧ x1 < 4) ∧ ((M 80 0 x1 ≠ 0 → (Q (some (vI (M 82 0 x1))) (up3 M 80 0 x1 0))) ∧ (M 80 0 x1 = 0 → (Q (some (vI ((-10) - 1))) (up3 M 44 0 58 1)))))) ∧ (¬(0 ≤ x1 ∧ x1 ≤ 3) → (Q (some (vI (-2))) M)))) :
    C3 E YX12_lose [vR 44 0, vI x1] M Q := by
  refine c3_in rfl rfl (z3 rfl) (g3_rm fun hM => ?_)
  refine g3_iload_n 1 dX12_lose_0 rfl rfl (g3_cS1 dX12_lose_1 myX12_isSheet mlX12_223 (z3 rfl) (z3 rfl) (c3_in rfl rfl (z3 rfl) (g3_iload_n 0 dX12_isSheet_0 rfl rfl (g3_iconst dX12_isSheet_1 (g3_iconst dX12_isSheet_2 (g3_cS3 dX12_isSheet_3 myX12_in mlX12_144 (z3 rfl) (z3 rfl) (kX12_in h.1 (g3_r1 (g3_zreturn dX12_isSheet_6 rfl (bo3_01 _) (g3_r1 (g3_bool_ne (tgt := 10) dX12_lose_4 rfl (fun c => ?_) (fun c => ?_))))))))))))
  · have h1 := h; have h := h1.2.1 c
    have o1 := h1.1
    refine g3_aload_n 0 dX12_lose_10 rfl rfl (g3_getR0 (t := 80) dX12_lose_11 flX12_129 rfl (z3 rfl) (g3_iload_n 1 dX12_lose_14 rfl rfl (g3_zald dX12_lose_15 ar_80 (z3 rfl) h.1 (g3_if_ne (tgt := 25) dX12_lose_16 rfl (hM 80 0 x1) (fun c => ?_) (fun c => ?_)))))
    · have h1 := h; have h := h1.2.1 c
      have o2 := h1.1
      exact g3_aload_n 0 dX12_lose_25 rfl rfl (g3_getR0 (t := 80) dX12_lose_26 flX12_129 rfl (z3 rfl) (g3_iload_n 1 dX12_lose_29 rfl rfl (g3_iconst dX12_lose_30 (g3_zast dX12_lose_31 ar_80 (z3 rfl) o2 (Or.inl rfl) (g3_aload_n 0 dX12_lose_32 rfl rfl (g3_getR0 (t := 82) dX12_lose_33 flX12_135 rfl (z3 rfl) (g3_iload_n 1 dX12_lose_36 rfl rfl (g3_iald dX12_lose_37 ar_82 (z3 rfl) o2 (g3_val (up3_nr (by decide)) (g3_ireturn dX12_lose_38 rfl h))))))))))
    · have h1 := h; have h := h1.2.2 c
      have o2 := h1.1
      exact g3_aload_n 0 dX12_lose_19 rfl rfl (g3_iconst dX12_lose_20 (g3_cV1 dX12_lose_21 myX12_meets mlX12_226 (z3 rfl) ob_44 (z3 rfl) (z3 rfl) (c3_in rfl rfl (z3 rfl) (g3_aload_n 0 dX12_meets_0 rfl rfl (g3_iload_n 1 dX12_meets_1 rfl rfl (g3_put dX12_meets_2 fpX12_344 (Or.inl rfl) (z3 rfl) (z3 rfl) (g3_bipush dX12_meets_5 rfl (g3_iload_n 1 dX12_meets_7 rfl rfl (g3_isub dX12_meets_8 (g3_ireturn dX12_meets_9 rfl (g3_r1 (g3_ireturn dX12_lose_24 rfl h))))))))))))
  · have h1 := h; have h := h1.2.2 c
    have o1 := h1.1
    exact g3_bipush dX12_lose_7 rfl (g3_ireturn dX12_lose_9 rfl h)
set_option maxRecDepth 20000 in
set_option maxHeartbeats 200000 in
theorem sX11_lay {E : E3} {Q : Q3} {M : M3} {x1 x2 x3 x4 : Int}
    (h : ((-2147483648 ≤ x1 ∧ x1 ≤ 2147483647) ∧ (-2147483648 ≤ (0 : Int) ∧ (0 : Int) ≤ 2147483647) ∧ (-2147483648 ≤ (3 : Int) ∧ (3 : Int) ≤ 2147483647)) ∧ ((¬(0 ≤ x1 ∧ x1 ≤ 3) → (Q (some (vI (-2))) M)) ∧ ((0 ≤ x1 ∧ x1 ≤ 3) → (((-2147483648 ≤ x2 ∧ x2 ≤ 2147483647) ∧ (-2147483648 ≤ (0 : Int) ∧ (0 : Int) ≤ 2147483647) ∧ (-2147483648 ≤ (2 : Int) ∧ (2 : Int) ≤ 2147483647)) ∧ (((0 ≤ x2 ∧ x2 ≤ 2) → ((0 ≤ x1 ∧ x1 < 4) ∧ ((M 42 x1 0 ≠ (-1) → ((-2147483648 ≤ x2 ∧ x2 ≤ 2147483647) ∧ ((M 42 x1 0 = x2 → ((-2147483648 ≤ x3 ∧ x3 ≤ 2147483647) ∧ ((x3 < 0 → (Q (some (vI ((-10) - 2))) (up3 M 0 0 9 2))) ∧ (0 ≤ x3 → ((M 42 x1 1 ≤ x3 → (Q (some (vI ((-10) - 2))) (up3 M 0 0 9 2))) ∧ (x3 < M 42 x1 1 → (((M 42 x1 0) = 0 → ((0 ≤ x3 ∧ x3 < 40) ∧ (Q (some (vI 1)) (up3 M 43 x1 x3 (i2b3 x4))))) ∧ (¬((M 42 x1 0) = 0) → (((M 42 x1 0) = 1 → ((0 ≤ x3 ∧ x3 < 40) ∧ (Q (some (vI 1)) (up3 M 43 x1 x3 (i2s3 x4))))) ∧ (¬((M 42 x1 0) = 1) → ((0 ≤ x3 ∧ x3 < 40) ∧ ((-2147483648 ≤ x4 ∧ x4 ≤ 2147483647) ∧ (Q (some (vI 1)) (up3 M 43 x1 x3 x4)))))))))))))) ∧ (M 42 x1 0 ≠ x2 → (Q (some (vI ((-10) - 3))) (up3 M 0 0 9 3)))))) ∧ (M 42 x1 0 = (-1) → (Q (some (vI ((-10) - 1))) (up3 M 0 0 9 1)))))) ∧ (¬(0 ≤ x2 ∧ x2 ≤ 2) → (Q (some (vI (-2))) M))))))) :
    C3 E YX11_lay [vR 0 0, vI x1, vI x2, vI x3, vI x4] M Q := by
  refine c3_in rfl rfl (z3 rfl) (g3_rm fun hM => ?_)
  refine g3_iload_n 1 dX11_lay_0 rfl rfl (g3_cS1 dX11_lay_1 myX11_isSheet mlX11_161 (z3 rfl) (z3 rfl) (c3_in rfl rfl (z3 rfl) (g3_iload_n 0 dX11_isSheet_0 rfl rfl (g3_iconst dX11_isSheet_1 (g3_iconst dX11_isSheet_2 (g3_cS3 dX11_isSheet_3 myX11_within mlX11_78 (z3 rfl) (z3 rfl) (kX11_within h.1 (g3_r1 (g3_zreturn dX11_isSheet_6 rfl (bo3_01 _) (g3_r1 (g3_bool_eq (tgt := 14) dX11_lay_4 rfl (fun c => ?_) (fun c => ?_))))))))))))
  · have h1 := h; have h := h1.2.1 c
    have o1 := h1.1
    exact g3_bipush dX11_lay_14 rfl (g3_ireturn dX11_lay_16 rfl h)
  · have h1 := h; have h := h1.2.2 c
    have o1 := h1.1
    refine g3_iload_n 2 dX11_lay_7 rfl rfl (g3_cS1 dX11_lay_8 myX11_isType mlX11_286 (z3 rfl) (z3 rfl) (c3_in rfl rfl (z3 rfl) (g3_iload_n 0 dX11_isType_0 rfl rfl (g3_iconst dX11_isType_1 (g3_iconst dX11_isType_2 (g3_cS3 dX11_isType_3 myX11_within mlX11_78 (z3 rfl) (z3 rfl) (kX11_within h.1 (g3_r1 (g3_zreturn dX11_isType_6 rfl (bo3_01 _) (g3_r1 (g3_bool_ne (tgt := 17) dX11_lay_11 rfl (fun c => ?_) (fun c => ?_))))))))))))
    · have h1 := h; have h := h1.2.1 c
      have o2 := h1.1
      refine g3_aload_n 0 dX11_lay_17 rfl rfl (g3_getR0 (t := 1) dX11_lay_18 flX11_73 rfl (z3 rfl) (g3_iload_n 1 dX11_lay_21 rfl rfl (g3_aald dX11_lay_22 aq_1 h.1 (g3_iload_n 2 dX11_lay_23 rfl rfl (g3_iload_n 3 dX11_lay_24 rfl rfl (g3_cV2 dX11_lay_25 myX9_troubleAt mlX11_296 (z3 rfl) ob_42 h.1 (z3 rfl) (c3_in rfl rfl (z3 rfl) (g3_aload_n 0 dX9_troubleAt_0 rfl rfl (g3_cV0 dX9_troubleAt_1 myX9_isLost mlX9_22 (z3 rfl) ob_42 h.1 (z3 rfl) (c3_in rfl rfl (z3 rfl) (g3_aload_n 0 dX9_isLost_0 rfl rfl (g3_getI (t := 0) dX9_isLost_1 flX9_9 (z3 rfl) h.1 (g3_iconst dX9_isLost_4 (g3_icmp_ne (tgt := 12) dX9_isLost_5 rfl (hM 42 x1 0) (z3 rfl) (fun c => ?_) (fun c => ?_)))))))))))))))
      · have h1 := h; have h := h1.2.1 c
        have o3 := h1.1
        refine g3_iconst dX9_isLost_12 (g3_zreturn dX9_isLost_13 rfl (Or.inl rfl) (g3_r1 (g3_if_eq_T (tgt := 9) dX9_troubleAt_4 rfl (z3 rfl) (g3_aload_n 0 dX9_troubleAt_9 rfl rfl (g3_getI (t := 0) dX9_troubleAt_10 flX9_9 (z3 rfl) o3 (g3_iload_n 1 dX9_troubleAt_13 rfl rfl (g3_icmp_eq (tgt := 19) dX9_troubleAt_14 rfl (hM 42 x1 0) h.1 (fun c => ?_) (fun c => ?_))))))))
        · have h1 := h; have h := h1.2.1 c
          have o4 := h1.1
          refine g3_iload_n 2 dX9_troubleAt_19 rfl rfl (g3_if_lt (tgt := 35) dX9_troubleAt_20 rfl h.1 (fun c => ?_) (fun c => ?_))
          · have h1 := h; have h := h1.2.1 c
            have o5 := h1.1
            exact g3_iconst dX9_troubleAt_35 (g3_ireturn dX9_troubleAt_36 rfl (g3_r1 (g3_istore (lv' := [(5, vI 2), (0, vR 0 0), (1, vI x1), (2, vI x2), (3, vI x3), (4, vI x4)]) dX11_lay_28 (z3 rfl) rfl (g3_iload 0 dX11_lay_30 rfl (g3_if_eq_F (tgt := 42) dX11_lay_32 rfl (z3 rfl) (g3_aload_n 1 dX11_lay_35 rfl rfl (g3_iload 0 dX11_lay_36 rfl (g3_cV1 dX11_lay_38 myX11_found mlX11_167 (z3 rfl) ob_0 (z3 rfl) (z3 rfl) (c3_in rfl rfl (z3 rfl) (g3_aload_n 0 dX11_found_0 rfl rfl (g3_iload_n 1 dX11_found_1 rfl rfl (g3_put dX11_found_2 fpX11_341 (Or.inl rfl) (z3 rfl) (z3 rfl) (g3_bipush dX11_found_5 rfl (g3_iload_n 1 dX11_found_7 rfl rfl (g3_isub dX11_found_8 (g3_ireturn dX11_found_9 rfl (g3_r1 (g3_ireturn dX11_lay_41 rfl h))))))))))))))))))
          · have h1 := h; have h := h1.2.2 c
            have o5 := h1.1
            refine g3_iload_n 2 dX9_troubleAt_23 rfl rfl (g3_aload_n 0 dX9_troubleAt_24 rfl rfl (g3_getI (t := 0) dX9_troubleAt_25 flX9_19 (z3 rfl) o3 (g3_icmp_ge (tgt := 35) dX9_troubleAt_28 rfl o5 (hM 42 x1 1) (fun c => ?_) (fun c => ?_))))
            · have h1 := h; have h := h1.1 c
              exact g3_iconst dX9_troubleAt_35 (g3_ireturn dX9_troubleAt_36 rfl (g3_r1 (g3_istore (lv' := [(5, vI 2), (0, vR 0 0), (1, vI x1), (2, vI x2), (3, vI x3), (4, vI x4)]) dX11_lay_28 (z3 rfl) rfl (g3_iload 0 dX11_lay_30 rfl (g3_if_eq_F (tgt := 42) dX11_lay_32 rfl (z3 rfl) (g3_aload_n 1 dX11_lay_35 rfl rfl (g3_iload 0 dX11_lay_36 rfl (g3_cV1 dX11_lay_38 myX11_found mlX11_167 (z3 rfl) ob_0 (z3 rfl) (z3 rfl) (c3_in rfl rfl (z3 rfl) (g3_aload_n 0 dX11_found_0 rfl rfl (g3_iload_n 1 dX11_found_1 rfl rfl (g3_put dX11_found_2 fpX11_341 (Or.inl rfl) (z3 rfl) (z3 rfl) (g3_bipush dX11_found_5 rfl (g3_iload_n 1 dX11_found_7 rfl rfl (g3_isub dX11_found_8 (g3_ireturn dX11_found_9 rfl (g3_r1 (g3_ireturn dX11_lay_41 rfl h))))))))))))))))))
            · have h1 := h; have h := h1.2 c
              refine g3_iconst dX9_troubleAt_31 (g3_goto (tgt := 36) dX9_troubleAt_32 rfl (g3_ireturn dX9_troubleAt_36 rfl (g3_r1 (g3_istore (lv' := [(5, vI 0), (0, vR 0 0), (1, vI x1), (2, vI x2), (3, vI x3), (4, vI x4)]) dX11_lay_28 (z3 rfl) rfl (g3_iload 0 dX11_lay_30 rfl (g3_if_eq_T (tgt := 42) dX11_lay_32 rfl (z3 rfl) (g3_aload_n 1 dX11_lay_42 rfl rfl (g3_getR0 (t := 1) dX11_lay_43 flX11_73 rfl (z3 rfl) (g3_iload_n 2 dX11_lay_46 rfl rfl (g3_aald dX11_lay_47 aq_1 o3 (g3_iload_n 4 dX11_lay_48 rfl rfl (g3_iload 5 dX11_lay_49 rfl (g3_cV2 dX11_lay_51 myX9_store mlX11_299 (z3 rfl) ob_42 o3 (z3 rfl) (c3_in rfl rfl (z3 rfl) (g3_aload_n 0 dX9_store_0 rfl rfl (g3_getI (t := 0) dX9_store_1 flX9_9 (z3 rfl) o3 (?_)))))))))))))))))
              have hx := (hM 42 x1 0)
              have h := h
              refine g3_by (a := (M 42 x1 0) = 0) (fun c => ?_) (fun cs0 => ?_)
              · have h := h.1 c
                refine g3_look (tgt := 32) dX9_store_4 rfl hx (by rw [c] <;> rfl) rfl ?_
                exact g3_aload_n 0 dX9_store_32 rfl rfl (g3_getRi (t := 43) dX9_store_33 flX9_15 rfl o3 (g3_iload_n 1 dX9_store_36 rfl rfl (g3_iload_n 2 dX9_store_37 rfl rfl (g3_i2b dX9_store_38 (g3_iast dX9_store_39 ar_43 o3 h.1 (t3_tr _) (g3_goto (tgt := 61) dX9_store_40 rfl (g3_return dX9_store_61 rfl (g3_r0 (g3_iconst dX11_lay_54 (g3_ireturn dX11_lay_55 rfl h.2))))))))))
              have h := h.2 cs0
              refine g3_by (a := (M 42 x1 0) = 1) (fun c => ?_) (fun cs1 => ?_)
              · have h := h.1 c
                refine g3_look (tgt := 43) dX9_store_4 rfl hx (by rw [c] <;> rfl) rfl ?_
                exact g3_aload_n 0 dX9_store_43 rfl rfl (g3_getRi (t := 43) dX9_store_44 flX9_15 rfl o3 (g3_iload_n 1 dX9_store_47 rfl rfl (g3_iload_n 2 dX9_store_48 rfl rfl (g3_i2s dX9_store_49 (g3_iast dX9_store_50 ar_43 o3 h.1 (t3_tr _) (g3_goto (tgt := 61) dX9_store_51 rfl (g3_return dX9_store_61 rfl (g3_r0 (g3_iconst dX11_lay_54 (g3_ireturn dX11_lay_55 rfl h.2))))))))))
              have h := h.2 cs1
              refine g3_look (off := 50) (tgt := 54) dX9_store_4 rfl hx (by simp [Op.lookupswitch.offset, cs0, Ne.symm cs0, cs1, Ne.symm cs1]) rfl ?_
              exact g3_aload_n 0 dX9_store_54 rfl rfl (g3_getRi (t := 43) dX9_store_55 flX9_15 rfl o3 (g3_iload_n 1 dX9_store_58 rfl rfl (g3_iload_n 2 dX9_store_59 rfl rfl (g3_iast dX9_store_60 ar_43 o3 h.1 h.2.1 (g3_return dX9_store_61 rfl (g3_r0 (g3_iconst dX11_lay_54 (g3_ireturn dX11_lay_55 rfl h.2.2))))))))
        · have h1 := h; have h := h1.2.2 c
          have o4 := h1.1
          exact g3_iconst dX9_troubleAt_17 (g3_ireturn dX9_troubleAt_18 rfl (g3_r1 (g3_istore (lv' := [(5, vI 3), (0, vR 0 0), (1, vI x1), (2, vI x2), (3, vI x3), (4, vI x4)]) dX11_lay_28 (z3 rfl) rfl (g3_iload 0 dX11_lay_30 rfl (g3_if_eq_F (tgt := 42) dX11_lay_32 rfl (z3 rfl) (g3_aload_n 1 dX11_lay_35 rfl rfl (g3_iload 0 dX11_lay_36 rfl (g3_cV1 dX11_lay_38 myX11_found mlX11_167 (z3 rfl) ob_0 (z3 rfl) (z3 rfl) (c3_in rfl rfl (z3 rfl) (g3_aload_n 0 dX11_found_0 rfl rfl (g3_iload_n 1 dX11_found_1 rfl rfl (g3_put dX11_found_2 fpX11_341 (Or.inl rfl) (z3 rfl) (z3 rfl) (g3_bipush dX11_found_5 rfl (g3_iload_n 1 dX11_found_7 rfl rfl (g3_isub dX11_found_8 (g3_ireturn dX11_found_9 rfl (g3_r1 (g3_ireturn dX11_lay_41 rfl h))))))))))))))))))
      · have h1 := h; have h := h1.2.2 c
        have o3 := h1.1
        exact g3_iconst dX9_isLost_8 (g3_goto (tgt := 13) dX9_isLost_9 rfl (g3_zreturn dX9_isLost_13 rfl (Or.inr rfl) (g3_r1 (g3_if_eq_F (tgt := 9) dX9_troubleAt_4 rfl (z3 rfl) (g3_iconst dX9_troubleAt_7 (g3_ireturn dX9_troubleAt_8 rfl (g3_r1 (g3_istore (lv' := [(5, vI 1), (0, vR 0 0), (1, vI x1), (2, vI x2), (3, vI x3), (4, vI x4)]) dX11_lay_28 (z3 rfl) rfl (g3_iload 0 dX11_lay_30 rfl (g3_if_eq_F (tgt := 42) dX11_lay_32 rfl (z3 rfl) (g3_aload_n 1 dX11_lay_35 rfl rfl (g3_iload 0 dX11_lay_36 rfl (g3_cV1 dX11_lay_38 myX11_found mlX11_167 (z3 rfl) ob_0 (z3 rfl) (z3 rfl) (c3_in rfl rfl (z3 rfl) (g3_aload_n 0 dX11_found_0 rfl rfl (g3_iload_n 1 dX11_found_1 rfl rfl (g3_put dX11_found_2 fpX11_341 (Or.inl rfl) (z3 rfl) (z3 rfl) (g3_bipush dX11_found_5 rfl (g3_iload_n 1 dX11_found_7 rfl rfl (g3_isub dX11_found_8 (g3_ireturn dX11_found_9 rfl (g3_r1 (g3_ireturn dX11_lay_41 rfl h)))))))))))))))))))))))
    · have h1 := h; have h := h1.2.2 c
      have o2 := h1.1
      exact g3_bipush dX11_lay_14 rfl (g3_ireturn dX11_lay_16 rfl h)
set_option maxRecDepth 20000 in
set_option maxHeartbeats 200000 in
theorem sX12_lay {E : E3} {Q : Q3} {M : M3} {x1 x2 x3 x4 : Int}
    (h : ((-2147483648 ≤ x1 ∧ x1 ≤ 2147483647) ∧ (-2147483648 ≤ (0 : Int) ∧ (0 : Int) ≤ 2147483647) ∧ (-2147483648 ≤ (3 : Int) ∧ (3 : Int) ≤ 2147483647)) ∧ ((¬(0 ≤ x1 ∧ x1 ≤ 3) → (Q (some (vI (-2))) M)) ∧ ((0 ≤ x1 ∧ x1 ≤ 3) → (((-2147483648 ≤ x2 ∧ x2 ≤ 2147483647) ∧ (-2147483648 ≤ (0 : Int) ∧ (0 : Int) ≤ 2147483647) ∧ (-2147483648 ≤ (2 : Int) ∧ (2 : Int) ≤ 2147483647)) ∧ (((0 ≤ x2 ∧ x2 ≤ 2) → ((0 ≤ x1 ∧ x1 < 4) ∧ ((M 80 0 x1 ≠ 0 → ((-2147483648 ≤ x2 ∧ x2 ≤ 2147483647) ∧ ((M 81 0 x1 = x2 → (((-2147483648 ≤ x3 ∧ x3 ≤ 2147483647) ∧ (-2147483648 ≤ (0 : Int) ∧ (0 : Int) ≤ 2147483647) ∧ (-2147483648 ≤ ((M 82 0 x1) - 1) ∧ ((M 82 0 x1) - 1) ≤ 2147483647)) ∧ ((¬(0 ≤ x3 ∧ x3 ≤ ((M 82 0 x1) - 1)) → (Q (some (vI ((-10) - 2))) (up3 M 44 0 58 2))) ∧ ((0 ≤ x3 ∧ x3 ≤ ((M 82 0 x1) - 1)) → ((M 81 0 x1 ≠ 0 → ((M 81 0 x1 ≠ 1 → ((0 ≤ (40 * x1) + x3 ∧ (40 * x1) + x3 < 160) ∧ ((-2147483648 ≤ x4 ∧ x4 ≤ 2147483647) ∧ (Q (some (vI 1)) (up3 M 83 0 ((40 * x1) + x3) x4))))) ∧ (M 81 0 x1 = 1 → ((0 ≤ (40 * x1) + x3 ∧ (40 * x1) + x3 < 160) ∧ (Q (some (vI 1)) (up3 M 83 0 ((40 * x1) + x3) (i2s3 x4))))))) ∧ (M 81 0 x1 = 0 → ((0 ≤ (40 * x1) + x3 ∧ (40 * x1) + x3 < 160) ∧ (Q (some (vI 1)) (up3 M 83 0 ((40 * x1) + x3) (i2b3 x4)))))))))) ∧ (M 81 0 x1 ≠ x2 → (Q (some (vI ((-10) - 3))) (up3 M 44 0 58 3)))))) ∧ (M 80 0 x1 = 0 → (Q (some (vI ((-10) - 1))) (up3 M 44 0 58 1)))))) ∧ (¬(0 ≤ x2 ∧ x2 ≤ 2) → (Q (some (vI (-2))) M))))))) :
    C3 E YX12_lay [vR 44 0, vI x1, vI x2, vI x3, vI x4] M Q := by
  refine c3_in rfl rfl (z3 rfl) (g3_rm fun hM => ?_)
  refine g3_iload_n 1 dX12_lay_0 rfl rfl (g3_cS1 dX12_lay_1 myX12_isSheet mlX12_223 (z3 rfl) (z3 rfl) (c3_in rfl rfl (z3 rfl) (g3_iload_n 0 dX12_isSheet_0 rfl rfl (g3_iconst dX12_isSheet_1 (g3_iconst dX12_isSheet_2 (g3_cS3 dX12_isSheet_3 myX12_in mlX12_144 (z3 rfl) (z3 rfl) (kX12_in h.1 (g3_r1 (g3_zreturn dX12_isSheet_6 rfl (bo3_01 _) (g3_r1 (g3_bool_eq (tgt := 16) dX12_lay_4 rfl (fun c => ?_) (fun c => ?_))))))))))))
  · have h1 := h; have h := h1.2.1 c
    have o1 := h1.1
    exact g3_bipush dX12_lay_16 rfl (g3_ireturn dX12_lay_18 rfl h)
  · have h1 := h; have h := h1.2.2 c
    have o1 := h1.1
    refine g3_iload_n 2 dX12_lay_7 rfl rfl (g3_iconst dX12_lay_8 (g3_iconst dX12_lay_9 (g3_cS3 dX12_lay_10 myX12_in mlX12_144 (z3 rfl) (z3 rfl) (kX12_in h.1 (g3_r1 (g3_bool_ne (tgt := 19) dX12_lay_13 rfl (fun c => ?_) (fun c => ?_)))))))
    · have h1 := h; have h := h1.2.1 c
      have o2 := h1.1
      refine g3_aload_n 0 dX12_lay_19 rfl rfl (g3_iload_n 1 dX12_lay_20 rfl rfl (g3_iload_n 2 dX12_lay_21 rfl rfl (g3_iload_n 3 dX12_lay_22 rfl rfl (g3_cV3 dX12_lay_23 myX12_lacks mlX12_347 (z3 rfl) ob_44 (z3 rfl) (z3 rfl) (c3_in rfl rfl (z3 rfl) (g3_aload_n 0 dX12_lacks_0 rfl rfl (g3_getR0 (t := 80) dX12_lacks_1 flX12_129 rfl (z3 rfl) (g3_iload_n 1 dX12_lacks_4 rfl rfl (g3_zald dX12_lacks_5 ar_80 (z3 rfl) h.1 (g3_if_ne (tgt := 13) dX12_lacks_6 rfl (hM 80 0 x1) (fun c => ?_) (fun c => ?_)))))))))))
      · have h1 := h; have h := h1.2.1 c
        have o3 := h1.1
        refine g3_aload_n 0 dX12_lacks_13 rfl rfl (g3_getR0 (t := 81) dX12_lacks_14 flX12_132 rfl (z3 rfl) (g3_iload_n 1 dX12_lacks_17 rfl rfl (g3_iald dX12_lacks_18 ar_81 (z3 rfl) o3 (g3_iload_n 2 dX12_lacks_19 rfl rfl (g3_icmp_eq (tgt := 27) dX12_lacks_20 rfl (hM 81 0 x1) h.1 (fun c => ?_) (fun c => ?_))))))
        · have h1 := h; have h := h1.2.1 c
          have o4 := h1.1
          refine g3_iload_n 3 dX12_lacks_27 rfl rfl (g3_iconst dX12_lacks_28 (g3_aload_n 0 dX12_lacks_29 rfl rfl (g3_getR0 (t := 82) dX12_lacks_30 flX12_135 rfl (z3 rfl) (g3_iload_n 1 dX12_lacks_33 rfl rfl (g3_iald dX12_lacks_34 ar_82 (z3 rfl) o3 (g3_iconst dX12_lacks_35 (g3_isub dX12_lacks_36 (g3_cS3 dX12_lacks_37 myX12_in mlX12_144 (z3 rfl) (z3 rfl) (kX12_in h.1 (g3_r1 (g3_bool_eq (tgt := 47) dX12_lacks_40 rfl (fun c => ?_) (fun c => ?_))))))))))))
          · have h1 := h; have h := h1.2.1 c
            have o5 := h1.1
            exact g3_iconst dX12_lacks_47 (g3_ireturn dX12_lacks_48 rfl (g3_r1 (g3_istore (lv' := [(5, vI 2), (0, vR 44 0), (1, vI x1), (2, vI x2), (3, vI x3), (4, vI x4)]) dX12_lay_26 (z3 rfl) rfl (g3_iload 0 dX12_lay_28 rfl (g3_if_le_F (tgt := 40) dX12_lay_30 rfl (z3 rfl) (g3_aload_n 1 dX12_lay_33 rfl rfl (g3_iload 0 dX12_lay_34 rfl (g3_cV1 dX12_lay_36 myX12_meets mlX12_226 (z3 rfl) ob_44 (z3 rfl) (z3 rfl) (c3_in rfl rfl (z3 rfl) (g3_aload_n 0 dX12_meets_0 rfl rfl (g3_iload_n 1 dX12_meets_1 rfl rfl (g3_put dX12_meets_2 fpX12_344 (Or.inl rfl) (z3 rfl) (z3 rfl) (g3_bipush dX12_meets_5 rfl (g3_iload_n 1 dX12_meets_7 rfl rfl (g3_isub dX12_meets_8 (g3_ireturn dX12_meets_9 rfl (g3_r1 (g3_ireturn dX12_lay_39 rfl h))))))))))))))))))
          · have h1 := h; have h := h1.2.2 c
            have o5 := h1.1
            refine g3_iconst dX12_lacks_43 (g3_goto (tgt := 48) dX12_lacks_44 rfl (g3_ireturn dX12_lacks_48 rfl (g3_r1 (g3_istore (lv' := [(5, vI 0), (0, vR 44 0), (1, vI x1), (2, vI x2), (3, vI x3), (4, vI x4)]) dX12_lay_26 (z3 rfl) rfl (g3_iload 0 dX12_lay_28 rfl (g3_if_le_T (tgt := 40) dX12_lay_30 rfl (z3 rfl) (g3_aload_n 1 dX12_lay_40 rfl rfl (g3_iload_n 2 dX12_lay_41 rfl rfl (g3_iload_n 4 dX12_lay_42 rfl rfl (g3_iload 5 dX12_lay_43 rfl (g3_cV3 dX12_lay_45 myX12_keep mlX12_350 (z3 rfl) ob_44 (z3 rfl) (z3 rfl) (c3_in rfl rfl (z3 rfl) (g3_aload_n 0 dX12_keep_0 rfl rfl (g3_getR0 (t := 83) dX12_keep_1 flX12_138 rfl (z3 rfl) (g3_bipush dX12_keep_4 rfl (g3_iload_n 1 dX12_keep_6 rfl rfl (g3_imul dX12_keep_7 (g3_iload_n 2 dX12_keep_8 rfl rfl (g3_iadd dX12_keep_9 (g3_aload_n 0 dX12_keep_10 rfl rfl (g3_getR0 (t := 81) dX12_keep_11 flX12_132 rfl (z3 rfl) (g3_iload_n 1 dX12_keep_14 rfl rfl (g3_iald dX12_keep_15 ar_81 (z3 rfl) o3 (g3_if_ne (tgt := 24) dX12_keep_16 rfl (hM 81 0 x1) (fun c => ?_) (fun c => ?_)))))))))))))))))))))))))
            · have h1 := h; have h := h1.1 c
              refine g3_aload_n 0 dX12_keep_24 rfl rfl (g3_getR0 (t := 81) dX12_keep_25 flX12_132 rfl (z3 rfl) (g3_iload_n 1 dX12_keep_28 rfl rfl (g3_iald dX12_keep_29 ar_81 (z3 rfl) o3 (g3_iconst dX12_keep_30 (g3_icmp_ne (tgt := 39) dX12_keep_31 rfl (hM 81 0 x1) (z3 rfl) (fun c => ?_) (fun c => ?_))))))
              · have h1 := h; have h := h1.1 c
                exact g3_iload_n 3 dX12_keep_39 rfl rfl (g3_iast dX12_keep_40 ar_83 (z3 rfl) h.1 h.2.1 (g3_return dX12_keep_41 rfl (g3_r0 (g3_iconst dX12_lay_48 (g3_ireturn dX12_lay_49 rfl h.2.2)))))
              · have h1 := h; have h := h1.2 c
                exact g3_iload_n 3 dX12_keep_34 rfl rfl (g3_i2s dX12_keep_35 (g3_goto (tgt := 40) dX12_keep_36 rfl (g3_iast dX12_keep_40 ar_83 (z3 rfl) h.1 (t3_tr _) (g3_return dX12_keep_41 rfl (g3_r0 (g3_iconst dX12_lay_48 (g3_ireturn dX12_lay_49 rfl h.2)))))))
            · have h1 := h; have h := h1.2 c
              exact g3_iload_n 3 dX12_keep_19 rfl rfl (g3_i2b dX12_keep_20 (g3_goto (tgt := 40) dX12_keep_21 rfl (g3_iast dX12_keep_40 ar_83 (z3 rfl) h.1 (t3_tr _) (g3_return dX12_keep_41 rfl (g3_r0 (g3_iconst dX12_lay_48 (g3_ireturn dX12_lay_49 rfl h.2)))))))
        · have h1 := h; have h := h1.2.2 c
          have o4 := h1.1
          exact g3_iconst dX12_lacks_23 (g3_goto (tgt := 48) dX12_lacks_24 rfl (g3_ireturn dX12_lacks_48 rfl (g3_r1 (g3_istore (lv' := [(5, vI 3), (0, vR 44 0), (1, vI x1), (2, vI x2), (3, vI x3), (4, vI x4)]) dX12_lay_26 (z3 rfl) rfl (g3_iload 0 dX12_lay_28 rfl (g3_if_le_F (tgt := 40) dX12_lay_30 rfl (z3 rfl) (g3_aload_n 1 dX12_lay_33 rfl rfl (g3_iload 0 dX12_lay_34 rfl (g3_cV1 dX12_lay_36 myX12_meets mlX12_226 (z3 rfl) ob_44 (z3 rfl) (z3 rfl) (c3_in rfl rfl (z3 rfl) (g3_aload_n 0 dX12_meets_0 rfl rfl (g3_iload_n 1 dX12_meets_1 rfl rfl (g3_put dX12_meets_2 fpX12_344 (Or.inl rfl) (z3 rfl) (z3 rfl) (g3_bipush dX12_meets_5 rfl (g3_iload_n 1 dX12_meets_7 rfl rfl (g3_isub dX12_meets_8 (g3_ireturn dX12_meets_9 rfl (g3_r1 (g3_ireturn dX12_lay_39 rfl h)))))))))))))))))))
      · have h1 := h; have h := h1.2.2 c
        have o3 := h1.1
        exact g3_iconst dX12_lacks_9 (g3_goto (tgt := 48) dX12_lacks_10 rfl (g3_ireturn dX12_lacks_48 rfl (g3_r1 (g3_istore (lv' := [(5, vI 1), (0, vR 44 0), (1, vI x1), (2, vI x2), (3, vI x3), (4, vI x4)]) dX12_lay_26 (z3 rfl) rfl (g3_iload 0 dX12_lay_28 rfl (g3_if_le_F (tgt := 40) dX12_lay_30 rfl (z3 rfl) (g3_aload_n 1 dX12_lay_33 rfl rfl (g3_iload 0 dX12_lay_34 rfl (g3_cV1 dX12_lay_36 myX12_meets mlX12_226 (z3 rfl) ob_44 (z3 rfl) (z3 rfl) (c3_in rfl rfl (z3 rfl) (g3_aload_n 0 dX12_meets_0 rfl rfl (g3_iload_n 1 dX12_meets_1 rfl rfl (g3_put dX12_meets_2 fpX12_344 (Or.inl rfl) (z3 rfl) (z3 rfl) (g3_bipush dX12_meets_5 rfl (g3_iload_n 1 dX12_meets_7 rfl rfl (g3_isub dX12_meets_8 (g3_ireturn dX12_meets_9 rfl (g3_r1 (g3_ireturn dX12_lay_39 rfl h)))))))))))))))))))
    · have h1 := h; have h := h1.2.2 c
      have o2 := h1.1
      exact g3_bipush dX12_lay_16 rfl (g3_ireturn dX12_lay_18 rfl h)
set_option maxRecDepth 20000 in
set_option maxHeartbeats 200000 in
theorem sX11_get {E : E3} {Q : Q3} {M : M3} {x1 x2 x3 : Int}
    (h : ((-2147483648 ≤ x1 ∧ x1 ≤ 2147483647) ∧ (-2147483648 ≤ (0 : Int) ∧ (0 : Int) ≤ 2147483647) ∧ (-2147483648 ≤ (3 : Int) ∧ (3 : Int) ≤ 2147483647)) ∧ ((¬(0 ≤ x1 ∧ x1 ≤ 3) → (Q (some (vI (-2147483648))) M)) ∧ ((0 ≤ x1 ∧ x1 ≤ 3) → (((-2147483648 ≤ x2 ∧ x2 ≤ 2147483647) ∧ (-2147483648 ≤ (0 : Int) ∧ (0 : Int) ≤ 2147483647) ∧ (-2147483648 ≤ (2 : Int) ∧ (2 : Int) ≤ 2147483647)) ∧ (((0 ≤ x2 ∧ x2 ≤ 2) → ((0 ≤ x1 ∧ x1 < 4) ∧ ((M 42 x1 0 ≠ (-1) → ((-2147483648 ≤ x2 ∧ x2 ≤ 2147483647) ∧ ((M 42 x1 0 = x2 → ((-2147483648 ≤ x3 ∧ x3 ≤ 2147483647) ∧ ((x3 < 0 → (Q (some (vI (-2147483648))) (up3 M 0 0 9 2))) ∧ (0 ≤ x3 → ((M 42 x1 1 ≤ x3 → (Q (some (vI (-2147483648))) (up3 M 0 0 9 2))) ∧ (x3 < M 42 x1 1 → ((0 ≤ x3 ∧ x3 < 40) ∧ (Q (some (vI (M 43 x1 x3))) M)))))))) ∧ (M 42 x1 0 ≠ x2 → (Q (some (vI (-2147483648))) (up3 M 0 0 9 3)))))) ∧ (M 42 x1 0 = (-1) → (Q (some (vI (-2147483648))) (up3 M 0 0 9 1)))))) ∧ (¬(0 ≤ x2 ∧ x2 ≤ 2) → (Q (some (vI (-2147483648))) M))))))) :
    C3 E YX11_get [vR 0 0, vI x1, vI x2, vI x3] M Q := by
  refine c3_in rfl rfl (z3 rfl) (g3_rm fun hM => ?_)
  refine g3_iload_n 1 dX11_get_0 rfl rfl (g3_cS1 dX11_get_1 myX11_isSheet mlX11_161 (z3 rfl) (z3 rfl) (c3_in rfl rfl (z3 rfl) (g3_iload_n 0 dX11_isSheet_0 rfl rfl (g3_iconst dX11_isSheet_1 (g3_iconst dX11_isSheet_2 (g3_cS3 dX11_isSheet_3 myX11_within mlX11_78 (z3 rfl) (z3 rfl) (kX11_within h.1 (g3_r1 (g3_zreturn dX11_isSheet_6 rfl (bo3_01 _) (g3_r1 (g3_bool_eq (tgt := 14) dX11_get_4 rfl (fun c => ?_) (fun c => ?_))))))))))))
  · have h1 := h; have h := h1.2.1 c
    have o1 := h1.1
    exact g3_ldcw dX11_get_14 kcX11_302 (g3_ireturn dX11_get_17 rfl h)
  · have h1 := h; have h := h1.2.2 c
    have o1 := h1.1
    refine g3_iload_n 2 dX11_get_7 rfl rfl (g3_cS1 dX11_get_8 myX11_isType mlX11_286 (z3 rfl) (z3 rfl) (c3_in rfl rfl (z3 rfl) (g3_iload_n 0 dX11_isType_0 rfl rfl (g3_iconst dX11_isType_1 (g3_iconst dX11_isType_2 (g3_cS3 dX11_isType_3 myX11_within mlX11_78 (z3 rfl) (z3 rfl) (kX11_within h.1 (g3_r1 (g3_zreturn dX11_isType_6 rfl (bo3_01 _) (g3_r1 (g3_bool_ne (tgt := 18) dX11_get_11 rfl (fun c => ?_) (fun c => ?_))))))))))))
    · have h1 := h; have h := h1.2.1 c
      have o2 := h1.1
      refine g3_aload_n 0 dX11_get_18 rfl rfl (g3_getR0 (t := 1) dX11_get_19 flX11_73 rfl (z3 rfl) (g3_iload_n 1 dX11_get_22 rfl rfl (g3_aald dX11_get_23 aq_1 h.1 (g3_iload_n 2 dX11_get_24 rfl rfl (g3_iload_n 3 dX11_get_25 rfl rfl (g3_cV2 dX11_get_26 myX9_troubleAt mlX11_296 (z3 rfl) ob_42 h.1 (z3 rfl) (c3_in rfl rfl (z3 rfl) (g3_aload_n 0 dX9_troubleAt_0 rfl rfl (g3_cV0 dX9_troubleAt_1 myX9_isLost mlX9_22 (z3 rfl) ob_42 h.1 (z3 rfl) (c3_in rfl rfl (z3 rfl) (g3_aload_n 0 dX9_isLost_0 rfl rfl (g3_getI (t := 0) dX9_isLost_1 flX9_9 (z3 rfl) h.1 (g3_iconst dX9_isLost_4 (g3_icmp_ne (tgt := 12) dX9_isLost_5 rfl (hM 42 x1 0) (z3 rfl) (fun c => ?_) (fun c => ?_)))))))))))))))
      · have h1 := h; have h := h1.2.1 c
        have o3 := h1.1
        refine g3_iconst dX9_isLost_12 (g3_zreturn dX9_isLost_13 rfl (Or.inl rfl) (g3_r1 (g3_if_eq_T (tgt := 9) dX9_troubleAt_4 rfl (z3 rfl) (g3_aload_n 0 dX9_troubleAt_9 rfl rfl (g3_getI (t := 0) dX9_troubleAt_10 flX9_9 (z3 rfl) o3 (g3_iload_n 1 dX9_troubleAt_13 rfl rfl (g3_icmp_eq (tgt := 19) dX9_troubleAt_14 rfl (hM 42 x1 0) h.1 (fun c => ?_) (fun c => ?_))))))))
        · have h1 := h; have h := h1.2.1 c
          have o4 := h1.1
          refine g3_iload_n 2 dX9_troubleAt_19 rfl rfl (g3_if_lt (tgt := 35) dX9_troubleAt_20 rfl h.1 (fun c => ?_) (fun c => ?_))
          · have h1 := h; have h := h1.2.1 c
            have o5 := h1.1
            exact g3_iconst dX9_troubleAt_35 (g3_ireturn dX9_troubleAt_36 rfl (g3_r1 (g3_istore (lv' := [(4, vI 2), (0, vR 0 0), (1, vI x1), (2, vI x2), (3, vI x3)]) dX11_get_29 (z3 rfl) rfl (g3_iload 0 dX11_get_31 rfl (g3_if_eq_F (tgt := 47) dX11_get_33 rfl (z3 rfl) (g3_aload_n 1 dX11_get_36 rfl rfl (g3_iload 0 dX11_get_37 rfl (g3_cV1 dX11_get_39 myX11_found mlX11_167 (z3 rfl) ob_0 (z3 rfl) (z3 rfl) (c3_in rfl rfl (z3 rfl) (g3_aload_n 0 dX11_found_0 rfl rfl (g3_iload_n 1 dX11_found_1 rfl rfl (g3_put dX11_found_2 fpX11_341 (Or.inl rfl) (z3 rfl) (z3 rfl) (g3_bipush dX11_found_5 rfl (g3_iload_n 1 dX11_found_7 rfl rfl (g3_isub dX11_found_8 (g3_ireturn dX11_found_9 rfl (g3_r1 (g3_pop dX11_get_42 rfl (g3_ldcw dX11_get_43 kcX11_302 (g3_ireturn dX11_get_46 rfl h))))))))))))))))))))
          · have h1 := h; have h := h1.2.2 c
            have o5 := h1.1
            refine g3_iload_n 2 dX9_troubleAt_23 rfl rfl (g3_aload_n 0 dX9_troubleAt_24 rfl rfl (g3_getI (t := 0) dX9_troubleAt_25 flX9_19 (z3 rfl) o3 (g3_icmp_ge (tgt := 35) dX9_troubleAt_28 rfl o5 (hM 42 x1 1) (fun c => ?_) (fun c => ?_))))
            · have h1 := h; have h := h1.1 c
              exact g3_iconst dX9_troubleAt_35 (g3_ireturn dX9_troubleAt_36 rfl (g3_r1 (g3_istore (lv' := [(4, vI 2), (0, vR 0 0), (1, vI x1), (2, vI x2), (3, vI x3)]) dX11_get_29 (z3 rfl) rfl (g3_iload 0 dX11_get_31 rfl (g3_if_eq_F (tgt := 47) dX11_get_33 rfl (z3 rfl) (g3_aload_n 1 dX11_get_36 rfl rfl (g3_iload 0 dX11_get_37 rfl (g3_cV1 dX11_get_39 myX11_found mlX11_167 (z3 rfl) ob_0 (z3 rfl) (z3 rfl) (c3_in rfl rfl (z3 rfl) (g3_aload_n 0 dX11_found_0 rfl rfl (g3_iload_n 1 dX11_found_1 rfl rfl (g3_put dX11_found_2 fpX11_341 (Or.inl rfl) (z3 rfl) (z3 rfl) (g3_bipush dX11_found_5 rfl (g3_iload_n 1 dX11_found_7 rfl rfl (g3_isub dX11_found_8 (g3_ireturn dX11_found_9 rfl (g3_r1 (g3_pop dX11_get_42 rfl (g3_ldcw dX11_get_43 kcX11_302 (g3_ireturn dX11_get_46 rfl h))))))))))))))))))))
            · have h1 := h; have h := h1.2 c
              exact g3_iconst dX9_troubleAt_31 (g3_goto (tgt := 36) dX9_troubleAt_32 rfl (g3_ireturn dX9_troubleAt_36 rfl (g3_r1 (g3_istore (lv' := [(4, vI 0), (0, vR 0 0), (1, vI x1), (2, vI x2), (3, vI x3)]) dX11_get_29 (z3 rfl) rfl (g3_iload 0 dX11_get_31 rfl (g3_if_eq_T (tgt := 47) dX11_get_33 rfl (z3 rfl) (g3_aload_n 1 dX11_get_47 rfl rfl (g3_getR0 (t := 1) dX11_get_48 flX11_73 rfl (z3 rfl) (g3_iload_n 2 dX11_get_51 rfl rfl (g3_aald dX11_get_52 aq_1 o3 (g3_iload_n 4 dX11_get_53 rfl rfl (g3_cV1 dX11_get_54 myX9_item mlX11_303 (z3 rfl) ob_42 o3 (z3 rfl) (c3_in rfl rfl (z3 rfl) (g3_aload_n 0 dX9_item_0 rfl rfl (g3_getRi (t := 43) dX9_item_1 flX9_15 rfl o3 (g3_iload_n 1 dX9_item_4 rfl rfl (g3_iald dX9_item_5 ar_43 o3 h.1 (g3_ireturn dX9_item_6 rfl (g3_r1 (g3_ireturn dX11_get_57 rfl h.2))))))))))))))))))))
        · have h1 := h; have h := h1.2.2 c
          have o4 := h1.1
          exact g3_iconst dX9_troubleAt_17 (g3_ireturn dX9_troubleAt_18 rfl (g3_r1 (g3_istore (lv' := [(4, vI 3), (0, vR 0 0), (1, vI x1), (2, vI x2), (3, vI x3)]) dX11_get_29 (z3 rfl) rfl (g3_iload 0 dX11_get_31 rfl (g3_if_eq_F (tgt := 47) dX11_get_33 rfl (z3 rfl) (g3_aload_n 1 dX11_get_36 rfl rfl (g3_iload 0 dX11_get_37 rfl (g3_cV1 dX11_get_39 myX11_found mlX11_167 (z3 rfl) ob_0 (z3 rfl) (z3 rfl) (c3_in rfl rfl (z3 rfl) (g3_aload_n 0 dX11_found_0 rfl rfl (g3_iload_n 1 dX11_found_1 rfl rfl (g3_put dX11_found_2 fpX11_341 (Or.inl rfl) (z3 rfl) (z3 rfl) (g3_bipush dX11_found_5 rfl (g3_iload_n 1 dX11_found_7 rfl rfl (g3_isub dX11_found_8 (g3_ireturn dX11_found_9 rfl (g3_r1 (g3_pop dX11_get_42 rfl (g3_ldcw dX11_get_43 kcX11_302 (g3_ireturn dX11_get_46 rfl h))))))))))))))))))))
      · have h1 := h; have h := h1.2.2 c
        have o3 := h1.1
        exact g3_iconst dX9_isLost_8 (g3_goto (tgt := 13) dX9_isLost_9 rfl (g3_zreturn dX9_isLost_13 rfl (Or.inr rfl) (g3_r1 (g3_if_eq_F (tgt := 9) dX9_troubleAt_4 rfl (z3 rfl) (g3_iconst dX9_troubleAt_7 (g3_ireturn dX9_troubleAt_8 rfl (g3_r1 (g3_istore (lv' := [(4, vI 1), (0, vR 0 0), (1, vI x1), (2, vI x2), (3, vI x3)]) dX11_get_29 (z3 rfl) rfl (g3_iload 0 dX11_get_31 rfl (g3_if_eq_F (tgt := 47) dX11_get_33 rfl (z3 rfl) (g3_aload_n 1 dX11_get_36 rfl rfl (g3_iload 0 dX11_get_37 rfl (g3_cV1 dX11_get_39 myX11_found mlX11_167 (z3 rfl) ob_0 (z3 rfl) (z3 rfl) (c3_in rfl rfl (z3 rfl) (g3_aload_n 0 dX11_found_0 rfl rfl (g3_iload_n 1 dX11_found_1 rfl rfl (g3_put dX11_found_2 fpX11_341 (Or.inl rfl) (z3 rfl) (z3 rfl) (g3_bipush dX11_found_5 rfl (g3_iload_n 1 dX11_found_7 rfl rfl (g3_isub dX11_found_8 (g3_ireturn dX11_found_9 rfl (g3_r1 (g3_pop dX11_get_42 rfl (g3_ldcw dX11_get_43 kcX11_302 (g3_ireturn dX11_get_46 rfl h)))))))))))))))))))))))))
    · have h1 := h; have h := h1.2.2 c
      have o2 := h1.1
      exact g3_ldcw dX11_get_14 kcX11_302 (g3_ireturn dX11_get_17 rfl h)
set_option maxRecDepth 20000 in
set_option maxHeartbeats 200000 in
theorem sX12_get {E : E3} {Q : Q3} {M : M3} {x1 x2 x3 : Int}
    (h : ((-2147483648 ≤ x1 ∧ x1 ≤ 2147483647) ∧ (-2147483648 ≤ (0 : Int) ∧ (0 : Int) ≤ 2147483647) ∧ (-2147483648 ≤ (3 : Int) ∧ (3 : Int) ≤ 2147483647)) ∧ ((¬(0 ≤ x1 ∧ x1 ≤ 3) → (Q (some (vI (-2147483648))) M)) ∧ ((0 ≤ x1 ∧ x1 ≤ 3) → (((-2147483648 ≤ x2 ∧ x2 ≤ 2147483647) ∧ (-2147483648 ≤ (0 : Int) ∧ (0 : Int) ≤ 2147483647) ∧ (-2147483648 ≤ (2 : Int) ∧ (2 : Int) ≤ 2147483647)) ∧ (((0 ≤ x2 ∧ x2 ≤ 2) → ((0 ≤ x1 ∧ x1 < 4) ∧ ((M 80 0 x1 ≠ 0 → ((-2147483648 ≤ x2 ∧ x2 ≤ 2147483647) ∧ ((M 81 0 x1 = x2 → (((-2147483648 ≤ x3 ∧ x3 ≤ 2147483647) ∧ (-2147483648 ≤ (0 : Int) ∧ (0 : Int) ≤ 2147483647) ∧ (-2147483648 ≤ ((M 82 0 x1) - 1) ∧ ((M 82 0 x1) - 1) ≤ 2147483647)) ∧ ((¬(0 ≤ x3 ∧ x3 ≤ ((M 82 0 x1) - 1)) → (Q (some (vI (-2147483648))) (up3 M 44 0 58 2))) ∧ ((0 ≤ x3 ∧ x3 ≤ ((M 82 0 x1) - 1)) → ((0 ≤ (40 * x1) + x3 ∧ (40 * x1) + x3 < 160) ∧ (Q (some (vI (M 83 0 ((40 * x1) + x3)))) M)))))) ∧ (M 81 0 x1 ≠ x2 → (Q (some (vI (-2147483648))) (up3 M 44 0 58 3)))))) ∧ (M 80 0 x1 = 0 → (Q (some (vI (-2147483648))) (up3 M 44 0 58 1)))))) ∧ (¬(0 ≤ x2 ∧ x2 ≤ 2) → (Q (some (vI (-2147483648))) M))))))) :
    C3 E YX12_get [vR 44 0, vI x1, vI x2, vI x3] M Q := by
  refine c3_in rfl rfl (z3 rfl) (g3_rm fun hM => ?_)
  refine g3_iload_n 1 dX12_get_0 rfl rfl (g3_cS1 dX12_get_1 myX12_isSheet mlX12_223 (z3 rfl) (z3 rfl) (c3_in rfl rfl (z3 rfl) (g3_iload_n 0 dX12_isSheet_0 rfl rfl (g3_iconst dX12_isSheet_1 (g3_iconst dX12_isSheet_2 (g3_cS3 dX12_isSheet_3 myX12_in mlX12_144 (z3 rfl) (z3 rfl) (kX12_in h.1 (g3_r1 (g3_zreturn dX12_isSheet_6 rfl (bo3_01 _) (g3_r1 (g3_bool_eq (tgt := 16) dX12_get_4 rfl (fun c => ?_) (fun c => ?_))))))))))))
  · have h1 := h; have h := h1.2.1 c
    have o1 := h1.1
    exact g3_ldcw dX12_get_16 kcX12_354 (g3_ireturn dX12_get_19 rfl h)
  · have h1 := h; have h := h1.2.2 c
    have o1 := h1.1
    refine g3_iload_n 2 dX12_get_7 rfl rfl (g3_iconst dX12_get_8 (g3_iconst dX12_get_9 (g3_cS3 dX12_get_10 myX12_in mlX12_144 (z3 rfl) (z3 rfl) (kX12_in h.1 (g3_r1 (g3_bool_ne (tgt := 20) dX12_get_13 rfl (fun c => ?_) (fun c => ?_)))))))
    · have h1 := h; have h := h1.2.1 c
      have o2 := h1.1
      refine g3_aload_n 0 dX12_get_20 rfl rfl (g3_iload_n 1 dX12_get_21 rfl rfl (g3_iload_n 2 dX12_get_22 rfl rfl (g3_iload_n 3 dX12_get_23 rfl rfl (g3_cV3 dX12_get_24 myX12_lacks mlX12_347 (z3 rfl) ob_44 (z3 rfl) (z3 rfl) (c3_in rfl rfl (z3 rfl) (g3_aload_n 0 dX12_lacks_0 rfl rfl (g3_getR0 (t := 80) dX12_lacks_1 flX12_129 rfl (z3 rfl) (g3_iload_n 1 dX12_lacks_4 rfl rfl (g3_zald dX12_lacks_5 ar_80 (z3 rfl) h.1 (g3_if_ne (tgt := 13) dX12_lacks_6 rfl (hM 80 0 x1) (fun c => ?_) (fun c => ?_)))))))))))
      · have h1 := h; have h := h1.2.1 c
        have o3 := h1.1
        refine g3_aload_n 0 dX12_lacks_13 rfl rfl (g3_getR0 (t := 81) dX12_lacks_14 flX12_132 rfl (z3 rfl) (g3_iload_n 1 dX12_lacks_17 rfl rfl (g3_iald dX12_lacks_18 ar_81 (z3 rfl) o3 (g3_iload_n 2 dX12_lacks_19 rfl rfl (g3_icmp_eq (tgt := 27) dX12_lacks_20 rfl (hM 81 0 x1) h.1 (fun c => ?_) (fun c => ?_))))))
        · have h1 := h; have h := h1.2.1 c
          have o4 := h1.1
          refine g3_iload_n 3 dX12_lacks_27 rfl rfl (g3_iconst dX12_lacks_28 (g3_aload_n 0 dX12_lacks_29 rfl rfl (g3_getR0 (t := 82) dX12_lacks_30 flX12_135 rfl (z3 rfl) (g3_iload_n 1 dX12_lacks_33 rfl rfl (g3_iald dX12_lacks_34 ar_82 (z3 rfl) o3 (g3_iconst dX12_lacks_35 (g3_isub dX12_lacks_36 (g3_cS3 dX12_lacks_37 myX12_in mlX12_144 (z3 rfl) (z3 rfl) (kX12_in h.1 (g3_r1 (g3_bool_eq (tgt := 47) dX12_lacks_40 rfl (fun c => ?_) (fun c => ?_))))))))))))
          · have h1 := h; have h := h1.2.1 c
            have o5 := h1.1
            exact g3_iconst dX12_lacks_47 (g3_ireturn dX12_lacks_48 rfl (g3_r1 (g3_istore (lv' := [(4, vI 2), (0, vR 44 0), (1, vI x1), (2, vI x2), (3, vI x3)]) dX12_get_27 (z3 rfl) rfl (g3_iload 0 dX12_get_29 rfl (g3_if_le_F (tgt := 44) dX12_get_31 rfl (z3 rfl) (g3_aload_n 1 dX12_get_34 rfl rfl (g3_iload 0 dX12_get_35 rfl (g3_put dX12_get_37 fpX12_344 (Or.inl rfl) (z3 rfl) (z3 rfl) (g3_ldcw dX12_get_40 kcX12_354 (g3_ireturn dX12_get_43 rfl h))))))))))
          · have h1 := h; have h := h1.2.2 c
            have o5 := h1.1
            exact g3_iconst dX12_lacks_43 (g3_goto (tgt := 48) dX12_lacks_44 rfl (g3_ireturn dX12_lacks_48 rfl (g3_r1 (g3_istore (lv' := [(4, vI 0), (0, vR 44 0), (1, vI x1), (2, vI x2), (3, vI x3)]) dX12_get_27 (z3 rfl) rfl (g3_iload 0 dX12_get_29 rfl (g3_if_le_T (tgt := 44) dX12_get_31 rfl (z3 rfl) (g3_aload_n 1 dX12_get_44 rfl rfl (g3_getR0 (t := 83) dX12_get_45 flX12_138 rfl (z3 rfl) (g3_bipush dX12_get_48 rfl (g3_iload_n 2 dX12_get_50 rfl rfl (g3_imul dX12_get_51 (g3_iload_n 4 dX12_get_52 rfl rfl (g3_iadd dX12_get_53 (g3_iald dX12_get_54 ar_83 (z3 rfl) h.1 (g3_ireturn dX12_get_55 rfl h.2)))))))))))))))
        · have h1 := h; have h := h1.2.2 c
          have o4 := h1.1
          exact g3_iconst dX12_lacks_23 (g3_goto (tgt := 48) dX12_lacks_24 rfl (g3_ireturn dX12_lacks_48 rfl (g3_r1 (g3_istore (lv' := [(4, vI 3), (0, vR 44 0), (1, vI x1), (2, vI x2), (3, vI x3)]) dX12_get_27 (z3 rfl) rfl (g3_iload 0 dX12_get_29 rfl (g3_if_le_F (tgt := 44) dX12_get_31 rfl (z3 rfl) (g3_aload_n 1 dX12_get_34 rfl rfl (g3_iload 0 dX12_get_35 rfl (g3_put dX12_get_37 fpX12_344 (Or.inl rfl) (z3 rfl) (z3 rfl) (g3_ldcw dX12_get_40 kcX12_354 (g3_ireturn dX12_get_43 rfl h)))))))))))
      · have h1 := h; have h := h1.2.2 c
        have o3 := h1.1
        exact g3_iconst dX12_lacks_9 (g3_goto (tgt := 48) dX12_lacks_10 rfl (g3_ireturn dX12_lacks_48 rfl (g3_r1 (g3_istore (lv' := [(4, vI 1), (0, vR 44 0), (1, vI x1), (2, vI x2), (3, vI x3)]) dX12_get_27 (z3 rfl) rfl (g3_iload 0 dX12_get_29 rfl (g3_if_le_F (tgt := 44) dX12_get_31 rfl (z3 rfl) (g3_aload_n 1 dX12_get_34 rfl rfl (g3_iload 0 dX12_get_35 rfl (g3_put dX12_get_37 fpX12_344 (Or.inl rfl) (z3 rfl) (z3 rfl) (g3_ldcw dX12_get_40 kcX12_354 (g3_ireturn dX12_get_43 rfl h)))))))))))
    · have h1 := h; have h := h1.2.2 c
      have o2 := h1.1
      exact g3_ldcw dX12_get_16 kcX12_354 (g3_ireturn dX12_get_19 rfl h)
set_option maxRecDepth 20000 in
set_option maxHeartbeats 200000 in
theorem sX11_leave {E : E3} {Q : Q3} {M : M3}
    (h : Q (some (vI (M 20 0 0))) (up3 M 20 0 0 0)) :
    C3 E YX11_leave [vR 0 0] M Q := by
  refine c3_in rfl rfl (z3 rfl) (g3_rm fun hM => ?_)
  exact g3_aload_n 0 dX11_leave_0 rfl rfl (g3_getR0 (t := 20) dX11_leave_1 flX11_42 rfl (z3 rfl) (g3_cV0 dX11_leave_4 myX6_empty mlX11_229 (z3 rfl) ob_20 (z3 rfl) (z3 rfl) (c3_in rfl rfl (z3 rfl) (g3_aload_n 0 dX6_empty_0 rfl rfl (g3_getI (t := 0) dX6_empty_1 flX6_37 (z3 rfl) (z3 rfl) (g3_istore_n (lv' := [(1, vI (M 20 0 0)), (0, vR 20 0)]) dX6_empty_4 rfl (z3 rfl) rfl (g3_aload_n 1 dX6_empty_5 rfl rfl (g3_iconst dX6_empty_6 (g3_put dX6_empty_7 fpX6_37 (Or.inl rfl) (z3 rfl) (z3 rfl) (g3_iload_n 0 dX6_empty_10 rfl rfl (g3_ireturn dX6_empty_11 rfl (g3_r1 (g3_ireturn dX11_leave_7 rfl h)))))))))))))
set_option maxRecDepth 20000 in
set_option maxHeartbeats 200000 in
theorem sX12_leave {E : E3} {Q : Q3} {M : M3}
    (h : Q (some (vI (M 44 0 32))) (up3 M 44 0 32 0)) :
    C3 E YX12_leave [vR 44 0] M Q := by
  refine c3_in rfl rfl (z3 rfl) (g3_rm fun hM => ?_)
  exact g3_aload_n 0 dX12_leave_0 rfl rfl (g3_getI (t := 0) dX12_leave_1 flX12_281 (z3 rfl) (z3 rfl) (g3_istore_n (lv' := [(1, vI (M 44 0 32)), (0, vR 44 0)]) dX12_leave_4 rfl (z3 rfl) rfl (g3_aload_n 1 dX12_leave_5 rfl rfl (g3_iconst dX12_leave_6 (g3_put dX12_leave_7 fpX12_281 (Or.inl rfl) (z3 rfl) (z3 rfl) (g3_iload_n 0 dX12_leave_10 rfl rfl (g3_ireturn dX12_leave_11 rfl h)))))))
