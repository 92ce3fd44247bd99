set_option maxRecDepth 20000 in
set_option maxHeartbeats 200000 in
theorem sX12_ripe {E : E3} {Q : Q3} {M : M3} {x1 x2 x3 : Int}
    (h : ((-2147483648 ≤ x1 ∧ x1 ≤ 2147483647) ∧ (-2147483648 ≤ (1 : Int) ∧ (1 : Int) ≤ 2147483647) ∧ (-2147483648 ≤ (30 : Int) ∧ (30 : Int) ≤ 2147483647)) ∧ ((¬(1 ≤ x1 ∧ x1 ≤ 30) → (Q (some (vI (-2))) M)) ∧ ((1 ≤ x1 ∧ x1 ≤ 30) → (((-2147483648 ≤ x2 ∧ x2 ≤ 2147483647) ∧ (-2147483648 ≤ (0 : Int) ∧ (0 : Int) ≤ 2147483647) ∧ (-2147483648 ≤ (399 : Int) ∧ (399 : Int) ≤ 2147483647)) ∧ ((¬(0 ≤ x2 ∧ x2 ≤ 399) → (Q (some (vI (-2))) M)) ∧ ((0 ≤ x2 ∧ x2 ≤ 399) → (((-2147483648 ≤ x3 ∧ x3 ≤ 2147483647) ∧ (-2147483648 ≤ (0 : Int) ∧ (0 : Int) ≤ 2147483647) ∧ (-2147483648 ≤ (399 : Int) ∧ (399 : Int) ≤ 2147483647)) ∧ ((¬(0 ≤ x3 ∧ x3 ≤ 399) → (Q (some (vI (-2))) M)) ∧ ((0 ≤ x3 ∧ x3 ≤ 399) → ((-2147483648 ≤ x2 ∧ x2 ≤ 2147483647) ∧ ((-2147483648 ≤ x3 ∧ x3 ≤ 2147483647) ∧ ((x2 ≤ x3 → (G3 E YX12_ripe Q 35 [(0, vR 44 0), (1, vI x1), (2, vI x2), (3, vI x3), (4, vI 0)] [] M)) ∧ (x3 < x2 → (Q (some (vI (-2))) M)))))))))))))) :
    C3 E YX12_ripe [vR 44 0, vI x1, vI x2, vI x3] M Q := by
  refine c3_in rfl rfl (z3 rfl) (g3_rm fun hM => ?_)
  refine g3_iload_n 1 dX12_ripe_0 rfl rfl (g3_iconst dX12_ripe_1 (g3_bipush dX12_ripe_2 rfl (g3_cS3 dX12_ripe_4 myX12_in mlX12_144 (z3 rfl) (z3 rfl) (kX12_in h.1 (g3_r1 (g3_bool_eq (tgt := 29) dX12_ripe_7 rfl (fun c => ?_) (fun c => ?_)))))))
  · have h1 := h; have h := h1.2.1 c
    have o1 := h1.1
    exact g3_bipush dX12_ripe_29 rfl (g3_ireturn dX12_ripe_31 rfl h)
  · have h1 := h; have h := h1.2.2 c
    have o1 := h1.1
    refine g3_iload_n 2 dX12_ripe_10 rfl rfl (g3_cS1 dX12_ripe_11 myX12_isDay mlX12_210 (z3 rfl) (z3 rfl) (c3_in rfl rfl (z3 rfl) (g3_iload_n 0 dX12_isDay_0 rfl rfl (g3_iconst dX12_isDay_1 (g3_sipush dX12_isDay_2 rfl (g3_cS3 dX12_isDay_5 myX12_in mlX12_144 (z3 rfl) (z3 rfl) (kX12_in h.1 (g3_r1 (g3_zreturn dX12_isDay_8 rfl (bo3_01 _) (g3_r1 (g3_bool_eq (tgt := 29) dX12_ripe_14 rfl (fun c => ?_) (fun c => ?_))))))))))))
    · have h1 := h; have h := h1.2.1 c
      have o2 := h1.1
      exact g3_bipush dX12_ripe_29 rfl (g3_ireturn dX12_ripe_31 rfl h)
    · have h1 := h; have h := h1.2.2 c
      have o2 := h1.1
      refine g3_iload_n 3 dX12_ripe_17 rfl rfl (g3_cS1 dX12_ripe_18 myX12_isDay mlX12_210 (z3 rfl) (z3 rfl) (c3_in rfl rfl (z3 rfl) (g3_iload_n 0 dX12_isDay_0 rfl rfl (g3_iconst dX12_isDay_1 (g3_sipush dX12_isDay_2 rfl (g3_cS3 dX12_isDay_5 myX12_in mlX12_144 (z3 rfl) (z3 rfl) (kX12_in h.1 (g3_r1 (g3_zreturn dX12_isDay_8 rfl (bo3_01 _) (g3_r1 (g3_bool_eq (tgt := 29) dX12_ripe_21 rfl (fun c => ?_) (fun c => ?_))))))))))))
      · have h1 := h; have h := h1.2.1 c
        have o3 := h1.1
        exact g3_bipush dX12_ripe_29 rfl (g3_ireturn dX12_ripe_31 rfl h)
      · have h1 := h; have h := h1.2.2 c
        have o3 := h1.1
        refine g3_iload_n 2 dX12_ripe_24 rfl rfl (g3_iload_n 3 dX12_ripe_25 rfl rfl (g3_icmp_le (tgt := 32) dX12_ripe_26 rfl h.1 h.2.1 (fun c => ?_) (fun c => ?_)))
        · have h1 := h; have h := h1.2.2.1 c
          have o4 := h1.1
          have o5 := h1.2.1
          refine g3_iconst dX12_ripe_32 (g3_istore (lv' := [(4, vI 0), (0, vR 44 0), (1, vI x1), (2, vI x2), (3, vI x3)]) dX12_ripe_33 (z3 rfl) rfl (g3_sub [1, 2, 3, 4, 0] rfl h))
        · have h1 := h; have h := h1.2.2.2 c
          have o4 := h1.1
          have o5 := h1.2.1
          exact g3_bipush dX12_ripe_29 rfl (g3_ireturn dX12_ripe_31 rfl h)
set_option maxRecDepth 20000 in
set_option maxHeartbeats 200000 in
theorem sX12_ripe_35 {E : E3} {Q : Q3} {M : M3} {x1 : Int} {x2 : Int} {x3 : Int} {x4 : Int}
    (h : (-2147483648 ≤ x4 ∧ x4 ≤ 2147483647) ∧ ((-2147483648 ≤ mNow M ∧ mNow M ≤ 2147483647) ∧ ((mNow M < x4 → (Q (some (vI (-1))) M)) ∧ (x4 ≤ mNow M → (G3 E YX12_ripe Q 50 [(0, vR 44 0), (1, vI x1), (2, vI x2), (3, vI x3), (4, vI x4), (5, vI 0), (6, vI 0)] [] M))))) :
    G3 E YX12_ripe Q 35 [(0, vR 44 0), (1, vI x1), (2, vI x2), (3, vI x3), (4, vI x4)] [] M := by
  refine g3_rm fun hM => ?_
  refine g3_iload 4 dX12_ripe_35 rfl (g3_aload_n 0 dX12_ripe_37 rfl rfl (g3_cV0 dX12_ripe_38 myX12_asOfNow mlX12_219 (z3 rfl) ob_44 (z3 rfl) (z3 rfl) (kX12_asOfNow (g3_r1 (g3_icmp_gt (tgt := 146) dX12_ripe_41 rfl h.1 h.2.1 (fun c => ?_) (fun c => ?_))))))
  · have h1 := h; have h := h1.2.2.1 c
    have o1 := h1.1
    have o2 := h1.2.1
    exact g3_iconst dX12_ripe_146 (g3_ireturn dX12_ripe_147 rfl h)
  · have h1 := h; have h := h1.2.2.2 c
    have o1 := h1.1
    have o2 := h1.2.1
    refine g3_iconst dX12_ripe_44 (g3_istore (lv' := [(5, vI 0), (0, vR 44 0), (1, vI x1), (2, vI x2), (3, vI x3), (4, vI x4)]) dX12_ripe_45 (z3 rfl) rfl (g3_iconst dX12_ripe_47 (g3_istore (lv' := [(6, vI 0), (5, vI 0), (0, vR 44 0), (1, vI x1), (2, vI x2), (3, vI x3), (4, vI x4)]) dX12_ripe_48 (z3 rfl) rfl (g3_sub [2, 3, 4, 5, 6, 1, 0] rfl h))))
set_option maxRecDepth 20000 in
set_option maxHeartbeats 200000 in
theorem sX12_ripe_50 {E : E3} {Q : Q3} {M : M3} {x1 : Int} {x2 : Int} {x3 : Int} {x4 : Int} {x5 : Int} {x6 : Int}
    (h : (-2147483648 ≤ x6 ∧ x6 ≤ 2147483647) ∧ ((M 44 0 18 ≤ x6 → ((-2147483648 ≤ x5 ∧ x5 ≤ 2147483647) ∧ ((-2147483648 ≤ x1 ∧ x1 ≤ 2147483647) ∧ ((x5 < x1 → (G3 E YX12_ripe Q 35 [(0, vR 44 0), (1, vI x1), (2, vI x2), (3, vI x3), (4, vI (x4 + 1))] [] M)) ∧ (x1 ≤ x5 → (Q (some (vI x4)) M)))))) ∧ (x6 < M 44 0 18 → ((0 ≤ x6 ∧ x6 < 60) ∧ ((mHow M x6 ≠ 2 → (G3 E YX12_ripe Q 50 [(0, vR 44 0), (1, vI x1), (2, vI x2), (3, vI x3), (4, vI x4), (5, vI (x5 + 0)), (6, vI (x6 + 1))] [] M)) ∧ (mHow M x6 = 2 → ((RdC M ∧ okR M x6) ∧ (∀ (N1 : M3), RM3 N1 → Em M N1 → (RdC N1) → ((¬(mPtd M x6) → (G3 E YX12_ripe Q 50 [(0, vR 44 0), (1, vI x1), (2, vI x2), (3, vI x3), (4, vI x4), (5, vI (x5 + 0)), (6, vI (x6 + 1))] [] N1)) ∧ ((mPtd M x6) → (((0 ≤ x6 ∧ x6 < 60) ∧ 0 ≤ N1 56 0 x6 ∧ N1 56 0 x6 < 48) ∧ ((M 46 0 (M 56 0 x6) ≠ 1 → (G3 E YX12_ripe Q 50 [(0, vR 44 0), (1, vI x1), (2, vI x2), (3, vI x3), (4, vI x4), (5, vI (x5 + 0)), (6, vI (x6 + 1))] [] N1)) ∧ (M 46 0 (M 56 0 x6) = 1 → (((-2147483648 ≤ (M 57 0 x6) ∧ (M 57 0 x6) ≤ 2147483647) ∧ (-2147483648 ≤ x2 ∧ x2 ≤ 2147483647) ∧ (-2147483648 ≤ x3 ∧ x3 ≤ 2147483647)) ∧ ((¬(x2 ≤ (M 57 0 x6) ∧ (M 57 0 x6) ≤ x3) → (G3 E YX12_ripe Q 50 [(0, vR 44 0), (1, vI x1), (2, vI x2), (3, vI x3), (4, vI x4), (5, vI (x5 + 0)), (6, vI (x6 + 1))] [] N1)) ∧ ((x2 ≤ (M 57 0 x6) ∧ (M 57 0 x6) ≤ x3) → ((-2147483648 ≤ x4 ∧ x4 ≤ 2147483647) ∧ ((x4 < M 60 0 x6 → (G3 E YX12_ripe Q 50 [(0, vR 44 0), (1, vI x1), (2, vI x2), (3, vI x3), (4, vI x4), (5, vI (x5 + 0)), (6, vI (x6 + 1))] [] N1)) ∧ (M 60 0 x6 ≤ x4 → (G3 E YX12_ripe Q 50 [(0, vR 44 0), (1, vI x1), (2, vI x2), (3, vI x3), (4, vI x4), (5, vI (x5 + 1)), (6, vI (x6 + 1))] [] N1)))))))))))))))))))) :
    G3 E YX12_ripe Q 50 [(0, vR 44 0), (1, vI x1), (2, vI x2), (3, vI x3), (4, vI x4), (5, vI x5), (6, vI x6)] [] M := by
  refine g3_rm fun hM => ?_
  refine g3_iload 6 dX12_ripe_50 rfl (g3_aload_n 0 dX12_ripe_52 rfl rfl (g3_getI (t := 0) dX12_ripe_53 flX12_161 (z3 rfl) (z3 rfl) (g3_icmp_ge (tgt := 131) dX12_ripe_56 rfl h.1 (hM 44 0 18) (fun c => ?_) (fun c => ?_))))
  · have h1 := h; have h := h1.2.1 c
    have o1 := h1.1
    refine g3_iload 5 dX12_ripe_131 rfl (g3_iload_n 1 dX12_ripe_133 rfl rfl (g3_icmp_lt (tgt := 140) dX12_ripe_134 rfl h.1 h.2.1 (fun c => ?_) (fun c => ?_)))
    · have h1 := h; have h := h1.2.2.1 c
      have o2 := h1.1
      have o3 := h1.2.1
      refine g3_iinc (lv' := [(4, vI (x4 + 1)), (0, vR 44 0), (1, vI x1), (2, vI x2), (3, vI x3), (5, vI x5), (6, vI x6)]) 4 dX12_ripe_140 rfl (z3 rfl) rfl (g3_goto (tgt := 35) dX12_ripe_143 rfl (g3_sub [1, 2, 3, 4, 0] rfl h))
    · have h1 := h; have h := h1.2.2.2 c
      have o2 := h1.1
      have o3 := h1.2.1
      exact g3_iload 4 dX12_ripe_137 rfl (g3_ireturn dX12_ripe_139 rfl h)
  · have h1 := h; have h := h1.2.2 c
    have o1 := h1.1
    refine g3_iload 5 dX12_ripe_59 rfl (g3_aload_n 0 dX12_ripe_61 rfl rfl (g3_iload 6 dX12_ripe_62 rfl (g3_cV1 dX12_ripe_64 myX12_howOf mlX12_242 (z3 rfl) ob_44 (z3 rfl) (z3 rfl) (kX12_howOf h.1 (g3_r1 (g3_iconst dX12_ripe_67 (g3_icmp_ne (tgt := 121) dX12_ripe_68 rfl (mHow_rg hM _) (z3 rfl) (fun c => ?_) (fun c => ?_))))))))
    · have h1 := h; have h := h1.2.1 c
      have o4 := h1.1
      refine g3_iconst dX12_ripe_121 (g3_iadd dX12_ripe_122 (g3_istore (lv' := [(5, vI (x5 + 0)), (0, vR 44 0), (1, vI x1), (2, vI x2), (3, vI x3), (4, vI x4), (6, vI x6)]) dX12_ripe_123 (z3 rfl) rfl (g3_iinc (lv' := [(6, vI (x6 + 1)), (5, vI (x5 + 0)), (0, vR 44 0), (1, vI x1), (2, vI x2), (3, vI x3), (4, vI x4)]) 6 dX12_ripe_125 rfl (z3 rfl) rfl (g3_goto (tgt := 50) dX12_ripe_128 rfl (g3_sub [2, 3, 4, 5, 6, 1, 0] rfl h)))))
    · have h1 := h; have h := h1.2.2 c
      have o4 := h1.1
      refine g3_aload_n 0 dX12_ripe_71 rfl rfl (g3_iload 6 dX12_ripe_72 rfl (g3_cV1 dX12_ripe_74 myX12_isParted mlX12_263 (z3 rfl) ob_44 (z3 rfl) (z3 rfl) (eX12_isParted Em.rf h.1 (fun N1 hN1 he1 hp1 => ?_))))
      have o5 := h.1
      have h := h.2 N1 hN1 he1 hp1
      refine g3_r1 ?_
      refine g3_bool_eq (tgt := 121) dX12_ripe_77 rfl (fun c => ?_) (fun c => ?_)
      · have h1 := h; have h := h1.1 c
        refine g3_iconst dX12_ripe_121 (g3_iadd dX12_ripe_122 (g3_istore (lv' := [(5, vI (x5 + 0)), (0, vR 44 0), (1, vI x1), (2, vI x2), (3, vI x3), (4, vI x4), (6, vI x6)]) dX12_ripe_123 (z3 rfl) rfl (g3_iinc (lv' := [(6, vI (x6 + 1)), (5, vI (x5 + 0)), (0, vR 44 0), (1, vI x1), (2, vI x2), (3, vI x3), (4, vI x4)]) 6 dX12_ripe_125 rfl (z3 rfl) rfl (g3_goto (tgt := 50) dX12_ripe_128 rfl (g3_sub [2, 3, 4, 5, 6, 1, 0] rfl h)))))
      · have h1 := h; have h := h1.2 c
        refine g3_aload_n 0 dX12_ripe_80 rfl rfl (g3_iload 6 dX12_ripe_81 rfl (g3_cV1 dX12_ripe_83 myX12_sortOfForm mlX12_232 (z3 rfl) ob_44 (z3 rfl) (z3 rfl) (kX12_sortOfForm h.1 (g3_r1 (g3_val (by rw [(Em.tr Em.rf he1).1 46 (by decide), (Em.tr Em.rf he1).1 56 (by decide)]) (g3_iconst dX12_ripe_86 (g3_icmp_ne (tgt := 121) dX12_ripe_87 rfl (hM 46 0 _) (z3 rfl) (fun c => ?_) (fun c => ?_))))))))
        · have h1 := h; have h := h1.2.1 c
          have o6 := h1.1
          refine g3_iconst dX12_ripe_121 (g3_iadd dX12_ripe_122 (g3_istore (lv' := [(5, vI (x5 + 0)), (0, vR 44 0), (1, vI x1), (2, vI x2), (3, vI x3), (4, vI x4), (6, vI x6)]) dX12_ripe_123 (z3 rfl) rfl (g3_iinc (lv' := [(6, vI (x6 + 1)), (5, vI (x5 + 0)), (0, vR 44 0), (1, vI x1), (2, vI x2), (3, vI x3), (4, vI x4)]) 6 dX12_ripe_125 rfl (z3 rfl) rfl (g3_goto (tgt := 50) dX12_ripe_128 rfl (g3_sub [2, 3, 4, 5, 6, 1, 0] rfl h)))))
        · have h1 := h; have h := h1.2.2 c
          have o6 := h1.1
          refine g3_aload_n 0 dX12_ripe_90 rfl rfl (g3_getR0 (t := 57) dX12_ripe_91 flX12_46 rfl (z3 rfl) (g3_iload 6 dX12_ripe_94 rfl (g3_iald dX12_ripe_96 ar_57 (z3 rfl) o4 (g3_val (cg3 (he1.1 57 (by decide)) _ _) (g3_iload_n 2 dX12_ripe_97 rfl rfl (g3_iload_n 3 dX12_ripe_98 rfl rfl (g3_cS3 dX12_ripe_99 myX12_in mlX12_144 (z3 rfl) (z3 rfl) (kX12_in h.1 (g3_r1 (g3_bool_eq (tgt := 121) dX12_ripe_102 rfl (fun c => ?_) (fun c => ?_)))))))))))
          · have h1 := h; have h := h1.2.1 c
            have o7 := h1.1
            refine g3_iconst dX12_ripe_121 (g3_iadd dX12_ripe_122 (g3_istore (lv' := [(5, vI (x5 + 0)), (0, vR 44 0), (1, vI x1), (2, vI x2), (3, vI x3), (4, vI x4), (6, vI x6)]) dX12_ripe_123 (z3 rfl) rfl (g3_iinc (lv' := [(6, vI (x6 + 1)), (5, vI (x5 + 0)), (0, vR 44 0), (1, vI x1), (2, vI x2), (3, vI x3), (4, vI x4)]) 6 dX12_ripe_125 rfl (z3 rfl) rfl (g3_goto (tgt := 50) dX12_ripe_128 rfl (g3_sub [2, 3, 4, 5, 6, 1, 0] rfl h)))))
          · have h1 := h; have h := h1.2.2 c
            have o7 := h1.1
            refine g3_aload_n 0 dX12_ripe_105 rfl rfl (g3_getR0 (t := 60) dX12_ripe_106 flX12_55 rfl (z3 rfl) (g3_iload 6 dX12_ripe_109 rfl (g3_iald dX12_ripe_111 ar_60 (z3 rfl) o4 (g3_val (cg3 (he1.1 60 (by decide)) _ _) (g3_iload 4 dX12_ripe_112 rfl (g3_icmp_gt (tgt := 121) dX12_ripe_114 rfl (hM 60 0 x6) h.1 (fun c => ?_) (fun c => ?_)))))))
            · have h1 := h; have h := h1.2.1 c
              have o8 := h1.1
              refine g3_iconst dX12_ripe_121 (g3_iadd dX12_ripe_122 (g3_istore (lv' := [(5, vI (x5 + 0)), (0, vR 44 0), (1, vI x1), (2, vI x2), (3, vI x3), (4, vI x4), (6, vI x6)]) dX12_ripe_123 (z3 rfl) rfl (g3_iinc (lv' := [(6, vI (x6 + 1)), (5, vI (x5 + 0)), (0, vR 44 0), (1, vI x1), (2, vI x2), (3, vI x3), (4, vI x4)]) 6 dX12_ripe_125 rfl (z3 rfl) rfl (g3_goto (tgt := 50) dX12_ripe_128 rfl (g3_sub [2, 3, 4, 5, 6, 1, 0] rfl h)))))
            · have h1 := h; have h := h1.2.2 c
              have o8 := h1.1
              refine g3_iconst dX12_ripe_117 (g3_goto (tgt := 122) dX12_ripe_118 rfl (g3_iadd dX12_ripe_122 (g3_istore (lv' := [(5, vI (x5 + 1)), (0, vR 44 0), (1, vI x1), (2, vI x2), (3, vI x3), (4, vI x4), (6, vI x6)]) dX12_ripe_123 (z3 rfl) rfl (g3_iinc (lv' := [(6, vI (x6 + 1)), (5, vI (x5 + 1)), (0, vR 44 0), (1, vI x1), (2, vI x2), (3, vI x3), (4, vI x4)]) 6 dX12_ripe_125 rfl (z3 rfl) rfl (g3_goto (tgt := 50) dX12_ripe_128 rfl (g3_sub [2, 3, 4, 5, 6, 1, 0] rfl h))))))
