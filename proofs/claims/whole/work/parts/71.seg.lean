set_option maxRecDepth 20000 in
set_option maxHeartbeats 200000 in
theorem sX12_seesOf {E : E3} {Q : Q3} {M : M3} {x1 x2 : Int}
    (h : G3 E YX12_seesOf Q 2 [(0, vR 44 0), (1, vI x1), (2, vI x2), (3, vI 0)] [] M) :
    C3 E YX12_seesOf [vR 44 0, vI x1, vI x2] M Q := by
  refine c3_in rfl rfl (z3 rfl) (g3_rm fun hM => ?_)
  refine g3_iconst dX12_seesOf_0 (g3_istore_n (lv' := [(3, vI 0), (0, vR 44 0), (1, vI x1), (2, vI x2)]) dX12_seesOf_1 rfl (z3 rfl) rfl (g3_sub [1, 2, 3, 0] rfl h))
set_option maxRecDepth 20000 in
set_option maxHeartbeats 200000 in
theorem sX12_seesOf_2 {E : E3} {Q : Q3} {M : M3} {x1 : Int} {x2 : Int} {x3 : Int}
    (h : (-2147483648 ≤ x3 ∧ x3 ≤ 2147483647) ∧ ((M 44 0 32 ≤ x3 → ((0 ≤ x2 ∧ x2 ≤ 2147483647) ∧ ((and3 (shr3 (M 44 0 29) (x2 % 7)) 1 ≠ 0 → (((0 ≤ M 44 0 32 ∧ M 44 0 32 ≤ 24) ∧ -1 ≤ ((-1) : Int) ∧ ((-1) : Int) < 24) ∧ (G3 E YX12_seesOf Q 54 [(0, vR 44 0), (1, vI x1), (3, vI 0), (4, vI (M 44 0 30)), (5, vI (mNxt M (-1)))] [] M))) ∧ (and3 (shr3 (M 44 0 29) (x2 % 7)) 1 = 0 → (Q (some (vI 0)) M))))) ∧ (x3 < M 44 0 32 → ((0 ≤ x3 ∧ x3 < 24) ∧ (G3 E YX12_seesOf Q 2 [(0, vR 44 0), (1, vI x1), (2, vI x2), (3, vI (x3 + 1))] [] (up3 M 67 0 x3 (-1))))))) :
    G3 E YX12_seesOf Q 2 [(0, vR 44 0), (1, vI x1), (2, vI x2), (3, vI x3)] [] M := by
  refine g3_rm fun hM => ?_
  refine g3_iload_n 3 dX12_seesOf_2 rfl rfl (g3_aload_n 0 dX12_seesOf_3 rfl rfl (g3_getI (t := 0) dX12_seesOf_4 flX12_281 (z3 rfl) (z3 rfl) (g3_icmp_ge (tgt := 23) dX12_seesOf_7 rfl h.1 (hM 44 0 32) (fun c => ?_) (fun c => ?_))))
  · have h1 := h; have h := h1.2.1 c
    have o1 := h1.1
    refine g3_aload_n 0 dX12_seesOf_23 rfl rfl (g3_getI (t := 0) dX12_seesOf_24 flX12_74 (z3 rfl) (z3 rfl) (g3_iload_n 2 dX12_seesOf_27 rfl rfl (g3_bipush dX12_seesOf_28 rfl (g3_irem dX12_seesOf_30 h.1 (z3 rfl) (g3_ishr dX12_seesOf_31 (g3_iconst dX12_seesOf_32 (g3_iand dX12_seesOf_33 (g3_if_ne (tgt := 39) dX12_seesOf_34 rfl (t3_tr _) (fun c => ?_) (fun c => ?_)))))))))
    · have h1 := h; have h := h1.2.1 c
      have o2 := h1.1
      refine g3_iconst dX12_seesOf_39 (g3_istore_n (lv' := [(3, vI 0), (0, vR 44 0), (1, vI x1), (2, vI x2)]) dX12_seesOf_40 rfl (z3 rfl) rfl (g3_aload_n 1 dX12_seesOf_41 rfl rfl (g3_getI (t := 0) dX12_seesOf_42 flX12_77 (z3 rfl) (z3 rfl) (g3_istore (lv' := [(4, vI (M 44 0 30)), (3, vI 0), (0, vR 44 0), (1, vI x1), (2, vI x2)]) dX12_seesOf_45 (z3 rfl) rfl (g3_aload_n 2 dX12_seesOf_47 rfl rfl (g3_iconst dX12_seesOf_48 (g3_cV1 dX12_seesOf_49 myX12_nextIn mlX12_287 (z3 rfl) ob_44 (z3 rfl) (z3 rfl) (kX12_nextIn h.1 (g3_r1 (g3_istore (lv' := [(5, vI (mNxt M (-1))), (4, vI (M 44 0 30)), (3, vI 0), (0, vR 44 0), (1, vI x1), (2, vI x2)]) dX12_seesOf_52 (z3 rfl) rfl (g3_sub [3, 4, 2, 1, 0] rfl h.2)))))))))))
    · have h1 := h; have h := h1.2.2 c
      have o2 := h1.1
      exact g3_iconst dX12_seesOf_37 (g3_ireturn dX12_seesOf_38 rfl h)
  · have h1 := h; have h := h1.2.2 c
    have o1 := h1.1
    refine g3_aload_n 0 dX12_seesOf_10 rfl rfl (g3_getR0 (t := 67) dX12_seesOf_11 flX12_89 rfl (z3 rfl) (g3_iload_n 3 dX12_seesOf_14 rfl rfl (g3_iconst dX12_seesOf_15 (g3_iast dX12_seesOf_16 ar_67 (z3 rfl) h.1 (z3 rfl) (g3_iinc (lv' := [(3, vI (x3 + 1)), (0, vR 44 0), (1, vI x1), (2, vI x2)]) 3 dX12_seesOf_17 rfl (z3 rfl) rfl (g3_goto (tgt := 2) dX12_seesOf_20 rfl (g3_sub [1, 2, 3, 0] rfl h.2)))))))
set_option maxRecDepth 20000 in
set_option maxHeartbeats 200000 in
theorem sX12_seesOf_54 {E : E3} {Q : Q3} {M : M3} {x1 : Int} {x3 : Int} {x4 : Int} {x5 : Int}
    (h : (-2147483648 ≤ x5 ∧ x5 ≤ 2147483647) ∧ ((x5 = (-1) → (Q (some (vI x3)) M)) ∧ (x5 ≠ (-1) → ((0 ≤ x5 ∧ x5 < 24) ∧ ((-2147483648 ≤ x4 ∧ x4 ≤ 2147483647) ∧ ((M 66 0 x5 ≤ x4 → ((0 ≤ M 65 0 x5 ∧ M 65 0 x5 < 48) ∧ ((0 ≤ (2 * x1) + (M 46 0 (M 65 0 x5)) ∧ (2 * x1) + (M 46 0 (M 65 0 x5)) < 8) ∧ ((-2147483648 ≤ x4 + (M 64 0 ((2 * x1) + (M 46 0 (M 65 0 x5)))) ∧ x4 + (M 64 0 ((2 * x1) + (M 46 0 (M 65 0 x5)))) ≤ 2147483647) ∧ ((x4 + (M 64 0 ((2 * x1) + (M 46 0 (M 65 0 x5)))) ≤ M 44 0 31 → (((0 ≤ (up3 M 67 0 x5 x4) 44 0 32 ∧ (up3 M 67 0 x5 x4) 44 0 32 ≤ 24) ∧ -1 ≤ x5 ∧ x5 < 24) ∧ (G3 E YX12_seesOf Q 54 [(0, vR 44 0), (1, vI x1), (3, vI (x3 + 1)), (4, vI (x4 + (M 64 0 ((2 * x1) + (M 46 0 (M 65 0 x5)))))), (5, vI (mNxt (up3 M 67 0 x5 x4) x5))] [] (up3 M 67 0 x5 x4)))) ∧ (M 44 0 31 < x4 + (M 64 0 ((2 * x1) + (M 46 0 (M 65 0 x5)))) → (Q (some (vI x3)) M))))))) ∧ (x4 < M 66 0 x5 → ((0 ≤ M 65 0 x5 ∧ M 65 0 x5 < 48) ∧ ((0 ≤ (2 * x1) + (M 46 0 (M 65 0 x5)) ∧ (2 * x1) + (M 46 0 (M 65 0 x5)) < 8) ∧ ((-2147483648 ≤ (M 66 0 x5) + (M 64 0 ((2 * x1) + (M 46 0 (M 65 0 x5)))) ∧ (M 66 0 x5) + (M 64 0 ((2 * x1) + (M 46 0 (M 65 0 x5)))) ≤ 2147483647) ∧ (((M 66 0 x5) + (M 64 0 ((2 * x1) + (M 46 0 (M 65 0 x5)))) ≤ M 44 0 31 → (((0 ≤ (up3 M 67 0 x5 (M 66 0 x5)) 44 0 32 ∧ (up3 M 67 0 x5 (M 66 0 x5)) 44 0 32 ≤ 24) ∧ -1 ≤ x5 ∧ x5 < 24) ∧ (G3 E YX12_seesOf Q 54 [(0, vR 44 0), (1, vI x1), (3, vI (x3 + 1)), (4, vI ((M 66 0 x5) + (M 64 0 ((2 * x1) + (M 46 0 (M 65 0 x5)))))), (5, vI (mNxt (up3 M 67 0 x5 (M 66 0 x5)) x5))] [] (up3 M 67 0 x5 (M 66 0 x5))))) ∧ (M 44 0 31 < (M 66 0 x5) + (M 64 0 ((2 * x1) + (M 46 0 (M 65 0 x5)))) → (Q (some (vI x3)) M))))))))))))) :
    G3 E YX12_seesOf Q 54 [(0, vR 44 0), (1, vI x1), (3, vI x3), (4, vI x4), (5, vI x5)] [] M := by
  refine g3_rm fun hM => ?_
  refine g3_iload 4 dX12_seesOf_54 rfl (g3_iconst dX12_seesOf_56 (g3_icmp_eq (tgt := 150) dX12_seesOf_57 rfl h.1 (z3 rfl) (fun c => ?_) (fun c => ?_)))
  · have h1 := h; have h := h1.2.1 c
    have o1 := h1.1
    exact g3_iload_n 2 dX12_seesOf_150 rfl rfl (g3_ireturn dX12_seesOf_151 rfl h)
  · have h1 := h; have h := h1.2.2 c
    have o1 := h1.1
    refine g3_aload_n 0 dX12_seesOf_60 rfl rfl (g3_getR0 (t := 66) dX12_seesOf_61 flX12_86 rfl (z3 rfl) (g3_iload 4 dX12_seesOf_64 rfl (g3_iald dX12_seesOf_66 ar_66 (z3 rfl) h.1 (g3_iload 3 dX12_seesOf_67 rfl (g3_icmp_le (tgt := 82) dX12_seesOf_69 rfl (hM 66 0 x5) h.2.1 (fun c => ?_) (fun c => ?_))))))
    · have h1 := h; have h := h1.2.2.1 c
      have o2 := h1.1
      have o3 := h1.2.1
      refine g3_iload 3 dX12_seesOf_82 rfl (g3_istore (lv' := [(6, vI x4), (0, vR 44 0), (1, vI x1), (3, vI x3), (4, vI x4), (5, vI x5)]) dX12_seesOf_84 (z3 rfl) rfl (g3_iload 0 dX12_seesOf_86 rfl (g3_aload_n 1 dX12_seesOf_88 rfl rfl (g3_getR0 (t := 64) dX12_seesOf_89 flX12_71 rfl (z3 rfl) (g3_iconst dX12_seesOf_92 (g3_iload_n 2 dX12_seesOf_93 rfl rfl (g3_imul dX12_seesOf_94 (g3_aload_n 1 dX12_seesOf_95 rfl rfl (g3_getR0 (t := 46) dX12_seesOf_96 flX12_13 rfl (z3 rfl) (g3_aload_n 1 dX12_seesOf_99 rfl rfl (g3_getR0 (t := 65) dX12_seesOf_100 flX12_83 rfl (z3 rfl) (g3_iload 5 dX12_seesOf_103 rfl (g3_iald dX12_seesOf_105 ar_65 (z3 rfl) o2 (g3_iald dX12_seesOf_106 ar_46 (z3 rfl) h.1 (g3_iadd dX12_seesOf_107 (g3_iald dX12_seesOf_108 ar_64 (z3 rfl) h.2.1 (g3_iadd dX12_seesOf_109 (g3_istore (lv' := [(7, vI (x4 + (M 64 0 ((2 * x1) + (M 46 0 (M 65 0 x5)))))), (6, vI x4), (0, vR 44 0), (1, vI x1), (3, vI x3), (4, vI x4), (5, vI x5)]) dX12_seesOf_110 (z3 rfl) rfl (g3_iload 0 dX12_seesOf_112 rfl (g3_aload_n 2 dX12_seesOf_114 rfl rfl (g3_getI (t := 0) dX12_seesOf_115 flX12_80 (z3 rfl) (z3 rfl) (g3_icmp_le (tgt := 123) dX12_seesOf_118 rfl h.2.2.1 (hM 44 0 31) (fun c => ?_) (fun c => ?_)))))))))))))))))))))))
      · have h1 := h; have h := h1.2.2.2.1 c
        have o4 := h1.1
        have o5 := h1.2.1
        have o6 := h1.2.2.1
        refine g3_aload_n 2 dX12_seesOf_123 rfl rfl (g3_getR0 (t := 67) dX12_seesOf_124 flX12_89 rfl (z3 rfl) (g3_iload 6 dX12_seesOf_127 rfl (g3_iload 1 dX12_seesOf_129 rfl (g3_iast dX12_seesOf_131 ar_67 (z3 rfl) o2 o3 (g3_iload 0 dX12_seesOf_132 rfl (g3_istore (lv' := [(4, vI (x4 + (M 64 0 ((2 * x1) + (M 46 0 (M 65 0 x5)))))), (7, vI (x4 + (M 64 0 ((2 * x1) + (M 46 0 (M 65 0 x5)))))), (6, vI x4), (0, vR 44 0), (1, vI x1), (3, vI x3), (5, vI x5)]) dX12_seesOf_134 (z3 rfl) rfl (g3_iinc (lv' := [(3, vI (x3 + 1)), (4, vI (x4 + (M 64 0 ((2 * x1) + (M 46 0 (M 65 0 x5)))))), (7, vI (x4 + (M 64 0 ((2 * x1) + (M 46 0 (M 65 0 x5)))))), (6, vI x4), (0, vR 44 0), (1, vI x1), (5, vI x5)]) 5 dX12_seesOf_136 rfl (z3 rfl) rfl (g3_aload_n 4 dX12_seesOf_139 rfl rfl (g3_iload 6 dX12_seesOf_140 rfl (g3_cV1 dX12_seesOf_142 myX12_nextIn mlX12_287 (z3 rfl) ob_44 (z3 rfl) (z3 rfl) (kX12_nextIn h.1 (g3_r1 (g3_istore (lv' := [(5, vI (mNxt (up3 M 67 0 x5 x4) x5)), (3, vI (x3 + 1)), (4, vI (x4 + (M 64 0 ((2 * x1) + (M 46 0 (M 65 0 x5)))))), (7, vI (x4 + (M 64 0 ((2 * x1) + (M 46 0 (M 65 0 x5)))))), (6, vI x4), (0, vR 44 0), (1, vI x1)]) dX12_seesOf_145 (z3 rfl) rfl (g3_goto (tgt := 54) dX12_seesOf_147 rfl (g3_sub [5, 6, 1, 2, 0] rfl h.2)))))))))))))))
      · have h1 := h; have h := h1.2.2.2.2 c
        have o4 := h1.1
        have o5 := h1.2.1
        have o6 := h1.2.2.1
        exact g3_iload_n 4 dX12_seesOf_121 rfl rfl (g3_ireturn dX12_seesOf_122 rfl h)
    · have h1 := h; have h := h1.2.2.2 c
      have o2 := h1.1
      have o3 := h1.2.1
      refine g3_aload_n 0 dX12_seesOf_72 rfl rfl (g3_getR0 (t := 66) dX12_seesOf_73 flX12_86 rfl (z3 rfl) (g3_iload 4 dX12_seesOf_76 rfl (g3_iald dX12_seesOf_78 ar_66 (z3 rfl) o2 (g3_goto (tgt := 84) dX12_seesOf_79 rfl (g3_istore (lv' := [(6, vI (M 66 0 x5)), (0, vR 44 0), (1, vI x1), (3, vI x3), (4, vI x4), (5, vI x5)]) dX12_seesOf_84 (z3 rfl) rfl (g3_iload 0 dX12_seesOf_86 rfl (g3_aload_n 1 dX12_seesOf_88 rfl rfl (g3_getR0 (t := 64) dX12_seesOf_89 flX12_71 rfl (z3 rfl) (g3_iconst dX12_seesOf_92 (g3_iload_n 2 dX12_seesOf_93 rfl rfl (g3_imul dX12_seesOf_94 (g3_aload_n 1 dX12_seesOf_95 rfl rfl (g3_getR0 (t := 46) dX12_seesOf_96 flX12_13 rfl (z3 rfl) (g3_aload_n 1 dX12_seesOf_99 rfl rfl (g3_getR0 (t := 65) dX12_seesOf_100 flX12_83 rfl (z3 rfl) (g3_iload 5 dX12_seesOf_103 rfl (g3_iald dX12_seesOf_105 ar_65 (z3 rfl) o2 (g3_iald dX12_seesOf_106 ar_46 (z3 rfl) h.1 (g3_iadd dX12_seesOf_107 (g3_iald dX12_seesOf_108 ar_64 (z3 rfl) h.2.1 (g3_iadd dX12_seesOf_109 (g3_istore (lv' := [(7, vI ((M 66 0 x5) + (M 64 0 ((2 * x1) + (M 46 0 (M 65 0 x5)))))), (6, vI (M 66 0 x5)), (0, vR 44 0), (1, vI x1), (3, vI x3), (4, vI x4), (5, vI x5)]) dX12_seesOf_110 (z3 rfl) rfl (g3_iload 0 dX12_seesOf_112 rfl (g3_aload_n 2 dX12_seesOf_114 rfl rfl (g3_getI (t := 0) dX12_seesOf_115 flX12_80 (z3 rfl) (z3 rfl) (g3_icmp_le (tgt := 123) dX12_seesOf_118 rfl h.2.2.1 (hM 44 0 31) (fun c => ?_) (fun c => ?_)))))))))))))))))))))))))))
      · have h1 := h; have h := h1.2.2.2.1 c
        have o8 := h1.1
        have o9 := h1.2.1
        have o10 := h1.2.2.1
        refine g3_aload_n 2 dX12_seesOf_123 rfl rfl (g3_getR0 (t := 67) dX12_seesOf_124 flX12_89 rfl (z3 rfl) (g3_iload 6 dX12_seesOf_127 rfl (g3_iload 1 dX12_seesOf_129 rfl (g3_iast dX12_seesOf_131 ar_67 (z3 rfl) o2 (hM 66 0 x5) (g3_iload 0 dX12_seesOf_132 rfl (g3_istore (lv' := [(4, vI ((M 66 0 x5) + (M 64 0 ((2 * x1) + (M 46 0 (M 65 0 x5)))))), (7, vI ((M 66 0 x5) + (M 64 0 ((2 * x1) + (M 46 0 (M 65 0 x5)))))), (6, vI (M 66 0 x5)), (0, vR 44 0), (1, vI x1), (3, vI x3), (5, vI x5)]) dX12_seesOf_134 (z3 rfl) rfl (g3_iinc (lv' := [(3, vI (x3 + 1)), (4, vI ((M 66 0 x5) + (M 64 0 ((2 * x1) + (M 46 0 (M 65 0 x5)))))), (7, vI ((M 66 0 x5) + (M 64 0 ((2 * x1) + (M 46 0 (M 65 0 x5)))))), (6, vI (M 66 0 x5)), (0, vR 44 0), (1, vI x1), (5, vI x5)]) 5 dX12_seesOf_136 rfl (z3 rfl) rfl (g3_aload_n 4 dX12_seesOf_139 rfl rfl (g3_iload 6 dX12_seesOf_140 rfl (g3_cV1 dX12_seesOf_142 myX12_nextIn mlX12_287 (z3 rfl) ob_44 (z3 rfl) (z3 rfl) (kX12_nextIn h.1 (g3_r1 (g3_istore (lv' := [(5, vI (mNxt (up3 M 67 0 x5 (M 66 0 x5)) x5)), (3, vI (x3 + 1)), (4, vI ((M 66 0 x5) + (M 64 0 ((2 * x1) + (M 46 0 (M 65 0 x5)))))), (7, vI ((M 66 0 x5) + (M 64 0 ((2 * x1) + (M 46 0 (M 65 0 x5)))))), (6, vI (M 66 0 x5)), (0, vR 44 0), (1, vI x1)]) dX12_seesOf_145 (z3 rfl) rfl (g3_goto (tgt := 54) dX12_seesOf_147 rfl (g3_sub [5, 6, 1, 2, 0] rfl h.2)))))))))))))))
      · have h1 := h; have h := h1.2.2.2.2 c
        have o8 := h1.1
        have o9 := h1.2.1
        have o10 := h1.2.2.1
        exact g3_iload_n 4 dX12_seesOf_121 rfl rfl (g3_ireturn dX12_seesOf_122 rfl h)
set_option maxRecDepth 20000 in
set_option maxHeartbeats 200000 in
theorem sX12_isFree {E : E3} {Q : Q3} {M : M3} {x1 : Int}
    (h : (0 ≤ x1 ∧ x1 < 48) ∧ ((¬(M 50 0 x1 = 0 ∨ M 50 0 x1 = 2) → (Q (some (vI 0)) M)) ∧ ((M 50 0 x1 = 0 ∨ M 50 0 x1 = 2) → ((M 79 0 x1 ≠ 0 → (Q (some (vI 0)) M)) ∧ (M 79 0 x1 = 0 → ((RdC M ∧ 0 ≤ (M 44 0 0) ∧ (M 44 0 0) ≤ 399) ∧ (∀ (N1 : M3), RM3 N1 → Em M N1 → (RdC N1) → ((¬(alw3 (LM3 M) (M 46 0 x1) (M 44 0 0)) → (Q (some (vI 0)) N1)) ∧ ((alw3 (LM3 M) (M 46 0 x1) (M 44 0 0)) → (Q (some (vI 1)) N1)))))))))) :
    C3 E YX12_isFree [vR 44 0, vI x1] M Q := by
  refine c3_in rfl rfl (z3 rfl) (g3_rm fun hM => ?_)
  refine g3_aload_n 0 dX12_isFree_0 rfl rfl (g3_iload_n 1 dX12_isFree_1 rfl rfl (g3_cV1 dX12_isFree_2 myX12_isOff mlX12_229 (z3 rfl) ob_44 (z3 rfl) (z3 rfl) (kX12_isOff h.1 (g3_r1 (g3_bool_eq (tgt := 38) dX12_isFree_5 rfl (fun c => ?_) (fun c => ?_))))))
  · have h1 := h; have h := h1.2.1 c
    have o1 := h1.1
    exact g3_iconst dX12_isFree_38 (g3_zreturn dX12_isFree_39 rfl (Or.inl rfl) h)
  · have h1 := h; have h := h1.2.2 c
    have o1 := h1.1
    refine g3_aload_n 0 dX12_isFree_8 rfl rfl (g3_getR0 (t := 79) dX12_isFree_9 flX12_126 rfl (z3 rfl) (g3_iload_n 1 dX12_isFree_12 rfl rfl (g3_zald dX12_isFree_13 ar_79 (z3 rfl) o1 (g3_if_ne (tgt := 38) dX12_isFree_14 rfl (hM 79 0 x1) (fun c => ?_) (fun c => ?_)))))
    · have h1 := h; have h := h1.1 c
      exact g3_iconst dX12_isFree_38 (g3_zreturn dX12_isFree_39 rfl (Or.inl rfl) h)
    · have h1 := h; have h := h1.2 c
      refine g3_aload_n 0 dX12_isFree_17 rfl rfl (g3_aload_n 0 dX12_isFree_18 rfl rfl (g3_getR0 (t := 46) dX12_isFree_19 flX12_13 rfl (z3 rfl) (g3_iload_n 1 dX12_isFree_22 rfl rfl (g3_iald dX12_isFree_23 ar_46 (z3 rfl) o1 (g3_aload_n 0 dX12_isFree_24 rfl rfl (g3_getI (t := 0) dX12_isFree_25 flX12_151 (z3 rfl) (z3 rfl) (g3_cV2 dX12_isFree_28 myX12_isAllowed mlX12_235 (z3 rfl) ob_44 (z3 rfl) (z3 rfl) (eX12_isAllowed Em.rf h.1 (fun N1 hN1 he1 hp1 => ?_)))))))))
      have o2 := h.1
      have h := h.2 N1 hN1 he1 hp1
      refine g3_r1 ?_
      refine g3_bool_eq (tgt := 38) dX12_isFree_31 rfl (fun c => ?_) (fun c => ?_)
      · have h1 := h; have h := h1.1 c
        exact g3_iconst dX12_isFree_38 (g3_zreturn dX12_isFree_39 rfl (Or.inl rfl) h)
      · have h1 := h; have h := h1.2 c
        exact g3_iconst dX12_isFree_34 (g3_goto (tgt := 39) dX12_isFree_35 rfl (g3_zreturn dX12_isFree_39 rfl (Or.inr rfl) h))
set_option maxRecDepth 20000 in
set_option maxHeartbeats 200000 in
theorem sX12_changed {E : E3} {Q : Q3} {M : M3} {x1 : Int}
    (h : ((-2147483648 ≤ x1 ∧ x1 ≤ 2147483647) ∧ (-2147483648 ≤ (0 : Int) ∧ (0 : Int) ≤ 2147483647) ∧ (-2147483648 ≤ (5 : Int) ∧ (5 : Int) ≤ 2147483647)) ∧ (((0 ≤ x1 ∧ x1 ≤ 5) → (((0 ≤ M 44 0 1 ∧ M 44 0 1 ≤ 48) ∧ (0 ≤ x1 ∧ x1 ≤ 5)) ∧ (G3 E YX12_changed Q 21 [(0, vR 44 0), (1, vI x1), (2, vI (mChs M x1)), (3, vI (-1)), (4, vI 0)] [] M))) ∧ (¬(0 ≤ x1 ∧ x1 ≤ 5) → (Q (some (vI (-2))) M)))) :
    C3 E YX12_changed [vR 44 0, vI x1] M Q := by
  refine c3_in rfl rfl (z3 rfl) (g3_rm fun hM => ?_)
  refine g3_iload_n 1 dX12_changed_0 rfl rfl (g3_cS1 dX12_changed_1 myX12_isBeat mlX12_154 (z3 rfl) (z3 rfl) (c3_in rfl rfl (z3 rfl) (g3_iload_n 0 dX12_isBeat_0 rfl rfl (g3_iconst dX12_isBeat_1 (g3_iconst dX12_isBeat_2 (g3_cS3 dX12_isBeat_3 myX12_in mlX12_144 (z3 rfl) (z3 rfl) (kX12_in h.1 (g3_r1 (g3_zreturn dX12_isBeat_6 rfl (bo3_01 _) (g3_r1 (g3_bool_ne (tgt := 10) dX12_changed_4 rfl (fun c => ?_) (fun c => ?_))))))))))))
  · have h1 := h; have h := h1.2.1 c
    have o1 := h1.1
    refine g3_aload_n 0 dX12_changed_10 rfl rfl (g3_iload_n 1 dX12_changed_11 rfl rfl (g3_cV1 dX12_changed_12 myX12_chosenIn mlX12_309 (z3 rfl) ob_44 (z3 rfl) (z3 rfl) (kX12_chosenIn h.1 (g3_r1 (g3_istore_n (lv' := [(2, vI (mChs M x1)), (0, vR 44 0), (1, vI x1)]) dX12_changed_15 rfl (z3 rfl) rfl (g3_iconst dX12_changed_16 (g3_istore_n (lv' := [(3, vI (-1)), (2, vI (mChs M x1)), (0, vR 44 0), (1, vI x1)]) dX12_changed_17 rfl (z3 rfl) rfl (g3_iconst dX12_changed_18 (g3_istore (lv' := [(4, vI 0), (3, vI (-1)), (2, vI (mChs M x1)), (0, vR 44 0), (1, vI x1)]) dX12_changed_19 (z3 rfl) rfl (g3_sub [3, 4, 2, 1, 0] rfl h.2))))))))))
  · have h1 := h; have h := h1.2.2 c
    have o1 := h1.1
    exact g3_bipush dX12_changed_7 rfl (g3_ireturn dX12_changed_9 rfl h)
set_option maxRecDepth 20000 in
set_option maxHeartbeats 200000 in
theorem sX12_changed_21 {E : E3} {Q : Q3} {M : M3} {x1 : Int} {x2 : Int} {x3 : Int} {x4 : Int}
    (h : (-2147483648 ≤ x4 ∧ x4 ≤ 2147483647) ∧ ((2 ≤ x4 → (Q (some (vI x3)) M)) ∧ (x4 < 2 → ((-2147483648 ≤ x2 ∧ x2 ≤ 2147483647) ∧ ((x4 ≠ x2 → (((0 ≤ M 44 0 1 ∧ M 44 0 1 ≤ 48) ∧ (0 ≤ x1 ∧ x1 ≤ 5) ∧ (0 ≤ x4 ∧ x4 ≤ 1)) ∧ ((-2147483648 ≤ mWnt M x1 x4 ∧ mWnt M x1 x4 ≤ 2147483647) ∧ ((mWnt M x1 x4 = (-1) → (G3 E YX12_changed Q 21 [(0, vR 44 0), (1, vI x1), (2, vI x2), (3, vI x3), (4, vI (x4 + 1))] [] M)) ∧ (mWnt M x1 x4 ≠ (-1) → ((-2147483648 ≤ x3 ∧ x3 ≤ 2147483647) ∧ ((x3 = (-1) → (G3 E YX12_changed Q 21 [(0, vR 44 0), (1, vI x1), (2, vI x2), (3, vI (mWnt M x1 x4)), (4, vI (x4 + 1))] [] M)) ∧ (x3 ≠ (-1) → ((x3 ≤ mWnt M x1 x4 → (G3 E YX12_changed Q 21 [(0, vR 44 0), (1, vI x1), (2, vI x2), (3, vI x3), (4, vI (x4 + 1))] [] M)) ∧ (mWnt M x1 x4 < x3 → (G3 E YX12_changed Q 21 [(0, vR 44 0), (1, vI x1), (2, vI x2), (3, vI (mWnt M x1 x4)), (4, vI (x4 + 1))] [] M))))))))))) ∧ (x4 = x2 → (G3 E YX12_changed Q 21 [(0, vR 44 0), (1, vI x1), (2, vI x2), (3, vI x3), (4, vI (x4 + 1))] [] M))))))) :
    G3 E YX12_changed Q 21 [(0, vR 44 0), (1, vI x1), (2, vI x2), (3, vI x3), (4, vI x4)] [] M := by
  refine g3_rm fun hM => ?_
  refine g3_iload 4 dX12_changed_21 rfl (g3_iconst dX12_changed_23 (g3_icmp_ge (tgt := 76) dX12_changed_24 rfl h.1 (z3 rfl) (fun c => ?_) (fun c => ?_)))
  · have h1 := h; have h := h1.2.1 c
    have o1 := h1.1
    exact g3_iload_n 3 dX12_changed_76 rfl rfl (g3_ireturn dX12_changed_77 rfl h)
  · have h1 := h; have h := h1.2.2 c
    have o1 := h1.1
    refine g3_iload 4 dX12_changed_27 rfl (g3_iload_n 2 dX12_changed_29 rfl rfl (g3_icmp_ne (tgt := 37) dX12_changed_30 rfl o1 h.1 (fun c => ?_) (fun c => ?_)))
    · have h1 := h; have h := h1.2.1 c
      have o2 := h1.1
      refine g3_aload_n 0 dX12_changed_37 rfl rfl (g3_iload_n 1 dX12_changed_38 rfl rfl (g3_iload 4 dX12_changed_39 rfl (g3_cV2 dX12_changed_41 myX12_wants mlX12_312 (z3 rfl) ob_44 (z3 rfl) (z3 rfl) (kX12_wants h.1 (g3_r1 (g3_istore (lv' := [(5, vI (mWnt M x1 x4)), (0, vR 44 0), (1, vI x1), (2, vI x2), (3, vI x3), (4, vI x4)]) dX12_changed_44 (z3 rfl) rfl (g3_iload 0 dX12_changed_46 rfl (g3_iconst dX12_changed_48 (g3_icmp_eq (tgt := 68) dX12_changed_49 rfl h.2.1 (z3 rfl) (fun c => ?_) (fun c => ?_))))))))))
      · have h1 := h; have h := h1.2.2.1 c
        have o3 := h1.1
        have o4 := h1.2.1
        refine g3_iload_n 4 dX12_changed_68 rfl rfl (g3_istore_n (lv' := [(3, vI x3), (5, vI (mWnt M x1 x4)), (0, vR 44 0), (1, vI x1), (2, vI x2), (4, vI x4)]) dX12_changed_69 rfl (z3 rfl) rfl (g3_iinc (lv' := [(4, vI (x4 + 1)), (3, vI x3), (5, vI (mWnt M x1 x4)), (0, vR 44 0), (1, vI x1), (2, vI x2)]) 5 dX12_changed_70 rfl (z3 rfl) rfl (g3_goto (tgt := 21) dX12_changed_73 rfl (g3_sub [3, 4, 5, 1, 0] rfl h))))
      · have h1 := h; have h := h1.2.2.2 c
        have o3 := h1.1
        have o4 := h1.2.1
        refine g3_iload_n 4 dX12_changed_52 rfl rfl (g3_iconst dX12_changed_53 (g3_icmp_eq (tgt := 63) dX12_changed_54 rfl h.1 (z3 rfl) (fun c => ?_) (fun c => ?_)))
        · have h1 := h; have h := h1.2.1 c
          have o5 := h1.1
          refine g3_iload 0 dX12_changed_63 rfl (g3_goto (tgt := 69) dX12_changed_65 rfl (g3_istore_n (lv' := [(3, vI (mWnt M x1 x4)), (5, vI (mWnt M x1 x4)), (0, vR 44 0), (1, vI x1), (2, vI x2), (4, vI x4)]) dX12_changed_69 rfl (z3 rfl) rfl (g3_iinc (lv' := [(4, vI (x4 + 1)), (3, vI (mWnt M x1 x4)), (5, vI (mWnt M x1 x4)), (0, vR 44 0), (1, vI x1), (2, vI x2)]) 5 dX12_changed_70 rfl (z3 rfl) rfl (g3_goto (tgt := 21) dX12_changed_73 rfl (g3_sub [3, 4, 5, 1, 0] rfl h)))))
        · have h1 := h; have h := h1.2.2 c
          have o5 := h1.1
          refine g3_iload 0 dX12_changed_57 rfl (g3_iload_n 4 dX12_changed_59 rfl rfl (g3_icmp_ge (tgt := 68) dX12_changed_60 rfl o4 o5 (fun c => ?_) (fun c => ?_)))
          · have h1 := h; have h := h1.1 c
            refine g3_iload_n 4 dX12_changed_68 rfl rfl (g3_istore_n (lv' := [(3, vI x3), (5, vI (mWnt M x1 x4)), (0, vR 44 0), (1, vI x1), (2, vI x2), (4, vI x4)]) dX12_changed_69 rfl (z3 rfl) rfl (g3_iinc (lv' := [(4, vI (x4 + 1)), (3, vI x3), (5, vI (mWnt M x1 x4)), (0, vR 44 0), (1, vI x1), (2, vI x2)]) 5 dX12_changed_70 rfl (z3 rfl) rfl (g3_goto (tgt := 21) dX12_changed_73 rfl (g3_sub [3, 4, 5, 1, 0] rfl h))))
          · have h1 := h; have h := h1.2 c
            refine g3_iload 0 dX12_changed_63 rfl (g3_goto (tgt := 69) dX12_changed_65 rfl (g3_istore_n (lv' := [(3, vI (mWnt M x1 x4)), (5, vI (mWnt M x1 x4)), (0, vR 44 0), (1, vI x1), (2, vI x2), (4, vI x4)]) dX12_changed_69 rfl (z3 rfl) rfl (g3_iinc (lv' := [(4, vI (x4 + 1)), (3, vI (mWnt M x1 x4)), (5, vI (mWnt M x1 x4)), (0, vR 44 0), (1, vI x1), (2, vI x2)]) 5 dX12_changed_70 rfl (z3 rfl) rfl (g3_goto (tgt := 21) dX12_changed_73 rfl (g3_sub [3, 4, 5, 1, 0] rfl h)))))
    · have h1 := h; have h := h1.2.2 c
      have o2 := h1.1
      refine g3_iconst dX12_changed_33 (g3_goto (tgt := 44) dX12_changed_34 rfl (g3_istore (lv' := [(5, vI (-1)), (0, vR 44 0), (1, vI x1), (2, vI x2), (3, vI x3), (4, vI x4)]) dX12_changed_44 (z3 rfl) rfl (g3_iload 0 dX12_changed_46 rfl (g3_iconst dX12_changed_48 (g3_icmp_eq_T (tgt := 68) dX12_changed_49 rfl trivial (z3 rfl) (g3_iload_n 4 dX12_changed_68 rfl rfl (g3_istore_n (lv' := [(3, vI x3), (5, vI (-1)), (0, vR 44 0), (1, vI x1), (2, vI x2), (4, vI x4)]) dX12_changed_69 rfl (z3 rfl) rfl (g3_iinc (lv' := [(4, vI (x4 + 1)), (3, vI x3), (5, vI (-1)), (0, vR 44 0), (1, vI x1), (2, vI x2)]) 5 dX12_changed_70 rfl (z3 rfl) rfl (g3_goto (tgt := 21) dX12_changed_73 rfl (g3_sub [3, 4, 5, 1, 0] rfl h))))))))))
set_option maxRecDepth 20000 in
set_option maxHeartbeats 200000 in
theorem sX12_wins {E : E3} {Q : Q3} {M : M3} {x1 : Int}
    (h : ((-2147483648 ≤ x1 ∧ x1 ≤ 2147483647) ∧ (-2147483648 ≤ (0 : Int) ∧ (0 : Int) ≤ 2147483647) ∧ (-2147483648 ≤ (6 : Int) ∧ (6 : Int) ≤ 2147483647)) ∧ (((0 ≤ x1 ∧ x1 ≤ 6) → (G3 E YX12_wins Q 20 [(0, vR 44 0), (1, vI x1), (2, vI 0), (3, vI 0), (4, vI 0)] [] M)) ∧ (¬(0 ≤ x1 ∧ x1 ≤ 6) → (Q (some (vI (-2))) M)))) :
    C3 E YX12_wins [vR 44 0, vI x1] M Q := by
  refine c3_in rfl rfl (z3 rfl) (g3_rm fun hM => ?_)
  refine g3_iload_n 1 dX12_wins_0 rfl rfl (g3_iconst dX12_wins_1 (g3_bipush dX12_wins_2 rfl (g3_cS3 dX12_wins_4 myX12_in mlX12_144 (z3 rfl) (z3 rfl) (kX12_in h.1 (g3_r1 (g3_bool_ne (tgt := 13) dX12_wins_7 rfl (fun c => ?_) (fun c => ?_)))))))
  · have h1 := h; have h := h1.2.1 c
    have o1 := h1.1
    refine g3_iconst dX12_wins_13 (g3_istore_n (lv' := [(2, vI 0), (0, vR 44 0), (1, vI x1)]) dX12_wins_14 rfl (z3 rfl) rfl (g3_iconst dX12_wins_15 (g3_istore_n (lv' := [(3, vI 0), (2, vI 0), (0, vR 44 0), (1, vI x1)]) dX12_wins_16 rfl (z3 rfl) rfl (g3_iconst dX12_wins_17 (g3_istore (lv' := [(4, vI 0), (3, vI 0), (2, vI 0), (0, vR 44 0), (1, vI x1)]) dX12_wins_18 (z3 rfl) rfl (g3_sub [3, 4, 2, 1, 0] rfl h))))))
  · have h1 := h; have h := h1.2.2 c
    have o1 := h1.1
    exact g3_bipush dX12_wins_10 rfl (g3_ireturn dX12_wins_12 rfl h)
set_option maxRecDepth 20000 in
set_option maxHeartbeats 200000 in
theorem sX12_wins_20 {E : E3} {Q : Q3} {M : M3} {x1 : Int} {x2 : Int} {x3 : Int} {x4 : Int}
    (h : (-2147483648 ≤ x4 ∧ x4 ≤ 2147483647) ∧ ((-2147483648 ≤ x1 ∧ x1 ≤ 2147483647) ∧ ((x1 ≤ x4 → (Q (some (vI x2)) M)) ∧ (x4 < x1 → (G3 E YX12_wins Q 32 [(0, vR 44 0), (1, vI x1), (2, vI x2), (3, vI x3), (4, vI x4), (5, vI (-1)), (6, vI 0)] [] M))))) :
    G3 E YX12_wins Q 20 [(0, vR 44 0), (1, vI x1), (2, vI x2), (3, vI x3), (4, vI x4)] [] M := by
  refine g3_rm fun hM => ?_
  refine g3_iload 4 dX12_wins_20 rfl (g3_iload_n 1 dX12_wins_22 rfl rfl (g3_icmp_ge (tgt := 140) dX12_wins_23 rfl h.1 h.2.1 (fun c => ?_) (fun c => ?_)))
  · have h1 := h; have h := h1.2.2.1 c
    have o1 := h1.1
    have o2 := h1.2.1
    exact g3_iload_n 2 dX12_wins_140 rfl rfl (g3_ireturn dX12_wins_141 rfl h)
  · have h1 := h; have h := h1.2.2.2 c
    have o1 := h1.1
    have o2 := h1.2.1
    refine g3_iconst dX12_wins_26 (g3_istore (lv' := [(5, vI (-1)), (0, vR 44 0), (1, vI x1), (2, vI x2), (3, vI x3), (4, vI x4)]) dX12_wins_27 (z3 rfl) rfl (g3_iconst dX12_wins_29 (g3_istore (lv' := [(6, vI 0), (5, vI (-1)), (0, vR 44 0), (1, vI x1), (2, vI x2), (3, vI x3), (4, vI x4)]) dX12_wins_30 (z3 rfl) rfl (g3_sub [2, 3, 4, 5, 6, 1, 0] rfl h))))
set_option maxRecDepth 20000 in
set_option maxHeartbeats 200000 in
theorem sX12_wins_32 {E : E3} {Q : Q3} {M : M3} {x1 : Int} {x2 : Int} {x3 : Int} {x4 : Int} {x5 : Int} {x6 : Int}
    (h : (-2147483648 ≤ x6 ∧ x6 ≤ 2147483647) ∧ ((6 ≤ x6 → ((-2147483648 ≤ x5 ∧ x5 ≤ 2147483647) ∧ ((x5 ≠ (-1) → (((0 ≤ M 44 0 1 ∧ M 44 0 1 ≤ 48) ∧ (0 ≤ x5 ∧ x5 ≤ 5) ∧ (0 ≤ (1 : Int) ∧ (1 : Int) ≤ 1)) ∧ (G3 E YX12_wins Q 20 [(0, vR 44 0), (1, vI x1), (2, vI (x2 + (mWnt M x5 1))), (3, vI (or3 x3 (shl3 1 x5))), (4, vI (x4 + 1))] [] M))) ∧ (x5 = (-1) → (Q (some (vI (-1))) M))))) ∧ (x6 < 6 → ((and3 (shr3 x3 x6) 1 ≠ 0 → (G3 E YX12_wins Q 32 [(0, vR 44 0), (1, vI x1), (2, vI x2), (3, vI x3), (4, vI x4), (5, vI x5), (6, vI (x6 + 1))] [] M)) ∧ (and3 (shr3 x3 x6) 1 = 0 → (((0 ≤ M 44 0 1 ∧ M 44 0 1 ≤ 48) ∧ (0 ≤ x6 ∧ x6 ≤ 5) ∧ (0 ≤ (1 : Int) ∧ (1 : Int) ≤ 1)) ∧ ((-2147483648 ≤ mWnt M x6 1 ∧ mWnt M x6 1 ≤ 2147483647) ∧ ((mWnt M x6 1 = (-1) → (G3 E YX12_wins Q 32 [(0, vR 44 0), (1, vI x1), (2, vI x2), (3, vI x3), (4, vI x4), (5, vI x5), (6, vI (x6 + 1))] [] M)) ∧ (mWnt M x6 1 ≠ (-1) → ((-2147483648 ≤ x5 ∧ x5 ≤ 2147483647) ∧ ((x5 = (-1) → (G3 E YX12_wins Q 32 [(0, vR 44 0), (1, vI x1), (2, vI x2), (3, vI x3), (4, vI x4), (5, vI x6), (6, vI (x6 + 1))] [] M)) ∧ (x5 ≠ (-1) → (((0 ≤ M 44 0 1 ∧ M 44 0 1 ≤ 48) ∧ (0 ≤ x5 ∧ x5 ≤ 5) ∧ (0 ≤ (1 : Int) ∧ (1 : Int) ≤ 1)) ∧ ((-2147483648 ≤ mWnt M x5 1 ∧ mWnt M x5 1 ≤ 2147483647) ∧ ((mWnt M x5 1 ≤ mWnt M x6 1 → (G3 E YX12_wins Q 32 [(0, vR 44 0), (1, vI x1), (2, vI x2), (3, vI x3), (4, vI x4), (5, vI x5), (6, vI (x6 + 1))] [] M)) ∧ (mWnt M x6 1 < mWnt M x5 1 → (G3 E YX12_wins Q 32 [(0, vR 44 0), (1, vI x1), (2, vI x2), (3, vI x3), (4, vI x4), (5, vI x6), (6, vI (x6 + 1))] [] M))))))))))))))))) :
    G3 E YX12_wins Q 32 [(0, vR 44 0), (1, vI x1), (2, vI x2), (3, vI x3), (4, vI x4), (5, vI x5), (6, vI x6)] [] M := by
  refine g3_rm fun hM => ?_
  refine g3_iload 6 dX12_wins_32 rfl (g3_bipush dX12_wins_34 rfl (g3_icmp_ge (tgt := 109) dX12_wins_36 rfl h.1 (z3 rfl) (fun c => ?_) (fun c => ?_)))
  · have h1 := h; have h := h1.2.1 c
    have o1 := h1.1
    refine g3_iload 5 dX12_wins_109 rfl (g3_iconst dX12_wins_111 (g3_icmp_ne (tgt := 117) dX12_wins_112 rfl h.1 (z3 rfl) (fun c => ?_) (fun c => ?_)))
    · have h1 := h; have h := h1.2.1 c
      have o2 := h1.1
      refine g3_iload_n 3 dX12_wins_117 rfl rfl (g3_iconst dX12_wins_118 (g3_iload 5 dX12_wins_119 rfl (g3_ishl dX12_wins_121 (g3_ior dX12_wins_122 (g3_istore_n (lv' := [(3, vI (or3 x3 (shl3 1 x5))), (0, vR 44 0), (1, vI x1), (2, vI x2), (4, vI x4), (5, vI x5), (6, vI x6)]) dX12_wins_123 rfl (z3 rfl) rfl (g3_iload_n 3 dX12_wins_124 rfl rfl (g3_aload_n 1 dX12_wins_125 rfl rfl (g3_iload 5 dX12_wins_126 rfl (g3_iconst dX12_wins_128 (g3_cV2 dX12_wins_129 myX12_wants mlX12_312 (z3 rfl) ob_44 (z3 rfl) (z3 rfl) (kX12_wants h.1 (g3_r1 (g3_iadd dX12_wins_132 (g3_istore_n (lv' := [(2, vI (x2 + (mWnt M x5 1))), (3, vI (or3 x3 (shl3 1 x5))), (0, vR 44 0), (1, vI x1), (4, vI x4), (5, vI x5), (6, vI x6)]) dX12_wins_133 rfl (z3 rfl) rfl (g3_iinc (lv' := [(4, vI (x4 + 1)), (2, vI (x2 + (mWnt M x5 1))), (3, vI (or3 x3 (shl3 1 x5))), (0, vR 44 0), (1, vI x1), (5, vI x5), (6, vI x6)]) 4 dX12_wins_134 rfl (z3 rfl) rfl (g3_goto (tgt := 20) dX12_wins_137 rfl (g3_sub [3, 4, 1, 2, 0] rfl h.2)))))))))))))))))
    · have h1 := h; have h := h1.2.2 c
      have o2 := h1.1
      exact g3_iconst dX12_wins_115 (g3_ireturn dX12_wins_116 rfl h)
  · have h1 := h; have h := h1.2.2 c
    have o1 := h1.1
    refine g3_iload_n 3 dX12_wins_39 rfl rfl (g3_iload 6 dX12_wins_40 rfl (g3_ishr dX12_wins_42 (g3_iconst dX12_wins_43 (g3_iand dX12_wins_44 (g3_if_ne (tgt := 63) dX12_wins_45 rfl (t3_tr _) (fun c => ?_) (fun c => ?_))))))
    · have h1 := h; have h := h1.1 c
      refine g3_iconst dX12_wins_63 (g3_istore (lv' := [(7, vI 0), (0, vR 44 0), (1, vI x1), (2, vI x2), (3, vI x3), (4, vI x4), (5, vI x5), (6, vI x6)]) dX12_wins_64 (z3 rfl) rfl (g3_iload 0 dX12_wins_66 rfl (g3_if_eq_T (tgt := 99) dX12_wins_68 rfl (z3 rfl) (g3_iload 6 dX12_wins_99 rfl (g3_istore (lv' := [(5, vI x5), (7, vI 0), (0, vR 44 0), (1, vI x1), (2, vI x2), (3, vI x3), (4, vI x4), (6, vI x6)]) dX12_wins_101 (z3 rfl) rfl (g3_iinc (lv' := [(6, vI (x6 + 1)), (5, vI x5), (7, vI 0), (0, vR 44 0), (1, vI x1), (2, vI x2), (3, vI x3), (4, vI x4)]) 7 dX12_wins_103 rfl (z3 rfl) rfl (g3_goto (tgt := 32) dX12_wins_106 rfl (g3_sub [3, 4, 5, 6, 7, 1, 0] rfl h))))))))
    · have h1 := h; have h := h1.2 c
      refine g3_aload_n 0 dX12_wins_48 rfl rfl (g3_iload 6 dX12_wins_49 rfl (g3_iconst dX12_wins_51 (g3_cV2 dX12_wins_52 myX12_wants mlX12_312 (z3 rfl) ob_44 (z3 rfl) (z3 rfl) (kX12_wants h.1 (g3_r1 (g3_iconst dX12_wins_55 (g3_icmp_eq (tgt := 63) dX12_wins_56 rfl h.2.1 (z3 rfl) (fun c => ?_) (fun c => ?_))))))))
      · have h1 := h; have h := h1.2.2.1 c
        have o4 := h1.1
        have o5 := h1.2.1
        refine g3_iconst dX12_wins_63 (g3_istore (lv' := [(7, vI 0), (0, vR 44 0), (1, vI x1), (2, vI x2), (3, vI x3), (4, vI x4), (5, vI x5), (6, vI x6)]) dX12_wins_64 (z3 rfl) rfl (g3_iload 0 dX12_wins_66 rfl (g3_if_eq_T (tgt := 99) dX12_wins_68 rfl (z3 rfl) (g3_iload 6 dX12_wins_99 rfl (g3_istore (lv' := [(5, vI x5), (7, vI 0), (0, vR 44 0), (1, vI x1), (2, vI x2), (3, vI x3), (4, vI x4), (6, vI x6)]) dX12_wins_101 (z3 rfl) rfl (g3_iinc (lv' := [(6, vI (x6 + 1)), (5, vI x5), (7, vI 0), (0, vR 44 0), (1, vI x1), (2, vI x2), (3, vI x3), (4, vI x4)]) 7 dX12_wins_103 rfl (z3 rfl) rfl (g3_goto (tgt := 32) dX12_wins_106 rfl (g3_sub [3, 4, 5, 6, 7, 1, 0] rfl h))))))))
      · have h1 := h; have h := h1.2.2.2 c
        have o4 := h1.1
        have o5 := h1.2.1
        refine g3_iconst dX12_wins_59 (g3_goto (tgt := 64) dX12_wins_60 rfl (g3_istore (lv' := [(7, vI 1), (0, vR 44 0), (1, vI x1), (2, vI x2), (3, vI x3), (4, vI x4), (5, vI x5), (6, vI x6)]) dX12_wins_64 (z3 rfl) rfl (g3_iload 0 dX12_wins_66 rfl (g3_if_eq_F (tgt := 99) dX12_wins_68 rfl (z3 rfl) (g3_iload 6 dX12_wins_71 rfl (g3_iconst dX12_wins_73 (g3_icmp_eq (tgt := 94) dX12_wins_74 rfl h.1 (z3 rfl) (fun c => ?_) (fun c => ?_))))))))
        · have h1 := h; have h := h1.2.1 c
          have o6 := h1.1
          refine g3_iload 7 dX12_wins_94 rfl (g3_goto (tgt := 101) dX12_wins_96 rfl (g3_istore (lv' := [(5, vI x6), (7, vI 1), (0, vR 44 0), (1, vI x1), (2, vI x2), (3, vI x3), (4, vI x4), (6, vI x6)]) dX12_wins_101 (z3 rfl) rfl (g3_iinc (lv' := [(6, vI (x6 + 1)), (5, vI x6), (7, vI 1), (0, vR 44 0), (1, vI x1), (2, vI x2), (3, vI x3), (4, vI x4)]) 7 dX12_wins_103 rfl (z3 rfl) rfl (g3_goto (tgt := 32) dX12_wins_106 rfl (g3_sub [3, 4, 5, 6, 7, 1, 0] rfl h)))))
        · have h1 := h; have h := h1.2.2 c
          have o6 := h1.1
          refine g3_aload_n 1 dX12_wins_77 rfl rfl (g3_iload 7 dX12_wins_78 rfl (g3_iconst dX12_wins_80 (g3_cV2 dX12_wins_81 myX12_wants mlX12_312 (z3 rfl) ob_44 (z3 rfl) (z3 rfl) (kX12_wants o4 (g3_r1 (g3_aload_n 1 dX12_wins_84 rfl rfl (g3_iload 6 dX12_wins_85 rfl (g3_iconst dX12_wins_87 (g3_cV2 dX12_wins_88 myX12_wants mlX12_312 (z3 rfl) ob_44 (z3 rfl) (z3 rfl) (kX12_wants h.1 (g3_r1 (g3_icmp_ge (tgt := 99) dX12_wins_91 rfl o5 h.2.1 (fun c => ?_) (fun c => ?_)))))))))))))
          · have h1 := h; have h := h1.2.2.1 c
            have o7 := h1.1
            have o8 := h1.2.1
            refine g3_iload 6 dX12_wins_99 rfl (g3_istore (lv' := [(5, vI x5), (7, vI 1), (0, vR 44 0), (1, vI x1), (2, vI x2), (3, vI x3), (4, vI x4), (6, vI x6)]) dX12_wins_101 (z3 rfl) rfl (g3_iinc (lv' := [(6, vI (x6 + 1)), (5, vI x5), (7, vI 1), (0, vR 44 0), (1, vI x1), (2, vI x2), (3, vI x3), (4, vI x4)]) 7 dX12_wins_103 rfl (z3 rfl) rfl (g3_goto (tgt := 32) dX12_wins_106 rfl (g3_sub [3, 4, 5, 6, 7, 1, 0] rfl h))))
          · have h1 := h; have h := h1.2.2.2 c
            have o7 := h1.1
            have o8 := h1.2.1
            refine g3_iload 7 dX12_wins_94 rfl (g3_goto (tgt := 101) dX12_wins_96 rfl (g3_istore (lv' := [(5, vI x6), (7, vI 1), (0, vR 44 0), (1, vI x1), (2, vI x2), (3, vI x3), (4, vI x4), (6, vI x6)]) dX12_wins_101 (z3 rfl) rfl (g3_iinc (lv' := [(6, vI (x6 + 1)), (5, vI x6), (7, vI 1), (0, vR 44 0), (1, vI x1), (2, vI x2), (3, vI x3), (4, vI x4)]) 7 dX12_wins_103 rfl (z3 rfl) rfl (g3_goto (tgt := 32) dX12_wins_106 rfl (g3_sub [3, 4, 5, 6, 7, 1, 0] rfl h)))))
