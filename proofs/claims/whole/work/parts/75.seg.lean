set_option maxRecDepth 20000 in
set_option maxHeartbeats 200000 in
theorem sX12_list {E : E3} {Q : Q3} {M : M3}
    (h : (M 44 0 39 ≠ 30 → ((0 ≤ 4 * (M 44 0 39) ∧ 4 * (M 44 0 39) < 120) ∧ (((0 ≤ (up3 M 71 0 (4 * (M 44 0 39)) (M 44 0 0)) 44 0 1 ∧ (up3 M 71 0 (4 * (M 44 0 39)) (M 44 0 0)) 44 0 1 ≤ 48) ∧ ((-2147483648 ≤ ((-1) : Int) ∧ ((-1) : Int) ≤ 2147483647) ∧ (-2147483648 ≤ ((-1) : Int) ∧ ((-1) : Int) ≤ 2147483647) ∧ (-2147483648 ≤ (1 : Int) ∧ (1 : Int) ≤ 2147483647))) ∧ ((0 ≤ (4 * (M 44 0 39)) + 1 ∧ (4 * (M 44 0 39)) + 1 < 120) ∧ ((-2147483648 ≤ mRoll (up3 M 71 0 (4 * (M 44 0 39)) (M 44 0 0)) (-1) (-1) 1 ∧ mRoll (up3 M 71 0 (4 * (M 44 0 39)) (M 44 0 0)) (-1) (-1) 1 ≤ 2147483647) ∧ (G3 E YX12_list Q 53 [(0, vR 44 0), (1, vI 0), (2, vI 0), (3, vI 0)] [] (up3 (up3 M 71 0 (4 * (M 44 0 39)) (M 44 0 0)) 71 0 ((4 * (M 44 0 39)) + 1) (mRoll (up3 M 71 0 (4 * (M 44 0 39)) (M 44 0 0)) (-1) (-1) 1)))))))) ∧ (M 44 0 39 = 30 → (Q (some (vI (-4))) M))) :
    C3 E YX12_list [vR 44 0] M Q := by
  refine c3_in rfl rfl (z3 rfl) (g3_rm fun hM => ?_)
  refine g3_aload_n 0 dX12_list_0 rfl rfl (g3_getI (t := 0) dX12_list_1 flX12_303 (z3 rfl) (z3 rfl) (g3_bipush dX12_list_4 rfl (g3_icmp_ne (tgt := 12) dX12_list_6 rfl (hM 44 0 39) (z3 rfl) (fun c => ?_) (fun c => ?_))))
  · have h1 := h; have h := h1.1 c
    refine g3_iconst dX12_list_12 (g3_istore_n (lv' := [(1, vI 0), (0, vR 44 0)]) dX12_list_13 rfl (z3 rfl) rfl (g3_iconst dX12_list_14 (g3_istore_n (lv' := [(2, vI 0), (1, vI 0), (0, vR 44 0)]) dX12_list_15 rfl (z3 rfl) rfl (g3_aload_n 2 dX12_list_16 rfl rfl (g3_getR0 (t := 71) dX12_list_17 flX12_101 rfl (z3 rfl) (g3_iconst dX12_list_20 (g3_aload_n 2 dX12_list_21 rfl rfl (g3_getI (t := 0) dX12_list_22 flX12_303 (z3 rfl) (z3 rfl) (g3_imul dX12_list_25 (g3_aload_n 2 dX12_list_26 rfl rfl (g3_getI (t := 0) dX12_list_27 flX12_151 (z3 rfl) (z3 rfl) (g3_iast dX12_list_30 ar_71 (z3 rfl) h.1 (hM 44 0 0) (g3_aload_n 2 dX12_list_31 rfl rfl (g3_getR0 (t := 71) dX12_list_32 flX12_101 rfl (z3 rfl) (g3_iconst dX12_list_35 (g3_aload_n 2 dX12_list_36 rfl rfl (g3_getI (t := 0) dX12_list_37 flX12_303 (z3 rfl) (z3 rfl) (g3_val (up3_nr (by decide)) (g3_imul dX12_list_40 (g3_iconst dX12_list_41 (g3_iadd dX12_list_42 (g3_aload_n 2 dX12_list_43 rfl rfl (g3_iconst dX12_list_44 (g3_iconst dX12_list_45 (g3_iconst dX12_list_46 (g3_cV3 dX12_list_47 myX12_rollOf mlX12_174 (z3 rfl) ob_44 (z3 rfl) (z3 rfl) (kX12_rollOf h.2.1 (g3_r1 (g3_iast dX12_list_50 ar_71 (z3 rfl) h.2.2.1 h.2.2.2.1 (g3_iconst dX12_list_51 (g3_istore_n (lv' := [(3, vI 0), (2, vI 0), (1, vI 0), (0, vR 44 0)]) dX12_list_52 rfl (z3 rfl) rfl (g3_sub [3, 2, 1, 0] rfl h.2.2.2.2))))))))))))))))))))))))))))))))
  · have h1 := h; have h := h1.2 c
    exact g3_bipush dX12_list_9 rfl (g3_ireturn dX12_list_11 rfl h)
set_option maxRecDepth 20000 in
set_option maxHeartbeats 200000 in
theorem sX12_list_53 {E : E3} {Q : Q3} {M : M3} {x1 : Int} {x2 : Int} {x3 : Int}
    (h : (-2147483648 ≤ x3 ∧ x3 ≤ 2147483647) ∧ ((6 ≤ x3 → (G3 E YX12_list Q 74 [(0, vR 44 0), (1, vI x1), (2, vI x2), (3, vI 0)] [] M)) ∧ (x3 < 6 → ((0 ≤ x3 ∧ x3 < 6) ∧ (G3 E YX12_list Q 53 [(0, vR 44 0), (1, vI x1), (2, vI x2), (3, vI (x3 + 1))] [] (up3 M 72 0 x3 0)))))) :
    G3 E YX12_list Q 53 [(0, vR 44 0), (1, vI x1), (2, vI x2), (3, vI x3)] [] M := by
  refine g3_rm fun hM => ?_
  refine g3_iload_n 3 dX12_list_53 rfl rfl (g3_bipush dX12_list_54 rfl (g3_icmp_ge (tgt := 72) dX12_list_56 rfl h.1 (z3 rfl) (fun c => ?_) (fun c => ?_)))
  · have h1 := h; have h := h1.2.1 c
    have o1 := h1.1
    refine g3_iconst dX12_list_72 (g3_istore_n (lv' := [(3, vI 0), (0, vR 44 0), (1, vI x1), (2, vI x2)]) dX12_list_73 rfl (z3 rfl) rfl (g3_sub [1, 2, 3, 0] rfl h))
  · have h1 := h; have h := h1.2.2 c
    have o1 := h1.1
    refine g3_aload_n 0 dX12_list_59 rfl rfl (g3_getR0 (t := 72) dX12_list_60 flX12_104 rfl (z3 rfl) (g3_iload_n 3 dX12_list_63 rfl rfl (g3_iconst dX12_list_64 (g3_iast dX12_list_65 ar_72 (z3 rfl) h.1 (z3 rfl) (g3_iinc (lv' := [(3, vI (x3 + 1)), (0, vR 44 0), (1, vI x1), (2, vI x2)]) 3 dX12_list_66 rfl (z3 rfl) rfl (g3_goto (tgt := 53) dX12_list_69 rfl (g3_sub [1, 2, 3, 0] rfl h.2)))))))
set_option maxRecDepth 20000 in
set_option maxHeartbeats 200000 in
theorem sX12_list_74 {E : E3} {Q : Q3} {M : M3} {x1 : Int} {x2 : Int} {x3 : Int}
    (h : (-2147483648 ≤ x3 ∧ x3 ≤ 2147483647) ∧ ((M 44 0 1 ≤ x3 → (G3 E YX12_list Q 155 [(0, vR 44 0), (1, vI x1), (2, vI x2), (3, vI 0)] [] M)) ∧ (x3 < M 44 0 1 → ((0 ≤ x3 ∧ x3 < 48) ∧ ((M 50 0 x3 ≠ 1 → (G3 E YX12_list Q 74 [(0, vR 44 0), (1, vI x1), (2, vI x2), (3, vI (x3 + 1))] [] (up3 M 73 0 x3 0))) ∧ (M 50 0 x3 = 1 → ((M 49 0 x3 = (-1) → (G3 E YX12_list Q 74 [(0, vR 44 0), (1, vI x1), (2, vI x2), (3, vI (x3 + 1))] [] (up3 M 73 0 x3 0))) ∧ (M 49 0 x3 ≠ (-1) → ((M 49 0 x3 ≠ (-1) → ((0 ≤ M 49 0 x3 ∧ M 49 0 x3 < 48) ∧ ((M 51 0 (M 49 0 x3) ≤ M 48 0 x3 → (G3 E YX12_list Q 74 [(0, vR 44 0), (1, vI x1), (2, vI x2), (3, vI (x3 + 1))] [] (up3 M 73 0 x3 0))) ∧ (M 48 0 x3 < M 51 0 (M 49 0 x3) → (G3 E YX12_list Q 74 [(0, vR 44 0), (1, vI x1), (2, vI x2), (3, vI (x3 + 1))] [] (up3 M 73 0 x3 1)))))) ∧ (M 49 0 x3 = (-1) → ((M 51 0 0 ≤ M 48 0 x3 → (G3 E YX12_list Q 74 [(0, vR 44 0), (1, vI x1), (2, vI x2), (3, vI (x3 + 1))] [] (up3 M 73 0 x3 0))) ∧ (M 48 0 x3 < M 51 0 0 → (G3 E YX12_list Q 74 [(0, vR 44 0), (1, vI x1), (2, vI x2), (3, vI (x3 + 1))] [] (up3 M 73 0 x3 1)))))))))))))) :
    G3 E YX12_list Q 74 [(0, vR 44 0), (1, vI x1), (2, vI x2), (3, vI x3)] [] M := by
  refine g3_rm fun hM => ?_
  refine g3_iload_n 3 dX12_list_74 rfl rfl (g3_aload_n 0 dX12_list_75 rfl rfl (g3_getI (t := 0) dX12_list_76 flX12_148 (z3 rfl) (z3 rfl) (g3_icmp_ge (tgt := 153) dX12_list_79 rfl h.1 (hM 44 0 1) (fun c => ?_) (fun c => ?_))))
  · have h1 := h; have h := h1.2.1 c
    have o1 := h1.1
    refine g3_iconst dX12_list_153 (g3_istore_n (lv' := [(3, vI 0), (0, vR 44 0), (1, vI x1), (2, vI x2)]) dX12_list_154 rfl (z3 rfl) rfl (g3_sub [1, 2, 3, 0] rfl h))
  · have h1 := h; have h := h1.2.2 c
    have o1 := h1.1
    refine g3_aload_n 0 dX12_list_82 rfl rfl (g3_getR0 (t := 73) dX12_list_83 flX12_107 rfl (z3 rfl) (g3_iload_n 3 dX12_list_86 rfl rfl (g3_aload_n 0 dX12_list_87 rfl rfl (g3_getR0 (t := 50) dX12_list_88 flX12_25 rfl (z3 rfl) (g3_iload_n 3 dX12_list_91 rfl rfl (g3_iald dX12_list_92 ar_50 (z3 rfl) h.1 (g3_iconst dX12_list_93 (g3_icmp_ne (tgt := 145) dX12_list_94 rfl (hM 50 0 x3) (z3 rfl) (fun c => ?_) (fun c => ?_)))))))))
    · have h1 := h; have h := h1.2.1 c
      have o2 := h1.1
      refine g3_iconst dX12_list_145 (g3_zast dX12_list_146 ar_73 (z3 rfl) o2 (Or.inl rfl) (g3_iinc (lv' := [(3, vI (x3 + 1)), (0, vR 44 0), (1, vI x1), (2, vI x2)]) 3 dX12_list_147 rfl (z3 rfl) rfl (g3_goto (tgt := 74) dX12_list_150 rfl (g3_sub [1, 2, 3, 0] rfl h))))
    · have h1 := h; have h := h1.2.2 c
      have o2 := h1.1
      refine g3_aload_n 0 dX12_list_97 rfl rfl (g3_getR0 (t := 49) dX12_list_98 flX12_22 rfl (z3 rfl) (g3_iload_n 3 dX12_list_101 rfl rfl (g3_iald dX12_list_102 ar_49 (z3 rfl) o2 (g3_iconst dX12_list_103 (g3_icmp_eq (tgt := 145) dX12_list_104 rfl (hM 49 0 x3) (z3 rfl) (fun c => ?_) (fun c => ?_))))))
      · have h1 := h; have h := h1.1 c
        refine g3_iconst dX12_list_145 (g3_zast dX12_list_146 ar_73 (z3 rfl) o2 (Or.inl rfl) (g3_iinc (lv' := [(3, vI (x3 + 1)), (0, vR 44 0), (1, vI x1), (2, vI x2)]) 3 dX12_list_147 rfl (z3 rfl) rfl (g3_goto (tgt := 74) dX12_list_150 rfl (g3_sub [1, 2, 3, 0] rfl h))))
      · have h1 := h; have h := h1.2 c
        refine g3_aload_n 0 dX12_list_107 rfl rfl (g3_getR0 (t := 48) dX12_list_108 flX12_19 rfl (z3 rfl) (g3_iload_n 3 dX12_list_111 rfl rfl (g3_iald dX12_list_112 ar_48 (z3 rfl) o2 (g3_aload_n 0 dX12_list_113 rfl rfl (g3_getR0 (t := 51) dX12_list_114 flX12_28 rfl (z3 rfl) (g3_aload_n 0 dX12_list_117 rfl rfl (g3_getR0 (t := 49) dX12_list_118 flX12_22 rfl (z3 rfl) (g3_iload_n 3 dX12_list_121 rfl rfl (g3_iald dX12_list_122 ar_49 (z3 rfl) o2 (g3_iconst dX12_list_123 (g3_icmp_ne (tgt := 131) dX12_list_124 rfl (hM 49 0 x3) (z3 rfl) (fun c => ?_) (fun c => ?_))))))))))))
        · have h1 := h; have h := h1.1 c
          refine g3_aload_n 0 dX12_list_131 rfl rfl (g3_getR0 (t := 49) dX12_list_132 flX12_22 rfl (z3 rfl) (g3_iload_n 3 dX12_list_135 rfl rfl (g3_iald dX12_list_136 ar_49 (z3 rfl) o2 (g3_iald dX12_list_137 ar_51 (z3 rfl) h.1 (g3_icmp_ge (tgt := 145) dX12_list_138 rfl (hM 48 0 x3) (hM 51 0 (M 49 0 x3)) (fun c => ?_) (fun c => ?_))))))
          · have h1 := h; have h := h1.2.1 c
            have o3 := h1.1
            refine g3_iconst dX12_list_145 (g3_zast dX12_list_146 ar_73 (z3 rfl) o2 (Or.inl rfl) (g3_iinc (lv' := [(3, vI (x3 + 1)), (0, vR 44 0), (1, vI x1), (2, vI x2)]) 3 dX12_list_147 rfl (z3 rfl) rfl (g3_goto (tgt := 74) dX12_list_150 rfl (g3_sub [1, 2, 3, 0] rfl h))))
          · have h1 := h; have h := h1.2.2 c
            have o3 := h1.1
            refine g3_iconst dX12_list_141 (g3_goto (tgt := 146) dX12_list_142 rfl (g3_zast dX12_list_146 ar_73 (z3 rfl) o2 (Or.inr rfl) (g3_iinc (lv' := [(3, vI (x3 + 1)), (0, vR 44 0), (1, vI x1), (2, vI x2)]) 3 dX12_list_147 rfl (z3 rfl) rfl (g3_goto (tgt := 74) dX12_list_150 rfl (g3_sub [1, 2, 3, 0] rfl h)))))
        · have h1 := h; have h := h1.2 c
          refine g3_iconst dX12_list_127 (g3_goto (tgt := 137) dX12_list_128 rfl (g3_iald dX12_list_137 ar_51 (z3 rfl) (z3 rfl) (g3_icmp_ge (tgt := 145) dX12_list_138 rfl (hM 48 0 x3) (hM 51 0 0) (fun c => ?_) (fun c => ?_))))
          · have h1 := h; have h := h1.1 c
            refine g3_iconst dX12_list_145 (g3_zast dX12_list_146 ar_73 (z3 rfl) o2 (Or.inl rfl) (g3_iinc (lv' := [(3, vI (x3 + 1)), (0, vR 44 0), (1, vI x1), (2, vI x2)]) 3 dX12_list_147 rfl (z3 rfl) rfl (g3_goto (tgt := 74) dX12_list_150 rfl (g3_sub [1, 2, 3, 0] rfl h))))
          · have h1 := h; have h := h1.2 c
            refine g3_iconst dX12_list_141 (g3_goto (tgt := 146) dX12_list_142 rfl (g3_zast dX12_list_146 ar_73 (z3 rfl) o2 (Or.inr rfl) (g3_iinc (lv' := [(3, vI (x3 + 1)), (0, vR 44 0), (1, vI x1), (2, vI x2)]) 3 dX12_list_147 rfl (z3 rfl) rfl (g3_goto (tgt := 74) dX12_list_150 rfl (g3_sub [1, 2, 3, 0] rfl h)))))
set_option maxRecDepth 20000 in
set_option maxHeartbeats 200000 in
theorem sX12_list_155 {E : E3} {Q : Q3} {M : M3} {x1 : Int} {x2 : Int} {x3 : Int}
    (h : (-2147483648 ≤ x3 ∧ x3 ≤ 2147483647) ∧ ((M 44 0 1 ≤ x3 → (G3 E YX12_list Q 205 [(0, vR 44 0), (1, vI x1), (2, vI x2), (3, vI 0)] [] M)) ∧ (x3 < M 44 0 1 → ((0 ≤ x3 ∧ x3 < 48) ∧ ((M 73 0 x3 = 0 → (G3 E YX12_list Q 155 [(0, vR 44 0), (1, vI x1), (2, vI x2), (3, vI (x3 + 1))] [] M)) ∧ (M 73 0 x3 ≠ 0 → ((0 ≤ M 45 0 x3 ∧ M 45 0 x3 < 6) ∧ ((-2147483648 ≤ (M 72 0 (M 45 0 x3)) + 1 ∧ (M 72 0 (M 45 0 x3)) + 1 ≤ 2147483647) ∧ (G3 E YX12_list Q 155 [(0, vR 44 0), (1, vI (x1 + 1)), (2, vI x2), (3, vI (x3 + 1))] [] (up3 (up3 M 50 0 x3 3) 72 0 (M 45 0 x3) ((M 72 0 (M 45 0 x3)) + 1))))))))))) :
    G3 E YX12_list Q 155 [(0, vR 44 0), (1, vI x1), (2, vI x2), (3, vI x3)] [] M := by
  refine g3_rm fun hM => ?_
  refine g3_iload_n 3 dX12_list_155 rfl rfl (g3_aload_n 0 dX12_list_156 rfl rfl (g3_getI (t := 0) dX12_list_157 flX12_148 (z3 rfl) (z3 rfl) (g3_icmp_ge (tgt := 203) dX12_list_160 rfl h.1 (hM 44 0 1) (fun c => ?_) (fun c => ?_))))
  · have h1 := h; have h := h1.2.1 c
    have o1 := h1.1
    refine g3_iconst dX12_list_203 (g3_istore_n (lv' := [(3, vI 0), (0, vR 44 0), (1, vI x1), (2, vI x2)]) dX12_list_204 rfl (z3 rfl) rfl (g3_sub [1, 2, 3, 0] rfl h))
  · have h1 := h; have h := h1.2.2 c
    have o1 := h1.1
    refine g3_aload_n 0 dX12_list_163 rfl rfl (g3_getR0 (t := 73) dX12_list_164 flX12_107 rfl (z3 rfl) (g3_iload_n 3 dX12_list_167 rfl rfl (g3_zald dX12_list_168 ar_73 (z3 rfl) h.1 (g3_if_eq (tgt := 197) dX12_list_169 rfl (hM 73 0 x3) (fun c => ?_) (fun c => ?_)))))
    · have h1 := h; have h := h1.2.1 c
      have o2 := h1.1
      refine g3_iinc (lv' := [(3, vI (x3 + 1)), (0, vR 44 0), (1, vI x1), (2, vI x2)]) 3 dX12_list_197 rfl (z3 rfl) rfl (g3_goto (tgt := 155) dX12_list_200 rfl (g3_sub [1, 2, 3, 0] rfl h))
    · have h1 := h; have h := h1.2.2 c
      have o2 := h1.1
      refine g3_aload_n 0 dX12_list_172 rfl rfl (g3_getR0 (t := 50) dX12_list_173 flX12_25 rfl (z3 rfl) (g3_iload_n 3 dX12_list_176 rfl rfl (g3_iconst dX12_list_177 (g3_iast dX12_list_178 ar_50 (z3 rfl) o2 (z3 rfl) (g3_aload_n 0 dX12_list_179 rfl rfl (g3_getR0 (t := 72) dX12_list_180 flX12_104 rfl (z3 rfl) (g3_aload_n 0 dX12_list_183 rfl rfl (g3_getR0 (t := 45) dX12_list_184 flX12_7 rfl (z3 rfl) (g3_iload_n 3 dX12_list_187 rfl rfl (g3_iald dX12_list_188 ar_45 (z3 rfl) o2 (g3_val (up3_nr (by decide)) (g3_dup2 dX12_list_189 rfl rfl (g3_iald dX12_list_190 ar_72 (z3 rfl) h.1 (g3_val (up3_nr (by decide)) (g3_iconst dX12_list_191 (g3_iadd dX12_list_192 (g3_iast dX12_list_193 ar_72 (z3 rfl) h.1 h.2.1 (g3_iinc (lv' := [(1, vI (x1 + 1)), (0, vR 44 0), (2, vI x2), (3, vI x3)]) 1 dX12_list_194 rfl (z3 rfl) rfl (g3_iinc (lv' := [(3, vI (x3 + 1)), (1, vI (x1 + 1)), (0, vR 44 0), (2, vI x2)]) 3 dX12_list_197 rfl (z3 rfl) rfl (g3_goto (tgt := 155) dX12_list_200 rfl (g3_sub [2, 1, 3, 0] rfl h.2.2)))))))))))))))))))))
set_option maxRecDepth 20000 in
set_option maxHeartbeats 200000 in
theorem sX12_list_205 {E : E3} {Q : Q3} {M : M3} {x1 : Int} {x2 : Int} {x3 : Int}
    (h : (-2147483648 ≤ x3 ∧ x3 ≤ 2147483647) ∧ ((M 44 0 1 ≤ x3 → ((0 ≤ (4 * (M 44 0 39)) + 2 ∧ (4 * (M 44 0 39)) + 2 < 120) ∧ ((-2147483648 ≤ x1 ∧ x1 ≤ 2147483647) ∧ ((0 ≤ (4 * (M 44 0 39)) + 3 ∧ (4 * (M 44 0 39)) + 3 < 120) ∧ ((-2147483648 ≤ x2 ∧ x2 ≤ 2147483647) ∧ ((-2147483648 ≤ (M 44 0 39) + 1 ∧ (M 44 0 39) + 1 ≤ 2147483647) ∧ (Q (some (vI x1)) (up3 (up3 (up3 M 71 0 ((4 * (M 44 0 39)) + 2) x1) 71 0 ((4 * (M 44 0 39)) + 3) x2) 44 0 39 ((M 44 0 39) + 1))))))))) ∧ (x3 < M 44 0 1 → ((0 ≤ x3 ∧ x3 < 48) ∧ ((0 ≤ M 45 0 x3 ∧ M 45 0 x3 < 6) ∧ ((¬(M 50 0 x3 < 3) → (G3 E YX12_list Q 205 [(0, vR 44 0), (1, vI x1), (2, vI x2), (3, vI (x3 + 1))] [] M)) ∧ ((M 50 0 x3 < 3) → ((M 72 0 (M 45 0 x3) ≤ 0 → (G3 E YX12_list Q 205 [(0, vR 44 0), (1, vI x1), (2, vI x2), (3, vI (x3 + 1))] [] M)) ∧ (0 < M 72 0 (M 45 0 x3) → ((M 50 0 x3 ≠ 1 → ((9 ≤ M 48 0 x3 → ((-2147483648 ≤ (M 48 0 x3) + 0 ∧ (M 48 0 x3) + 0 ≤ 2147483647) ∧ (G3 E YX12_list Q 205 [(0, vR 44 0), (1, vI x1), (2, vI (x2 + 0)), (3, vI (x3 + 1))] [] (up3 (up3 M 50 0 x3 (M 50 0 x3)) 48 0 x3 ((M 48 0 x3) + 0))))) ∧ (M 48 0 x3 < 9 → ((-2147483648 ≤ (M 48 0 x3) + 1 ∧ (M 48 0 x3) + 1 ≤ 2147483647) ∧ (G3 E YX12_list Q 205 [(0, vR 44 0), (1, vI x1), (2, vI (x2 + 0)), (3, vI (x3 + 1))] [] (up3 (up3 M 50 0 x3 (M 50 0 x3)) 48 0 x3 ((M 48 0 x3) + 1))))))) ∧ (M 50 0 x3 = 1 → ((-2147483648 ≤ (M 48 0 x3) + (M 72 0 (M 45 0 x3)) ∧ (M 48 0 x3) + (M 72 0 (M 45 0 x3)) ≤ 2147483647) ∧ (((M 48 0 x3) + (M 72 0 (M 45 0 x3)) < 10 → ((9 ≤ M 48 0 x3 → ((-2147483648 ≤ (M 48 0 x3) + 0 ∧ (M 48 0 x3) + 0 ≤ 2147483647) ∧ (G3 E YX12_list Q 205 [(0, vR 44 0), (1, vI x1), (2, vI (x2 + 0)), (3, vI (x3 + 1))] [] (up3 (up3 M 50 0 x3 (M 50 0 x3)) 48 0 x3 ((M 48 0 x3) + 0))))) ∧ (M 48 0 x3 < 9 → ((-2147483648 ≤ (M 48 0 x3) + 1 ∧ (M 48 0 x3) + 1 ≤ 2147483647) ∧ (G3 E YX12_list Q 205 [(0, vR 44 0), (1, vI x1), (2, vI (x2 + 0)), (3, vI (x3 + 1))] [] (up3 (up3 M 50 0 x3 (M 50 0 x3)) 48 0 x3 ((M 48 0 x3) + 1))))))) ∧ (10 ≤ (M 48 0 x3) + (M 72 0 (M 45 0 x3)) → ((9 ≤ M 48 0 x3 → ((-2147483648 ≤ (M 48 0 x3) + 0 ∧ (M 48 0 x3) + 0 ≤ 2147483647) ∧ (G3 E YX12_list Q 205 [(0, vR 44 0), (1, vI x1), (2, vI (x2 + 1)), (3, vI (x3 + 1))] [] (up3 (up3 M 50 0 x3 2) 48 0 x3 ((M 48 0 x3) + 0))))) ∧ (M 48 0 x3 < 9 → ((-2147483648 ≤ (M 48 0 x3) + 1 ∧ (M 48 0 x3) + 1 ≤ 2147483647) ∧ (G3 E YX12_list Q 205 [(0, vR 44 0), (1, vI x1), (2, vI (x2 + 1)), (3, vI (x3 + 1))] [] (up3 (up3 M 50 0 x3 2) 48 0 x3 ((M 48 0 x3) + 1)))))))))))))))))))) :
    G3 E YX12_list Q 205 [(0, vR 44 0), (1, vI x1), (2, vI x2), (3, vI x3)] [] M := by
  refine g3_rm fun hM => ?_
  refine g3_iload_n 3 dX12_list_205 rfl rfl (g3_aload_n 0 dX12_list_206 rfl rfl (g3_getI (t := 0) dX12_list_207 flX12_148 (z3 rfl) (z3 rfl) (g3_icmp_ge (tgt := 335) dX12_list_210 rfl h.1 (hM 44 0 1) (fun c => ?_) (fun c => ?_))))
  · have h1 := h; have h := h1.2.1 c
    have o1 := h1.1
    exact g3_aload_n 0 dX12_list_335 rfl rfl (g3_getR0 (t := 71) dX12_list_336 flX12_101 rfl (z3 rfl) (g3_iconst dX12_list_339 (g3_aload_n 0 dX12_list_340 rfl rfl (g3_getI (t := 0) dX12_list_341 flX12_303 (z3 rfl) (z3 rfl) (g3_imul dX12_list_344 (g3_iconst dX12_list_345 (g3_iadd dX12_list_346 (g3_iload_n 1 dX12_list_347 rfl rfl (g3_iast dX12_list_348 ar_71 (z3 rfl) h.1 h.2.1 (g3_aload_n 0 dX12_list_349 rfl rfl (g3_getR0 (t := 71) dX12_list_350 flX12_101 rfl (z3 rfl) (g3_iconst dX12_list_353 (g3_aload_n 0 dX12_list_354 rfl rfl (g3_getI (t := 0) dX12_list_355 flX12_303 (z3 rfl) (z3 rfl) (g3_val (up3_nr (by decide)) (g3_imul dX12_list_358 (g3_iconst dX12_list_359 (g3_iadd dX12_list_360 (g3_iload_n 2 dX12_list_361 rfl rfl (g3_iast dX12_list_362 ar_71 (z3 rfl) h.2.2.1 h.2.2.2.1 (g3_aload_n 0 dX12_list_363 rfl rfl (g3_dup dX12_list_364 rfl (g3_getI (t := 0) dX12_list_365 flX12_303 (z3 rfl) (z3 rfl) (g3_val ((up3_nr (by decide)).trans (up3_nr (by decide))) (g3_iconst dX12_list_368 (g3_iadd dX12_list_369 (g3_put dX12_list_370 fpX12_303 (Or.inl rfl) (z3 rfl) h.2.2.2.2.1 (g3_iload_n 1 dX12_list_373 rfl rfl (g3_ireturn dX12_list_374 rfl h.2.2.2.2.2)))))))))))))))))))))))))))))
  · have h1 := h; have h := h1.2.2 c
    have o1 := h1.1
    refine g3_aload_n 0 dX12_list_213 rfl rfl (g3_getR0 (t := 72) dX12_list_214 flX12_104 rfl (z3 rfl) (g3_aload_n 0 dX12_list_217 rfl rfl (g3_getR0 (t := 45) dX12_list_218 flX12_7 rfl (z3 rfl) (g3_iload_n 3 dX12_list_221 rfl rfl (g3_iald dX12_list_222 ar_45 (z3 rfl) h.1 (g3_iald dX12_list_223 ar_72 (z3 rfl) h.2.1 (g3_istore (lv' := [(4, vI (M 72 0 (M 45 0 x3))), (0, vR 44 0), (1, vI x1), (2, vI x2), (3, vI x3)]) dX12_list_224 (z3 rfl) rfl (g3_aload_n 1 dX12_list_226 rfl rfl (g3_iload_n 4 dX12_list_227 rfl rfl (g3_cV1 dX12_list_228 myX12_lives mlX12_158 (z3 rfl) ob_44 (z3 rfl) (z3 rfl) (kX12_lives h.1 (g3_r1 (g3_bool_eq (tgt := 329) dX12_list_231 rfl (fun c => ?_) (fun c => ?_))))))))))))))
    · have h1 := h; have h := h1.2.2.1 c
      have o7 := h1.1
      have o8 := h1.2.1
      refine g3_iinc (lv' := [(3, vI (x3 + 1)), (4, vI (M 72 0 (M 45 0 x3))), (0, vR 44 0), (1, vI x1), (2, vI x2)]) 4 dX12_list_329 rfl (z3 rfl) rfl (g3_goto (tgt := 205) dX12_list_332 rfl (g3_sub [2, 3, 4, 0] rfl h))
    · have h1 := h; have h := h1.2.2.2 c
      have o7 := h1.1
      have o8 := h1.2.1
      refine g3_iload 0 dX12_list_234 rfl (g3_if_le (tgt := 329) dX12_list_236 rfl (hM 72 0 (M 45 0 x3)) (fun c => ?_) (fun c => ?_))
      · have h1 := h; have h := h1.1 c
        refine g3_iinc (lv' := [(3, vI (x3 + 1)), (4, vI (M 72 0 (M 45 0 x3))), (0, vR 44 0), (1, vI x1), (2, vI x2)]) 4 dX12_list_329 rfl (z3 rfl) rfl (g3_goto (tgt := 205) dX12_list_332 rfl (g3_sub [2, 3, 4, 0] rfl h))
      · have h1 := h; have h := h1.2 c
        refine g3_aload_n 1 dX12_list_239 rfl rfl (g3_getR0 (t := 50) dX12_list_240 flX12_25 rfl (z3 rfl) (g3_iload_n 4 dX12_list_243 rfl rfl (g3_iald dX12_list_244 ar_50 (z3 rfl) o7 (g3_iconst dX12_list_245 (g3_icmp_ne (tgt := 267) dX12_list_246 rfl (hM 50 0 x3) (z3 rfl) (fun c => ?_) (fun c => ?_))))))
        · have h1 := h; have h := h1.1 c
          refine g3_iconst dX12_list_267 (g3_istore (lv' := [(5, vI 0), (4, vI (M 72 0 (M 45 0 x3))), (0, vR 44 0), (1, vI x1), (2, vI x2), (3, vI x3)]) dX12_list_268 (z3 rfl) rfl (g3_iload_n 4 dX12_list_270 rfl rfl (g3_iload 0 dX12_list_271 rfl (g3_if_eq_T (tgt := 280) dX12_list_273 rfl (z3 rfl) (g3_iconst dX12_list_280 (g3_iadd dX12_list_281 (g3_istore_n (lv' := [(2, vI (x2 + 0)), (5, vI 0), (4, vI (M 72 0 (M 45 0 x3))), (0, vR 44 0), (1, vI x1), (3, vI x3)]) dX12_list_282 rfl (z3 rfl) rfl (g3_aload_n 3 dX12_list_283 rfl rfl (g3_getR0 (t := 50) dX12_list_284 flX12_25 rfl (z3 rfl) (g3_iload_n 5 dX12_list_287 rfl rfl (g3_iload 1 dX12_list_288 rfl (g3_if_eq_T (tgt := 297) dX12_list_290 rfl (z3 rfl) (g3_aload_n 3 dX12_list_297 rfl rfl (g3_getR0 (t := 50) dX12_list_298 flX12_25 rfl (z3 rfl) (g3_iload_n 5 dX12_list_301 rfl rfl (g3_iald dX12_list_302 ar_50 (z3 rfl) o7 (g3_iast dX12_list_303 ar_50 (z3 rfl) o7 (hM 50 0 x3) (g3_aload_n 3 dX12_list_304 rfl rfl (g3_getR0 (t := 48) dX12_list_305 flX12_19 rfl (z3 rfl) (g3_iload_n 5 dX12_list_308 rfl rfl (g3_dup2 dX12_list_309 rfl rfl (g3_iald dX12_list_310 ar_48 (z3 rfl) o7 (g3_val (up3_nr (by decide)) (g3_aload_n 3 dX12_list_311 rfl rfl (g3_getR0 (t := 48) dX12_list_312 flX12_19 rfl (z3 rfl) (g3_iload_n 5 dX12_list_315 rfl rfl (g3_iald dX12_list_316 ar_48 (z3 rfl) o7 (g3_val (up3_nr (by decide)) (g3_bipush dX12_list_317 rfl (g3_icmp_ge (tgt := 326) dX12_list_319 rfl (hM 48 0 x3) (z3 rfl) (fun c => ?_) (fun c => ?_)))))))))))))))))))))))))))))))
          · have h1 := h; have h := h1.1 c
            refine g3_iconst dX12_list_326 (g3_iadd dX12_list_327 (g3_iast dX12_list_328 ar_48 (z3 rfl) o7 h.1 (g3_iinc (lv' := [(3, vI (x3 + 1)), (2, vI (x2 + 0)), (5, vI 0), (4, vI (M 72 0 (M 45 0 x3))), (0, vR 44 0), (1, vI x1)]) 5 dX12_list_329 rfl (z3 rfl) rfl (g3_goto (tgt := 205) dX12_list_332 rfl (g3_sub [4, 5, 1, 0] rfl h.2)))))
          · have h1 := h; have h := h1.2 c
            refine g3_iconst dX12_list_322 (g3_goto (tgt := 327) dX12_list_323 rfl (g3_iadd dX12_list_327 (g3_iast dX12_list_328 ar_48 (z3 rfl) o7 h.1 (g3_iinc (lv' := [(3, vI (x3 + 1)), (2, vI (x2 + 0)), (5, vI 0), (4, vI (M 72 0 (M 45 0 x3))), (0, vR 44 0), (1, vI x1)]) 5 dX12_list_329 rfl (z3 rfl) rfl (g3_goto (tgt := 205) dX12_list_332 rfl (g3_sub [4, 5, 1, 0] rfl h.2))))))
        · have h1 := h; have h := h1.2 c
          refine g3_aload_n 1 dX12_list_249 rfl rfl (g3_getR0 (t := 48) dX12_list_250 flX12_19 rfl (z3 rfl) (g3_iload_n 4 dX12_list_253 rfl rfl (g3_iald dX12_list_254 ar_48 (z3 rfl) o7 (g3_iload 0 dX12_list_255 rfl (g3_iadd dX12_list_257 (g3_bipush dX12_list_258 rfl (g3_icmp_lt (tgt := 267) dX12_list_260 rfl h.1 (z3 rfl) (fun c => ?_) (fun c => ?_))))))))
          · have h1 := h; have h := h1.2.1 c
            have o11 := h1.1
            refine g3_iconst dX12_list_267 (g3_istore (lv' := [(5, vI 0), (4, vI (M 72 0 (M 45 0 x3))), (0, vR 44 0), (1, vI x1), (2, vI x2), (3, vI x3)]) dX12_list_268 (z3 rfl) rfl (g3_iload_n 4 dX12_list_270 rfl rfl (g3_iload 0 dX12_list_271 rfl (g3_if_eq_T (tgt := 280) dX12_list_273 rfl (z3 rfl) (g3_iconst dX12_list_280 (g3_iadd dX12_list_281 (g3_istore_n (lv' := [(2, vI (x2 + 0)), (5, vI 0), (4, vI (M 72 0 (M 45 0 x3))), (0, vR 44 0), (1, vI x1), (3, vI x3)]) dX12_list_282 rfl (z3 rfl) rfl (g3_aload_n 3 dX12_list_283 rfl rfl (g3_getR0 (t := 50) dX12_list_284 flX12_25 rfl (z3 rfl) (g3_iload_n 5 dX12_list_287 rfl rfl (g3_iload 1 dX12_list_288 rfl (g3_if_eq_T (tgt := 297) dX12_list_290 rfl (z3 rfl) (g3_aload_n 3 dX12_list_297 rfl rfl (g3_getR0 (t := 50) dX12_list_298 flX12_25 rfl (z3 rfl) (g3_iload_n 5 dX12_list_301 rfl rfl (g3_iald dX12_list_302 ar_50 (z3 rfl) o7 (g3_iast dX12_list_303 ar_50 (z3 rfl) o7 (hM 50 0 x3) (g3_aload_n 3 dX12_list_304 rfl rfl (g3_getR0 (t := 48) dX12_list_305 flX12_19 rfl (z3 rfl) (g3_iload_n 5 dX12_list_308 rfl rfl (g3_dup2 dX12_list_309 rfl rfl (g3_iald dX12_list_310 ar_48 (z3 rfl) o7 (g3_val (up3_nr (by decide)) (g3_aload_n 3 dX12_list_311 rfl rfl (g3_getR0 (t := 48) dX12_list_312 flX12_19 rfl (z3 rfl) (g3_iload_n 5 dX12_list_315 rfl rfl (g3_iald dX12_list_316 ar_48 (z3 rfl) o7 (g3_val (up3_nr (by decide)) (g3_bipush dX12_list_317 rfl (g3_icmp_ge (tgt := 326) dX12_list_319 rfl (hM 48 0 x3) (z3 rfl) (fun c => ?_) (fun c => ?_)))))))))))))))))))))))))))))))
            · have h1 := h; have h := h1.1 c
              refine g3_iconst dX12_list_326 (g3_iadd dX12_list_327 (g3_iast dX12_list_328 ar_48 (z3 rfl) o7 h.1 (g3_iinc (lv' := [(3, vI (x3 + 1)), (2, vI (x2 + 0)), (5, vI 0), (4, vI (M 72 0 (M 45 0 x3))), (0, vR 44 0), (1, vI x1)]) 5 dX12_list_329 rfl (z3 rfl) rfl (g3_goto (tgt := 205) dX12_list_332 rfl (g3_sub [4, 5, 1, 0] rfl h.2)))))
            · have h1 := h; have h := h1.2 c
              refine g3_iconst dX12_list_322 (g3_goto (tgt := 327) dX12_list_323 rfl (g3_iadd dX12_list_327 (g3_iast dX12_list_328 ar_48 (z3 rfl) o7 h.1 (g3_iinc (lv' := [(3, vI (x3 + 1)), (2, vI (x2 + 0)), (5, vI 0), (4, vI (M 72 0 (M 45 0 x3))), (0, vR 44 0), (1, vI x1)]) 5 dX12_list_329 rfl (z3 rfl) rfl (g3_goto (tgt := 205) dX12_list_332 rfl (g3_sub [4, 5, 1, 0] rfl h.2))))))
          · have h1 := h; have h := h1.2.2 c
            have o11 := h1.1
            refine g3_iconst dX12_list_263 (g3_goto (tgt := 268) dX12_list_264 rfl (g3_istore (lv' := [(5, vI 1), (4, vI (M 72 0 (M 45 0 x3))), (0, vR 44 0), (1, vI x1), (2, vI x2), (3, vI x3)]) dX12_list_268 (z3 rfl) rfl (g3_iload_n 4 dX12_list_270 rfl rfl (g3_iload 0 dX12_list_271 rfl (g3_if_eq_F (tgt := 280) dX12_list_273 rfl (z3 rfl) (g3_iconst dX12_list_276 (g3_goto (tgt := 281) dX12_list_277 rfl (g3_iadd dX12_list_281 (g3_istore_n (lv' := [(2, vI (x2 + 1)), (5, vI 1), (4, vI (M 72 0 (M 45 0 x3))), (0, vR 44 0), (1, vI x1), (3, vI x3)]) dX12_list_282 rfl (z3 rfl) rfl (g3_aload_n 3 dX12_list_283 rfl rfl (g3_getR0 (t := 50) dX12_list_284 flX12_25 rfl (z3 rfl) (g3_iload_n 5 dX12_list_287 rfl rfl (g3_iload 1 dX12_list_288 rfl (g3_if_eq_F (tgt := 297) dX12_list_290 rfl (z3 rfl) (g3_iconst dX12_list_293 (g3_goto (tgt := 303) dX12_list_294 rfl (g3_iast dX12_list_303 ar_50 (z3 rfl) o7 (z3 rfl) (g3_aload_n 3 dX12_list_304 rfl rfl (g3_getR0 (t := 48) dX12_list_305 flX12_19 rfl (z3 rfl) (g3_iload_n 5 dX12_list_308 rfl rfl (g3_dup2 dX12_list_309 rfl rfl (g3_iald dX12_list_310 ar_48 (z3 rfl) o7 (g3_val (up3_nr (by decide)) (g3_aload_n 3 dX12_list_311 rfl rfl (g3_getR0 (t := 48) dX12_list_312 flX12_19 rfl (z3 rfl) (g3_iload_n 5 dX12_list_315 rfl rfl (g3_iald dX12_list_316 ar_48 (z3 rfl) o7 (g3_val (up3_nr (by decide)) (g3_bipush dX12_list_317 rfl (g3_icmp_ge (tgt := 326) dX12_list_319 rfl (hM 48 0 x3) (z3 rfl) (fun c => ?_) (fun c => ?_)))))))))))))))))))))))))))))))
            · have h1 := h; have h := h1.1 c
              refine g3_iconst dX12_list_326 (g3_iadd dX12_list_327 (g3_iast dX12_list_328 ar_48 (z3 rfl) o7 h.1 (g3_iinc (lv' := [(3, vI (x3 + 1)), (2, vI (x2 + 1)), (5, vI 1), (4, vI (M 72 0 (M 45 0 x3))), (0, vR 44 0), (1, vI x1)]) 5 dX12_list_329 rfl (z3 rfl) rfl (g3_goto (tgt := 205) dX12_list_332 rfl (g3_sub [4, 5, 1, 0] rfl h.2)))))
            · have h1 := h; have h := h1.2 c
              refine g3_iconst dX12_list_322 (g3_goto (tgt := 327) dX12_list_323 rfl (g3_iadd dX12_list_327 (g3_iast dX12_list_328 ar_48 (z3 rfl) o7 h.1 (g3_iinc (lv' := [(3, vI (x3 + 1)), (2, vI (x2 + 1)), (5, vI 1), (4, vI (M 72 0 (M 45 0 x3))), (0, vR 44 0), (1, vI x1)]) 5 dX12_list_329 rfl (z3 rfl) rfl (g3_goto (tgt := 205) dX12_list_332 rfl (g3_sub [4, 5, 1, 0] rfl h.2))))))
set_option maxRecDepth 20000 in
set_option maxHeartbeats 200000 in
theorem sX12_copy {E : E3} {Q : Q3} {M : M3} {x1 x2 x3 x4 x5 : Int}
    (h : ((-2147483648 ≤ x1 ∧ x1 ≤ 2147483647) ∧ (-2147483648 ≤ (0 : Int) ∧ (0 : Int) ≤ 2147483647) ∧ (-2147483648 ≤ (3 : Int) ∧ (3 : Int) ≤ 2147483647)) ∧ ((¬(0 ≤ x1 ∧ x1 ≤ 3) → (Q (some (vI (-2))) M)) ∧ ((0 ≤ x1 ∧ x1 ≤ 3) → (((-2147483648 ≤ x3 ∧ x3 ≤ 2147483647) ∧ (-2147483648 ≤ (0 : Int) ∧ (0 : Int) ≤ 2147483647) ∧ (-2147483648 ≤ (3 : Int) ∧ (3 : Int) ≤ 2147483647)) ∧ (((0 ≤ x3 ∧ x3 ≤ 3) → ((0 ≤ x1 ∧ x1 < 4) ∧ ((M 80 0 x1 = 0 → (Q (some (vI ((-10) - 1))) (up3 M 44 0 58 1))) ∧ (M 80 0 x1 ≠ 0 → ((0 ≤ x3 ∧ x3 < 4) ∧ ((M 80 0 x3 ≠ 0 → ((M 81 0 x1 = M 81 0 x3 → ((-2147483648 ≤ x2 ∧ x2 ≤ 2147483647) ∧ ((x2 < 0 → (Q (some (vI ((-10) - 2))) (up3 M 44 0 58 2))) ∧ (0 ≤ x2 → ((-2147483648 ≤ x4 ∧ x4 ≤ 2147483647) ∧ ((x4 < 0 → (Q (some (vI ((-10) - 2))) (up3 M 44 0 58 2))) ∧ (0 ≤ x4 → ((-2147483648 ≤ x5 ∧ x5 ≤ 2147483647) ∧ ((x5 < 0 → (Q (some (vI ((-10) - 2))) (up3 M 44 0 58 2))) ∧ (0 ≤ x5 → ((0 < cmp3 ((i2l3 x2) + (i2l3 x5)) (i2l3 (M 82 0 x1)) → (Q (some (vI ((-10) - 2))) (up3 M 44 0 58 2))) ∧ (cmp3 ((i2l3 x2) + (i2l3 x5)) (i2l3 (M 82 0 x1)) ≤ 0 → ((cmp3 ((i2l3 x4) + (i2l3 x5)) (i2l3 (M 82 0 x3)) ≤ 0 → (G3 E YX12_copy Q 120 [(0, vR 44 0), (1, vI x1), (2, vI x2), (3, vI x3), (4, vI x4), (5, vI x5), (6, vI 0)] [] M)) ∧ (0 < cmp3 ((i2l3 x4) + (i2l3 x5)) (i2l3 (M 82 0 x3)) → (Q (some (vI ((-10) - 2))) (up3 M 44 0 58 2)))))))))))))))) ∧ (M 81 0 x1 ≠ M 81 0 x3 → (Q (some (vI ((-10) - 4))) (up3 M 44 0 58 4))))) ∧ (M 80 0 x3 = 0 → (Q (some (vI ((-10) - 1))) (up3 M 44 0 58 1))))))))) ∧ (¬(0 ≤ x3 ∧ x3 ≤ 3) → (Q (some (vI (-2))) M))))))) :
    C3 E YX12_copy [vR 44 0, vI x1, vI x2, vI x3, vI x4, vI x5] M Q := by
  refine c3_in rfl rfl (z3 rfl) (g3_rm fun hM => ?_)
  refine g3_iload_n 1 dX12_copy_0 rfl rfl (g3_cS1 dX12_copy_1 myX12_isSheet mlX12_223 (z3 rfl) (z3 rfl) (c3_in rfl rfl (z3 rfl) (g3_iload_n 0 dX12_isSheet_0 rfl rfl (g3_iconst dX12_isSheet_1 (g3_iconst dX12_isSheet_2 (g3_cS3 dX12_isSheet_3 myX12_in mlX12_144 (z3 rfl) (z3 rfl) (kX12_in h.1 (g3_r1 (g3_zreturn dX12_isSheet_6 rfl (bo3_01 _) (g3_r1 (g3_bool_eq (tgt := 14) dX12_copy_4 rfl (fun c => ?_) (fun c => ?_))))))))))))
  · have h1 := h; have h := h1.2.1 c
    have o1 := h1.1
    exact g3_bipush dX12_copy_14 rfl (g3_ireturn dX12_copy_16 rfl h)
  · have h1 := h; have h := h1.2.2 c
    have o1 := h1.1
    refine g3_iload_n 3 dX12_copy_7 rfl rfl (g3_cS1 dX12_copy_8 myX12_isSheet mlX12_223 (z3 rfl) (z3 rfl) (c3_in rfl rfl (z3 rfl) (g3_iload_n 0 dX12_isSheet_0 rfl rfl (g3_iconst dX12_isSheet_1 (g3_iconst dX12_isSheet_2 (g3_cS3 dX12_isSheet_3 myX12_in mlX12_144 (z3 rfl) (z3 rfl) (kX12_in h.1 (g3_r1 (g3_zreturn dX12_isSheet_6 rfl (bo3_01 _) (g3_r1 (g3_bool_ne (tgt := 17) dX12_copy_11 rfl (fun c => ?_) (fun c => ?_))))))))))))
    · have h1 := h; have h := h1.2.1 c
      have o2 := h1.1
      refine g3_aload_n 0 dX12_copy_17 rfl rfl (g3_getR0 (t := 80) dX12_copy_18 flX12_129 rfl (z3 rfl) (g3_iload_n 1 dX12_copy_21 rfl rfl (g3_zald dX12_copy_22 ar_80 (z3 rfl) h.1 (g3_if_eq (tgt := 35) dX12_copy_23 rfl (hM 80 0 x1) (fun c => ?_) (fun c => ?_)))))
      · have h1 := h; have h := h1.2.1 c
        have o3 := h1.1
        exact g3_aload_n 0 dX12_copy_35 rfl rfl (g3_iconst dX12_copy_36 (g3_cV1 dX12_copy_37 myX12_meets mlX12_226 (z3 rfl) ob_44 (z3 rfl) (z3 rfl) (c3_in rfl rfl (z3 rfl) (g3_aload_n 0 dX12_meets_0 rfl rfl (g3_iload_n 1 dX12_meets_1 rfl rfl (g3_put dX12_meets_2 fpX12_344 (Or.inl rfl) (z3 rfl) (z3 rfl) (g3_bipush dX12_meets_5 rfl (g3_iload_n 1 dX12_meets_7 rfl rfl (g3_isub dX12_meets_8 (g3_ireturn dX12_meets_9 rfl (g3_r1 (g3_ireturn dX12_copy_40 rfl h))))))))))))
      · have h1 := h; have h := h1.2.2 c
        have o3 := h1.1
        refine g3_aload_n 0 dX12_copy_26 rfl rfl (g3_getR0 (t := 80) dX12_copy_27 flX12_129 rfl (z3 rfl) (g3_iload_n 3 dX12_copy_30 rfl rfl (g3_zald dX12_copy_31 ar_80 (z3 rfl) h.1 (g3_if_ne (tgt := 41) dX12_copy_32 rfl (hM 80 0 x3) (fun c => ?_) (fun c => ?_)))))
        · have h1 := h; have h := h1.2.1 c
          have o4 := h1.1
          refine g3_aload_n 0 dX12_copy_41 rfl rfl (g3_getR0 (t := 81) dX12_copy_42 flX12_132 rfl (z3 rfl) (g3_iload_n 1 dX12_copy_45 rfl rfl (g3_iald dX12_copy_46 ar_81 (z3 rfl) o3 (g3_aload_n 0 dX12_copy_47 rfl rfl (g3_getR0 (t := 81) dX12_copy_48 flX12_132 rfl (z3 rfl) (g3_iload_n 3 dX12_copy_51 rfl rfl (g3_iald dX12_copy_52 ar_81 (z3 rfl) o4 (g3_icmp_eq (tgt := 62) dX12_copy_53 rfl (hM 81 0 x1) (hM 81 0 x3) (fun c => ?_) (fun c => ?_)))))))))
          · have h1 := h; have h := h1.1 c
            refine g3_iload_n 2 dX12_copy_62 rfl rfl (g3_if_lt (tgt := 111) dX12_copy_63 rfl h.1 (fun c => ?_) (fun c => ?_))
            · have h1 := h; have h := h1.2.1 c
              have o5 := h1.1
              exact g3_aload_n 0 dX12_copy_111 rfl rfl (g3_iconst dX12_copy_112 (g3_cV1 dX12_copy_113 myX12_meets mlX12_226 (z3 rfl) ob_44 (z3 rfl) (z3 rfl) (c3_in rfl rfl (z3 rfl) (g3_aload_n 0 dX12_meets_0 rfl rfl (g3_iload_n 1 dX12_meets_1 rfl rfl (g3_put dX12_meets_2 fpX12_344 (Or.inl rfl) (z3 rfl) (z3 rfl) (g3_bipush dX12_meets_5 rfl (g3_iload_n 1 dX12_meets_7 rfl rfl (g3_isub dX12_meets_8 (g3_ireturn dX12_meets_9 rfl (g3_r1 (g3_ireturn dX12_copy_116 rfl h))))))))))))
            · have h1 := h; have h := h1.2.2 c
              have o5 := h1.1
              refine g3_iload 4 dX12_copy_66 rfl (g3_if_lt (tgt := 111) dX12_copy_68 rfl h.1 (fun c => ?_) (fun c => ?_))
              · have h1 := h; have h := h1.2.1 c
                have o6 := h1.1
                exact g3_aload_n 0 dX12_copy_111 rfl rfl (g3_iconst dX12_copy_112 (g3_cV1 dX12_copy_113 myX12_meets mlX12_226 (z3 rfl) ob_44 (z3 rfl) (z3 rfl) (c3_in rfl rfl (z3 rfl) (g3_aload_n 0 dX12_meets_0 rfl rfl (g3_iload_n 1 dX12_meets_1 rfl rfl (g3_put dX12_meets_2 fpX12_344 (Or.inl rfl) (z3 rfl) (z3 rfl) (g3_bipush dX12_meets_5 rfl (g3_iload_n 1 dX12_meets_7 rfl rfl (g3_isub dX12_meets_8 (g3_ireturn dX12_meets_9 rfl (g3_r1 (g3_ireturn dX12_copy_116 rfl h))))))))))))
              · have h1 := h; have h := h1.2.2 c
                have o6 := h1.1
                refine g3_iload 5 dX12_copy_71 rfl (g3_if_lt (tgt := 111) dX12_copy_73 rfl h.1 (fun c => ?_) (fun c => ?_))
                · have h1 := h; have h := h1.2.1 c
                  have o7 := h1.1
                  exact g3_aload_n 0 dX12_copy_111 rfl rfl (g3_iconst dX12_copy_112 (g3_cV1 dX12_copy_113 myX12_meets mlX12_226 (z3 rfl) ob_44 (z3 rfl) (z3 rfl) (c3_in rfl rfl (z3 rfl) (g3_aload_n 0 dX12_meets_0 rfl rfl (g3_iload_n 1 dX12_meets_1 rfl rfl (g3_put dX12_meets_2 fpX12_344 (Or.inl rfl) (z3 rfl) (z3 rfl) (g3_bipush dX12_meets_5 rfl (g3_iload_n 1 dX12_meets_7 rfl rfl (g3_isub dX12_meets_8 (g3_ireturn dX12_meets_9 rfl (g3_r1 (g3_ireturn dX12_copy_116 rfl h))))))))))))
                · have h1 := h; have h := h1.2.2 c
                  have o7 := h1.1
                  refine g3_iload_n 2 dX12_copy_76 rfl rfl (g3_i2l dX12_copy_77 (g3_iload 5 dX12_copy_78 rfl (g3_i2l dX12_copy_80 (g3_ladd dX12_copy_81 (g3_aload_n 0 dX12_copy_82 rfl rfl (g3_getR0 (t := 82) dX12_copy_83 flX12_135 rfl (z3 rfl) (g3_iload_n 1 dX12_copy_86 rfl rfl (g3_iald dX12_copy_87 ar_82 (z3 rfl) o3 (g3_i2l dX12_copy_88 (g3_lcmp dX12_copy_89 (g3_if_gt (tgt := 111) dX12_copy_90 rfl (t3_tr _) (fun c => ?_) (fun c => ?_))))))))))))
                  · have h1 := h; have h := h1.1 c
                    exact g3_aload_n 0 dX12_copy_111 rfl rfl (g3_iconst dX12_copy_112 (g3_cV1 dX12_copy_113 myX12_meets mlX12_226 (z3 rfl) ob_44 (z3 rfl) (z3 rfl) (c3_in rfl rfl (z3 rfl) (g3_aload_n 0 dX12_meets_0 rfl rfl (g3_iload_n 1 dX12_meets_1 rfl rfl (g3_put dX12_meets_2 fpX12_344 (Or.inl rfl) (z3 rfl) (z3 rfl) (g3_bipush dX12_meets_5 rfl (g3_iload_n 1 dX12_meets_7 rfl rfl (g3_isub dX12_meets_8 (g3_ireturn dX12_meets_9 rfl (g3_r1 (g3_ireturn dX12_copy_116 rfl h))))))))))))
                  · have h1 := h; have h := h1.2 c
                    refine g3_iload 4 dX12_copy_93 rfl (g3_i2l dX12_copy_95 (g3_iload 5 dX12_copy_96 rfl (g3_i2l dX12_copy_98 (g3_ladd dX12_copy_99 (g3_aload_n 0 dX12_copy_100 rfl rfl (g3_getR0 (t := 82) dX12_copy_101 flX12_135 rfl (z3 rfl) (g3_iload_n 3 dX12_copy_104 rfl rfl (g3_iald dX12_copy_105 ar_82 (z3 rfl) o4 (g3_i2l dX12_copy_106 (g3_lcmp dX12_copy_107 (g3_if_le (tgt := 117) dX12_copy_108 rfl (t3_tr _) (fun c => ?_) (fun c => ?_))))))))))))
                    · have h1 := h; have h := h1.1 c
                      refine g3_iconst dX12_copy_117 (g3_istore (lv' := [(6, vI 0), (0, vR 44 0), (1, vI x1), (2, vI x2), (3, vI x3), (4, vI x4), (5, vI x5)]) dX12_copy_118 (z3 rfl) rfl (g3_sub [1, 2, 3, 4, 5, 6, 0] rfl h))
                    · have h1 := h; have h := h1.2 c
                      exact g3_aload_n 0 dX12_copy_111 rfl rfl (g3_iconst dX12_copy_112 (g3_cV1 dX12_copy_113 myX12_meets mlX12_226 (z3 rfl) ob_44 (z3 rfl) (z3 rfl) (c3_in rfl rfl (z3 rfl) (g3_aload_n 0 dX12_meets_0 rfl rfl (g3_iload_n 1 dX12_meets_1 rfl rfl (g3_put dX12_meets_2 fpX12_344 (Or.inl rfl) (z3 rfl) (z3 rfl) (g3_bipush dX12_meets_5 rfl (g3_iload_n 1 dX12_meets_7 rfl rfl (g3_isub dX12_meets_8 (g3_ireturn dX12_meets_9 rfl (g3_r1 (g3_ireturn dX12_copy_116 rfl h))))))))))))
          · have h1 := h; have h := h1.2 c
            exact g3_aload_n 0 dX12_copy_56 rfl rfl (g3_iconst dX12_copy_57 (g3_cV1 dX12_copy_58 myX12_meets mlX12_226 (z3 rfl) ob_44 (z3 rfl) (z3 rfl) (c3_in rfl rfl (z3 rfl) (g3_aload_n 0 dX12_meets_0 rfl rfl (g3_iload_n 1 dX12_meets_1 rfl rfl (g3_put dX12_meets_2 fpX12_344 (Or.inl rfl) (z3 rfl) (z3 rfl) (g3_bipush dX12_meets_5 rfl (g3_iload_n 1 dX12_meets_7 rfl rfl (g3_isub dX12_meets_8 (g3_ireturn dX12_meets_9 rfl (g3_r1 (g3_ireturn dX12_copy_61 rfl h))))))))))))
        · have h1 := h; have h := h1.2.2 c
          have o4 := h1.1
          exact g3_aload_n 0 dX12_copy_35 rfl rfl (g3_iconst dX12_copy_36 (g3_cV1 dX12_copy_37 myX12_meets mlX12_226 (z3 rfl) ob_44 (z3 rfl) (z3 rfl) (c3_in rfl rfl (z3 rfl) (g3_aload_n 0 dX12_meets_0 rfl rfl (g3_iload_n 1 dX12_meets_1 rfl rfl (g3_put dX12_meets_2 fpX12_344 (Or.inl rfl) (z3 rfl) (z3 rfl) (g3_bipush dX12_meets_5 rfl (g3_iload_n 1 dX12_meets_7 rfl rfl (g3_isub dX12_meets_8 (g3_ireturn dX12_meets_9 rfl (g3_r1 (g3_ireturn dX12_copy_40 rfl h))))))))))))
    · have h1 := h; have h := h1.2.2 c
      have o2 := h1.1
      exact g3_bipush dX12_copy_14 rfl (g3_ireturn dX12_copy_16 rfl h)
set_option maxRecDepth 20000 in
set_option maxHeartbeats 200000 in
theorem sX12_copy_120 {E : E3} {Q : Q3} {M : M3} {x1 : Int} {x2 : Int} {x3 : Int} {x4 : Int} {x5 : Int} {x6 : Int}
    (h : (-2147483648 ≤ x6 ∧ x6 ≤ 2147483647) ∧ ((-2147483648 ≤ x5 ∧ x5 ≤ 2147483647) ∧ ((x5 ≤ x6 → (G3 E YX12_copy Q 157 [(0, vR 44 0), (3, vI x3), (4, vI x4), (5, vI x5), (6, vI 0)] [] M)) ∧ (x6 < x5 → ((0 ≤ ((40 * x1) + x2) + x6 ∧ ((40 * x1) + x2) + x6 < 160) ∧ ((0 ≤ x6 ∧ x6 < 40) ∧ (G3 E YX12_copy Q 120 [(0, vR 44 0), (1, vI x1), (2, vI x2), (3, vI x3), (4, vI x4), (5, vI x5), (6, vI (x6 + 1))] [] (up3 M 84 0 x6 (M 83 0 (((40 * x1) + x2) + x6)))))))))) :
    G3 E YX12_copy Q 120 [(0, vR 44 0), (1, vI x1), (2, vI x2), (3, vI x3), (4, vI x4), (5, vI x5), (6, vI x6)] [] M := by
  refine g3_rm fun hM => ?_
  refine g3_iload 6 dX12_copy_120 rfl (g3_iload 5 dX12_copy_122 rfl (g3_icmp_ge (tgt := 154) dX12_copy_124 rfl h.1 h.2.1 (fun c => ?_) (fun c => ?_)))
  · have h1 := h; have h := h1.2.2.1 c
    have o1 := h1.1
    have o2 := h1.2.1
    refine g3_iconst dX12_copy_154 (g3_istore (lv' := [(6, vI 0), (0, vR 44 0), (1, vI x1), (2, vI x2), (3, vI x3), (4, vI x4), (5, vI x5)]) dX12_copy_155 (z3 rfl) rfl (g3_sub [1, 4, 5, 6, 0] rfl h))
  · have h1 := h; have h := h1.2.2.2 c
    have o1 := h1.1
    have o2 := h1.2.1
    refine g3_aload_n 0 dX12_copy_127 rfl rfl (g3_getR0 (t := 84) dX12_copy_128 flX12_141 rfl (z3 rfl) (g3_iload 6 dX12_copy_131 rfl (g3_aload_n 0 dX12_copy_133 rfl rfl (g3_getR0 (t := 83) dX12_copy_134 flX12_138 rfl (z3 rfl) (g3_bipush dX12_copy_137 rfl (g3_iload_n 1 dX12_copy_139 rfl rfl (g3_imul dX12_copy_140 (g3_iload_n 2 dX12_copy_141 rfl rfl (g3_iadd dX12_copy_142 (g3_iload 6 dX12_copy_143 rfl (g3_iadd dX12_copy_145 (g3_iald dX12_copy_146 ar_83 (z3 rfl) h.1 (g3_iast dX12_copy_147 ar_84 (z3 rfl) h.2.1 (hM 83 0 (((40 * x1) + x2) + x6)) (g3_iinc (lv' := [(6, vI (x6 + 1)), (0, vR 44 0), (1, vI x1), (2, vI x2), (3, vI x3), (4, vI x4), (5, vI x5)]) 6 dX12_copy_148 rfl (z3 rfl) rfl (g3_goto (tgt := 120) dX12_copy_151 rfl (g3_sub [1, 2, 3, 4, 5, 6, 0] rfl h.2.2))))))))))))))))
set_option maxRecDepth 20000 in
set_option maxHeartbeats 200000 in
theorem sX12_copy_157 {E : E3} {Q : Q3} {M : M3} {x3 : Int} {x4 : Int} {x5 : Int} {x6 : Int}
    (h : (-2147483648 ≤ x6 ∧ x6 ≤ 2147483647) ∧ ((-2147483648 ≤ x5 ∧ x5 ≤ 2147483647) ∧ ((x5 ≤ x6 → (Q (some (vI 1)) M)) ∧ (x6 < x5 → ((0 ≤ x6 ∧ x6 < 40) ∧ ((0 ≤ ((40 * x3) + x4) + x6 ∧ ((40 * x3) + x4) + x6 < 160) ∧ (G3 E YX12_copy Q 157 [(0, vR 44 0), (3, vI x3), (4, vI x4), (5, vI x5), (6, vI (x6 + 1))] [] (up3 M 83 0 (((40 * x3) + x4) + x6) (M 84 0 x6))))))))) :
    G3 E YX12_copy Q 157 [(0, vR 44 0), (3, vI x3), (4, vI x4), (5, vI x5), (6, vI x6)] [] M := by
  refine g3_rm fun hM => ?_
  refine g3_iload 4 dX12_copy_157 rfl (g3_iload 3 dX12_copy_159 rfl (g3_icmp_ge (tgt := 192) dX12_copy_161 rfl h.1 h.2.1 (fun c => ?_) (fun c => ?_)))
  · have h1 := h; have h := h1.2.2.1 c
    have o1 := h1.1
    have o2 := h1.2.1
    exact g3_iconst dX12_copy_192 (g3_ireturn dX12_copy_193 rfl h)
  · have h1 := h; have h := h1.2.2.2 c
    have o1 := h1.1
    have o2 := h1.2.1
    refine g3_aload_n 0 dX12_copy_164 rfl rfl (g3_getR0 (t := 83) dX12_copy_165 flX12_138 rfl (z3 rfl) (g3_bipush dX12_copy_168 rfl (g3_iload_n 1 dX12_copy_170 rfl rfl (g3_imul dX12_copy_171 (g3_iload 2 dX12_copy_172 rfl (g3_iadd dX12_copy_174 (g3_iload 4 dX12_copy_175 rfl (g3_iadd dX12_copy_177 (g3_aload_n 0 dX12_copy_178 rfl rfl (g3_getR0 (t := 84) dX12_copy_179 flX12_141 rfl (z3 rfl) (g3_iload 4 dX12_copy_182 rfl (g3_iald dX12_copy_184 ar_84 (z3 rfl) h.1 (g3_iast dX12_copy_185 ar_83 (z3 rfl) h.2.1 (hM 84 0 x6) (g3_iinc (lv' := [(6, vI (x6 + 1)), (0, vR 44 0), (3, vI x3), (4, vI x4), (5, vI x5)]) 4 dX12_copy_186 rfl (z3 rfl) rfl (g3_goto (tgt := 157) dX12_copy_189 rfl (g3_sub [1, 2, 3, 4, 0] rfl h.2.2))))))))))))))))
set_option maxRecDepth 20000 in
set_option maxHeartbeats 200000 in
theorem sX12_sheet {E : E3} {Q : Q3} {M : M3} {x1 x2 x3 : Int}
    (h : ((-2147483648 ≤ x1 ∧ x1 ≤ 2147483647) ∧ (-2147483648 ≤ (0 : Int) ∧ (0 : Int) ≤ 2147483647) ∧ (-2147483648 ≤ (3 : Int) ∧ (3 : Int) ≤ 2147483647)) ∧ ((¬(0 ≤ x1 ∧ x1 ≤ 3) → (Q (some (vI (-2))) M)) ∧ ((0 ≤ x1 ∧ x1 ≤ 3) → (((-2147483648 ≤ x2 ∧ x2 ≤ 2147483647) ∧ (-2147483648 ≤ (0 : Int) ∧ (0 : Int) ≤ 2147483647) ∧ (-2147483648 ≤ (2 : Int) ∧ (2 : Int) ≤ 2147483647)) ∧ ((¬(0 ≤ x2 ∧ x2 ≤ 2) → (Q (some (vI (-2))) M)) ∧ ((0 ≤ x2 ∧ x2 ≤ 2) → ((-2147483648 ≤ x3 ∧ x3 ≤ 2147483647) ∧ ((x3 ≤ 40 → ((0 ≤ x3 → ((0 ≤ x1 ∧ x1 < 4) ∧ ((-2147483648 ≤ x2 ∧ x2 ≤ 2147483647) ∧ (G3 E YX12_sheet Q 59 [(0, vR 44 0), (1, vI x1), (3, vI x3), (4, vI 0)] [] (up3 (up3 (up3 M 80 0 x1 1) 81 0 x1 x2) 82 0 x1 x3))))) ∧ (x3 < 0 → (Q (some (vI ((-10) - 5))) (up3 M 44 0 58 5))))) ∧ (40 < x3 → (Q (some (vI (-2))) M)))))))))) :
    C3 E YX12_sheet [vR 44 0, vI x1, vI x2, vI x3] M Q := by
  refine c3_in rfl rfl (z3 rfl) (g3_rm fun hM => ?_)
  refine g3_iload_n 1 dX12_sheet_0 rfl rfl (g3_cS1 dX12_sheet_1 myX12_isSheet mlX12_223 (z3 rfl) (z3 rfl) (c3_in rfl rfl (z3 rfl) (g3_iload_n 0 dX12_isSheet_0 rfl rfl (g3_iconst dX12_isSheet_1 (g3_iconst dX12_isSheet_2 (g3_cS3 dX12_isSheet_3 myX12_in mlX12_144 (z3 rfl) (z3 rfl) (kX12_in h.1 (g3_r1 (g3_zreturn dX12_isSheet_6 rfl (bo3_01 _) (g3_r1 (g3_bool_eq (tgt := 22) dX12_sheet_4 rfl (fun c => ?_) (fun c => ?_))))))))))))
  · have h1 := h; have h := h1.2.1 c
    have o1 := h1.1
    exact g3_bipush dX12_sheet_22 rfl (g3_ireturn dX12_sheet_24 rfl h)
  · have h1 := h; have h := h1.2.2 c
    have o1 := h1.1
    refine g3_iload_n 2 dX12_sheet_7 rfl rfl (g3_iconst dX12_sheet_8 (g3_iconst dX12_sheet_9 (g3_cS3 dX12_sheet_10 myX12_in mlX12_144 (z3 rfl) (z3 rfl) (kX12_in h.1 (g3_r1 (g3_bool_eq (tgt := 22) dX12_sheet_13 rfl (fun c => ?_) (fun c => ?_)))))))
    · have h1 := h; have h := h1.2.1 c
      have o2 := h1.1
      exact g3_bipush dX12_sheet_22 rfl (g3_ireturn dX12_sheet_24 rfl h)
    · have h1 := h; have h := h1.2.2 c
      have o2 := h1.1
      refine g3_iload_n 3 dX12_sheet_16 rfl rfl (g3_bipush dX12_sheet_17 rfl (g3_icmp_le (tgt := 25) dX12_sheet_19 rfl h.1 (z3 rfl) (fun c => ?_) (fun c => ?_)))
      · have h1 := h; have h := h1.2.1 c
        have o3 := h1.1
        refine g3_iload_n 3 dX12_sheet_25 rfl rfl (g3_if_ge (tgt := 35) dX12_sheet_26 rfl o3 (fun c => ?_) (fun c => ?_))
        · have h1 := h; have h := h1.1 c
          refine g3_aload_n 0 dX12_sheet_35 rfl rfl (g3_getR0 (t := 80) dX12_sheet_36 flX12_129 rfl (z3 rfl) (g3_iload_n 1 dX12_sheet_39 rfl rfl (g3_iconst dX12_sheet_40 (g3_zast dX12_sheet_41 ar_80 (z3 rfl) h.1 (Or.inr rfl) (g3_aload_n 0 dX12_sheet_42 rfl rfl (g3_getR0 (t := 81) dX12_sheet_43 flX12_132 rfl (z3 rfl) (g3_iload_n 1 dX12_sheet_46 rfl rfl (g3_iload_n 2 dX12_sheet_47 rfl rfl (g3_iast dX12_sheet_48 ar_81 (z3 rfl) h.1 h.2.1 (g3_aload_n 0 dX12_sheet_49 rfl rfl (g3_getR0 (t := 82) dX12_sheet_50 flX12_135 rfl (z3 rfl) (g3_iload_n 1 dX12_sheet_53 rfl rfl (g3_iload_n 3 dX12_sheet_54 rfl rfl (g3_iast dX12_sheet_55 ar_82 (z3 rfl) h.1 o3 (g3_iconst dX12_sheet_56 (g3_istore (lv' := [(4, vI 0), (0, vR 44 0), (1, vI x1), (2, vI x2), (3, vI x3)]) dX12_sheet_57 (z3 rfl) rfl (g3_sub [1, 2, 4, 0] rfl h.2.2)))))))))))))))))
        · have h1 := h; have h := h1.2 c
          exact g3_aload_n 0 dX12_sheet_29 rfl rfl (g3_iconst dX12_sheet_30 (g3_cV1 dX12_sheet_31 myX12_meets mlX12_226 (z3 rfl) ob_44 (z3 rfl) (z3 rfl) (c3_in rfl rfl (z3 rfl) (g3_aload_n 0 dX12_meets_0 rfl rfl (g3_iload_n 1 dX12_meets_1 rfl rfl (g3_put dX12_meets_2 fpX12_344 (Or.inl rfl) (z3 rfl) (z3 rfl) (g3_bipush dX12_meets_5 rfl (g3_iload_n 1 dX12_meets_7 rfl rfl (g3_isub dX12_meets_8 (g3_ireturn dX12_meets_9 rfl (g3_r1 (g3_ireturn dX12_sheet_34 rfl h))))))))))))
      · have h1 := h; have h := h1.2.2 c
        have o3 := h1.1
        exact g3_bipush dX12_sheet_22 rfl (g3_ireturn dX12_sheet_24 rfl h)
set_option maxRecDepth 20000 in
set_option maxHeartbeats 200000 in
theorem sX12_sheet_59 {E : E3} {Q : Q3} {M : M3} {x1 : Int} {x3 : Int} {x4 : Int}
    (h : (-2147483648 ≤ x4 ∧ x4 ≤ 2147483647) ∧ ((40 ≤ x4 → (Q (some (vI x3)) M)) ∧ (x4 < 40 → ((0 ≤ (40 * x1) + x4 ∧ (40 * x1) + x4 < 160) ∧ (G3 E YX12_sheet Q 59 [(0, vR 44 0), (1, vI x1), (3, vI x3), (4, vI (x4 + 1))] [] (up3 M 83 0 ((40 * x1) + x4) 0)))))) :
    G3 E YX12_sheet Q 59 [(0, vR 44 0), (1, vI x1), (3, vI x3), (4, vI x4)] [] M := by
  refine g3_rm fun hM => ?_
  refine g3_iload 3 dX12_sheet_59 rfl (g3_bipush dX12_sheet_61 rfl (g3_icmp_ge (tgt := 85) dX12_sheet_63 rfl h.1 (z3 rfl) (fun c => ?_) (fun c => ?_)))
  · have h1 := h; have h := h1.2.1 c
    have o1 := h1.1
    exact g3_iload_n 2 dX12_sheet_85 rfl rfl (g3_ireturn dX12_sheet_86 rfl h)
  · have h1 := h; have h := h1.2.2 c
    have o1 := h1.1
    refine g3_aload_n 0 dX12_sheet_66 rfl rfl (g3_getR0 (t := 83) dX12_sheet_67 flX12_138 rfl (z3 rfl) (g3_bipush dX12_sheet_70 rfl (g3_iload_n 1 dX12_sheet_72 rfl rfl (g3_imul dX12_sheet_73 (g3_iload 3 dX12_sheet_74 rfl (g3_iadd dX12_sheet_76 (g3_iconst dX12_sheet_77 (g3_iast dX12_sheet_78 ar_83 (z3 rfl) h.1 (z3 rfl) (g3_iinc (lv' := [(4, vI (x4 + 1)), (0, vR 44 0), (1, vI x1), (3, vI x3)]) 3 dX12_sheet_79 rfl (z3 rfl) rfl (g3_goto (tgt := 59) dX12_sheet_82 rfl (g3_sub [1, 2, 3, 0] rfl h.2)))))))))))
