set_option maxRecDepth 20000 in
set_option maxHeartbeats 200000 in
theorem sX12_figures {E : E3} {Q : Q3} {M : M3} {x1 x2 x3 : Int}
    (h : G3 E YX12_figures Q 9 [(0, vR 44 0), (1, vI x1), (2, vI x2), (3, vI x3), (4, vI (M 44 0 17)), (5, vI 0)] [] M) :
    C3 E YX12_figures [vR 44 0, vI x1, vI x2, vI x3] M Q := by
  refine c3_in rfl rfl (z3 rfl) (g3_rm fun hM => ?_)
  refine g3_aload_n 0 dX12_figures_0 rfl rfl (g3_getI (t := 0) dX12_figures_1 flX12_185 (z3 rfl) (z3 rfl) (g3_istore (lv' := [(4, vI (M 44 0 17)), (0, vR 44 0), (1, vI x1), (2, vI x2), (3, vI x3)]) dX12_figures_4 (z3 rfl) rfl (g3_iconst dX12_figures_6 (g3_istore (lv' := [(5, vI 0), (4, vI (M 44 0 17)), (0, vR 44 0), (1, vI x1), (2, vI x2), (3, vI x3)]) dX12_figures_7 (z3 rfl) rfl (g3_sub [2, 3, 4, 5, 1, 0] rfl h)))))
set_option maxRecDepth 20000 in
set_option maxHeartbeats 200000 in
theorem sX12_figures_9 {E : E3} {Q : Q3} {M : M3} {x1 : Int} {x2 : Int} {x3 : Int} {x4 : Int} {x5 : Int}
    (h : (M 44 0 12 ≠ (-1) → ((M 44 0 12 ≠ (-1) → (Q (some (vI x5)) M)) ∧ (M 44 0 12 = (-1) → ((-2147483648 ≤ x4 ∧ x4 ≤ 2147483647) ∧ ((M 44 0 17 = x4 → (Q (some (vI x5)) (up3 M 44 0 12 x4))) ∧ (M 44 0 17 ≠ x4 → (((-2147483648 ≤ x5 ∧ x5 ≤ 2147483647) ∧ (-2147483648 ≤ x2 ∧ x2 ≤ 2147483647) ∧ (-2147483648 ≤ x3 ∧ x3 ≤ 2147483647)) ∧ (((x2 ≤ x5 ∧ x5 ≤ x3) → (Q (some (vI x5)) M)) ∧ (¬(x2 ≤ x5 ∧ x5 ≤ x3) → (Q (some (vI x5)) (up3 M 44 0 12 x4))))))))))) ∧ (M 44 0 12 = (-1) → ((-2147483648 ≤ x4 + x1 ∧ x4 + x1 ≤ 2147483647) ∧ ((x4 + x1 ≤ M 44 0 17 → ((M 44 0 12 ≠ (-1) → (Q (some (vI x5)) M)) ∧ (M 44 0 12 = (-1) → ((-2147483648 ≤ x4 ∧ x4 ≤ 2147483647) ∧ ((M 44 0 17 = x4 → (Q (some (vI x5)) (up3 M 44 0 12 x4))) ∧ (M 44 0 17 ≠ x4 → (((-2147483648 ≤ x5 ∧ x5 ≤ 2147483647) ∧ (-2147483648 ≤ x2 ∧ x2 ≤ 2147483647) ∧ (-2147483648 ≤ x3 ∧ x3 ≤ 2147483647)) ∧ (((x2 ≤ x5 ∧ x5 ≤ x3) → (Q (some (vI x5)) M)) ∧ (¬(x2 ≤ x5 ∧ x5 ≤ x3) → (Q (some (vI x5)) (up3 M 44 0 12 x4))))))))))) ∧ (M 44 0 17 < x4 + x1 → ((pby3 M (M 44 0 17)) ∧ ((-2147483648 ≤ tm3 M (M 44 0 17) ∧ tm3 M (M 44 0 17) ≤ 2147483647) ∧ ((tm3 M (M 44 0 17) < 48 → ((M 44 0 12 ≠ (-1) → (Q (some (vI x5)) M)) ∧ (M 44 0 12 = (-1) → ((-2147483648 ≤ x4 ∧ x4 ≤ 2147483647) ∧ ((M 44 0 17 = x4 → (Q (some (vI x5)) (up3 M 44 0 12 x4))) ∧ (M 44 0 17 ≠ x4 → (((-2147483648 ≤ x5 ∧ x5 ≤ 2147483647) ∧ (-2147483648 ≤ x2 ∧ x2 ≤ 2147483647) ∧ (-2147483648 ≤ x3 ∧ x3 ≤ 2147483647)) ∧ (((x2 ≤ x5 ∧ x5 ≤ x3) → (Q (some (vI x5)) M)) ∧ (¬(x2 ≤ x5 ∧ x5 ≤ x3) → (Q (some (vI x5)) (up3 M 44 0 12 x4))))))))))) ∧ (48 ≤ tm3 M (M 44 0 17) → ((57 < tm3 M (M 44 0 17) → ((M 44 0 12 ≠ (-1) → (Q (some (vI x5)) M)) ∧ (M 44 0 12 = (-1) → ((-2147483648 ≤ x4 ∧ x4 ≤ 2147483647) ∧ ((M 44 0 17 = x4 → (Q (some (vI x5)) (up3 M 44 0 12 x4))) ∧ (M 44 0 17 ≠ x4 → (((-2147483648 ≤ x5 ∧ x5 ≤ 2147483647) ∧ (-2147483648 ≤ x2 ∧ x2 ≤ 2147483647) ∧ (-2147483648 ≤ x3 ∧ x3 ≤ 2147483647)) ∧ (((x2 ≤ x5 ∧ x5 ≤ x3) → (Q (some (vI x5)) M)) ∧ (¬(x2 ≤ x5 ∧ x5 ≤ x3) → (Q (some (vI x5)) (up3 M 44 0 12 x4))))))))))) ∧ (tm3 M (M 44 0 17) ≤ 57 → ((-2147483648 ≤ (M 44 0 17) + 1 ∧ (M 44 0 17) + 1 ≤ 2147483647) ∧ (G3 E YX12_figures Q 9 [(0, vR 44 0), (1, vI x1), (2, vI x2), (3, vI x3), (4, vI x4), (5, vI (((10 * x5) + (tm3 M (M 44 0 17))) - 48))] [] (up3 M 44 0 17 ((M 44 0 17) + 1))))))))))))))) :
    G3 E YX12_figures Q 9 [(0, vR 44 0), (1, vI x1), (2, vI x2), (3, vI x3), (4, vI x4), (5, vI x5)] [] M := by
  refine g3_rm fun hM => ?_
  refine g3_aload_n 0 dX12_figures_9 rfl rfl (g3_getI (t := 0) dX12_figures_10 flX12_188 (z3 rfl) (z3 rfl) (g3_iconst dX12_figures_13 (g3_icmp_ne (tgt := 86) dX12_figures_14 rfl (hM 44 0 12) (z3 rfl) (fun c => ?_) (fun c => ?_))))
  · have h1 := h; have h := h1.1 c
    refine g3_aload_n 0 dX12_figures_86 rfl rfl (g3_getI (t := 0) dX12_figures_87 flX12_188 (z3 rfl) (z3 rfl) (g3_iconst dX12_figures_90 (g3_icmp_ne (tgt := 119) dX12_figures_91 rfl (hM 44 0 12) (z3 rfl) (fun c => ?_) (fun c => ?_))))
    · have h1 := h; have h := h1.1 c
      exact g3_iload 5 dX12_figures_119 rfl (g3_ireturn dX12_figures_121 rfl h)
    · have h1 := h; have h := h1.2 c
      refine g3_aload_n 0 dX12_figures_94 rfl rfl (g3_getI (t := 0) dX12_figures_95 flX12_185 (z3 rfl) (z3 rfl) (g3_iload 4 dX12_figures_98 rfl (g3_icmp_eq (tgt := 113) dX12_figures_100 rfl (hM 44 0 17) h.1 (fun c => ?_) (fun c => ?_))))
      · have h1 := h; have h := h1.2.1 c
        have o1 := h1.1
        exact g3_aload_n 0 dX12_figures_113 rfl rfl (g3_iload 4 dX12_figures_114 rfl (g3_put dX12_figures_116 fpX12_188 (Or.inl rfl) (z3 rfl) o1 (g3_iload 5 dX12_figures_119 rfl (g3_ireturn dX12_figures_121 rfl h))))
      · have h1 := h; have h := h1.2.2 c
        have o1 := h1.1
        refine g3_iload 5 dX12_figures_103 rfl (g3_iload_n 2 dX12_figures_105 rfl rfl (g3_iload_n 3 dX12_figures_106 rfl rfl (g3_cS3 dX12_figures_107 myX12_in mlX12_144 (z3 rfl) (z3 rfl) (kX12_in h.1 (g3_r1 (g3_bool_ne (tgt := 119) dX12_figures_110 rfl (fun c => ?_) (fun c => ?_)))))))
        · have h1 := h; have h := h1.2.1 c
          have o2 := h1.1
          exact g3_iload 5 dX12_figures_119 rfl (g3_ireturn dX12_figures_121 rfl h)
        · have h1 := h; have h := h1.2.2 c
          have o2 := h1.1
          exact g3_aload_n 0 dX12_figures_113 rfl rfl (g3_iload 4 dX12_figures_114 rfl (g3_put dX12_figures_116 fpX12_188 (Or.inl rfl) (z3 rfl) o1 (g3_iload 5 dX12_figures_119 rfl (g3_ireturn dX12_figures_121 rfl h))))
  · have h1 := h; have h := h1.2 c
    refine g3_aload_n 0 dX12_figures_17 rfl rfl (g3_getI (t := 0) dX12_figures_18 flX12_185 (z3 rfl) (z3 rfl) (g3_iload 4 dX12_figures_21 rfl (g3_iload_n 1 dX12_figures_23 rfl rfl (g3_iadd dX12_figures_24 (g3_icmp_ge (tgt := 86) dX12_figures_25 rfl (hM 44 0 17) h.1 (fun c => ?_) (fun c => ?_))))))
    · have h1 := h; have h := h1.2.1 c
      have o3 := h1.1
      refine g3_aload_n 0 dX12_figures_86 rfl rfl (g3_getI (t := 0) dX12_figures_87 flX12_188 (z3 rfl) (z3 rfl) (g3_iconst dX12_figures_90 (g3_icmp_ne (tgt := 119) dX12_figures_91 rfl (hM 44 0 12) (z3 rfl) (fun c => ?_) (fun c => ?_))))
      · have h1 := h; have h := h1.1 c
        exact g3_iload 5 dX12_figures_119 rfl (g3_ireturn dX12_figures_121 rfl h)
      · have h1 := h; have h := h1.2 c
        refine g3_aload_n 0 dX12_figures_94 rfl rfl (g3_getI (t := 0) dX12_figures_95 flX12_185 (z3 rfl) (z3 rfl) (g3_iload 4 dX12_figures_98 rfl (g3_icmp_eq (tgt := 113) dX12_figures_100 rfl (hM 44 0 17) h.1 (fun c => ?_) (fun c => ?_))))
        · have h1 := h; have h := h1.2.1 c
          have o4 := h1.1
          exact g3_aload_n 0 dX12_figures_113 rfl rfl (g3_iload 4 dX12_figures_114 rfl (g3_put dX12_figures_116 fpX12_188 (Or.inl rfl) (z3 rfl) o4 (g3_iload 5 dX12_figures_119 rfl (g3_ireturn dX12_figures_121 rfl h))))
        · have h1 := h; have h := h1.2.2 c
          have o4 := h1.1
          refine g3_iload 5 dX12_figures_103 rfl (g3_iload_n 2 dX12_figures_105 rfl rfl (g3_iload_n 3 dX12_figures_106 rfl rfl (g3_cS3 dX12_figures_107 myX12_in mlX12_144 (z3 rfl) (z3 rfl) (kX12_in h.1 (g3_r1 (g3_bool_ne (tgt := 119) dX12_figures_110 rfl (fun c => ?_) (fun c => ?_)))))))
          · have h1 := h; have h := h1.2.1 c
            have o5 := h1.1
            exact g3_iload 5 dX12_figures_119 rfl (g3_ireturn dX12_figures_121 rfl h)
          · have h1 := h; have h := h1.2.2 c
            have o5 := h1.1
            exact g3_aload_n 0 dX12_figures_113 rfl rfl (g3_iload 4 dX12_figures_114 rfl (g3_put dX12_figures_116 fpX12_188 (Or.inl rfl) (z3 rfl) o4 (g3_iload 5 dX12_figures_119 rfl (g3_ireturn dX12_figures_121 rfl h))))
    · have h1 := h; have h := h1.2.2 c
      have o3 := h1.1
      refine g3_aload_n 0 dX12_figures_28 rfl rfl (g3_aload_n 0 dX12_figures_29 rfl rfl (g3_getI (t := 0) dX12_figures_30 flX12_185 (z3 rfl) (z3 rfl) (g3_cV1 dX12_figures_33 myX12_byteAt mlX12_191 (z3 rfl) ob_44 (z3 rfl) (z3 rfl) (kX12_byteAt h.1 (g3_r1 (g3_bipush dX12_figures_36 rfl (g3_icmp_lt (tgt := 86) dX12_figures_38 rfl h.2.1 (z3 rfl) (fun c => ?_) (fun c => ?_))))))))
      · have h1 := h; have h := h1.2.2.1 c
        have o6 := h1.1
        have o7 := h1.2.1
        refine g3_aload_n 0 dX12_figures_86 rfl rfl (g3_getI (t := 0) dX12_figures_87 flX12_188 (z3 rfl) (z3 rfl) (g3_iconst dX12_figures_90 (g3_icmp_ne (tgt := 119) dX12_figures_91 rfl (hM 44 0 12) (z3 rfl) (fun c => ?_) (fun c => ?_))))
        · have h1 := h; have h := h1.1 c
          exact g3_iload 5 dX12_figures_119 rfl (g3_ireturn dX12_figures_121 rfl h)
        · have h1 := h; have h := h1.2 c
          refine g3_aload_n 0 dX12_figures_94 rfl rfl (g3_getI (t := 0) dX12_figures_95 flX12_185 (z3 rfl) (z3 rfl) (g3_iload 4 dX12_figures_98 rfl (g3_icmp_eq (tgt := 113) dX12_figures_100 rfl (hM 44 0 17) h.1 (fun c => ?_) (fun c => ?_))))
          · have h1 := h; have h := h1.2.1 c
            have o8 := h1.1
            exact g3_aload_n 0 dX12_figures_113 rfl rfl (g3_iload 4 dX12_figures_114 rfl (g3_put dX12_figures_116 fpX12_188 (Or.inl rfl) (z3 rfl) o8 (g3_iload 5 dX12_figures_119 rfl (g3_ireturn dX12_figures_121 rfl h))))
          · have h1 := h; have h := h1.2.2 c
            have o8 := h1.1
            refine g3_iload 5 dX12_figures_103 rfl (g3_iload_n 2 dX12_figures_105 rfl rfl (g3_iload_n 3 dX12_figures_106 rfl rfl (g3_cS3 dX12_figures_107 myX12_in mlX12_144 (z3 rfl) (z3 rfl) (kX12_in h.1 (g3_r1 (g3_bool_ne (tgt := 119) dX12_figures_110 rfl (fun c => ?_) (fun c => ?_)))))))
            · have h1 := h; have h := h1.2.1 c
              have o9 := h1.1
              exact g3_iload 5 dX12_figures_119 rfl (g3_ireturn dX12_figures_121 rfl h)
            · have h1 := h; have h := h1.2.2 c
              have o9 := h1.1
              exact g3_aload_n 0 dX12_figures_113 rfl rfl (g3_iload 4 dX12_figures_114 rfl (g3_put dX12_figures_116 fpX12_188 (Or.inl rfl) (z3 rfl) o8 (g3_iload 5 dX12_figures_119 rfl (g3_ireturn dX12_figures_121 rfl h))))
      · have h1 := h; have h := h1.2.2.2 c
        have o6 := h1.1
        have o7 := h1.2.1
        refine g3_aload_n 0 dX12_figures_41 rfl rfl (g3_aload_n 0 dX12_figures_42 rfl rfl (g3_getI (t := 0) dX12_figures_43 flX12_185 (z3 rfl) (z3 rfl) (g3_cV1 dX12_figures_46 myX12_byteAt mlX12_191 (z3 rfl) ob_44 (z3 rfl) (z3 rfl) (kX12_byteAt o6 (g3_r1 (g3_bipush dX12_figures_49 rfl (g3_icmp_gt (tgt := 86) dX12_figures_51 rfl o7 (z3 rfl) (fun c => ?_) (fun c => ?_))))))))
        · have h1 := h; have h := h1.1 c
          refine g3_aload_n 0 dX12_figures_86 rfl rfl (g3_getI (t := 0) dX12_figures_87 flX12_188 (z3 rfl) (z3 rfl) (g3_iconst dX12_figures_90 (g3_icmp_ne (tgt := 119) dX12_figures_91 rfl (hM 44 0 12) (z3 rfl) (fun c => ?_) (fun c => ?_))))
          · have h1 := h; have h := h1.1 c
            exact g3_iload 5 dX12_figures_119 rfl (g3_ireturn dX12_figures_121 rfl h)
          · have h1 := h; have h := h1.2 c
            refine g3_aload_n 0 dX12_figures_94 rfl rfl (g3_getI (t := 0) dX12_figures_95 flX12_185 (z3 rfl) (z3 rfl) (g3_iload 4 dX12_figures_98 rfl (g3_icmp_eq (tgt := 113) dX12_figures_100 rfl (hM 44 0 17) h.1 (fun c => ?_) (fun c => ?_))))
            · have h1 := h; have h := h1.2.1 c
              have o10 := h1.1
              exact g3_aload_n 0 dX12_figures_113 rfl rfl (g3_iload 4 dX12_figures_114 rfl (g3_put dX12_figures_116 fpX12_188 (Or.inl rfl) (z3 rfl) o10 (g3_iload 5 dX12_figures_119 rfl (g3_ireturn dX12_figures_121 rfl h))))
            · have h1 := h; have h := h1.2.2 c
              have o10 := h1.1
              refine g3_iload 5 dX12_figures_103 rfl (g3_iload_n 2 dX12_figures_105 rfl rfl (g3_iload_n 3 dX12_figures_106 rfl rfl (g3_cS3 dX12_figures_107 myX12_in mlX12_144 (z3 rfl) (z3 rfl) (kX12_in h.1 (g3_r1 (g3_bool_ne (tgt := 119) dX12_figures_110 rfl (fun c => ?_) (fun c => ?_)))))))
              · have h1 := h; have h := h1.2.1 c
                have o11 := h1.1
                exact g3_iload 5 dX12_figures_119 rfl (g3_ireturn dX12_figures_121 rfl h)
              · have h1 := h; have h := h1.2.2 c
                have o11 := h1.1
                exact g3_aload_n 0 dX12_figures_113 rfl rfl (g3_iload 4 dX12_figures_114 rfl (g3_put dX12_figures_116 fpX12_188 (Or.inl rfl) (z3 rfl) o10 (g3_iload 5 dX12_figures_119 rfl (g3_ireturn dX12_figures_121 rfl h))))
        · have h1 := h; have h := h1.2 c
          refine g3_bipush dX12_figures_54 rfl (g3_iload 5 dX12_figures_56 rfl (g3_imul dX12_figures_58 (g3_aload_n 0 dX12_figures_59 rfl rfl (g3_aload_n 0 dX12_figures_60 rfl rfl (g3_getI (t := 0) dX12_figures_61 flX12_185 (z3 rfl) (z3 rfl) (g3_cV1 dX12_figures_64 myX12_byteAt mlX12_191 (z3 rfl) ob_44 (z3 rfl) (z3 rfl) (kX12_byteAt o6 (g3_r1 (g3_iadd dX12_figures_67 (g3_bipush dX12_figures_68 rfl (g3_isub dX12_figures_70 (g3_istore (lv' := [(5, vI (((10 * x5) + (tm3 M (M 44 0 17))) - 48)), (0, vR 44 0), (1, vI x1), (2, vI x2), (3, vI x3), (4, vI x4)]) dX12_figures_71 (z3 rfl) rfl (g3_aload_n 1 dX12_figures_73 rfl rfl (g3_dup dX12_figures_74 rfl (g3_getI (t := 0) dX12_figures_75 flX12_185 (z3 rfl) (z3 rfl) (g3_iconst dX12_figures_78 (g3_iadd dX12_figures_79 (g3_put dX12_figures_80 fpX12_185 (Or.inl rfl) (z3 rfl) h.1 (g3_goto (tgt := 9) dX12_figures_83 rfl (g3_sub [1, 2, 3, 4, 5, 0] rfl h.2))))))))))))))))))))
