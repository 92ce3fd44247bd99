set_option maxRecDepth 20000 in
set_option maxHeartbeats 200000 in
theorem sX10_bestWithin {E : E3} {Q : Q3} {M : M3} {x1 : Int}
    (h : (LwC M ∧ IB M) ∧ (∀ (N1 : M3), RM3 N1 → (∀ q : Nat, q ∉ ([3, 8, 9, 28] : List Nat) → N1 q = M q) → (∀ j : Int, j ∉ ([10] : List Int) → N1 3 0 j = M 3 0 j) → (poFs M N1) → ((LwC N1 ∧ 0 ≤ (M 2 0 0) ∧ (M 2 0 0) ≤ 399) ∧ (∀ (N2 : M3), RM3 N2 → Ec N1 N2 → (LwC N2) → ((-2147483648 ≤ sRm (LL3 N1) (M 2 0 0) ∧ sRm (LL3 N1) (M 2 0 0) ≤ 2147483647) ∧ ((preGt (up3 N2 31 0 9 (sRm (LL3 N1) (M 2 0 0)))) ∧ (∀ (N3 : M3), RM3 N3 → (∀ q : Nat, q ∉ ([3, 8, 9, 31, 35] : List Nat) → N3 q = (up3 N2 31 0 9 (sRm (LL3 N1) (M 2 0 0))) q) → (∀ j : Int, j ∉ ([10, 11] : List Int) → N3 31 0 j = (up3 N2 31 0 9 (sRm (LL3 N1) (M 2 0 0))) 31 0 j) → (poGt (up3 N2 31 0 9 (sRm (LL3 N1) (M 2 0 0))) 0 N3) → (G3 E YX10_bestWithin Q 46 [(0, vR 31 0), (1, vI x1), (2, vI 0), (3, vI (N3 31 0 10)), (4, vI (N3 31 0 11)), (5, vI 1)] [] N3)))))))) :
    C3 E YX10_bestWithin [vR 31 0, vI x1] M Q := by
  refine c3_in rfl rfl (z3 rfl) (g3_rm fun hM => ?_)
  refine g3_aload_n 0 dX10_bestWithin_0 rfl rfl (g3_getR0 (t := 26) dX10_bestWithin_1 flX10_37 rfl (z3 rfl) (g3_cV0 dX10_bestWithin_4 myX5_foresee mlX10_49 (z3 rfl) ob_26 (z3 rfl) (z3 rfl) (kX5_foresee h.1 (fun N1 hN1 hf1 hs1 hp1 => ?_))))
  have o1 := h.1
  have h := h.2 N1 hN1 hf1 hs1 hp1
  refine g3_r0 ?_
  refine g3_aload_n 0 dX10_bestWithin_7 rfl rfl (g3_aload_n 0 dX10_bestWithin_8 rfl rfl (g3_getR0 (t := 3) dX10_bestWithin_9 flX10_25 rfl (z3 rfl) (g3_aload_n 0 dX10_bestWithin_12 rfl rfl (g3_getR0 (t := 2) dX10_bestWithin_13 flX10_33 rfl (z3 rfl) (g3_getI (t := 0) dX10_bestWithin_16 flX10_54 (z3 rfl) (z3 rfl) (g3_val (cg3 (hf1 2 (by decide)) _ _) (g3_cV1 dX10_bestWithin_19 myX4_rightAnswers mlX10_59 (z3 rfl) ob_3 (z3 rfl) (z3 rfl) (eX4_rightAnswers Ec.rf h.1 (fun N2 hN2 he2 hp2 => ?_)))))))))
  have o2 := h.1
  have h := h.2 N2 hN2 he2 hp2
  refine g3_r1 ?_
  refine g3_put dX10_bestWithin_22 fpX10_64 (Or.inl rfl) (z3 rfl) h.1 (g3_aload_n 0 dX10_bestWithin_25 rfl rfl (g3_iconst dX10_bestWithin_26 (g3_cV1 dX10_bestWithin_27 myX10_goThrough mlX10_66 (z3 rfl) ob_31 (z3 rfl) (z3 rfl) (kX10_goThrough h.2.1 (fun N3 hN3 hf3 hs3 hp3 => ?_)))))
  have o3 := h.1
  have o4 := h.2.1
  have h := h.2.2 N3 hN3 hf3 hs3 hp3
  refine g3_r0 ?_
  refine g3_iconst dX10_bestWithin_30 (g3_istore_n (lv' := [(2, vI 0), (0, vR 31 0), (1, vI x1)]) dX10_bestWithin_31 rfl (z3 rfl) rfl (g3_aload_n 1 dX10_bestWithin_32 rfl rfl (g3_getI (t := 0) dX10_bestWithin_33 flX10_70 (z3 rfl) (z3 rfl) (g3_istore_n (lv' := [(3, vI (N3 31 0 10)), (2, vI 0), (0, vR 31 0), (1, vI x1)]) dX10_bestWithin_36 rfl (z3 rfl) rfl (g3_aload_n 2 dX10_bestWithin_37 rfl rfl (g3_getI (t := 0) dX10_bestWithin_38 flX10_73 (z3 rfl) (z3 rfl) (g3_istore (lv' := [(4, vI (N3 31 0 11)), (3, vI (N3 31 0 10)), (2, vI 0), (0, vR 31 0), (1, vI x1)]) dX10_bestWithin_41 (z3 rfl) rfl (g3_iconst dX10_bestWithin_43 (g3_istore (lv' := [(5, vI 1), (4, vI (N3 31 0 11)), (3, vI (N3 31 0 10)), (2, vI 0), (0, vR 31 0), (1, vI x1)]) dX10_bestWithin_44 (z3 rfl) rfl (g3_sub [4, 5, 3, 2, 1, 0] rfl h))))))))))
set_option maxRecDepth 20000 in
set_option maxHeartbeats 200000 in
theorem sX10_bestWithin_46 {E : E3} {Q : Q3} {M : M3} {x1 : Int} {x2 : Int} {x3 : Int} {x4 : Int} {x5 : Int}
    (h : (-2147483648 ≤ x5 ∧ x5 ≤ 2147483647) ∧ ((-2147483648 ≤ (shl3 1 (M 31 0 0)) - 1 ∧ (shl3 1 (M 31 0 0)) - 1 ≤ 2147483647) ∧ (((shl3 1 (M 31 0 0)) - 1 < x5 → (Q (some (vI x2)) M)) ∧ (x5 ≤ (shl3 1 (M 31 0 0)) - 1 → ((iSum M) ∧ ((-2147483648 ≤ jPr M x5 ∧ jPr M x5 ≤ 2147483647) ∧ ((-2147483648 ≤ x1 ∧ x1 ≤ 2147483647) ∧ ((jPr M x5 ≤ x1 → ((preGt M) ∧ (∀ (N1 : M3), RM3 N1 → (∀ q : Nat, q ∉ ([3, 8, 9, 31, 35] : List Nat) → N1 q = M q) → (∀ j : Int, j ∉ ([10, 11] : List Int) → N1 31 0 j = M 31 0 j) → (poGt M x5 N1) → ((-2147483648 ≤ x3 ∧ x3 ≤ 2147483647) ∧ ((x3 < N1 31 0 10 → (G3 E YX10_bestWithin Q 46 [(0, vR 31 0), (1, vI x1), (2, vI x5), (3, vI (N1 31 0 10)), (4, vI (N1 31 0 11)), (5, vI (x5 + 1))] [] N1)) ∧ (N1 31 0 10 ≤ x3 → ((N1 31 0 10 ≠ x3 → (G3 E YX10_bestWithin Q 46 [(0, vR 31 0), (1, vI x1), (2, vI x2), (3, vI x3), (4, vI x4), (5, vI (x5 + 1))] [] N1)) ∧ (N1 31 0 10 = x3 → ((-2147483648 ≤ x4 ∧ x4 ≤ 2147483647) ∧ ((x4 < N1 31 0 11 → (G3 E YX10_bestWithin Q 46 [(0, vR 31 0), (1, vI x1), (2, vI x5), (3, vI (N1 31 0 10)), (4, vI (N1 31 0 11)), (5, vI (x5 + 1))] [] N1)) ∧ (N1 31 0 11 ≤ x4 → ((N1 31 0 11 ≠ x4 → (G3 E YX10_bestWithin Q 46 [(0, vR 31 0), (1, vI x1), (2, vI x2), (3, vI x3), (4, vI x4), (5, vI (x5 + 1))] [] N1)) ∧ (N1 31 0 11 = x4 → ((iSum N1) ∧ ((-2147483648 ≤ (jPr N1 x2) - (jPr N1 x5) ∧ (jPr N1 x2) - (jPr N1 x5) ≤ 2147483647) ∧ ((0 < (jPr N1 x2) - (jPr N1 x5) → (G3 E YX10_bestWithin Q 46 [(0, vR 31 0), (1, vI x1), (2, vI x5), (3, vI (N1 31 0 10)), (4, vI (N1 31 0 11)), (5, vI (x5 + 1))] [] N1)) ∧ ((jPr N1 x2) - (jPr N1 x5) ≤ 0 → (((jPr N1 x2) - (jPr N1 x5) ≠ 0 → (G3 E YX10_bestWithin Q 46 [(0, vR 31 0), (1, vI x1), (2, vI x2), (3, vI x3), (4, vI x4), (5, vI (x5 + 1))] [] N1)) ∧ ((jPr N1 x2) - (jPr N1 x5) = 0 → ((0 ≤ x5 ∧ x5 ≤ 255) ∧ ((0 ≤ x2 ∧ x2 ≤ 255) ∧ ((-2147483648 ≤ ones3 x5 ∧ ones3 x5 ≤ 2147483647) ∧ ((-2147483648 ≤ ones3 x2 ∧ ones3 x2 ≤ 2147483647) ∧ ((ones3 x2 ≤ ones3 x5 → (G3 E YX10_bestWithin Q 46 [(0, vR 31 0), (1, vI x1), (2, vI x2), (3, vI x3), (4, vI x4), (5, vI (x5 + 1))] [] N1)) ∧ (ones3 x5 < ones3 x2 → (G3 E YX10_bestWithin Q 46 [(0, vR 31 0), (1, vI x1), (2, vI x5), (3, vI (N1 31 0 10)), (4, vI (N1 31 0 11)), (5, vI (x5 + 1))] [] N1)))))))))))))))))))))))))) ∧ (x1 < jPr M x5 → (G3 E YX10_bestWithin Q 46 [(0, vR 31 0), (1, vI x1), (2, vI x2), (3, vI x3), (4, vI x4), (5, vI (x5 + 1))] [] M)))))))))) :
    G3 E YX10_bestWithin Q 46 [(0, vR 31 0), (1, vI x1), (2, vI x2), (3, vI x3), (4, vI x4), (5, vI x5)] [] M := by
  refine g3_rm fun hM => ?_
  refine g3_iload 5 dX10_bestWithin_46 rfl (g3_aload_n 0 dX10_bestWithin_48 rfl rfl (g3_cV0 dX10_bestWithin_49 myX10_allBits mlX10_76 (z3 rfl) ob_31 (z3 rfl) (z3 rfl) (c3_in rfl rfl (z3 rfl) (g3_iconst dX10_allBits_0 (g3_aload_n 0 dX10_allBits_1 rfl rfl (g3_getI (t := 0) dX10_allBits_2 flX10_41 (z3 rfl) (z3 rfl) (g3_ishl dX10_allBits_5 (g3_iconst dX10_allBits_6 (g3_isub dX10_allBits_7 (g3_ireturn dX10_allBits_8 rfl (g3_r1 (g3_icmp_gt (tgt := 138) dX10_bestWithin_52 rfl h.1 h.2.1 (fun c => ?_) (fun c => ?_)))))))))))))
  · have h1 := h; have h := h1.2.2.1 c
    have o1 := h1.1
    have o2 := h1.2.1
    exact g3_iload_n 2 dX10_bestWithin_138 rfl rfl (g3_ireturn dX10_bestWithin_139 rfl h)
  · have h1 := h; have h := h1.2.2.2 c
    have o1 := h1.1
    have o2 := h1.2.1
    refine g3_aload_n 0 dX10_bestWithin_55 rfl rfl (g3_iload 5 dX10_bestWithin_56 rfl (g3_cV1 dX10_bestWithin_58 myX10_priceOf mlX10_45 (z3 rfl) ob_31 (z3 rfl) (z3 rfl) (kX10_priceOf h.1 (g3_r1 (g3_iload_n 1 dX10_bestWithin_61 rfl rfl (g3_icmp_le (tgt := 68) dX10_bestWithin_62 rfl h.2.1 h.2.2.1 (fun c => ?_) (fun c => ?_)))))))
    · have h1 := h; have h := h1.2.2.2.1 c
      have o3 := h1.1
      have o4 := h1.2.1
      have o5 := h1.2.2.1
      refine g3_aload_n 0 dX10_bestWithin_68 rfl rfl (g3_iload 5 dX10_bestWithin_69 rfl (g3_cV1 dX10_bestWithin_71 myX10_goThrough mlX10_66 (z3 rfl) ob_31 (z3 rfl) (z3 rfl) (kX10_goThrough h.1 (fun N1 hN1 hf1 hs1 hp1 => ?_))))
      have o6 := h.1
      have h := h.2 N1 hN1 hf1 hs1 hp1
      refine g3_r0 ?_
      refine g3_aload_n 0 dX10_bestWithin_74 rfl rfl (g3_getI (t := 0) dX10_bestWithin_75 flX10_70 (z3 rfl) (z3 rfl) (g3_iload_n 3 dX10_bestWithin_78 rfl rfl (g3_icmp_gt (tgt := 118) dX10_bestWithin_79 rfl (hN1 31 0 10) h.1 (fun c => ?_) (fun c => ?_))))
      · have h1 := h; have h := h1.2.1 c
        have o7 := h1.1
        refine g3_iload 5 dX10_bestWithin_118 rfl (g3_istore_n (lv' := [(2, vI x5), (0, vR 31 0), (1, vI x1), (3, vI x3), (4, vI x4), (5, vI x5)]) dX10_bestWithin_120 rfl (z3 rfl) rfl (g3_aload_n 1 dX10_bestWithin_121 rfl rfl (g3_getI (t := 0) dX10_bestWithin_122 flX10_70 (z3 rfl) (z3 rfl) (g3_istore_n (lv' := [(3, vI (N1 31 0 10)), (2, vI x5), (0, vR 31 0), (1, vI x1), (4, vI x4), (5, vI x5)]) dX10_bestWithin_125 rfl (z3 rfl) rfl (g3_aload_n 2 dX10_bestWithin_126 rfl rfl (g3_getI (t := 0) dX10_bestWithin_127 flX10_73 (z3 rfl) (z3 rfl) (g3_istore (lv' := [(4, vI (N1 31 0 11)), (3, vI (N1 31 0 10)), (2, vI x5), (0, vR 31 0), (1, vI x1), (5, vI x5)]) dX10_bestWithin_130 (z3 rfl) rfl (g3_iinc (lv' := [(5, vI (x5 + 1)), (4, vI (N1 31 0 11)), (3, vI (N1 31 0 10)), (2, vI x5), (0, vR 31 0), (1, vI x1)]) 5 dX10_bestWithin_132 rfl (z3 rfl) rfl (g3_goto (tgt := 46) dX10_bestWithin_135 rfl (g3_sub [4, 5, 3, 2, 1, 0] rfl h))))))))))
      · have h1 := h; have h := h1.2.2 c
        have o7 := h1.1
        refine g3_aload_n 0 dX10_bestWithin_82 rfl rfl (g3_getI (t := 0) dX10_bestWithin_83 flX10_70 (z3 rfl) (z3 rfl) (g3_iload_n 3 dX10_bestWithin_86 rfl rfl (g3_icmp_ne (tgt := 132) dX10_bestWithin_87 rfl (hN1 31 0 10) o7 (fun c => ?_) (fun c => ?_))))
        · have h1 := h; have h := h1.1 c
          refine g3_iinc (lv' := [(5, vI (x5 + 1)), (0, vR 31 0), (1, vI x1), (2, vI x2), (3, vI x3), (4, vI x4)]) 5 dX10_bestWithin_132 rfl (z3 rfl) rfl (g3_goto (tgt := 46) dX10_bestWithin_135 rfl (g3_sub [1, 2, 3, 4, 5, 0] rfl h))
        · have h1 := h; have h := h1.2 c
          refine g3_aload_n 0 dX10_bestWithin_90 rfl rfl (g3_getI (t := 0) dX10_bestWithin_91 flX10_73 (z3 rfl) (z3 rfl) (g3_iload 4 dX10_bestWithin_94 rfl (g3_icmp_gt (tgt := 118) dX10_bestWithin_96 rfl (hN1 31 0 11) h.1 (fun c => ?_) (fun c => ?_))))
          · have h1 := h; have h := h1.2.1 c
            have o8 := h1.1
            refine g3_iload 5 dX10_bestWithin_118 rfl (g3_istore_n (lv' := [(2, vI x5), (0, vR 31 0), (1, vI x1), (3, vI x3), (4, vI x4), (5, vI x5)]) dX10_bestWithin_120 rfl (z3 rfl) rfl (g3_aload_n 1 dX10_bestWithin_121 rfl rfl (g3_getI (t := 0) dX10_bestWithin_122 flX10_70 (z3 rfl) (z3 rfl) (g3_istore_n (lv' := [(3, vI (N1 31 0 10)), (2, vI x5), (0, vR 31 0), (1, vI x1), (4, vI x4), (5, vI x5)]) dX10_bestWithin_125 rfl (z3 rfl) rfl (g3_aload_n 2 dX10_bestWithin_126 rfl rfl (g3_getI (t := 0) dX10_bestWithin_127 flX10_73 (z3 rfl) (z3 rfl) (g3_istore (lv' := [(4, vI (N1 31 0 11)), (3, vI (N1 31 0 10)), (2, vI x5), (0, vR 31 0), (1, vI x1), (5, vI x5)]) dX10_bestWithin_130 (z3 rfl) rfl (g3_iinc (lv' := [(5, vI (x5 + 1)), (4, vI (N1 31 0 11)), (3, vI (N1 31 0 10)), (2, vI x5), (0, vR 31 0), (1, vI x1)]) 5 dX10_bestWithin_132 rfl (z3 rfl) rfl (g3_goto (tgt := 46) dX10_bestWithin_135 rfl (g3_sub [4, 5, 3, 2, 1, 0] rfl h))))))))))
          · have h1 := h; have h := h1.2.2 c
            have o8 := h1.1
            refine g3_aload_n 0 dX10_bestWithin_99 rfl rfl (g3_getI (t := 0) dX10_bestWithin_100 flX10_73 (z3 rfl) (z3 rfl) (g3_iload 4 dX10_bestWithin_103 rfl (g3_icmp_ne (tgt := 132) dX10_bestWithin_105 rfl (hN1 31 0 11) o8 (fun c => ?_) (fun c => ?_))))
            · have h1 := h; have h := h1.1 c
              refine g3_iinc (lv' := [(5, vI (x5 + 1)), (0, vR 31 0), (1, vI x1), (2, vI x2), (3, vI x3), (4, vI x4)]) 5 dX10_bestWithin_132 rfl (z3 rfl) rfl (g3_goto (tgt := 46) dX10_bestWithin_135 rfl (g3_sub [1, 2, 3, 4, 5, 0] rfl h))
            · have h1 := h; have h := h1.2 c
              refine g3_aload_n 0 dX10_bestWithin_108 rfl rfl (g3_iload 5 dX10_bestWithin_109 rfl (g3_iload_n 2 dX10_bestWithin_111 rfl rfl (g3_cV2 dX10_bestWithin_112 myX10_isCheaper mlX10_80 (z3 rfl) ob_31 (z3 rfl) (z3 rfl) (c3_in rfl rfl (z3 rfl) (g3_aload_n 0 dX10_isCheaper_0 rfl rfl (g3_iload_n 2 dX10_isCheaper_1 rfl rfl (g3_cV1 dX10_isCheaper_2 myX10_priceOf mlX10_45 (z3 rfl) ob_31 (z3 rfl) (z3 rfl) (kX10_priceOf h.1 (g3_r1 (g3_aload_n 0 dX10_isCheaper_5 rfl rfl (g3_iload_n 1 dX10_isCheaper_6 rfl rfl (g3_cV1 dX10_isCheaper_7 myX10_priceOf mlX10_45 (z3 rfl) ob_31 (z3 rfl) (z3 rfl) (kX10_priceOf h.1 (g3_r1 (g3_isub dX10_isCheaper_10 (g3_istore_n (lv' := [(3, vI ((jPr N1 x2) - (jPr N1 x5))), (0, vR 31 0), (1, vI x5), (2, vI x2)]) dX10_isCheaper_11 rfl (z3 rfl) rfl (g3_iload_n 0 dX10_isCheaper_12 rfl rfl (g3_if_gt (tgt := 31) dX10_isCheaper_13 rfl h.2.1 (fun c => ?_) (fun c => ?_)))))))))))))))))))
              · have h1 := h; have h := h1.2.2.1 c
                have o9 := h1.1
                have o10 := h1.2.1
                refine g3_iconst dX10_isCheaper_31 (g3_goto (tgt := 36) dX10_isCheaper_32 rfl (g3_zreturn dX10_isCheaper_36 rfl (Or.inr rfl) (g3_r1 (g3_if_eq_F (tgt := 132) dX10_bestWithin_115 rfl (z3 rfl) (g3_iload 5 dX10_bestWithin_118 rfl (g3_istore_n (lv' := [(2, vI x5), (0, vR 31 0), (1, vI x1), (3, vI x3), (4, vI x4), (5, vI x5)]) dX10_bestWithin_120 rfl (z3 rfl) rfl (g3_aload_n 1 dX10_bestWithin_121 rfl rfl (g3_getI (t := 0) dX10_bestWithin_122 flX10_70 (z3 rfl) (z3 rfl) (g3_istore_n (lv' := [(3, vI (N1 31 0 10)), (2, vI x5), (0, vR 31 0), (1, vI x1), (4, vI x4), (5, vI x5)]) dX10_bestWithin_125 rfl (z3 rfl) rfl (g3_aload_n 2 dX10_bestWithin_126 rfl rfl (g3_getI (t := 0) dX10_bestWithin_127 flX10_73 (z3 rfl) (z3 rfl) (g3_istore (lv' := [(4, vI (N1 31 0 11)), (3, vI (N1 31 0 10)), (2, vI x5), (0, vR 31 0), (1, vI x1), (5, vI x5)]) dX10_bestWithin_130 (z3 rfl) rfl (g3_iinc (lv' := [(5, vI (x5 + 1)), (4, vI (N1 31 0 11)), (3, vI (N1 31 0 10)), (2, vI x5), (0, vR 31 0), (1, vI x1)]) 5 dX10_bestWithin_132 rfl (z3 rfl) rfl (g3_goto (tgt := 46) dX10_bestWithin_135 rfl (g3_sub [4, 5, 3, 2, 1, 0] rfl h)))))))))))))))
              · have h1 := h; have h := h1.2.2.2 c
                have o9 := h1.1
                have o10 := h1.2.1
                refine g3_iload_n 0 dX10_isCheaper_16 rfl rfl (g3_if_ne (tgt := 35) dX10_isCheaper_17 rfl o10 (fun c => ?_) (fun c => ?_))
                · have h1 := h; have h := h1.1 c
                  refine g3_iconst dX10_isCheaper_35 (g3_zreturn dX10_isCheaper_36 rfl (Or.inl rfl) (g3_r1 (g3_if_eq_T (tgt := 132) dX10_bestWithin_115 rfl (z3 rfl) (g3_iinc (lv' := [(5, vI (x5 + 1)), (0, vR 31 0), (1, vI x1), (2, vI x2), (3, vI x3), (4, vI x4)]) 5 dX10_bestWithin_132 rfl (z3 rfl) rfl (g3_goto (tgt := 46) dX10_bestWithin_135 rfl (g3_sub [1, 2, 3, 4, 5, 0] rfl h))))))
                · have h1 := h; have h := h1.2 c
                  refine g3_iload_n 2 dX10_isCheaper_20 rfl rfl (g3_cS1 dX10_isCheaper_21 myJ6_bitCount_0f7a4 mlX10_84 (z3 rfl) (z3 rfl) (kJ6_bitCount_0f7a4 h.1 (g3_r1 (g3_iload_n 3 dX10_isCheaper_24 rfl rfl (g3_cS1 dX10_isCheaper_25 myJ6_bitCount_0f7a4 mlX10_84 (z3 rfl) (z3 rfl) (kJ6_bitCount_0f7a4 h.2.1 (g3_r1 (g3_icmp_ge (tgt := 35) dX10_isCheaper_28 rfl h.2.2.1 h.2.2.2.1 (fun c => ?_) (fun c => ?_)))))))))
                  · have h1 := h; have h := h1.2.2.2.2.1 c
                    have o11 := h1.1
                    have o12 := h1.2.1
                    have o13 := h1.2.2.1
                    have o14 := h1.2.2.2.1
                    refine g3_iconst dX10_isCheaper_35 (g3_zreturn dX10_isCheaper_36 rfl (Or.inl rfl) (g3_r1 (g3_if_eq_T (tgt := 132) dX10_bestWithin_115 rfl (z3 rfl) (g3_iinc (lv' := [(5, vI (x5 + 1)), (0, vR 31 0), (1, vI x1), (2, vI x2), (3, vI x3), (4, vI x4)]) 5 dX10_bestWithin_132 rfl (z3 rfl) rfl (g3_goto (tgt := 46) dX10_bestWithin_135 rfl (g3_sub [1, 2, 3, 4, 5, 0] rfl h))))))
                  · have h1 := h; have h := h1.2.2.2.2.2 c
                    have o11 := h1.1
                    have o12 := h1.2.1
                    have o13 := h1.2.2.1
                    have o14 := h1.2.2.2.1
                    refine g3_iconst dX10_isCheaper_31 (g3_goto (tgt := 36) dX10_isCheaper_32 rfl (g3_zreturn dX10_isCheaper_36 rfl (Or.inr rfl) (g3_r1 (g3_if_eq_F (tgt := 132) dX10_bestWithin_115 rfl (z3 rfl) (g3_iload 5 dX10_bestWithin_118 rfl (g3_istore_n (lv' := [(2, vI x5), (0, vR 31 0), (1, vI x1), (3, vI x3), (4, vI x4), (5, vI x5)]) dX10_bestWithin_120 rfl (z3 rfl) rfl (g3_aload_n 1 dX10_bestWithin_121 rfl rfl (g3_getI (t := 0) dX10_bestWithin_122 flX10_70 (z3 rfl) (z3 rfl) (g3_istore_n (lv' := [(3, vI (N1 31 0 10)), (2, vI x5), (0, vR 31 0), (1, vI x1), (4, vI x4), (5, vI x5)]) dX10_bestWithin_125 rfl (z3 rfl) rfl (g3_aload_n 2 dX10_bestWithin_126 rfl rfl (g3_getI (t := 0) dX10_bestWithin_127 flX10_73 (z3 rfl) (z3 rfl) (g3_istore (lv' := [(4, vI (N1 31 0 11)), (3, vI (N1 31 0 10)), (2, vI x5), (0, vR 31 0), (1, vI x1), (5, vI x5)]) dX10_bestWithin_130 (z3 rfl) rfl (g3_iinc (lv' := [(5, vI (x5 + 1)), (4, vI (N1 31 0 11)), (3, vI (N1 31 0 10)), (2, vI x5), (0, vR 31 0), (1, vI x1)]) 5 dX10_bestWithin_132 rfl (z3 rfl) rfl (g3_goto (tgt := 46) dX10_bestWithin_135 rfl (g3_sub [4, 5, 3, 2, 1, 0] rfl h)))))))))))))))
    · have h1 := h; have h := h1.2.2.2.2 c
      have o3 := h1.1
      have o4 := h1.2.1
      have o5 := h1.2.2.1
      refine g3_goto (tgt := 132) dX10_bestWithin_65 rfl (g3_iinc (lv' := [(5, vI (x5 + 1)), (0, vR 31 0), (1, vI x1), (2, vI x2), (3, vI x3), (4, vI x4)]) 5 dX10_bestWithin_132 rfl (z3 rfl) rfl (g3_goto (tgt := 46) dX10_bestWithin_135 rfl (g3_sub [1, 2, 3, 4, 5, 0] rfl h)))
set_option maxRecDepth 20000 in
set_option maxHeartbeats 200000 in
theorem sX10_outcome {E : E3} {Q : Q3} {M : M3} {x1 x2 : Int}
    (h : (-2147483648 ≤ x2 ∧ x2 ≤ 2147483647) ∧ ((x2 ≠ 2 → ((LwC M ∧ IB M) ∧ (∀ (N1 : M3), RM3 N1 → (∀ q : Nat, q ∉ ([3, 8, 9, 28] : List Nat) → N1 q = M q) → (∀ j : Int, j ∉ ([10] : List Int) → N1 3 0 j = M 3 0 j) → (poFs M N1) → ((LwC N1 ∧ 0 ≤ (M 2 0 0) ∧ (M 2 0 0) ≤ 399) ∧ (∀ (N2 : M3), RM3 N2 → Ec N1 N2 → (LwC N2) → ((-2147483648 ≤ sRm (LL3 N1) (M 2 0 0) ∧ sRm (LL3 N1) (M 2 0 0) ≤ 2147483647) ∧ ((preGt (up3 N2 31 0 9 (sRm (LL3 N1) (M 2 0 0)))) ∧ (∀ (N3 : M3), RM3 N3 → (∀ q : Nat, q ∉ ([3, 8, 9, 31, 35] : List Nat) → N3 q = (up3 N2 31 0 9 (sRm (LL3 N1) (M 2 0 0))) q) → (∀ j : Int, j ∉ ([10, 11] : List Int) → N3 31 0 j = (up3 N2 31 0 9 (sRm (LL3 N1) (M 2 0 0))) 31 0 j) → (poGt (up3 N2 31 0 9 (sRm (LL3 N1) (M 2 0 0))) x1 N3) → ((x2 ≠ 0 → (Q (some (vI (N3 31 0 11))) N3)) ∧ (x2 = 0 → (Q (some (vI (N3 31 0 10))) N3))))))))))) ∧ (x2 = 2 → ((iSum M) ∧ (Q (some (vI (jPr M x1))) M))))) :
    C3 E YX10_outcome [vR 31 0, vI x1, vI x2] M Q := by
  refine c3_in rfl rfl (z3 rfl) (g3_rm fun hM => ?_)
  refine g3_iload_n 2 dX10_outcome_0 rfl rfl (g3_iconst dX10_outcome_1 (g3_icmp_ne (tgt := 11) dX10_outcome_2 rfl h.1 (z3 rfl) (fun c => ?_) (fun c => ?_)))
  · have h1 := h; have h := h1.2.1 c
    have o1 := h1.1
    refine g3_aload_n 0 dX10_outcome_11 rfl rfl (g3_getR0 (t := 26) dX10_outcome_12 flX10_37 rfl (z3 rfl) (g3_cV0 dX10_outcome_15 myX5_foresee mlX10_49 (z3 rfl) ob_26 (z3 rfl) (z3 rfl) (kX5_foresee h.1 (fun N1 hN1 hf1 hs1 hp1 => ?_))))
    have o2 := h.1
    have h := h.2 N1 hN1 hf1 hs1 hp1
    refine g3_r0 ?_
    refine g3_aload_n 0 dX10_outcome_18 rfl rfl (g3_aload_n 0 dX10_outcome_19 rfl rfl (g3_getR0 (t := 3) dX10_outcome_20 flX10_25 rfl (z3 rfl) (g3_aload_n 0 dX10_outcome_23 rfl rfl (g3_getR0 (t := 2) dX10_outcome_24 flX10_33 rfl (z3 rfl) (g3_getI (t := 0) dX10_outcome_27 flX10_54 (z3 rfl) (z3 rfl) (g3_val (cg3 (hf1 2 (by decide)) _ _) (g3_cV1 dX10_outcome_30 myX4_rightAnswers mlX10_59 (z3 rfl) ob_3 (z3 rfl) (z3 rfl) (eX4_rightAnswers Ec.rf h.1 (fun N2 hN2 he2 hp2 => ?_)))))))))
    have o3 := h.1
    have h := h.2 N2 hN2 he2 hp2
    refine g3_r1 ?_
    refine g3_put dX10_outcome_33 fpX10_64 (Or.inl rfl) (z3 rfl) h.1 (g3_aload_n 0 dX10_outcome_36 rfl rfl (g3_iload_n 1 dX10_outcome_37 rfl rfl (g3_cV1 dX10_outcome_38 myX10_goThrough mlX10_66 (z3 rfl) ob_31 (z3 rfl) (z3 rfl) (kX10_goThrough h.2.1 (fun N3 hN3 hf3 hs3 hp3 => ?_)))))
    have o4 := h.1
    have o5 := h.2.1
    have h := h.2.2 N3 hN3 hf3 hs3 hp3
    refine g3_r0 ?_
    refine g3_iload_n 2 dX10_outcome_41 rfl rfl (g3_if_ne (tgt := 52) dX10_outcome_42 rfl o1 (fun c => ?_) (fun c => ?_))
    · have h1 := h; have h := h1.1 c
      exact g3_aload_n 0 dX10_outcome_52 rfl rfl (g3_getI (t := 0) dX10_outcome_53 flX10_73 (z3 rfl) (z3 rfl) (g3_ireturn dX10_outcome_56 rfl h))
    · have h1 := h; have h := h1.2 c
      exact g3_aload_n 0 dX10_outcome_45 rfl rfl (g3_getI (t := 0) dX10_outcome_46 flX10_70 (z3 rfl) (z3 rfl) (g3_goto (tgt := 56) dX10_outcome_49 rfl (g3_ireturn dX10_outcome_56 rfl h)))
  · have h1 := h; have h := h1.2.2 c
    have o1 := h1.1
    exact g3_aload_n 0 dX10_outcome_5 rfl rfl (g3_iload_n 1 dX10_outcome_6 rfl rfl (g3_cV1 dX10_outcome_7 myX10_priceOf mlX10_45 (z3 rfl) ob_31 (z3 rfl) (z3 rfl) (kX10_priceOf h.1 (g3_r1 (g3_ireturn dX10_outcome_10 rfl h.2)))))
