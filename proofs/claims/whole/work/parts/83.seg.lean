set_option maxRecDepth 20000 in
set_option maxHeartbeats 200000 in
theorem sX12_judges {E : E3} {Q : Q3} {M : M3} {x1 : Int}
    (h : (RdC M ∧ 0 ≤ M 44 0 0 ∧ M 44 0 0 ≤ 399) ∧ (∀ (N1 : M3), RM3 N1 → Em M N1 → (RdC N1) → ((RdC N1 ∧ (0 ≤ (0 : Int) ∧ (0 : Int) < 4) ∧ 0 ≤ (M 44 0 0) ∧ (M 44 0 0) ≤ 399) ∧ (∀ (N2 : M3), RM3 N2 → Em N1 N2 → (RdC N2) → ((-2147483648 ≤ sRm (LM3 M) (M 44 0 0) ∧ sRm (LM3 M) (M 44 0 0) ≤ 2147483647) ∧ ((-2147483648 ≤ sSd (LM3 M) 20 (M 44 0 0) ∧ sSd (LM3 M) 20 (M 44 0 0) ≤ 2147483647) ∧ ((sRm (LM3 M) (M 44 0 0) < sSd (LM3 M) 20 (M 44 0 0) → ((RdC N2 ∧ (0 ≤ (2 : Int) ∧ (2 : Int) < 4) ∧ 0 ≤ (M 44 0 0) ∧ (M 44 0 0) ≤ 399) ∧ (∀ (N3 : M3), RM3 N3 → Em N2 N3 → (RdC N3) → (G3 E YX12_judges Q 50 [(0, vR 44 0), (1, vI x1), (2, vI 0), (3, vI (sSd (LM3 M) 22 (M 44 0 0))), (4, vI 0)] [] (up3 (up3 (up3 N3 44 0 50 0) 44 0 51 0) 44 0 52 0))))) ∧ (sSd (LM3 M) 20 (M 44 0 0) ≤ sRm (LM3 M) (M 44 0 0) → ((RdC N2 ∧ (0 ≤ (2 : Int) ∧ (2 : Int) < 4) ∧ 0 ≤ (M 44 0 0) ∧ (M 44 0 0) ≤ 399) ∧ (∀ (N3 : M3), RM3 N3 → Em N2 N3 → (RdC N3) → (G3 E YX12_judges Q 50 [(0, vR 44 0), (1, vI x1), (2, vI 1), (3, vI (sSd (LM3 M) 22 (M 44 0 0))), (4, vI 0)] [] (up3 (up3 (up3 N3 44 0 50 0) 44 0 51 0) 44 0 52 0)))))))))))) :
    C3 E YX12_judges [vR 44 0, vI x1] M Q := by
  refine c3_in rfl rfl (z3 rfl) (g3_rm fun hM => ?_)
  refine g3_aload_n 0 dX12_judges_0 rfl rfl (g3_cV0 dX12_judges_1 myX12_rightMany mlX12_318 (z3 rfl) ob_44 (z3 rfl) (z3 rfl) (eX12_rightMany Em.rf h.1 (fun N1 hN1 he1 hp1 => ?_)))
  have o1 := h.1
  have h := h.2 N1 hN1 he1 hp1
  refine g3_r1 ?_
  refine g3_aload_n 0 dX12_judges_4 rfl rfl (g3_iconst dX12_judges_5 (g3_aload_n 0 dX12_judges_6 rfl rfl (g3_getI (t := 0) dX12_judges_7 flX12_151 (z3 rfl) (z3 rfl) (g3_val (he1.2 0 (by decide)) (g3_cV2 dX12_judges_10 myX12_lawOf mlX12_216 (z3 rfl) ob_44 (z3 rfl) (z3 rfl) (eX12_lawOf (Em.tr Em.rf he1) h.1 (fun N2 hN2 he2 hp2 => ?_)))))))
  have o2 := h.1
  have h := h.2 N2 hN2 he2 hp2
  refine g3_r1 ?_
  refine g3_icmp_lt (tgt := 20) dX12_judges_13 rfl h.1 h.2.1 (fun c => ?_) (fun c => ?_)
  · have h1 := h; have h := h1.2.2.1 c
    have o3 := h1.1
    have o4 := h1.2.1
    refine g3_iconst dX12_judges_20 (g3_istore_n (lv' := [(2, vI 0), (0, vR 44 0), (1, vI x1)]) dX12_judges_21 rfl (z3 rfl) rfl (g3_aload_n 1 dX12_judges_22 rfl rfl (g3_iconst dX12_judges_23 (g3_aload_n 1 dX12_judges_24 rfl rfl (g3_getI (t := 0) dX12_judges_25 flX12_151 (z3 rfl) (z3 rfl) (g3_val ((he2.2 0 (by decide)).trans (he1.2 0 (by decide))) (g3_cV2 dX12_judges_28 myX12_lawOf mlX12_216 (z3 rfl) ob_44 (z3 rfl) (z3 rfl) (eX12_lawOf (Em.tr (Em.tr Em.rf he1) he2) h.1 (fun N3 hN3 he3 hp3 => ?_)))))))))
    have o5 := h.1
    have h := h.2 N3 hN3 he3 hp3
    refine g3_r1 ?_
    refine g3_istore_n (lv' := [(3, vI (sSd (LM3 M) 22 (M 44 0 0))), (2, vI 0), (0, vR 44 0), (1, vI x1)]) dX12_judges_31 rfl (z3 rfl) rfl (g3_aload_n 2 dX12_judges_32 rfl rfl (g3_iconst dX12_judges_33 (g3_put dX12_judges_34 fpX12_321 (Or.inl rfl) (z3 rfl) (z3 rfl) (g3_aload_n 2 dX12_judges_37 rfl rfl (g3_iconst dX12_judges_38 (g3_put dX12_judges_39 fpX12_324 (Or.inl rfl) (z3 rfl) (z3 rfl) (g3_aload_n 2 dX12_judges_42 rfl rfl (g3_iconst dX12_judges_43 (g3_put dX12_judges_44 fpX12_327 (Or.inl rfl) (z3 rfl) (z3 rfl) (g3_iconst dX12_judges_47 (g3_istore (lv' := [(4, vI 0), (3, vI (sSd (LM3 M) 22 (M 44 0 0))), (2, vI 0), (0, vR 44 0), (1, vI x1)]) dX12_judges_48 (z3 rfl) rfl (g3_sub [3, 4, 2, 1, 0] rfl h))))))))))))
  · have h1 := h; have h := h1.2.2.2 c
    have o3 := h1.1
    have o4 := h1.2.1
    refine g3_iconst dX12_judges_16 (g3_goto (tgt := 21) dX12_judges_17 rfl (g3_istore_n (lv' := [(2, vI 1), (0, vR 44 0), (1, vI x1)]) dX12_judges_21 rfl (z3 rfl) rfl (g3_aload_n 1 dX12_judges_22 rfl rfl (g3_iconst dX12_judges_23 (g3_aload_n 1 dX12_judges_24 rfl rfl (g3_getI (t := 0) dX12_judges_25 flX12_151 (z3 rfl) (z3 rfl) (g3_val ((he2.2 0 (by decide)).trans (he1.2 0 (by decide))) (g3_cV2 dX12_judges_28 myX12_lawOf mlX12_216 (z3 rfl) ob_44 (z3 rfl) (z3 rfl) (eX12_lawOf (Em.tr (Em.tr Em.rf he1) he2) h.1 (fun N3 hN3 he3 hp3 => ?_))))))))))
    have o6 := h.1
    have h := h.2 N3 hN3 he3 hp3
    refine g3_r1 ?_
    refine g3_istore_n (lv' := [(3, vI (sSd (LM3 M) 22 (M 44 0 0))), (2, vI 1), (0, vR 44 0), (1, vI x1)]) dX12_judges_31 rfl (z3 rfl) rfl (g3_aload_n 2 dX12_judges_32 rfl rfl (g3_iconst dX12_judges_33 (g3_put dX12_judges_34 fpX12_321 (Or.inl rfl) (z3 rfl) (z3 rfl) (g3_aload_n 2 dX12_judges_37 rfl rfl (g3_iconst dX12_judges_38 (g3_put dX12_judges_39 fpX12_324 (Or.inl rfl) (z3 rfl) (z3 rfl) (g3_aload_n 2 dX12_judges_42 rfl rfl (g3_iconst dX12_judges_43 (g3_put dX12_judges_44 fpX12_327 (Or.inl rfl) (z3 rfl) (z3 rfl) (g3_iconst dX12_judges_47 (g3_istore (lv' := [(4, vI 0), (3, vI (sSd (LM3 M) 22 (M 44 0 0))), (2, vI 1), (0, vR 44 0), (1, vI x1)]) dX12_judges_48 (z3 rfl) rfl (g3_sub [3, 4, 2, 1, 0] rfl h))))))))))))
set_option maxRecDepth 20000 in
set_option maxHeartbeats 200000 in
theorem sX12_judges_50 {E : E3} {Q : Q3} {M : M3} {x1 : Int} {x2 : Int} {x3 : Int} {x4 : Int}
    (h : (-2147483648 ≤ x4 ∧ x4 ≤ 2147483647) ∧ ((M 44 0 1 ≤ x4 → (G3 E YX12_judges Q 90 [(0, vR 44 0), (1, vI x1), (2, vI x2), (3, vI x3), (4, vI 0)] [] M)) ∧ (x4 < M 44 0 1 → ((0 ≤ x4 ∧ x4 < 48) ∧ (G3 E YX12_judges Q 50 [(0, vR 44 0), (1, vI x1), (2, vI x2), (3, vI x3), (4, vI (x4 + 1))] [] (up3 (up3 M 78 0 x4 (M 47 0 x4)) 79 0 x4 0)))))) :
    G3 E YX12_judges Q 50 [(0, vR 44 0), (1, vI x1), (2, vI x2), (3, vI x3), (4, vI x4)] [] M := by
  refine g3_rm fun hM => ?_
  refine g3_iload 4 dX12_judges_50 rfl (g3_aload_n 0 dX12_judges_52 rfl rfl (g3_getI (t := 0) dX12_judges_53 flX12_148 (z3 rfl) (z3 rfl) (g3_icmp_ge (tgt := 87) dX12_judges_56 rfl h.1 (hM 44 0 1) (fun c => ?_) (fun c => ?_))))
  · have h1 := h; have h := h1.2.1 c
    have o1 := h1.1
    refine g3_iconst dX12_judges_87 (g3_istore (lv' := [(4, vI 0), (0, vR 44 0), (1, vI x1), (2, vI x2), (3, vI x3)]) dX12_judges_88 (z3 rfl) rfl (g3_sub [1, 2, 3, 4, 0] rfl h))
  · have h1 := h; have h := h1.2.2 c
    have o1 := h1.1
    refine g3_aload_n 0 dX12_judges_59 rfl rfl (g3_getR0 (t := 78) dX12_judges_60 flX12_123 rfl (z3 rfl) (g3_iload 4 dX12_judges_63 rfl (g3_aload_n 0 dX12_judges_65 rfl rfl (g3_getR0 (t := 47) dX12_judges_66 flX12_16 rfl (z3 rfl) (g3_iload 4 dX12_judges_69 rfl (g3_iald dX12_judges_71 ar_47 (z3 rfl) h.1 (g3_iast dX12_judges_72 ar_78 (z3 rfl) h.1 (hM 47 0 x4) (g3_aload_n 0 dX12_judges_73 rfl rfl (g3_getR0 (t := 79) dX12_judges_74 flX12_126 rfl (z3 rfl) (g3_iload 4 dX12_judges_77 rfl (g3_iconst dX12_judges_79 (g3_zast dX12_judges_80 ar_79 (z3 rfl) h.1 (Or.inl rfl) (g3_iinc (lv' := [(4, vI (x4 + 1)), (0, vR 44 0), (1, vI x1), (2, vI x2), (3, vI x3)]) 4 dX12_judges_81 rfl (z3 rfl) rfl (g3_goto (tgt := 50) dX12_judges_84 rfl (g3_sub [1, 2, 3, 4, 0] rfl h.2)))))))))))))))
set_option maxRecDepth 20000 in
set_option maxHeartbeats 200000 in
theorem sX12_judges_90 {E : E3} {Q : Q3} {M : M3} {x1 : Int} {x2 : Int} {x3 : Int} {x4 : Int}
    (h : (-2147483648 ≤ x4 ∧ x4 ≤ 2147483647) ∧ ((M 44 0 44 ≤ x4 → (G3 E YX12_judges Q 142 [(0, vR 44 0), (3, vI x3), (4, vI 0)] [] M)) ∧ (x4 < M 44 0 44 → ((and3 (shr3 x1 x4) 1 ≠ 1 → (G3 E YX12_judges Q 90 [(0, vR 44 0), (1, vI x1), (2, vI x2), (3, vI x3), (4, vI (x4 + 1))] [] M)) ∧ (and3 (shr3 x1 x4) 1 = 1 → ((0 ≤ x4 ∧ x4 < 8) ∧ ((-2147483648 ≤ (M 44 0 52) + (M 77 0 x4) ∧ (M 44 0 52) + (M 77 0 x4) ≤ 2147483647) ∧ ((RdC (up3 M 44 0 52 ((M 44 0 52) + (M 77 0 x4))) ∧ preTk (up3 M 44 0 52 ((M 44 0 52) + (M 77 0 x4))) x4 x3 x2) ∧ (∀ (N1 : M3), RM3 N1 → (∀ q : Nat, q ∉ ([44, 53, 54, 55, 78, 79] : List Nat) → N1 q = (up3 M 44 0 52 ((M 44 0 52) + (M 77 0 x4))) q) → (∀ j : Int, j ∉ ([11, 12, 13, 17, 50] : List Int) → N1 44 0 j = (up3 M 44 0 52 ((M 44 0 52) + (M 77 0 x4))) 44 0 j) → (RdC N1 ∧ poTk (up3 M 44 0 52 ((M 44 0 52) + (M 77 0 x4))) x4 x3 x2 N1) → (G3 E YX12_judges Q 90 [(0, vR 44 0), (1, vI x1), (2, vI x2), (3, vI x3), (4, vI (x4 + 1))] [] N1)))))))))) :
    G3 E YX12_judges Q 90 [(0, vR 44 0), (1, vI x1), (2, vI x2), (3, vI x3), (4, vI x4)] [] M := by
  refine g3_rm fun hM => ?_
  refine g3_iload 4 dX12_judges_90 rfl (g3_aload_n 0 dX12_judges_92 rfl rfl (g3_getI (t := 0) dX12_judges_93 flX12_315 (z3 rfl) (z3 rfl) (g3_icmp_ge (tgt := 139) dX12_judges_96 rfl h.1 (hM 44 0 44) (fun c => ?_) (fun c => ?_))))
  · have h1 := h; have h := h1.2.1 c
    have o1 := h1.1
    refine g3_iconst dX12_judges_139 (g3_istore (lv' := [(4, vI 0), (0, vR 44 0), (1, vI x1), (2, vI x2), (3, vI x3)]) dX12_judges_140 (z3 rfl) rfl (g3_sub [1, 4, 0] rfl h))
  · have h1 := h; have h := h1.2.2 c
    have o1 := h1.1
    refine g3_iload_n 1 dX12_judges_99 rfl rfl (g3_iload 4 dX12_judges_100 rfl (g3_ishr dX12_judges_102 (g3_iconst dX12_judges_103 (g3_iand dX12_judges_104 (g3_iconst dX12_judges_105 (g3_icmp_ne (tgt := 133) dX12_judges_106 rfl (t3_tr _) (z3 rfl) (fun c => ?_) (fun c => ?_)))))))
    · have h1 := h; have h := h1.1 c
      refine g3_iinc (lv' := [(4, vI (x4 + 1)), (0, vR 44 0), (1, vI x1), (2, vI x2), (3, vI x3)]) 4 dX12_judges_133 rfl (z3 rfl) rfl (g3_goto (tgt := 90) dX12_judges_136 rfl (g3_sub [1, 2, 3, 4, 0] rfl h))
    · have h1 := h; have h := h1.2 c
      refine g3_aload_n 0 dX12_judges_109 rfl rfl (g3_dup dX12_judges_110 rfl (g3_getI (t := 0) dX12_judges_111 flX12_327 (z3 rfl) (z3 rfl) (g3_aload_n 0 dX12_judges_114 rfl rfl (g3_getR0 (t := 77) dX12_judges_115 flX12_120 rfl (z3 rfl) (g3_iload 4 dX12_judges_118 rfl (g3_iald dX12_judges_120 ar_77 (z3 rfl) h.1 (g3_iadd dX12_judges_121 (g3_put dX12_judges_122 fpX12_327 (Or.inl rfl) (z3 rfl) h.2.1 (g3_aload_n 0 dX12_judges_125 rfl rfl (g3_iload 4 dX12_judges_126 rfl (g3_iload_n 3 dX12_judges_128 rfl rfl (g3_iload_n 2 dX12_judges_129 rfl rfl (g3_cV3 dX12_judges_130 myX12_takes mlX12_330 (z3 rfl) ob_44 (z3 rfl) (z3 rfl) (kX12_takes h.2.2.1 (fun N1 hN1 hf1 hs1 hp1 => ?_)))))))))))))))
      have o2 := h.1
      have o3 := h.2.1
      have o4 := h.2.2.1
      have h := h.2.2.2 N1 hN1 hf1 hs1 hp1
      refine g3_r0 ?_
      refine g3_iinc (lv' := [(4, vI (x4 + 1)), (0, vR 44 0), (1, vI x1), (2, vI x2), (3, vI x3)]) 4 dX12_judges_133 rfl (z3 rfl) rfl (g3_goto (tgt := 90) dX12_judges_136 rfl (g3_sub [1, 2, 3, 4, 0] rfl h))
set_option maxRecDepth 20000 in
set_option maxHeartbeats 200000 in
theorem sX12_judges_142 {E : E3} {Q : Q3} {M : M3} {x3 : Int} {x4 : Int}
    (h : (-2147483648 ≤ x4 ∧ x4 ≤ 2147483647) ∧ ((M 44 0 1 ≤ x4 → (Q none M)) ∧ (x4 < M 44 0 1 → ((0 ≤ x4 ∧ x4 < 48) ∧ ((¬(M 50 0 x4 = 0 ∨ M 50 0 x4 = 2) → ((-2147483648 ≤ (M 44 0 51) + 0 ∧ (M 44 0 51) + 0 ≤ 2147483647) ∧ (G3 E YX12_judges Q 142 [(0, vR 44 0), (3, vI x3), (4, vI (x4 + 1))] [] (up3 M 44 0 51 ((M 44 0 51) + 0))))) ∧ ((M 50 0 x4 = 0 ∨ M 50 0 x4 = 2) → ((M 79 0 x4 ≠ 0 → ((-2147483648 ≤ (M 44 0 51) + 0 ∧ (M 44 0 51) + 0 ≤ 2147483647) ∧ (G3 E YX12_judges Q 142 [(0, vR 44 0), (3, vI x3), (4, vI (x4 + 1))] [] (up3 M 44 0 51 ((M 44 0 51) + 0))))) ∧ (M 79 0 x4 = 0 → ((RdC M ∧ 0 ≤ (M 44 0 0) ∧ (M 44 0 0) ≤ 399) ∧ (∀ (N1 : M3), RM3 N1 → Em M N1 → (RdC N1) → ((¬(alw3 (LM3 M) (M 46 0 x4) (M 44 0 0)) → ((-2147483648 ≤ (M 44 0 51) + 0 ∧ (M 44 0 51) + 0 ≤ 2147483647) ∧ (G3 E YX12_judges Q 142 [(0, vR 44 0), (3, vI x3), (4, vI (x4 + 1))] [] (up3 N1 44 0 51 ((M 44 0 51) + 0))))) ∧ ((alw3 (LM3 M) (M 46 0 x4) (M 44 0 0)) → ((-2147483648 ≤ x3 ∧ x3 ≤ 2147483647) ∧ ((M 78 0 x4 < x3 → ((-2147483648 ≤ (M 44 0 51) + 0 ∧ (M 44 0 51) + 0 ≤ 2147483647) ∧ (G3 E YX12_judges Q 142 [(0, vR 44 0), (3, vI x3), (4, vI (x4 + 1))] [] (up3 N1 44 0 51 ((M 44 0 51) + 0))))) ∧ (x3 ≤ M 78 0 x4 → ((-2147483648 ≤ (M 44 0 51) + 1 ∧ (M 44 0 51) + 1 ≤ 2147483647) ∧ (G3 E YX12_judges Q 142 [(0, vR 44 0), (3, vI x3), (4, vI (x4 + 1))] [] (up3 N1 44 0 51 ((M 44 0 51) + 1))))))))))))))))))) :
    G3 E YX12_judges Q 142 [(0, vR 44 0), (3, vI x3), (4, vI x4)] [] M := by
  refine g3_rm fun hM => ?_
  refine g3_iload 2 dX12_judges_142 rfl (g3_aload_n 0 dX12_judges_144 rfl rfl (g3_getI (t := 0) dX12_judges_145 flX12_148 (z3 rfl) (z3 rfl) (g3_icmp_ge (tgt := 191) dX12_judges_148 rfl h.1 (hM 44 0 1) (fun c => ?_) (fun c => ?_))))
  · have h1 := h; have h := h1.2.1 c
    have o1 := h1.1
    exact g3_return dX12_judges_191 rfl h
  · have h1 := h; have h := h1.2.2 c
    have o1 := h1.1
    refine g3_aload_n 0 dX12_judges_151 rfl rfl (g3_dup dX12_judges_152 rfl (g3_getI (t := 0) dX12_judges_153 flX12_324 (z3 rfl) (z3 rfl) (g3_aload_n 0 dX12_judges_156 rfl rfl (g3_iload 2 dX12_judges_157 rfl (g3_cV1 dX12_judges_159 myX12_isFree mlX12_334 (z3 rfl) ob_44 (z3 rfl) (z3 rfl) (c3_in rfl rfl (z3 rfl) (g3_aload_n 0 dX12_isFree_0 rfl rfl (g3_iload_n 1 dX12_isFree_1 rfl rfl (g3_cV1 dX12_isFree_2 myX12_isOff mlX12_229 (z3 rfl) ob_44 (z3 rfl) (z3 rfl) (kX12_isOff h.1 (g3_r1 (g3_bool_eq (tgt := 38) dX12_isFree_5 rfl (fun c => ?_) (fun c => ?_)))))))))))))
    · have h1 := h; have h := h1.2.1 c
      have o2 := h1.1
      refine g3_iconst dX12_isFree_38 (g3_zreturn dX12_isFree_39 rfl (Or.inl rfl) (g3_r1 (g3_if_eq_T (tgt := 180) dX12_judges_162 rfl (z3 rfl) (g3_iconst dX12_judges_180 (g3_iadd dX12_judges_181 (g3_put dX12_judges_182 fpX12_324 (Or.inl rfl) (z3 rfl) h.1 (g3_iinc (lv' := [(4, vI (x4 + 1)), (0, vR 44 0), (3, vI x3)]) 2 dX12_judges_185 rfl (z3 rfl) rfl (g3_goto (tgt := 142) dX12_judges_188 rfl (g3_sub [1, 2, 0] rfl h.2)))))))))
    · have h1 := h; have h := h1.2.2 c
      have o2 := h1.1
      refine g3_aload_n 0 dX12_isFree_8 rfl rfl (g3_getR0 (t := 79) dX12_isFree_9 flX12_126 rfl (z3 rfl) (g3_iload_n 1 dX12_isFree_12 rfl rfl (g3_zald dX12_isFree_13 ar_79 (z3 rfl) o2 (g3_if_ne (tgt := 38) dX12_isFree_14 rfl (hM 79 0 x4) (fun c => ?_) (fun c => ?_)))))
      · have h1 := h; have h := h1.1 c
        refine g3_iconst dX12_isFree_38 (g3_zreturn dX12_isFree_39 rfl (Or.inl rfl) (g3_r1 (g3_if_eq_T (tgt := 180) dX12_judges_162 rfl (z3 rfl) (g3_iconst dX12_judges_180 (g3_iadd dX12_judges_181 (g3_put dX12_judges_182 fpX12_324 (Or.inl rfl) (z3 rfl) h.1 (g3_iinc (lv' := [(4, vI (x4 + 1)), (0, vR 44 0), (3, vI x3)]) 2 dX12_judges_185 rfl (z3 rfl) rfl (g3_goto (tgt := 142) dX12_judges_188 rfl (g3_sub [1, 2, 0] rfl h.2)))))))))
      · have h1 := h; have h := h1.2 c
        refine g3_aload_n 0 dX12_isFree_17 rfl rfl (g3_aload_n 0 dX12_isFree_18 rfl rfl (g3_getR0 (t := 46) dX12_isFree_19 flX12_13 rfl (z3 rfl) (g3_iload_n 1 dX12_isFree_22 rfl rfl (g3_iald dX12_isFree_23 ar_46 (z3 rfl) o2 (g3_aload_n 0 dX12_isFree_24 rfl rfl (g3_getI (t := 0) dX12_isFree_25 flX12_151 (z3 rfl) (z3 rfl) (g3_cV2 dX12_isFree_28 myX12_isAllowed mlX12_235 (z3 rfl) ob_44 (z3 rfl) (z3 rfl) (eX12_isAllowed Em.rf h.1 (fun N1 hN1 he1 hp1 => ?_)))))))))
        have o5 := h.1
        have h := h.2 N1 hN1 he1 hp1
        refine g3_r1 ?_
        refine g3_bool_eq (tgt := 38) dX12_isFree_31 rfl (fun c => ?_) (fun c => ?_)
        · have h1 := h; have h := h1.1 c
          refine g3_iconst dX12_isFree_38 (g3_zreturn dX12_isFree_39 rfl (Or.inl rfl) (g3_r1 (g3_if_eq_T (tgt := 180) dX12_judges_162 rfl (z3 rfl) (g3_iconst dX12_judges_180 (g3_iadd dX12_judges_181 (g3_put dX12_judges_182 fpX12_324 (Or.inl rfl) (z3 rfl) h.1 (g3_iinc (lv' := [(4, vI (x4 + 1)), (0, vR 44 0), (3, vI x3)]) 2 dX12_judges_185 rfl (z3 rfl) rfl (g3_goto (tgt := 142) dX12_judges_188 rfl (g3_sub [1, 2, 0] rfl h.2)))))))))
        · have h1 := h; have h := h1.2 c
          refine g3_iconst dX12_isFree_34 (g3_goto (tgt := 39) dX12_isFree_35 rfl (g3_zreturn dX12_isFree_39 rfl (Or.inr rfl) (g3_r1 (g3_if_eq_F (tgt := 180) dX12_judges_162 rfl (z3 rfl) (g3_aload_n 0 dX12_judges_165 rfl rfl (g3_getR0 (t := 78) dX12_judges_166 flX12_123 rfl (z3 rfl) (g3_iload 2 dX12_judges_169 rfl (g3_iald dX12_judges_171 ar_78 (z3 rfl) o2 (g3_val (cg3 (he1.1 78 (by decide)) _ _) (g3_iload_n 1 dX12_judges_172 rfl rfl (g3_icmp_lt (tgt := 180) dX12_judges_173 rfl (hM 78 0 x4) h.1 (fun c => ?_) (fun c => ?_))))))))))))
          · have h1 := h; have h := h1.2.1 c
            have o7 := h1.1
            refine g3_iconst dX12_judges_180 (g3_iadd dX12_judges_181 (g3_put dX12_judges_182 fpX12_324 (Or.inl rfl) (z3 rfl) h.1 (g3_iinc (lv' := [(4, vI (x4 + 1)), (0, vR 44 0), (3, vI x3)]) 2 dX12_judges_185 rfl (z3 rfl) rfl (g3_goto (tgt := 142) dX12_judges_188 rfl (g3_sub [1, 2, 0] rfl h.2)))))
          · have h1 := h; have h := h1.2.2 c
            have o7 := h1.1
            refine g3_iconst dX12_judges_176 (g3_goto (tgt := 181) dX12_judges_177 rfl (g3_iadd dX12_judges_181 (g3_put dX12_judges_182 fpX12_324 (Or.inl rfl) (z3 rfl) h.1 (g3_iinc (lv' := [(4, vI (x4 + 1)), (0, vR 44 0), (3, vI x3)]) 2 dX12_judges_185 rfl (z3 rfl) rfl (g3_goto (tgt := 142) dX12_judges_188 rfl (g3_sub [1, 2, 0] rfl h.2))))))
