set_option maxRecDepth 20000 in
set_option maxHeartbeats 200000 in
theorem sX4_takePart {E : E3} {Q : Q3} {M : M3}
    (h : (M 3 0 0 ≤ M 3 0 3 → ((-2147483648 ≤ (M 3 0 3) + 1 ∧ (M 3 0 3) + 1 ≤ 2147483647) ∧ ((-2147483648 ≤ ((M 3 0 3) + 1) - 1 ∧ ((M 3 0 3) + 1) - 1 ≤ 2147483647) ∧ (G3 E YX4_takePart Q 5 [(0, vR 3 0), (1, vI (-1))] [] (up3 (up3 M 3 0 3 ((M 3 0 3) + 1)) 3 0 1 (((M 3 0 3) + 1) - 1)))))) ∧ (M 3 0 3 < M 3 0 0 → ((0 ≤ M 3 0 3 ∧ M 3 0 3 < 200) ∧ ((-2147483648 ≤ (M 3 0 3) + 1 ∧ (M 3 0 3) + 1 ≤ 2147483647) ∧ (((M 4 0 (M 3 0 3)) = 107 → (G3 E YX4_takePart Q 5 [(0, vR 3 0), (1, vI 21)] [] (up3 M 3 0 3 ((M 3 0 3) + 1)))) ∧ (¬((M 4 0 (M 3 0 3)) = 107) → (((M 4 0 (M 3 0 3)) = 110 → (G3 E YX4_takePart Q 5 [(0, vR 3 0), (1, vI 20)] [] (up3 M 3 0 3 ((M 3 0 3) + 1)))) ∧ (¬((M 4 0 (M 3 0 3)) = 110) → (((M 4 0 (M 3 0 3)) = 113 → ((preNum (up3 M 3 0 3 ((M 3 0 3) + 1)) 2 0 19) ∧ (∀ (r1 : Int) (N1 : M3), RM3 N1 → (∀ q : Nat, q ∉ ([3] : List Nat) → N1 q = (up3 M 3 0 3 ((M 3 0 3) + 1)) q) → (poNum (up3 M 3 0 3 ((M 3 0 3) + 1)) 2 0 19 r1 N1) → (G3 E YX4_takePart Q 5 [(0, vR 3 0), (1, vI r1)] [] N1)))) ∧ (¬((M 4 0 (M 3 0 3)) = 113) → (((M 4 0 (M 3 0 3)) = 115 → (G3 E YX4_takePart Q 5 [(0, vR 3 0), (1, vI 22)] [] (up3 M 3 0 3 ((M 3 0 3) + 1)))) ∧ (¬((M 4 0 (M 3 0 3)) = 115) → (((M 4 0 (M 3 0 3)) = 119 → (G3 E YX4_takePart Q 5 [(0, vR 3 0), (1, vI 23)] [] (up3 M 3 0 3 ((M 3 0 3) + 1)))) ∧ (¬((M 4 0 (M 3 0 3)) = 119) → ((-2147483648 ≤ ((M 3 0 3) + 1) - 1 ∧ ((M 3 0 3) + 1) - 1 ≤ 2147483647) ∧ (G3 E YX4_takePart Q 5 [(0, vR 3 0), (1, vI (-1))] [] (up3 (up3 M 3 0 3 ((M 3 0 3) + 1)) 3 0 1 (((M 3 0 3) + 1) - 1)))))))))))))))))) :
    C3 E YX4_takePart [vR 3 0] M Q := by
  refine c3_in rfl rfl (z3 rfl) (g3_rm fun hM => ?_)
  refine g3_aload_n 0 dX4_takePart_0 rfl rfl (g3_cV0 dX4_takePart_1 myX4_takeKind mlX4_76 (z3 rfl) ob_3 (z3 rfl) (z3 rfl) (c3_in rfl rfl (z3 rfl) (g3_aload_n 0 dX4_takeKind_0 rfl rfl (g3_getI (t := 0) dX4_takeKind_1 flX4_62 (z3 rfl) (z3 rfl) (g3_aload_n 0 dX4_takeKind_4 rfl rfl (g3_getI (t := 0) dX4_takeKind_5 flX4_34 (z3 rfl) (z3 rfl) (g3_icmp_ge (tgt := 23) dX4_takeKind_8 rfl (hM 3 0 3) (hM 3 0 0) (fun c => ?_) (fun c => ?_))))))))
  · have h1 := h; have h := h1.1 c
    refine g3_iconst dX4_takeKind_23 (g3_istore_n (lv' := [(1, vI (-1)), (0, vR 3 0)]) dX4_takeKind_24 rfl (z3 rfl) rfl (g3_aload_n 1 dX4_takeKind_25 rfl rfl (g3_dup dX4_takeKind_26 rfl (g3_getI (t := 0) dX4_takeKind_27 flX4_62 (z3 rfl) (z3 rfl) (g3_iconst dX4_takeKind_30 (g3_iadd dX4_takeKind_31 (g3_put dX4_takeKind_32 fpX4_62 (Or.inl rfl) (z3 rfl) h.1 (g3_iload_n 0 dX4_takeKind_35 rfl rfl (g3_tout (tgt := 125) dX4_takeKind_36 (z3 rfl) (z3 rfl) rfl (g3_aload_n 1 dX4_takeKind_125 rfl rfl (g3_aload_n 1 dX4_takeKind_126 rfl rfl (g3_getI (t := 0) dX4_takeKind_127 flX4_62 (z3 rfl) (z3 rfl) (g3_val (up3_eq) (g3_iconst dX4_takeKind_130 (g3_isub dX4_takeKind_131 (g3_put dX4_takeKind_132 fpX4_65 (Or.inl rfl) (z3 rfl) h.2.1 (g3_iconst dX4_takeKind_135 (g3_ireturn dX4_takeKind_136 rfl (g3_r1 (g3_istore_n (lv' := [(1, vI (-1)), (0, vR 3 0)]) dX4_takePart_4 rfl (z3 rfl) rfl (g3_sub [1, 0] rfl h.2.2)))))))))))))))))))))
  · have h1 := h; have h := h1.2 c
    refine g3_aload_n 0 dX4_takeKind_11 rfl rfl (g3_getR0 (t := 4) dX4_takeKind_12 flX4_11 rfl (z3 rfl) (g3_aload_n 0 dX4_takeKind_15 rfl rfl (g3_getI (t := 0) dX4_takeKind_16 flX4_62 (z3 rfl) (z3 rfl) (g3_iald dX4_takeKind_19 ar_4 (z3 rfl) h.1 (g3_goto (tgt := 24) dX4_takeKind_20 rfl (g3_istore_n (lv' := [(1, vI (M 4 0 (M 3 0 3))), (0, vR 3 0)]) dX4_takeKind_24 rfl (z3 rfl) rfl (g3_aload_n 1 dX4_takeKind_25 rfl rfl (g3_dup dX4_takeKind_26 rfl (g3_getI (t := 0) dX4_takeKind_27 flX4_62 (z3 rfl) (z3 rfl) (g3_iconst dX4_takeKind_30 (g3_iadd dX4_takeKind_31 (g3_put dX4_takeKind_32 fpX4_62 (Or.inl rfl) (z3 rfl) h.2.1 (g3_iload_n 0 dX4_takeKind_35 rfl rfl (?_))))))))))))))
    have o3 := h.1
    have o4 := h.2.1
    have hx := (hM 4 0 (M 3 0 3))
    have h := h.2.2
    refine g3_by (a := (M 4 0 (M 3 0 3)) = 107) (fun c => ?_) (fun cs107 => ?_)
    · have h := h.1 c
      refine g3_tin (n := 107) (tgt := 116) dX4_takeKind_36 c (z3 rfl) (z3 rfl) rfl rfl ?_
      refine g3_bipush dX4_takeKind_116 rfl (g3_ireturn dX4_takeKind_118 rfl (g3_r1 (g3_istore_n (lv' := [(1, vI 21), (0, vR 3 0)]) dX4_takePart_4 rfl (z3 rfl) rfl (g3_sub [1, 0] rfl h))))
    have h := h.2 cs107
    refine g3_by (a := (M 4 0 (M 3 0 3)) = 110) (fun c => ?_) (fun cs110 => ?_)
    · have h := h.1 c
      refine g3_tin (n := 110) (tgt := 113) dX4_takeKind_36 c (z3 rfl) (z3 rfl) rfl rfl ?_
      refine g3_bipush dX4_takeKind_113 rfl (g3_ireturn dX4_takeKind_115 rfl (g3_r1 (g3_istore_n (lv' := [(1, vI 20), (0, vR 3 0)]) dX4_takePart_4 rfl (z3 rfl) rfl (g3_sub [1, 0] rfl h))))
    have h := h.2 cs110
    refine g3_by (a := (M 4 0 (M 3 0 3)) = 113) (fun c => ?_) (fun cs113 => ?_)
    · have h := h.1 c
      refine g3_tin (n := 113) (tgt := 104) dX4_takeKind_36 c (z3 rfl) (z3 rfl) rfl rfl ?_
      refine g3_aload_n 1 dX4_takeKind_104 rfl rfl (g3_iconst dX4_takeKind_105 (g3_iconst dX4_takeKind_106 (g3_bipush dX4_takeKind_107 rfl (g3_cV3 dX4_takeKind_109 myX4_takeNumber mlX4_80 (z3 rfl) ob_3 (z3 rfl) (z3 rfl) (kX4_takeNumber h.1 (fun r1 N1 hN1 hf1 hp1 => ?_))))))
      have o5 := h.1
      have h := h.2 r1 N1 hN1 hf1 hp1
      refine g3_r1 ?_
      refine g3_ireturn dX4_takeKind_112 rfl (g3_r1 (g3_istore_n (lv' := [(1, vI r1), (0, vR 3 0)]) dX4_takePart_4 rfl (z3 rfl) rfl (g3_sub [1, 0] rfl h)))
    have h := h.2 cs113
    refine g3_by (a := (M 4 0 (M 3 0 3)) = 115) (fun c => ?_) (fun cs115 => ?_)
    · have h := h.1 c
      refine g3_tin (n := 115) (tgt := 119) dX4_takeKind_36 c (z3 rfl) (z3 rfl) rfl rfl ?_
      refine g3_bipush dX4_takeKind_119 rfl (g3_ireturn dX4_takeKind_121 rfl (g3_r1 (g3_istore_n (lv' := [(1, vI 22), (0, vR 3 0)]) dX4_takePart_4 rfl (z3 rfl) rfl (g3_sub [1, 0] rfl h))))
    have h := h.2 cs115
    refine g3_by (a := (M 4 0 (M 3 0 3)) = 119) (fun c => ?_) (fun cs119 => ?_)
    · have h := h.1 c
      refine g3_tin (n := 119) (tgt := 122) dX4_takeKind_36 c (z3 rfl) (z3 rfl) rfl rfl ?_
      refine g3_bipush dX4_takeKind_122 rfl (g3_ireturn dX4_takeKind_124 rfl (g3_r1 (g3_istore_n (lv' := [(1, vI 23), (0, vR 3 0)]) dX4_takePart_4 rfl (z3 rfl) rfl (g3_sub [1, 0] rfl h))))
    have h := h.2 cs119
    refine g3_by (a := (M 4 0 (M 3 0 3)) = 108) (fun c => ?_) (fun c => ?_)
    · refine g3_tin (n := 108) (tgt := 125) dX4_takeKind_36 c (z3 rfl) (z3 rfl) rfl rfl ?_
      refine g3_aload_n 1 dX4_takeKind_125 rfl rfl (g3_aload_n 1 dX4_takeKind_126 rfl rfl (g3_getI (t := 0) dX4_takeKind_127 flX4_62 (z3 rfl) (z3 rfl) (g3_val (up3_eq) (g3_iconst dX4_takeKind_130 (g3_isub dX4_takeKind_131 (g3_put dX4_takeKind_132 fpX4_65 (Or.inl rfl) (z3 rfl) h.1 (g3_iconst dX4_takeKind_135 (g3_ireturn dX4_takeKind_136 rfl (g3_r1 (g3_istore_n (lv' := [(1, vI (-1)), (0, vR 3 0)]) dX4_takePart_4 rfl (z3 rfl) rfl (g3_sub [1, 0] rfl h.2)))))))))))
    refine g3_by (a := (M 4 0 (M 3 0 3)) = 109) (fun c => ?_) (fun c => ?_)
    · refine g3_tin (n := 109) (tgt := 125) dX4_takeKind_36 c (z3 rfl) (z3 rfl) rfl rfl ?_
      refine g3_aload_n 1 dX4_takeKind_125 rfl rfl (g3_aload_n 1 dX4_takeKind_126 rfl rfl (g3_getI (t := 0) dX4_takeKind_127 flX4_62 (z3 rfl) (z3 rfl) (g3_val (up3_eq) (g3_iconst dX4_takeKind_130 (g3_isub dX4_takeKind_131 (g3_put dX4_takeKind_132 fpX4_65 (Or.inl rfl) (z3 rfl) h.1 (g3_iconst dX4_takeKind_135 (g3_ireturn dX4_takeKind_136 rfl (g3_r1 (g3_istore_n (lv' := [(1, vI (-1)), (0, vR 3 0)]) dX4_takePart_4 rfl (z3 rfl) rfl (g3_sub [1, 0] rfl h.2)))))))))))
    refine g3_by (a := (M 4 0 (M 3 0 3)) = 111) (fun c => ?_) (fun c => ?_)
    · refine g3_tin (n := 111) (tgt := 125) dX4_takeKind_36 c (z3 rfl) (z3 rfl) rfl rfl ?_
      refine g3_aload_n 1 dX4_takeKind_125 rfl rfl (g3_aload_n 1 dX4_takeKind_126 rfl rfl (g3_getI (t := 0) dX4_takeKind_127 flX4_62 (z3 rfl) (z3 rfl) (g3_val (up3_eq) (g3_iconst dX4_takeKind_130 (g3_isub dX4_takeKind_131 (g3_put dX4_takeKind_132 fpX4_65 (Or.inl rfl) (z3 rfl) h.1 (g3_iconst dX4_takeKind_135 (g3_ireturn dX4_takeKind_136 rfl (g3_r1 (g3_istore_n (lv' := [(1, vI (-1)), (0, vR 3 0)]) dX4_takePart_4 rfl (z3 rfl) rfl (g3_sub [1, 0] rfl h.2)))))))))))
    refine g3_by (a := (M 4 0 (M 3 0 3)) = 112) (fun c => ?_) (fun c => ?_)
    · refine g3_tin (n := 112) (tgt := 125) dX4_takeKind_36 c (z3 rfl) (z3 rfl) rfl rfl ?_
      refine g3_aload_n 1 dX4_takeKind_125 rfl rfl (g3_aload_n 1 dX4_takeKind_126 rfl rfl (g3_getI (t := 0) dX4_takeKind_127 flX4_62 (z3 rfl) (z3 rfl) (g3_val (up3_eq) (g3_iconst dX4_takeKind_130 (g3_isub dX4_takeKind_131 (g3_put dX4_takeKind_132 fpX4_65 (Or.inl rfl) (z3 rfl) h.1 (g3_iconst dX4_takeKind_135 (g3_ireturn dX4_takeKind_136 rfl (g3_r1 (g3_istore_n (lv' := [(1, vI (-1)), (0, vR 3 0)]) dX4_takePart_4 rfl (z3 rfl) rfl (g3_sub [1, 0] rfl h.2)))))))))))
    refine g3_by (a := (M 4 0 (M 3 0 3)) = 114) (fun c => ?_) (fun c => ?_)
    · refine g3_tin (n := 114) (tgt := 125) dX4_takeKind_36 c (z3 rfl) (z3 rfl) rfl rfl ?_
      refine g3_aload_n 1 dX4_takeKind_125 rfl rfl (g3_aload_n 1 dX4_takeKind_126 rfl rfl (g3_getI (t := 0) dX4_takeKind_127 flX4_62 (z3 rfl) (z3 rfl) (g3_val (up3_eq) (g3_iconst dX4_takeKind_130 (g3_isub dX4_takeKind_131 (g3_put dX4_takeKind_132 fpX4_65 (Or.inl rfl) (z3 rfl) h.1 (g3_iconst dX4_takeKind_135 (g3_ireturn dX4_takeKind_136 rfl (g3_r1 (g3_istore_n (lv' := [(1, vI (-1)), (0, vR 3 0)]) dX4_takePart_4 rfl (z3 rfl) rfl (g3_sub [1, 0] rfl h.2)))))))))))
    refine g3_by (a := (M 4 0 (M 3 0 3)) = 116) (fun c => ?_) (fun c => ?_)
    · refine g3_tin (n := 116) (tgt := 125) dX4_takeKind_36 c (z3 rfl) (z3 rfl) rfl rfl ?_
      refine g3_aload_n 1 dX4_takeKind_125 rfl rfl (g3_aload_n 1 dX4_takeKind_126 rfl rfl (g3_getI (t := 0) dX4_takeKind_127 flX4_62 (z3 rfl) (z3 rfl) (g3_val (up3_eq) (g3_iconst dX4_takeKind_130 (g3_isub dX4_takeKind_131 (g3_put dX4_takeKind_132 fpX4_65 (Or.inl rfl) (z3 rfl) h.1 (g3_iconst dX4_takeKind_135 (g3_ireturn dX4_takeKind_136 rfl (g3_r1 (g3_istore_n (lv' := [(1, vI (-1)), (0, vR 3 0)]) dX4_takePart_4 rfl (z3 rfl) rfl (g3_sub [1, 0] rfl h.2)))))))))))
    refine g3_by (a := (M 4 0 (M 3 0 3)) = 117) (fun c => ?_) (fun c => ?_)
    · refine g3_tin (n := 117) (tgt := 125) dX4_takeKind_36 c (z3 rfl) (z3 rfl) rfl rfl ?_
      refine g3_aload_n 1 dX4_takeKind_125 rfl rfl (g3_aload_n 1 dX4_takeKind_126 rfl rfl (g3_getI (t := 0) dX4_takeKind_127 flX4_62 (z3 rfl) (z3 rfl) (g3_val (up3_eq) (g3_iconst dX4_takeKind_130 (g3_isub dX4_takeKind_131 (g3_put dX4_takeKind_132 fpX4_65 (Or.inl rfl) (z3 rfl) h.1 (g3_iconst dX4_takeKind_135 (g3_ireturn dX4_takeKind_136 rfl (g3_r1 (g3_istore_n (lv' := [(1, vI (-1)), (0, vR 3 0)]) dX4_takePart_4 rfl (z3 rfl) rfl (g3_sub [1, 0] rfl h.2)))))))))))
    refine g3_by (a := (M 4 0 (M 3 0 3)) = 118) (fun c => ?_) (fun c => ?_)
    · refine g3_tin (n := 118) (tgt := 125) dX4_takeKind_36 c (z3 rfl) (z3 rfl) rfl rfl ?_
      refine g3_aload_n 1 dX4_takeKind_125 rfl rfl (g3_aload_n 1 dX4_takeKind_126 rfl rfl (g3_getI (t := 0) dX4_takeKind_127 flX4_62 (z3 rfl) (z3 rfl) (g3_val (up3_eq) (g3_iconst dX4_takeKind_130 (g3_isub dX4_takeKind_131 (g3_put dX4_takeKind_132 fpX4_65 (Or.inl rfl) (z3 rfl) h.1 (g3_iconst dX4_takeKind_135 (g3_ireturn dX4_takeKind_136 rfl (g3_r1 (g3_istore_n (lv' := [(1, vI (-1)), (0, vR 3 0)]) dX4_takePart_4 rfl (z3 rfl) rfl (g3_sub [1, 0] rfl h.2)))))))))))
    refine g3_tout (tgt := 125) dX4_takeKind_36 hx (by omega) rfl ?_
    refine g3_aload_n 1 dX4_takeKind_125 rfl rfl (g3_aload_n 1 dX4_takeKind_126 rfl rfl (g3_getI (t := 0) dX4_takeKind_127 flX4_62 (z3 rfl) (z3 rfl) (g3_val (up3_eq) (g3_iconst dX4_takeKind_130 (g3_isub dX4_takeKind_131 (g3_put dX4_takeKind_132 fpX4_65 (Or.inl rfl) (z3 rfl) h.1 (g3_iconst dX4_takeKind_135 (g3_ireturn dX4_takeKind_136 rfl (g3_r1 (g3_istore_n (lv' := [(1, vI (-1)), (0, vR 3 0)]) dX4_takePart_4 rfl (z3 rfl) rfl (g3_sub [1, 0] rfl h.2)))))))))))
set_option maxRecDepth 20000 in
set_option maxHeartbeats 200000 in
theorem sX4_takePart_5 {E : E3} {Q : Q3} {M : M3} {x1 : Int}
    (h : (-2147483648 ≤ x1 ∧ x1 ≤ 2147483647) ∧ ((x1 = (-1) → (Q (some (vI 0)) M)) ∧ (x1 ≠ (-1) → ((M 3 0 0 ≤ M 3 0 3 → (Q (some (vI 0)) (up3 M 3 0 1 (M 3 0 3)))) ∧ (M 3 0 3 < M 3 0 0 → ((0 ≤ M 3 0 3 ∧ M 3 0 3 < 200) ∧ ((M 4 0 (M 3 0 3) = 61 → ((-2147483648 ≤ (M 3 0 3) + 1 ∧ (M 3 0 3) + 1 ≤ 2147483647) ∧ ((x1 ≠ 21 → ((preNum (up3 M 3 0 3 ((M 3 0 3) + 1)) 2 0 99) ∧ (∀ (r1 : Int) (N1 : M3), RM3 N1 → (∀ q : Nat, q ∉ ([3] : List Nat) → N1 q = (up3 M 3 0 3 ((M 3 0 3) + 1)) q) → (poNum (up3 M 3 0 3 ((M 3 0 3) + 1)) 2 0 99 r1 N1) → (G3 E YX4_takePart Q 46 [(0, vR 3 0), (1, vI x1), (2, vI r1)] [] N1)))) ∧ (x1 = 21 → ((preNum (up3 M 3 0 3 ((M 3 0 3) + 1)) 1 1 3) ∧ (∀ (r1 : Int) (N1 : M3), RM3 N1 → (∀ q : Nat, q ∉ ([3] : List Nat) → N1 q = (up3 M 3 0 3 ((M 3 0 3) + 1)) q) → (poNum (up3 M 3 0 3 ((M 3 0 3) + 1)) 1 1 3 r1 N1) → (G3 E YX4_takePart Q 46 [(0, vR 3 0), (1, vI x1), (2, vI r1)] [] N1))))))) ∧ (M 4 0 (M 3 0 3) ≠ 61 → (Q (some (vI 0)) (up3 M 3 0 1 (M 3 0 3))))))))))) :
    G3 E YX4_takePart Q 5 [(0, vR 3 0), (1, vI x1)] [] M := by
  refine g3_rm fun hM => ?_
  refine g3_iload_n 1 dX4_takePart_5 rfl rfl (g3_iconst dX4_takePart_6 (g3_icmp_eq (tgt := 19) dX4_takePart_7 rfl h.1 (z3 rfl) (fun c => ?_) (fun c => ?_)))
  · have h1 := h; have h := h1.2.1 c
    have o1 := h1.1
    exact g3_iconst dX4_takePart_19 (g3_zreturn dX4_takePart_20 rfl (Or.inl rfl) h)
  · have h1 := h; have h := h1.2.2 c
    have o1 := h1.1
    refine g3_aload_n 0 dX4_takePart_10 rfl rfl (g3_bipush dX4_takePart_11 rfl (g3_cV1 dX4_takePart_13 myX4_takeSign mlX4_72 (z3 rfl) ob_3 (z3 rfl) (z3 rfl) (c3_in rfl rfl (z3 rfl) (g3_aload_n 0 dX4_takeSign_0 rfl rfl (g3_getI (t := 0) dX4_takeSign_1 flX4_62 (z3 rfl) (z3 rfl) (g3_aload_n 0 dX4_takeSign_4 rfl rfl (g3_getI (t := 0) dX4_takeSign_5 flX4_34 (z3 rfl) (z3 rfl) (g3_icmp_ge (tgt := 24) dX4_takeSign_8 rfl (hM 3 0 3) (hM 3 0 0) (fun c => ?_) (fun c => ?_)))))))))
    · have h1 := h; have h := h1.1 c
      exact g3_aload_n 0 dX4_takeSign_24 rfl rfl (g3_aload_n 0 dX4_takeSign_25 rfl rfl (g3_getI (t := 0) dX4_takeSign_26 flX4_62 (z3 rfl) (z3 rfl) (g3_put dX4_takeSign_29 fpX4_65 (Or.inl rfl) (z3 rfl) (hM 3 0 3) (g3_iconst dX4_takeSign_32 (g3_zreturn dX4_takeSign_33 rfl (Or.inl rfl) (g3_r1 (g3_if_ne_F (tgt := 21) dX4_takePart_16 rfl (z3 rfl) (g3_iconst dX4_takePart_19 (g3_zreturn dX4_takePart_20 rfl (Or.inl rfl) h)))))))))
    · have h1 := h; have h := h1.2 c
      refine g3_aload_n 0 dX4_takeSign_11 rfl rfl (g3_getR0 (t := 4) dX4_takeSign_12 flX4_11 rfl (z3 rfl) (g3_aload_n 0 dX4_takeSign_15 rfl rfl (g3_getI (t := 0) dX4_takeSign_16 flX4_62 (z3 rfl) (z3 rfl) (g3_iald dX4_takeSign_19 ar_4 (z3 rfl) h.1 (g3_iload_n 1 dX4_takeSign_20 rfl rfl (g3_icmp_eq (tgt := 34) dX4_takeSign_21 rfl (hM 4 0 (M 3 0 3)) (z3 rfl) (fun c => ?_) (fun c => ?_)))))))
      · have h1 := h; have h := h1.2.1 c
        have o2 := h1.1
        refine g3_aload_n 0 dX4_takeSign_34 rfl rfl (g3_dup dX4_takeSign_35 rfl (g3_getI (t := 0) dX4_takeSign_36 flX4_62 (z3 rfl) (z3 rfl) (g3_iconst dX4_takeSign_39 (g3_iadd dX4_takeSign_40 (g3_put dX4_takeSign_41 fpX4_62 (Or.inl rfl) (z3 rfl) h.1 (g3_iconst dX4_takeSign_44 (g3_zreturn dX4_takeSign_45 rfl (Or.inr rfl) (g3_r1 (g3_if_ne_T (tgt := 21) dX4_takePart_16 rfl (z3 rfl) (g3_iload_n 1 dX4_takePart_21 rfl rfl (g3_bipush dX4_takePart_22 rfl (g3_icmp_ne (tgt := 37) dX4_takePart_24 rfl o1 (z3 rfl) (fun c => ?_) (fun c => ?_)))))))))))))
        · have h1 := h; have h := h1.2.1 c
          have o3 := h1.1
          refine g3_aload_n 0 dX4_takePart_37 rfl rfl (g3_iconst dX4_takePart_38 (g3_iconst dX4_takePart_39 (g3_bipush dX4_takePart_40 rfl (g3_cV3 dX4_takePart_42 myX4_takeNumber mlX4_80 (z3 rfl) ob_3 (z3 rfl) (z3 rfl) (kX4_takeNumber h.1 (fun r1 N1 hN1 hf1 hp1 => ?_))))))
          have o4 := h.1
          have h := h.2 r1 N1 hN1 hf1 hp1
          refine g3_r1 ?_
          refine g3_istore_n (lv' := [(2, vI r1), (0, vR 3 0), (1, vI x1)]) dX4_takePart_45 rfl (z3 rfl) rfl (g3_sub [1, 2, 0] rfl h)
        · have h1 := h; have h := h1.2.2 c
          have o3 := h1.1
          refine g3_aload_n 0 dX4_takePart_27 rfl rfl (g3_iconst dX4_takePart_28 (g3_iconst dX4_takePart_29 (g3_iconst dX4_takePart_30 (g3_cV3 dX4_takePart_31 myX4_takeNumber mlX4_80 (z3 rfl) ob_3 (z3 rfl) (z3 rfl) (kX4_takeNumber h.1 (fun r1 N1 hN1 hf1 hp1 => ?_))))))
          have o5 := h.1
          have h := h.2 r1 N1 hN1 hf1 hp1
          refine g3_r1 ?_
          refine g3_goto (tgt := 45) dX4_takePart_34 rfl (g3_istore_n (lv' := [(2, vI r1), (0, vR 3 0), (1, vI x1)]) dX4_takePart_45 rfl (z3 rfl) rfl (g3_sub [1, 2, 0] rfl h))
      · have h1 := h; have h := h1.2.2 c
        have o2 := h1.1
        exact g3_aload_n 0 dX4_takeSign_24 rfl rfl (g3_aload_n 0 dX4_takeSign_25 rfl rfl (g3_getI (t := 0) dX4_takeSign_26 flX4_62 (z3 rfl) (z3 rfl) (g3_put dX4_takeSign_29 fpX4_65 (Or.inl rfl) (z3 rfl) (hM 3 0 3) (g3_iconst dX4_takeSign_32 (g3_zreturn dX4_takeSign_33 rfl (Or.inl rfl) (g3_r1 (g3_if_ne_F (tgt := 21) dX4_takePart_16 rfl (z3 rfl) (g3_iconst dX4_takePart_19 (g3_zreturn dX4_takePart_20 rfl (Or.inl rfl) h)))))))))
set_option maxRecDepth 20000 in
set_option maxHeartbeats 200000 in
theorem sX4_takePart_46 {E : E3} {Q : Q3} {M : M3} {x1 : Int} {x2 : Int}
    (h : (-2147483648 ≤ x2 ∧ x2 ≤ 2147483647) ∧ ((x2 ≠ (-1) → ((M 3 0 0 ≤ M 3 0 3 → (G3 E YX4_takePart Q 107 [(0, vR 3 0), (1, vI x1), (2, vI x2), (3, vI 0)] [] M)) ∧ (M 3 0 3 < M 3 0 0 → ((0 ≤ M 3 0 3 ∧ M 3 0 3 < 200) ∧ ((M 4 0 (M 3 0 3) ≠ 64 → (G3 E YX4_takePart Q 107 [(0, vR 3 0), (1, vI x1), (2, vI x2), (3, vI 0)] [] M)) ∧ (M 4 0 (M 3 0 3) = 64 → ((-2147483648 ≤ (M 3 0 3) + 1 ∧ (M 3 0 3) + 1 ≤ 2147483647) ∧ ((preNum (up3 M 3 0 3 ((M 3 0 3) + 1)) 3 0 399) ∧ (∀ (r1 : Int) (N1 : M3), RM3 N1 → (∀ q : Nat, q ∉ ([3] : List Nat) → N1 q = (up3 M 3 0 3 ((M 3 0 3) + 1)) q) → (poNum (up3 M 3 0 3 ((M 3 0 3) + 1)) 3 0 399 r1 N1) → ((-2147483648 ≤ r1 ∧ r1 ≤ 2147483647) ∧ ((r1 ≠ (-1) → (G3 E YX4_takePart Q 107 [(0, vR 3 0), (1, vI x1), (2, vI x2), (3, vI r1)] [] N1)) ∧ (r1 = (-1) → (Q (some (vI 0)) N1))))))))))))) ∧ (x2 = (-1) → (Q (some (vI 0)) M)))) :
    G3 E YX4_takePart Q 46 [(0, vR 3 0), (1, vI x1), (2, vI x2)] [] M := by
  refine g3_rm fun hM => ?_
  refine g3_iload_n 2 dX4_takePart_46 rfl rfl (g3_iconst dX4_takePart_47 (g3_icmp_ne (tgt := 53) dX4_takePart_48 rfl h.1 (z3 rfl) (fun c => ?_) (fun c => ?_)))
  · have h1 := h; have h := h1.2.1 c
    have o1 := h1.1
    refine g3_iconst dX4_takePart_53 (g3_istore_n (lv' := [(3, vI 0), (0, vR 3 0), (1, vI x1), (2, vI x2)]) dX4_takePart_54 rfl (z3 rfl) rfl (g3_aload_n 1 dX4_takePart_55 rfl rfl (g3_getI (t := 0) dX4_takePart_56 flX4_62 (z3 rfl) (z3 rfl) (g3_aload_n 1 dX4_takePart_59 rfl rfl (g3_getI (t := 0) dX4_takePart_60 flX4_34 (z3 rfl) (z3 rfl) (g3_icmp_ge (tgt := 100) dX4_takePart_63 rfl (hM 3 0 3) (hM 3 0 0) (fun c => ?_) (fun c => ?_)))))))
    · have h1 := h; have h := h1.1 c
      refine g3_iload_n 0 dX4_takePart_100 rfl rfl (g3_iconst dX4_takePart_101 (g3_icmp_ne_T (tgt := 107) dX4_takePart_102 rfl trivial (z3 rfl) (g3_sub [1, 2, 3, 0] rfl h)))
    · have h1 := h; have h := h1.2 c
      refine g3_aload_n 1 dX4_takePart_66 rfl rfl (g3_getR0 (t := 4) dX4_takePart_67 flX4_11 rfl (z3 rfl) (g3_aload_n 1 dX4_takePart_70 rfl rfl (g3_getI (t := 0) dX4_takePart_71 flX4_62 (z3 rfl) (z3 rfl) (g3_iald dX4_takePart_74 ar_4 (z3 rfl) h.1 (g3_bipush dX4_takePart_75 rfl (g3_icmp_ne (tgt := 100) dX4_takePart_77 rfl (hM 4 0 (M 3 0 3)) (z3 rfl) (fun c => ?_) (fun c => ?_)))))))
      · have h1 := h; have h := h1.2.1 c
        have o2 := h1.1
        refine g3_iload_n 0 dX4_takePart_100 rfl rfl (g3_iconst dX4_takePart_101 (g3_icmp_ne_T (tgt := 107) dX4_takePart_102 rfl trivial (z3 rfl) (g3_sub [1, 2, 3, 0] rfl h)))
      · have h1 := h; have h := h1.2.2 c
        have o2 := h1.1
        refine g3_aload_n 1 dX4_takePart_80 rfl rfl (g3_dup dX4_takePart_81 rfl (g3_getI (t := 0) dX4_takePart_82 flX4_62 (z3 rfl) (z3 rfl) (g3_iconst dX4_takePart_85 (g3_iadd dX4_takePart_86 (g3_put dX4_takePart_87 fpX4_62 (Or.inl rfl) (z3 rfl) h.1 (g3_aload_n 1 dX4_takePart_90 rfl rfl (g3_iconst dX4_takePart_91 (g3_iconst dX4_takePart_92 (g3_sipush dX4_takePart_93 rfl (g3_cV3 dX4_takePart_96 myX4_takeNumber mlX4_80 (z3 rfl) ob_3 (z3 rfl) (z3 rfl) (kX4_takeNumber h.2.1 (fun r1 N1 hN1 hf1 hp1 => ?_))))))))))))
        have o3 := h.1
        have o4 := h.2.1
        have h := h.2.2 r1 N1 hN1 hf1 hp1
        refine g3_r1 ?_
        refine g3_istore_n (lv' := [(3, vI r1), (0, vR 3 0), (1, vI x1), (2, vI x2)]) dX4_takePart_99 rfl (z3 rfl) rfl (g3_iload_n 0 dX4_takePart_100 rfl rfl (g3_iconst dX4_takePart_101 (g3_icmp_ne (tgt := 107) dX4_takePart_102 rfl h.1 (z3 rfl) (fun c => ?_) (fun c => ?_))))
        · have h1 := h; have h := h1.2.1 c
          have o5 := h1.1
          refine g3_sub [1, 2, 3, 0] rfl h
        · have h1 := h; have h := h1.2.2 c
          have o5 := h1.1
          exact g3_iconst dX4_takePart_105 (g3_zreturn dX4_takePart_106 rfl (Or.inl rfl) h)
  · have h1 := h; have h := h1.2.2 c
    have o1 := h1.1
    exact g3_iconst dX4_takePart_51 (g3_zreturn dX4_takePart_52 rfl (Or.inl rfl) h)
set_option maxRecDepth 20000 in
set_option maxHeartbeats 200000 in
theorem sX4_takePart_107 {E : E3} {Q : Q3} {M : M3} {x1 : Int} {x2 : Int} {x3 : Int}
    (h : (50 ≤ M 3 0 4 → (Q (some (vI 1)) M)) ∧ (M 3 0 4 < 50 → ((0 ≤ M 3 0 4 ∧ M 3 0 4 < 50) ∧ ((-2147483648 ≤ x1 ∧ x1 ≤ 2147483647) ∧ ((-2147483648 ≤ x2 ∧ x2 ≤ 2147483647) ∧ ((-2147483648 ≤ x3 ∧ x3 ≤ 2147483647) ∧ ((-2147483648 ≤ (M 3 0 4) + 1 ∧ (M 3 0 4) + 1 ≤ 2147483647) ∧ (Q (some (vI 1)) (up3 (up3 (up3 (up3 M 5 0 (M 3 0 4) x1) 6 0 (M 3 0 4) x2) 7 0 (M 3 0 4) x3) 3 0 4 ((M 3 0 4) + 1)))))))))) :
    G3 E YX4_takePart Q 107 [(0, vR 3 0), (1, vI x1), (2, vI x2), (3, vI x3)] [] M := by
  refine g3_rm fun hM => ?_
  refine g3_aload_n 0 dX4_takePart_107 rfl rfl (g3_iload_n 1 dX4_takePart_108 rfl rfl (g3_iload_n 2 dX4_takePart_109 rfl rfl (g3_iload_n 3 dX4_takePart_110 rfl rfl (g3_cV3 dX4_takePart_111 myX4_keepPart mlX4_84 (z3 rfl) ob_3 (z3 rfl) (z3 rfl) (c3_in rfl rfl (z3 rfl) (g3_aload_n 0 dX4_keepPart_0 rfl rfl (g3_getI (t := 0) dX4_keepPart_1 flX4_59 (z3 rfl) (z3 rfl) (g3_bipush dX4_keepPart_4 rfl (g3_icmp_ge (tgt := 49) dX4_keepPart_6 rfl (hM 3 0 4) (z3 rfl) (fun c => ?_) (fun c => ?_))))))))))
  · have h1 := h; have h := h1.1 c
    exact g3_return dX4_keepPart_49 rfl (g3_r0 (g3_iconst dX4_takePart_114 (g3_zreturn dX4_takePart_115 rfl (Or.inr rfl) h)))
  · have h1 := h; have h := h1.2 c
    exact g3_aload_n 0 dX4_keepPart_9 rfl rfl (g3_getR0 (t := 5) dX4_keepPart_10 flX4_15 rfl (z3 rfl) (g3_aload_n 0 dX4_keepPart_13 rfl rfl (g3_getI (t := 0) dX4_keepPart_14 flX4_59 (z3 rfl) (z3 rfl) (g3_iload_n 1 dX4_keepPart_17 rfl rfl (g3_iast dX4_keepPart_18 ar_5 (z3 rfl) h.1 h.2.1 (g3_aload_n 0 dX4_keepPart_19 rfl rfl (g3_getR0 (t := 6) dX4_keepPart_20 flX4_18 rfl (z3 rfl) (g3_aload_n 0 dX4_keepPart_23 rfl rfl (g3_getI (t := 0) dX4_keepPart_24 flX4_59 (z3 rfl) (z3 rfl) (g3_val (up3_nr (by decide)) (g3_iload_n 2 dX4_keepPart_27 rfl rfl (g3_iast dX4_keepPart_28 ar_6 (z3 rfl) h.1 h.2.2.1 (g3_aload_n 0 dX4_keepPart_29 rfl rfl (g3_getR0 (t := 7) dX4_keepPart_30 flX4_21 rfl (z3 rfl) (g3_aload_n 0 dX4_keepPart_33 rfl rfl (g3_getI (t := 0) dX4_keepPart_34 flX4_59 (z3 rfl) (z3 rfl) (g3_val ((up3_nr (by decide)).trans (up3_nr (by decide))) (g3_iload_n 3 dX4_keepPart_37 rfl rfl (g3_iast dX4_keepPart_38 ar_7 (z3 rfl) h.1 h.2.2.2.1 (g3_aload_n 0 dX4_keepPart_39 rfl rfl (g3_dup dX4_keepPart_40 rfl (g3_getI (t := 0) dX4_keepPart_41 flX4_59 (z3 rfl) (z3 rfl) (g3_val (((up3_nr (by decide)).trans (up3_nr (by decide))).trans (up3_nr (by decide))) (g3_iconst dX4_keepPart_44 (g3_iadd dX4_keepPart_45 (g3_put dX4_keepPart_46 fpX4_59 (Or.inl rfl) (z3 rfl) h.2.2.2.2.1 (g3_return dX4_keepPart_49 rfl (g3_r0 (g3_iconst dX4_takePart_114 (g3_zreturn dX4_takePart_115 rfl (Or.inr rfl) h.2.2.2.2.2))))))))))))))))))))))))))))))
