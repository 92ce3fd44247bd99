theorem tout_0_7 {x : Int} (c0 : ¬ (x = 0)) (c1 : ¬ (x = 1)) (c2 : ¬ (x = 2)) (c3 : ¬ (x = 3)) (c4 : ¬ (x = 4)) (c5 : ¬ (x = 5)) (c6 : ¬ (x = 6)) (c7 : ¬ (x = 7)) : x < 0 ∨ 7 < x := by omega
theorem tout_0_9 {x : Int} (c0 : ¬ (x = 0)) (c1 : ¬ (x = 1)) (c2 : ¬ (x = 2)) (c3 : ¬ (x = 3)) (c4 : ¬ (x = 4)) (c5 : ¬ (x = 5)) (c6 : ¬ (x = 6)) (c7 : ¬ (x = 7)) (c8 : ¬ (x = 8)) (c9 : ¬ (x = 9)) : x < 0 ∨ 9 < x := by omega
theorem tout_0_10 {x : Int} (c0 : ¬ (x = 0)) (c1 : ¬ (x = 1)) (c2 : ¬ (x = 2)) (c3 : ¬ (x = 3)) (c4 : ¬ (x = 4)) (c5 : ¬ (x = 5)) (c6 : ¬ (x = 6)) (c7 : ¬ (x = 7)) (c8 : ¬ (x = 8)) (c9 : ¬ (x = 9)) (c10 : ¬ (x = 10)) : x < 0 ∨ 10 < x := by omega
set_option maxRecDepth 20000 in
set_option maxHeartbeats 200000 in
theorem sX12_aboutOf {E : E3} {Q : Q3} {M : M3} {x1 x2 : Int}
    (h : (-2147483648 ≤ x2 ∧ x2 ≤ 2147483647) ∧ ((x2 = 0 → ((0 ≤ x1 ∧ x1 < 48) ∧ ((¬(M 50 0 x1 < 3) → (Q (some (vI (-1))) M)) ∧ ((M 50 0 x1 < 3) → (Q (some (vI (M 45 0 x1))) M))))) ∧ (¬(x2 = 0) → ((x2 = 1 → ((0 ≤ x1 ∧ x1 < 48) ∧ (Q (some (vI (M 46 0 x1))) M))) ∧ (¬(x2 = 1) → ((x2 = 2 → ((0 ≤ x1 ∧ x1 < 48) ∧ (Q (some (vI (M 47 0 x1))) M))) ∧ (¬(x2 = 2) → ((x2 = 3 → ((0 ≤ x1 ∧ x1 < 48) ∧ (Q (some (vI (M 48 0 x1))) M))) ∧ (¬(x2 = 3) → ((x2 = 4 → ((0 ≤ x1 ∧ x1 < 48) ∧ (Q (some (vI (M 49 0 x1))) M))) ∧ (¬(x2 = 4) → ((x2 = 5 → ((0 ≤ x1 ∧ x1 < 48) ∧ (Q (some (vI (M 50 0 x1))) M))) ∧ (¬(x2 = 5) → ((x2 = 6 → ((0 ≤ x1 ∧ x1 < 48) ∧ (Q (some (vI (M 51 0 x1))) M))) ∧ (¬(x2 = 6) → ((x2 = 7 → (G3 E YX12_aboutOf Q 112 [(0, vR 44 0), (1, vI x1), (3, vI 0), (4, vI 0)] [] M)) ∧ (¬(x2 = 7) → (Q (some (vI (-2))) M)))))))))))))))))) :
    C3 E YX12_aboutOf [vR 44 0, vI x1, vI x2] M Q := by
  refine c3_in rfl rfl (z3 rfl) (g3_rm fun hM => ?_)
  refine g3_iconst dX12_aboutOf_0 (g3_istore_n (lv' := [(3, vI 0), (0, vR 44 0), (1, vI x1), (2, vI x2)]) dX12_aboutOf_1 rfl (z3 rfl) rfl (g3_iload_n 3 dX12_aboutOf_2 rfl rfl (?_)))
  have o1 := h.1
  have hx := h.1
  have h := h.2
  refine g3_by (a := x2 = 0) (fun c => ?_) (fun cs0 => ?_)
  · have h := h.1 c
    refine g3_tin (n := 0) (tgt := 48) dX12_aboutOf_3 c (z3 rfl) (z3 rfl) rfl rfl ?_
    refine g3_aload_n 1 dX12_aboutOf_48 rfl rfl (g3_iload_n 2 dX12_aboutOf_49 rfl rfl (g3_cV1 dX12_aboutOf_50 myX12_lives mlX12_158 (z3 rfl) ob_44 (z3 rfl) (z3 rfl) (kX12_lives h.1 (g3_r1 (g3_bool_eq (tgt := 65) dX12_aboutOf_53 rfl (fun c => ?_) (fun c => ?_))))))
    · have h1 := h; have h := h1.2.1 c
      have o2 := h1.1
      exact g3_iconst dX12_aboutOf_65 (g3_ireturn dX12_aboutOf_66 rfl h)
    · have h1 := h; have h := h1.2.2 c
      have o2 := h1.1
      exact g3_aload_n 1 dX12_aboutOf_56 rfl rfl (g3_getR0 (t := 45) dX12_aboutOf_57 flX12_7 rfl (z3 rfl) (g3_iload_n 2 dX12_aboutOf_60 rfl rfl (g3_iald dX12_aboutOf_61 ar_45 (z3 rfl) o2 (g3_goto (tgt := 66) dX12_aboutOf_62 rfl (g3_ireturn dX12_aboutOf_66 rfl h)))))
  have h := h.2 cs0
  refine g3_by (a := x2 = 1) (fun c => ?_) (fun cs1 => ?_)
  · have h := h.1 c
    refine g3_tin (n := 1) (tgt := 67) dX12_aboutOf_3 c (z3 rfl) (z3 rfl) rfl rfl ?_
    exact g3_aload_n 1 dX12_aboutOf_67 rfl rfl (g3_getR0 (t := 46) dX12_aboutOf_68 flX12_13 rfl (z3 rfl) (g3_iload_n 2 dX12_aboutOf_71 rfl rfl (g3_iald dX12_aboutOf_72 ar_46 (z3 rfl) h.1 (g3_ireturn dX12_aboutOf_73 rfl h.2))))
  have h := h.2 cs1
  refine g3_by (a := x2 = 2) (fun c => ?_) (fun cs2 => ?_)
  · have h := h.1 c
    refine g3_tin (n := 2) (tgt := 74) dX12_aboutOf_3 c (z3 rfl) (z3 rfl) rfl rfl ?_
    exact g3_aload_n 1 dX12_aboutOf_74 rfl rfl (g3_getR0 (t := 47) dX12_aboutOf_75 flX12_16 rfl (z3 rfl) (g3_iload_n 2 dX12_aboutOf_78 rfl rfl (g3_iald dX12_aboutOf_79 ar_47 (z3 rfl) h.1 (g3_ireturn dX12_aboutOf_80 rfl h.2))))
  have h := h.2 cs2
  refine g3_by (a := x2 = 3) (fun c => ?_) (fun cs3 => ?_)
  · have h := h.1 c
    refine g3_tin (n := 3) (tgt := 81) dX12_aboutOf_3 c (z3 rfl) (z3 rfl) rfl rfl ?_
    exact g3_aload_n 1 dX12_aboutOf_81 rfl rfl (g3_getR0 (t := 48) dX12_aboutOf_82 flX12_19 rfl (z3 rfl) (g3_iload_n 2 dX12_aboutOf_85 rfl rfl (g3_iald dX12_aboutOf_86 ar_48 (z3 rfl) h.1 (g3_ireturn dX12_aboutOf_87 rfl h.2))))
  have h := h.2 cs3
  refine g3_by (a := x2 = 4) (fun c => ?_) (fun cs4 => ?_)
  · have h := h.1 c
    refine g3_tin (n := 4) (tgt := 88) dX12_aboutOf_3 c (z3 rfl) (z3 rfl) rfl rfl ?_
    exact g3_aload_n 1 dX12_aboutOf_88 rfl rfl (g3_getR0 (t := 49) dX12_aboutOf_89 flX12_22 rfl (z3 rfl) (g3_iload_n 2 dX12_aboutOf_92 rfl rfl (g3_iald dX12_aboutOf_93 ar_49 (z3 rfl) h.1 (g3_ireturn dX12_aboutOf_94 rfl h.2))))
  have h := h.2 cs4
  refine g3_by (a := x2 = 5) (fun c => ?_) (fun cs5 => ?_)
  · have h := h.1 c
    refine g3_tin (n := 5) (tgt := 95) dX12_aboutOf_3 c (z3 rfl) (z3 rfl) rfl rfl ?_
    exact g3_aload_n 1 dX12_aboutOf_95 rfl rfl (g3_getR0 (t := 50) dX12_aboutOf_96 flX12_25 rfl (z3 rfl) (g3_iload_n 2 dX12_aboutOf_99 rfl rfl (g3_iald dX12_aboutOf_100 ar_50 (z3 rfl) h.1 (g3_ireturn dX12_aboutOf_101 rfl h.2))))
  have h := h.2 cs5
  refine g3_by (a := x2 = 6) (fun c => ?_) (fun cs6 => ?_)
  · have h := h.1 c
    refine g3_tin (n := 6) (tgt := 102) dX12_aboutOf_3 c (z3 rfl) (z3 rfl) rfl rfl ?_
    exact g3_aload_n 1 dX12_aboutOf_102 rfl rfl (g3_getR0 (t := 51) dX12_aboutOf_103 flX12_28 rfl (z3 rfl) (g3_iload_n 2 dX12_aboutOf_106 rfl rfl (g3_iald dX12_aboutOf_107 ar_51 (z3 rfl) h.1 (g3_ireturn dX12_aboutOf_108 rfl h.2))))
  have h := h.2 cs6
  refine g3_by (a := x2 = 7) (fun c => ?_) (fun cs7 => ?_)
  · have h := h.1 c
    refine g3_tin (n := 7) (tgt := 109) dX12_aboutOf_3 c (z3 rfl) (z3 rfl) rfl rfl ?_
    refine g3_iconst dX12_aboutOf_109 (g3_istore (lv' := [(4, vI 0), (3, vI 0), (0, vR 44 0), (1, vI x1), (2, vI x2)]) dX12_aboutOf_110 (z3 rfl) rfl (g3_sub [2, 3, 1, 0] rfl h))
  have h := h.2 cs7
  refine g3_tout (tgt := 157) dX12_aboutOf_3 hx (tout_0_7 cs0 cs1 cs2 cs3 cs4 cs5 cs6 cs7) rfl ?_
  exact g3_bipush dX12_aboutOf_157 rfl (g3_ireturn dX12_aboutOf_159 rfl h)
set_option maxRecDepth 20000 in
set_option maxHeartbeats 200000 in
theorem sX12_aboutOf_112 {E : E3} {Q : Q3} {M : M3} {x1 : Int} {x3 : Int} {x4 : Int}
    (h : (-2147483648 ≤ x4 ∧ x4 ≤ 2147483647) ∧ ((M 44 0 18 ≤ x4 → (Q (some (vI x3)) M)) ∧ (x4 < M 44 0 18 → ((0 ≤ x4 ∧ x4 < 60) ∧ ((-2147483648 ≤ x1 ∧ x1 ≤ 2147483647) ∧ ((M 56 0 x4 ≠ x1 → (G3 E YX12_aboutOf Q 112 [(0, vR 44 0), (1, vI x1), (3, vI (x3 + 0)), (4, vI (x4 + 1))] [] M)) ∧ (M 56 0 x4 = x1 → ((¬(M 57 0 x4 ≤ mNow M) → (G3 E YX12_aboutOf Q 112 [(0, vR 44 0), (1, vI x1), (3, vI (x3 + 0)), (4, vI (x4 + 1))] [] M)) ∧ ((M 57 0 x4 ≤ mNow M) → (G3 E YX12_aboutOf Q 112 [(0, vR 44 0), (1, vI x1), (3, vI (x3 + 1)), (4, vI (x4 + 1))] [] M)))))))))) :
    G3 E YX12_aboutOf Q 112 [(0, vR 44 0), (1, vI x1), (3, vI x3), (4, vI x4)] [] M := by
  refine g3_rm fun hM => ?_
  refine g3_iload 3 dX12_aboutOf_112 rfl (g3_aload_n 0 dX12_aboutOf_114 rfl rfl (g3_getI (t := 0) dX12_aboutOf_115 flX12_161 (z3 rfl) (z3 rfl) (g3_icmp_ge (tgt := 155) dX12_aboutOf_118 rfl h.1 (hM 44 0 18) (fun c => ?_) (fun c => ?_))))
  · have h1 := h; have h := h1.2.1 c
    have o1 := h1.1
    exact g3_iload_n 2 dX12_aboutOf_155 rfl rfl (g3_ireturn dX12_aboutOf_156 rfl h)
  · have h1 := h; have h := h1.2.2 c
    have o1 := h1.1
    refine g3_iload_n 2 dX12_aboutOf_121 rfl rfl (g3_aload_n 0 dX12_aboutOf_122 rfl rfl (g3_getR0 (t := 56) dX12_aboutOf_123 flX12_43 rfl (z3 rfl) (g3_iload 3 dX12_aboutOf_126 rfl (g3_iald dX12_aboutOf_128 ar_56 (z3 rfl) h.1 (g3_iload_n 1 dX12_aboutOf_129 rfl rfl (g3_icmp_ne (tgt := 146) dX12_aboutOf_130 rfl (hM 56 0 x4) h.2.1 (fun c => ?_) (fun c => ?_)))))))
    · have h1 := h; have h := h1.2.2.1 c
      have o2 := h1.1
      have o3 := h1.2.1
      refine g3_iconst dX12_aboutOf_146 (g3_iadd dX12_aboutOf_147 (g3_istore_n (lv' := [(3, vI (x3 + 0)), (0, vR 44 0), (1, vI x1), (4, vI x4)]) dX12_aboutOf_148 rfl (z3 rfl) rfl (g3_iinc (lv' := [(4, vI (x4 + 1)), (3, vI (x3 + 0)), (0, vR 44 0), (1, vI x1)]) 3 dX12_aboutOf_149 rfl (z3 rfl) rfl (g3_goto (tgt := 112) dX12_aboutOf_152 rfl (g3_sub [2, 3, 1, 0] rfl h)))))
    · have h1 := h; have h := h1.2.2.2 c
      have o2 := h1.1
      have o3 := h1.2.1
      refine g3_aload_n 0 dX12_aboutOf_133 rfl rfl (g3_iload 3 dX12_aboutOf_134 rfl (g3_cV1 dX12_aboutOf_136 myX12_isKnown mlX12_164 (z3 rfl) ob_44 (z3 rfl) (z3 rfl) (kX12_isKnown o2 (g3_r1 (g3_bool_eq (tgt := 146) dX12_aboutOf_139 rfl (fun c => ?_) (fun c => ?_))))))
      · have h1 := h; have h := h1.1 c
        refine g3_iconst dX12_aboutOf_146 (g3_iadd dX12_aboutOf_147 (g3_istore_n (lv' := [(3, vI (x3 + 0)), (0, vR 44 0), (1, vI x1), (4, vI x4)]) dX12_aboutOf_148 rfl (z3 rfl) rfl (g3_iinc (lv' := [(4, vI (x4 + 1)), (3, vI (x3 + 0)), (0, vR 44 0), (1, vI x1)]) 3 dX12_aboutOf_149 rfl (z3 rfl) rfl (g3_goto (tgt := 112) dX12_aboutOf_152 rfl (g3_sub [2, 3, 1, 0] rfl h)))))
      · have h1 := h; have h := h1.2 c
        refine g3_iconst dX12_aboutOf_142 (g3_goto (tgt := 147) dX12_aboutOf_143 rfl (g3_iadd dX12_aboutOf_147 (g3_istore_n (lv' := [(3, vI (x3 + 1)), (0, vR 44 0), (1, vI x1), (4, vI x4)]) dX12_aboutOf_148 rfl (z3 rfl) rfl (g3_iinc (lv' := [(4, vI (x4 + 1)), (3, vI (x3 + 1)), (0, vR 44 0), (1, vI x1)]) 3 dX12_aboutOf_149 rfl (z3 rfl) rfl (g3_goto (tgt := 112) dX12_aboutOf_152 rfl (g3_sub [2, 3, 1, 0] rfl h))))))
set_option maxRecDepth 20000 in
set_option maxHeartbeats 200000 in
theorem sX12_formOf {E : E3} {Q : Q3} {M : M3} {x1 x2 : Int}
    (h : (0 ≤ x1 ∧ x1 < 60) ∧ ((mHow M x1 ≤ 0 → ((-2147483648 ≤ x2 ∧ x2 ≤ 2147483647) ∧ ((x2 = 0 → (Q (some (vI (M 56 0 x1))) M)) ∧ (¬(x2 = 0) → ((x2 = 1 → (Q (some (vI (M 57 0 x1))) M)) ∧ (¬(x2 = 1) → ((x2 = 2 → (Q (some (vI (M 58 0 x1))) M)) ∧ (¬(x2 = 2) → ((x2 = 3 → ((RdC M ∧ okF M x1) ∧ (∀ (N1 : M3), RM3 N1 → Em M N1 → (RdC N1) → (Q (some (vI (mRights M x1))) N1)))) ∧ (¬(x2 = 3) → ((x2 = 4 → (G3 E YX12_formOf Q 106 [(0, vR 44 0), (1, vI x1), (4, vI 0), (5, vI 0)] [] M)) ∧ (¬(x2 = 4) → ((x2 = 5 → ((RdC M ∧ okF M x1) ∧ (∀ (N1 : M3), RM3 N1 → Em M N1 → (RdC N1) → ((¬(mByT M x1) → (Q (some (vI 0)) N1)) ∧ ((mByT M x1) → (Q (some (vI 1)) N1)))))) ∧ (¬(x2 = 5) → ((x2 = 6 → (Q (some (vI (-1))) M)) ∧ (¬(x2 = 6) → ((x2 = 7 → (Q (some (vI (-1))) M)) ∧ (¬(x2 = 7) → ((x2 = 8 → (Q (some (vI (mHow M x1))) M)) ∧ (¬(x2 = 8) → ((x2 = 9 → (Q (some (vI (-1))) M)) ∧ (¬(x2 = 9) → ((x2 = 10 → ((RdC M ∧ okR M x1) ∧ (∀ (N1 : M3), RM3 N1 → Em M N1 → (RdC N1) → (Q (some (vI (mTrue M x1))) N1)))) ∧ (¬(x2 = 10) → ((RdC M ∧ okR M x1) ∧ (∀ (N1 : M3), RM3 N1 → Em M N1 → (RdC N1) → ((¬(mLate M x1) → (Q (some (vI 0)) N1)) ∧ ((mLate M x1) → (Q (some (vI 1)) N1))))))))))))))))))))))))))))) ∧ (0 < mHow M x1 → ((-2147483648 ≤ x2 ∧ x2 ≤ 2147483647) ∧ ((x2 = 0 → (Q (some (vI (M 56 0 x1))) M)) ∧ (¬(x2 = 0) → ((x2 = 1 → (Q (some (vI (M 57 0 x1))) M)) ∧ (¬(x2 = 1) → ((x2 = 2 → (Q (some (vI (M 58 0 x1))) M)) ∧ (¬(x2 = 2) → ((x2 = 3 → ((RdC M ∧ okF M x1) ∧ (∀ (N1 : M3), RM3 N1 → Em M N1 → (RdC N1) → (Q (some (vI (mRights M x1))) N1)))) ∧ (¬(x2 = 3) → ((x2 = 4 → (G3 E YX12_formOf Q 106 [(0, vR 44 0), (1, vI x1), (4, vI 0), (5, vI 0)] [] M)) ∧ (¬(x2 = 4) → ((x2 = 5 → ((RdC M ∧ okF M x1) ∧ (∀ (N1 : M3), RM3 N1 → Em M N1 → (RdC N1) → ((¬(mByT M x1) → (Q (some (vI 0)) N1)) ∧ ((mByT M x1) → (Q (some (vI 1)) N1)))))) ∧ (¬(x2 = 5) → ((x2 = 6 → (Q (some (vI (M 60 0 x1))) M)) ∧ (¬(x2 = 6) → ((x2 = 7 → (Q (some (vI (M 61 0 x1))) M)) ∧ (¬(x2 = 7) → ((x2 = 8 → (Q (some (vI (mHow M x1))) M)) ∧ (¬(x2 = 8) → ((x2 = 9 → (Q (some (vI (M 63 0 x1))) M)) ∧ (¬(x2 = 9) → ((x2 = 10 → ((RdC M ∧ okR M x1) ∧ (∀ (N1 : M3), RM3 N1 → Em M N1 → (RdC N1) → (Q (some (vI (mTrue M x1))) N1)))) ∧ (¬(x2 = 10) → ((RdC M ∧ okR M x1) ∧ (∀ (N1 : M3), RM3 N1 → Em M N1 → (RdC N1) → ((¬(mLate M x1) → (Q (some (vI 0)) N1)) ∧ ((mLate M x1) → (Q (some (vI 1)) N1))))))))))))))))))))))))))))))) :
    C3 E YX12_formOf [vR 44 0, vI x1, vI x2] M Q := by
  refine c3_in rfl rfl (z3 rfl) (g3_rm fun hM => ?_)
  refine g3_aload_n 0 dX12_formOf_0 rfl rfl (g3_iload_n 1 dX12_formOf_1 rfl rfl (g3_cV1 dX12_formOf_2 myX12_howOf mlX12_242 (z3 rfl) ob_44 (z3 rfl) (z3 rfl) (kX12_howOf h.1 (g3_r1 (g3_if_le (tgt := 12) dX12_formOf_5 rfl (mHow_rg hM _) (fun c => ?_) (fun c => ?_))))))
  · have h1 := h; have h := h1.2.1 c
    have o1 := h1.1
    refine g3_iconst dX12_formOf_12 (g3_istore_n (lv' := [(3, vI 0), (0, vR 44 0), (1, vI x1), (2, vI x2)]) dX12_formOf_13 rfl (z3 rfl) rfl (g3_iconst dX12_formOf_14 (g3_istore (lv' := [(4, vI 0), (3, vI 0), (0, vR 44 0), (1, vI x1), (2, vI x2)]) dX12_formOf_15 (z3 rfl) rfl (g3_iload_n 4 dX12_formOf_17 rfl rfl (?_)))))
    have o2 := h.1
    have hx := h.1
    have h := h.2
    refine g3_by (a := x2 = 0) (fun c => ?_) (fun cs0 => ?_)
    · have h := h.1 c
      refine g3_tin (n := 0) (tgt := 76) dX12_formOf_18 c (z3 rfl) (z3 rfl) rfl rfl ?_
      exact g3_aload_n 2 dX12_formOf_76 rfl rfl (g3_getR0 (t := 56) dX12_formOf_77 flX12_43 rfl (z3 rfl) (g3_iload_n 3 dX12_formOf_80 rfl rfl (g3_iald dX12_formOf_81 ar_56 (z3 rfl) o1 (g3_ireturn dX12_formOf_82 rfl h))))
    have h := h.2 cs0
    refine g3_by (a := x2 = 1) (fun c => ?_) (fun cs1 => ?_)
    · have h := h.1 c
      refine g3_tin (n := 1) (tgt := 83) dX12_formOf_18 c (z3 rfl) (z3 rfl) rfl rfl ?_
      exact g3_aload_n 2 dX12_formOf_83 rfl rfl (g3_getR0 (t := 57) dX12_formOf_84 flX12_46 rfl (z3 rfl) (g3_iload_n 3 dX12_formOf_87 rfl rfl (g3_iald dX12_formOf_88 ar_57 (z3 rfl) o1 (g3_ireturn dX12_formOf_89 rfl h))))
    have h := h.2 cs1
    refine g3_by (a := x2 = 2) (fun c => ?_) (fun cs2 => ?_)
    · have h := h.1 c
      refine g3_tin (n := 2) (tgt := 90) dX12_formOf_18 c (z3 rfl) (z3 rfl) rfl rfl ?_
      exact g3_aload_n 2 dX12_formOf_90 rfl rfl (g3_getR0 (t := 58) dX12_formOf_91 flX12_49 rfl (z3 rfl) (g3_iload_n 3 dX12_formOf_94 rfl rfl (g3_iald dX12_formOf_95 ar_58 (z3 rfl) o1 (g3_ireturn dX12_formOf_96 rfl h))))
    have h := h.2 cs2
    refine g3_by (a := x2 = 3) (fun c => ?_) (fun cs3 => ?_)
    · have h := h.1 c
      refine g3_tin (n := 3) (tgt := 97) dX12_formOf_18 c (z3 rfl) (z3 rfl) rfl rfl ?_
      refine g3_aload_n 2 dX12_formOf_97 rfl rfl (g3_iload_n 3 dX12_formOf_98 rfl rfl (g3_cV1 dX12_formOf_99 myX12_rightsOf mlX12_239 (z3 rfl) ob_44 (z3 rfl) (z3 rfl) (eX12_rightsOf Em.rf h.1 (fun N1 hN1 he1 hp1 => ?_))))
      have o3 := h.1
      have h := h.2 N1 hN1 he1 hp1
      refine g3_r1 ?_
      exact g3_ireturn dX12_formOf_102 rfl h
    have h := h.2 cs3
    refine g3_by (a := x2 = 4) (fun c => ?_) (fun cs4 => ?_)
    · have h := h.1 c
      refine g3_tin (n := 4) (tgt := 103) dX12_formOf_18 c (z3 rfl) (z3 rfl) rfl rfl ?_
      refine g3_iconst dX12_formOf_103 (g3_istore (lv' := [(5, vI 0), (4, vI 0), (3, vI 0), (0, vR 44 0), (1, vI x1), (2, vI x2)]) dX12_formOf_104 (z3 rfl) rfl (g3_sub [3, 4, 1, 0] rfl h))
    have h := h.2 cs4
    refine g3_by (a := x2 = 5) (fun c => ?_) (fun cs5 => ?_)
    · have h := h.1 c
      refine g3_tin (n := 5) (tgt := 148) dX12_formOf_18 c (z3 rfl) (z3 rfl) rfl rfl ?_
      refine g3_aload_n 2 dX12_formOf_148 rfl rfl (g3_iload_n 3 dX12_formOf_149 rfl rfl (g3_cV1 dX12_formOf_150 myX12_byText mlX12_251 (z3 rfl) ob_44 (z3 rfl) (z3 rfl) (eX12_byText Em.rf h.1 (fun N1 hN1 he1 hp1 => ?_))))
      have o4 := h.1
      have h := h.2 N1 hN1 he1 hp1
      refine g3_r1 ?_
      refine g3_bool_eq (tgt := 160) dX12_formOf_153 rfl (fun c => ?_) (fun c => ?_)
      · have h1 := h; have h := h1.1 c
        exact g3_iconst dX12_formOf_160 (g3_ireturn dX12_formOf_161 rfl h)
      · have h1 := h; have h := h1.2 c
        exact g3_iconst dX12_formOf_156 (g3_goto (tgt := 161) dX12_formOf_157 rfl (g3_ireturn dX12_formOf_161 rfl h))
    have h := h.2 cs5
    refine g3_by (a := x2 = 6) (fun c => ?_) (fun cs6 => ?_)
    · have h := h.1 c
      refine g3_tin (n := 6) (tgt := 162) dX12_formOf_18 c (z3 rfl) (z3 rfl) rfl rfl ?_
      exact g3_iload_n 1 dX12_formOf_162 rfl rfl (g3_if_eq_T (tgt := 175) dX12_formOf_163 rfl (z3 rfl) (g3_iconst dX12_formOf_175 (g3_ireturn dX12_formOf_176 rfl h)))
    have h := h.2 cs6
    refine g3_by (a := x2 = 7) (fun c => ?_) (fun cs7 => ?_)
    · have h := h.1 c
      refine g3_tin (n := 7) (tgt := 177) dX12_formOf_18 c (z3 rfl) (z3 rfl) rfl rfl ?_
      exact g3_iload_n 1 dX12_formOf_177 rfl rfl (g3_if_eq_T (tgt := 190) dX12_formOf_178 rfl (z3 rfl) (g3_iconst dX12_formOf_190 (g3_ireturn dX12_formOf_191 rfl h)))
    have h := h.2 cs7
    refine g3_by (a := x2 = 8) (fun c => ?_) (fun cs8 => ?_)
    · have h := h.1 c
      refine g3_tin (n := 8) (tgt := 192) dX12_formOf_18 c (z3 rfl) (z3 rfl) rfl rfl ?_
      exact g3_aload_n 2 dX12_formOf_192 rfl rfl (g3_iload_n 3 dX12_formOf_193 rfl rfl (g3_cV1 dX12_formOf_194 myX12_howOf mlX12_242 (z3 rfl) ob_44 (z3 rfl) (z3 rfl) (kX12_howOf o1 (g3_r1 (g3_ireturn dX12_formOf_197 rfl h)))))
    have h := h.2 cs8
    refine g3_by (a := x2 = 9) (fun c => ?_) (fun cs9 => ?_)
    · have h := h.1 c
      refine g3_tin (n := 9) (tgt := 198) dX12_formOf_18 c (z3 rfl) (z3 rfl) rfl rfl ?_
      exact g3_iload_n 1 dX12_formOf_198 rfl rfl (g3_if_eq_T (tgt := 211) dX12_formOf_199 rfl (z3 rfl) (g3_iconst dX12_formOf_211 (g3_ireturn dX12_formOf_212 rfl h)))
    have h := h.2 cs9
    refine g3_by (a := x2 = 10) (fun c => ?_) (fun cs10 => ?_)
    · have h := h.1 c
      refine g3_tin (n := 10) (tgt := 213) dX12_formOf_18 c (z3 rfl) (z3 rfl) rfl rfl ?_
      refine g3_aload_n 2 dX12_formOf_213 rfl rfl (g3_iload_n 3 dX12_formOf_214 rfl rfl (g3_cV1 dX12_formOf_215 myX12_trueReasons mlX12_254 (z3 rfl) ob_44 (z3 rfl) (z3 rfl) (eX12_trueReasons Em.rf h.1 (fun N1 hN1 he1 hp1 => ?_))))
      have o5 := h.1
      have h := h.2 N1 hN1 he1 hp1
      refine g3_r1 ?_
      exact g3_ireturn dX12_formOf_218 rfl h
    have h := h.2 cs10
    refine g3_tout (tgt := 219) dX12_formOf_18 hx (tout_0_10 cs0 cs1 cs2 cs3 cs4 cs5 cs6 cs7 cs8 cs9 cs10) rfl ?_
    refine g3_aload_n 2 dX12_formOf_219 rfl rfl (g3_iload_n 3 dX12_formOf_220 rfl rfl (g3_cV1 dX12_formOf_221 myX12_isLate mlX12_245 (z3 rfl) ob_44 (z3 rfl) (z3 rfl) (eX12_isLate Em.rf h.1 (fun N1 hN1 he1 hp1 => ?_))))
    have o6 := h.1
    have h := h.2 N1 hN1 he1 hp1
    refine g3_r1 ?_
    refine g3_bool_eq (tgt := 231) dX12_formOf_224 rfl (fun c => ?_) (fun c => ?_)
    · have h1 := h; have h := h1.1 c
      exact g3_iconst dX12_formOf_231 (g3_ireturn dX12_formOf_232 rfl h)
    · have h1 := h; have h := h1.2 c
      exact g3_iconst dX12_formOf_227 (g3_goto (tgt := 232) dX12_formOf_228 rfl (g3_ireturn dX12_formOf_232 rfl h))
  · have h1 := h; have h := h1.2.2 c
    have o1 := h1.1
    refine g3_iconst dX12_formOf_8 (g3_goto (tgt := 13) dX12_formOf_9 rfl (g3_istore_n (lv' := [(3, vI 1), (0, vR 44 0), (1, vI x1), (2, vI x2)]) dX12_formOf_13 rfl (z3 rfl) rfl (g3_iconst dX12_formOf_14 (g3_istore (lv' := [(4, vI 0), (3, vI 1), (0, vR 44 0), (1, vI x1), (2, vI x2)]) dX12_formOf_15 (z3 rfl) rfl (g3_iload_n 4 dX12_formOf_17 rfl rfl (?_))))))
    have o7 := h.1
    have hx := h.1
    have h := h.2
    refine g3_by (a := x2 = 0) (fun c => ?_) (fun cs0 => ?_)
    · have h := h.1 c
      refine g3_tin (n := 0) (tgt := 76) dX12_formOf_18 c (z3 rfl) (z3 rfl) rfl rfl ?_
      exact g3_aload_n 2 dX12_formOf_76 rfl rfl (g3_getR0 (t := 56) dX12_formOf_77 flX12_43 rfl (z3 rfl) (g3_iload_n 3 dX12_formOf_80 rfl rfl (g3_iald dX12_formOf_81 ar_56 (z3 rfl) o1 (g3_ireturn dX12_formOf_82 rfl h))))
    have h := h.2 cs0
    refine g3_by (a := x2 = 1) (fun c => ?_) (fun cs1 => ?_)
    · have h := h.1 c
      refine g3_tin (n := 1) (tgt := 83) dX12_formOf_18 c (z3 rfl) (z3 rfl) rfl rfl ?_
      exact g3_aload_n 2 dX12_formOf_83 rfl rfl (g3_getR0 (t := 57) dX12_formOf_84 flX12_46 rfl (z3 rfl) (g3_iload_n 3 dX12_formOf_87 rfl rfl (g3_iald dX12_formOf_88 ar_57 (z3 rfl) o1 (g3_ireturn dX12_formOf_89 rfl h))))
    have h := h.2 cs1
    refine g3_by (a := x2 = 2) (fun c => ?_) (fun cs2 => ?_)
    · have h := h.1 c
      refine g3_tin (n := 2) (tgt := 90) dX12_formOf_18 c (z3 rfl) (z3 rfl) rfl rfl ?_
      exact g3_aload_n 2 dX12_formOf_90 rfl rfl (g3_getR0 (t := 58) dX12_formOf_91 flX12_49 rfl (z3 rfl) (g3_iload_n 3 dX12_formOf_94 rfl rfl (g3_iald dX12_formOf_95 ar_58 (z3 rfl) o1 (g3_ireturn dX12_formOf_96 rfl h))))
    have h := h.2 cs2
    refine g3_by (a := x2 = 3) (fun c => ?_) (fun cs3 => ?_)
    · have h := h.1 c
      refine g3_tin (n := 3) (tgt := 97) dX12_formOf_18 c (z3 rfl) (z3 rfl) rfl rfl ?_
      refine g3_aload_n 2 dX12_formOf_97 rfl rfl (g3_iload_n 3 dX12_formOf_98 rfl rfl (g3_cV1 dX12_formOf_99 myX12_rightsOf mlX12_239 (z3 rfl) ob_44 (z3 rfl) (z3 rfl) (eX12_rightsOf Em.rf h.1 (fun N1 hN1 he1 hp1 => ?_))))
      have o8 := h.1
      have h := h.2 N1 hN1 he1 hp1
      refine g3_r1 ?_
      exact g3_ireturn dX12_formOf_102 rfl h
    have h := h.2 cs3
    refine g3_by (a := x2 = 4) (fun c => ?_) (fun cs4 => ?_)
    · have h := h.1 c
      refine g3_tin (n := 4) (tgt := 103) dX12_formOf_18 c (z3 rfl) (z3 rfl) rfl rfl ?_
      refine g3_iconst dX12_formOf_103 (g3_istore (lv' := [(5, vI 0), (4, vI 0), (3, vI 1), (0, vR 44 0), (1, vI x1), (2, vI x2)]) dX12_formOf_104 (z3 rfl) rfl (g3_sub [3, 4, 1, 0] rfl h))
    have h := h.2 cs4
    refine g3_by (a := x2 = 5) (fun c => ?_) (fun cs5 => ?_)
    · have h := h.1 c
      refine g3_tin (n := 5) (tgt := 148) dX12_formOf_18 c (z3 rfl) (z3 rfl) rfl rfl ?_
      refine g3_aload_n 2 dX12_formOf_148 rfl rfl (g3_iload_n 3 dX12_formOf_149 rfl rfl (g3_cV1 dX12_formOf_150 myX12_byText mlX12_251 (z3 rfl) ob_44 (z3 rfl) (z3 rfl) (eX12_byText Em.rf h.1 (fun N1 hN1 he1 hp1 => ?_))))
      have o9 := h.1
      have h := h.2 N1 hN1 he1 hp1
      refine g3_r1 ?_
      refine g3_bool_eq (tgt := 160) dX12_formOf_153 rfl (fun c => ?_) (fun c => ?_)
      · have h1 := h; have h := h1.1 c
        exact g3_iconst dX12_formOf_160 (g3_ireturn dX12_formOf_161 rfl h)
      · have h1 := h; have h := h1.2 c
        exact g3_iconst dX12_formOf_156 (g3_goto (tgt := 161) dX12_formOf_157 rfl (g3_ireturn dX12_formOf_161 rfl h))
    have h := h.2 cs5
    refine g3_by (a := x2 = 6) (fun c => ?_) (fun cs6 => ?_)
    · have h := h.1 c
      refine g3_tin (n := 6) (tgt := 162) dX12_formOf_18 c (z3 rfl) (z3 rfl) rfl rfl ?_
      exact g3_iload_n 1 dX12_formOf_162 rfl rfl (g3_if_eq_F (tgt := 175) dX12_formOf_163 rfl (z3 rfl) (g3_aload_n 2 dX12_formOf_166 rfl rfl (g3_getR0 (t := 60) dX12_formOf_167 flX12_55 rfl (z3 rfl) (g3_iload_n 3 dX12_formOf_170 rfl rfl (g3_iald dX12_formOf_171 ar_60 (z3 rfl) o1 (g3_goto (tgt := 176) dX12_formOf_172 rfl (g3_ireturn dX12_formOf_176 rfl h)))))))
    have h := h.2 cs6
    refine g3_by (a := x2 = 7) (fun c => ?_) (fun cs7 => ?_)
    · have h := h.1 c
      refine g3_tin (n := 7) (tgt := 177) dX12_formOf_18 c (z3 rfl) (z3 rfl) rfl rfl ?_
      exact g3_iload_n 1 dX12_formOf_177 rfl rfl (g3_if_eq_F (tgt := 190) dX12_formOf_178 rfl (z3 rfl) (g3_aload_n 2 dX12_formOf_181 rfl rfl (g3_getR0 (t := 61) dX12_formOf_182 flX12_58 rfl (z3 rfl) (g3_iload_n 3 dX12_formOf_185 rfl rfl (g3_iald dX12_formOf_186 ar_61 (z3 rfl) o1 (g3_goto (tgt := 191) dX12_formOf_187 rfl (g3_ireturn dX12_formOf_191 rfl h)))))))
    have h := h.2 cs7
    refine g3_by (a := x2 = 8) (fun c => ?_) (fun cs8 => ?_)
    · have h := h.1 c
      refine g3_tin (n := 8) (tgt := 192) dX12_formOf_18 c (z3 rfl) (z3 rfl) rfl rfl ?_
      exact g3_aload_n 2 dX12_formOf_192 rfl rfl (g3_iload_n 3 dX12_formOf_193 rfl rfl (g3_cV1 dX12_formOf_194 myX12_howOf mlX12_242 (z3 rfl) ob_44 (z3 rfl) (z3 rfl) (kX12_howOf o1 (g3_r1 (g3_ireturn dX12_formOf_197 rfl h)))))
    have h := h.2 cs8
    refine g3_by (a := x2 = 9) (fun c => ?_) (fun cs9 => ?_)
    · have h := h.1 c
      refine g3_tin (n := 9) (tgt := 198) dX12_formOf_18 c (z3 rfl) (z3 rfl) rfl rfl ?_
      exact g3_iload_n 1 dX12_formOf_198 rfl rfl (g3_if_eq_F (tgt := 211) dX12_formOf_199 rfl (z3 rfl) (g3_aload_n 2 dX12_formOf_202 rfl rfl (g3_getR0 (t := 63) dX12_formOf_203 flX12_64 rfl (z3 rfl) (g3_iload_n 3 dX12_formOf_206 rfl rfl (g3_iald dX12_formOf_207 ar_63 (z3 rfl) o1 (g3_goto (tgt := 212) dX12_formOf_208 rfl (g3_ireturn dX12_formOf_212 rfl h)))))))
    have h := h.2 cs9
    refine g3_by (a := x2 = 10) (fun c => ?_) (fun cs10 => ?_)
    · have h := h.1 c
      refine g3_tin (n := 10) (tgt := 213) dX12_formOf_18 c (z3 rfl) (z3 rfl) rfl rfl ?_
      refine g3_aload_n 2 dX12_formOf_213 rfl rfl (g3_iload_n 3 dX12_formOf_214 rfl rfl (g3_cV1 dX12_formOf_215 myX12_trueReasons mlX12_254 (z3 rfl) ob_44 (z3 rfl) (z3 rfl) (eX12_trueReasons Em.rf h.1 (fun N1 hN1 he1 hp1 => ?_))))
      have o10 := h.1
      have h := h.2 N1 hN1 he1 hp1
      refine g3_r1 ?_
      exact g3_ireturn dX12_formOf_218 rfl h
    have h := h.2 cs10
    refine g3_tout (tgt := 219) dX12_formOf_18 hx (tout_0_10 cs0 cs1 cs2 cs3 cs4 cs5 cs6 cs7 cs8 cs9 cs10) rfl ?_
    refine g3_aload_n 2 dX12_formOf_219 rfl rfl (g3_iload_n 3 dX12_formOf_220 rfl rfl (g3_cV1 dX12_formOf_221 myX12_isLate mlX12_245 (z3 rfl) ob_44 (z3 rfl) (z3 rfl) (eX12_isLate Em.rf h.1 (fun N1 hN1 he1 hp1 => ?_))))
    have o11 := h.1
    have h := h.2 N1 hN1 he1 hp1
    refine g3_r1 ?_
    refine g3_bool_eq (tgt := 231) dX12_formOf_224 rfl (fun c => ?_) (fun c => ?_)
    · have h1 := h; have h := h1.1 c
      exact g3_iconst dX12_formOf_231 (g3_ireturn dX12_formOf_232 rfl h)
    · have h1 := h; have h := h1.2 c
      exact g3_iconst dX12_formOf_227 (g3_goto (tgt := 232) dX12_formOf_228 rfl (g3_ireturn dX12_formOf_232 rfl h))
set_option maxRecDepth 20000 in
set_option maxHeartbeats 200000 in
theorem sX12_formOf_106 {E : E3} {Q : Q3} {M : M3} {x1 : Int} {x4 : Int} {x5 : Int}
    (h : (-2147483648 ≤ x5 ∧ x5 ≤ 2147483647) ∧ ((20 ≤ x5 → (Q (some (vI x4)) M)) ∧ (x5 < 20 → ((0 ≤ (20 * x1) + x5 ∧ (20 * x1) + x5 < 1200) ∧ ((M 59 0 ((20 * x1) + x5) ≠ (-1) → (G3 E YX12_formOf Q 106 [(0, vR 44 0), (1, vI x1), (4, vI (x4 + 0)), (5, vI (x5 + 1))] [] M)) ∧ (M 59 0 ((20 * x1) + x5) = (-1) → (G3 E YX12_formOf Q 106 [(0, vR 44 0), (1, vI x1), (4, vI (x4 + 1)), (5, vI (x5 + 1))] [] M))))))) :
    G3 E YX12_formOf Q 106 [(0, vR 44 0), (1, vI x1), (4, vI x4), (5, vI x5)] [] M := by
  refine g3_rm fun hM => ?_
  refine g3_iload 3 dX12_formOf_106 rfl (g3_bipush dX12_formOf_108 rfl (g3_icmp_ge (tgt := 145) dX12_formOf_110 rfl h.1 (z3 rfl) (fun c => ?_) (fun c => ?_)))
  · have h1 := h; have h := h1.2.1 c
    have o1 := h1.1
    exact g3_iload 2 dX12_formOf_145 rfl (g3_ireturn dX12_formOf_147 rfl h)
  · have h1 := h; have h := h1.2.2 c
    have o1 := h1.1
    refine g3_iload 2 dX12_formOf_113 rfl (g3_aload_n 0 dX12_formOf_115 rfl rfl (g3_getR0 (t := 59) dX12_formOf_116 flX12_52 rfl (z3 rfl) (g3_bipush dX12_formOf_119 rfl (g3_iload_n 1 dX12_formOf_121 rfl rfl (g3_imul dX12_formOf_122 (g3_iload 3 dX12_formOf_123 rfl (g3_iadd dX12_formOf_125 (g3_iald dX12_formOf_126 ar_59 (z3 rfl) h.1 (g3_iconst dX12_formOf_127 (g3_icmp_ne (tgt := 135) dX12_formOf_128 rfl (hM 59 0 ((20 * x1) + x5)) (z3 rfl) (fun c => ?_) (fun c => ?_)))))))))))
    · have h1 := h; have h := h1.2.1 c
      have o2 := h1.1
      refine g3_iconst dX12_formOf_135 (g3_iadd dX12_formOf_136 (g3_istore (lv' := [(4, vI (x4 + 0)), (0, vR 44 0), (1, vI x1), (5, vI x5)]) dX12_formOf_137 (z3 rfl) rfl (g3_iinc (lv' := [(5, vI (x5 + 1)), (4, vI (x4 + 0)), (0, vR 44 0), (1, vI x1)]) 3 dX12_formOf_139 rfl (z3 rfl) rfl (g3_goto (tgt := 106) dX12_formOf_142 rfl (g3_sub [2, 3, 1, 0] rfl h)))))
    · have h1 := h; have h := h1.2.2 c
      have o2 := h1.1
      refine g3_iconst dX12_formOf_131 (g3_goto (tgt := 136) dX12_formOf_132 rfl (g3_iadd dX12_formOf_136 (g3_istore (lv' := [(4, vI (x4 + 1)), (0, vR 44 0), (1, vI x1), (5, vI x5)]) dX12_formOf_137 (z3 rfl) rfl (g3_iinc (lv' := [(5, vI (x5 + 1)), (4, vI (x4 + 1)), (0, vR 44 0), (1, vI x1)]) 3 dX12_formOf_139 rfl (z3 rfl) rfl (g3_goto (tgt := 106) dX12_formOf_142 rfl (g3_sub [2, 3, 1, 0] rfl h))))))
set_option maxRecDepth 20000 in
set_option maxHeartbeats 200000 in
theorem sX12_count {E : E3} {Q : Q3} {M : M3} {x1 : Int}
    (h : (-2147483648 ≤ x1 ∧ x1 ≤ 2147483647) ∧ ((x1 = 0 → (Q (some (vI (M 44 0 0))) M)) ∧ (¬(x1 = 0) → ((x1 = 1 → (Q (some (vI (M 44 0 1))) M)) ∧ (¬(x1 = 1) → ((x1 = 2 → (((0 ≤ M 44 0 1 ∧ M 44 0 1 ≤ 48) ∧ ((-2147483648 ≤ ((-1) : Int) ∧ ((-1) : Int) ≤ 2147483647) ∧ (-2147483648 ≤ ((-1) : Int) ∧ ((-1) : Int) ≤ 2147483647) ∧ (-2147483648 ≤ (1 : Int) ∧ (1 : Int) ≤ 2147483647))) ∧ (Q (some (vI (mRoll M (-1) (-1) 1))) M))) ∧ (¬(x1 = 2) → ((x1 = 3 → (G3 E YX12_count Q 76 [(0, vR 44 0), (2, vI 0), (3, vI 0)] [] M)) ∧ (¬(x1 = 3) → ((x1 = 4 → (G3 E YX12_count Q 110 [(0, vR 44 0), (2, vI 0), (3, vI 0)] [] M)) ∧ (¬(x1 = 4) → ((x1 = 5 → (Q (some (vI (M 44 0 39))) M)) ∧ (¬(x1 = 5) → ((x1 = 6 → (Q (some (vI (M 44 0 32))) M)) ∧ (¬(x1 = 6) → ((x1 = 7 → (Q (some (vI (M 44 0 44))) M)) ∧ (¬(x1 = 7) → ((x1 = 8 → (Q (some (vI (M 44 0 9))) M)) ∧ (¬(x1 = 8) → ((x1 = 9 → (Q (some (vI (M 44 0 58))) M)) ∧ (¬(x1 = 9) → (Q (some (vI (-2))) M)))))))))))))))))))))) :
    C3 E YX12_count [vR 44 0, vI x1] M Q := by
  refine c3_in rfl rfl (z3 rfl) (g3_rm fun hM => ?_)
  refine g3_iconst dX12_count_0 (g3_istore_n (lv' := [(2, vI 0), (0, vR 44 0), (1, vI x1)]) dX12_count_1 rfl (z3 rfl) rfl (g3_iload_n 2 dX12_count_2 rfl rfl (?_)))
  have o1 := h.1
  have hx := h.1
  have h := h.2
  refine g3_by (a := x1 = 0) (fun c => ?_) (fun cs0 => ?_)
  · have h := h.1 c
    refine g3_tin (n := 0) (tgt := 56) dX12_count_3 c (z3 rfl) (z3 rfl) rfl rfl ?_
    exact g3_aload_n 1 dX12_count_56 rfl rfl (g3_getI (t := 0) dX12_count_57 flX12_151 (z3 rfl) (z3 rfl) (g3_ireturn dX12_count_60 rfl h))
  have h := h.2 cs0
  refine g3_by (a := x1 = 1) (fun c => ?_) (fun cs1 => ?_)
  · have h := h.1 c
    refine g3_tin (n := 1) (tgt := 61) dX12_count_3 c (z3 rfl) (z3 rfl) rfl rfl ?_
    exact g3_aload_n 1 dX12_count_61 rfl rfl (g3_getI (t := 0) dX12_count_62 flX12_148 (z3 rfl) (z3 rfl) (g3_ireturn dX12_count_65 rfl h))
  have h := h.2 cs1
  refine g3_by (a := x1 = 2) (fun c => ?_) (fun cs2 => ?_)
  · have h := h.1 c
    refine g3_tin (n := 2) (tgt := 66) dX12_count_3 c (z3 rfl) (z3 rfl) rfl rfl ?_
    exact g3_aload_n 1 dX12_count_66 rfl rfl (g3_iconst dX12_count_67 (g3_iconst dX12_count_68 (g3_iconst dX12_count_69 (g3_cV3 dX12_count_70 myX12_rollOf mlX12_174 (z3 rfl) ob_44 (z3 rfl) (z3 rfl) (kX12_rollOf h.1 (g3_r1 (g3_ireturn dX12_count_73 rfl h.2)))))))
  have h := h.2 cs2
  refine g3_by (a := x1 = 3) (fun c => ?_) (fun cs3 => ?_)
  · have h := h.1 c
    refine g3_tin (n := 3) (tgt := 74) dX12_count_3 c (z3 rfl) (z3 rfl) rfl rfl ?_
    refine g3_iconst dX12_count_74 (g3_istore_n (lv' := [(3, vI 0), (2, vI 0), (0, vR 44 0), (1, vI x1)]) dX12_count_75 rfl (z3 rfl) rfl (g3_sub [2, 1, 0] rfl h))
  have h := h.2 cs3
  refine g3_by (a := x1 = 4) (fun c => ?_) (fun cs4 => ?_)
  · have h := h.1 c
    refine g3_tin (n := 4) (tgt := 108) dX12_count_3 c (z3 rfl) (z3 rfl) rfl rfl ?_
    refine g3_iconst dX12_count_108 (g3_istore_n (lv' := [(3, vI 0), (2, vI 0), (0, vR 44 0), (1, vI x1)]) dX12_count_109 rfl (z3 rfl) rfl (g3_sub [2, 1, 0] rfl h))
  have h := h.2 cs4
  refine g3_by (a := x1 = 5) (fun c => ?_) (fun cs5 => ?_)
  · have h := h.1 c
    refine g3_tin (n := 5) (tgt := 142) dX12_count_3 c (z3 rfl) (z3 rfl) rfl rfl ?_
    exact g3_aload_n 1 dX12_count_142 rfl rfl (g3_getI (t := 0) dX12_count_143 flX12_303 (z3 rfl) (z3 rfl) (g3_ireturn dX12_count_146 rfl h))
  have h := h.2 cs5
  refine g3_by (a := x1 = 6) (fun c => ?_) (fun cs6 => ?_)
  · have h := h.1 c
    refine g3_tin (n := 6) (tgt := 147) dX12_count_3 c (z3 rfl) (z3 rfl) rfl rfl ?_
    exact g3_aload_n 1 dX12_count_147 rfl rfl (g3_getI (t := 0) dX12_count_148 flX12_281 (z3 rfl) (z3 rfl) (g3_ireturn dX12_count_151 rfl h))
  have h := h.2 cs6
  refine g3_by (a := x1 = 7) (fun c => ?_) (fun cs7 => ?_)
  · have h := h.1 c
    refine g3_tin (n := 7) (tgt := 152) dX12_count_3 c (z3 rfl) (z3 rfl) rfl rfl ?_
    exact g3_aload_n 1 dX12_count_152 rfl rfl (g3_getI (t := 0) dX12_count_153 flX12_315 (z3 rfl) (z3 rfl) (g3_ireturn dX12_count_156 rfl h))
  have h := h.2 cs7
  refine g3_by (a := x1 = 8) (fun c => ?_) (fun cs8 => ?_)
  · have h := h.1 c
    refine g3_tin (n := 8) (tgt := 157) dX12_count_3 c (z3 rfl) (z3 rfl) rfl rfl ?_
    exact g3_aload_n 1 dX12_count_157 rfl rfl (g3_getI (t := 0) dX12_count_158 flX12_178 (z3 rfl) (z3 rfl) (g3_ireturn dX12_count_161 rfl h))
  have h := h.2 cs8
  refine g3_by (a := x1 = 9) (fun c => ?_) (fun cs9 => ?_)
  · have h := h.1 c
    refine g3_tin (n := 9) (tgt := 162) dX12_count_3 c (z3 rfl) (z3 rfl) rfl rfl ?_
    exact g3_aload_n 1 dX12_count_162 rfl rfl (g3_getI (t := 0) dX12_count_163 flX12_344 (z3 rfl) (z3 rfl) (g3_ireturn dX12_count_166 rfl h))
  have h := h.2 cs9
  refine g3_tout (tgt := 167) dX12_count_3 hx (tout_0_9 cs0 cs1 cs2 cs3 cs4 cs5 cs6 cs7 cs8 cs9) rfl ?_
  exact g3_bipush dX12_count_167 rfl (g3_ireturn dX12_count_169 rfl h)
set_option maxRecDepth 20000 in
set_option maxHeartbeats 200000 in
theorem sX12_count_76 {E : E3} {Q : Q3} {M : M3} {x2 : Int} {x3 : Int}
    (h : (-2147483648 ≤ x3 ∧ x3 ≤ 2147483647) ∧ ((M 44 0 18 ≤ x3 → (Q (some (vI x2)) M)) ∧ (x3 < M 44 0 18 → ((0 ≤ x3 ∧ x3 < 60) ∧ ((¬(M 57 0 x3 ≤ mNow M) → (G3 E YX12_count Q 76 [(0, vR 44 0), (2, vI (x2 + 0)), (3, vI (x3 + 1))] [] M)) ∧ ((M 57 0 x3 ≤ mNow M) → (G3 E YX12_count Q 76 [(0, vR 44 0), (2, vI (x2 + 1)), (3, vI (x3 + 1))] [] M))))))) :
    G3 E YX12_count Q 76 [(0, vR 44 0), (2, vI x2), (3, vI x3)] [] M := by
  refine g3_rm fun hM => ?_
  refine g3_iload_n 2 dX12_count_76 rfl rfl (g3_aload_n 0 dX12_count_77 rfl rfl (g3_getI (t := 0) dX12_count_78 flX12_161 (z3 rfl) (z3 rfl) (g3_icmp_ge (tgt := 106) dX12_count_81 rfl h.1 (hM 44 0 18) (fun c => ?_) (fun c => ?_))))
  · have h1 := h; have h := h1.2.1 c
    have o1 := h1.1
    exact g3_iload_n 1 dX12_count_106 rfl rfl (g3_ireturn dX12_count_107 rfl h)
  · have h1 := h; have h := h1.2.2 c
    have o1 := h1.1
    refine g3_iload_n 1 dX12_count_84 rfl rfl (g3_aload_n 0 dX12_count_85 rfl rfl (g3_iload_n 2 dX12_count_86 rfl rfl (g3_cV1 dX12_count_87 myX12_isKnown mlX12_164 (z3 rfl) ob_44 (z3 rfl) (z3 rfl) (kX12_isKnown h.1 (g3_r1 (g3_bool_eq (tgt := 97) dX12_count_90 rfl (fun c => ?_) (fun c => ?_)))))))
    · have h1 := h; have h := h1.2.1 c
      have o2 := h1.1
      refine g3_iconst dX12_count_97 (g3_iadd dX12_count_98 (g3_istore_n (lv' := [(2, vI (x2 + 0)), (0, vR 44 0), (3, vI x3)]) dX12_count_99 rfl (z3 rfl) rfl (g3_iinc (lv' := [(3, vI (x3 + 1)), (2, vI (x2 + 0)), (0, vR 44 0)]) 2 dX12_count_100 rfl (z3 rfl) rfl (g3_goto (tgt := 76) dX12_count_103 rfl (g3_sub [2, 1, 0] rfl h)))))
    · have h1 := h; have h := h1.2.2 c
      have o2 := h1.1
      refine g3_iconst dX12_count_93 (g3_goto (tgt := 98) dX12_count_94 rfl (g3_iadd dX12_count_98 (g3_istore_n (lv' := [(2, vI (x2 + 1)), (0, vR 44 0), (3, vI x3)]) dX12_count_99 rfl (z3 rfl) rfl (g3_iinc (lv' := [(3, vI (x3 + 1)), (2, vI (x2 + 1)), (0, vR 44 0)]) 2 dX12_count_100 rfl (z3 rfl) rfl (g3_goto (tgt := 76) dX12_count_103 rfl (g3_sub [2, 1, 0] rfl h))))))
set_option maxRecDepth 20000 in
set_option maxHeartbeats 200000 in
theorem sX12_count_110 {E : E3} {Q : Q3} {M : M3} {x2 : Int} {x3 : Int}
    (h : (-2147483648 ≤ x3 ∧ x3 ≤ 2147483647) ∧ ((M 44 0 18 ≤ x3 → (Q (some (vI x2)) M)) ∧ (x3 < M 44 0 18 → ((0 ≤ x3 ∧ x3 < 60) ∧ ((mHow M x3 ≤ 0 → (G3 E YX12_count Q 110 [(0, vR 44 0), (2, vI (x2 + 0)), (3, vI (x3 + 1))] [] M)) ∧ (0 < mHow M x3 → (G3 E YX12_count Q 110 [(0, vR 44 0), (2, vI (x2 + 1)), (3, vI (x3 + 1))] [] M))))))) :
    G3 E YX12_count Q 110 [(0, vR 44 0), (2, vI x2), (3, vI x3)] [] M := by
  refine g3_rm fun hM => ?_
  refine g3_iload_n 2 dX12_count_110 rfl rfl (g3_aload_n 0 dX12_count_111 rfl rfl (g3_getI (t := 0) dX12_count_112 flX12_161 (z3 rfl) (z3 rfl) (g3_icmp_ge (tgt := 140) dX12_count_115 rfl h.1 (hM 44 0 18) (fun c => ?_) (fun c => ?_))))
  · have h1 := h; have h := h1.2.1 c
    have o1 := h1.1
    exact g3_iload_n 1 dX12_count_140 rfl rfl (g3_ireturn dX12_count_141 rfl h)
  · have h1 := h; have h := h1.2.2 c
    have o1 := h1.1
    refine g3_iload_n 1 dX12_count_118 rfl rfl (g3_aload_n 0 dX12_count_119 rfl rfl (g3_iload_n 2 dX12_count_120 rfl rfl (g3_cV1 dX12_count_121 myX12_howOf mlX12_242 (z3 rfl) ob_44 (z3 rfl) (z3 rfl) (kX12_howOf h.1 (g3_r1 (g3_if_le (tgt := 131) dX12_count_124 rfl (mHow_rg hM _) (fun c => ?_) (fun c => ?_)))))))
    · have h1 := h; have h := h1.2.1 c
      have o2 := h1.1
      refine g3_iconst dX12_count_131 (g3_iadd dX12_count_132 (g3_istore_n (lv' := [(2, vI (x2 + 0)), (0, vR 44 0), (3, vI x3)]) dX12_count_133 rfl (z3 rfl) rfl (g3_iinc (lv' := [(3, vI (x3 + 1)), (2, vI (x2 + 0)), (0, vR 44 0)]) 2 dX12_count_134 rfl (z3 rfl) rfl (g3_goto (tgt := 110) dX12_count_137 rfl (g3_sub [2, 1, 0] rfl h)))))
    · have h1 := h; have h := h1.2.2 c
      have o2 := h1.1
      refine g3_iconst dX12_count_127 (g3_goto (tgt := 132) dX12_count_128 rfl (g3_iadd dX12_count_132 (g3_istore_n (lv' := [(2, vI (x2 + 1)), (0, vR 44 0), (3, vI x3)]) dX12_count_133 rfl (z3 rfl) rfl (g3_iinc (lv' := [(3, vI (x3 + 1)), (2, vI (x2 + 1)), (0, vR 44 0)]) 2 dX12_count_134 rfl (z3 rfl) rfl (g3_goto (tgt := 110) dX12_count_137 rfl (g3_sub [2, 1, 0] rfl h))))))
