set_option maxRecDepth 20000 in
set_option maxHeartbeats 200000 in
theorem sX12_helpers {E : E3} {Q : Q3} {M : M3} {x1 x2 : Int}
    (h : ((-2147483648 ≤ x1 ∧ x1 ≤ 2147483647) ∧ (-2147483648 ≤ (0 : Int) ∧ (0 : Int) ≤ 2147483647) ∧ (-2147483648 ≤ (12 : Int) ∧ (12 : Int) ≤ 2147483647)) ∧ ((¬(0 ≤ x1 ∧ x1 ≤ 12) → (Q (some (vI (-2))) M)) ∧ ((0 ≤ x1 ∧ x1 ≤ 12) → (((-2147483648 ≤ x2 ∧ x2 ≤ 2147483647) ∧ (-2147483648 ≤ ((-1) : Int) ∧ ((-1) : Int) ≤ 2147483647) ∧ (-2147483648 ≤ (5 : Int) ∧ (5 : Int) ≤ 2147483647)) ∧ ((((-1) ≤ x2 ∧ x2 ≤ 5) → (G3 E YX12_helpers Q 24 [(0, vR 44 0), (1, vI x1), (2, vI x2), (3, vI 0)] [] M)) ∧ (¬((-1) ≤ x2 ∧ x2 ≤ 5) → (Q (some (vI (-2))) M))))))) :
    C3 E YX12_helpers [vR 44 0, vI x1, vI x2] M Q := by
  refine c3_in rfl rfl (z3 rfl) (g3_rm fun hM => ?_)
  refine g3_iload_n 1 dX12_helpers_0 rfl rfl (g3_iconst dX12_helpers_1 (g3_bipush dX12_helpers_2 rfl (g3_cS3 dX12_helpers_4 myX12_in mlX12_144 (z3 rfl) (z3 rfl) (kX12_in h.1 (g3_r1 (g3_bool_eq (tgt := 19) dX12_helpers_7 rfl (fun c => ?_) (fun c => ?_)))))))
  · have h1 := h; have h := h1.2.1 c
    have o1 := h1.1
    exact g3_bipush dX12_helpers_19 rfl (g3_ireturn dX12_helpers_21 rfl h)
  · have h1 := h; have h := h1.2.2 c
    have o1 := h1.1
    refine g3_iload_n 2 dX12_helpers_10 rfl rfl (g3_iconst dX12_helpers_11 (g3_iconst dX12_helpers_12 (g3_cS3 dX12_helpers_13 myX12_in mlX12_144 (z3 rfl) (z3 rfl) (kX12_in h.1 (g3_r1 (g3_bool_ne (tgt := 22) dX12_helpers_16 rfl (fun c => ?_) (fun c => ?_)))))))
    · have h1 := h; have h := h1.2.1 c
      have o2 := h1.1
      refine g3_iconst dX12_helpers_22 (g3_istore_n (lv' := [(3, vI 0), (0, vR 44 0), (1, vI x1), (2, vI x2)]) dX12_helpers_23 rfl (z3 rfl) rfl (g3_sub [1, 2, 3, 0] rfl h))
    · have h1 := h; have h := h1.2.2 c
      have o2 := h1.1
      exact g3_bipush dX12_helpers_19 rfl (g3_ireturn dX12_helpers_21 rfl h)
set_option maxRecDepth 20000 in
set_option maxHeartbeats 200000 in
theorem sX12_helpers_24 {E : E3} {Q : Q3} {M : M3} {x1 : Int} {x2 : Int} {x3 : Int}
    (h : (-2147483648 ≤ x3 ∧ x3 ≤ 2147483647) ∧ ((78 ≤ x3 → (G3 E YX12_helpers Q 62 [(0, vR 44 0), (1, vI x1), (2, vI x2), (3, vI (-1)), (4, vI 0), (5, vI 0)] [] M)) ∧ (x3 < 78 → ((0 ≤ x3 ∧ x3 ≤ 2147483647) ∧ ((RdC M ∧ okP M ∧ (-2147483648 ≤ (x3 / 13) ∧ (x3 / 13) ≤ 2147483647) ∧ 0 ≤ (x3 % 13) ∧ (x3 % 13) ≤ 12) ∧ (∀ (N1 : M3), RM3 N1 → Em M N1 → (RdC N1) → ((0 ≤ x3 ∧ x3 < 78) ∧ ((-2147483648 ≤ mRdy M (x3 / 13) (x3 % 13) ∧ mRdy M (x3 / 13) (x3 % 13) ≤ 2147483647) ∧ (G3 E YX12_helpers Q 24 [(0, vR 44 0), (1, vI x1), (2, vI x2), (3, vI (x3 + 1))] [] (up3 N1 68 0 x3 (mRdy M (x3 / 13) (x3 % 13)))))))))))) :
    G3 E YX12_helpers Q 24 [(0, vR 44 0), (1, vI x1), (2, vI x2), (3, vI x3)] [] M := by
  refine g3_rm fun hM => ?_
  refine g3_iload_n 3 dX12_helpers_24 rfl rfl (g3_bipush dX12_helpers_25 rfl (g3_icmp_ge (tgt := 54) dX12_helpers_27 rfl h.1 (z3 rfl) (fun c => ?_) (fun c => ?_)))
  · have h1 := h; have h := h1.2.1 c
    have o1 := h1.1
    refine g3_iconst dX12_helpers_54 (g3_istore_n (lv' := [(3, vI (-1)), (0, vR 44 0), (1, vI x1), (2, vI x2)]) dX12_helpers_55 rfl (z3 rfl) rfl (g3_iconst dX12_helpers_56 (g3_istore (lv' := [(4, vI 0), (3, vI (-1)), (0, vR 44 0), (1, vI x1), (2, vI x2)]) dX12_helpers_57 (z3 rfl) rfl (g3_iconst dX12_helpers_59 (g3_istore (lv' := [(5, vI 0), (4, vI 0), (3, vI (-1)), (0, vR 44 0), (1, vI x1), (2, vI x2)]) dX12_helpers_60 (z3 rfl) rfl (g3_sub [3, 4, 5, 2, 1, 0] rfl h))))))
  · have h1 := h; have h := h1.2.2 c
    have o1 := h1.1
    refine g3_aload_n 0 dX12_helpers_30 rfl rfl (g3_getR0 (t := 68) dX12_helpers_31 flX12_92 rfl (z3 rfl) (g3_iload_n 3 dX12_helpers_34 rfl rfl (g3_aload_n 0 dX12_helpers_35 rfl rfl (g3_iload_n 3 dX12_helpers_36 rfl rfl (g3_bipush dX12_helpers_37 rfl (g3_idiv dX12_helpers_39 h.1 (z3 rfl) (g3_iload_n 3 dX12_helpers_40 rfl rfl (g3_bipush dX12_helpers_41 rfl (g3_irem dX12_helpers_43 h.1 (z3 rfl) (g3_cV2 dX12_helpers_44 myX12_readyOf mlX12_293 (z3 rfl) ob_44 (z3 rfl) (z3 rfl) (eX12_readyOf Em.rf h.2.1 (fun N1 hN1 he1 hp1 => ?_))))))))))))
    have o2 := h.1
    have o3 := h.2.1
    have h := h.2.2 N1 hN1 he1 hp1
    refine g3_r1 ?_
    refine g3_iast dX12_helpers_47 ar_68 (z3 rfl) h.1 h.2.1 (g3_iinc (lv' := [(3, vI (x3 + 1)), (0, vR 44 0), (1, vI x1), (2, vI x2)]) 3 dX12_helpers_48 rfl (z3 rfl) rfl (g3_goto (tgt := 24) dX12_helpers_51 rfl (g3_sub [1, 2, 3, 0] rfl h.2.2)))
set_option maxRecDepth 20000 in
set_option maxHeartbeats 200000 in
theorem sX12_helpers_62 {E : E3} {Q : Q3} {M : M3} {x1 : Int} {x2 : Int} {x3 : Int} {x4 : Int} {x5 : Int}
    (h : (-2147483648 ≤ x5 ∧ x5 ≤ 2147483647) ∧ ((6 ≤ x5 → (G3 E YX12_helpers Q 86 [(0, vR 44 0), (1, vI x1), (2, vI x2), (3, vI x3), (4, vI x4), (5, vI 1)] [] M)) ∧ (x5 < 6 → ((0 ≤ x5 ∧ x5 < 6) ∧ (G3 E YX12_helpers Q 62 [(0, vR 44 0), (1, vI x1), (2, vI x2), (3, vI x3), (4, vI x4), (5, vI (x5 + 1))] [] (up3 M 69 0 x5 0)))))) :
    G3 E YX12_helpers Q 62 [(0, vR 44 0), (1, vI x1), (2, vI x2), (3, vI x3), (4, vI x4), (5, vI x5)] [] M := by
  refine g3_rm fun hM => ?_
  refine g3_iload 5 dX12_helpers_62 rfl (g3_bipush dX12_helpers_64 rfl (g3_icmp_ge (tgt := 83) dX12_helpers_66 rfl h.1 (z3 rfl) (fun c => ?_) (fun c => ?_)))
  · have h1 := h; have h := h1.2.1 c
    have o1 := h1.1
    refine g3_iconst dX12_helpers_83 (g3_istore (lv' := [(5, vI 1), (0, vR 44 0), (1, vI x1), (2, vI x2), (3, vI x3), (4, vI x4)]) dX12_helpers_84 (z3 rfl) rfl (g3_sub [1, 2, 3, 4, 5, 0] rfl h))
  · have h1 := h; have h := h1.2.2 c
    have o1 := h1.1
    refine g3_aload_n 0 dX12_helpers_69 rfl rfl (g3_getR0 (t := 69) dX12_helpers_70 flX12_95 rfl (z3 rfl) (g3_iload 5 dX12_helpers_73 rfl (g3_iconst dX12_helpers_75 (g3_iast dX12_helpers_76 ar_69 (z3 rfl) h.1 (z3 rfl) (g3_iinc (lv' := [(5, vI (x5 + 1)), (0, vR 44 0), (1, vI x1), (2, vI x2), (3, vI x3), (4, vI x4)]) 5 dX12_helpers_77 rfl (z3 rfl) rfl (g3_goto (tgt := 62) dX12_helpers_80 rfl (g3_sub [1, 2, 3, 4, 5, 0] rfl h.2)))))))
set_option maxRecDepth 20000 in
set_option maxHeartbeats 200000 in
theorem sX12_helpers_86 {E : E3} {Q : Q3} {M : M3} {x1 : Int} {x2 : Int} {x3 : Int} {x4 : Int} {x5 : Int}
    (h : (-2147483648 ≤ x5 ∧ x5 ≤ 2147483647) ∧ ((x5 = 0 → ((-2147483648 ≤ x2 ∧ x2 ≤ 2147483647) ∧ ((x2 ≠ (-1) → ((0 ≤ x2 ∧ x2 < 6) ∧ (Q (some (vI (M 70 0 x2))) M))) ∧ (x2 = (-1) → (Q (some (vI x3)) M))))) ∧ (x5 ≠ 0 → (G3 E YX12_helpers Q 100 [(0, vR 44 0), (1, vI x1), (2, vI x2), (3, vI x3), (4, vI x4), (6, vI 0), (7, vI 0), (8, vI 0)] [] M)))) :
    G3 E YX12_helpers Q 86 [(0, vR 44 0), (1, vI x1), (2, vI x2), (3, vI x3), (4, vI x4), (5, vI x5)] [] M := by
  refine g3_rm fun hM => ?_
  refine g3_iload 5 dX12_helpers_86 rfl (g3_if_eq (tgt := 230) dX12_helpers_88 rfl h.1 (fun c => ?_) (fun c => ?_))
  · have h1 := h; have h := h1.2.1 c
    have o1 := h1.1
    refine g3_iload_n 2 dX12_helpers_230 rfl rfl (g3_iconst dX12_helpers_231 (g3_icmp_ne (tgt := 239) dX12_helpers_232 rfl h.1 (z3 rfl) (fun c => ?_) (fun c => ?_)))
    · have h1 := h; have h := h1.2.1 c
      have o2 := h1.1
      exact g3_aload_n 0 dX12_helpers_239 rfl rfl (g3_getR0 (t := 70) dX12_helpers_240 flX12_98 rfl (z3 rfl) (g3_iload_n 2 dX12_helpers_243 rfl rfl (g3_iald dX12_helpers_244 ar_70 (z3 rfl) h.1 (g3_ireturn dX12_helpers_245 rfl h.2))))
    · have h1 := h; have h := h1.2.2 c
      have o2 := h1.1
      exact g3_iload_n 3 dX12_helpers_235 rfl rfl (g3_goto (tgt := 245) dX12_helpers_236 rfl (g3_ireturn dX12_helpers_245 rfl h))
  · have h1 := h; have h := h1.2.2 c
    have o1 := h1.1
    refine g3_iconst dX12_helpers_91 (g3_istore (lv' := [(6, vI 0), (0, vR 44 0), (1, vI x1), (2, vI x2), (3, vI x3), (4, vI x4), (5, vI x5)]) dX12_helpers_92 (z3 rfl) rfl (g3_iconst dX12_helpers_94 (g3_istore (lv' := [(7, vI 0), (6, vI 0), (0, vR 44 0), (1, vI x1), (2, vI x2), (3, vI x3), (4, vI x4), (5, vI x5)]) dX12_helpers_95 (z3 rfl) rfl (g3_iconst dX12_helpers_97 (g3_istore (lv' := [(8, vI 0), (7, vI 0), (6, vI 0), (0, vR 44 0), (1, vI x1), (2, vI x2), (3, vI x3), (4, vI x4), (5, vI x5)]) dX12_helpers_98 (z3 rfl) rfl (g3_sub [3, 4, 5, 6, 7, 2, 1, 0] rfl h))))))
set_option maxRecDepth 20000 in
set_option maxHeartbeats 200000 in
theorem sX12_helpers_100 {E : E3} {Q : Q3} {M : M3} {x1 : Int} {x2 : Int} {x3 : Int} {x4 : Int} {x6 : Int} {x7 : Int} {x8 : Int}
    (h : (-2147483648 ≤ x8 ∧ x8 ≤ 2147483647) ∧ ((6 ≤ x8 → ((-2147483648 ≤ x7 ∧ x7 ≤ 2147483647) ∧ ((-2147483648 ≤ x3 ∧ x3 ≤ 2147483647) ∧ ((x3 < x7 → (G3 E YX12_helpers Q 191 [(0, vR 44 0), (1, vI x1), (2, vI x2), (3, vI x7), (4, vI x6), (6, vI x6), (8, vI 0)] [] M)) ∧ (x7 ≤ x3 → ((x7 ≠ x3 → ((preNxg M x1 x6) ∧ (∀ (r1 : Int) (N1 : M3), RM3 N1 → (∀ q : Nat, q ∉ ([69] : List Nat) → N1 q = M q) → (poNxg M x1 x6 r1 N1) → (G3 E YX12_helpers Q 86 [(0, vR 44 0), (1, vI x1), (2, vI x2), (3, vI x3), (4, vI x4), (5, vI r1)] [] N1)))) ∧ (x7 = x3 → ((-2147483648 ≤ x6 ∧ x6 ≤ 2147483647) ∧ ((-2147483648 ≤ x4 ∧ x4 ≤ 2147483647) ∧ ((x6 < x4 → (G3 E YX12_helpers Q 191 [(0, vR 44 0), (1, vI x1), (2, vI x2), (3, vI x7), (4, vI x6), (6, vI x6), (8, vI 0)] [] M)) ∧ (x4 ≤ x6 → ((x6 ≠ x4 → ((preNxg M x1 x6) ∧ (∀ (r1 : Int) (N1 : M3), RM3 N1 → (∀ q : Nat, q ∉ ([69] : List Nat) → N1 q = M q) → (poNxg M x1 x6 r1 N1) → (G3 E YX12_helpers Q 86 [(0, vR 44 0), (1, vI x1), (2, vI x2), (3, vI x3), (4, vI x4), (5, vI r1)] [] N1)))) ∧ (x6 = x4 → ((¬(mMA M) → ((preNxg M x1 x6) ∧ (∀ (r1 : Int) (N1 : M3), RM3 N1 → (∀ q : Nat, q ∉ ([69] : List Nat) → N1 q = M q) → (poNxg M x1 x6 r1 N1) → (G3 E YX12_helpers Q 86 [(0, vR 44 0), (1, vI x1), (2, vI x2), (3, vI x3), (4, vI x4), (5, vI r1)] [] N1)))) ∧ ((mMA M) → (G3 E YX12_helpers Q 191 [(0, vR 44 0), (1, vI x1), (2, vI x2), (3, vI x7), (4, vI x6), (6, vI x6), (8, vI 0)] [] M)))))))))))))))) ∧ (x8 < 6 → ((0 ≤ x8 ∧ x8 < 6) ∧ ((0 ≤ (13 * x8) + (M 69 0 x8) ∧ (13 * x8) + (M 69 0 x8) < 78) ∧ (G3 E YX12_helpers Q 100 [(0, vR 44 0), (1, vI x1), (2, vI x2), (3, vI x3), (4, vI x4), (6, vI (x6 + (M 69 0 x8))), (7, vI (x7 + (M 68 0 ((13 * x8) + (M 69 0 x8))))), (8, vI (x8 + 1))] [] M)))))) :
    G3 E YX12_helpers Q 100 [(0, vR 44 0), (1, vI x1), (2, vI x2), (3, vI x3), (4, vI x4), (6, vI x6), (7, vI x7), (8, vI x8)] [] M := by
  refine g3_rm fun hM => ?_
  refine g3_iload 7 dX12_helpers_100 rfl (g3_bipush dX12_helpers_102 rfl (g3_icmp_ge (tgt := 148) dX12_helpers_104 rfl h.1 (z3 rfl) (fun c => ?_) (fun c => ?_)))
  · have h1 := h; have h := h1.2.1 c
    have o1 := h1.1
    refine g3_iload 6 dX12_helpers_148 rfl (g3_iload_n 3 dX12_helpers_150 rfl rfl (g3_icmp_gt (tgt := 181) dX12_helpers_151 rfl h.1 h.2.1 (fun c => ?_) (fun c => ?_)))
    · have h1 := h; have h := h1.2.2.1 c
      have o2 := h1.1
      have o3 := h1.2.1
      refine g3_iload 6 dX12_helpers_181 rfl (g3_istore_n (lv' := [(3, vI x7), (0, vR 44 0), (1, vI x1), (2, vI x2), (4, vI x4), (6, vI x6), (7, vI x7), (8, vI x8)]) dX12_helpers_183 rfl (z3 rfl) rfl (g3_iload 5 dX12_helpers_184 rfl (g3_istore (lv' := [(4, vI x6), (3, vI x7), (0, vR 44 0), (1, vI x1), (2, vI x2), (6, vI x6), (7, vI x7), (8, vI x8)]) dX12_helpers_186 (z3 rfl) rfl (g3_iconst dX12_helpers_188 (g3_istore (lv' := [(8, vI 0), (4, vI x6), (3, vI x7), (0, vR 44 0), (1, vI x1), (2, vI x2), (6, vI x6), (7, vI x7)]) dX12_helpers_189 (z3 rfl) rfl (g3_sub [3, 4, 5, 2, 1, 6, 0] rfl h))))))
    · have h1 := h; have h := h1.2.2.2 c
      have o2 := h1.1
      have o3 := h1.2.1
      refine g3_iload 6 dX12_helpers_154 rfl (g3_iload_n 3 dX12_helpers_156 rfl rfl (g3_icmp_ne (tgt := 218) dX12_helpers_157 rfl o2 o3 (fun c => ?_) (fun c => ?_)))
      · have h1 := h; have h := h1.1 c
        refine g3_aload_n 0 dX12_helpers_218 rfl rfl (g3_iload_n 1 dX12_helpers_219 rfl rfl (g3_iload 5 dX12_helpers_220 rfl (g3_cV2 dX12_helpers_222 myX12_nextGiven mlX12_300 (z3 rfl) ob_44 (z3 rfl) (z3 rfl) (kX12_nextGiven h.1 (fun r1 N1 hN1 hf1 hp1 => ?_)))))
        have o4 := h.1
        have h := h.2 r1 N1 hN1 hf1 hp1
        refine g3_r1 ?_
        refine g3_istore (lv' := [(5, vI r1), (0, vR 44 0), (1, vI x1), (2, vI x2), (3, vI x3), (4, vI x4), (6, vI x6), (7, vI x7), (8, vI x8)]) dX12_helpers_225 (z3 rfl) rfl (g3_goto (tgt := 86) dX12_helpers_227 rfl (g3_sub [1, 2, 3, 4, 5, 0] rfl h))
      · have h1 := h; have h := h1.2 c
        refine g3_iload 5 dX12_helpers_160 rfl (g3_iload 4 dX12_helpers_162 rfl (g3_icmp_lt (tgt := 181) dX12_helpers_164 rfl h.1 h.2.1 (fun c => ?_) (fun c => ?_)))
        · have h1 := h; have h := h1.2.2.1 c
          have o5 := h1.1
          have o6 := h1.2.1
          refine g3_iload 6 dX12_helpers_181 rfl (g3_istore_n (lv' := [(3, vI x7), (0, vR 44 0), (1, vI x1), (2, vI x2), (4, vI x4), (6, vI x6), (7, vI x7), (8, vI x8)]) dX12_helpers_183 rfl (z3 rfl) rfl (g3_iload 5 dX12_helpers_184 rfl (g3_istore (lv' := [(4, vI x6), (3, vI x7), (0, vR 44 0), (1, vI x1), (2, vI x2), (6, vI x6), (7, vI x7), (8, vI x8)]) dX12_helpers_186 (z3 rfl) rfl (g3_iconst dX12_helpers_188 (g3_istore (lv' := [(8, vI 0), (4, vI x6), (3, vI x7), (0, vR 44 0), (1, vI x1), (2, vI x2), (6, vI x6), (7, vI x7)]) dX12_helpers_189 (z3 rfl) rfl (g3_sub [3, 4, 5, 2, 1, 6, 0] rfl h))))))
        · have h1 := h; have h := h1.2.2.2 c
          have o5 := h1.1
          have o6 := h1.2.1
          refine g3_iload 5 dX12_helpers_167 rfl (g3_iload 4 dX12_helpers_169 rfl (g3_icmp_ne (tgt := 218) dX12_helpers_171 rfl o5 o6 (fun c => ?_) (fun c => ?_)))
          · have h1 := h; have h := h1.1 c
            refine g3_aload_n 0 dX12_helpers_218 rfl rfl (g3_iload_n 1 dX12_helpers_219 rfl rfl (g3_iload 5 dX12_helpers_220 rfl (g3_cV2 dX12_helpers_222 myX12_nextGiven mlX12_300 (z3 rfl) ob_44 (z3 rfl) (z3 rfl) (kX12_nextGiven h.1 (fun r1 N1 hN1 hf1 hp1 => ?_)))))
            have o7 := h.1
            have h := h.2 r1 N1 hN1 hf1 hp1
            refine g3_r1 ?_
            refine g3_istore (lv' := [(5, vI r1), (0, vR 44 0), (1, vI x1), (2, vI x2), (3, vI x3), (4, vI x4), (6, vI x6), (7, vI x7), (8, vI x8)]) dX12_helpers_225 (z3 rfl) rfl (g3_goto (tgt := 86) dX12_helpers_227 rfl (g3_sub [1, 2, 3, 4, 5, 0] rfl h))
          · have h1 := h; have h := h1.2 c
            refine g3_aload_n 0 dX12_helpers_174 rfl rfl (g3_cV0 dX12_helpers_175 myX12_isMoreAhead mlX12_296 (z3 rfl) ob_44 (z3 rfl) (z3 rfl) (kX12_isMoreAhead (g3_r1 (g3_bool_eq (tgt := 218) dX12_helpers_178 rfl (fun c => ?_) (fun c => ?_)))))
            · have h1 := h; have h := h1.1 c
              refine g3_aload_n 0 dX12_helpers_218 rfl rfl (g3_iload_n 1 dX12_helpers_219 rfl rfl (g3_iload 5 dX12_helpers_220 rfl (g3_cV2 dX12_helpers_222 myX12_nextGiven mlX12_300 (z3 rfl) ob_44 (z3 rfl) (z3 rfl) (kX12_nextGiven h.1 (fun r1 N1 hN1 hf1 hp1 => ?_)))))
              have o8 := h.1
              have h := h.2 r1 N1 hN1 hf1 hp1
              refine g3_r1 ?_
              refine g3_istore (lv' := [(5, vI r1), (0, vR 44 0), (1, vI x1), (2, vI x2), (3, vI x3), (4, vI x4), (6, vI x6), (7, vI x7), (8, vI x8)]) dX12_helpers_225 (z3 rfl) rfl (g3_goto (tgt := 86) dX12_helpers_227 rfl (g3_sub [1, 2, 3, 4, 5, 0] rfl h))
            · have h1 := h; have h := h1.2 c
              refine g3_iload 6 dX12_helpers_181 rfl (g3_istore_n (lv' := [(3, vI x7), (0, vR 44 0), (1, vI x1), (2, vI x2), (4, vI x4), (6, vI x6), (7, vI x7), (8, vI x8)]) dX12_helpers_183 rfl (z3 rfl) rfl (g3_iload 5 dX12_helpers_184 rfl (g3_istore (lv' := [(4, vI x6), (3, vI x7), (0, vR 44 0), (1, vI x1), (2, vI x2), (6, vI x6), (7, vI x7), (8, vI x8)]) dX12_helpers_186 (z3 rfl) rfl (g3_iconst dX12_helpers_188 (g3_istore (lv' := [(8, vI 0), (4, vI x6), (3, vI x7), (0, vR 44 0), (1, vI x1), (2, vI x2), (6, vI x6), (7, vI x7)]) dX12_helpers_189 (z3 rfl) rfl (g3_sub [3, 4, 5, 2, 1, 6, 0] rfl h))))))
  · have h1 := h; have h := h1.2.2 c
    have o1 := h1.1
    refine g3_iload 5 dX12_helpers_107 rfl (g3_aload_n 0 dX12_helpers_109 rfl rfl (g3_getR0 (t := 69) dX12_helpers_110 flX12_95 rfl (z3 rfl) (g3_iload 7 dX12_helpers_113 rfl (g3_iald dX12_helpers_115 ar_69 (z3 rfl) h.1 (g3_iadd dX12_helpers_116 (g3_istore (lv' := [(6, vI (x6 + (M 69 0 x8))), (0, vR 44 0), (1, vI x1), (2, vI x2), (3, vI x3), (4, vI x4), (7, vI x7), (8, vI x8)]) dX12_helpers_117 (z3 rfl) rfl (g3_iload 6 dX12_helpers_119 rfl (g3_aload_n 1 dX12_helpers_121 rfl rfl (g3_getR0 (t := 68) dX12_helpers_122 flX12_92 rfl (z3 rfl) (g3_bipush dX12_helpers_125 rfl (g3_iload 7 dX12_helpers_127 rfl (g3_imul dX12_helpers_129 (g3_aload_n 1 dX12_helpers_130 rfl rfl (g3_getR0 (t := 69) dX12_helpers_131 flX12_95 rfl (z3 rfl) (g3_iload 7 dX12_helpers_134 rfl (g3_iald dX12_helpers_136 ar_69 (z3 rfl) h.1 (g3_iadd dX12_helpers_137 (g3_iald dX12_helpers_138 ar_68 (z3 rfl) h.2.1 (g3_iadd dX12_helpers_139 (g3_istore (lv' := [(7, vI (x7 + (M 68 0 ((13 * x8) + (M 69 0 x8))))), (6, vI (x6 + (M 69 0 x8))), (0, vR 44 0), (1, vI x1), (2, vI x2), (3, vI x3), (4, vI x4), (8, vI x8)]) dX12_helpers_140 (z3 rfl) rfl (g3_iinc (lv' := [(8, vI (x8 + 1)), (7, vI (x7 + (M 68 0 ((13 * x8) + (M 69 0 x8))))), (6, vI (x6 + (M 69 0 x8))), (0, vR 44 0), (1, vI x1), (2, vI x2), (3, vI x3), (4, vI x4)]) 7 dX12_helpers_142 rfl (z3 rfl) rfl (g3_goto (tgt := 100) dX12_helpers_145 rfl (g3_sub [3, 4, 5, 6, 7, 2, 1, 0] rfl h.2.2)))))))))))))))))))))))
set_option maxRecDepth 20000 in
set_option maxHeartbeats 200000 in
theorem sX12_helpers_191 {E : E3} {Q : Q3} {M : M3} {x1 : Int} {x2 : Int} {x3 : Int} {x4 : Int} {x6 : Int} {x8 : Int}
    (h : (-2147483648 ≤ x8 ∧ x8 ≤ 2147483647) ∧ ((6 ≤ x8 → ((preNxg M x1 x6) ∧ (∀ (r1 : Int) (N1 : M3), RM3 N1 → (∀ q : Nat, q ∉ ([69] : List Nat) → N1 q = M q) → (poNxg M x1 x6 r1 N1) → (G3 E YX12_helpers Q 86 [(0, vR 44 0), (1, vI x1), (2, vI x2), (3, vI x3), (4, vI x4), (5, vI r1)] [] N1)))) ∧ (x8 < 6 → ((0 ≤ x8 ∧ x8 < 6) ∧ (G3 E YX12_helpers Q 191 [(0, vR 44 0), (1, vI x1), (2, vI x2), (3, vI x3), (4, vI x4), (6, vI x6), (8, vI (x8 + 1))] [] (up3 M 70 0 x8 (M 69 0 x8))))))) :
    G3 E YX12_helpers Q 191 [(0, vR 44 0), (1, vI x1), (2, vI x2), (3, vI x3), (4, vI x4), (6, vI x6), (8, vI x8)] [] M := by
  refine g3_rm fun hM => ?_
  refine g3_iload 6 dX12_helpers_191 rfl (g3_bipush dX12_helpers_193 rfl (g3_icmp_ge (tgt := 218) dX12_helpers_195 rfl h.1 (z3 rfl) (fun c => ?_) (fun c => ?_)))
  · have h1 := h; have h := h1.2.1 c
    have o1 := h1.1
    refine g3_aload_n 0 dX12_helpers_218 rfl rfl (g3_iload_n 1 dX12_helpers_219 rfl rfl (g3_iload 5 dX12_helpers_220 rfl (g3_cV2 dX12_helpers_222 myX12_nextGiven mlX12_300 (z3 rfl) ob_44 (z3 rfl) (z3 rfl) (kX12_nextGiven h.1 (fun r1 N1 hN1 hf1 hp1 => ?_)))))
    have o2 := h.1
    have h := h.2 r1 N1 hN1 hf1 hp1
    refine g3_r1 ?_
    refine g3_istore (lv' := [(5, vI r1), (0, vR 44 0), (1, vI x1), (2, vI x2), (3, vI x3), (4, vI x4), (6, vI x6), (8, vI x8)]) dX12_helpers_225 (z3 rfl) rfl (g3_goto (tgt := 86) dX12_helpers_227 rfl (g3_sub [1, 2, 3, 4, 5, 0] rfl h))
  · have h1 := h; have h := h1.2.2 c
    have o1 := h1.1
    refine g3_aload_n 0 dX12_helpers_198 rfl rfl (g3_getR0 (t := 70) dX12_helpers_199 flX12_98 rfl (z3 rfl) (g3_iload 6 dX12_helpers_202 rfl (g3_aload_n 0 dX12_helpers_204 rfl rfl (g3_getR0 (t := 69) dX12_helpers_205 flX12_95 rfl (z3 rfl) (g3_iload 6 dX12_helpers_208 rfl (g3_iald dX12_helpers_210 ar_69 (z3 rfl) h.1 (g3_iast dX12_helpers_211 ar_70 (z3 rfl) h.1 (hM 69 0 x8) (g3_iinc (lv' := [(8, vI (x8 + 1)), (0, vR 44 0), (1, vI x1), (2, vI x2), (3, vI x3), (4, vI x4), (6, vI x6)]) 6 dX12_helpers_212 rfl (z3 rfl) rfl (g3_goto (tgt := 191) dX12_helpers_215 rfl (g3_sub [1, 2, 3, 4, 5, 6, 0] rfl h.2))))))))))
set_option maxRecDepth 20000 in
set_option maxHeartbeats 200000 in
theorem sX12_takes {E : E3} {Q : Q3} {M : M3} {x1 x2 x3 : Int}
    (h : (0 ≤ x1 ∧ x1 < 8) ∧ ((M 75 0 x1 = 0 → (G3 E YX12_takes Q 63 [(0, vR 44 0), (1, vI x1), (4, vI 0)] [] M)) ∧ (M 75 0 x1 ≠ 0 → ((0 ≤ (M 76 0 x1) ∧ (M 76 0 x1) < 48) ∧ ((¬(M 50 0 (M 76 0 x1) = 0 ∨ M 50 0 (M 76 0 x1) = 2) → (Q none M)) ∧ ((M 50 0 (M 76 0 x1) = 0 ∨ M 50 0 (M 76 0 x1) = 2) → ((0 ≤ M 76 0 x1 ∧ M 76 0 x1 < 48) ∧ ((M 79 0 (M 76 0 x1) ≠ 0 → (Q none M)) ∧ (M 79 0 (M 76 0 x1) = 0 → ((RdC M ∧ 0 ≤ (M 44 0 0) ∧ (M 44 0 0) ≤ 399) ∧ (∀ (N1 : M3), RM3 N1 → Em M N1 → (RdC N1) → ((¬(alw3 (LM3 M) (M 46 0 (M 76 0 x1)) (M 44 0 0)) → (Q none N1)) ∧ ((alw3 (LM3 M) (M 46 0 (M 76 0 x1)) (M 44 0 0)) → ((-2147483648 ≤ x2 ∧ x2 ≤ 2147483647) ∧ ((M 78 0 (M 76 0 x1) < x2 → (Q none N1)) ∧ (x2 ≤ M 78 0 (M 76 0 x1) → ((-2147483648 ≤ x3 ∧ x3 ≤ 2147483647) ∧ ((x3 = 0 → (Q none N1)) ∧ (x3 ≠ 0 → ((-2147483648 ≤ (M 44 0 50) + 1 ∧ (M 44 0 50) + 1 ≤ 2147483647) ∧ (Q none (up3 (up3 N1 79 0 (M 76 0 x1) 1) 44 0 50 ((M 44 0 50) + 1))))))))))))))))))))))) :
    C3 E YX12_takes [vR 44 0, vI x1, vI x2, vI x3] M Q := by
  refine c3_in rfl rfl (z3 rfl) (g3_rm fun hM => ?_)
  refine g3_aload_n 0 dX12_takes_0 rfl rfl (g3_getR0 (t := 75) dX12_takes_1 flX12_114 rfl (z3 rfl) (g3_iload_n 1 dX12_takes_4 rfl rfl (g3_zald dX12_takes_5 ar_75 (z3 rfl) h.1 (g3_if_eq (tgt := 60) dX12_takes_6 rfl (hM 75 0 x1) (fun c => ?_) (fun c => ?_)))))
  · have h1 := h; have h := h1.2.1 c
    have o1 := h1.1
    refine g3_iconst dX12_takes_60 (g3_istore (lv' := [(4, vI 0), (0, vR 44 0), (1, vI x1), (2, vI x2), (3, vI x3)]) dX12_takes_61 (z3 rfl) rfl (g3_sub [1, 2, 0] rfl h))
  · have h1 := h; have h := h1.2.2 c
    have o1 := h1.1
    refine g3_aload_n 0 dX12_takes_9 rfl rfl (g3_getR0 (t := 76) dX12_takes_10 flX12_117 rfl (z3 rfl) (g3_iload_n 1 dX12_takes_13 rfl rfl (g3_iald dX12_takes_14 ar_76 (z3 rfl) o1 (g3_istore (lv' := [(4, vI (M 76 0 x1)), (0, vR 44 0), (1, vI x1), (2, vI x2), (3, vI x3)]) dX12_takes_15 (z3 rfl) rfl (g3_aload_n 1 dX12_takes_17 rfl rfl (g3_iload 0 dX12_takes_18 rfl (g3_cV1 dX12_takes_20 myX12_isFree mlX12_334 (z3 rfl) ob_44 (z3 rfl) (z3 rfl) (c3_in rfl rfl (z3 rfl) (g3_aload_n 0 dX12_isFree_0 rfl rfl (g3_iload_n 1 dX12_isFree_1 rfl rfl (g3_cV1 dX12_isFree_2 myX12_isOff mlX12_229 (z3 rfl) ob_44 (z3 rfl) (z3 rfl) (kX12_isOff h.1 (g3_r1 (g3_bool_eq (tgt := 38) dX12_isFree_5 rfl (fun c => ?_) (fun c => ?_)))))))))))))))
    · have h1 := h; have h := h1.2.1 c
      have o2 := h1.1
      exact g3_iconst dX12_isFree_38 (g3_zreturn dX12_isFree_39 rfl (Or.inl rfl) (g3_r1 (g3_if_eq_T (tgt := 59) dX12_takes_23 rfl (z3 rfl) (g3_return dX12_takes_59 rfl h))))
    · have h1 := h; have h := h1.2.2 c
      have o2 := h1.1
      refine g3_aload_n 0 dX12_isFree_8 rfl rfl (g3_getR0 (t := 79) dX12_isFree_9 flX12_126 rfl (z3 rfl) (g3_iload_n 1 dX12_isFree_12 rfl rfl (g3_zald dX12_isFree_13 ar_79 (z3 rfl) h.1 (g3_if_ne (tgt := 38) dX12_isFree_14 rfl (hM 79 0 (M 76 0 x1)) (fun c => ?_) (fun c => ?_)))))
      · have h1 := h; have h := h1.2.1 c
        have o3 := h1.1
        exact g3_iconst dX12_isFree_38 (g3_zreturn dX12_isFree_39 rfl (Or.inl rfl) (g3_r1 (g3_if_eq_T (tgt := 59) dX12_takes_23 rfl (z3 rfl) (g3_return dX12_takes_59 rfl h))))
      · have h1 := h; have h := h1.2.2 c
        have o3 := h1.1
        refine g3_aload_n 0 dX12_isFree_17 rfl rfl (g3_aload_n 0 dX12_isFree_18 rfl rfl (g3_getR0 (t := 46) dX12_isFree_19 flX12_13 rfl (z3 rfl) (g3_iload_n 1 dX12_isFree_22 rfl rfl (g3_iald dX12_isFree_23 ar_46 (z3 rfl) o3 (g3_aload_n 0 dX12_isFree_24 rfl rfl (g3_getI (t := 0) dX12_isFree_25 flX12_151 (z3 rfl) (z3 rfl) (g3_cV2 dX12_isFree_28 myX12_isAllowed mlX12_235 (z3 rfl) ob_44 (z3 rfl) (z3 rfl) (eX12_isAllowed Em.rf h.1 (fun N1 hN1 he1 hp1 => ?_)))))))))
        have o4 := h.1
        have h := h.2 N1 hN1 he1 hp1
        refine g3_r1 ?_
        refine g3_bool_eq (tgt := 38) dX12_isFree_31 rfl (fun c => ?_) (fun c => ?_)
        · have h1 := h; have h := h1.1 c
          exact g3_iconst dX12_isFree_38 (g3_zreturn dX12_isFree_39 rfl (Or.inl rfl) (g3_r1 (g3_if_eq_T (tgt := 59) dX12_takes_23 rfl (z3 rfl) (g3_return dX12_takes_59 rfl h))))
        · have h1 := h; have h := h1.2 c
          refine g3_iconst dX12_isFree_34 (g3_goto (tgt := 39) dX12_isFree_35 rfl (g3_zreturn dX12_isFree_39 rfl (Or.inr rfl) (g3_r1 (g3_if_eq_F (tgt := 59) dX12_takes_23 rfl (z3 rfl) (g3_aload_n 1 dX12_takes_26 rfl rfl (g3_getR0 (t := 78) dX12_takes_27 flX12_123 rfl (z3 rfl) (g3_iload 0 dX12_takes_30 rfl (g3_iald dX12_takes_32 ar_78 (z3 rfl) o3 (g3_val (cg3 (he1.1 78 (by decide)) _ _) (g3_iload_n 3 dX12_takes_33 rfl rfl (g3_icmp_lt (tgt := 59) dX12_takes_34 rfl (hM 78 0 (M 76 0 x1)) h.1 (fun c => ?_) (fun c => ?_))))))))))))
          · have h1 := h; have h := h1.2.1 c
            have o5 := h1.1
            exact g3_return dX12_takes_59 rfl h
          · have h1 := h; have h := h1.2.2 c
            have o5 := h1.1
            refine g3_iload_n 4 dX12_takes_37 rfl rfl (g3_if_eq (tgt := 59) dX12_takes_38 rfl h.1 (fun c => ?_) (fun c => ?_))
            · have h1 := h; have h := h1.2.1 c
              have o6 := h1.1
              exact g3_return dX12_takes_59 rfl h
            · have h1 := h; have h := h1.2.2 c
              have o6 := h1.1
              exact g3_aload_n 1 dX12_takes_41 rfl rfl (g3_getR0 (t := 79) dX12_takes_42 flX12_126 rfl (z3 rfl) (g3_iload 0 dX12_takes_45 rfl (g3_iconst dX12_takes_47 (g3_zast dX12_takes_48 ar_79 (z3 rfl) o3 (Or.inr rfl) (g3_aload_n 1 dX12_takes_49 rfl rfl (g3_dup dX12_takes_50 rfl (g3_getI (t := 0) dX12_takes_51 flX12_321 (z3 rfl) (z3 rfl) (g3_val ((up3_nr (by decide)).trans (he1.2 50 (by decide))) (g3_iconst dX12_takes_54 (g3_iadd dX12_takes_55 (g3_put dX12_takes_56 fpX12_321 (Or.inl rfl) (z3 rfl) h.1 (g3_return dX12_takes_59 rfl h.2))))))))))))
set_option maxRecDepth 20000 in
set_option maxHeartbeats 200000 in
theorem sX12_takes_63 {E : E3} {Q : Q3} {M : M3} {x1 : Int} {x4 : Int}
    (h : (-2147483648 ≤ x4 ∧ x4 ≤ 2147483647) ∧ ((M 44 0 1 ≤ x4 → (Q none M)) ∧ (x4 < M 44 0 1 → ((0 ≤ x4 ∧ x4 < 48) ∧ ((¬(M 50 0 x4 = 0 ∨ M 50 0 x4 = 2) → (G3 E YX12_takes Q 63 [(0, vR 44 0), (1, vI x1), (4, vI (x4 + 1))] [] M)) ∧ ((M 50 0 x4 = 0 ∨ M 50 0 x4 = 2) → ((M 79 0 x4 ≠ 0 → (G3 E YX12_takes Q 63 [(0, vR 44 0), (1, vI x1), (4, vI (x4 + 1))] [] M)) ∧ (M 79 0 x4 = 0 → ((RdC M ∧ 0 ≤ (M 44 0 0) ∧ (M 44 0 0) ≤ 399) ∧ (∀ (N1 : M3), RM3 N1 → Em M N1 → (RdC N1) → ((¬(alw3 (LM3 M) (M 46 0 x4) (M 44 0 0)) → (G3 E YX12_takes Q 63 [(0, vR 44 0), (1, vI x1), (4, vI (x4 + 1))] [] N1)) ∧ ((alw3 (LM3 M) (M 46 0 x4) (M 44 0 0)) → ((0 ≤ x1 ∧ x1 < 8) ∧ ((M 45 0 x4 ≠ M 76 0 x1 → (G3 E YX12_takes Q 63 [(0, vR 44 0), (1, vI x1), (4, vI (x4 + 1))] [] N1)) ∧ (M 45 0 x4 = M 76 0 x1 → ((M 78 0 x4 ≤ 18 → ((-2147483648 ≤ (M 78 0 x4) + 2 ∧ (M 78 0 x4) + 2 ≤ 2147483647) ∧ (G3 E YX12_takes Q 63 [(0, vR 44 0), (1, vI x1), (4, vI (x4 + 1))] [] (up3 N1 78 0 x4 ((M 78 0 x4) + 2))))) ∧ (18 < M 78 0 x4 → (G3 E YX12_takes Q 63 [(0, vR 44 0), (1, vI x1), (4, vI (x4 + 1))] [] (up3 N1 78 0 x4 20))))))))))))))))))) :
    G3 E YX12_takes Q 63 [(0, vR 44 0), (1, vI x1), (4, vI x4)] [] M := by
  refine g3_rm fun hM => ?_
  refine g3_iload 2 dX12_takes_63 rfl (g3_aload_n 0 dX12_takes_65 rfl rfl (g3_getI (t := 0) dX12_takes_66 flX12_148 (z3 rfl) (z3 rfl) (g3_icmp_ge (tgt := 136) dX12_takes_69 rfl h.1 (hM 44 0 1) (fun c => ?_) (fun c => ?_))))
  · have h1 := h; have h := h1.2.1 c
    have o1 := h1.1
    exact g3_return dX12_takes_136 rfl h
  · have h1 := h; have h := h1.2.2 c
    have o1 := h1.1
    refine g3_aload_n 0 dX12_takes_72 rfl rfl (g3_iload 2 dX12_takes_73 rfl (g3_cV1 dX12_takes_75 myX12_isFree mlX12_334 (z3 rfl) ob_44 (z3 rfl) (z3 rfl) (c3_in rfl rfl (z3 rfl) (g3_aload_n 0 dX12_isFree_0 rfl rfl (g3_iload_n 1 dX12_isFree_1 rfl rfl (g3_cV1 dX12_isFree_2 myX12_isOff mlX12_229 (z3 rfl) ob_44 (z3 rfl) (z3 rfl) (kX12_isOff h.1 (g3_r1 (g3_bool_eq (tgt := 38) dX12_isFree_5 rfl (fun c => ?_) (fun c => ?_))))))))))
    · have h1 := h; have h := h1.2.1 c
      have o2 := h1.1
      refine g3_iconst dX12_isFree_38 (g3_zreturn dX12_isFree_39 rfl (Or.inl rfl) (g3_r1 (g3_if_eq_T (tgt := 130) dX12_takes_78 rfl (z3 rfl) (g3_iinc (lv' := [(4, vI (x4 + 1)), (0, vR 44 0), (1, vI x1)]) 2 dX12_takes_130 rfl (z3 rfl) rfl (g3_goto (tgt := 63) dX12_takes_133 rfl (g3_sub [1, 2, 0] rfl h))))))
    · have h1 := h; have h := h1.2.2 c
      have o2 := h1.1
      refine g3_aload_n 0 dX12_isFree_8 rfl rfl (g3_getR0 (t := 79) dX12_isFree_9 flX12_126 rfl (z3 rfl) (g3_iload_n 1 dX12_isFree_12 rfl rfl (g3_zald dX12_isFree_13 ar_79 (z3 rfl) o2 (g3_if_ne (tgt := 38) dX12_isFree_14 rfl (hM 79 0 x4) (fun c => ?_) (fun c => ?_)))))
      · have h1 := h; have h := h1.1 c
        refine g3_iconst dX12_isFree_38 (g3_zreturn dX12_isFree_39 rfl (Or.inl rfl) (g3_r1 (g3_if_eq_T (tgt := 130) dX12_takes_78 rfl (z3 rfl) (g3_iinc (lv' := [(4, vI (x4 + 1)), (0, vR 44 0), (1, vI x1)]) 2 dX12_takes_130 rfl (z3 rfl) rfl (g3_goto (tgt := 63) dX12_takes_133 rfl (g3_sub [1, 2, 0] rfl h))))))
      · have h1 := h; have h := h1.2 c
        refine g3_aload_n 0 dX12_isFree_17 rfl rfl (g3_aload_n 0 dX12_isFree_18 rfl rfl (g3_getR0 (t := 46) dX12_isFree_19 flX12_13 rfl (z3 rfl) (g3_iload_n 1 dX12_isFree_22 rfl rfl (g3_iald dX12_isFree_23 ar_46 (z3 rfl) o2 (g3_aload_n 0 dX12_isFree_24 rfl rfl (g3_getI (t := 0) dX12_isFree_25 flX12_151 (z3 rfl) (z3 rfl) (g3_cV2 dX12_isFree_28 myX12_isAllowed mlX12_235 (z3 rfl) ob_44 (z3 rfl) (z3 rfl) (eX12_isAllowed Em.rf h.1 (fun N1 hN1 he1 hp1 => ?_)))))))))
        have o3 := h.1
        have h := h.2 N1 hN1 he1 hp1
        refine g3_r1 ?_
        refine g3_bool_eq (tgt := 38) dX12_isFree_31 rfl (fun c => ?_) (fun c => ?_)
        · have h1 := h; have h := h1.1 c
          refine g3_iconst dX12_isFree_38 (g3_zreturn dX12_isFree_39 rfl (Or.inl rfl) (g3_r1 (g3_if_eq_T (tgt := 130) dX12_takes_78 rfl (z3 rfl) (g3_iinc (lv' := [(4, vI (x4 + 1)), (0, vR 44 0), (1, vI x1)]) 2 dX12_takes_130 rfl (z3 rfl) rfl (g3_goto (tgt := 63) dX12_takes_133 rfl (g3_sub [1, 2, 0] rfl h))))))
        · have h1 := h; have h := h1.2 c
          refine g3_iconst dX12_isFree_34 (g3_goto (tgt := 39) dX12_isFree_35 rfl (g3_zreturn dX12_isFree_39 rfl (Or.inr rfl) (g3_r1 (g3_if_eq_F (tgt := 130) dX12_takes_78 rfl (z3 rfl) (g3_aload_n 0 dX12_takes_81 rfl rfl (g3_getR0 (t := 45) dX12_takes_82 flX12_7 rfl (z3 rfl) (g3_iload 2 dX12_takes_85 rfl (g3_iald dX12_takes_87 ar_45 (z3 rfl) o2 (g3_val (cg3 (he1.1 45 (by decide)) _ _) (g3_aload_n 0 dX12_takes_88 rfl rfl (g3_getR0 (t := 76) dX12_takes_89 flX12_117 rfl (z3 rfl) (g3_iload_n 1 dX12_takes_92 rfl rfl (g3_iald dX12_takes_93 ar_76 (z3 rfl) h.1 (g3_val (cg3 (he1.1 76 (by decide)) _ _) (g3_icmp_ne (tgt := 130) dX12_takes_94 rfl (hM 45 0 x4) (hM 76 0 x1) (fun c => ?_) (fun c => ?_))))))))))))))))
          · have h1 := h; have h := h1.2.1 c
            have o4 := h1.1
            refine g3_iinc (lv' := [(4, vI (x4 + 1)), (0, vR 44 0), (1, vI x1)]) 2 dX12_takes_130 rfl (z3 rfl) rfl (g3_goto (tgt := 63) dX12_takes_133 rfl (g3_sub [1, 2, 0] rfl h))
          · have h1 := h; have h := h1.2.2 c
            have o4 := h1.1
            refine g3_aload_n 0 dX12_takes_97 rfl rfl (g3_getR0 (t := 78) dX12_takes_98 flX12_123 rfl (z3 rfl) (g3_iload 2 dX12_takes_101 rfl (g3_aload_n 0 dX12_takes_103 rfl rfl (g3_getR0 (t := 78) dX12_takes_104 flX12_123 rfl (z3 rfl) (g3_iload 2 dX12_takes_107 rfl (g3_iald dX12_takes_109 ar_78 (z3 rfl) o2 (g3_val (cg3 (he1.1 78 (by decide)) _ _) (g3_bipush dX12_takes_110 rfl (g3_icmp_le (tgt := 120) dX12_takes_112 rfl (hM 78 0 x4) (z3 rfl) (fun c => ?_) (fun c => ?_))))))))))
            · have h1 := h; have h := h1.1 c
              refine g3_aload_n 0 dX12_takes_120 rfl rfl (g3_getR0 (t := 78) dX12_takes_121 flX12_123 rfl (z3 rfl) (g3_iload 2 dX12_takes_124 rfl (g3_iald dX12_takes_126 ar_78 (z3 rfl) o2 (g3_val (cg3 (he1.1 78 (by decide)) _ _) (g3_iconst dX12_takes_127 (g3_iadd dX12_takes_128 (g3_iast dX12_takes_129 ar_78 (z3 rfl) o2 h.1 (g3_iinc (lv' := [(4, vI (x4 + 1)), (0, vR 44 0), (1, vI x1)]) 2 dX12_takes_130 rfl (z3 rfl) rfl (g3_goto (tgt := 63) dX12_takes_133 rfl (g3_sub [1, 2, 0] rfl h.2))))))))))
            · have h1 := h; have h := h1.2 c
              refine g3_bipush dX12_takes_115 rfl (g3_goto (tgt := 129) dX12_takes_117 rfl (g3_iast dX12_takes_129 ar_78 (z3 rfl) o2 (z3 rfl) (g3_iinc (lv' := [(4, vI (x4 + 1)), (0, vR 44 0), (1, vI x1)]) 2 dX12_takes_130 rfl (z3 rfl) rfl (g3_goto (tgt := 63) dX12_takes_133 rfl (g3_sub [1, 2, 0] rfl h)))))
