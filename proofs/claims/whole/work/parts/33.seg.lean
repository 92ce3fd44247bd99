set_option maxRecDepth 20000 in
set_option maxHeartbeats 200000 in
theorem sX12_readsPart {E : E3} {Q : Q3} {M : M3}
    (h : (pby3 M (M 44 0 17)) ∧ ((-2147483648 ≤ tm3 M (M 44 0 17) ∧ tm3 M (M 44 0 17) ≤ 2147483647) ∧ ((tm3 M (M 44 0 17) ≠ 113 → ((tm3 M (M 44 0 17) ≠ 110 → ((tm3 M (M 44 0 17) ≠ 107 → ((tm3 M (M 44 0 17) ≠ 115 → ((tm3 M (M 44 0 17) ≠ 119 → (G3 E YX12_readsPart Q 65 [(0, vR 44 0), (2, vI (-1))] [] M)) ∧ (tm3 M (M 44 0 17) = 119 → (G3 E YX12_readsPart Q 65 [(0, vR 44 0), (2, vI 23)] [] M)))) ∧ (tm3 M (M 44 0 17) = 115 → (G3 E YX12_readsPart Q 65 [(0, vR 44 0), (2, vI 22)] [] M)))) ∧ (tm3 M (M 44 0 17) = 107 → (G3 E YX12_readsPart Q 65 [(0, vR 44 0), (2, vI 21)] [] M)))) ∧ (tm3 M (M 44 0 17) = 110 → (G3 E YX12_readsPart Q 65 [(0, vR 44 0), (2, vI 20)] [] M)))) ∧ (tm3 M (M 44 0 17) = 113 → (G3 E YX12_readsPart Q 65 [(0, vR 44 0), (2, vI 0)] [] M))))) :
    C3 E YX12_readsPart [vR 44 0] M Q := by
  refine c3_in rfl rfl (z3 rfl) (g3_rm fun hM => ?_)
  refine g3_aload_n 0 dX12_readsPart_0 rfl rfl (g3_aload_n 0 dX12_readsPart_1 rfl rfl (g3_getI (t := 0) dX12_readsPart_2 flX12_185 (z3 rfl) (z3 rfl) (g3_cV1 dX12_readsPart_5 myX12_byteAt mlX12_191 (z3 rfl) ob_44 (z3 rfl) (z3 rfl) (kX12_byteAt h.1 (g3_r1 (g3_istore_n (lv' := [(1, vI (tm3 M (M 44 0 17))), (0, vR 44 0)]) dX12_readsPart_8 rfl (z3 rfl) rfl (g3_iload_n 0 dX12_readsPart_9 rfl rfl (g3_bipush dX12_readsPart_10 rfl (g3_icmp_ne (tgt := 19) dX12_readsPart_12 rfl h.2.1 (z3 rfl) (fun c => ?_) (fun c => ?_))))))))))
  · have h1 := h; have h := h1.2.2.1 c
    have o1 := h1.1
    have o2 := h1.2.1
    refine g3_iload_n 0 dX12_readsPart_19 rfl rfl (g3_bipush dX12_readsPart_20 rfl (g3_icmp_ne (tgt := 30) dX12_readsPart_22 rfl o2 (z3 rfl) (fun c => ?_) (fun c => ?_)))
    · have h1 := h; have h := h1.1 c
      refine g3_iload_n 0 dX12_readsPart_30 rfl rfl (g3_bipush dX12_readsPart_31 rfl (g3_icmp_ne (tgt := 41) dX12_readsPart_33 rfl o2 (z3 rfl) (fun c => ?_) (fun c => ?_)))
      · have h1 := h; have h := h1.1 c
        refine g3_iload_n 0 dX12_readsPart_41 rfl rfl (g3_bipush dX12_readsPart_42 rfl (g3_icmp_ne (tgt := 52) dX12_readsPart_44 rfl o2 (z3 rfl) (fun c => ?_) (fun c => ?_)))
        · have h1 := h; have h := h1.1 c
          refine g3_iload_n 0 dX12_readsPart_52 rfl rfl (g3_bipush dX12_readsPart_53 rfl (g3_icmp_ne (tgt := 63) dX12_readsPart_55 rfl o2 (z3 rfl) (fun c => ?_) (fun c => ?_)))
          · have h1 := h; have h := h1.1 c
            refine g3_iconst dX12_readsPart_63 (g3_istore_n (lv' := [(2, vI (-1)), (1, vI (tm3 M (M 44 0 17))), (0, vR 44 0)]) dX12_readsPart_64 rfl (z3 rfl) rfl (g3_sub [2, 0] rfl h))
          · have h1 := h; have h := h1.2 c
            refine g3_bipush dX12_readsPart_58 rfl (g3_goto (tgt := 64) dX12_readsPart_60 rfl (g3_istore_n (lv' := [(2, vI 23), (1, vI (tm3 M (M 44 0 17))), (0, vR 44 0)]) dX12_readsPart_64 rfl (z3 rfl) rfl (g3_sub [2, 0] rfl h)))
        · have h1 := h; have h := h1.2 c
          refine g3_bipush dX12_readsPart_47 rfl (g3_goto (tgt := 64) dX12_readsPart_49 rfl (g3_istore_n (lv' := [(2, vI 22), (1, vI (tm3 M (M 44 0 17))), (0, vR 44 0)]) dX12_readsPart_64 rfl (z3 rfl) rfl (g3_sub [2, 0] rfl h)))
      · have h1 := h; have h := h1.2 c
        refine g3_bipush dX12_readsPart_36 rfl (g3_goto (tgt := 64) dX12_readsPart_38 rfl (g3_istore_n (lv' := [(2, vI 21), (1, vI (tm3 M (M 44 0 17))), (0, vR 44 0)]) dX12_readsPart_64 rfl (z3 rfl) rfl (g3_sub [2, 0] rfl h)))
    · have h1 := h; have h := h1.2 c
      refine g3_bipush dX12_readsPart_25 rfl (g3_goto (tgt := 64) dX12_readsPart_27 rfl (g3_istore_n (lv' := [(2, vI 20), (1, vI (tm3 M (M 44 0 17))), (0, vR 44 0)]) dX12_readsPart_64 rfl (z3 rfl) rfl (g3_sub [2, 0] rfl h)))
  · have h1 := h; have h := h1.2.2.2 c
    have o1 := h1.1
    have o2 := h1.2.1
    refine g3_iconst dX12_readsPart_15 (g3_goto (tgt := 64) dX12_readsPart_16 rfl (g3_istore_n (lv' := [(2, vI 0), (1, vI (tm3 M (M 44 0 17))), (0, vR 44 0)]) dX12_readsPart_64 rfl (z3 rfl) rfl (g3_sub [2, 0] rfl h)))
set_option maxRecDepth 20000 in
set_option maxHeartbeats 200000 in
theorem sX12_readsPart_65 {E : E3} {Q : Q3} {M : M3} {x2 : Int}
    (h : (-2147483648 ≤ x2 ∧ x2 ≤ 2147483647) ∧ ((x2 ≠ (-1) → ((-2147483648 ≤ (M 44 0 17) + 1 ∧ (M 44 0 17) + 1 ≤ 2147483647) ∧ ((x2 ≠ 0 → (G3 E YX12_readsPart Q 106 [(0, vR 44 0), (2, vI x2)] [] (up3 M 44 0 17 ((M 44 0 17) + 1)))) ∧ (x2 = 0 → ((preFig (up3 M 44 0 17 ((M 44 0 17) + 1)) 2 0 19) ∧ (∀ (r1 : Int) (N1 : M3), RM3 N1 → (∀ q : Nat, q ∉ ([44] : List Nat) → N1 q = (up3 M 44 0 17 ((M 44 0 17) + 1)) q) → (∀ j : Int, j ∉ ([12, 17] : List Int) → N1 44 0 j = (up3 M 44 0 17 ((M 44 0 17) + 1)) 44 0 j) → (poFig (up3 M 44 0 17 ((M 44 0 17) + 1)) 2 0 19 r1 N1) → (G3 E YX12_readsPart Q 106 [(0, vR 44 0), (2, vI r1)] [] N1))))))) ∧ (x2 = (-1) → (Q none (up3 M 44 0 12 (M 44 0 17)))))) :
    G3 E YX12_readsPart Q 65 [(0, vR 44 0), (2, vI x2)] [] M := by
  refine g3_rm fun hM => ?_
  refine g3_iload_n 1 dX12_readsPart_65 rfl rfl (g3_iconst dX12_readsPart_66 (g3_icmp_ne (tgt := 79) dX12_readsPart_67 rfl h.1 (z3 rfl) (fun c => ?_) (fun c => ?_)))
  · have h1 := h; have h := h1.2.1 c
    have o1 := h1.1
    refine g3_aload_n 0 dX12_readsPart_79 rfl rfl (g3_dup dX12_readsPart_80 rfl (g3_getI (t := 0) dX12_readsPart_81 flX12_185 (z3 rfl) (z3 rfl) (g3_iconst dX12_readsPart_84 (g3_iadd dX12_readsPart_85 (g3_put dX12_readsPart_86 fpX12_185 (Or.inl rfl) (z3 rfl) h.1 (g3_iload_n 1 dX12_readsPart_89 rfl rfl (g3_if_ne (tgt := 104) dX12_readsPart_90 rfl o1 (fun c => ?_) (fun c => ?_))))))))
    · have h1 := h; have h := h1.2.1 c
      have o2 := h1.1
      refine g3_iload_n 1 dX12_readsPart_104 rfl rfl (g3_istore_n (lv' := [(2, vI x2), (0, vR 44 0)]) dX12_readsPart_105 rfl (z3 rfl) rfl (g3_sub [1, 0] rfl h))
    · have h1 := h; have h := h1.2.2 c
      have o2 := h1.1
      refine g3_aload_n 0 dX12_readsPart_93 rfl rfl (g3_iconst dX12_readsPart_94 (g3_iconst dX12_readsPart_95 (g3_bipush dX12_readsPart_96 rfl (g3_cV3 dX12_readsPart_98 myX12_figures mlX12_195 (z3 rfl) ob_44 (z3 rfl) (z3 rfl) (kX12_figures h.1 (fun r1 N1 hN1 hf1 hs1 hp1 => ?_))))))
      have o3 := h.1
      have h := h.2 r1 N1 hN1 hf1 hs1 hp1
      refine g3_r1 ?_
      refine g3_goto (tgt := 105) dX12_readsPart_101 rfl (g3_istore_n (lv' := [(2, vI r1), (0, vR 44 0)]) dX12_readsPart_105 rfl (z3 rfl) rfl (g3_sub [1, 0] rfl h))
  · have h1 := h; have h := h1.2.2 c
    have o1 := h1.1
    exact g3_aload_n 0 dX12_readsPart_70 rfl rfl (g3_aload_n 0 dX12_readsPart_71 rfl rfl (g3_getI (t := 0) dX12_readsPart_72 flX12_185 (z3 rfl) (z3 rfl) (g3_put dX12_readsPart_75 fpX12_188 (Or.inl rfl) (z3 rfl) (hM 44 0 17) (g3_return dX12_readsPart_78 rfl h))))
set_option maxRecDepth 20000 in
set_option maxHeartbeats 200000 in
theorem sX12_readsPart_106 {E : E3} {Q : Q3} {M : M3} {x2 : Int}
    (h : (M 44 0 12 ≠ (-1) → ((-2147483648 ≤ (M 44 0 17) + 1 ∧ (M 44 0 17) + 1 ≤ 2147483647) ∧ ((0 ≤ M 44 0 13 ∧ M 44 0 13 < 60) ∧ ((-2147483648 ≤ x2 ∧ x2 ≤ 2147483647) ∧ ((x2 ≠ 21 → ((preFig (up3 (up3 M 44 0 17 ((M 44 0 17) + 1)) 53 0 (M 44 0 13) x2) 2 0 99) ∧ (∀ (r1 : Int) (N1 : M3), RM3 N1 → (∀ q : Nat, q ∉ ([44] : List Nat) → N1 q = (up3 (up3 M 44 0 17 ((M 44 0 17) + 1)) 53 0 (M 44 0 13) x2) q) → (∀ j : Int, j ∉ ([12, 17] : List Int) → N1 44 0 j = (up3 (up3 M 44 0 17 ((M 44 0 17) + 1)) 53 0 (M 44 0 13) x2) 44 0 j) → (poFig (up3 (up3 M 44 0 17 ((M 44 0 17) + 1)) 53 0 (M 44 0 13) x2) 2 0 99 r1 N1) → ((-2147483648 ≤ r1 ∧ r1 ≤ 2147483647) ∧ (G3 E YX12_readsPart Q 188 [(0, vR 44 0)] [] (up3 N1 54 0 (M 44 0 13) r1)))))) ∧ (x2 = 21 → ((preFig (up3 (up3 M 44 0 17 ((M 44 0 17) + 1)) 53 0 (M 44 0 13) x2) 1 1 3) ∧ (∀ (r1 : Int) (N1 : M3), RM3 N1 → (∀ q : Nat, q ∉ ([44] : List Nat) → N1 q = (up3 (up3 M 44 0 17 ((M 44 0 17) + 1)) 53 0 (M 44 0 13) x2) q) → (∀ j : Int, j ∉ ([12, 17] : List Int) → N1 44 0 j = (up3 (up3 M 44 0 17 ((M 44 0 17) + 1)) 53 0 (M 44 0 13) x2) 44 0 j) → (poFig (up3 (up3 M 44 0 17 ((M 44 0 17) + 1)) 53 0 (M 44 0 13) x2) 1 1 3 r1 N1) → ((-2147483648 ≤ r1 ∧ r1 ≤ 2147483647) ∧ (G3 E YX12_readsPart Q 188 [(0, vR 44 0)] [] (up3 N1 54 0 (M 44 0 13) r1))))))))))) ∧ (M 44 0 12 = (-1) → ((pby3 M (M 44 0 17)) ∧ ((-2147483648 ≤ tm3 M (M 44 0 17) ∧ tm3 M (M 44 0 17) ≤ 2147483647) ∧ ((tm3 M (M 44 0 17) = 61 → ((-2147483648 ≤ (M 44 0 17) + 1 ∧ (M 44 0 17) + 1 ≤ 2147483647) ∧ ((0 ≤ M 44 0 13 ∧ M 44 0 13 < 60) ∧ ((-2147483648 ≤ x2 ∧ x2 ≤ 2147483647) ∧ ((x2 ≠ 21 → ((preFig (up3 (up3 M 44 0 17 ((M 44 0 17) + 1)) 53 0 (M 44 0 13) x2) 2 0 99) ∧ (∀ (r1 : Int) (N1 : M3), RM3 N1 → (∀ q : Nat, q ∉ ([44] : List Nat) → N1 q = (up3 (up3 M 44 0 17 ((M 44 0 17) + 1)) 53 0 (M 44 0 13) x2) q) → (∀ j : Int, j ∉ ([12, 17] : List Int) → N1 44 0 j = (up3 (up3 M 44 0 17 ((M 44 0 17) + 1)) 53 0 (M 44 0 13) x2) 44 0 j) → (poFig (up3 (up3 M 44 0 17 ((M 44 0 17) + 1)) 53 0 (M 44 0 13) x2) 2 0 99 r1 N1) → ((-2147483648 ≤ r1 ∧ r1 ≤ 2147483647) ∧ (G3 E YX12_readsPart Q 188 [(0, vR 44 0)] [] (up3 N1 54 0 (M 44 0 13) r1)))))) ∧ (x2 = 21 → ((preFig (up3 (up3 M 44 0 17 ((M 44 0 17) + 1)) 53 0 (M 44 0 13) x2) 1 1 3) ∧ (∀ (r1 : Int) (N1 : M3), RM3 N1 → (∀ q : Nat, q ∉ ([44] : List Nat) → N1 q = (up3 (up3 M 44 0 17 ((M 44 0 17) + 1)) 53 0 (M 44 0 13) x2) q) → (∀ j : Int, j ∉ ([12, 17] : List Int) → N1 44 0 j = (up3 (up3 M 44 0 17 ((M 44 0 17) + 1)) 53 0 (M 44 0 13) x2) 44 0 j) → (poFig (up3 (up3 M 44 0 17 ((M 44 0 17) + 1)) 53 0 (M 44 0 13) x2) 1 1 3 r1 N1) → ((-2147483648 ≤ r1 ∧ r1 ≤ 2147483647) ∧ (G3 E YX12_readsPart Q 188 [(0, vR 44 0)] [] (up3 N1 54 0 (M 44 0 13) r1))))))))))) ∧ (tm3 M (M 44 0 17) ≠ 61 → ((-2147483648 ≤ (M 44 0 17) + 1 ∧ (M 44 0 17) + 1 ≤ 2147483647) ∧ ((0 ≤ M 44 0 13 ∧ M 44 0 13 < 60) ∧ ((-2147483648 ≤ x2 ∧ x2 ≤ 2147483647) ∧ ((x2 ≠ 21 → ((preFig (up3 (up3 (up3 M 44 0 12 (M 44 0 17)) 44 0 17 ((M 44 0 17) + 1)) 53 0 (M 44 0 13) x2) 2 0 99) ∧ (∀ (r1 : Int) (N1 : M3), RM3 N1 → (∀ q : Nat, q ∉ ([44] : List Nat) → N1 q = (up3 (up3 (up3 M 44 0 12 (M 44 0 17)) 44 0 17 ((M 44 0 17) + 1)) 53 0 (M 44 0 13) x2) q) → (∀ j : Int, j ∉ ([12, 17] : List Int) → N1 44 0 j = (up3 (up3 (up3 M 44 0 12 (M 44 0 17)) 44 0 17 ((M 44 0 17) + 1)) 53 0 (M 44 0 13) x2) 44 0 j) → (poFig (up3 (up3 (up3 M 44 0 12 (M 44 0 17)) 44 0 17 ((M 44 0 17) + 1)) 53 0 (M 44 0 13) x2) 2 0 99 r1 N1) → ((-2147483648 ≤ r1 ∧ r1 ≤ 2147483647) ∧ (G3 E YX12_readsPart Q 188 [(0, vR 44 0)] [] (up3 N1 54 0 (M 44 0 13) r1)))))) ∧ (x2 = 21 → ((preFig (up3 (up3 (up3 M 44 0 12 (M 44 0 17)) 44 0 17 ((M 44 0 17) + 1)) 53 0 (M 44 0 13) x2) 1 1 3) ∧ (∀ (r1 : Int) (N1 : M3), RM3 N1 → (∀ q : Nat, q ∉ ([44] : List Nat) → N1 q = (up3 (up3 (up3 M 44 0 12 (M 44 0 17)) 44 0 17 ((M 44 0 17) + 1)) 53 0 (M 44 0 13) x2) q) → (∀ j : Int, j ∉ ([12, 17] : List Int) → N1 44 0 j = (up3 (up3 (up3 M 44 0 12 (M 44 0 17)) 44 0 17 ((M 44 0 17) + 1)) 53 0 (M 44 0 13) x2) 44 0 j) → (poFig (up3 (up3 (up3 M 44 0 12 (M 44 0 17)) 44 0 17 ((M 44 0 17) + 1)) 53 0 (M 44 0 13) x2) 1 1 3 r1 N1) → ((-2147483648 ≤ r1 ∧ r1 ≤ 2147483647) ∧ (G3 E YX12_readsPart Q 188 [(0, vR 44 0)] [] (up3 N1 54 0 (M 44 0 13) r1)))))))))))))))) :
    G3 E YX12_readsPart Q 106 [(0, vR 44 0), (2, vI x2)] [] M := by
  refine g3_rm fun hM => ?_
  refine g3_aload_n 0 dX12_readsPart_106 rfl rfl (g3_getI (t := 0) dX12_readsPart_107 flX12_188 (z3 rfl) (z3 rfl) (g3_iconst dX12_readsPart_110 (g3_icmp_ne (tgt := 135) dX12_readsPart_111 rfl (hM 44 0 12) (z3 rfl) (fun c => ?_) (fun c => ?_))))
  · have h1 := h; have h := h1.1 c
    refine g3_aload_n 0 dX12_readsPart_135 rfl rfl (g3_dup dX12_readsPart_136 rfl (g3_getI (t := 0) dX12_readsPart_137 flX12_185 (z3 rfl) (z3 rfl) (g3_iconst dX12_readsPart_140 (g3_iadd dX12_readsPart_141 (g3_put dX12_readsPart_142 fpX12_185 (Or.inl rfl) (z3 rfl) h.1 (g3_aload_n 0 dX12_readsPart_145 rfl rfl (g3_getR0 (t := 53) dX12_readsPart_146 flX12_34 rfl (z3 rfl) (g3_aload_n 0 dX12_readsPart_149 rfl rfl (g3_getI (t := 0) dX12_readsPart_150 flX12_198 (z3 rfl) (z3 rfl) (g3_val (up3_nj (by decide)) (g3_iload_n 1 dX12_readsPart_153 rfl rfl (g3_iast dX12_readsPart_154 ar_53 (z3 rfl) h.2.1 h.2.2.1 (g3_aload_n 0 dX12_readsPart_155 rfl rfl (g3_getR0 (t := 54) dX12_readsPart_156 flX12_37 rfl (z3 rfl) (g3_aload_n 0 dX12_readsPart_159 rfl rfl (g3_getI (t := 0) dX12_readsPart_160 flX12_198 (z3 rfl) (z3 rfl) (g3_val ((up3_nr (by decide)).trans (up3_nj (by decide))) (g3_iload_n 1 dX12_readsPart_163 rfl rfl (g3_bipush dX12_readsPart_164 rfl (g3_icmp_ne (tgt := 179) dX12_readsPart_166 rfl h.2.2.1 (z3 rfl) (fun c => ?_) (fun c => ?_)))))))))))))))))))))
    · have h1 := h; have h := h1.2.2.2.1 c
      have o1 := h1.1
      have o2 := h1.2.1
      have o3 := h1.2.2.1
      refine g3_aload_n 0 dX12_readsPart_179 rfl rfl (g3_iconst dX12_readsPart_180 (g3_iconst dX12_readsPart_181 (g3_bipush dX12_readsPart_182 rfl (g3_cV3 dX12_readsPart_184 myX12_figures mlX12_195 (z3 rfl) ob_44 (z3 rfl) (z3 rfl) (kX12_figures h.1 (fun r1 N1 hN1 hf1 hs1 hp1 => ?_))))))
      have o4 := h.1
      have h := h.2 r1 N1 hN1 hf1 hs1 hp1
      refine g3_r1 ?_
      refine g3_iast dX12_readsPart_187 ar_54 (z3 rfl) o2 h.1 (g3_sub [0] rfl h.2)
    · have h1 := h; have h := h1.2.2.2.2 c
      have o1 := h1.1
      have o2 := h1.2.1
      have o3 := h1.2.2.1
      refine g3_aload_n 0 dX12_readsPart_169 rfl rfl (g3_iconst dX12_readsPart_170 (g3_iconst dX12_readsPart_171 (g3_iconst dX12_readsPart_172 (g3_cV3 dX12_readsPart_173 myX12_figures mlX12_195 (z3 rfl) ob_44 (z3 rfl) (z3 rfl) (kX12_figures h.1 (fun r1 N1 hN1 hf1 hs1 hp1 => ?_))))))
      have o6 := h.1
      have h := h.2 r1 N1 hN1 hf1 hs1 hp1
      refine g3_r1 ?_
      refine g3_goto (tgt := 187) dX12_readsPart_176 rfl (g3_iast dX12_readsPart_187 ar_54 (z3 rfl) o2 h.1 (g3_sub [0] rfl h.2))
  · have h1 := h; have h := h1.2 c
    refine g3_aload_n 0 dX12_readsPart_114 rfl rfl (g3_aload_n 0 dX12_readsPart_115 rfl rfl (g3_getI (t := 0) dX12_readsPart_116 flX12_185 (z3 rfl) (z3 rfl) (g3_cV1 dX12_readsPart_119 myX12_byteAt mlX12_191 (z3 rfl) ob_44 (z3 rfl) (z3 rfl) (kX12_byteAt h.1 (g3_r1 (g3_bipush dX12_readsPart_122 rfl (g3_icmp_eq (tgt := 135) dX12_readsPart_124 rfl h.2.1 (z3 rfl) (fun c => ?_) (fun c => ?_))))))))
    · have h1 := h; have h := h1.2.2.1 c
      have o8 := h1.1
      have o9 := h1.2.1
      refine g3_aload_n 0 dX12_readsPart_135 rfl rfl (g3_dup dX12_readsPart_136 rfl (g3_getI (t := 0) dX12_readsPart_137 flX12_185 (z3 rfl) (z3 rfl) (g3_iconst dX12_readsPart_140 (g3_iadd dX12_readsPart_141 (g3_put dX12_readsPart_142 fpX12_185 (Or.inl rfl) (z3 rfl) h.1 (g3_aload_n 0 dX12_readsPart_145 rfl rfl (g3_getR0 (t := 53) dX12_readsPart_146 flX12_34 rfl (z3 rfl) (g3_aload_n 0 dX12_readsPart_149 rfl rfl (g3_getI (t := 0) dX12_readsPart_150 flX12_198 (z3 rfl) (z3 rfl) (g3_val (up3_nj (by decide)) (g3_iload_n 1 dX12_readsPart_153 rfl rfl (g3_iast dX12_readsPart_154 ar_53 (z3 rfl) h.2.1 h.2.2.1 (g3_aload_n 0 dX12_readsPart_155 rfl rfl (g3_getR0 (t := 54) dX12_readsPart_156 flX12_37 rfl (z3 rfl) (g3_aload_n 0 dX12_readsPart_159 rfl rfl (g3_getI (t := 0) dX12_readsPart_160 flX12_198 (z3 rfl) (z3 rfl) (g3_val ((up3_nr (by decide)).trans (up3_nj (by decide))) (g3_iload_n 1 dX12_readsPart_163 rfl rfl (g3_bipush dX12_readsPart_164 rfl (g3_icmp_ne (tgt := 179) dX12_readsPart_166 rfl h.2.2.1 (z3 rfl) (fun c => ?_) (fun c => ?_)))))))))))))))))))))
      · have h1 := h; have h := h1.2.2.2.1 c
        have o10 := h1.1
        have o11 := h1.2.1
        have o12 := h1.2.2.1
        refine g3_aload_n 0 dX12_readsPart_179 rfl rfl (g3_iconst dX12_readsPart_180 (g3_iconst dX12_readsPart_181 (g3_bipush dX12_readsPart_182 rfl (g3_cV3 dX12_readsPart_184 myX12_figures mlX12_195 (z3 rfl) ob_44 (z3 rfl) (z3 rfl) (kX12_figures h.1 (fun r1 N1 hN1 hf1 hs1 hp1 => ?_))))))
        have o13 := h.1
        have h := h.2 r1 N1 hN1 hf1 hs1 hp1
        refine g3_r1 ?_
        refine g3_iast dX12_readsPart_187 ar_54 (z3 rfl) o11 h.1 (g3_sub [0] rfl h.2)
      · have h1 := h; have h := h1.2.2.2.2 c
        have o10 := h1.1
        have o11 := h1.2.1
        have o12 := h1.2.2.1
        refine g3_aload_n 0 dX12_readsPart_169 rfl rfl (g3_iconst dX12_readsPart_170 (g3_iconst dX12_readsPart_171 (g3_iconst dX12_readsPart_172 (g3_cV3 dX12_readsPart_173 myX12_figures mlX12_195 (z3 rfl) ob_44 (z3 rfl) (z3 rfl) (kX12_figures h.1 (fun r1 N1 hN1 hf1 hs1 hp1 => ?_))))))
        have o15 := h.1
        have h := h.2 r1 N1 hN1 hf1 hs1 hp1
        refine g3_r1 ?_
        refine g3_goto (tgt := 187) dX12_readsPart_176 rfl (g3_iast dX12_readsPart_187 ar_54 (z3 rfl) o11 h.1 (g3_sub [0] rfl h.2))
    · have h1 := h; have h := h1.2.2.2 c
      have o8 := h1.1
      have o9 := h1.2.1
      refine g3_aload_n 0 dX12_readsPart_127 rfl rfl (g3_aload_n 0 dX12_readsPart_128 rfl rfl (g3_getI (t := 0) dX12_readsPart_129 flX12_185 (z3 rfl) (z3 rfl) (g3_put dX12_readsPart_132 fpX12_188 (Or.inl rfl) (z3 rfl) (hM 44 0 17) (g3_aload_n 0 dX12_readsPart_135 rfl rfl (g3_dup dX12_readsPart_136 rfl (g3_getI (t := 0) dX12_readsPart_137 flX12_185 (z3 rfl) (z3 rfl) (g3_val (up3_nj (by decide)) (g3_iconst dX12_readsPart_140 (g3_iadd dX12_readsPart_141 (g3_put dX12_readsPart_142 fpX12_185 (Or.inl rfl) (z3 rfl) h.1 (g3_aload_n 0 dX12_readsPart_145 rfl rfl (g3_getR0 (t := 53) dX12_readsPart_146 flX12_34 rfl (z3 rfl) (g3_aload_n 0 dX12_readsPart_149 rfl rfl (g3_getI (t := 0) dX12_readsPart_150 flX12_198 (z3 rfl) (z3 rfl) (g3_val ((up3_nj (by decide)).trans (up3_nj (by decide))) (g3_iload_n 1 dX12_readsPart_153 rfl rfl (g3_iast dX12_readsPart_154 ar_53 (z3 rfl) h.2.1 h.2.2.1 (g3_aload_n 0 dX12_readsPart_155 rfl rfl (g3_getR0 (t := 54) dX12_readsPart_156 flX12_37 rfl (z3 rfl) (g3_aload_n 0 dX12_readsPart_159 rfl rfl (g3_getI (t := 0) dX12_readsPart_160 flX12_198 (z3 rfl) (z3 rfl) (g3_val (((up3_nr (by decide)).trans (up3_nj (by decide))).trans (up3_nj (by decide))) (g3_iload_n 1 dX12_readsPart_163 rfl rfl (g3_bipush dX12_readsPart_164 rfl (g3_icmp_ne (tgt := 179) dX12_readsPart_166 rfl h.2.2.1 (z3 rfl) (fun c => ?_) (fun c => ?_))))))))))))))))))))))))))
      · have h1 := h; have h := h1.2.2.2.1 c
        have o17 := h1.1
        have o18 := h1.2.1
        have o19 := h1.2.2.1
        refine g3_aload_n 0 dX12_readsPart_179 rfl rfl (g3_iconst dX12_readsPart_180 (g3_iconst dX12_readsPart_181 (g3_bipush dX12_readsPart_182 rfl (g3_cV3 dX12_readsPart_184 myX12_figures mlX12_195 (z3 rfl) ob_44 (z3 rfl) (z3 rfl) (kX12_figures h.1 (fun r1 N1 hN1 hf1 hs1 hp1 => ?_))))))
        have o20 := h.1
        have h := h.2 r1 N1 hN1 hf1 hs1 hp1
        refine g3_r1 ?_
        refine g3_iast dX12_readsPart_187 ar_54 (z3 rfl) o18 h.1 (g3_sub [0] rfl h.2)
      · have h1 := h; have h := h1.2.2.2.2 c
        have o17 := h1.1
        have o18 := h1.2.1
        have o19 := h1.2.2.1
        refine g3_aload_n 0 dX12_readsPart_169 rfl rfl (g3_iconst dX12_readsPart_170 (g3_iconst dX12_readsPart_171 (g3_iconst dX12_readsPart_172 (g3_cV3 dX12_readsPart_173 myX12_figures mlX12_195 (z3 rfl) ob_44 (z3 rfl) (z3 rfl) (kX12_figures h.1 (fun r1 N1 hN1 hf1 hs1 hp1 => ?_))))))
        have o22 := h.1
        have h := h.2 r1 N1 hN1 hf1 hs1 hp1
        refine g3_r1 ?_
        refine g3_goto (tgt := 187) dX12_readsPart_176 rfl (g3_iast dX12_readsPart_187 ar_54 (z3 rfl) o18 h.1 (g3_sub [0] rfl h.2))
set_option maxRecDepth 20000 in
set_option maxHeartbeats 200000 in
theorem sX12_readsPart_188 {E : E3} {Q : Q3} {M : M3}
    (h : (0 ≤ M 44 0 13 ∧ M 44 0 13 < 60) ∧ ((M 44 0 12 ≠ (-1) → (G3 E YX12_readsPart Q 247 [(0, vR 44 0)] [] (up3 M 55 0 (M 44 0 13) 0))) ∧ (M 44 0 12 = (-1) → ((pby3 (up3 M 55 0 (M 44 0 13) 0) (M 44 0 17)) ∧ ((-2147483648 ≤ tm3 (up3 M 55 0 (M 44 0 13) 0) (M 44 0 17) ∧ tm3 (up3 M 55 0 (M 44 0 13) 0) (M 44 0 17) ≤ 2147483647) ∧ ((tm3 (up3 M 55 0 (M 44 0 13) 0) (M 44 0 17) ≠ 64 → (G3 E YX12_readsPart Q 247 [(0, vR 44 0)] [] (up3 M 55 0 (M 44 0 13) 0))) ∧ (tm3 (up3 M 55 0 (M 44 0 13) 0) (M 44 0 17) = 64 → ((-2147483648 ≤ (M 44 0 17) + 1 ∧ (M 44 0 17) + 1 ≤ 2147483647) ∧ ((preFig (up3 (up3 M 55 0 (M 44 0 13) 0) 44 0 17 ((M 44 0 17) + 1)) 3 0 399) ∧ (∀ (r1 : Int) (N1 : M3), RM3 N1 → (∀ q : Nat, q ∉ ([44] : List Nat) → N1 q = (up3 (up3 M 55 0 (M 44 0 13) 0) 44 0 17 ((M 44 0 17) + 1)) q) → (∀ j : Int, j ∉ ([12, 17] : List Int) → N1 44 0 j = (up3 (up3 M 55 0 (M 44 0 13) 0) 44 0 17 ((M 44 0 17) + 1)) 44 0 j) → (poFig (up3 (up3 M 55 0 (M 44 0 13) 0) 44 0 17 ((M 44 0 17) + 1)) 3 0 399 r1 N1) → ((-2147483648 ≤ r1 ∧ r1 ≤ 2147483647) ∧ (G3 E YX12_readsPart Q 247 [(0, vR 44 0)] [] (up3 N1 55 0 (M 44 0 13) r1))))))))))))) :
    G3 E YX12_readsPart Q 188 [(0, vR 44 0)] [] M := by
  refine g3_rm fun hM => ?_
  refine g3_aload_n 0 dX12_readsPart_188 rfl rfl (g3_getR0 (t := 55) dX12_readsPart_189 flX12_40 rfl (z3 rfl) (g3_aload_n 0 dX12_readsPart_192 rfl rfl (g3_getI (t := 0) dX12_readsPart_193 flX12_198 (z3 rfl) (z3 rfl) (g3_iconst dX12_readsPart_196 (g3_iast dX12_readsPart_197 ar_55 (z3 rfl) h.1 (z3 rfl) (g3_aload_n 0 dX12_readsPart_198 rfl rfl (g3_getI (t := 0) dX12_readsPart_199 flX12_188 (z3 rfl) (z3 rfl) (g3_val (up3_nr (by decide)) (g3_iconst dX12_readsPart_202 (g3_icmp_ne (tgt := 247) dX12_readsPart_203 rfl (hM 44 0 12) (z3 rfl) (fun c => ?_) (fun c => ?_)))))))))))
  · have h1 := h; have h := h1.2.1 c
    have o1 := h1.1
    refine g3_sub [0] rfl h
  · have h1 := h; have h := h1.2.2 c
    have o1 := h1.1
    refine g3_aload_n 0 dX12_readsPart_206 rfl rfl (g3_aload_n 0 dX12_readsPart_207 rfl rfl (g3_getI (t := 0) dX12_readsPart_208 flX12_185 (z3 rfl) (z3 rfl) (g3_val (up3_nr (by decide)) (g3_cV1 dX12_readsPart_211 myX12_byteAt mlX12_191 (z3 rfl) ob_44 (z3 rfl) (z3 rfl) (kX12_byteAt h.1 (g3_r1 (g3_bipush dX12_readsPart_214 rfl (g3_icmp_ne (tgt := 247) dX12_readsPart_216 rfl h.2.1 (z3 rfl) (fun c => ?_) (fun c => ?_)))))))))
    · have h1 := h; have h := h1.2.2.1 c
      have o2 := h1.1
      have o3 := h1.2.1
      refine g3_sub [0] rfl h
    · have h1 := h; have h := h1.2.2.2 c
      have o2 := h1.1
      have o3 := h1.2.1
      refine g3_aload_n 0 dX12_readsPart_219 rfl rfl (g3_dup dX12_readsPart_220 rfl (g3_getI (t := 0) dX12_readsPart_221 flX12_185 (z3 rfl) (z3 rfl) (g3_val (up3_nr (by decide)) (g3_iconst dX12_readsPart_224 (g3_iadd dX12_readsPart_225 (g3_put dX12_readsPart_226 fpX12_185 (Or.inl rfl) (z3 rfl) h.1 (g3_aload_n 0 dX12_readsPart_229 rfl rfl (g3_getR0 (t := 55) dX12_readsPart_230 flX12_40 rfl (z3 rfl) (g3_aload_n 0 dX12_readsPart_233 rfl rfl (g3_getI (t := 0) dX12_readsPart_234 flX12_198 (z3 rfl) (z3 rfl) (g3_val ((up3_nj (by decide)).trans (up3_nr (by decide))) (g3_aload_n 0 dX12_readsPart_237 rfl rfl (g3_iconst dX12_readsPart_238 (g3_iconst dX12_readsPart_239 (g3_sipush dX12_readsPart_240 rfl (g3_cV3 dX12_readsPart_243 myX12_figures mlX12_195 (z3 rfl) ob_44 (z3 rfl) (z3 rfl) (kX12_figures h.2.1 (fun r1 N1 hN1 hf1 hs1 hp1 => ?_))))))))))))))))))
      have o4 := h.1
      have o5 := h.2.1
      have h := h.2.2 r1 N1 hN1 hf1 hs1 hp1
      refine g3_r1 ?_
      refine g3_iast dX12_readsPart_246 ar_55 (z3 rfl) o1 h.1 (g3_sub [0] rfl h.2)
set_option maxRecDepth 20000 in
set_option maxHeartbeats 200000 in
theorem sX12_readsPart_247 {E : E3} {Q : Q3} {M : M3}
    (h : (-2147483648 ≤ (M 44 0 13) + 1 ∧ (M 44 0 13) + 1 ≤ 2147483647) ∧ (Q none (up3 M 44 0 13 ((M 44 0 13) + 1)))) :
    G3 E YX12_readsPart Q 247 [(0, vR 44 0)] [] M := by
  refine g3_rm fun hM => ?_
  exact g3_aload_n 0 dX12_readsPart_247 rfl rfl (g3_dup dX12_readsPart_248 rfl (g3_getI (t := 0) dX12_readsPart_249 flX12_198 (z3 rfl) (z3 rfl) (g3_iconst dX12_readsPart_252 (g3_iadd dX12_readsPart_253 (g3_put dX12_readsPart_254 fpX12_198 (Or.inl rfl) (z3 rfl) h.1 (g3_return dX12_readsPart_257 rfl h.2))))))
