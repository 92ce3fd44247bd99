set_option maxRecDepth 20000 in
set_option maxHeartbeats 200000 in
theorem sX12_reads {E : E3} {Q : Q3} {M : M3}
    (h : (M 44 0 11 = 0 → ((preRd (up3 (up3 (up3 (up3 M 44 0 11 1) 44 0 17 0) 44 0 12 (-1)) 44 0 13 0)) ∧ (∀ (N1 : M3), RM3 N1 → (∀ q : Nat, q ∉ ([44, 53, 54, 55] : List Nat) → N1 q = (up3 (up3 (up3 (up3 M 44 0 11 1) 44 0 17 0) 44 0 12 (-1)) 44 0 13 0) q) → (∀ j : Int, j ∉ ([12, 13, 17] : List Int) → N1 44 0 j = (up3 (up3 (up3 (up3 M 44 0 11 1) 44 0 17 0) 44 0 12 (-1)) 44 0 13 0) 44 0 j) → (poRd (up3 (up3 (up3 (up3 M 44 0 11 1) 44 0 17 0) 44 0 12 (-1)) 44 0 13 0) N1) → (G3 E YX12_reads Q 32 [(0, vR 44 0)] [] N1)))) ∧ (M 44 0 11 ≠ 0 → (Q none M))) :
    C3 E YX12_reads [vR 44 0] M Q := by
  refine c3_in rfl rfl (z3 rfl) (g3_rm fun hM => ?_)
  refine g3_aload_n 0 dX12_reads_0 rfl rfl (g3_getI (t := 0) dX12_reads_1 flX12_181 (z3 rfl) (z3 rfl) (g3_if_eq (tgt := 8) dX12_reads_4 rfl (hM 44 0 11) (fun c => ?_) (fun c => ?_)))
  · have h1 := h; have h := h1.1 c
    refine g3_aload_n 0 dX12_reads_8 rfl rfl (g3_iconst dX12_reads_9 (g3_put dX12_reads_10 fpX12_181 (Or.inr ⟨rfl, (Or.inr rfl)⟩) (z3 rfl) (z3 rfl) (g3_aload_n 0 dX12_reads_13 rfl rfl (g3_iconst dX12_reads_14 (g3_put dX12_reads_15 fpX12_185 (Or.inl rfl) (z3 rfl) (z3 rfl) (g3_aload_n 0 dX12_reads_18 rfl rfl (g3_iconst dX12_reads_19 (g3_put dX12_reads_20 fpX12_188 (Or.inl rfl) (z3 rfl) (z3 rfl) (g3_aload_n 0 dX12_reads_23 rfl rfl (g3_iconst dX12_reads_24 (g3_put dX12_reads_25 fpX12_198 (Or.inl rfl) (z3 rfl) (z3 rfl) (g3_aload_n 0 dX12_reads_28 rfl rfl (g3_cV0 dX12_reads_29 myX12_readsPart mlX12_201 (z3 rfl) ob_44 (z3 rfl) (z3 rfl) (kX12_readsPart h.1 (fun N1 hN1 hf1 hs1 hp1 => ?_)))))))))))))))
    have o1 := h.1
    have h := h.2 N1 hN1 hf1 hs1 hp1
    refine g3_r0 ?_
    refine g3_sub [0] rfl h
  · have h1 := h; have h := h1.2 c
    exact g3_return dX12_reads_7 rfl h
set_option maxRecDepth 20000 in
set_option maxHeartbeats 200000 in
theorem sX12_reads_32 {E : E3} {Q : Q3} {M : M3}
    (h : (M 44 0 12 ≠ (-1) → (Q none M)) ∧ (M 44 0 12 = (-1) → ((M 44 0 9 ≤ M 44 0 17 → (Q none M)) ∧ (M 44 0 17 < M 44 0 9 → ((pby3 M (M 44 0 17)) ∧ ((-2147483648 ≤ tm3 M (M 44 0 17) ∧ tm3 M (M 44 0 17) ≤ 2147483647) ∧ ((tm3 M (M 44 0 17) = 59 → ((-2147483648 ≤ (M 44 0 17) + 1 ∧ (M 44 0 17) + 1 ≤ 2147483647) ∧ ((preRd (up3 M 44 0 17 ((M 44 0 17) + 1))) ∧ (∀ (N1 : M3), RM3 N1 → (∀ q : Nat, q ∉ ([44, 53, 54, 55] : List Nat) → N1 q = (up3 M 44 0 17 ((M 44 0 17) + 1)) q) → (∀ j : Int, j ∉ ([12, 13, 17] : List Int) → N1 44 0 j = (up3 M 44 0 17 ((M 44 0 17) + 1)) 44 0 j) → (poRd (up3 M 44 0 17 ((M 44 0 17) + 1)) N1) → (G3 E YX12_reads Q 32 [(0, vR 44 0)] [] N1))))) ∧ (tm3 M (M 44 0 17) ≠ 59 → (Q none (up3 M 44 0 12 (M 44 0 17))))))))))) :
    G3 E YX12_reads Q 32 [(0, vR 44 0)] [] M := by
  refine g3_rm fun hM => ?_
  refine g3_aload_n 0 dX12_reads_32 rfl rfl (g3_getI (t := 0) dX12_reads_33 flX12_188 (z3 rfl) (z3 rfl) (g3_iconst dX12_reads_36 (g3_icmp_ne (tgt := 90) dX12_reads_37 rfl (hM 44 0 12) (z3 rfl) (fun c => ?_) (fun c => ?_))))
  · have h1 := h; have h := h1.1 c
    exact g3_return dX12_reads_90 rfl h
  · have h1 := h; have h := h1.2 c
    refine g3_aload_n 0 dX12_reads_40 rfl rfl (g3_getI (t := 0) dX12_reads_41 flX12_185 (z3 rfl) (z3 rfl) (g3_aload_n 0 dX12_reads_44 rfl rfl (g3_getI (t := 0) dX12_reads_45 flX12_178 (z3 rfl) (z3 rfl) (g3_icmp_ge (tgt := 90) dX12_reads_48 rfl (hM 44 0 17) (hM 44 0 9) (fun c => ?_) (fun c => ?_)))))
    · have h1 := h; have h := h1.1 c
      exact g3_return dX12_reads_90 rfl h
    · have h1 := h; have h := h1.2 c
      refine g3_aload_n 0 dX12_reads_51 rfl rfl (g3_aload_n 0 dX12_reads_52 rfl rfl (g3_getI (t := 0) dX12_reads_53 flX12_185 (z3 rfl) (z3 rfl) (g3_cV1 dX12_reads_56 myX12_byteAt mlX12_191 (z3 rfl) ob_44 (z3 rfl) (z3 rfl) (kX12_byteAt h.1 (g3_r1 (g3_bipush dX12_reads_59 rfl (g3_icmp_eq (tgt := 73) dX12_reads_61 rfl h.2.1 (z3 rfl) (fun c => ?_) (fun c => ?_))))))))
      · have h1 := h; have h := h1.2.2.1 c
        have o1 := h1.1
        have o2 := h1.2.1
        refine g3_aload_n 0 dX12_reads_73 rfl rfl (g3_dup dX12_reads_74 rfl (g3_getI (t := 0) dX12_reads_75 flX12_185 (z3 rfl) (z3 rfl) (g3_iconst dX12_reads_78 (g3_iadd dX12_reads_79 (g3_put dX12_reads_80 fpX12_185 (Or.inl rfl) (z3 rfl) h.1 (g3_aload_n 0 dX12_reads_83 rfl rfl (g3_cV0 dX12_reads_84 myX12_readsPart mlX12_201 (z3 rfl) ob_44 (z3 rfl) (z3 rfl) (kX12_readsPart h.2.1 (fun N1 hN1 hf1 hs1 hp1 => ?_)))))))))
        have o3 := h.1
        have o4 := h.2.1
        have h := h.2.2 N1 hN1 hf1 hs1 hp1
        refine g3_r0 ?_
        refine g3_goto (tgt := 32) dX12_reads_87 rfl (g3_sub [0] rfl h)
      · have h1 := h; have h := h1.2.2.2 c
        have o1 := h1.1
        have o2 := h1.2.1
        exact g3_aload_n 0 dX12_reads_64 rfl rfl (g3_aload_n 0 dX12_reads_65 rfl rfl (g3_getI (t := 0) dX12_reads_66 flX12_185 (z3 rfl) (z3 rfl) (g3_put dX12_reads_69 fpX12_188 (Or.inl rfl) (z3 rfl) (hM 44 0 17) (g3_return dX12_reads_72 rfl h))))
