set_option maxRecDepth 20000 in
set_option maxHeartbeats 200000 in
theorem sX2_isKnown {E : E3} {Q : Q3} {M : M3} {x1 : Int}
    (h : (0 ≤ x1 ∧ x1 < 60) ∧ ((-2147483648 ≤ cTold M ∧ cTold M ≤ 2147483647) ∧ ((cTold M < M 18 x1 2 → (Q (some (vI 0)) M)) ∧ (M 18 x1 2 ≤ cTold M → (Q (some (vI 1)) M))))) :
    C3 E YX2_isKnown [vR 14 0, vI x1] M Q := by
  refine c3_in rfl rfl (z3 rfl) (g3_rm fun hM => ?_)
  refine g3_aload_n 0 dX2_isKnown_0 rfl rfl (g3_getR0 (t := 15) dX2_isKnown_1 flX2_13 rfl (z3 rfl) (g3_iload_n 1 dX2_isKnown_4 rfl rfl (g3_aald dX2_isKnown_5 aq_15 h.1 (g3_getI (t := 0) dX2_isKnown_6 flX2_65 (z3 rfl) h.1 (g3_aload_n 0 dX2_isKnown_9 rfl rfl (g3_getR0 (t := 2) dX2_isKnown_10 flX2_32 rfl (z3 rfl) (g3_cV0 dX2_isKnown_13 myX1_told mlX2_114 (z3 rfl) ob_2 (z3 rfl) (z3 rfl) (kX1_told (g3_r1 (g3_icmp_gt (tgt := 23) dX2_isKnown_16 rfl (hM 18 x1 2) h.2.1 (fun c => ?_) (fun c => ?_)))))))))))
  · have h1 := h; have h := h1.2.2.1 c
    have o1 := h1.1
    have o2 := h1.2.1
    exact g3_iconst dX2_isKnown_23 (g3_zreturn dX2_isKnown_24 rfl (Or.inl rfl) h)
  · have h1 := h; have h := h1.2.2.2 c
    have o1 := h1.1
    have o2 := h1.2.1
    exact g3_iconst dX2_isKnown_19 (g3_goto (tgt := 24) dX2_isKnown_20 rfl (g3_zreturn dX2_isKnown_24 rfl (Or.inr rfl) h))
set_option maxRecDepth 20000 in
set_option maxHeartbeats 200000 in
theorem sX2_isRead {E : E3} {Q : Q3} {M : M3} {i1 : Int}
    (h : (0 ≤ i1 ∧ i1 < 60) ∧ ((M 18 i1 5 = (-1) → (Q (some (vI 0)) M)) ∧ (M 18 i1 5 ≠ (-1) → ((-2147483648 ≤ cTold M ∧ cTold M ≤ 2147483647) ∧ ((cTold M < M 18 i1 5 → (Q (some (vI 0)) M)) ∧ (M 18 i1 5 ≤ cTold M → (Q (some (vI 1)) M))))))) :
    C3 E YX2_isRead [vR 14 0, vR 18 i1] M Q := by
  refine c3_in rfl rfl (z3 rfl) (g3_rm fun hM => ?_)
  refine g3_aload_n 1 dX2_isRead_0 rfl rfl (g3_getI (t := 0) dX2_isRead_1 flX2_68 (z3 rfl) h.1 (g3_iconst dX2_isRead_4 (g3_icmp_eq (tgt := 26) dX2_isRead_5 rfl (hM 18 i1 5) (z3 rfl) (fun c => ?_) (fun c => ?_))))
  · have h1 := h; have h := h1.2.1 c
    have o1 := h1.1
    exact g3_iconst dX2_isRead_26 (g3_zreturn dX2_isRead_27 rfl (Or.inl rfl) h)
  · have h1 := h; have h := h1.2.2 c
    have o1 := h1.1
    refine g3_aload_n 1 dX2_isRead_8 rfl rfl (g3_getI (t := 0) dX2_isRead_9 flX2_68 (z3 rfl) o1 (g3_aload_n 0 dX2_isRead_12 rfl rfl (g3_getR0 (t := 2) dX2_isRead_13 flX2_32 rfl (z3 rfl) (g3_cV0 dX2_isRead_16 myX1_told mlX2_114 (z3 rfl) ob_2 (z3 rfl) (z3 rfl) (kX1_told (g3_r1 (g3_icmp_gt (tgt := 26) dX2_isRead_19 rfl (hM 18 i1 5) h.1 (fun c => ?_) (fun c => ?_))))))))
    · have h1 := h; have h := h1.2.1 c
      have o2 := h1.1
      exact g3_iconst dX2_isRead_26 (g3_zreturn dX2_isRead_27 rfl (Or.inl rfl) h)
    · have h1 := h; have h := h1.2.2 c
      have o2 := h1.1
      exact g3_iconst dX2_isRead_22 (g3_goto (tgt := 27) dX2_isRead_23 rfl (g3_zreturn dX2_isRead_27 rfl (Or.inr rfl) h))
set_option maxRecDepth 20000 in
set_option maxHeartbeats 200000 in
theorem sX12_isKnown {E : E3} {Q : Q3} {M : M3} {x1 : Int}
    (h : (0 ≤ x1 ∧ x1 < 60) ∧ ((-2147483648 ≤ mNow M ∧ mNow M ≤ 2147483647) ∧ ((mNow M < M 57 0 x1 → (Q (some (vI 0)) M)) ∧ (M 57 0 x1 ≤ mNow M → (Q (some (vI 1)) M))))) :
    C3 E YX12_isKnown [vR 44 0, vI x1] M Q := by
  refine c3_in rfl rfl (z3 rfl) (g3_rm fun hM => ?_)
  refine g3_aload_n 0 dX12_isKnown_0 rfl rfl (g3_getR0 (t := 57) dX12_isKnown_1 flX12_46 rfl (z3 rfl) (g3_iload_n 1 dX12_isKnown_4 rfl rfl (g3_iald dX12_isKnown_5 ar_57 (z3 rfl) h.1 (g3_aload_n 0 dX12_isKnown_6 rfl rfl (g3_cV0 dX12_isKnown_7 myX12_asOfNow mlX12_219 (z3 rfl) ob_44 (z3 rfl) (z3 rfl) (kX12_asOfNow (g3_r1 (g3_icmp_gt (tgt := 17) dX12_isKnown_10 rfl (hM 57 0 x1) h.2.1 (fun c => ?_) (fun c => ?_)))))))))
  · have h1 := h; have h := h1.2.2.1 c
    have o1 := h1.1
    have o2 := h1.2.1
    exact g3_iconst dX12_isKnown_17 (g3_zreturn dX12_isKnown_18 rfl (Or.inl rfl) h)
  · have h1 := h; have h := h1.2.2.2 c
    have o1 := h1.1
    have o2 := h1.2.1
    exact g3_iconst dX12_isKnown_13 (g3_goto (tgt := 18) dX12_isKnown_14 rfl (g3_zreturn dX12_isKnown_18 rfl (Or.inr rfl) h))
