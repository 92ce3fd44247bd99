set_option maxRecDepth 20000 in
set_option maxHeartbeats 200000 in
theorem sX11_within {E : E3} {Q : Q3} {M : M3} {x0 x1 x2 : Int}
    (h : (-2147483648 ≤ x0 ∧ x0 ≤ 2147483647) ∧ ((-2147483648 ≤ x1 ∧ x1 ≤ 2147483647) ∧ ((x0 < x1 → (Q (some (vI 0)) M)) ∧ (x1 ≤ x0 → ((-2147483648 ≤ x2 ∧ x2 ≤ 2147483647) ∧ ((x2 < x0 → (Q (some (vI 0)) M)) ∧ (x0 ≤ x2 → (Q (some (vI 1)) M)))))))) :
    C3 E YX11_within [vI x0, vI x1, vI x2] M Q := by
  refine c3_in rfl rfl (z3 rfl) (g3_rm fun hM => ?_)
  refine g3_iload_n 0 dX11_within_0 rfl rfl (g3_iload_n 1 dX11_within_1 rfl rfl (g3_icmp_lt (tgt := 14) dX11_within_2 rfl h.1 h.2.1 (fun c => ?_) (fun c => ?_)))
  · have h1 := h; have h := h1.2.2.1 c
    have o1 := h1.1
    have o2 := h1.2.1
    exact g3_iconst dX11_within_14 (g3_zreturn dX11_within_15 rfl (Or.inl rfl) h)
  · have h1 := h; have h := h1.2.2.2 c
    have o1 := h1.1
    have o2 := h1.2.1
    refine g3_iload_n 0 dX11_within_5 rfl rfl (g3_iload_n 2 dX11_within_6 rfl rfl (g3_icmp_gt (tgt := 14) dX11_within_7 rfl o1 h.1 (fun c => ?_) (fun c => ?_)))
    · have h1 := h; have h := h1.2.1 c
      have o3 := h1.1
      exact g3_iconst dX11_within_14 (g3_zreturn dX11_within_15 rfl (Or.inl rfl) h)
    · have h1 := h; have h := h1.2.2 c
      have o3 := h1.1
      exact g3_iconst dX11_within_10 (g3_goto (tgt := 15) dX11_within_11 rfl (g3_zreturn dX11_within_15 rfl (Or.inr rfl) h))
set_option maxRecDepth 20000 in
set_option maxHeartbeats 200000 in
theorem sX12_in {E : E3} {Q : Q3} {M : M3} {x0 x1 x2 : Int}
    (h : (-2147483648 ≤ x0 ∧ x0 ≤ 2147483647) ∧ ((-2147483648 ≤ x1 ∧ x1 ≤ 2147483647) ∧ ((x0 < x1 → (Q (some (vI 0)) M)) ∧ (x1 ≤ x0 → ((-2147483648 ≤ x2 ∧ x2 ≤ 2147483647) ∧ ((x2 < x0 → (Q (some (vI 0)) M)) ∧ (x0 ≤ x2 → (Q (some (vI 1)) M)))))))) :
    C3 E YX12_in [vI x0, vI x1, vI x2] M Q := by
  refine c3_in rfl rfl (z3 rfl) (g3_rm fun hM => ?_)
  refine g3_iload_n 0 dX12_in_0 rfl rfl (g3_iload_n 1 dX12_in_1 rfl rfl (g3_icmp_lt (tgt := 14) dX12_in_2 rfl h.1 h.2.1 (fun c => ?_) (fun c => ?_)))
  · have h1 := h; have h := h1.2.2.1 c
    have o1 := h1.1
    have o2 := h1.2.1
    exact g3_iconst dX12_in_14 (g3_zreturn dX12_in_15 rfl (Or.inl rfl) h)
  · have h1 := h; have h := h1.2.2.2 c
    have o1 := h1.1
    have o2 := h1.2.1
    refine g3_iload_n 0 dX12_in_5 rfl rfl (g3_iload_n 2 dX12_in_6 rfl rfl (g3_icmp_gt (tgt := 14) dX12_in_7 rfl o1 h.1 (fun c => ?_) (fun c => ?_)))
    · have h1 := h; have h := h1.2.1 c
      have o3 := h1.1
      exact g3_iconst dX12_in_14 (g3_zreturn dX12_in_15 rfl (Or.inl rfl) h)
    · have h1 := h; have h := h1.2.2 c
      have o3 := h1.1
      exact g3_iconst dX12_in_10 (g3_goto (tgt := 15) dX12_in_11 rfl (g3_zreturn dX12_in_15 rfl (Or.inr rfl) h))
set_option maxRecDepth 20000 in
set_option maxHeartbeats 200000 in
theorem sX8_waits {E : E3} {Q : Q3} {M : M3} {i0 : Int}
    (h : (0 ≤ i0 ∧ i0 < 48) ∧ ((M 13 i0 5 = 0 → (Q (some (vI 1)) M)) ∧ (M 13 i0 5 ≠ 0 → ((M 13 i0 5 ≠ 2 → (Q (some (vI 0)) M)) ∧ (M 13 i0 5 = 2 → (Q (some (vI 1)) M)))))) :
    C3 E YX8_waits [vR 13 i0] M Q := by
  refine c3_in rfl rfl (z3 rfl) (g3_rm fun hM => ?_)
  refine g3_aload_n 0 dX8_waits_0 rfl rfl (g3_getI (t := 0) dX8_waits_1 flX8_9 (z3 rfl) h.1 (g3_if_eq (tgt := 15) dX8_waits_4 rfl (hM 13 i0 5) (fun c => ?_) (fun c => ?_)))
  · have h1 := h; have h := h1.2.1 c
    have o1 := h1.1
    exact g3_iconst dX8_waits_15 (g3_goto (tgt := 20) dX8_waits_16 rfl (g3_zreturn dX8_waits_20 rfl (Or.inr rfl) h))
  · have h1 := h; have h := h1.2.2 c
    have o1 := h1.1
    refine g3_aload_n 0 dX8_waits_7 rfl rfl (g3_getI (t := 0) dX8_waits_8 flX8_9 (z3 rfl) o1 (g3_iconst dX8_waits_11 (g3_icmp_ne (tgt := 19) dX8_waits_12 rfl (hM 13 i0 5) (z3 rfl) (fun c => ?_) (fun c => ?_))))
    · have h1 := h; have h := h1.1 c
      exact g3_iconst dX8_waits_19 (g3_zreturn dX8_waits_20 rfl (Or.inl rfl) h)
    · have h1 := h; have h := h1.2 c
      exact g3_iconst dX8_waits_15 (g3_goto (tgt := 20) dX8_waits_16 rfl (g3_zreturn dX8_waits_20 rfl (Or.inr rfl) h))
set_option maxRecDepth 20000 in
set_option maxHeartbeats 200000 in
theorem sX1_told {E : E3} {Q : Q3} {M : M3}
    (h : (M 2 0 1 ≠ (-1) → (Q (some (vI (M 2 0 1))) M)) ∧ (M 2 0 1 = (-1) → (Q (some (vI (M 2 0 0))) M))) :
    C3 E YX1_told [vR 2 0] M Q := by
  refine c3_in rfl rfl (z3 rfl) (g3_rm fun hM => ?_)
  refine g3_aload_n 0 dX1_told_0 rfl rfl (g3_getI (t := 0) dX1_told_1 flX1_9 (z3 rfl) (z3 rfl) (g3_iconst dX1_told_4 (g3_icmp_ne (tgt := 15) dX1_told_5 rfl (hM 2 0 1) (z3 rfl) (fun c => ?_) (fun c => ?_))))
  · have h1 := h; have h := h1.1 c
    exact g3_aload_n 0 dX1_told_15 rfl rfl (g3_getI (t := 0) dX1_told_16 flX1_9 (z3 rfl) (z3 rfl) (g3_ireturn dX1_told_19 rfl h))
  · have h1 := h; have h := h1.2 c
    exact g3_aload_n 0 dX1_told_8 rfl rfl (g3_getI (t := 0) dX1_told_9 flX1_15 (z3 rfl) (z3 rfl) (g3_goto (tgt := 19) dX1_told_12 rfl (g3_ireturn dX1_told_19 rfl h)))
set_option maxRecDepth 20000 in
set_option maxHeartbeats 200000 in
theorem sX12_isOff {E : E3} {Q : Q3} {M : M3} {x1 : Int}
    (h : (0 ≤ x1 ∧ x1 < 48) ∧ ((M 50 0 x1 = 0 → (Q (some (vI 1)) M)) ∧ (M 50 0 x1 ≠ 0 → ((M 50 0 x1 ≠ 2 → (Q (some (vI 0)) M)) ∧ (M 50 0 x1 = 2 → (Q (some (vI 1)) M)))))) :
    C3 E YX12_isOff [vR 44 0, vI x1] M Q := by
  refine c3_in rfl rfl (z3 rfl) (g3_rm fun hM => ?_)
  refine g3_aload_n 0 dX12_isOff_0 rfl rfl (g3_getR0 (t := 50) dX12_isOff_1 flX12_25 rfl (z3 rfl) (g3_iload_n 1 dX12_isOff_4 rfl rfl (g3_iald dX12_isOff_5 ar_50 (z3 rfl) h.1 (g3_if_eq (tgt := 19) dX12_isOff_6 rfl (hM 50 0 x1) (fun c => ?_) (fun c => ?_)))))
  · have h1 := h; have h := h1.2.1 c
    have o1 := h1.1
    exact g3_iconst dX12_isOff_19 (g3_goto (tgt := 24) dX12_isOff_20 rfl (g3_zreturn dX12_isOff_24 rfl (Or.inr rfl) h))
  · have h1 := h; have h := h1.2.2 c
    have o1 := h1.1
    refine g3_aload_n 0 dX12_isOff_9 rfl rfl (g3_getR0 (t := 50) dX12_isOff_10 flX12_25 rfl (z3 rfl) (g3_iload_n 1 dX12_isOff_13 rfl rfl (g3_iald dX12_isOff_14 ar_50 (z3 rfl) o1 (g3_iconst dX12_isOff_15 (g3_icmp_ne (tgt := 23) dX12_isOff_16 rfl (hM 50 0 x1) (z3 rfl) (fun c => ?_) (fun c => ?_))))))
    · have h1 := h; have h := h1.1 c
      exact g3_iconst dX12_isOff_23 (g3_zreturn dX12_isOff_24 rfl (Or.inl rfl) h)
    · have h1 := h; have h := h1.2 c
      exact g3_iconst dX12_isOff_19 (g3_goto (tgt := 24) dX12_isOff_20 rfl (g3_zreturn dX12_isOff_24 rfl (Or.inr rfl) h))
set_option maxRecDepth 20000 in
set_option maxHeartbeats 200000 in
theorem sX12_lives {E : E3} {Q : Q3} {M : M3} {x1 : Int}
    (h : (0 ≤ x1 ∧ x1 < 48) ∧ ((3 ≤ M 50 0 x1 → (Q (some (vI 0)) M)) ∧ (M 50 0 x1 < 3 → (Q (some (vI 1)) M)))) :
    C3 E YX12_lives [vR 44 0, vI x1] M Q := by
  refine c3_in rfl rfl (z3 rfl) (g3_rm fun hM => ?_)
  refine g3_aload_n 0 dX12_lives_0 rfl rfl (g3_getR0 (t := 50) dX12_lives_1 flX12_25 rfl (z3 rfl) (g3_iload_n 1 dX12_lives_4 rfl rfl (g3_iald dX12_lives_5 ar_50 (z3 rfl) h.1 (g3_iconst dX12_lives_6 (g3_icmp_ge (tgt := 14) dX12_lives_7 rfl (hM 50 0 x1) (z3 rfl) (fun c => ?_) (fun c => ?_))))))
  · have h1 := h; have h := h1.2.1 c
    have o1 := h1.1
    exact g3_iconst dX12_lives_14 (g3_zreturn dX12_lives_15 rfl (Or.inl rfl) h)
  · have h1 := h; have h := h1.2.2 c
    have o1 := h1.1
    exact g3_iconst dX12_lives_10 (g3_goto (tgt := 15) dX12_lives_11 rfl (g3_zreturn dX12_lives_15 rfl (Or.inr rfl) h))
set_option maxRecDepth 20000 in
set_option maxHeartbeats 200000 in
theorem sX12_asOfNow {E : E3} {Q : Q3} {M : M3}
    (h : (M 44 0 27 ≠ (-1) → (Q (some (vI (M 44 0 27))) M)) ∧ (M 44 0 27 = (-1) → (Q (some (vI (M 44 0 0))) M))) :
    C3 E YX12_asOfNow [vR 44 0] M Q := by
  refine c3_in rfl rfl (z3 rfl) (g3_rm fun hM => ?_)
  refine g3_aload_n 0 dX12_asOfNow_0 rfl rfl (g3_getI (t := 0) dX12_asOfNow_1 flX12_67 (z3 rfl) (z3 rfl) (g3_iconst dX12_asOfNow_4 (g3_icmp_ne (tgt := 15) dX12_asOfNow_5 rfl (hM 44 0 27) (z3 rfl) (fun c => ?_) (fun c => ?_))))
  · have h1 := h; have h := h1.1 c
    exact g3_aload_n 0 dX12_asOfNow_15 rfl rfl (g3_getI (t := 0) dX12_asOfNow_16 flX12_67 (z3 rfl) (z3 rfl) (g3_ireturn dX12_asOfNow_19 rfl h))
  · have h1 := h; have h := h1.2 c
    exact g3_aload_n 0 dX12_asOfNow_8 rfl rfl (g3_getI (t := 0) dX12_asOfNow_9 flX12_151 (z3 rfl) (z3 rfl) (g3_goto (tgt := 19) dX12_asOfNow_12 rfl (g3_ireturn dX12_asOfNow_19 rfl h)))
set_option maxRecDepth 20000 in
set_option maxHeartbeats 200000 in
theorem sX12_sortOfForm {E : E3} {Q : Q3} {M : M3} {x1 : Int}
    (h : (0 ≤ x1 ∧ x1 < 60) ∧ ((0 ≤ M 56 0 x1 ∧ M 56 0 x1 < 48) ∧ (Q (some (vI (M 46 0 (M 56 0 x1)))) M))) :
    C3 E YX12_sortOfForm [vR 44 0, vI x1] M Q := by
  refine c3_in rfl rfl (z3 rfl) (g3_rm fun hM => ?_)
  exact g3_aload_n 0 dX12_sortOfForm_0 rfl rfl (g3_getR0 (t := 46) dX12_sortOfForm_1 flX12_13 rfl (z3 rfl) (g3_aload_n 0 dX12_sortOfForm_4 rfl rfl (g3_getR0 (t := 56) dX12_sortOfForm_5 flX12_43 rfl (z3 rfl) (g3_iload_n 1 dX12_sortOfForm_8 rfl rfl (g3_iald dX12_sortOfForm_9 ar_56 (z3 rfl) h.1 (g3_iald dX12_sortOfForm_10 ar_46 (z3 rfl) h.2.1 (g3_ireturn dX12_sortOfForm_11 rfl h.2.2)))))))
