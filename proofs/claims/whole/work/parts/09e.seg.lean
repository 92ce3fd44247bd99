set_option maxRecDepth 20000 in
set_option maxHeartbeats 200000 in
theorem sX12_howOf {E : E3} {Q : Q3} {M : M3} {x1 : Int}
    (h : (0 ≤ x1 ∧ x1 < 60) ∧ ((¬(M 57 0 x1 ≤ mNow M) → (Q (some (vI 0)) M)) ∧ ((M 57 0 x1 ≤ mNow M) → ((M 62 0 x1 ≤ 0 → (Q (some (vI 0)) M)) ∧ (0 < M 62 0 x1 → ((-2147483648 ≤ mNow M ∧ mNow M ≤ 2147483647) ∧ ((mNow M < M 60 0 x1 → (Q (some (vI 0)) M)) ∧ (M 60 0 x1 ≤ mNow M → (Q (some (vI (M 62 0 x1))) M))))))))) :
    C3 E YX12_howOf [vR 44 0, vI x1] M Q := by
  refine c3_in rfl rfl (z3 rfl) (g3_rm fun hM => ?_)
  refine g3_aload_n 0 dX12_howOf_0 rfl rfl (g3_iload_n 1 dX12_howOf_1 rfl rfl (g3_cV1 dX12_howOf_2 myX12_isKnown mlX12_164 (z3 rfl) ob_44 (z3 rfl) (z3 rfl) (kX12_isKnown h.1 (g3_r1 (g3_bool_eq (tgt := 39) dX12_howOf_5 rfl (fun c => ?_) (fun c => ?_))))))
  · have h1 := h; have h := h1.2.1 c
    have o1 := h1.1
    exact g3_iconst dX12_howOf_39 (g3_ireturn dX12_howOf_40 rfl h)
  · have h1 := h; have h := h1.2.2 c
    have o1 := h1.1
    refine g3_aload_n 0 dX12_howOf_8 rfl rfl (g3_getR0 (t := 62) dX12_howOf_9 flX12_61 rfl (z3 rfl) (g3_iload_n 1 dX12_howOf_12 rfl rfl (g3_iald dX12_howOf_13 ar_62 (z3 rfl) o1 (g3_if_le (tgt := 39) dX12_howOf_14 rfl (hM 62 0 x1) (fun c => ?_) (fun c => ?_)))))
    · have h1 := h; have h := h1.1 c
      exact g3_iconst dX12_howOf_39 (g3_ireturn dX12_howOf_40 rfl h)
    · have h1 := h; have h := h1.2 c
      refine g3_aload_n 0 dX12_howOf_17 rfl rfl (g3_getR0 (t := 60) dX12_howOf_18 flX12_55 rfl (z3 rfl) (g3_iload_n 1 dX12_howOf_21 rfl rfl (g3_iald dX12_howOf_22 ar_60 (z3 rfl) o1 (g3_aload_n 0 dX12_howOf_23 rfl rfl (g3_cV0 dX12_howOf_24 myX12_asOfNow mlX12_219 (z3 rfl) ob_44 (z3 rfl) (z3 rfl) (kX12_asOfNow (g3_r1 (g3_icmp_gt (tgt := 39) dX12_howOf_27 rfl (hM 60 0 x1) h.1 (fun c => ?_) (fun c => ?_)))))))))
      · have h1 := h; have h := h1.2.1 c
        have o2 := h1.1
        exact g3_iconst dX12_howOf_39 (g3_ireturn dX12_howOf_40 rfl h)
      · have h1 := h; have h := h1.2.2 c
        have o2 := h1.1
        exact g3_aload_n 0 dX12_howOf_30 rfl rfl (g3_getR0 (t := 62) dX12_howOf_31 flX12_61 rfl (z3 rfl) (g3_iload_n 1 dX12_howOf_34 rfl rfl (g3_iald dX12_howOf_35 ar_62 (z3 rfl) o1 (g3_goto (tgt := 40) dX12_howOf_36 rfl (g3_ireturn dX12_howOf_40 rfl h)))))
