set_option maxRecDepth 20000 in
set_option maxHeartbeats 200000 in
theorem sX12_isFalse {E : E3} {Q : Q3} {M : M3} {x1 : Int}
    (h : (0 ≤ x1 ∧ x1 < 60) ∧ ((mHow M x1 ≠ 2 → (Q (some (vI 0)) M)) ∧ (mHow M x1 = 2 → ((RdC M ∧ okR M x1) ∧ (∀ (N1 : M3), RM3 N1 → Em M N1 → (RdC N1) → ((and3 (shr3 (mTrue M x1) (M 63 0 x1)) 1 ≠ 0 → (Q (some (vI 0)) N1)) ∧ (and3 (shr3 (mTrue M x1) (M 63 0 x1)) 1 = 0 → (Q (some (vI 1)) N1)))))))) :
    C3 E YX12_isFalse [vR 44 0, vI x1] M Q := by
  refine c3_in rfl rfl (z3 rfl) (g3_rm fun hM => ?_)
  refine g3_aload_n 0 dX12_isFalse_0 rfl rfl (g3_iload_n 1 dX12_isFalse_1 rfl rfl (g3_cV1 dX12_isFalse_2 myX12_howOf mlX12_242 (z3 rfl) ob_44 (z3 rfl) (z3 rfl) (kX12_howOf h.1 (g3_r1 (g3_iconst dX12_isFalse_5 (g3_icmp_ne (tgt := 30) dX12_isFalse_6 rfl (mHow_rg hM _) (z3 rfl) (fun c => ?_) (fun c => ?_)))))))
  · have h1 := h; have h := h1.2.1 c
    have o1 := h1.1
    exact g3_iconst dX12_isFalse_30 (g3_zreturn dX12_isFalse_31 rfl (Or.inl rfl) h)
  · have h1 := h; have h := h1.2.2 c
    have o1 := h1.1
    refine g3_aload_n 0 dX12_isFalse_9 rfl rfl (g3_iload_n 1 dX12_isFalse_10 rfl rfl (g3_cV1 dX12_isFalse_11 myX12_trueReasons mlX12_254 (z3 rfl) ob_44 (z3 rfl) (z3 rfl) (eX12_trueReasons Em.rf h.1 (fun N1 hN1 he1 hp1 => ?_))))
    have o2 := h.1
    have h := h.2 N1 hN1 he1 hp1
    refine g3_r1 ?_
    refine g3_aload_n 0 dX12_isFalse_14 rfl rfl (g3_getR0 (t := 63) dX12_isFalse_15 flX12_64 rfl (z3 rfl) (g3_iload_n 1 dX12_isFalse_18 rfl rfl (g3_iald dX12_isFalse_19 ar_63 (z3 rfl) o1 (g3_val (cg3 (he1.1 63 (by decide)) _ _) (g3_ishr dX12_isFalse_20 (g3_iconst dX12_isFalse_21 (g3_iand dX12_isFalse_22 (g3_if_ne (tgt := 30) dX12_isFalse_23 rfl (t3_tr _) (fun c => ?_) (fun c => ?_)))))))))
    · have h1 := h; have h := h1.1 c
      exact g3_iconst dX12_isFalse_30 (g3_zreturn dX12_isFalse_31 rfl (Or.inl rfl) h)
    · have h1 := h; have h := h1.2 c
      exact g3_iconst dX12_isFalse_26 (g3_goto (tgt := 31) dX12_isFalse_27 rfl (g3_zreturn dX12_isFalse_31 rfl (Or.inr rfl) h))
