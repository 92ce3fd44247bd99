set_option maxRecDepth 20000 in
set_option maxHeartbeats 200000 in
theorem sX12_isAllowed {E : E3} {Q : Q3} {M : M3} {x1 x2 : Int}
    (h : (RdC M ∧ (0 ≤ (1 : Int) ∧ (1 : Int) < 4) ∧ 0 ≤ x2 ∧ x2 ≤ 399) ∧ (∀ (N1 : M3), RM3 N1 → Em M N1 → (RdC N1) → ((and3 (shr3 (sSd (LM3 M) 21 x2) x1) 1 ≠ 1 → (Q (some (vI 0)) N1)) ∧ (and3 (shr3 (sSd (LM3 M) 21 x2) x1) 1 = 1 → (Q (some (vI 1)) N1))))) :
    C3 E YX12_isAllowed [vR 44 0, vI x1, vI x2] M Q := by
  refine c3_in rfl rfl (z3 rfl) (g3_rm fun hM => ?_)
  refine g3_aload_n 0 dX12_isAllowed_0 rfl rfl (g3_iconst dX12_isAllowed_1 (g3_iload_n 2 dX12_isAllowed_2 rfl rfl (g3_cV2 dX12_isAllowed_3 myX12_lawOf mlX12_216 (z3 rfl) ob_44 (z3 rfl) (z3 rfl) (eX12_lawOf Em.rf h.1 (fun N1 hN1 he1 hp1 => ?_)))))
  have o1 := h.1
  have h := h.2 N1 hN1 he1 hp1
  refine g3_r1 ?_
  refine g3_iload_n 1 dX12_isAllowed_6 rfl rfl (g3_ishr dX12_isAllowed_7 (g3_iconst dX12_isAllowed_8 (g3_iand dX12_isAllowed_9 (g3_iconst dX12_isAllowed_10 (g3_icmp_ne (tgt := 18) dX12_isAllowed_11 rfl (t3_tr _) (z3 rfl) (fun c => ?_) (fun c => ?_))))))
  · have h1 := h; have h := h1.1 c
    exact g3_iconst dX12_isAllowed_18 (g3_zreturn dX12_isAllowed_19 rfl (Or.inl rfl) h)
  · have h1 := h; have h := h1.2 c
    exact g3_iconst dX12_isAllowed_14 (g3_goto (tgt := 19) dX12_isAllowed_15 rfl (g3_zreturn dX12_isAllowed_19 rfl (Or.inr rfl) h))
set_option maxRecDepth 20000 in
set_option maxHeartbeats 200000 in
theorem sX12_rightsOf {E : E3} {Q : Q3} {M : M3} {x1 : Int}
    (h : G3 E YX12_rightsOf Q 4 [(0, vR 44 0), (1, vI x1), (2, vI 0), (3, vI 0)] [] M) :
    C3 E YX12_rightsOf [vR 44 0, vI x1] M Q := by
  refine c3_in rfl rfl (z3 rfl) (g3_rm fun hM => ?_)
  refine g3_iconst dX12_rightsOf_0 (g3_istore_n (lv' := [(2, vI 0), (0, vR 44 0), (1, vI x1)]) dX12_rightsOf_1 rfl (z3 rfl) rfl (g3_iconst dX12_rightsOf_2 (g3_istore_n (lv' := [(3, vI 0), (2, vI 0), (0, vR 44 0), (1, vI x1)]) dX12_rightsOf_3 rfl (z3 rfl) rfl (g3_sub [2, 3, 1, 0] rfl h))))
set_option maxRecDepth 20000 in
set_option maxHeartbeats 200000 in
theorem sX12_rightsOf_4 {E : E3} {Q : Q3} {M : M3} {x1 : Int} {x2 : Int} {x3 : Int}
    (h : (-2147483648 ≤ x3 ∧ x3 ≤ 2147483647) ∧ ((20 ≤ x3 → (Q (some (vI x2)) M)) ∧ (x3 < 20 → ((0 ≤ (20 * x1) + x3 ∧ (20 * x1) + x3 < 1200) ∧ ((M 59 0 ((20 * x1) + x3) = (-1) → (G3 E YX12_rightsOf Q 4 [(0, vR 44 0), (1, vI x1), (2, vI (x2 + 0)), (3, vI (x3 + 1))] [] M)) ∧ (M 59 0 ((20 * x1) + x3) ≠ (-1) → ((0 ≤ x1 ∧ x1 < 60) ∧ ((RdC M ∧ (0 ≤ x3 ∧ x3 < 20) ∧ 0 ≤ (M 57 0 x1) ∧ (M 57 0 x1) ≤ 399) ∧ (∀ (N1 : M3), RM3 N1 → Em M N1 → (RdC N1) → ((-2147483648 ≤ sSd (LM3 M) x3 (M 57 0 x1) ∧ sSd (LM3 M) x3 (M 57 0 x1) ≤ 2147483647) ∧ ((M 59 0 ((20 * x1) + x3) ≠ sSd (LM3 M) x3 (M 57 0 x1) → (G3 E YX12_rightsOf Q 4 [(0, vR 44 0), (1, vI x1), (2, vI (x2 + 0)), (3, vI (x3 + 1))] [] N1)) ∧ (M 59 0 ((20 * x1) + x3) = sSd (LM3 M) x3 (M 57 0 x1) → (G3 E YX12_rightsOf Q 4 [(0, vR 44 0), (1, vI x1), (2, vI (x2 + 1)), (3, vI (x3 + 1))] [] N1))))))))))))) :
    G3 E YX12_rightsOf Q 4 [(0, vR 44 0), (1, vI x1), (2, vI x2), (3, vI x3)] [] M := by
  refine g3_rm fun hM => ?_
  refine g3_iload_n 3 dX12_rightsOf_4 rfl rfl (g3_bipush dX12_rightsOf_5 rfl (g3_icmp_ge (tgt := 59) dX12_rightsOf_7 rfl h.1 (z3 rfl) (fun c => ?_) (fun c => ?_)))
  · have h1 := h; have h := h1.2.1 c
    have o1 := h1.1
    exact g3_iload_n 2 dX12_rightsOf_59 rfl rfl (g3_ireturn dX12_rightsOf_60 rfl h)
  · have h1 := h; have h := h1.2.2 c
    have o1 := h1.1
    refine g3_aload_n 0 dX12_rightsOf_10 rfl rfl (g3_getR0 (t := 59) dX12_rightsOf_11 flX12_52 rfl (z3 rfl) (g3_bipush dX12_rightsOf_14 rfl (g3_iload_n 1 dX12_rightsOf_16 rfl rfl (g3_imul dX12_rightsOf_17 (g3_iload_n 3 dX12_rightsOf_18 rfl rfl (g3_iadd dX12_rightsOf_19 (g3_iald dX12_rightsOf_20 ar_59 (z3 rfl) h.1 (g3_istore (lv' := [(4, vI (M 59 0 ((20 * x1) + x3))), (0, vR 44 0), (1, vI x1), (2, vI x2), (3, vI x3)]) dX12_rightsOf_21 (z3 rfl) rfl (g3_iload_n 3 dX12_rightsOf_23 rfl rfl (g3_iload 0 dX12_rightsOf_24 rfl (g3_iconst dX12_rightsOf_26 (g3_icmp_eq (tgt := 50) dX12_rightsOf_27 rfl (hM 59 0 ((20 * x1) + x3)) (z3 rfl) (fun c => ?_) (fun c => ?_)))))))))))))
    · have h1 := h; have h := h1.2.1 c
      have o2 := h1.1
      refine g3_iconst dX12_rightsOf_50 (g3_iadd dX12_rightsOf_51 (g3_istore_n (lv' := [(2, vI (x2 + 0)), (4, vI (M 59 0 ((20 * x1) + x3))), (0, vR 44 0), (1, vI x1), (3, vI x3)]) dX12_rightsOf_52 rfl (z3 rfl) rfl (g3_iinc (lv' := [(3, vI (x3 + 1)), (2, vI (x2 + 0)), (4, vI (M 59 0 ((20 * x1) + x3))), (0, vR 44 0), (1, vI x1)]) 4 dX12_rightsOf_53 rfl (z3 rfl) rfl (g3_goto (tgt := 4) dX12_rightsOf_56 rfl (g3_sub [3, 4, 1, 0] rfl h)))))
    · have h1 := h; have h := h1.2.2 c
      have o2 := h1.1
      refine g3_iload 0 dX12_rightsOf_30 rfl (g3_aload_n 1 dX12_rightsOf_32 rfl rfl (g3_iload_n 4 dX12_rightsOf_33 rfl rfl (g3_aload_n 1 dX12_rightsOf_34 rfl rfl (g3_getR0 (t := 57) dX12_rightsOf_35 flX12_46 rfl (z3 rfl) (g3_iload_n 2 dX12_rightsOf_38 rfl rfl (g3_iald dX12_rightsOf_39 ar_57 (z3 rfl) h.1 (g3_cV2 dX12_rightsOf_40 myX12_rightOf mlX12_213 (z3 rfl) ob_44 (z3 rfl) (z3 rfl) (eX12_rightOf Em.rf h.2.1 (fun N1 hN1 he1 hp1 => ?_)))))))))
      have o3 := h.1
      have o4 := h.2.1
      have h := h.2.2 N1 hN1 he1 hp1
      refine g3_r1 ?_
      refine g3_icmp_ne (tgt := 50) dX12_rightsOf_43 rfl (hM 59 0 ((20 * x1) + x3)) h.1 (fun c => ?_) (fun c => ?_)
      · have h1 := h; have h := h1.2.1 c
        have o5 := h1.1
        refine g3_iconst dX12_rightsOf_50 (g3_iadd dX12_rightsOf_51 (g3_istore_n (lv' := [(2, vI (x2 + 0)), (4, vI (M 59 0 ((20 * x1) + x3))), (0, vR 44 0), (1, vI x1), (3, vI x3)]) dX12_rightsOf_52 rfl (z3 rfl) rfl (g3_iinc (lv' := [(3, vI (x3 + 1)), (2, vI (x2 + 0)), (4, vI (M 59 0 ((20 * x1) + x3))), (0, vR 44 0), (1, vI x1)]) 4 dX12_rightsOf_53 rfl (z3 rfl) rfl (g3_goto (tgt := 4) dX12_rightsOf_56 rfl (g3_sub [3, 4, 1, 0] rfl h)))))
      · have h1 := h; have h := h1.2.2 c
        have o5 := h1.1
        refine g3_iconst dX12_rightsOf_46 (g3_goto (tgt := 51) dX12_rightsOf_47 rfl (g3_iadd dX12_rightsOf_51 (g3_istore_n (lv' := [(2, vI (x2 + 1)), (4, vI (M 59 0 ((20 * x1) + x3))), (0, vR 44 0), (1, vI x1), (3, vI x3)]) dX12_rightsOf_52 rfl (z3 rfl) rfl (g3_iinc (lv' := [(3, vI (x3 + 1)), (2, vI (x2 + 1)), (4, vI (M 59 0 ((20 * x1) + x3))), (0, vR 44 0), (1, vI x1)]) 4 dX12_rightsOf_53 rfl (z3 rfl) rfl (g3_goto (tgt := 4) dX12_rightsOf_56 rfl (g3_sub [3, 4, 1, 0] rfl h))))))
