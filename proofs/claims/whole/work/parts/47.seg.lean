set_option maxRecDepth 20000 in
set_option maxHeartbeats 200000 in
theorem sX12_byText {E : E3} {Q : Q3} {M : M3} {x1 : Int}
    (h : ((0 ≤ x1 ∧ x1 < 60) ∧ 0 ≤ M 56 0 x1 ∧ M 56 0 x1 < 48) ∧ ((0 ≤ x1 ∧ x1 < 60) ∧ ((RdC M ∧ 0 ≤ (M 57 0 x1) ∧ (M 57 0 x1) ≤ 399) ∧ (∀ (N1 : M3), RM3 N1 → Em M N1 → (RdC N1) → ((¬(alw3 (LM3 M) (M 46 0 (M 56 0 x1)) (M 57 0 x1)) → (Q (some (vI 0)) N1)) ∧ ((alw3 (LM3 M) (M 46 0 (M 56 0 x1)) (M 57 0 x1)) → ((RdC N1 ∧ (0 ≤ (2 : Int) ∧ (2 : Int) < 4) ∧ 0 ≤ (M 57 0 x1) ∧ (M 57 0 x1) ≤ 399) ∧ (∀ (N2 : M3), RM3 N2 → Em N1 N2 → (RdC N2) → ((-2147483648 ≤ sSd (LM3 M) 22 (M 57 0 x1) ∧ sSd (LM3 M) 22 (M 57 0 x1) ≤ 2147483647) ∧ ((M 58 0 x1 < sSd (LM3 M) 22 (M 57 0 x1) → (Q (some (vI 0)) N2)) ∧ (sSd (LM3 M) 22 (M 57 0 x1) ≤ M 58 0 x1 → ((RdC N2 ∧ okF M x1) ∧ (∀ (N3 : M3), RM3 N3 → Em N2 N3 → (RdC N3) → ((RdC N3 ∧ (0 ≤ (0 : Int) ∧ (0 : Int) < 4) ∧ 0 ≤ (M 57 0 x1) ∧ (M 57 0 x1) ≤ 399) ∧ (∀ (N4 : M3), RM3 N4 → Em N3 N4 → (RdC N4) → ((-2147483648 ≤ sSd (LM3 M) 20 (M 57 0 x1) ∧ sSd (LM3 M) 20 (M 57 0 x1) ≤ 2147483647) ∧ ((mRights M x1 < sSd (LM3 M) 20 (M 57 0 x1) → (Q (some (vI 0)) N4)) ∧ (sSd (LM3 M) 20 (M 57 0 x1) ≤ mRights M x1 → (Q (some (vI 1)) N4))))))))))))))))))) :
    C3 E YX12_byText [vR 44 0, vI x1] M Q := by
  refine c3_in rfl rfl (z3 rfl) (g3_rm fun hM => ?_)
  refine g3_aload_n 0 dX12_byText_0 rfl rfl (g3_aload_n 0 dX12_byText_1 rfl rfl (g3_iload_n 1 dX12_byText_2 rfl rfl (g3_cV1 dX12_byText_3 myX12_sortOfForm mlX12_232 (z3 rfl) ob_44 (z3 rfl) (z3 rfl) (kX12_sortOfForm h.1 (g3_r1 (g3_aload_n 0 dX12_byText_6 rfl rfl (g3_getR0 (t := 57) dX12_byText_7 flX12_46 rfl (z3 rfl) (g3_iload_n 1 dX12_byText_10 rfl rfl (g3_iald dX12_byText_11 ar_57 (z3 rfl) h.2.1 (g3_cV2 dX12_byText_12 myX12_isAllowed mlX12_235 (z3 rfl) ob_44 (z3 rfl) (z3 rfl) (eX12_isAllowed Em.rf h.2.2.1 (fun N1 hN1 he1 hp1 => ?_))))))))))))
  have o1 := h.1
  have o2 := h.2.1
  have o3 := h.2.2.1
  have h := h.2.2.2 N1 hN1 he1 hp1
  refine g3_r1 ?_
  refine g3_bool_eq (tgt := 61) dX12_byText_15 rfl (fun c => ?_) (fun c => ?_)
  · have h1 := h; have h := h1.1 c
    exact g3_iconst dX12_byText_61 (g3_zreturn dX12_byText_62 rfl (Or.inl rfl) h)
  · have h1 := h; have h := h1.2 c
    refine g3_aload_n 0 dX12_byText_18 rfl rfl (g3_getR0 (t := 58) dX12_byText_19 flX12_49 rfl (z3 rfl) (g3_iload_n 1 dX12_byText_22 rfl rfl (g3_iald dX12_byText_23 ar_58 (z3 rfl) o2 (g3_val (cg3 (he1.1 58 (by decide)) _ _) (g3_aload_n 0 dX12_byText_24 rfl rfl (g3_iconst dX12_byText_25 (g3_aload_n 0 dX12_byText_26 rfl rfl (g3_getR0 (t := 57) dX12_byText_27 flX12_46 rfl (z3 rfl) (g3_iload_n 1 dX12_byText_30 rfl rfl (g3_iald dX12_byText_31 ar_57 (z3 rfl) o2 (g3_val (cg3 (he1.1 57 (by decide)) _ _) (g3_cV2 dX12_byText_32 myX12_lawOf mlX12_216 (z3 rfl) ob_44 (z3 rfl) (z3 rfl) (eX12_lawOf (Em.tr Em.rf he1) h.1 (fun N2 hN2 he2 hp2 => ?_))))))))))))))
    have o4 := h.1
    have h := h.2 N2 hN2 he2 hp2
    refine g3_r1 ?_
    refine g3_icmp_lt (tgt := 61) dX12_byText_35 rfl (hM 58 0 x1) h.1 (fun c => ?_) (fun c => ?_)
    · have h1 := h; have h := h1.2.1 c
      have o5 := h1.1
      exact g3_iconst dX12_byText_61 (g3_zreturn dX12_byText_62 rfl (Or.inl rfl) h)
    · have h1 := h; have h := h1.2.2 c
      have o5 := h1.1
      refine g3_aload_n 0 dX12_byText_38 rfl rfl (g3_iload_n 1 dX12_byText_39 rfl rfl (g3_cV1 dX12_byText_40 myX12_rightsOf mlX12_239 (z3 rfl) ob_44 (z3 rfl) (z3 rfl) (eX12_rightsOf (Em.tr (Em.tr Em.rf he1) he2) h.1 (fun N3 hN3 he3 hp3 => ?_))))
      have o6 := h.1
      have h := h.2 N3 hN3 he3 hp3
      refine g3_r1 ?_
      refine g3_aload_n 0 dX12_byText_43 rfl rfl (g3_iconst dX12_byText_44 (g3_aload_n 0 dX12_byText_45 rfl rfl (g3_getR0 (t := 57) dX12_byText_46 flX12_46 rfl (z3 rfl) (g3_iload_n 1 dX12_byText_49 rfl rfl (g3_iald dX12_byText_50 ar_57 (z3 rfl) o2 (g3_val ((cg3 (he3.1 57 (by decide)) _ _).trans ((cg3 (he2.1 57 (by decide)) _ _).trans (cg3 (he1.1 57 (by decide)) _ _))) (g3_cV2 dX12_byText_51 myX12_lawOf mlX12_216 (z3 rfl) ob_44 (z3 rfl) (z3 rfl) (eX12_lawOf (Em.tr (Em.tr (Em.tr Em.rf he1) he2) he3) h.1 (fun N4 hN4 he4 hp4 => ?_)))))))))
      have o7 := h.1
      have h := h.2 N4 hN4 he4 hp4
      refine g3_r1 ?_
      refine g3_icmp_lt (tgt := 61) dX12_byText_54 rfl (mRights_r32 _ _) h.1 (fun c => ?_) (fun c => ?_)
      · have h1 := h; have h := h1.2.1 c
        have o8 := h1.1
        exact g3_iconst dX12_byText_61 (g3_zreturn dX12_byText_62 rfl (Or.inl rfl) h)
      · have h1 := h; have h := h1.2.2 c
        have o8 := h1.1
        exact g3_iconst dX12_byText_57 (g3_goto (tgt := 62) dX12_byText_58 rfl (g3_zreturn dX12_byText_62 rfl (Or.inr rfl) h))
set_option maxRecDepth 20000 in
set_option maxHeartbeats 200000 in
theorem sX12_isLate {E : E3} {Q : Q3} {M : M3} {x1 : Int}
    (h : (0 ≤ x1 ∧ x1 < 60) ∧ ((mHow M x1 ≤ 0 → ((RdC M ∧ (0 ≤ (3 : Int) ∧ (3 : Int) < 4) ∧ 0 ≤ (mNow M) ∧ (mNow M) ≤ 399) ∧ (∀ (N1 : M3), RM3 N1 → Em M N1 → (RdC N1) → ((-2147483648 ≤ (mNow M) - (M 57 0 x1) ∧ (mNow M) - (M 57 0 x1) ≤ 2147483647) ∧ ((-2147483648 ≤ sSd (LM3 M) 23 (mNow M) ∧ sSd (LM3 M) 23 (mNow M) ≤ 2147483647) ∧ (((mNow M) - (M 57 0 x1) ≤ sSd (LM3 M) 23 (mNow M) → (Q (some (vI 0)) N1)) ∧ (sSd (LM3 M) 23 (mNow M) < (mNow M) - (M 57 0 x1) → (Q (some (vI 1)) N1)))))))) ∧ (0 < mHow M x1 → ((RdC M ∧ (0 ≤ (3 : Int) ∧ (3 : Int) < 4) ∧ 0 ≤ (M 60 0 x1) ∧ (M 60 0 x1) ≤ 399) ∧ (∀ (N1 : M3), RM3 N1 → Em M N1 → (RdC N1) → ((-2147483648 ≤ (M 60 0 x1) - (M 57 0 x1) ∧ (M 60 0 x1) - (M 57 0 x1) ≤ 2147483647) ∧ ((-2147483648 ≤ sSd (LM3 M) 23 (M 60 0 x1) ∧ sSd (LM3 M) 23 (M 60 0 x1) ≤ 2147483647) ∧ (((M 60 0 x1) - (M 57 0 x1) ≤ sSd (LM3 M) 23 (M 60 0 x1) → (Q (some (vI 0)) N1)) ∧ (sSd (LM3 M) 23 (M 60 0 x1) < (M 60 0 x1) - (M 57 0 x1) → (Q (some (vI 1)) N1)))))))))) :
    C3 E YX12_isLate [vR 44 0, vI x1] M Q := by
  refine c3_in rfl rfl (z3 rfl) (g3_rm fun hM => ?_)
  refine g3_aload_n 0 dX12_isLate_0 rfl rfl (g3_iload_n 1 dX12_isLate_1 rfl rfl (g3_cV1 dX12_isLate_2 myX12_howOf mlX12_242 (z3 rfl) ob_44 (z3 rfl) (z3 rfl) (kX12_howOf h.1 (g3_r1 (g3_if_le (tgt := 17) dX12_isLate_5 rfl (mHow_rg hM _) (fun c => ?_) (fun c => ?_))))))
  · have h1 := h; have h := h1.2.1 c
    have o1 := h1.1
    refine g3_aload_n 0 dX12_isLate_17 rfl rfl (g3_cV0 dX12_isLate_18 myX12_asOfNow mlX12_219 (z3 rfl) ob_44 (z3 rfl) (z3 rfl) (kX12_asOfNow (g3_r1 (g3_istore_n (lv' := [(2, vI (mNow M)), (0, vR 44 0), (1, vI x1)]) dX12_isLate_21 rfl (z3 rfl) rfl (g3_iload_n 0 dX12_isLate_22 rfl rfl (g3_aload_n 1 dX12_isLate_23 rfl rfl (g3_getR0 (t := 57) dX12_isLate_24 flX12_46 rfl (z3 rfl) (g3_iload_n 2 dX12_isLate_27 rfl rfl (g3_iald dX12_isLate_28 ar_57 (z3 rfl) o1 (g3_isub dX12_isLate_29 (g3_aload_n 1 dX12_isLate_30 rfl rfl (g3_iconst dX12_isLate_31 (g3_iload_n 0 dX12_isLate_32 rfl rfl (g3_cV2 dX12_isLate_33 myX12_lawOf mlX12_216 (z3 rfl) ob_44 (z3 rfl) (z3 rfl) (eX12_lawOf Em.rf h.1 (fun N1 hN1 he1 hp1 => ?_))))))))))))))))
    have o2 := h.1
    have h := h.2 N1 hN1 he1 hp1
    refine g3_r1 ?_
    refine g3_icmp_le (tgt := 43) dX12_isLate_36 rfl h.1 h.2.1 (fun c => ?_) (fun c => ?_)
    · have h1 := h; have h := h1.2.2.1 c
      have o3 := h1.1
      have o4 := h1.2.1
      exact g3_iconst dX12_isLate_43 (g3_zreturn dX12_isLate_44 rfl (Or.inl rfl) h)
    · have h1 := h; have h := h1.2.2.2 c
      have o3 := h1.1
      have o4 := h1.2.1
      exact g3_iconst dX12_isLate_39 (g3_goto (tgt := 44) dX12_isLate_40 rfl (g3_zreturn dX12_isLate_44 rfl (Or.inr rfl) h))
  · have h1 := h; have h := h1.2.2 c
    have o1 := h1.1
    refine g3_aload_n 0 dX12_isLate_8 rfl rfl (g3_getR0 (t := 60) dX12_isLate_9 flX12_55 rfl (z3 rfl) (g3_iload_n 1 dX12_isLate_12 rfl rfl (g3_iald dX12_isLate_13 ar_60 (z3 rfl) o1 (g3_goto (tgt := 21) dX12_isLate_14 rfl (g3_istore_n (lv' := [(2, vI (M 60 0 x1)), (0, vR 44 0), (1, vI x1)]) dX12_isLate_21 rfl (z3 rfl) rfl (g3_iload_n 0 dX12_isLate_22 rfl rfl (g3_aload_n 1 dX12_isLate_23 rfl rfl (g3_getR0 (t := 57) dX12_isLate_24 flX12_46 rfl (z3 rfl) (g3_iload_n 2 dX12_isLate_27 rfl rfl (g3_iald dX12_isLate_28 ar_57 (z3 rfl) o1 (g3_isub dX12_isLate_29 (g3_aload_n 1 dX12_isLate_30 rfl rfl (g3_iconst dX12_isLate_31 (g3_iload_n 0 dX12_isLate_32 rfl rfl (g3_cV2 dX12_isLate_33 myX12_lawOf mlX12_216 (z3 rfl) ob_44 (z3 rfl) (z3 rfl) (eX12_lawOf Em.rf h.1 (fun N1 hN1 he1 hp1 => ?_)))))))))))))))))
    have o5 := h.1
    have h := h.2 N1 hN1 he1 hp1
    refine g3_r1 ?_
    refine g3_icmp_le (tgt := 43) dX12_isLate_36 rfl h.1 h.2.1 (fun c => ?_) (fun c => ?_)
    · have h1 := h; have h := h1.2.2.1 c
      have o6 := h1.1
      have o7 := h1.2.1
      exact g3_iconst dX12_isLate_43 (g3_zreturn dX12_isLate_44 rfl (Or.inl rfl) h)
    · have h1 := h; have h := h1.2.2.2 c
      have o6 := h1.1
      have o7 := h1.2.1
      exact g3_iconst dX12_isLate_39 (g3_goto (tgt := 44) dX12_isLate_40 rfl (g3_zreturn dX12_isLate_44 rfl (Or.inr rfl) h))
