set_option maxRecDepth 20000 in
set_option maxHeartbeats 200000 in
theorem sX12_trueReasons {E : E3} {Q : Q3} {M : M3} {x1 : Int}
    (h : ((0 ≤ x1 ∧ x1 < 60) ∧ 0 ≤ M 56 0 x1 ∧ M 56 0 x1 < 48) ∧ ((0 ≤ x1 ∧ x1 < 60) ∧ ((RdC M ∧ 0 ≤ (M 57 0 x1) ∧ (M 57 0 x1) ≤ 399) ∧ (∀ (N1 : M3), RM3 N1 → Em M N1 → (RdC N1) → ((¬(alw3 (LM3 M) (M 46 0 (M 56 0 x1)) (M 57 0 x1)) → ((RdC N1 ∧ (0 ≤ (2 : Int) ∧ (2 : Int) < 4) ∧ 0 ≤ (M 57 0 x1) ∧ (M 57 0 x1) ≤ 399) ∧ (∀ (N2 : M3), RM3 N2 → Em N1 N2 → (RdC N2) → ((-2147483648 ≤ sSd (LM3 M) 22 (M 57 0 x1) ∧ sSd (LM3 M) 22 (M 57 0 x1) ≤ 2147483647) ∧ ((sSd (LM3 M) 22 (M 57 0 x1) ≤ M 58 0 x1 → ((RdC N2 ∧ okF M x1) ∧ (∀ (N3 : M3), RM3 N3 → Em N2 N3 → (RdC N3) → ((RdC N3 ∧ (0 ≤ (0 : Int) ∧ (0 : Int) < 4) ∧ 0 ≤ (M 57 0 x1) ∧ (M 57 0 x1) ≤ 399) ∧ (∀ (N4 : M3), RM3 N4 → Em N3 N4 → (RdC N4) → ((-2147483648 ≤ sSd (LM3 M) 20 (M 57 0 x1) ∧ sSd (LM3 M) 20 (M 57 0 x1) ≤ 2147483647) ∧ ((sSd (LM3 M) 20 (M 57 0 x1) ≤ mRights M x1 → ((RdC N4 ∧ okR M x1) ∧ (∀ (N5 : M3), RM3 N5 → Em N4 N5 → (RdC N5) → ((¬(mLate M x1) → (Q (some (vI (or3 (or3 (or3 1 0) 0) 0))) N5)) ∧ ((mLate M x1) → (Q (some (vI (or3 (or3 (or3 1 0) 0) 8))) N5)))))) ∧ (mRights M x1 < sSd (LM3 M) 20 (M 57 0 x1) → ((RdC N4 ∧ okR M x1) ∧ (∀ (N5 : M3), RM3 N5 → Em N4 N5 → (RdC N5) → ((¬(mLate M x1) → (Q (some (vI (or3 (or3 (or3 1 0) 4) 0))) N5)) ∧ ((mLate M x1) → (Q (some (vI (or3 (or3 (or3 1 0) 4) 8))) N5))))))))))))) ∧ (M 58 0 x1 < sSd (LM3 M) 22 (M 57 0 x1) → ((RdC N2 ∧ okF M x1) ∧ (∀ (N3 : M3), RM3 N3 → Em N2 N3 → (RdC N3) → ((RdC N3 ∧ (0 ≤ (0 : Int) ∧ (0 : Int) < 4) ∧ 0 ≤ (M 57 0 x1) ∧ (M 57 0 x1) ≤ 399) ∧ (∀ (N4 : M3), RM3 N4 → Em N3 N4 → (RdC N4) → ((-2147483648 ≤ sSd (LM3 M) 20 (M 57 0 x1) ∧ sSd (LM3 M) 20 (M 57 0 x1) ≤ 2147483647) ∧ ((sSd (LM3 M) 20 (M 57 0 x1) ≤ mRights M x1 → ((RdC N4 ∧ okR M x1) ∧ (∀ (N5 : M3), RM3 N5 → Em N4 N5 → (RdC N5) → ((¬(mLate M x1) → (Q (some (vI (or3 (or3 (or3 1 2) 0) 0))) N5)) ∧ ((mLate M x1) → (Q (some (vI (or3 (or3 (or3 1 2) 0) 8))) N5)))))) ∧ (mRights M x1 < sSd (LM3 M) 20 (M 57 0 x1) → ((RdC N4 ∧ okR M x1) ∧ (∀ (N5 : M3), RM3 N5 → Em N4 N5 → (RdC N5) → ((¬(mLate M x1) → (Q (some (vI (or3 (or3 (or3 1 2) 4) 0))) N5)) ∧ ((mLate M x1) → (Q (some (vI (or3 (or3 (or3 1 2) 4) 8))) N5)))))))))))))))))) ∧ ((alw3 (LM3 M) (M 46 0 (M 56 0 x1)) (M 57 0 x1)) → ((RdC N1 ∧ (0 ≤ (2 : Int) ∧ (2 : Int) < 4) ∧ 0 ≤ (M 57 0 x1) ∧ (M 57 0 x1) ≤ 399) ∧ (∀ (N2 : M3), RM3 N2 → Em N1 N2 → (RdC N2) → ((-2147483648 ≤ sSd (LM3 M) 22 (M 57 0 x1) ∧ sSd (LM3 M) 22 (M 57 0 x1) ≤ 2147483647) ∧ ((sSd (LM3 M) 22 (M 57 0 x1) ≤ M 58 0 x1 → ((RdC N2 ∧ okF M x1) ∧ (∀ (N3 : M3), RM3 N3 → Em N2 N3 → (RdC N3) → ((RdC N3 ∧ (0 ≤ (0 : Int) ∧ (0 : Int) < 4) ∧ 0 ≤ (M 57 0 x1) ∧ (M 57 0 x1) ≤ 399) ∧ (∀ (N4 : M3), RM3 N4 → Em N3 N4 → (RdC N4) → ((-2147483648 ≤ sSd (LM3 M) 20 (M 57 0 x1) ∧ sSd (LM3 M) 20 (M 57 0 x1) ≤ 2147483647) ∧ ((sSd (LM3 M) 20 (M 57 0 x1) ≤ mRights M x1 → ((RdC N4 ∧ okR M x1) ∧ (∀ (N5 : M3), RM3 N5 → Em N4 N5 → (RdC N5) → ((¬(mLate M x1) → (Q (some (vI (or3 (or3 (or3 0 0) 0) 0))) N5)) ∧ ((mLate M x1) → (Q (some (vI (or3 (or3 (or3 0 0) 0) 8))) N5)))))) ∧ (mRights M x1 < sSd (LM3 M) 20 (M 57 0 x1) → ((RdC N4 ∧ okR M x1) ∧ (∀ (N5 : M3), RM3 N5 → Em N4 N5 → (RdC N5) → ((¬(mLate M x1) → (Q (some (vI (or3 (or3 (or3 0 0) 4) 0))) N5)) ∧ ((mLate M x1) → (Q (some (vI (or3 (or3 (or3 0 0) 4) 8))) N5))))))))))))) ∧ (M 58 0 x1 < sSd (LM3 M) 22 (M 57 0 x1) → ((RdC N2 ∧ okF M x1) ∧ (∀ (N3 : M3), RM3 N3 → Em N2 N3 → (RdC N3) → ((RdC N3 ∧ (0 ≤ (0 : Int) ∧ (0 : Int) < 4) ∧ 0 ≤ (M 57 0 x1) ∧ (M 57 0 x1) ≤ 399) ∧ (∀ (N4 : M3), RM3 N4 → Em N3 N4 → (RdC N4) → ((-2147483648 ≤ sSd (LM3 M) 20 (M 57 0 x1) ∧ sSd (LM3 M) 20 (M 57 0 x1) ≤ 2147483647) ∧ ((sSd (LM3 M) 20 (M 57 0 x1) ≤ mRights M x1 → ((RdC N4 ∧ okR M x1) ∧ (∀ (N5 : M3), RM3 N5 → Em N4 N5 → (RdC N5) → ((¬(mLate M x1) → (Q (some (vI (or3 (or3 (or3 0 2) 0) 0))) N5)) ∧ ((mLate M x1) → (Q (some (vI (or3 (or3 (or3 0 2) 0) 8))) N5)))))) ∧ (mRights M x1 < sSd (LM3 M) 20 (M 57 0 x1) → ((RdC N4 ∧ okR M x1) ∧ (∀ (N5 : M3), RM3 N5 → Em N4 N5 → (RdC N5) → ((¬(mLate M x1) → (Q (some (vI (or3 (or3 (or3 0 2) 4) 0))) N5)) ∧ ((mLate M x1) → (Q (some (vI (or3 (or3 (or3 0 2) 4) 8))) N5))))))))))))))))))))))) :
    C3 E YX12_trueReasons [vR 44 0, vI x1] M Q := by
  refine c3_in rfl rfl (z3 rfl) (g3_rm fun hM => ?_)
  refine g3_aload_n 0 dX12_trueReasons_0 rfl rfl (g3_aload_n 0 dX12_trueReasons_1 rfl rfl (g3_iload_n 1 dX12_trueReasons_2 rfl rfl (g3_cV1 dX12_trueReasons_3 myX12_sortOfForm mlX12_232 (z3 rfl) ob_44 (z3 rfl) (z3 rfl) (kX12_sortOfForm h.1 (g3_r1 (g3_aload_n 0 dX12_trueReasons_6 rfl rfl (g3_getR0 (t := 57) dX12_trueReasons_7 flX12_46 rfl (z3 rfl) (g3_iload_n 1 dX12_trueReasons_10 rfl rfl (g3_iald dX12_trueReasons_11 ar_57 (z3 rfl) h.2.1 (g3_cV2 dX12_trueReasons_12 myX12_isAllowed mlX12_235 (z3 rfl) ob_44 (z3 rfl) (z3 rfl) (eX12_isAllowed Em.rf h.2.2.1 (fun N1 hN1 he1 hp1 => ?_))))))))))))
  have o1 := h.1
  have o2 := h.2.1
  have o3 := h.2.2.1
  have h := h.2.2.2 N1 hN1 he1 hp1
  refine g3_r1 ?_
  refine g3_bool_eq (tgt := 22) dX12_trueReasons_15 rfl (fun c => ?_) (fun c => ?_)
  · have h1 := h; have h := h1.1 c
    refine g3_iconst dX12_trueReasons_22 (g3_istore_n (lv' := [(2, vI 1), (0, vR 44 0), (1, vI x1)]) dX12_trueReasons_23 rfl (z3 rfl) rfl (g3_iload_n 0 dX12_trueReasons_24 rfl rfl (g3_aload_n 1 dX12_trueReasons_25 rfl rfl (g3_getR0 (t := 58) dX12_trueReasons_26 flX12_49 rfl (z3 rfl) (g3_iload_n 2 dX12_trueReasons_29 rfl rfl (g3_iald dX12_trueReasons_30 ar_58 (z3 rfl) o2 (g3_val (cg3 (he1.1 58 (by decide)) _ _) (g3_aload_n 1 dX12_trueReasons_31 rfl rfl (g3_iconst dX12_trueReasons_32 (g3_aload_n 1 dX12_trueReasons_33 rfl rfl (g3_getR0 (t := 57) dX12_trueReasons_34 flX12_46 rfl (z3 rfl) (g3_iload_n 2 dX12_trueReasons_37 rfl rfl (g3_iald dX12_trueReasons_38 ar_57 (z3 rfl) o2 (g3_val (cg3 (he1.1 57 (by decide)) _ _) (g3_cV2 dX12_trueReasons_39 myX12_lawOf mlX12_216 (z3 rfl) ob_44 (z3 rfl) (z3 rfl) (eX12_lawOf (Em.tr Em.rf he1) h.1 (fun N2 hN2 he2 hp2 => ?_)))))))))))))))))
    have o4 := h.1
    have h := h.2 N2 hN2 he2 hp2
    refine g3_r1 ?_
    refine g3_icmp_ge (tgt := 49) dX12_trueReasons_42 rfl (hM 58 0 x1) h.1 (fun c => ?_) (fun c => ?_)
    · have h1 := h; have h := h1.2.1 c
      have o5 := h1.1
      refine g3_iconst dX12_trueReasons_49 (g3_ior dX12_trueReasons_50 (g3_istore_n (lv' := [(2, vI (or3 1 0)), (0, vR 44 0), (1, vI x1)]) dX12_trueReasons_51 rfl (z3 rfl) rfl (g3_iload_n 0 dX12_trueReasons_52 rfl rfl (g3_aload_n 1 dX12_trueReasons_53 rfl rfl (g3_iload_n 2 dX12_trueReasons_54 rfl rfl (g3_cV1 dX12_trueReasons_55 myX12_rightsOf mlX12_239 (z3 rfl) ob_44 (z3 rfl) (z3 rfl) (eX12_rightsOf (Em.tr (Em.tr Em.rf he1) he2) h.1 (fun N3 hN3 he3 hp3 => ?_))))))))
      have o6 := h.1
      have h := h.2 N3 hN3 he3 hp3
      refine g3_r1 ?_
      refine g3_aload_n 1 dX12_trueReasons_58 rfl rfl (g3_iconst dX12_trueReasons_59 (g3_aload_n 1 dX12_trueReasons_60 rfl rfl (g3_getR0 (t := 57) dX12_trueReasons_61 flX12_46 rfl (z3 rfl) (g3_iload_n 2 dX12_trueReasons_64 rfl rfl (g3_iald dX12_trueReasons_65 ar_57 (z3 rfl) o2 (g3_val ((cg3 (he3.1 57 (by decide)) _ _).trans ((cg3 (he2.1 57 (by decide)) _ _).trans (cg3 (he1.1 57 (by decide)) _ _))) (g3_cV2 dX12_trueReasons_66 myX12_lawOf mlX12_216 (z3 rfl) ob_44 (z3 rfl) (z3 rfl) (eX12_lawOf (Em.tr (Em.tr (Em.tr Em.rf he1) he2) he3) h.1 (fun N4 hN4 he4 hp4 => ?_)))))))))
      have o7 := h.1
      have h := h.2 N4 hN4 he4 hp4
      refine g3_r1 ?_
      refine g3_icmp_ge (tgt := 76) dX12_trueReasons_69 rfl (mRights_r32 _ _) h.1 (fun c => ?_) (fun c => ?_)
      · have h1 := h; have h := h1.2.1 c
        have o8 := h1.1
        refine g3_iconst dX12_trueReasons_76 (g3_ior dX12_trueReasons_77 (g3_istore_n (lv' := [(2, vI (or3 (or3 1 0) 0)), (0, vR 44 0), (1, vI x1)]) dX12_trueReasons_78 rfl (z3 rfl) rfl (g3_iload_n 0 dX12_trueReasons_79 rfl rfl (g3_aload_n 1 dX12_trueReasons_80 rfl rfl (g3_iload_n 2 dX12_trueReasons_81 rfl rfl (g3_cV1 dX12_trueReasons_82 myX12_isLate mlX12_245 (z3 rfl) ob_44 (z3 rfl) (z3 rfl) (eX12_isLate (Em.tr (Em.tr (Em.tr (Em.tr Em.rf he1) he2) he3) he4) h.1 (fun N5 hN5 he5 hp5 => ?_))))))))
        have o9 := h.1
        have h := h.2 N5 hN5 he5 hp5
        refine g3_r1 ?_
        refine g3_bool_eq (tgt := 93) dX12_trueReasons_85 rfl (fun c => ?_) (fun c => ?_)
        · have h1 := h; have h := h1.1 c
          exact g3_iconst dX12_trueReasons_93 (g3_ior dX12_trueReasons_94 (g3_ireturn dX12_trueReasons_95 rfl h))
        · have h1 := h; have h := h1.2 c
          exact g3_bipush dX12_trueReasons_88 rfl (g3_goto (tgt := 94) dX12_trueReasons_90 rfl (g3_ior dX12_trueReasons_94 (g3_ireturn dX12_trueReasons_95 rfl h)))
      · have h1 := h; have h := h1.2.2 c
        have o8 := h1.1
        refine g3_iconst dX12_trueReasons_72 (g3_goto (tgt := 77) dX12_trueReasons_73 rfl (g3_ior dX12_trueReasons_77 (g3_istore_n (lv' := [(2, vI (or3 (or3 1 0) 4)), (0, vR 44 0), (1, vI x1)]) dX12_trueReasons_78 rfl (z3 rfl) rfl (g3_iload_n 0 dX12_trueReasons_79 rfl rfl (g3_aload_n 1 dX12_trueReasons_80 rfl rfl (g3_iload_n 2 dX12_trueReasons_81 rfl rfl (g3_cV1 dX12_trueReasons_82 myX12_isLate mlX12_245 (z3 rfl) ob_44 (z3 rfl) (z3 rfl) (eX12_isLate (Em.tr (Em.tr (Em.tr (Em.tr Em.rf he1) he2) he3) he4) h.1 (fun N5 hN5 he5 hp5 => ?_)))))))))
        have o10 := h.1
        have h := h.2 N5 hN5 he5 hp5
        refine g3_r1 ?_
        refine g3_bool_eq (tgt := 93) dX12_trueReasons_85 rfl (fun c => ?_) (fun c => ?_)
        · have h1 := h; have h := h1.1 c
          exact g3_iconst dX12_trueReasons_93 (g3_ior dX12_trueReasons_94 (g3_ireturn dX12_trueReasons_95 rfl h))
        · have h1 := h; have h := h1.2 c
          exact g3_bipush dX12_trueReasons_88 rfl (g3_goto (tgt := 94) dX12_trueReasons_90 rfl (g3_ior dX12_trueReasons_94 (g3_ireturn dX12_trueReasons_95 rfl h)))
    · have h1 := h; have h := h1.2.2 c
      have o5 := h1.1
      refine g3_iconst dX12_trueReasons_45 (g3_goto (tgt := 50) dX12_trueReasons_46 rfl (g3_ior dX12_trueReasons_50 (g3_istore_n (lv' := [(2, vI (or3 1 2)), (0, vR 44 0), (1, vI x1)]) dX12_trueReasons_51 rfl (z3 rfl) rfl (g3_iload_n 0 dX12_trueReasons_52 rfl rfl (g3_aload_n 1 dX12_trueReasons_53 rfl rfl (g3_iload_n 2 dX12_trueReasons_54 rfl rfl (g3_cV1 dX12_trueReasons_55 myX12_rightsOf mlX12_239 (z3 rfl) ob_44 (z3 rfl) (z3 rfl) (eX12_rightsOf (Em.tr (Em.tr Em.rf he1) he2) h.1 (fun N3 hN3 he3 hp3 => ?_)))))))))
      have o11 := h.1
      have h := h.2 N3 hN3 he3 hp3
      refine g3_r1 ?_
      refine g3_aload_n 1 dX12_trueReasons_58 rfl rfl (g3_iconst dX12_trueReasons_59 (g3_aload_n 1 dX12_trueReasons_60 rfl rfl (g3_getR0 (t := 57) dX12_trueReasons_61 flX12_46 rfl (z3 rfl) (g3_iload_n 2 dX12_trueReasons_64 rfl rfl (g3_iald dX12_trueReasons_65 ar_57 (z3 rfl) o2 (g3_val ((cg3 (he3.1 57 (by decide)) _ _).trans ((cg3 (he2.1 57 (by decide)) _ _).trans (cg3 (he1.1 57 (by decide)) _ _))) (g3_cV2 dX12_trueReasons_66 myX12_lawOf mlX12_216 (z3 rfl) ob_44 (z3 rfl) (z3 rfl) (eX12_lawOf (Em.tr (Em.tr (Em.tr Em.rf he1) he2) he3) h.1 (fun N4 hN4 he4 hp4 => ?_)))))))))
      have o12 := h.1
      have h := h.2 N4 hN4 he4 hp4
      refine g3_r1 ?_
      refine g3_icmp_ge (tgt := 76) dX12_trueReasons_69 rfl (mRights_r32 _ _) h.1 (fun c => ?_) (fun c => ?_)
      · have h1 := h; have h := h1.2.1 c
        have o13 := h1.1
        refine g3_iconst dX12_trueReasons_76 (g3_ior dX12_trueReasons_77 (g3_istore_n (lv' := [(2, vI (or3 (or3 1 2) 0)), (0, vR 44 0), (1, vI x1)]) dX12_trueReasons_78 rfl (z3 rfl) rfl (g3_iload_n 0 dX12_trueReasons_79 rfl rfl (g3_aload_n 1 dX12_trueReasons_80 rfl rfl (g3_iload_n 2 dX12_trueReasons_81 rfl rfl (g3_cV1 dX12_trueReasons_82 myX12_isLate mlX12_245 (z3 rfl) ob_44 (z3 rfl) (z3 rfl) (eX12_isLate (Em.tr (Em.tr (Em.tr (Em.tr Em.rf he1) he2) he3) he4) h.1 (fun N5 hN5 he5 hp5 => ?_))))))))
        have o14 := h.1
        have h := h.2 N5 hN5 he5 hp5
        refine g3_r1 ?_
        refine g3_bool_eq (tgt := 93) dX12_trueReasons_85 rfl (fun c => ?_) (fun c => ?_)
        · have h1 := h; have h := h1.1 c
          exact g3_iconst dX12_trueReasons_93 (g3_ior dX12_trueReasons_94 (g3_ireturn dX12_trueReasons_95 rfl h))
        · have h1 := h; have h := h1.2 c
          exact g3_bipush dX12_trueReasons_88 rfl (g3_goto (tgt := 94) dX12_trueReasons_90 rfl (g3_ior dX12_trueReasons_94 (g3_ireturn dX12_trueReasons_95 rfl h)))
      · have h1 := h; have h := h1.2.2 c
        have o13 := h1.1
        refine g3_iconst dX12_trueReasons_72 (g3_goto (tgt := 77) dX12_trueReasons_73 rfl (g3_ior dX12_trueReasons_77 (g3_istore_n (lv' := [(2, vI (or3 (or3 1 2) 4)), (0, vR 44 0), (1, vI x1)]) dX12_trueReasons_78 rfl (z3 rfl) rfl (g3_iload_n 0 dX12_trueReasons_79 rfl rfl (g3_aload_n 1 dX12_trueReasons_80 rfl rfl (g3_iload_n 2 dX12_trueReasons_81 rfl rfl (g3_cV1 dX12_trueReasons_82 myX12_isLate mlX12_245 (z3 rfl) ob_44 (z3 rfl) (z3 rfl) (eX12_isLate (Em.tr (Em.tr (Em.tr (Em.tr Em.rf he1) he2) he3) he4) h.1 (fun N5 hN5 he5 hp5 => ?_)))))))))
        have o15 := h.1
        have h := h.2 N5 hN5 he5 hp5
        refine g3_r1 ?_
        refine g3_bool_eq (tgt := 93) dX12_trueReasons_85 rfl (fun c => ?_) (fun c => ?_)
        · have h1 := h; have h := h1.1 c
          exact g3_iconst dX12_trueReasons_93 (g3_ior dX12_trueReasons_94 (g3_ireturn dX12_trueReasons_95 rfl h))
        · have h1 := h; have h := h1.2 c
          exact g3_bipush dX12_trueReasons_88 rfl (g3_goto (tgt := 94) dX12_trueReasons_90 rfl (g3_ior dX12_trueReasons_94 (g3_ireturn dX12_trueReasons_95 rfl h)))
  · have h1 := h; have h := h1.2 c
    refine g3_iconst dX12_trueReasons_18 (g3_goto (tgt := 23) dX12_trueReasons_19 rfl (g3_istore_n (lv' := [(2, vI 0), (0, vR 44 0), (1, vI x1)]) dX12_trueReasons_23 rfl (z3 rfl) rfl (g3_iload_n 0 dX12_trueReasons_24 rfl rfl (g3_aload_n 1 dX12_trueReasons_25 rfl rfl (g3_getR0 (t := 58) dX12_trueReasons_26 flX12_49 rfl (z3 rfl) (g3_iload_n 2 dX12_trueReasons_29 rfl rfl (g3_iald dX12_trueReasons_30 ar_58 (z3 rfl) o2 (g3_val (cg3 (he1.1 58 (by decide)) _ _) (g3_aload_n 1 dX12_trueReasons_31 rfl rfl (g3_iconst dX12_trueReasons_32 (g3_aload_n 1 dX12_trueReasons_33 rfl rfl (g3_getR0 (t := 57) dX12_trueReasons_34 flX12_46 rfl (z3 rfl) (g3_iload_n 2 dX12_trueReasons_37 rfl rfl (g3_iald dX12_trueReasons_38 ar_57 (z3 rfl) o2 (g3_val (cg3 (he1.1 57 (by decide)) _ _) (g3_cV2 dX12_trueReasons_39 myX12_lawOf mlX12_216 (z3 rfl) ob_44 (z3 rfl) (z3 rfl) (eX12_lawOf (Em.tr Em.rf he1) h.1 (fun N2 hN2 he2 hp2 => ?_))))))))))))))))))
    have o16 := h.1
    have h := h.2 N2 hN2 he2 hp2
    refine g3_r1 ?_
    refine g3_icmp_ge (tgt := 49) dX12_trueReasons_42 rfl (hM 58 0 x1) h.1 (fun c => ?_) (fun c => ?_)
    · have h1 := h; have h := h1.2.1 c
      have o17 := h1.1
      refine g3_iconst dX12_trueReasons_49 (g3_ior dX12_trueReasons_50 (g3_istore_n (lv' := [(2, vI (or3 0 0)), (0, vR 44 0), (1, vI x1)]) dX12_trueReasons_51 rfl (z3 rfl) rfl (g3_iload_n 0 dX12_trueReasons_52 rfl rfl (g3_aload_n 1 dX12_trueReasons_53 rfl rfl (g3_iload_n 2 dX12_trueReasons_54 rfl rfl (g3_cV1 dX12_trueReasons_55 myX12_rightsOf mlX12_239 (z3 rfl) ob_44 (z3 rfl) (z3 rfl) (eX12_rightsOf (Em.tr (Em.tr Em.rf he1) he2) h.1 (fun N3 hN3 he3 hp3 => ?_))))))))
      have o18 := h.1
      have h := h.2 N3 hN3 he3 hp3
      refine g3_r1 ?_
      refine g3_aload_n 1 dX12_trueReasons_58 rfl rfl (g3_iconst dX12_trueReasons_59 (g3_aload_n 1 dX12_trueReasons_60 rfl rfl (g3_getR0 (t := 57) dX12_trueReasons_61 flX12_46 rfl (z3 rfl) (g3_iload_n 2 dX12_trueReasons_64 rfl rfl (g3_iald dX12_trueReasons_65 ar_57 (z3 rfl) o2 (g3_val ((cg3 (he3.1 57 (by decide)) _ _).trans ((cg3 (he2.1 57 (by decide)) _ _).trans (cg3 (he1.1 57 (by decide)) _ _))) (g3_cV2 dX12_trueReasons_66 myX12_lawOf mlX12_216 (z3 rfl) ob_44 (z3 rfl) (z3 rfl) (eX12_lawOf (Em.tr (Em.tr (Em.tr Em.rf he1) he2) he3) h.1 (fun N4 hN4 he4 hp4 => ?_)))))))))
      have o19 := h.1
      have h := h.2 N4 hN4 he4 hp4
      refine g3_r1 ?_
      refine g3_icmp_ge (tgt := 76) dX12_trueReasons_69 rfl (mRights_r32 _ _) h.1 (fun c => ?_) (fun c => ?_)
      · have h1 := h; have h := h1.2.1 c
        have o20 := h1.1
        refine g3_iconst dX12_trueReasons_76 (g3_ior dX12_trueReasons_77 (g3_istore_n (lv' := [(2, vI (or3 (or3 0 0) 0)), (0, vR 44 0), (1, vI x1)]) dX12_trueReasons_78 rfl (z3 rfl) rfl (g3_iload_n 0 dX12_trueReasons_79 rfl rfl (g3_aload_n 1 dX12_trueReasons_80 rfl rfl (g3_iload_n 2 dX12_trueReasons_81 rfl rfl (g3_cV1 dX12_trueReasons_82 myX12_isLate mlX12_245 (z3 rfl) ob_44 (z3 rfl) (z3 rfl) (eX12_isLate (Em.tr (Em.tr (Em.tr (Em.tr Em.rf he1) he2) he3) he4) h.1 (fun N5 hN5 he5 hp5 => ?_))))))))
        have o21 := h.1
        have h := h.2 N5 hN5 he5 hp5
        refine g3_r1 ?_
        refine g3_bool_eq (tgt := 93) dX12_trueReasons_85 rfl (fun c => ?_) (fun c => ?_)
        · have h1 := h; have h := h1.1 c
          exact g3_iconst dX12_trueReasons_93 (g3_ior dX12_trueReasons_94 (g3_ireturn dX12_trueReasons_95 rfl h))
        · have h1 := h; have h := h1.2 c
          exact g3_bipush dX12_trueReasons_88 rfl (g3_goto (tgt := 94) dX12_trueReasons_90 rfl (g3_ior dX12_trueReasons_94 (g3_ireturn dX12_trueReasons_95 rfl h)))
      · have h1 := h; have h := h1.2.2 c
        have o20 := h1.1
        refine g3_iconst dX12_trueReasons_72 (g3_goto (tgt := 77) dX12_trueReasons_73 rfl (g3_ior dX12_trueReasons_77 (g3_istore_n (lv' := [(2, vI (or3 (or3 0 0) 4)), (0, vR 44 0), (1, vI x1)]) dX12_trueReasons_78 rfl (z3 rfl) rfl (g3_iload_n 0 dX12_trueReasons_79 rfl rfl (g3_aload_n 1 dX12_trueReasons_80 rfl rfl (g3_iload_n 2 dX12_trueReasons_81 rfl rfl (g3_cV1 dX12_trueReasons_82 myX12_isLate mlX12_245 (z3 rfl) ob_44 (z3 rfl) (z3 rfl) (eX12_isLate (Em.tr (Em.tr (Em.tr (Em.tr Em.rf he1) he2) he3) he4) h.1 (fun N5 hN5 he5 hp5 => ?_)))))))))
        have o22 := h.1
        have h := h.2 N5 hN5 he5 hp5
        refine g3_r1 ?_
        refine g3_bool_eq (tgt := 93) dX12_trueReasons_85 rfl (fun c => ?_) (fun c => ?_)
        · have h1 := h; have h := h1.1 c
          exact g3_iconst dX12_trueReasons_93 (g3_ior dX12_trueReasons_94 (g3_ireturn dX12_trueReasons_95 rfl h))
        · have h1 := h; have h := h1.2 c
          exact g3_bipush dX12_trueReasons_88 rfl (g3_goto (tgt := 94) dX12_trueReasons_90 rfl (g3_ior dX12_trueReasons_94 (g3_ireturn dX12_trueReasons_95 rfl h)))
    · have h1 := h; have h := h1.2.2 c
      have o17 := h1.1
      refine g3_iconst dX12_trueReasons_45 (g3_goto (tgt := 50) dX12_trueReasons_46 rfl (g3_ior dX12_trueReasons_50 (g3_istore_n (lv' := [(2, vI (or3 0 2)), (0, vR 44 0), (1, vI x1)]) dX12_trueReasons_51 rfl (z3 rfl) rfl (g3_iload_n 0 dX12_trueReasons_52 rfl rfl (g3_aload_n 1 dX12_trueReasons_53 rfl rfl (g3_iload_n 2 dX12_trueReasons_54 rfl rfl (g3_cV1 dX12_trueReasons_55 myX12_rightsOf mlX12_239 (z3 rfl) ob_44 (z3 rfl) (z3 rfl) (eX12_rightsOf (Em.tr (Em.tr Em.rf he1) he2) h.1 (fun N3 hN3 he3 hp3 => ?_)))))))))
      have o23 := h.1
      have h := h.2 N3 hN3 he3 hp3
      refine g3_r1 ?_
      refine g3_aload_n 1 dX12_trueReasons_58 rfl rfl (g3_iconst dX12_trueReasons_59 (g3_aload_n 1 dX12_trueReasons_60 rfl rfl (g3_getR0 (t := 57) dX12_trueReasons_61 flX12_46 rfl (z3 rfl) (g3_iload_n 2 dX12_trueReasons_64 rfl rfl (g3_iald dX12_trueReasons_65 ar_57 (z3 rfl) o2 (g3_val ((cg3 (he3.1 57 (by decide)) _ _).trans ((cg3 (he2.1 57 (by decide)) _ _).trans (cg3 (he1.1 57 (by decide)) _ _))) (g3_cV2 dX12_trueReasons_66 myX12_lawOf mlX12_216 (z3 rfl) ob_44 (z3 rfl) (z3 rfl) (eX12_lawOf (Em.tr (Em.tr (Em.tr Em.rf he1) he2) he3) h.1 (fun N4 hN4 he4 hp4 => ?_)))))))))
      have o24 := h.1
      have h := h.2 N4 hN4 he4 hp4
      refine g3_r1 ?_
      refine g3_icmp_ge (tgt := 76) dX12_trueReasons_69 rfl (mRights_r32 _ _) h.1 (fun c => ?_) (fun c => ?_)
      · have h1 := h; have h := h1.2.1 c
        have o25 := h1.1
        refine g3_iconst dX12_trueReasons_76 (g3_ior dX12_trueReasons_77 (g3_istore_n (lv' := [(2, vI (or3 (or3 0 2) 0)), (0, vR 44 0), (1, vI x1)]) dX12_trueReasons_78 rfl (z3 rfl) rfl (g3_iload_n 0 dX12_trueReasons_79 rfl rfl (g3_aload_n 1 dX12_trueReasons_80 rfl rfl (g3_iload_n 2 dX12_trueReasons_81 rfl rfl (g3_cV1 dX12_trueReasons_82 myX12_isLate mlX12_245 (z3 rfl) ob_44 (z3 rfl) (z3 rfl) (eX12_isLate (Em.tr (Em.tr (Em.tr (Em.tr Em.rf he1) he2) he3) he4) h.1 (fun N5 hN5 he5 hp5 => ?_))))))))
        have o26 := h.1
        have h := h.2 N5 hN5 he5 hp5
        refine g3_r1 ?_
        refine g3_bool_eq (tgt := 93) dX12_trueReasons_85 rfl (fun c => ?_) (fun c => ?_)
        · have h1 := h; have h := h1.1 c
          exact g3_iconst dX12_trueReasons_93 (g3_ior dX12_trueReasons_94 (g3_ireturn dX12_trueReasons_95 rfl h))
        · have h1 := h; have h := h1.2 c
          exact g3_bipush dX12_trueReasons_88 rfl (g3_goto (tgt := 94) dX12_trueReasons_90 rfl (g3_ior dX12_trueReasons_94 (g3_ireturn dX12_trueReasons_95 rfl h)))
      · have h1 := h; have h := h1.2.2 c
        have o25 := h1.1
        refine g3_iconst dX12_trueReasons_72 (g3_goto (tgt := 77) dX12_trueReasons_73 rfl (g3_ior dX12_trueReasons_77 (g3_istore_n (lv' := [(2, vI (or3 (or3 0 2) 4)), (0, vR 44 0), (1, vI x1)]) dX12_trueReasons_78 rfl (z3 rfl) rfl (g3_iload_n 0 dX12_trueReasons_79 rfl rfl (g3_aload_n 1 dX12_trueReasons_80 rfl rfl (g3_iload_n 2 dX12_trueReasons_81 rfl rfl (g3_cV1 dX12_trueReasons_82 myX12_isLate mlX12_245 (z3 rfl) ob_44 (z3 rfl) (z3 rfl) (eX12_isLate (Em.tr (Em.tr (Em.tr (Em.tr Em.rf he1) he2) he3) he4) h.1 (fun N5 hN5 he5 hp5 => ?_)))))))))
        have o27 := h.1
        have h := h.2 N5 hN5 he5 hp5
        refine g3_r1 ?_
        refine g3_bool_eq (tgt := 93) dX12_trueReasons_85 rfl (fun c => ?_) (fun c => ?_)
        · have h1 := h; have h := h1.1 c
          exact g3_iconst dX12_trueReasons_93 (g3_ior dX12_trueReasons_94 (g3_ireturn dX12_trueReasons_95 rfl h))
        · have h1 := h; have h := h1.2 c
          exact g3_bipush dX12_trueReasons_88 rfl (g3_goto (tgt := 94) dX12_trueReasons_90 rfl (g3_ior dX12_trueReasons_94 (g3_ireturn dX12_trueReasons_95 rfl h)))
set_option maxRecDepth 20000 in
set_option maxHeartbeats 200000 in
theorem sX12_isParted {E : E3} {Q : Q3} {M : M3} {x1 : Int}
    (h : (0 ≤ x1 ∧ x1 < 60) ∧ ((mHow M x1 ≤ 0 → (Q (some (vI 0)) M)) ∧ (0 < mHow M x1 → ((mHow M x1 ≠ 1 → ((RdC M ∧ okF M x1) ∧ (∀ (N1 : M3), RM3 N1 → Em M N1 → (RdC N1) → ((0 = (bo3 (mByT M x1)) → (Q (some (vI 0)) N1)) ∧ (0 ≠ (bo3 (mByT M x1)) → (Q (some (vI 1)) N1)))))) ∧ (mHow M x1 = 1 → ((RdC M ∧ okF M x1) ∧ (∀ (N1 : M3), RM3 N1 → Em M N1 → (RdC N1) → ((1 = (bo3 (mByT M x1)) → (Q (some (vI 0)) N1)) ∧ (1 ≠ (bo3 (mByT M x1)) → (Q (some (vI 1)) N1)))))))))) :
    C3 E YX12_isParted [vR 44 0, vI x1] M Q := by
  refine c3_in rfl rfl (z3 rfl) (g3_rm fun hM => ?_)
  refine g3_aload_n 0 dX12_isParted_0 rfl rfl (g3_iload_n 1 dX12_isParted_1 rfl rfl (g3_cV1 dX12_isParted_2 myX12_howOf mlX12_242 (z3 rfl) ob_44 (z3 rfl) (z3 rfl) (kX12_howOf h.1 (g3_r1 (g3_if_le (tgt := 34) dX12_isParted_5 rfl (mHow_rg hM _) (fun c => ?_) (fun c => ?_))))))
  · have h1 := h; have h := h1.2.1 c
    have o1 := h1.1
    exact g3_iconst dX12_isParted_34 (g3_zreturn dX12_isParted_35 rfl (Or.inl rfl) h)
  · have h1 := h; have h := h1.2.2 c
    have o1 := h1.1
    refine g3_aload_n 0 dX12_isParted_8 rfl rfl (g3_iload_n 1 dX12_isParted_9 rfl rfl (g3_cV1 dX12_isParted_10 myX12_howOf mlX12_242 (z3 rfl) ob_44 (z3 rfl) (z3 rfl) (kX12_howOf o1 (g3_r1 (g3_iconst dX12_isParted_13 (g3_icmp_ne (tgt := 21) dX12_isParted_14 rfl (mHow_rg hM _) (z3 rfl) (fun c => ?_) (fun c => ?_)))))))
    · have h1 := h; have h := h1.1 c
      refine g3_iconst dX12_isParted_21 (g3_aload_n 0 dX12_isParted_22 rfl rfl (g3_iload_n 1 dX12_isParted_23 rfl rfl (g3_cV1 dX12_isParted_24 myX12_byText mlX12_251 (z3 rfl) ob_44 (z3 rfl) (z3 rfl) (eX12_byText Em.rf h.1 (fun N1 hN1 he1 hp1 => ?_)))))
      have o2 := h.1
      have h := h.2 N1 hN1 he1 hp1
      refine g3_r1 ?_
      refine g3_icmp_eq (tgt := 34) dX12_isParted_27 rfl (z3 rfl) (bo3_rg _) (fun c => ?_) (fun c => ?_)
      · have h1 := h; have h := h1.1 c
        exact g3_iconst dX12_isParted_34 (g3_zreturn dX12_isParted_35 rfl (Or.inl rfl) h)
      · have h1 := h; have h := h1.2 c
        exact g3_iconst dX12_isParted_30 (g3_goto (tgt := 35) dX12_isParted_31 rfl (g3_zreturn dX12_isParted_35 rfl (Or.inr rfl) h))
    · have h1 := h; have h := h1.2 c
      refine g3_iconst dX12_isParted_17 (g3_goto (tgt := 22) dX12_isParted_18 rfl (g3_aload_n 0 dX12_isParted_22 rfl rfl (g3_iload_n 1 dX12_isParted_23 rfl rfl (g3_cV1 dX12_isParted_24 myX12_byText mlX12_251 (z3 rfl) ob_44 (z3 rfl) (z3 rfl) (eX12_byText Em.rf h.1 (fun N1 hN1 he1 hp1 => ?_))))))
      have o3 := h.1
      have h := h.2 N1 hN1 he1 hp1
      refine g3_r1 ?_
      refine g3_icmp_eq (tgt := 34) dX12_isParted_27 rfl (z3 rfl) (bo3_rg _) (fun c => ?_) (fun c => ?_)
      · have h1 := h; have h := h1.1 c
        exact g3_iconst dX12_isParted_34 (g3_zreturn dX12_isParted_35 rfl (Or.inl rfl) h)
      · have h1 := h; have h := h1.2 c
        exact g3_iconst dX12_isParted_30 (g3_goto (tgt := 35) dX12_isParted_31 rfl (g3_zreturn dX12_isParted_35 rfl (Or.inr rfl) h))
