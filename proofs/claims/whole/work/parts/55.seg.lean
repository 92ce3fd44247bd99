set_option maxRecDepth 20000 in
set_option maxHeartbeats 200000 in
theorem sX12_doesFit {E : E3} {Q : Q3} {M : M3} {x1 x2 x3 : Int}
    (h : G3 E YX12_doesFit Q 3 [(0, vR 44 0), (1, vI x1), (2, vI x2), (3, vI x3), (4, vI 0)] [] M) :
    C3 E YX12_doesFit [vR 44 0, vI x1, vI x2, vI x3] M Q := by
  refine c3_in rfl rfl (z3 rfl) (g3_rm fun hM => ?_)
  refine g3_iconst dX12_doesFit_0 (g3_istore (lv' := [(4, vI 0), (0, vR 44 0), (1, vI x1), (2, vI x2), (3, vI x3)]) dX12_doesFit_1 (z3 rfl) rfl (g3_sub [1, 2, 3, 4, 0] rfl h))
set_option maxRecDepth 20000 in
set_option maxHeartbeats 200000 in
theorem sX12_doesFit_3 {E : E3} {Q : Q3} {M : M3} {x1 : Int} {x2 : Int} {x3 : Int} {x4 : Int}
    (h : (-2147483648 ≤ x4 ∧ x4 ≤ 2147483647) ∧ ((M 44 0 18 ≤ x4 → (Q (some (vI 1)) M)) ∧ (x4 < M 44 0 18 → ((0 ≤ x4 ∧ x4 < 60) ∧ ((mHow M x4 ≤ 0 → (G3 E YX12_doesFit Q 3 [(0, vR 44 0), (1, vI x1), (2, vI x2), (3, vI x3), (4, vI (x4 + 1))] [] M)) ∧ (0 < mHow M x4 → ((-2147483648 ≤ x1 ∧ x1 ≤ 2147483647) ∧ ((M 61 0 x4 ≠ x1 → (G3 E YX12_doesFit Q 3 [(0, vR 44 0), (1, vI x1), (2, vI x2), (3, vI x3), (4, vI (x4 + 1))] [] M)) ∧ (M 61 0 x4 = x1 → (((0 ≤ x4 ∧ x4 < 60) ∧ 0 ≤ M 56 0 x4 ∧ M 56 0 x4 < 48) ∧ ((-2147483648 ≤ x2 ∧ x2 ≤ 2147483647) ∧ ((M 46 0 (M 56 0 x4) ≠ x2 → (G3 E YX12_doesFit Q 3 [(0, vR 44 0), (1, vI x1), (2, vI x2), (3, vI x3), (4, vI (x4 + 1))] [] M)) ∧ (M 46 0 (M 56 0 x4) = x2 → ((mHow M x4 ≠ 1 → ((RdC M ∧ okF M x4) ∧ (∀ (N1 : M3), RM3 N1 → Em M N1 → (RdC N1) → ((-2147483648 ≤ x3 ∧ x3 ≤ 2147483647) ∧ ((mRights M x4 < x3 → (G3 E YX12_doesFit Q 3 [(0, vR 44 0), (1, vI x1), (2, vI x2), (3, vI x3), (4, vI (x4 + 1))] [] N1)) ∧ (x3 ≤ mRights M x4 → (Q (some (vI 0)) N1))))))) ∧ (mHow M x4 = 1 → ((RdC M ∧ okF M x4) ∧ (∀ (N1 : M3), RM3 N1 → Em M N1 → (RdC N1) → ((-2147483648 ≤ x3 ∧ x3 ≤ 2147483647) ∧ ((mRights M x4 < x3 → (Q (some (vI 0)) N1)) ∧ (x3 ≤ mRights M x4 → (G3 E YX12_doesFit Q 3 [(0, vR 44 0), (1, vI x1), (2, vI x2), (3, vI x3), (4, vI (x4 + 1))] [] N1))))))))))))))))))))) :
    G3 E YX12_doesFit Q 3 [(0, vR 44 0), (1, vI x1), (2, vI x2), (3, vI x3), (4, vI x4)] [] M := by
  refine g3_rm fun hM => ?_
  refine g3_iload 4 dX12_doesFit_3 rfl (g3_aload_n 0 dX12_doesFit_5 rfl rfl (g3_getI (t := 0) dX12_doesFit_6 flX12_161 (z3 rfl) (z3 rfl) (g3_icmp_ge (tgt := 83) dX12_doesFit_9 rfl h.1 (hM 44 0 18) (fun c => ?_) (fun c => ?_))))
  · have h1 := h; have h := h1.2.1 c
    have o1 := h1.1
    exact g3_iconst dX12_doesFit_83 (g3_zreturn dX12_doesFit_84 rfl (Or.inr rfl) h)
  · have h1 := h; have h := h1.2.2 c
    have o1 := h1.1
    refine g3_aload_n 0 dX12_doesFit_12 rfl rfl (g3_iload 4 dX12_doesFit_13 rfl (g3_cV1 dX12_doesFit_15 myX12_howOf mlX12_242 (z3 rfl) ob_44 (z3 rfl) (z3 rfl) (kX12_howOf h.1 (g3_r1 (g3_if_le (tgt := 77) dX12_doesFit_18 rfl (mHow_rg hM _) (fun c => ?_) (fun c => ?_))))))
    · have h1 := h; have h := h1.2.1 c
      have o2 := h1.1
      refine g3_iinc (lv' := [(4, vI (x4 + 1)), (0, vR 44 0), (1, vI x1), (2, vI x2), (3, vI x3)]) 4 dX12_doesFit_77 rfl (z3 rfl) rfl (g3_goto (tgt := 3) dX12_doesFit_80 rfl (g3_sub [1, 2, 3, 4, 0] rfl h))
    · have h1 := h; have h := h1.2.2 c
      have o2 := h1.1
      refine g3_aload_n 0 dX12_doesFit_21 rfl rfl (g3_getR0 (t := 61) dX12_doesFit_22 flX12_58 rfl (z3 rfl) (g3_iload 4 dX12_doesFit_25 rfl (g3_iald dX12_doesFit_27 ar_61 (z3 rfl) o2 (g3_iload_n 1 dX12_doesFit_28 rfl rfl (g3_icmp_ne (tgt := 77) dX12_doesFit_29 rfl (hM 61 0 x4) h.1 (fun c => ?_) (fun c => ?_))))))
      · have h1 := h; have h := h1.2.1 c
        have o3 := h1.1
        refine g3_iinc (lv' := [(4, vI (x4 + 1)), (0, vR 44 0), (1, vI x1), (2, vI x2), (3, vI x3)]) 4 dX12_doesFit_77 rfl (z3 rfl) rfl (g3_goto (tgt := 3) dX12_doesFit_80 rfl (g3_sub [1, 2, 3, 4, 0] rfl h))
      · have h1 := h; have h := h1.2.2 c
        have o3 := h1.1
        refine g3_aload_n 0 dX12_doesFit_32 rfl rfl (g3_iload 4 dX12_doesFit_33 rfl (g3_cV1 dX12_doesFit_35 myX12_sortOfForm mlX12_232 (z3 rfl) ob_44 (z3 rfl) (z3 rfl) (kX12_sortOfForm h.1 (g3_r1 (g3_iload_n 2 dX12_doesFit_38 rfl rfl (g3_icmp_ne (tgt := 77) dX12_doesFit_39 rfl (hM 46 0 _) h.2.1 (fun c => ?_) (fun c => ?_)))))))
        · have h1 := h; have h := h1.2.2.1 c
          have o4 := h1.1
          have o5 := h1.2.1
          refine g3_iinc (lv' := [(4, vI (x4 + 1)), (0, vR 44 0), (1, vI x1), (2, vI x2), (3, vI x3)]) 4 dX12_doesFit_77 rfl (z3 rfl) rfl (g3_goto (tgt := 3) dX12_doesFit_80 rfl (g3_sub [1, 2, 3, 4, 0] rfl h))
        · have h1 := h; have h := h1.2.2.2 c
          have o4 := h1.1
          have o5 := h1.2.1
          refine g3_aload_n 0 dX12_doesFit_42 rfl rfl (g3_iload 4 dX12_doesFit_43 rfl (g3_cV1 dX12_doesFit_45 myX12_howOf mlX12_242 (z3 rfl) ob_44 (z3 rfl) (z3 rfl) (kX12_howOf o2 (g3_r1 (g3_iconst dX12_doesFit_48 (g3_icmp_ne (tgt := 56) dX12_doesFit_49 rfl (mHow_rg hM _) (z3 rfl) (fun c => ?_) (fun c => ?_)))))))
          · have h1 := h; have h := h1.1 c
            refine g3_iconst dX12_doesFit_56 (g3_aload_n 0 dX12_doesFit_57 rfl rfl (g3_iload 4 dX12_doesFit_58 rfl (g3_cV1 dX12_doesFit_60 myX12_rightsOf mlX12_239 (z3 rfl) ob_44 (z3 rfl) (z3 rfl) (eX12_rightsOf Em.rf h.1 (fun N1 hN1 he1 hp1 => ?_)))))
            have o6 := h.1
            have h := h.2 N1 hN1 he1 hp1
            refine g3_r1 ?_
            refine g3_iload_n 3 dX12_doesFit_63 rfl rfl (g3_icmp_lt (tgt := 71) dX12_doesFit_64 rfl (mRights_r32 _ _) h.1 (fun c => ?_) (fun c => ?_))
            · have h1 := h; have h := h1.2.1 c
              have o7 := h1.1
              refine g3_iconst dX12_doesFit_71 (g3_icmp_eq_T (tgt := 77) dX12_doesFit_72 rfl trivial (z3 rfl) (g3_iinc (lv' := [(4, vI (x4 + 1)), (0, vR 44 0), (1, vI x1), (2, vI x2), (3, vI x3)]) 4 dX12_doesFit_77 rfl (z3 rfl) rfl (g3_goto (tgt := 3) dX12_doesFit_80 rfl (g3_sub [1, 2, 3, 4, 0] rfl h))))
            · have h1 := h; have h := h1.2.2 c
              have o7 := h1.1
              exact g3_iconst dX12_doesFit_67 (g3_goto (tgt := 72) dX12_doesFit_68 rfl (g3_icmp_eq_F (tgt := 77) dX12_doesFit_72 rfl trivial (z3 rfl) (g3_iconst dX12_doesFit_75 (g3_zreturn dX12_doesFit_76 rfl (Or.inl rfl) h))))
          · have h1 := h; have h := h1.2 c
            refine g3_iconst dX12_doesFit_52 (g3_goto (tgt := 57) dX12_doesFit_53 rfl (g3_aload_n 0 dX12_doesFit_57 rfl rfl (g3_iload 4 dX12_doesFit_58 rfl (g3_cV1 dX12_doesFit_60 myX12_rightsOf mlX12_239 (z3 rfl) ob_44 (z3 rfl) (z3 rfl) (eX12_rightsOf Em.rf h.1 (fun N1 hN1 he1 hp1 => ?_))))))
            have o8 := h.1
            have h := h.2 N1 hN1 he1 hp1
            refine g3_r1 ?_
            refine g3_iload_n 3 dX12_doesFit_63 rfl rfl (g3_icmp_lt (tgt := 71) dX12_doesFit_64 rfl (mRights_r32 _ _) h.1 (fun c => ?_) (fun c => ?_))
            · have h1 := h; have h := h1.2.1 c
              have o9 := h1.1
              exact g3_iconst dX12_doesFit_71 (g3_icmp_eq_F (tgt := 77) dX12_doesFit_72 rfl trivial (z3 rfl) (g3_iconst dX12_doesFit_75 (g3_zreturn dX12_doesFit_76 rfl (Or.inl rfl) h)))
            · have h1 := h; have h := h1.2.2 c
              have o9 := h1.1
              refine g3_iconst dX12_doesFit_67 (g3_goto (tgt := 72) dX12_doesFit_68 rfl (g3_icmp_eq_T (tgt := 77) dX12_doesFit_72 rfl trivial (z3 rfl) (g3_iinc (lv' := [(4, vI (x4 + 1)), (0, vR 44 0), (1, vI x1), (2, vI x2), (3, vI x3)]) 4 dX12_doesFit_77 rfl (z3 rfl) rfl (g3_goto (tgt := 3) dX12_doesFit_80 rfl (g3_sub [1, 2, 3, 4, 0] rfl h)))))
set_option maxRecDepth 20000 in
set_option maxHeartbeats 200000 in
theorem sX12_unlikeOf {E : E3} {Q : Q3} {M : M3} {x1 : Int}
    (h : G3 E YX12_unlikeOf Q 4 [(0, vR 44 0), (1, vI x1), (2, vI 0), (3, vI 0)] [] M) :
    C3 E YX12_unlikeOf [vR 44 0, vI x1] M Q := by
  refine c3_in rfl rfl (z3 rfl) (g3_rm fun hM => ?_)
  refine g3_iconst dX12_unlikeOf_0 (g3_istore_n (lv' := [(2, vI 0), (0, vR 44 0), (1, vI x1)]) dX12_unlikeOf_1 rfl (z3 rfl) rfl (g3_iconst dX12_unlikeOf_2 (g3_istore_n (lv' := [(3, vI 0), (2, vI 0), (0, vR 44 0), (1, vI x1)]) dX12_unlikeOf_3 rfl (z3 rfl) rfl (g3_sub [2, 3, 1, 0] rfl h))))
set_option maxRecDepth 20000 in
set_option maxHeartbeats 200000 in
theorem sX12_unlikeOf_4 {E : E3} {Q : Q3} {M : M3} {x1 : Int} {x2 : Int} {x3 : Int}
    (h : (-2147483648 ≤ x3 ∧ x3 ≤ 2147483647) ∧ ((M 44 0 18 ≤ x3 → (Q (some (vI x2)) M)) ∧ (x3 < M 44 0 18 → (G3 E YX12_unlikeOf Q 15 [(0, vR 44 0), (1, vI x1), (2, vI x2), (3, vI x3), (4, vI 0)] [] M)))) :
    G3 E YX12_unlikeOf Q 4 [(0, vR 44 0), (1, vI x1), (2, vI x2), (3, vI x3)] [] M := by
  refine g3_rm fun hM => ?_
  refine g3_iload_n 3 dX12_unlikeOf_4 rfl rfl (g3_aload_n 0 dX12_unlikeOf_5 rfl rfl (g3_getI (t := 0) dX12_unlikeOf_6 flX12_161 (z3 rfl) (z3 rfl) (g3_icmp_ge (tgt := 55) dX12_unlikeOf_9 rfl h.1 (hM 44 0 18) (fun c => ?_) (fun c => ?_))))
  · have h1 := h; have h := h1.2.1 c
    have o1 := h1.1
    exact g3_iload_n 2 dX12_unlikeOf_55 rfl rfl (g3_ireturn dX12_unlikeOf_56 rfl h)
  · have h1 := h; have h := h1.2.2 c
    have o1 := h1.1
    refine g3_iconst dX12_unlikeOf_12 (g3_istore (lv' := [(4, vI 0), (0, vR 44 0), (1, vI x1), (2, vI x2), (3, vI x3)]) dX12_unlikeOf_13 (z3 rfl) rfl (g3_sub [1, 2, 3, 4, 0] rfl h))
set_option maxRecDepth 20000 in
set_option maxHeartbeats 200000 in
theorem sX12_unlikeOf_15 {E : E3} {Q : Q3} {M : M3} {x1 : Int} {x2 : Int} {x3 : Int} {x4 : Int}
    (h : (-2147483648 ≤ x4 ∧ x4 ≤ 2147483647) ∧ ((M 44 0 18 ≤ x4 → (G3 E YX12_unlikeOf Q 4 [(0, vR 44 0), (1, vI x1), (2, vI x2), (3, vI (x3 + 1))] [] M)) ∧ (x4 < M 44 0 18 → ((RdC M ∧ okR M x3 ∧ okR M x4 ∧ (-2147483648 ≤ x1 ∧ x1 ≤ 2147483647)) ∧ (∀ (N1 : M3), RM3 N1 → Em M N1 → (RdC N1) → ((¬(mUnl M x1 x3 x4) → (G3 E YX12_unlikeOf Q 15 [(0, vR 44 0), (1, vI x1), (2, vI (x2 + 0)), (3, vI x3), (4, vI (x4 + 1))] [] N1)) ∧ ((mUnl M x1 x3 x4) → (G3 E YX12_unlikeOf Q 15 [(0, vR 44 0), (1, vI x1), (2, vI (x2 + 1)), (3, vI x3), (4, vI (x4 + 1))] [] N1)))))))) :
    G3 E YX12_unlikeOf Q 15 [(0, vR 44 0), (1, vI x1), (2, vI x2), (3, vI x3), (4, vI x4)] [] M := by
  refine g3_rm fun hM => ?_
  refine g3_iload 4 dX12_unlikeOf_15 rfl (g3_aload_n 0 dX12_unlikeOf_17 rfl rfl (g3_getI (t := 0) dX12_unlikeOf_18 flX12_161 (z3 rfl) (z3 rfl) (g3_icmp_ge (tgt := 49) dX12_unlikeOf_21 rfl h.1 (hM 44 0 18) (fun c => ?_) (fun c => ?_))))
  · have h1 := h; have h := h1.2.1 c
    have o1 := h1.1
    refine g3_iinc (lv' := [(3, vI (x3 + 1)), (0, vR 44 0), (1, vI x1), (2, vI x2), (4, vI x4)]) 3 dX12_unlikeOf_49 rfl (z3 rfl) rfl (g3_goto (tgt := 4) dX12_unlikeOf_52 rfl (g3_sub [1, 2, 3, 0] rfl h))
  · have h1 := h; have h := h1.2.2 c
    have o1 := h1.1
    refine g3_iload_n 2 dX12_unlikeOf_24 rfl rfl (g3_aload_n 0 dX12_unlikeOf_25 rfl rfl (g3_iload_n 1 dX12_unlikeOf_26 rfl rfl (g3_iload_n 3 dX12_unlikeOf_27 rfl rfl (g3_iload 4 dX12_unlikeOf_28 rfl (g3_cV3 dX12_unlikeOf_30 myX12_areUnlike mlX12_275 (z3 rfl) ob_44 (z3 rfl) (z3 rfl) (eX12_areUnlike Em.rf h.1 (fun N1 hN1 he1 hp1 => ?_)))))))
    have o2 := h.1
    have h := h.2 N1 hN1 he1 hp1
    refine g3_r1 ?_
    refine g3_bool_eq (tgt := 40) dX12_unlikeOf_33 rfl (fun c => ?_) (fun c => ?_)
    · have h1 := h; have h := h1.1 c
      refine g3_iconst dX12_unlikeOf_40 (g3_iadd dX12_unlikeOf_41 (g3_istore_n (lv' := [(2, vI (x2 + 0)), (0, vR 44 0), (1, vI x1), (3, vI x3), (4, vI x4)]) dX12_unlikeOf_42 rfl (z3 rfl) rfl (g3_iinc (lv' := [(4, vI (x4 + 1)), (2, vI (x2 + 0)), (0, vR 44 0), (1, vI x1), (3, vI x3)]) 4 dX12_unlikeOf_43 rfl (z3 rfl) rfl (g3_goto (tgt := 15) dX12_unlikeOf_46 rfl (g3_sub [2, 3, 1, 4, 0] rfl h)))))
    · have h1 := h; have h := h1.2 c
      refine g3_iconst dX12_unlikeOf_36 (g3_goto (tgt := 41) dX12_unlikeOf_37 rfl (g3_iadd dX12_unlikeOf_41 (g3_istore_n (lv' := [(2, vI (x2 + 1)), (0, vR 44 0), (1, vI x1), (3, vI x3), (4, vI x4)]) dX12_unlikeOf_42 rfl (z3 rfl) rfl (g3_iinc (lv' := [(4, vI (x4 + 1)), (2, vI (x2 + 1)), (0, vR 44 0), (1, vI x1), (3, vI x3)]) 4 dX12_unlikeOf_43 rfl (z3 rfl) rfl (g3_goto (tgt := 15) dX12_unlikeOf_46 rfl (g3_sub [2, 3, 1, 4, 0] rfl h))))))
