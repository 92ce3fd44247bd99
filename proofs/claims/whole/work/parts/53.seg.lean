set_option maxRecDepth 20000 in
set_option maxHeartbeats 200000 in
theorem sX12_areUnlike {E : E3} {Q : Q3} {M : M3} {x1 x2 x3 : Int}
    (h : (0 ≤ x2 ∧ x2 < 60) ∧ ((mHow M x2 ≠ 1 → (Q (some (vI 0)) M)) ∧ (mHow M x2 = 1 → ((0 ≤ x3 ∧ x3 < 60) ∧ ((mHow M x3 ≠ 2 → (Q (some (vI 0)) M)) ∧ (mHow M x3 = 2 → ((-2147483648 ≤ x1 ∧ x1 ≤ 2147483647) ∧ ((M 61 0 x2 ≠ x1 → (Q (some (vI 0)) M)) ∧ (M 61 0 x2 = x1 → ((M 61 0 x3 ≠ x1 → (Q (some (vI 0)) M)) ∧ (M 61 0 x3 = x1 → (((0 ≤ x2 ∧ x2 < 60) ∧ 0 ≤ M 56 0 x2 ∧ M 56 0 x2 < 48) ∧ (((0 ≤ x3 ∧ x3 < 60) ∧ 0 ≤ M 56 0 x3 ∧ M 56 0 x3 < 48) ∧ ((M 46 0 (M 56 0 x2) = M 46 0 (M 56 0 x3) → (Q (some (vI 0)) M)) ∧ (M 46 0 (M 56 0 x2) ≠ M 46 0 (M 56 0 x3) → ((RdC M ∧ okF M x3) ∧ (∀ (N1 : M3), RM3 N1 → Em M N1 → (RdC N1) → ((RdC N1 ∧ okF M x2) ∧ (∀ (N2 : M3), RM3 N2 → Em N1 N2 → (RdC N2) → ((mRights M x3 < mRights M x2 → (Q (some (vI 0)) N2)) ∧ (mRights M x2 ≤ mRights M x3 → (Q (some (vI 1)) N2)))))))))))))))))))))) :
    C3 E YX12_areUnlike [vR 44 0, vI x1, vI x2, vI x3] M Q := by
  refine c3_in rfl rfl (z3 rfl) (g3_rm fun hM => ?_)
  refine g3_aload_n 0 dX12_areUnlike_0 rfl rfl (g3_iload_n 2 dX12_areUnlike_1 rfl rfl (g3_cV1 dX12_areUnlike_2 myX12_howOf mlX12_242 (z3 rfl) ob_44 (z3 rfl) (z3 rfl) (kX12_howOf h.1 (g3_r1 (g3_iconst dX12_areUnlike_5 (g3_icmp_ne (tgt := 68) dX12_areUnlike_6 rfl (mHow_rg hM _) (z3 rfl) (fun c => ?_) (fun c => ?_)))))))
  · have h1 := h; have h := h1.2.1 c
    have o1 := h1.1
    exact g3_iconst dX12_areUnlike_68 (g3_zreturn dX12_areUnlike_69 rfl (Or.inl rfl) h)
  · have h1 := h; have h := h1.2.2 c
    have o1 := h1.1
    refine g3_aload_n 0 dX12_areUnlike_9 rfl rfl (g3_iload_n 3 dX12_areUnlike_10 rfl rfl (g3_cV1 dX12_areUnlike_11 myX12_howOf mlX12_242 (z3 rfl) ob_44 (z3 rfl) (z3 rfl) (kX12_howOf h.1 (g3_r1 (g3_iconst dX12_areUnlike_14 (g3_icmp_ne (tgt := 68) dX12_areUnlike_15 rfl (mHow_rg hM _) (z3 rfl) (fun c => ?_) (fun c => ?_)))))))
    · have h1 := h; have h := h1.2.1 c
      have o2 := h1.1
      exact g3_iconst dX12_areUnlike_68 (g3_zreturn dX12_areUnlike_69 rfl (Or.inl rfl) h)
    · have h1 := h; have h := h1.2.2 c
      have o2 := h1.1
      refine g3_aload_n 0 dX12_areUnlike_18 rfl rfl (g3_getR0 (t := 61) dX12_areUnlike_19 flX12_58 rfl (z3 rfl) (g3_iload_n 2 dX12_areUnlike_22 rfl rfl (g3_iald dX12_areUnlike_23 ar_61 (z3 rfl) o1 (g3_iload_n 1 dX12_areUnlike_24 rfl rfl (g3_icmp_ne (tgt := 68) dX12_areUnlike_25 rfl (hM 61 0 x2) h.1 (fun c => ?_) (fun c => ?_))))))
      · have h1 := h; have h := h1.2.1 c
        have o3 := h1.1
        exact g3_iconst dX12_areUnlike_68 (g3_zreturn dX12_areUnlike_69 rfl (Or.inl rfl) h)
      · have h1 := h; have h := h1.2.2 c
        have o3 := h1.1
        refine g3_aload_n 0 dX12_areUnlike_28 rfl rfl (g3_getR0 (t := 61) dX12_areUnlike_29 flX12_58 rfl (z3 rfl) (g3_iload_n 3 dX12_areUnlike_32 rfl rfl (g3_iald dX12_areUnlike_33 ar_61 (z3 rfl) o2 (g3_iload_n 1 dX12_areUnlike_34 rfl rfl (g3_icmp_ne (tgt := 68) dX12_areUnlike_35 rfl (hM 61 0 x3) o3 (fun c => ?_) (fun c => ?_))))))
        · have h1 := h; have h := h1.1 c
          exact g3_iconst dX12_areUnlike_68 (g3_zreturn dX12_areUnlike_69 rfl (Or.inl rfl) h)
        · have h1 := h; have h := h1.2 c
          refine g3_aload_n 0 dX12_areUnlike_38 rfl rfl (g3_iload_n 2 dX12_areUnlike_39 rfl rfl (g3_cV1 dX12_areUnlike_40 myX12_sortOfForm mlX12_232 (z3 rfl) ob_44 (z3 rfl) (z3 rfl) (kX12_sortOfForm h.1 (g3_r1 (g3_aload_n 0 dX12_areUnlike_43 rfl rfl (g3_iload_n 3 dX12_areUnlike_44 rfl rfl (g3_cV1 dX12_areUnlike_45 myX12_sortOfForm mlX12_232 (z3 rfl) ob_44 (z3 rfl) (z3 rfl) (kX12_sortOfForm h.2.1 (g3_r1 (g3_icmp_eq (tgt := 68) dX12_areUnlike_48 rfl (hM 46 0 _) (hM 46 0 _) (fun c => ?_) (fun c => ?_)))))))))))
          · have h1 := h; have h := h1.2.2.1 c
            have o4 := h1.1
            have o5 := h1.2.1
            exact g3_iconst dX12_areUnlike_68 (g3_zreturn dX12_areUnlike_69 rfl (Or.inl rfl) h)
          · have h1 := h; have h := h1.2.2.2 c
            have o4 := h1.1
            have o5 := h1.2.1
            refine g3_aload_n 0 dX12_areUnlike_51 rfl rfl (g3_iload_n 3 dX12_areUnlike_52 rfl rfl (g3_cV1 dX12_areUnlike_53 myX12_rightsOf mlX12_239 (z3 rfl) ob_44 (z3 rfl) (z3 rfl) (eX12_rightsOf Em.rf h.1 (fun N1 hN1 he1 hp1 => ?_))))
            have o6 := h.1
            have h := h.2 N1 hN1 he1 hp1
            refine g3_r1 ?_
            refine g3_aload_n 0 dX12_areUnlike_56 rfl rfl (g3_iload_n 2 dX12_areUnlike_57 rfl rfl (g3_cV1 dX12_areUnlike_58 myX12_rightsOf mlX12_239 (z3 rfl) ob_44 (z3 rfl) (z3 rfl) (eX12_rightsOf (Em.tr Em.rf he1) h.1 (fun N2 hN2 he2 hp2 => ?_))))
            have o7 := h.1
            have h := h.2 N2 hN2 he2 hp2
            refine g3_r1 ?_
            refine g3_icmp_lt (tgt := 68) dX12_areUnlike_61 rfl (mRights_r32 _ _) (mRights_r32 _ _) (fun c => ?_) (fun c => ?_)
            · have h1 := h; have h := h1.1 c
              exact g3_iconst dX12_areUnlike_68 (g3_zreturn dX12_areUnlike_69 rfl (Or.inl rfl) h)
            · have h1 := h; have h := h1.2 c
              exact g3_iconst dX12_areUnlike_64 (g3_goto (tgt := 69) dX12_areUnlike_65 rfl (g3_zreturn dX12_areUnlike_69 rfl (Or.inr rfl) h))
set_option maxRecDepth 20000 in
set_option maxHeartbeats 200000 in
theorem sX12_parted {E : E3} {Q : Q3} {M : M3} {x1 x2 : Int}
    (h : ((-2147483648 ≤ x1 ∧ x1 ≤ 2147483647) ∧ (-2147483648 ≤ ((-1) : Int) ∧ ((-1) : Int) ≤ 2147483647) ∧ (-2147483648 ≤ (1 : Int) ∧ (1 : Int) ≤ 2147483647)) ∧ ((¬((-1) ≤ x1 ∧ x1 ≤ 1) → (Q (some (vI (-2))) M)) ∧ (((-1) ≤ x1 ∧ x1 ≤ 1) → (((-2147483648 ≤ x2 ∧ x2 ≤ 2147483647) ∧ (-2147483648 ≤ (0 : Int) ∧ (0 : Int) ≤ 2147483647) ∧ (-2147483648 ≤ (2 : Int) ∧ (2 : Int) ≤ 2147483647)) ∧ (((0 ≤ x2 ∧ x2 ≤ 2) → (G3 E YX12_parted Q 26 [(0, vR 44 0), (1, vI x1), (2, vI x2), (3, vI 0), (4, vI 0)] [] M)) ∧ (¬(0 ≤ x2 ∧ x2 ≤ 2) → (Q (some (vI (-2))) M))))))) :
    C3 E YX12_parted [vR 44 0, vI x1, vI x2] M Q := by
  refine c3_in rfl rfl (z3 rfl) (g3_rm fun hM => ?_)
  refine g3_iload_n 1 dX12_parted_0 rfl rfl (g3_iconst dX12_parted_1 (g3_iconst dX12_parted_2 (g3_cS3 dX12_parted_3 myX12_in mlX12_144 (z3 rfl) (z3 rfl) (kX12_in h.1 (g3_r1 (g3_bool_eq (tgt := 18) dX12_parted_6 rfl (fun c => ?_) (fun c => ?_)))))))
  · have h1 := h; have h := h1.2.1 c
    have o1 := h1.1
    exact g3_bipush dX12_parted_18 rfl (g3_ireturn dX12_parted_20 rfl h)
  · have h1 := h; have h := h1.2.2 c
    have o1 := h1.1
    refine g3_iload_n 2 dX12_parted_9 rfl rfl (g3_iconst dX12_parted_10 (g3_iconst dX12_parted_11 (g3_cS3 dX12_parted_12 myX12_in mlX12_144 (z3 rfl) (z3 rfl) (kX12_in h.1 (g3_r1 (g3_bool_ne (tgt := 21) dX12_parted_15 rfl (fun c => ?_) (fun c => ?_)))))))
    · have h1 := h; have h := h1.2.1 c
      have o2 := h1.1
      refine g3_iconst dX12_parted_21 (g3_istore_n (lv' := [(3, vI 0), (0, vR 44 0), (1, vI x1), (2, vI x2)]) dX12_parted_22 rfl (z3 rfl) rfl (g3_iconst dX12_parted_23 (g3_istore (lv' := [(4, vI 0), (3, vI 0), (0, vR 44 0), (1, vI x1), (2, vI x2)]) dX12_parted_24 (z3 rfl) rfl (g3_sub [2, 3, 4, 1, 0] rfl h))))
    · have h1 := h; have h := h1.2.2 c
      have o2 := h1.1
      exact g3_bipush dX12_parted_18 rfl (g3_ireturn dX12_parted_20 rfl h)
set_option maxRecDepth 20000 in
set_option maxHeartbeats 200000 in
theorem sX12_parted_26 {E : E3} {Q : Q3} {M : M3} {x1 : Int} {x2 : Int} {x3 : Int} {x4 : Int}
    (h : (-2147483648 ≤ x4 ∧ x4 ≤ 2147483647) ∧ ((M 44 0 18 ≤ x4 → (Q (some (vI x3)) M)) ∧ (x4 < M 44 0 18 → ((-2147483648 ≤ x2 ∧ x2 ≤ 2147483647) ∧ ((x2 ≠ 2 → ((RdC M ∧ okR M x4) ∧ (∀ (N1 : M3), RM3 N1 → Em M N1 → (RdC N1) → ((¬(mPtd M x4) → (G3 E YX12_parted Q 26 [(0, vR 44 0), (1, vI x1), (2, vI x2), (3, vI (x3 + 0)), (4, vI (x4 + 1))] [] N1)) ∧ ((mPtd M x4) → ((0 ≤ x4 ∧ x4 < 60) ∧ ((-2147483648 ≤ x2 + 1 ∧ x2 + 1 ≤ 2147483647) ∧ ((mHow M x4 ≠ x2 + 1 → (G3 E YX12_parted Q 26 [(0, vR 44 0), (1, vI x1), (2, vI x2), (3, vI (x3 + 0)), (4, vI (x4 + 1))] [] N1)) ∧ (mHow M x4 = x2 + 1 → ((-2147483648 ≤ x1 ∧ x1 ≤ 2147483647) ∧ ((x1 = (-1) → (G3 E YX12_parted Q 26 [(0, vR 44 0), (1, vI x1), (2, vI x2), (3, vI (x3 + 1)), (4, vI (x4 + 1))] [] N1)) ∧ (x1 ≠ (-1) → (((0 ≤ x4 ∧ x4 < 60) ∧ 0 ≤ N1 56 0 x4 ∧ N1 56 0 x4 < 48) ∧ ((M 46 0 (M 56 0 x4) ≠ x1 → (G3 E YX12_parted Q 26 [(0, vR 44 0), (1, vI x1), (2, vI x2), (3, vI (x3 + 0)), (4, vI (x4 + 1))] [] N1)) ∧ (M 46 0 (M 56 0 x4) = x1 → (G3 E YX12_parted Q 26 [(0, vR 44 0), (1, vI x1), (2, vI x2), (3, vI (x3 + 1)), (4, vI (x4 + 1))] [] N1)))))))))))))))) ∧ (x2 = 2 → ((RdC M ∧ okR M x4) ∧ (∀ (N1 : M3), RM3 N1 → Em M N1 → (RdC N1) → ((¬(mFls M x4) → (G3 E YX12_parted Q 26 [(0, vR 44 0), (1, vI x1), (2, vI x2), (3, vI (x3 + 0)), (4, vI (x4 + 1))] [] N1)) ∧ ((mFls M x4) → ((-2147483648 ≤ x1 ∧ x1 ≤ 2147483647) ∧ ((x1 = (-1) → (G3 E YX12_parted Q 26 [(0, vR 44 0), (1, vI x1), (2, vI x2), (3, vI (x3 + 1)), (4, vI (x4 + 1))] [] N1)) ∧ (x1 ≠ (-1) → (((0 ≤ x4 ∧ x4 < 60) ∧ 0 ≤ N1 56 0 x4 ∧ N1 56 0 x4 < 48) ∧ ((M 46 0 (M 56 0 x4) ≠ x1 → (G3 E YX12_parted Q 26 [(0, vR 44 0), (1, vI x1), (2, vI x2), (3, vI (x3 + 0)), (4, vI (x4 + 1))] [] N1)) ∧ (M 46 0 (M 56 0 x4) = x1 → (G3 E YX12_parted Q 26 [(0, vR 44 0), (1, vI x1), (2, vI x2), (3, vI (x3 + 1)), (4, vI (x4 + 1))] [] N1))))))))))))))))) :
    G3 E YX12_parted Q 26 [(0, vR 44 0), (1, vI x1), (2, vI x2), (3, vI x3), (4, vI x4)] [] M := by
  refine g3_rm fun hM => ?_
  refine g3_iload 4 dX12_parted_26 rfl (g3_aload_n 0 dX12_parted_28 rfl rfl (g3_getI (t := 0) dX12_parted_29 flX12_161 (z3 rfl) (z3 rfl) (g3_icmp_ge (tgt := 111) dX12_parted_32 rfl h.1 (hM 44 0 18) (fun c => ?_) (fun c => ?_))))
  · have h1 := h; have h := h1.2.1 c
    have o1 := h1.1
    exact g3_iload_n 3 dX12_parted_111 rfl rfl (g3_ireturn dX12_parted_112 rfl h)
  · have h1 := h; have h := h1.2.2 c
    have o1 := h1.1
    refine g3_iload_n 2 dX12_parted_35 rfl rfl (g3_iconst dX12_parted_36 (g3_icmp_ne (tgt := 49) dX12_parted_37 rfl h.1 (z3 rfl) (fun c => ?_) (fun c => ?_)))
    · have h1 := h; have h := h1.2.1 c
      have o2 := h1.1
      refine g3_aload_n 0 dX12_parted_49 rfl rfl (g3_iload 4 dX12_parted_50 rfl (g3_cV1 dX12_parted_52 myX12_isParted mlX12_263 (z3 rfl) ob_44 (z3 rfl) (z3 rfl) (eX12_isParted Em.rf h.1 (fun N1 hN1 he1 hp1 => ?_))))
      have o3 := h.1
      have h := h.2 N1 hN1 he1 hp1
      refine g3_r1 ?_
      refine g3_bool_eq (tgt := 74) dX12_parted_55 rfl (fun c => ?_) (fun c => ?_)
      · have h1 := h; have h := h1.1 c
        refine g3_iconst dX12_parted_74 (g3_istore (lv' := [(5, vI 0), (0, vR 44 0), (1, vI x1), (2, vI x2), (3, vI x3), (4, vI x4)]) dX12_parted_75 (z3 rfl) rfl (g3_iload_n 4 dX12_parted_77 rfl rfl (g3_iload 0 dX12_parted_78 rfl (g3_if_eq_T (tgt := 102) dX12_parted_80 rfl (z3 rfl) (g3_iconst dX12_parted_102 (g3_iadd dX12_parted_103 (g3_istore_n (lv' := [(3, vI (x3 + 0)), (5, vI 0), (0, vR 44 0), (1, vI x1), (2, vI x2), (4, vI x4)]) dX12_parted_104 rfl (z3 rfl) rfl (g3_iinc (lv' := [(4, vI (x4 + 1)), (3, vI (x3 + 0)), (5, vI 0), (0, vR 44 0), (1, vI x1), (2, vI x2)]) 5 dX12_parted_105 rfl (z3 rfl) rfl (g3_goto (tgt := 26) dX12_parted_108 rfl (g3_sub [3, 4, 5, 1, 0] rfl h))))))))))
      · have h1 := h; have h := h1.2 c
        refine g3_aload_n 0 dX12_parted_58 rfl rfl (g3_iload 4 dX12_parted_59 rfl (g3_cV1 dX12_parted_61 myX12_howOf mlX12_242 (z3 rfl) ob_44 (z3 rfl) (z3 rfl) (kX12_howOf h.1 (g3_r1 (g3_val (mHow_e (Em.tr Em.rf he1) _) (g3_iload_n 2 dX12_parted_64 rfl rfl (g3_iconst dX12_parted_65 (g3_iadd dX12_parted_66 (g3_icmp_ne (tgt := 74) dX12_parted_67 rfl (mHow_rg hM _) h.2.1 (fun c => ?_) (fun c => ?_))))))))))
        · have h1 := h; have h := h1.2.2.1 c
          have o4 := h1.1
          have o5 := h1.2.1
          refine g3_iconst dX12_parted_74 (g3_istore (lv' := [(5, vI 0), (0, vR 44 0), (1, vI x1), (2, vI x2), (3, vI x3), (4, vI x4)]) dX12_parted_75 (z3 rfl) rfl (g3_iload_n 4 dX12_parted_77 rfl rfl (g3_iload 0 dX12_parted_78 rfl (g3_if_eq_T (tgt := 102) dX12_parted_80 rfl (z3 rfl) (g3_iconst dX12_parted_102 (g3_iadd dX12_parted_103 (g3_istore_n (lv' := [(3, vI (x3 + 0)), (5, vI 0), (0, vR 44 0), (1, vI x1), (2, vI x2), (4, vI x4)]) dX12_parted_104 rfl (z3 rfl) rfl (g3_iinc (lv' := [(4, vI (x4 + 1)), (3, vI (x3 + 0)), (5, vI 0), (0, vR 44 0), (1, vI x1), (2, vI x2)]) 5 dX12_parted_105 rfl (z3 rfl) rfl (g3_goto (tgt := 26) dX12_parted_108 rfl (g3_sub [3, 4, 5, 1, 0] rfl h))))))))))
        · have h1 := h; have h := h1.2.2.2 c
          have o4 := h1.1
          have o5 := h1.2.1
          refine g3_iconst dX12_parted_70 (g3_goto (tgt := 75) dX12_parted_71 rfl (g3_istore (lv' := [(5, vI 1), (0, vR 44 0), (1, vI x1), (2, vI x2), (3, vI x3), (4, vI x4)]) dX12_parted_75 (z3 rfl) rfl (g3_iload_n 4 dX12_parted_77 rfl rfl (g3_iload 0 dX12_parted_78 rfl (g3_if_eq_F (tgt := 102) dX12_parted_80 rfl (z3 rfl) (g3_iload_n 2 dX12_parted_83 rfl rfl (g3_iconst dX12_parted_84 (g3_icmp_eq (tgt := 98) dX12_parted_85 rfl h.1 (z3 rfl) (fun c => ?_) (fun c => ?_)))))))))
          · have h1 := h; have h := h1.2.1 c
            have o6 := h1.1
            refine g3_iconst dX12_parted_98 (g3_goto (tgt := 103) dX12_parted_99 rfl (g3_iadd dX12_parted_103 (g3_istore_n (lv' := [(3, vI (x3 + 1)), (5, vI 1), (0, vR 44 0), (1, vI x1), (2, vI x2), (4, vI x4)]) dX12_parted_104 rfl (z3 rfl) rfl (g3_iinc (lv' := [(4, vI (x4 + 1)), (3, vI (x3 + 1)), (5, vI 1), (0, vR 44 0), (1, vI x1), (2, vI x2)]) 5 dX12_parted_105 rfl (z3 rfl) rfl (g3_goto (tgt := 26) dX12_parted_108 rfl (g3_sub [3, 4, 5, 1, 0] rfl h))))))
          · have h1 := h; have h := h1.2.2 c
            have o6 := h1.1
            refine g3_aload_n 1 dX12_parted_88 rfl rfl (g3_iload 5 dX12_parted_89 rfl (g3_cV1 dX12_parted_91 myX12_sortOfForm mlX12_232 (z3 rfl) ob_44 (z3 rfl) (z3 rfl) (kX12_sortOfForm h.1 (g3_r1 (g3_val (by rw [(Em.tr Em.rf he1).1 46 (by decide), (Em.tr Em.rf he1).1 56 (by decide)]) (g3_iload_n 2 dX12_parted_94 rfl rfl (g3_icmp_ne (tgt := 102) dX12_parted_95 rfl (hM 46 0 _) o6 (fun c => ?_) (fun c => ?_))))))))
            · have h1 := h; have h := h1.2.1 c
              have o7 := h1.1
              refine g3_iconst dX12_parted_102 (g3_iadd dX12_parted_103 (g3_istore_n (lv' := [(3, vI (x3 + 0)), (5, vI 1), (0, vR 44 0), (1, vI x1), (2, vI x2), (4, vI x4)]) dX12_parted_104 rfl (z3 rfl) rfl (g3_iinc (lv' := [(4, vI (x4 + 1)), (3, vI (x3 + 0)), (5, vI 1), (0, vR 44 0), (1, vI x1), (2, vI x2)]) 5 dX12_parted_105 rfl (z3 rfl) rfl (g3_goto (tgt := 26) dX12_parted_108 rfl (g3_sub [3, 4, 5, 1, 0] rfl h)))))
            · have h1 := h; have h := h1.2.2 c
              have o7 := h1.1
              refine g3_iconst dX12_parted_98 (g3_goto (tgt := 103) dX12_parted_99 rfl (g3_iadd dX12_parted_103 (g3_istore_n (lv' := [(3, vI (x3 + 1)), (5, vI 1), (0, vR 44 0), (1, vI x1), (2, vI x2), (4, vI x4)]) dX12_parted_104 rfl (z3 rfl) rfl (g3_iinc (lv' := [(4, vI (x4 + 1)), (3, vI (x3 + 1)), (5, vI 1), (0, vR 44 0), (1, vI x1), (2, vI x2)]) 5 dX12_parted_105 rfl (z3 rfl) rfl (g3_goto (tgt := 26) dX12_parted_108 rfl (g3_sub [3, 4, 5, 1, 0] rfl h))))))
    · have h1 := h; have h := h1.2.2 c
      have o2 := h1.1
      refine g3_aload_n 0 dX12_parted_40 rfl rfl (g3_iload 4 dX12_parted_41 rfl (g3_cV1 dX12_parted_43 myX12_isFalse mlX12_260 (z3 rfl) ob_44 (z3 rfl) (z3 rfl) (eX12_isFalse Em.rf h.1 (fun N1 hN1 he1 hp1 => ?_))))
      have o8 := h.1
      have h := h.2 N1 hN1 he1 hp1
      refine g3_r1 ?_
      refine g3_goto (tgt := 75) dX12_parted_46 rfl (g3_istore (lv' := [(5, vI (bo3 (mFls M x4))), (0, vR 44 0), (1, vI x1), (2, vI x2), (3, vI x3), (4, vI x4)]) dX12_parted_75 (z3 rfl) rfl (g3_iload_n 4 dX12_parted_77 rfl rfl (g3_iload 0 dX12_parted_78 rfl (g3_bool_eq (tgt := 102) dX12_parted_80 rfl (fun c => ?_) (fun c => ?_)))))
      · have h1 := h; have h := h1.1 c
        refine g3_iconst dX12_parted_102 (g3_iadd dX12_parted_103 (g3_istore_n (lv' := [(3, vI (x3 + 0)), (5, vI (bo3 (mFls M x4))), (0, vR 44 0), (1, vI x1), (2, vI x2), (4, vI x4)]) dX12_parted_104 rfl (z3 rfl) rfl (g3_iinc (lv' := [(4, vI (x4 + 1)), (3, vI (x3 + 0)), (5, vI (bo3 (mFls M x4))), (0, vR 44 0), (1, vI x1), (2, vI x2)]) 5 dX12_parted_105 rfl (z3 rfl) rfl (g3_goto (tgt := 26) dX12_parted_108 rfl (g3_sub [3, 4, 5, 1, 0] rfl h)))))
      · have h1 := h; have h := h1.2 c
        refine g3_iload_n 2 dX12_parted_83 rfl rfl (g3_iconst dX12_parted_84 (g3_icmp_eq (tgt := 98) dX12_parted_85 rfl h.1 (z3 rfl) (fun c => ?_) (fun c => ?_)))
        · have h1 := h; have h := h1.2.1 c
          have o9 := h1.1
          refine g3_iconst dX12_parted_98 (g3_goto (tgt := 103) dX12_parted_99 rfl (g3_iadd dX12_parted_103 (g3_istore_n (lv' := [(3, vI (x3 + 1)), (5, vI (bo3 (mFls M x4))), (0, vR 44 0), (1, vI x1), (2, vI x2), (4, vI x4)]) dX12_parted_104 rfl (z3 rfl) rfl (g3_iinc (lv' := [(4, vI (x4 + 1)), (3, vI (x3 + 1)), (5, vI (bo3 (mFls M x4))), (0, vR 44 0), (1, vI x1), (2, vI x2)]) 5 dX12_parted_105 rfl (z3 rfl) rfl (g3_goto (tgt := 26) dX12_parted_108 rfl (g3_sub [3, 4, 5, 1, 0] rfl h))))))
        · have h1 := h; have h := h1.2.2 c
          have o9 := h1.1
          refine g3_aload_n 1 dX12_parted_88 rfl rfl (g3_iload 5 dX12_parted_89 rfl (g3_cV1 dX12_parted_91 myX12_sortOfForm mlX12_232 (z3 rfl) ob_44 (z3 rfl) (z3 rfl) (kX12_sortOfForm h.1 (g3_r1 (g3_val (by rw [(Em.tr Em.rf he1).1 46 (by decide), (Em.tr Em.rf he1).1 56 (by decide)]) (g3_iload_n 2 dX12_parted_94 rfl rfl (g3_icmp_ne (tgt := 102) dX12_parted_95 rfl (hM 46 0 _) o9 (fun c => ?_) (fun c => ?_))))))))
          · have h1 := h; have h := h1.2.1 c
            have o10 := h1.1
            refine g3_iconst dX12_parted_102 (g3_iadd dX12_parted_103 (g3_istore_n (lv' := [(3, vI (x3 + 0)), (5, vI (bo3 (mFls M x4))), (0, vR 44 0), (1, vI x1), (2, vI x2), (4, vI x4)]) dX12_parted_104 rfl (z3 rfl) rfl (g3_iinc (lv' := [(4, vI (x4 + 1)), (3, vI (x3 + 0)), (5, vI (bo3 (mFls M x4))), (0, vR 44 0), (1, vI x1), (2, vI x2)]) 5 dX12_parted_105 rfl (z3 rfl) rfl (g3_goto (tgt := 26) dX12_parted_108 rfl (g3_sub [3, 4, 5, 1, 0] rfl h)))))
          · have h1 := h; have h := h1.2.2 c
            have o10 := h1.1
            refine g3_iconst dX12_parted_98 (g3_goto (tgt := 103) dX12_parted_99 rfl (g3_iadd dX12_parted_103 (g3_istore_n (lv' := [(3, vI (x3 + 1)), (5, vI (bo3 (mFls M x4))), (0, vR 44 0), (1, vI x1), (2, vI x2), (4, vI x4)]) dX12_parted_104 rfl (z3 rfl) rfl (g3_iinc (lv' := [(4, vI (x4 + 1)), (3, vI (x3 + 1)), (5, vI (bo3 (mFls M x4))), (0, vR 44 0), (1, vI x1), (2, vI x2)]) 5 dX12_parted_105 rfl (z3 rfl) rfl (g3_goto (tgt := 26) dX12_parted_108 rfl (g3_sub [3, 4, 5, 1, 0] rfl h))))))
set_option maxRecDepth 20000 in
set_option maxHeartbeats 200000 in
theorem sX12_readyOf {E : E3} {Q : Q3} {M : M3} {x1 x2 : Int}
    (h : G3 E YX12_readyOf Q 5 [(0, vR 44 0), (1, vI x1), (2, vI x2), (3, vI 0), (4, vI 0)] [] M) :
    C3 E YX12_readyOf [vR 44 0, vI x1, vI x2] M Q := by
  refine c3_in rfl rfl (z3 rfl) (g3_rm fun hM => ?_)
  refine g3_iconst dX12_readyOf_0 (g3_istore_n (lv' := [(3, vI 0), (0, vR 44 0), (1, vI x1), (2, vI x2)]) dX12_readyOf_1 rfl (z3 rfl) rfl (g3_iconst dX12_readyOf_2 (g3_istore (lv' := [(4, vI 0), (3, vI 0), (0, vR 44 0), (1, vI x1), (2, vI x2)]) dX12_readyOf_3 (z3 rfl) rfl (g3_sub [2, 3, 4, 1, 0] rfl h))))
set_option maxRecDepth 20000 in
set_option maxHeartbeats 200000 in
theorem sX12_readyOf_5 {E : E3} {Q : Q3} {M : M3} {x1 : Int} {x2 : Int} {x3 : Int} {x4 : Int}
    (h : (-2147483648 ≤ x4 ∧ x4 ≤ 2147483647) ∧ ((M 44 0 1 ≤ x4 → (Q (some (vI x3)) M)) ∧ (x4 < M 44 0 1 → ((0 ≤ x4 ∧ x4 < 48) ∧ ((-2147483648 ≤ (M 47 0 x4) + (2 * x2) ∧ (M 47 0 x4) + (2 * x2) ≤ 2147483647) ∧ (((M 47 0 x4) + (2 * x2) ≤ 20 → ((¬(M 50 0 x4 = 0 ∨ M 50 0 x4 = 2) → (G3 E YX12_readyOf Q 5 [(0, vR 44 0), (1, vI x1), (2, vI x2), (3, vI (x3 + 0)), (4, vI (x4 + 1))] [] M)) ∧ ((M 50 0 x4 = 0 ∨ M 50 0 x4 = 2) → ((-2147483648 ≤ x1 ∧ x1 ≤ 2147483647) ∧ ((x1 = (-1) → ((RdC M ∧ 0 ≤ (M 44 0 0) ∧ (M 44 0 0) ≤ 399) ∧ (∀ (N1 : M3), RM3 N1 → Em M N1 → (RdC N1) → ((¬(alw3 (LM3 M) (M 46 0 x4) (M 44 0 0)) → (G3 E YX12_readyOf Q 5 [(0, vR 44 0), (1, vI x1), (2, vI x2), (3, vI (x3 + 0)), (4, vI (x4 + 1))] [] N1)) ∧ ((alw3 (LM3 M) (M 46 0 x4) (M 44 0 0)) → ((RdC N1 ∧ (0 ≤ (2 : Int) ∧ (2 : Int) < 4) ∧ 0 ≤ (M 44 0 0) ∧ (M 44 0 0) ≤ 399) ∧ (∀ (N2 : M3), RM3 N2 → Em N1 N2 → (RdC N2) → ((-2147483648 ≤ sSd (LM3 M) 22 (M 44 0 0) ∧ sSd (LM3 M) 22 (M 44 0 0) ≤ 2147483647) ∧ (((M 47 0 x4) + (2 * x2) < sSd (LM3 M) 22 (M 44 0 0) → (G3 E YX12_readyOf Q 5 [(0, vR 44 0), (1, vI x1), (2, vI x2), (3, vI (x3 + 0)), (4, vI (x4 + 1))] [] N2)) ∧ (sSd (LM3 M) 22 (M 44 0 0) ≤ (M 47 0 x4) + (2 * x2) → (G3 E YX12_readyOf Q 5 [(0, vR 44 0), (1, vI x1), (2, vI x2), (3, vI (x3 + 1)), (4, vI (x4 + 1))] [] N2))))))))))) ∧ (x1 ≠ (-1) → ((M 45 0 x4 ≠ x1 → (G3 E YX12_readyOf Q 5 [(0, vR 44 0), (1, vI x1), (2, vI x2), (3, vI (x3 + 0)), (4, vI (x4 + 1))] [] M)) ∧ (M 45 0 x4 = x1 → ((RdC M ∧ 0 ≤ (M 44 0 0) ∧ (M 44 0 0) ≤ 399) ∧ (∀ (N1 : M3), RM3 N1 → Em M N1 → (RdC N1) → ((¬(alw3 (LM3 M) (M 46 0 x4) (M 44 0 0)) → (G3 E YX12_readyOf Q 5 [(0, vR 44 0), (1, vI x1), (2, vI x2), (3, vI (x3 + 0)), (4, vI (x4 + 1))] [] N1)) ∧ ((alw3 (LM3 M) (M 46 0 x4) (M 44 0 0)) → ((RdC N1 ∧ (0 ≤ (2 : Int) ∧ (2 : Int) < 4) ∧ 0 ≤ (M 44 0 0) ∧ (M 44 0 0) ≤ 399) ∧ (∀ (N2 : M3), RM3 N2 → Em N1 N2 → (RdC N2) → ((-2147483648 ≤ sSd (LM3 M) 22 (M 44 0 0) ∧ sSd (LM3 M) 22 (M 44 0 0) ≤ 2147483647) ∧ (((M 47 0 x4) + (2 * x2) < sSd (LM3 M) 22 (M 44 0 0) → (G3 E YX12_readyOf Q 5 [(0, vR 44 0), (1, vI x1), (2, vI x2), (3, vI (x3 + 0)), (4, vI (x4 + 1))] [] N2)) ∧ (sSd (LM3 M) 22 (M 44 0 0) ≤ (M 47 0 x4) + (2 * x2) → (G3 E YX12_readyOf Q 5 [(0, vR 44 0), (1, vI x1), (2, vI x2), (3, vI (x3 + 1)), (4, vI (x4 + 1))] [] N2)))))))))))))))))) ∧ (20 < (M 47 0 x4) + (2 * x2) → ((¬(M 50 0 x4 = 0 ∨ M 50 0 x4 = 2) → (G3 E YX12_readyOf Q 5 [(0, vR 44 0), (1, vI x1), (2, vI x2), (3, vI (x3 + 0)), (4, vI (x4 + 1))] [] M)) ∧ ((M 50 0 x4 = 0 ∨ M 50 0 x4 = 2) → ((-2147483648 ≤ x1 ∧ x1 ≤ 2147483647) ∧ ((x1 = (-1) → ((RdC M ∧ 0 ≤ (M 44 0 0) ∧ (M 44 0 0) ≤ 399) ∧ (∀ (N1 : M3), RM3 N1 → Em M N1 → (RdC N1) → ((¬(alw3 (LM3 M) (M 46 0 x4) (M 44 0 0)) → (G3 E YX12_readyOf Q 5 [(0, vR 44 0), (1, vI x1), (2, vI x2), (3, vI (x3 + 0)), (4, vI (x4 + 1))] [] N1)) ∧ ((alw3 (LM3 M) (M 46 0 x4) (M 44 0 0)) → ((RdC N1 ∧ (0 ≤ (2 : Int) ∧ (2 : Int) < 4) ∧ 0 ≤ (M 44 0 0) ∧ (M 44 0 0) ≤ 399) ∧ (∀ (N2 : M3), RM3 N2 → Em N1 N2 → (RdC N2) → ((-2147483648 ≤ sSd (LM3 M) 22 (M 44 0 0) ∧ sSd (LM3 M) 22 (M 44 0 0) ≤ 2147483647) ∧ ((20 < sSd (LM3 M) 22 (M 44 0 0) → (G3 E YX12_readyOf Q 5 [(0, vR 44 0), (1, vI x1), (2, vI x2), (3, vI (x3 + 0)), (4, vI (x4 + 1))] [] N2)) ∧ (sSd (LM3 M) 22 (M 44 0 0) ≤ 20 → (G3 E YX12_readyOf Q 5 [(0, vR 44 0), (1, vI x1), (2, vI x2), (3, vI (x3 + 1)), (4, vI (x4 + 1))] [] N2))))))))))) ∧ (x1 ≠ (-1) → ((M 45 0 x4 ≠ x1 → (G3 E YX12_readyOf Q 5 [(0, vR 44 0), (1, vI x1), (2, vI x2), (3, vI (x3 + 0)), (4, vI (x4 + 1))] [] M)) ∧ (M 45 0 x4 = x1 → ((RdC M ∧ 0 ≤ (M 44 0 0) ∧ (M 44 0 0) ≤ 399) ∧ (∀ (N1 : M3), RM3 N1 → Em M N1 → (RdC N1) → ((¬(alw3 (LM3 M) (M 46 0 x4) (M 44 0 0)) → (G3 E YX12_readyOf Q 5 [(0, vR 44 0), (1, vI x1), (2, vI x2), (3, vI (x3 + 0)), (4, vI (x4 + 1))] [] N1)) ∧ ((alw3 (LM3 M) (M 46 0 x4) (M 44 0 0)) → ((RdC N1 ∧ (0 ≤ (2 : Int) ∧ (2 : Int) < 4) ∧ 0 ≤ (M 44 0 0) ∧ (M 44 0 0) ≤ 399) ∧ (∀ (N2 : M3), RM3 N2 → Em N1 N2 → (RdC N2) → ((-2147483648 ≤ sSd (LM3 M) 22 (M 44 0 0) ∧ sSd (LM3 M) 22 (M 44 0 0) ≤ 2147483647) ∧ ((20 < sSd (LM3 M) 22 (M 44 0 0) → (G3 E YX12_readyOf Q 5 [(0, vR 44 0), (1, vI x1), (2, vI x2), (3, vI (x3 + 0)), (4, vI (x4 + 1))] [] N2)) ∧ (sSd (LM3 M) 22 (M 44 0 0) ≤ 20 → (G3 E YX12_readyOf Q 5 [(0, vR 44 0), (1, vI x1), (2, vI x2), (3, vI (x3 + 1)), (4, vI (x4 + 1))] [] N2)))))))))))))))))))))))) :
    G3 E YX12_readyOf Q 5 [(0, vR 44 0), (1, vI x1), (2, vI x2), (3, vI x3), (4, vI x4)] [] M := by
  refine g3_rm fun hM => ?_
  refine g3_iload 4 dX12_readyOf_5 rfl (g3_aload_n 0 dX12_readyOf_7 rfl rfl (g3_getI (t := 0) dX12_readyOf_8 flX12_148 (z3 rfl) (z3 rfl) (g3_icmp_ge (tgt := 114) dX12_readyOf_11 rfl h.1 (hM 44 0 1) (fun c => ?_) (fun c => ?_))))
  · have h1 := h; have h := h1.2.1 c
    have o1 := h1.1
    exact g3_iload_n 3 dX12_readyOf_114 rfl rfl (g3_ireturn dX12_readyOf_115 rfl h)
  · have h1 := h; have h := h1.2.2 c
    have o1 := h1.1
    refine g3_aload_n 0 dX12_readyOf_14 rfl rfl (g3_getR0 (t := 47) dX12_readyOf_15 flX12_16 rfl (z3 rfl) (g3_iload 4 dX12_readyOf_18 rfl (g3_iald dX12_readyOf_20 ar_47 (z3 rfl) h.1 (g3_iconst dX12_readyOf_21 (g3_iload_n 2 dX12_readyOf_22 rfl rfl (g3_imul dX12_readyOf_23 (g3_iadd dX12_readyOf_24 (g3_istore (lv' := [(5, vI ((M 47 0 x4) + (2 * x2))), (0, vR 44 0), (1, vI x1), (2, vI x2), (3, vI x3), (4, vI x4)]) dX12_readyOf_25 (z3 rfl) rfl (g3_iload 0 dX12_readyOf_27 rfl (g3_bipush dX12_readyOf_29 rfl (g3_icmp_le (tgt := 39) dX12_readyOf_31 rfl h.2.1 (z3 rfl) (fun c => ?_) (fun c => ?_))))))))))))
    · have h1 := h; have h := h1.2.2.1 c
      have o2 := h1.1
      have o3 := h1.2.1
      refine g3_iload 0 dX12_readyOf_39 rfl (g3_istore (lv' := [(5, vI ((M 47 0 x4) + (2 * x2))), (0, vR 44 0), (1, vI x1), (2, vI x2), (3, vI x3), (4, vI x4)]) dX12_readyOf_41 (z3 rfl) rfl (g3_iload_n 4 dX12_readyOf_43 rfl rfl (g3_aload_n 1 dX12_readyOf_44 rfl rfl (g3_iload 5 dX12_readyOf_45 rfl (g3_cV1 dX12_readyOf_47 myX12_isOff mlX12_229 (z3 rfl) ob_44 (z3 rfl) (z3 rfl) (kX12_isOff o2 (g3_r1 (g3_bool_eq (tgt := 105) dX12_readyOf_50 rfl (fun c => ?_) (fun c => ?_)))))))))
      · have h1 := h; have h := h1.1 c
        refine g3_iconst dX12_readyOf_105 (g3_iadd dX12_readyOf_106 (g3_istore_n (lv' := [(3, vI (x3 + 0)), (5, vI ((M 47 0 x4) + (2 * x2))), (0, vR 44 0), (1, vI x1), (2, vI x2), (4, vI x4)]) dX12_readyOf_107 rfl (z3 rfl) rfl (g3_iinc (lv' := [(4, vI (x4 + 1)), (3, vI (x3 + 0)), (5, vI ((M 47 0 x4) + (2 * x2))), (0, vR 44 0), (1, vI x1), (2, vI x2)]) 5 dX12_readyOf_108 rfl (z3 rfl) rfl (g3_goto (tgt := 5) dX12_readyOf_111 rfl (g3_sub [3, 4, 5, 1, 0] rfl h)))))
      · have h1 := h; have h := h1.2 c
        refine g3_iload_n 2 dX12_readyOf_53 rfl rfl (g3_iconst dX12_readyOf_54 (g3_icmp_eq (tgt := 69) dX12_readyOf_55 rfl h.1 (z3 rfl) (fun c => ?_) (fun c => ?_)))
        · have h1 := h; have h := h1.2.1 c
          have o4 := h1.1
          refine g3_aload_n 1 dX12_readyOf_69 rfl rfl (g3_aload_n 1 dX12_readyOf_70 rfl rfl (g3_getR0 (t := 46) dX12_readyOf_71 flX12_13 rfl (z3 rfl) (g3_iload 5 dX12_readyOf_74 rfl (g3_iald dX12_readyOf_76 ar_46 (z3 rfl) o2 (g3_aload_n 1 dX12_readyOf_77 rfl rfl (g3_getI (t := 0) dX12_readyOf_78 flX12_151 (z3 rfl) (z3 rfl) (g3_cV2 dX12_readyOf_81 myX12_isAllowed mlX12_235 (z3 rfl) ob_44 (z3 rfl) (z3 rfl) (eX12_isAllowed Em.rf h.1 (fun N1 hN1 he1 hp1 => ?_)))))))))
          have o5 := h.1
          have h := h.2 N1 hN1 he1 hp1
          refine g3_r1 ?_
          refine g3_bool_eq (tgt := 105) dX12_readyOf_84 rfl (fun c => ?_) (fun c => ?_)
          · have h1 := h; have h := h1.1 c
            refine g3_iconst dX12_readyOf_105 (g3_iadd dX12_readyOf_106 (g3_istore_n (lv' := [(3, vI (x3 + 0)), (5, vI ((M 47 0 x4) + (2 * x2))), (0, vR 44 0), (1, vI x1), (2, vI x2), (4, vI x4)]) dX12_readyOf_107 rfl (z3 rfl) rfl (g3_iinc (lv' := [(4, vI (x4 + 1)), (3, vI (x3 + 0)), (5, vI ((M 47 0 x4) + (2 * x2))), (0, vR 44 0), (1, vI x1), (2, vI x2)]) 5 dX12_readyOf_108 rfl (z3 rfl) rfl (g3_goto (tgt := 5) dX12_readyOf_111 rfl (g3_sub [3, 4, 5, 1, 0] rfl h)))))
          · have h1 := h; have h := h1.2 c
            refine g3_iload 0 dX12_readyOf_87 rfl (g3_aload_n 1 dX12_readyOf_89 rfl rfl (g3_iconst dX12_readyOf_90 (g3_aload_n 1 dX12_readyOf_91 rfl rfl (g3_getI (t := 0) dX12_readyOf_92 flX12_151 (z3 rfl) (z3 rfl) (g3_val (he1.2 0 (by decide)) (g3_cV2 dX12_readyOf_95 myX12_lawOf mlX12_216 (z3 rfl) ob_44 (z3 rfl) (z3 rfl) (eX12_lawOf (Em.tr Em.rf he1) h.1 (fun N2 hN2 he2 hp2 => ?_))))))))
            have o6 := h.1
            have h := h.2 N2 hN2 he2 hp2
            refine g3_r1 ?_
            refine g3_icmp_lt (tgt := 105) dX12_readyOf_98 rfl o3 h.1 (fun c => ?_) (fun c => ?_)
            · have h1 := h; have h := h1.2.1 c
              have o7 := h1.1
              refine g3_iconst dX12_readyOf_105 (g3_iadd dX12_readyOf_106 (g3_istore_n (lv' := [(3, vI (x3 + 0)), (5, vI ((M 47 0 x4) + (2 * x2))), (0, vR 44 0), (1, vI x1), (2, vI x2), (4, vI x4)]) dX12_readyOf_107 rfl (z3 rfl) rfl (g3_iinc (lv' := [(4, vI (x4 + 1)), (3, vI (x3 + 0)), (5, vI ((M 47 0 x4) + (2 * x2))), (0, vR 44 0), (1, vI x1), (2, vI x2)]) 5 dX12_readyOf_108 rfl (z3 rfl) rfl (g3_goto (tgt := 5) dX12_readyOf_111 rfl (g3_sub [3, 4, 5, 1, 0] rfl h)))))
            · have h1 := h; have h := h1.2.2 c
              have o7 := h1.1
              refine g3_iconst dX12_readyOf_101 (g3_goto (tgt := 106) dX12_readyOf_102 rfl (g3_iadd dX12_readyOf_106 (g3_istore_n (lv' := [(3, vI (x3 + 1)), (5, vI ((M 47 0 x4) + (2 * x2))), (0, vR 44 0), (1, vI x1), (2, vI x2), (4, vI x4)]) dX12_readyOf_107 rfl (z3 rfl) rfl (g3_iinc (lv' := [(4, vI (x4 + 1)), (3, vI (x3 + 1)), (5, vI ((M 47 0 x4) + (2 * x2))), (0, vR 44 0), (1, vI x1), (2, vI x2)]) 5 dX12_readyOf_108 rfl (z3 rfl) rfl (g3_goto (tgt := 5) dX12_readyOf_111 rfl (g3_sub [3, 4, 5, 1, 0] rfl h))))))
        · have h1 := h; have h := h1.2.2 c
          have o4 := h1.1
          refine g3_aload_n 1 dX12_readyOf_58 rfl rfl (g3_getR0 (t := 45) dX12_readyOf_59 flX12_7 rfl (z3 rfl) (g3_iload 5 dX12_readyOf_62 rfl (g3_iald dX12_readyOf_64 ar_45 (z3 rfl) o2 (g3_iload_n 2 dX12_readyOf_65 rfl rfl (g3_icmp_ne (tgt := 105) dX12_readyOf_66 rfl (hM 45 0 x4) o4 (fun c => ?_) (fun c => ?_))))))
          · have h1 := h; have h := h1.1 c
            refine g3_iconst dX12_readyOf_105 (g3_iadd dX12_readyOf_106 (g3_istore_n (lv' := [(3, vI (x3 + 0)), (5, vI ((M 47 0 x4) + (2 * x2))), (0, vR 44 0), (1, vI x1), (2, vI x2), (4, vI x4)]) dX12_readyOf_107 rfl (z3 rfl) rfl (g3_iinc (lv' := [(4, vI (x4 + 1)), (3, vI (x3 + 0)), (5, vI ((M 47 0 x4) + (2 * x2))), (0, vR 44 0), (1, vI x1), (2, vI x2)]) 5 dX12_readyOf_108 rfl (z3 rfl) rfl (g3_goto (tgt := 5) dX12_readyOf_111 rfl (g3_sub [3, 4, 5, 1, 0] rfl h)))))
          · have h1 := h; have h := h1.2 c
            refine g3_aload_n 1 dX12_readyOf_69 rfl rfl (g3_aload_n 1 dX12_readyOf_70 rfl rfl (g3_getR0 (t := 46) dX12_readyOf_71 flX12_13 rfl (z3 rfl) (g3_iload 5 dX12_readyOf_74 rfl (g3_iald dX12_readyOf_76 ar_46 (z3 rfl) o2 (g3_aload_n 1 dX12_readyOf_77 rfl rfl (g3_getI (t := 0) dX12_readyOf_78 flX12_151 (z3 rfl) (z3 rfl) (g3_cV2 dX12_readyOf_81 myX12_isAllowed mlX12_235 (z3 rfl) ob_44 (z3 rfl) (z3 rfl) (eX12_isAllowed Em.rf h.1 (fun N1 hN1 he1 hp1 => ?_)))))))))
            have o8 := h.1
            have h := h.2 N1 hN1 he1 hp1
            refine g3_r1 ?_
            refine g3_bool_eq (tgt := 105) dX12_readyOf_84 rfl (fun c => ?_) (fun c => ?_)
            · have h1 := h; have h := h1.1 c
              refine g3_iconst dX12_readyOf_105 (g3_iadd dX12_readyOf_106 (g3_istore_n (lv' := [(3, vI (x3 + 0)), (5, vI ((M 47 0 x4) + (2 * x2))), (0, vR 44 0), (1, vI x1), (2, vI x2), (4, vI x4)]) dX12_readyOf_107 rfl (z3 rfl) rfl (g3_iinc (lv' := [(4, vI (x4 + 1)), (3, vI (x3 + 0)), (5, vI ((M 47 0 x4) + (2 * x2))), (0, vR 44 0), (1, vI x1), (2, vI x2)]) 5 dX12_readyOf_108 rfl (z3 rfl) rfl (g3_goto (tgt := 5) dX12_readyOf_111 rfl (g3_sub [3, 4, 5, 1, 0] rfl h)))))
            · have h1 := h; have h := h1.2 c
              refine g3_iload 0 dX12_readyOf_87 rfl (g3_aload_n 1 dX12_readyOf_89 rfl rfl (g3_iconst dX12_readyOf_90 (g3_aload_n 1 dX12_readyOf_91 rfl rfl (g3_getI (t := 0) dX12_readyOf_92 flX12_151 (z3 rfl) (z3 rfl) (g3_val (he1.2 0 (by decide)) (g3_cV2 dX12_readyOf_95 myX12_lawOf mlX12_216 (z3 rfl) ob_44 (z3 rfl) (z3 rfl) (eX12_lawOf (Em.tr Em.rf he1) h.1 (fun N2 hN2 he2 hp2 => ?_))))))))
              have o9 := h.1
              have h := h.2 N2 hN2 he2 hp2
              refine g3_r1 ?_
              refine g3_icmp_lt (tgt := 105) dX12_readyOf_98 rfl o3 h.1 (fun c => ?_) (fun c => ?_)
              · have h1 := h; have h := h1.2.1 c
                have o10 := h1.1
                refine g3_iconst dX12_readyOf_105 (g3_iadd dX12_readyOf_106 (g3_istore_n (lv' := [(3, vI (x3 + 0)), (5, vI ((M 47 0 x4) + (2 * x2))), (0, vR 44 0), (1, vI x1), (2, vI x2), (4, vI x4)]) dX12_readyOf_107 rfl (z3 rfl) rfl (g3_iinc (lv' := [(4, vI (x4 + 1)), (3, vI (x3 + 0)), (5, vI ((M 47 0 x4) + (2 * x2))), (0, vR 44 0), (1, vI x1), (2, vI x2)]) 5 dX12_readyOf_108 rfl (z3 rfl) rfl (g3_goto (tgt := 5) dX12_readyOf_111 rfl (g3_sub [3, 4, 5, 1, 0] rfl h)))))
              · have h1 := h; have h := h1.2.2 c
                have o10 := h1.1
                refine g3_iconst dX12_readyOf_101 (g3_goto (tgt := 106) dX12_readyOf_102 rfl (g3_iadd dX12_readyOf_106 (g3_istore_n (lv' := [(3, vI (x3 + 1)), (5, vI ((M 47 0 x4) + (2 * x2))), (0, vR 44 0), (1, vI x1), (2, vI x2), (4, vI x4)]) dX12_readyOf_107 rfl (z3 rfl) rfl (g3_iinc (lv' := [(4, vI (x4 + 1)), (3, vI (x3 + 1)), (5, vI ((M 47 0 x4) + (2 * x2))), (0, vR 44 0), (1, vI x1), (2, vI x2)]) 5 dX12_readyOf_108 rfl (z3 rfl) rfl (g3_goto (tgt := 5) dX12_readyOf_111 rfl (g3_sub [3, 4, 5, 1, 0] rfl h))))))
    · have h1 := h; have h := h1.2.2.2 c
      have o2 := h1.1
      have o3 := h1.2.1
      refine g3_bipush dX12_readyOf_34 rfl (g3_goto (tgt := 41) dX12_readyOf_36 rfl (g3_istore (lv' := [(5, vI 20), (0, vR 44 0), (1, vI x1), (2, vI x2), (3, vI x3), (4, vI x4)]) dX12_readyOf_41 (z3 rfl) rfl (g3_iload_n 4 dX12_readyOf_43 rfl rfl (g3_aload_n 1 dX12_readyOf_44 rfl rfl (g3_iload 5 dX12_readyOf_45 rfl (g3_cV1 dX12_readyOf_47 myX12_isOff mlX12_229 (z3 rfl) ob_44 (z3 rfl) (z3 rfl) (kX12_isOff o2 (g3_r1 (g3_bool_eq (tgt := 105) dX12_readyOf_50 rfl (fun c => ?_) (fun c => ?_))))))))))
      · have h1 := h; have h := h1.1 c
        refine g3_iconst dX12_readyOf_105 (g3_iadd dX12_readyOf_106 (g3_istore_n (lv' := [(3, vI (x3 + 0)), (5, vI 20), (0, vR 44 0), (1, vI x1), (2, vI x2), (4, vI x4)]) dX12_readyOf_107 rfl (z3 rfl) rfl (g3_iinc (lv' := [(4, vI (x4 + 1)), (3, vI (x3 + 0)), (5, vI 20), (0, vR 44 0), (1, vI x1), (2, vI x2)]) 5 dX12_readyOf_108 rfl (z3 rfl) rfl (g3_goto (tgt := 5) dX12_readyOf_111 rfl (g3_sub [3, 4, 5, 1, 0] rfl h)))))
      · have h1 := h; have h := h1.2 c
        refine g3_iload_n 2 dX12_readyOf_53 rfl rfl (g3_iconst dX12_readyOf_54 (g3_icmp_eq (tgt := 69) dX12_readyOf_55 rfl h.1 (z3 rfl) (fun c => ?_) (fun c => ?_)))
        · have h1 := h; have h := h1.2.1 c
          have o11 := h1.1
          refine g3_aload_n 1 dX12_readyOf_69 rfl rfl (g3_aload_n 1 dX12_readyOf_70 rfl rfl (g3_getR0 (t := 46) dX12_readyOf_71 flX12_13 rfl (z3 rfl) (g3_iload 5 dX12_readyOf_74 rfl (g3_iald dX12_readyOf_76 ar_46 (z3 rfl) o2 (g3_aload_n 1 dX12_readyOf_77 rfl rfl (g3_getI (t := 0) dX12_readyOf_78 flX12_151 (z3 rfl) (z3 rfl) (g3_cV2 dX12_readyOf_81 myX12_isAllowed mlX12_235 (z3 rfl) ob_44 (z3 rfl) (z3 rfl) (eX12_isAllowed Em.rf h.1 (fun N1 hN1 he1 hp1 => ?_)))))))))
          have o12 := h.1
          have h := h.2 N1 hN1 he1 hp1
          refine g3_r1 ?_
          refine g3_bool_eq (tgt := 105) dX12_readyOf_84 rfl (fun c => ?_) (fun c => ?_)
          · have h1 := h; have h := h1.1 c
            refine g3_iconst dX12_readyOf_105 (g3_iadd dX12_readyOf_106 (g3_istore_n (lv' := [(3, vI (x3 + 0)), (5, vI 20), (0, vR 44 0), (1, vI x1), (2, vI x2), (4, vI x4)]) dX12_readyOf_107 rfl (z3 rfl) rfl (g3_iinc (lv' := [(4, vI (x4 + 1)), (3, vI (x3 + 0)), (5, vI 20), (0, vR 44 0), (1, vI x1), (2, vI x2)]) 5 dX12_readyOf_108 rfl (z3 rfl) rfl (g3_goto (tgt := 5) dX12_readyOf_111 rfl (g3_sub [3, 4, 5, 1, 0] rfl h)))))
          · have h1 := h; have h := h1.2 c
            refine g3_iload 0 dX12_readyOf_87 rfl (g3_aload_n 1 dX12_readyOf_89 rfl rfl (g3_iconst dX12_readyOf_90 (g3_aload_n 1 dX12_readyOf_91 rfl rfl (g3_getI (t := 0) dX12_readyOf_92 flX12_151 (z3 rfl) (z3 rfl) (g3_val (he1.2 0 (by decide)) (g3_cV2 dX12_readyOf_95 myX12_lawOf mlX12_216 (z3 rfl) ob_44 (z3 rfl) (z3 rfl) (eX12_lawOf (Em.tr Em.rf he1) h.1 (fun N2 hN2 he2 hp2 => ?_))))))))
            have o13 := h.1
            have h := h.2 N2 hN2 he2 hp2
            refine g3_r1 ?_
            refine g3_icmp_lt (tgt := 105) dX12_readyOf_98 rfl (z3 rfl) h.1 (fun c => ?_) (fun c => ?_)
            · have h1 := h; have h := h1.2.1 c
              have o14 := h1.1
              refine g3_iconst dX12_readyOf_105 (g3_iadd dX12_readyOf_106 (g3_istore_n (lv' := [(3, vI (x3 + 0)), (5, vI 20), (0, vR 44 0), (1, vI x1), (2, vI x2), (4, vI x4)]) dX12_readyOf_107 rfl (z3 rfl) rfl (g3_iinc (lv' := [(4, vI (x4 + 1)), (3, vI (x3 + 0)), (5, vI 20), (0, vR 44 0), (1, vI x1), (2, vI x2)]) 5 dX12_readyOf_108 rfl (z3 rfl) rfl (g3_goto (tgt := 5) dX12_readyOf_111 rfl (g3_sub [3, 4, 5, 1, 0] rfl h)))))
            · have h1 := h; have h := h1.2.2 c
              have o14 := h1.1
              refine g3_iconst dX12_readyOf_101 (g3_goto (tgt := 106) dX12_readyOf_102 rfl (g3_iadd dX12_readyOf_106 (g3_istore_n (lv' := [(3, vI (x3 + 1)), (5, vI 20), (0, vR 44 0), (1, vI x1), (2, vI x2), (4, vI x4)]) dX12_readyOf_107 rfl (z3 rfl) rfl (g3_iinc (lv' := [(4, vI (x4 + 1)), (3, vI (x3 + 1)), (5, vI 20), (0, vR 44 0), (1, vI x1), (2, vI x2)]) 5 dX12_readyOf_108 rfl (z3 rfl) rfl (g3_goto (tgt := 5) dX12_readyOf_111 rfl (g3_sub [3, 4, 5, 1, 0] rfl h))))))
        · have h1 := h; have h := h1.2.2 c
          have o11 := h1.1
          refine g3_aload_n 1 dX12_readyOf_58 rfl rfl (g3_getR0 (t := 45) dX12_readyOf_59 flX12_7 rfl (z3 rfl) (g3_iload 5 dX12_readyOf_62 rfl (g3_iald dX12_readyOf_64 ar_45 (z3 rfl) o2 (g3_iload_n 2 dX12_readyOf_65 rfl rfl (g3_icmp_ne (tgt := 105) dX12_readyOf_66 rfl (hM 45 0 x4) o11 (fun c => ?_) (fun c => ?_))))))
          · have h1 := h; have h := h1.1 c
            refine g3_iconst dX12_readyOf_105 (g3_iadd dX12_readyOf_106 (g3_istore_n (lv' := [(3, vI (x3 + 0)), (5, vI 20), (0, vR 44 0), (1, vI x1), (2, vI x2), (4, vI x4)]) dX12_readyOf_107 rfl (z3 rfl) rfl (g3_iinc (lv' := [(4, vI (x4 + 1)), (3, vI (x3 + 0)), (5, vI 20), (0, vR 44 0), (1, vI x1), (2, vI x2)]) 5 dX12_readyOf_108 rfl (z3 rfl) rfl (g3_goto (tgt := 5) dX12_readyOf_111 rfl (g3_sub [3, 4, 5, 1, 0] rfl h)))))
          · have h1 := h; have h := h1.2 c
            refine g3_aload_n 1 dX12_readyOf_69 rfl rfl (g3_aload_n 1 dX12_readyOf_70 rfl rfl (g3_getR0 (t := 46) dX12_readyOf_71 flX12_13 rfl (z3 rfl) (g3_iload 5 dX12_readyOf_74 rfl (g3_iald dX12_readyOf_76 ar_46 (z3 rfl) o2 (g3_aload_n 1 dX12_readyOf_77 rfl rfl (g3_getI (t := 0) dX12_readyOf_78 flX12_151 (z3 rfl) (z3 rfl) (g3_cV2 dX12_readyOf_81 myX12_isAllowed mlX12_235 (z3 rfl) ob_44 (z3 rfl) (z3 rfl) (eX12_isAllowed Em.rf h.1 (fun N1 hN1 he1 hp1 => ?_)))))))))
            have o15 := h.1
            have h := h.2 N1 hN1 he1 hp1
            refine g3_r1 ?_
            refine g3_bool_eq (tgt := 105) dX12_readyOf_84 rfl (fun c => ?_) (fun c => ?_)
            · have h1 := h; have h := h1.1 c
              refine g3_iconst dX12_readyOf_105 (g3_iadd dX12_readyOf_106 (g3_istore_n (lv' := [(3, vI (x3 + 0)), (5, vI 20), (0, vR 44 0), (1, vI x1), (2, vI x2), (4, vI x4)]) dX12_readyOf_107 rfl (z3 rfl) rfl (g3_iinc (lv' := [(4, vI (x4 + 1)), (3, vI (x3 + 0)), (5, vI 20), (0, vR 44 0), (1, vI x1), (2, vI x2)]) 5 dX12_readyOf_108 rfl (z3 rfl) rfl (g3_goto (tgt := 5) dX12_readyOf_111 rfl (g3_sub [3, 4, 5, 1, 0] rfl h)))))
            · have h1 := h; have h := h1.2 c
              refine g3_iload 0 dX12_readyOf_87 rfl (g3_aload_n 1 dX12_readyOf_89 rfl rfl (g3_iconst dX12_readyOf_90 (g3_aload_n 1 dX12_readyOf_91 rfl rfl (g3_getI (t := 0) dX12_readyOf_92 flX12_151 (z3 rfl) (z3 rfl) (g3_val (he1.2 0 (by decide)) (g3_cV2 dX12_readyOf_95 myX12_lawOf mlX12_216 (z3 rfl) ob_44 (z3 rfl) (z3 rfl) (eX12_lawOf (Em.tr Em.rf he1) h.1 (fun N2 hN2 he2 hp2 => ?_))))))))
              have o16 := h.1
              have h := h.2 N2 hN2 he2 hp2
              refine g3_r1 ?_
              refine g3_icmp_lt (tgt := 105) dX12_readyOf_98 rfl (z3 rfl) h.1 (fun c => ?_) (fun c => ?_)
              · have h1 := h; have h := h1.2.1 c
                have o17 := h1.1
                refine g3_iconst dX12_readyOf_105 (g3_iadd dX12_readyOf_106 (g3_istore_n (lv' := [(3, vI (x3 + 0)), (5, vI 20), (0, vR 44 0), (1, vI x1), (2, vI x2), (4, vI x4)]) dX12_readyOf_107 rfl (z3 rfl) rfl (g3_iinc (lv' := [(4, vI (x4 + 1)), (3, vI (x3 + 0)), (5, vI 20), (0, vR 44 0), (1, vI x1), (2, vI x2)]) 5 dX12_readyOf_108 rfl (z3 rfl) rfl (g3_goto (tgt := 5) dX12_readyOf_111 rfl (g3_sub [3, 4, 5, 1, 0] rfl h)))))
              · have h1 := h; have h := h1.2.2 c
                have o17 := h1.1
                refine g3_iconst dX12_readyOf_101 (g3_goto (tgt := 106) dX12_readyOf_102 rfl (g3_iadd dX12_readyOf_106 (g3_istore_n (lv' := [(3, vI (x3 + 1)), (5, vI 20), (0, vR 44 0), (1, vI x1), (2, vI x2), (4, vI x4)]) dX12_readyOf_107 rfl (z3 rfl) rfl (g3_iinc (lv' := [(4, vI (x4 + 1)), (3, vI (x3 + 1)), (5, vI 20), (0, vR 44 0), (1, vI x1), (2, vI x2)]) 5 dX12_readyOf_108 rfl (z3 rfl) rfl (g3_goto (tgt := 5) dX12_readyOf_111 rfl (g3_sub [3, 4, 5, 1, 0] rfl h))))))
