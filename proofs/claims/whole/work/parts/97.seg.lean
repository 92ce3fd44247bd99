set_option maxRecDepth 20000 in
set_option maxHeartbeats 200000 in
theorem sX5_give {E : E3} {Q : Q3} {M : M3} {x1 : Int}
    (h : G3 E YX5_give Q 4 [(0, vR 26 0), (1, vI x1), (2, vI 0), (3, vI 0)] [] M) :
    C3 E YX5_give [vR 26 0, vI x1] M Q := by
  refine c3_in rfl rfl (z3 rfl) (g3_rm fun hM => ?_)
  refine g3_iconst dX5_give_0 (g3_istore_n (lv' := [(2, vI 0), (0, vR 26 0), (1, vI x1)]) dX5_give_1 rfl (z3 rfl) rfl (g3_iconst dX5_give_2 (g3_istore_n (lv' := [(3, vI 0), (2, vI 0), (0, vR 26 0), (1, vI x1)]) dX5_give_3 rfl (z3 rfl) rfl (g3_sub [2, 3, 1, 0] rfl h))))
set_option maxRecDepth 20000 in
set_option maxHeartbeats 200000 in
theorem sX5_give_4 {E : E3} {Q : Q3} {M : M3} {x1 : Int} {x2 : Int} {x3 : Int}
    (h : (-2147483648 ≤ x3 ∧ x3 ≤ 2147483647) ∧ ((M 10 0 0 ≤ x3 → (Q (some (vI x2)) M)) ∧ (x3 < M 10 0 0 → ((0 ≤ x3 ∧ x3 < 48) ∧ ((-2147483648 ≤ (M 13 x3 2) + (2 * 1) ∧ (M 13 x3 2) + (2 * 1) ≤ 2147483647) ∧ ((-2147483648 ≤ x1 ∧ x1 ≤ 2147483647) ∧ ((M 13 x3 0 ≠ x1 → (G3 E YX5_give Q 4 [(0, vR 26 0), (1, vI x1), (2, vI x2), (3, vI (x3 + 1))] [] M)) ∧ (M 13 x3 0 = x1 → ((¬(M 13 x3 5 = 0 ∨ M 13 x3 5 = 2) → (G3 E YX5_give Q 4 [(0, vR 26 0), (1, vI x1), (2, vI x2), (3, vI (x3 + 1))] [] M)) ∧ ((M 13 x3 5 = 0 ∨ M 13 x3 5 = 2) → ((LwC M ∧ (0 ≤ (21 : Int) ∧ (21 : Int) < 24) ∧ 0 ≤ (M 2 0 0) ∧ (M 2 0 0) ≤ 399) ∧ (∀ (N1 : M3), RM3 N1 → Ec M N1 → (LwC N1) → ((and3 (shr3 (sSd (LL3 M) 21 (M 2 0 0)) (M 13 x3 1)) 1 = 0 → (G3 E YX5_give Q 4 [(0, vR 26 0), (1, vI x1), (2, vI x2), (3, vI (x3 + 1))] [] N1)) ∧ (and3 (shr3 (sSd (LL3 M) 21 (M 2 0 0)) (M 13 x3 1)) 1 ≠ 0 → ((-2147483648 ≤ min 20 ((M 13 x3 2) + (2 * 1)) ∧ min 20 ((M 13 x3 2) + (2 * 1)) ≤ 2147483647) ∧ ((min 20 ((M 13 x3 2) + (2 * 1)) ≤ M 13 x3 2 → (G3 E YX5_give Q 4 [(0, vR 26 0), (1, vI x1), (2, vI x2), (3, vI (x3 + 1))] [] N1)) ∧ (M 13 x3 2 < min 20 ((M 13 x3 2) + (2 * 1)) → (G3 E YX5_give Q 4 [(0, vR 26 0), (1, vI x1), (2, vI (x2 + 1)), (3, vI (x3 + 1))] [] (up3 N1 13 x3 2 (min 20 ((M 13 x3 2) + (2 * 1)))))))))))))))))))))) :
    G3 E YX5_give Q 4 [(0, vR 26 0), (1, vI x1), (2, vI x2), (3, vI x3)] [] M := by
  refine g3_rm fun hM => ?_
  refine g3_iload_n 3 dX5_give_4 rfl rfl (g3_aload_n 0 dX5_give_5 rfl rfl (g3_getR0 (t := 10) dX5_give_6 flX5_23 rfl (z3 rfl) (g3_getI (t := 0) dX5_give_9 flX5_31 (z3 rfl) (z3 rfl) (g3_icmp_ge (tgt := 98) dX5_give_12 rfl h.1 (hM 10 0 0) (fun c => ?_) (fun c => ?_)))))
  · have h1 := h; have h := h1.2.1 c
    have o1 := h1.1
    exact g3_iload_n 2 dX5_give_98 rfl rfl (g3_ireturn dX5_give_99 rfl h)
  · have h1 := h; have h := h1.2.2 c
    have o1 := h1.1
    refine g3_aload_n 0 dX5_give_15 rfl rfl (g3_getR0 (t := 10) dX5_give_16 flX5_23 rfl (z3 rfl) (g3_iload_n 3 dX5_give_19 rfl rfl (g3_cV1 dX5_give_20 myX0_at mlX5_37 (z3 rfl) ob_10 (z3 rfl) (z3 rfl) (c3_in rfl rfl (z3 rfl) (g3_aload_n 0 dX0_at_0 rfl rfl (g3_getR0 (t := 11) dX0_at_1 flX0_13 rfl (z3 rfl) (g3_iload_n 1 dX0_at_4 rfl rfl (g3_aald dX0_at_5 aq_11 h.1 (g3_areturn dX0_at_6 rfl (g3_r1 (g3_astore (lv' := [(4, vR 13 x3), (0, vR 26 0), (1, vI x1), (2, vI x2), (3, vI x3)]) dX5_give_23 (z3 rfl) rfl (g3_aload 0 dX5_give_25 rfl (g3_iconst dX5_give_27 (g3_cV1 dX5_give_28 myX8_schoolingAfter mlX5_41 (z3 rfl) ob_13 h.1 (z3 rfl) (c3_in rfl rfl (z3 rfl) (g3_bipush dX8_schoolingAfter_0 rfl (g3_aload_n 0 dX8_schoolingAfter_2 rfl rfl (g3_getI (t := 0) dX8_schoolingAfter_3 flX8_22 (z3 rfl) h.1 (g3_iconst dX8_schoolingAfter_6 (g3_iload_n 1 dX8_schoolingAfter_7 rfl rfl (g3_imul dX8_schoolingAfter_8 (g3_iadd dX8_schoolingAfter_9 (g3_min dX8_schoolingAfter_10 mlX8_25 (z3 rfl) (z3 rfl) (z3 rfl) h.2.1 (g3_ireturn dX8_schoolingAfter_13 rfl (g3_r1 (g3_istore (lv' := [(5, vI (min 20 ((M 13 x3 2) + (2 * 1)))), (4, vR 13 x3), (0, vR 26 0), (1, vI x1), (2, vI x2), (3, vI x3)]) dX5_give_31 (z3 rfl) rfl (g3_aload 1 dX5_give_33 rfl (g3_getI (t := 0) dX5_give_35 flX5_47 (z3 rfl) h.1 (g3_iload_n 3 dX5_give_38 rfl rfl (g3_icmp_ne (tgt := 92) dX5_give_39 rfl (hM 13 x3 0) h.2.2.1 (fun c => ?_) (fun c => ?_)))))))))))))))))))))))))))))))
    · have h1 := h; have h := h1.2.2.2.1 c
      have o2 := h1.1
      have o3 := h1.2.1
      have o4 := h1.2.2.1
      refine g3_iinc (lv' := [(3, vI (x3 + 1)), (5, vI (min 20 ((M 13 x3 2) + (2 * 1)))), (4, vR 13 x3), (0, vR 26 0), (1, vI x1), (2, vI x2)]) 5 dX5_give_92 rfl (z3 rfl) rfl (g3_goto (tgt := 4) dX5_give_95 rfl (g3_sub [3, 4, 5, 0] rfl h))
    · have h1 := h; have h := h1.2.2.2.2 c
      have o2 := h1.1
      have o3 := h1.2.1
      have o4 := h1.2.2.1
      refine g3_aload 1 dX5_give_42 rfl (g3_cV0 dX5_give_44 myX8_waits mlX5_50 (z3 rfl) ob_13 o2 (z3 rfl) (kX8_waits o2 (g3_r1 (g3_bool_eq (tgt := 92) dX5_give_47 rfl (fun c => ?_) (fun c => ?_)))))
      · have h1 := h; have h := h1.1 c
        refine g3_iinc (lv' := [(3, vI (x3 + 1)), (5, vI (min 20 ((M 13 x3 2) + (2 * 1)))), (4, vR 13 x3), (0, vR 26 0), (1, vI x1), (2, vI x2)]) 5 dX5_give_92 rfl (z3 rfl) rfl (g3_goto (tgt := 4) dX5_give_95 rfl (g3_sub [3, 4, 5, 0] rfl h))
      · have h1 := h; have h := h1.2 c
        refine g3_aload_n 2 dX5_give_50 rfl rfl (g3_getR0 (t := 3) dX5_give_51 flX5_19 rfl (z3 rfl) (g3_aload 1 dX5_give_54 rfl (g3_getI (t := 0) dX5_give_56 flX5_54 (z3 rfl) o2 (g3_aload_n 2 dX5_give_59 rfl rfl (g3_getR0 (t := 2) dX5_give_60 flX5_27 rfl (z3 rfl) (g3_getI (t := 0) dX5_give_63 flX5_57 (z3 rfl) (z3 rfl) (g3_cV2 dX5_give_66 myX4_allows mlX5_62 (z3 rfl) ob_3 (z3 rfl) (z3 rfl) (c3_in rfl rfl (z3 rfl) (g3_aload_n 0 dX4_allows_0 rfl rfl (g3_bipush dX4_allows_1 rfl (g3_iload_n 2 dX4_allows_3 rfl rfl (g3_cV2 dX4_allows_4 myX4_saidOf mlX4_44 (z3 rfl) ob_3 (z3 rfl) (z3 rfl) (eX4_saidOf Ec.rf h.1 (fun N1 hN1 he1 hp1 => ?_))))))))))))))
        have o5 := h.1
        have h := h.2 N1 hN1 he1 hp1
        refine g3_r1 ?_
        refine g3_iload_n 1 dX4_allows_7 rfl rfl (g3_ishr dX4_allows_8 (g3_iconst dX4_allows_9 (g3_iand dX4_allows_10 (g3_if_eq (tgt := 18) dX4_allows_11 rfl (t3_tr _) (fun c => ?_) (fun c => ?_)))))
        · have h1 := h; have h := h1.1 c
          refine g3_iconst dX4_allows_18 (g3_zreturn dX4_allows_19 rfl (Or.inl rfl) (g3_r1 (g3_if_eq_T (tgt := 92) dX5_give_69 rfl (z3 rfl) (g3_iinc (lv' := [(3, vI (x3 + 1)), (5, vI (min 20 ((M 13 x3 2) + (2 * 1)))), (4, vR 13 x3), (0, vR 26 0), (1, vI x1), (2, vI x2)]) 5 dX5_give_92 rfl (z3 rfl) rfl (g3_goto (tgt := 4) dX5_give_95 rfl (g3_sub [3, 4, 5, 0] rfl h))))))
        · have h1 := h; have h := h1.2 c
          refine g3_iconst dX4_allows_14 (g3_goto (tgt := 19) dX4_allows_15 rfl (g3_zreturn dX4_allows_19 rfl (Or.inr rfl) (g3_r1 (g3_if_eq_F (tgt := 92) dX5_give_69 rfl (z3 rfl) (g3_iload 0 dX5_give_72 rfl (g3_aload 1 dX5_give_74 rfl (g3_getI (t := 0) dX5_give_76 flX5_68 (z3 rfl) o2 (g3_val (cg3 (he1.1 13 (by decide)) _ _) (g3_icmp_le (tgt := 92) dX5_give_79 rfl h.1 (hM 13 x3 2) (fun c => ?_) (fun c => ?_))))))))))
          · have h1 := h; have h := h1.2.1 c
            have o6 := h1.1
            refine g3_iinc (lv' := [(3, vI (x3 + 1)), (5, vI (min 20 ((M 13 x3 2) + (2 * 1)))), (4, vR 13 x3), (0, vR 26 0), (1, vI x1), (2, vI x2)]) 5 dX5_give_92 rfl (z3 rfl) rfl (g3_goto (tgt := 4) dX5_give_95 rfl (g3_sub [3, 4, 5, 0] rfl h))
          · have h1 := h; have h := h1.2.2 c
            have o6 := h1.1
            refine g3_aload 1 dX5_give_82 rfl (g3_iload 0 dX5_give_84 rfl (g3_put dX5_give_86 fpX5_68 (Or.inl rfl) o2 o6 (g3_iinc (lv' := [(2, vI (x2 + 1)), (5, vI (min 20 ((M 13 x3 2) + (2 * 1)))), (4, vR 13 x3), (0, vR 26 0), (1, vI x1), (3, vI x3)]) 4 dX5_give_89 rfl (z3 rfl) rfl (g3_iinc (lv' := [(3, vI (x3 + 1)), (2, vI (x2 + 1)), (5, vI (min 20 ((M 13 x3 2) + (2 * 1)))), (4, vR 13 x3), (0, vR 26 0), (1, vI x1)]) 5 dX5_give_92 rfl (z3 rfl) rfl (g3_goto (tgt := 4) dX5_give_95 rfl (g3_sub [4, 5, 1, 0] rfl h))))))
set_option maxRecDepth 20000 in
set_option maxHeartbeats 200000 in
theorem sX5_readyIn {E : E3} {Q : Q3} {M : M3} {x1 : Int}
    (h : G3 E YX5_readyIn Q 4 [(0, vR 26 0), (1, vI x1), (2, vI 0), (3, vI 0)] [] M) :
    C3 E YX5_readyIn [vR 26 0, vI x1] M Q := by
  refine c3_in rfl rfl (z3 rfl) (g3_rm fun hM => ?_)
  refine g3_iconst dX5_readyIn_0 (g3_istore_n (lv' := [(2, vI 0), (0, vR 26 0), (1, vI x1)]) dX5_readyIn_1 rfl (z3 rfl) rfl (g3_iconst dX5_readyIn_2 (g3_istore_n (lv' := [(3, vI 0), (2, vI 0), (0, vR 26 0), (1, vI x1)]) dX5_readyIn_3 rfl (z3 rfl) rfl (g3_sub [2, 3, 1, 0] rfl h))))
set_option maxRecDepth 20000 in
set_option maxHeartbeats 200000 in
theorem sX5_readyIn_4 {E : E3} {Q : Q3} {M : M3} {x1 : Int} {x2 : Int} {x3 : Int}
    (h : (-2147483648 ≤ x3 ∧ x3 ≤ 2147483647) ∧ ((M 10 0 0 ≤ x3 → (Q (some (vI x2)) M)) ∧ (x3 < M 10 0 0 → ((0 ≤ x3 ∧ x3 < 48) ∧ ((¬(M 13 x3 5 = 0 ∨ M 13 x3 5 = 2) → (G3 E YX5_readyIn Q 4 [(0, vR 26 0), (1, vI x1), (2, vI x2), (3, vI (x3 + 1))] [] M)) ∧ ((M 13 x3 5 = 0 ∨ M 13 x3 5 = 2) → ((-2147483648 ≤ x1 ∧ x1 ≤ 2147483647) ∧ ((x1 = (-1) → ((LwC M ∧ (0 ≤ (21 : Int) ∧ (21 : Int) < 24) ∧ 0 ≤ (M 2 0 0) ∧ (M 2 0 0) ≤ 399) ∧ (∀ (N1 : M3), RM3 N1 → Ec M N1 → (LwC N1) → ((and3 (shr3 (sSd (LL3 M) 21 (M 2 0 0)) (M 13 x3 1)) 1 = 0 → (G3 E YX5_readyIn Q 4 [(0, vR 26 0), (1, vI x1), (2, vI x2), (3, vI (x3 + 1))] [] N1)) ∧ (and3 (shr3 (sSd (LL3 M) 21 (M 2 0 0)) (M 13 x3 1)) 1 ≠ 0 → ((LwC N1 ∧ (0 ≤ (22 : Int) ∧ (22 : Int) < 24) ∧ 0 ≤ (M 2 0 0) ∧ (M 2 0 0) ≤ 399) ∧ (∀ (N2 : M3), RM3 N2 → Ec N1 N2 → (LwC N2) → ((-2147483648 ≤ sSd (LL3 M) 22 (M 2 0 0) ∧ sSd (LL3 M) 22 (M 2 0 0) ≤ 2147483647) ∧ ((M 13 x3 2 < sSd (LL3 M) 22 (M 2 0 0) → (G3 E YX5_readyIn Q 4 [(0, vR 26 0), (1, vI x1), (2, vI x2), (3, vI (x3 + 1))] [] N2)) ∧ (sSd (LL3 M) 22 (M 2 0 0) ≤ M 13 x3 2 → (G3 E YX5_readyIn Q 4 [(0, vR 26 0), (1, vI x1), (2, vI (x2 + 1)), (3, vI (x3 + 1))] [] N2))))))))))) ∧ (x1 ≠ (-1) → ((M 13 x3 0 ≠ x1 → (G3 E YX5_readyIn Q 4 [(0, vR 26 0), (1, vI x1), (2, vI x2), (3, vI (x3 + 1))] [] M)) ∧ (M 13 x3 0 = x1 → ((LwC M ∧ (0 ≤ (21 : Int) ∧ (21 : Int) < 24) ∧ 0 ≤ (M 2 0 0) ∧ (M 2 0 0) ≤ 399) ∧ (∀ (N1 : M3), RM3 N1 → Ec M N1 → (LwC N1) → ((and3 (shr3 (sSd (LL3 M) 21 (M 2 0 0)) (M 13 x3 1)) 1 = 0 → (G3 E YX5_readyIn Q 4 [(0, vR 26 0), (1, vI x1), (2, vI x2), (3, vI (x3 + 1))] [] N1)) ∧ (and3 (shr3 (sSd (LL3 M) 21 (M 2 0 0)) (M 13 x3 1)) 1 ≠ 0 → ((LwC N1 ∧ (0 ≤ (22 : Int) ∧ (22 : Int) < 24) ∧ 0 ≤ (M 2 0 0) ∧ (M 2 0 0) ≤ 399) ∧ (∀ (N2 : M3), RM3 N2 → Ec N1 N2 → (LwC N2) → ((-2147483648 ≤ sSd (LL3 M) 22 (M 2 0 0) ∧ sSd (LL3 M) 22 (M 2 0 0) ≤ 2147483647) ∧ ((M 13 x3 2 < sSd (LL3 M) 22 (M 2 0 0) → (G3 E YX5_readyIn Q 4 [(0, vR 26 0), (1, vI x1), (2, vI x2), (3, vI (x3 + 1))] [] N2)) ∧ (sSd (LL3 M) 22 (M 2 0 0) ≤ M 13 x3 2 → (G3 E YX5_readyIn Q 4 [(0, vR 26 0), (1, vI x1), (2, vI (x2 + 1)), (3, vI (x3 + 1))] [] N2))))))))))))))))))))) :
    G3 E YX5_readyIn Q 4 [(0, vR 26 0), (1, vI x1), (2, vI x2), (3, vI x3)] [] M := by
  refine g3_rm fun hM => ?_
  refine g3_iload_n 3 dX5_readyIn_4 rfl rfl (g3_aload_n 0 dX5_readyIn_5 rfl rfl (g3_getR0 (t := 10) dX5_readyIn_6 flX5_23 rfl (z3 rfl) (g3_getI (t := 0) dX5_readyIn_9 flX5_31 (z3 rfl) (z3 rfl) (g3_icmp_ge (tgt := 83) dX5_readyIn_12 rfl h.1 (hM 10 0 0) (fun c => ?_) (fun c => ?_)))))
  · have h1 := h; have h := h1.2.1 c
    have o1 := h1.1
    exact g3_iload_n 2 dX5_readyIn_83 rfl rfl (g3_ireturn dX5_readyIn_84 rfl h)
  · have h1 := h; have h := h1.2.2 c
    have o1 := h1.1
    refine g3_aload_n 0 dX5_readyIn_15 rfl rfl (g3_getR0 (t := 10) dX5_readyIn_16 flX5_23 rfl (z3 rfl) (g3_iload_n 3 dX5_readyIn_19 rfl rfl (g3_cV1 dX5_readyIn_20 myX0_at mlX5_37 (z3 rfl) ob_10 (z3 rfl) (z3 rfl) (c3_in rfl rfl (z3 rfl) (g3_aload_n 0 dX0_at_0 rfl rfl (g3_getR0 (t := 11) dX0_at_1 flX0_13 rfl (z3 rfl) (g3_iload_n 1 dX0_at_4 rfl rfl (g3_aald dX0_at_5 aq_11 h.1 (g3_areturn dX0_at_6 rfl (g3_r1 (g3_astore (lv' := [(4, vR 13 x3), (0, vR 26 0), (1, vI x1), (2, vI x2), (3, vI x3)]) dX5_readyIn_23 (z3 rfl) rfl (g3_aload 0 dX5_readyIn_25 rfl (g3_cV0 dX5_readyIn_27 myX8_waits mlX5_50 (z3 rfl) ob_13 h.1 (z3 rfl) (kX8_waits h.1 (g3_r1 (g3_bool_eq (tgt := 77) dX5_readyIn_30 rfl (fun c => ?_) (fun c => ?_)))))))))))))))))
    · have h1 := h; have h := h1.2.1 c
      have o2 := h1.1
      refine g3_iinc (lv' := [(3, vI (x3 + 1)), (4, vR 13 x3), (0, vR 26 0), (1, vI x1), (2, vI x2)]) 4 dX5_readyIn_77 rfl (z3 rfl) rfl (g3_goto (tgt := 4) dX5_readyIn_80 rfl (g3_sub [2, 3, 4, 0] rfl h))
    · have h1 := h; have h := h1.2.2 c
      have o2 := h1.1
      refine g3_iload_n 2 dX5_readyIn_33 rfl rfl (g3_iconst dX5_readyIn_34 (g3_icmp_eq (tgt := 47) dX5_readyIn_35 rfl h.1 (z3 rfl) (fun c => ?_) (fun c => ?_)))
      · have h1 := h; have h := h1.2.1 c
        have o3 := h1.1
        refine g3_aload_n 1 dX5_readyIn_47 rfl rfl (g3_getR0 (t := 3) dX5_readyIn_48 flX5_19 rfl (z3 rfl) (g3_aload 0 dX5_readyIn_51 rfl (g3_getI (t := 0) dX5_readyIn_53 flX5_54 (z3 rfl) o2 (g3_aload 0 dX5_readyIn_56 rfl (g3_getI (t := 0) dX5_readyIn_58 flX5_68 (z3 rfl) o2 (g3_aload_n 1 dX5_readyIn_61 rfl rfl (g3_getR0 (t := 2) dX5_readyIn_62 flX5_27 rfl (z3 rfl) (g3_getI (t := 0) dX5_readyIn_65 flX5_57 (z3 rfl) (z3 rfl) (g3_cV3 dX5_readyIn_68 myX4_makesReady mlX5_71 (z3 rfl) ob_3 (z3 rfl) (z3 rfl) (c3_in rfl rfl (z3 rfl) (g3_aload_n 0 dX4_makesReady_0 rfl rfl (g3_iload_n 1 dX4_makesReady_1 rfl rfl (g3_iload_n 3 dX4_makesReady_2 rfl rfl (g3_cV2 dX4_makesReady_3 myX4_allows mlX4_48 (z3 rfl) ob_3 (z3 rfl) (z3 rfl) (c3_in rfl rfl (z3 rfl) (g3_aload_n 0 dX4_allows_0 rfl rfl (g3_bipush dX4_allows_1 rfl (g3_iload_n 2 dX4_allows_3 rfl rfl (g3_cV2 dX4_allows_4 myX4_saidOf mlX4_44 (z3 rfl) ob_3 (z3 rfl) (z3 rfl) (eX4_saidOf Ec.rf h.1 (fun N1 hN1 he1 hp1 => ?_)))))))))))))))))))))
        have o4 := h.1
        have h := h.2 N1 hN1 he1 hp1
        refine g3_r1 ?_
        refine g3_iload_n 1 dX4_allows_7 rfl rfl (g3_ishr dX4_allows_8 (g3_iconst dX4_allows_9 (g3_iand dX4_allows_10 (g3_if_eq (tgt := 18) dX4_allows_11 rfl (t3_tr _) (fun c => ?_) (fun c => ?_)))))
        · have h1 := h; have h := h1.1 c
          refine g3_iconst dX4_allows_18 (g3_zreturn dX4_allows_19 rfl (Or.inl rfl) (g3_r1 (g3_if_eq_T (tgt := 24) dX4_makesReady_6 rfl (z3 rfl) (g3_iconst dX4_makesReady_24 (g3_zreturn dX4_makesReady_25 rfl (Or.inl rfl) (g3_r1 (g3_if_eq_T (tgt := 77) dX5_readyIn_71 rfl (z3 rfl) (g3_iinc (lv' := [(3, vI (x3 + 1)), (4, vR 13 x3), (0, vR 26 0), (1, vI x1), (2, vI x2)]) 4 dX5_readyIn_77 rfl (z3 rfl) rfl (g3_goto (tgt := 4) dX5_readyIn_80 rfl (g3_sub [2, 3, 4, 0] rfl h))))))))))
        · have h1 := h; have h := h1.2 c
          refine g3_iconst dX4_allows_14 (g3_goto (tgt := 19) dX4_allows_15 rfl (g3_zreturn dX4_allows_19 rfl (Or.inr rfl) (g3_r1 (g3_if_eq_F (tgt := 24) dX4_makesReady_6 rfl (z3 rfl) (g3_iload_n 2 dX4_makesReady_9 rfl rfl (g3_aload_n 0 dX4_makesReady_10 rfl rfl (g3_bipush dX4_makesReady_11 rfl (g3_iload_n 3 dX4_makesReady_13 rfl rfl (g3_cV2 dX4_makesReady_14 myX4_saidOf mlX4_44 (z3 rfl) ob_3 (z3 rfl) (z3 rfl) (eX4_saidOf (Ec.tr Ec.rf he1) h.1 (fun N2 hN2 he2 hp2 => ?_)))))))))))
          have o5 := h.1
          have h := h.2 N2 hN2 he2 hp2
          refine g3_r1 ?_
          refine g3_icmp_lt (tgt := 24) dX4_makesReady_17 rfl (hM 13 x3 2) h.1 (fun c => ?_) (fun c => ?_)
          · have h1 := h; have h := h1.2.1 c
            have o6 := h1.1
            refine g3_iconst dX4_makesReady_24 (g3_zreturn dX4_makesReady_25 rfl (Or.inl rfl) (g3_r1 (g3_if_eq_T (tgt := 77) dX5_readyIn_71 rfl (z3 rfl) (g3_iinc (lv' := [(3, vI (x3 + 1)), (4, vR 13 x3), (0, vR 26 0), (1, vI x1), (2, vI x2)]) 4 dX5_readyIn_77 rfl (z3 rfl) rfl (g3_goto (tgt := 4) dX5_readyIn_80 rfl (g3_sub [2, 3, 4, 0] rfl h))))))
          · have h1 := h; have h := h1.2.2 c
            have o6 := h1.1
            refine g3_iconst dX4_makesReady_20 (g3_goto (tgt := 25) dX4_makesReady_21 rfl (g3_zreturn dX4_makesReady_25 rfl (Or.inr rfl) (g3_r1 (g3_if_eq_F (tgt := 77) dX5_readyIn_71 rfl (z3 rfl) (g3_iinc (lv' := [(2, vI (x2 + 1)), (4, vR 13 x3), (0, vR 26 0), (1, vI x1), (3, vI x3)]) 3 dX5_readyIn_74 rfl (z3 rfl) rfl (g3_iinc (lv' := [(3, vI (x3 + 1)), (2, vI (x2 + 1)), (4, vR 13 x3), (0, vR 26 0), (1, vI x1)]) 4 dX5_readyIn_77 rfl (z3 rfl) rfl (g3_goto (tgt := 4) dX5_readyIn_80 rfl (g3_sub [3, 4, 1, 0] rfl h))))))))
      · have h1 := h; have h := h1.2.2 c
        have o3 := h1.1
        refine g3_aload 0 dX5_readyIn_38 rfl (g3_getI (t := 0) dX5_readyIn_40 flX5_47 (z3 rfl) o2 (g3_iload_n 2 dX5_readyIn_43 rfl rfl (g3_icmp_ne (tgt := 77) dX5_readyIn_44 rfl (hM 13 x3 0) o3 (fun c => ?_) (fun c => ?_))))
        · have h1 := h; have h := h1.1 c
          refine g3_iinc (lv' := [(3, vI (x3 + 1)), (4, vR 13 x3), (0, vR 26 0), (1, vI x1), (2, vI x2)]) 4 dX5_readyIn_77 rfl (z3 rfl) rfl (g3_goto (tgt := 4) dX5_readyIn_80 rfl (g3_sub [2, 3, 4, 0] rfl h))
        · have h1 := h; have h := h1.2 c
          refine g3_aload_n 1 dX5_readyIn_47 rfl rfl (g3_getR0 (t := 3) dX5_readyIn_48 flX5_19 rfl (z3 rfl) (g3_aload 0 dX5_readyIn_51 rfl (g3_getI (t := 0) dX5_readyIn_53 flX5_54 (z3 rfl) o2 (g3_aload 0 dX5_readyIn_56 rfl (g3_getI (t := 0) dX5_readyIn_58 flX5_68 (z3 rfl) o2 (g3_aload_n 1 dX5_readyIn_61 rfl rfl (g3_getR0 (t := 2) dX5_readyIn_62 flX5_27 rfl (z3 rfl) (g3_getI (t := 0) dX5_readyIn_65 flX5_57 (z3 rfl) (z3 rfl) (g3_cV3 dX5_readyIn_68 myX4_makesReady mlX5_71 (z3 rfl) ob_3 (z3 rfl) (z3 rfl) (c3_in rfl rfl (z3 rfl) (g3_aload_n 0 dX4_makesReady_0 rfl rfl (g3_iload_n 1 dX4_makesReady_1 rfl rfl (g3_iload_n 3 dX4_makesReady_2 rfl rfl (g3_cV2 dX4_makesReady_3 myX4_allows mlX4_48 (z3 rfl) ob_3 (z3 rfl) (z3 rfl) (c3_in rfl rfl (z3 rfl) (g3_aload_n 0 dX4_allows_0 rfl rfl (g3_bipush dX4_allows_1 rfl (g3_iload_n 2 dX4_allows_3 rfl rfl (g3_cV2 dX4_allows_4 myX4_saidOf mlX4_44 (z3 rfl) ob_3 (z3 rfl) (z3 rfl) (eX4_saidOf Ec.rf h.1 (fun N1 hN1 he1 hp1 => ?_)))))))))))))))))))))
          have o7 := h.1
          have h := h.2 N1 hN1 he1 hp1
          refine g3_r1 ?_
          refine g3_iload_n 1 dX4_allows_7 rfl rfl (g3_ishr dX4_allows_8 (g3_iconst dX4_allows_9 (g3_iand dX4_allows_10 (g3_if_eq (tgt := 18) dX4_allows_11 rfl (t3_tr _) (fun c => ?_) (fun c => ?_)))))
          · have h1 := h; have h := h1.1 c
            refine g3_iconst dX4_allows_18 (g3_zreturn dX4_allows_19 rfl (Or.inl rfl) (g3_r1 (g3_if_eq_T (tgt := 24) dX4_makesReady_6 rfl (z3 rfl) (g3_iconst dX4_makesReady_24 (g3_zreturn dX4_makesReady_25 rfl (Or.inl rfl) (g3_r1 (g3_if_eq_T (tgt := 77) dX5_readyIn_71 rfl (z3 rfl) (g3_iinc (lv' := [(3, vI (x3 + 1)), (4, vR 13 x3), (0, vR 26 0), (1, vI x1), (2, vI x2)]) 4 dX5_readyIn_77 rfl (z3 rfl) rfl (g3_goto (tgt := 4) dX5_readyIn_80 rfl (g3_sub [2, 3, 4, 0] rfl h))))))))))
          · have h1 := h; have h := h1.2 c
            refine g3_iconst dX4_allows_14 (g3_goto (tgt := 19) dX4_allows_15 rfl (g3_zreturn dX4_allows_19 rfl (Or.inr rfl) (g3_r1 (g3_if_eq_F (tgt := 24) dX4_makesReady_6 rfl (z3 rfl) (g3_iload_n 2 dX4_makesReady_9 rfl rfl (g3_aload_n 0 dX4_makesReady_10 rfl rfl (g3_bipush dX4_makesReady_11 rfl (g3_iload_n 3 dX4_makesReady_13 rfl rfl (g3_cV2 dX4_makesReady_14 myX4_saidOf mlX4_44 (z3 rfl) ob_3 (z3 rfl) (z3 rfl) (eX4_saidOf (Ec.tr Ec.rf he1) h.1 (fun N2 hN2 he2 hp2 => ?_)))))))))))
            have o8 := h.1
            have h := h.2 N2 hN2 he2 hp2
            refine g3_r1 ?_
            refine g3_icmp_lt (tgt := 24) dX4_makesReady_17 rfl (hM 13 x3 2) h.1 (fun c => ?_) (fun c => ?_)
            · have h1 := h; have h := h1.2.1 c
              have o9 := h1.1
              refine g3_iconst dX4_makesReady_24 (g3_zreturn dX4_makesReady_25 rfl (Or.inl rfl) (g3_r1 (g3_if_eq_T (tgt := 77) dX5_readyIn_71 rfl (z3 rfl) (g3_iinc (lv' := [(3, vI (x3 + 1)), (4, vR 13 x3), (0, vR 26 0), (1, vI x1), (2, vI x2)]) 4 dX5_readyIn_77 rfl (z3 rfl) rfl (g3_goto (tgt := 4) dX5_readyIn_80 rfl (g3_sub [2, 3, 4, 0] rfl h))))))
            · have h1 := h; have h := h1.2.2 c
              have o9 := h1.1
              refine g3_iconst dX4_makesReady_20 (g3_goto (tgt := 25) dX4_makesReady_21 rfl (g3_zreturn dX4_makesReady_25 rfl (Or.inr rfl) (g3_r1 (g3_if_eq_F (tgt := 77) dX5_readyIn_71 rfl (z3 rfl) (g3_iinc (lv' := [(2, vI (x2 + 1)), (4, vR 13 x3), (0, vR 26 0), (1, vI x1), (3, vI x3)]) 3 dX5_readyIn_74 rfl (z3 rfl) rfl (g3_iinc (lv' := [(3, vI (x3 + 1)), (2, vI (x2 + 1)), (4, vR 13 x3), (0, vR 26 0), (1, vI x1)]) 4 dX5_readyIn_77 rfl (z3 rfl) rfl (g3_goto (tgt := 4) dX5_readyIn_80 rfl (g3_sub [3, 4, 1, 0] rfl h))))))))
set_option maxRecDepth 20000 in
set_option maxHeartbeats 200000 in
theorem sX5_foresee {E : E3} {Q : Q3} {M : M3}
    (h : G3 E YX5_foresee Q 2 [(0, vR 26 0), (1, vI 0)] [] M) :
    C3 E YX5_foresee [vR 26 0] M Q := by
  refine c3_in rfl rfl (z3 rfl) (g3_rm fun hM => ?_)
  refine g3_iconst dX5_foresee_0 (g3_istore_n (lv' := [(1, vI 0), (0, vR 26 0)]) dX5_foresee_1 rfl (z3 rfl) rfl (g3_sub [1, 0] rfl h))
set_option maxRecDepth 20000 in
set_option maxHeartbeats 200000 in
theorem sX5_foresee_2 {E : E3} {Q : Q3} {M : M3} {x1 : Int}
    (h : (-2147483648 ≤ x1 ∧ x1 ≤ 2147483647) ∧ ((6 ≤ x1 → (G3 E YX5_foresee Q 39 [(0, vR 26 0), (1, vI 0)] [] M)) ∧ (x1 < 6 → (G3 E YX5_foresee Q 10 [(0, vR 26 0), (1, vI x1), (2, vI 0)] [] M)))) :
    G3 E YX5_foresee Q 2 [(0, vR 26 0), (1, vI x1)] [] M := by
  refine g3_rm fun hM => ?_
  refine g3_iload_n 1 dX5_foresee_2 rfl rfl (g3_bipush dX5_foresee_3 rfl (g3_icmp_ge (tgt := 37) dX5_foresee_5 rfl h.1 (z3 rfl) (fun c => ?_) (fun c => ?_)))
  · have h1 := h; have h := h1.2.1 c
    have o1 := h1.1
    refine g3_iconst dX5_foresee_37 (g3_istore_n (lv' := [(1, vI 0), (0, vR 26 0)]) dX5_foresee_38 rfl (z3 rfl) rfl (g3_sub [1, 0] rfl h))
  · have h1 := h; have h := h1.2.2 c
    have o1 := h1.1
    refine g3_iconst dX5_foresee_8 (g3_istore_n (lv' := [(2, vI 0), (0, vR 26 0), (1, vI x1)]) dX5_foresee_9 rfl (z3 rfl) rfl (g3_sub [1, 2, 0] rfl h))
set_option maxRecDepth 20000 in
set_option maxHeartbeats 200000 in
theorem sX5_foresee_10 {E : E3} {Q : Q3} {M : M3} {x1 : Int} {x2 : Int}
    (h : (-2147483648 ≤ x2 ∧ x2 ≤ 2147483647) ∧ ((12 < x2 → (G3 E YX5_foresee Q 2 [(0, vR 26 0), (1, vI (x1 + 1))] [] M)) ∧ (x2 ≤ 12 → ((0 ≤ x1 ∧ x1 < 6) ∧ ((0 ≤ x2 ∧ x2 < 13) ∧ (G3 E YX5_foresee Q 10 [(0, vR 26 0), (1, vI x1), (2, vI (x2 + 1))] [] (up3 M 28 x1 x2 0))))))) :
    G3 E YX5_foresee Q 10 [(0, vR 26 0), (1, vI x1), (2, vI x2)] [] M := by
  refine g3_rm fun hM => ?_
  refine g3_iload_n 2 dX5_foresee_10 rfl rfl (g3_bipush dX5_foresee_11 rfl (g3_icmp_gt (tgt := 31) dX5_foresee_13 rfl h.1 (z3 rfl) (fun c => ?_) (fun c => ?_)))
  · have h1 := h; have h := h1.2.1 c
    have o1 := h1.1
    refine g3_iinc (lv' := [(1, vI (x1 + 1)), (0, vR 26 0), (2, vI x2)]) 1 dX5_foresee_31 rfl (z3 rfl) rfl (g3_goto (tgt := 2) dX5_foresee_34 rfl (g3_sub [1, 0] rfl h))
  · have h1 := h; have h := h1.2.2 c
    have o1 := h1.1
    refine g3_aload_n 0 dX5_foresee_16 rfl rfl (g3_getR0 (t := 27) dX5_foresee_17 flX5_13 rfl (z3 rfl) (g3_iload_n 1 dX5_foresee_20 rfl rfl (g3_aald dX5_foresee_21 aq_27 h.1 (g3_iload_n 2 dX5_foresee_22 rfl rfl (g3_iconst dX5_foresee_23 (g3_iast dX5_foresee_24 ar_28 h.1 h.2.1 (z3 rfl) (g3_iinc (lv' := [(2, vI (x2 + 1)), (0, vR 26 0), (1, vI x1)]) 2 dX5_foresee_25 rfl (z3 rfl) rfl (g3_goto (tgt := 10) dX5_foresee_28 rfl (g3_sub [1, 2, 0] rfl h.2.2)))))))))
set_option maxRecDepth 20000 in
set_option maxHeartbeats 200000 in
theorem sX5_foresee_39 {E : E3} {Q : Q3} {M : M3} {x1 : Int}
    (h : (-2147483648 ≤ x1 ∧ x1 ≤ 2147483647) ∧ ((M 10 0 0 ≤ x1 → (Q none M)) ∧ (x1 < M 10 0 0 → ((0 ≤ x1 ∧ x1 < 48) ∧ (G3 E YX5_foresee Q 61 [(0, vR 26 0), (1, vI x1), (2, vR 13 x1), (3, vI 0)] [] M))))) :
    G3 E YX5_foresee Q 39 [(0, vR 26 0), (1, vI x1)] [] M := by
  refine g3_rm fun hM => ?_
  refine g3_iload_n 1 dX5_foresee_39 rfl rfl (g3_aload_n 0 dX5_foresee_40 rfl rfl (g3_getR0 (t := 10) dX5_foresee_41 flX5_23 rfl (z3 rfl) (g3_getI (t := 0) dX5_foresee_44 flX5_31 (z3 rfl) (z3 rfl) (g3_icmp_ge (tgt := 137) dX5_foresee_47 rfl h.1 (hM 10 0 0) (fun c => ?_) (fun c => ?_)))))
  · have h1 := h; have h := h1.2.1 c
    have o1 := h1.1
    exact g3_return dX5_foresee_137 rfl h
  · have h1 := h; have h := h1.2.2 c
    have o1 := h1.1
    refine g3_aload_n 0 dX5_foresee_50 rfl rfl (g3_getR0 (t := 10) dX5_foresee_51 flX5_23 rfl (z3 rfl) (g3_iload_n 1 dX5_foresee_54 rfl rfl (g3_cV1 dX5_foresee_55 myX0_at mlX5_37 (z3 rfl) ob_10 (z3 rfl) (z3 rfl) (c3_in rfl rfl (z3 rfl) (g3_aload_n 0 dX0_at_0 rfl rfl (g3_getR0 (t := 11) dX0_at_1 flX0_13 rfl (z3 rfl) (g3_iload_n 1 dX0_at_4 rfl rfl (g3_aald dX0_at_5 aq_11 h.1 (g3_areturn dX0_at_6 rfl (g3_r1 (g3_astore_n (lv' := [(2, vR 13 x1), (0, vR 26 0), (1, vI x1)]) dX5_foresee_58 rfl (z3 rfl) rfl (g3_iconst dX5_foresee_59 (g3_istore_n (lv' := [(3, vI 0), (2, vR 13 x1), (0, vR 26 0), (1, vI x1)]) dX5_foresee_60 rfl (z3 rfl) rfl (g3_sub [2, 3, 1, 0] rfl h.2))))))))))))))
set_option maxRecDepth 20000 in
set_option maxHeartbeats 200000 in
theorem sX5_foresee_61 {E : E3} {Q : Q3} {M : M3} {x1 : Int} {i2 : Int} {x3 : Int}
    (h : (-2147483648 ≤ x3 ∧ x3 ≤ 2147483647) ∧ ((12 < x3 → (G3 E YX5_foresee Q 39 [(0, vR 26 0), (1, vI (x1 + 1))] [] M)) ∧ (x3 ≤ 12 → ((0 ≤ i2 ∧ i2 < 48) ∧ ((¬(M 13 i2 5 = 0 ∨ M 13 i2 5 = 2) → (G3 E YX5_foresee Q 61 [(0, vR 26 0), (1, vI x1), (2, vR 13 i2), (3, vI (x3 + 1))] [] M)) ∧ ((M 13 i2 5 = 0 ∨ M 13 i2 5 = 2) → (((-2147483648 ≤ (M 13 i2 0) ∧ (M 13 i2 0) ≤ 2147483647) ∧ (-2147483648 ≤ (0 : Int) ∧ (0 : Int) ≤ 2147483647) ∧ (-2147483648 ≤ (5 : Int) ∧ (5 : Int) ≤ 2147483647)) ∧ ((¬(0 ≤ (M 13 i2 0) ∧ (M 13 i2 0) ≤ 5) → (G3 E YX5_foresee Q 61 [(0, vR 26 0), (1, vI x1), (2, vR 13 i2), (3, vI (x3 + 1))] [] M)) ∧ ((0 ≤ (M 13 i2 0) ∧ (M 13 i2 0) ≤ 5) → ((-2147483648 ≤ (M 13 i2 2) + (2 * x3) ∧ (M 13 i2 2) + (2 * x3) ≤ 2147483647) ∧ ((LwC M ∧ (0 ≤ (21 : Int) ∧ (21 : Int) < 24) ∧ 0 ≤ (M 2 0 0) ∧ (M 2 0 0) ≤ 399) ∧ (∀ (N1 : M3), RM3 N1 → Ec M N1 → (LwC N1) → ((and3 (shr3 (sSd (LL3 M) 21 (M 2 0 0)) (M 13 i2 1)) 1 = 0 → (G3 E YX5_foresee Q 61 [(0, vR 26 0), (1, vI x1), (2, vR 13 i2), (3, vI (x3 + 1))] [] N1)) ∧ (and3 (shr3 (sSd (LL3 M) 21 (M 2 0 0)) (M 13 i2 1)) 1 ≠ 0 → ((LwC N1 ∧ (0 ≤ (22 : Int) ∧ (22 : Int) < 24) ∧ 0 ≤ (M 2 0 0) ∧ (M 2 0 0) ≤ 399) ∧ (∀ (N2 : M3), RM3 N2 → Ec N1 N2 → (LwC N2) → ((-2147483648 ≤ min 20 ((M 13 i2 2) + (2 * x3)) ∧ min 20 ((M 13 i2 2) + (2 * x3)) ≤ 2147483647) ∧ ((-2147483648 ≤ sSd (LL3 M) 22 (M 2 0 0) ∧ sSd (LL3 M) 22 (M 2 0 0) ≤ 2147483647) ∧ ((min 20 ((M 13 i2 2) + (2 * x3)) < sSd (LL3 M) 22 (M 2 0 0) → (G3 E YX5_foresee Q 61 [(0, vR 26 0), (1, vI x1), (2, vR 13 i2), (3, vI (x3 + 1))] [] N2)) ∧ (sSd (LL3 M) 22 (M 2 0 0) ≤ min 20 ((M 13 i2 2) + (2 * x3)) → ((0 ≤ M 13 i2 0 ∧ M 13 i2 0 < 6) ∧ ((0 ≤ x3 ∧ x3 < 13) ∧ ((-2147483648 ≤ (M 28 (M 13 i2 0) x3) + 1 ∧ (M 28 (M 13 i2 0) x3) + 1 ≤ 2147483647) ∧ (G3 E YX5_foresee Q 61 [(0, vR 26 0), (1, vI x1), (2, vR 13 i2), (3, vI (x3 + 1))] [] (up3 N2 28 (M 13 i2 0) x3 ((M 28 (M 13 i2 0) x3) + 1)))))))))))))))))))))))))) :
    G3 E YX5_foresee Q 61 [(0, vR 26 0), (1, vI x1), (2, vR 13 i2), (3, vI x3)] [] M := by
  refine g3_rm fun hM => ?_
  refine g3_iload_n 3 dX5_foresee_61 rfl rfl (g3_bipush dX5_foresee_62 rfl (g3_icmp_gt (tgt := 131) dX5_foresee_64 rfl h.1 (z3 rfl) (fun c => ?_) (fun c => ?_)))
  · have h1 := h; have h := h1.2.1 c
    have o1 := h1.1
    refine g3_iinc (lv' := [(1, vI (x1 + 1)), (0, vR 26 0), (2, vR 13 i2), (3, vI x3)]) 1 dX5_foresee_131 rfl (z3 rfl) rfl (g3_goto (tgt := 39) dX5_foresee_134 rfl (g3_sub [1, 0] rfl h))
  · have h1 := h; have h := h1.2.2 c
    have o1 := h1.1
    refine g3_aload_n 2 dX5_foresee_67 rfl rfl (g3_cV0 dX5_foresee_68 myX8_waits mlX5_50 (z3 rfl) ob_13 h.1 (z3 rfl) (kX8_waits h.1 (g3_r1 (g3_bool_eq (tgt := 125) dX5_foresee_71 rfl (fun c => ?_) (fun c => ?_)))))
    · have h1 := h; have h := h1.2.1 c
      have o2 := h1.1
      refine g3_iinc (lv' := [(3, vI (x3 + 1)), (0, vR 26 0), (1, vI x1), (2, vR 13 i2)]) 3 dX5_foresee_125 rfl (z3 rfl) rfl (g3_goto (tgt := 61) dX5_foresee_128 rfl (g3_sub [1, 2, 3, 0] rfl h))
    · have h1 := h; have h := h1.2.2 c
      have o2 := h1.1
      refine g3_aload_n 2 dX5_foresee_74 rfl rfl (g3_getI (t := 0) dX5_foresee_75 flX5_47 (z3 rfl) o2 (g3_cN1 dX5_foresee_78 myX11_isBeat mlX5_75 (z3 rfl) (z3 rfl) (c3_in rfl rfl (z3 rfl) (g3_iload_n 0 dX11_isBeat_0 rfl rfl (g3_iconst dX11_isBeat_1 (g3_iconst dX11_isBeat_2 (g3_cS3 dX11_isBeat_3 myX11_within mlX11_78 (z3 rfl) (z3 rfl) (kX11_within h.1 (g3_r1 (g3_zreturn dX11_isBeat_6 rfl (bo3_01 _) (g3_r1 (g3_bool_eq (tgt := 125) dX5_foresee_81 rfl (fun c => ?_) (fun c => ?_)))))))))))))
      · have h1 := h; have h := h1.2.1 c
        have o3 := h1.1
        refine g3_iinc (lv' := [(3, vI (x3 + 1)), (0, vR 26 0), (1, vI x1), (2, vR 13 i2)]) 3 dX5_foresee_125 rfl (z3 rfl) rfl (g3_goto (tgt := 61) dX5_foresee_128 rfl (g3_sub [1, 2, 3, 0] rfl h))
      · have h1 := h; have h := h1.2.2 c
        have o3 := h1.1
        refine g3_aload_n 0 dX5_foresee_84 rfl rfl (g3_getR0 (t := 3) dX5_foresee_85 flX5_19 rfl (z3 rfl) (g3_aload_n 2 dX5_foresee_88 rfl rfl (g3_getI (t := 0) dX5_foresee_89 flX5_54 (z3 rfl) o2 (g3_aload_n 2 dX5_foresee_92 rfl rfl (g3_iload_n 3 dX5_foresee_93 rfl rfl (g3_cV1 dX5_foresee_94 myX8_schoolingAfter mlX5_41 (z3 rfl) ob_13 o2 (z3 rfl) (c3_in rfl rfl (z3 rfl) (g3_bipush dX8_schoolingAfter_0 rfl (g3_aload_n 0 dX8_schoolingAfter_2 rfl rfl (g3_getI (t := 0) dX8_schoolingAfter_3 flX8_22 (z3 rfl) o2 (g3_iconst dX8_schoolingAfter_6 (g3_iload_n 1 dX8_schoolingAfter_7 rfl rfl (g3_imul dX8_schoolingAfter_8 (g3_iadd dX8_schoolingAfter_9 (g3_min dX8_schoolingAfter_10 mlX8_25 (z3 rfl) (z3 rfl) (z3 rfl) h.1 (g3_ireturn dX8_schoolingAfter_13 rfl (g3_r1 (g3_aload_n 0 dX5_foresee_97 rfl rfl (g3_getR0 (t := 2) dX5_foresee_98 flX5_27 rfl (z3 rfl) (g3_getI (t := 0) dX5_foresee_101 flX5_57 (z3 rfl) (z3 rfl) (g3_cV3 dX5_foresee_104 myX4_makesReady mlX5_71 (z3 rfl) ob_3 (z3 rfl) (z3 rfl) (c3_in rfl rfl (z3 rfl) (g3_aload_n 0 dX4_makesReady_0 rfl rfl (g3_iload_n 1 dX4_makesReady_1 rfl rfl (g3_iload_n 3 dX4_makesReady_2 rfl rfl (g3_cV2 dX4_makesReady_3 myX4_allows mlX4_48 (z3 rfl) ob_3 (z3 rfl) (z3 rfl) (c3_in rfl rfl (z3 rfl) (g3_aload_n 0 dX4_allows_0 rfl rfl (g3_bipush dX4_allows_1 rfl (g3_iload_n 2 dX4_allows_3 rfl rfl (g3_cV2 dX4_allows_4 myX4_saidOf mlX4_44 (z3 rfl) ob_3 (z3 rfl) (z3 rfl) (eX4_saidOf Ec.rf h.2.1 (fun N1 hN1 he1 hp1 => ?_)))))))))))))))))))))))))))))))))
        have o4 := h.1
        have o5 := h.2.1
        have h := h.2.2 N1 hN1 he1 hp1
        refine g3_r1 ?_
        refine g3_iload_n 1 dX4_allows_7 rfl rfl (g3_ishr dX4_allows_8 (g3_iconst dX4_allows_9 (g3_iand dX4_allows_10 (g3_if_eq (tgt := 18) dX4_allows_11 rfl (t3_tr _) (fun c => ?_) (fun c => ?_)))))
        · have h1 := h; have h := h1.1 c
          refine g3_iconst dX4_allows_18 (g3_zreturn dX4_allows_19 rfl (Or.inl rfl) (g3_r1 (g3_if_eq_T (tgt := 24) dX4_makesReady_6 rfl (z3 rfl) (g3_iconst dX4_makesReady_24 (g3_zreturn dX4_makesReady_25 rfl (Or.inl rfl) (g3_r1 (g3_if_eq_T (tgt := 125) dX5_foresee_107 rfl (z3 rfl) (g3_iinc (lv' := [(3, vI (x3 + 1)), (0, vR 26 0), (1, vI x1), (2, vR 13 i2)]) 3 dX5_foresee_125 rfl (z3 rfl) rfl (g3_goto (tgt := 61) dX5_foresee_128 rfl (g3_sub [1, 2, 3, 0] rfl h))))))))))
        · have h1 := h; have h := h1.2 c
          refine g3_iconst dX4_allows_14 (g3_goto (tgt := 19) dX4_allows_15 rfl (g3_zreturn dX4_allows_19 rfl (Or.inr rfl) (g3_r1 (g3_if_eq_F (tgt := 24) dX4_makesReady_6 rfl (z3 rfl) (g3_iload_n 2 dX4_makesReady_9 rfl rfl (g3_aload_n 0 dX4_makesReady_10 rfl rfl (g3_bipush dX4_makesReady_11 rfl (g3_iload_n 3 dX4_makesReady_13 rfl rfl (g3_cV2 dX4_makesReady_14 myX4_saidOf mlX4_44 (z3 rfl) ob_3 (z3 rfl) (z3 rfl) (eX4_saidOf (Ec.tr Ec.rf he1) h.1 (fun N2 hN2 he2 hp2 => ?_)))))))))))
          have o6 := h.1
          have h := h.2 N2 hN2 he2 hp2
          refine g3_r1 ?_
          refine g3_icmp_lt (tgt := 24) dX4_makesReady_17 rfl h.1 h.2.1 (fun c => ?_) (fun c => ?_)
          · have h1 := h; have h := h1.2.2.1 c
            have o7 := h1.1
            have o8 := h1.2.1
            refine g3_iconst dX4_makesReady_24 (g3_zreturn dX4_makesReady_25 rfl (Or.inl rfl) (g3_r1 (g3_if_eq_T (tgt := 125) dX5_foresee_107 rfl (z3 rfl) (g3_iinc (lv' := [(3, vI (x3 + 1)), (0, vR 26 0), (1, vI x1), (2, vR 13 i2)]) 3 dX5_foresee_125 rfl (z3 rfl) rfl (g3_goto (tgt := 61) dX5_foresee_128 rfl (g3_sub [1, 2, 3, 0] rfl h))))))
          · have h1 := h; have h := h1.2.2.2 c
            have o7 := h1.1
            have o8 := h1.2.1
            refine g3_iconst dX4_makesReady_20 (g3_goto (tgt := 25) dX4_makesReady_21 rfl (g3_zreturn dX4_makesReady_25 rfl (Or.inr rfl) (g3_r1 (g3_if_eq_F (tgt := 125) dX5_foresee_107 rfl (z3 rfl) (g3_aload_n 0 dX5_foresee_110 rfl rfl (g3_getR0 (t := 27) dX5_foresee_111 flX5_13 rfl (z3 rfl) (g3_aload_n 2 dX5_foresee_114 rfl rfl (g3_getI (t := 0) dX5_foresee_115 flX5_47 (z3 rfl) o2 (g3_val ((cg3 (he2.1 13 (by decide)) _ _).trans (cg3 (he1.1 13 (by decide)) _ _)) (g3_aald dX5_foresee_118 aq_27 h.1 (g3_iload_n 3 dX5_foresee_119 rfl rfl (g3_dup2 dX5_foresee_120 rfl rfl (g3_iald dX5_foresee_121 ar_28 h.1 h.2.1 (g3_val ((cg3 (he2.1 28 (by decide)) _ _).trans (cg3 (he1.1 28 (by decide)) _ _)) (g3_iconst dX5_foresee_122 (g3_iadd dX5_foresee_123 (g3_iast dX5_foresee_124 ar_28 h.1 h.2.1 h.2.2.1 (g3_iinc (lv' := [(3, vI (x3 + 1)), (0, vR 26 0), (1, vI x1), (2, vR 13 i2)]) 3 dX5_foresee_125 rfl (z3 rfl) rfl (g3_goto (tgt := 61) dX5_foresee_128 rfl (g3_sub [1, 2, 3, 0] rfl h.2.2.2))))))))))))))))))))
