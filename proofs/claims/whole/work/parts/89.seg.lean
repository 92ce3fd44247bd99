set_option maxRecDepth 20000 in
set_option maxHeartbeats 200000 in
theorem sX2_isLate {E : E3} {Q : Q3} {M : M3} {i1 : Int}
    (h : (0 ≤ i1 ∧ i1 < 60) ∧ ((¬(M 18 i1 5 ≠ -1 ∧ M 18 i1 5 ≤ cTold M) → ((LwC M ∧ (0 ≤ (23 : Int) ∧ (23 : Int) < 24) ∧ 0 ≤ (cTold M) ∧ (cTold M) ≤ 399) ∧ (∀ (N1 : M3), RM3 N1 → Ec M N1 → (LwC N1) → ((-2147483648 ≤ (cTold M) - (M 18 i1 2) ∧ (cTold M) - (M 18 i1 2) ≤ 2147483647) ∧ ((-2147483648 ≤ sSd (LL3 M) 23 (cTold M) ∧ sSd (LL3 M) 23 (cTold M) ≤ 2147483647) ∧ (((cTold M) - (M 18 i1 2) ≤ sSd (LL3 M) 23 (cTold M) → (Q (some (vI 0)) N1)) ∧ (sSd (LL3 M) 23 (cTold M) < (cTold M) - (M 18 i1 2) → (Q (some (vI 1)) N1)))))))) ∧ ((M 18 i1 5 ≠ -1 ∧ M 18 i1 5 ≤ cTold M) → ((LwC M ∧ (0 ≤ (23 : Int) ∧ (23 : Int) < 24) ∧ 0 ≤ (M 18 i1 5) ∧ (M 18 i1 5) ≤ 399) ∧ (∀ (N1 : M3), RM3 N1 → Ec M N1 → (LwC N1) → ((-2147483648 ≤ (M 18 i1 5) - (M 18 i1 2) ∧ (M 18 i1 5) - (M 18 i1 2) ≤ 2147483647) ∧ ((-2147483648 ≤ sSd (LL3 M) 23 (M 18 i1 5) ∧ sSd (LL3 M) 23 (M 18 i1 5) ≤ 2147483647) ∧ (((M 18 i1 5) - (M 18 i1 2) ≤ sSd (LL3 M) 23 (M 18 i1 5) → (Q (some (vI 0)) N1)) ∧ (sSd (LL3 M) 23 (M 18 i1 5) < (M 18 i1 5) - (M 18 i1 2) → (Q (some (vI 1)) N1)))))))))) :
    C3 E YX2_isLate [vR 14 0, vR 18 i1] M Q := by
  refine c3_in rfl rfl (z3 rfl) (g3_rm fun hM => ?_)
  refine g3_aload_n 0 dX2_isLate_0 rfl rfl (g3_aload_n 1 dX2_isLate_1 rfl rfl (g3_cV1 dX2_isLate_2 myX2_isRead mlX2_122 (z3 rfl) ob_14 (z3 rfl) (z3 rfl) (kX2_isRead h.1 (g3_r1 (g3_bool_eq (tgt := 15) dX2_isLate_5 rfl (fun c => ?_) (fun c => ?_))))))
  · have h1 := h; have h := h1.2.1 c
    have o1 := h1.1
    refine g3_aload_n 0 dX2_isLate_15 rfl rfl (g3_getR0 (t := 2) dX2_isLate_16 flX2_32 rfl (z3 rfl) (g3_cV0 dX2_isLate_19 myX1_told mlX2_114 (z3 rfl) ob_2 (z3 rfl) (z3 rfl) (kX1_told (g3_r1 (g3_istore_n (lv' := [(2, vI (cTold M)), (0, vR 14 0), (1, vR 18 i1)]) dX2_isLate_22 rfl (z3 rfl) rfl (g3_iload_n 0 dX2_isLate_23 rfl rfl (g3_aload_n 2 dX2_isLate_24 rfl rfl (g3_getI (t := 0) dX2_isLate_25 flX2_65 (z3 rfl) o1 (g3_isub dX2_isLate_28 (g3_aload_n 1 dX2_isLate_29 rfl rfl (g3_getR0 (t := 3) dX2_isLate_30 flX2_24 rfl (z3 rfl) (g3_bipush dX2_isLate_33 rfl (g3_iload_n 0 dX2_isLate_35 rfl rfl (g3_cV2 dX2_isLate_36 myX4_saidOf mlX2_142 (z3 rfl) ob_3 (z3 rfl) (z3 rfl) (eX4_saidOf Ec.rf h.1 (fun N1 hN1 he1 hp1 => ?_))))))))))))))))
    have o2 := h.1
    have h := h.2 N1 hN1 he1 hp1
    refine g3_r1 ?_
    refine g3_icmp_le (tgt := 46) dX2_isLate_39 rfl h.1 h.2.1 (fun c => ?_) (fun c => ?_)
    · have h1 := h; have h := h1.2.2.1 c
      have o3 := h1.1
      have o4 := h1.2.1
      exact g3_iconst dX2_isLate_46 (g3_zreturn dX2_isLate_47 rfl (Or.inl rfl) h)
    · have h1 := h; have h := h1.2.2.2 c
      have o3 := h1.1
      have o4 := h1.2.1
      exact g3_iconst dX2_isLate_42 (g3_goto (tgt := 47) dX2_isLate_43 rfl (g3_zreturn dX2_isLate_47 rfl (Or.inr rfl) h))
  · have h1 := h; have h := h1.2.2 c
    have o1 := h1.1
    refine g3_aload_n 1 dX2_isLate_8 rfl rfl (g3_getI (t := 0) dX2_isLate_9 flX2_68 (z3 rfl) o1 (g3_goto (tgt := 22) dX2_isLate_12 rfl (g3_istore_n (lv' := [(2, vI (M 18 i1 5)), (0, vR 14 0), (1, vR 18 i1)]) dX2_isLate_22 rfl (z3 rfl) rfl (g3_iload_n 0 dX2_isLate_23 rfl rfl (g3_aload_n 2 dX2_isLate_24 rfl rfl (g3_getI (t := 0) dX2_isLate_25 flX2_65 (z3 rfl) o1 (g3_isub dX2_isLate_28 (g3_aload_n 1 dX2_isLate_29 rfl rfl (g3_getR0 (t := 3) dX2_isLate_30 flX2_24 rfl (z3 rfl) (g3_bipush dX2_isLate_33 rfl (g3_iload_n 0 dX2_isLate_35 rfl rfl (g3_cV2 dX2_isLate_36 myX4_saidOf mlX2_142 (z3 rfl) ob_3 (z3 rfl) (z3 rfl) (eX4_saidOf Ec.rf h.1 (fun N1 hN1 he1 hp1 => ?_))))))))))))))
    have o5 := h.1
    have h := h.2 N1 hN1 he1 hp1
    refine g3_r1 ?_
    refine g3_icmp_le (tgt := 46) dX2_isLate_39 rfl h.1 h.2.1 (fun c => ?_) (fun c => ?_)
    · have h1 := h; have h := h1.2.2.1 c
      have o6 := h1.1
      have o7 := h1.2.1
      exact g3_iconst dX2_isLate_46 (g3_zreturn dX2_isLate_47 rfl (Or.inl rfl) h)
    · have h1 := h; have h := h1.2.2.2 c
      have o6 := h1.1
      have o7 := h1.2.1
      exact g3_iconst dX2_isLate_42 (g3_goto (tgt := 47) dX2_isLate_43 rfl (g3_zreturn dX2_isLate_47 rfl (Or.inr rfl) h))
set_option maxRecDepth 20000 in
set_option maxHeartbeats 200000 in
theorem sX2_weigh {E : E3} {Q : Q3} {M : M3} {i1 : Int}
    (h : G3 E YX2_weigh Q 4 [(0, vR 14 0), (1, vR 18 i1), (2, vI 0), (3, vI 0)] [] M) :
    C3 E YX2_weigh [vR 14 0, vR 18 i1] M Q := by
  refine c3_in rfl rfl (z3 rfl) (g3_rm fun hM => ?_)
  refine g3_iconst dX2_weigh_0 (g3_istore_n (lv' := [(2, vI 0), (0, vR 14 0), (1, vR 18 i1)]) dX2_weigh_1 rfl (z3 rfl) rfl (g3_iconst dX2_weigh_2 (g3_istore_n (lv' := [(3, vI 0), (2, vI 0), (0, vR 14 0), (1, vR 18 i1)]) dX2_weigh_3 rfl (z3 rfl) rfl (g3_sub [2, 3, 1, 0] rfl h))))
set_option maxRecDepth 20000 in
set_option maxHeartbeats 200000 in
theorem sX2_weigh_4 {E : E3} {Q : Q3} {M : M3} {i1 : Int} {x2 : Int} {x3 : Int}
    (h : (-2147483648 ≤ x3 ∧ x3 ≤ 2147483647) ∧ ((20 ≤ x3 → ((0 ≤ i1 ∧ i1 < 60) ∧ ((-2147483648 ≤ x2 ∧ x2 ≤ 2147483647) ∧ ((LwC (up3 M 18 i1 9 x2) ∧ (0 ≤ (21 : Int) ∧ (21 : Int) < 24) ∧ 0 ≤ (M 18 i1 2) ∧ (M 18 i1 2) ≤ 399) ∧ (∀ (N1 : M3), RM3 N1 → Ec (up3 M 18 i1 9 x2) N1 → (LwC N1) → ((and3 (shr3 (sSd (LL3 (up3 M 18 i1 9 x2)) 21 (M 18 i1 2)) (M 18 i1 1)) 1 = 0 → ((LwC N1 ∧ (0 ≤ (22 : Int) ∧ (22 : Int) < 24) ∧ 0 ≤ (M 18 i1 2) ∧ (M 18 i1 2) ≤ 399) ∧ (∀ (N2 : M3), RM3 N2 → Ec N1 N2 → (LwC N2) → ((-2147483648 ≤ sSd (LL3 (up3 M 18 i1 9 x2)) 22 (M 18 i1 2) ∧ sSd (LL3 (up3 M 18 i1 9 x2)) 22 (M 18 i1 2) ≤ 2147483647) ∧ ((sSd (LL3 (up3 M 18 i1 9 x2)) 22 (M 18 i1 2) ≤ M 18 i1 3 → ((LwC N2 ∧ (0 ≤ (20 : Int) ∧ (20 : Int) < 24) ∧ 0 ≤ (M 18 i1 2) ∧ (M 18 i1 2) ≤ 399) ∧ (∀ (N3 : M3), RM3 N3 → Ec N2 N3 → (LwC N3) → ((-2147483648 ≤ sSd (LL3 (up3 M 18 i1 9 x2)) 20 (M 18 i1 2) ∧ sSd (LL3 (up3 M 18 i1 9 x2)) 20 (M 18 i1 2) ≤ 2147483647) ∧ ((sSd (LL3 (up3 M 18 i1 9 x2)) 20 (M 18 i1 2) ≤ x2 → (Q none (up3 N3 18 i1 10 1))) ∧ (x2 < sSd (LL3 (up3 M 18 i1 9 x2)) 20 (M 18 i1 2) → (Q none (up3 N3 18 i1 10 (or3 1 4))))))))) ∧ (M 18 i1 3 < sSd (LL3 (up3 M 18 i1 9 x2)) 22 (M 18 i1 2) → ((LwC N2 ∧ (0 ≤ (20 : Int) ∧ (20 : Int) < 24) ∧ 0 ≤ (M 18 i1 2) ∧ (M 18 i1 2) ≤ 399) ∧ (∀ (N3 : M3), RM3 N3 → Ec N2 N3 → (LwC N3) → ((-2147483648 ≤ sSd (LL3 (up3 M 18 i1 9 x2)) 20 (M 18 i1 2) ∧ sSd (LL3 (up3 M 18 i1 9 x2)) 20 (M 18 i1 2) ≤ 2147483647) ∧ ((sSd (LL3 (up3 M 18 i1 9 x2)) 20 (M 18 i1 2) ≤ x2 → (Q none (up3 N3 18 i1 10 (or3 1 2)))) ∧ (x2 < sSd (LL3 (up3 M 18 i1 9 x2)) 20 (M 18 i1 2) → (Q none (up3 N3 18 i1 10 (or3 (or3 1 2) 4)))))))))))))) ∧ (and3 (shr3 (sSd (LL3 (up3 M 18 i1 9 x2)) 21 (M 18 i1 2)) (M 18 i1 1)) 1 ≠ 0 → ((LwC N1 ∧ (0 ≤ (22 : Int) ∧ (22 : Int) < 24) ∧ 0 ≤ (M 18 i1 2) ∧ (M 18 i1 2) ≤ 399) ∧ (∀ (N2 : M3), RM3 N2 → Ec N1 N2 → (LwC N2) → ((-2147483648 ≤ sSd (LL3 (up3 M 18 i1 9 x2)) 22 (M 18 i1 2) ∧ sSd (LL3 (up3 M 18 i1 9 x2)) 22 (M 18 i1 2) ≤ 2147483647) ∧ ((sSd (LL3 (up3 M 18 i1 9 x2)) 22 (M 18 i1 2) ≤ M 18 i1 3 → ((LwC N2 ∧ (0 ≤ (20 : Int) ∧ (20 : Int) < 24) ∧ 0 ≤ (M 18 i1 2) ∧ (M 18 i1 2) ≤ 399) ∧ (∀ (N3 : M3), RM3 N3 → Ec N2 N3 → (LwC N3) → ((-2147483648 ≤ sSd (LL3 (up3 M 18 i1 9 x2)) 20 (M 18 i1 2) ∧ sSd (LL3 (up3 M 18 i1 9 x2)) 20 (M 18 i1 2) ≤ 2147483647) ∧ ((sSd (LL3 (up3 M 18 i1 9 x2)) 20 (M 18 i1 2) ≤ x2 → (Q none (up3 N3 18 i1 10 0))) ∧ (x2 < sSd (LL3 (up3 M 18 i1 9 x2)) 20 (M 18 i1 2) → (Q none (up3 N3 18 i1 10 (or3 0 4))))))))) ∧ (M 18 i1 3 < sSd (LL3 (up3 M 18 i1 9 x2)) 22 (M 18 i1 2) → ((LwC N2 ∧ (0 ≤ (20 : Int) ∧ (20 : Int) < 24) ∧ 0 ≤ (M 18 i1 2) ∧ (M 18 i1 2) ≤ 399) ∧ (∀ (N3 : M3), RM3 N3 → Ec N2 N3 → (LwC N3) → ((-2147483648 ≤ sSd (LL3 (up3 M 18 i1 9 x2)) 20 (M 18 i1 2) ∧ sSd (LL3 (up3 M 18 i1 9 x2)) 20 (M 18 i1 2) ≤ 2147483647) ∧ ((sSd (LL3 (up3 M 18 i1 9 x2)) 20 (M 18 i1 2) ≤ x2 → (Q none (up3 N3 18 i1 10 (or3 0 2)))) ∧ (x2 < sSd (LL3 (up3 M 18 i1 9 x2)) 20 (M 18 i1 2) → (Q none (up3 N3 18 i1 10 (or3 (or3 0 2) 4)))))))))))))))))))) ∧ (x3 < 20 → ((0 ≤ i1 ∧ i1 < 60) ∧ ((0 ≤ x3 ∧ x3 < 20) ∧ ((M 19 i1 x3 = (-1) → (G3 E YX2_weigh Q 4 [(0, vR 14 0), (1, vR 18 i1), (2, vI x2), (3, vI (x3 + 1))] [] M)) ∧ (M 19 i1 x3 ≠ (-1) → ((LwC M ∧ (0 ≤ x3 ∧ x3 < 24) ∧ 0 ≤ (M 18 i1 2) ∧ (M 18 i1 2) ≤ 399) ∧ (∀ (N1 : M3), RM3 N1 → Ec M N1 → (LwC N1) → ((-2147483648 ≤ sSd (LL3 M) x3 (M 18 i1 2) ∧ sSd (LL3 M) x3 (M 18 i1 2) ≤ 2147483647) ∧ ((M 19 i1 x3 ≠ sSd (LL3 M) x3 (M 18 i1 2) → (G3 E YX2_weigh Q 4 [(0, vR 14 0), (1, vR 18 i1), (2, vI x2), (3, vI (x3 + 1))] [] N1)) ∧ (M 19 i1 x3 = sSd (LL3 M) x3 (M 18 i1 2) → (G3 E YX2_weigh Q 4 [(0, vR 14 0), (1, vR 18 i1), (2, vI (x2 + 1)), (3, vI (x3 + 1))] [] N1))))))))))))) :
    G3 E YX2_weigh Q 4 [(0, vR 14 0), (1, vR 18 i1), (2, vI x2), (3, vI x3)] [] M := by
  refine g3_rm fun hM => ?_
  refine g3_iload_n 3 dX2_weigh_4 rfl rfl (g3_bipush dX2_weigh_5 rfl (g3_icmp_ge (tgt := 50) dX2_weigh_7 rfl h.1 (z3 rfl) (fun c => ?_) (fun c => ?_)))
  · have h1 := h; have h := h1.2.1 c
    have o1 := h1.1
    refine g3_aload_n 1 dX2_weigh_50 rfl rfl (g3_iload_n 2 dX2_weigh_51 rfl rfl (g3_put dX2_weigh_52 fpX2_126 (Or.inl rfl) h.1 h.2.1 (g3_aload_n 1 dX2_weigh_55 rfl rfl (g3_aload_n 0 dX2_weigh_56 rfl rfl (g3_getR0 (t := 3) dX2_weigh_57 flX2_24 rfl (z3 rfl) (g3_aload_n 1 dX2_weigh_60 rfl rfl (g3_getI (t := 0) dX2_weigh_61 flX2_55 (z3 rfl) h.1 (g3_val (up3_nj (by decide)) (g3_aload_n 1 dX2_weigh_64 rfl rfl (g3_getI (t := 0) dX2_weigh_65 flX2_59 (z3 rfl) h.1 (g3_val (up3_nj (by decide)) (g3_iload_n 2 dX2_weigh_68 rfl rfl (g3_aload_n 1 dX2_weigh_69 rfl rfl (g3_getI (t := 0) dX2_weigh_70 flX2_65 (z3 rfl) h.1 (g3_val (up3_nj (by decide)) (g3_cV4 dX2_weigh_73 myX4_lacks mlX2_148 (z3 rfl) ob_3 (z3 rfl) (z3 rfl) (c3_in rfl rfl (z3 rfl) (g3_aload_n 0 dX4_lacks_0 rfl rfl (g3_bipush dX4_lacks_1 rfl (g3_iload 4 dX4_lacks_3 rfl (g3_cV2 dX4_lacks_5 myX4_saidOf mlX4_44 (z3 rfl) ob_3 (z3 rfl) (z3 rfl) (eX4_saidOf Ec.rf h.2.2.1 (fun N1 hN1 he1 hp1 => ?_)))))))))))))))))))))))
    have o2 := h.1
    have o3 := h.2.1
    have o4 := h.2.2.1
    have h := h.2.2.2 N1 hN1 he1 hp1
    refine g3_r1 ?_
    refine g3_iload_n 1 dX4_lacks_8 rfl rfl (g3_ishr dX4_lacks_9 (g3_iconst dX4_lacks_10 (g3_iand dX4_lacks_11 (g3_if_eq (tgt := 19) dX4_lacks_12 rfl (t3_tr _) (fun c => ?_) (fun c => ?_)))))
    · have h1 := h; have h := h1.1 c
      refine g3_iconst dX4_lacks_19 (g3_istore (lv' := [(5, vI 1), (0, vR 3 0), (1, vI (M 18 i1 1)), (2, vI (M 18 i1 3)), (3, vI x2), (4, vI (M 18 i1 2))]) dX4_lacks_20 (z3 rfl) rfl (g3_iload_n 3 dX4_lacks_22 rfl rfl (g3_aload_n 1 dX4_lacks_23 rfl rfl (g3_bipush dX4_lacks_24 rfl (g3_iload 5 dX4_lacks_26 rfl (g3_cV2 dX4_lacks_28 myX4_saidOf mlX4_44 (z3 rfl) ob_3 (z3 rfl) (z3 rfl) (eX4_saidOf (Ec.tr Ec.rf he1) h.1 (fun N2 hN2 he2 hp2 => ?_))))))))
      have o5 := h.1
      have h := h.2 N2 hN2 he2 hp2
      refine g3_r1 ?_
      refine g3_icmp_ge (tgt := 40) dX4_lacks_31 rfl (hM 18 i1 3) h.1 (fun c => ?_) (fun c => ?_)
      · have h1 := h; have h := h1.2.1 c
        have o6 := h1.1
        refine g3_iload_n 4 dX4_lacks_40 rfl rfl (g3_aload_n 1 dX4_lacks_41 rfl rfl (g3_bipush dX4_lacks_42 rfl (g3_iload 5 dX4_lacks_44 rfl (g3_cV2 dX4_lacks_46 myX4_saidOf mlX4_44 (z3 rfl) ob_3 (z3 rfl) (z3 rfl) (eX4_saidOf (Ec.tr (Ec.tr Ec.rf he1) he2) h.1 (fun N3 hN3 he3 hp3 => ?_))))))
        have o7 := h.1
        have h := h.2 N3 hN3 he3 hp3
        refine g3_r1 ?_
        refine g3_icmp_ge (tgt := 58) dX4_lacks_49 rfl o3 h.1 (fun c => ?_) (fun c => ?_)
        · have h1 := h; have h := h1.2.1 c
          have o8 := h1.1
          exact g3_iload 0 dX4_lacks_58 rfl (g3_ireturn dX4_lacks_60 rfl (g3_r1 (g3_put dX2_weigh_76 fpX2_152 (Or.inl rfl) o2 (z3 rfl) (g3_return dX2_weigh_79 rfl h))))
        · have h1 := h; have h := h1.2.2 c
          have o8 := h1.1
          exact g3_iload 0 dX4_lacks_52 rfl (g3_iconst dX4_lacks_54 (g3_ior dX4_lacks_55 (g3_istore (lv' := [(5, vI (or3 1 4)), (0, vR 3 0), (1, vI (M 18 i1 1)), (2, vI (M 18 i1 3)), (3, vI x2), (4, vI (M 18 i1 2))]) dX4_lacks_56 (z3 rfl) rfl (g3_iload 0 dX4_lacks_58 rfl (g3_ireturn dX4_lacks_60 rfl (g3_r1 (g3_put dX2_weigh_76 fpX2_152 (Or.inl rfl) o2 (t3_tr _) (g3_return dX2_weigh_79 rfl h))))))))
      · have h1 := h; have h := h1.2.2 c
        have o6 := h1.1
        refine g3_iload 0 dX4_lacks_34 rfl (g3_iconst dX4_lacks_36 (g3_ior dX4_lacks_37 (g3_istore (lv' := [(5, vI (or3 1 2)), (0, vR 3 0), (1, vI (M 18 i1 1)), (2, vI (M 18 i1 3)), (3, vI x2), (4, vI (M 18 i1 2))]) dX4_lacks_38 (z3 rfl) rfl (g3_iload_n 4 dX4_lacks_40 rfl rfl (g3_aload_n 1 dX4_lacks_41 rfl rfl (g3_bipush dX4_lacks_42 rfl (g3_iload 5 dX4_lacks_44 rfl (g3_cV2 dX4_lacks_46 myX4_saidOf mlX4_44 (z3 rfl) ob_3 (z3 rfl) (z3 rfl) (eX4_saidOf (Ec.tr (Ec.tr Ec.rf he1) he2) h.1 (fun N3 hN3 he3 hp3 => ?_))))))))))
        have o9 := h.1
        have h := h.2 N3 hN3 he3 hp3
        refine g3_r1 ?_
        refine g3_icmp_ge (tgt := 58) dX4_lacks_49 rfl o3 h.1 (fun c => ?_) (fun c => ?_)
        · have h1 := h; have h := h1.2.1 c
          have o10 := h1.1
          exact g3_iload 0 dX4_lacks_58 rfl (g3_ireturn dX4_lacks_60 rfl (g3_r1 (g3_put dX2_weigh_76 fpX2_152 (Or.inl rfl) o2 (t3_tr _) (g3_return dX2_weigh_79 rfl h))))
        · have h1 := h; have h := h1.2.2 c
          have o10 := h1.1
          exact g3_iload 0 dX4_lacks_52 rfl (g3_iconst dX4_lacks_54 (g3_ior dX4_lacks_55 (g3_istore (lv' := [(5, vI (or3 (or3 1 2) 4)), (0, vR 3 0), (1, vI (M 18 i1 1)), (2, vI (M 18 i1 3)), (3, vI x2), (4, vI (M 18 i1 2))]) dX4_lacks_56 (z3 rfl) rfl (g3_iload 0 dX4_lacks_58 rfl (g3_ireturn dX4_lacks_60 rfl (g3_r1 (g3_put dX2_weigh_76 fpX2_152 (Or.inl rfl) o2 (t3_tr _) (g3_return dX2_weigh_79 rfl h))))))))
    · have h1 := h; have h := h1.2 c
      refine g3_iconst dX4_lacks_15 (g3_goto (tgt := 20) dX4_lacks_16 rfl (g3_istore (lv' := [(5, vI 0), (0, vR 3 0), (1, vI (M 18 i1 1)), (2, vI (M 18 i1 3)), (3, vI x2), (4, vI (M 18 i1 2))]) dX4_lacks_20 (z3 rfl) rfl (g3_iload_n 3 dX4_lacks_22 rfl rfl (g3_aload_n 1 dX4_lacks_23 rfl rfl (g3_bipush dX4_lacks_24 rfl (g3_iload 5 dX4_lacks_26 rfl (g3_cV2 dX4_lacks_28 myX4_saidOf mlX4_44 (z3 rfl) ob_3 (z3 rfl) (z3 rfl) (eX4_saidOf (Ec.tr Ec.rf he1) h.1 (fun N2 hN2 he2 hp2 => ?_)))))))))
      have o11 := h.1
      have h := h.2 N2 hN2 he2 hp2
      refine g3_r1 ?_
      refine g3_icmp_ge (tgt := 40) dX4_lacks_31 rfl (hM 18 i1 3) h.1 (fun c => ?_) (fun c => ?_)
      · have h1 := h; have h := h1.2.1 c
        have o12 := h1.1
        refine g3_iload_n 4 dX4_lacks_40 rfl rfl (g3_aload_n 1 dX4_lacks_41 rfl rfl (g3_bipush dX4_lacks_42 rfl (g3_iload 5 dX4_lacks_44 rfl (g3_cV2 dX4_lacks_46 myX4_saidOf mlX4_44 (z3 rfl) ob_3 (z3 rfl) (z3 rfl) (eX4_saidOf (Ec.tr (Ec.tr Ec.rf he1) he2) h.1 (fun N3 hN3 he3 hp3 => ?_))))))
        have o13 := h.1
        have h := h.2 N3 hN3 he3 hp3
        refine g3_r1 ?_
        refine g3_icmp_ge (tgt := 58) dX4_lacks_49 rfl o3 h.1 (fun c => ?_) (fun c => ?_)
        · have h1 := h; have h := h1.2.1 c
          have o14 := h1.1
          exact g3_iload 0 dX4_lacks_58 rfl (g3_ireturn dX4_lacks_60 rfl (g3_r1 (g3_put dX2_weigh_76 fpX2_152 (Or.inl rfl) o2 (z3 rfl) (g3_return dX2_weigh_79 rfl h))))
        · have h1 := h; have h := h1.2.2 c
          have o14 := h1.1
          exact g3_iload 0 dX4_lacks_52 rfl (g3_iconst dX4_lacks_54 (g3_ior dX4_lacks_55 (g3_istore (lv' := [(5, vI (or3 0 4)), (0, vR 3 0), (1, vI (M 18 i1 1)), (2, vI (M 18 i1 3)), (3, vI x2), (4, vI (M 18 i1 2))]) dX4_lacks_56 (z3 rfl) rfl (g3_iload 0 dX4_lacks_58 rfl (g3_ireturn dX4_lacks_60 rfl (g3_r1 (g3_put dX2_weigh_76 fpX2_152 (Or.inl rfl) o2 (t3_tr _) (g3_return dX2_weigh_79 rfl h))))))))
      · have h1 := h; have h := h1.2.2 c
        have o12 := h1.1
        refine g3_iload 0 dX4_lacks_34 rfl (g3_iconst dX4_lacks_36 (g3_ior dX4_lacks_37 (g3_istore (lv' := [(5, vI (or3 0 2)), (0, vR 3 0), (1, vI (M 18 i1 1)), (2, vI (M 18 i1 3)), (3, vI x2), (4, vI (M 18 i1 2))]) dX4_lacks_38 (z3 rfl) rfl (g3_iload_n 4 dX4_lacks_40 rfl rfl (g3_aload_n 1 dX4_lacks_41 rfl rfl (g3_bipush dX4_lacks_42 rfl (g3_iload 5 dX4_lacks_44 rfl (g3_cV2 dX4_lacks_46 myX4_saidOf mlX4_44 (z3 rfl) ob_3 (z3 rfl) (z3 rfl) (eX4_saidOf (Ec.tr (Ec.tr Ec.rf he1) he2) h.1 (fun N3 hN3 he3 hp3 => ?_))))))))))
        have o15 := h.1
        have h := h.2 N3 hN3 he3 hp3
        refine g3_r1 ?_
        refine g3_icmp_ge (tgt := 58) dX4_lacks_49 rfl o3 h.1 (fun c => ?_) (fun c => ?_)
        · have h1 := h; have h := h1.2.1 c
          have o16 := h1.1
          exact g3_iload 0 dX4_lacks_58 rfl (g3_ireturn dX4_lacks_60 rfl (g3_r1 (g3_put dX2_weigh_76 fpX2_152 (Or.inl rfl) o2 (t3_tr _) (g3_return dX2_weigh_79 rfl h))))
        · have h1 := h; have h := h1.2.2 c
          have o16 := h1.1
          exact g3_iload 0 dX4_lacks_52 rfl (g3_iconst dX4_lacks_54 (g3_ior dX4_lacks_55 (g3_istore (lv' := [(5, vI (or3 (or3 0 2) 4)), (0, vR 3 0), (1, vI (M 18 i1 1)), (2, vI (M 18 i1 3)), (3, vI x2), (4, vI (M 18 i1 2))]) dX4_lacks_56 (z3 rfl) rfl (g3_iload 0 dX4_lacks_58 rfl (g3_ireturn dX4_lacks_60 rfl (g3_r1 (g3_put dX2_weigh_76 fpX2_152 (Or.inl rfl) o2 (t3_tr _) (g3_return dX2_weigh_79 rfl h))))))))
  · have h1 := h; have h := h1.2.2 c
    have o1 := h1.1
    refine g3_aload_n 1 dX2_weigh_10 rfl rfl (g3_getRi (t := 19) dX2_weigh_11 flX2_88 rfl h.1 (g3_iload_n 3 dX2_weigh_14 rfl rfl (g3_iald dX2_weigh_15 ar_19 h.1 h.2.1 (g3_istore (lv' := [(4, vI (M 19 i1 x3)), (0, vR 14 0), (1, vR 18 i1), (2, vI x2), (3, vI x3)]) dX2_weigh_16 (z3 rfl) rfl (g3_iload 0 dX2_weigh_18 rfl (g3_iconst dX2_weigh_20 (g3_icmp_eq (tgt := 44) dX2_weigh_21 rfl (hM 19 i1 x3) (z3 rfl) (fun c => ?_) (fun c => ?_))))))))
    · have h1 := h; have h := h1.2.2.1 c
      have o17 := h1.1
      have o18 := h1.2.1
      refine g3_iinc (lv' := [(3, vI (x3 + 1)), (4, vI (M 19 i1 x3)), (0, vR 14 0), (1, vR 18 i1), (2, vI x2)]) 4 dX2_weigh_44 rfl (z3 rfl) rfl (g3_goto (tgt := 4) dX2_weigh_47 rfl (g3_sub [2, 3, 4, 0] rfl h))
    · have h1 := h; have h := h1.2.2.2 c
      have o17 := h1.1
      have o18 := h1.2.1
      refine g3_iload 0 dX2_weigh_24 rfl (g3_aload_n 1 dX2_weigh_26 rfl rfl (g3_getR0 (t := 3) dX2_weigh_27 flX2_24 rfl (z3 rfl) (g3_iload_n 4 dX2_weigh_30 rfl rfl (g3_aload_n 2 dX2_weigh_31 rfl rfl (g3_getI (t := 0) dX2_weigh_32 flX2_65 (z3 rfl) o17 (g3_cV2 dX2_weigh_35 myX4_saidOf mlX2_142 (z3 rfl) ob_3 (z3 rfl) (z3 rfl) (eX4_saidOf Ec.rf h.1 (fun N1 hN1 he1 hp1 => ?_))))))))
      have o19 := h.1
      have h := h.2 N1 hN1 he1 hp1
      refine g3_r1 ?_
      refine g3_icmp_ne (tgt := 44) dX2_weigh_38 rfl (hM 19 i1 x3) h.1 (fun c => ?_) (fun c => ?_)
      · have h1 := h; have h := h1.2.1 c
        have o20 := h1.1
        refine g3_iinc (lv' := [(3, vI (x3 + 1)), (4, vI (M 19 i1 x3)), (0, vR 14 0), (1, vR 18 i1), (2, vI x2)]) 4 dX2_weigh_44 rfl (z3 rfl) rfl (g3_goto (tgt := 4) dX2_weigh_47 rfl (g3_sub [2, 3, 4, 0] rfl h))
      · have h1 := h; have h := h1.2.2 c
        have o20 := h1.1
        refine g3_iinc (lv' := [(2, vI (x2 + 1)), (4, vI (M 19 i1 x3)), (0, vR 14 0), (1, vR 18 i1), (3, vI x3)]) 3 dX2_weigh_41 rfl (z3 rfl) rfl (g3_iinc (lv' := [(3, vI (x3 + 1)), (2, vI (x2 + 1)), (4, vI (M 19 i1 x3)), (0, vR 14 0), (1, vR 18 i1)]) 4 dX2_weigh_44 rfl (z3 rfl) rfl (g3_goto (tgt := 4) dX2_weigh_47 rfl (g3_sub [3, 4, 1, 0] rfl h)))
set_option maxRecDepth 20000 in
set_option maxHeartbeats 200000 in
theorem sX2_leastAsked {E : E3} {Q : Q3} {M : M3} {x1 x2 : Int}
    (h : G3 E YX2_leastAsked Q 5 [(0, vR 14 0), (1, vI x1), (2, vI x2), (3, vI 0), (4, vI 0)] [] M) :
    C3 E YX2_leastAsked [vR 14 0, vI x1, vI x2] M Q := by
  refine c3_in rfl rfl (z3 rfl) (g3_rm fun hM => ?_)
  refine g3_iconst dX2_leastAsked_0 (g3_istore_n (lv' := [(3, vI 0), (0, vR 14 0), (1, vI x1), (2, vI x2)]) dX2_leastAsked_1 rfl (z3 rfl) rfl (g3_iconst dX2_leastAsked_2 (g3_istore (lv' := [(4, vI 0), (3, vI 0), (0, vR 14 0), (1, vI x1), (2, vI x2)]) dX2_leastAsked_3 (z3 rfl) rfl (g3_sub [2, 3, 4, 1, 0] rfl h))))
set_option maxRecDepth 20000 in
set_option maxHeartbeats 200000 in
theorem sX2_leastAsked_5 {E : E3} {Q : Q3} {M : M3} {x1 : Int} {x2 : Int} {x3 : Int} {x4 : Int}
    (h : (-2147483648 ≤ x4 ∧ x4 ≤ 2147483647) ∧ ((M 14 0 0 ≤ x4 → (Q (some (vI x3)) M)) ∧ (x4 < M 14 0 0 → ((0 ≤ x4 ∧ x4 < 60) ∧ ((¬(M 18 x4 5 ≠ -1 ∧ M 18 x4 5 ≤ cTold M) → (G3 E YX2_leastAsked Q 5 [(0, vR 14 0), (1, vI x1), (2, vI x2), (3, vI x3), (4, vI (x4 + 1))] [] M)) ∧ ((M 18 x4 5 ≠ -1 ∧ M 18 x4 5 ≤ cTold M) → ((-2147483648 ≤ x1 ∧ x1 ≤ 2147483647) ∧ ((M 18 x4 6 ≠ x1 → (G3 E YX2_leastAsked Q 5 [(0, vR 14 0), (1, vI x1), (2, vI x2), (3, vI x3), (4, vI (x4 + 1))] [] M)) ∧ (M 18 x4 6 = x1 → ((-2147483648 ≤ x2 ∧ x2 ≤ 2147483647) ∧ ((M 18 x4 1 ≠ x2 → (G3 E YX2_leastAsked Q 5 [(0, vR 14 0), (1, vI x1), (2, vI x2), (3, vI x3), (4, vI (x4 + 1))] [] M)) ∧ (M 18 x4 1 = x2 → ((M 18 x4 7 ≠ 0 → (G3 E YX2_leastAsked Q 5 [(0, vR 14 0), (1, vI x1), (2, vI x2), (3, vI x3), (4, vI (x4 + 1))] [] M)) ∧ (M 18 x4 7 = 0 → ((-2147483648 ≤ x3 ∧ x3 ≤ 2147483647) ∧ ((-2147483648 ≤ (M 18 x4 9) + 1 ∧ (M 18 x4 9) + 1 ≤ 2147483647) ∧ (G3 E YX2_leastAsked Q 5 [(0, vR 14 0), (1, vI x1), (2, vI x2), (3, vI (max x3 ((M 18 x4 9) + 1))), (4, vI (x4 + 1))] [] M))))))))))))))))) :
    G3 E YX2_leastAsked Q 5 [(0, vR 14 0), (1, vI x1), (2, vI x2), (3, vI x3), (4, vI x4)] [] M := by
  refine g3_rm fun hM => ?_
  refine g3_iload 4 dX2_leastAsked_5 rfl (g3_aload_n 0 dX2_leastAsked_7 rfl rfl (g3_getI (t := 0) dX2_leastAsked_8 flX2_37 (z3 rfl) (z3 rfl) (g3_icmp_ge (tgt := 68) dX2_leastAsked_11 rfl h.1 (hM 14 0 0) (fun c => ?_) (fun c => ?_))))
  · have h1 := h; have h := h1.2.1 c
    have o1 := h1.1
    exact g3_iload_n 3 dX2_leastAsked_68 rfl rfl (g3_ireturn dX2_leastAsked_69 rfl h)
  · have h1 := h; have h := h1.2.2 c
    have o1 := h1.1
    refine g3_aload_n 0 dX2_leastAsked_14 rfl rfl (g3_getR0 (t := 15) dX2_leastAsked_15 flX2_13 rfl (z3 rfl) (g3_iload 4 dX2_leastAsked_18 rfl (g3_aald dX2_leastAsked_20 aq_15 h.1 (g3_astore (lv' := [(5, vR 18 x4), (0, vR 14 0), (1, vI x1), (2, vI x2), (3, vI x3), (4, vI x4)]) dX2_leastAsked_21 (z3 rfl) rfl (g3_aload_n 1 dX2_leastAsked_23 rfl rfl (g3_aload 0 dX2_leastAsked_24 rfl (g3_iload_n 2 dX2_leastAsked_26 rfl rfl (g3_cV2 dX2_leastAsked_27 myX2_isReadBy mlX2_157 (z3 rfl) ob_14 (z3 rfl) (z3 rfl) (c3_in rfl rfl (z3 rfl) (g3_aload_n 0 dX2_isReadBy_0 rfl rfl (g3_aload_n 1 dX2_isReadBy_1 rfl rfl (g3_cV1 dX2_isReadBy_2 myX2_isRead mlX2_122 (z3 rfl) ob_14 (z3 rfl) (z3 rfl) (kX2_isRead h.1 (g3_r1 (g3_bool_eq (tgt := 20) dX2_isReadBy_5 rfl (fun c => ?_) (fun c => ?_))))))))))))))))
    · have h1 := h; have h := h1.2.1 c
      have o2 := h1.1
      refine g3_iconst dX2_isReadBy_20 (g3_zreturn dX2_isReadBy_21 rfl (Or.inl rfl) (g3_r1 (g3_if_eq_T (tgt := 62) dX2_leastAsked_30 rfl (z3 rfl) (g3_iinc (lv' := [(4, vI (x4 + 1)), (5, vR 18 x4), (0, vR 14 0), (1, vI x1), (2, vI x2), (3, vI x3)]) 5 dX2_leastAsked_62 rfl (z3 rfl) rfl (g3_goto (tgt := 5) dX2_leastAsked_65 rfl (g3_sub [2, 3, 4, 5, 0] rfl h))))))
    · have h1 := h; have h := h1.2.2 c
      have o2 := h1.1
      refine g3_aload_n 1 dX2_isReadBy_8 rfl rfl (g3_getI (t := 0) dX2_isReadBy_9 flX2_71 (z3 rfl) o2 (g3_iload_n 2 dX2_isReadBy_12 rfl rfl (g3_icmp_ne (tgt := 20) dX2_isReadBy_13 rfl (hM 18 x4 6) h.1 (fun c => ?_) (fun c => ?_))))
      · have h1 := h; have h := h1.2.1 c
        have o3 := h1.1
        refine g3_iconst dX2_isReadBy_20 (g3_zreturn dX2_isReadBy_21 rfl (Or.inl rfl) (g3_r1 (g3_if_eq_T (tgt := 62) dX2_leastAsked_30 rfl (z3 rfl) (g3_iinc (lv' := [(4, vI (x4 + 1)), (5, vR 18 x4), (0, vR 14 0), (1, vI x1), (2, vI x2), (3, vI x3)]) 5 dX2_leastAsked_62 rfl (z3 rfl) rfl (g3_goto (tgt := 5) dX2_leastAsked_65 rfl (g3_sub [2, 3, 4, 5, 0] rfl h))))))
      · have h1 := h; have h := h1.2.2 c
        have o3 := h1.1
        refine g3_iconst dX2_isReadBy_16 (g3_goto (tgt := 21) dX2_isReadBy_17 rfl (g3_zreturn dX2_isReadBy_21 rfl (Or.inr rfl) (g3_r1 (g3_if_eq_F (tgt := 62) dX2_leastAsked_30 rfl (z3 rfl) (g3_aload 0 dX2_leastAsked_33 rfl (g3_getI (t := 0) dX2_leastAsked_35 flX2_55 (z3 rfl) o2 (g3_iload_n 3 dX2_leastAsked_38 rfl rfl (g3_icmp_ne (tgt := 62) dX2_leastAsked_39 rfl (hM 18 x4 1) h.1 (fun c => ?_) (fun c => ?_)))))))))
        · have h1 := h; have h := h1.2.1 c
          have o4 := h1.1
          refine g3_iinc (lv' := [(4, vI (x4 + 1)), (5, vR 18 x4), (0, vR 14 0), (1, vI x1), (2, vI x2), (3, vI x3)]) 5 dX2_leastAsked_62 rfl (z3 rfl) rfl (g3_goto (tgt := 5) dX2_leastAsked_65 rfl (g3_sub [2, 3, 4, 5, 0] rfl h))
        · have h1 := h; have h := h1.2.2 c
          have o4 := h1.1
          refine g3_aload 0 dX2_leastAsked_42 rfl (g3_getI (t := 0) dX2_leastAsked_44 flX2_77 (z3 rfl) o2 (g3_if_ne (tgt := 62) dX2_leastAsked_47 rfl (hM 18 x4 7) (fun c => ?_) (fun c => ?_)))
          · have h1 := h; have h := h1.1 c
            refine g3_iinc (lv' := [(4, vI (x4 + 1)), (5, vR 18 x4), (0, vR 14 0), (1, vI x1), (2, vI x2), (3, vI x3)]) 5 dX2_leastAsked_62 rfl (z3 rfl) rfl (g3_goto (tgt := 5) dX2_leastAsked_65 rfl (g3_sub [2, 3, 4, 5, 0] rfl h))
          · have h1 := h; have h := h1.2 c
            refine g3_iload_n 4 dX2_leastAsked_50 rfl rfl (g3_aload 0 dX2_leastAsked_51 rfl (g3_getI (t := 0) dX2_leastAsked_53 flX2_126 (z3 rfl) o2 (g3_iconst dX2_leastAsked_56 (g3_iadd dX2_leastAsked_57 (g3_max dX2_leastAsked_58 mlX2_160 (z3 rfl) (z3 rfl) h.1 h.2.1 (g3_istore_n (lv' := [(3, vI (max x3 ((M 18 x4 9) + 1))), (5, vR 18 x4), (0, vR 14 0), (1, vI x1), (2, vI x2), (4, vI x4)]) dX2_leastAsked_61 rfl (z3 rfl) rfl (g3_iinc (lv' := [(4, vI (x4 + 1)), (3, vI (max x3 ((M 18 x4 9) + 1))), (5, vR 18 x4), (0, vR 14 0), (1, vI x1), (2, vI x2)]) 5 dX2_leastAsked_62 rfl (z3 rfl) rfl (g3_goto (tgt := 5) dX2_leastAsked_65 rfl (g3_sub [3, 4, 5, 1, 0] rfl h.2.2)))))))))
set_option maxRecDepth 20000 in
set_option maxHeartbeats 200000 in
theorem sX2_mostAsked {E : E3} {Q : Q3} {M : M3} {x1 x2 : Int}
    (h : G3 E YX2_mostAsked Q 6 [(0, vR 14 0), (1, vI x1), (2, vI x2), (3, vI 21), (4, vI 0)] [] M) :
    C3 E YX2_mostAsked [vR 14 0, vI x1, vI x2] M Q := by
  refine c3_in rfl rfl (z3 rfl) (g3_rm fun hM => ?_)
  refine g3_bipush dX2_mostAsked_0 rfl (g3_istore_n (lv' := [(3, vI 21), (0, vR 14 0), (1, vI x1), (2, vI x2)]) dX2_mostAsked_2 rfl (z3 rfl) rfl (g3_iconst dX2_mostAsked_3 (g3_istore (lv' := [(4, vI 0), (3, vI 21), (0, vR 14 0), (1, vI x1), (2, vI x2)]) dX2_mostAsked_4 (z3 rfl) rfl (g3_sub [2, 3, 4, 1, 0] rfl h))))
set_option maxRecDepth 20000 in
set_option maxHeartbeats 200000 in
theorem sX2_mostAsked_6 {E : E3} {Q : Q3} {M : M3} {x1 : Int} {x2 : Int} {x3 : Int} {x4 : Int}
    (h : (-2147483648 ≤ x4 ∧ x4 ≤ 2147483647) ∧ ((M 14 0 0 ≤ x4 → (Q (some (vI x3)) M)) ∧ (x4 < M 14 0 0 → ((0 ≤ x4 ∧ x4 < 60) ∧ ((¬(M 18 x4 5 ≠ -1 ∧ M 18 x4 5 ≤ cTold M) → (G3 E YX2_mostAsked Q 6 [(0, vR 14 0), (1, vI x1), (2, vI x2), (3, vI x3), (4, vI (x4 + 1))] [] M)) ∧ ((M 18 x4 5 ≠ -1 ∧ M 18 x4 5 ≤ cTold M) → ((-2147483648 ≤ x1 ∧ x1 ≤ 2147483647) ∧ ((M 18 x4 6 ≠ x1 → (G3 E YX2_mostAsked Q 6 [(0, vR 14 0), (1, vI x1), (2, vI x2), (3, vI x3), (4, vI (x4 + 1))] [] M)) ∧ (M 18 x4 6 = x1 → ((-2147483648 ≤ x2 ∧ x2 ≤ 2147483647) ∧ ((M 18 x4 1 ≠ x2 → (G3 E YX2_mostAsked Q 6 [(0, vR 14 0), (1, vI x1), (2, vI x2), (3, vI x3), (4, vI (x4 + 1))] [] M)) ∧ (M 18 x4 1 = x2 → ((M 18 x4 7 = 0 → (G3 E YX2_mostAsked Q 6 [(0, vR 14 0), (1, vI x1), (2, vI x2), (3, vI x3), (4, vI (x4 + 1))] [] M)) ∧ (M 18 x4 7 ≠ 0 → ((-2147483648 ≤ x3 ∧ x3 ≤ 2147483647) ∧ (G3 E YX2_mostAsked Q 6 [(0, vR 14 0), (1, vI x1), (2, vI x2), (3, vI (min x3 (M 18 x4 9))), (4, vI (x4 + 1))] [] M)))))))))))))))) :
    G3 E YX2_mostAsked Q 6 [(0, vR 14 0), (1, vI x1), (2, vI x2), (3, vI x3), (4, vI x4)] [] M := by
  refine g3_rm fun hM => ?_
  refine g3_iload 4 dX2_mostAsked_6 rfl (g3_aload_n 0 dX2_mostAsked_8 rfl rfl (g3_getI (t := 0) dX2_mostAsked_9 flX2_37 (z3 rfl) (z3 rfl) (g3_icmp_ge (tgt := 67) dX2_mostAsked_12 rfl h.1 (hM 14 0 0) (fun c => ?_) (fun c => ?_))))
  · have h1 := h; have h := h1.2.1 c
    have o1 := h1.1
    exact g3_iload_n 3 dX2_mostAsked_67 rfl rfl (g3_ireturn dX2_mostAsked_68 rfl h)
  · have h1 := h; have h := h1.2.2 c
    have o1 := h1.1
    refine g3_aload_n 0 dX2_mostAsked_15 rfl rfl (g3_getR0 (t := 15) dX2_mostAsked_16 flX2_13 rfl (z3 rfl) (g3_iload 4 dX2_mostAsked_19 rfl (g3_aald dX2_mostAsked_21 aq_15 h.1 (g3_astore (lv' := [(5, vR 18 x4), (0, vR 14 0), (1, vI x1), (2, vI x2), (3, vI x3), (4, vI x4)]) dX2_mostAsked_22 (z3 rfl) rfl (g3_aload_n 1 dX2_mostAsked_24 rfl rfl (g3_aload 0 dX2_mostAsked_25 rfl (g3_iload_n 2 dX2_mostAsked_27 rfl rfl (g3_cV2 dX2_mostAsked_28 myX2_isReadBy mlX2_157 (z3 rfl) ob_14 (z3 rfl) (z3 rfl) (c3_in rfl rfl (z3 rfl) (g3_aload_n 0 dX2_isReadBy_0 rfl rfl (g3_aload_n 1 dX2_isReadBy_1 rfl rfl (g3_cV1 dX2_isReadBy_2 myX2_isRead mlX2_122 (z3 rfl) ob_14 (z3 rfl) (z3 rfl) (kX2_isRead h.1 (g3_r1 (g3_bool_eq (tgt := 20) dX2_isReadBy_5 rfl (fun c => ?_) (fun c => ?_))))))))))))))))
    · have h1 := h; have h := h1.2.1 c
      have o2 := h1.1
      refine g3_iconst dX2_isReadBy_20 (g3_zreturn dX2_isReadBy_21 rfl (Or.inl rfl) (g3_r1 (g3_if_eq_T (tgt := 61) dX2_mostAsked_31 rfl (z3 rfl) (g3_iinc (lv' := [(4, vI (x4 + 1)), (5, vR 18 x4), (0, vR 14 0), (1, vI x1), (2, vI x2), (3, vI x3)]) 5 dX2_mostAsked_61 rfl (z3 rfl) rfl (g3_goto (tgt := 6) dX2_mostAsked_64 rfl (g3_sub [2, 3, 4, 5, 0] rfl h))))))
    · have h1 := h; have h := h1.2.2 c
      have o2 := h1.1
      refine g3_aload_n 1 dX2_isReadBy_8 rfl rfl (g3_getI (t := 0) dX2_isReadBy_9 flX2_71 (z3 rfl) o2 (g3_iload_n 2 dX2_isReadBy_12 rfl rfl (g3_icmp_ne (tgt := 20) dX2_isReadBy_13 rfl (hM 18 x4 6) h.1 (fun c => ?_) (fun c => ?_))))
      · have h1 := h; have h := h1.2.1 c
        have o3 := h1.1
        refine g3_iconst dX2_isReadBy_20 (g3_zreturn dX2_isReadBy_21 rfl (Or.inl rfl) (g3_r1 (g3_if_eq_T (tgt := 61) dX2_mostAsked_31 rfl (z3 rfl) (g3_iinc (lv' := [(4, vI (x4 + 1)), (5, vR 18 x4), (0, vR 14 0), (1, vI x1), (2, vI x2), (3, vI x3)]) 5 dX2_mostAsked_61 rfl (z3 rfl) rfl (g3_goto (tgt := 6) dX2_mostAsked_64 rfl (g3_sub [2, 3, 4, 5, 0] rfl h))))))
      · have h1 := h; have h := h1.2.2 c
        have o3 := h1.1
        refine g3_iconst dX2_isReadBy_16 (g3_goto (tgt := 21) dX2_isReadBy_17 rfl (g3_zreturn dX2_isReadBy_21 rfl (Or.inr rfl) (g3_r1 (g3_if_eq_F (tgt := 61) dX2_mostAsked_31 rfl (z3 rfl) (g3_aload 0 dX2_mostAsked_34 rfl (g3_getI (t := 0) dX2_mostAsked_36 flX2_55 (z3 rfl) o2 (g3_iload_n 3 dX2_mostAsked_39 rfl rfl (g3_icmp_ne (tgt := 61) dX2_mostAsked_40 rfl (hM 18 x4 1) h.1 (fun c => ?_) (fun c => ?_)))))))))
        · have h1 := h; have h := h1.2.1 c
          have o4 := h1.1
          refine g3_iinc (lv' := [(4, vI (x4 + 1)), (5, vR 18 x4), (0, vR 14 0), (1, vI x1), (2, vI x2), (3, vI x3)]) 5 dX2_mostAsked_61 rfl (z3 rfl) rfl (g3_goto (tgt := 6) dX2_mostAsked_64 rfl (g3_sub [2, 3, 4, 5, 0] rfl h))
        · have h1 := h; have h := h1.2.2 c
          have o4 := h1.1
          refine g3_aload 0 dX2_mostAsked_43 rfl (g3_getI (t := 0) dX2_mostAsked_45 flX2_77 (z3 rfl) o2 (g3_if_eq (tgt := 61) dX2_mostAsked_48 rfl (hM 18 x4 7) (fun c => ?_) (fun c => ?_)))
          · have h1 := h; have h := h1.1 c
            refine g3_iinc (lv' := [(4, vI (x4 + 1)), (5, vR 18 x4), (0, vR 14 0), (1, vI x1), (2, vI x2), (3, vI x3)]) 5 dX2_mostAsked_61 rfl (z3 rfl) rfl (g3_goto (tgt := 6) dX2_mostAsked_64 rfl (g3_sub [2, 3, 4, 5, 0] rfl h))
          · have h1 := h; have h := h1.2 c
            refine g3_iload_n 4 dX2_mostAsked_51 rfl rfl (g3_aload 0 dX2_mostAsked_52 rfl (g3_getI (t := 0) dX2_mostAsked_54 flX2_126 (z3 rfl) o2 (g3_min dX2_mostAsked_57 mlX2_165 (z3 rfl) (z3 rfl) h.1 (hM 18 x4 9) (g3_istore_n (lv' := [(3, vI (min x3 (M 18 x4 9))), (5, vR 18 x4), (0, vR 14 0), (1, vI x1), (2, vI x2), (4, vI x4)]) dX2_mostAsked_60 rfl (z3 rfl) rfl (g3_iinc (lv' := [(4, vI (x4 + 1)), (3, vI (min x3 (M 18 x4 9))), (5, vR 18 x4), (0, vR 14 0), (1, vI x1), (2, vI x2)]) 5 dX2_mostAsked_61 rfl (z3 rfl) rfl (g3_goto (tgt := 6) dX2_mostAsked_64 rfl (g3_sub [3, 4, 5, 1, 0] rfl h.2)))))))
set_option maxRecDepth 20000 in
set_option maxHeartbeats 200000 in
theorem sX2_unlikePairs {E : E3} {Q : Q3} {M : M3} {x1 : Int}
    (h : G3 E YX2_unlikePairs Q 4 [(0, vR 14 0), (1, vI x1), (2, vI 0), (3, vI 0)] [] M) :
    C3 E YX2_unlikePairs [vR 14 0, vI x1] M Q := by
  refine c3_in rfl rfl (z3 rfl) (g3_rm fun hM => ?_)
  refine g3_iconst dX2_unlikePairs_0 (g3_istore_n (lv' := [(2, vI 0), (0, vR 14 0), (1, vI x1)]) dX2_unlikePairs_1 rfl (z3 rfl) rfl (g3_iconst dX2_unlikePairs_2 (g3_istore_n (lv' := [(3, vI 0), (2, vI 0), (0, vR 14 0), (1, vI x1)]) dX2_unlikePairs_3 rfl (z3 rfl) rfl (g3_sub [2, 3, 1, 0] rfl h))))
set_option maxRecDepth 20000 in
set_option maxHeartbeats 200000 in
theorem sX2_unlikePairs_4 {E : E3} {Q : Q3} {M : M3} {x1 : Int} {x2 : Int} {x3 : Int}
    (h : (-2147483648 ≤ x3 ∧ x3 ≤ 2147483647) ∧ ((M 14 0 0 ≤ x3 → (Q (some (vI x2)) M)) ∧ (x3 < M 14 0 0 → ((0 ≤ x3 ∧ x3 < 60) ∧ ((¬(M 18 x3 5 ≠ -1 ∧ M 18 x3 5 ≤ cTold M) → (G3 E YX2_unlikePairs Q 4 [(0, vR 14 0), (1, vI x1), (2, vI x2), (3, vI (x3 + 1))] [] M)) ∧ ((M 18 x3 5 ≠ -1 ∧ M 18 x3 5 ≤ cTold M) → ((-2147483648 ≤ x1 ∧ x1 ≤ 2147483647) ∧ ((M 18 x3 6 ≠ x1 → (G3 E YX2_unlikePairs Q 4 [(0, vR 14 0), (1, vI x1), (2, vI x2), (3, vI (x3 + 1))] [] M)) ∧ (M 18 x3 6 = x1 → ((M 18 x3 7 ≠ 0 → (G3 E YX2_unlikePairs Q 44 [(0, vR 14 0), (1, vI x1), (2, vI x2), (3, vI x3), (4, vI 0)] [] M)) ∧ (M 18 x3 7 = 0 → (G3 E YX2_unlikePairs Q 4 [(0, vR 14 0), (1, vI x1), (2, vI x2), (3, vI (x3 + 1))] [] M)))))))))))) :
    G3 E YX2_unlikePairs Q 4 [(0, vR 14 0), (1, vI x1), (2, vI x2), (3, vI x3)] [] M := by
  refine g3_rm fun hM => ?_
  refine g3_iload_n 3 dX2_unlikePairs_4 rfl rfl (g3_aload_n 0 dX2_unlikePairs_5 rfl rfl (g3_getI (t := 0) dX2_unlikePairs_6 flX2_37 (z3 rfl) (z3 rfl) (g3_icmp_ge (tgt := 89) dX2_unlikePairs_9 rfl h.1 (hM 14 0 0) (fun c => ?_) (fun c => ?_))))
  · have h1 := h; have h := h1.2.1 c
    have o1 := h1.1
    exact g3_iload_n 2 dX2_unlikePairs_89 rfl rfl (g3_ireturn dX2_unlikePairs_90 rfl h)
  · have h1 := h; have h := h1.2.2 c
    have o1 := h1.1
    refine g3_aload_n 0 dX2_unlikePairs_12 rfl rfl (g3_aload_n 0 dX2_unlikePairs_13 rfl rfl (g3_getR0 (t := 15) dX2_unlikePairs_14 flX2_13 rfl (z3 rfl) (g3_iload_n 3 dX2_unlikePairs_17 rfl rfl (g3_aald dX2_unlikePairs_18 aq_15 h.1 (g3_iload_n 1 dX2_unlikePairs_19 rfl rfl (g3_cV2 dX2_unlikePairs_20 myX2_isReadBy mlX2_157 (z3 rfl) ob_14 (z3 rfl) (z3 rfl) (c3_in rfl rfl (z3 rfl) (g3_aload_n 0 dX2_isReadBy_0 rfl rfl (g3_aload_n 1 dX2_isReadBy_1 rfl rfl (g3_cV1 dX2_isReadBy_2 myX2_isRead mlX2_122 (z3 rfl) ob_14 (z3 rfl) (z3 rfl) (kX2_isRead h.1 (g3_r1 (g3_bool_eq (tgt := 20) dX2_isReadBy_5 rfl (fun c => ?_) (fun c => ?_))))))))))))))
    · have h1 := h; have h := h1.2.1 c
      have o2 := h1.1
      refine g3_iconst dX2_isReadBy_20 (g3_zreturn dX2_isReadBy_21 rfl (Or.inl rfl) (g3_r1 (g3_if_eq_T (tgt := 83) dX2_unlikePairs_23 rfl (z3 rfl) (g3_iinc (lv' := [(3, vI (x3 + 1)), (0, vR 14 0), (1, vI x1), (2, vI x2)]) 3 dX2_unlikePairs_83 rfl (z3 rfl) rfl (g3_goto (tgt := 4) dX2_unlikePairs_86 rfl (g3_sub [1, 2, 3, 0] rfl h))))))
    · have h1 := h; have h := h1.2.2 c
      have o2 := h1.1
      refine g3_aload_n 1 dX2_isReadBy_8 rfl rfl (g3_getI (t := 0) dX2_isReadBy_9 flX2_71 (z3 rfl) o2 (g3_iload_n 2 dX2_isReadBy_12 rfl rfl (g3_icmp_ne (tgt := 20) dX2_isReadBy_13 rfl (hM 18 x3 6) h.1 (fun c => ?_) (fun c => ?_))))
      · have h1 := h; have h := h1.2.1 c
        have o3 := h1.1
        refine g3_iconst dX2_isReadBy_20 (g3_zreturn dX2_isReadBy_21 rfl (Or.inl rfl) (g3_r1 (g3_if_eq_T (tgt := 83) dX2_unlikePairs_23 rfl (z3 rfl) (g3_iinc (lv' := [(3, vI (x3 + 1)), (0, vR 14 0), (1, vI x1), (2, vI x2)]) 3 dX2_unlikePairs_83 rfl (z3 rfl) rfl (g3_goto (tgt := 4) dX2_unlikePairs_86 rfl (g3_sub [1, 2, 3, 0] rfl h))))))
      · have h1 := h; have h := h1.2.2 c
        have o3 := h1.1
        refine g3_iconst dX2_isReadBy_16 (g3_goto (tgt := 21) dX2_isReadBy_17 rfl (g3_zreturn dX2_isReadBy_21 rfl (Or.inr rfl) (g3_r1 (g3_if_eq_F (tgt := 83) dX2_unlikePairs_23 rfl (z3 rfl) (g3_aload_n 0 dX2_unlikePairs_26 rfl rfl (g3_getR0 (t := 15) dX2_unlikePairs_27 flX2_13 rfl (z3 rfl) (g3_iload_n 3 dX2_unlikePairs_30 rfl rfl (g3_aald dX2_unlikePairs_31 aq_15 o2 (g3_getI (t := 0) dX2_unlikePairs_32 flX2_77 (z3 rfl) o2 (g3_if_ne (tgt := 41) dX2_unlikePairs_35 rfl (hM 18 x3 7) (fun c => ?_) (fun c => ?_)))))))))))
        · have h1 := h; have h := h1.1 c
          refine g3_iconst dX2_unlikePairs_41 (g3_istore (lv' := [(4, vI 0), (0, vR 14 0), (1, vI x1), (2, vI x2), (3, vI x3)]) dX2_unlikePairs_42 (z3 rfl) rfl (g3_sub [1, 2, 3, 4, 0] rfl h))
        · have h1 := h; have h := h1.2 c
          refine g3_goto (tgt := 83) dX2_unlikePairs_38 rfl (g3_iinc (lv' := [(3, vI (x3 + 1)), (0, vR 14 0), (1, vI x1), (2, vI x2)]) 3 dX2_unlikePairs_83 rfl (z3 rfl) rfl (g3_goto (tgt := 4) dX2_unlikePairs_86 rfl (g3_sub [1, 2, 3, 0] rfl h)))
set_option maxRecDepth 20000 in
set_option maxHeartbeats 200000 in
theorem sX2_unlikePairs_44 {E : E3} {Q : Q3} {M : M3} {x1 : Int} {x2 : Int} {x3 : Int} {x4 : Int}
    (h : (-2147483648 ≤ x4 ∧ x4 ≤ 2147483647) ∧ ((M 14 0 0 ≤ x4 → (G3 E YX2_unlikePairs Q 4 [(0, vR 14 0), (1, vI x1), (2, vI x2), (3, vI (x3 + 1))] [] M)) ∧ (x4 < M 14 0 0 → ((0 ≤ x3 ∧ x3 < 60) ∧ ((0 ≤ x4 ∧ x4 < 60) ∧ ((¬(M 18 x4 5 ≠ -1 ∧ M 18 x4 5 ≤ cTold M) → (G3 E YX2_unlikePairs Q 44 [(0, vR 14 0), (1, vI x1), (2, vI x2), (3, vI x3), (4, vI (x4 + 1))] [] M)) ∧ ((M 18 x4 5 ≠ -1 ∧ M 18 x4 5 ≤ cTold M) → ((-2147483648 ≤ x1 ∧ x1 ≤ 2147483647) ∧ ((M 18 x4 6 ≠ x1 → (G3 E YX2_unlikePairs Q 44 [(0, vR 14 0), (1, vI x1), (2, vI x2), (3, vI x3), (4, vI (x4 + 1))] [] M)) ∧ (M 18 x4 6 = x1 → ((M 18 x4 7 ≠ 0 → (G3 E YX2_unlikePairs Q 44 [(0, vR 14 0), (1, vI x1), (2, vI x2), (3, vI x3), (4, vI (x4 + 1))] [] M)) ∧ (M 18 x4 7 = 0 → ((M 18 x3 1 = M 18 x4 1 → (G3 E YX2_unlikePairs Q 44 [(0, vR 14 0), (1, vI x1), (2, vI x2), (3, vI x3), (4, vI (x4 + 1))] [] M)) ∧ (M 18 x3 1 ≠ M 18 x4 1 → ((M 18 x4 9 < M 18 x3 9 → (G3 E YX2_unlikePairs Q 44 [(0, vR 14 0), (1, vI x1), (2, vI x2), (3, vI x3), (4, vI (x4 + 1))] [] M)) ∧ (M 18 x3 9 ≤ M 18 x4 9 → (G3 E YX2_unlikePairs Q 44 [(0, vR 14 0), (1, vI x1), (2, vI (x2 + 1)), (3, vI x3), (4, vI (x4 + 1))] [] M))))))))))))))))) :
    G3 E YX2_unlikePairs Q 44 [(0, vR 14 0), (1, vI x1), (2, vI x2), (3, vI x3), (4, vI x4)] [] M := by
  refine g3_rm fun hM => ?_
  refine g3_iload 4 dX2_unlikePairs_44 rfl (g3_aload_n 0 dX2_unlikePairs_46 rfl rfl (g3_getI (t := 0) dX2_unlikePairs_47 flX2_37 (z3 rfl) (z3 rfl) (g3_icmp_ge (tgt := 83) dX2_unlikePairs_50 rfl h.1 (hM 14 0 0) (fun c => ?_) (fun c => ?_))))
  · have h1 := h; have h := h1.2.1 c
    have o1 := h1.1
    refine g3_iinc (lv' := [(3, vI (x3 + 1)), (0, vR 14 0), (1, vI x1), (2, vI x2), (4, vI x4)]) 3 dX2_unlikePairs_83 rfl (z3 rfl) rfl (g3_goto (tgt := 4) dX2_unlikePairs_86 rfl (g3_sub [1, 2, 3, 0] rfl h))
  · have h1 := h; have h := h1.2.2 c
    have o1 := h1.1
    refine g3_aload_n 0 dX2_unlikePairs_53 rfl rfl (g3_aload_n 0 dX2_unlikePairs_54 rfl rfl (g3_getR0 (t := 15) dX2_unlikePairs_55 flX2_13 rfl (z3 rfl) (g3_iload_n 3 dX2_unlikePairs_58 rfl rfl (g3_aald dX2_unlikePairs_59 aq_15 h.1 (g3_aload_n 0 dX2_unlikePairs_60 rfl rfl (g3_getR0 (t := 15) dX2_unlikePairs_61 flX2_13 rfl (z3 rfl) (g3_iload 4 dX2_unlikePairs_64 rfl (g3_aald dX2_unlikePairs_66 aq_15 h.2.1 (g3_iload_n 1 dX2_unlikePairs_67 rfl rfl (g3_cV3 dX2_unlikePairs_68 myX2_isUnlike mlX2_177 (z3 rfl) ob_14 (z3 rfl) (z3 rfl) (c3_in rfl rfl (z3 rfl) (g3_aload_n 0 dX2_isUnlike_0 rfl rfl (g3_aload_n 2 dX2_isUnlike_1 rfl rfl (g3_iload_n 3 dX2_isUnlike_2 rfl rfl (g3_cV2 dX2_isUnlike_3 myX2_isReadBy mlX2_157 (z3 rfl) ob_14 (z3 rfl) (z3 rfl) (c3_in rfl rfl (z3 rfl) (g3_aload_n 0 dX2_isReadBy_0 rfl rfl (g3_aload_n 1 dX2_isReadBy_1 rfl rfl (g3_cV1 dX2_isReadBy_2 myX2_isRead mlX2_122 (z3 rfl) ob_14 (z3 rfl) (z3 rfl) (kX2_isRead h.2.1 (g3_r1 (g3_bool_eq (tgt := 20) dX2_isReadBy_5 rfl (fun c => ?_) (fun c => ?_)))))))))))))))))))))))
    · have h1 := h; have h := h1.2.2.1 c
      have o2 := h1.1
      have o3 := h1.2.1
      refine g3_iconst dX2_isReadBy_20 (g3_zreturn dX2_isReadBy_21 rfl (Or.inl rfl) (g3_r1 (g3_if_eq_T (tgt := 42) dX2_isUnlike_6 rfl (z3 rfl) (g3_iconst dX2_isUnlike_42 (g3_zreturn dX2_isUnlike_43 rfl (Or.inl rfl) (g3_r1 (g3_if_eq_T (tgt := 77) dX2_unlikePairs_71 rfl (z3 rfl) (g3_iinc (lv' := [(4, vI (x4 + 1)), (0, vR 14 0), (1, vI x1), (2, vI x2), (3, vI x3)]) 4 dX2_unlikePairs_77 rfl (z3 rfl) rfl (g3_goto (tgt := 44) dX2_unlikePairs_80 rfl (g3_sub [1, 2, 3, 4, 0] rfl h))))))))))
    · have h1 := h; have h := h1.2.2.2 c
      have o2 := h1.1
      have o3 := h1.2.1
      refine g3_aload_n 1 dX2_isReadBy_8 rfl rfl (g3_getI (t := 0) dX2_isReadBy_9 flX2_71 (z3 rfl) o3 (g3_iload_n 2 dX2_isReadBy_12 rfl rfl (g3_icmp_ne (tgt := 20) dX2_isReadBy_13 rfl (hM 18 x4 6) h.1 (fun c => ?_) (fun c => ?_))))
      · have h1 := h; have h := h1.2.1 c
        have o4 := h1.1
        refine g3_iconst dX2_isReadBy_20 (g3_zreturn dX2_isReadBy_21 rfl (Or.inl rfl) (g3_r1 (g3_if_eq_T (tgt := 42) dX2_isUnlike_6 rfl (z3 rfl) (g3_iconst dX2_isUnlike_42 (g3_zreturn dX2_isUnlike_43 rfl (Or.inl rfl) (g3_r1 (g3_if_eq_T (tgt := 77) dX2_unlikePairs_71 rfl (z3 rfl) (g3_iinc (lv' := [(4, vI (x4 + 1)), (0, vR 14 0), (1, vI x1), (2, vI x2), (3, vI x3)]) 4 dX2_unlikePairs_77 rfl (z3 rfl) rfl (g3_goto (tgt := 44) dX2_unlikePairs_80 rfl (g3_sub [1, 2, 3, 4, 0] rfl h))))))))))
      · have h1 := h; have h := h1.2.2 c
        have o4 := h1.1
        refine g3_iconst dX2_isReadBy_16 (g3_goto (tgt := 21) dX2_isReadBy_17 rfl (g3_zreturn dX2_isReadBy_21 rfl (Or.inr rfl) (g3_r1 (g3_if_eq_F (tgt := 42) dX2_isUnlike_6 rfl (z3 rfl) (g3_aload_n 2 dX2_isUnlike_9 rfl rfl (g3_getI (t := 0) dX2_isUnlike_10 flX2_77 (z3 rfl) o3 (g3_if_ne (tgt := 42) dX2_isUnlike_13 rfl (hM 18 x4 7) (fun c => ?_) (fun c => ?_))))))))
        · have h1 := h; have h := h1.1 c
          refine g3_iconst dX2_isUnlike_42 (g3_zreturn dX2_isUnlike_43 rfl (Or.inl rfl) (g3_r1 (g3_if_eq_T (tgt := 77) dX2_unlikePairs_71 rfl (z3 rfl) (g3_iinc (lv' := [(4, vI (x4 + 1)), (0, vR 14 0), (1, vI x1), (2, vI x2), (3, vI x3)]) 4 dX2_unlikePairs_77 rfl (z3 rfl) rfl (g3_goto (tgt := 44) dX2_unlikePairs_80 rfl (g3_sub [1, 2, 3, 4, 0] rfl h))))))
        · have h1 := h; have h := h1.2 c
          refine g3_aload_n 1 dX2_isUnlike_16 rfl rfl (g3_getI (t := 0) dX2_isUnlike_17 flX2_55 (z3 rfl) o2 (g3_aload_n 2 dX2_isUnlike_20 rfl rfl (g3_getI (t := 0) dX2_isUnlike_21 flX2_55 (z3 rfl) o3 (g3_icmp_eq (tgt := 42) dX2_isUnlike_24 rfl (hM 18 x3 1) (hM 18 x4 1) (fun c => ?_) (fun c => ?_)))))
          · have h1 := h; have h := h1.1 c
            refine g3_iconst dX2_isUnlike_42 (g3_zreturn dX2_isUnlike_43 rfl (Or.inl rfl) (g3_r1 (g3_if_eq_T (tgt := 77) dX2_unlikePairs_71 rfl (z3 rfl) (g3_iinc (lv' := [(4, vI (x4 + 1)), (0, vR 14 0), (1, vI x1), (2, vI x2), (3, vI x3)]) 4 dX2_unlikePairs_77 rfl (z3 rfl) rfl (g3_goto (tgt := 44) dX2_unlikePairs_80 rfl (g3_sub [1, 2, 3, 4, 0] rfl h))))))
          · have h1 := h; have h := h1.2 c
            refine g3_aload_n 2 dX2_isUnlike_27 rfl rfl (g3_getI (t := 0) dX2_isUnlike_28 flX2_126 (z3 rfl) o3 (g3_aload_n 1 dX2_isUnlike_31 rfl rfl (g3_getI (t := 0) dX2_isUnlike_32 flX2_126 (z3 rfl) o2 (g3_icmp_lt (tgt := 42) dX2_isUnlike_35 rfl (hM 18 x4 9) (hM 18 x3 9) (fun c => ?_) (fun c => ?_)))))
            · have h1 := h; have h := h1.1 c
              refine g3_iconst dX2_isUnlike_42 (g3_zreturn dX2_isUnlike_43 rfl (Or.inl rfl) (g3_r1 (g3_if_eq_T (tgt := 77) dX2_unlikePairs_71 rfl (z3 rfl) (g3_iinc (lv' := [(4, vI (x4 + 1)), (0, vR 14 0), (1, vI x1), (2, vI x2), (3, vI x3)]) 4 dX2_unlikePairs_77 rfl (z3 rfl) rfl (g3_goto (tgt := 44) dX2_unlikePairs_80 rfl (g3_sub [1, 2, 3, 4, 0] rfl h))))))
            · have h1 := h; have h := h1.2 c
              refine g3_iconst dX2_isUnlike_38 (g3_goto (tgt := 43) dX2_isUnlike_39 rfl (g3_zreturn dX2_isUnlike_43 rfl (Or.inr rfl) (g3_r1 (g3_if_eq_F (tgt := 77) dX2_unlikePairs_71 rfl (z3 rfl) (g3_iinc (lv' := [(2, vI (x2 + 1)), (0, vR 14 0), (1, vI x1), (3, vI x3), (4, vI x4)]) 2 dX2_unlikePairs_74 rfl (z3 rfl) rfl (g3_iinc (lv' := [(4, vI (x4 + 1)), (2, vI (x2 + 1)), (0, vR 14 0), (1, vI x1), (3, vI x3)]) 4 dX2_unlikePairs_77 rfl (z3 rfl) rfl (g3_goto (tgt := 44) dX2_unlikePairs_80 rfl (g3_sub [2, 3, 1, 4, 0] rfl h))))))))
set_option maxRecDepth 20000 in
set_option maxHeartbeats 200000 in
theorem sX2_firstUnlikePair {E : E3} {Q : Q3} {M : M3} {x1 : Int}
    (h : G3 E YX2_firstUnlikePair Q 2 [(0, vR 14 0), (1, vI x1), (2, vI 0)] [] M) :
    C3 E YX2_firstUnlikePair [vR 14 0, vI x1] M Q := by
  refine c3_in rfl rfl (z3 rfl) (g3_rm fun hM => ?_)
  refine g3_iconst dX2_firstUnlikePair_0 (g3_istore_n (lv' := [(2, vI 0), (0, vR 14 0), (1, vI x1)]) dX2_firstUnlikePair_1 rfl (z3 rfl) rfl (g3_sub [1, 2, 0] rfl h))
set_option maxRecDepth 20000 in
set_option maxHeartbeats 200000 in
theorem sX2_firstUnlikePair_2 {E : E3} {Q : Q3} {M : M3} {x1 : Int} {x2 : Int}
    (h : (-2147483648 ≤ x2 ∧ x2 ≤ 2147483647) ∧ ((M 14 0 0 ≤ x2 → (Q (some (vI (-1))) M)) ∧ (x2 < M 14 0 0 → ((0 ≤ x2 ∧ x2 < 60) ∧ ((¬(M 18 x2 5 ≠ -1 ∧ M 18 x2 5 ≤ cTold M) → (G3 E YX2_firstUnlikePair Q 2 [(0, vR 14 0), (1, vI x1), (2, vI (x2 + 1))] [] M)) ∧ ((M 18 x2 5 ≠ -1 ∧ M 18 x2 5 ≤ cTold M) → ((-2147483648 ≤ x1 ∧ x1 ≤ 2147483647) ∧ ((M 18 x2 6 ≠ x1 → (G3 E YX2_firstUnlikePair Q 2 [(0, vR 14 0), (1, vI x1), (2, vI (x2 + 1))] [] M)) ∧ (M 18 x2 6 = x1 → ((M 18 x2 7 ≠ 0 → (G3 E YX2_firstUnlikePair Q 41 [(0, vR 14 0), (1, vI x1), (2, vI x2), (3, vI 0)] [] M)) ∧ (M 18 x2 7 = 0 → (G3 E YX2_firstUnlikePair Q 2 [(0, vR 14 0), (1, vI x1), (2, vI (x2 + 1))] [] M)))))))))))) :
    G3 E YX2_firstUnlikePair Q 2 [(0, vR 14 0), (1, vI x1), (2, vI x2)] [] M := by
  refine g3_rm fun hM => ?_
  refine g3_iload_n 2 dX2_firstUnlikePair_2 rfl rfl (g3_aload_n 0 dX2_firstUnlikePair_3 rfl rfl (g3_getI (t := 0) dX2_firstUnlikePair_4 flX2_37 (z3 rfl) (z3 rfl) (g3_icmp_ge (tgt := 88) dX2_firstUnlikePair_7 rfl h.1 (hM 14 0 0) (fun c => ?_) (fun c => ?_))))
  · have h1 := h; have h := h1.2.1 c
    have o1 := h1.1
    exact g3_iconst dX2_firstUnlikePair_88 (g3_ireturn dX2_firstUnlikePair_89 rfl h)
  · have h1 := h; have h := h1.2.2 c
    have o1 := h1.1
    refine g3_aload_n 0 dX2_firstUnlikePair_10 rfl rfl (g3_aload_n 0 dX2_firstUnlikePair_11 rfl rfl (g3_getR0 (t := 15) dX2_firstUnlikePair_12 flX2_13 rfl (z3 rfl) (g3_iload_n 2 dX2_firstUnlikePair_15 rfl rfl (g3_aald dX2_firstUnlikePair_16 aq_15 h.1 (g3_iload_n 1 dX2_firstUnlikePair_17 rfl rfl (g3_cV2 dX2_firstUnlikePair_18 myX2_isReadBy mlX2_157 (z3 rfl) ob_14 (z3 rfl) (z3 rfl) (c3_in rfl rfl (z3 rfl) (g3_aload_n 0 dX2_isReadBy_0 rfl rfl (g3_aload_n 1 dX2_isReadBy_1 rfl rfl (g3_cV1 dX2_isReadBy_2 myX2_isRead mlX2_122 (z3 rfl) ob_14 (z3 rfl) (z3 rfl) (kX2_isRead h.1 (g3_r1 (g3_bool_eq (tgt := 20) dX2_isReadBy_5 rfl (fun c => ?_) (fun c => ?_))))))))))))))
    · have h1 := h; have h := h1.2.1 c
      have o2 := h1.1
      refine g3_iconst dX2_isReadBy_20 (g3_zreturn dX2_isReadBy_21 rfl (Or.inl rfl) (g3_r1 (g3_if_eq_T (tgt := 82) dX2_firstUnlikePair_21 rfl (z3 rfl) (g3_iinc (lv' := [(2, vI (x2 + 1)), (0, vR 14 0), (1, vI x1)]) 2 dX2_firstUnlikePair_82 rfl (z3 rfl) rfl (g3_goto (tgt := 2) dX2_firstUnlikePair_85 rfl (g3_sub [1, 2, 0] rfl h))))))
    · have h1 := h; have h := h1.2.2 c
      have o2 := h1.1
      refine g3_aload_n 1 dX2_isReadBy_8 rfl rfl (g3_getI (t := 0) dX2_isReadBy_9 flX2_71 (z3 rfl) o2 (g3_iload_n 2 dX2_isReadBy_12 rfl rfl (g3_icmp_ne (tgt := 20) dX2_isReadBy_13 rfl (hM 18 x2 6) h.1 (fun c => ?_) (fun c => ?_))))
      · have h1 := h; have h := h1.2.1 c
        have o3 := h1.1
        refine g3_iconst dX2_isReadBy_20 (g3_zreturn dX2_isReadBy_21 rfl (Or.inl rfl) (g3_r1 (g3_if_eq_T (tgt := 82) dX2_firstUnlikePair_21 rfl (z3 rfl) (g3_iinc (lv' := [(2, vI (x2 + 1)), (0, vR 14 0), (1, vI x1)]) 2 dX2_firstUnlikePair_82 rfl (z3 rfl) rfl (g3_goto (tgt := 2) dX2_firstUnlikePair_85 rfl (g3_sub [1, 2, 0] rfl h))))))
      · have h1 := h; have h := h1.2.2 c
        have o3 := h1.1
        refine g3_iconst dX2_isReadBy_16 (g3_goto (tgt := 21) dX2_isReadBy_17 rfl (g3_zreturn dX2_isReadBy_21 rfl (Or.inr rfl) (g3_r1 (g3_if_eq_F (tgt := 82) dX2_firstUnlikePair_21 rfl (z3 rfl) (g3_aload_n 0 dX2_firstUnlikePair_24 rfl rfl (g3_getR0 (t := 15) dX2_firstUnlikePair_25 flX2_13 rfl (z3 rfl) (g3_iload_n 2 dX2_firstUnlikePair_28 rfl rfl (g3_aald dX2_firstUnlikePair_29 aq_15 o2 (g3_getI (t := 0) dX2_firstUnlikePair_30 flX2_77 (z3 rfl) o2 (g3_if_ne (tgt := 39) dX2_firstUnlikePair_33 rfl (hM 18 x2 7) (fun c => ?_) (fun c => ?_)))))))))))
        · have h1 := h; have h := h1.1 c
          refine g3_iconst dX2_firstUnlikePair_39 (g3_istore_n (lv' := [(3, vI 0), (0, vR 14 0), (1, vI x1), (2, vI x2)]) dX2_firstUnlikePair_40 rfl (z3 rfl) rfl (g3_sub [1, 2, 3, 0] rfl h))
        · have h1 := h; have h := h1.2 c
          refine g3_goto (tgt := 82) dX2_firstUnlikePair_36 rfl (g3_iinc (lv' := [(2, vI (x2 + 1)), (0, vR 14 0), (1, vI x1)]) 2 dX2_firstUnlikePair_82 rfl (z3 rfl) rfl (g3_goto (tgt := 2) dX2_firstUnlikePair_85 rfl (g3_sub [1, 2, 0] rfl h)))
set_option maxRecDepth 20000 in
set_option maxHeartbeats 200000 in
theorem sX2_firstUnlikePair_41 {E : E3} {Q : Q3} {M : M3} {x1 : Int} {x2 : Int} {x3 : Int}
    (h : (-2147483648 ≤ x3 ∧ x3 ≤ 2147483647) ∧ ((M 14 0 0 ≤ x3 → (G3 E YX2_firstUnlikePair Q 2 [(0, vR 14 0), (1, vI x1), (2, vI (x2 + 1))] [] M)) ∧ (x3 < M 14 0 0 → ((0 ≤ x2 ∧ x2 < 60) ∧ ((0 ≤ x3 ∧ x3 < 60) ∧ ((¬(M 18 x3 5 ≠ -1 ∧ M 18 x3 5 ≤ cTold M) → (G3 E YX2_firstUnlikePair Q 41 [(0, vR 14 0), (1, vI x1), (2, vI x2), (3, vI (x3 + 1))] [] M)) ∧ ((M 18 x3 5 ≠ -1 ∧ M 18 x3 5 ≤ cTold M) → ((-2147483648 ≤ x1 ∧ x1 ≤ 2147483647) ∧ ((M 18 x3 6 ≠ x1 → (G3 E YX2_firstUnlikePair Q 41 [(0, vR 14 0), (1, vI x1), (2, vI x2), (3, vI (x3 + 1))] [] M)) ∧ (M 18 x3 6 = x1 → ((M 18 x3 7 ≠ 0 → (G3 E YX2_firstUnlikePair Q 41 [(0, vR 14 0), (1, vI x1), (2, vI x2), (3, vI (x3 + 1))] [] M)) ∧ (M 18 x3 7 = 0 → ((M 18 x2 1 = M 18 x3 1 → (G3 E YX2_firstUnlikePair Q 41 [(0, vR 14 0), (1, vI x1), (2, vI x2), (3, vI (x3 + 1))] [] M)) ∧ (M 18 x2 1 ≠ M 18 x3 1 → ((M 18 x3 9 < M 18 x2 9 → (G3 E YX2_firstUnlikePair Q 41 [(0, vR 14 0), (1, vI x1), (2, vI x2), (3, vI (x3 + 1))] [] M)) ∧ (M 18 x2 9 ≤ M 18 x3 9 → (Q (some (vI ((100 * x2) + x3))) M))))))))))))))))) :
    G3 E YX2_firstUnlikePair Q 41 [(0, vR 14 0), (1, vI x1), (2, vI x2), (3, vI x3)] [] M := by
  refine g3_rm fun hM => ?_
  refine g3_iload_n 3 dX2_firstUnlikePair_41 rfl rfl (g3_aload_n 0 dX2_firstUnlikePair_42 rfl rfl (g3_getI (t := 0) dX2_firstUnlikePair_43 flX2_37 (z3 rfl) (z3 rfl) (g3_icmp_ge (tgt := 82) dX2_firstUnlikePair_46 rfl h.1 (hM 14 0 0) (fun c => ?_) (fun c => ?_))))
  · have h1 := h; have h := h1.2.1 c
    have o1 := h1.1
    refine g3_iinc (lv' := [(2, vI (x2 + 1)), (0, vR 14 0), (1, vI x1), (3, vI x3)]) 2 dX2_firstUnlikePair_82 rfl (z3 rfl) rfl (g3_goto (tgt := 2) dX2_firstUnlikePair_85 rfl (g3_sub [1, 2, 0] rfl h))
  · have h1 := h; have h := h1.2.2 c
    have o1 := h1.1
    refine g3_aload_n 0 dX2_firstUnlikePair_49 rfl rfl (g3_aload_n 0 dX2_firstUnlikePair_50 rfl rfl (g3_getR0 (t := 15) dX2_firstUnlikePair_51 flX2_13 rfl (z3 rfl) (g3_iload_n 2 dX2_firstUnlikePair_54 rfl rfl (g3_aald dX2_firstUnlikePair_55 aq_15 h.1 (g3_aload_n 0 dX2_firstUnlikePair_56 rfl rfl (g3_getR0 (t := 15) dX2_firstUnlikePair_57 flX2_13 rfl (z3 rfl) (g3_iload_n 3 dX2_firstUnlikePair_60 rfl rfl (g3_aald dX2_firstUnlikePair_61 aq_15 h.2.1 (g3_iload_n 1 dX2_firstUnlikePair_62 rfl rfl (g3_cV3 dX2_firstUnlikePair_63 myX2_isUnlike mlX2_177 (z3 rfl) ob_14 (z3 rfl) (z3 rfl) (c3_in rfl rfl (z3 rfl) (g3_aload_n 0 dX2_isUnlike_0 rfl rfl (g3_aload_n 2 dX2_isUnlike_1 rfl rfl (g3_iload_n 3 dX2_isUnlike_2 rfl rfl (g3_cV2 dX2_isUnlike_3 myX2_isReadBy mlX2_157 (z3 rfl) ob_14 (z3 rfl) (z3 rfl) (c3_in rfl rfl (z3 rfl) (g3_aload_n 0 dX2_isReadBy_0 rfl rfl (g3_aload_n 1 dX2_isReadBy_1 rfl rfl (g3_cV1 dX2_isReadBy_2 myX2_isRead mlX2_122 (z3 rfl) ob_14 (z3 rfl) (z3 rfl) (kX2_isRead h.2.1 (g3_r1 (g3_bool_eq (tgt := 20) dX2_isReadBy_5 rfl (fun c => ?_) (fun c => ?_)))))))))))))))))))))))
    · have h1 := h; have h := h1.2.2.1 c
      have o2 := h1.1
      have o3 := h1.2.1
      refine g3_iconst dX2_isReadBy_20 (g3_zreturn dX2_isReadBy_21 rfl (Or.inl rfl) (g3_r1 (g3_if_eq_T (tgt := 42) dX2_isUnlike_6 rfl (z3 rfl) (g3_iconst dX2_isUnlike_42 (g3_zreturn dX2_isUnlike_43 rfl (Or.inl rfl) (g3_r1 (g3_if_eq_T (tgt := 76) dX2_firstUnlikePair_66 rfl (z3 rfl) (g3_iinc (lv' := [(3, vI (x3 + 1)), (0, vR 14 0), (1, vI x1), (2, vI x2)]) 3 dX2_firstUnlikePair_76 rfl (z3 rfl) rfl (g3_goto (tgt := 41) dX2_firstUnlikePair_79 rfl (g3_sub [1, 2, 3, 0] rfl h))))))))))
    · have h1 := h; have h := h1.2.2.2 c
      have o2 := h1.1
      have o3 := h1.2.1
      refine g3_aload_n 1 dX2_isReadBy_8 rfl rfl (g3_getI (t := 0) dX2_isReadBy_9 flX2_71 (z3 rfl) o3 (g3_iload_n 2 dX2_isReadBy_12 rfl rfl (g3_icmp_ne (tgt := 20) dX2_isReadBy_13 rfl (hM 18 x3 6) h.1 (fun c => ?_) (fun c => ?_))))
      · have h1 := h; have h := h1.2.1 c
        have o4 := h1.1
        refine g3_iconst dX2_isReadBy_20 (g3_zreturn dX2_isReadBy_21 rfl (Or.inl rfl) (g3_r1 (g3_if_eq_T (tgt := 42) dX2_isUnlike_6 rfl (z3 rfl) (g3_iconst dX2_isUnlike_42 (g3_zreturn dX2_isUnlike_43 rfl (Or.inl rfl) (g3_r1 (g3_if_eq_T (tgt := 76) dX2_firstUnlikePair_66 rfl (z3 rfl) (g3_iinc (lv' := [(3, vI (x3 + 1)), (0, vR 14 0), (1, vI x1), (2, vI x2)]) 3 dX2_firstUnlikePair_76 rfl (z3 rfl) rfl (g3_goto (tgt := 41) dX2_firstUnlikePair_79 rfl (g3_sub [1, 2, 3, 0] rfl h))))))))))
      · have h1 := h; have h := h1.2.2 c
        have o4 := h1.1
        refine g3_iconst dX2_isReadBy_16 (g3_goto (tgt := 21) dX2_isReadBy_17 rfl (g3_zreturn dX2_isReadBy_21 rfl (Or.inr rfl) (g3_r1 (g3_if_eq_F (tgt := 42) dX2_isUnlike_6 rfl (z3 rfl) (g3_aload_n 2 dX2_isUnlike_9 rfl rfl (g3_getI (t := 0) dX2_isUnlike_10 flX2_77 (z3 rfl) o3 (g3_if_ne (tgt := 42) dX2_isUnlike_13 rfl (hM 18 x3 7) (fun c => ?_) (fun c => ?_))))))))
        · have h1 := h; have h := h1.1 c
          refine g3_iconst dX2_isUnlike_42 (g3_zreturn dX2_isUnlike_43 rfl (Or.inl rfl) (g3_r1 (g3_if_eq_T (tgt := 76) dX2_firstUnlikePair_66 rfl (z3 rfl) (g3_iinc (lv' := [(3, vI (x3 + 1)), (0, vR 14 0), (1, vI x1), (2, vI x2)]) 3 dX2_firstUnlikePair_76 rfl (z3 rfl) rfl (g3_goto (tgt := 41) dX2_firstUnlikePair_79 rfl (g3_sub [1, 2, 3, 0] rfl h))))))
        · have h1 := h; have h := h1.2 c
          refine g3_aload_n 1 dX2_isUnlike_16 rfl rfl (g3_getI (t := 0) dX2_isUnlike_17 flX2_55 (z3 rfl) o2 (g3_aload_n 2 dX2_isUnlike_20 rfl rfl (g3_getI (t := 0) dX2_isUnlike_21 flX2_55 (z3 rfl) o3 (g3_icmp_eq (tgt := 42) dX2_isUnlike_24 rfl (hM 18 x2 1) (hM 18 x3 1) (fun c => ?_) (fun c => ?_)))))
          · have h1 := h; have h := h1.1 c
            refine g3_iconst dX2_isUnlike_42 (g3_zreturn dX2_isUnlike_43 rfl (Or.inl rfl) (g3_r1 (g3_if_eq_T (tgt := 76) dX2_firstUnlikePair_66 rfl (z3 rfl) (g3_iinc (lv' := [(3, vI (x3 + 1)), (0, vR 14 0), (1, vI x1), (2, vI x2)]) 3 dX2_firstUnlikePair_76 rfl (z3 rfl) rfl (g3_goto (tgt := 41) dX2_firstUnlikePair_79 rfl (g3_sub [1, 2, 3, 0] rfl h))))))
          · have h1 := h; have h := h1.2 c
            refine g3_aload_n 2 dX2_isUnlike_27 rfl rfl (g3_getI (t := 0) dX2_isUnlike_28 flX2_126 (z3 rfl) o3 (g3_aload_n 1 dX2_isUnlike_31 rfl rfl (g3_getI (t := 0) dX2_isUnlike_32 flX2_126 (z3 rfl) o2 (g3_icmp_lt (tgt := 42) dX2_isUnlike_35 rfl (hM 18 x3 9) (hM 18 x2 9) (fun c => ?_) (fun c => ?_)))))
            · have h1 := h; have h := h1.1 c
              refine g3_iconst dX2_isUnlike_42 (g3_zreturn dX2_isUnlike_43 rfl (Or.inl rfl) (g3_r1 (g3_if_eq_T (tgt := 76) dX2_firstUnlikePair_66 rfl (z3 rfl) (g3_iinc (lv' := [(3, vI (x3 + 1)), (0, vR 14 0), (1, vI x1), (2, vI x2)]) 3 dX2_firstUnlikePair_76 rfl (z3 rfl) rfl (g3_goto (tgt := 41) dX2_firstUnlikePair_79 rfl (g3_sub [1, 2, 3, 0] rfl h))))))
            · have h1 := h; have h := h1.2 c
              exact g3_iconst dX2_isUnlike_38 (g3_goto (tgt := 43) dX2_isUnlike_39 rfl (g3_zreturn dX2_isUnlike_43 rfl (Or.inr rfl) (g3_r1 (g3_if_eq_F (tgt := 76) dX2_firstUnlikePair_66 rfl (z3 rfl) (g3_bipush dX2_firstUnlikePair_69 rfl (g3_iload_n 2 dX2_firstUnlikePair_71 rfl rfl (g3_imul dX2_firstUnlikePair_72 (g3_iload_n 3 dX2_firstUnlikePair_73 rfl rfl (g3_iadd dX2_firstUnlikePair_74 (g3_ireturn dX2_firstUnlikePair_75 rfl h))))))))))
set_option maxRecDepth 20000 in
set_option maxHeartbeats 200000 in
theorem sX2_ripeOn {E : E3} {Q : Q3} {M : M3} {x1 x2 x3 : Int}
    (h : G3 E YX2_ripeOn Q 3 [(0, vR 14 0), (1, vI x1), (2, vI x2), (3, vI x3), (4, vI 0)] [] M) :
    C3 E YX2_ripeOn [vR 14 0, vI x1, vI x2, vI x3] M Q := by
  refine c3_in rfl rfl (z3 rfl) (g3_rm fun hM => ?_)
  refine g3_iconst dX2_ripeOn_0 (g3_istore (lv' := [(4, vI 0), (0, vR 14 0), (1, vI x1), (2, vI x2), (3, vI x3)]) dX2_ripeOn_1 (z3 rfl) rfl (g3_sub [1, 2, 3, 4, 0] rfl h))
set_option maxRecDepth 20000 in
set_option maxHeartbeats 200000 in
theorem sX2_ripeOn_3 {E : E3} {Q : Q3} {M : M3} {x1 : Int} {x2 : Int} {x3 : Int} {x4 : Int}
    (h : (-2147483648 ≤ x4 ∧ x4 ≤ 2147483647) ∧ ((399 < x4 → (G3 E YX2_ripeOn Q 28 [(0, vR 14 0), (1, vI x1), (2, vI x2), (3, vI x3), (4, vI 0)] [] M)) ∧ (x4 ≤ 399 → ((0 ≤ x4 ∧ x4 < 400) ∧ (G3 E YX2_ripeOn Q 3 [(0, vR 14 0), (1, vI x1), (2, vI x2), (3, vI x3), (4, vI (x4 + 1))] [] (up3 M 17 0 x4 0)))))) :
    G3 E YX2_ripeOn Q 3 [(0, vR 14 0), (1, vI x1), (2, vI x2), (3, vI x3), (4, vI x4)] [] M := by
  refine g3_rm fun hM => ?_
  refine g3_iload 4 dX2_ripeOn_3 rfl (g3_sipush dX2_ripeOn_5 rfl (g3_icmp_gt (tgt := 25) dX2_ripeOn_8 rfl h.1 (z3 rfl) (fun c => ?_) (fun c => ?_)))
  · have h1 := h; have h := h1.2.1 c
    have o1 := h1.1
    refine g3_iconst dX2_ripeOn_25 (g3_istore (lv' := [(4, vI 0), (0, vR 14 0), (1, vI x1), (2, vI x2), (3, vI x3)]) dX2_ripeOn_26 (z3 rfl) rfl (g3_sub [1, 2, 3, 4, 0] rfl h))
  · have h1 := h; have h := h1.2.2 c
    have o1 := h1.1
    refine g3_aload_n 0 dX2_ripeOn_11 rfl rfl (g3_getR0 (t := 17) dX2_ripeOn_12 flX2_21 rfl (z3 rfl) (g3_iload 4 dX2_ripeOn_15 rfl (g3_iconst dX2_ripeOn_17 (g3_iast dX2_ripeOn_18 ar_17 (z3 rfl) h.1 (z3 rfl) (g3_iinc (lv' := [(4, vI (x4 + 1)), (0, vR 14 0), (1, vI x1), (2, vI x2), (3, vI x3)]) 4 dX2_ripeOn_19 rfl (z3 rfl) rfl (g3_goto (tgt := 3) dX2_ripeOn_22 rfl (g3_sub [1, 2, 3, 4, 0] rfl h.2)))))))
set_option maxRecDepth 20000 in
set_option maxHeartbeats 200000 in
theorem sX2_ripeOn_28 {E : E3} {Q : Q3} {M : M3} {x1 : Int} {x2 : Int} {x3 : Int} {x4 : Int}
    (h : (-2147483648 ≤ x4 ∧ x4 ≤ 2147483647) ∧ ((M 14 0 0 ≤ x4 → (G3 E YX2_ripeOn Q 113 [(0, vR 14 0), (1, vI x1), (4, vI 0), (5, vI 0)] [] M)) ∧ (x4 < M 14 0 0 → ((0 ≤ x4 ∧ x4 < 60) ∧ ((¬(M 18 x4 5 ≠ -1 ∧ M 18 x4 5 ≤ cTold M) → (G3 E YX2_ripeOn Q 28 [(0, vR 14 0), (1, vI x1), (2, vI x2), (3, vI x3), (4, vI (x4 + 1))] [] M)) ∧ ((M 18 x4 5 ≠ -1 ∧ M 18 x4 5 ≤ cTold M) → ((M 18 x4 1 ≠ 1 → (G3 E YX2_ripeOn Q 28 [(0, vR 14 0), (1, vI x1), (2, vI x2), (3, vI x3), (4, vI (x4 + 1))] [] M)) ∧ (M 18 x4 1 = 1 → (((-2147483648 ≤ (M 18 x4 2) ∧ (M 18 x4 2) ≤ 2147483647) ∧ (-2147483648 ≤ x2 ∧ x2 ≤ 2147483647) ∧ (-2147483648 ≤ x3 ∧ x3 ≤ 2147483647)) ∧ ((¬(x2 ≤ (M 18 x4 2) ∧ (M 18 x4 2) ≤ x3) → (G3 E YX2_ripeOn Q 28 [(0, vR 14 0), (1, vI x1), (2, vI x2), (3, vI x3), (4, vI (x4 + 1))] [] M)) ∧ ((x2 ≤ (M 18 x4 2) ∧ (M 18 x4 2) ≤ x3) → ((M 18 x4 7 ≠ 0 → (G3 E YX2_ripeOn Q 28 [(0, vR 14 0), (1, vI x1), (2, vI x2), (3, vI x3), (4, vI (x4 + 1))] [] M)) ∧ (M 18 x4 7 = 0 → ((M 18 x4 10 ≠ 0 → (G3 E YX2_ripeOn Q 28 [(0, vR 14 0), (1, vI x1), (2, vI x2), (3, vI x3), (4, vI (x4 + 1))] [] M)) ∧ (M 18 x4 10 = 0 → ((0 ≤ M 18 x4 5 ∧ M 18 x4 5 < 400) ∧ ((-2147483648 ≤ (M 17 0 (M 18 x4 5)) + 1 ∧ (M 17 0 (M 18 x4 5)) + 1 ≤ 2147483647) ∧ (G3 E YX2_ripeOn Q 28 [(0, vR 14 0), (1, vI x1), (2, vI x2), (3, vI x3), (4, vI (x4 + 1))] [] (up3 M 17 0 (M 18 x4 5) ((M 17 0 (M 18 x4 5)) + 1)))))))))))))))))))) :
    G3 E YX2_ripeOn Q 28 [(0, vR 14 0), (1, vI x1), (2, vI x2), (3, vI x3), (4, vI x4)] [] M := by
  refine g3_rm fun hM => ?_
  refine g3_iload 4 dX2_ripeOn_28 rfl (g3_aload_n 0 dX2_ripeOn_30 rfl rfl (g3_getI (t := 0) dX2_ripeOn_31 flX2_37 (z3 rfl) (z3 rfl) (g3_icmp_ge (tgt := 107) dX2_ripeOn_34 rfl h.1 (hM 14 0 0) (fun c => ?_) (fun c => ?_))))
  · have h1 := h; have h := h1.2.1 c
    have o1 := h1.1
    refine g3_iconst dX2_ripeOn_107 (g3_istore (lv' := [(4, vI 0), (0, vR 14 0), (1, vI x1), (2, vI x2), (3, vI x3)]) dX2_ripeOn_108 (z3 rfl) rfl (g3_iconst dX2_ripeOn_110 (g3_istore (lv' := [(5, vI 0), (4, vI 0), (0, vR 14 0), (1, vI x1), (2, vI x2), (3, vI x3)]) dX2_ripeOn_111 (z3 rfl) rfl (g3_sub [2, 3, 1, 0] rfl h))))
  · have h1 := h; have h := h1.2.2 c
    have o1 := h1.1
    refine g3_aload_n 0 dX2_ripeOn_37 rfl rfl (g3_getR0 (t := 15) dX2_ripeOn_38 flX2_13 rfl (z3 rfl) (g3_iload 4 dX2_ripeOn_41 rfl (g3_aald dX2_ripeOn_43 aq_15 h.1 (g3_astore (lv' := [(5, vR 18 x4), (0, vR 14 0), (1, vI x1), (2, vI x2), (3, vI x3), (4, vI x4)]) dX2_ripeOn_44 (z3 rfl) rfl (g3_aload_n 1 dX2_ripeOn_46 rfl rfl (g3_aload 0 dX2_ripeOn_47 rfl (g3_cV1 dX2_ripeOn_49 myX2_isRead mlX2_122 (z3 rfl) ob_14 (z3 rfl) (z3 rfl) (kX2_isRead h.1 (g3_r1 (g3_bool_eq (tgt := 101) dX2_ripeOn_52 rfl (fun c => ?_) (fun c => ?_)))))))))))
    · have h1 := h; have h := h1.2.1 c
      have o2 := h1.1
      refine g3_iinc (lv' := [(4, vI (x4 + 1)), (5, vR 18 x4), (0, vR 14 0), (1, vI x1), (2, vI x2), (3, vI x3)]) 5 dX2_ripeOn_101 rfl (z3 rfl) rfl (g3_goto (tgt := 28) dX2_ripeOn_104 rfl (g3_sub [2, 3, 4, 5, 0] rfl h))
    · have h1 := h; have h := h1.2.2 c
      have o2 := h1.1
      refine g3_aload 0 dX2_ripeOn_55 rfl (g3_getI (t := 0) dX2_ripeOn_57 flX2_55 (z3 rfl) o2 (g3_iconst dX2_ripeOn_60 (g3_icmp_ne (tgt := 101) dX2_ripeOn_61 rfl (hM 18 x4 1) (z3 rfl) (fun c => ?_) (fun c => ?_))))
      · have h1 := h; have h := h1.1 c
        refine g3_iinc (lv' := [(4, vI (x4 + 1)), (5, vR 18 x4), (0, vR 14 0), (1, vI x1), (2, vI x2), (3, vI x3)]) 5 dX2_ripeOn_101 rfl (z3 rfl) rfl (g3_goto (tgt := 28) dX2_ripeOn_104 rfl (g3_sub [2, 3, 4, 5, 0] rfl h))
      · have h1 := h; have h := h1.2 c
        refine g3_aload 0 dX2_ripeOn_64 rfl (g3_getI (t := 0) dX2_ripeOn_66 flX2_65 (z3 rfl) o2 (g3_iload_n 3 dX2_ripeOn_69 rfl rfl (g3_iload_n 4 dX2_ripeOn_70 rfl rfl (g3_cN3 dX2_ripeOn_71 myX11_within mlX2_91 (z3 rfl) (z3 rfl) (kX11_within h.1 (g3_r1 (g3_bool_eq (tgt := 101) dX2_ripeOn_74 rfl (fun c => ?_) (fun c => ?_))))))))
        · have h1 := h; have h := h1.2.1 c
          have o3 := h1.1
          refine g3_iinc (lv' := [(4, vI (x4 + 1)), (5, vR 18 x4), (0, vR 14 0), (1, vI x1), (2, vI x2), (3, vI x3)]) 5 dX2_ripeOn_101 rfl (z3 rfl) rfl (g3_goto (tgt := 28) dX2_ripeOn_104 rfl (g3_sub [2, 3, 4, 5, 0] rfl h))
        · have h1 := h; have h := h1.2.2 c
          have o3 := h1.1
          refine g3_aload_n 1 dX2_ripeOn_77 rfl rfl (g3_aload 0 dX2_ripeOn_78 rfl (g3_iconst dX2_ripeOn_80 (g3_cV2 dX2_ripeOn_81 myX2_isParted mlX2_154 (z3 rfl) ob_14 (z3 rfl) (z3 rfl) (c3_in rfl rfl (z3 rfl) (g3_iload_n 2 dX2_isParted_0 rfl rfl (g3_look (tgt := 48) dX2_isParted_1 rfl (z3 rfl) rfl rfl (g3_aload_n 1 dX2_isParted_48 rfl rfl (g3_getI (t := 0) dX2_isParted_49 flX2_77 (z3 rfl) o2 (g3_if_ne (tgt := 66) dX2_isParted_52 rfl (hM 18 x4 7) (fun c => ?_) (fun c => ?_))))))))))
          · have h1 := h; have h := h1.1 c
            refine g3_iconst dX2_isParted_66 (g3_zreturn dX2_isParted_67 rfl (Or.inl rfl) (g3_r1 (g3_if_eq_T (tgt := 101) dX2_ripeOn_84 rfl (z3 rfl) (g3_iinc (lv' := [(4, vI (x4 + 1)), (5, vR 18 x4), (0, vR 14 0), (1, vI x1), (2, vI x2), (3, vI x3)]) 5 dX2_ripeOn_101 rfl (z3 rfl) rfl (g3_goto (tgt := 28) dX2_ripeOn_104 rfl (g3_sub [2, 3, 4, 5, 0] rfl h))))))
          · have h1 := h; have h := h1.2 c
            refine g3_aload_n 1 dX2_isParted_55 rfl rfl (g3_cV0 dX2_isParted_56 myX3_isByText mlX2_111 (z3 rfl) ob_18 o2 (z3 rfl) (c3_in rfl rfl (z3 rfl) (g3_aload_n 0 dX3_isByText_0 rfl rfl (g3_getI (t := 0) dX3_isByText_1 flX3_15 (z3 rfl) o2 (g3_if_ne (tgt := 11) dX3_isByText_4 rfl (hM 18 x4 10) (fun c => ?_) (fun c => ?_))))))
            · have h1 := h; have h := h1.1 c
              refine g3_iconst dX3_isByText_11 (g3_zreturn dX3_isByText_12 rfl (Or.inl rfl) (g3_r1 (g3_if_eq_T (tgt := 66) dX2_isParted_59 rfl (z3 rfl) (g3_iconst dX2_isParted_66 (g3_zreturn dX2_isParted_67 rfl (Or.inl rfl) (g3_r1 (g3_if_eq_T (tgt := 101) dX2_ripeOn_84 rfl (z3 rfl) (g3_iinc (lv' := [(4, vI (x4 + 1)), (5, vR 18 x4), (0, vR 14 0), (1, vI x1), (2, vI x2), (3, vI x3)]) 5 dX2_ripeOn_101 rfl (z3 rfl) rfl (g3_goto (tgt := 28) dX2_ripeOn_104 rfl (g3_sub [2, 3, 4, 5, 0] rfl h))))))))))
            · have h1 := h; have h := h1.2 c
              refine g3_iconst dX3_isByText_7 (g3_goto (tgt := 12) dX3_isByText_8 rfl (g3_zreturn dX3_isByText_12 rfl (Or.inr rfl) (g3_r1 (g3_if_eq_F (tgt := 66) dX2_isParted_59 rfl (z3 rfl) (g3_iconst dX2_isParted_62 (g3_goto (tgt := 67) dX2_isParted_63 rfl (g3_zreturn dX2_isParted_67 rfl (Or.inr rfl) (g3_r1 (g3_if_eq_F (tgt := 101) dX2_ripeOn_84 rfl (z3 rfl) (g3_aload_n 1 dX2_ripeOn_87 rfl rfl (g3_getR0 (t := 17) dX2_ripeOn_88 flX2_21 rfl (z3 rfl) (g3_aload 0 dX2_ripeOn_91 rfl (g3_getI (t := 0) dX2_ripeOn_93 flX2_68 (z3 rfl) o2 (g3_dup2 dX2_ripeOn_96 rfl rfl (g3_iald dX2_ripeOn_97 ar_17 (z3 rfl) h.1 (g3_iconst dX2_ripeOn_98 (g3_iadd dX2_ripeOn_99 (g3_iast dX2_ripeOn_100 ar_17 (z3 rfl) h.1 h.2.1 (g3_iinc (lv' := [(4, vI (x4 + 1)), (5, vR 18 x4), (0, vR 14 0), (1, vI x1), (2, vI x2), (3, vI x3)]) 5 dX2_ripeOn_101 rfl (z3 rfl) rfl (g3_goto (tgt := 28) dX2_ripeOn_104 rfl (g3_sub [2, 3, 4, 5, 0] rfl h.2.2)))))))))))))))))))))
set_option maxRecDepth 20000 in
set_option maxHeartbeats 200000 in
theorem sX2_ripeOn_113 {E : E3} {Q : Q3} {M : M3} {x1 : Int} {x4 : Int} {x5 : Int}
    (h : (-2147483648 ≤ x5 ∧ x5 ≤ 2147483647) ∧ ((399 < x5 → (Q (some (vI (-1))) M)) ∧ (x5 ≤ 399 → ((0 ≤ x5 ∧ x5 < 400) ∧ ((-2147483648 ≤ x4 + (M 17 0 x5) ∧ x4 + (M 17 0 x5) ≤ 2147483647) ∧ ((-2147483648 ≤ x1 ∧ x1 ≤ 2147483647) ∧ ((x4 + (M 17 0 x5) < x1 → (G3 E YX2_ripeOn Q 113 [(0, vR 14 0), (1, vI x1), (4, vI (x4 + (M 17 0 x5))), (5, vI (x5 + 1))] [] M)) ∧ (x1 ≤ x4 + (M 17 0 x5) → (Q (some (vI x5)) M))))))))) :
    G3 E YX2_ripeOn Q 113 [(0, vR 14 0), (1, vI x1), (4, vI x4), (5, vI x5)] [] M := by
  refine g3_rm fun hM => ?_
  refine g3_iload 3 dX2_ripeOn_113 rfl (g3_sipush dX2_ripeOn_115 rfl (g3_icmp_gt (tgt := 148) dX2_ripeOn_118 rfl h.1 (z3 rfl) (fun c => ?_) (fun c => ?_)))
  · have h1 := h; have h := h1.2.1 c
    have o1 := h1.1
    exact g3_iconst dX2_ripeOn_148 (g3_ireturn dX2_ripeOn_149 rfl h)
  · have h1 := h; have h := h1.2.2 c
    have o1 := h1.1
    refine g3_iload 2 dX2_ripeOn_121 rfl (g3_aload_n 0 dX2_ripeOn_123 rfl rfl (g3_getR0 (t := 17) dX2_ripeOn_124 flX2_21 rfl (z3 rfl) (g3_iload 3 dX2_ripeOn_127 rfl (g3_iald dX2_ripeOn_129 ar_17 (z3 rfl) h.1 (g3_iadd dX2_ripeOn_130 (g3_istore (lv' := [(4, vI (x4 + (M 17 0 x5))), (0, vR 14 0), (1, vI x1), (5, vI x5)]) dX2_ripeOn_131 (z3 rfl) rfl (g3_iload 0 dX2_ripeOn_133 rfl (g3_iload_n 2 dX2_ripeOn_135 rfl rfl (g3_icmp_lt (tgt := 142) dX2_ripeOn_136 rfl h.2.1 h.2.2.1 (fun c => ?_) (fun c => ?_))))))))))
    · have h1 := h; have h := h1.2.2.2.1 c
      have o2 := h1.1
      have o3 := h1.2.1
      have o4 := h1.2.2.1
      refine g3_iinc (lv' := [(5, vI (x5 + 1)), (4, vI (x4 + (M 17 0 x5))), (0, vR 14 0), (1, vI x1)]) 3 dX2_ripeOn_142 rfl (z3 rfl) rfl (g3_goto (tgt := 113) dX2_ripeOn_145 rfl (g3_sub [2, 3, 1, 0] rfl h))
    · have h1 := h; have h := h1.2.2.2.2 c
      have o2 := h1.1
      have o3 := h1.2.1
      have o4 := h1.2.2.1
      exact g3_iload 3 dX2_ripeOn_139 rfl (g3_ireturn dX2_ripeOn_141 rfl h)
