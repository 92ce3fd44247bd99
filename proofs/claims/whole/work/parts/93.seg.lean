set_option maxRecDepth 20000 in
set_option maxHeartbeats 200000 in
theorem sX2_partedOnes {E : E3} {Q : Q3} {M : M3} {x1 x2 : Int}
    (h : G3 E YX2_partedOnes Q 5 [(0, vR 14 0), (1, vI x1), (2, vI x2), (3, vI 0), (4, vI 0)] [] M) :
    C3 E YX2_partedOnes [vR 14 0, vI x1, vI x2] M Q := by
  refine c3_in rfl rfl (z3 rfl) (g3_rm fun hM => ?_)
  refine g3_iconst dX2_partedOnes_0 (g3_istore_n (lv' := [(3, vI 0), (0, vR 14 0), (1, vI x1), (2, vI x2)]) dX2_partedOnes_1 rfl (z3 rfl) rfl (g3_iconst dX2_partedOnes_2 (g3_istore (lv' := [(4, vI 0), (3, vI 0), (0, vR 14 0), (1, vI x1), (2, vI x2)]) dX2_partedOnes_3 (z3 rfl) rfl (g3_sub [2, 3, 4, 1, 0] rfl h))))
set_option maxRecDepth 20000 in
set_option maxHeartbeats 200000 in
theorem sX2_partedOnes_5 {E : E3} {Q : Q3} {M : M3} {x1 : Int} {x2 : Int} {x3 : Int} {x4 : Int}
    (h : (-2147483648 ≤ x4 ∧ x4 ≤ 2147483647) ∧ ((M 14 0 0 ≤ x4 → (Q (some (vI x3)) M)) ∧ (x4 < M 14 0 0 → ((0 ≤ x4 ∧ x4 < 60) ∧ ((¬(M 18 x4 5 ≠ -1 ∧ M 18 x4 5 ≤ cTold M) → (G3 E YX2_partedOnes Q 5 [(0, vR 14 0), (1, vI x1), (2, vI x2), (3, vI x3), (4, vI (x4 + 1))] [] M)) ∧ ((M 18 x4 5 ≠ -1 ∧ M 18 x4 5 ≤ cTold M) → ((-2147483648 ≤ x1 ∧ x1 ≤ 2147483647) ∧ ((x1 = (-1) → ((-2147483648 ≤ x2 ∧ x2 ≤ 2147483647) ∧ ((x2 = 0 → ((M 18 x4 7 = 0 → (G3 E YX2_partedOnes Q 5 [(0, vR 14 0), (1, vI x1), (2, vI x2), (3, vI x3), (4, vI (x4 + 1))] [] M)) ∧ (M 18 x4 7 ≠ 0 → ((M 18 x4 10 ≠ 0 → (G3 E YX2_partedOnes Q 5 [(0, vR 14 0), (1, vI x1), (2, vI x2), (3, vI (x3 + 1)), (4, vI (x4 + 1))] [] M)) ∧ (M 18 x4 10 = 0 → (G3 E YX2_partedOnes Q 5 [(0, vR 14 0), (1, vI x1), (2, vI x2), (3, vI x3), (4, vI (x4 + 1))] [] M)))))) ∧ (¬(x2 = 0) → ((x2 = 1 → ((M 18 x4 7 ≠ 0 → (G3 E YX2_partedOnes Q 5 [(0, vR 14 0), (1, vI x1), (2, vI x2), (3, vI x3), (4, vI (x4 + 1))] [] M)) ∧ (M 18 x4 7 = 0 → ((M 18 x4 10 ≠ 0 → (G3 E YX2_partedOnes Q 5 [(0, vR 14 0), (1, vI x1), (2, vI x2), (3, vI x3), (4, vI (x4 + 1))] [] M)) ∧ (M 18 x4 10 = 0 → (G3 E YX2_partedOnes Q 5 [(0, vR 14 0), (1, vI x1), (2, vI x2), (3, vI (x3 + 1)), (4, vI (x4 + 1))] [] M)))))) ∧ (¬(x2 = 1) → ((M 18 x4 7 ≠ 0 → (G3 E YX2_partedOnes Q 5 [(0, vR 14 0), (1, vI x1), (2, vI x2), (3, vI x3), (4, vI (x4 + 1))] [] M)) ∧ (M 18 x4 7 = 0 → ((LwC M ∧ IA M ∧ 0 ≤ x4 ∧ x4 < M 44 0 18) ∧ (∀ (N1 : M3), RM3 N1 → Ec M N1 → (LwC N1) → ((and3 (shr3 (mTrue M x4) (M 18 x4 8)) 1 ≠ 0 → (G3 E YX2_partedOnes Q 5 [(0, vR 14 0), (1, vI x1), (2, vI x2), (3, vI x3), (4, vI (x4 + 1))] [] N1)) ∧ (and3 (shr3 (mTrue M x4) (M 18 x4 8)) 1 = 0 → (G3 E YX2_partedOnes Q 5 [(0, vR 14 0), (1, vI x1), (2, vI x2), (3, vI (x3 + 1)), (4, vI (x4 + 1))] [] N1))))))))))))) ∧ (x1 ≠ (-1) → ((M 18 x4 1 ≠ x1 → (G3 E YX2_partedOnes Q 5 [(0, vR 14 0), (1, vI x1), (2, vI x2), (3, vI x3), (4, vI (x4 + 1))] [] M)) ∧ (M 18 x4 1 = x1 → ((-2147483648 ≤ x2 ∧ x2 ≤ 2147483647) ∧ ((x2 = 0 → ((M 18 x4 7 = 0 → (G3 E YX2_partedOnes Q 5 [(0, vR 14 0), (1, vI x1), (2, vI x2), (3, vI x3), (4, vI (x4 + 1))] [] M)) ∧ (M 18 x4 7 ≠ 0 → ((M 18 x4 10 ≠ 0 → (G3 E YX2_partedOnes Q 5 [(0, vR 14 0), (1, vI x1), (2, vI x2), (3, vI (x3 + 1)), (4, vI (x4 + 1))] [] M)) ∧ (M 18 x4 10 = 0 → (G3 E YX2_partedOnes Q 5 [(0, vR 14 0), (1, vI x1), (2, vI x2), (3, vI x3), (4, vI (x4 + 1))] [] M)))))) ∧ (¬(x2 = 0) → ((x2 = 1 → ((M 18 x4 7 ≠ 0 → (G3 E YX2_partedOnes Q 5 [(0, vR 14 0), (1, vI x1), (2, vI x2), (3, vI x3), (4, vI (x4 + 1))] [] M)) ∧ (M 18 x4 7 = 0 → ((M 18 x4 10 ≠ 0 → (G3 E YX2_partedOnes Q 5 [(0, vR 14 0), (1, vI x1), (2, vI x2), (3, vI x3), (4, vI (x4 + 1))] [] M)) ∧ (M 18 x4 10 = 0 → (G3 E YX2_partedOnes Q 5 [(0, vR 14 0), (1, vI x1), (2, vI x2), (3, vI (x3 + 1)), (4, vI (x4 + 1))] [] M)))))) ∧ (¬(x2 = 1) → ((M 18 x4 7 ≠ 0 → (G3 E YX2_partedOnes Q 5 [(0, vR 14 0), (1, vI x1), (2, vI x2), (3, vI x3), (4, vI (x4 + 1))] [] M)) ∧ (M 18 x4 7 = 0 → ((LwC M ∧ IA M ∧ 0 ≤ x4 ∧ x4 < M 44 0 18) ∧ (∀ (N1 : M3), RM3 N1 → Ec M N1 → (LwC N1) → ((and3 (shr3 (mTrue M x4) (M 18 x4 8)) 1 ≠ 0 → (G3 E YX2_partedOnes Q 5 [(0, vR 14 0), (1, vI x1), (2, vI x2), (3, vI x3), (4, vI (x4 + 1))] [] N1)) ∧ (and3 (shr3 (mTrue M x4) (M 18 x4 8)) 1 = 0 → (G3 E YX2_partedOnes Q 5 [(0, vR 14 0), (1, vI x1), (2, vI x2), (3, vI (x3 + 1)), (4, vI (x4 + 1))] [] N1))))))))))))))))))))))) :
    G3 E YX2_partedOnes Q 5 [(0, vR 14 0), (1, vI x1), (2, vI x2), (3, vI x3), (4, vI x4)] [] M := by
  refine g3_rm fun hM => ?_
  refine g3_iload 4 dX2_partedOnes_5 rfl (g3_aload_n 0 dX2_partedOnes_7 rfl rfl (g3_getI (t := 0) dX2_partedOnes_8 flX2_37 (z3 rfl) (z3 rfl) (g3_icmp_ge (tgt := 65) dX2_partedOnes_11 rfl h.1 (hM 14 0 0) (fun c => ?_) (fun c => ?_))))
  · have h1 := h; have h := h1.2.1 c
    have o1 := h1.1
    exact g3_iload_n 3 dX2_partedOnes_65 rfl rfl (g3_ireturn dX2_partedOnes_66 rfl h)
  · have h1 := h; have h := h1.2.2 c
    have o1 := h1.1
    refine g3_aload_n 0 dX2_partedOnes_14 rfl rfl (g3_getR0 (t := 15) dX2_partedOnes_15 flX2_13 rfl (z3 rfl) (g3_iload 4 dX2_partedOnes_18 rfl (g3_aald dX2_partedOnes_20 aq_15 h.1 (g3_astore (lv' := [(5, vR 18 x4), (0, vR 14 0), (1, vI x1), (2, vI x2), (3, vI x3), (4, vI x4)]) dX2_partedOnes_21 (z3 rfl) rfl (g3_aload_n 1 dX2_partedOnes_23 rfl rfl (g3_aload 0 dX2_partedOnes_24 rfl (g3_cV1 dX2_partedOnes_26 myX2_isRead mlX2_122 (z3 rfl) ob_14 (z3 rfl) (z3 rfl) (kX2_isRead h.1 (g3_r1 (g3_bool_eq (tgt := 59) dX2_partedOnes_29 rfl (fun c => ?_) (fun c => ?_)))))))))))
    · have h1 := h; have h := h1.2.1 c
      have o2 := h1.1
      refine g3_iinc (lv' := [(4, vI (x4 + 1)), (5, vR 18 x4), (0, vR 14 0), (1, vI x1), (2, vI x2), (3, vI x3)]) 5 dX2_partedOnes_59 rfl (z3 rfl) rfl (g3_goto (tgt := 5) dX2_partedOnes_62 rfl (g3_sub [2, 3, 4, 5, 0] rfl h))
    · have h1 := h; have h := h1.2.2 c
      have o2 := h1.1
      refine g3_iload_n 2 dX2_partedOnes_32 rfl rfl (g3_iconst dX2_partedOnes_33 (g3_icmp_eq (tgt := 46) dX2_partedOnes_34 rfl h.1 (z3 rfl) (fun c => ?_) (fun c => ?_)))
      · have h1 := h; have h := h1.2.1 c
        have o3 := h1.1
        refine g3_aload_n 1 dX2_partedOnes_46 rfl rfl (g3_aload 0 dX2_partedOnes_47 rfl (g3_iload_n 3 dX2_partedOnes_49 rfl rfl (g3_cV2 dX2_partedOnes_50 myX2_isParted mlX2_154 (z3 rfl) ob_14 (z3 rfl) (z3 rfl) (c3_in rfl rfl (z3 rfl) (g3_iload_n 2 dX2_isParted_0 rfl rfl (?_))))))
        have o4 := h.1
        have hx := h.1
        have h := h.2
        refine g3_by (a := x2 = 0) (fun c => ?_) (fun cs0 => ?_)
        · have h := h.1 c
          refine g3_look (tgt := 28) dX2_isParted_1 rfl hx (by rw [c] <;> rfl) rfl ?_
          refine g3_aload_n 1 dX2_isParted_28 rfl rfl (g3_getI (t := 0) dX2_isParted_29 flX2_77 (z3 rfl) o2 (g3_if_eq (tgt := 46) dX2_isParted_32 rfl (hM 18 x4 7) (fun c => ?_) (fun c => ?_)))
          · have h1 := h; have h := h1.1 c
            refine g3_iconst dX2_isParted_46 (g3_zreturn dX2_isParted_47 rfl (Or.inl rfl) (g3_r1 (g3_if_eq_T (tgt := 59) dX2_partedOnes_53 rfl (z3 rfl) (g3_iinc (lv' := [(4, vI (x4 + 1)), (5, vR 18 x4), (0, vR 14 0), (1, vI x1), (2, vI x2), (3, vI x3)]) 5 dX2_partedOnes_59 rfl (z3 rfl) rfl (g3_goto (tgt := 5) dX2_partedOnes_62 rfl (g3_sub [2, 3, 4, 5, 0] rfl h))))))
          · have h1 := h; have h := h1.2 c
            refine g3_aload_n 1 dX2_isParted_35 rfl rfl (g3_cV0 dX2_isParted_36 myX3_isByText mlX2_111 (z3 rfl) ob_18 o2 (z3 rfl) (c3_in rfl rfl (z3 rfl) (g3_aload_n 0 dX3_isByText_0 rfl rfl (g3_getI (t := 0) dX3_isByText_1 flX3_15 (z3 rfl) o2 (g3_if_ne (tgt := 11) dX3_isByText_4 rfl (hM 18 x4 10) (fun c => ?_) (fun c => ?_))))))
            · have h1 := h; have h := h1.1 c
              refine g3_iconst dX3_isByText_11 (g3_zreturn dX3_isByText_12 rfl (Or.inl rfl) (g3_r1 (g3_if_ne_F (tgt := 46) dX2_isParted_39 rfl (z3 rfl) (g3_iconst dX2_isParted_42 (g3_goto (tgt := 47) dX2_isParted_43 rfl (g3_zreturn dX2_isParted_47 rfl (Or.inr rfl) (g3_r1 (g3_if_eq_F (tgt := 59) dX2_partedOnes_53 rfl (z3 rfl) (g3_iinc (lv' := [(3, vI (x3 + 1)), (5, vR 18 x4), (0, vR 14 0), (1, vI x1), (2, vI x2), (4, vI x4)]) 4 dX2_partedOnes_56 rfl (z3 rfl) rfl (g3_iinc (lv' := [(4, vI (x4 + 1)), (3, vI (x3 + 1)), (5, vR 18 x4), (0, vR 14 0), (1, vI x1), (2, vI x2)]) 5 dX2_partedOnes_59 rfl (z3 rfl) rfl (g3_goto (tgt := 5) dX2_partedOnes_62 rfl (g3_sub [3, 4, 5, 1, 0] rfl h))))))))))))
            · have h1 := h; have h := h1.2 c
              refine g3_iconst dX3_isByText_7 (g3_goto (tgt := 12) dX3_isByText_8 rfl (g3_zreturn dX3_isByText_12 rfl (Or.inr rfl) (g3_r1 (g3_if_ne_T (tgt := 46) dX2_isParted_39 rfl (z3 rfl) (g3_iconst dX2_isParted_46 (g3_zreturn dX2_isParted_47 rfl (Or.inl rfl) (g3_r1 (g3_if_eq_T (tgt := 59) dX2_partedOnes_53 rfl (z3 rfl) (g3_iinc (lv' := [(4, vI (x4 + 1)), (5, vR 18 x4), (0, vR 14 0), (1, vI x1), (2, vI x2), (3, vI x3)]) 5 dX2_partedOnes_59 rfl (z3 rfl) rfl (g3_goto (tgt := 5) dX2_partedOnes_62 rfl (g3_sub [2, 3, 4, 5, 0] rfl h)))))))))))
        have h := h.2 cs0
        refine g3_by (a := x2 = 1) (fun c => ?_) (fun cs1 => ?_)
        · have h := h.1 c
          refine g3_look (tgt := 48) dX2_isParted_1 rfl hx (by rw [c] <;> rfl) rfl ?_
          refine g3_aload_n 1 dX2_isParted_48 rfl rfl (g3_getI (t := 0) dX2_isParted_49 flX2_77 (z3 rfl) o2 (g3_if_ne (tgt := 66) dX2_isParted_52 rfl (hM 18 x4 7) (fun c => ?_) (fun c => ?_)))
          · have h1 := h; have h := h1.1 c
            refine g3_iconst dX2_isParted_66 (g3_zreturn dX2_isParted_67 rfl (Or.inl rfl) (g3_r1 (g3_if_eq_T (tgt := 59) dX2_partedOnes_53 rfl (z3 rfl) (g3_iinc (lv' := [(4, vI (x4 + 1)), (5, vR 18 x4), (0, vR 14 0), (1, vI x1), (2, vI x2), (3, vI x3)]) 5 dX2_partedOnes_59 rfl (z3 rfl) rfl (g3_goto (tgt := 5) dX2_partedOnes_62 rfl (g3_sub [2, 3, 4, 5, 0] rfl h))))))
          · have h1 := h; have h := h1.2 c
            refine g3_aload_n 1 dX2_isParted_55 rfl rfl (g3_cV0 dX2_isParted_56 myX3_isByText mlX2_111 (z3 rfl) ob_18 o2 (z3 rfl) (c3_in rfl rfl (z3 rfl) (g3_aload_n 0 dX3_isByText_0 rfl rfl (g3_getI (t := 0) dX3_isByText_1 flX3_15 (z3 rfl) o2 (g3_if_ne (tgt := 11) dX3_isByText_4 rfl (hM 18 x4 10) (fun c => ?_) (fun c => ?_))))))
            · have h1 := h; have h := h1.1 c
              refine g3_iconst dX3_isByText_11 (g3_zreturn dX3_isByText_12 rfl (Or.inl rfl) (g3_r1 (g3_if_eq_T (tgt := 66) dX2_isParted_59 rfl (z3 rfl) (g3_iconst dX2_isParted_66 (g3_zreturn dX2_isParted_67 rfl (Or.inl rfl) (g3_r1 (g3_if_eq_T (tgt := 59) dX2_partedOnes_53 rfl (z3 rfl) (g3_iinc (lv' := [(4, vI (x4 + 1)), (5, vR 18 x4), (0, vR 14 0), (1, vI x1), (2, vI x2), (3, vI x3)]) 5 dX2_partedOnes_59 rfl (z3 rfl) rfl (g3_goto (tgt := 5) dX2_partedOnes_62 rfl (g3_sub [2, 3, 4, 5, 0] rfl h))))))))))
            · have h1 := h; have h := h1.2 c
              refine g3_iconst dX3_isByText_7 (g3_goto (tgt := 12) dX3_isByText_8 rfl (g3_zreturn dX3_isByText_12 rfl (Or.inr rfl) (g3_r1 (g3_if_eq_F (tgt := 66) dX2_isParted_59 rfl (z3 rfl) (g3_iconst dX2_isParted_62 (g3_goto (tgt := 67) dX2_isParted_63 rfl (g3_zreturn dX2_isParted_67 rfl (Or.inr rfl) (g3_r1 (g3_if_eq_F (tgt := 59) dX2_partedOnes_53 rfl (z3 rfl) (g3_iinc (lv' := [(3, vI (x3 + 1)), (5, vR 18 x4), (0, vR 14 0), (1, vI x1), (2, vI x2), (4, vI x4)]) 4 dX2_partedOnes_56 rfl (z3 rfl) rfl (g3_iinc (lv' := [(4, vI (x4 + 1)), (3, vI (x3 + 1)), (5, vR 18 x4), (0, vR 14 0), (1, vI x1), (2, vI x2)]) 5 dX2_partedOnes_59 rfl (z3 rfl) rfl (g3_goto (tgt := 5) dX2_partedOnes_62 rfl (g3_sub [3, 4, 5, 1, 0] rfl h)))))))))))))
        have h := h.2 cs1
        refine g3_look (off := 67) (tgt := 68) dX2_isParted_1 rfl hx (by simp [Op.lookupswitch.offset, cs0, Ne.symm cs0, cs1, Ne.symm cs1]) rfl ?_
        refine g3_aload_n 1 dX2_isParted_68 rfl rfl (g3_getI (t := 0) dX2_isParted_69 flX2_77 (z3 rfl) o2 (g3_if_ne (tgt := 94) dX2_isParted_72 rfl (hM 18 x4 7) (fun c => ?_) (fun c => ?_)))
        · have h1 := h; have h := h1.1 c
          refine g3_iconst dX2_isParted_94 (g3_zreturn dX2_isParted_95 rfl (Or.inl rfl) (g3_r1 (g3_if_eq_T (tgt := 59) dX2_partedOnes_53 rfl (z3 rfl) (g3_iinc (lv' := [(4, vI (x4 + 1)), (5, vR 18 x4), (0, vR 14 0), (1, vI x1), (2, vI x2), (3, vI x3)]) 5 dX2_partedOnes_59 rfl (z3 rfl) rfl (g3_goto (tgt := 5) dX2_partedOnes_62 rfl (g3_sub [2, 3, 4, 5, 0] rfl h))))))
        · have h1 := h; have h := h1.2 c
          refine g3_aload_n 0 dX2_isParted_75 rfl rfl (g3_aload_n 1 dX2_isParted_76 rfl rfl (g3_cV1 dX2_isParted_77 myX2_trueReasons mlX2_136 (z3 rfl) ob_14 (z3 rfl) (z3 rfl) (eX2_trueReasons Ec.rf h.1 (fun N1 hN1 he1 hp1 => ?_))))
          have o5 := h.1
          have h := h.2 N1 hN1 he1 hp1
          refine g3_r1 ?_
          refine g3_aload_n 1 dX2_isParted_80 rfl rfl (g3_getI (t := 0) dX2_isParted_81 flX2_74 (z3 rfl) o2 (g3_val (cg3 (he1.1 18 (by decide)) _ _) (g3_ishr dX2_isParted_84 (g3_iconst dX2_isParted_85 (g3_iand dX2_isParted_86 (g3_if_ne (tgt := 94) dX2_isParted_87 rfl (t3_tr _) (fun c => ?_) (fun c => ?_)))))))
          · have h1 := h; have h := h1.1 c
            refine g3_iconst dX2_isParted_94 (g3_zreturn dX2_isParted_95 rfl (Or.inl rfl) (g3_r1 (g3_if_eq_T (tgt := 59) dX2_partedOnes_53 rfl (z3 rfl) (g3_iinc (lv' := [(4, vI (x4 + 1)), (5, vR 18 x4), (0, vR 14 0), (1, vI x1), (2, vI x2), (3, vI x3)]) 5 dX2_partedOnes_59 rfl (z3 rfl) rfl (g3_goto (tgt := 5) dX2_partedOnes_62 rfl (g3_sub [2, 3, 4, 5, 0] rfl h))))))
          · have h1 := h; have h := h1.2 c
            refine g3_iconst dX2_isParted_90 (g3_goto (tgt := 95) dX2_isParted_91 rfl (g3_zreturn dX2_isParted_95 rfl (Or.inr rfl) (g3_r1 (g3_if_eq_F (tgt := 59) dX2_partedOnes_53 rfl (z3 rfl) (g3_iinc (lv' := [(3, vI (x3 + 1)), (5, vR 18 x4), (0, vR 14 0), (1, vI x1), (2, vI x2), (4, vI x4)]) 4 dX2_partedOnes_56 rfl (z3 rfl) rfl (g3_iinc (lv' := [(4, vI (x4 + 1)), (3, vI (x3 + 1)), (5, vR 18 x4), (0, vR 14 0), (1, vI x1), (2, vI x2)]) 5 dX2_partedOnes_59 rfl (z3 rfl) rfl (g3_goto (tgt := 5) dX2_partedOnes_62 rfl (g3_sub [3, 4, 5, 1, 0] rfl h))))))))
      · have h1 := h; have h := h1.2.2 c
        have o3 := h1.1
        refine g3_aload 0 dX2_partedOnes_37 rfl (g3_getI (t := 0) dX2_partedOnes_39 flX2_55 (z3 rfl) o2 (g3_iload_n 2 dX2_partedOnes_42 rfl rfl (g3_icmp_ne (tgt := 59) dX2_partedOnes_43 rfl (hM 18 x4 1) o3 (fun c => ?_) (fun c => ?_))))
        · have h1 := h; have h := h1.1 c
          refine g3_iinc (lv' := [(4, vI (x4 + 1)), (5, vR 18 x4), (0, vR 14 0), (1, vI x1), (2, vI x2), (3, vI x3)]) 5 dX2_partedOnes_59 rfl (z3 rfl) rfl (g3_goto (tgt := 5) dX2_partedOnes_62 rfl (g3_sub [2, 3, 4, 5, 0] rfl h))
        · have h1 := h; have h := h1.2 c
          refine g3_aload_n 1 dX2_partedOnes_46 rfl rfl (g3_aload 0 dX2_partedOnes_47 rfl (g3_iload_n 3 dX2_partedOnes_49 rfl rfl (g3_cV2 dX2_partedOnes_50 myX2_isParted mlX2_154 (z3 rfl) ob_14 (z3 rfl) (z3 rfl) (c3_in rfl rfl (z3 rfl) (g3_iload_n 2 dX2_isParted_0 rfl rfl (?_))))))
          have o6 := h.1
          have hx := h.1
          have h := h.2
          refine g3_by (a := x2 = 0) (fun c => ?_) (fun cs0 => ?_)
          · have h := h.1 c
            refine g3_look (tgt := 28) dX2_isParted_1 rfl hx (by rw [c] <;> rfl) rfl ?_
            refine g3_aload_n 1 dX2_isParted_28 rfl rfl (g3_getI (t := 0) dX2_isParted_29 flX2_77 (z3 rfl) o2 (g3_if_eq (tgt := 46) dX2_isParted_32 rfl (hM 18 x4 7) (fun c => ?_) (fun c => ?_)))
            · have h1 := h; have h := h1.1 c
              refine g3_iconst dX2_isParted_46 (g3_zreturn dX2_isParted_47 rfl (Or.inl rfl) (g3_r1 (g3_if_eq_T (tgt := 59) dX2_partedOnes_53 rfl (z3 rfl) (g3_iinc (lv' := [(4, vI (x4 + 1)), (5, vR 18 x4), (0, vR 14 0), (1, vI x1), (2, vI x2), (3, vI x3)]) 5 dX2_partedOnes_59 rfl (z3 rfl) rfl (g3_goto (tgt := 5) dX2_partedOnes_62 rfl (g3_sub [2, 3, 4, 5, 0] rfl h))))))
            · have h1 := h; have h := h1.2 c
              refine g3_aload_n 1 dX2_isParted_35 rfl rfl (g3_cV0 dX2_isParted_36 myX3_isByText mlX2_111 (z3 rfl) ob_18 o2 (z3 rfl) (c3_in rfl rfl (z3 rfl) (g3_aload_n 0 dX3_isByText_0 rfl rfl (g3_getI (t := 0) dX3_isByText_1 flX3_15 (z3 rfl) o2 (g3_if_ne (tgt := 11) dX3_isByText_4 rfl (hM 18 x4 10) (fun c => ?_) (fun c => ?_))))))
              · have h1 := h; have h := h1.1 c
                refine g3_iconst dX3_isByText_11 (g3_zreturn dX3_isByText_12 rfl (Or.inl rfl) (g3_r1 (g3_if_ne_F (tgt := 46) dX2_isParted_39 rfl (z3 rfl) (g3_iconst dX2_isParted_42 (g3_goto (tgt := 47) dX2_isParted_43 rfl (g3_zreturn dX2_isParted_47 rfl (Or.inr rfl) (g3_r1 (g3_if_eq_F (tgt := 59) dX2_partedOnes_53 rfl (z3 rfl) (g3_iinc (lv' := [(3, vI (x3 + 1)), (5, vR 18 x4), (0, vR 14 0), (1, vI x1), (2, vI x2), (4, vI x4)]) 4 dX2_partedOnes_56 rfl (z3 rfl) rfl (g3_iinc (lv' := [(4, vI (x4 + 1)), (3, vI (x3 + 1)), (5, vR 18 x4), (0, vR 14 0), (1, vI x1), (2, vI x2)]) 5 dX2_partedOnes_59 rfl (z3 rfl) rfl (g3_goto (tgt := 5) dX2_partedOnes_62 rfl (g3_sub [3, 4, 5, 1, 0] rfl h))))))))))))
              · have h1 := h; have h := h1.2 c
                refine g3_iconst dX3_isByText_7 (g3_goto (tgt := 12) dX3_isByText_8 rfl (g3_zreturn dX3_isByText_12 rfl (Or.inr rfl) (g3_r1 (g3_if_ne_T (tgt := 46) dX2_isParted_39 rfl (z3 rfl) (g3_iconst dX2_isParted_46 (g3_zreturn dX2_isParted_47 rfl (Or.inl rfl) (g3_r1 (g3_if_eq_T (tgt := 59) dX2_partedOnes_53 rfl (z3 rfl) (g3_iinc (lv' := [(4, vI (x4 + 1)), (5, vR 18 x4), (0, vR 14 0), (1, vI x1), (2, vI x2), (3, vI x3)]) 5 dX2_partedOnes_59 rfl (z3 rfl) rfl (g3_goto (tgt := 5) dX2_partedOnes_62 rfl (g3_sub [2, 3, 4, 5, 0] rfl h)))))))))))
          have h := h.2 cs0
          refine g3_by (a := x2 = 1) (fun c => ?_) (fun cs1 => ?_)
          · have h := h.1 c
            refine g3_look (tgt := 48) dX2_isParted_1 rfl hx (by rw [c] <;> rfl) rfl ?_
            refine g3_aload_n 1 dX2_isParted_48 rfl rfl (g3_getI (t := 0) dX2_isParted_49 flX2_77 (z3 rfl) o2 (g3_if_ne (tgt := 66) dX2_isParted_52 rfl (hM 18 x4 7) (fun c => ?_) (fun c => ?_)))
            · have h1 := h; have h := h1.1 c
              refine g3_iconst dX2_isParted_66 (g3_zreturn dX2_isParted_67 rfl (Or.inl rfl) (g3_r1 (g3_if_eq_T (tgt := 59) dX2_partedOnes_53 rfl (z3 rfl) (g3_iinc (lv' := [(4, vI (x4 + 1)), (5, vR 18 x4), (0, vR 14 0), (1, vI x1), (2, vI x2), (3, vI x3)]) 5 dX2_partedOnes_59 rfl (z3 rfl) rfl (g3_goto (tgt := 5) dX2_partedOnes_62 rfl (g3_sub [2, 3, 4, 5, 0] rfl h))))))
            · have h1 := h; have h := h1.2 c
              refine g3_aload_n 1 dX2_isParted_55 rfl rfl (g3_cV0 dX2_isParted_56 myX3_isByText mlX2_111 (z3 rfl) ob_18 o2 (z3 rfl) (c3_in rfl rfl (z3 rfl) (g3_aload_n 0 dX3_isByText_0 rfl rfl (g3_getI (t := 0) dX3_isByText_1 flX3_15 (z3 rfl) o2 (g3_if_ne (tgt := 11) dX3_isByText_4 rfl (hM 18 x4 10) (fun c => ?_) (fun c => ?_))))))
              · have h1 := h; have h := h1.1 c
                refine g3_iconst dX3_isByText_11 (g3_zreturn dX3_isByText_12 rfl (Or.inl rfl) (g3_r1 (g3_if_eq_T (tgt := 66) dX2_isParted_59 rfl (z3 rfl) (g3_iconst dX2_isParted_66 (g3_zreturn dX2_isParted_67 rfl (Or.inl rfl) (g3_r1 (g3_if_eq_T (tgt := 59) dX2_partedOnes_53 rfl (z3 rfl) (g3_iinc (lv' := [(4, vI (x4 + 1)), (5, vR 18 x4), (0, vR 14 0), (1, vI x1), (2, vI x2), (3, vI x3)]) 5 dX2_partedOnes_59 rfl (z3 rfl) rfl (g3_goto (tgt := 5) dX2_partedOnes_62 rfl (g3_sub [2, 3, 4, 5, 0] rfl h))))))))))
              · have h1 := h; have h := h1.2 c
                refine g3_iconst dX3_isByText_7 (g3_goto (tgt := 12) dX3_isByText_8 rfl (g3_zreturn dX3_isByText_12 rfl (Or.inr rfl) (g3_r1 (g3_if_eq_F (tgt := 66) dX2_isParted_59 rfl (z3 rfl) (g3_iconst dX2_isParted_62 (g3_goto (tgt := 67) dX2_isParted_63 rfl (g3_zreturn dX2_isParted_67 rfl (Or.inr rfl) (g3_r1 (g3_if_eq_F (tgt := 59) dX2_partedOnes_53 rfl (z3 rfl) (g3_iinc (lv' := [(3, vI (x3 + 1)), (5, vR 18 x4), (0, vR 14 0), (1, vI x1), (2, vI x2), (4, vI x4)]) 4 dX2_partedOnes_56 rfl (z3 rfl) rfl (g3_iinc (lv' := [(4, vI (x4 + 1)), (3, vI (x3 + 1)), (5, vR 18 x4), (0, vR 14 0), (1, vI x1), (2, vI x2)]) 5 dX2_partedOnes_59 rfl (z3 rfl) rfl (g3_goto (tgt := 5) dX2_partedOnes_62 rfl (g3_sub [3, 4, 5, 1, 0] rfl h)))))))))))))
          have h := h.2 cs1
          refine g3_look (off := 67) (tgt := 68) dX2_isParted_1 rfl hx (by simp [Op.lookupswitch.offset, cs0, Ne.symm cs0, cs1, Ne.symm cs1]) rfl ?_
          refine g3_aload_n 1 dX2_isParted_68 rfl rfl (g3_getI (t := 0) dX2_isParted_69 flX2_77 (z3 rfl) o2 (g3_if_ne (tgt := 94) dX2_isParted_72 rfl (hM 18 x4 7) (fun c => ?_) (fun c => ?_)))
          · have h1 := h; have h := h1.1 c
            refine g3_iconst dX2_isParted_94 (g3_zreturn dX2_isParted_95 rfl (Or.inl rfl) (g3_r1 (g3_if_eq_T (tgt := 59) dX2_partedOnes_53 rfl (z3 rfl) (g3_iinc (lv' := [(4, vI (x4 + 1)), (5, vR 18 x4), (0, vR 14 0), (1, vI x1), (2, vI x2), (3, vI x3)]) 5 dX2_partedOnes_59 rfl (z3 rfl) rfl (g3_goto (tgt := 5) dX2_partedOnes_62 rfl (g3_sub [2, 3, 4, 5, 0] rfl h))))))
          · have h1 := h; have h := h1.2 c
            refine g3_aload_n 0 dX2_isParted_75 rfl rfl (g3_aload_n 1 dX2_isParted_76 rfl rfl (g3_cV1 dX2_isParted_77 myX2_trueReasons mlX2_136 (z3 rfl) ob_14 (z3 rfl) (z3 rfl) (eX2_trueReasons Ec.rf h.1 (fun N1 hN1 he1 hp1 => ?_))))
            have o7 := h.1
            have h := h.2 N1 hN1 he1 hp1
            refine g3_r1 ?_
            refine g3_aload_n 1 dX2_isParted_80 rfl rfl (g3_getI (t := 0) dX2_isParted_81 flX2_74 (z3 rfl) o2 (g3_val (cg3 (he1.1 18 (by decide)) _ _) (g3_ishr dX2_isParted_84 (g3_iconst dX2_isParted_85 (g3_iand dX2_isParted_86 (g3_if_ne (tgt := 94) dX2_isParted_87 rfl (t3_tr _) (fun c => ?_) (fun c => ?_)))))))
            · have h1 := h; have h := h1.1 c
              refine g3_iconst dX2_isParted_94 (g3_zreturn dX2_isParted_95 rfl (Or.inl rfl) (g3_r1 (g3_if_eq_T (tgt := 59) dX2_partedOnes_53 rfl (z3 rfl) (g3_iinc (lv' := [(4, vI (x4 + 1)), (5, vR 18 x4), (0, vR 14 0), (1, vI x1), (2, vI x2), (3, vI x3)]) 5 dX2_partedOnes_59 rfl (z3 rfl) rfl (g3_goto (tgt := 5) dX2_partedOnes_62 rfl (g3_sub [2, 3, 4, 5, 0] rfl h))))))
            · have h1 := h; have h := h1.2 c
              refine g3_iconst dX2_isParted_90 (g3_goto (tgt := 95) dX2_isParted_91 rfl (g3_zreturn dX2_isParted_95 rfl (Or.inr rfl) (g3_r1 (g3_if_eq_F (tgt := 59) dX2_partedOnes_53 rfl (z3 rfl) (g3_iinc (lv' := [(3, vI (x3 + 1)), (5, vR 18 x4), (0, vR 14 0), (1, vI x1), (2, vI x2), (4, vI x4)]) 4 dX2_partedOnes_56 rfl (z3 rfl) rfl (g3_iinc (lv' := [(4, vI (x4 + 1)), (3, vI (x3 + 1)), (5, vR 18 x4), (0, vR 14 0), (1, vI x1), (2, vI x2)]) 5 dX2_partedOnes_59 rfl (z3 rfl) rfl (g3_goto (tgt := 5) dX2_partedOnes_62 rfl (g3_sub [3, 4, 5, 1, 0] rfl h))))))))
set_option maxRecDepth 20000 in
set_option maxHeartbeats 200000 in
theorem sX2_weighAll {E : E3} {Q : Q3} {M : M3}
    (h : G3 E YX2_weighAll Q 2 [(0, vR 14 0), (1, vI 0)] [] M) :
    C3 E YX2_weighAll [vR 14 0] M Q := by
  refine c3_in rfl rfl (z3 rfl) (g3_rm fun hM => ?_)
  refine g3_iconst dX2_weighAll_0 (g3_istore_n (lv' := [(1, vI 0), (0, vR 14 0)]) dX2_weighAll_1 rfl (z3 rfl) rfl (g3_sub [1, 0] rfl h))
set_option maxRecDepth 20000 in
set_option maxHeartbeats 200000 in
theorem sX2_weighAll_2 {E : E3} {Q : Q3} {M : M3} {x1 : Int}
    (h : (-2147483648 ≤ x1 ∧ x1 ≤ 2147483647) ∧ ((M 14 0 0 ≤ x1 → (Q none M)) ∧ (x1 < M 14 0 0 → ((0 ≤ x1 ∧ x1 < 60) ∧ ((LwC M ∧ (0 ≤ x1 ∧ x1 < 60) ∧ (0 ≤ M 18 x1 2 ∧ M 18 x1 2 ≤ 399)) ∧ (∀ (N1 : M3), RM3 N1 → (∀ q : Nat, q ∉ ([3, 8, 9, 18] : List Nat) → N1 q = M q) → (∀ j : Int, j ∉ ([10] : List Int) → N1 3 0 j = M 3 0 j) → (LwC N1 ∧ poWg M x1 N1) → (G3 E YX2_weighAll Q 2 [(0, vR 14 0), (1, vI (x1 + 1))] [] N1))))))) :
    G3 E YX2_weighAll Q 2 [(0, vR 14 0), (1, vI x1)] [] M := by
  refine g3_rm fun hM => ?_
  refine g3_iload_n 1 dX2_weighAll_2 rfl rfl (g3_aload_n 0 dX2_weighAll_3 rfl rfl (g3_getI (t := 0) dX2_weighAll_4 flX2_37 (z3 rfl) (z3 rfl) (g3_icmp_ge (tgt := 26) dX2_weighAll_7 rfl h.1 (hM 14 0 0) (fun c => ?_) (fun c => ?_))))
  · have h1 := h; have h := h1.2.1 c
    have o1 := h1.1
    exact g3_return dX2_weighAll_26 rfl h
  · have h1 := h; have h := h1.2.2 c
    have o1 := h1.1
    refine g3_aload_n 0 dX2_weighAll_10 rfl rfl (g3_aload_n 0 dX2_weighAll_11 rfl rfl (g3_getR0 (t := 15) dX2_weighAll_12 flX2_13 rfl (z3 rfl) (g3_iload_n 1 dX2_weighAll_15 rfl rfl (g3_aald dX2_weighAll_16 aq_15 h.1 (g3_cV1 dX2_weighAll_17 myX2_weigh mlX2_95 (z3 rfl) ob_14 (z3 rfl) (z3 rfl) (kX2_weighR h.2.1 (fun N1 hN1 hf1 hs1 hp1 => ?_)))))))
    have o2 := h.1
    have o3 := h.2.1
    have h := h.2.2 N1 hN1 hf1 hs1 hp1
    refine g3_r0 ?_
    refine g3_iinc (lv' := [(1, vI (x1 + 1)), (0, vR 14 0)]) 1 dX2_weighAll_20 rfl (z3 rfl) rfl (g3_goto (tgt := 2) dX2_weighAll_23 rfl (g3_sub [1, 0] rfl h))
set_option maxRecDepth 20000 in
set_option maxHeartbeats 200000 in
theorem sX2_handIn {E : E3} {Q : Q3} {M : M3} {x1 i2 : Int}
    (h : (0 ≤ M 14 0 0 ∧ M 14 0 0 < 60) ∧ ((-2147483648 ≤ x1 ∧ x1 ≤ 2147483647) ∧ ((0 ≤ x1 ∧ x1 < 48) ∧ (G3 E YX2_handIn Q 79 [(0, vR 14 0), (2, vR 42 i2), (3, vR 18 (M 14 0 0)), (4, vI 0)] [] (up3 (up3 (up3 (up3 (up3 (up3 (up3 (up3 M 18 (M 14 0 0) 0 x1) 18 (M 14 0 0) 1 (M 13 x1 1)) 18 (M 14 0 0) 3 (M 13 x1 2)) 18 (M 14 0 0) 2 (M 2 0 0)) 18 (M 14 0 0) 5 (-1)) 18 (M 14 0 0) 6 (-1)) 18 (M 14 0 0) 8 (-1)) 18 (M 14 0 0) 7 0))))) :
    C3 E YX2_handIn [vR 14 0, vI x1, vR 42 i2] M Q := by
  refine c3_in rfl rfl (z3 rfl) (g3_rm fun hM => ?_)
  refine g3_aload_n 0 dX2_handIn_0 rfl rfl (g3_getR0 (t := 15) dX2_handIn_1 flX2_13 rfl (z3 rfl) (g3_aload_n 0 dX2_handIn_4 rfl rfl (g3_getI (t := 0) dX2_handIn_5 flX2_37 (z3 rfl) (z3 rfl) (g3_aald dX2_handIn_8 aq_15 h.1 (g3_astore_n (lv' := [(3, vR 18 (M 14 0 0)), (0, vR 14 0), (1, vI x1), (2, vR 42 i2)]) dX2_handIn_9 rfl (z3 rfl) rfl (g3_aload_n 0 dX2_handIn_10 rfl rfl (g3_iload_n 2 dX2_handIn_11 rfl rfl (g3_put dX2_handIn_12 fpX2_41 (Or.inl rfl) h.1 h.2.1 (g3_aload_n 0 dX2_handIn_15 rfl rfl (g3_aload_n 1 dX2_handIn_16 rfl rfl (g3_getR0 (t := 10) dX2_handIn_17 flX2_28 rfl (z3 rfl) (g3_iload_n 2 dX2_handIn_20 rfl rfl (g3_cV1 dX2_handIn_21 myX0_at mlX2_44 (z3 rfl) ob_10 (z3 rfl) (z3 rfl) (c3_in rfl rfl (z3 rfl) (g3_aload_n 0 dX0_at_0 rfl rfl (g3_getR0 (t := 11) dX0_at_1 flX0_13 rfl (z3 rfl) (g3_iload_n 1 dX0_at_4 rfl rfl (g3_aald dX0_at_5 aq_11 h.2.2.1 (g3_areturn dX0_at_6 rfl (g3_r1 (g3_getI (t := 0) dX2_handIn_24 flX2_50 (z3 rfl) h.2.2.1 (g3_val (up3_nr (by decide)) (g3_put dX2_handIn_27 fpX2_55 (Or.inl rfl) h.1 (hM 13 x1 1) (g3_aload_n 0 dX2_handIn_30 rfl rfl (g3_aload_n 1 dX2_handIn_31 rfl rfl (g3_getR0 (t := 10) dX2_handIn_32 flX2_28 rfl (z3 rfl) (g3_iload_n 2 dX2_handIn_35 rfl rfl (g3_cV1 dX2_handIn_36 myX0_at mlX2_44 (z3 rfl) ob_10 (z3 rfl) (z3 rfl) (c3_in rfl rfl (z3 rfl) (g3_aload_n 0 dX0_at_0 rfl rfl (g3_getR0 (t := 11) dX0_at_1 flX0_13 rfl (z3 rfl) (g3_iload_n 1 dX0_at_4 rfl rfl (g3_aald dX0_at_5 aq_11 h.2.2.1 (g3_areturn dX0_at_6 rfl (g3_r1 (g3_getI (t := 0) dX2_handIn_39 flX2_56 (z3 rfl) h.2.2.1 (g3_val ((up3_nr (by decide)).trans (up3_nr (by decide))) (g3_put dX2_handIn_42 fpX2_59 (Or.inl rfl) h.1 (hM 13 x1 2) (g3_aload_n 0 dX2_handIn_45 rfl rfl (g3_aload_n 1 dX2_handIn_46 rfl rfl (g3_getR0 (t := 2) dX2_handIn_47 flX2_32 rfl (z3 rfl) (g3_getI (t := 0) dX2_handIn_50 flX2_60 (z3 rfl) (z3 rfl) (g3_val (((up3_nr (by decide)).trans (up3_nr (by decide))).trans (up3_nr (by decide))) (g3_put dX2_handIn_53 fpX2_65 (Or.inl rfl) h.1 (hM 2 0 0) (g3_aload_n 0 dX2_handIn_56 rfl rfl (g3_iconst dX2_handIn_57 (g3_put dX2_handIn_58 fpX2_68 (Or.inl rfl) h.1 (z3 rfl) (g3_aload_n 0 dX2_handIn_61 rfl rfl (g3_iconst dX2_handIn_62 (g3_put dX2_handIn_63 fpX2_71 (Or.inl rfl) h.1 (z3 rfl) (g3_aload_n 0 dX2_handIn_66 rfl rfl (g3_iconst dX2_handIn_67 (g3_put dX2_handIn_68 fpX2_74 (Or.inl rfl) h.1 (z3 rfl) (g3_aload_n 0 dX2_handIn_71 rfl rfl (g3_iconst dX2_handIn_72 (g3_put dX2_handIn_73 fpX2_77 (Or.inr ⟨rfl, (Or.inl rfl)⟩) h.1 (z3 rfl) (g3_iconst dX2_handIn_76 (g3_istore (lv' := [(4, vI 0), (3, vR 18 (M 14 0 0)), (0, vR 14 0), (1, vI x1), (2, vR 42 i2)]) dX2_handIn_77 (z3 rfl) rfl (g3_sub [2, 4, 1, 0] rfl h.2.2.2)))))))))))))))))))))))))))))))))))))))))))))))))))))))))))
set_option maxRecDepth 20000 in
set_option maxHeartbeats 200000 in
theorem sX2_handIn_79 {E : E3} {Q : Q3} {M : M3} {i2 : Int} {i3 : Int} {x4 : Int}
    (h : (-2147483648 ≤ x4 ∧ x4 ≤ 2147483647) ∧ ((20 ≤ x4 → ((LwC M ∧ (0 ≤ i3 ∧ i3 < 60) ∧ (0 ≤ M 18 i3 2 ∧ M 18 i3 2 ≤ 399)) ∧ (∀ (N1 : M3), RM3 N1 → (∀ q : Nat, q ∉ ([3, 8, 9, 18] : List Nat) → N1 q = M q) → (∀ j : Int, j ∉ ([10] : List Int) → N1 3 0 j = M 3 0 j) → (LwC N1 ∧ poWg M i3 N1) → ((-2147483648 ≤ (M 14 0 0) + 1 ∧ (M 14 0 0) + 1 ≤ 2147483647) ∧ (Q (some (vI (((M 14 0 0) + 1) - 1))) (up3 N1 14 0 0 ((M 14 0 0) + 1))))))) ∧ (x4 < 20 → ((0 ≤ i2 ∧ i2 < 4) ∧ ((M 42 i2 1 ≤ x4 → ((0 ≤ i3 ∧ i3 < 60) ∧ (((-2147483648 ≤ ((-1) : Int) ∧ ((-1) : Int) ≤ 2147483647) ∧ (-2147483648 ≤ (0 : Int) ∧ (0 : Int) ≤ 2147483647) ∧ (-2147483648 ≤ (99 : Int) ∧ (99 : Int) ≤ 2147483647)) ∧ ((¬(0 ≤ (-1) ∧ (-1) ≤ 99) → ((0 ≤ x4 ∧ x4 < 20) ∧ (G3 E YX2_handIn Q 79 [(0, vR 14 0), (2, vR 42 i2), (3, vR 18 i3), (4, vI (x4 + 1))] [] (up3 M 19 i3 x4 (-1))))) ∧ ((0 ≤ (-1) ∧ (-1) ≤ 99) → ((0 ≤ x4 ∧ x4 < 20) ∧ (G3 E YX2_handIn Q 79 [(0, vR 14 0), (2, vR 42 i2), (3, vR 18 i3), (4, vI (x4 + 1))] [] (up3 M 19 i3 x4 (-1))))))))) ∧ (x4 < M 42 i2 1 → ((0 ≤ x4 ∧ x4 < 40) ∧ ((0 ≤ i3 ∧ i3 < 60) ∧ (((-2147483648 ≤ (M 43 i2 x4) ∧ (M 43 i2 x4) ≤ 2147483647) ∧ (-2147483648 ≤ (0 : Int) ∧ (0 : Int) ≤ 2147483647) ∧ (-2147483648 ≤ (99 : Int) ∧ (99 : Int) ≤ 2147483647)) ∧ ((¬(0 ≤ (M 43 i2 x4) ∧ (M 43 i2 x4) ≤ 99) → ((0 ≤ x4 ∧ x4 < 20) ∧ (G3 E YX2_handIn Q 79 [(0, vR 14 0), (2, vR 42 i2), (3, vR 18 i3), (4, vI (x4 + 1))] [] (up3 M 19 i3 x4 (-1))))) ∧ ((0 ≤ (M 43 i2 x4) ∧ (M 43 i2 x4) ≤ 99) → ((0 ≤ x4 ∧ x4 < 20) ∧ (G3 E YX2_handIn Q 79 [(0, vR 14 0), (2, vR 42 i2), (3, vR 18 i3), (4, vI (x4 + 1))] [] (up3 M 19 i3 x4 (M 43 i2 x4))))))))))))))) :
    G3 E YX2_handIn Q 79 [(0, vR 14 0), (2, vR 42 i2), (3, vR 18 i3), (4, vI x4)] [] M := by
  refine g3_rm fun hM => ?_
  refine g3_iload 3 dX2_handIn_79 rfl (g3_bipush dX2_handIn_81 rfl (g3_icmp_ge (tgt := 137) dX2_handIn_83 rfl h.1 (z3 rfl) (fun c => ?_) (fun c => ?_)))
  · have h1 := h; have h := h1.2.1 c
    have o1 := h1.1
    refine g3_aload_n 0 dX2_handIn_137 rfl rfl (g3_aload_n 2 dX2_handIn_138 rfl rfl (g3_cV1 dX2_handIn_139 myX2_weigh mlX2_95 (z3 rfl) ob_14 (z3 rfl) (z3 rfl) (kX2_weighR h.1 (fun N1 hN1 hf1 hs1 hp1 => ?_))))
    have o2 := h.1
    have h := h.2 N1 hN1 hf1 hs1 hp1
    refine g3_r0 ?_
    exact g3_aload_n 0 dX2_handIn_142 rfl rfl (g3_dup dX2_handIn_143 rfl (g3_getI (t := 0) dX2_handIn_144 flX2_37 (z3 rfl) (z3 rfl) (g3_val (cg3 (hf1 14 (by decide)) _ _) (g3_iconst dX2_handIn_147 (g3_iadd dX2_handIn_148 (g3_put dX2_handIn_149 fpX2_37 (Or.inl rfl) (z3 rfl) h.1 (g3_aload_n 0 dX2_handIn_152 rfl rfl (g3_getI (t := 0) dX2_handIn_153 flX2_37 (z3 rfl) (z3 rfl) (g3_val (up3_eq) (g3_iconst dX2_handIn_156 (g3_isub dX2_handIn_157 (g3_ireturn dX2_handIn_158 rfl h.2))))))))))))
  · have h1 := h; have h := h1.2.2 c
    have o1 := h1.1
    refine g3_iload 3 dX2_handIn_86 rfl (g3_aload_n 1 dX2_handIn_88 rfl rfl (g3_getI (t := 0) dX2_handIn_89 flX2_81 (z3 rfl) h.1 (g3_icmp_ge (tgt := 104) dX2_handIn_92 rfl o1 (hM 42 i2 1) (fun c => ?_) (fun c => ?_))))
    · have h1 := h; have h := h1.2.1 c
      have o4 := h1.1
      refine g3_iconst dX2_handIn_104 (g3_istore (lv' := [(5, vI (-1)), (0, vR 14 0), (2, vR 42 i2), (3, vR 18 i3), (4, vI x4)]) dX2_handIn_105 (z3 rfl) rfl (g3_aload_n 3 dX2_handIn_107 rfl rfl (g3_getRi (t := 19) dX2_handIn_108 flX2_88 rfl h.1 (g3_iload 4 dX2_handIn_111 rfl (g3_iload 0 dX2_handIn_113 rfl (g3_iconst dX2_handIn_115 (g3_bipush dX2_handIn_116 rfl (g3_cN3 dX2_handIn_118 myX11_within mlX2_91 (z3 rfl) (z3 rfl) (kX11_within h.2.1 (g3_r1 (g3_bool_eq (tgt := 129) dX2_handIn_121 rfl (fun c => ?_) (fun c => ?_))))))))))))
      · have h1 := h; have h := h1.2.2.1 c
        have o5 := h1.1
        have o6 := h1.2.1
        refine g3_iconst dX2_handIn_129 (g3_iast dX2_handIn_130 ar_19 o5 h.1 (z3 rfl) (g3_iinc (lv' := [(4, vI (x4 + 1)), (5, vI (-1)), (0, vR 14 0), (2, vR 42 i2), (3, vR 18 i3)]) 4 dX2_handIn_131 rfl (z3 rfl) rfl (g3_goto (tgt := 79) dX2_handIn_134 rfl (g3_sub [2, 3, 4, 0] rfl h.2))))
      · have h1 := h; have h := h1.2.2.2 c
        have o5 := h1.1
        have o6 := h1.2.1
        refine g3_iload 0 dX2_handIn_124 rfl (g3_goto (tgt := 130) dX2_handIn_126 rfl (g3_iast dX2_handIn_130 ar_19 o5 h.1 (z3 rfl) (g3_iinc (lv' := [(4, vI (x4 + 1)), (5, vI (-1)), (0, vR 14 0), (2, vR 42 i2), (3, vR 18 i3)]) 4 dX2_handIn_131 rfl (z3 rfl) rfl (g3_goto (tgt := 79) dX2_handIn_134 rfl (g3_sub [2, 3, 4, 0] rfl h.2)))))
    · have h1 := h; have h := h1.2.2 c
      have o4 := h1.1
      refine g3_aload_n 1 dX2_handIn_95 rfl rfl (g3_iload 3 dX2_handIn_96 rfl (g3_cV1 dX2_handIn_98 myX9_item mlX2_84 (z3 rfl) ob_42 o4 (z3 rfl) (c3_in rfl rfl (z3 rfl) (g3_aload_n 0 dX9_item_0 rfl rfl (g3_getRi (t := 43) dX9_item_1 flX9_15 rfl o4 (g3_iload_n 1 dX9_item_4 rfl rfl (g3_iald dX9_item_5 ar_43 o4 h.1 (g3_ireturn dX9_item_6 rfl (g3_r1 (g3_goto (tgt := 105) dX2_handIn_101 rfl (g3_istore (lv' := [(5, vI (M 43 i2 x4)), (0, vR 14 0), (2, vR 42 i2), (3, vR 18 i3), (4, vI x4)]) dX2_handIn_105 (z3 rfl) rfl (g3_aload_n 3 dX2_handIn_107 rfl rfl (g3_getRi (t := 19) dX2_handIn_108 flX2_88 rfl h.2.1 (g3_iload 4 dX2_handIn_111 rfl (g3_iload 0 dX2_handIn_113 rfl (g3_iconst dX2_handIn_115 (g3_bipush dX2_handIn_116 rfl (g3_cN3 dX2_handIn_118 myX11_within mlX2_91 (z3 rfl) (z3 rfl) (kX11_within h.2.2.1 (g3_r1 (g3_bool_eq (tgt := 129) dX2_handIn_121 rfl (fun c => ?_) (fun c => ?_))))))))))))))))))))))
      · have h1 := h; have h := h1.2.2.2.1 c
        have o9 := h1.1
        have o10 := h1.2.1
        have o11 := h1.2.2.1
        refine g3_iconst dX2_handIn_129 (g3_iast dX2_handIn_130 ar_19 o10 h.1 (z3 rfl) (g3_iinc (lv' := [(4, vI (x4 + 1)), (5, vI (M 43 i2 x4)), (0, vR 14 0), (2, vR 42 i2), (3, vR 18 i3)]) 4 dX2_handIn_131 rfl (z3 rfl) rfl (g3_goto (tgt := 79) dX2_handIn_134 rfl (g3_sub [2, 3, 4, 0] rfl h.2))))
      · have h1 := h; have h := h1.2.2.2.2 c
        have o9 := h1.1
        have o10 := h1.2.1
        have o11 := h1.2.2.1
        refine g3_iload 0 dX2_handIn_124 rfl (g3_goto (tgt := 130) dX2_handIn_126 rfl (g3_iast dX2_handIn_130 ar_19 o10 h.1 (hM 43 i2 x4) (g3_iinc (lv' := [(4, vI (x4 + 1)), (5, vI (M 43 i2 x4)), (0, vR 14 0), (2, vR 42 i2), (3, vR 18 i3)]) 4 dX2_handIn_131 rfl (z3 rfl) rfl (g3_goto (tgt := 79) dX2_handIn_134 rfl (g3_sub [2, 3, 4, 0] rfl h.2)))))
