set_option maxRecDepth 20000 in
set_option maxHeartbeats 200000 in
theorem sX0_tally {E : E3} {Q : Q3} {M : M3} {x1 x2 x3 : Int}
    (h : G3 E YX0_tally Q 6 [(0, vR 10 0), (1, vI x1), (2, vI x2), (3, vI x3), (4, vI 0), (5, vI 0)] [] M) :
    C3 E YX0_tally [vR 10 0, vI x1, vI x2, vI x3] M Q := by
  refine c3_in rfl rfl (z3 rfl) (g3_rm fun hM => ?_)
  refine g3_iconst dX0_tally_0 (g3_istore (lv' := [(4, vI 0), (0, vR 10 0), (1, vI x1), (2, vI x2), (3, vI x3)]) dX0_tally_1 (z3 rfl) rfl (g3_iconst dX0_tally_3 (g3_istore (lv' := [(5, vI 0), (4, vI 0), (0, vR 10 0), (1, vI x1), (2, vI x2), (3, vI x3)]) dX0_tally_4 (z3 rfl) rfl (g3_sub [2, 3, 4, 5, 1, 0] rfl h))))
set_option maxRecDepth 20000 in
set_option maxHeartbeats 200000 in
theorem sX0_tally_6 {E : E3} {Q : Q3} {M : M3} {x1 : Int} {x2 : Int} {x3 : Int} {x4 : Int} {x5 : Int}
    (h : (-2147483648 ≤ x5 ∧ x5 ≤ 2147483647) ∧ ((M 10 0 0 ≤ x5 → (Q (some (vI x4)) M)) ∧ (x5 < M 10 0 0 → ((0 ≤ x5 ∧ x5 < 48) ∧ ((-2147483648 ≤ x3 ∧ x3 ≤ 2147483647) ∧ ((M 13 x5 5 ≠ x3 → (G3 E YX0_tally Q 6 [(0, vR 10 0), (1, vI x1), (2, vI x2), (3, vI x3), (4, vI x4), (5, vI (x5 + 1))] [] M)) ∧ (M 13 x5 5 = x3 → ((-2147483648 ≤ x1 ∧ x1 ≤ 2147483647) ∧ ((x1 = (-1) → ((-2147483648 ≤ x2 ∧ x2 ≤ 2147483647) ∧ ((x2 = (-1) → (G3 E YX0_tally Q 6 [(0, vR 10 0), (1, vI x1), (2, vI x2), (3, vI x3), (4, vI (x4 + 1)), (5, vI (x5 + 1))] [] M)) ∧ (x2 ≠ (-1) → ((M 13 x5 1 ≠ x2 → (G3 E YX0_tally Q 6 [(0, vR 10 0), (1, vI x1), (2, vI x2), (3, vI x3), (4, vI x4), (5, vI (x5 + 1))] [] M)) ∧ (M 13 x5 1 = x2 → (G3 E YX0_tally Q 6 [(0, vR 10 0), (1, vI x1), (2, vI x2), (3, vI x3), (4, vI (x4 + 1)), (5, vI (x5 + 1))] [] M))))))) ∧ (x1 ≠ (-1) → ((M 13 x5 0 ≠ x1 → (G3 E YX0_tally Q 6 [(0, vR 10 0), (1, vI x1), (2, vI x2), (3, vI x3), (4, vI x4), (5, vI (x5 + 1))] [] M)) ∧ (M 13 x5 0 = x1 → ((-2147483648 ≤ x2 ∧ x2 ≤ 2147483647) ∧ ((x2 = (-1) → (G3 E YX0_tally Q 6 [(0, vR 10 0), (1, vI x1), (2, vI x2), (3, vI x3), (4, vI (x4 + 1)), (5, vI (x5 + 1))] [] M)) ∧ (x2 ≠ (-1) → ((M 13 x5 1 ≠ x2 → (G3 E YX0_tally Q 6 [(0, vR 10 0), (1, vI x1), (2, vI x2), (3, vI x3), (4, vI x4), (5, vI (x5 + 1))] [] M)) ∧ (M 13 x5 1 = x2 → (G3 E YX0_tally Q 6 [(0, vR 10 0), (1, vI x1), (2, vI x2), (3, vI x3), (4, vI (x4 + 1)), (5, vI (x5 + 1))] [] M)))))))))))))))))) :
    G3 E YX0_tally Q 6 [(0, vR 10 0), (1, vI x1), (2, vI x2), (3, vI x3), (4, vI x4), (5, vI x5)] [] M := by
  refine g3_rm fun hM => ?_
  refine g3_iload 5 dX0_tally_6 rfl (g3_aload_n 0 dX0_tally_8 rfl rfl (g3_getI (t := 0) dX0_tally_9 flX0_22 (z3 rfl) (z3 rfl) (g3_icmp_ge (tgt := 70) dX0_tally_12 rfl h.1 (hM 10 0 0) (fun c => ?_) (fun c => ?_))))
  · have h1 := h; have h := h1.2.1 c
    have o1 := h1.1
    exact g3_iload 4 dX0_tally_70 rfl (g3_ireturn dX0_tally_72 rfl h)
  · have h1 := h; have h := h1.2.2 c
    have o1 := h1.1
    refine g3_aload_n 0 dX0_tally_15 rfl rfl (g3_getR0 (t := 11) dX0_tally_16 flX0_13 rfl (z3 rfl) (g3_iload 5 dX0_tally_19 rfl (g3_aald dX0_tally_21 aq_11 h.1 (g3_astore (lv' := [(6, vR 13 x5), (0, vR 10 0), (1, vI x1), (2, vI x2), (3, vI x3), (4, vI x4), (5, vI x5)]) dX0_tally_22 (z3 rfl) rfl (g3_aload 0 dX0_tally_24 rfl (g3_getI (t := 0) dX0_tally_26 flX0_41 (z3 rfl) h.1 (g3_iload_n 4 dX0_tally_29 rfl rfl (g3_icmp_ne (tgt := 64) dX0_tally_30 rfl (hM 13 x5 5) h.2.1 (fun c => ?_) (fun c => ?_)))))))))
    · have h1 := h; have h := h1.2.2.1 c
      have o2 := h1.1
      have o3 := h1.2.1
      refine g3_iinc (lv' := [(5, vI (x5 + 1)), (6, vR 13 x5), (0, vR 10 0), (1, vI x1), (2, vI x2), (3, vI x3), (4, vI x4)]) 6 dX0_tally_64 rfl (z3 rfl) rfl (g3_goto (tgt := 6) dX0_tally_67 rfl (g3_sub [2, 3, 4, 5, 6, 0] rfl h))
    · have h1 := h; have h := h1.2.2.2 c
      have o2 := h1.1
      have o3 := h1.2.1
      refine g3_iload_n 2 dX0_tally_33 rfl rfl (g3_iconst dX0_tally_34 (g3_icmp_eq (tgt := 47) dX0_tally_35 rfl h.1 (z3 rfl) (fun c => ?_) (fun c => ?_)))
      · have h1 := h; have h := h1.2.1 c
        have o4 := h1.1
        refine g3_iload_n 3 dX0_tally_47 rfl rfl (g3_iconst dX0_tally_48 (g3_icmp_eq (tgt := 61) dX0_tally_49 rfl h.1 (z3 rfl) (fun c => ?_) (fun c => ?_)))
        · have h1 := h; have h := h1.2.1 c
          have o5 := h1.1
          refine g3_iinc (lv' := [(4, vI (x4 + 1)), (6, vR 13 x5), (0, vR 10 0), (1, vI x1), (2, vI x2), (3, vI x3), (5, vI x5)]) 5 dX0_tally_61 rfl (z3 rfl) rfl (g3_iinc (lv' := [(5, vI (x5 + 1)), (4, vI (x4 + 1)), (6, vR 13 x5), (0, vR 10 0), (1, vI x1), (2, vI x2), (3, vI x3)]) 6 dX0_tally_64 rfl (z3 rfl) rfl (g3_goto (tgt := 6) dX0_tally_67 rfl (g3_sub [3, 4, 5, 6, 1, 0] rfl h)))
        · have h1 := h; have h := h1.2.2 c
          have o5 := h1.1
          refine g3_aload 0 dX0_tally_52 rfl (g3_getI (t := 0) dX0_tally_54 flX0_29 (z3 rfl) o2 (g3_iload_n 3 dX0_tally_57 rfl rfl (g3_icmp_ne (tgt := 64) dX0_tally_58 rfl (hM 13 x5 1) o5 (fun c => ?_) (fun c => ?_))))
          · have h1 := h; have h := h1.1 c
            refine g3_iinc (lv' := [(5, vI (x5 + 1)), (6, vR 13 x5), (0, vR 10 0), (1, vI x1), (2, vI x2), (3, vI x3), (4, vI x4)]) 6 dX0_tally_64 rfl (z3 rfl) rfl (g3_goto (tgt := 6) dX0_tally_67 rfl (g3_sub [2, 3, 4, 5, 6, 0] rfl h))
          · have h1 := h; have h := h1.2 c
            refine g3_iinc (lv' := [(4, vI (x4 + 1)), (6, vR 13 x5), (0, vR 10 0), (1, vI x1), (2, vI x2), (3, vI x3), (5, vI x5)]) 5 dX0_tally_61 rfl (z3 rfl) rfl (g3_iinc (lv' := [(5, vI (x5 + 1)), (4, vI (x4 + 1)), (6, vR 13 x5), (0, vR 10 0), (1, vI x1), (2, vI x2), (3, vI x3)]) 6 dX0_tally_64 rfl (z3 rfl) rfl (g3_goto (tgt := 6) dX0_tally_67 rfl (g3_sub [3, 4, 5, 6, 1, 0] rfl h)))
      · have h1 := h; have h := h1.2.2 c
        have o4 := h1.1
        refine g3_aload 0 dX0_tally_38 rfl (g3_getI (t := 0) dX0_tally_40 flX0_26 (z3 rfl) o2 (g3_iload_n 2 dX0_tally_43 rfl rfl (g3_icmp_ne (tgt := 64) dX0_tally_44 rfl (hM 13 x5 0) o4 (fun c => ?_) (fun c => ?_))))
        · have h1 := h; have h := h1.1 c
          refine g3_iinc (lv' := [(5, vI (x5 + 1)), (6, vR 13 x5), (0, vR 10 0), (1, vI x1), (2, vI x2), (3, vI x3), (4, vI x4)]) 6 dX0_tally_64 rfl (z3 rfl) rfl (g3_goto (tgt := 6) dX0_tally_67 rfl (g3_sub [2, 3, 4, 5, 6, 0] rfl h))
        · have h1 := h; have h := h1.2 c
          refine g3_iload_n 3 dX0_tally_47 rfl rfl (g3_iconst dX0_tally_48 (g3_icmp_eq (tgt := 61) dX0_tally_49 rfl h.1 (z3 rfl) (fun c => ?_) (fun c => ?_)))
          · have h1 := h; have h := h1.2.1 c
            have o6 := h1.1
            refine g3_iinc (lv' := [(4, vI (x4 + 1)), (6, vR 13 x5), (0, vR 10 0), (1, vI x1), (2, vI x2), (3, vI x3), (5, vI x5)]) 5 dX0_tally_61 rfl (z3 rfl) rfl (g3_iinc (lv' := [(5, vI (x5 + 1)), (4, vI (x4 + 1)), (6, vR 13 x5), (0, vR 10 0), (1, vI x1), (2, vI x2), (3, vI x3)]) 6 dX0_tally_64 rfl (z3 rfl) rfl (g3_goto (tgt := 6) dX0_tally_67 rfl (g3_sub [3, 4, 5, 6, 1, 0] rfl h)))
          · have h1 := h; have h := h1.2.2 c
            have o6 := h1.1
            refine g3_aload 0 dX0_tally_52 rfl (g3_getI (t := 0) dX0_tally_54 flX0_29 (z3 rfl) o2 (g3_iload_n 3 dX0_tally_57 rfl rfl (g3_icmp_ne (tgt := 64) dX0_tally_58 rfl (hM 13 x5 1) o6 (fun c => ?_) (fun c => ?_))))
            · have h1 := h; have h := h1.1 c
              refine g3_iinc (lv' := [(5, vI (x5 + 1)), (6, vR 13 x5), (0, vR 10 0), (1, vI x1), (2, vI x2), (3, vI x3), (4, vI x4)]) 6 dX0_tally_64 rfl (z3 rfl) rfl (g3_goto (tgt := 6) dX0_tally_67 rfl (g3_sub [2, 3, 4, 5, 6, 0] rfl h))
            · have h1 := h; have h := h1.2 c
              refine g3_iinc (lv' := [(4, vI (x4 + 1)), (6, vR 13 x5), (0, vR 10 0), (1, vI x1), (2, vI x2), (3, vI x3), (5, vI x5)]) 5 dX0_tally_61 rfl (z3 rfl) rfl (g3_iinc (lv' := [(5, vI (x5 + 1)), (4, vI (x4 + 1)), (6, vR 13 x5), (0, vR 10 0), (1, vI x1), (2, vI x2), (3, vI x3)]) 6 dX0_tally_64 rfl (z3 rfl) rfl (g3_goto (tgt := 6) dX0_tally_67 rfl (g3_sub [3, 4, 5, 6, 1, 0] rfl h)))
set_option maxRecDepth 20000 in
set_option maxHeartbeats 200000 in
theorem sX0_keepInOrder {E : E3} {Q : Q3} {M : M3} {x1 x2 : Int}
    (h : G3 E YX0_keepInOrder Q 2 [(0, vR 10 0), (1, vI x1), (3, vI x2)] [] M) :
    C3 E YX0_keepInOrder [vR 10 0, vI x1, vI x2] M Q := by
  refine c3_in rfl rfl (z3 rfl) (g3_rm fun hM => ?_)
  refine g3_iload_n 2 dX0_keepInOrder_0 rfl rfl (g3_istore_n (lv' := [(3, vI x2), (0, vR 10 0), (1, vI x1), (2, vI x2)]) dX0_keepInOrder_1 rfl (z3 rfl) rfl (g3_sub [1, 2, 0] rfl h))
set_option maxRecDepth 20000 in
set_option maxHeartbeats 200000 in
theorem sX0_keepInOrder_2 {E : E3} {Q : Q3} {M : M3} {x1 : Int} {x3 : Int}
    (h : (-2147483648 ≤ x3 ∧ x3 ≤ 2147483647) ∧ ((x3 ≤ 0 → ((0 ≤ x3 ∧ x3 < 6) ∧ ((-2147483648 ≤ x1 ∧ x1 ≤ 2147483647) ∧ (Q none (up3 M 12 0 x3 x1))))) ∧ (0 < x3 → ((0 ≤ x3 - 1 ∧ x3 - 1 < 6) ∧ ((-2147483648 ≤ x1 ∧ x1 ≤ 2147483647) ∧ ((M 12 0 (x3 - 1) ≤ x1 → ((0 ≤ x3 ∧ x3 < 6) ∧ (Q none (up3 M 12 0 x3 x1)))) ∧ (x1 < M 12 0 (x3 - 1) → ((0 ≤ x3 ∧ x3 < 6) ∧ (G3 E YX0_keepInOrder Q 2 [(0, vR 10 0), (1, vI x1), (3, vI (x3 + (-1)))] [] (up3 M 12 0 x3 (M 12 0 (x3 - 1)))))))))))) :
    G3 E YX0_keepInOrder Q 2 [(0, vR 10 0), (1, vI x1), (3, vI x3)] [] M := by
  refine g3_rm fun hM => ?_
  refine g3_iload_n 2 dX0_keepInOrder_2 rfl rfl (g3_if_le (tgt := 38) dX0_keepInOrder_3 rfl h.1 (fun c => ?_) (fun c => ?_))
  · have h1 := h; have h := h1.2.1 c
    have o1 := h1.1
    exact g3_aload_n 0 dX0_keepInOrder_38 rfl rfl (g3_getR0 (t := 12) dX0_keepInOrder_39 flX0_17 rfl (z3 rfl) (g3_iload_n 2 dX0_keepInOrder_42 rfl rfl (g3_iload_n 1 dX0_keepInOrder_43 rfl rfl (g3_iast dX0_keepInOrder_44 ar_12 (z3 rfl) h.1 h.2.1 (g3_return dX0_keepInOrder_45 rfl h.2.2)))))
  · have h1 := h; have h := h1.2.2 c
    have o1 := h1.1
    refine g3_aload_n 0 dX0_keepInOrder_6 rfl rfl (g3_getR0 (t := 12) dX0_keepInOrder_7 flX0_17 rfl (z3 rfl) (g3_iload_n 2 dX0_keepInOrder_10 rfl rfl (g3_iconst dX0_keepInOrder_11 (g3_isub dX0_keepInOrder_12 (g3_iald dX0_keepInOrder_13 ar_12 (z3 rfl) h.1 (g3_iload_n 1 dX0_keepInOrder_14 rfl rfl (g3_icmp_le (tgt := 38) dX0_keepInOrder_15 rfl (hM 12 0 (x3 - 1)) h.2.1 (fun c => ?_) (fun c => ?_))))))))
    · have h1 := h; have h := h1.2.2.1 c
      have o4 := h1.1
      have o5 := h1.2.1
      exact g3_aload_n 0 dX0_keepInOrder_38 rfl rfl (g3_getR0 (t := 12) dX0_keepInOrder_39 flX0_17 rfl (z3 rfl) (g3_iload_n 2 dX0_keepInOrder_42 rfl rfl (g3_iload_n 1 dX0_keepInOrder_43 rfl rfl (g3_iast dX0_keepInOrder_44 ar_12 (z3 rfl) h.1 o5 (g3_return dX0_keepInOrder_45 rfl h.2)))))
    · have h1 := h; have h := h1.2.2.2 c
      have o4 := h1.1
      have o5 := h1.2.1
      refine g3_aload_n 0 dX0_keepInOrder_18 rfl rfl (g3_getR0 (t := 12) dX0_keepInOrder_19 flX0_17 rfl (z3 rfl) (g3_iload_n 2 dX0_keepInOrder_22 rfl rfl (g3_aload_n 0 dX0_keepInOrder_23 rfl rfl (g3_getR0 (t := 12) dX0_keepInOrder_24 flX0_17 rfl (z3 rfl) (g3_iload_n 2 dX0_keepInOrder_27 rfl rfl (g3_iconst dX0_keepInOrder_28 (g3_isub dX0_keepInOrder_29 (g3_iald dX0_keepInOrder_30 ar_12 (z3 rfl) o4 (g3_iast dX0_keepInOrder_31 ar_12 (z3 rfl) h.1 (hM 12 0 (x3 - 1)) (g3_iinc (lv' := [(3, vI (x3 + (-1))), (0, vR 10 0), (1, vI x1)]) 2 dX0_keepInOrder_32 rfl (z3 rfl) rfl (g3_goto (tgt := 2) dX0_keepInOrder_35 rfl (g3_sub [1, 2, 0] rfl h.2))))))))))))
set_option maxRecDepth 20000 in
set_option maxHeartbeats 200000 in
theorem sX4_reckonFor {E : E3} {Q : Q3} {M : M3} {x1 : Int}
    (h : (-2147483648 ≤ x1 ∧ x1 ≤ 2147483647) ∧ ((M 3 0 10 ≠ x1 → (G3 E YX4_reckonFor Q 16 [(0, vR 3 0), (1, vI x1), (2, vI 0)] [] (up3 M 3 0 10 x1))) ∧ (M 3 0 10 = x1 → (Q none M)))) :
    C3 E YX4_reckonFor [vR 3 0, vI x1] M Q := by
  refine c3_in rfl rfl (z3 rfl) (g3_rm fun hM => ?_)
  refine g3_aload_n 0 dX4_reckonFor_0 rfl rfl (g3_getI (t := 0) dX4_reckonFor_1 flX4_30 (z3 rfl) (z3 rfl) (g3_iload_n 1 dX4_reckonFor_4 rfl rfl (g3_icmp_ne (tgt := 9) dX4_reckonFor_5 rfl (hM 3 0 10) h.1 (fun c => ?_) (fun c => ?_))))
  · have h1 := h; have h := h1.2.1 c
    have o1 := h1.1
    refine g3_aload_n 0 dX4_reckonFor_9 rfl rfl (g3_iload_n 1 dX4_reckonFor_10 rfl rfl (g3_put dX4_reckonFor_11 fpX4_30 (Or.inl rfl) (z3 rfl) o1 (g3_iconst dX4_reckonFor_14 (g3_istore_n (lv' := [(2, vI 0), (0, vR 3 0), (1, vI x1)]) dX4_reckonFor_15 rfl (z3 rfl) rfl (g3_sub [1, 2, 0] rfl h)))))
  · have h1 := h; have h := h1.2.2 c
    have o1 := h1.1
    exact g3_return dX4_reckonFor_8 rfl h
set_option maxRecDepth 20000 in
set_option maxHeartbeats 200000 in
theorem sX4_reckonFor_16 {E : E3} {Q : Q3} {M : M3} {x1 : Int} {x2 : Int}
    (h : (-2147483648 ≤ x2 ∧ x2 ≤ 2147483647) ∧ ((24 ≤ x2 → (G3 E YX4_reckonFor Q 77 [(0, vR 3 0), (1, vI x1), (2, vI 0)] [] (up3 (up3 (up3 (up3 M 9 0 20 1) 9 0 21 3) 9 0 22 0) 9 0 23 99))) ∧ (x2 < 24 → ((0 ≤ x2 ∧ x2 < 24) ∧ (G3 E YX4_reckonFor Q 16 [(0, vR 3 0), (1, vI x1), (2, vI (x2 + 1))] [] (up3 (up3 M 8 0 x2 (-1)) 9 0 x2 (-1))))))) :
    G3 E YX4_reckonFor Q 16 [(0, vR 3 0), (1, vI x1), (2, vI x2)] [] M := by
  refine g3_rm fun hM => ?_
  refine g3_iload_n 2 dX4_reckonFor_16 rfl rfl (g3_bipush dX4_reckonFor_17 rfl (g3_icmp_ge (tgt := 42) dX4_reckonFor_19 rfl h.1 (z3 rfl) (fun c => ?_) (fun c => ?_)))
  · have h1 := h; have h := h1.2.1 c
    have o1 := h1.1
    refine g3_aload_n 0 dX4_reckonFor_42 rfl rfl (g3_getR0 (t := 9) dX4_reckonFor_43 flX4_27 rfl (z3 rfl) (g3_bipush dX4_reckonFor_46 rfl (g3_iconst dX4_reckonFor_48 (g3_iast dX4_reckonFor_49 ar_9 (z3 rfl) (z3 rfl) (z3 rfl) (g3_aload_n 0 dX4_reckonFor_50 rfl rfl (g3_getR0 (t := 9) dX4_reckonFor_51 flX4_27 rfl (z3 rfl) (g3_bipush dX4_reckonFor_54 rfl (g3_iconst dX4_reckonFor_56 (g3_iast dX4_reckonFor_57 ar_9 (z3 rfl) (z3 rfl) (z3 rfl) (g3_aload_n 0 dX4_reckonFor_58 rfl rfl (g3_getR0 (t := 9) dX4_reckonFor_59 flX4_27 rfl (z3 rfl) (g3_bipush dX4_reckonFor_62 rfl (g3_iconst dX4_reckonFor_64 (g3_iast dX4_reckonFor_65 ar_9 (z3 rfl) (z3 rfl) (z3 rfl) (g3_aload_n 0 dX4_reckonFor_66 rfl rfl (g3_getR0 (t := 9) dX4_reckonFor_67 flX4_27 rfl (z3 rfl) (g3_bipush dX4_reckonFor_70 rfl (g3_bipush dX4_reckonFor_72 rfl (g3_iast dX4_reckonFor_74 ar_9 (z3 rfl) (z3 rfl) (z3 rfl) (g3_iconst dX4_reckonFor_75 (g3_istore_n (lv' := [(2, vI 0), (0, vR 3 0), (1, vI x1)]) dX4_reckonFor_76 rfl (z3 rfl) rfl (g3_sub [1, 2, 0] rfl h))))))))))))))))))))))
  · have h1 := h; have h := h1.2.2 c
    have o1 := h1.1
    refine g3_aload_n 0 dX4_reckonFor_22 rfl rfl (g3_getR0 (t := 8) dX4_reckonFor_23 flX4_24 rfl (z3 rfl) (g3_iload_n 2 dX4_reckonFor_26 rfl rfl (g3_iconst dX4_reckonFor_27 (g3_iast dX4_reckonFor_28 ar_8 (z3 rfl) h.1 (z3 rfl) (g3_aload_n 0 dX4_reckonFor_29 rfl rfl (g3_getR0 (t := 9) dX4_reckonFor_30 flX4_27 rfl (z3 rfl) (g3_iload_n 2 dX4_reckonFor_33 rfl rfl (g3_iconst dX4_reckonFor_34 (g3_iast dX4_reckonFor_35 ar_9 (z3 rfl) h.1 (z3 rfl) (g3_iinc (lv' := [(2, vI (x2 + 1)), (0, vR 3 0), (1, vI x1)]) 2 dX4_reckonFor_36 rfl (z3 rfl) rfl (g3_goto (tgt := 16) dX4_reckonFor_39 rfl (g3_sub [1, 2, 0] rfl h.2))))))))))))
set_option maxRecDepth 20000 in
set_option maxHeartbeats 200000 in
theorem sX4_reckonFor_77 {E : E3} {Q : Q3} {M : M3} {x1 : Int} {x2 : Int}
    (h : (-2147483648 ≤ x2 ∧ x2 ≤ 2147483647) ∧ ((M 3 0 4 ≤ x2 → (Q none M)) ∧ (x2 < M 3 0 4 → ((0 ≤ x2 ∧ x2 < 50) ∧ ((-2147483648 ≤ x1 ∧ x1 ≤ 2147483647) ∧ ((x1 < M 7 0 x2 → (G3 E YX4_reckonFor Q 77 [(0, vR 3 0), (1, vI x1), (2, vI (x2 + 1))] [] M)) ∧ (M 7 0 x2 ≤ x1 → ((0 ≤ M 5 0 x2 ∧ M 5 0 x2 < 24) ∧ (G3 E YX4_reckonFor Q 77 [(0, vR 3 0), (1, vI x1), (2, vI (x2 + 1))] [] (up3 (up3 M 8 0 (M 5 0 x2) x2) 9 0 (M 5 0 x2) (M 6 0 x2))))))))))) :
    G3 E YX4_reckonFor Q 77 [(0, vR 3 0), (1, vI x1), (2, vI x2)] [] M := by
  refine g3_rm fun hM => ?_
  refine g3_iload_n 2 dX4_reckonFor_77 rfl rfl (g3_aload_n 0 dX4_reckonFor_78 rfl rfl (g3_getI (t := 0) dX4_reckonFor_79 flX4_59 (z3 rfl) (z3 rfl) (g3_icmp_ge (tgt := 130) dX4_reckonFor_82 rfl h.1 (hM 3 0 4) (fun c => ?_) (fun c => ?_))))
  · have h1 := h; have h := h1.2.1 c
    have o1 := h1.1
    exact g3_return dX4_reckonFor_130 rfl h
  · have h1 := h; have h := h1.2.2 c
    have o1 := h1.1
    refine g3_aload_n 0 dX4_reckonFor_85 rfl rfl (g3_getR0 (t := 7) dX4_reckonFor_86 flX4_21 rfl (z3 rfl) (g3_iload_n 2 dX4_reckonFor_89 rfl rfl (g3_iald dX4_reckonFor_90 ar_7 (z3 rfl) h.1 (g3_iload_n 1 dX4_reckonFor_91 rfl rfl (g3_icmp_gt (tgt := 124) dX4_reckonFor_92 rfl (hM 7 0 x2) h.2.1 (fun c => ?_) (fun c => ?_))))))
    · have h1 := h; have h := h1.2.2.1 c
      have o2 := h1.1
      have o3 := h1.2.1
      refine g3_iinc (lv' := [(2, vI (x2 + 1)), (0, vR 3 0), (1, vI x1)]) 2 dX4_reckonFor_124 rfl (z3 rfl) rfl (g3_goto (tgt := 77) dX4_reckonFor_127 rfl (g3_sub [1, 2, 0] rfl h))
    · have h1 := h; have h := h1.2.2.2 c
      have o2 := h1.1
      have o3 := h1.2.1
      refine g3_aload_n 0 dX4_reckonFor_95 rfl rfl (g3_getR0 (t := 8) dX4_reckonFor_96 flX4_24 rfl (z3 rfl) (g3_aload_n 0 dX4_reckonFor_99 rfl rfl (g3_getR0 (t := 5) dX4_reckonFor_100 flX4_15 rfl (z3 rfl) (g3_iload_n 2 dX4_reckonFor_103 rfl rfl (g3_iald dX4_reckonFor_104 ar_5 (z3 rfl) o2 (g3_iload_n 2 dX4_reckonFor_105 rfl rfl (g3_iast dX4_reckonFor_106 ar_8 (z3 rfl) h.1 o1 (g3_aload_n 0 dX4_reckonFor_107 rfl rfl (g3_getR0 (t := 9) dX4_reckonFor_108 flX4_27 rfl (z3 rfl) (g3_aload_n 0 dX4_reckonFor_111 rfl rfl (g3_getR0 (t := 5) dX4_reckonFor_112 flX4_15 rfl (z3 rfl) (g3_iload_n 2 dX4_reckonFor_115 rfl rfl (g3_iald dX4_reckonFor_116 ar_5 (z3 rfl) o2 (g3_val (up3_nr (by decide)) (g3_aload_n 0 dX4_reckonFor_117 rfl rfl (g3_getR0 (t := 6) dX4_reckonFor_118 flX4_18 rfl (z3 rfl) (g3_iload_n 2 dX4_reckonFor_121 rfl rfl (g3_iald dX4_reckonFor_122 ar_6 (z3 rfl) o2 (g3_val (up3_nr (by decide)) (g3_iast dX4_reckonFor_123 ar_9 (z3 rfl) h.1 (hM 6 0 x2) (g3_iinc (lv' := [(2, vI (x2 + 1)), (0, vR 3 0), (1, vI x1)]) 2 dX4_reckonFor_124 rfl (z3 rfl) rfl (g3_goto (tgt := 77) dX4_reckonFor_127 rfl (g3_sub [1, 2, 0] rfl h.2)))))))))))))))))))))))
set_option maxRecDepth 20000 in
set_option maxHeartbeats 200000 in
theorem sX4_takeNumber {E : E3} {Q : Q3} {M : M3} {x1 x2 x3 : Int}
    (h : G3 E YX4_takeNumber Q 12 [(0, vR 3 0), (1, vI x1), (2, vI x2), (3, vI x3), (4, vI (M 3 0 3)), (5, vI 0), (6, vI 0)] [] M) :
    C3 E YX4_takeNumber [vR 3 0, vI x1, vI x2, vI x3] M Q := by
  refine c3_in rfl rfl (z3 rfl) (g3_rm fun hM => ?_)
  refine g3_aload_n 0 dX4_takeNumber_0 rfl rfl (g3_getI (t := 0) dX4_takeNumber_1 flX4_62 (z3 rfl) (z3 rfl) (g3_istore (lv' := [(4, vI (M 3 0 3)), (0, vR 3 0), (1, vI x1), (2, vI x2), (3, vI x3)]) dX4_takeNumber_4 (z3 rfl) rfl (g3_iconst dX4_takeNumber_6 (g3_istore (lv' := [(5, vI 0), (4, vI (M 3 0 3)), (0, vR 3 0), (1, vI x1), (2, vI x2), (3, vI x3)]) dX4_takeNumber_7 (z3 rfl) rfl (g3_iconst dX4_takeNumber_9 (g3_istore (lv' := [(6, vI 0), (5, vI 0), (4, vI (M 3 0 3)), (0, vR 3 0), (1, vI x1), (2, vI x2), (3, vI x3)]) dX4_takeNumber_10 (z3 rfl) rfl (g3_sub [3, 4, 5, 6, 2, 1, 0] rfl h)))))))
set_option maxRecDepth 20000 in
set_option maxHeartbeats 200000 in
theorem sX4_takeNumber_12 {E : E3} {Q : Q3} {M : M3} {x1 : Int} {x2 : Int} {x3 : Int} {x4 : Int} {x5 : Int} {x6 : Int}
    (h : (-2147483648 ≤ x6 ∧ x6 ≤ 2147483647) ∧ ((-2147483648 ≤ x1 ∧ x1 ≤ 2147483647) ∧ ((x1 ≤ x6 → ((-2147483648 ≤ x4 ∧ x4 ≤ 2147483647) ∧ ((M 3 0 3 = x4 → (Q (some (vI (-1))) (up3 M 3 0 1 x4))) ∧ (M 3 0 3 ≠ x4 → ((-2147483648 ≤ x5 ∧ x5 ≤ 2147483647) ∧ ((-2147483648 ≤ x2 ∧ x2 ≤ 2147483647) ∧ ((x5 < x2 → (Q (some (vI (-1))) (up3 M 3 0 1 x4))) ∧ (x2 ≤ x5 → ((-2147483648 ≤ x3 ∧ x3 ≤ 2147483647) ∧ ((x5 ≤ x3 → (Q (some (vI x5)) M)) ∧ (x3 < x5 → (Q (some (vI (-1))) (up3 M 3 0 1 x4))))))))))))) ∧ (x6 < x1 → ((M 3 0 0 ≤ M 3 0 3 → ((-2147483648 ≤ x4 ∧ x4 ≤ 2147483647) ∧ ((M 3 0 3 = x4 → (Q (some (vI (-1))) (up3 M 3 0 1 x4))) ∧ (M 3 0 3 ≠ x4 → ((-2147483648 ≤ x5 ∧ x5 ≤ 2147483647) ∧ ((-2147483648 ≤ x2 ∧ x2 ≤ 2147483647) ∧ ((x5 < x2 → (Q (some (vI (-1))) (up3 M 3 0 1 x4))) ∧ (x2 ≤ x5 → ((-2147483648 ≤ x3 ∧ x3 ≤ 2147483647) ∧ ((x5 ≤ x3 → (Q (some (vI x5)) M)) ∧ (x3 < x5 → (Q (some (vI (-1))) (up3 M 3 0 1 x4))))))))))))) ∧ (M 3 0 3 < M 3 0 0 → ((0 ≤ M 3 0 3 ∧ M 3 0 3 < 200) ∧ ((M 4 0 (M 3 0 3) < 48 → ((-2147483648 ≤ x4 ∧ x4 ≤ 2147483647) ∧ ((M 3 0 3 = x4 → (Q (some (vI (-1))) (up3 M 3 0 1 x4))) ∧ (M 3 0 3 ≠ x4 → ((-2147483648 ≤ x5 ∧ x5 ≤ 2147483647) ∧ ((-2147483648 ≤ x2 ∧ x2 ≤ 2147483647) ∧ ((x5 < x2 → (Q (some (vI (-1))) (up3 M 3 0 1 x4))) ∧ (x2 ≤ x5 → ((-2147483648 ≤ x3 ∧ x3 ≤ 2147483647) ∧ ((x5 ≤ x3 → (Q (some (vI x5)) M)) ∧ (x3 < x5 → (Q (some (vI (-1))) (up3 M 3 0 1 x4))))))))))))) ∧ (48 ≤ M 4 0 (M 3 0 3) → ((57 < M 4 0 (M 3 0 3) → ((-2147483648 ≤ x4 ∧ x4 ≤ 2147483647) ∧ ((M 3 0 3 = x4 → (Q (some (vI (-1))) (up3 M 3 0 1 x4))) ∧ (M 3 0 3 ≠ x4 → ((-2147483648 ≤ x5 ∧ x5 ≤ 2147483647) ∧ ((-2147483648 ≤ x2 ∧ x2 ≤ 2147483647) ∧ ((x5 < x2 → (Q (some (vI (-1))) (up3 M 3 0 1 x4))) ∧ (x2 ≤ x5 → ((-2147483648 ≤ x3 ∧ x3 ≤ 2147483647) ∧ ((x5 ≤ x3 → (Q (some (vI x5)) M)) ∧ (x3 < x5 → (Q (some (vI (-1))) (up3 M 3 0 1 x4))))))))))))) ∧ (M 4 0 (M 3 0 3) ≤ 57 → ((-2147483648 ≤ (M 3 0 3) + 1 ∧ (M 3 0 3) + 1 ≤ 2147483647) ∧ (G3 E YX4_takeNumber Q 12 [(0, vR 3 0), (1, vI x1), (2, vI x2), (3, vI x3), (4, vI x4), (5, vI (((10 * x5) + (M 4 0 (M 3 0 3))) - 48)), (6, vI (x6 + 1))] [] (up3 M 3 0 3 ((M 3 0 3) + 1))))))))))))))) :
    G3 E YX4_takeNumber Q 12 [(0, vR 3 0), (1, vI x1), (2, vI x2), (3, vI x3), (4, vI x4), (5, vI x5), (6, vI x6)] [] M := by
  refine g3_rm fun hM => ?_
  refine g3_iload 6 dX4_takeNumber_12 rfl (g3_iload_n 1 dX4_takeNumber_14 rfl rfl (g3_icmp_ge (tgt := 61) dX4_takeNumber_15 rfl h.1 h.2.1 (fun c => ?_) (fun c => ?_)))
  · have h1 := h; have h := h1.2.2.1 c
    have o1 := h1.1
    have o2 := h1.2.1
    refine g3_aload_n 0 dX4_takeNumber_61 rfl rfl (g3_getI (t := 0) dX4_takeNumber_62 flX4_62 (z3 rfl) (z3 rfl) (g3_iload 4 dX4_takeNumber_65 rfl (g3_icmp_eq (tgt := 82) dX4_takeNumber_67 rfl (hM 3 0 3) h.1 (fun c => ?_) (fun c => ?_))))
    · have h1 := h; have h := h1.2.1 c
      have o3 := h1.1
      exact g3_aload_n 0 dX4_takeNumber_82 rfl rfl (g3_iload 4 dX4_takeNumber_83 rfl (g3_put dX4_takeNumber_85 fpX4_65 (Or.inl rfl) (z3 rfl) o3 (g3_iconst dX4_takeNumber_88 (g3_ireturn dX4_takeNumber_89 rfl h))))
    · have h1 := h; have h := h1.2.2 c
      have o3 := h1.1
      refine g3_iload 5 dX4_takeNumber_70 rfl (g3_iload_n 2 dX4_takeNumber_72 rfl rfl (g3_icmp_lt (tgt := 82) dX4_takeNumber_73 rfl h.1 h.2.1 (fun c => ?_) (fun c => ?_)))
      · have h1 := h; have h := h1.2.2.1 c
        have o4 := h1.1
        have o5 := h1.2.1
        exact g3_aload_n 0 dX4_takeNumber_82 rfl rfl (g3_iload 4 dX4_takeNumber_83 rfl (g3_put dX4_takeNumber_85 fpX4_65 (Or.inl rfl) (z3 rfl) o3 (g3_iconst dX4_takeNumber_88 (g3_ireturn dX4_takeNumber_89 rfl h))))
      · have h1 := h; have h := h1.2.2.2 c
        have o4 := h1.1
        have o5 := h1.2.1
        refine g3_iload 5 dX4_takeNumber_76 rfl (g3_iload_n 3 dX4_takeNumber_78 rfl rfl (g3_icmp_le (tgt := 90) dX4_takeNumber_79 rfl o4 h.1 (fun c => ?_) (fun c => ?_)))
        · have h1 := h; have h := h1.2.1 c
          have o6 := h1.1
          exact g3_iload 5 dX4_takeNumber_90 rfl (g3_ireturn dX4_takeNumber_92 rfl h)
        · have h1 := h; have h := h1.2.2 c
          have o6 := h1.1
          exact g3_aload_n 0 dX4_takeNumber_82 rfl rfl (g3_iload 4 dX4_takeNumber_83 rfl (g3_put dX4_takeNumber_85 fpX4_65 (Or.inl rfl) (z3 rfl) o3 (g3_iconst dX4_takeNumber_88 (g3_ireturn dX4_takeNumber_89 rfl h))))
  · have h1 := h; have h := h1.2.2.2 c
    have o1 := h1.1
    have o2 := h1.2.1
    refine g3_aload_n 0 dX4_takeNumber_18 rfl rfl (g3_cV0 dX4_takeNumber_19 myX4_isFigureNext mlX4_88 (z3 rfl) ob_3 (z3 rfl) (z3 rfl) (c3_in rfl rfl (z3 rfl) (g3_aload_n 0 dX4_isFigureNext_0 rfl rfl (g3_getI (t := 0) dX4_isFigureNext_1 flX4_62 (z3 rfl) (z3 rfl) (g3_aload_n 0 dX4_isFigureNext_4 rfl rfl (g3_getI (t := 0) dX4_isFigureNext_5 flX4_34 (z3 rfl) (z3 rfl) (g3_icmp_ge (tgt := 43) dX4_isFigureNext_8 rfl (hM 3 0 3) (hM 3 0 0) (fun c => ?_) (fun c => ?_))))))))
    · have h1 := h; have h := h1.1 c
      refine g3_iconst dX4_isFigureNext_43 (g3_zreturn dX4_isFigureNext_44 rfl (Or.inl rfl) (g3_r1 (g3_if_eq_T (tgt := 61) dX4_takeNumber_22 rfl (z3 rfl) (g3_aload_n 0 dX4_takeNumber_61 rfl rfl (g3_getI (t := 0) dX4_takeNumber_62 flX4_62 (z3 rfl) (z3 rfl) (g3_iload 4 dX4_takeNumber_65 rfl (g3_icmp_eq (tgt := 82) dX4_takeNumber_67 rfl (hM 3 0 3) h.1 (fun c => ?_) (fun c => ?_))))))))
      · have h1 := h; have h := h1.2.1 c
        have o7 := h1.1
        exact g3_aload_n 0 dX4_takeNumber_82 rfl rfl (g3_iload 4 dX4_takeNumber_83 rfl (g3_put dX4_takeNumber_85 fpX4_65 (Or.inl rfl) (z3 rfl) o7 (g3_iconst dX4_takeNumber_88 (g3_ireturn dX4_takeNumber_89 rfl h))))
      · have h1 := h; have h := h1.2.2 c
        have o7 := h1.1
        refine g3_iload 5 dX4_takeNumber_70 rfl (g3_iload_n 2 dX4_takeNumber_72 rfl rfl (g3_icmp_lt (tgt := 82) dX4_takeNumber_73 rfl h.1 h.2.1 (fun c => ?_) (fun c => ?_)))
        · have h1 := h; have h := h1.2.2.1 c
          have o8 := h1.1
          have o9 := h1.2.1
          exact g3_aload_n 0 dX4_takeNumber_82 rfl rfl (g3_iload 4 dX4_takeNumber_83 rfl (g3_put dX4_takeNumber_85 fpX4_65 (Or.inl rfl) (z3 rfl) o7 (g3_iconst dX4_takeNumber_88 (g3_ireturn dX4_takeNumber_89 rfl h))))
        · have h1 := h; have h := h1.2.2.2 c
          have o8 := h1.1
          have o9 := h1.2.1
          refine g3_iload 5 dX4_takeNumber_76 rfl (g3_iload_n 3 dX4_takeNumber_78 rfl rfl (g3_icmp_le (tgt := 90) dX4_takeNumber_79 rfl o8 h.1 (fun c => ?_) (fun c => ?_)))
          · have h1 := h; have h := h1.2.1 c
            have o10 := h1.1
            exact g3_iload 5 dX4_takeNumber_90 rfl (g3_ireturn dX4_takeNumber_92 rfl h)
          · have h1 := h; have h := h1.2.2 c
            have o10 := h1.1
            exact g3_aload_n 0 dX4_takeNumber_82 rfl rfl (g3_iload 4 dX4_takeNumber_83 rfl (g3_put dX4_takeNumber_85 fpX4_65 (Or.inl rfl) (z3 rfl) o7 (g3_iconst dX4_takeNumber_88 (g3_ireturn dX4_takeNumber_89 rfl h))))
    · have h1 := h; have h := h1.2 c
      refine g3_aload_n 0 dX4_isFigureNext_11 rfl rfl (g3_getR0 (t := 4) dX4_isFigureNext_12 flX4_11 rfl (z3 rfl) (g3_aload_n 0 dX4_isFigureNext_15 rfl rfl (g3_getI (t := 0) dX4_isFigureNext_16 flX4_62 (z3 rfl) (z3 rfl) (g3_iald dX4_isFigureNext_19 ar_4 (z3 rfl) h.1 (g3_bipush dX4_isFigureNext_20 rfl (g3_icmp_lt (tgt := 43) dX4_isFigureNext_22 rfl (hM 4 0 (M 3 0 3)) (z3 rfl) (fun c => ?_) (fun c => ?_)))))))
      · have h1 := h; have h := h1.2.1 c
        have o11 := h1.1
        refine g3_iconst dX4_isFigureNext_43 (g3_zreturn dX4_isFigureNext_44 rfl (Or.inl rfl) (g3_r1 (g3_if_eq_T (tgt := 61) dX4_takeNumber_22 rfl (z3 rfl) (g3_aload_n 0 dX4_takeNumber_61 rfl rfl (g3_getI (t := 0) dX4_takeNumber_62 flX4_62 (z3 rfl) (z3 rfl) (g3_iload 4 dX4_takeNumber_65 rfl (g3_icmp_eq (tgt := 82) dX4_takeNumber_67 rfl (hM 3 0 3) h.1 (fun c => ?_) (fun c => ?_))))))))
        · have h1 := h; have h := h1.2.1 c
          have o12 := h1.1
          exact g3_aload_n 0 dX4_takeNumber_82 rfl rfl (g3_iload 4 dX4_takeNumber_83 rfl (g3_put dX4_takeNumber_85 fpX4_65 (Or.inl rfl) (z3 rfl) o12 (g3_iconst dX4_takeNumber_88 (g3_ireturn dX4_takeNumber_89 rfl h))))
        · have h1 := h; have h := h1.2.2 c
          have o12 := h1.1
          refine g3_iload 5 dX4_takeNumber_70 rfl (g3_iload_n 2 dX4_takeNumber_72 rfl rfl (g3_icmp_lt (tgt := 82) dX4_takeNumber_73 rfl h.1 h.2.1 (fun c => ?_) (fun c => ?_)))
          · have h1 := h; have h := h1.2.2.1 c
            have o13 := h1.1
            have o14 := h1.2.1
            exact g3_aload_n 0 dX4_takeNumber_82 rfl rfl (g3_iload 4 dX4_takeNumber_83 rfl (g3_put dX4_takeNumber_85 fpX4_65 (Or.inl rfl) (z3 rfl) o12 (g3_iconst dX4_takeNumber_88 (g3_ireturn dX4_takeNumber_89 rfl h))))
          · have h1 := h; have h := h1.2.2.2 c
            have o13 := h1.1
            have o14 := h1.2.1
            refine g3_iload 5 dX4_takeNumber_76 rfl (g3_iload_n 3 dX4_takeNumber_78 rfl rfl (g3_icmp_le (tgt := 90) dX4_takeNumber_79 rfl o13 h.1 (fun c => ?_) (fun c => ?_)))
            · have h1 := h; have h := h1.2.1 c
              have o15 := h1.1
              exact g3_iload 5 dX4_takeNumber_90 rfl (g3_ireturn dX4_takeNumber_92 rfl h)
            · have h1 := h; have h := h1.2.2 c
              have o15 := h1.1
              exact g3_aload_n 0 dX4_takeNumber_82 rfl rfl (g3_iload 4 dX4_takeNumber_83 rfl (g3_put dX4_takeNumber_85 fpX4_65 (Or.inl rfl) (z3 rfl) o12 (g3_iconst dX4_takeNumber_88 (g3_ireturn dX4_takeNumber_89 rfl h))))
      · have h1 := h; have h := h1.2.2 c
        have o11 := h1.1
        refine g3_aload_n 0 dX4_isFigureNext_25 rfl rfl (g3_getR0 (t := 4) dX4_isFigureNext_26 flX4_11 rfl (z3 rfl) (g3_aload_n 0 dX4_isFigureNext_29 rfl rfl (g3_getI (t := 0) dX4_isFigureNext_30 flX4_62 (z3 rfl) (z3 rfl) (g3_iald dX4_isFigureNext_33 ar_4 (z3 rfl) o11 (g3_bipush dX4_isFigureNext_34 rfl (g3_icmp_gt (tgt := 43) dX4_isFigureNext_36 rfl (hM 4 0 (M 3 0 3)) (z3 rfl) (fun c => ?_) (fun c => ?_)))))))
        · have h1 := h; have h := h1.1 c
          refine g3_iconst dX4_isFigureNext_43 (g3_zreturn dX4_isFigureNext_44 rfl (Or.inl rfl) (g3_r1 (g3_if_eq_T (tgt := 61) dX4_takeNumber_22 rfl (z3 rfl) (g3_aload_n 0 dX4_takeNumber_61 rfl rfl (g3_getI (t := 0) dX4_takeNumber_62 flX4_62 (z3 rfl) (z3 rfl) (g3_iload 4 dX4_takeNumber_65 rfl (g3_icmp_eq (tgt := 82) dX4_takeNumber_67 rfl (hM 3 0 3) h.1 (fun c => ?_) (fun c => ?_))))))))
          · have h1 := h; have h := h1.2.1 c
            have o16 := h1.1
            exact g3_aload_n 0 dX4_takeNumber_82 rfl rfl (g3_iload 4 dX4_takeNumber_83 rfl (g3_put dX4_takeNumber_85 fpX4_65 (Or.inl rfl) (z3 rfl) o16 (g3_iconst dX4_takeNumber_88 (g3_ireturn dX4_takeNumber_89 rfl h))))
          · have h1 := h; have h := h1.2.2 c
            have o16 := h1.1
            refine g3_iload 5 dX4_takeNumber_70 rfl (g3_iload_n 2 dX4_takeNumber_72 rfl rfl (g3_icmp_lt (tgt := 82) dX4_takeNumber_73 rfl h.1 h.2.1 (fun c => ?_) (fun c => ?_)))
            · have h1 := h; have h := h1.2.2.1 c
              have o17 := h1.1
              have o18 := h1.2.1
              exact g3_aload_n 0 dX4_takeNumber_82 rfl rfl (g3_iload 4 dX4_takeNumber_83 rfl (g3_put dX4_takeNumber_85 fpX4_65 (Or.inl rfl) (z3 rfl) o16 (g3_iconst dX4_takeNumber_88 (g3_ireturn dX4_takeNumber_89 rfl h))))
            · have h1 := h; have h := h1.2.2.2 c
              have o17 := h1.1
              have o18 := h1.2.1
              refine g3_iload 5 dX4_takeNumber_76 rfl (g3_iload_n 3 dX4_takeNumber_78 rfl rfl (g3_icmp_le (tgt := 90) dX4_takeNumber_79 rfl o17 h.1 (fun c => ?_) (fun c => ?_)))
              · have h1 := h; have h := h1.2.1 c
                have o19 := h1.1
                exact g3_iload 5 dX4_takeNumber_90 rfl (g3_ireturn dX4_takeNumber_92 rfl h)
              · have h1 := h; have h := h1.2.2 c
                have o19 := h1.1
                exact g3_aload_n 0 dX4_takeNumber_82 rfl rfl (g3_iload 4 dX4_takeNumber_83 rfl (g3_put dX4_takeNumber_85 fpX4_65 (Or.inl rfl) (z3 rfl) o16 (g3_iconst dX4_takeNumber_88 (g3_ireturn dX4_takeNumber_89 rfl h))))
        · have h1 := h; have h := h1.2 c
          refine g3_iconst dX4_isFigureNext_39 (g3_goto (tgt := 44) dX4_isFigureNext_40 rfl (g3_zreturn dX4_isFigureNext_44 rfl (Or.inr rfl) (g3_r1 (g3_if_eq_F (tgt := 61) dX4_takeNumber_22 rfl (z3 rfl) (g3_bipush dX4_takeNumber_25 rfl (g3_iload 5 dX4_takeNumber_27 rfl (g3_imul dX4_takeNumber_29 (g3_aload_n 0 dX4_takeNumber_30 rfl rfl (g3_getR0 (t := 4) dX4_takeNumber_31 flX4_11 rfl (z3 rfl) (g3_aload_n 0 dX4_takeNumber_34 rfl rfl (g3_getI (t := 0) dX4_takeNumber_35 flX4_62 (z3 rfl) (z3 rfl) (g3_iald dX4_takeNumber_38 ar_4 (z3 rfl) o11 (g3_iadd dX4_takeNumber_39 (g3_bipush dX4_takeNumber_40 rfl (g3_isub dX4_takeNumber_42 (g3_istore (lv' := [(5, vI (((10 * x5) + (M 4 0 (M 3 0 3))) - 48)), (0, vR 3 0), (1, vI x1), (2, vI x2), (3, vI x3), (4, vI x4), (6, vI x6)]) dX4_takeNumber_43 (z3 rfl) rfl (g3_aload_n 1 dX4_takeNumber_45 rfl rfl (g3_dup dX4_takeNumber_46 rfl (g3_getI (t := 0) dX4_takeNumber_47 flX4_62 (z3 rfl) (z3 rfl) (g3_iconst dX4_takeNumber_50 (g3_iadd dX4_takeNumber_51 (g3_put dX4_takeNumber_52 fpX4_62 (Or.inl rfl) (z3 rfl) h.1 (g3_iinc (lv' := [(6, vI (x6 + 1)), (5, vI (((10 * x5) + (M 4 0 (M 3 0 3))) - 48)), (0, vR 3 0), (1, vI x1), (2, vI x2), (3, vI x3), (4, vI x4)]) 6 dX4_takeNumber_55 rfl (z3 rfl) rfl (g3_goto (tgt := 12) dX4_takeNumber_58 rfl (g3_sub [2, 3, 4, 5, 6, 1, 0] rfl h.2)))))))))))))))))))))))))
set_option maxRecDepth 20000 in
set_option maxHeartbeats 200000 in
theorem sX2_knownOf {E : E3} {Q : Q3} {M : M3} {x1 : Int}
    (h : G3 E YX2_knownOf Q 4 [(0, vR 14 0), (1, vI x1), (2, vI 0), (3, vI 0)] [] M) :
    C3 E YX2_knownOf [vR 14 0, vI x1] M Q := by
  refine c3_in rfl rfl (z3 rfl) (g3_rm fun hM => ?_)
  refine g3_iconst dX2_knownOf_0 (g3_istore_n (lv' := [(2, vI 0), (0, vR 14 0), (1, vI x1)]) dX2_knownOf_1 rfl (z3 rfl) rfl (g3_iconst dX2_knownOf_2 (g3_istore_n (lv' := [(3, vI 0), (2, vI 0), (0, vR 14 0), (1, vI x1)]) dX2_knownOf_3 rfl (z3 rfl) rfl (g3_sub [2, 3, 1, 0] rfl h))))
set_option maxRecDepth 20000 in
set_option maxHeartbeats 200000 in
theorem sX2_knownOf_4 {E : E3} {Q : Q3} {M : M3} {x1 : Int} {x2 : Int} {x3 : Int}
    (h : (-2147483648 ≤ x3 ∧ x3 ≤ 2147483647) ∧ ((M 14 0 0 ≤ x3 → (Q (some (vI x2)) M)) ∧ (x3 < M 14 0 0 → ((0 ≤ x3 ∧ x3 < 60) ∧ ((¬(M 18 x3 2 ≤ cTold M) → (G3 E YX2_knownOf Q 4 [(0, vR 14 0), (1, vI x1), (2, vI x2), (3, vI (x3 + 1))] [] M)) ∧ ((M 18 x3 2 ≤ cTold M) → ((-2147483648 ≤ x1 ∧ x1 ≤ 2147483647) ∧ ((x1 = (-1) → (G3 E YX2_knownOf Q 4 [(0, vR 14 0), (1, vI x1), (2, vI (x2 + 1)), (3, vI (x3 + 1))] [] M)) ∧ (x1 ≠ (-1) → ((M 18 x3 0 ≠ x1 → (G3 E YX2_knownOf Q 4 [(0, vR 14 0), (1, vI x1), (2, vI x2), (3, vI (x3 + 1))] [] M)) ∧ (M 18 x3 0 = x1 → (G3 E YX2_knownOf Q 4 [(0, vR 14 0), (1, vI x1), (2, vI (x2 + 1)), (3, vI (x3 + 1))] [] M)))))))))))) :
    G3 E YX2_knownOf Q 4 [(0, vR 14 0), (1, vI x1), (2, vI x2), (3, vI x3)] [] M := by
  refine g3_rm fun hM => ?_
  refine g3_iload_n 3 dX2_knownOf_4 rfl rfl (g3_aload_n 0 dX2_knownOf_5 rfl rfl (g3_getI (t := 0) dX2_knownOf_6 flX2_37 (z3 rfl) (z3 rfl) (g3_icmp_ge (tgt := 47) dX2_knownOf_9 rfl h.1 (hM 14 0 0) (fun c => ?_) (fun c => ?_))))
  · have h1 := h; have h := h1.2.1 c
    have o1 := h1.1
    exact g3_iload_n 2 dX2_knownOf_47 rfl rfl (g3_ireturn dX2_knownOf_48 rfl h)
  · have h1 := h; have h := h1.2.2 c
    have o1 := h1.1
    refine g3_aload_n 0 dX2_knownOf_12 rfl rfl (g3_iload_n 3 dX2_knownOf_13 rfl rfl (g3_cV1 dX2_knownOf_14 myX2_isKnown mlX2_118 (z3 rfl) ob_14 (z3 rfl) (z3 rfl) (kX2_isKnown h.1 (g3_r1 (g3_bool_eq (tgt := 41) dX2_knownOf_17 rfl (fun c => ?_) (fun c => ?_))))))
    · have h1 := h; have h := h1.2.1 c
      have o2 := h1.1
      refine g3_iinc (lv' := [(3, vI (x3 + 1)), (0, vR 14 0), (1, vI x1), (2, vI x2)]) 3 dX2_knownOf_41 rfl (z3 rfl) rfl (g3_goto (tgt := 4) dX2_knownOf_44 rfl (g3_sub [1, 2, 3, 0] rfl h))
    · have h1 := h; have h := h1.2.2 c
      have o2 := h1.1
      refine g3_iload_n 1 dX2_knownOf_20 rfl rfl (g3_iconst dX2_knownOf_21 (g3_icmp_eq (tgt := 38) dX2_knownOf_22 rfl h.1 (z3 rfl) (fun c => ?_) (fun c => ?_)))
      · have h1 := h; have h := h1.2.1 c
        have o3 := h1.1
        refine g3_iinc (lv' := [(2, vI (x2 + 1)), (0, vR 14 0), (1, vI x1), (3, vI x3)]) 2 dX2_knownOf_38 rfl (z3 rfl) rfl (g3_iinc (lv' := [(3, vI (x3 + 1)), (2, vI (x2 + 1)), (0, vR 14 0), (1, vI x1)]) 3 dX2_knownOf_41 rfl (z3 rfl) rfl (g3_goto (tgt := 4) dX2_knownOf_44 rfl (g3_sub [2, 3, 1, 0] rfl h)))
      · have h1 := h; have h := h1.2.2 c
        have o3 := h1.1
        refine g3_aload_n 0 dX2_knownOf_25 rfl rfl (g3_getR0 (t := 15) dX2_knownOf_26 flX2_13 rfl (z3 rfl) (g3_iload_n 3 dX2_knownOf_29 rfl rfl (g3_aald dX2_knownOf_30 aq_15 o2 (g3_getI (t := 0) dX2_knownOf_31 flX2_41 (z3 rfl) o2 (g3_iload_n 1 dX2_knownOf_34 rfl rfl (g3_icmp_ne (tgt := 41) dX2_knownOf_35 rfl (hM 18 x3 0) o3 (fun c => ?_) (fun c => ?_)))))))
        · have h1 := h; have h := h1.1 c
          refine g3_iinc (lv' := [(3, vI (x3 + 1)), (0, vR 14 0), (1, vI x1), (2, vI x2)]) 3 dX2_knownOf_41 rfl (z3 rfl) rfl (g3_goto (tgt := 4) dX2_knownOf_44 rfl (g3_sub [1, 2, 3, 0] rfl h))
        · have h1 := h; have h := h1.2 c
          refine g3_iinc (lv' := [(2, vI (x2 + 1)), (0, vR 14 0), (1, vI x1), (3, vI x3)]) 2 dX2_knownOf_38 rfl (z3 rfl) rfl (g3_iinc (lv' := [(3, vI (x3 + 1)), (2, vI (x2 + 1)), (0, vR 14 0), (1, vI x1)]) 3 dX2_knownOf_41 rfl (z3 rfl) rfl (g3_goto (tgt := 4) dX2_knownOf_44 rfl (g3_sub [2, 3, 1, 0] rfl h)))
set_option maxRecDepth 20000 in
set_option maxHeartbeats 200000 in
theorem sX2_readOnes {E : E3} {Q : Q3} {M : M3}
    (h : G3 E YX2_readOnes Q 4 [(0, vR 14 0), (1, vI 0), (2, vI 0)] [] M) :
    C3 E YX2_readOnes [vR 14 0] M Q := by
  refine c3_in rfl rfl (z3 rfl) (g3_rm fun hM => ?_)
  refine g3_iconst dX2_readOnes_0 (g3_istore_n (lv' := [(1, vI 0), (0, vR 14 0)]) dX2_readOnes_1 rfl (z3 rfl) rfl (g3_iconst dX2_readOnes_2 (g3_istore_n (lv' := [(2, vI 0), (1, vI 0), (0, vR 14 0)]) dX2_readOnes_3 rfl (z3 rfl) rfl (g3_sub [2, 1, 0] rfl h))))
set_option maxRecDepth 20000 in
set_option maxHeartbeats 200000 in
theorem sX2_readOnes_4 {E : E3} {Q : Q3} {M : M3} {x1 : Int} {x2 : Int}
    (h : (-2147483648 ≤ x2 ∧ x2 ≤ 2147483647) ∧ ((M 14 0 0 ≤ x2 → (Q (some (vI x1)) M)) ∧ (x2 < M 14 0 0 → ((0 ≤ x2 ∧ x2 < 60) ∧ ((¬(M 18 x2 5 ≠ -1 ∧ M 18 x2 5 ≤ cTold M) → (G3 E YX2_readOnes Q 4 [(0, vR 14 0), (1, vI x1), (2, vI (x2 + 1))] [] M)) ∧ ((M 18 x2 5 ≠ -1 ∧ M 18 x2 5 ≤ cTold M) → (G3 E YX2_readOnes Q 4 [(0, vR 14 0), (1, vI (x1 + 1)), (2, vI (x2 + 1))] [] M))))))) :
    G3 E YX2_readOnes Q 4 [(0, vR 14 0), (1, vI x1), (2, vI x2)] [] M := by
  refine g3_rm fun hM => ?_
  refine g3_iload_n 2 dX2_readOnes_4 rfl rfl (g3_aload_n 0 dX2_readOnes_5 rfl rfl (g3_getI (t := 0) dX2_readOnes_6 flX2_37 (z3 rfl) (z3 rfl) (g3_icmp_ge (tgt := 34) dX2_readOnes_9 rfl h.1 (hM 14 0 0) (fun c => ?_) (fun c => ?_))))
  · have h1 := h; have h := h1.2.1 c
    have o1 := h1.1
    exact g3_iload_n 1 dX2_readOnes_34 rfl rfl (g3_ireturn dX2_readOnes_35 rfl h)
  · have h1 := h; have h := h1.2.2 c
    have o1 := h1.1
    refine g3_aload_n 0 dX2_readOnes_12 rfl rfl (g3_aload_n 0 dX2_readOnes_13 rfl rfl (g3_getR0 (t := 15) dX2_readOnes_14 flX2_13 rfl (z3 rfl) (g3_iload_n 2 dX2_readOnes_17 rfl rfl (g3_aald dX2_readOnes_18 aq_15 h.1 (g3_cV1 dX2_readOnes_19 myX2_isRead mlX2_122 (z3 rfl) ob_14 (z3 rfl) (z3 rfl) (kX2_isRead h.1 (g3_r1 (g3_bool_eq (tgt := 28) dX2_readOnes_22 rfl (fun c => ?_) (fun c => ?_)))))))))
    · have h1 := h; have h := h1.2.1 c
      have o2 := h1.1
      refine g3_iinc (lv' := [(2, vI (x2 + 1)), (0, vR 14 0), (1, vI x1)]) 2 dX2_readOnes_28 rfl (z3 rfl) rfl (g3_goto (tgt := 4) dX2_readOnes_31 rfl (g3_sub [1, 2, 0] rfl h))
    · have h1 := h; have h := h1.2.2 c
      have o2 := h1.1
      refine g3_iinc (lv' := [(1, vI (x1 + 1)), (0, vR 14 0), (2, vI x2)]) 1 dX2_readOnes_25 rfl (z3 rfl) rfl (g3_iinc (lv' := [(2, vI (x2 + 1)), (1, vI (x1 + 1)), (0, vR 14 0)]) 2 dX2_readOnes_28 rfl (z3 rfl) rfl (g3_goto (tgt := 4) dX2_readOnes_31 rfl (g3_sub [2, 1, 0] rfl h)))
set_option maxRecDepth 20000 in
set_option maxHeartbeats 200000 in
theorem sX2_emptyOnes {E : E3} {Q : Q3} {M : M3} {i0 : Int}
    (h : G3 E YX2_emptyOnes Q 4 [(0, vR 18 i0), (1, vI 0), (2, vI 0)] [] M) :
    C3 E YX2_emptyOnes [vR 18 i0] M Q := by
  refine c3_in rfl rfl (z3 rfl) (g3_rm fun hM => ?_)
  refine g3_iconst dX2_emptyOnes_0 (g3_istore_n (lv' := [(1, vI 0), (0, vR 18 i0)]) dX2_emptyOnes_1 rfl (z3 rfl) rfl (g3_iconst dX2_emptyOnes_2 (g3_istore_n (lv' := [(2, vI 0), (1, vI 0), (0, vR 18 i0)]) dX2_emptyOnes_3 rfl (z3 rfl) rfl (g3_sub [2, 1, 0] rfl h))))
set_option maxRecDepth 20000 in
set_option maxHeartbeats 200000 in
theorem sX2_emptyOnes_4 {E : E3} {Q : Q3} {M : M3} {i0 : Int} {x1 : Int} {x2 : Int}
    (h : (-2147483648 ≤ x2 ∧ x2 ≤ 2147483647) ∧ ((20 ≤ x2 → (Q (some (vI x1)) M)) ∧ (x2 < 20 → ((0 ≤ i0 ∧ i0 < 60) ∧ ((0 ≤ x2 ∧ x2 < 20) ∧ ((M 19 i0 x2 ≠ (-1) → (G3 E YX2_emptyOnes Q 4 [(0, vR 18 i0), (1, vI x1), (2, vI (x2 + 1))] [] M)) ∧ (M 19 i0 x2 = (-1) → (G3 E YX2_emptyOnes Q 4 [(0, vR 18 i0), (1, vI (x1 + 1)), (2, vI (x2 + 1))] [] M)))))))) :
    G3 E YX2_emptyOnes Q 4 [(0, vR 18 i0), (1, vI x1), (2, vI x2)] [] M := by
  refine g3_rm fun hM => ?_
  refine g3_iload_n 2 dX2_emptyOnes_4 rfl rfl (g3_bipush dX2_emptyOnes_5 rfl (g3_icmp_ge (tgt := 29) dX2_emptyOnes_7 rfl h.1 (z3 rfl) (fun c => ?_) (fun c => ?_)))
  · have h1 := h; have h := h1.2.1 c
    have o1 := h1.1
    exact g3_iload_n 1 dX2_emptyOnes_29 rfl rfl (g3_ireturn dX2_emptyOnes_30 rfl h)
  · have h1 := h; have h := h1.2.2 c
    have o1 := h1.1
    refine g3_aload_n 0 dX2_emptyOnes_10 rfl rfl (g3_getRi (t := 19) dX2_emptyOnes_11 flX2_88 rfl h.1 (g3_iload_n 2 dX2_emptyOnes_14 rfl rfl (g3_iald dX2_emptyOnes_15 ar_19 h.1 h.2.1 (g3_iconst dX2_emptyOnes_16 (g3_icmp_ne (tgt := 23) dX2_emptyOnes_17 rfl (hM 19 i0 x2) (z3 rfl) (fun c => ?_) (fun c => ?_))))))
    · have h1 := h; have h := h1.2.2.1 c
      have o2 := h1.1
      have o3 := h1.2.1
      refine g3_iinc (lv' := [(2, vI (x2 + 1)), (0, vR 18 i0), (1, vI x1)]) 2 dX2_emptyOnes_23 rfl (z3 rfl) rfl (g3_goto (tgt := 4) dX2_emptyOnes_26 rfl (g3_sub [1, 2, 0] rfl h))
    · have h1 := h; have h := h1.2.2.2 c
      have o2 := h1.1
      have o3 := h1.2.1
      refine g3_iinc (lv' := [(1, vI (x1 + 1)), (0, vR 18 i0), (2, vI x2)]) 1 dX2_emptyOnes_20 rfl (z3 rfl) rfl (g3_iinc (lv' := [(2, vI (x2 + 1)), (1, vI (x1 + 1)), (0, vR 18 i0)]) 2 dX2_emptyOnes_23 rfl (z3 rfl) rfl (g3_goto (tgt := 4) dX2_emptyOnes_26 rfl (g3_sub [2, 1, 0] rfl h)))
set_option maxRecDepth 20000 in
set_option maxHeartbeats 200000 in
theorem sX6_placeOf {E : E3} {Q : Q3} {M : M3} {x1 : Int}
    (h : G3 E YX6_placeOf Q 2 [(0, vR 20 0), (1, vI x1), (2, vI 0)] [] M) :
    C3 E YX6_placeOf [vR 20 0, vI x1] M Q := by
  refine c3_in rfl rfl (z3 rfl) (g3_rm fun hM => ?_)
  refine g3_iconst dX6_placeOf_0 (g3_istore_n (lv' := [(2, vI 0), (0, vR 20 0), (1, vI x1)]) dX6_placeOf_1 rfl (z3 rfl) rfl (g3_sub [1, 2, 0] rfl h))
set_option maxRecDepth 20000 in
set_option maxHeartbeats 200000 in
theorem sX6_placeOf_2 {E : E3} {Q : Q3} {M : M3} {x1 : Int} {x2 : Int}
    (h : (-2147483648 ≤ x2 ∧ x2 ≤ 2147483647) ∧ ((M 20 0 0 ≤ x2 → (Q (some (vI (-1))) M)) ∧ (x2 < M 20 0 0 → ((0 ≤ x2 ∧ x2 < 24) ∧ ((-2147483648 ≤ x1 ∧ x1 ≤ 2147483647) ∧ ((M 21 0 x2 ≠ x1 → (G3 E YX6_placeOf Q 2 [(0, vR 20 0), (1, vI x1), (2, vI (x2 + 1))] [] M)) ∧ (M 21 0 x2 = x1 → (Q (some (vI x2)) M)))))))) :
    G3 E YX6_placeOf Q 2 [(0, vR 20 0), (1, vI x1), (2, vI x2)] [] M := by
  refine g3_rm fun hM => ?_
  refine g3_iload_n 2 dX6_placeOf_2 rfl rfl (g3_aload_n 0 dX6_placeOf_3 rfl rfl (g3_getI (t := 0) dX6_placeOf_4 flX6_37 (z3 rfl) (z3 rfl) (g3_icmp_ge (tgt := 28) dX6_placeOf_7 rfl h.1 (hM 20 0 0) (fun c => ?_) (fun c => ?_))))
  · have h1 := h; have h := h1.2.1 c
    have o1 := h1.1
    exact g3_iconst dX6_placeOf_28 (g3_ireturn dX6_placeOf_29 rfl h)
  · have h1 := h; have h := h1.2.2 c
    have o1 := h1.1
    refine g3_aload_n 0 dX6_placeOf_10 rfl rfl (g3_getR0 (t := 21) dX6_placeOf_11 flX6_11 rfl (z3 rfl) (g3_iload_n 2 dX6_placeOf_14 rfl rfl (g3_iald dX6_placeOf_15 ar_21 (z3 rfl) h.1 (g3_iload_n 1 dX6_placeOf_16 rfl rfl (g3_icmp_ne (tgt := 22) dX6_placeOf_17 rfl (hM 21 0 x2) h.2.1 (fun c => ?_) (fun c => ?_))))))
    · have h1 := h; have h := h1.2.2.1 c
      have o2 := h1.1
      have o3 := h1.2.1
      refine g3_iinc (lv' := [(2, vI (x2 + 1)), (0, vR 20 0), (1, vI x1)]) 2 dX6_placeOf_22 rfl (z3 rfl) rfl (g3_goto (tgt := 2) dX6_placeOf_25 rfl (g3_sub [1, 2, 0] rfl h))
    · have h1 := h; have h := h1.2.2.2 c
      have o2 := h1.1
      have o3 := h1.2.1
      exact g3_iload_n 2 dX6_placeOf_20 rfl rfl (g3_ireturn dX6_placeOf_21 rfl h)
set_option maxRecDepth 20000 in
set_option maxHeartbeats 200000 in
theorem sX6_join {E : E3} {Q : Q3} {M : M3} {x1 x2 x3 : Int}
    (h : G3 E YX6_join Q 6 [(0, vR 20 0), (1, vI x1), (2, vI x2), (3, vI x3), (4, vI (M 20 0 0))] [] M) :
    C3 E YX6_join [vR 20 0, vI x1, vI x2, vI x3] M Q := by
  refine c3_in rfl rfl (z3 rfl) (g3_rm fun hM => ?_)
  refine g3_aload_n 0 dX6_join_0 rfl rfl (g3_getI (t := 0) dX6_join_1 flX6_37 (z3 rfl) (z3 rfl) (g3_istore (lv' := [(4, vI (M 20 0 0)), (0, vR 20 0), (1, vI x1), (2, vI x2), (3, vI x3)]) dX6_join_4 (z3 rfl) rfl (g3_sub [1, 2, 3, 4, 0] rfl h)))
set_option maxRecDepth 20000 in
set_option maxHeartbeats 200000 in
theorem sX6_join_6 {E : E3} {Q : Q3} {M : M3} {x1 : Int} {x2 : Int} {x3 : Int} {x4 : Int}
    (h : (-2147483648 ≤ x4 ∧ x4 ≤ 2147483647) ∧ ((x4 ≤ 0 → ((0 ≤ x4 ∧ x4 < 24) ∧ ((-2147483648 ≤ x1 ∧ x1 ≤ 2147483647) ∧ ((-2147483648 ≤ x2 ∧ x2 ≤ 2147483647) ∧ ((-2147483648 ≤ x3 ∧ x3 ≤ 2147483647) ∧ ((-2147483648 ≤ (M 20 0 0) + 1 ∧ (M 20 0 0) + 1 ≤ 2147483647) ∧ (Q (some (vI ((M 20 0 0) + 1))) (up3 (up3 (up3 (up3 M 21 0 x4 x1) 22 0 x4 x2) 23 0 x4 x3) 20 0 0 ((M 20 0 0) + 1))))))))) ∧ (0 < x4 → ((0 ≤ x4 - 1 ∧ x4 - 1 < 24) ∧ ((-2147483648 ≤ x3 ∧ x3 ≤ 2147483647) ∧ ((M 23 0 (x4 - 1) ≤ x3 → ((0 ≤ x4 ∧ x4 < 24) ∧ ((-2147483648 ≤ x1 ∧ x1 ≤ 2147483647) ∧ ((-2147483648 ≤ x2 ∧ x2 ≤ 2147483647) ∧ ((-2147483648 ≤ (M 20 0 0) + 1 ∧ (M 20 0 0) + 1 ≤ 2147483647) ∧ (Q (some (vI ((M 20 0 0) + 1))) (up3 (up3 (up3 (up3 M 21 0 x4 x1) 22 0 x4 x2) 23 0 x4 x3) 20 0 0 ((M 20 0 0) + 1)))))))) ∧ (x3 < M 23 0 (x4 - 1) → ((0 ≤ x4 ∧ x4 < 24) ∧ (G3 E YX6_join Q 6 [(0, vR 20 0), (1, vI x1), (2, vI x2), (3, vI x3), (4, vI (x4 + (-1)))] [] (up3 (up3 (up3 M 21 0 x4 (M 21 0 (x4 - 1))) 22 0 x4 (M 22 0 (x4 - 1))) 23 0 x4 (M 23 0 (x4 - 1)))))))))))) :
    G3 E YX6_join Q 6 [(0, vR 20 0), (1, vI x1), (2, vI x2), (3, vI x3), (4, vI x4)] [] M := by
  refine g3_rm fun hM => ?_
  refine g3_iload 4 dX6_join_6 rfl (g3_if_le (tgt := 78) dX6_join_8 rfl h.1 (fun c => ?_) (fun c => ?_))
  · have h1 := h; have h := h1.2.1 c
    have o1 := h1.1
    exact g3_aload_n 0 dX6_join_78 rfl rfl (g3_getR0 (t := 21) dX6_join_79 flX6_11 rfl (z3 rfl) (g3_iload 4 dX6_join_82 rfl (g3_iload_n 1 dX6_join_84 rfl rfl (g3_iast dX6_join_85 ar_21 (z3 rfl) h.1 h.2.1 (g3_aload_n 0 dX6_join_86 rfl rfl (g3_getR0 (t := 22) dX6_join_87 flX6_15 rfl (z3 rfl) (g3_iload 4 dX6_join_90 rfl (g3_iload_n 2 dX6_join_92 rfl rfl (g3_iast dX6_join_93 ar_22 (z3 rfl) h.1 h.2.2.1 (g3_aload_n 0 dX6_join_94 rfl rfl (g3_getR0 (t := 23) dX6_join_95 flX6_18 rfl (z3 rfl) (g3_iload 4 dX6_join_98 rfl (g3_iload_n 3 dX6_join_100 rfl rfl (g3_iast dX6_join_101 ar_23 (z3 rfl) h.1 h.2.2.2.1 (g3_aload_n 0 dX6_join_102 rfl rfl (g3_dup dX6_join_103 rfl (g3_getI (t := 0) dX6_join_104 flX6_37 (z3 rfl) (z3 rfl) (g3_val (((up3_nr (by decide)).trans (up3_nr (by decide))).trans (up3_nr (by decide))) (g3_iconst dX6_join_107 (g3_iadd dX6_join_108 (g3_put dX6_join_109 fpX6_37 (Or.inl rfl) (z3 rfl) h.2.2.2.2.1 (g3_aload_n 0 dX6_join_112 rfl rfl (g3_getI (t := 0) dX6_join_113 flX6_37 (z3 rfl) (z3 rfl) (g3_val (up3_eq) (g3_ireturn dX6_join_116 rfl h.2.2.2.2.2)))))))))))))))))))))))))
  · have h1 := h; have h := h1.2.2 c
    have o1 := h1.1
    refine g3_aload_n 0 dX6_join_11 rfl rfl (g3_getR0 (t := 23) dX6_join_12 flX6_18 rfl (z3 rfl) (g3_iload 4 dX6_join_15 rfl (g3_iconst dX6_join_17 (g3_isub dX6_join_18 (g3_iald dX6_join_19 ar_23 (z3 rfl) h.1 (g3_iload_n 3 dX6_join_20 rfl rfl (g3_icmp_le (tgt := 78) dX6_join_21 rfl (hM 23 0 (x4 - 1)) h.2.1 (fun c => ?_) (fun c => ?_))))))))
    · have h1 := h; have h := h1.2.2.1 c
      have o7 := h1.1
      have o8 := h1.2.1
      exact g3_aload_n 0 dX6_join_78 rfl rfl (g3_getR0 (t := 21) dX6_join_79 flX6_11 rfl (z3 rfl) (g3_iload 4 dX6_join_82 rfl (g3_iload_n 1 dX6_join_84 rfl rfl (g3_iast dX6_join_85 ar_21 (z3 rfl) h.1 h.2.1 (g3_aload_n 0 dX6_join_86 rfl rfl (g3_getR0 (t := 22) dX6_join_87 flX6_15 rfl (z3 rfl) (g3_iload 4 dX6_join_90 rfl (g3_iload_n 2 dX6_join_92 rfl rfl (g3_iast dX6_join_93 ar_22 (z3 rfl) h.1 h.2.2.1 (g3_aload_n 0 dX6_join_94 rfl rfl (g3_getR0 (t := 23) dX6_join_95 flX6_18 rfl (z3 rfl) (g3_iload 4 dX6_join_98 rfl (g3_iload_n 3 dX6_join_100 rfl rfl (g3_iast dX6_join_101 ar_23 (z3 rfl) h.1 o8 (g3_aload_n 0 dX6_join_102 rfl rfl (g3_dup dX6_join_103 rfl (g3_getI (t := 0) dX6_join_104 flX6_37 (z3 rfl) (z3 rfl) (g3_val (((up3_nr (by decide)).trans (up3_nr (by decide))).trans (up3_nr (by decide))) (g3_iconst dX6_join_107 (g3_iadd dX6_join_108 (g3_put dX6_join_109 fpX6_37 (Or.inl rfl) (z3 rfl) h.2.2.2.1 (g3_aload_n 0 dX6_join_112 rfl rfl (g3_getI (t := 0) dX6_join_113 flX6_37 (z3 rfl) (z3 rfl) (g3_val (up3_eq) (g3_ireturn dX6_join_116 rfl h.2.2.2.2)))))))))))))))))))))))))
    · have h1 := h; have h := h1.2.2.2 c
      have o7 := h1.1
      have o8 := h1.2.1
      refine g3_aload_n 0 dX6_join_24 rfl rfl (g3_getR0 (t := 21) dX6_join_25 flX6_11 rfl (z3 rfl) (g3_iload 4 dX6_join_28 rfl (g3_aload_n 0 dX6_join_30 rfl rfl (g3_getR0 (t := 21) dX6_join_31 flX6_11 rfl (z3 rfl) (g3_iload 4 dX6_join_34 rfl (g3_iconst dX6_join_36 (g3_isub dX6_join_37 (g3_iald dX6_join_38 ar_21 (z3 rfl) o7 (g3_iast dX6_join_39 ar_21 (z3 rfl) h.1 (hM 21 0 (x4 - 1)) (g3_aload_n 0 dX6_join_40 rfl rfl (g3_getR0 (t := 22) dX6_join_41 flX6_15 rfl (z3 rfl) (g3_iload 4 dX6_join_44 rfl (g3_aload_n 0 dX6_join_46 rfl rfl (g3_getR0 (t := 22) dX6_join_47 flX6_15 rfl (z3 rfl) (g3_iload 4 dX6_join_50 rfl (g3_iconst dX6_join_52 (g3_isub dX6_join_53 (g3_iald dX6_join_54 ar_22 (z3 rfl) o7 (g3_val (up3_nr (by decide)) (g3_iast dX6_join_55 ar_22 (z3 rfl) h.1 (hM 22 0 (x4 - 1)) (g3_aload_n 0 dX6_join_56 rfl rfl (g3_getR0 (t := 23) dX6_join_57 flX6_18 rfl (z3 rfl) (g3_iload 4 dX6_join_60 rfl (g3_aload_n 0 dX6_join_62 rfl rfl (g3_getR0 (t := 23) dX6_join_63 flX6_18 rfl (z3 rfl) (g3_iload 4 dX6_join_66 rfl (g3_iconst dX6_join_68 (g3_isub dX6_join_69 (g3_iald dX6_join_70 ar_23 (z3 rfl) o7 (g3_val ((up3_nr (by decide)).trans (up3_nr (by decide))) (g3_iast dX6_join_71 ar_23 (z3 rfl) h.1 (hM 23 0 (x4 - 1)) (g3_iinc (lv' := [(4, vI (x4 + (-1))), (0, vR 20 0), (1, vI x1), (2, vI x2), (3, vI x3)]) 4 dX6_join_72 rfl (z3 rfl) rfl (g3_goto (tgt := 6) dX6_join_75 rfl (g3_sub [1, 2, 3, 4, 0] rfl h.2))))))))))))))))))))))))))))))))))
set_option maxRecDepth 20000 in
set_option maxHeartbeats 200000 in
theorem sX6_serve {E : E3} {Q : Q3} {M : M3} {x1 x2 : Int}
    (h : (0 ≤ x2 ∧ x2 ≤ 2147483647) ∧ ((and3 (shr3 (M 20 0 6) (x2 % 7)) 1 ≠ 0 → (G3 E YX6_serve Q 24 [(0, vR 20 0), (1, vI x1), (3, vI (M 20 0 7)), (4, vI 0)] [] M)) ∧ (and3 (shr3 (M 20 0 6) (x2 % 7)) 1 = 0 → (Q (some (vI 0)) M)))) :
    C3 E YX6_serve [vR 20 0, vI x1, vI x2] M Q := by
  refine c3_in rfl rfl (z3 rfl) (g3_rm fun hM => ?_)
  refine g3_aload_n 0 dX6_serve_0 rfl rfl (g3_getI (t := 0) dX6_serve_1 flX6_27 (z3 rfl) (z3 rfl) (g3_iload_n 2 dX6_serve_4 rfl rfl (g3_bipush dX6_serve_5 rfl (g3_irem dX6_serve_7 h.1 (z3 rfl) (g3_ishr dX6_serve_8 (g3_iconst dX6_serve_9 (g3_iand dX6_serve_10 (g3_if_ne (tgt := 16) dX6_serve_11 rfl (t3_tr _) (fun c => ?_) (fun c => ?_)))))))))
  · have h1 := h; have h := h1.2.1 c
    have o1 := h1.1
    refine g3_aload_n 0 dX6_serve_16 rfl rfl (g3_getI (t := 0) dX6_serve_17 flX6_31 (z3 rfl) (z3 rfl) (g3_istore_n (lv' := [(3, vI (M 20 0 7)), (0, vR 20 0), (1, vI x1), (2, vI x2)]) dX6_serve_20 rfl (z3 rfl) rfl (g3_iconst dX6_serve_21 (g3_istore (lv' := [(4, vI 0), (3, vI (M 20 0 7)), (0, vR 20 0), (1, vI x1), (2, vI x2)]) dX6_serve_22 (z3 rfl) rfl (g3_sub [2, 3, 1, 0] rfl h)))))
  · have h1 := h; have h := h1.2.2 c
    have o1 := h1.1
    exact g3_iconst dX6_serve_14 (g3_ireturn dX6_serve_15 rfl h)
set_option maxRecDepth 20000 in
set_option maxHeartbeats 200000 in
theorem sX6_serve_24 {E : E3} {Q : Q3} {M : M3} {x1 : Int} {x3 : Int} {x4 : Int}
    (h : (-2147483648 ≤ x4 ∧ x4 ≤ 2147483647) ∧ ((M 20 0 0 ≤ x4 → (Q (some (vI (M 20 0 0))) M)) ∧ (x4 < M 20 0 0 → ((0 ≤ x4 ∧ x4 < 24) ∧ ((-2147483648 ≤ x3 ∧ x3 ≤ 2147483647) ∧ ((-2147483648 ≤ max x3 (M 23 0 x4) ∧ max x3 (M 23 0 x4) ≤ 2147483647) ∧ ((0 ≤ (2 * x1) + (M 22 0 x4) ∧ (2 * x1) + (M 22 0 x4) < 8) ∧ ((-2147483648 ≤ (max x3 (M 23 0 x4)) + (M 25 0 ((2 * x1) + (M 22 0 x4))) ∧ (max x3 (M 23 0 x4)) + (M 25 0 ((2 * x1) + (M 22 0 x4))) ≤ 2147483647) ∧ (((max x3 (M 23 0 x4)) + (M 25 0 ((2 * x1) + (M 22 0 x4))) ≤ M 20 0 8 → (G3 E YX6_serve Q 24 [(0, vR 20 0), (1, vI x1), (3, vI ((max x3 (M 23 0 x4)) + (M 25 0 ((2 * x1) + (M 22 0 x4))))), (4, vI (x4 + 1))] [] (up3 M 24 0 x4 (max x3 (M 23 0 x4))))) ∧ (M 20 0 8 < (max x3 (M 23 0 x4)) + (M 25 0 ((2 * x1) + (M 22 0 x4))) → (Q (some (vI x4)) (up3 M 24 0 x4 (max x3 (M 23 0 x4)))))))))))))) :
    G3 E YX6_serve Q 24 [(0, vR 20 0), (1, vI x1), (3, vI x3), (4, vI x4)] [] M := by
  refine g3_rm fun hM => ?_
  refine g3_iload 3 dX6_serve_24 rfl (g3_aload_n 0 dX6_serve_26 rfl rfl (g3_getI (t := 0) dX6_serve_27 flX6_37 (z3 rfl) (z3 rfl) (g3_icmp_ge (tgt := 93) dX6_serve_30 rfl h.1 (hM 20 0 0) (fun c => ?_) (fun c => ?_))))
  · have h1 := h; have h := h1.2.1 c
    have o1 := h1.1
    exact g3_aload_n 0 dX6_serve_93 rfl rfl (g3_getI (t := 0) dX6_serve_94 flX6_37 (z3 rfl) (z3 rfl) (g3_ireturn dX6_serve_97 rfl h))
  · have h1 := h; have h := h1.2.2 c
    have o1 := h1.1
    refine g3_aload_n 0 dX6_serve_33 rfl rfl (g3_getR0 (t := 24) dX6_serve_34 flX6_21 rfl (z3 rfl) (g3_iload 3 dX6_serve_37 rfl (g3_iload_n 2 dX6_serve_39 rfl rfl (g3_aload_n 0 dX6_serve_40 rfl rfl (g3_getR0 (t := 23) dX6_serve_41 flX6_18 rfl (z3 rfl) (g3_iload 3 dX6_serve_44 rfl (g3_iald dX6_serve_46 ar_23 (z3 rfl) h.1 (g3_max dX6_serve_47 mlX6_40 (z3 rfl) (z3 rfl) h.2.1 (hM 23 0 x4) (g3_iast dX6_serve_50 ar_24 (z3 rfl) h.1 h.2.2.1 (g3_aload_n 0 dX6_serve_51 rfl rfl (g3_getR0 (t := 24) dX6_serve_52 flX6_21 rfl (z3 rfl) (g3_iload 3 dX6_serve_55 rfl (g3_iald dX6_serve_57 ar_24 (z3 rfl) h.1 (g3_val (up3_eq) (g3_aload_n 0 dX6_serve_58 rfl rfl (g3_getR0 (t := 25) dX6_serve_59 flX6_24 rfl (z3 rfl) (g3_iconst dX6_serve_62 (g3_iload_n 1 dX6_serve_63 rfl rfl (g3_imul dX6_serve_64 (g3_aload_n 0 dX6_serve_65 rfl rfl (g3_getR0 (t := 22) dX6_serve_66 flX6_15 rfl (z3 rfl) (g3_iload 3 dX6_serve_69 rfl (g3_iald dX6_serve_71 ar_22 (z3 rfl) h.1 (g3_val (up3_nr (by decide)) (g3_iadd dX6_serve_72 (g3_iald dX6_serve_73 ar_25 (z3 rfl) h.2.2.2.1 (g3_val (up3_nr (by decide)) (g3_iadd dX6_serve_74 (g3_istore_n (lv' := [(3, vI ((max x3 (M 23 0 x4)) + (M 25 0 ((2 * x1) + (M 22 0 x4))))), (0, vR 20 0), (1, vI x1), (4, vI x4)]) dX6_serve_75 rfl (z3 rfl) rfl (g3_iload_n 0 dX6_serve_76 rfl rfl (g3_aload_n 1 dX6_serve_77 rfl rfl (g3_getI (t := 0) dX6_serve_78 flX6_34 (z3 rfl) (z3 rfl) (g3_val (up3_nr (by decide)) (g3_icmp_le (tgt := 87) dX6_serve_81 rfl h.2.2.2.2.1 (hM 20 0 8) (fun c => ?_) (fun c => ?_)))))))))))))))))))))))))))))))))))
    · have h1 := h; have h := h1.2.2.2.2.2.1 c
      have o2 := h1.1
      have o3 := h1.2.1
      have o4 := h1.2.2.1
      have o5 := h1.2.2.2.1
      have o6 := h1.2.2.2.2.1
      refine g3_iinc (lv' := [(4, vI (x4 + 1)), (3, vI ((max x3 (M 23 0 x4)) + (M 25 0 ((2 * x1) + (M 22 0 x4))))), (0, vR 20 0), (1, vI x1)]) 3 dX6_serve_87 rfl (z3 rfl) rfl (g3_goto (tgt := 24) dX6_serve_90 rfl (g3_sub [2, 3, 1, 0] rfl h))
    · have h1 := h; have h := h1.2.2.2.2.2.2 c
      have o2 := h1.1
      have o3 := h1.2.1
      have o4 := h1.2.2.1
      have o5 := h1.2.2.2.1
      have o6 := h1.2.2.2.2.1
      exact g3_iload 3 dX6_serve_84 rfl (g3_ireturn dX6_serve_86 rfl h)
set_option maxRecDepth 20000 in
set_option maxHeartbeats 200000 in
theorem sX10_priceOf {E : E3} {Q : Q3} {M : M3} {x1 : Int}
    (h : G3 E YX10_priceOf Q 4 [(0, vR 31 0), (1, vI x1), (2, vI 0), (3, vI 0)] [] M) :
    C3 E YX10_priceOf [vR 31 0, vI x1] M Q := by
  refine c3_in rfl rfl (z3 rfl) (g3_rm fun hM => ?_)
  refine g3_iconst dX10_priceOf_0 (g3_istore_n (lv' := [(2, vI 0), (0, vR 31 0), (1, vI x1)]) dX10_priceOf_1 rfl (z3 rfl) rfl (g3_iconst dX10_priceOf_2 (g3_istore_n (lv' := [(3, vI 0), (2, vI 0), (0, vR 31 0), (1, vI x1)]) dX10_priceOf_3 rfl (z3 rfl) rfl (g3_sub [2, 3, 1, 0] rfl h))))
set_option maxRecDepth 20000 in
set_option maxHeartbeats 200000 in
theorem sX10_priceOf_4 {E : E3} {Q : Q3} {M : M3} {x1 : Int} {x2 : Int} {x3 : Int}
    (h : (-2147483648 ≤ x3 ∧ x3 ≤ 2147483647) ∧ ((M 31 0 0 ≤ x3 → (Q (some (vI x2)) M)) ∧ (x3 < M 31 0 0 → ((and3 (shr3 x1 x3) 1 = 0 → (G3 E YX10_priceOf Q 4 [(0, vR 31 0), (1, vI x1), (2, vI x2), (3, vI (x3 + 1))] [] M)) ∧ (and3 (shr3 x1 x3) 1 ≠ 0 → ((0 ≤ x3 ∧ x3 < 8) ∧ (G3 E YX10_priceOf Q 4 [(0, vR 31 0), (1, vI x1), (2, vI (x2 + (M 34 0 x3))), (3, vI (x3 + 1))] [] M))))))) :
    G3 E YX10_priceOf Q 4 [(0, vR 31 0), (1, vI x1), (2, vI x2), (3, vI x3)] [] M := by
  refine g3_rm fun hM => ?_
  refine g3_iload_n 3 dX10_priceOf_4 rfl rfl (g3_aload_n 0 dX10_priceOf_5 rfl rfl (g3_getI (t := 0) dX10_priceOf_6 flX10_41 (z3 rfl) (z3 rfl) (g3_icmp_ge (tgt := 35) dX10_priceOf_9 rfl h.1 (hM 31 0 0) (fun c => ?_) (fun c => ?_))))
  · have h1 := h; have h := h1.2.1 c
    have o1 := h1.1
    exact g3_iload_n 2 dX10_priceOf_35 rfl rfl (g3_ireturn dX10_priceOf_36 rfl h)
  · have h1 := h; have h := h1.2.2 c
    have o1 := h1.1
    refine g3_iload_n 1 dX10_priceOf_12 rfl rfl (g3_iload_n 3 dX10_priceOf_13 rfl rfl (g3_ishr dX10_priceOf_14 (g3_iconst dX10_priceOf_15 (g3_iand dX10_priceOf_16 (g3_if_eq (tgt := 29) dX10_priceOf_17 rfl (t3_tr _) (fun c => ?_) (fun c => ?_))))))
    · have h1 := h; have h := h1.1 c
      refine g3_iinc (lv' := [(3, vI (x3 + 1)), (0, vR 31 0), (1, vI x1), (2, vI x2)]) 3 dX10_priceOf_29 rfl (z3 rfl) rfl (g3_goto (tgt := 4) dX10_priceOf_32 rfl (g3_sub [1, 2, 3, 0] rfl h))
    · have h1 := h; have h := h1.2 c
      refine g3_iload_n 2 dX10_priceOf_20 rfl rfl (g3_aload_n 0 dX10_priceOf_21 rfl rfl (g3_getR0 (t := 34) dX10_priceOf_22 flX10_19 rfl (z3 rfl) (g3_iload_n 3 dX10_priceOf_25 rfl rfl (g3_iald dX10_priceOf_26 ar_34 (z3 rfl) h.1 (g3_iadd dX10_priceOf_27 (g3_istore_n (lv' := [(2, vI (x2 + (M 34 0 x3))), (0, vR 31 0), (1, vI x1), (3, vI x3)]) dX10_priceOf_28 rfl (z3 rfl) rfl (g3_iinc (lv' := [(3, vI (x3 + 1)), (2, vI (x2 + (M 34 0 x3))), (0, vR 31 0), (1, vI x1)]) 3 dX10_priceOf_29 rfl (z3 rfl) rfl (g3_goto (tgt := 4) dX10_priceOf_32 rfl (g3_sub [2, 3, 1, 0] rfl h.2)))))))))
set_option maxRecDepth 20000 in
set_option maxHeartbeats 200000 in
theorem sX7_driveOut {E : E3} {Q : Q3} {M : M3}
    (h : G3 E YX7_driveOut Q 2 [(0, vR 36 0), (1, vI 0)] [] M) :
    C3 E YX7_driveOut [vR 36 0] M Q := by
  refine c3_in rfl rfl (z3 rfl) (g3_rm fun hM => ?_)
  refine g3_iconst dX7_driveOut_0 (g3_istore_n (lv' := [(1, vI 0), (0, vR 36 0)]) dX7_driveOut_1 rfl (z3 rfl) rfl (g3_sub [1, 0] rfl h))
set_option maxRecDepth 20000 in
set_option maxHeartbeats 200000 in
theorem sX7_driveOut_2 {E : E3} {Q : Q3} {M : M3} {x1 : Int}
    (h : (-2147483648 ≤ x1 ∧ x1 ≤ 2147483647) ∧ ((6 ≤ x1 → (G3 E YX7_driveOut Q 25 [(0, vR 36 0), (1, vI 0), (2, vI 0)] [] M)) ∧ (x1 < 6 → ((0 ≤ x1 ∧ x1 < 6) ∧ (G3 E YX7_driveOut Q 2 [(0, vR 36 0), (1, vI (x1 + 1))] [] (up3 M 41 0 x1 0)))))) :
    G3 E YX7_driveOut Q 2 [(0, vR 36 0), (1, vI x1)] [] M := by
  refine g3_rm fun hM => ?_
  refine g3_iload_n 1 dX7_driveOut_2 rfl rfl (g3_bipush dX7_driveOut_3 rfl (g3_icmp_ge (tgt := 21) dX7_driveOut_5 rfl h.1 (z3 rfl) (fun c => ?_) (fun c => ?_)))
  · have h1 := h; have h := h1.2.1 c
    have o1 := h1.1
    refine g3_iconst dX7_driveOut_21 (g3_istore_n (lv' := [(1, vI 0), (0, vR 36 0)]) dX7_driveOut_22 rfl (z3 rfl) rfl (g3_iconst dX7_driveOut_23 (g3_istore_n (lv' := [(2, vI 0), (1, vI 0), (0, vR 36 0)]) dX7_driveOut_24 rfl (z3 rfl) rfl (g3_sub [2, 1, 0] rfl h))))
  · have h1 := h; have h := h1.2.2 c
    have o1 := h1.1
    refine g3_aload_n 0 dX7_driveOut_8 rfl rfl (g3_getR0 (t := 41) dX7_driveOut_9 flX7_24 rfl (z3 rfl) (g3_iload_n 1 dX7_driveOut_12 rfl rfl (g3_iconst dX7_driveOut_13 (g3_iast dX7_driveOut_14 ar_41 (z3 rfl) h.1 (z3 rfl) (g3_iinc (lv' := [(1, vI (x1 + 1)), (0, vR 36 0)]) 1 dX7_driveOut_15 rfl (z3 rfl) rfl (g3_goto (tgt := 2) dX7_driveOut_18 rfl (g3_sub [1, 0] rfl h.2)))))))
set_option maxRecDepth 20000 in
set_option maxHeartbeats 200000 in
theorem sX7_driveOut_25 {E : E3} {Q : Q3} {M : M3} {x1 : Int} {x2 : Int}
    (h : (-2147483648 ≤ x2 ∧ x2 ≤ 2147483647) ∧ ((M 10 0 0 ≤ x2 → (Q (some (vI x1)) M)) ∧ (x2 < M 10 0 0 → ((0 ≤ x2 ∧ x2 < 48) ∧ ((M 13 x2 5 ≠ 1 → (G3 E YX7_driveOut Q 25 [(0, vR 36 0), (1, vI x1), (2, vI (x2 + 1))] [] M)) ∧ (M 13 x2 5 = 1 → (((-2147483648 ≤ (M 13 x2 0) ∧ (M 13 x2 0) ≤ 2147483647) ∧ (-2147483648 ≤ (0 : Int) ∧ (0 : Int) ≤ 2147483647) ∧ (-2147483648 ≤ (5 : Int) ∧ (5 : Int) ≤ 2147483647)) ∧ ((¬(0 ≤ (M 13 x2 0) ∧ (M 13 x2 0) ≤ 5) → (G3 E YX7_driveOut Q 25 [(0, vR 36 0), (1, vI x1), (2, vI (x2 + 1))] [] M)) ∧ ((0 ≤ (M 13 x2 0) ∧ (M 13 x2 0) ≤ 5) → ((M 13 x2 4 < 0 → (G3 E YX7_driveOut Q 25 [(0, vR 36 0), (1, vI x1), (2, vI (x2 + 1))] [] M)) ∧ (0 ≤ M 13 x2 4 → ((M 10 0 0 ≤ M 13 x2 4 → (G3 E YX7_driveOut Q 25 [(0, vR 36 0), (1, vI x1), (2, vI (x2 + 1))] [] M)) ∧ (M 13 x2 4 < M 10 0 0 → ((0 ≤ M 13 x2 4 ∧ M 13 x2 4 < 48) ∧ ((M 13 (M 13 x2 4) 6 ≤ M 13 x2 3 → (G3 E YX7_driveOut Q 25 [(0, vR 36 0), (1, vI x1), (2, vI (x2 + 1))] [] M)) ∧ (M 13 x2 3 < M 13 (M 13 x2 4) 6 → ((0 ≤ M 13 x2 0 ∧ M 13 x2 0 < 6) ∧ ((-2147483648 ≤ (M 41 0 (M 13 x2 0)) + 1 ∧ (M 41 0 (M 13 x2 0)) + 1 ≤ 2147483647) ∧ (G3 E YX7_driveOut Q 25 [(0, vR 36 0), (1, vI (x1 + 1)), (2, vI (x2 + 1))] [] (up3 (up3 (up3 M 41 0 (M 13 x2 0) ((M 41 0 (M 13 x2 0)) + 1)) 13 x2 5 3) 13 x2 0 (-1))))))))))))))))))))) :
    G3 E YX7_driveOut Q 25 [(0, vR 36 0), (1, vI x1), (2, vI x2)] [] M := by
  refine g3_rm fun hM => ?_
  refine g3_iload_n 2 dX7_driveOut_25 rfl rfl (g3_aload_n 0 dX7_driveOut_26 rfl rfl (g3_getR0 (t := 10) dX7_driveOut_27 flX7_27 rfl (z3 rfl) (g3_getI (t := 0) dX7_driveOut_30 flX7_57 (z3 rfl) (z3 rfl) (g3_icmp_ge (tgt := 80) dX7_driveOut_33 rfl h.1 (hM 10 0 0) (fun c => ?_) (fun c => ?_)))))
  · have h1 := h; have h := h1.2.1 c
    have o1 := h1.1
    exact g3_iload_n 1 dX7_driveOut_80 rfl rfl (g3_ireturn dX7_driveOut_81 rfl h)
  · have h1 := h; have h := h1.2.2 c
    have o1 := h1.1
    refine g3_aload_n 0 dX7_driveOut_36 rfl rfl (g3_getR0 (t := 10) dX7_driveOut_37 flX7_27 rfl (z3 rfl) (g3_iload_n 2 dX7_driveOut_40 rfl rfl (g3_cV1 dX7_driveOut_41 myX0_at mlX7_58 (z3 rfl) ob_10 (z3 rfl) (z3 rfl) (c3_in rfl rfl (z3 rfl) (g3_aload_n 0 dX0_at_0 rfl rfl (g3_getR0 (t := 11) dX0_at_1 flX0_13 rfl (z3 rfl) (g3_iload_n 1 dX0_at_4 rfl rfl (g3_aald dX0_at_5 aq_11 h.1 (g3_areturn dX0_at_6 rfl (g3_r1 (g3_astore_n (lv' := [(3, vR 13 x2), (0, vR 36 0), (1, vI x1), (2, vI x2)]) dX7_driveOut_44 rfl (z3 rfl) rfl (g3_aload_n 1 dX7_driveOut_45 rfl rfl (g3_aload_n 0 dX7_driveOut_46 rfl rfl (g3_cV1 dX7_driveOut_47 myX7_losesHouse mlX7_62 (z3 rfl) ob_36 (z3 rfl) (z3 rfl) (c3_in rfl rfl (z3 rfl) (g3_aload_n 1 dX7_losesHouse_0 rfl rfl (g3_getI (t := 0) dX7_losesHouse_1 flX7_75 (z3 rfl) h.1 (g3_iconst dX7_losesHouse_4 (g3_icmp_ne (tgt := 57) dX7_losesHouse_5 rfl (hM 13 x2 5) (z3 rfl) (fun c => ?_) (fun c => ?_))))))))))))))))))))
    · have h1 := h; have h := h1.2.1 c
      have o2 := h1.1
      refine g3_iconst dX7_losesHouse_57 (g3_zreturn dX7_losesHouse_58 rfl (Or.inl rfl) (g3_r1 (g3_if_eq_T (tgt := 74) dX7_driveOut_50 rfl (z3 rfl) (g3_iinc (lv' := [(2, vI (x2 + 1)), (3, vR 13 x2), (0, vR 36 0), (1, vI x1)]) 3 dX7_driveOut_74 rfl (z3 rfl) rfl (g3_goto (tgt := 25) dX7_driveOut_77 rfl (g3_sub [2, 3, 0] rfl h))))))
    · have h1 := h; have h := h1.2.2 c
      have o2 := h1.1
      refine g3_aload_n 1 dX7_losesHouse_8 rfl rfl (g3_getI (t := 0) dX7_losesHouse_9 flX7_66 (z3 rfl) o2 (g3_cN1 dX7_losesHouse_12 myX11_isBeat mlX7_78 (z3 rfl) (z3 rfl) (c3_in rfl rfl (z3 rfl) (g3_iload_n 0 dX11_isBeat_0 rfl rfl (g3_iconst dX11_isBeat_1 (g3_iconst dX11_isBeat_2 (g3_cS3 dX11_isBeat_3 myX11_within mlX11_78 (z3 rfl) (z3 rfl) (kX11_within h.1 (g3_r1 (g3_zreturn dX11_isBeat_6 rfl (bo3_01 _) (g3_r1 (g3_bool_eq (tgt := 57) dX7_losesHouse_15 rfl (fun c => ?_) (fun c => ?_)))))))))))))
      · have h1 := h; have h := h1.2.1 c
        have o3 := h1.1
        refine g3_iconst dX7_losesHouse_57 (g3_zreturn dX7_losesHouse_58 rfl (Or.inl rfl) (g3_r1 (g3_if_eq_T (tgt := 74) dX7_driveOut_50 rfl (z3 rfl) (g3_iinc (lv' := [(2, vI (x2 + 1)), (3, vR 13 x2), (0, vR 36 0), (1, vI x1)]) 3 dX7_driveOut_74 rfl (z3 rfl) rfl (g3_goto (tgt := 25) dX7_driveOut_77 rfl (g3_sub [2, 3, 0] rfl h))))))
      · have h1 := h; have h := h1.2.2 c
        have o3 := h1.1
        refine g3_aload_n 0 dX7_losesHouse_18 rfl rfl (g3_getR0 (t := 10) dX7_losesHouse_19 flX7_27 rfl (z3 rfl) (g3_aload_n 1 dX7_losesHouse_22 rfl rfl (g3_getI (t := 0) dX7_losesHouse_23 flX7_82 (z3 rfl) o2 (g3_cV1 dX7_losesHouse_26 myX0_holds mlX7_85 (z3 rfl) ob_10 (z3 rfl) (z3 rfl) (c3_in rfl rfl (z3 rfl) (g3_iload_n 1 dX0_holds_0 rfl rfl (g3_if_lt (tgt := 16) dX0_holds_1 rfl (hM 13 x2 4) (fun c => ?_) (fun c => ?_))))))))
        · have h1 := h; have h := h1.1 c
          refine g3_iconst dX0_holds_16 (g3_zreturn dX0_holds_17 rfl (Or.inl rfl) (g3_r1 (g3_if_eq_T (tgt := 57) dX7_losesHouse_29 rfl (z3 rfl) (g3_iconst dX7_losesHouse_57 (g3_zreturn dX7_losesHouse_58 rfl (Or.inl rfl) (g3_r1 (g3_if_eq_T (tgt := 74) dX7_driveOut_50 rfl (z3 rfl) (g3_iinc (lv' := [(2, vI (x2 + 1)), (3, vR 13 x2), (0, vR 36 0), (1, vI x1)]) 3 dX7_driveOut_74 rfl (z3 rfl) rfl (g3_goto (tgt := 25) dX7_driveOut_77 rfl (g3_sub [2, 3, 0] rfl h))))))))))
        · have h1 := h; have h := h1.2 c
          refine g3_iload_n 1 dX0_holds_4 rfl rfl (g3_aload_n 0 dX0_holds_5 rfl rfl (g3_getI (t := 0) dX0_holds_6 flX0_22 (z3 rfl) (z3 rfl) (g3_icmp_ge (tgt := 16) dX0_holds_9 rfl (hM 13 x2 4) (hM 10 0 0) (fun c => ?_) (fun c => ?_))))
          · have h1 := h; have h := h1.1 c
            refine g3_iconst dX0_holds_16 (g3_zreturn dX0_holds_17 rfl (Or.inl rfl) (g3_r1 (g3_if_eq_T (tgt := 57) dX7_losesHouse_29 rfl (z3 rfl) (g3_iconst dX7_losesHouse_57 (g3_zreturn dX7_losesHouse_58 rfl (Or.inl rfl) (g3_r1 (g3_if_eq_T (tgt := 74) dX7_driveOut_50 rfl (z3 rfl) (g3_iinc (lv' := [(2, vI (x2 + 1)), (3, vR 13 x2), (0, vR 36 0), (1, vI x1)]) 3 dX7_driveOut_74 rfl (z3 rfl) rfl (g3_goto (tgt := 25) dX7_driveOut_77 rfl (g3_sub [2, 3, 0] rfl h))))))))))
          · have h1 := h; have h := h1.2 c
            refine g3_iconst dX0_holds_12 (g3_goto (tgt := 17) dX0_holds_13 rfl (g3_zreturn dX0_holds_17 rfl (Or.inr rfl) (g3_r1 (g3_if_eq_F (tgt := 57) dX7_losesHouse_29 rfl (z3 rfl) (g3_aload_n 1 dX7_losesHouse_32 rfl rfl (g3_getI (t := 0) dX7_losesHouse_33 flX7_88 (z3 rfl) o2 (g3_aload_n 0 dX7_losesHouse_36 rfl rfl (g3_getR0 (t := 10) dX7_losesHouse_37 flX7_27 rfl (z3 rfl) (g3_aload_n 1 dX7_losesHouse_40 rfl rfl (g3_getI (t := 0) dX7_losesHouse_41 flX7_82 (z3 rfl) o2 (g3_cV1 dX7_losesHouse_44 myX0_at mlX7_58 (z3 rfl) ob_10 (z3 rfl) (z3 rfl) (c3_in rfl rfl (z3 rfl) (g3_aload_n 0 dX0_at_0 rfl rfl (g3_getR0 (t := 11) dX0_at_1 flX0_13 rfl (z3 rfl) (g3_iload_n 1 dX0_at_4 rfl rfl (g3_aald dX0_at_5 aq_11 h.1 (g3_areturn dX0_at_6 rfl (g3_r1 (g3_getI (t := 0) dX7_losesHouse_47 flX7_91 (z3 rfl) h.1 (g3_icmp_ge (tgt := 57) dX7_losesHouse_50 rfl (hM 13 x2 3) (hM 13 (M 13 x2 4) 6) (fun c => ?_) (fun c => ?_)))))))))))))))))))))
            · have h1 := h; have h := h1.2.1 c
              have o4 := h1.1
              refine g3_iconst dX7_losesHouse_57 (g3_zreturn dX7_losesHouse_58 rfl (Or.inl rfl) (g3_r1 (g3_if_eq_T (tgt := 74) dX7_driveOut_50 rfl (z3 rfl) (g3_iinc (lv' := [(2, vI (x2 + 1)), (3, vR 13 x2), (0, vR 36 0), (1, vI x1)]) 3 dX7_driveOut_74 rfl (z3 rfl) rfl (g3_goto (tgt := 25) dX7_driveOut_77 rfl (g3_sub [2, 3, 0] rfl h))))))
            · have h1 := h; have h := h1.2.2 c
              have o4 := h1.1
              refine g3_iconst dX7_losesHouse_53 (g3_goto (tgt := 58) dX7_losesHouse_54 rfl (g3_zreturn dX7_losesHouse_58 rfl (Or.inr rfl) (g3_r1 (g3_if_eq_F (tgt := 74) dX7_driveOut_50 rfl (z3 rfl) (g3_aload_n 1 dX7_driveOut_53 rfl rfl (g3_getR0 (t := 41) dX7_driveOut_54 flX7_24 rfl (z3 rfl) (g3_aload_n 0 dX7_driveOut_57 rfl rfl (g3_getI (t := 0) dX7_driveOut_58 flX7_66 (z3 rfl) o2 (g3_dup2 dX7_driveOut_61 rfl rfl (g3_iald dX7_driveOut_62 ar_41 (z3 rfl) h.1 (g3_iconst dX7_driveOut_63 (g3_iadd dX7_driveOut_64 (g3_iast dX7_driveOut_65 ar_41 (z3 rfl) h.1 h.2.1 (g3_aload_n 0 dX7_driveOut_66 rfl rfl (g3_iconst dX7_driveOut_67 (g3_cV1 dX7_driveOut_68 myX8_become mlX7_71 (z3 rfl) ob_13 o2 (z3 rfl) (c3_in rfl rfl (z3 rfl) (g3_aload_n 0 dX8_become_0 rfl rfl (g3_iload_n 1 dX8_become_1 rfl rfl (g3_put dX8_become_2 fpX8_9 (Or.inl rfl) o2 (z3 rfl) (g3_aload_n 0 dX8_become_5 rfl rfl (g3_cV0 dX8_become_6 myX8_lives mlX8_15 (z3 rfl) ob_13 o2 (z3 rfl) (c3_in rfl rfl (z3 rfl) (g3_aload_n 0 dX8_lives_0 rfl rfl (g3_getI (t := 0) dX8_lives_1 flX8_9 (z3 rfl) o2 (g3_val (up3_eq) (g3_iconst dX8_lives_4 (g3_icmp_gt_T (tgt := 12) dX8_lives_5 rfl trivial (z3 rfl) (g3_iconst dX8_lives_12 (g3_zreturn dX8_lives_13 rfl (Or.inl rfl) (g3_r1 (g3_if_ne_F (tgt := 17) dX8_become_9 rfl (z3 rfl) (g3_aload_n 0 dX8_become_12 rfl rfl (g3_iconst dX8_become_13 (g3_put dX8_become_14 fpX8_19 (Or.inl rfl) o2 (z3 rfl) (g3_return dX8_become_17 rfl (g3_r0 (g3_iinc (lv' := [(1, vI (x1 + 1)), (3, vR 13 x2), (0, vR 36 0), (2, vI x2)]) 2 dX7_driveOut_71 rfl (z3 rfl) rfl (g3_iinc (lv' := [(2, vI (x2 + 1)), (1, vI (x1 + 1)), (3, vR 13 x2), (0, vR 36 0)]) 3 dX7_driveOut_74 rfl (z3 rfl) rfl (g3_goto (tgt := 25) dX7_driveOut_77 rfl (g3_sub [3, 1, 0] rfl h.2.2)))))))))))))))))))))))))))))))))))))))))
set_option maxRecDepth 20000 in
set_option maxHeartbeats 200000 in
theorem sX7_frighten {E : E3} {Q : Q3} {M : M3}
    (h : G3 E YX7_frighten Q 4 [(0, vR 36 0), (1, vI 0), (2, vI 0)] [] M) :
    C3 E YX7_frighten [vR 36 0] M Q := by
  refine c3_in rfl rfl (z3 rfl) (g3_rm fun hM => ?_)
  refine g3_iconst dX7_frighten_0 (g3_istore_n (lv' := [(1, vI 0), (0, vR 36 0)]) dX7_frighten_1 rfl (z3 rfl) rfl (g3_iconst dX7_frighten_2 (g3_istore_n (lv' := [(2, vI 0), (1, vI 0), (0, vR 36 0)]) dX7_frighten_3 rfl (z3 rfl) rfl (g3_sub [2, 1, 0] rfl h))))
set_option maxRecDepth 20000 in
set_option maxHeartbeats 200000 in
theorem sX7_frighten_4 {E : E3} {Q : Q3} {M : M3} {x1 : Int} {x2 : Int}
    (h : (-2147483648 ≤ x2 ∧ x2 ≤ 2147483647) ∧ ((M 10 0 0 ≤ x2 → (Q (some (vI x1)) M)) ∧ (x2 < M 10 0 0 → ((0 ≤ x2 ∧ x2 < 48) ∧ (((-2147483648 ≤ (M 13 x2 0) ∧ (M 13 x2 0) ≤ 2147483647) ∧ (-2147483648 ≤ (0 : Int) ∧ (0 : Int) ≤ 2147483647) ∧ (-2147483648 ≤ (5 : Int) ∧ (5 : Int) ≤ 2147483647)) ∧ ((¬(0 ≤ (M 13 x2 0) ∧ (M 13 x2 0) ≤ 5) → (G3 E YX7_frighten Q 4 [(0, vR 36 0), (1, vI x1), (2, vI (x2 + 1))] [] M)) ∧ ((0 ≤ (M 13 x2 0) ∧ (M 13 x2 0) ≤ 5) → ((0 ≤ M 13 x2 0 ∧ M 13 x2 0 < 6) ∧ ((M 41 0 (M 13 x2 0) ≤ 0 → (G3 E YX7_frighten Q 4 [(0, vR 36 0), (1, vI x1), (2, vI (x2 + 1))] [] M)) ∧ (0 < M 41 0 (M 13 x2 0) → ((M 13 x2 5 ≠ 1 → ((-2147483648 ≤ (M 13 x2 3) + 1 ∧ (M 13 x2 3) + 1 ≤ 2147483647) ∧ ((-2147483648 ≤ min 9 ((M 13 x2 3) + 1) ∧ min 9 ((M 13 x2 3) + 1) ≤ 2147483647) ∧ (G3 E YX7_frighten Q 4 [(0, vR 36 0), (1, vI x1), (2, vI (x2 + 1))] [] (up3 M 13 x2 3 (min 9 ((M 13 x2 3) + 1))))))) ∧ (M 13 x2 5 = 1 → ((-2147483648 ≤ (M 13 x2 3) + (M 41 0 (M 13 x2 0)) ∧ (M 13 x2 3) + (M 41 0 (M 13 x2 0)) ≤ 2147483647) ∧ (((M 13 x2 3) + (M 41 0 (M 13 x2 0)) < 10 → ((-2147483648 ≤ (M 13 x2 3) + 1 ∧ (M 13 x2 3) + 1 ≤ 2147483647) ∧ ((-2147483648 ≤ min 9 ((M 13 x2 3) + 1) ∧ min 9 ((M 13 x2 3) + 1) ≤ 2147483647) ∧ (G3 E YX7_frighten Q 4 [(0, vR 36 0), (1, vI x1), (2, vI (x2 + 1))] [] (up3 M 13 x2 3 (min 9 ((M 13 x2 3) + 1))))))) ∧ (10 ≤ (M 13 x2 3) + (M 41 0 (M 13 x2 0)) → ((-2147483648 ≤ (M 13 x2 3) + 1 ∧ (M 13 x2 3) + 1 ≤ 2147483647) ∧ ((-2147483648 ≤ min 9 ((M 13 x2 3) + 1) ∧ min 9 ((M 13 x2 3) + 1) ≤ 2147483647) ∧ (G3 E YX7_frighten Q 4 [(0, vR 36 0), (1, vI (x1 + 1)), (2, vI (x2 + 1))] [] (up3 (up3 M 13 x2 5 2) 13 x2 3 (min 9 ((M 13 x2 3) + 1))))))))))))))))))))) :
    G3 E YX7_frighten Q 4 [(0, vR 36 0), (1, vI x1), (2, vI x2)] [] M := by
  refine g3_rm fun hM => ?_
  refine g3_iload_n 2 dX7_frighten_4 rfl rfl (g3_aload_n 0 dX7_frighten_5 rfl rfl (g3_getR0 (t := 10) dX7_frighten_6 flX7_27 rfl (z3 rfl) (g3_getI (t := 0) dX7_frighten_9 flX7_57 (z3 rfl) (z3 rfl) (g3_icmp_ge (tgt := 103) dX7_frighten_12 rfl h.1 (hM 10 0 0) (fun c => ?_) (fun c => ?_)))))
  · have h1 := h; have h := h1.2.1 c
    have o1 := h1.1
    exact g3_iload_n 1 dX7_frighten_103 rfl rfl (g3_ireturn dX7_frighten_104 rfl h)
  · have h1 := h; have h := h1.2.2 c
    have o1 := h1.1
    refine g3_aload_n 0 dX7_frighten_15 rfl rfl (g3_getR0 (t := 10) dX7_frighten_16 flX7_27 rfl (z3 rfl) (g3_iload_n 2 dX7_frighten_19 rfl rfl (g3_cV1 dX7_frighten_20 myX0_at mlX7_58 (z3 rfl) ob_10 (z3 rfl) (z3 rfl) (c3_in rfl rfl (z3 rfl) (g3_aload_n 0 dX0_at_0 rfl rfl (g3_getR0 (t := 11) dX0_at_1 flX0_13 rfl (z3 rfl) (g3_iload_n 1 dX0_at_4 rfl rfl (g3_aald dX0_at_5 aq_11 h.1 (g3_areturn dX0_at_6 rfl (g3_r1 (g3_astore_n (lv' := [(3, vR 13 x2), (0, vR 36 0), (1, vI x1), (2, vI x2)]) dX7_frighten_23 rfl (z3 rfl) rfl (g3_aload_n 0 dX7_frighten_24 rfl rfl (g3_getI (t := 0) dX7_frighten_25 flX7_66 (z3 rfl) h.1 (g3_cN1 dX7_frighten_28 myX11_isBeat mlX7_78 (z3 rfl) (z3 rfl) (c3_in rfl rfl (z3 rfl) (g3_iload_n 0 dX11_isBeat_0 rfl rfl (g3_iconst dX11_isBeat_1 (g3_iconst dX11_isBeat_2 (g3_cS3 dX11_isBeat_3 myX11_within mlX11_78 (z3 rfl) (z3 rfl) (kX11_within h.2.1 (g3_r1 (g3_zreturn dX11_isBeat_6 rfl (bo3_01 _) (g3_r1 (g3_bool_eq (tgt := 46) dX7_frighten_31 rfl (fun c => ?_) (fun c => ?_)))))))))))))))))))))))))
    · have h1 := h; have h := h1.2.2.1 c
      have o2 := h1.1
      have o3 := h1.2.1
      refine g3_iconst dX7_frighten_46 (g3_istore (lv' := [(4, vI 0), (3, vR 13 x2), (0, vR 36 0), (1, vI x1), (2, vI x2)]) dX7_frighten_47 (z3 rfl) rfl (g3_iload 0 dX7_frighten_49 rfl (g3_if_le_T (tgt := 97) dX7_frighten_51 rfl (z3 rfl) (g3_iinc (lv' := [(2, vI (x2 + 1)), (4, vI 0), (3, vR 13 x2), (0, vR 36 0), (1, vI x1)]) 4 dX7_frighten_97 rfl (z3 rfl) rfl (g3_goto (tgt := 4) dX7_frighten_100 rfl (g3_sub [3, 4, 0] rfl h))))))
    · have h1 := h; have h := h1.2.2.2 c
      have o2 := h1.1
      have o3 := h1.2.1
      refine g3_aload_n 1 dX7_frighten_34 rfl rfl (g3_getR0 (t := 41) dX7_frighten_35 flX7_24 rfl (z3 rfl) (g3_aload_n 0 dX7_frighten_38 rfl rfl (g3_getI (t := 0) dX7_frighten_39 flX7_66 (z3 rfl) o2 (g3_iald dX7_frighten_42 ar_41 (z3 rfl) h.1 (g3_goto (tgt := 47) dX7_frighten_43 rfl (g3_istore (lv' := [(4, vI (M 41 0 (M 13 x2 0))), (3, vR 13 x2), (0, vR 36 0), (1, vI x1), (2, vI x2)]) dX7_frighten_47 (z3 rfl) rfl (g3_iload 0 dX7_frighten_49 rfl (g3_if_le (tgt := 97) dX7_frighten_51 rfl (hM 41 0 (M 13 x2 0)) (fun c => ?_) (fun c => ?_)))))))))
      · have h1 := h; have h := h1.2.1 c
        have o4 := h1.1
        refine g3_iinc (lv' := [(2, vI (x2 + 1)), (4, vI (M 41 0 (M 13 x2 0))), (3, vR 13 x2), (0, vR 36 0), (1, vI x1)]) 4 dX7_frighten_97 rfl (z3 rfl) rfl (g3_goto (tgt := 4) dX7_frighten_100 rfl (g3_sub [3, 4, 0] rfl h))
      · have h1 := h; have h := h1.2.2 c
        have o4 := h1.1
        refine g3_aload_n 1 dX7_frighten_54 rfl rfl (g3_getI (t := 0) dX7_frighten_55 flX7_75 (z3 rfl) o2 (g3_iconst dX7_frighten_58 (g3_icmp_ne (tgt := 82) dX7_frighten_59 rfl (hM 13 x2 5) (z3 rfl) (fun c => ?_) (fun c => ?_))))
        · have h1 := h; have h := h1.1 c
          refine g3_aload_n 1 dX7_frighten_82 rfl rfl (g3_bipush dX7_frighten_83 rfl (g3_aload_n 1 dX7_frighten_85 rfl rfl (g3_getI (t := 0) dX7_frighten_86 flX7_88 (z3 rfl) o2 (g3_iconst dX7_frighten_89 (g3_iadd dX7_frighten_90 (g3_min dX7_frighten_91 mlX7_94 (z3 rfl) (z3 rfl) (z3 rfl) h.1 (g3_put dX7_frighten_94 fpX7_88 (Or.inl rfl) o2 h.2.1 (g3_iinc (lv' := [(2, vI (x2 + 1)), (4, vI (M 41 0 (M 13 x2 0))), (3, vR 13 x2), (0, vR 36 0), (1, vI x1)]) 4 dX7_frighten_97 rfl (z3 rfl) rfl (g3_goto (tgt := 4) dX7_frighten_100 rfl (g3_sub [3, 4, 0] rfl h.2.2))))))))))
        · have h1 := h; have h := h1.2 c
          refine g3_aload_n 1 dX7_frighten_62 rfl rfl (g3_getI (t := 0) dX7_frighten_63 flX7_88 (z3 rfl) o2 (g3_iload 0 dX7_frighten_66 rfl (g3_iadd dX7_frighten_68 (g3_bipush dX7_frighten_69 rfl (g3_icmp_lt (tgt := 82) dX7_frighten_71 rfl h.1 (z3 rfl) (fun c => ?_) (fun c => ?_))))))
          · have h1 := h; have h := h1.2.1 c
            have o7 := h1.1
            refine g3_aload_n 1 dX7_frighten_82 rfl rfl (g3_bipush dX7_frighten_83 rfl (g3_aload_n 1 dX7_frighten_85 rfl rfl (g3_getI (t := 0) dX7_frighten_86 flX7_88 (z3 rfl) o2 (g3_iconst dX7_frighten_89 (g3_iadd dX7_frighten_90 (g3_min dX7_frighten_91 mlX7_94 (z3 rfl) (z3 rfl) (z3 rfl) h.1 (g3_put dX7_frighten_94 fpX7_88 (Or.inl rfl) o2 h.2.1 (g3_iinc (lv' := [(2, vI (x2 + 1)), (4, vI (M 41 0 (M 13 x2 0))), (3, vR 13 x2), (0, vR 36 0), (1, vI x1)]) 4 dX7_frighten_97 rfl (z3 rfl) rfl (g3_goto (tgt := 4) dX7_frighten_100 rfl (g3_sub [3, 4, 0] rfl h.2.2))))))))))
          · have h1 := h; have h := h1.2.2 c
            have o7 := h1.1
            refine g3_aload_n 1 dX7_frighten_74 rfl rfl (g3_iconst dX7_frighten_75 (g3_cV1 dX7_frighten_76 myX8_become mlX7_71 (z3 rfl) ob_13 o2 (z3 rfl) (c3_in rfl rfl (z3 rfl) (g3_aload_n 0 dX8_become_0 rfl rfl (g3_iload_n 1 dX8_become_1 rfl rfl (g3_put dX8_become_2 fpX8_9 (Or.inl rfl) o2 (z3 rfl) (g3_aload_n 0 dX8_become_5 rfl rfl (g3_cV0 dX8_become_6 myX8_lives mlX8_15 (z3 rfl) ob_13 o2 (z3 rfl) (c3_in rfl rfl (z3 rfl) (g3_aload_n 0 dX8_lives_0 rfl rfl (g3_getI (t := 0) dX8_lives_1 flX8_9 (z3 rfl) o2 (g3_val (up3_eq) (g3_iconst dX8_lives_4 (g3_icmp_gt_F (tgt := 12) dX8_lives_5 rfl trivial (z3 rfl) (g3_iconst dX8_lives_8 (g3_goto (tgt := 13) dX8_lives_9 rfl (g3_zreturn dX8_lives_13 rfl (Or.inr rfl) (g3_r1 (g3_if_ne_T (tgt := 17) dX8_become_9 rfl (z3 rfl) (g3_return dX8_become_17 rfl (g3_r0 (g3_iinc (lv' := [(1, vI (x1 + 1)), (4, vI (M 41 0 (M 13 x2 0))), (3, vR 13 x2), (0, vR 36 0), (2, vI x2)]) 3 dX7_frighten_79 rfl (z3 rfl) rfl (g3_aload_n 2 dX7_frighten_82 rfl rfl (g3_bipush dX7_frighten_83 rfl (g3_aload_n 2 dX7_frighten_85 rfl rfl (g3_getI (t := 0) dX7_frighten_86 flX7_88 (z3 rfl) o2 (g3_val (up3_nj (by decide)) (g3_iconst dX7_frighten_89 (g3_iadd dX7_frighten_90 (g3_min dX7_frighten_91 mlX7_94 (z3 rfl) (z3 rfl) (z3 rfl) h.1 (g3_put dX7_frighten_94 fpX7_88 (Or.inl rfl) o2 h.2.1 (g3_iinc (lv' := [(2, vI (x2 + 1)), (1, vI (x1 + 1)), (4, vI (M 41 0 (M 13 x2 0))), (3, vR 13 x2), (0, vR 36 0)]) 4 dX7_frighten_97 rfl (z3 rfl) rfl (g3_goto (tgt := 4) dX7_frighten_100 rfl (g3_sub [4, 1, 0] rfl h.2.2))))))))))))))))))))))))))))))))))
set_option maxRecDepth 20000 in
set_option maxHeartbeats 200000 in
theorem sX9_renew {E : E3} {Q : Q3} {M : M3} {i0 x1 x2 : Int}
    (h : (0 ≤ i0 ∧ i0 < 4) ∧ ((-2147483648 ≤ x1 ∧ x1 ≤ 2147483647) ∧ ((-2147483648 ≤ x2 ∧ x2 ≤ 2147483647) ∧ (G3 E YX9_renew Q 12 [(0, vR 42 i0), (3, vI 0)] [] (up3 (up3 M 42 i0 0 x1) 42 i0 1 x2))))) :
    C3 E YX9_renew [vR 42 i0, vI x1, vI x2] M Q := by
  refine c3_in rfl rfl (z3 rfl) (g3_rm fun hM => ?_)
  refine g3_aload_n 0 dX9_renew_0 rfl rfl (g3_iload_n 1 dX9_renew_1 rfl rfl (g3_put dX9_renew_2 fpX9_9 (Or.inl rfl) h.1 h.2.1 (g3_aload_n 0 dX9_renew_5 rfl rfl (g3_iload_n 2 dX9_renew_6 rfl rfl (g3_put dX9_renew_7 fpX9_19 (Or.inl rfl) h.1 h.2.2.1 (g3_iconst dX9_renew_10 (g3_istore_n (lv' := [(3, vI 0), (0, vR 42 i0), (1, vI x1), (2, vI x2)]) dX9_renew_11 rfl (z3 rfl) rfl (g3_sub [1, 0] rfl h.2.2.2))))))))
set_option maxRecDepth 20000 in
set_option maxHeartbeats 200000 in
theorem sX9_renew_12 {E : E3} {Q : Q3} {M : M3} {i0 : Int} {x3 : Int}
    (h : (-2147483648 ≤ x3 ∧ x3 ≤ 2147483647) ∧ ((40 ≤ x3 → (Q none M)) ∧ (x3 < 40 → ((0 ≤ i0 ∧ i0 < 4) ∧ ((0 ≤ x3 ∧ x3 < 40) ∧ (G3 E YX9_renew Q 12 [(0, vR 42 i0), (3, vI (x3 + 1))] [] (up3 M 43 i0 x3 0))))))) :
    G3 E YX9_renew Q 12 [(0, vR 42 i0), (3, vI x3)] [] M := by
  refine g3_rm fun hM => ?_
  refine g3_iload_n 1 dX9_renew_12 rfl rfl (g3_bipush dX9_renew_13 rfl (g3_icmp_ge (tgt := 31) dX9_renew_15 rfl h.1 (z3 rfl) (fun c => ?_) (fun c => ?_)))
  · have h1 := h; have h := h1.2.1 c
    have o1 := h1.1
    exact g3_return dX9_renew_31 rfl h
  · have h1 := h; have h := h1.2.2 c
    have o1 := h1.1
    refine g3_aload_n 0 dX9_renew_18 rfl rfl (g3_getRi (t := 43) dX9_renew_19 flX9_15 rfl h.1 (g3_iload_n 1 dX9_renew_22 rfl rfl (g3_iconst dX9_renew_23 (g3_iast dX9_renew_24 ar_43 h.1 h.2.1 (z3 rfl) (g3_iinc (lv' := [(3, vI (x3 + 1)), (0, vR 42 i0)]) 1 dX9_renew_25 rfl (z3 rfl) rfl (g3_goto (tgt := 12) dX9_renew_28 rfl (g3_sub [1, 0] rfl h.2.2)))))))
set_option maxRecDepth 20000 in
set_option maxHeartbeats 200000 in
theorem sX5_reckonMostFrom {E : E3} {Q : Q3} {M : M3} {x1 : Int}
    (h : G3 E YX5_reckonMostFrom Q 2 [(0, vR 26 0), (1, vI x1), (2, vI 0)] [] M) :
    C3 E YX5_reckonMostFrom [vR 26 0, vI x1] M Q := by
  refine c3_in rfl rfl (z3 rfl) (g3_rm fun hM => ?_)
  refine g3_iconst dX5_reckonMostFrom_0 (g3_istore_n (lv' := [(2, vI 0), (0, vR 26 0), (1, vI x1)]) dX5_reckonMostFrom_1 rfl (z3 rfl) rfl (g3_sub [1, 2, 0] rfl h))
set_option maxRecDepth 20000 in
set_option maxHeartbeats 200000 in
theorem sX5_reckonMostFrom_2 {E : E3} {Q : Q3} {M : M3} {x1 : Int} {x2 : Int}
    (h : (-2147483648 ≤ x2 ∧ x2 ≤ 2147483647) ∧ ((-2147483648 ≤ x1 ∧ x1 ≤ 2147483647) ∧ ((x1 < x2 → (G3 E YX5_reckonMostFrom Q 31 [(0, vR 26 0), (1, vI x1), (2, vI 4)] [] M)) ∧ (x2 ≤ x1 → ((0 ≤ x2 ∧ x2 < 13) ∧ (G3 E YX5_reckonMostFrom Q 2 [(0, vR 26 0), (1, vI x1), (2, vI (x2 + 1))] [] (up3 M 30 5 x2 (M 28 5 x2)))))))) :
    G3 E YX5_reckonMostFrom Q 2 [(0, vR 26 0), (1, vI x1), (2, vI x2)] [] M := by
  refine g3_rm fun hM => ?_
  refine g3_iload_n 2 dX5_reckonMostFrom_2 rfl rfl (g3_iload_n 1 dX5_reckonMostFrom_3 rfl rfl (g3_icmp_gt (tgt := 29) dX5_reckonMostFrom_4 rfl h.1 h.2.1 (fun c => ?_) (fun c => ?_)))
  · have h1 := h; have h := h1.2.2.1 c
    have o1 := h1.1
    have o2 := h1.2.1
    refine g3_iconst dX5_reckonMostFrom_29 (g3_istore_n (lv' := [(2, vI 4), (0, vR 26 0), (1, vI x1)]) dX5_reckonMostFrom_30 rfl (z3 rfl) rfl (g3_sub [1, 2, 0] rfl h))
  · have h1 := h; have h := h1.2.2.2 c
    have o1 := h1.1
    have o2 := h1.2.1
    refine g3_aload_n 0 dX5_reckonMostFrom_7 rfl rfl (g3_getR0 (t := 29) dX5_reckonMostFrom_8 flX5_16 rfl (z3 rfl) (g3_iconst dX5_reckonMostFrom_11 (g3_aald dX5_reckonMostFrom_12 aq_29 (z3 rfl) (g3_iload_n 2 dX5_reckonMostFrom_13 rfl rfl (g3_aload_n 0 dX5_reckonMostFrom_14 rfl rfl (g3_getR0 (t := 27) dX5_reckonMostFrom_15 flX5_13 rfl (z3 rfl) (g3_iconst dX5_reckonMostFrom_18 (g3_aald dX5_reckonMostFrom_19 aq_27 (z3 rfl) (g3_iload_n 2 dX5_reckonMostFrom_20 rfl rfl (g3_iald dX5_reckonMostFrom_21 ar_28 (z3 rfl) h.1 (g3_iast dX5_reckonMostFrom_22 ar_30 (z3 rfl) h.1 (hM 28 5 x2) (g3_iinc (lv' := [(2, vI (x2 + 1)), (0, vR 26 0), (1, vI x1)]) 2 dX5_reckonMostFrom_23 rfl (z3 rfl) rfl (g3_goto (tgt := 2) dX5_reckonMostFrom_26 rfl (g3_sub [1, 2, 0] rfl h.2))))))))))))))
set_option maxRecDepth 20000 in
set_option maxHeartbeats 200000 in
theorem sX5_reckonMostFrom_31 {E : E3} {Q : Q3} {M : M3} {x1 : Int} {x2 : Int}
    (h : (-2147483648 ≤ x2 ∧ x2 ≤ 2147483647) ∧ ((x2 < 0 → (Q none M)) ∧ (0 ≤ x2 → (G3 E YX5_reckonMostFrom Q 37 [(0, vR 26 0), (1, vI x1), (2, vI x2), (3, vI 0)] [] M)))) :
    G3 E YX5_reckonMostFrom Q 31 [(0, vR 26 0), (1, vI x1), (2, vI x2)] [] M := by
  refine g3_rm fun hM => ?_
  refine g3_iload_n 2 dX5_reckonMostFrom_31 rfl rfl (g3_if_lt (tgt := 105) dX5_reckonMostFrom_32 rfl h.1 (fun c => ?_) (fun c => ?_))
  · have h1 := h; have h := h1.2.1 c
    have o1 := h1.1
    exact g3_return dX5_reckonMostFrom_105 rfl h
  · have h1 := h; have h := h1.2.2 c
    have o1 := h1.1
    refine g3_iconst dX5_reckonMostFrom_35 (g3_istore_n (lv' := [(3, vI 0), (0, vR 26 0), (1, vI x1), (2, vI x2)]) dX5_reckonMostFrom_36 rfl (z3 rfl) rfl (g3_sub [1, 2, 3, 0] rfl h))
set_option maxRecDepth 20000 in
set_option maxHeartbeats 200000 in
theorem sX5_reckonMostFrom_37 {E : E3} {Q : Q3} {M : M3} {x1 : Int} {x2 : Int} {x3 : Int}
    (h : (-2147483648 ≤ x3 ∧ x3 ≤ 2147483647) ∧ ((-2147483648 ≤ x1 ∧ x1 ≤ 2147483647) ∧ ((x1 < x3 → (G3 E YX5_reckonMostFrom Q 31 [(0, vR 26 0), (1, vI x1), (2, vI (x2 + (-1)))] [] M)) ∧ (x3 ≤ x1 → ((0 ≤ x2 ∧ x2 < 6) ∧ ((0 ≤ x3 ∧ x3 < 13) ∧ (G3 E YX5_reckonMostFrom Q 54 [(0, vR 26 0), (1, vI x1), (2, vI x2), (3, vI x3), (4, vI 0)] [] (up3 M 30 x2 x3 0)))))))) :
    G3 E YX5_reckonMostFrom Q 37 [(0, vR 26 0), (1, vI x1), (2, vI x2), (3, vI x3)] [] M := by
  refine g3_rm fun hM => ?_
  refine g3_iload_n 3 dX5_reckonMostFrom_37 rfl rfl (g3_iload_n 1 dX5_reckonMostFrom_38 rfl rfl (g3_icmp_gt (tgt := 99) dX5_reckonMostFrom_39 rfl h.1 h.2.1 (fun c => ?_) (fun c => ?_)))
  · have h1 := h; have h := h1.2.2.1 c
    have o1 := h1.1
    have o2 := h1.2.1
    refine g3_iinc (lv' := [(2, vI (x2 + (-1))), (0, vR 26 0), (1, vI x1), (3, vI x3)]) 2 dX5_reckonMostFrom_99 rfl (z3 rfl) rfl (g3_goto (tgt := 31) dX5_reckonMostFrom_102 rfl (g3_sub [1, 2, 0] rfl h))
  · have h1 := h; have h := h1.2.2.2 c
    have o1 := h1.1
    have o2 := h1.2.1
    refine g3_aload_n 0 dX5_reckonMostFrom_42 rfl rfl (g3_getR0 (t := 29) dX5_reckonMostFrom_43 flX5_16 rfl (z3 rfl) (g3_iload_n 2 dX5_reckonMostFrom_46 rfl rfl (g3_aald dX5_reckonMostFrom_47 aq_29 h.1 (g3_iload_n 3 dX5_reckonMostFrom_48 rfl rfl (g3_iconst dX5_reckonMostFrom_49 (g3_iast dX5_reckonMostFrom_50 ar_30 h.1 h.2.1 (z3 rfl) (g3_iconst dX5_reckonMostFrom_51 (g3_istore (lv' := [(4, vI 0), (0, vR 26 0), (1, vI x1), (2, vI x2), (3, vI x3)]) dX5_reckonMostFrom_52 (z3 rfl) rfl (g3_sub [1, 2, 3, 4, 0] rfl h.2.2)))))))))
set_option maxRecDepth 20000 in
set_option maxHeartbeats 200000 in
theorem sX5_reckonMostFrom_54 {E : E3} {Q : Q3} {M : M3} {x1 : Int} {x2 : Int} {x3 : Int} {x4 : Int}
    (h : (-2147483648 ≤ x4 ∧ x4 ≤ 2147483647) ∧ ((-2147483648 ≤ x3 ∧ x3 ≤ 2147483647) ∧ ((x3 < x4 → (G3 E YX5_reckonMostFrom Q 37 [(0, vR 26 0), (1, vI x1), (2, vI x2), (3, vI (x3 + 1))] [] M)) ∧ (x4 ≤ x3 → ((0 ≤ x2 ∧ x2 < 6) ∧ ((0 ≤ x3 ∧ x3 < 13) ∧ ((0 ≤ x4 ∧ x4 < 13) ∧ ((0 ≤ x2 + 1 ∧ x2 + 1 < 6) ∧ ((0 ≤ x3 - x4 ∧ x3 - x4 < 13) ∧ ((-2147483648 ≤ (M 28 x2 x4) + (M 30 (x2 + 1) (x3 - x4)) ∧ (M 28 x2 x4) + (M 30 (x2 + 1) (x3 - x4)) ≤ 2147483647) ∧ ((-2147483648 ≤ max (M 30 x2 x3) ((M 28 x2 x4) + (M 30 (x2 + 1) (x3 - x4))) ∧ max (M 30 x2 x3) ((M 28 x2 x4) + (M 30 (x2 + 1) (x3 - x4))) ≤ 2147483647) ∧ (G3 E YX5_reckonMostFrom Q 54 [(0, vR 26 0), (1, vI x1), (2, vI x2), (3, vI x3), (4, vI (x4 + 1))] [] (up3 M 30 x2 x3 (max (M 30 x2 x3) ((M 28 x2 x4) + (M 30 (x2 + 1) (x3 - x4))))))))))))))))) :
    G3 E YX5_reckonMostFrom Q 54 [(0, vR 26 0), (1, vI x1), (2, vI x2), (3, vI x3), (4, vI x4)] [] M := by
  refine g3_rm fun hM => ?_
  refine g3_iload 4 dX5_reckonMostFrom_54 rfl (g3_iload_n 3 dX5_reckonMostFrom_56 rfl rfl (g3_icmp_gt (tgt := 93) dX5_reckonMostFrom_57 rfl h.1 h.2.1 (fun c => ?_) (fun c => ?_)))
  · have h1 := h; have h := h1.2.2.1 c
    have o1 := h1.1
    have o2 := h1.2.1
    refine g3_iinc (lv' := [(3, vI (x3 + 1)), (0, vR 26 0), (1, vI x1), (2, vI x2), (4, vI x4)]) 3 dX5_reckonMostFrom_93 rfl (z3 rfl) rfl (g3_goto (tgt := 37) dX5_reckonMostFrom_96 rfl (g3_sub [1, 2, 3, 0] rfl h))
  · have h1 := h; have h := h1.2.2.2 c
    have o1 := h1.1
    have o2 := h1.2.1
    refine g3_aload_n 0 dX5_reckonMostFrom_60 rfl rfl (g3_getR0 (t := 29) dX5_reckonMostFrom_61 flX5_16 rfl (z3 rfl) (g3_iload_n 2 dX5_reckonMostFrom_64 rfl rfl (g3_aald dX5_reckonMostFrom_65 aq_29 h.1 (g3_iload_n 3 dX5_reckonMostFrom_66 rfl rfl (g3_aload_n 0 dX5_reckonMostFrom_67 rfl rfl (g3_getR0 (t := 29) dX5_reckonMostFrom_68 flX5_16 rfl (z3 rfl) (g3_iload_n 2 dX5_reckonMostFrom_71 rfl rfl (g3_aald dX5_reckonMostFrom_72 aq_29 h.1 (g3_iload_n 3 dX5_reckonMostFrom_73 rfl rfl (g3_iald dX5_reckonMostFrom_74 ar_30 h.1 h.2.1 (g3_aload_n 0 dX5_reckonMostFrom_75 rfl rfl (g3_iload_n 2 dX5_reckonMostFrom_76 rfl rfl (g3_iload_n 3 dX5_reckonMostFrom_77 rfl rfl (g3_iload 4 dX5_reckonMostFrom_78 rfl (g3_cV3 dX5_reckonMostFrom_80 myX5_with mlX5_90 (z3 rfl) ob_26 (z3 rfl) (z3 rfl) (c3_in rfl rfl (z3 rfl) (g3_aload_n 0 dX5_with_0 rfl rfl (g3_getR0 (t := 27) dX5_with_1 flX5_13 rfl (z3 rfl) (g3_iload_n 1 dX5_with_4 rfl rfl (g3_aald dX5_with_5 aq_27 h.1 (g3_iload_n 3 dX5_with_6 rfl rfl (g3_iald dX5_with_7 ar_28 h.1 h.2.2.1 (g3_aload_n 0 dX5_with_8 rfl rfl (g3_getR0 (t := 29) dX5_with_9 flX5_16 rfl (z3 rfl) (g3_iload_n 1 dX5_with_12 rfl rfl (g3_iconst dX5_with_13 (g3_iadd dX5_with_14 (g3_aald dX5_with_15 aq_29 h.2.2.2.1 (g3_iload_n 2 dX5_with_16 rfl rfl (g3_iload_n 3 dX5_with_17 rfl rfl (g3_isub dX5_with_18 (g3_iald dX5_with_19 ar_30 h.2.2.2.1 h.2.2.2.2.1 (g3_iadd dX5_with_20 (g3_ireturn dX5_with_21 rfl (g3_r1 (g3_max dX5_reckonMostFrom_83 mlX5_94 (z3 rfl) (z3 rfl) (hM 30 x2 x3) h.2.2.2.2.2.1 (g3_iast dX5_reckonMostFrom_86 ar_30 h.1 h.2.1 h.2.2.2.2.2.2.1 (g3_iinc (lv' := [(4, vI (x4 + 1)), (0, vR 26 0), (1, vI x1), (2, vI x2), (3, vI x3)]) 4 dX5_reckonMostFrom_87 rfl (z3 rfl) rfl (g3_goto (tgt := 54) dX5_reckonMostFrom_90 rfl (g3_sub [1, 2, 3, 4, 0] rfl h.2.2.2.2.2.2.2))))))))))))))))))))))))))))))))))))))))
set_option maxRecDepth 20000 in
set_option maxHeartbeats 200000 in
theorem sX5_lessonsFor {E : E3} {Q : Q3} {M : M3} {x1 x2 : Int}
    (h : G3 E YX5_lessonsFor Q 5 [(0, vR 26 0), (1, vI x1), (3, vI x2), (4, vI 0)] [] M) :
    C3 E YX5_lessonsFor [vR 26 0, vI x1, vI x2] M Q := by
  refine c3_in rfl rfl (z3 rfl) (g3_rm fun hM => ?_)
  refine g3_iload_n 2 dX5_lessonsFor_0 rfl rfl (g3_istore_n (lv' := [(3, vI x2), (0, vR 26 0), (1, vI x1), (2, vI x2)]) dX5_lessonsFor_1 rfl (z3 rfl) rfl (g3_iconst dX5_lessonsFor_2 (g3_istore (lv' := [(4, vI 0), (3, vI x2), (0, vR 26 0), (1, vI x1), (2, vI x2)]) dX5_lessonsFor_3 (z3 rfl) rfl (g3_sub [2, 3, 1, 0] rfl h))))
set_option maxRecDepth 20000 in
set_option maxHeartbeats 200000 in
theorem sX5_lessonsFor_5 {E : E3} {Q : Q3} {M : M3} {x1 : Int} {x3 : Int} {x4 : Int}
    (h : (-2147483648 ≤ x4 ∧ x4 ≤ 2147483647) ∧ ((5 ≤ x4 → (Q (some (vI x3)) M)) ∧ (x4 < 5 → (G3 E YX5_lessonsFor Q 14 [(0, vR 26 0), (1, vI x1), (3, vI x3), (4, vI x4), (5, vI x3)] [] M)))) :
    G3 E YX5_lessonsFor Q 5 [(0, vR 26 0), (1, vI x1), (3, vI x3), (4, vI x4)] [] M := by
  refine g3_rm fun hM => ?_
  refine g3_iload 3 dX5_lessonsFor_5 rfl (g3_iconst dX5_lessonsFor_7 (g3_icmp_ge (tgt := 66) dX5_lessonsFor_8 rfl h.1 (z3 rfl) (fun c => ?_) (fun c => ?_)))
  · have h1 := h; have h := h1.2.1 c
    have o1 := h1.1
    exact g3_iload_n 2 dX5_lessonsFor_66 rfl rfl (g3_ireturn dX5_lessonsFor_67 rfl h)
  · have h1 := h; have h := h1.2.2 c
    have o1 := h1.1
    refine g3_iload_n 2 dX5_lessonsFor_11 rfl rfl (g3_istore (lv' := [(5, vI x3), (0, vR 26 0), (1, vI x1), (3, vI x3), (4, vI x4)]) dX5_lessonsFor_12 (z3 rfl) rfl (g3_sub [1, 2, 3, 4, 0] rfl h))
set_option maxRecDepth 20000 in
set_option maxHeartbeats 200000 in
theorem sX5_lessonsFor_14 {E : E3} {Q : Q3} {M : M3} {x1 : Int} {x3 : Int} {x4 : Int} {x5 : Int}
    (h : (-2147483648 ≤ x5 ∧ x5 ≤ 2147483647) ∧ ((x5 ≤ 0 → ((-2147483648 ≤ x4 ∧ x4 ≤ 2147483647) ∧ ((-2147483648 ≤ x1 ∧ x1 ≤ 2147483647) ∧ ((x4 ≠ x1 → (G3 E YX5_lessonsFor Q 5 [(0, vR 26 0), (1, vI x1), (3, vI (x3 - x5)), (4, vI (x4 + 1))] [] M)) ∧ (x4 = x1 → (Q (some (vI x5)) M)))))) ∧ (0 < x5 → ((0 ≤ x4 ∧ x4 < 6) ∧ ((0 ≤ x5 ∧ x5 < 13) ∧ ((0 ≤ x4 + 1 ∧ x4 + 1 < 6) ∧ ((0 ≤ x3 - x5 ∧ x3 - x5 < 13) ∧ ((0 ≤ x3 ∧ x3 < 13) ∧ ((-2147483648 ≤ (M 28 x4 x5) + (M 30 (x4 + 1) (x3 - x5)) ∧ (M 28 x4 x5) + (M 30 (x4 + 1) (x3 - x5)) ≤ 2147483647) ∧ ((M 30 x4 x3 ≤ (M 28 x4 x5) + (M 30 (x4 + 1) (x3 - x5)) → ((-2147483648 ≤ x4 ∧ x4 ≤ 2147483647) ∧ ((-2147483648 ≤ x1 ∧ x1 ≤ 2147483647) ∧ ((x4 ≠ x1 → (G3 E YX5_lessonsFor Q 5 [(0, vR 26 0), (1, vI x1), (3, vI (x3 - x5)), (4, vI (x4 + 1))] [] M)) ∧ (x4 = x1 → (Q (some (vI x5)) M)))))) ∧ ((M 28 x4 x5) + (M 30 (x4 + 1) (x3 - x5)) < M 30 x4 x3 → (G3 E YX5_lessonsFor Q 14 [(0, vR 26 0), (1, vI x1), (3, vI x3), (4, vI x4), (5, vI (x5 + (-1)))] [] M)))))))))))) :
    G3 E YX5_lessonsFor Q 14 [(0, vR 26 0), (1, vI x1), (3, vI x3), (4, vI x4), (5, vI x5)] [] M := by
  refine g3_rm fun hM => ?_
  refine g3_iload 4 dX5_lessonsFor_14 rfl (g3_if_le (tgt := 46) dX5_lessonsFor_16 rfl h.1 (fun c => ?_) (fun c => ?_))
  · have h1 := h; have h := h1.2.1 c
    have o1 := h1.1
    refine g3_iload 3 dX5_lessonsFor_46 rfl (g3_iload_n 1 dX5_lessonsFor_48 rfl rfl (g3_icmp_ne (tgt := 55) dX5_lessonsFor_49 rfl h.1 h.2.1 (fun c => ?_) (fun c => ?_)))
    · have h1 := h; have h := h1.2.2.1 c
      have o2 := h1.1
      have o3 := h1.2.1
      refine g3_iload_n 2 dX5_lessonsFor_55 rfl rfl (g3_iload 4 dX5_lessonsFor_56 rfl (g3_isub dX5_lessonsFor_58 (g3_istore_n (lv' := [(3, vI (x3 - x5)), (0, vR 26 0), (1, vI x1), (4, vI x4), (5, vI x5)]) dX5_lessonsFor_59 rfl (z3 rfl) rfl (g3_iinc (lv' := [(4, vI (x4 + 1)), (3, vI (x3 - x5)), (0, vR 26 0), (1, vI x1), (5, vI x5)]) 3 dX5_lessonsFor_60 rfl (z3 rfl) rfl (g3_goto (tgt := 5) dX5_lessonsFor_63 rfl (g3_sub [2, 3, 1, 0] rfl h))))))
    · have h1 := h; have h := h1.2.2.2 c
      have o2 := h1.1
      have o3 := h1.2.1
      exact g3_iload 4 dX5_lessonsFor_52 rfl (g3_ireturn dX5_lessonsFor_54 rfl h)
  · have h1 := h; have h := h1.2.2 c
    have o1 := h1.1
    refine g3_aload_n 0 dX5_lessonsFor_19 rfl rfl (g3_iload 3 dX5_lessonsFor_20 rfl (g3_iload_n 2 dX5_lessonsFor_22 rfl rfl (g3_iload 4 dX5_lessonsFor_23 rfl (g3_cV3 dX5_lessonsFor_25 myX5_with mlX5_90 (z3 rfl) ob_26 (z3 rfl) (z3 rfl) (c3_in rfl rfl (z3 rfl) (g3_aload_n 0 dX5_with_0 rfl rfl (g3_getR0 (t := 27) dX5_with_1 flX5_13 rfl (z3 rfl) (g3_iload_n 1 dX5_with_4 rfl rfl (g3_aald dX5_with_5 aq_27 h.1 (g3_iload_n 3 dX5_with_6 rfl rfl (g3_iald dX5_with_7 ar_28 h.1 h.2.1 (g3_aload_n 0 dX5_with_8 rfl rfl (g3_getR0 (t := 29) dX5_with_9 flX5_16 rfl (z3 rfl) (g3_iload_n 1 dX5_with_12 rfl rfl (g3_iconst dX5_with_13 (g3_iadd dX5_with_14 (g3_aald dX5_with_15 aq_29 h.2.2.1 (g3_iload_n 2 dX5_with_16 rfl rfl (g3_iload_n 3 dX5_with_17 rfl rfl (g3_isub dX5_with_18 (g3_iald dX5_with_19 ar_30 h.2.2.1 h.2.2.2.1 (g3_iadd dX5_with_20 (g3_ireturn dX5_with_21 rfl (g3_r1 (g3_aload_n 0 dX5_lessonsFor_28 rfl rfl (g3_getR0 (t := 29) dX5_lessonsFor_29 flX5_16 rfl (z3 rfl) (g3_iload 3 dX5_lessonsFor_32 rfl (g3_aald dX5_lessonsFor_34 aq_29 h.1 (g3_iload_n 2 dX5_lessonsFor_35 rfl rfl (g3_iald dX5_lessonsFor_36 ar_30 h.1 h.2.2.2.2.1 (g3_icmp_ge (tgt := 46) dX5_lessonsFor_37 rfl h.2.2.2.2.2.1 (hM 30 x4 x3) (fun c => ?_) (fun c => ?_))))))))))))))))))))))))))))))))
    · have h1 := h; have h := h1.2.2.2.2.2.2.1 c
      have o4 := h1.1
      have o5 := h1.2.1
      have o6 := h1.2.2.1
      have o7 := h1.2.2.2.1
      have o8 := h1.2.2.2.2.1
      have o9 := h1.2.2.2.2.2.1
      refine g3_iload 3 dX5_lessonsFor_46 rfl (g3_iload_n 1 dX5_lessonsFor_48 rfl rfl (g3_icmp_ne (tgt := 55) dX5_lessonsFor_49 rfl h.1 h.2.1 (fun c => ?_) (fun c => ?_)))
      · have h1 := h; have h := h1.2.2.1 c
        have o10 := h1.1
        have o11 := h1.2.1
        refine g3_iload_n 2 dX5_lessonsFor_55 rfl rfl (g3_iload 4 dX5_lessonsFor_56 rfl (g3_isub dX5_lessonsFor_58 (g3_istore_n (lv' := [(3, vI (x3 - x5)), (0, vR 26 0), (1, vI x1), (4, vI x4), (5, vI x5)]) dX5_lessonsFor_59 rfl (z3 rfl) rfl (g3_iinc (lv' := [(4, vI (x4 + 1)), (3, vI (x3 - x5)), (0, vR 26 0), (1, vI x1), (5, vI x5)]) 3 dX5_lessonsFor_60 rfl (z3 rfl) rfl (g3_goto (tgt := 5) dX5_lessonsFor_63 rfl (g3_sub [2, 3, 1, 0] rfl h))))))
      · have h1 := h; have h := h1.2.2.2 c
        have o10 := h1.1
        have o11 := h1.2.1
        exact g3_iload 4 dX5_lessonsFor_52 rfl (g3_ireturn dX5_lessonsFor_54 rfl h)
    · have h1 := h; have h := h1.2.2.2.2.2.2.2 c
      have o4 := h1.1
      have o5 := h1.2.1
      have o6 := h1.2.2.1
      have o7 := h1.2.2.2.1
      have o8 := h1.2.2.2.2.1
      have o9 := h1.2.2.2.2.2.1
      refine g3_iinc (lv' := [(5, vI (x5 + (-1))), (0, vR 26 0), (1, vI x1), (3, vI x3), (4, vI x4)]) 4 dX5_lessonsFor_40 rfl (z3 rfl) rfl (g3_goto (tgt := 14) dX5_lessonsFor_43 rfl (g3_sub [1, 2, 3, 4, 0] rfl h))
set_option maxRecDepth 20000 in
set_option maxHeartbeats 200000 in
theorem sX12_rollOf {E : E3} {Q : Q3} {M : M3} {x1 x2 x3 : Int}
    (h : G3 E YX12_rollOf Q 6 [(0, vR 44 0), (1, vI x1), (2, vI x2), (3, vI x3), (4, vI 0), (5, vI 0)] [] M) :
    C3 E YX12_rollOf [vR 44 0, vI x1, vI x2, vI x3] M Q := by
  refine c3_in rfl rfl (z3 rfl) (g3_rm fun hM => ?_)
  refine g3_iconst dX12_rollOf_0 (g3_istore (lv' := [(4, vI 0), (0, vR 44 0), (1, vI x1), (2, vI x2), (3, vI x3)]) dX12_rollOf_1 (z3 rfl) rfl (g3_iconst dX12_rollOf_3 (g3_istore (lv' := [(5, vI 0), (4, vI 0), (0, vR 44 0), (1, vI x1), (2, vI x2), (3, vI x3)]) dX12_rollOf_4 (z3 rfl) rfl (g3_sub [2, 3, 4, 5, 1, 0] rfl h))))
set_option maxRecDepth 20000 in
set_option maxHeartbeats 200000 in
theorem sX12_rollOf_6 {E : E3} {Q : Q3} {M : M3} {x1 : Int} {x2 : Int} {x3 : Int} {x4 : Int} {x5 : Int}
    (h : (-2147483648 ≤ x5 ∧ x5 ≤ 2147483647) ∧ ((M 44 0 1 ≤ x5 → (Q (some (vI x4)) M)) ∧ (x5 < M 44 0 1 → ((0 ≤ x5 ∧ x5 < 48) ∧ ((-2147483648 ≤ x3 ∧ x3 ≤ 2147483647) ∧ ((M 50 0 x5 ≠ x3 → (G3 E YX12_rollOf Q 6 [(0, vR 44 0), (1, vI x1), (2, vI x2), (3, vI x3), (4, vI (x4 + 0)), (5, vI (x5 + 1))] [] M)) ∧ (M 50 0 x5 = x3 → ((-2147483648 ≤ x1 ∧ x1 ≤ 2147483647) ∧ ((x1 = (-1) → ((-2147483648 ≤ x2 ∧ x2 ≤ 2147483647) ∧ ((x2 = (-1) → (G3 E YX12_rollOf Q 6 [(0, vR 44 0), (1, vI x1), (2, vI x2), (3, vI x3), (4, vI (x4 + 1)), (5, vI (x5 + 1))] [] M)) ∧ (x2 ≠ (-1) → ((M 46 0 x5 ≠ x2 → (G3 E YX12_rollOf Q 6 [(0, vR 44 0), (1, vI x1), (2, vI x2), (3, vI x3), (4, vI (x4 + 0)), (5, vI (x5 + 1))] [] M)) ∧ (M 46 0 x5 = x2 → (G3 E YX12_rollOf Q 6 [(0, vR 44 0), (1, vI x1), (2, vI x2), (3, vI x3), (4, vI (x4 + 1)), (5, vI (x5 + 1))] [] M))))))) ∧ (x1 ≠ (-1) → ((M 45 0 x5 ≠ x1 → (G3 E YX12_rollOf Q 6 [(0, vR 44 0), (1, vI x1), (2, vI x2), (3, vI x3), (4, vI (x4 + 0)), (5, vI (x5 + 1))] [] M)) ∧ (M 45 0 x5 = x1 → ((-2147483648 ≤ x2 ∧ x2 ≤ 2147483647) ∧ ((x2 = (-1) → (G3 E YX12_rollOf Q 6 [(0, vR 44 0), (1, vI x1), (2, vI x2), (3, vI x3), (4, vI (x4 + 1)), (5, vI (x5 + 1))] [] M)) ∧ (x2 ≠ (-1) → ((M 46 0 x5 ≠ x2 → (G3 E YX12_rollOf Q 6 [(0, vR 44 0), (1, vI x1), (2, vI x2), (3, vI x3), (4, vI (x4 + 0)), (5, vI (x5 + 1))] [] M)) ∧ (M 46 0 x5 = x2 → (G3 E YX12_rollOf Q 6 [(0, vR 44 0), (1, vI x1), (2, vI x2), (3, vI x3), (4, vI (x4 + 1)), (5, vI (x5 + 1))] [] M)))))))))))))))))) :
    G3 E YX12_rollOf Q 6 [(0, vR 44 0), (1, vI x1), (2, vI x2), (3, vI x3), (4, vI x4), (5, vI x5)] [] M := by
  refine g3_rm fun hM => ?_
  refine g3_iload 5 dX12_rollOf_6 rfl (g3_aload_n 0 dX12_rollOf_8 rfl rfl (g3_getI (t := 0) dX12_rollOf_9 flX12_148 (z3 rfl) (z3 rfl) (g3_icmp_ge (tgt := 74) dX12_rollOf_12 rfl h.1 (hM 44 0 1) (fun c => ?_) (fun c => ?_))))
  · have h1 := h; have h := h1.2.1 c
    have o1 := h1.1
    exact g3_iload 4 dX12_rollOf_74 rfl (g3_ireturn dX12_rollOf_76 rfl h)
  · have h1 := h; have h := h1.2.2 c
    have o1 := h1.1
    refine g3_iload 4 dX12_rollOf_15 rfl (g3_aload_n 0 dX12_rollOf_17 rfl rfl (g3_getR0 (t := 50) dX12_rollOf_18 flX12_25 rfl (z3 rfl) (g3_iload 5 dX12_rollOf_21 rfl (g3_iald dX12_rollOf_23 ar_50 (z3 rfl) h.1 (g3_iload_n 3 dX12_rollOf_24 rfl rfl (g3_icmp_ne (tgt := 64) dX12_rollOf_25 rfl (hM 50 0 x5) h.2.1 (fun c => ?_) (fun c => ?_)))))))
    · have h1 := h; have h := h1.2.2.1 c
      have o2 := h1.1
      have o3 := h1.2.1
      refine g3_iconst dX12_rollOf_64 (g3_iadd dX12_rollOf_65 (g3_istore (lv' := [(4, vI (x4 + 0)), (0, vR 44 0), (1, vI x1), (2, vI x2), (3, vI x3), (5, vI x5)]) dX12_rollOf_66 (z3 rfl) rfl (g3_iinc (lv' := [(5, vI (x5 + 1)), (4, vI (x4 + 0)), (0, vR 44 0), (1, vI x1), (2, vI x2), (3, vI x3)]) 5 dX12_rollOf_68 rfl (z3 rfl) rfl (g3_goto (tgt := 6) dX12_rollOf_71 rfl (g3_sub [2, 3, 4, 5, 1, 0] rfl h)))))
    · have h1 := h; have h := h1.2.2.2 c
      have o2 := h1.1
      have o3 := h1.2.1
      refine g3_iload_n 1 dX12_rollOf_28 rfl rfl (g3_iconst dX12_rollOf_29 (g3_icmp_eq (tgt := 44) dX12_rollOf_30 rfl h.1 (z3 rfl) (fun c => ?_) (fun c => ?_)))
      · have h1 := h; have h := h1.2.1 c
        have o4 := h1.1
        refine g3_iload_n 2 dX12_rollOf_44 rfl rfl (g3_iconst dX12_rollOf_45 (g3_icmp_eq (tgt := 60) dX12_rollOf_46 rfl h.1 (z3 rfl) (fun c => ?_) (fun c => ?_)))
        · have h1 := h; have h := h1.2.1 c
          have o5 := h1.1
          refine g3_iconst dX12_rollOf_60 (g3_goto (tgt := 65) dX12_rollOf_61 rfl (g3_iadd dX12_rollOf_65 (g3_istore (lv' := [(4, vI (x4 + 1)), (0, vR 44 0), (1, vI x1), (2, vI x2), (3, vI x3), (5, vI x5)]) dX12_rollOf_66 (z3 rfl) rfl (g3_iinc (lv' := [(5, vI (x5 + 1)), (4, vI (x4 + 1)), (0, vR 44 0), (1, vI x1), (2, vI x2), (3, vI x3)]) 5 dX12_rollOf_68 rfl (z3 rfl) rfl (g3_goto (tgt := 6) dX12_rollOf_71 rfl (g3_sub [2, 3, 4, 5, 1, 0] rfl h))))))
        · have h1 := h; have h := h1.2.2 c
          have o5 := h1.1
          refine g3_aload_n 0 dX12_rollOf_49 rfl rfl (g3_getR0 (t := 46) dX12_rollOf_50 flX12_13 rfl (z3 rfl) (g3_iload 5 dX12_rollOf_53 rfl (g3_iald dX12_rollOf_55 ar_46 (z3 rfl) o2 (g3_iload_n 2 dX12_rollOf_56 rfl rfl (g3_icmp_ne (tgt := 64) dX12_rollOf_57 rfl (hM 46 0 x5) o5 (fun c => ?_) (fun c => ?_))))))
          · have h1 := h; have h := h1.1 c
            refine g3_iconst dX12_rollOf_64 (g3_iadd dX12_rollOf_65 (g3_istore (lv' := [(4, vI (x4 + 0)), (0, vR 44 0), (1, vI x1), (2, vI x2), (3, vI x3), (5, vI x5)]) dX12_rollOf_66 (z3 rfl) rfl (g3_iinc (lv' := [(5, vI (x5 + 1)), (4, vI (x4 + 0)), (0, vR 44 0), (1, vI x1), (2, vI x2), (3, vI x3)]) 5 dX12_rollOf_68 rfl (z3 rfl) rfl (g3_goto (tgt := 6) dX12_rollOf_71 rfl (g3_sub [2, 3, 4, 5, 1, 0] rfl h)))))
          · have h1 := h; have h := h1.2 c
            refine g3_iconst dX12_rollOf_60 (g3_goto (tgt := 65) dX12_rollOf_61 rfl (g3_iadd dX12_rollOf_65 (g3_istore (lv' := [(4, vI (x4 + 1)), (0, vR 44 0), (1, vI x1), (2, vI x2), (3, vI x3), (5, vI x5)]) dX12_rollOf_66 (z3 rfl) rfl (g3_iinc (lv' := [(5, vI (x5 + 1)), (4, vI (x4 + 1)), (0, vR 44 0), (1, vI x1), (2, vI x2), (3, vI x3)]) 5 dX12_rollOf_68 rfl (z3 rfl) rfl (g3_goto (tgt := 6) dX12_rollOf_71 rfl (g3_sub [2, 3, 4, 5, 1, 0] rfl h))))))
      · have h1 := h; have h := h1.2.2 c
        have o4 := h1.1
        refine g3_aload_n 0 dX12_rollOf_33 rfl rfl (g3_getR0 (t := 45) dX12_rollOf_34 flX12_7 rfl (z3 rfl) (g3_iload 5 dX12_rollOf_37 rfl (g3_iald dX12_rollOf_39 ar_45 (z3 rfl) o2 (g3_iload_n 1 dX12_rollOf_40 rfl rfl (g3_icmp_ne (tgt := 64) dX12_rollOf_41 rfl (hM 45 0 x5) o4 (fun c => ?_) (fun c => ?_))))))
        · have h1 := h; have h := h1.1 c
          refine g3_iconst dX12_rollOf_64 (g3_iadd dX12_rollOf_65 (g3_istore (lv' := [(4, vI (x4 + 0)), (0, vR 44 0), (1, vI x1), (2, vI x2), (3, vI x3), (5, vI x5)]) dX12_rollOf_66 (z3 rfl) rfl (g3_iinc (lv' := [(5, vI (x5 + 1)), (4, vI (x4 + 0)), (0, vR 44 0), (1, vI x1), (2, vI x2), (3, vI x3)]) 5 dX12_rollOf_68 rfl (z3 rfl) rfl (g3_goto (tgt := 6) dX12_rollOf_71 rfl (g3_sub [2, 3, 4, 5, 1, 0] rfl h)))))
        · have h1 := h; have h := h1.2 c
          refine g3_iload_n 2 dX12_rollOf_44 rfl rfl (g3_iconst dX12_rollOf_45 (g3_icmp_eq (tgt := 60) dX12_rollOf_46 rfl h.1 (z3 rfl) (fun c => ?_) (fun c => ?_)))
          · have h1 := h; have h := h1.2.1 c
            have o6 := h1.1
            refine g3_iconst dX12_rollOf_60 (g3_goto (tgt := 65) dX12_rollOf_61 rfl (g3_iadd dX12_rollOf_65 (g3_istore (lv' := [(4, vI (x4 + 1)), (0, vR 44 0), (1, vI x1), (2, vI x2), (3, vI x3), (5, vI x5)]) dX12_rollOf_66 (z3 rfl) rfl (g3_iinc (lv' := [(5, vI (x5 + 1)), (4, vI (x4 + 1)), (0, vR 44 0), (1, vI x1), (2, vI x2), (3, vI x3)]) 5 dX12_rollOf_68 rfl (z3 rfl) rfl (g3_goto (tgt := 6) dX12_rollOf_71 rfl (g3_sub [2, 3, 4, 5, 1, 0] rfl h))))))
          · have h1 := h; have h := h1.2.2 c
            have o6 := h1.1
            refine g3_aload_n 0 dX12_rollOf_49 rfl rfl (g3_getR0 (t := 46) dX12_rollOf_50 flX12_13 rfl (z3 rfl) (g3_iload 5 dX12_rollOf_53 rfl (g3_iald dX12_rollOf_55 ar_46 (z3 rfl) o2 (g3_iload_n 2 dX12_rollOf_56 rfl rfl (g3_icmp_ne (tgt := 64) dX12_rollOf_57 rfl (hM 46 0 x5) o6 (fun c => ?_) (fun c => ?_))))))
            · have h1 := h; have h := h1.1 c
              refine g3_iconst dX12_rollOf_64 (g3_iadd dX12_rollOf_65 (g3_istore (lv' := [(4, vI (x4 + 0)), (0, vR 44 0), (1, vI x1), (2, vI x2), (3, vI x3), (5, vI x5)]) dX12_rollOf_66 (z3 rfl) rfl (g3_iinc (lv' := [(5, vI (x5 + 1)), (4, vI (x4 + 0)), (0, vR 44 0), (1, vI x1), (2, vI x2), (3, vI x3)]) 5 dX12_rollOf_68 rfl (z3 rfl) rfl (g3_goto (tgt := 6) dX12_rollOf_71 rfl (g3_sub [2, 3, 4, 5, 1, 0] rfl h)))))
            · have h1 := h; have h := h1.2 c
              refine g3_iconst dX12_rollOf_60 (g3_goto (tgt := 65) dX12_rollOf_61 rfl (g3_iadd dX12_rollOf_65 (g3_istore (lv' := [(4, vI (x4 + 1)), (0, vR 44 0), (1, vI x1), (2, vI x2), (3, vI x3), (5, vI x5)]) dX12_rollOf_66 (z3 rfl) rfl (g3_iinc (lv' := [(5, vI (x5 + 1)), (4, vI (x4 + 1)), (0, vR 44 0), (1, vI x1), (2, vI x2), (3, vI x3)]) 5 dX12_rollOf_68 rfl (z3 rfl) rfl (g3_goto (tgt := 6) dX12_rollOf_71 rfl (g3_sub [2, 3, 4, 5, 1, 0] rfl h))))))
set_option maxRecDepth 20000 in
set_option maxHeartbeats 200000 in
theorem sX12_byteAt {E : E3} {Q : Q3} {M : M3} {x1 : Int}
    (h : (-2147483648 ≤ x1 ∧ x1 ≤ 2147483647) ∧ ((M 44 0 9 ≤ x1 → (Q (some (vI (-1))) M)) ∧ (x1 < M 44 0 9 → ((0 ≤ x1 ∧ x1 < 200) ∧ (Q (some (vI (M 52 0 x1))) M))))) :
    C3 E YX12_byteAt [vR 44 0, vI x1] M Q := by
  refine c3_in rfl rfl (z3 rfl) (g3_rm fun hM => ?_)
  refine g3_iload_n 1 dX12_byteAt_0 rfl rfl (g3_aload_n 0 dX12_byteAt_1 rfl rfl (g3_getI (t := 0) dX12_byteAt_2 flX12_178 (z3 rfl) (z3 rfl) (g3_icmp_ge (tgt := 17) dX12_byteAt_5 rfl h.1 (hM 44 0 9) (fun c => ?_) (fun c => ?_))))
  · have h1 := h; have h := h1.2.1 c
    have o1 := h1.1
    exact g3_iconst dX12_byteAt_17 (g3_ireturn dX12_byteAt_18 rfl h)
  · have h1 := h; have h := h1.2.2 c
    have o1 := h1.1
    exact g3_aload_n 0 dX12_byteAt_8 rfl rfl (g3_getR0 (t := 52) dX12_byteAt_9 flX12_31 rfl (z3 rfl) (g3_iload_n 1 dX12_byteAt_12 rfl rfl (g3_iald dX12_byteAt_13 ar_52 (z3 rfl) h.1 (g3_goto (tgt := 18) dX12_byteAt_14 rfl (g3_ireturn dX12_byteAt_18 rfl h.2)))))
set_option maxRecDepth 20000 in
set_option maxHeartbeats 200000 in
theorem sX12_placeOf {E : E3} {Q : Q3} {M : M3} {x1 : Int}
    (h : G3 E YX12_placeOf Q 2 [(0, vR 44 0), (1, vI x1), (2, vI 0)] [] M) :
    C3 E YX12_placeOf [vR 44 0, vI x1] M Q := by
  refine c3_in rfl rfl (z3 rfl) (g3_rm fun hM => ?_)
  refine g3_iconst dX12_placeOf_0 (g3_istore_n (lv' := [(2, vI 0), (0, vR 44 0), (1, vI x1)]) dX12_placeOf_1 rfl (z3 rfl) rfl (g3_sub [1, 2, 0] rfl h))
set_option maxRecDepth 20000 in
set_option maxHeartbeats 200000 in
theorem sX12_placeOf_2 {E : E3} {Q : Q3} {M : M3} {x1 : Int} {x2 : Int}
    (h : (-2147483648 ≤ x2 ∧ x2 ≤ 2147483647) ∧ ((M 44 0 32 ≤ x2 → (Q (some (vI (-1))) M)) ∧ (x2 < M 44 0 32 → ((0 ≤ x2 ∧ x2 < 24) ∧ ((-2147483648 ≤ x1 ∧ x1 ≤ 2147483647) ∧ ((M 65 0 x2 ≠ x1 → (G3 E YX12_placeOf Q 2 [(0, vR 44 0), (1, vI x1), (2, vI (x2 + 1))] [] M)) ∧ (M 65 0 x2 = x1 → (Q (some (vI x2)) M)))))))) :
    G3 E YX12_placeOf Q 2 [(0, vR 44 0), (1, vI x1), (2, vI x2)] [] M := by
  refine g3_rm fun hM => ?_
  refine g3_iload_n 2 dX12_placeOf_2 rfl rfl (g3_aload_n 0 dX12_placeOf_3 rfl rfl (g3_getI (t := 0) dX12_placeOf_4 flX12_281 (z3 rfl) (z3 rfl) (g3_icmp_ge (tgt := 28) dX12_placeOf_7 rfl h.1 (hM 44 0 32) (fun c => ?_) (fun c => ?_))))
  · have h1 := h; have h := h1.2.1 c
    have o1 := h1.1
    exact g3_iconst dX12_placeOf_28 (g3_ireturn dX12_placeOf_29 rfl h)
  · have h1 := h; have h := h1.2.2 c
    have o1 := h1.1
    refine g3_aload_n 0 dX12_placeOf_10 rfl rfl (g3_getR0 (t := 65) dX12_placeOf_11 flX12_83 rfl (z3 rfl) (g3_iload_n 2 dX12_placeOf_14 rfl rfl (g3_iald dX12_placeOf_15 ar_65 (z3 rfl) h.1 (g3_iload_n 1 dX12_placeOf_16 rfl rfl (g3_icmp_ne (tgt := 22) dX12_placeOf_17 rfl (hM 65 0 x2) h.2.1 (fun c => ?_) (fun c => ?_))))))
    · have h1 := h; have h := h1.2.2.1 c
      have o2 := h1.1
      have o3 := h1.2.1
      refine g3_iinc (lv' := [(2, vI (x2 + 1)), (0, vR 44 0), (1, vI x1)]) 2 dX12_placeOf_22 rfl (z3 rfl) rfl (g3_goto (tgt := 2) dX12_placeOf_25 rfl (g3_sub [1, 2, 0] rfl h))
    · have h1 := h; have h := h1.2.2.2 c
      have o2 := h1.1
      have o3 := h1.2.1
      exact g3_iload_n 2 dX12_placeOf_20 rfl rfl (g3_ireturn dX12_placeOf_21 rfl h)
set_option maxRecDepth 20000 in
set_option maxHeartbeats 200000 in
theorem sX12_nextIn {E : E3} {Q : Q3} {M : M3} {x1 : Int}
    (h : G3 E YX12_nextIn Q 4 [(0, vR 44 0), (1, vI x1), (2, vI (-1)), (3, vI 0)] [] M) :
    C3 E YX12_nextIn [vR 44 0, vI x1] M Q := by
  refine c3_in rfl rfl (z3 rfl) (g3_rm fun hM => ?_)
  refine g3_iconst dX12_nextIn_0 (g3_istore_n (lv' := [(2, vI (-1)), (0, vR 44 0), (1, vI x1)]) dX12_nextIn_1 rfl (z3 rfl) rfl (g3_iconst dX12_nextIn_2 (g3_istore_n (lv' := [(3, vI 0), (2, vI (-1)), (0, vR 44 0), (1, vI x1)]) dX12_nextIn_3 rfl (z3 rfl) rfl (g3_sub [2, 3, 1, 0] rfl h))))
set_option maxRecDepth 20000 in
set_option maxHeartbeats 200000 in
theorem sX12_nextIn_4 {E : E3} {Q : Q3} {M : M3} {x1 : Int} {x2 : Int} {x3 : Int}
    (h : (-2147483648 ≤ x3 ∧ x3 ≤ 2147483647) ∧ ((M 44 0 32 ≤ x3 → (Q (some (vI x2)) M)) ∧ (x3 < M 44 0 32 → ((-2147483648 ≤ x1 ∧ x1 ≤ 2147483647) ∧ ((x1 = (-1) → ((-2147483648 ≤ x2 ∧ x2 ≤ 2147483647) ∧ ((x2 = (-1) → (G3 E YX12_nextIn Q 4 [(0, vR 44 0), (1, vI x1), (2, vI x3), (3, vI (x3 + 1))] [] M)) ∧ (x2 ≠ (-1) → ((0 ≤ x3 ∧ x3 < 24) ∧ ((0 ≤ x2 ∧ x2 < 24) ∧ ((M 66 0 x2 ≤ M 66 0 x3 → (G3 E YX12_nextIn Q 4 [(0, vR 44 0), (1, vI x1), (2, vI x2), (3, vI (x3 + 1))] [] M)) ∧ (M 66 0 x3 < M 66 0 x2 → (G3 E YX12_nextIn Q 4 [(0, vR 44 0), (1, vI x1), (2, vI x3), (3, vI (x3 + 1))] [] M))))))))) ∧ (x1 ≠ (-1) → ((0 ≤ x3 ∧ x3 < 24) ∧ ((0 ≤ x1 ∧ x1 < 24) ∧ ((M 66 0 x1 < M 66 0 x3 → ((-2147483648 ≤ x2 ∧ x2 ≤ 2147483647) ∧ ((x2 = (-1) → (G3 E YX12_nextIn Q 4 [(0, vR 44 0), (1, vI x1), (2, vI x3), (3, vI (x3 + 1))] [] M)) ∧ (x2 ≠ (-1) → ((0 ≤ x2 ∧ x2 < 24) ∧ ((M 66 0 x2 ≤ M 66 0 x3 → (G3 E YX12_nextIn Q 4 [(0, vR 44 0), (1, vI x1), (2, vI x2), (3, vI (x3 + 1))] [] M)) ∧ (M 66 0 x3 < M 66 0 x2 → (G3 E YX12_nextIn Q 4 [(0, vR 44 0), (1, vI x1), (2, vI x3), (3, vI (x3 + 1))] [] M)))))))) ∧ (M 66 0 x3 ≤ M 66 0 x1 → ((M 66 0 x3 ≠ M 66 0 x1 → (G3 E YX12_nextIn Q 4 [(0, vR 44 0), (1, vI x1), (2, vI x2), (3, vI (x3 + 1))] [] M)) ∧ (M 66 0 x3 = M 66 0 x1 → ((x3 ≤ x1 → (G3 E YX12_nextIn Q 4 [(0, vR 44 0), (1, vI x1), (2, vI x2), (3, vI (x3 + 1))] [] M)) ∧ (x1 < x3 → ((-2147483648 ≤ x2 ∧ x2 ≤ 2147483647) ∧ ((x2 = (-1) → (G3 E YX12_nextIn Q 4 [(0, vR 44 0), (1, vI x1), (2, vI x3), (3, vI (x3 + 1))] [] M)) ∧ (x2 ≠ (-1) → ((0 ≤ x2 ∧ x2 < 24) ∧ ((M 66 0 x2 ≤ M 66 0 x3 → (G3 E YX12_nextIn Q 4 [(0, vR 44 0), (1, vI x1), (2, vI x2), (3, vI (x3 + 1))] [] M)) ∧ (M 66 0 x3 < M 66 0 x2 → (G3 E YX12_nextIn Q 4 [(0, vR 44 0), (1, vI x1), (2, vI x3), (3, vI (x3 + 1))] [] M))))))))))))))))))))) :
    G3 E YX12_nextIn Q 4 [(0, vR 44 0), (1, vI x1), (2, vI x2), (3, vI x3)] [] M := by
  refine g3_rm fun hM => ?_
  refine g3_iload_n 3 dX12_nextIn_4 rfl rfl (g3_aload_n 0 dX12_nextIn_5 rfl rfl (g3_getI (t := 0) dX12_nextIn_6 flX12_281 (z3 rfl) (z3 rfl) (g3_icmp_ge (tgt := 96) dX12_nextIn_9 rfl h.1 (hM 44 0 32) (fun c => ?_) (fun c => ?_))))
  · have h1 := h; have h := h1.2.1 c
    have o1 := h1.1
    exact g3_iload_n 2 dX12_nextIn_96 rfl rfl (g3_ireturn dX12_nextIn_97 rfl h)
  · have h1 := h; have h := h1.2.2 c
    have o1 := h1.1
    refine g3_iload_n 1 dX12_nextIn_12 rfl rfl (g3_iconst dX12_nextIn_13 (g3_icmp_eq (tgt := 52) dX12_nextIn_14 rfl h.1 (z3 rfl) (fun c => ?_) (fun c => ?_)))
    · have h1 := h; have h := h1.2.1 c
      have o2 := h1.1
      refine g3_iconst dX12_nextIn_52 (g3_goto (tgt := 57) dX12_nextIn_53 rfl (g3_istore (lv' := [(4, vI 1), (0, vR 44 0), (1, vI x1), (2, vI x2), (3, vI x3)]) dX12_nextIn_57 (z3 rfl) rfl (g3_iload 0 dX12_nextIn_59 rfl (g3_if_eq_F (tgt := 88) dX12_nextIn_61 rfl (z3 rfl) (g3_iload_n 3 dX12_nextIn_64 rfl rfl (g3_iconst dX12_nextIn_65 (g3_icmp_eq (tgt := 84) dX12_nextIn_66 rfl h.1 (z3 rfl) (fun c => ?_) (fun c => ?_))))))))
      · have h1 := h; have h := h1.2.1 c
        have o3 := h1.1
        refine g3_iload_n 4 dX12_nextIn_84 rfl rfl (g3_goto (tgt := 89) dX12_nextIn_85 rfl (g3_istore_n (lv' := [(2, vI x3), (4, vI 1), (0, vR 44 0), (1, vI x1), (3, vI x3)]) dX12_nextIn_89 rfl (z3 rfl) rfl (g3_iinc (lv' := [(3, vI (x3 + 1)), (2, vI x3), (4, vI 1), (0, vR 44 0), (1, vI x1)]) 4 dX12_nextIn_90 rfl (z3 rfl) rfl (g3_goto (tgt := 4) dX12_nextIn_93 rfl (g3_sub [3, 4, 1, 0] rfl h)))))
      · have h1 := h; have h := h1.2.2 c
        have o3 := h1.1
        refine g3_aload_n 1 dX12_nextIn_69 rfl rfl (g3_getR0 (t := 66) dX12_nextIn_70 flX12_86 rfl (z3 rfl) (g3_iload_n 4 dX12_nextIn_73 rfl rfl (g3_iald dX12_nextIn_74 ar_66 (z3 rfl) h.1 (g3_aload_n 1 dX12_nextIn_75 rfl rfl (g3_getR0 (t := 66) dX12_nextIn_76 flX12_86 rfl (z3 rfl) (g3_iload_n 3 dX12_nextIn_79 rfl rfl (g3_iald dX12_nextIn_80 ar_66 (z3 rfl) h.2.1 (g3_icmp_ge (tgt := 88) dX12_nextIn_81 rfl (hM 66 0 x3) (hM 66 0 x2) (fun c => ?_) (fun c => ?_)))))))))
        · have h1 := h; have h := h1.2.2.1 c
          have o4 := h1.1
          have o5 := h1.2.1
          refine g3_iload_n 3 dX12_nextIn_88 rfl rfl (g3_istore_n (lv' := [(2, vI x2), (4, vI 1), (0, vR 44 0), (1, vI x1), (3, vI x3)]) dX12_nextIn_89 rfl (z3 rfl) rfl (g3_iinc (lv' := [(3, vI (x3 + 1)), (2, vI x2), (4, vI 1), (0, vR 44 0), (1, vI x1)]) 4 dX12_nextIn_90 rfl (z3 rfl) rfl (g3_goto (tgt := 4) dX12_nextIn_93 rfl (g3_sub [3, 4, 1, 0] rfl h))))
        · have h1 := h; have h := h1.2.2.2 c
          have o4 := h1.1
          have o5 := h1.2.1
          refine g3_iload_n 4 dX12_nextIn_84 rfl rfl (g3_goto (tgt := 89) dX12_nextIn_85 rfl (g3_istore_n (lv' := [(2, vI x3), (4, vI 1), (0, vR 44 0), (1, vI x1), (3, vI x3)]) dX12_nextIn_89 rfl (z3 rfl) rfl (g3_iinc (lv' := [(3, vI (x3 + 1)), (2, vI x3), (4, vI 1), (0, vR 44 0), (1, vI x1)]) 4 dX12_nextIn_90 rfl (z3 rfl) rfl (g3_goto (tgt := 4) dX12_nextIn_93 rfl (g3_sub [3, 4, 1, 0] rfl h)))))
    · have h1 := h; have h := h1.2.2 c
      have o2 := h1.1
      refine g3_aload_n 0 dX12_nextIn_17 rfl rfl (g3_getR0 (t := 66) dX12_nextIn_18 flX12_86 rfl (z3 rfl) (g3_iload_n 3 dX12_nextIn_21 rfl rfl (g3_iald dX12_nextIn_22 ar_66 (z3 rfl) h.1 (g3_aload_n 0 dX12_nextIn_23 rfl rfl (g3_getR0 (t := 66) dX12_nextIn_24 flX12_86 rfl (z3 rfl) (g3_iload_n 1 dX12_nextIn_27 rfl rfl (g3_iald dX12_nextIn_28 ar_66 (z3 rfl) h.2.1 (g3_icmp_gt (tgt := 52) dX12_nextIn_29 rfl (hM 66 0 x3) (hM 66 0 x1) (fun c => ?_) (fun c => ?_)))))))))
      · have h1 := h; have h := h1.2.2.1 c
        have o6 := h1.1
        have o7 := h1.2.1
        refine g3_iconst dX12_nextIn_52 (g3_goto (tgt := 57) dX12_nextIn_53 rfl (g3_istore (lv' := [(4, vI 1), (0, vR 44 0), (1, vI x1), (2, vI x2), (3, vI x3)]) dX12_nextIn_57 (z3 rfl) rfl (g3_iload 0 dX12_nextIn_59 rfl (g3_if_eq_F (tgt := 88) dX12_nextIn_61 rfl (z3 rfl) (g3_iload_n 3 dX12_nextIn_64 rfl rfl (g3_iconst dX12_nextIn_65 (g3_icmp_eq (tgt := 84) dX12_nextIn_66 rfl h.1 (z3 rfl) (fun c => ?_) (fun c => ?_))))))))
        · have h1 := h; have h := h1.2.1 c
          have o8 := h1.1
          refine g3_iload_n 4 dX12_nextIn_84 rfl rfl (g3_goto (tgt := 89) dX12_nextIn_85 rfl (g3_istore_n (lv' := [(2, vI x3), (4, vI 1), (0, vR 44 0), (1, vI x1), (3, vI x3)]) dX12_nextIn_89 rfl (z3 rfl) rfl (g3_iinc (lv' := [(3, vI (x3 + 1)), (2, vI x3), (4, vI 1), (0, vR 44 0), (1, vI x1)]) 4 dX12_nextIn_90 rfl (z3 rfl) rfl (g3_goto (tgt := 4) dX12_nextIn_93 rfl (g3_sub [3, 4, 1, 0] rfl h)))))
        · have h1 := h; have h := h1.2.2 c
          have o8 := h1.1
          refine g3_aload_n 1 dX12_nextIn_69 rfl rfl (g3_getR0 (t := 66) dX12_nextIn_70 flX12_86 rfl (z3 rfl) (g3_iload_n 4 dX12_nextIn_73 rfl rfl (g3_iald dX12_nextIn_74 ar_66 (z3 rfl) o6 (g3_aload_n 1 dX12_nextIn_75 rfl rfl (g3_getR0 (t := 66) dX12_nextIn_76 flX12_86 rfl (z3 rfl) (g3_iload_n 3 dX12_nextIn_79 rfl rfl (g3_iald dX12_nextIn_80 ar_66 (z3 rfl) h.1 (g3_icmp_ge (tgt := 88) dX12_nextIn_81 rfl (hM 66 0 x3) (hM 66 0 x2) (fun c => ?_) (fun c => ?_)))))))))
          · have h1 := h; have h := h1.2.1 c
            have o9 := h1.1
            refine g3_iload_n 3 dX12_nextIn_88 rfl rfl (g3_istore_n (lv' := [(2, vI x2), (4, vI 1), (0, vR 44 0), (1, vI x1), (3, vI x3)]) dX12_nextIn_89 rfl (z3 rfl) rfl (g3_iinc (lv' := [(3, vI (x3 + 1)), (2, vI x2), (4, vI 1), (0, vR 44 0), (1, vI x1)]) 4 dX12_nextIn_90 rfl (z3 rfl) rfl (g3_goto (tgt := 4) dX12_nextIn_93 rfl (g3_sub [3, 4, 1, 0] rfl h))))
          · have h1 := h; have h := h1.2.2 c
            have o9 := h1.1
            refine g3_iload_n 4 dX12_nextIn_84 rfl rfl (g3_goto (tgt := 89) dX12_nextIn_85 rfl (g3_istore_n (lv' := [(2, vI x3), (4, vI 1), (0, vR 44 0), (1, vI x1), (3, vI x3)]) dX12_nextIn_89 rfl (z3 rfl) rfl (g3_iinc (lv' := [(3, vI (x3 + 1)), (2, vI x3), (4, vI 1), (0, vR 44 0), (1, vI x1)]) 4 dX12_nextIn_90 rfl (z3 rfl) rfl (g3_goto (tgt := 4) dX12_nextIn_93 rfl (g3_sub [3, 4, 1, 0] rfl h)))))
      · have h1 := h; have h := h1.2.2.2 c
        have o6 := h1.1
        have o7 := h1.2.1
        refine g3_aload_n 0 dX12_nextIn_32 rfl rfl (g3_getR0 (t := 66) dX12_nextIn_33 flX12_86 rfl (z3 rfl) (g3_iload_n 3 dX12_nextIn_36 rfl rfl (g3_iald dX12_nextIn_37 ar_66 (z3 rfl) o6 (g3_aload_n 0 dX12_nextIn_38 rfl rfl (g3_getR0 (t := 66) dX12_nextIn_39 flX12_86 rfl (z3 rfl) (g3_iload_n 1 dX12_nextIn_42 rfl rfl (g3_iald dX12_nextIn_43 ar_66 (z3 rfl) o7 (g3_icmp_ne (tgt := 56) dX12_nextIn_44 rfl (hM 66 0 x3) (hM 66 0 x1) (fun c => ?_) (fun c => ?_)))))))))
        · have h1 := h; have h := h1.1 c
          refine g3_iconst dX12_nextIn_56 (g3_istore (lv' := [(4, vI 0), (0, vR 44 0), (1, vI x1), (2, vI x2), (3, vI x3)]) dX12_nextIn_57 (z3 rfl) rfl (g3_iload 0 dX12_nextIn_59 rfl (g3_if_eq_T (tgt := 88) dX12_nextIn_61 rfl (z3 rfl) (g3_iload_n 3 dX12_nextIn_88 rfl rfl (g3_istore_n (lv' := [(2, vI x2), (4, vI 0), (0, vR 44 0), (1, vI x1), (3, vI x3)]) dX12_nextIn_89 rfl (z3 rfl) rfl (g3_iinc (lv' := [(3, vI (x3 + 1)), (2, vI x2), (4, vI 0), (0, vR 44 0), (1, vI x1)]) 4 dX12_nextIn_90 rfl (z3 rfl) rfl (g3_goto (tgt := 4) dX12_nextIn_93 rfl (g3_sub [3, 4, 1, 0] rfl h))))))))
        · have h1 := h; have h := h1.2 c
          refine g3_iload_n 3 dX12_nextIn_47 rfl rfl (g3_iload_n 1 dX12_nextIn_48 rfl rfl (g3_icmp_le (tgt := 56) dX12_nextIn_49 rfl o1 o2 (fun c => ?_) (fun c => ?_)))
          · have h1 := h; have h := h1.1 c
            refine g3_iconst dX12_nextIn_56 (g3_istore (lv' := [(4, vI 0), (0, vR 44 0), (1, vI x1), (2, vI x2), (3, vI x3)]) dX12_nextIn_57 (z3 rfl) rfl (g3_iload 0 dX12_nextIn_59 rfl (g3_if_eq_T (tgt := 88) dX12_nextIn_61 rfl (z3 rfl) (g3_iload_n 3 dX12_nextIn_88 rfl rfl (g3_istore_n (lv' := [(2, vI x2), (4, vI 0), (0, vR 44 0), (1, vI x1), (3, vI x3)]) dX12_nextIn_89 rfl (z3 rfl) rfl (g3_iinc (lv' := [(3, vI (x3 + 1)), (2, vI x2), (4, vI 0), (0, vR 44 0), (1, vI x1)]) 4 dX12_nextIn_90 rfl (z3 rfl) rfl (g3_goto (tgt := 4) dX12_nextIn_93 rfl (g3_sub [3, 4, 1, 0] rfl h))))))))
          · have h1 := h; have h := h1.2 c
            refine g3_iconst dX12_nextIn_52 (g3_goto (tgt := 57) dX12_nextIn_53 rfl (g3_istore (lv' := [(4, vI 1), (0, vR 44 0), (1, vI x1), (2, vI x2), (3, vI x3)]) dX12_nextIn_57 (z3 rfl) rfl (g3_iload 0 dX12_nextIn_59 rfl (g3_if_eq_F (tgt := 88) dX12_nextIn_61 rfl (z3 rfl) (g3_iload_n 3 dX12_nextIn_64 rfl rfl (g3_iconst dX12_nextIn_65 (g3_icmp_eq (tgt := 84) dX12_nextIn_66 rfl h.1 (z3 rfl) (fun c => ?_) (fun c => ?_))))))))
            · have h1 := h; have h := h1.2.1 c
              have o10 := h1.1
              refine g3_iload_n 4 dX12_nextIn_84 rfl rfl (g3_goto (tgt := 89) dX12_nextIn_85 rfl (g3_istore_n (lv' := [(2, vI x3), (4, vI 1), (0, vR 44 0), (1, vI x1), (3, vI x3)]) dX12_nextIn_89 rfl (z3 rfl) rfl (g3_iinc (lv' := [(3, vI (x3 + 1)), (2, vI x3), (4, vI 1), (0, vR 44 0), (1, vI x1)]) 4 dX12_nextIn_90 rfl (z3 rfl) rfl (g3_goto (tgt := 4) dX12_nextIn_93 rfl (g3_sub [3, 4, 1, 0] rfl h)))))
            · have h1 := h; have h := h1.2.2 c
              have o10 := h1.1
              refine g3_aload_n 1 dX12_nextIn_69 rfl rfl (g3_getR0 (t := 66) dX12_nextIn_70 flX12_86 rfl (z3 rfl) (g3_iload_n 4 dX12_nextIn_73 rfl rfl (g3_iald dX12_nextIn_74 ar_66 (z3 rfl) o6 (g3_aload_n 1 dX12_nextIn_75 rfl rfl (g3_getR0 (t := 66) dX12_nextIn_76 flX12_86 rfl (z3 rfl) (g3_iload_n 3 dX12_nextIn_79 rfl rfl (g3_iald dX12_nextIn_80 ar_66 (z3 rfl) h.1 (g3_icmp_ge (tgt := 88) dX12_nextIn_81 rfl (hM 66 0 x3) (hM 66 0 x2) (fun c => ?_) (fun c => ?_)))))))))
              · have h1 := h; have h := h1.2.1 c
                have o11 := h1.1
                refine g3_iload_n 3 dX12_nextIn_88 rfl rfl (g3_istore_n (lv' := [(2, vI x2), (4, vI 1), (0, vR 44 0), (1, vI x1), (3, vI x3)]) dX12_nextIn_89 rfl (z3 rfl) rfl (g3_iinc (lv' := [(3, vI (x3 + 1)), (2, vI x2), (4, vI 1), (0, vR 44 0), (1, vI x1)]) 4 dX12_nextIn_90 rfl (z3 rfl) rfl (g3_goto (tgt := 4) dX12_nextIn_93 rfl (g3_sub [3, 4, 1, 0] rfl h))))
              · have h1 := h; have h := h1.2.2 c
                have o11 := h1.1
                refine g3_iload_n 4 dX12_nextIn_84 rfl rfl (g3_goto (tgt := 89) dX12_nextIn_85 rfl (g3_istore_n (lv' := [(2, vI x3), (4, vI 1), (0, vR 44 0), (1, vI x1), (3, vI x3)]) dX12_nextIn_89 rfl (z3 rfl) rfl (g3_iinc (lv' := [(3, vI (x3 + 1)), (2, vI x3), (4, vI 1), (0, vR 44 0), (1, vI x1)]) 4 dX12_nextIn_90 rfl (z3 rfl) rfl (g3_goto (tgt := 4) dX12_nextIn_93 rfl (g3_sub [3, 4, 1, 0] rfl h)))))
set_option maxRecDepth 20000 in
set_option maxHeartbeats 200000 in
theorem sX12_ones {E : E3} {Q : Q3} {M : M3} {x0 : Int}
    (h : G3 E YX12_ones Q 4 [(0, vI x0), (1, vI 0), (2, vI 0)] [] M) :
    C3 E YX12_ones [vI x0] M Q := by
  refine c3_in rfl rfl (z3 rfl) (g3_rm fun hM => ?_)
  refine g3_iconst dX12_ones_0 (g3_istore_n (lv' := [(1, vI 0), (0, vI x0)]) dX12_ones_1 rfl (z3 rfl) rfl (g3_iconst dX12_ones_2 (g3_istore_n (lv' := [(2, vI 0), (1, vI 0), (0, vI x0)]) dX12_ones_3 rfl (z3 rfl) rfl (g3_sub [2, 1, 0] rfl h))))
set_option maxRecDepth 20000 in
set_option maxHeartbeats 200000 in
theorem sX12_ones_4 {E : E3} {Q : Q3} {M : M3} {x0 : Int} {x1 : Int} {x2 : Int}
    (h : (-2147483648 ≤ x2 ∧ x2 ≤ 2147483647) ∧ ((8 ≤ x2 → (Q (some (vI x1)) M)) ∧ (x2 < 8 → (G3 E YX12_ones Q 4 [(0, vI x0), (1, vI (x1 + (and3 (shr3 x0 x2) 1))), (2, vI (x2 + 1))] [] M)))) :
    G3 E YX12_ones Q 4 [(0, vI x0), (1, vI x1), (2, vI x2)] [] M := by
  refine g3_rm fun hM => ?_
  refine g3_iload_n 2 dX12_ones_4 rfl rfl (g3_bipush dX12_ones_5 rfl (g3_icmp_ge (tgt := 24) dX12_ones_7 rfl h.1 (z3 rfl) (fun c => ?_) (fun c => ?_)))
  · have h1 := h; have h := h1.2.1 c
    have o1 := h1.1
    exact g3_iload_n 1 dX12_ones_24 rfl rfl (g3_ireturn dX12_ones_25 rfl h)
  · have h1 := h; have h := h1.2.2 c
    have o1 := h1.1
    refine g3_iload_n 1 dX12_ones_10 rfl rfl (g3_iload_n 0 dX12_ones_11 rfl rfl (g3_iload_n 2 dX12_ones_12 rfl rfl (g3_ishr dX12_ones_13 (g3_iconst dX12_ones_14 (g3_iand dX12_ones_15 (g3_iadd dX12_ones_16 (g3_istore_n (lv' := [(1, vI (x1 + (and3 (shr3 x0 x2) 1))), (0, vI x0), (2, vI x2)]) dX12_ones_17 rfl (z3 rfl) rfl (g3_iinc (lv' := [(2, vI (x2 + 1)), (1, vI (x1 + (and3 (shr3 x0 x2) 1))), (0, vI x0)]) 2 dX12_ones_18 rfl (z3 rfl) rfl (g3_goto (tgt := 4) dX12_ones_21 rfl (g3_sub [2, 1, 0] rfl h))))))))))
set_option maxRecDepth 20000 in
set_option maxHeartbeats 200000 in
theorem sX12_isMoreAhead {E : E3} {Q : Q3} {M : M3}
    (h : G3 E YX12_isMoreAhead Q 2 [(0, vR 44 0), (1, vI 0)] [] M) :
    C3 E YX12_isMoreAhead [vR 44 0] M Q := by
  refine c3_in rfl rfl (z3 rfl) (g3_rm fun hM => ?_)
  refine g3_iconst dX12_isMoreAhead_0 (g3_istore_n (lv' := [(1, vI 0), (0, vR 44 0)]) dX12_isMoreAhead_1 rfl (z3 rfl) rfl (g3_sub [1, 0] rfl h))
set_option maxRecDepth 20000 in
set_option maxHeartbeats 200000 in
theorem sX12_isMoreAhead_2 {E : E3} {Q : Q3} {M : M3} {x1 : Int}
    (h : (-2147483648 ≤ x1 ∧ x1 ≤ 2147483647) ∧ ((6 ≤ x1 → (Q (some (vI 0)) M)) ∧ (x1 < 6 → ((0 ≤ x1 ∧ x1 < 6) ∧ ((M 69 0 x1 = M 70 0 x1 → (G3 E YX12_isMoreAhead Q 2 [(0, vR 44 0), (1, vI (x1 + 1))] [] M)) ∧ (M 69 0 x1 ≠ M 70 0 x1 → ((M 69 0 x1 ≤ M 70 0 x1 → (Q (some (vI 0)) M)) ∧ (M 70 0 x1 < M 69 0 x1 → (Q (some (vI 1)) M))))))))) :
    G3 E YX12_isMoreAhead Q 2 [(0, vR 44 0), (1, vI x1)] [] M := by
  refine g3_rm fun hM => ?_
  refine g3_iload_n 1 dX12_isMoreAhead_2 rfl rfl (g3_bipush dX12_isMoreAhead_3 rfl (g3_icmp_ge (tgt := 50) dX12_isMoreAhead_5 rfl h.1 (z3 rfl) (fun c => ?_) (fun c => ?_)))
  · have h1 := h; have h := h1.2.1 c
    have o1 := h1.1
    exact g3_iconst dX12_isMoreAhead_50 (g3_zreturn dX12_isMoreAhead_51 rfl (Or.inl rfl) h)
  · have h1 := h; have h := h1.2.2 c
    have o1 := h1.1
    refine g3_aload_n 0 dX12_isMoreAhead_8 rfl rfl (g3_getR0 (t := 69) dX12_isMoreAhead_9 flX12_95 rfl (z3 rfl) (g3_iload_n 1 dX12_isMoreAhead_12 rfl rfl (g3_iald dX12_isMoreAhead_13 ar_69 (z3 rfl) h.1 (g3_aload_n 0 dX12_isMoreAhead_14 rfl rfl (g3_getR0 (t := 70) dX12_isMoreAhead_15 flX12_98 rfl (z3 rfl) (g3_iload_n 1 dX12_isMoreAhead_18 rfl rfl (g3_iald dX12_isMoreAhead_19 ar_70 (z3 rfl) h.1 (g3_icmp_eq (tgt := 44) dX12_isMoreAhead_20 rfl (hM 69 0 x1) (hM 70 0 x1) (fun c => ?_) (fun c => ?_)))))))))
    · have h1 := h; have h := h1.2.1 c
      have o2 := h1.1
      refine g3_iinc (lv' := [(1, vI (x1 + 1)), (0, vR 44 0)]) 1 dX12_isMoreAhead_44 rfl (z3 rfl) rfl (g3_goto (tgt := 2) dX12_isMoreAhead_47 rfl (g3_sub [1, 0] rfl h))
    · have h1 := h; have h := h1.2.2 c
      have o2 := h1.1
      refine g3_aload_n 0 dX12_isMoreAhead_23 rfl rfl (g3_getR0 (t := 69) dX12_isMoreAhead_24 flX12_95 rfl (z3 rfl) (g3_iload_n 1 dX12_isMoreAhead_27 rfl rfl (g3_iald dX12_isMoreAhead_28 ar_69 (z3 rfl) o2 (g3_aload_n 0 dX12_isMoreAhead_29 rfl rfl (g3_getR0 (t := 70) dX12_isMoreAhead_30 flX12_98 rfl (z3 rfl) (g3_iload_n 1 dX12_isMoreAhead_33 rfl rfl (g3_iald dX12_isMoreAhead_34 ar_70 (z3 rfl) o2 (g3_icmp_le (tgt := 42) dX12_isMoreAhead_35 rfl (hM 69 0 x1) (hM 70 0 x1) (fun c => ?_) (fun c => ?_)))))))))
      · have h1 := h; have h := h1.1 c
        exact g3_iconst dX12_isMoreAhead_42 (g3_zreturn dX12_isMoreAhead_43 rfl (Or.inl rfl) h)
      · have h1 := h; have h := h1.2 c
        exact g3_iconst dX12_isMoreAhead_38 (g3_goto (tgt := 43) dX12_isMoreAhead_39 rfl (g3_zreturn dX12_isMoreAhead_43 rfl (Or.inr rfl) h))
set_option maxRecDepth 20000 in
set_option maxHeartbeats 200000 in
theorem sX12_nextGiven {E : E3} {Q : Q3} {M : M3} {x1 x2 : Int}
    (h : G3 E YX12_nextGiven Q 5 [(0, vR 44 0), (1, vI x1), (3, vI x2), (4, vI 0)] [] M) :
    C3 E YX12_nextGiven [vR 44 0, vI x1, vI x2] M Q := by
  refine c3_in rfl rfl (z3 rfl) (g3_rm fun hM => ?_)
  refine g3_iload_n 2 dX12_nextGiven_0 rfl rfl (g3_istore_n (lv' := [(3, vI x2), (0, vR 44 0), (1, vI x1), (2, vI x2)]) dX12_nextGiven_1 rfl (z3 rfl) rfl (g3_iconst dX12_nextGiven_2 (g3_istore (lv' := [(4, vI 0), (3, vI x2), (0, vR 44 0), (1, vI x1), (2, vI x2)]) dX12_nextGiven_3 (z3 rfl) rfl (g3_sub [2, 3, 1, 0] rfl h))))
set_option maxRecDepth 20000 in
set_option maxHeartbeats 200000 in
theorem sX12_nextGiven_5 {E : E3} {Q : Q3} {M : M3} {x1 : Int} {x3 : Int} {x4 : Int}
    (h : (-2147483648 ≤ x4 ∧ x4 ≤ 2147483647) ∧ ((6 ≤ x4 → (Q (some (vI 0)) M)) ∧ (x4 < 6 → ((-2147483648 ≤ x3 ∧ x3 ≤ 2147483647) ∧ ((-2147483648 ≤ x1 ∧ x1 ≤ 2147483647) ∧ ((x1 ≤ x3 → ((0 ≤ x4 ∧ x4 < 6) ∧ (G3 E YX12_nextGiven Q 5 [(0, vR 44 0), (1, vI x1), (3, vI (x3 - (M 69 0 x4))), (4, vI (x4 + 1))] [] (up3 M 69 0 x4 0)))) ∧ (x3 < x1 → ((0 ≤ x4 ∧ x4 < 6) ∧ ((-2147483648 ≤ (M 69 0 x4) + 1 ∧ (M 69 0 x4) + 1 ≤ 2147483647) ∧ (Q (some (vI 1)) (up3 M 69 0 x4 ((M 69 0 x4) + 1)))))))))))) :
    G3 E YX12_nextGiven Q 5 [(0, vR 44 0), (1, vI x1), (3, vI x3), (4, vI x4)] [] M := by
  refine g3_rm fun hM => ?_
  refine g3_iload 3 dX12_nextGiven_5 rfl (g3_bipush dX12_nextGiven_7 rfl (g3_icmp_ge (tgt := 54) dX12_nextGiven_9 rfl h.1 (z3 rfl) (fun c => ?_) (fun c => ?_)))
  · have h1 := h; have h := h1.2.1 c
    have o1 := h1.1
    exact g3_iconst dX12_nextGiven_54 (g3_zreturn dX12_nextGiven_55 rfl (Or.inl rfl) h)
  · have h1 := h; have h := h1.2.2 c
    have o1 := h1.1
    refine g3_iload_n 2 dX12_nextGiven_12 rfl rfl (g3_iload_n 1 dX12_nextGiven_13 rfl rfl (g3_icmp_ge (tgt := 30) dX12_nextGiven_14 rfl h.1 h.2.1 (fun c => ?_) (fun c => ?_)))
    · have h1 := h; have h := h1.2.2.1 c
      have o2 := h1.1
      have o3 := h1.2.1
      refine g3_iload_n 2 dX12_nextGiven_30 rfl rfl (g3_aload_n 0 dX12_nextGiven_31 rfl rfl (g3_getR0 (t := 69) dX12_nextGiven_32 flX12_95 rfl (z3 rfl) (g3_iload 3 dX12_nextGiven_35 rfl (g3_iald dX12_nextGiven_37 ar_69 (z3 rfl) h.1 (g3_isub dX12_nextGiven_38 (g3_istore_n (lv' := [(3, vI (x3 - (M 69 0 x4))), (0, vR 44 0), (1, vI x1), (4, vI x4)]) dX12_nextGiven_39 rfl (z3 rfl) rfl (g3_aload_n 1 dX12_nextGiven_40 rfl rfl (g3_getR0 (t := 69) dX12_nextGiven_41 flX12_95 rfl (z3 rfl) (g3_iload 3 dX12_nextGiven_44 rfl (g3_iconst dX12_nextGiven_46 (g3_iast dX12_nextGiven_47 ar_69 (z3 rfl) h.1 (z3 rfl) (g3_iinc (lv' := [(4, vI (x4 + 1)), (3, vI (x3 - (M 69 0 x4))), (0, vR 44 0), (1, vI x1)]) 3 dX12_nextGiven_48 rfl (z3 rfl) rfl (g3_goto (tgt := 5) dX12_nextGiven_51 rfl (g3_sub [2, 3, 1, 0] rfl h.2))))))))))))))
    · have h1 := h; have h := h1.2.2.2 c
      have o2 := h1.1
      have o3 := h1.2.1
      exact g3_aload_n 0 dX12_nextGiven_17 rfl rfl (g3_getR0 (t := 69) dX12_nextGiven_18 flX12_95 rfl (z3 rfl) (g3_iload 3 dX12_nextGiven_21 rfl (g3_dup2 dX12_nextGiven_23 rfl rfl (g3_iald dX12_nextGiven_24 ar_69 (z3 rfl) h.1 (g3_iconst dX12_nextGiven_25 (g3_iadd dX12_nextGiven_26 (g3_iast dX12_nextGiven_27 ar_69 (z3 rfl) h.1 h.2.1 (g3_iconst dX12_nextGiven_28 (g3_zreturn dX12_nextGiven_29 rfl (Or.inr rfl) h.2.2)))))))))
