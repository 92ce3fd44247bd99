set_option maxRecDepth 20000 in
set_option maxHeartbeats 200000 in
theorem sX0_namesToChange {E : E3} {Q : Q3} {M : M3} {x1 : Int}
    (h : (IB M ∧ 0 ≤ x1 ∧ x1 ≤ 5) ∧ (G3 E YX0_namesToChange Q 11 [(0, vR 10 0), (1, vI x1), (2, vI (mChs M x1)), (3, vI (-1)), (4, vI 0)] [] M)) :
    C3 E YX0_namesToChange [vR 10 0, vI x1] M Q := by
  refine c3_in rfl rfl (z3 rfl) (g3_rm fun hM => ?_)
  refine g3_aload_n 0 dX0_namesToChange_0 rfl rfl (g3_iload_n 1 dX0_namesToChange_1 rfl rfl (g3_cV1 dX0_namesToChange_2 myX0_winner mlX0_48 (z3 rfl) ob_10 (z3 rfl) (z3 rfl) (kX0_winner h.1 (g3_r1 (g3_istore_n (lv' := [(2, vI (mChs M x1)), (0, vR 10 0), (1, vI x1)]) dX0_namesToChange_5 rfl (z3 rfl) rfl (g3_iconst dX0_namesToChange_6 (g3_istore_n (lv' := [(3, vI (-1)), (2, vI (mChs M x1)), (0, vR 10 0), (1, vI x1)]) dX0_namesToChange_7 rfl (z3 rfl) rfl (g3_iconst dX0_namesToChange_8 (g3_istore (lv' := [(4, vI 0), (3, vI (-1)), (2, vI (mChs M x1)), (0, vR 10 0), (1, vI x1)]) dX0_namesToChange_9 (z3 rfl) rfl (g3_sub [3, 4, 2, 1, 0] rfl h.2))))))))))
set_option maxRecDepth 20000 in
set_option maxHeartbeats 200000 in
theorem sX0_namesToChange_11 {E : E3} {Q : Q3} {M : M3} {x1 : Int} {x2 : Int} {x3 : Int} {x4 : Int}
    (h : (-2147483648 ≤ x4 ∧ x4 ≤ 2147483647) ∧ ((2 ≤ x4 → (Q (some (vI x3)) M)) ∧ (x4 < 2 → ((-2147483648 ≤ x2 ∧ x2 ≤ 2147483647) ∧ ((x4 ≠ x2 → ((IB M ∧ (0 ≤ x1 ∧ x1 ≤ 5) ∧ (0 ≤ x4 ∧ x4 ≤ 1)) ∧ ((-2147483648 ≤ mWnt M x1 x4 ∧ mWnt M x1 x4 ≤ 2147483647) ∧ ((mWnt M x1 x4 = (-1) → (G3 E YX0_namesToChange Q 11 [(0, vR 10 0), (1, vI x1), (2, vI x2), (3, vI x3), (4, vI (x4 + 1))] [] M)) ∧ (mWnt M x1 x4 ≠ (-1) → ((-2147483648 ≤ x3 ∧ x3 ≤ 2147483647) ∧ ((x3 = (-1) → (G3 E YX0_namesToChange Q 11 [(0, vR 10 0), (1, vI x1), (2, vI x2), (3, vI (mWnt M x1 x4)), (4, vI (x4 + 1))] [] M)) ∧ (x3 ≠ (-1) → ((x3 ≤ mWnt M x1 x4 → (G3 E YX0_namesToChange Q 11 [(0, vR 10 0), (1, vI x1), (2, vI x2), (3, vI x3), (4, vI (x4 + 1))] [] M)) ∧ (mWnt M x1 x4 < x3 → (G3 E YX0_namesToChange Q 11 [(0, vR 10 0), (1, vI x1), (2, vI x2), (3, vI (mWnt M x1 x4)), (4, vI (x4 + 1))] [] M))))))))))) ∧ (x4 = x2 → (G3 E YX0_namesToChange Q 11 [(0, vR 10 0), (1, vI x1), (2, vI x2), (3, vI x3), (4, vI (x4 + 1))] [] M))))))) :
    G3 E YX0_namesToChange Q 11 [(0, vR 10 0), (1, vI x1), (2, vI x2), (3, vI x3), (4, vI x4)] [] M := by
  refine g3_rm fun hM => ?_
  refine g3_iload 4 dX0_namesToChange_11 rfl (g3_iconst dX0_namesToChange_13 (g3_icmp_ge (tgt := 62) dX0_namesToChange_14 rfl h.1 (z3 rfl) (fun c => ?_) (fun c => ?_)))
  · have h1 := h; have h := h1.2.1 c
    have o1 := h1.1
    exact g3_iload_n 3 dX0_namesToChange_62 rfl rfl (g3_ireturn dX0_namesToChange_63 rfl h)
  · have h1 := h; have h := h1.2.2 c
    have o1 := h1.1
    refine g3_iload 4 dX0_namesToChange_17 rfl (g3_iload_n 2 dX0_namesToChange_19 rfl rfl (g3_icmp_ne (tgt := 27) dX0_namesToChange_20 rfl o1 h.1 (fun c => ?_) (fun c => ?_)))
    · have h1 := h; have h := h1.2.1 c
      have o2 := h1.1
      refine g3_aload_n 0 dX0_namesToChange_27 rfl rfl (g3_iload_n 1 dX0_namesToChange_28 rfl rfl (g3_iload 4 dX0_namesToChange_29 rfl (g3_cV2 dX0_namesToChange_31 myX0_namesFor mlX0_52 (z3 rfl) ob_10 (z3 rfl) (z3 rfl) (kX0_namesFor h.1 (g3_r1 (g3_istore (lv' := [(5, vI (mWnt M x1 x4)), (0, vR 10 0), (1, vI x1), (2, vI x2), (3, vI x3), (4, vI x4)]) dX0_namesToChange_34 (z3 rfl) rfl (g3_iload 0 dX0_namesToChange_36 rfl (g3_iconst dX0_namesToChange_38 (g3_icmp_eq (tgt := 56) dX0_namesToChange_39 rfl h.2.1 (z3 rfl) (fun c => ?_) (fun c => ?_))))))))))
      · have h1 := h; have h := h1.2.2.1 c
        have o3 := h1.1
        have o4 := h1.2.1
        refine g3_iinc (lv' := [(4, vI (x4 + 1)), (5, vI (mWnt M x1 x4)), (0, vR 10 0), (1, vI x1), (2, vI x2), (3, vI x3)]) 5 dX0_namesToChange_56 rfl (z3 rfl) rfl (g3_goto (tgt := 11) dX0_namesToChange_59 rfl (g3_sub [2, 3, 4, 5, 0] rfl h))
      · have h1 := h; have h := h1.2.2.2 c
        have o3 := h1.1
        have o4 := h1.2.1
        refine g3_iload_n 4 dX0_namesToChange_42 rfl rfl (g3_iconst dX0_namesToChange_43 (g3_icmp_eq (tgt := 53) dX0_namesToChange_44 rfl h.1 (z3 rfl) (fun c => ?_) (fun c => ?_)))
        · have h1 := h; have h := h1.2.1 c
          have o5 := h1.1
          refine g3_iload 0 dX0_namesToChange_53 rfl (g3_istore_n (lv' := [(3, vI (mWnt M x1 x4)), (5, vI (mWnt M x1 x4)), (0, vR 10 0), (1, vI x1), (2, vI x2), (4, vI x4)]) dX0_namesToChange_55 rfl (z3 rfl) rfl (g3_iinc (lv' := [(4, vI (x4 + 1)), (3, vI (mWnt M x1 x4)), (5, vI (mWnt M x1 x4)), (0, vR 10 0), (1, vI x1), (2, vI x2)]) 5 dX0_namesToChange_56 rfl (z3 rfl) rfl (g3_goto (tgt := 11) dX0_namesToChange_59 rfl (g3_sub [3, 4, 5, 1, 0] rfl h))))
        · have h1 := h; have h := h1.2.2 c
          have o5 := h1.1
          refine g3_iload 0 dX0_namesToChange_47 rfl (g3_iload_n 4 dX0_namesToChange_49 rfl rfl (g3_icmp_ge (tgt := 56) dX0_namesToChange_50 rfl o4 o5 (fun c => ?_) (fun c => ?_)))
          · have h1 := h; have h := h1.1 c
            refine g3_iinc (lv' := [(4, vI (x4 + 1)), (5, vI (mWnt M x1 x4)), (0, vR 10 0), (1, vI x1), (2, vI x2), (3, vI x3)]) 5 dX0_namesToChange_56 rfl (z3 rfl) rfl (g3_goto (tgt := 11) dX0_namesToChange_59 rfl (g3_sub [2, 3, 4, 5, 0] rfl h))
          · have h1 := h; have h := h1.2 c
            refine g3_iload 0 dX0_namesToChange_53 rfl (g3_istore_n (lv' := [(3, vI (mWnt M x1 x4)), (5, vI (mWnt M x1 x4)), (0, vR 10 0), (1, vI x1), (2, vI x2), (4, vI x4)]) dX0_namesToChange_55 rfl (z3 rfl) rfl (g3_iinc (lv' := [(4, vI (x4 + 1)), (3, vI (mWnt M x1 x4)), (5, vI (mWnt M x1 x4)), (0, vR 10 0), (1, vI x1), (2, vI x2)]) 5 dX0_namesToChange_56 rfl (z3 rfl) rfl (g3_goto (tgt := 11) dX0_namesToChange_59 rfl (g3_sub [3, 4, 5, 1, 0] rfl h))))
    · have h1 := h; have h := h1.2.2 c
      have o2 := h1.1
      refine g3_iconst dX0_namesToChange_23 (g3_goto (tgt := 34) dX0_namesToChange_24 rfl (g3_istore (lv' := [(5, vI (-1)), (0, vR 10 0), (1, vI x1), (2, vI x2), (3, vI x3), (4, vI x4)]) dX0_namesToChange_34 (z3 rfl) rfl (g3_iload 0 dX0_namesToChange_36 rfl (g3_iconst dX0_namesToChange_38 (g3_icmp_eq_T (tgt := 56) dX0_namesToChange_39 rfl trivial (z3 rfl) (g3_iinc (lv' := [(4, vI (x4 + 1)), (5, vI (-1)), (0, vR 10 0), (1, vI x1), (2, vI x2), (3, vI x3)]) 5 dX0_namesToChange_56 rfl (z3 rfl) rfl (g3_goto (tgt := 11) dX0_namesToChange_59 rfl (g3_sub [2, 3, 4, 5, 0] rfl h))))))))
set_option maxRecDepth 20000 in
set_option maxHeartbeats 200000 in
theorem sX0_namesToWin {E : E3} {Q : Q3} {M : M3} {x1 : Int}
    (h : G3 E YX0_namesToWin Q 4 [(0, vR 10 0), (1, vI x1), (2, vI 0), (3, vI 0)] [] M) :
    C3 E YX0_namesToWin [vR 10 0, vI x1] M Q := by
  refine c3_in rfl rfl (z3 rfl) (g3_rm fun hM => ?_)
  refine g3_iconst dX0_namesToWin_0 (g3_istore_n (lv' := [(2, vI 0), (0, vR 10 0), (1, vI x1)]) dX0_namesToWin_1 rfl (z3 rfl) rfl (g3_iconst dX0_namesToWin_2 (g3_istore_n (lv' := [(3, vI 0), (2, vI 0), (0, vR 10 0), (1, vI x1)]) dX0_namesToWin_3 rfl (z3 rfl) rfl (g3_sub [2, 3, 1, 0] rfl h))))
set_option maxRecDepth 20000 in
set_option maxHeartbeats 200000 in
theorem sX0_namesToWin_4 {E : E3} {Q : Q3} {M : M3} {x1 : Int} {x2 : Int} {x3 : Int}
    (h : (-2147483648 ≤ x3 ∧ x3 ≤ 2147483647) ∧ ((6 ≤ x3 → ((-2147483648 ≤ x2 ∧ x2 ≤ 2147483647) ∧ ((-2147483648 ≤ x1 ∧ x1 ≤ 2147483647) ∧ ((x1 ≤ x2 → (G3 E YX0_namesToWin Q 52 [(0, vR 10 0), (1, vI x1), (3, vI 0), (4, vI 0)] [] M)) ∧ (x2 < x1 → (Q (some (vI (-1))) M)))))) ∧ (x3 < 6 → ((IB M ∧ (0 ≤ x3 ∧ x3 ≤ 5) ∧ (0 ≤ (1 : Int) ∧ (1 : Int) ≤ 1)) ∧ ((-2147483648 ≤ mWnt M x3 1 ∧ mWnt M x3 1 ≤ 2147483647) ∧ ((mWnt M x3 1 = (-1) → (G3 E YX0_namesToWin Q 4 [(0, vR 10 0), (1, vI x1), (2, vI x2), (3, vI (x3 + 1))] [] M)) ∧ (mWnt M x3 1 ≠ (-1) → ((preKo M (mWnt M x3 1) x2) ∧ (∀ (N1 : M3), RM3 N1 → (∀ q : Nat, q ∉ ([12] : List Nat) → N1 q = M q) → (poKo M (mWnt M x3 1) x2 N1) → (G3 E YX0_namesToWin Q 4 [(0, vR 10 0), (1, vI x1), (2, vI (x2 + 1)), (3, vI (x3 + 1))] [] N1)))))))))) :
    G3 E YX0_namesToWin Q 4 [(0, vR 10 0), (1, vI x1), (2, vI x2), (3, vI x3)] [] M := by
  refine g3_rm fun hM => ?_
  refine g3_iload_n 3 dX0_namesToWin_4 rfl rfl (g3_bipush dX0_namesToWin_5 rfl (g3_icmp_ge (tgt := 40) dX0_namesToWin_7 rfl h.1 (z3 rfl) (fun c => ?_) (fun c => ?_)))
  · have h1 := h; have h := h1.2.1 c
    have o1 := h1.1
    refine g3_iload_n 2 dX0_namesToWin_40 rfl rfl (g3_iload_n 1 dX0_namesToWin_41 rfl rfl (g3_icmp_ge (tgt := 47) dX0_namesToWin_42 rfl h.1 h.2.1 (fun c => ?_) (fun c => ?_)))
    · have h1 := h; have h := h1.2.2.1 c
      have o2 := h1.1
      have o3 := h1.2.1
      refine g3_iconst dX0_namesToWin_47 (g3_istore_n (lv' := [(3, vI 0), (0, vR 10 0), (1, vI x1), (2, vI x2)]) dX0_namesToWin_48 rfl (z3 rfl) rfl (g3_iconst dX0_namesToWin_49 (g3_istore (lv' := [(4, vI 0), (3, vI 0), (0, vR 10 0), (1, vI x1), (2, vI x2)]) dX0_namesToWin_50 (z3 rfl) rfl (g3_sub [2, 3, 1, 0] rfl h))))
    · have h1 := h; have h := h1.2.2.2 c
      have o2 := h1.1
      have o3 := h1.2.1
      exact g3_iconst dX0_namesToWin_45 (g3_ireturn dX0_namesToWin_46 rfl h)
  · have h1 := h; have h := h1.2.2 c
    have o1 := h1.1
    refine g3_aload_n 0 dX0_namesToWin_10 rfl rfl (g3_iload_n 3 dX0_namesToWin_11 rfl rfl (g3_iconst dX0_namesToWin_12 (g3_cV2 dX0_namesToWin_13 myX0_namesFor mlX0_52 (z3 rfl) ob_10 (z3 rfl) (z3 rfl) (kX0_namesFor h.1 (g3_r1 (g3_istore (lv' := [(4, vI (mWnt M x3 1)), (0, vR 10 0), (1, vI x1), (2, vI x2), (3, vI x3)]) dX0_namesToWin_16 (z3 rfl) rfl (g3_iload 0 dX0_namesToWin_18 rfl (g3_iconst dX0_namesToWin_20 (g3_icmp_eq (tgt := 34) dX0_namesToWin_21 rfl h.2.1 (z3 rfl) (fun c => ?_) (fun c => ?_))))))))))
    · have h1 := h; have h := h1.2.2.1 c
      have o4 := h1.1
      have o5 := h1.2.1
      refine g3_iinc (lv' := [(3, vI (x3 + 1)), (4, vI (mWnt M x3 1)), (0, vR 10 0), (1, vI x1), (2, vI x2)]) 4 dX0_namesToWin_34 rfl (z3 rfl) rfl (g3_goto (tgt := 4) dX0_namesToWin_37 rfl (g3_sub [2, 3, 4, 0] rfl h))
    · have h1 := h; have h := h1.2.2.2 c
      have o4 := h1.1
      have o5 := h1.2.1
      refine g3_aload_n 1 dX0_namesToWin_24 rfl rfl (g3_iload 0 dX0_namesToWin_25 rfl (g3_iload_n 3 dX0_namesToWin_27 rfl rfl (g3_cV2 dX0_namesToWin_28 myX0_keepInOrder mlX0_56 (z3 rfl) ob_10 (z3 rfl) (z3 rfl) (kX0_keepInOrder h.1 (fun N1 hN1 hf1 hp1 => ?_)))))
      have o6 := h.1
      have h := h.2 N1 hN1 hf1 hp1
      refine g3_r0 ?_
      refine g3_iinc (lv' := [(2, vI (x2 + 1)), (4, vI (mWnt M x3 1)), (0, vR 10 0), (1, vI x1), (3, vI x3)]) 3 dX0_namesToWin_31 rfl (z3 rfl) rfl (g3_iinc (lv' := [(3, vI (x3 + 1)), (2, vI (x2 + 1)), (4, vI (mWnt M x3 1)), (0, vR 10 0), (1, vI x1)]) 4 dX0_namesToWin_34 rfl (z3 rfl) rfl (g3_goto (tgt := 4) dX0_namesToWin_37 rfl (g3_sub [3, 4, 1, 0] rfl h)))
set_option maxRecDepth 20000 in
set_option maxHeartbeats 200000 in
theorem sX0_namesToWin_52 {E : E3} {Q : Q3} {M : M3} {x1 : Int} {x3 : Int} {x4 : Int}
    (h : (-2147483648 ≤ x4 ∧ x4 ≤ 2147483647) ∧ ((-2147483648 ≤ x1 ∧ x1 ≤ 2147483647) ∧ ((x1 ≤ x4 → (Q (some (vI x3)) M)) ∧ (x4 < x1 → ((0 ≤ x4 ∧ x4 < 6) ∧ (G3 E YX0_namesToWin Q 52 [(0, vR 10 0), (1, vI x1), (3, vI (x3 + (M 12 0 x4))), (4, vI (x4 + 1))] [] M)))))) :
    G3 E YX0_namesToWin Q 52 [(0, vR 10 0), (1, vI x1), (3, vI x3), (4, vI x4)] [] M := by
  refine g3_rm fun hM => ?_
  refine g3_iload 3 dX0_namesToWin_52 rfl (g3_iload_n 1 dX0_namesToWin_54 rfl rfl (g3_icmp_ge (tgt := 74) dX0_namesToWin_55 rfl h.1 h.2.1 (fun c => ?_) (fun c => ?_)))
  · have h1 := h; have h := h1.2.2.1 c
    have o1 := h1.1
    have o2 := h1.2.1
    exact g3_iload_n 2 dX0_namesToWin_74 rfl rfl (g3_ireturn dX0_namesToWin_75 rfl h)
  · have h1 := h; have h := h1.2.2.2 c
    have o1 := h1.1
    have o2 := h1.2.1
    refine g3_iload_n 2 dX0_namesToWin_58 rfl rfl (g3_aload_n 0 dX0_namesToWin_59 rfl rfl (g3_getR0 (t := 12) dX0_namesToWin_60 flX0_17 rfl (z3 rfl) (g3_iload 3 dX0_namesToWin_63 rfl (g3_iald dX0_namesToWin_65 ar_12 (z3 rfl) h.1 (g3_iadd dX0_namesToWin_66 (g3_istore_n (lv' := [(3, vI (x3 + (M 12 0 x4))), (0, vR 10 0), (1, vI x1), (4, vI x4)]) dX0_namesToWin_67 rfl (z3 rfl) rfl (g3_iinc (lv' := [(4, vI (x4 + 1)), (3, vI (x3 + (M 12 0 x4))), (0, vR 10 0), (1, vI x1)]) 3 dX0_namesToWin_68 rfl (z3 rfl) rfl (g3_goto (tgt := 52) dX0_namesToWin_71 rfl (g3_sub [2, 3, 1, 0] rfl h.2)))))))))
set_option maxRecDepth 20000 in
set_option maxHeartbeats 200000 in
theorem sX7_print {E : E3} {Q : Q3} {M : M3}
    (h : (-2147483648 ≤ (M 36 0 0) + 1 ∧ (M 36 0 0) + 1 ≤ 2147483647) ∧ ((0 ≤ M 36 0 0 ∧ M 36 0 0 < 30) ∧ (((0 ≤ (up3 (up3 M 36 0 0 ((M 36 0 0) + 1)) 37 0 (M 36 0 0) (M 2 0 0)) 10 0 0 ∧ (up3 (up3 M 36 0 0 ((M 36 0 0) + 1)) 37 0 (M 36 0 0) (M 2 0 0)) 10 0 0 ≤ 48) ∧ (-2147483648 ≤ ((-1) : Int) ∧ ((-1) : Int) ≤ 2147483647) ∧ (-2147483648 ≤ ((-1) : Int) ∧ ((-1) : Int) ≤ 2147483647) ∧ (-2147483648 ≤ (1 : Int) ∧ (1 : Int) ≤ 2147483647)) ∧ ((-2147483648 ≤ fTally (up3 (up3 M 36 0 0 ((M 36 0 0) + 1)) 37 0 (M 36 0 0) (M 2 0 0)) (-1) (-1) 1 ∧ fTally (up3 (up3 M 36 0 0 ((M 36 0 0) + 1)) 37 0 (M 36 0 0) (M 2 0 0)) (-1) (-1) 1 ≤ 2147483647) ∧ ((iCty (up3 (up3 (up3 M 36 0 0 ((M 36 0 0) + 1)) 37 0 (M 36 0 0) (M 2 0 0)) 38 0 (M 36 0 0) (fTally (up3 (up3 M 36 0 0 ((M 36 0 0) + 1)) 37 0 (M 36 0 0) (M 2 0 0)) (-1) (-1) 1))) ∧ (∀ (r1 : Int) (N1 : M3), RM3 N1 → (∀ q : Nat, q ∉ ([13, 41] : List Nat) → N1 q = (up3 (up3 (up3 M 36 0 0 ((M 36 0 0) + 1)) 37 0 (M 36 0 0) (M 2 0 0)) 38 0 (M 36 0 0) (fTally (up3 (up3 M 36 0 0 ((M 36 0 0) + 1)) 37 0 (M 36 0 0) (M 2 0 0)) (-1) (-1) 1)) q) → (poDo (up3 (up3 (up3 M 36 0 0 ((M 36 0 0) + 1)) 37 0 (M 36 0 0) (M 2 0 0)) 38 0 (M 36 0 0) (fTally (up3 (up3 M 36 0 0 ((M 36 0 0) + 1)) 37 0 (M 36 0 0) (M 2 0 0)) (-1) (-1) 1)) r1 N1) → ((-2147483648 ≤ r1 ∧ r1 ≤ 2147483647) ∧ ((preFr (up3 N1 39 0 (M 36 0 0) r1)) ∧ (∀ (r2 : Int) (N2 : M3), RM3 N2 → (∀ q : Nat, q ∉ ([13] : List Nat) → N2 q = (up3 N1 39 0 (M 36 0 0) r1) q) → (poFr (up3 N1 39 0 (M 36 0 0) r1) r2 N2) → ((-2147483648 ≤ r2 ∧ r2 ≤ 2147483647) ∧ (Q (some (vI r1)) (up3 N2 40 0 (M 36 0 0) r2)))))))))))) :
    C3 E YX7_print [vR 36 0] M Q := by
  refine c3_in rfl rfl (z3 rfl) (g3_rm fun hM => ?_)
  refine g3_aload_n 0 dX7_print_0 rfl rfl (g3_getI (t := 0) dX7_print_1 flX7_35 (z3 rfl) (z3 rfl) (g3_istore_n (lv' := [(1, vI (M 36 0 0)), (0, vR 36 0)]) dX7_print_4 rfl (z3 rfl) rfl (g3_aload_n 1 dX7_print_5 rfl rfl (g3_dup dX7_print_6 rfl (g3_getI (t := 0) dX7_print_7 flX7_35 (z3 rfl) (z3 rfl) (g3_iconst dX7_print_10 (g3_iadd dX7_print_11 (g3_put dX7_print_12 fpX7_35 (Or.inl rfl) (z3 rfl) h.1 (g3_aload_n 1 dX7_print_15 rfl rfl (g3_getR0 (t := 37) dX7_print_16 flX7_11 rfl (z3 rfl) (g3_iload_n 0 dX7_print_19 rfl rfl (g3_aload_n 1 dX7_print_20 rfl rfl (g3_getR0 (t := 2) dX7_print_21 flX7_31 rfl (z3 rfl) (g3_getI (t := 0) dX7_print_24 flX7_39 (z3 rfl) (z3 rfl) (g3_val (up3_nr (by decide)) (g3_iast dX7_print_27 ar_37 (z3 rfl) h.2.1 (hM 2 0 0) (g3_aload_n 1 dX7_print_28 rfl rfl (g3_getR0 (t := 38) dX7_print_29 flX7_15 rfl (z3 rfl) (g3_iload_n 0 dX7_print_32 rfl rfl (g3_aload_n 1 dX7_print_33 rfl rfl (g3_getR0 (t := 10) dX7_print_34 flX7_27 rfl (z3 rfl) (g3_iconst dX7_print_37 (g3_iconst dX7_print_38 (g3_iconst dX7_print_39 (g3_cV3 dX7_print_40 myX0_tally mlX7_44 (z3 rfl) ob_10 (z3 rfl) (z3 rfl) (kX0_tally h.2.2.1 (g3_r1 (g3_iast dX7_print_43 ar_38 (z3 rfl) h.2.1 h.2.2.2.1 (g3_aload_n 1 dX7_print_44 rfl rfl (g3_getR0 (t := 39) dX7_print_45 flX7_18 rfl (z3 rfl) (g3_iload_n 0 dX7_print_48 rfl rfl (g3_aload_n 1 dX7_print_49 rfl rfl (g3_cV0 dX7_print_50 myX7_driveOut mlX7_50 (z3 rfl) ob_36 (z3 rfl) (z3 rfl) (kX7_driveOut h.2.2.2.2.1 (fun r1 N1 hN1 hf1 hp1 => ?_)))))))))))))))))))))))))))))))))))
  have o1 := h.1
  have o2 := h.2.1
  have o3 := h.2.2.1
  have o4 := h.2.2.2.1
  have o5 := h.2.2.2.2.1
  have h := h.2.2.2.2.2 r1 N1 hN1 hf1 hp1
  refine g3_r1 ?_
  refine g3_iast dX7_print_53 ar_39 (z3 rfl) o2 h.1 (g3_aload_n 1 dX7_print_54 rfl rfl (g3_getR0 (t := 40) dX7_print_55 flX7_21 rfl (z3 rfl) (g3_iload_n 0 dX7_print_58 rfl rfl (g3_aload_n 1 dX7_print_59 rfl rfl (g3_cV0 dX7_print_60 myX7_frighten mlX7_54 (z3 rfl) ob_36 (z3 rfl) (z3 rfl) (kX7_frighten h.2.1 (fun r2 N2 hN2 hf2 hp2 => ?_)))))))
  have o6 := h.1
  have o7 := h.2.1
  have h := h.2.2 r2 N2 hN2 hf2 hp2
  refine g3_r1 ?_
  exact g3_iast dX7_print_63 ar_40 (z3 rfl) o2 h.1 (g3_aload_n 1 dX7_print_64 rfl rfl (g3_getR0 (t := 39) dX7_print_65 flX7_18 rfl (z3 rfl) (g3_iload_n 0 dX7_print_68 rfl rfl (g3_iald dX7_print_69 ar_39 (z3 rfl) o2 (g3_val (((up3_nr (by decide)).trans (cg3 (hf2 39 (by decide)) _ _)).trans (up3_eq)) (g3_ireturn dX7_print_70 rfl h.2))))))
