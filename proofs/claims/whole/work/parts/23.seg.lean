set_option maxRecDepth 20000 in
set_option maxHeartbeats 200000 in
theorem sX4_parse {E : E3} {Q : Q3} {M : M3}
    (h : G3 E YX4_parse Q 22 [(0, vR 3 0), (1, vI 0)] [] (up3 (up3 (up3 (up3 M 3 0 10 (-1)) 3 0 4 0) 3 0 3 0) 3 0 1 (-1))) :
    C3 E YX4_parse [vR 3 0] M Q := by
  refine c3_in rfl rfl (z3 rfl) (g3_rm fun hM => ?_)
  refine g3_aload_n 0 dX4_parse_0 rfl rfl (g3_iconst dX4_parse_1 (g3_put dX4_parse_2 fpX4_30 (Or.inl rfl) (z3 rfl) (z3 rfl) (g3_aload_n 0 dX4_parse_5 rfl rfl (g3_iconst dX4_parse_6 (g3_put dX4_parse_7 fpX4_59 (Or.inl rfl) (z3 rfl) (z3 rfl) (g3_aload_n 0 dX4_parse_10 rfl rfl (g3_iconst dX4_parse_11 (g3_put dX4_parse_12 fpX4_62 (Or.inl rfl) (z3 rfl) (z3 rfl) (g3_aload_n 0 dX4_parse_15 rfl rfl (g3_iconst dX4_parse_16 (g3_put dX4_parse_17 fpX4_65 (Or.inl rfl) (z3 rfl) (z3 rfl) (g3_iconst dX4_parse_20 (g3_istore_n (lv' := [(1, vI 0), (0, vR 3 0)]) dX4_parse_21 rfl (z3 rfl) rfl (g3_sub [1, 0] rfl h))))))))))))))
set_option maxRecDepth 20000 in
set_option maxHeartbeats 200000 in
theorem sX4_parse_22 {E : E3} {Q : Q3} {M : M3} {x1 : Int}
    (h : (-2147483648 ≤ x1 ∧ x1 ≤ 2147483647) ∧ ((50 < x1 → ((M 3 0 1 = (-1) → (Q none M)) ∧ (M 3 0 1 ≠ (-1) → (Q none (up3 M 3 0 4 0))))) ∧ (x1 ≤ 50 → ((preTake M) ∧ (∀ (r1 : Int) (N1 : M3), RM3 N1 → (∀ q : Nat, q ∉ ([3, 5, 6, 7] : List Nat) → N1 q = M q) → (poTake M r1 N1) → ((-2147483648 ≤ r1 ∧ r1 ≤ 2147483647) ∧ ((r1 = 0 → ((N1 3 0 1 = (-1) → (Q none N1)) ∧ (N1 3 0 1 ≠ (-1) → (Q none (up3 N1 3 0 4 0))))) ∧ (r1 ≠ 0 → ((N1 3 0 0 ≤ N1 3 0 3 → ((N1 3 0 1 = (-1) → (Q none N1)) ∧ (N1 3 0 1 ≠ (-1) → (Q none (up3 N1 3 0 4 0))))) ∧ (N1 3 0 3 < N1 3 0 0 → ((N1 3 0 0 ≤ N1 3 0 3 → ((-2147483648 ≤ N1 3 0 3 ∧ N1 3 0 3 ≤ 2147483647) ∧ ((N1 3 0 3 = (-1) → (Q none (up3 N1 3 0 1 (N1 3 0 3)))) ∧ (N1 3 0 3 ≠ (-1) → (Q none (up3 (up3 N1 3 0 1 (N1 3 0 3)) 3 0 4 0)))))) ∧ (N1 3 0 3 < N1 3 0 0 → ((0 ≤ N1 3 0 3 ∧ N1 3 0 3 < 200) ∧ ((M 4 0 (N1 3 0 3) = 59 → ((-2147483648 ≤ (N1 3 0 3) + 1 ∧ (N1 3 0 3) + 1 ≤ 2147483647) ∧ (G3 E YX4_parse Q 22 [(0, vR 3 0), (1, vI (x1 + 1))] [] (up3 N1 3 0 3 ((N1 3 0 3) + 1))))) ∧ (M 4 0 (N1 3 0 3) ≠ 59 → ((-2147483648 ≤ N1 3 0 3 ∧ N1 3 0 3 ≤ 2147483647) ∧ ((N1 3 0 3 = (-1) → (Q none (up3 N1 3 0 1 (N1 3 0 3)))) ∧ (N1 3 0 3 ≠ (-1) → (Q none (up3 (up3 N1 3 0 1 (N1 3 0 3)) 3 0 4 0)))))))))))))))))))) :
    G3 E YX4_parse Q 22 [(0, vR 3 0), (1, vI x1)] [] M := by
  refine g3_rm fun hM => ?_
  refine g3_iload_n 1 dX4_parse_22 rfl rfl (g3_bipush dX4_parse_23 rfl (g3_icmp_gt (tgt := 64) dX4_parse_25 rfl h.1 (z3 rfl) (fun c => ?_) (fun c => ?_)))
  · have h1 := h; have h := h1.2.1 c
    have o1 := h1.1
    refine g3_aload_n 0 dX4_parse_64 rfl rfl (g3_getI (t := 0) dX4_parse_65 flX4_65 (z3 rfl) (z3 rfl) (g3_iconst dX4_parse_68 (g3_icmp_eq (tgt := 77) dX4_parse_69 rfl (hM 3 0 1) (z3 rfl) (fun c => ?_) (fun c => ?_))))
    · have h1 := h; have h := h1.1 c
      exact g3_return dX4_parse_77 rfl h
    · have h1 := h; have h := h1.2 c
      exact g3_aload_n 0 dX4_parse_72 rfl rfl (g3_iconst dX4_parse_73 (g3_put dX4_parse_74 fpX4_59 (Or.inl rfl) (z3 rfl) (z3 rfl) (g3_return dX4_parse_77 rfl h)))
  · have h1 := h; have h := h1.2.2 c
    have o1 := h1.1
    refine g3_aload_n 0 dX4_parse_28 rfl rfl (g3_cV0 dX4_parse_29 myX4_takePart mlX4_68 (z3 rfl) ob_3 (z3 rfl) (z3 rfl) (kX4_takePart h.1 (fun r1 N1 hN1 hf1 hp1 => ?_)))
    have o2 := h.1
    have h := h.2 r1 N1 hN1 hf1 hp1
    refine g3_r1 ?_
    refine g3_if_eq (tgt := 64) dX4_parse_32 rfl h.1 (fun c => ?_) (fun c => ?_)
    · have h1 := h; have h := h1.2.1 c
      have o3 := h1.1
      refine g3_aload_n 0 dX4_parse_64 rfl rfl (g3_getI (t := 0) dX4_parse_65 flX4_65 (z3 rfl) (z3 rfl) (g3_iconst dX4_parse_68 (g3_icmp_eq (tgt := 77) dX4_parse_69 rfl (hN1 3 0 1) (z3 rfl) (fun c => ?_) (fun c => ?_))))
      · have h1 := h; have h := h1.1 c
        exact g3_return dX4_parse_77 rfl h
      · have h1 := h; have h := h1.2 c
        exact g3_aload_n 0 dX4_parse_72 rfl rfl (g3_iconst dX4_parse_73 (g3_put dX4_parse_74 fpX4_59 (Or.inl rfl) (z3 rfl) (z3 rfl) (g3_return dX4_parse_77 rfl h)))
    · have h1 := h; have h := h1.2.2 c
      have o3 := h1.1
      refine g3_aload_n 0 dX4_parse_35 rfl rfl (g3_getI (t := 0) dX4_parse_36 flX4_62 (z3 rfl) (z3 rfl) (g3_aload_n 0 dX4_parse_39 rfl rfl (g3_getI (t := 0) dX4_parse_40 flX4_34 (z3 rfl) (z3 rfl) (g3_icmp_ge (tgt := 64) dX4_parse_43 rfl (hN1 3 0 3) (hN1 3 0 0) (fun c => ?_) (fun c => ?_)))))
      · have h1 := h; have h := h1.1 c
        refine g3_aload_n 0 dX4_parse_64 rfl rfl (g3_getI (t := 0) dX4_parse_65 flX4_65 (z3 rfl) (z3 rfl) (g3_iconst dX4_parse_68 (g3_icmp_eq (tgt := 77) dX4_parse_69 rfl (hN1 3 0 1) (z3 rfl) (fun c => ?_) (fun c => ?_))))
        · have h1 := h; have h := h1.1 c
          exact g3_return dX4_parse_77 rfl h
        · have h1 := h; have h := h1.2 c
          exact g3_aload_n 0 dX4_parse_72 rfl rfl (g3_iconst dX4_parse_73 (g3_put dX4_parse_74 fpX4_59 (Or.inl rfl) (z3 rfl) (z3 rfl) (g3_return dX4_parse_77 rfl h)))
      · have h1 := h; have h := h1.2 c
        refine g3_aload_n 0 dX4_parse_46 rfl rfl (g3_bipush dX4_parse_47 rfl (g3_cV1 dX4_parse_49 myX4_takeSign mlX4_72 (z3 rfl) ob_3 (z3 rfl) (z3 rfl) (c3_in rfl rfl (z3 rfl) (g3_aload_n 0 dX4_takeSign_0 rfl rfl (g3_getI (t := 0) dX4_takeSign_1 flX4_62 (z3 rfl) (z3 rfl) (g3_aload_n 0 dX4_takeSign_4 rfl rfl (g3_getI (t := 0) dX4_takeSign_5 flX4_34 (z3 rfl) (z3 rfl) (g3_icmp_ge (tgt := 24) dX4_takeSign_8 rfl (hN1 3 0 3) (hN1 3 0 0) (fun c => ?_) (fun c => ?_)))))))))
        · have h1 := h; have h := h1.1 c
          refine g3_aload_n 0 dX4_takeSign_24 rfl rfl (g3_aload_n 0 dX4_takeSign_25 rfl rfl (g3_getI (t := 0) dX4_takeSign_26 flX4_62 (z3 rfl) (z3 rfl) (g3_put dX4_takeSign_29 fpX4_65 (Or.inl rfl) (z3 rfl) (hN1 3 0 3) (g3_iconst dX4_takeSign_32 (g3_zreturn dX4_takeSign_33 rfl (Or.inl rfl) (g3_r1 (g3_if_ne_F (tgt := 58) dX4_parse_52 rfl (z3 rfl) (g3_goto (tgt := 64) dX4_parse_55 rfl (g3_aload_n 0 dX4_parse_64 rfl rfl (g3_getI (t := 0) dX4_parse_65 flX4_65 (z3 rfl) (z3 rfl) (g3_val (up3_eq) (g3_iconst dX4_parse_68 (g3_icmp_eq (tgt := 77) dX4_parse_69 rfl h.1 (z3 rfl) (fun c => ?_) (fun c => ?_))))))))))))))
          · have h1 := h; have h := h1.2.1 c
            have o4 := h1.1
            exact g3_return dX4_parse_77 rfl h
          · have h1 := h; have h := h1.2.2 c
            have o4 := h1.1
            exact g3_aload_n 0 dX4_parse_72 rfl rfl (g3_iconst dX4_parse_73 (g3_put dX4_parse_74 fpX4_59 (Or.inl rfl) (z3 rfl) (z3 rfl) (g3_return dX4_parse_77 rfl h)))
        · have h1 := h; have h := h1.2 c
          refine g3_aload_n 0 dX4_takeSign_11 rfl rfl (g3_getR0 (t := 4) dX4_takeSign_12 flX4_11 rfl (z3 rfl) (g3_aload_n 0 dX4_takeSign_15 rfl rfl (g3_getI (t := 0) dX4_takeSign_16 flX4_62 (z3 rfl) (z3 rfl) (g3_iald dX4_takeSign_19 ar_4 (z3 rfl) h.1 (g3_val (cg3 (hf1 4 (by decide)) _ _) (g3_iload_n 1 dX4_takeSign_20 rfl rfl (g3_icmp_eq (tgt := 34) dX4_takeSign_21 rfl (hM 4 0 (N1 3 0 3)) (z3 rfl) (fun c => ?_) (fun c => ?_))))))))
          · have h1 := h; have h := h1.2.1 c
            have o5 := h1.1
            refine g3_aload_n 0 dX4_takeSign_34 rfl rfl (g3_dup dX4_takeSign_35 rfl (g3_getI (t := 0) dX4_takeSign_36 flX4_62 (z3 rfl) (z3 rfl) (g3_iconst dX4_takeSign_39 (g3_iadd dX4_takeSign_40 (g3_put dX4_takeSign_41 fpX4_62 (Or.inl rfl) (z3 rfl) h.1 (g3_iconst dX4_takeSign_44 (g3_zreturn dX4_takeSign_45 rfl (Or.inr rfl) (g3_r1 (g3_if_ne_T (tgt := 58) dX4_parse_52 rfl (z3 rfl) (g3_iinc (lv' := [(1, vI (x1 + 1)), (0, vR 3 0)]) 1 dX4_parse_58 rfl (z3 rfl) rfl (g3_goto (tgt := 22) dX4_parse_61 rfl (g3_sub [1, 0] rfl h.2))))))))))))
          · have h1 := h; have h := h1.2.2 c
            have o5 := h1.1
            refine g3_aload_n 0 dX4_takeSign_24 rfl rfl (g3_aload_n 0 dX4_takeSign_25 rfl rfl (g3_getI (t := 0) dX4_takeSign_26 flX4_62 (z3 rfl) (z3 rfl) (g3_put dX4_takeSign_29 fpX4_65 (Or.inl rfl) (z3 rfl) (hN1 3 0 3) (g3_iconst dX4_takeSign_32 (g3_zreturn dX4_takeSign_33 rfl (Or.inl rfl) (g3_r1 (g3_if_ne_F (tgt := 58) dX4_parse_52 rfl (z3 rfl) (g3_goto (tgt := 64) dX4_parse_55 rfl (g3_aload_n 0 dX4_parse_64 rfl rfl (g3_getI (t := 0) dX4_parse_65 flX4_65 (z3 rfl) (z3 rfl) (g3_val (up3_eq) (g3_iconst dX4_parse_68 (g3_icmp_eq (tgt := 77) dX4_parse_69 rfl h.1 (z3 rfl) (fun c => ?_) (fun c => ?_))))))))))))))
            · have h1 := h; have h := h1.2.1 c
              have o7 := h1.1
              exact g3_return dX4_parse_77 rfl h
            · have h1 := h; have h := h1.2.2 c
              have o7 := h1.1
              exact g3_aload_n 0 dX4_parse_72 rfl rfl (g3_iconst dX4_parse_73 (g3_put dX4_parse_74 fpX4_59 (Or.inl rfl) (z3 rfl) (z3 rfl) (g3_return dX4_parse_77 rfl h)))
