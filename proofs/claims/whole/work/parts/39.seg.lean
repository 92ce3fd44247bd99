set_option maxRecDepth 20000 in
set_option maxHeartbeats 200000 in
theorem sX12_rightOf {E : E3} {Q : Q3} {M : M3} {x1 x2 : Int}
    (h : (RdC M ∧ (0 ≤ x1 ∧ x1 < 24) ∧ 0 ≤ x2 ∧ x2 ≤ 399) ∧ (∀ (N1 : M3), RM3 N1 → (∀ q : Nat, q ∉ ([44, 53, 54, 55] : List Nat) → N1 q = M q) → (∀ j : Int, j ∉ ([11, 12, 13, 17] : List Int) → N1 44 0 j = M 44 0 j) → (RdC N1 ∧ N1 44 0 11 = 1) → ((-2147483648 ≤ sPt (LM3 M) x1 x2 ∧ sPt (LM3 M) x1 x2 ≤ 2147483647) ∧ ((sPt (LM3 M) x1 x2 ≠ (-1) → ((0 ≤ sPt (LM3 M) x1 x2 ∧ sPt (LM3 M) x1 x2 < 60) ∧ (Q (some (vI (N1 54 0 (sPt (LM3 M) x1 x2)))) N1))) ∧ (sPt (LM3 M) x1 x2 = (-1) → (Q (some (vI (-1))) N1)))))) :
    C3 E YX12_rightOf [vR 44 0, vI x1, vI x2] M Q := by
  refine c3_in rfl rfl (z3 rfl) (g3_rm fun hM => ?_)
  refine g3_aload_n 0 dX12_rightOf_0 rfl rfl (g3_iload_n 1 dX12_rightOf_1 rfl rfl (g3_iload_n 2 dX12_rightOf_2 rfl rfl (g3_cV2 dX12_rightOf_3 myX12_partOf mlX12_207 (z3 rfl) ob_44 (z3 rfl) (z3 rfl) (kX12_partOf h.1 (fun N1 hN1 hf1 hs1 hp1 => ?_)))))
  have o1 := h.1
  have h := h.2 N1 hN1 hf1 hs1 hp1
  refine g3_r1 ?_
  refine g3_istore_n (lv' := [(3, vI (sPt (LM3 M) x1 x2)), (0, vR 44 0), (1, vI x1), (2, vI x2)]) dX12_rightOf_6 rfl (z3 rfl) rfl (g3_iload_n 0 dX12_rightOf_7 rfl rfl (g3_iconst dX12_rightOf_8 (g3_icmp_ne (tgt := 16) dX12_rightOf_9 rfl h.1 (z3 rfl) (fun c => ?_) (fun c => ?_))))
  · have h1 := h; have h := h1.2.1 c
    have o2 := h1.1
    exact g3_aload_n 1 dX12_rightOf_16 rfl rfl (g3_getR0 (t := 54) dX12_rightOf_17 flX12_37 rfl (z3 rfl) (g3_iload_n 0 dX12_rightOf_20 rfl rfl (g3_iald dX12_rightOf_21 ar_54 (z3 rfl) h.1 (g3_ireturn dX12_rightOf_22 rfl h.2))))
  · have h1 := h; have h := h1.2.2 c
    have o2 := h1.1
    exact g3_iconst dX12_rightOf_12 (g3_goto (tgt := 22) dX12_rightOf_13 rfl (g3_ireturn dX12_rightOf_22 rfl h))
set_option maxRecDepth 20000 in
set_option maxHeartbeats 200000 in
theorem sX12_lawOf {E : E3} {Q : Q3} {M : M3} {x1 x2 : Int}
    (h : (RdC M ∧ (0 ≤ (20 + x1) ∧ (20 + x1) < 24) ∧ 0 ≤ x2 ∧ x2 ≤ 399) ∧ (∀ (N1 : M3), RM3 N1 → (∀ q : Nat, q ∉ ([44, 53, 54, 55] : List Nat) → N1 q = M q) → (∀ j : Int, j ∉ ([11, 12, 13, 17] : List Int) → N1 44 0 j = M 44 0 j) → (RdC N1 ∧ N1 44 0 11 = 1) → ((-2147483648 ≤ sPt (LM3 M) (20 + x1) x2 ∧ sPt (LM3 M) (20 + x1) x2 ≤ 2147483647) ∧ ((sPt (LM3 M) (20 + x1) x2 = (-1) → ((-2147483648 ≤ x1 ∧ x1 ≤ 2147483647) ∧ ((x1 ≠ 0 → ((x1 ≠ 1 → ((x1 ≠ 2 → (Q (some (vI 99)) N1)) ∧ (x1 = 2 → (Q (some (vI 0)) N1)))) ∧ (x1 = 1 → (Q (some (vI 3)) N1)))) ∧ (x1 = 0 → (Q (some (vI 1)) N1))))) ∧ (sPt (LM3 M) (20 + x1) x2 ≠ (-1) → ((0 ≤ sPt (LM3 M) (20 + x1) x2 ∧ sPt (LM3 M) (20 + x1) x2 < 60) ∧ (Q (some (vI (N1 54 0 (sPt (LM3 M) (20 + x1) x2)))) N1))))))) :
    C3 E YX12_lawOf [vR 44 0, vI x1, vI x2] M Q := by
  refine c3_in rfl rfl (z3 rfl) (g3_rm fun hM => ?_)
  refine g3_aload_n 0 dX12_lawOf_0 rfl rfl (g3_bipush dX12_lawOf_1 rfl (g3_iload_n 1 dX12_lawOf_3 rfl rfl (g3_iadd dX12_lawOf_4 (g3_iload_n 2 dX12_lawOf_5 rfl rfl (g3_cV2 dX12_lawOf_6 myX12_partOf mlX12_207 (z3 rfl) ob_44 (z3 rfl) (z3 rfl) (kX12_partOf h.1 (fun N1 hN1 hf1 hs1 hp1 => ?_)))))))
  have o1 := h.1
  have h := h.2 N1 hN1 hf1 hs1 hp1
  refine g3_r1 ?_
  refine g3_istore_n (lv' := [(3, vI (sPt (LM3 M) (20 + x1) x2)), (0, vR 44 0), (1, vI x1), (2, vI x2)]) dX12_lawOf_9 rfl (z3 rfl) rfl (g3_iload_n 0 dX12_lawOf_10 rfl rfl (g3_iconst dX12_lawOf_11 (g3_icmp_eq (tgt := 24) dX12_lawOf_12 rfl h.1 (z3 rfl) (fun c => ?_) (fun c => ?_))))
  · have h1 := h; have h := h1.2.1 c
    have o2 := h1.1
    refine g3_iload_n 2 dX12_lawOf_24 rfl rfl (g3_if_ne (tgt := 32) dX12_lawOf_25 rfl h.1 (fun c => ?_) (fun c => ?_))
    · have h1 := h; have h := h1.2.1 c
      have o3 := h1.1
      refine g3_iload_n 2 dX12_lawOf_32 rfl rfl (g3_iconst dX12_lawOf_33 (g3_icmp_ne (tgt := 41) dX12_lawOf_34 rfl o3 (z3 rfl) (fun c => ?_) (fun c => ?_)))
      · have h1 := h; have h := h1.1 c
        refine g3_iload_n 2 dX12_lawOf_41 rfl rfl (g3_iconst dX12_lawOf_42 (g3_icmp_ne (tgt := 50) dX12_lawOf_43 rfl o3 (z3 rfl) (fun c => ?_) (fun c => ?_)))
        · have h1 := h; have h := h1.1 c
          exact g3_bipush dX12_lawOf_50 rfl (g3_ireturn dX12_lawOf_52 rfl h)
        · have h1 := h; have h := h1.2 c
          exact g3_iconst dX12_lawOf_46 (g3_goto (tgt := 52) dX12_lawOf_47 rfl (g3_ireturn dX12_lawOf_52 rfl h))
      · have h1 := h; have h := h1.2 c
        exact g3_iconst dX12_lawOf_37 (g3_goto (tgt := 52) dX12_lawOf_38 rfl (g3_ireturn dX12_lawOf_52 rfl h))
    · have h1 := h; have h := h1.2.2 c
      have o3 := h1.1
      exact g3_iconst dX12_lawOf_28 (g3_goto (tgt := 52) dX12_lawOf_29 rfl (g3_ireturn dX12_lawOf_52 rfl h))
  · have h1 := h; have h := h1.2.2 c
    have o2 := h1.1
    exact g3_aload_n 1 dX12_lawOf_15 rfl rfl (g3_getR0 (t := 54) dX12_lawOf_16 flX12_37 rfl (z3 rfl) (g3_iload_n 0 dX12_lawOf_19 rfl rfl (g3_iald dX12_lawOf_20 ar_54 (z3 rfl) h.1 (g3_goto (tgt := 52) dX12_lawOf_21 rfl (g3_ireturn dX12_lawOf_52 rfl h.2)))))
