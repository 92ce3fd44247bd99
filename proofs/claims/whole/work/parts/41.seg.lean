set_option maxRecDepth 20000 in
set_option maxHeartbeats 200000 in
theorem sX12_rightMany {E : E3} {Q : Q3} {M : M3}
    (h : G3 E YX12_rightMany Q 4 [(0, vR 44 0), (1, vI 0), (2, vI 0)] [] M) :
    C3 E YX12_rightMany [vR 44 0] M Q := by
  refine c3_in rfl rfl (z3 rfl) (g3_rm fun hM => ?_)
  refine g3_iconst dX12_rightMany_0 (g3_istore_n (lv' := [(1, vI 0), (0, vR 44 0)]) dX12_rightMany_1 rfl (z3 rfl) rfl (g3_iconst dX12_rightMany_2 (g3_istore_n (lv' := [(2, vI 0), (1, vI 0), (0, vR 44 0)]) dX12_rightMany_3 rfl (z3 rfl) rfl (g3_sub [2, 1, 0] rfl h))))
set_option maxRecDepth 20000 in
set_option maxHeartbeats 200000 in
theorem sX12_rightMany_4 {E : E3} {Q : Q3} {M : M3} {x1 : Int} {x2 : Int}
    (h : (-2147483648 ≤ x2 ∧ x2 ≤ 2147483647) ∧ ((20 ≤ x2 → (Q (some (vI x1)) M)) ∧ (x2 < 20 → ((RdC M ∧ (0 ≤ x2 ∧ x2 < 20) ∧ 0 ≤ (M 44 0 0) ∧ (M 44 0 0) ≤ 399) ∧ (∀ (N1 : M3), RM3 N1 → (∀ q : Nat, q ∉ ([44, 53, 54, 55] : List Nat) → N1 q = M q) → (∀ j : Int, j ∉ ([11, 12, 13, 17] : List Int) → N1 44 0 j = M 44 0 j) → (RdC N1) → ((-2147483648 ≤ sSd (LM3 M) x2 (M 44 0 0) ∧ sSd (LM3 M) x2 (M 44 0 0) ≤ 2147483647) ∧ ((sSd (LM3 M) x2 (M 44 0 0) ≠ (-1) → (G3 E YX12_rightMany Q 4 [(0, vR 44 0), (1, vI (x1 + 1)), (2, vI (x2 + 1))] [] N1)) ∧ (sSd (LM3 M) x2 (M 44 0 0) = (-1) → (G3 E YX12_rightMany Q 4 [(0, vR 44 0), (1, vI (x1 + 0)), (2, vI (x2 + 1))] [] N1))))))))) :
    G3 E YX12_rightMany Q 4 [(0, vR 44 0), (1, vI x1), (2, vI x2)] [] M := by
  refine g3_rm fun hM => ?_
  refine g3_iload_n 2 dX12_rightMany_4 rfl rfl (g3_bipush dX12_rightMany_5 rfl (g3_icmp_ge (tgt := 37) dX12_rightMany_7 rfl h.1 (z3 rfl) (fun c => ?_) (fun c => ?_)))
  · have h1 := h; have h := h1.2.1 c
    have o1 := h1.1
    exact g3_iload_n 1 dX12_rightMany_37 rfl rfl (g3_ireturn dX12_rightMany_38 rfl h)
  · have h1 := h; have h := h1.2.2 c
    have o1 := h1.1
    refine g3_iload_n 1 dX12_rightMany_10 rfl rfl (g3_aload_n 0 dX12_rightMany_11 rfl rfl (g3_iload_n 2 dX12_rightMany_12 rfl rfl (g3_aload_n 0 dX12_rightMany_13 rfl rfl (g3_getI (t := 0) dX12_rightMany_14 flX12_151 (z3 rfl) (z3 rfl) (g3_cV2 dX12_rightMany_17 myX12_rightOf mlX12_213 (z3 rfl) ob_44 (z3 rfl) (z3 rfl) (kX12_rightOf h.1 (fun N1 hN1 hf1 hs1 hp1 => ?_)))))))
    have o2 := h.1
    have h := h.2 N1 hN1 hf1 hs1 hp1
    refine g3_r1 ?_
    refine g3_iconst dX12_rightMany_20 (g3_icmp_ne (tgt := 28) dX12_rightMany_21 rfl h.1 (z3 rfl) (fun c => ?_) (fun c => ?_))
    · have h1 := h; have h := h1.2.1 c
      have o3 := h1.1
      refine g3_iconst dX12_rightMany_28 (g3_iadd dX12_rightMany_29 (g3_istore_n (lv' := [(1, vI (x1 + 1)), (0, vR 44 0), (2, vI x2)]) dX12_rightMany_30 rfl (z3 rfl) rfl (g3_iinc (lv' := [(2, vI (x2 + 1)), (1, vI (x1 + 1)), (0, vR 44 0)]) 2 dX12_rightMany_31 rfl (z3 rfl) rfl (g3_goto (tgt := 4) dX12_rightMany_34 rfl (g3_sub [2, 1, 0] rfl h)))))
    · have h1 := h; have h := h1.2.2 c
      have o3 := h1.1
      refine g3_iconst dX12_rightMany_24 (g3_goto (tgt := 29) dX12_rightMany_25 rfl (g3_iadd dX12_rightMany_29 (g3_istore_n (lv' := [(1, vI (x1 + 0)), (0, vR 44 0), (2, vI x2)]) dX12_rightMany_30 rfl (z3 rfl) rfl (g3_iinc (lv' := [(2, vI (x2 + 1)), (1, vI (x1 + 0)), (0, vR 44 0)]) 2 dX12_rightMany_31 rfl (z3 rfl) rfl (g3_goto (tgt := 4) dX12_rightMany_34 rfl (g3_sub [2, 1, 0] rfl h))))))
