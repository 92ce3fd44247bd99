set_option maxRecDepth 20000 in
set_option maxHeartbeats 200000 in
theorem sX12_partOf {E : E3} {Q : Q3} {M : M3} {x1 x2 : Int}
    (h : (RdC M) ∧ (∀ (N1 : M3), RM3 N1 → (∀ q : Nat, q ∉ ([44, 53, 54, 55] : List Nat) → N1 q = M q) → (∀ j : Int, j ∉ ([11, 12, 13, 17] : List Int) → N1 44 0 j = M 44 0 j) → (RdC N1 ∧ N1 44 0 11 = 1) → (G3 E YX12_partOf Q 9 [(0, vR 44 0), (1, vI x1), (2, vI x2), (3, vI (-1)), (4, vI 0)] [] N1))) :
    C3 E YX12_partOf [vR 44 0, vI x1, vI x2] M Q := by
  refine c3_in rfl rfl (z3 rfl) (g3_rm fun hM => ?_)
  refine g3_aload_n 0 dX12_partOf_0 rfl rfl (g3_cV0 dX12_partOf_1 myX12_reads mlX12_204 (z3 rfl) ob_44 (z3 rfl) (z3 rfl) (kX12_reads h.1 (fun N1 hN1 hf1 hs1 hp1 => ?_)))
  have o1 := h.1
  have h := h.2 N1 hN1 hf1 hs1 hp1
  refine g3_r0 ?_
  refine g3_iconst dX12_partOf_4 (g3_istore_n (lv' := [(3, vI (-1)), (0, vR 44 0), (1, vI x1), (2, vI x2)]) dX12_partOf_5 rfl (z3 rfl) rfl (g3_iconst dX12_partOf_6 (g3_istore (lv' := [(4, vI 0), (3, vI (-1)), (0, vR 44 0), (1, vI x1), (2, vI x2)]) dX12_partOf_7 (z3 rfl) rfl (g3_sub [2, 3, 4, 1, 0] rfl h))))
set_option maxRecDepth 20000 in
set_option maxHeartbeats 200000 in
theorem sX12_partOf_9 {E : E3} {Q : Q3} {M : M3} {x1 : Int} {x2 : Int} {x3 : Int} {x4 : Int}
    (h : (-2147483648 ≤ x4 ∧ x4 ≤ 2147483647) ∧ ((M 44 0 13 ≤ x4 → (Q (some (vI x3)) M)) ∧ (x4 < M 44 0 13 → ((M 44 0 12 ≠ (-1) → (Q (some (vI x3)) M)) ∧ (M 44 0 12 = (-1) → ((0 ≤ x4 ∧ x4 < 60) ∧ ((-2147483648 ≤ x1 ∧ x1 ≤ 2147483647) ∧ ((M 53 0 x4 ≠ x1 → (G3 E YX12_partOf Q 9 [(0, vR 44 0), (1, vI x1), (2, vI x2), (3, vI x3), (4, vI (x4 + 1))] [] M)) ∧ (M 53 0 x4 = x1 → ((-2147483648 ≤ x2 ∧ x2 ≤ 2147483647) ∧ ((x2 < M 55 0 x4 → (G3 E YX12_partOf Q 9 [(0, vR 44 0), (1, vI x1), (2, vI x2), (3, vI x3), (4, vI (x4 + 1))] [] M)) ∧ (M 55 0 x4 ≤ x2 → (G3 E YX12_partOf Q 9 [(0, vR 44 0), (1, vI x1), (2, vI x2), (3, vI x4), (4, vI (x4 + 1))] [] M))))))))))))) :
    G3 E YX12_partOf Q 9 [(0, vR 44 0), (1, vI x1), (2, vI x2), (3, vI x3), (4, vI x4)] [] M := by
  refine g3_rm fun hM => ?_
  refine g3_iload 4 dX12_partOf_9 rfl (g3_aload_n 0 dX12_partOf_11 rfl rfl (g3_getI (t := 0) dX12_partOf_12 flX12_198 (z3 rfl) (z3 rfl) (g3_icmp_ge (tgt := 61) dX12_partOf_15 rfl h.1 (hM 44 0 13) (fun c => ?_) (fun c => ?_))))
  · have h1 := h; have h := h1.2.1 c
    have o1 := h1.1
    exact g3_iload_n 3 dX12_partOf_61 rfl rfl (g3_ireturn dX12_partOf_62 rfl h)
  · have h1 := h; have h := h1.2.2 c
    have o1 := h1.1
    refine g3_aload_n 0 dX12_partOf_18 rfl rfl (g3_getI (t := 0) dX12_partOf_19 flX12_188 (z3 rfl) (z3 rfl) (g3_iconst dX12_partOf_22 (g3_icmp_ne (tgt := 61) dX12_partOf_23 rfl (hM 44 0 12) (z3 rfl) (fun c => ?_) (fun c => ?_))))
    · have h1 := h; have h := h1.1 c
      exact g3_iload_n 3 dX12_partOf_61 rfl rfl (g3_ireturn dX12_partOf_62 rfl h)
    · have h1 := h; have h := h1.2 c
      refine g3_aload_n 0 dX12_partOf_26 rfl rfl (g3_getR0 (t := 53) dX12_partOf_27 flX12_34 rfl (z3 rfl) (g3_iload 4 dX12_partOf_30 rfl (g3_iald dX12_partOf_32 ar_53 (z3 rfl) h.1 (g3_iload_n 1 dX12_partOf_33 rfl rfl (g3_icmp_ne (tgt := 53) dX12_partOf_34 rfl (hM 53 0 x4) h.2.1 (fun c => ?_) (fun c => ?_))))))
      · have h1 := h; have h := h1.2.2.1 c
        have o2 := h1.1
        have o3 := h1.2.1
        refine g3_iload_n 3 dX12_partOf_53 rfl rfl (g3_istore_n (lv' := [(3, vI x3), (0, vR 44 0), (1, vI x1), (2, vI x2), (4, vI x4)]) dX12_partOf_54 rfl (z3 rfl) rfl (g3_iinc (lv' := [(4, vI (x4 + 1)), (3, vI x3), (0, vR 44 0), (1, vI x1), (2, vI x2)]) 4 dX12_partOf_55 rfl (z3 rfl) rfl (g3_goto (tgt := 9) dX12_partOf_58 rfl (g3_sub [2, 3, 4, 1, 0] rfl h))))
      · have h1 := h; have h := h1.2.2.2 c
        have o2 := h1.1
        have o3 := h1.2.1
        refine g3_aload_n 0 dX12_partOf_37 rfl rfl (g3_getR0 (t := 55) dX12_partOf_38 flX12_40 rfl (z3 rfl) (g3_iload 4 dX12_partOf_41 rfl (g3_iald dX12_partOf_43 ar_55 (z3 rfl) o2 (g3_iload_n 2 dX12_partOf_44 rfl rfl (g3_icmp_gt (tgt := 53) dX12_partOf_45 rfl (hM 55 0 x4) h.1 (fun c => ?_) (fun c => ?_))))))
        · have h1 := h; have h := h1.2.1 c
          have o4 := h1.1
          refine g3_iload_n 3 dX12_partOf_53 rfl rfl (g3_istore_n (lv' := [(3, vI x3), (0, vR 44 0), (1, vI x1), (2, vI x2), (4, vI x4)]) dX12_partOf_54 rfl (z3 rfl) rfl (g3_iinc (lv' := [(4, vI (x4 + 1)), (3, vI x3), (0, vR 44 0), (1, vI x1), (2, vI x2)]) 4 dX12_partOf_55 rfl (z3 rfl) rfl (g3_goto (tgt := 9) dX12_partOf_58 rfl (g3_sub [2, 3, 4, 1, 0] rfl h))))
        · have h1 := h; have h := h1.2.2 c
          have o4 := h1.1
          refine g3_iload 4 dX12_partOf_48 rfl (g3_goto (tgt := 54) dX12_partOf_50 rfl (g3_istore_n (lv' := [(3, vI x4), (0, vR 44 0), (1, vI x1), (2, vI x2), (4, vI x4)]) dX12_partOf_54 rfl (z3 rfl) rfl (g3_iinc (lv' := [(4, vI (x4 + 1)), (3, vI x4), (0, vR 44 0), (1, vI x1), (2, vI x2)]) 4 dX12_partOf_55 rfl (z3 rfl) rfl (g3_goto (tgt := 9) dX12_partOf_58 rfl (g3_sub [2, 3, 4, 1, 0] rfl h)))))
