set_option maxRecDepth 20000 in
set_option maxHeartbeats 200000 in
theorem sX12_proves {E : E3} {Q : Q3} {M : M3} {x1 : Int}
    (h : ((-2147483648 ≤ x1 ∧ x1 ≤ 2147483647) ∧ (-2147483648 ≤ (0 : Int) ∧ (0 : Int) ≤ 2147483647) ∧ (-2147483648 ≤ (3 : Int) ∧ (3 : Int) ≤ 2147483647)) ∧ (((0 ≤ x1 ∧ x1 ≤ 3) → (G3 E YX12_proves Q 12 [(0, vR 44 0), (1, vI x1), (2, vI 0)] [] M)) ∧ (¬(0 ≤ x1 ∧ x1 ≤ 3) → (Q (some (vI (-2))) M)))) :
    C3 E YX12_proves [vR 44 0, vI x1] M Q := by
  refine c3_in rfl rfl (z3 rfl) (g3_rm fun hM => ?_)
  refine g3_iload_n 1 dX12_proves_0 rfl rfl (g3_cS1 dX12_proves_1 myX12_isClerk mlX12_248 (z3 rfl) (z3 rfl) (c3_in rfl rfl (z3 rfl) (g3_iload_n 0 dX12_isClerk_0 rfl rfl (g3_iconst dX12_isClerk_1 (g3_iconst dX12_isClerk_2 (g3_cS3 dX12_isClerk_3 myX12_in mlX12_144 (z3 rfl) (z3 rfl) (kX12_in h.1 (g3_r1 (g3_zreturn dX12_isClerk_6 rfl (bo3_01 _) (g3_r1 (g3_bool_ne (tgt := 10) dX12_proves_4 rfl (fun c => ?_) (fun c => ?_))))))))))))
  · have h1 := h; have h := h1.2.1 c
    have o1 := h1.1
    refine g3_iconst dX12_proves_10 (g3_istore_n (lv' := [(2, vI 0), (0, vR 44 0), (1, vI x1)]) dX12_proves_11 rfl (z3 rfl) rfl (g3_sub [1, 2, 0] rfl h))
  · have h1 := h; have h := h1.2.2 c
    have o1 := h1.1
    exact g3_bipush dX12_proves_7 rfl (g3_ireturn dX12_proves_9 rfl h)
set_option maxRecDepth 20000 in
set_option maxHeartbeats 200000 in
theorem sX12_proves_12 {E : E3} {Q : Q3} {M : M3} {x1 : Int} {x2 : Int}
    (h : (-2147483648 ≤ x2 ∧ x2 ≤ 2147483647) ∧ ((M 44 0 18 ≤ x2 → (Q (some (vI (-1))) M)) ∧ (x2 < M 44 0 18 → (G3 E YX12_proves Q 22 [(0, vR 44 0), (1, vI x1), (2, vI x2), (3, vI 0)] [] M)))) :
    G3 E YX12_proves Q 12 [(0, vR 44 0), (1, vI x1), (2, vI x2)] [] M := by
  refine g3_rm fun hM => ?_
  refine g3_iload_n 2 dX12_proves_12 rfl rfl (g3_aload_n 0 dX12_proves_13 rfl rfl (g3_getI (t := 0) dX12_proves_14 flX12_161 (z3 rfl) (z3 rfl) (g3_icmp_ge (tgt := 59) dX12_proves_17 rfl h.1 (hM 44 0 18) (fun c => ?_) (fun c => ?_))))
  · have h1 := h; have h := h1.2.1 c
    have o1 := h1.1
    exact g3_iconst dX12_proves_59 (g3_ireturn dX12_proves_60 rfl h)
  · have h1 := h; have h := h1.2.2 c
    have o1 := h1.1
    refine g3_iconst dX12_proves_20 (g3_istore_n (lv' := [(3, vI 0), (0, vR 44 0), (1, vI x1), (2, vI x2)]) dX12_proves_21 rfl (z3 rfl) rfl (g3_sub [1, 2, 3, 0] rfl h))
set_option maxRecDepth 20000 in
set_option maxHeartbeats 200000 in
theorem sX12_proves_22 {E : E3} {Q : Q3} {M : M3} {x1 : Int} {x2 : Int} {x3 : Int}
    (h : (-2147483648 ≤ x3 ∧ x3 ≤ 2147483647) ∧ ((M 44 0 18 ≤ x3 → (G3 E YX12_proves Q 12 [(0, vR 44 0), (1, vI x1), (2, vI (x2 + 1))] [] M)) ∧ (x3 < M 44 0 18 → ((RdC M ∧ okR M x2 ∧ okR M x3 ∧ (-2147483648 ≤ x1 ∧ x1 ≤ 2147483647)) ∧ (∀ (N1 : M3), RM3 N1 → Em M N1 → (RdC N1) → ((¬(mUnl M x1 x2 x3) → (G3 E YX12_proves Q 22 [(0, vR 44 0), (1, vI x1), (2, vI x2), (3, vI (x3 + 1))] [] N1)) ∧ ((mUnl M x1 x2 x3) → (Q (some (vI ((100 * x2) + x3))) N1)))))))) :
    G3 E YX12_proves Q 22 [(0, vR 44 0), (1, vI x1), (2, vI x2), (3, vI x3)] [] M := by
  refine g3_rm fun hM => ?_
  refine g3_iload_n 3 dX12_proves_22 rfl rfl (g3_aload_n 0 dX12_proves_23 rfl rfl (g3_getI (t := 0) dX12_proves_24 flX12_161 (z3 rfl) (z3 rfl) (g3_icmp_ge (tgt := 53) dX12_proves_27 rfl h.1 (hM 44 0 18) (fun c => ?_) (fun c => ?_))))
  · have h1 := h; have h := h1.2.1 c
    have o1 := h1.1
    refine g3_iinc (lv' := [(2, vI (x2 + 1)), (0, vR 44 0), (1, vI x1), (3, vI x3)]) 2 dX12_proves_53 rfl (z3 rfl) rfl (g3_goto (tgt := 12) dX12_proves_56 rfl (g3_sub [1, 2, 0] rfl h))
  · have h1 := h; have h := h1.2.2 c
    have o1 := h1.1
    refine g3_aload_n 0 dX12_proves_30 rfl rfl (g3_iload_n 1 dX12_proves_31 rfl rfl (g3_iload_n 2 dX12_proves_32 rfl rfl (g3_iload_n 3 dX12_proves_33 rfl rfl (g3_cV3 dX12_proves_34 myX12_areUnlike mlX12_275 (z3 rfl) ob_44 (z3 rfl) (z3 rfl) (eX12_areUnlike Em.rf h.1 (fun N1 hN1 he1 hp1 => ?_))))))
    have o2 := h.1
    have h := h.2 N1 hN1 he1 hp1
    refine g3_r1 ?_
    refine g3_bool_eq (tgt := 47) dX12_proves_37 rfl (fun c => ?_) (fun c => ?_)
    · have h1 := h; have h := h1.1 c
      refine g3_iinc (lv' := [(3, vI (x3 + 1)), (0, vR 44 0), (1, vI x1), (2, vI x2)]) 3 dX12_proves_47 rfl (z3 rfl) rfl (g3_goto (tgt := 22) dX12_proves_50 rfl (g3_sub [1, 2, 3, 0] rfl h))
    · have h1 := h; have h := h1.2 c
      exact g3_bipush dX12_proves_40 rfl (g3_iload_n 2 dX12_proves_42 rfl rfl (g3_imul dX12_proves_43 (g3_iload_n 3 dX12_proves_44 rfl rfl (g3_iadd dX12_proves_45 (g3_ireturn dX12_proves_46 rfl h)))))
