set_option maxRecDepth 20000 in
set_option maxHeartbeats 200000 in
theorem sX12_fitting {E : E3} {Q : Q3} {M : M3} {x1 x2 : Int}
    (h : G3 E YX12_fitting Q 5 [(0, vR 44 0), (1, vI x1), (2, vI x2), (3, vI 0), (4, vI 0)] [] M) :
    C3 E YX12_fitting [vR 44 0, vI x1, vI x2] M Q := by
  refine c3_in rfl rfl (z3 rfl) (g3_rm fun hM => ?_)
  refine g3_iconst dX12_fitting_0 (g3_istore_n (lv' := [(3, vI 0), (0, vR 44 0), (1, vI x1), (2, vI x2)]) dX12_fitting_1 rfl (z3 rfl) rfl (g3_iconst dX12_fitting_2 (g3_istore (lv' := [(4, vI 0), (3, vI 0), (0, vR 44 0), (1, vI x1), (2, vI x2)]) dX12_fitting_3 (z3 rfl) rfl (g3_sub [2, 3, 4, 1, 0] rfl h))))
set_option maxRecDepth 20000 in
set_option maxHeartbeats 200000 in
theorem sX12_fitting_5 {E : E3} {Q : Q3} {M : M3} {x1 : Int} {x2 : Int} {x3 : Int} {x4 : Int}
    (h : (-2147483648 ≤ x4 ∧ x4 ≤ 2147483647) ∧ ((22 ≤ x4 → (Q (some (vI x3)) M)) ∧ (x4 < 22 → ((RdC M ∧ okA M ∧ (-2147483648 ≤ x1 ∧ x1 ≤ 2147483647) ∧ (-2147483648 ≤ x2 ∧ x2 ≤ 2147483647) ∧ (-2147483648 ≤ x4 ∧ x4 ≤ 2147483647)) ∧ (∀ (N1 : M3), RM3 N1 → Em M N1 → (RdC N1) → ((¬(mFit M x1 x2 x4) → (G3 E YX12_fitting Q 5 [(0, vR 44 0), (1, vI x1), (2, vI x2), (3, vI (x3 + 0)), (4, vI (x4 + 1))] [] N1)) ∧ ((mFit M x1 x2 x4) → (G3 E YX12_fitting Q 5 [(0, vR 44 0), (1, vI x1), (2, vI x2), (3, vI (x3 + 1)), (4, vI (x4 + 1))] [] N1)))))))) :
    G3 E YX12_fitting Q 5 [(0, vR 44 0), (1, vI x1), (2, vI x2), (3, vI x3), (4, vI x4)] [] M := by
  refine g3_rm fun hM => ?_
  refine g3_iload 4 dX12_fitting_5 rfl (g3_bipush dX12_fitting_7 rfl (g3_icmp_ge (tgt := 37) dX12_fitting_9 rfl h.1 (z3 rfl) (fun c => ?_) (fun c => ?_)))
  · have h1 := h; have h := h1.2.1 c
    have o1 := h1.1
    exact g3_iload_n 3 dX12_fitting_37 rfl rfl (g3_ireturn dX12_fitting_38 rfl h)
  · have h1 := h; have h := h1.2.2 c
    have o1 := h1.1
    refine g3_iload_n 3 dX12_fitting_12 rfl rfl (g3_aload_n 0 dX12_fitting_13 rfl rfl (g3_iload_n 1 dX12_fitting_14 rfl rfl (g3_iload_n 2 dX12_fitting_15 rfl rfl (g3_iload 4 dX12_fitting_16 rfl (g3_cV3 dX12_fitting_18 myX12_doesFit mlX12_266 (z3 rfl) ob_44 (z3 rfl) (z3 rfl) (eX12_doesFit Em.rf h.1 (fun N1 hN1 he1 hp1 => ?_)))))))
    have o2 := h.1
    have h := h.2 N1 hN1 he1 hp1
    refine g3_r1 ?_
    refine g3_bool_eq (tgt := 28) dX12_fitting_21 rfl (fun c => ?_) (fun c => ?_)
    · have h1 := h; have h := h1.1 c
      refine g3_iconst dX12_fitting_28 (g3_iadd dX12_fitting_29 (g3_istore_n (lv' := [(3, vI (x3 + 0)), (0, vR 44 0), (1, vI x1), (2, vI x2), (4, vI x4)]) dX12_fitting_30 rfl (z3 rfl) rfl (g3_iinc (lv' := [(4, vI (x4 + 1)), (3, vI (x3 + 0)), (0, vR 44 0), (1, vI x1), (2, vI x2)]) 4 dX12_fitting_31 rfl (z3 rfl) rfl (g3_goto (tgt := 5) dX12_fitting_34 rfl (g3_sub [2, 3, 4, 1, 0] rfl h)))))
    · have h1 := h; have h := h1.2 c
      refine g3_iconst dX12_fitting_24 (g3_goto (tgt := 29) dX12_fitting_25 rfl (g3_iadd dX12_fitting_29 (g3_istore_n (lv' := [(3, vI (x3 + 1)), (0, vR 44 0), (1, vI x1), (2, vI x2), (4, vI x4)]) dX12_fitting_30 rfl (z3 rfl) rfl (g3_iinc (lv' := [(4, vI (x4 + 1)), (3, vI (x3 + 1)), (0, vR 44 0), (1, vI x1), (2, vI x2)]) 4 dX12_fitting_31 rfl (z3 rfl) rfl (g3_goto (tgt := 5) dX12_fitting_34 rfl (g3_sub [2, 3, 4, 1, 0] rfl h))))))
