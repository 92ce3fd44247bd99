set_option maxRecDepth 20000 in
set_option maxHeartbeats 200000 in
theorem sX12_fitAt {E : E3} {Q : Q3} {M : M3} {x1 x2 x3 : Int}
    (h : G3 E YX12_fitAt Q 6 [(0, vR 44 0), (1, vI x1), (2, vI x2), (4, vI 0), (5, vI x3)] [] M) :
    C3 E YX12_fitAt [vR 44 0, vI x1, vI x2, vI x3] M Q := by
  refine c3_in rfl rfl (z3 rfl) (g3_rm fun hM => ?_)
  refine g3_iconst dX12_fitAt_0 (g3_istore (lv' := [(4, vI 0), (0, vR 44 0), (1, vI x1), (2, vI x2), (3, vI x3)]) dX12_fitAt_1 (z3 rfl) rfl (g3_iload_n 4 dX12_fitAt_3 rfl rfl (g3_istore (lv' := [(5, vI x3), (4, vI 0), (0, vR 44 0), (1, vI x1), (2, vI x2), (3, vI x3)]) dX12_fitAt_4 (z3 rfl) rfl (g3_sub [2, 3, 4, 1, 0] rfl h))))
set_option maxRecDepth 20000 in
set_option maxHeartbeats 200000 in
theorem sX12_fitAt_6 {E : E3} {Q : Q3} {M : M3} {x1 : Int} {x2 : Int} {x4 : Int} {x5 : Int}
    (h : (-2147483648 ≤ x5 ∧ x5 ≤ 2147483647) ∧ ((0 < x5 → ((RdC M ∧ okA M ∧ (-2147483648 ≤ x1 ∧ x1 ≤ 2147483647) ∧ (-2147483648 ≤ x2 ∧ x2 ≤ 2147483647) ∧ (-2147483648 ≤ x4 ∧ x4 ≤ 2147483647)) ∧ (∀ (N1 : M3), RM3 N1 → Em M N1 → (RdC N1) → ((¬(mFit M x1 x2 x4) → (G3 E YX12_fitAt Q 6 [(0, vR 44 0), (1, vI x1), (2, vI x2), (4, vI (x4 + 1)), (5, vI (x5 - 0))] [] N1)) ∧ ((mFit M x1 x2 x4) → (G3 E YX12_fitAt Q 6 [(0, vR 44 0), (1, vI x1), (2, vI x2), (4, vI (x4 + 1)), (5, vI (x5 - 1))] [] N1)))))) ∧ (x5 ≤ 0 → ((RdC M ∧ okA M ∧ (-2147483648 ≤ x1 ∧ x1 ≤ 2147483647) ∧ (-2147483648 ≤ x2 ∧ x2 ≤ 2147483647) ∧ (-2147483648 ≤ x4 ∧ x4 ≤ 2147483647)) ∧ (∀ (N1 : M3), RM3 N1 → Em M N1 → (RdC N1) → (((mFit M x1 x2 x4) → (Q (some (vI x4)) N1)) ∧ (¬(mFit M x1 x2 x4) → ((RdC N1 ∧ okA M ∧ (-2147483648 ≤ x1 ∧ x1 ≤ 2147483647) ∧ (-2147483648 ≤ x2 ∧ x2 ≤ 2147483647) ∧ (-2147483648 ≤ x4 ∧ x4 ≤ 2147483647)) ∧ (∀ (N2 : M3), RM3 N2 → Em N1 N2 → (RdC N2) → ((¬(mFit M x1 x2 x4) → (G3 E YX12_fitAt Q 6 [(0, vR 44 0), (1, vI x1), (2, vI x2), (4, vI (x4 + 1)), (5, vI (x5 - 0))] [] N2)) ∧ ((mFit M x1 x2 x4) → (G3 E YX12_fitAt Q 6 [(0, vR 44 0), (1, vI x1), (2, vI x2), (4, vI (x4 + 1)), (5, vI (x5 - 1))] [] N2)))))))))))) :
    G3 E YX12_fitAt Q 6 [(0, vR 44 0), (1, vI x1), (2, vI x2), (4, vI x4), (5, vI x5)] [] M := by
  refine g3_rm fun hM => ?_
  refine g3_iload 4 dX12_fitAt_6 rfl (g3_if_gt (tgt := 22) dX12_fitAt_8 rfl h.1 (fun c => ?_) (fun c => ?_))
  · have h1 := h; have h := h1.2.1 c
    have o1 := h1.1
    refine g3_iload 4 dX12_fitAt_22 rfl (g3_aload_n 0 dX12_fitAt_24 rfl rfl (g3_iload_n 1 dX12_fitAt_25 rfl rfl (g3_iload_n 2 dX12_fitAt_26 rfl rfl (g3_iload 3 dX12_fitAt_27 rfl (g3_cV3 dX12_fitAt_29 myX12_doesFit mlX12_266 (z3 rfl) ob_44 (z3 rfl) (z3 rfl) (eX12_doesFit Em.rf h.1 (fun N1 hN1 he1 hp1 => ?_)))))))
    have o2 := h.1
    have h := h.2 N1 hN1 he1 hp1
    refine g3_r1 ?_
    refine g3_bool_eq (tgt := 39) dX12_fitAt_32 rfl (fun c => ?_) (fun c => ?_)
    · have h1 := h; have h := h1.1 c
      refine g3_iconst dX12_fitAt_39 (g3_isub dX12_fitAt_40 (g3_istore (lv' := [(5, vI (x5 - 0)), (0, vR 44 0), (1, vI x1), (2, vI x2), (4, vI x4)]) dX12_fitAt_41 (z3 rfl) rfl (g3_iinc (lv' := [(4, vI (x4 + 1)), (5, vI (x5 - 0)), (0, vR 44 0), (1, vI x1), (2, vI x2)]) 4 dX12_fitAt_43 rfl (z3 rfl) rfl (g3_goto (tgt := 6) dX12_fitAt_46 rfl (g3_sub [2, 3, 4, 0, 1] rfl h)))))
    · have h1 := h; have h := h1.2 c
      refine g3_iconst dX12_fitAt_35 (g3_goto (tgt := 40) dX12_fitAt_36 rfl (g3_isub dX12_fitAt_40 (g3_istore (lv' := [(5, vI (x5 - 1)), (0, vR 44 0), (1, vI x1), (2, vI x2), (4, vI x4)]) dX12_fitAt_41 (z3 rfl) rfl (g3_iinc (lv' := [(4, vI (x4 + 1)), (5, vI (x5 - 1)), (0, vR 44 0), (1, vI x1), (2, vI x2)]) 4 dX12_fitAt_43 rfl (z3 rfl) rfl (g3_goto (tgt := 6) dX12_fitAt_46 rfl (g3_sub [2, 3, 4, 0, 1] rfl h))))))
  · have h1 := h; have h := h1.2.2 c
    have o1 := h1.1
    refine g3_aload_n 0 dX12_fitAt_11 rfl rfl (g3_iload_n 1 dX12_fitAt_12 rfl rfl (g3_iload_n 2 dX12_fitAt_13 rfl rfl (g3_iload 3 dX12_fitAt_14 rfl (g3_cV3 dX12_fitAt_16 myX12_doesFit mlX12_266 (z3 rfl) ob_44 (z3 rfl) (z3 rfl) (eX12_doesFit Em.rf h.1 (fun N1 hN1 he1 hp1 => ?_))))))
    have o3 := h.1
    have h := h.2 N1 hN1 he1 hp1
    refine g3_r1 ?_
    refine g3_bool_ne (tgt := 49) dX12_fitAt_19 rfl (fun c => ?_) (fun c => ?_)
    · have h1 := h; have h := h1.1 c
      exact g3_iload 3 dX12_fitAt_49 rfl (g3_ireturn dX12_fitAt_51 rfl h)
    · have h1 := h; have h := h1.2 c
      refine g3_iload 4 dX12_fitAt_22 rfl (g3_aload_n 0 dX12_fitAt_24 rfl rfl (g3_iload_n 1 dX12_fitAt_25 rfl rfl (g3_iload_n 2 dX12_fitAt_26 rfl rfl (g3_iload 3 dX12_fitAt_27 rfl (g3_cV3 dX12_fitAt_29 myX12_doesFit mlX12_266 (z3 rfl) ob_44 (z3 rfl) (z3 rfl) (eX12_doesFit (Em.tr Em.rf he1) h.1 (fun N2 hN2 he2 hp2 => ?_)))))))
      have o4 := h.1
      have h := h.2 N2 hN2 he2 hp2
      refine g3_r1 ?_
      refine g3_bool_eq (tgt := 39) dX12_fitAt_32 rfl (fun c => ?_) (fun c => ?_)
      · have h1 := h; have h := h1.1 c
        refine g3_iconst dX12_fitAt_39 (g3_isub dX12_fitAt_40 (g3_istore (lv' := [(5, vI (x5 - 0)), (0, vR 44 0), (1, vI x1), (2, vI x2), (4, vI x4)]) dX12_fitAt_41 (z3 rfl) rfl (g3_iinc (lv' := [(4, vI (x4 + 1)), (5, vI (x5 - 0)), (0, vR 44 0), (1, vI x1), (2, vI x2)]) 4 dX12_fitAt_43 rfl (z3 rfl) rfl (g3_goto (tgt := 6) dX12_fitAt_46 rfl (g3_sub [2, 3, 4, 0, 1] rfl h)))))
      · have h1 := h; have h := h1.2 c
        refine g3_iconst dX12_fitAt_35 (g3_goto (tgt := 40) dX12_fitAt_36 rfl (g3_isub dX12_fitAt_40 (g3_istore (lv' := [(5, vI (x5 - 1)), (0, vR 44 0), (1, vI x1), (2, vI x2), (4, vI x4)]) dX12_fitAt_41 (z3 rfl) rfl (g3_iinc (lv' := [(4, vI (x4 + 1)), (5, vI (x5 - 1)), (0, vR 44 0), (1, vI x1), (2, vI x2)]) 4 dX12_fitAt_43 rfl (z3 rfl) rfl (g3_goto (tgt := 6) dX12_fitAt_46 rfl (g3_sub [2, 3, 4, 0, 1] rfl h))))))
