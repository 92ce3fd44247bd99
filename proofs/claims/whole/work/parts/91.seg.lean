set_option maxRecDepth 20000 in
set_option maxHeartbeats 200000 in
theorem sX2_trueReasons {E : E3} {Q : Q3} {M : M3} {i1 : Int}
    (h : (LwC M ∧ IB M ∧ 0 ≤ i1 ∧ i1 < M 44 0 18) ∧ (∀ (N1 : M3), RM3 N1 → Ec M N1 → (LwC N1) → ((¬(mLate M i1) → ((0 ≤ i1 ∧ i1 < 60) ∧ (Q (some (vI (M 18 i1 10))) N1))) ∧ ((mLate M i1) → ((0 ≤ i1 ∧ i1 < 60) ∧ (Q (some (vI (or3 (M 18 i1 10) 8))) N1)))))) :
    C3 E YX2_trueReasons [vR 14 0, vR 18 i1] M Q := by
  refine c3_in rfl rfl (z3 rfl) (g3_rm fun hM => ?_)
  refine g3_aload_n 0 dX2_trueReasons_0 rfl rfl (g3_aload_n 1 dX2_trueReasons_1 rfl rfl (g3_cV1 dX2_trueReasons_2 myX2_isLate mlX2_139 (z3 rfl) ob_14 (z3 rfl) (z3 rfl) (eX2_isLate Ec.rf h.1 (fun N1 hN1 he1 hp1 => ?_))))
  have o1 := h.1
  have h := h.2 N1 hN1 he1 hp1
  refine g3_r1 ?_
  refine g3_bool_eq (tgt := 18) dX2_trueReasons_5 rfl (fun c => ?_) (fun c => ?_)
  · have h1 := h; have h := h1.1 c
    exact g3_aload_n 1 dX2_trueReasons_18 rfl rfl (g3_getI (t := 0) dX2_trueReasons_19 flX2_152 (z3 rfl) h.1 (g3_val (cg3 (he1.1 18 (by decide)) _ _) (g3_ireturn dX2_trueReasons_22 rfl h.2)))
  · have h1 := h; have h := h1.2 c
    exact g3_aload_n 1 dX2_trueReasons_8 rfl rfl (g3_getI (t := 0) dX2_trueReasons_9 flX2_152 (z3 rfl) h.1 (g3_val (cg3 (he1.1 18 (by decide)) _ _) (g3_bipush dX2_trueReasons_12 rfl (g3_ior dX2_trueReasons_14 (g3_goto (tgt := 22) dX2_trueReasons_15 rfl (g3_ireturn dX2_trueReasons_22 rfl h.2))))))
