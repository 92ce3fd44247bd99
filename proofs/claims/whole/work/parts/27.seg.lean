set_option maxRecDepth 20000 in
set_option maxHeartbeats 200000 in
theorem sX4_rightAnswers {E : E3} {Q : Q3} {M : M3} {x1 : Int}
    (h : G3 E YX4_rightAnswers Q 4 [(0, vR 3 0), (1, vI x1), (2, vI 0), (3, vI 0)] [] M) :
    C3 E YX4_rightAnswers [vR 3 0, vI x1] M Q := by
  refine c3_in rfl rfl (z3 rfl) (g3_rm fun hM => ?_)
  refine g3_iconst dX4_rightAnswers_0 (g3_istore_n (lv' := [(2, vI 0), (0, vR 3 0), (1, vI x1)]) dX4_rightAnswers_1 rfl (z3 rfl) rfl (g3_iconst dX4_rightAnswers_2 (g3_istore_n (lv' := [(3, vI 0), (2, vI 0), (0, vR 3 0), (1, vI x1)]) dX4_rightAnswers_3 rfl (z3 rfl) rfl (g3_sub [2, 3, 1, 0] rfl h))))
set_option maxRecDepth 20000 in
set_option maxHeartbeats 200000 in
theorem sX4_rightAnswers_4 {E : E3} {Q : Q3} {M : M3} {x1 : Int} {x2 : Int} {x3 : Int}
    (h : (-2147483648 ≤ x3 ∧ x3 ≤ 2147483647) ∧ ((20 ≤ x3 → (Q (some (vI x2)) M)) ∧ (x3 < 20 → ((LwC M ∧ (0 ≤ x3 ∧ x3 < 24) ∧ 0 ≤ x1 ∧ x1 ≤ 399) ∧ (∀ (N1 : M3), RM3 N1 → (∀ q : Nat, q ∉ ([3, 8, 9] : List Nat) → N1 q = M q) → (∀ j : Int, j ∉ ([10] : List Int) → N1 3 0 j = M 3 0 j) → (LwC N1) → ((-2147483648 ≤ sPt (LL3 M) x3 x1 ∧ sPt (LL3 M) x3 x1 ≤ 2147483647) ∧ ((sPt (LL3 M) x3 x1 = (-1) → (G3 E YX4_rightAnswers Q 4 [(0, vR 3 0), (1, vI x1), (2, vI x2), (3, vI (x3 + 1))] [] N1)) ∧ (sPt (LL3 M) x3 x1 ≠ (-1) → (G3 E YX4_rightAnswers Q 4 [(0, vR 3 0), (1, vI x1), (2, vI (x2 + 1)), (3, vI (x3 + 1))] [] N1))))))))) :
    G3 E YX4_rightAnswers Q 4 [(0, vR 3 0), (1, vI x1), (2, vI x2), (3, vI x3)] [] M := by
  refine g3_rm fun hM => ?_
  refine g3_iload_n 3 dX4_rightAnswers_4 rfl rfl (g3_bipush dX4_rightAnswers_5 rfl (g3_icmp_ge (tgt := 29) dX4_rightAnswers_7 rfl h.1 (z3 rfl) (fun c => ?_) (fun c => ?_)))
  · have h1 := h; have h := h1.2.1 c
    have o1 := h1.1
    exact g3_iload_n 2 dX4_rightAnswers_29 rfl rfl (g3_ireturn dX4_rightAnswers_30 rfl h)
  · have h1 := h; have h := h1.2.2 c
    have o1 := h1.1
    refine g3_aload_n 0 dX4_rightAnswers_10 rfl rfl (g3_iload_n 3 dX4_rightAnswers_11 rfl rfl (g3_iload_n 1 dX4_rightAnswers_12 rfl rfl (g3_cV2 dX4_rightAnswers_13 myX4_partFor mlX4_52 (z3 rfl) ob_3 (z3 rfl) (z3 rfl) (kX4_partFor h.1 (fun N1 hN1 hf1 hs1 hp1 => ?_)))))
    have o2 := h.1
    have h := h.2 N1 hN1 hf1 hs1 hp1
    refine g3_r1 ?_
    refine g3_iconst dX4_rightAnswers_16 (g3_icmp_eq (tgt := 23) dX4_rightAnswers_17 rfl h.1 (z3 rfl) (fun c => ?_) (fun c => ?_))
    · have h1 := h; have h := h1.2.1 c
      have o3 := h1.1
      refine g3_iinc (lv' := [(3, vI (x3 + 1)), (0, vR 3 0), (1, vI x1), (2, vI x2)]) 3 dX4_rightAnswers_23 rfl (z3 rfl) rfl (g3_goto (tgt := 4) dX4_rightAnswers_26 rfl (g3_sub [1, 2, 3, 0] rfl h))
    · have h1 := h; have h := h1.2.2 c
      have o3 := h1.1
      refine g3_iinc (lv' := [(2, vI (x2 + 1)), (0, vR 3 0), (1, vI x1), (3, vI x3)]) 2 dX4_rightAnswers_20 rfl (z3 rfl) rfl (g3_iinc (lv' := [(3, vI (x3 + 1)), (2, vI (x2 + 1)), (0, vR 3 0), (1, vI x1)]) 3 dX4_rightAnswers_23 rfl (z3 rfl) rfl (g3_goto (tgt := 4) dX4_rightAnswers_26 rfl (g3_sub [2, 3, 1, 0] rfl h)))
