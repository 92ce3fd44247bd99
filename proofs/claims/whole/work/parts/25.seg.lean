set_option maxRecDepth 20000 in
set_option maxHeartbeats 200000 in
theorem sX4_saidOf {E : E3} {Q : Q3} {M : M3} {x1 x2 : Int}
    (h : (preRk M x2) ∧ (∀ (N1 : M3), RM3 N1 → (∀ q : Nat, q ∉ ([3, 8, 9] : List Nat) → N1 q = M q) → (∀ j : Int, j ∉ ([10] : List Int) → N1 3 0 j = M 3 0 j) → (poRk M x2 N1) → ((-2147483648 ≤ x1 ∧ x1 ≤ 2147483647) ∧ ((x1 < 0 → (Q (some (vI (-1))) N1)) ∧ (0 ≤ x1 → ((24 ≤ x1 → (Q (some (vI (-1))) N1)) ∧ (x1 < 24 → ((0 ≤ x1 ∧ x1 < 24) ∧ (Q (some (vI (N1 9 0 x1))) N1))))))))) :
    C3 E YX4_saidOf [vR 3 0, vI x1, vI x2] M Q := by
  refine c3_in rfl rfl (z3 rfl) (g3_rm fun hM => ?_)
  refine g3_aload_n 0 dX4_saidOf_0 rfl rfl (g3_iload_n 2 dX4_saidOf_1 rfl rfl (g3_cV1 dX4_saidOf_2 myX4_reckonFor mlX4_40 (z3 rfl) ob_3 (z3 rfl) (z3 rfl) (kX4_reckonFor h.1 (fun N1 hN1 hf1 hs1 hp1 => ?_))))
  have o1 := h.1
  have h := h.2 N1 hN1 hf1 hs1 hp1
  refine g3_r0 ?_
  refine g3_iload_n 1 dX4_saidOf_5 rfl rfl (g3_if_lt (tgt := 24) dX4_saidOf_6 rfl h.1 (fun c => ?_) (fun c => ?_))
  · have h1 := h; have h := h1.2.1 c
    have o2 := h1.1
    exact g3_iconst dX4_saidOf_24 (g3_ireturn dX4_saidOf_25 rfl h)
  · have h1 := h; have h := h1.2.2 c
    have o2 := h1.1
    refine g3_iload_n 1 dX4_saidOf_9 rfl rfl (g3_bipush dX4_saidOf_10 rfl (g3_icmp_ge (tgt := 24) dX4_saidOf_12 rfl o2 (z3 rfl) (fun c => ?_) (fun c => ?_)))
    · have h1 := h; have h := h1.1 c
      exact g3_iconst dX4_saidOf_24 (g3_ireturn dX4_saidOf_25 rfl h)
    · have h1 := h; have h := h1.2 c
      exact g3_aload_n 0 dX4_saidOf_15 rfl rfl (g3_getR0 (t := 9) dX4_saidOf_16 flX4_27 rfl (z3 rfl) (g3_iload_n 1 dX4_saidOf_19 rfl rfl (g3_iald dX4_saidOf_20 ar_9 (z3 rfl) h.1 (g3_goto (tgt := 25) dX4_saidOf_21 rfl (g3_ireturn dX4_saidOf_25 rfl h.2)))))
set_option maxRecDepth 20000 in
set_option maxHeartbeats 200000 in
theorem sX4_partFor {E : E3} {Q : Q3} {M : M3} {x1 x2 : Int}
    (h : (preRk M x2) ∧ (∀ (N1 : M3), RM3 N1 → (∀ q : Nat, q ∉ ([3, 8, 9] : List Nat) → N1 q = M q) → (∀ j : Int, j ∉ ([10] : List Int) → N1 3 0 j = M 3 0 j) → (poRk M x2 N1) → ((-2147483648 ≤ x1 ∧ x1 ≤ 2147483647) ∧ ((x1 < 0 → (Q (some (vI (-1))) N1)) ∧ (0 ≤ x1 → ((24 ≤ x1 → (Q (some (vI (-1))) N1)) ∧ (x1 < 24 → ((0 ≤ x1 ∧ x1 < 24) ∧ (Q (some (vI (N1 8 0 x1))) N1))))))))) :
    C3 E YX4_partFor [vR 3 0, vI x1, vI x2] M Q := by
  refine c3_in rfl rfl (z3 rfl) (g3_rm fun hM => ?_)
  refine g3_aload_n 0 dX4_partFor_0 rfl rfl (g3_iload_n 2 dX4_partFor_1 rfl rfl (g3_cV1 dX4_partFor_2 myX4_reckonFor mlX4_40 (z3 rfl) ob_3 (z3 rfl) (z3 rfl) (kX4_reckonFor h.1 (fun N1 hN1 hf1 hs1 hp1 => ?_))))
  have o1 := h.1
  have h := h.2 N1 hN1 hf1 hs1 hp1
  refine g3_r0 ?_
  refine g3_iload_n 1 dX4_partFor_5 rfl rfl (g3_if_lt (tgt := 24) dX4_partFor_6 rfl h.1 (fun c => ?_) (fun c => ?_))
  · have h1 := h; have h := h1.2.1 c
    have o2 := h1.1
    exact g3_iconst dX4_partFor_24 (g3_ireturn dX4_partFor_25 rfl h)
  · have h1 := h; have h := h1.2.2 c
    have o2 := h1.1
    refine g3_iload_n 1 dX4_partFor_9 rfl rfl (g3_bipush dX4_partFor_10 rfl (g3_icmp_ge (tgt := 24) dX4_partFor_12 rfl o2 (z3 rfl) (fun c => ?_) (fun c => ?_)))
    · have h1 := h; have h := h1.1 c
      exact g3_iconst dX4_partFor_24 (g3_ireturn dX4_partFor_25 rfl h)
    · have h1 := h; have h := h1.2 c
      exact g3_aload_n 0 dX4_partFor_15 rfl rfl (g3_getR0 (t := 8) dX4_partFor_16 flX4_24 rfl (z3 rfl) (g3_iload_n 1 dX4_partFor_19 rfl rfl (g3_iald dX4_partFor_20 ar_8 (z3 rfl) h.1 (g3_goto (tgt := 25) dX4_partFor_21 rfl (g3_ireturn dX4_partFor_25 rfl h.2)))))
