set_option maxRecDepth 20000 in
set_option maxHeartbeats 200000 in
theorem sX12_asksSome {E : E3} {Q : Q3} {M : M3} {x1 : Int}
    (h : (RdC M ∧ (0 ≤ (2 : Int) ∧ (2 : Int) < 4) ∧ 0 ≤ x1 ∧ x1 ≤ 399) ∧ (∀ (N1 : M3), RM3 N1 → Em M N1 → (RdC N1) → ((-2147483648 ≤ sSd (LM3 M) 22 x1 ∧ sSd (LM3 M) 22 x1 ≤ 2147483647) ∧ ((sSd (LM3 M) 22 x1 ≤ 0 → (G3 E YX12_asksSome Q 13 [(0, vR 44 0), (1, vI x1), (2, vI 0)] [] N1)) ∧ (0 < sSd (LM3 M) 22 x1 → (Q (some (vI 1)) N1)))))) :
    C3 E YX12_asksSome [vR 44 0, vI x1] M Q := by
  refine c3_in rfl rfl (z3 rfl) (g3_rm fun hM => ?_)
  refine g3_aload_n 0 dX12_asksSome_0 rfl rfl (g3_iconst dX12_asksSome_1 (g3_iload_n 1 dX12_asksSome_2 rfl rfl (g3_cV2 dX12_asksSome_3 myX12_lawOf mlX12_216 (z3 rfl) ob_44 (z3 rfl) (z3 rfl) (eX12_lawOf Em.rf h.1 (fun N1 hN1 he1 hp1 => ?_)))))
  have o1 := h.1
  have h := h.2 N1 hN1 he1 hp1
  refine g3_r1 ?_
  refine g3_if_le (tgt := 11) dX12_asksSome_6 rfl h.1 (fun c => ?_) (fun c => ?_)
  · have h1 := h; have h := h1.2.1 c
    have o2 := h1.1
    refine g3_iconst dX12_asksSome_11 (g3_istore_n (lv' := [(2, vI 0), (0, vR 44 0), (1, vI x1)]) dX12_asksSome_12 rfl (z3 rfl) rfl (g3_sub [1, 2, 0] rfl h))
  · have h1 := h; have h := h1.2.2 c
    have o2 := h1.1
    exact g3_iconst dX12_asksSome_9 (g3_zreturn dX12_asksSome_10 rfl (Or.inr rfl) h)
set_option maxRecDepth 20000 in
set_option maxHeartbeats 200000 in
theorem sX12_asksSome_13 {E : E3} {Q : Q3} {M : M3} {x1 : Int} {x2 : Int}
    (h : (-2147483648 ≤ x2 ∧ x2 ≤ 2147483647) ∧ ((20 ≤ x2 → (Q (some (vI 0)) M)) ∧ (x2 < 20 → ((RdC M ∧ (0 ≤ x2 ∧ x2 < 20) ∧ 0 ≤ x1 ∧ x1 ≤ 399) ∧ (∀ (N1 : M3), RM3 N1 → Em M N1 → (RdC N1) → ((-2147483648 ≤ sSd (LM3 M) x2 x1 ∧ sSd (LM3 M) x2 x1 ≤ 2147483647) ∧ ((sSd (LM3 M) x2 x1 = (-1) → (G3 E YX12_asksSome Q 13 [(0, vR 44 0), (1, vI x1), (2, vI (x2 + 1))] [] N1)) ∧ (sSd (LM3 M) x2 x1 ≠ (-1) → (Q (some (vI 1)) N1))))))))) :
    G3 E YX12_asksSome Q 13 [(0, vR 44 0), (1, vI x1), (2, vI x2)] [] M := by
  refine g3_rm fun hM => ?_
  refine g3_iload_n 2 dX12_asksSome_13 rfl rfl (g3_bipush dX12_asksSome_14 rfl (g3_icmp_ge (tgt := 37) dX12_asksSome_16 rfl h.1 (z3 rfl) (fun c => ?_) (fun c => ?_)))
  · have h1 := h; have h := h1.2.1 c
    have o1 := h1.1
    exact g3_iconst dX12_asksSome_37 (g3_zreturn dX12_asksSome_38 rfl (Or.inl rfl) h)
  · have h1 := h; have h := h1.2.2 c
    have o1 := h1.1
    refine g3_aload_n 0 dX12_asksSome_19 rfl rfl (g3_iload_n 2 dX12_asksSome_20 rfl rfl (g3_iload_n 1 dX12_asksSome_21 rfl rfl (g3_cV2 dX12_asksSome_22 myX12_rightOf mlX12_213 (z3 rfl) ob_44 (z3 rfl) (z3 rfl) (eX12_rightOf Em.rf h.1 (fun N1 hN1 he1 hp1 => ?_)))))
    have o2 := h.1
    have h := h.2 N1 hN1 he1 hp1
    refine g3_r1 ?_
    refine g3_iconst dX12_asksSome_25 (g3_icmp_eq (tgt := 31) dX12_asksSome_26 rfl h.1 (z3 rfl) (fun c => ?_) (fun c => ?_))
    · have h1 := h; have h := h1.2.1 c
      have o3 := h1.1
      refine g3_iinc (lv' := [(2, vI (x2 + 1)), (0, vR 44 0), (1, vI x1)]) 2 dX12_asksSome_31 rfl (z3 rfl) rfl (g3_goto (tgt := 13) dX12_asksSome_34 rfl (g3_sub [1, 2, 0] rfl h))
    · have h1 := h; have h := h1.2.2 c
      have o3 := h1.1
      exact g3_iconst dX12_asksSome_29 (g3_zreturn dX12_asksSome_30 rfl (Or.inr rfl) h)
