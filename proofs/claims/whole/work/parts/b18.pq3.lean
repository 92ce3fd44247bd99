/-! PAIRS: judge, best -/
theorem p_best {E : E3} {M : M3} {x1 : Int} (hI : Inv M) (hx1 : -2147483648 ≤ x1 ∧ x1 ≤ 2147483647) : C3 E YX11_best [vR 0 0, vI x1] M (P2 E YX12_best [vR 44 0, vI x1]) := by
  refine c3_rm fun hM => ?_
  refine sX11_best ?_
  refine ⟨?_, ?_⟩
  · first | omega | exact ⟨hI.2.1, hI.1.1, by omega⟩
  refine ⟨fun c1 => ?_, fun c1 => ?_⟩
  · first
    | (obtain ⟨es, hm, hl⟩ := hp1
       have hN : Inv N1 := hI.s es hl (RdC.k hm hI.2.2)
       refine p2I (kX12_best ⟨hN.2.2, hN.1.1.okJ, hx1⟩ fun N _ ej r => r2I (svI ?_) (hN.s (Es.j ej) (LwC.k ej.k hN.2.1) r))
       rw [if_pos (by omega), mBs_q hm])
    | (refine p2I (kX12_best ⟨hI.2.2, hI.1.1.okJ, hx1⟩ fun N _ ej r => r2I (svI ?_) (hI.s (Es.j ej) (LwC.k ej.k hI.2.1) r))
       rw [if_neg (by omega)])
  · refine ⟨?_, ?_⟩
    · first | omega | exact ⟨hI.2.1, hI.1.1, by omega⟩
    intro N1 hN1 hf1 hp1
    first
    | (obtain ⟨es, hm, hl⟩ := hp1
       have hN : Inv N1 := hI.s es hl (RdC.k hm hI.2.2)
       refine p2I (kX12_best ⟨hN.2.2, hN.1.1.okJ, hx1⟩ fun N _ ej r => r2I (svI ?_) (hN.s (Es.j ej) (LwC.k ej.k hN.2.1) r))
       rw [if_pos (by omega), mBs_q hm])
    | (refine p2I (kX12_best ⟨hI.2.2, hI.1.1.okJ, hx1⟩ fun N _ ej r => r2I (svI ?_) (hI.s (Es.j ej) (LwC.k ej.k hI.2.1) r))
       rw [if_neg (by omega)])
theorem p_judge {E : E3} {M : M3} {x1 x2 : Int} (hI : Inv M) (hx1 : -2147483648 ≤ x1 ∧ x1 ≤ 2147483647) (hx2 : -2147483648 ≤ x2 ∧ x2 ≤ 2147483647) : C3 E YX11_judge [vR 0 0, vI x1, vI x2] M (P2 E YX12_judge [vR 44 0, vI x1, vI x2]) := by
  refine c3_rm fun hM => ?_
  have m1 := hI.1.1.2.2.2.2.2.2.2.1.1
  have m2 := hI.1.1.2.2.2.2.2.2.2.1.2.1
  have hk := shl_rg (n := M 44 0 44) m2
  rw [← m1] at hk
  refine sX11_judge ?_
  refine ⟨?_, ?_⟩
  · first | omega | exact ⟨hI.2.1, hI.1.1, by omega⟩
  refine ⟨fun c1 => ?_, fun c1 => ?_⟩
  · first
    | (obtain ⟨es, hm, hl⟩ := hp1
       have hN : Inv N1 := hI.s es hl (RdC.k hm hI.2.2)
       refine p2I (kX12_judge ⟨hN.2.2, hN.1.1.okJ, hx1, hx2⟩ fun N _ ej r => r2I (svI ?_) (hN.s (Es.j ej) (LwC.k ej.k hN.2.1) r))
       rw [hm 44 (by decide), ← m1, if_pos (by omega)]
       exact mOut_q hm x1 x2)
    | (refine p2I (kX12_judge ⟨hI.2.2, hI.1.1.okJ, hx1, hx2⟩ fun N _ ej r => r2I (svI ?_) (hI.s (Es.j ej) (LwC.k ej.k hI.2.1) r))
       rw [← m1, if_neg (by omega)])
  · refine ⟨?_, ?_⟩
    · first | omega | exact ⟨hI.2.1, hI.1.1, by omega⟩
    refine ⟨fun c2 => ?_, fun c2 => ?_⟩
    · refine ⟨?_, ?_⟩
      · first | omega | exact ⟨hI.2.1, hI.1.1, by omega⟩
      intro N1 hN1 hf1 hp1
      first
      | (obtain ⟨es, hm, hl⟩ := hp1
         have hN : Inv N1 := hI.s es hl (RdC.k hm hI.2.2)
         refine p2I (kX12_judge ⟨hN.2.2, hN.1.1.okJ, hx1, hx2⟩ fun N _ ej r => r2I (svI ?_) (hN.s (Es.j ej) (LwC.k ej.k hN.2.1) r))
         rw [hm 44 (by decide), ← m1, if_pos (by omega)]
         exact mOut_q hm x1 x2)
      | (refine p2I (kX12_judge ⟨hI.2.2, hI.1.1.okJ, hx1, hx2⟩ fun N _ ej r => r2I (svI ?_) (hI.s (Es.j ej) (LwC.k ej.k hI.2.1) r))
         rw [← m1, if_neg (by omega)])
    · first
      | (obtain ⟨es, hm, hl⟩ := hp1
         have hN : Inv N1 := hI.s es hl (RdC.k hm hI.2.2)
         refine p2I (kX12_judge ⟨hN.2.2, hN.1.1.okJ, hx1, hx2⟩ fun N _ ej r => r2I (svI ?_) (hN.s (Es.j ej) (LwC.k ej.k hN.2.1) r))
         rw [hm 44 (by decide), ← m1, if_pos (by omega)]
         exact mOut_q hm x1 x2)
      | (refine p2I (kX12_judge ⟨hI.2.2, hI.1.1.okJ, hx1, hx2⟩ fun N _ ej r => r2I (svI ?_) (hI.s (Es.j ej) (LwC.k ej.k hI.2.1) r))
         rw [← m1, if_neg (by omega)])
