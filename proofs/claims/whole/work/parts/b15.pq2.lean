/-! PAIRS: wins, helpers -/
theorem p_wins {E : E3} {M : M3} {x1 : Int} (hI : Inv M) (hx1 : -2147483648 ≤ x1 ∧ x1 ≤ 2147483647) : C3 E YX11_wins [vR 0 0, vI x1] M (P2 E YX12_wins [vR 44 0, vI x1]) := by
  refine c3_rm fun hM => ?_
  refine sX11_wins ?_
  refine ⟨?_, ?_⟩
  · first | omega | exact ⟨hI.1.1, by omega⟩
  refine ⟨fun c1 => ?_, fun c1 => ?_⟩
  · first
    | (have hm : Hm M N1 := Hm.of hf1 (by decide)
       have hN : Inv N1 := hI.s (Es.fr hf1 (by decide)) (hI.2.1.fr hf1 (by decide)) (hI.2.2.fr hf1 (by decide))
       have e : (fun b => mWnt N1 b 1) = wOf M := funext fun b => mWnt_q hm b 1
       refine p2I (kX12_wins ⟨hN.1.1.2.2.1.2.1, hx1⟩ fun a h1 h2 => r2I (svI ?_) hN)
       rw [e] at h1
       exact wnP_u (h1 (by omega)) hp1)
    | exact p2I (kX12_wins ⟨hI.1.1.2.2.1.2.1, hx1⟩ fun a h1 h2 => r2I (svI (h2 (by omega))) hI)
  · refine ⟨?_, ?_⟩
    · first | omega | exact ⟨hI.1.1, by omega⟩
    intro r1 N1 hN1 hf1 hp1
    first
    | (have hm : Hm M N1 := Hm.of hf1 (by decide)
       have hN : Inv N1 := hI.s (Es.fr hf1 (by decide)) (hI.2.1.fr hf1 (by decide)) (hI.2.2.fr hf1 (by decide))
       have e : (fun b => mWnt N1 b 1) = wOf M := funext fun b => mWnt_q hm b 1
       refine p2I (kX12_wins ⟨hN.1.1.2.2.1.2.1, hx1⟩ fun a h1 h2 => r2I (svI ?_) hN)
       rw [e] at h1
       exact wnP_u (h1 (by omega)) hp1)
    | exact p2I (kX12_wins ⟨hI.1.1.2.2.1.2.1, hx1⟩ fun a h1 h2 => r2I (svI (h2 (by omega))) hI)
