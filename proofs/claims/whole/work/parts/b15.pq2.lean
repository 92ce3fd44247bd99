/-! PAIRS: wins, helpers -/
theorem p_wins {E : E3} {M : M3} {x1 : Int} (hI : Inv M) (hx1 : -2147483648 ≤ x1 ∧ x1 ≤ 2147483647) : C3 E YX11_wins [vR 0 0, vI x1] M (P2 E YX12_wins [vR 44 0, vI x1]) := by
  refine c3_rm fun hM => ?_
  refine sX11_wins ?_
  refine ⟨?_, ?_⟩
  · first | omega | exact ⟨hI.1.1, by omega⟩
  refine ⟨fun c1 => ?_, fun c1 => ?_⟩
  · first
    | (have hm : Hm M N1 := Hm.of hf1 (by decide)
       have hN : Inv N1 := hI.s (Es.fr hf1 (by decide)) (hI.2.1.fr hf1 (by decide)) (hI.2.2.fr hf1 (by decide))
       have e : (fun b => mWnt N1 b 1) = wOf M := funext fun b => mWnt_q hm b 1
       refine p2I (kX12_wins ⟨hN.1.1.2.2.1.2.1, hx1⟩ fun a h1 h2 => r2I (svI ?_) hN)
       rw [e] at h1
       exact wnP_u (h1 (by omega)) hp1)
    | exact p2I (kX12_wins ⟨hI.1.1.2.2.1.2.1, hx1⟩ fun a h1 h2 => r2I (svI (h2 (by omega))) hI)
  · refine ⟨?_, ?_⟩
    · first | omega | exact ⟨hI.1.1, by omega⟩
    intro r1 N1 hN1 hf1 hp1
    first
    | (have hm : Hm M N1 := Hm.of hf1 (by decide)
       have hN : Inv N1 := hI.s (Es.fr hf1 (by decide)) (hI.2.1.fr hf1 (by decide)) (hI.2.2.fr hf1 (by decide))
       have e : (fun b => mWnt N1 b 1) = wOf M := funext fun b => mWnt_q hm b 1
       refine p2I (kX12_wins ⟨hN.1.1.2.2.1.2.1, hx1⟩ fun a h1 h2 => r2I (svI ?_) hN)
       rw [e] at h1
       exact wnP_u (h1 (by omega)) hp1)
    | exact p2I (kX12_wins ⟨hI.1.1.2.2.1.2.1, hx1⟩ fun a h1 h2 => r2I (svI (h2 (by omega))) hI)
theorem p_helpers {E : E3} {M : M3} {x1 x2 : Int} (hI : Inv M) (hx1 : -2147483648 ≤ x1 ∧ x1 ≤ 2147483647) (hx2 : -2147483648 ≤ x2 ∧ x2 ≤ 2147483647) : C3 E YX11_helpers [vR 0 0, vI x1, vI x2] M (P2 E YX12_helpers [vR 44 0, vI x1, vI x2]) := by
  refine c3_rm fun hM => ?_
  refine sX11_helpers ?_
  refine ⟨?_, ?_⟩
  · first | omega | exact ⟨hI.2.1, hI.1.1, by omega, by omega⟩
  refine ⟨fun c1 => ?_, fun c1 => ?_⟩
  · first
    | (obtain ⟨hE, hL, hp⟩ := hp1
       have hm : Hm M N1 := Hm.of hE.1 (by decide)
       have hN : Inv N1 := hI.s (Es.x hE (by decide)) hL (hI.2.2.fr hE.1 (by decide))
       have e : mRdy N1 = mRdy M := funext fun a => funext fun b => mRdy_h hm a b
       refine p2I (kX12_helpers ⟨hN.2.2, hN.1.1.okP, hx1, hx2⟩ fun a N _ es r fr h1 => r2I (svI ?_) (hN.s es (LwC.k fr hN.2.1) r))
       · rw [e, if_pos (by omega)] at h1
         exact hpS_u (by omega) h1 hp)
    | (refine p2I (kX12_helpers ⟨hI.2.2, hI.1.1.okP, hx1, hx2⟩ fun a N _ es r fr h1 => r2I (svI ?_) (hI.s es (LwC.k fr hI.2.1) r))
       · rw [if_neg (by omega)] at h1
         exact h1)
  · refine ⟨?_, ?_⟩
    · first | omega | exact ⟨hI.2.1, hI.1.1, by omega, by omega⟩
    refine ⟨fun c2 => ?_, fun c2 => ?_⟩
    · refine ⟨?_, ?_⟩
      · first | omega | exact ⟨hI.2.1, hI.1.1, by omega, by omega⟩
      intro r1 N1 hN1 hf1 hp1
      first
      | (obtain ⟨hE, hL, hp⟩ := hp1
         have hm : Hm M N1 := Hm.of hE.1 (by decide)
         have hN : Inv N1 := hI.s (Es.x hE (by decide)) hL (hI.2.2.fr hE.1 (by decide))
         have e : mRdy N1 = mRdy M := funext fun a => funext fun b => mRdy_h hm a b
         refine p2I (kX12_helpers ⟨hN.2.2, hN.1.1.okP, hx1, hx2⟩ fun a N _ es r fr h1 => r2I (svI ?_) (hN.s es (LwC.k fr hN.2.1) r))
         · rw [e, if_pos (by omega)] at h1
           exact hpS_u (by omega) h1 hp)
      | (refine p2I (kX12_helpers ⟨hI.2.2, hI.1.1.okP, hx1, hx2⟩ fun a N _ es r fr h1 => r2I (svI ?_) (hI.s es (LwC.k fr hI.2.1) r))
         · rw [if_neg (by omega)] at h1
           exact h1)
    · refine ⟨?_, ?_⟩
      · first | omega | exact ⟨hI.2.1, hI.1.1, by omega, by omega⟩
      refine ⟨fun c3 => ?_, fun c3 => ?_⟩
      · refine ⟨?_, ?_⟩
        · first | omega | exact ⟨hI.2.1, hI.1.1, by omega, by omega⟩
        intro r1 N1 hN1 hf1 hp1
        first
        | (obtain ⟨hE, hL, hp⟩ := hp1
           have hm : Hm M N1 := Hm.of hE.1 (by decide)
           have hN : Inv N1 := hI.s (Es.x hE (by decide)) hL (hI.2.2.fr hE.1 (by decide))
           have e : mRdy N1 = mRdy M := funext fun a => funext fun b => mRdy_h hm a b
           refine p2I (kX12_helpers ⟨hN.2.2, hN.1.1.okP, hx1, hx2⟩ fun a N _ es r fr h1 => r2I (svI ?_) (hN.s es (LwC.k fr hN.2.1) r))
           · rw [e, if_pos (by omega)] at h1
             exact hpS_u (by omega) h1 hp)
        | (refine p2I (kX12_helpers ⟨hI.2.2, hI.1.1.okP, hx1, hx2⟩ fun a N _ es r fr h1 => r2I (svI ?_) (hI.s es (LwC.k fr hI.2.1) r))
           · rw [if_neg (by omega)] at h1
             exact h1)
      · first
        | (obtain ⟨hE, hL, hp⟩ := hp1
           have hm : Hm M N1 := Hm.of hE.1 (by decide)
           have hN : Inv N1 := hI.s (Es.x hE (by decide)) hL (hI.2.2.fr hE.1 (by decide))
           have e : mRdy N1 = mRdy M := funext fun a => funext fun b => mRdy_h hm a b
           refine p2I (kX12_helpers ⟨hN.2.2, hN.1.1.okP, hx1, hx2⟩ fun a N _ es r fr h1 => r2I (svI ?_) (hN.s es (LwC.k fr hN.2.1) r))
           · rw [e, if_pos (by omega)] at h1
             exact hpS_u (by omega) h1 hp)
        | (refine p2I (kX12_helpers ⟨hI.2.2, hI.1.1.okP, hx1, hx2⟩ fun a N _ es r fr h1 => r2I (svI ?_) (hI.s es (LwC.k fr hI.2.1) r))
           · rw [if_neg (by omega)] at h1
             exact h1)
