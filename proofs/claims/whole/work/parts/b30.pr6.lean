/-! PAIRS: type, wipe -/
theorem iLaw.L {M : M3} (h : iLaw M) : LL3 M = LM3 M := by
  obtain ⟨a, b, c⟩ := h
  show lwL (M 3 0 0) (M 4 0) = lwL (M 44 0 9) (M 52 0)
  rw [a]
  unfold lwL lwF
  rw [lw_congr c]
theorem lwC_parse {M N : M3} (hp : preParse M) (hf : ∀ q : Nat, q ∉ ([3, 5, 6, 7] : List Nat) → N q = M q) (h : poParse M N) : LwC N := by
  obtain ⟨p1, p2, p3, p4, p5⟩ := h
  have e0 := p1 0 (by decide) (by decide) (by decide) (by decide)
  have e4 := hf 4 (by decide)
  have eL : LL3 N = LL3 M := LL3_eq e4 e0
  unfold LwC
  rw [eL, e0, e4, p3, p4]
  exact ⟨hp, rfl, rfl, p5, Or.inl p2⟩
theorem wa_pre {M M1 N : M3} (hI : Inv M) (hp : preParse M1) (h0 : ∀ q : Nat, q ∉ ([3, 4] : List Nat) → M1 q = M q) (hf : ∀ q : Nat, q ∉ ([3, 5, 6, 7] : List Nat) → N q = M1 q) (h : poParse M1 N) : LwC N ∧ (0 ≤ N 14 0 0 ∧ N 14 0 0 ≤ 60) ∧ ∀ i : Int, 0 ≤ i → i < N 14 0 0 → 0 ≤ N 18 i 2 ∧ N 18 i 2 ≤ 399 := by
  have hc1 := hI.1.1.2.2.2.1.1
  have hc2 := hI.1.1.2.2.2.1.2.1
  rw [hf 14 (by decide), hf 18 (by decide), h0 14 (by decide), h0 18 (by decide), hc1]
  refine ⟨lwC_parse hp hf h, hc2, fun i a b => ?_⟩
  obtain ⟨⟨f1, f2, f3, f4⟩, _⟩ := hI.1.1.f a b
  rw [f3]
  exact (hI.1.1.okA.2 i a b).1.2.1
theorem wgt_is {N K : M3} {f : Int} (hL : LL3 N = LM3 K) (e19 : ∀ q : Int, 0 ≤ q → q < 20 → N 19 f q = K 59 0 (20 * f + q)) (e1 : N 18 f 1 = K 46 0 (K 56 0 f)) (e2 : N 18 f 2 = K 57 0 f) (e3 : N 18 f 3 = K 58 0 f) : cRts N f = mRights K f ∧ cLck N f = mLck K f := by
  have r : cRts N f = mRights K f := by
    unfold cRts mRights
    exact cn3_congr fun q a b => by rw [e19 q a b, hL, e2]
  refine ⟨r, ?_⟩
  unfold cLck mLck
  rw [r, hL, e1, e2, e3]
theorem inv_law {M N1 N2 K : M3} (hI : Inv M) (f1 : ∀ q : Nat, q ∉ ([3, 4, 5, 6, 7] : List Nat) → N1 q = M q) (hw : Ec (wgM N1 (N1 14 0 0)) N2) (hl : LwC N2) (f2 : ∀ q : Nat, q ∉ ([44, 52] : List Nat) → K q = N2 q) (f3 : ∀ j : Int, j ≠ 9 → j ≠ 11 → K 44 0 j = M 44 0 j) (h11 : K 44 0 11 = 0) (hlaw : iLaw K) : Inv K := by
  have g0 : ∀ q : Nat, q ∉ ([3, 4, 5, 6, 7, 8, 9, 44, 52] : List Nat) → K q = wgM N1 (N1 14 0 0) q := fun q hq => (f2 q fun z => hq ((show ∀ y ∈ ([44, 52] : List Nat), y ∈ ([3, 4, 5, 6, 7, 8, 9, 44, 52] : List Nat) by decide) q z)).trans (hw.1 q fun z => hq ((show ∀ y ∈ ([3, 8, 9] : List Nat), y ∈ ([3, 4, 5, 6, 7, 8, 9, 44, 52] : List Nat) by decide) q z))
  have g : ∀ q : Nat, q ∉ ([3, 4, 5, 6, 7, 8, 9, 18, 44, 52] : List Nat) → K q = M q := fun q hq => (g0 q fun z => hq ((show ∀ y ∈ ([3, 4, 5, 6, 7, 8, 9, 44, 52] : List Nat), y ∈ ([3, 4, 5, 6, 7, 8, 9, 18, 44, 52] : List Nat) by decide) q z)).trans ((wgM_r fun z => hq (by rw [z]; decide)).trans (f1 q fun z => hq ((show ∀ y ∈ ([3, 4, 5, 6, 7] : List Nat), y ∈ ([3, 4, 5, 6, 7, 8, 9, 18, 44, 52] : List Nat) by decide) q z)))
  have e18 : ∀ f j : Int, j < 9 → K 18 f j = M 18 f j := fun f j hj => by rw [g0 18 (by decide), wgM_j (by omega), f1 18 (by decide)]
  have eL : LL3 N1 = LM3 K := by
    rw [← hlaw.L]
    refine (LL3_eq ?_ ?_).symm
    · rw [f2 4 (by decide), hw.1 4 (by decide), wgM_r (by decide)]
    · rw [f2 3 (by decide), hw.2 0 (by decide), wgM_r (by decide)]
  have h14 : N1 14 0 0 = M 44 0 18 := by rw [f1 14 (by decide)]; exact hI.1.1.2.2.2.1.1
  have hW : iW K := fun f a b => by
    rw [f3 18 (by decide) (by decide)] at b
    obtain ⟨⟨w1, w2, w3, w4⟩, w5, _⟩ := hI.1.1.f a b
    obtain ⟨r1, r2⟩ := wgt_is (N := N1) (K := K) (f := f) eL (fun q c d => by rw [f1 19 (by decide), g 59 (by decide)]; exact (w5 q c d).1) (by rw [f1 18 (by decide), g 46 (by decide), g 56 (by decide)]; exact w2) (by rw [f1 18 (by decide), g 57 (by decide)]; exact w3) (by rw [f1 18 (by decide), g 58 (by decide)]; exact w4)
    rw [g0 18 (by decide), ← r1, ← r2]
    exact ⟨if_pos ⟨rfl, ⟨a, by rw [h14]; exact b⟩, Or.inl rfl⟩, if_pos ⟨rfl, ⟨a, by rw [h14]; exact b⟩, Or.inr rfl⟩⟩
  have hC : LwC K := LwC.k (fun q hq => f2 q fun z => by
    have := (show ∀ y ∈ ([44, 52] : List Nat), 44 ≤ y by decide) q z
    omega) hl
  have hR : RdC K := ⟨hlaw.2.1, Or.inl h11⟩
  exact ⟨⟨⟨(iBas_of (by first | exact g _ (by decide) | rw [g _ (by decide)] | exact f3 _ (by decide) (by decide) | exact e18 _ _ (by assumption)) (by first | exact g _ (by decide) | rw [g _ (by decide)] | exact f3 _ (by decide) (by decide) | exact e18 _ _ (by assumption)) (by first | exact g _ (by decide) | rw [g _ (by decide)] | exact f3 _ (by decide) (by decide) | exact e18 _ _ (by assumption)) (by first | exact g _ (by decide) | rw [g _ (by decide)] | exact f3 _ (by decide) (by decide) | exact e18 _ _ (by assumption)) (by first | exact g _ (by decide) | rw [g _ (by decide)] | exact f3 _ (by decide) (by decide) | exact e18 _ _ (by assumption)) (by first | exact g _ (by decide) | rw [g _ (by decide)] | exact f3 _ (by decide) (by decide) | exact e18 _ _ (by assumption)) hI.1.1.1), hlaw, (iCty_of (by first | exact g _ (by decide) | rw [g _ (by decide)] | exact f3 _ (by decide) (by decide) | exact e18 _ _ (by assumption)) (by first | exact g _ (by decide) | rw [g _ (by decide)] | exact f3 _ (by decide) (by decide) | exact e18 _ _ (by assumption)) (by first | exact g _ (by decide) | rw [g _ (by decide)] | exact f3 _ (by decide) (by decide) | exact e18 _ _ (by assumption)) (by first | exact g _ (by decide) | rw [g _ (by decide)] | exact f3 _ (by decide) (by decide) | exact e18 _ _ (by assumption)) (by first | exact g _ (by decide) | rw [g _ (by decide)] | exact f3 _ (by decide) (by decide) | exact e18 _ _ (by assumption)) (by first | exact g _ (by decide) | rw [g _ (by decide)] | exact f3 _ (by decide) (by decide) | exact e18 _ _ (by assumption)) (by first | exact g _ (by decide) | rw [g _ (by decide)] | exact f3 _ (by decide) (by decide) | exact e18 _ _ (by assumption)) (by first | exact g _ (by decide) | rw [g _ (by decide)] | exact f3 _ (by decide) (by decide) | exact e18 _ _ (by assumption)) (by first | exact g _ (by decide) | rw [g _ (by decide)] | exact f3 _ (by decide) (by decide) | exact e18 _ _ (by assumption)) (by first | exact g _ (by decide) | rw [g _ (by decide)] | exact f3 _ (by decide) (by decide) | exact e18 _ _ (by assumption)) hI.1.1.2.2.1), (iFrm_of (by first | exact g _ (by decide) | rw [g _ (by decide)] | exact f3 _ (by decide) (by decide) | exact e18 _ _ (by assumption)) (by first | exact g _ (by decide) | rw [g _ (by decide)] | exact f3 _ (by decide) (by decide) | exact e18 _ _ (by assumption)) (by first | exact g _ (by decide) | rw [g _ (by decide)] | exact f3 _ (by decide) (by decide) | exact e18 _ _ (by assumption)) (by first | exact g _ (by decide) | rw [g _ (by decide)] | exact f3 _ (by decide) (by decide) | exact e18 _ _ (by assumption)) (fun f j hj => by first | exact g _ (by decide) | rw [g _ (by decide)] | exact f3 _ (by decide) (by decide) | exact e18 _ _ (by assumption)) (by first | exact g _ (by decide) | rw [g _ (by decide)] | exact f3 _ (by decide) (by decide) | exact e18 _ _ (by assumption)) (by first | exact g _ (by decide) | rw [g _ (by decide)] | exact f3 _ (by decide) (by decide) | exact e18 _ _ (by assumption)) (by first | exact g _ (by decide) | rw [g _ (by decide)] | exact f3 _ (by decide) (by decide) | exact e18 _ _ (by assumption)) (by first | exact g _ (by decide) | rw [g _ (by decide)] | exact f3 _ (by decide) (by decide) | exact e18 _ _ (by assumption)) (by first | exact g _ (by decide) | rw [g _ (by decide)] | exact f3 _ (by decide) (by decide) | exact e18 _ _ (by assumption)) (by first | exact g _ (by decide) | rw [g _ (by decide)] | exact f3 _ (by decide) (by decide) | exact e18 _ _ (by assumption)) (by first | exact g _ (by decide) | rw [g _ (by decide)] | exact f3 _ (by decide) (by decide) | exact e18 _ _ (by assumption)) (by first | exact g _ (by decide) | rw [g _ (by decide)] | exact f3 _ (by decide) (by decide) | exact e18 _ _ (by assumption)) (by first | exact g _ (by decide) | rw [g _ (by decide)] | exact f3 _ (by decide) (by decide) | exact e18 _ _ (by assumption)) (by first | exact g _ (by decide) | rw [g _ (by decide)] | exact f3 _ (by decide) (by decide) | exact e18 _ _ (by assumption)) hI.1.1.2.2.2.1), (iOrd_of (by first | exact g _ (by decide) | rw [g _ (by decide)] | exact f3 _ (by decide) (by decide) | exact e18 _ _ (by assumption)) (by first | exact g _ (by decide) | rw [g _ (by decide)] | exact f3 _ (by decide) (by decide) | exact e18 _ _ (by assumption)) hI.1.1.2.2.2.2.1), (iLin_of (by first | exact g _ (by decide) | rw [g _ (by decide)] | exact f3 _ (by decide) (by decide) | exact e18 _ _ (by assumption)) (by first | exact g _ (by decide) | rw [g _ (by decide)] | exact f3 _ (by decide) (by decide) | exact e18 _ _ (by assumption)) (by first | exact g _ (by decide) | rw [g _ (by decide)] | exact f3 _ (by decide) (by decide) | exact e18 _ _ (by assumption)) (by first | exact g _ (by decide) | rw [g _ (by decide)] | exact f3 _ (by decide) (by decide) | exact e18 _ _ (by assumption)) (by first | exact g _ (by decide) | rw [g _ (by decide)] | exact f3 _ (by decide) (by decide) | exact e18 _ _ (by assumption)) (by first | exact g _ (by decide) | rw [g _ (by decide)] | exact f3 _ (by decide) (by decide) | exact e18 _ _ (by assumption)) (by first | exact g _ (by decide) | rw [g _ (by decide)] | exact f3 _ (by decide) (by decide) | exact e18 _ _ (by assumption)) (by first | exact g _ (by decide) | rw [g _ (by decide)] | exact f3 _ (by decide) (by decide) | exact e18 _ _ (by assumption)) (by first | exact g _ (by decide) | rw [g _ (by decide)] | exact f3 _ (by decide) (by decide) | exact e18 _ _ (by assumption)) (by first | exact g _ (by decide) | rw [g _ (by decide)] | exact f3 _ (by decide) (by decide) | exact e18 _ _ (by assumption)) (by first | exact g _ (by decide) | rw [g _ (by decide)] | exact f3 _ (by decide) (by decide) | exact e18 _ _ (by assumption)) (by first | exact g _ (by decide) | rw [g _ (by decide)] | exact f3 _ (by decide) (by decide) | exact e18 _ _ (by assumption)) (by first | exact g _ (by decide) | rw [g _ (by decide)] | exact f3 _ (by decide) (by decide) | exact e18 _ _ (by assumption)) (by first | exact g _ (by decide) | rw [g _ (by decide)] | exact f3 _ (by decide) (by decide) | exact e18 _ _ (by assumption)) (by first | exact g _ (by decide) | rw [g _ (by decide)] | exact f3 _ (by decide) (by decide) | exact e18 _ _ (by assumption)) (by first | exact g _ (by decide) | rw [g _ (by decide)] | exact f3 _ (by decide) (by decide) | exact e18 _ _ (by assumption)) (by first | exact g _ (by decide) | rw [g _ (by decide)] | exact f3 _ (by decide) (by decide) | exact e18 _ _ (by assumption)) hI.1.1.2.2.2.2.2.1), (iLst_of (by first | exact g _ (by decide) | rw [g _ (by decide)] | exact f3 _ (by decide) (by decide) | exact e18 _ _ (by assumption)) (by first | exact g _ (by decide) | rw [g _ (by decide)] | exact f3 _ (by decide) (by decide) | exact e18 _ _ (by assumption)) (by first | exact g _ (by decide) | rw [g _ (by decide)] | exact f3 _ (by decide) (by decide) | exact e18 _ _ (by assumption)) (by first | exact g _ (by decide) | rw [g _ (by decide)] | exact f3 _ (by decide) (by decide) | exact e18 _ _ (by assumption)) (by first | exact g _ (by decide) | rw [g _ (by decide)] | exact f3 _ (by decide) (by decide) | exact e18 _ _ (by assumption)) (by first | exact g _ (by decide) | rw [g _ (by decide)] | exact f3 _ (by decide) (by decide) | exact e18 _ _ (by assumption)) (by first | exact g _ (by decide) | rw [g _ (by decide)] | exact f3 _ (by decide) (by decide) | exact e18 _ _ (by assumption)) hI.1.1.2.2.2.2.2.2.1), (iSum_of (by first | exact g _ (by decide) | rw [g _ (by decide)] | exact f3 _ (by decide) (by decide) | exact e18 _ _ (by assumption)) (by first | exact g _ (by decide) | rw [g _ (by decide)] | exact f3 _ (by decide) (by decide) | exact e18 _ _ (by assumption)) (by first | exact g _ (by decide) | rw [g _ (by decide)] | exact f3 _ (by decide) (by decide) | exact e18 _ _ (by assumption)) (by first | exact g _ (by decide) | rw [g _ (by decide)] | exact f3 _ (by decide) (by decide) | exact e18 _ _ (by assumption)) (by first | exact g _ (by decide) | rw [g _ (by decide)] | exact f3 _ (by decide) (by decide) | exact e18 _ _ (by assumption)) (by first | exact g _ (by decide) | rw [g _ (by decide)] | exact f3 _ (by decide) (by decide) | exact e18 _ _ (by assumption)) (by first | exact g _ (by decide) | rw [g _ (by decide)] | exact f3 _ (by decide) (by decide) | exact e18 _ _ (by assumption)) (by first | exact g _ (by decide) | rw [g _ (by decide)] | exact f3 _ (by decide) (by decide) | exact e18 _ _ (by assumption)) (by first | exact g _ (by decide) | rw [g _ (by decide)] | exact f3 _ (by decide) (by decide) | exact e18 _ _ (by assumption)) hI.1.1.2.2.2.2.2.2.2.1), (iSht_of (by first | exact g _ (by decide) | rw [g _ (by decide)] | exact f3 _ (by decide) (by decide) | exact e18 _ _ (by assumption)) (by first | exact g _ (by decide) | rw [g _ (by decide)] | exact f3 _ (by decide) (by decide) | exact e18 _ _ (by assumption)) (by first | exact g _ (by decide) | rw [g _ (by decide)] | exact f3 _ (by decide) (by decide) | exact e18 _ _ (by assumption)) (by first | exact g _ (by decide) | rw [g _ (by decide)] | exact f3 _ (by decide) (by decide) | exact e18 _ _ (by assumption)) (by first | exact g _ (by decide) | rw [g _ (by decide)] | exact f3 _ (by decide) (by decide) | exact e18 _ _ (by assumption)) (by first | exact g _ (by decide) | rw [g _ (by decide)] | exact f3 _ (by decide) (by decide) | exact e18 _ _ (by assumption)) hI.1.1.2.2.2.2.2.2.2.2)⟩, hW⟩, hC, hR⟩
theorem m_type {E : E3} {Q : Q3} {M : M3} {x1 : Int} (h9 : 0 ≤ M 44 0 9 ∧ M 44 0 9 ≤ 200) (hx1 : -2147483648 ≤ x1 ∧ x1 ≤ 2147483647) (k1 : ¬ (0 ≤ x1 ∧ x1 ≤ 255) → Q (some (vI (-2))) M) (k2 : (0 ≤ x1 ∧ x1 ≤ 255) → M 44 0 9 = 200 → Q (some (vI (-4))) M) (k : (0 ≤ x1 ∧ x1 ≤ 255) → M 44 0 9 < 200 → Q (some (vI (M 44 0 9 + 1))) (up3 (up3 (up3 M 52 0 (M 44 0 9) x1) 44 0 9 (M 44 0 9 + 1)) 44 0 11 0)) : C3 E YX12_type [vR 44 0, vI x1] M Q := by
  refine c3_rm fun hM => ?_
  refine sX12_type ?_
  refine ⟨?_, ?_⟩
  · omega
  refine ⟨fun c1 => ?_, fun c1 => ?_⟩
  · refine ⟨fun c2 => ?_, fun c2 => ?_⟩
    · refine ⟨?_, ?_, ?_, ?_⟩
      · omega
      · omega
      · omega
      first | exact k1 (by omega) | exact k2 (by omega) (by omega) | exact k (by omega) (by omega) | (exfalso; omega)
    · first | exact k1 (by omega) | exact k2 (by omega) (by omega) | exact k (by omega) (by omega) | (exfalso; omega)
  · first | exact k1 (by omega) | exact k2 (by omega) (by omega) | exact k (by omega) (by omega) | (exfalso; omega)
theorem m_wipe {E : E3} {Q : Q3} {M : M3} (k : Q (some (vI (M 44 0 9))) (up3 (up3 M 44 0 9 0) 44 0 11 0)) : C3 E YX12_wipe [vR 44 0] M Q := by
  refine c3_rm fun hM => ?_
  refine sX12_wipe ?_
  exact k
theorem p_type {E : E3} {M : M3} {x1 : Int} (hI : Inv M) (hx1 : -2147483648 ≤ x1 ∧ x1 ≤ 2147483647) : C3 E YX11_type [vR 0 0, vI x1] M (P2 E YX12_type [vR 44 0, vI x1]) := by
  refine c3_rm fun hM => ?_
  have hl1 := hI.1.1.2.1.1
  have hl2 := hI.1.1.2.1.2.1
  have hl3 := hI.1.1.2.1.2.2
  have pp : M 3 0 0 < 200 → preParse (up3 (up3 M 4 0 (M 3 0 0) x1) 3 0 0 ((M 3 0 0) + 1)) := fun z => by
    unfold preParse
    rw [up3_eq]
    omega
  have ff : ∀ q : Nat, q ∉ ([3, 4] : List Nat) → (up3 (up3 M 4 0 (M 3 0 0) x1) 3 0 0 ((M 3 0 0) + 1)) q = M q := fr_up (fr_up fr_rf (by decide)) (by decide)
  refine sX11_type ?_
  refine ⟨?_, ?_⟩
  · first | omega | exact pp (by omega) | exact wa_pre hI (pp (by omega)) ff hf1 hp1 | (exfalso; omega)
  refine ⟨fun c1 => ?_, fun c1 => ?_⟩
  · refine ⟨fun c2 => ?_, fun c2 => ?_⟩
    · refine ⟨fun c3 => ?_, fun c3 => ?_⟩
      · refine ⟨?_, ?_⟩
        · first | omega | exact pp (by omega) | exact wa_pre hI (pp (by omega)) ff hf1 hp1 | (exfalso; omega)
        intro N1 hN1 hf1 hp1
        refine ⟨?_, ?_⟩
        · first | omega | exact pp (by omega) | exact wa_pre hI (pp (by omega)) ff hf1 hp1 | (exfalso; omega)
        intro N2 hN2 hf2 hs2 hp2
        first
        | (exfalso; omega)
        | exact p2I (m_type hl2 hx1 (fun _ => r2I rfl hI) (fun _ _ => by exfalso; omega) (fun _ _ => by exfalso; omega))
        | exact p2I (m_type hl2 hx1 (fun _ => by exfalso; omega) (fun _ _ => r2I rfl hI) (fun _ _ => by exfalso; omega))
        | (have f1 : ∀ q : Nat, q ∉ ([3, 4, 5, 6, 7] : List Nat) → N1 q = M q := fun q hq => (hf1 q fun z => hq ((show ∀ y ∈ ([3, 5, 6, 7] : List Nat), y ∈ ([3, 4, 5, 6, 7] : List Nat) by decide) q z)).trans (ff q fun z => hq ((show ∀ y ∈ ([3, 4] : List Nat), y ∈ ([3, 4, 5, 6, 7] : List Nat) by decide) q z))
           have h30 : N1 3 0 0 = M 44 0 9 + 1 := by rw [hp1.1 0 (by decide) (by decide) (by decide) (by decide), up3_eq, hl1]
           have h4 : N1 4 = (up3 (up3 M 4 0 (M 3 0 0) x1) 3 0 0 ((M 3 0 0) + 1)) 4 := hf1 4 (by decide)
           have hm : ∀ q : Nat, 44 ≤ q → N2 q = M q := fun q hq => (hf2 q fun z => by
             have := (show ∀ y ∈ ([3, 8, 9, 18] : List Nat), y < 44 by decide) q z
             omega).trans (f1 q fun z => by
             have := (show ∀ y ∈ ([3, 4, 5, 6, 7] : List Nat), y < 44 by decide) q z
             omega)
           have e9 : N2 44 0 9 = M 44 0 9 := by rw [hm 44 (by decide)]
           refine p2I (m_type (by rw [e9]; exact hl2) hx1 (fun _ => by exfalso; omega) (fun _ _ => by exfalso; omega) (fun _ _ => r2I (svI (by rw [e9]; exact h30.symm)) ?_))
           refine inv_law hI f1 hp2.2 hp2.1 (fr_up (fr_up (fr_up fr_rf (by decide)) (by decide)) (by decide)) (fun j a b => by rw [up3_nj b, up3_nj a, up3_nr (by decide), hm 44 (by decide)]) (by rw [up3_eq]) ⟨?_, ?_, fun y a b => ?_⟩
           · rw [up3_nr (by decide), up3_nr (by decide), up3_nr (by decide), hs2 0 (by decide), h30, up3_nj (by decide), up3_eq, e9]
           · rw [up3_nj (by decide), up3_eq, e9]
             omega
           · rw [up3_nj (by decide), up3_eq, e9] at b
             refine Eq.trans (b := if y = M 44 0 9 then x1 else M 4 0 y) ?_ (Eq.symm ?_)
             · rw [up3_nr (by decide), up3_nr (by decide), up3_nr (by decide), hf2 4 (by decide), h4, up3_nr (by decide), hl1]
               by_cases z : y = M 44 0 9
               · rw [if_pos z, z, up3_eq]
               · rw [if_neg z, up3_nj z]
             · rw [up3_nr (by decide), up3_nr (by decide), e9]
               by_cases z : y = M 44 0 9
               · rw [if_pos z, z, up3_eq]
               · rw [if_neg z, up3_nj z, hm 52 (by decide)]
                 exact (hl3 y a (by omega)).symm)
      · refine ⟨?_, ?_, ?_, ?_, ?_⟩
        · first | omega | exact pp (by omega) | exact wa_pre hI (pp (by omega)) ff hf1 hp1 | (exfalso; omega)
        · first | omega | exact pp (by omega) | exact wa_pre hI (pp (by omega)) ff hf1 hp1 | (exfalso; omega)
        · first | omega | exact pp (by omega) | exact wa_pre hI (pp (by omega)) ff hf1 hp1 | (exfalso; omega)
        · first | omega | exact pp (by omega) | exact wa_pre hI (pp (by omega)) ff hf1 hp1 | (exfalso; omega)
        intro N1 hN1 hf1 hp1
        refine ⟨?_, ?_⟩
        · first | omega | exact pp (by omega) | exact wa_pre hI (pp (by omega)) ff hf1 hp1 | (exfalso; omega)
        intro N2 hN2 hf2 hs2 hp2
        first
        | (exfalso; omega)
        | exact p2I (m_type hl2 hx1 (fun _ => r2I rfl hI) (fun _ _ => by exfalso; omega) (fun _ _ => by exfalso; omega))
        | exact p2I (m_type hl2 hx1 (fun _ => by exfalso; omega) (fun _ _ => r2I rfl hI) (fun _ _ => by exfalso; omega))
        | (have f1 : ∀ q : Nat, q ∉ ([3, 4, 5, 6, 7] : List Nat) → N1 q = M q := fun q hq => (hf1 q fun z => hq ((show ∀ y ∈ ([3, 5, 6, 7] : List Nat), y ∈ ([3, 4, 5, 6, 7] : List Nat) by decide) q z)).trans (ff q fun z => hq ((show ∀ y ∈ ([3, 4] : List Nat), y ∈ ([3, 4, 5, 6, 7] : List Nat) by decide) q z))
           have h30 : N1 3 0 0 = M 44 0 9 + 1 := by rw [hp1.1 0 (by decide) (by decide) (by decide) (by decide), up3_eq, hl1]
           have h4 : N1 4 = (up3 (up3 M 4 0 (M 3 0 0) x1) 3 0 0 ((M 3 0 0) + 1)) 4 := hf1 4 (by decide)
           have hm : ∀ q : Nat, 44 ≤ q → N2 q = M q := fun q hq => (hf2 q fun z => by
             have := (show ∀ y ∈ ([3, 8, 9, 18] : List Nat), y < 44 by decide) q z
             omega).trans (f1 q fun z => by
             have := (show ∀ y ∈ ([3, 4, 5, 6, 7] : List Nat), y < 44 by decide) q z
             omega)
           have e9 : N2 44 0 9 = M 44 0 9 := by rw [hm 44 (by decide)]
           refine p2I (m_type (by rw [e9]; exact hl2) hx1 (fun _ => by exfalso; omega) (fun _ _ => by exfalso; omega) (fun _ _ => r2I (svI (by rw [e9]; exact h30.symm)) ?_))
           refine inv_law hI f1 hp2.2 hp2.1 (fr_up (fr_up (fr_up fr_rf (by decide)) (by decide)) (by decide)) (fun j a b => by rw [up3_nj b, up3_nj a, up3_nr (by decide), hm 44 (by decide)]) (by rw [up3_eq]) ⟨?_, ?_, fun y a b => ?_⟩
           · rw [up3_nr (by decide), up3_nr (by decide), up3_nr (by decide), hs2 0 (by decide), h30, up3_nj (by decide), up3_eq, e9]
           · rw [up3_nj (by decide), up3_eq, e9]
             omega
           · rw [up3_nj (by decide), up3_eq, e9] at b
             refine Eq.trans (b := if y = M 44 0 9 then x1 else M 4 0 y) ?_ (Eq.symm ?_)
             · rw [up3_nr (by decide), up3_nr (by decide), up3_nr (by decide), hf2 4 (by decide), h4, up3_nr (by decide), hl1]
               by_cases z : y = M 44 0 9
               · rw [if_pos z, z, up3_eq]
               · rw [if_neg z, up3_nj z]
             · rw [up3_nr (by decide), up3_nr (by decide), e9]
               by_cases z : y = M 44 0 9
               · rw [if_pos z, z, up3_eq]
               · rw [if_neg z, up3_nj z, hm 52 (by decide)]
                 exact (hl3 y a (by omega)).symm)
    · first
      | (exfalso; omega)
      | exact p2I (m_type hl2 hx1 (fun _ => r2I rfl hI) (fun _ _ => by exfalso; omega) (fun _ _ => by exfalso; omega))
      | exact p2I (m_type hl2 hx1 (fun _ => by exfalso; omega) (fun _ _ => r2I rfl hI) (fun _ _ => by exfalso; omega))
      | (have f1 : ∀ q : Nat, q ∉ ([3, 4, 5, 6, 7] : List Nat) → N1 q = M q := fun q hq => (hf1 q fun z => hq ((show ∀ y ∈ ([3, 5, 6, 7] : List Nat), y ∈ ([3, 4, 5, 6, 7] : List Nat) by decide) q z)).trans (ff q fun z => hq ((show ∀ y ∈ ([3, 4] : List Nat), y ∈ ([3, 4, 5, 6, 7] : List Nat) by decide) q z))
         have h30 : N1 3 0 0 = M 44 0 9 + 1 := by rw [hp1.1 0 (by decide) (by decide) (by decide) (by decide), up3_eq, hl1]
         have h4 : N1 4 = (up3 (up3 M 4 0 (M 3 0 0) x1) 3 0 0 ((M 3 0 0) + 1)) 4 := hf1 4 (by decide)
         have hm : ∀ q : Nat, 44 ≤ q → N2 q = M q := fun q hq => (hf2 q fun z => by
           have := (show ∀ y ∈ ([3, 8, 9, 18] : List Nat), y < 44 by decide) q z
           omega).trans (f1 q fun z => by
           have := (show ∀ y ∈ ([3, 4, 5, 6, 7] : List Nat), y < 44 by decide) q z
           omega)
         have e9 : N2 44 0 9 = M 44 0 9 := by rw [hm 44 (by decide)]
         refine p2I (m_type (by rw [e9]; exact hl2) hx1 (fun _ => by exfalso; omega) (fun _ _ => by exfalso; omega) (fun _ _ => r2I (svI (by rw [e9]; exact h30.symm)) ?_))
         refine inv_law hI f1 hp2.2 hp2.1 (fr_up (fr_up (fr_up fr_rf (by decide)) (by decide)) (by decide)) (fun j a b => by rw [up3_nj b, up3_nj a, up3_nr (by decide), hm 44 (by decide)]) (by rw [up3_eq]) ⟨?_, ?_, fun y a b => ?_⟩
         · rw [up3_nr (by decide), up3_nr (by decide), up3_nr (by decide), hs2 0 (by decide), h30, up3_nj (by decide), up3_eq, e9]
         · rw [up3_nj (by decide), up3_eq, e9]
           omega
         · rw [up3_nj (by decide), up3_eq, e9] at b
           refine Eq.trans (b := if y = M 44 0 9 then x1 else M 4 0 y) ?_ (Eq.symm ?_)
           · rw [up3_nr (by decide), up3_nr (by decide), up3_nr (by decide), hf2 4 (by decide), h4, up3_nr (by decide), hl1]
             by_cases z : y = M 44 0 9
             · rw [if_pos z, z, up3_eq]
             · rw [if_neg z, up3_nj z]
           · rw [up3_nr (by decide), up3_nr (by decide), e9]
             by_cases z : y = M 44 0 9
             · rw [if_pos z, z, up3_eq]
             · rw [if_neg z, up3_nj z, hm 52 (by decide)]
               exact (hl3 y a (by omega)).symm)
  · first
    | (exfalso; omega)
    | exact p2I (m_type hl2 hx1 (fun _ => r2I rfl hI) (fun _ _ => by exfalso; omega) (fun _ _ => by exfalso; omega))
    | exact p2I (m_type hl2 hx1 (fun _ => by exfalso; omega) (fun _ _ => r2I rfl hI) (fun _ _ => by exfalso; omega))
    | (have f1 : ∀ q : Nat, q ∉ ([3, 4, 5, 6, 7] : List Nat) → N1 q = M q := fun q hq => (hf1 q fun z => hq ((show ∀ y ∈ ([3, 5, 6, 7] : List Nat), y ∈ ([3, 4, 5, 6, 7] : List Nat) by decide) q z)).trans (ff q fun z => hq ((show ∀ y ∈ ([3, 4] : List Nat), y ∈ ([3, 4, 5, 6, 7] : List Nat) by decide) q z))
       have h30 : N1 3 0 0 = M 44 0 9 + 1 := by rw [hp1.1 0 (by decide) (by decide) (by decide) (by decide), up3_eq, hl1]
       have h4 : N1 4 = (up3 (up3 M 4 0 (M 3 0 0) x1) 3 0 0 ((M 3 0 0) + 1)) 4 := hf1 4 (by decide)
       have hm : ∀ q : Nat, 44 ≤ q → N2 q = M q := fun q hq => (hf2 q fun z => by
         have := (show ∀ y ∈ ([3, 8, 9, 18] : List Nat), y < 44 by decide) q z
         omega).trans (f1 q fun z => by
         have := (show ∀ y ∈ ([3, 4, 5, 6, 7] : List Nat), y < 44 by decide) q z
         omega)
       have e9 : N2 44 0 9 = M 44 0 9 := by rw [hm 44 (by decide)]
       refine p2I (m_type (by rw [e9]; exact hl2) hx1 (fun _ => by exfalso; omega) (fun _ _ => by exfalso; omega) (fun _ _ => r2I (svI (by rw [e9]; exact h30.symm)) ?_))
       refine inv_law hI f1 hp2.2 hp2.1 (fr_up (fr_up (fr_up fr_rf (by decide)) (by decide)) (by decide)) (fun j a b => by rw [up3_nj b, up3_nj a, up3_nr (by decide), hm 44 (by decide)]) (by rw [up3_eq]) ⟨?_, ?_, fun y a b => ?_⟩
       · rw [up3_nr (by decide), up3_nr (by decide), up3_nr (by decide), hs2 0 (by decide), h30, up3_nj (by decide), up3_eq, e9]
       · rw [up3_nj (by decide), up3_eq, e9]
         omega
       · rw [up3_nj (by decide), up3_eq, e9] at b
         refine Eq.trans (b := if y = M 44 0 9 then x1 else M 4 0 y) ?_ (Eq.symm ?_)
         · rw [up3_nr (by decide), up3_nr (by decide), up3_nr (by decide), hf2 4 (by decide), h4, up3_nr (by decide), hl1]
           by_cases z : y = M 44 0 9
           · rw [if_pos z, z, up3_eq]
           · rw [if_neg z, up3_nj z]
         · rw [up3_nr (by decide), up3_nr (by decide), e9]
           by_cases z : y = M 44 0 9
           · rw [if_pos z, z, up3_eq]
           · rw [if_neg z, up3_nj z, hm 52 (by decide)]
             exact (hl3 y a (by omega)).symm)
theorem p_wipe {E : E3} {M : M3} (hI : Inv M) : C3 E YX11_wipe [vR 0 0] M (P2 E YX12_wipe [vR 44 0]) := by
  refine c3_rm fun hM => ?_
  have hl1 := hI.1.1.2.1.1
  have pp : preParse (up3 M 3 0 0 0) := by
    unfold preParse
    rw [up3_eq]
    omega
  have ff : ∀ q : Nat, q ∉ ([3, 4] : List Nat) → (up3 M 3 0 0 0) q = M q := fr_up fr_rf (by decide)
  refine sX11_wipe ?_
  refine ⟨?_, ?_⟩
  · first | exact pp | exact wa_pre hI pp ff hf1 hp1
  intro N1 hN1 hf1 hp1
  refine ⟨?_, ?_⟩
  · first | exact pp | exact wa_pre hI pp ff hf1 hp1
  intro N2 hN2 hf2 hs2 hp2
  first
  | (have f1 : ∀ q : Nat, q ∉ ([3, 4, 5, 6, 7] : List Nat) → N1 q = M q := fun q hq => (hf1 q fun z => hq ((show ∀ y ∈ ([3, 5, 6, 7] : List Nat), y ∈ ([3, 4, 5, 6, 7] : List Nat) by decide) q z)).trans (ff q fun z => hq ((show ∀ y ∈ ([3, 4] : List Nat), y ∈ ([3, 4, 5, 6, 7] : List Nat) by decide) q z))
     have h30 : N1 3 0 0 = 0 := by rw [hp1.1 0 (by decide) (by decide) (by decide) (by decide), up3_eq]
     have hm : ∀ q : Nat, 44 ≤ q → N2 q = M q := fun q hq => (hf2 q fun z => by
       have := (show ∀ y ∈ ([3, 8, 9, 18] : List Nat), y < 44 by decide) q z
       omega).trans (f1 q fun z => by
       have := (show ∀ y ∈ ([3, 4, 5, 6, 7] : List Nat), y < 44 by decide) q z
       omega)
     refine p2I (m_wipe (r2I (svI (by rw [hm 44 (by decide)]; exact hl1.symm)) ?_))
     refine inv_law hI f1 hp2.2 hp2.1 (fr_up (fr_up fr_rf (by decide)) (by decide)) (fun j a b => by rw [up3_nj b, up3_nj a, hm 44 (by decide)]) (by rw [up3_eq]) ⟨?_, ?_, fun y a b => ?_⟩
     · rw [up3_nr (by decide), up3_nr (by decide), hs2 0 (by decide), h30, up3_nj (by decide), up3_eq]
     · rw [up3_nj (by decide), up3_eq]
       decide
     · rw [up3_nj (by decide), up3_eq] at b
       omega)
