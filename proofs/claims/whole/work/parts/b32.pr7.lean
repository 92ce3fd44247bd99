/-! PAIRS: teach, list -/
theorem tcP_q {M N : M3} (h : Hm M N) (b p : Int) : tcP N b p ↔ tcP M b p := by
  unfold tcP alw3
  rw [LM3_q h, h 44 (by decide), h 45 (by decide), h 46 (by decide), h 47 (by decide), h 50 (by decide)]
theorem mTch_q {M N : M3} (h : Hm M N) (b : Int) : mTch N b = mTch M b := by
  unfold mTch
  simp only [tcP_q h, h 44 (by decide)]
theorem ws1_v {M : M3} {r : Nat} {i x j : Int} {P : Int → Prop} [∀ p, Decidable (P p)] {v : Int → Int} : ws1 M r i x (fun p => decide (P p)) v r i j = if (0 ≤ j ∧ j < x) ∧ P j then v j else M r i j := by
  unfold ws1
  by_cases h : (0 ≤ j ∧ j < x) ∧ P j
  · rw [if_pos h, if_pos ⟨rfl, rfl, h.1, decide_eq_true h.2⟩]
  · rw [if_neg h, if_neg fun z => h ⟨z.2.2.1, of_decide_eq_true z.2.2.2⟩]
theorem ws2_v {M : M3} {r : Nat} {j x i : Int} {P : Int → Prop} [∀ p, Decidable (P p)] {v : Int → Int} : ws2 M r j x (fun p => decide (P p)) v r i j = if (0 ≤ i ∧ i < x) ∧ P i then v i else M r i j := by
  unfold ws2
  by_cases h : (0 ≤ i ∧ i < x) ∧ P i
  · rw [if_pos h, if_pos ⟨rfl, rfl, h.1, decide_eq_true h.2⟩]
  · rw [if_neg h, if_neg fun z => h ⟨z.2.2.1, of_decide_eq_true z.2.2.2⟩]
theorem inv_teach {M N K : M3} {b : Int} (hI : Inv M) (e1 : Ec (tcC M b (M 44 0 1)) N) (hl : LwC N) (e2 : Em (tcM N b (N 44 0 1)) K) (hr : RdC K) : Inv K := by
  have hm : Hm M N := fun q hq => (e1.hm q hq).trans (ws2_r (by omega))
  have g : ∀ q : Nat, q ∉ ([3, 8, 9, 13, 44, 47, 53, 54, 55] : List Nat) → K q = M q := fun q hq => (e2.1 q (fun z => hq ((show ∀ y ∈ ([44, 53, 54, 55] : List Nat), y ∈ ([3, 8, 9, 13, 44, 47, 53, 54, 55] : List Nat) by decide) q z))).trans ((ws1_r fun z => hq (by rw [z]; decide)).trans ((e1.1 q (fun z => hq ((show ∀ y ∈ ([3, 8, 9] : List Nat), y ∈ ([3, 8, 9, 13, 44, 47, 53, 54, 55] : List Nat) by decide) q z))).trans (ws2_r fun z => hq (by rw [z]; decide))))
  have g44 : ∀ j : Int, j ∉ ([11, 12, 13, 17] : List Int) → K 44 0 j = M 44 0 j := fun j hj => by rw [e2.2 j hj, show tcM N b (N 44 0 1) 44 = N 44 from ws1_r (by decide), hm 44 (by decide)]
  have g3 : ∀ j : Int, j ∉ ([10] : List Int) → K 3 0 j = M 3 0 j := fun j hj => by rw [e2.1 3 (by decide), show tcM N b (N 44 0 1) 3 = N 3 from ws1_r (by decide), e1.2 j hj, show tcC M b (M 44 0 1) 3 = M 3 from ws2_r (by decide)]
  have g47 : ∀ p : Int, K 47 0 p = if (0 ≤ p ∧ p < M 44 0 1) ∧ tcP M b p then min 20 (M 47 0 p + 2) else M 47 0 p := fun p => by
    rw [e2.1 47 (by decide)]
    unfold tcM
    rw [ws1_v]
    simp only [tcP_q hm, hm 44 (by decide), hm 47 (by decide)]
  have g13 : ∀ p j : Int, j ≠ 2 → K 13 p j = M 13 p j := fun p j hj => by rw [e2.1 13 (by decide), show tcM N b (N 44 0 1) 13 = N 13 from ws1_r (by decide), e1.1 13 (by decide)]; exact ws2_j hj
  have g132 : ∀ p : Int, K 13 p 2 = if (0 ≤ p ∧ p < M 44 0 1) ∧ tcP M b p then min 20 (M 47 0 p + 2) else M 13 p 2 := fun p => by
    rw [e2.1 13 (by decide), show tcM N b (N 44 0 1) 13 = N 13 from ws1_r (by decide), e1.1 13 (by decide)]
    exact ws2_v
  have hC : LwC K := LwC.k (fun q hq => (e2.1 q fun z => by
    have := (show ∀ y ∈ ([44, 53, 54, 55] : List Nat), 44 ≤ y by decide) q z
    omega).trans (ws1_r (by omega))) hl
  have hP : iCty K := by
    refine ⟨by rw [g 10 (by decide), g44 1 (by decide)]; exact hI.1.1.2.2.1.1, by rw [g44 1 (by decide)]; exact hI.1.1.2.2.1.2.1, fun p a c => ?_⟩
    have w := hI.1.1.p a c
    unfold iP at w ⊢
    rw [g13 p 0 (by decide), g13 p 1 (by decide), g13 p 3 (by decide), g13 p 4 (by decide), g13 p 5 (by decide), g13 p 6 (by decide), g132, g47, g44 1 (by decide), g 45 (by decide), g 46 (by decide), g 48 (by decide), g 49 (by decide), g 50 (by decide), g 51 (by decide)]
    by_cases z : (0 ≤ p ∧ p < M 44 0 1) ∧ tcP M b p
    · rw [if_pos z, if_pos z]
      obtain ⟨⟨p1, p2, p3, p4, p5, p6⟩, q1, q2, q3, q4, q5, q6, q7, q8, q9⟩ := w
      exact ⟨⟨p1, rfl, p3, p4, p5, p6⟩, q1, q2, q3, q4, by omega, q6, q7, q8, q9⟩
    · rw [if_neg z, if_neg z]
      exact w
  exact ⟨⟨⟨(iBas_of (by first | exact g _ (by decide) | rw [g _ (by decide)] | exact g44 _ (by decide) | exact g3 _ (by decide) | (rw [g _ (by decide)])) (by first | exact g _ (by decide) | rw [g _ (by decide)] | exact g44 _ (by decide) | exact g3 _ (by decide) | (rw [g _ (by decide)])) (by first | exact g _ (by decide) | rw [g _ (by decide)] | exact g44 _ (by decide) | exact g3 _ (by decide) | (rw [g _ (by decide)])) (by first | exact g _ (by decide) | rw [g _ (by decide)] | exact g44 _ (by decide) | exact g3 _ (by decide) | (rw [g _ (by decide)])) (by first | exact g _ (by decide) | rw [g _ (by decide)] | exact g44 _ (by decide) | exact g3 _ (by decide) | (rw [g _ (by decide)])) (by first | exact g _ (by decide) | rw [g _ (by decide)] | exact g44 _ (by decide) | exact g3 _ (by decide) | (rw [g _ (by decide)])) hI.1.1.1), (iLaw_of (by first | exact g _ (by decide) | rw [g _ (by decide)] | exact g44 _ (by decide) | exact g3 _ (by decide) | (rw [g _ (by decide)])) (by first | exact g _ (by decide) | rw [g _ (by decide)] | exact g44 _ (by decide) | exact g3 _ (by decide) | (rw [g _ (by decide)])) (by first | exact g _ (by decide) | rw [g _ (by decide)] | exact g44 _ (by decide) | exact g3 _ (by decide) | (rw [g _ (by decide)])) (by first | exact g _ (by decide) | rw [g _ (by decide)] | exact g44 _ (by decide) | exact g3 _ (by decide) | (rw [g _ (by decide)])) hI.1.1.2.1), hP, (iFrm_of (by first | exact g _ (by decide) | rw [g _ (by decide)] | exact g44 _ (by decide) | exact g3 _ (by decide) | (rw [g _ (by decide)])) (by first | exact g _ (by decide) | rw [g _ (by decide)] | exact g44 _ (by decide) | exact g3 _ (by decide) | (rw [g _ (by decide)])) (by first | exact g _ (by decide) | rw [g _ (by decide)] | exact g44 _ (by decide) | exact g3 _ (by decide) | (rw [g _ (by decide)])) (by first | exact g _ (by decide) | rw [g _ (by decide)] | exact g44 _ (by decide) | exact g3 _ (by decide) | (rw [g _ (by decide)])) (fun f j hj => by first | exact g _ (by decide) | rw [g _ (by decide)] | exact g44 _ (by decide) | exact g3 _ (by decide) | (rw [g _ (by decide)])) (by first | exact g _ (by decide) | rw [g _ (by decide)] | exact g44 _ (by decide) | exact g3 _ (by decide) | (rw [g _ (by decide)])) (by first | exact g _ (by decide) | rw [g _ (by decide)] | exact g44 _ (by decide) | exact g3 _ (by decide) | (rw [g _ (by decide)])) (by first | exact g _ (by decide) | rw [g _ (by decide)] | exact g44 _ (by decide) | exact g3 _ (by decide) | (rw [g _ (by decide)])) (by first | exact g _ (by decide) | rw [g _ (by decide)] | exact g44 _ (by decide) | exact g3 _ (by decide) | (rw [g _ (by decide)])) (by first | exact g _ (by decide) | rw [g _ (by decide)] | exact g44 _ (by decide) | exact g3 _ (by decide) | (rw [g _ (by decide)])) (by first | exact g _ (by decide) | rw [g _ (by decide)] | exact g44 _ (by decide) | exact g3 _ (by decide) | (rw [g _ (by decide)])) (by first | exact g _ (by decide) | rw [g _ (by decide)] | exact g44 _ (by decide) | exact g3 _ (by decide) | (rw [g _ (by decide)])) (by first | exact g _ (by decide) | rw [g _ (by decide)] | exact g44 _ (by decide) | exact g3 _ (by decide) | (rw [g _ (by decide)])) (by first | exact g _ (by decide) | rw [g _ (by decide)] | exact g44 _ (by decide) | exact g3 _ (by decide) | (rw [g _ (by decide)])) (by first | exact g _ (by decide) | rw [g _ (by decide)] | exact g44 _ (by decide) | exact g3 _ (by decide) | (rw [g _ (by decide)])) hI.1.1.2.2.2.1), (iOrd_of (by first | exact g _ (by decide) | rw [g _ (by decide)] | exact g44 _ (by decide) | exact g3 _ (by decide) | (rw [g _ (by decide)])) (by first | exact g _ (by decide) | rw [g _ (by decide)] | exact g44 _ (by decide) | exact g3 _ (by decide) | (rw [g _ (by decide)])) hI.1.1.2.2.2.2.1), (iLin_of (by first | exact g _ (by decide) | rw [g _ (by decide)] | exact g44 _ (by decide) | exact g3 _ (by decide) | (rw [g _ (by decide)])) (by first | exact g _ (by decide) | rw [g _ (by decide)] | exact g44 _ (by decide) | exact g3 _ (by decide) | (rw [g _ (by decide)])) (by first | exact g _ (by decide) | rw [g _ (by decide)] | exact g44 _ (by decide) | exact g3 _ (by decide) | (rw [g _ (by decide)])) (by first | exact g _ (by decide) | rw [g _ (by decide)] | exact g44 _ (by decide) | exact g3 _ (by decide) | (rw [g _ (by decide)])) (by first | exact g _ (by decide) | rw [g _ (by decide)] | exact g44 _ (by decide) | exact g3 _ (by decide) | (rw [g _ (by decide)])) (by first | exact g _ (by decide) | rw [g _ (by decide)] | exact g44 _ (by decide) | exact g3 _ (by decide) | (rw [g _ (by decide)])) (by first | exact g _ (by decide) | rw [g _ (by decide)] | exact g44 _ (by decide) | exact g3 _ (by decide) | (rw [g _ (by decide)])) (by first | exact g _ (by decide) | rw [g _ (by decide)] | exact g44 _ (by decide) | exact g3 _ (by decide) | (rw [g _ (by decide)])) (by first | exact g _ (by decide) | rw [g _ (by decide)] | exact g44 _ (by decide) | exact g3 _ (by decide) | (rw [g _ (by decide)])) (by first | exact g _ (by decide) | rw [g _ (by decide)] | exact g44 _ (by decide) | exact g3 _ (by decide) | (rw [g _ (by decide)])) (by first | exact g _ (by decide) | rw [g _ (by decide)] | exact g44 _ (by decide) | exact g3 _ (by decide) | (rw [g _ (by decide)])) (by first | exact g _ (by decide) | rw [g _ (by decide)] | exact g44 _ (by decide) | exact g3 _ (by decide) | (rw [g _ (by decide)])) (by first | exact g _ (by decide) | rw [g _ (by decide)] | exact g44 _ (by decide) | exact g3 _ (by decide) | (rw [g _ (by decide)])) (by first | exact g _ (by decide) | rw [g _ (by decide)] | exact g44 _ (by decide) | exact g3 _ (by decide) | (rw [g _ (by decide)])) (by first | exact g _ (by decide) | rw [g _ (by decide)] | exact g44 _ (by decide) | exact g3 _ (by decide) | (rw [g _ (by decide)])) (by first | exact g _ (by decide) | rw [g _ (by decide)] | exact g44 _ (by decide) | exact g3 _ (by decide) | (rw [g _ (by decide)])) (by first | exact g _ (by decide) | rw [g _ (by decide)] | exact g44 _ (by decide) | exact g3 _ (by decide) | (rw [g _ (by decide)])) hI.1.1.2.2.2.2.2.1), (iLst_of (by first | exact g _ (by decide) | rw [g _ (by decide)] | exact g44 _ (by decide) | exact g3 _ (by decide) | (rw [g _ (by decide)])) (by first | exact g _ (by decide) | rw [g _ (by decide)] | exact g44 _ (by decide) | exact g3 _ (by decide) | (rw [g _ (by decide)])) (by first | exact g _ (by decide) | rw [g _ (by decide)] | exact g44 _ (by decide) | exact g3 _ (by decide) | (rw [g _ (by decide)])) (by first | exact g _ (by decide) | rw [g _ (by decide)] | exact g44 _ (by decide) | exact g3 _ (by decide) | (rw [g _ (by decide)])) (by first | exact g _ (by decide) | rw [g _ (by decide)] | exact g44 _ (by decide) | exact g3 _ (by decide) | (rw [g _ (by decide)])) (by first | exact g _ (by decide) | rw [g _ (by decide)] | exact g44 _ (by decide) | exact g3 _ (by decide) | (rw [g _ (by decide)])) (by first | exact g _ (by decide) | rw [g _ (by decide)] | exact g44 _ (by decide) | exact g3 _ (by decide) | (rw [g _ (by decide)])) hI.1.1.2.2.2.2.2.2.1), (iSum_of (by first | exact g _ (by decide) | rw [g _ (by decide)] | exact g44 _ (by decide) | exact g3 _ (by decide) | (rw [g _ (by decide)])) (by first | exact g _ (by decide) | rw [g _ (by decide)] | exact g44 _ (by decide) | exact g3 _ (by decide) | (rw [g _ (by decide)])) (by first | exact g _ (by decide) | rw [g _ (by decide)] | exact g44 _ (by decide) | exact g3 _ (by decide) | (rw [g _ (by decide)])) (by first | exact g _ (by decide) | rw [g _ (by decide)] | exact g44 _ (by decide) | exact g3 _ (by decide) | (rw [g _ (by decide)])) (by first | exact g _ (by decide) | rw [g _ (by decide)] | exact g44 _ (by decide) | exact g3 _ (by decide) | (rw [g _ (by decide)])) (by first | exact g _ (by decide) | rw [g _ (by decide)] | exact g44 _ (by decide) | exact g3 _ (by decide) | (rw [g _ (by decide)])) (by first | exact g _ (by decide) | rw [g _ (by decide)] | exact g44 _ (by decide) | exact g3 _ (by decide) | (rw [g _ (by decide)])) (by first | exact g _ (by decide) | rw [g _ (by decide)] | exact g44 _ (by decide) | exact g3 _ (by decide) | (rw [g _ (by decide)])) (by first | exact g _ (by decide) | rw [g _ (by decide)] | exact g44 _ (by decide) | exact g3 _ (by decide) | (rw [g _ (by decide)])) hI.1.1.2.2.2.2.2.2.2.1), (iSht_of (by first | exact g _ (by decide) | rw [g _ (by decide)] | exact g44 _ (by decide) | exact g3 _ (by decide) | (rw [g _ (by decide)])) (by first | exact g _ (by decide) | rw [g _ (by decide)] | exact g44 _ (by decide) | exact g3 _ (by decide) | (rw [g _ (by decide)])) (by first | exact g _ (by decide) | rw [g _ (by decide)] | exact g44 _ (by decide) | exact g3 _ (by decide) | (rw [g _ (by decide)])) (by first | exact g _ (by decide) | rw [g _ (by decide)] | exact g44 _ (by decide) | exact g3 _ (by decide) | (rw [g _ (by decide)])) (by first | exact g _ (by decide) | rw [g _ (by decide)] | exact g44 _ (by decide) | exact g3 _ (by decide) | (rw [g _ (by decide)])) (by first | exact g _ (by decide) | rw [g _ (by decide)] | exact g44 _ (by decide) | exact g3 _ (by decide) | (rw [g _ (by decide)])) hI.1.1.2.2.2.2.2.2.2.2)⟩, (iW_of (by first | exact g _ (by decide) | rw [g _ (by decide)] | exact g44 _ (by decide) | exact g3 _ (by decide) | (rw [g _ (by decide)])) (by first | exact g _ (by decide) | rw [g _ (by decide)] | exact g44 _ (by decide) | exact g3 _ (by decide) | (rw [g _ (by decide)])) (by first | exact g _ (by decide) | rw [g _ (by decide)] | exact g44 _ (by decide) | exact g3 _ (by decide) | (rw [g _ (by decide)])) (by first | exact g _ (by decide) | rw [g _ (by decide)] | exact g44 _ (by decide) | exact g3 _ (by decide) | (rw [g _ (by decide)])) (by first | exact g _ (by decide) | rw [g _ (by decide)] | exact g44 _ (by decide) | exact g3 _ (by decide) | (rw [g _ (by decide)])) (by first | exact g _ (by decide) | rw [g _ (by decide)] | exact g44 _ (by decide) | exact g3 _ (by decide) | (rw [g _ (by decide)])) (by first | exact g _ (by decide) | rw [g _ (by decide)] | exact g44 _ (by decide) | exact g3 _ (by decide) | (rw [g _ (by decide)])) (by first | exact g _ (by decide) | rw [g _ (by decide)] | exact g44 _ (by decide) | exact g3 _ (by decide) | (rw [g _ (by decide)])) (by first | exact g _ (by decide) | rw [g _ (by decide)] | exact g44 _ (by decide) | exact g3 _ (by decide) | (rw [g _ (by decide)])) hI.1.2)⟩, hC, hr⟩
theorem p_teach {E : E3} {M : M3} {x1 : Int} (hI : Inv M) (hx1 : -2147483648 ≤ x1 ∧ x1 ≤ 2147483647) : C3 E YX11_teach [vR 0 0, vI x1] M (P2 E YX12_teach [vR 44 0, vI x1]) := by
  refine c3_rm fun hM => ?_
  refine sX11_teach ?_
  refine ⟨?_, ?_⟩
  · first | omega | exact ⟨hI.2.1, hI.1.1, by omega⟩
  refine ⟨fun c1 => ?_, fun c1 => ?_⟩
  · first
    | (have hm : Hm M N1 := fun q hq => (hp1.1.hm q hq).trans (ws2_r (by omega))
       have hP : okP N1 := (WM_q hm hI.1.1.wm).2.2.2.2.2.1
       refine p2I (kX12_teach ⟨RdC.k hm hI.2.2, hP, hx1⟩ fun K _ e r => r2I (svI ?_) ?_)
       · rw [if_pos (by omega)]
         exact mTch_q hm x1
       · rw [if_pos (by omega)] at e
         exact inv_teach hI hp1.1 hp1.2 e r)
    | (refine p2I (kX12_teach ⟨hI.2.2, hI.1.1.okP, hx1⟩ fun K _ e r => r2I (svI ?_) ?_)
       · rw [if_neg (by omega)]
       · rw [if_neg (by omega)] at e
         exact hI.m e r)
  · refine ⟨?_, ?_⟩
    · first | omega | exact ⟨hI.2.1, hI.1.1, by omega⟩
    intro N1 hN1 hf1 hp1
    first
    | (have hm : Hm M N1 := fun q hq => (hp1.1.hm q hq).trans (ws2_r (by omega))
       have hP : okP N1 := (WM_q hm hI.1.1.wm).2.2.2.2.2.1
       refine p2I (kX12_teach ⟨RdC.k hm hI.2.2, hP, hx1⟩ fun K _ e r => r2I (svI ?_) ?_)
       · rw [if_pos (by omega)]
         exact mTch_q hm x1
       · rw [if_pos (by omega)] at e
         exact inv_teach hI hp1.1 hp1.2 e r)
    | (refine p2I (kX12_teach ⟨hI.2.2, hI.1.1.okP, hx1⟩ fun K _ e r => r2I (svI ?_) ?_)
       · rw [if_neg (by omega)]
       · rw [if_neg (by omega)] at e
         exact hI.m e r)
theorem lsP_q {M N : M3} (h : Hm M N) (p : Int) : lsP N p ↔ lsP M p := by
  unfold lsP
  rw [h 48 (by decide), h 49 (by decide), h 50 (by decide), h 51 (by decide)]
theorem mGi_q {M N : M3} (h : Hm M N) (b : Int) : mGi N b = mGi M b := by
  unfold mGi
  simp only [lsP_q h, h 44 (by decide), h 45 (by decide)]
theorem skP_q {M N : M3} (h : Hm M N) (p : Int) : skP N p ↔ skP M p := by
  unfold skP sgP
  simp only [lsP_q h, mGi_q h, h 45 (by decide), h 48 (by decide), h 50 (by decide)]
theorem nSt_q {M N : M3} (h : Hm M N) (p : Int) : nSt N p = nSt M p := by
  unfold nSt
  simp only [lsP_q h, skP_q h, h 50 (by decide)]
theorem nFe_q {M N : M3} (h : Hm M N) (p : Int) : nFe N p = nFe M p := by
  unfold nFe sgP
  simp only [lsP_q h, mGi_q h, h 45 (by decide), h 48 (by decide), h 50 (by decide)]
theorem mGn_q {M N : M3} (h : Hm M N) : mGn N = mGn M := by
  unfold mGn
  simp only [lsP_q h, h 44 (by decide)]
theorem mSk_q {M N : M3} (h : Hm M N) : mSk N = mSk M := by
  unfold mSk
  simp only [skP_q h, h 44 (by decide)]
theorem inv_list {M N K : M3} {r : Int} (hI : Inv M) (hlt : M 44 0 39 < 30) (f1 : ∀ q : Nat, q ∉ ([13, 36, 37, 38, 39, 40, 41] : List Nat) → N q = M q) (h1 : poPr M r N) (h2 : poLst N K) : Inv K := by
  have hm : Hm M N := Hm.of f1 (by decide)
  obtain ⟨_, a2, a3, a4, a5⟩ := h1
  obtain ⟨b1, b2, b3, b4, b5, b6, b7, b8, b9, b10⟩ := h2
  rw [hm 44 (by decide)] at b3 b4 b5 b6 b7 b8 b9 b10
  simp only [nSt_q hm, nFe_q hm] at b4
  rw [hm 48 (by decide), hm 50 (by decide)] at b5
  rw [mRoll_q hm] at b7
  rw [mGn_q hm] at b8
  rw [mSk_q hm] at b9
  rw [hm 71 (by decide)] at b10
  have g : ∀ q : Nat, q ∉ ([13, 36, 37, 38, 39, 40, 41, 44, 48, 50, 71, 72, 73] : List Nat) → K q = M q := fun q hq => (b1 q (fun z => hq ((show ∀ y ∈ ([44, 48, 50, 71, 72, 73] : List Nat), y ∈ ([13, 36, 37, 38, 39, 40, 41, 44, 48, 50, 71, 72, 73] : List Nat) by decide) q z))).trans (f1 q (fun z => hq ((show ∀ y ∈ ([13, 36, 37, 38, 39, 40, 41] : List Nat), y ∈ ([13, 36, 37, 38, 39, 40, 41, 44, 48, 50, 71, 72, 73] : List Nat) by decide) q z)))
  have g44 : ∀ j : Int, j ≠ 39 → K 44 0 j = M 44 0 j := fun j hj => by rw [b2 j hj, hm 44 (by decide)]
  have e13 : K 13 = N 13 := b1 13 (by decide)
  have hP : iCty K := by
    refine ⟨by rw [g 10 (by decide), g44 1 (by decide)]; exact hI.1.1.2.2.1.1, by rw [g44 1 (by decide)]; exact hI.1.1.2.2.1.2.1, fun p a c => ?_⟩
    have w := hI.1.1.p a c
    unfold iP at w ⊢
    rw [e13, g44 1 (by decide), g 45 (by decide), g 46 (by decide), g 47 (by decide), g 49 (by decide), g 51 (by decide)]
    by_cases z : p < M 44 0 1
    · obtain ⟨u1, u2, u3, u4⟩ := a4 p a z
      obtain ⟨v1, v2⟩ := b4 p a z
      rw [u1, u2, u3, u4 1 (by decide) (by decide) (by decide), u4 2 (by decide) (by decide) (by decide), u4 4 (by decide) (by decide) (by decide), u4 6 (by decide) (by decide) (by decide), v1, v2]
      obtain ⟨⟨p1, p2, p3, p4, p5, p6⟩, q1, q2, q3, q4, q5, q6, q7, q8, q9⟩ := w
      have hf : 0 ≤ nFe M p ∧ nFe M p ≤ 9 := by
        unfold nFe
        split <;> omega
      have hs : (lsP M p ∧ nSt M p = 3) ∨ (¬ lsP M p ∧ nSt M p = 2 ∧ M 50 0 p = 1) ∨ (¬ lsP M p ∧ nSt M p = M 50 0 p) := by
        unfold nSt
        by_cases x : lsP M p
        · exact Or.inl ⟨x, if_pos x⟩
        · by_cases y : skP M p
          · exact Or.inr (Or.inl ⟨x, by rw [if_neg x, if_pos y], y.2.1⟩)
          · exact Or.inr (Or.inr ⟨x, by rw [if_neg x, if_neg y]⟩)
      refine ⟨⟨p1, p2, rfl, p4, rfl, p6⟩, fun y => ?_, fun y => ?_, q3, q4, q5, hf, q7, ⟨by omega, by omega, fun y => by omega⟩, q9⟩
      · rcases hs with ⟨x, e⟩ | ⟨x, e, e2⟩ | ⟨x, e⟩
        · omega
        · rw [if_neg x]
          exact q1 (by omega)
        · rw [if_neg x]
          exact q1 (by omega)
      · rcases hs with ⟨x, e⟩ | ⟨x, e, e2⟩ | ⟨x, e⟩
        · rw [if_pos x]
        · omega
        · rw [if_neg x]
          exact q2 (by omega)
    · obtain ⟨v1, v2⟩ := b5 p (by omega)
      rw [a5 p 0 (by omega), a5 p 1 (by omega), a5 p 2 (by omega), a5 p 3 (by omega), a5 p 4 (by omega), a5 p 5 (by omega), a5 p 6 (by omega), v1, v2]
      exact w
  have hT : iLst K := by
    obtain ⟨t1, t2, t3⟩ := hI.1.1.2.2.2.2.2.2.1
    rw [iLst, b3, b1 36 (by decide), b1 37 (by decide), b1 38 (by decide), b1 39 (by decide), b1 40 (by decide)]
    refine ⟨a2, by omega, fun l a c => ?_⟩
    obtain ⟨u1, u2, u3, u4⟩ := a3 l
    rw [u1, u2, u3, u4]
    by_cases z : l = M 44 0 39
    · rw [if_pos z, if_pos z, if_pos z, if_pos z, z]
      exact ⟨b6.symm, b7.symm, b8.symm, b9.symm⟩
    · rw [if_neg z, if_neg z, if_neg z, if_neg z, b10 _ (by omega), b10 _ (by omega), b10 _ (by omega), b10 _ (by omega)]
      exact t3 l a (by omega)
  have hC : LwC K := LwC.k (fun q hq => b1 q fun z => by
    have := (show ∀ y ∈ ([44, 48, 50, 71, 72, 73] : List Nat), 44 ≤ y by decide) q z
    omega) (hI.2.1.fr f1 (by decide))
  clear a2 a3 a4 a5 b1 b2 b4 b5 b6 b7 b8 b9 b10
  exact ⟨⟨⟨(iBas_of (by first | exact g _ (by decide) | rw [g _ (by decide)] | exact g44 _ (by decide)) (by first | exact g _ (by decide) | rw [g _ (by decide)] | exact g44 _ (by decide)) (by first | exact g _ (by decide) | rw [g _ (by decide)] | exact g44 _ (by decide)) (by first | exact g _ (by decide) | rw [g _ (by decide)] | exact g44 _ (by decide)) (by first | exact g _ (by decide) | rw [g _ (by decide)] | exact g44 _ (by decide)) (by first | exact g _ (by decide) | rw [g _ (by decide)] | exact g44 _ (by decide)) hI.1.1.1), (iLaw_of (by first | exact g _ (by decide) | rw [g _ (by decide)] | exact g44 _ (by decide)) (by first | exact g _ (by decide) | rw [g _ (by decide)] | exact g44 _ (by decide)) (by first | exact g _ (by decide) | rw [g _ (by decide)] | exact g44 _ (by decide)) (by first | exact g _ (by decide) | rw [g _ (by decide)] | exact g44 _ (by decide)) hI.1.1.2.1), hP, (iFrm_of (by first | exact g _ (by decide) | rw [g _ (by decide)] | exact g44 _ (by decide)) (by first | exact g _ (by decide) | rw [g _ (by decide)] | exact g44 _ (by decide)) (by first | exact g _ (by decide) | rw [g _ (by decide)] | exact g44 _ (by decide)) (by first | exact g _ (by decide) | rw [g _ (by decide)] | exact g44 _ (by decide)) (fun f j hj => by first | exact g _ (by decide) | rw [g _ (by decide)] | exact g44 _ (by decide)) (by first | exact g _ (by decide) | rw [g _ (by decide)] | exact g44 _ (by decide)) (by first | exact g _ (by decide) | rw [g _ (by decide)] | exact g44 _ (by decide)) (by first | exact g _ (by decide) | rw [g _ (by decide)] | exact g44 _ (by decide)) (by first | exact g _ (by decide) | rw [g _ (by decide)] | exact g44 _ (by decide)) (by first | exact g _ (by decide) | rw [g _ (by decide)] | exact g44 _ (by decide)) (by first | exact g _ (by decide) | rw [g _ (by decide)] | exact g44 _ (by decide)) (by first | exact g _ (by decide) | rw [g _ (by decide)] | exact g44 _ (by decide)) (by first | exact g _ (by decide) | rw [g _ (by decide)] | exact g44 _ (by decide)) (by first | exact g _ (by decide) | rw [g _ (by decide)] | exact g44 _ (by decide)) (by first | exact g _ (by decide) | rw [g _ (by decide)] | exact g44 _ (by decide)) hI.1.1.2.2.2.1), (iOrd_of (by first | exact g _ (by decide) | rw [g _ (by decide)] | exact g44 _ (by decide)) (by first | exact g _ (by decide) | rw [g _ (by decide)] | exact g44 _ (by decide)) hI.1.1.2.2.2.2.1), (iLin_of (by first | exact g _ (by decide) | rw [g _ (by decide)] | exact g44 _ (by decide)) (by first | exact g _ (by decide) | rw [g _ (by decide)] | exact g44 _ (by decide)) (by first | exact g _ (by decide) | rw [g _ (by decide)] | exact g44 _ (by decide)) (by first | exact g _ (by decide) | rw [g _ (by decide)] | exact g44 _ (by decide)) (by first | exact g _ (by decide) | rw [g _ (by decide)] | exact g44 _ (by decide)) (by first | exact g _ (by decide) | rw [g _ (by decide)] | exact g44 _ (by decide)) (by first | exact g _ (by decide) | rw [g _ (by decide)] | exact g44 _ (by decide)) (by first | exact g _ (by decide) | rw [g _ (by decide)] | exact g44 _ (by decide)) (by first | exact g _ (by decide) | rw [g _ (by decide)] | exact g44 _ (by decide)) (by first | exact g _ (by decide) | rw [g _ (by decide)] | exact g44 _ (by decide)) (by first | exact g _ (by decide) | rw [g _ (by decide)] | exact g44 _ (by decide)) (by first | exact g _ (by decide) | rw [g _ (by decide)] | exact g44 _ (by decide)) (by first | exact g _ (by decide) | rw [g _ (by decide)] | exact g44 _ (by decide)) (by first | exact g _ (by decide) | rw [g _ (by decide)] | exact g44 _ (by decide)) (by first | exact g _ (by decide) | rw [g _ (by decide)] | exact g44 _ (by decide)) (by first | exact g _ (by decide) | rw [g _ (by decide)] | exact g44 _ (by decide)) (by first | exact g _ (by decide) | rw [g _ (by decide)] | exact g44 _ (by decide)) hI.1.1.2.2.2.2.2.1), hT, (iSum_of (by first | exact g _ (by decide) | rw [g _ (by decide)] | exact g44 _ (by decide)) (by first | exact g _ (by decide) | rw [g _ (by decide)] | exact g44 _ (by decide)) (by first | exact g _ (by decide) | rw [g _ (by decide)] | exact g44 _ (by decide)) (by first | exact g _ (by decide) | rw [g _ (by decide)] | exact g44 _ (by decide)) (by first | exact g _ (by decide) | rw [g _ (by decide)] | exact g44 _ (by decide)) (by first | exact g _ (by decide) | rw [g _ (by decide)] | exact g44 _ (by decide)) (by first | exact g _ (by decide) | rw [g _ (by decide)] | exact g44 _ (by decide)) (by first | exact g _ (by decide) | rw [g _ (by decide)] | exact g44 _ (by decide)) (by first | exact g _ (by decide) | rw [g _ (by decide)] | exact g44 _ (by decide)) hI.1.1.2.2.2.2.2.2.2.1), (iSht_of (by first | exact g _ (by decide) | rw [g _ (by decide)] | exact g44 _ (by decide)) (by first | exact g _ (by decide) | rw [g _ (by decide)] | exact g44 _ (by decide)) (by first | exact g _ (by decide) | rw [g _ (by decide)] | exact g44 _ (by decide)) (by first | exact g _ (by decide) | rw [g _ (by decide)] | exact g44 _ (by decide)) (by first | exact g _ (by decide) | rw [g _ (by decide)] | exact g44 _ (by decide)) (by first | exact g _ (by decide) | rw [g _ (by decide)] | exact g44 _ (by decide)) hI.1.1.2.2.2.2.2.2.2.2)⟩, (iW_of (by first | exact g _ (by decide) | rw [g _ (by decide)] | exact g44 _ (by decide)) (by first | exact g _ (by decide) | rw [g _ (by decide)] | exact g44 _ (by decide)) (by first | exact g _ (by decide) | rw [g _ (by decide)] | exact g44 _ (by decide)) (by first | exact g _ (by decide) | rw [g _ (by decide)] | exact g44 _ (by decide)) (by first | exact g _ (by decide) | rw [g _ (by decide)] | exact g44 _ (by decide)) (by first | exact g _ (by decide) | rw [g _ (by decide)] | exact g44 _ (by decide)) (by first | exact g _ (by decide) | rw [g _ (by decide)] | exact g44 _ (by decide)) (by first | exact g _ (by decide) | rw [g _ (by decide)] | exact g44 _ (by decide)) (by first | exact g _ (by decide) | rw [g _ (by decide)] | exact g44 _ (by decide)) hI.1.2)⟩, hC, (RdC_of (by first | exact g _ (by decide) | rw [g _ (by decide)] | exact g44 _ (by decide)) (by first | exact g _ (by decide) | rw [g _ (by decide)] | exact g44 _ (by decide)) (by first | exact g _ (by decide) | rw [g _ (by decide)] | exact g44 _ (by decide)) (by first | exact g _ (by decide) | rw [g _ (by decide)] | exact g44 _ (by decide)) (by first | exact g _ (by decide) | rw [g _ (by decide)] | exact g44 _ (by decide)) (by first | exact g _ (by decide) | rw [g _ (by decide)] | exact g44 _ (by decide)) (by first | exact g _ (by decide) | rw [g _ (by decide)] | exact g44 _ (by decide)) (by first | exact g _ (by decide) | rw [g _ (by decide)] | exact g44 _ (by decide)) hI.2.2)⟩
theorem p_list {E : E3} {M : M3} (hI : Inv M) : C3 E YX11_list [vR 0 0] M (P2 E YX12_list [vR 44 0]) := by
  refine c3_rm fun hM => ?_
  obtain ⟨t1, t2, _⟩ := hI.1.1.2.2.2.2.2.2.1
  refine sX11_list ?_
  refine ⟨fun c1 => ?_, fun c1 => ?_⟩
  · refine ⟨?_, ?_⟩
    · first | omega | exact ⟨hI.1.1, by omega⟩
    intro r1 N1 hN1 hf1 hp1
    first
    | (have hm : Hm M N1 := Hm.of hf1 (by decide)
       have hS : okS N1 := (WM_q hm hI.1.1.wm).2.2.2.2.2.2.2.1
       refine p2I (kX12_list hS (fun z => ?_) (fun z K _ e => r2I (svI ?_) ?_))
       · rw [hm 44 (by decide)] at z
         exfalso
         omega
       · rw [mGn_q hm]
         exact hp1.1.symm
       · exact inv_list hI (by omega) hf1 hp1 e)
    | (refine p2I (kX12_list hI.1.1.okS (fun z => r2I rfl hI) (fun z K _ e => ?_))
       exfalso
       omega)
  · first
    | (have hm : Hm M N1 := Hm.of hf1 (by decide)
       have hS : okS N1 := (WM_q hm hI.1.1.wm).2.2.2.2.2.2.2.1
       refine p2I (kX12_list hS (fun z => ?_) (fun z K _ e => r2I (svI ?_) ?_))
       · rw [hm 44 (by decide)] at z
         exfalso
         omega
       · rw [mGn_q hm]
         exact hp1.1.symm
       · exact inv_list hI (by omega) hf1 hp1 e)
    | (refine p2I (kX12_list hI.1.1.okS (fun z => r2I rfl hI) (fun z K _ e => ?_))
       exfalso
       omega)
