/-! PAIRS: form, the pair -/
theorem hnM_18 {M : M3} {x1 s f j : Int} (hf : f ≠ M 14 0 0) : hnM M x1 s 18 f j = M 18 f j := by
  unfold hnM hn3 hn2
  rw [up3_nr (by decide), up3_ni hf, up3_ni hf, ws1_r (by decide)]
  unfold hn1
  rw [up3_ni hf, up3_ni hf, up3_ni hf, up3_ni hf, up3_ni hf, up3_ni hf, up3_ni hf, up3_ni hf]
theorem hnM_18n {M : M3} {x1 s j : Int} (h9 : j ≠ 9) (h10 : j ≠ 10) : hnM M x1 s 18 (M 14 0 0) j = hn1 M x1 18 (M 14 0 0) j := by
  unfold hnM hn3 hn2
  rw [up3_nr (by decide), up3_nj h10, up3_nj h9, ws1_r (by decide)]
theorem hn2_19 {M : M3} {x1 s f q : Int} : hn2 M x1 s 19 f q = if f = M 14 0 0 ∧ 0 ≤ q ∧ q < 20 then hvV M s q else M 19 f q := by
  unfold hn2 ws1
  by_cases h : f = M 14 0 0 ∧ 0 ≤ q ∧ q < 20
  · rw [if_pos h, if_pos ⟨rfl, h.1, h.2, rfl⟩]
  · rw [if_neg h, if_neg fun z => h ⟨z.2.1, z.2.2.1⟩, hn1_fr M x1 19 (by decide)]
theorem inv_form {M N K : M3} {x1 s : Int} (hI : Inv M) (hv : (0 ≤ x1 ∧ x1 < M 44 0 1) ∧ (0 ≤ s ∧ s ≤ 3)) (h80 : M 80 0 s ≠ 0) (hlt : M 44 0 18 < 60) (hl : LwC N) (e : Ec (hnM M x1 s) N) (f1 : ∀ q : Nat, q ∉ ([44, 56, 57, 58, 59, 62] : List Nat) → K q = N q) (f2 : ∀ j : Int, j ≠ 18 → K 44 0 j = N 44 0 j) (f3 : K 44 0 18 = N 44 0 18 + 1) (f4 : K 56 0 (N 44 0 18) = x1 ∧ K 57 0 (N 44 0 18) = N 44 0 0 ∧ K 58 0 (N 44 0 18) = N 47 0 x1 ∧ K 62 0 (N 44 0 18) = 0) (f5 : ∀ f : Int, f ≠ N 44 0 18 → K 56 0 f = N 56 0 f ∧ K 57 0 f = N 57 0 f ∧ K 58 0 f = N 58 0 f ∧ K 62 0 f = N 62 0 f) (f6 : ∀ q : Int, 0 ≤ q → q < 20 → K 59 0 (20 * N 44 0 18 + q) = hvM N s q) (f7 : ∀ j : Int, ¬ (20 * N 44 0 18 ≤ j ∧ j < 20 * N 44 0 18 + 20) → K 59 0 j = N 59 0 j) : Inv K := by
  have hm : Hm M N := fun q hq => (e.hm q hq).trans (hnM_r fun z => by
    have := (show ∀ y ∈ ([14, 18, 19] : List Nat), y < 44 by decide) q z
    omega)
  have e44 := hm 44 (by decide)
  rw [e44] at f3 f4 f6 f7
  rw [hm 47 (by decide)] at f4
  rw [hm 59 (by decide)] at f7
  simp only [e44, hm 56 (by decide), hm 57 (by decide), hm 58 (by decide), hm 62 (by decide)] at f5
  simp only [hvM, hm 82 (by decide), hm 83 (by decide)] at f6
  obtain ⟨f41, f42, f43, f44⟩ := f4
  have h14 := hI.1.1.2.2.2.1.1
  have hF := hI.1.1.2.2.2.1
  have g : ∀ q : Nat, q ∉ ([3, 8, 9, 14, 18, 19, 44, 56, 57, 58, 59, 62] : List Nat) → K q = M q := fun q hq => (f1 q (fun z => hq ((show ∀ y ∈ ([44, 56, 57, 58, 59, 62] : List Nat), y ∈ ([3, 8, 9, 14, 18, 19, 44, 56, 57, 58, 59, 62] : List Nat) by decide) q z))).trans ((e.1 q (fun z => hq ((show ∀ y ∈ ([3, 8, 9] : List Nat), y ∈ ([3, 8, 9, 14, 18, 19, 44, 56, 57, 58, 59, 62] : List Nat) by decide) q z))).trans (hnM_r (fun z => hq ((show ∀ y ∈ ([14, 18, 19] : List Nat), y ∈ ([3, 8, 9, 14, 18, 19, 44, 56, 57, 58, 59, 62] : List Nat) by decide) q z))))
  have g44 : ∀ j : Int, j ≠ 18 → K 44 0 j = M 44 0 j := fun j hj => by rw [f2 j hj, e44]
  have g3 : ∀ j : Int, j ∉ ([10] : List Int) → K 3 0 j = M 3 0 j := fun j hj => by rw [f1 3 (by decide), e.2 j hj, hnM_r (by decide)]
  have k14 : K 14 0 0 = M 44 0 18 + 1 := by
    rw [f1 14 (by decide), e.1 14 (by decide)]
    unfold hnM
    rw [up3_eq, h14]
  have k18 : K 18 = hnM M x1 s 18 := (f1 18 (by decide)).trans (e.1 18 (by decide))
  have k19 : ∀ f q : Int, K 19 f q = if f = M 14 0 0 ∧ 0 ≤ q ∧ q < 20 then hvV M s q else M 19 f q := fun f q => by
    rw [f1 19 (by decide), e.1 19 (by decide)]
    unfold hnM
    rw [up3_nr (by decide)]
    unfold hn3
    rw [up3_nr (by decide), up3_nr (by decide)]
    exact hn2_19
  have hv59 : ∀ q : Int, 0 ≤ q → q < 20 → hvV M s q = (if q < M 82 0 s ∧ 0 ≤ M 83 0 (40 * s + q) ∧ M 83 0 (40 * s + q) ≤ 99 then M 83 0 (40 * s + q) else -1) := fun q a b => by
    rcases hI.1.1.2.2.2.2.2.2.2.2 s hv.2.1 (by omega) with w | ⟨w1, w2, w3, w4, w5, w6⟩
    · exact absurd w.1 h80
    · unfold hvV
      rw [w3]
      by_cases z : q < M 82 0 s
      · rw [w6 q a z]
      · rw [if_neg (by omega), if_neg (by omega)]
  have hC : LwC K := LwC.k (fun q hq => f1 q fun z => by
    have := (show ∀ y ∈ ([44, 56, 57, 58, 59, 62] : List Nat), 44 ≤ y by decide) q z
    omega) hl
  have hP1 := hI.1.1.p hv.1.1 (by have := hI.1.1.2.2.1.2.1; omega)
  have hd := hI.1.1.1.2.2.1
  have hb := hI.1.1.1.1
  obtain ⟨⟨p1, p2, p3, p4, p5, p6⟩, q1, q2, q3, q4, q5, q6, q7, q8, q9⟩ := hP1
  have hFr : iFrm K := by
    refine ⟨by rw [k14, f3], by rw [f3]; have := hF.2.1; omega, fun f a b => ?_⟩
    rw [f3] at b
    unfold iF
    rw [g44 0 (by decide), g44 1 (by decide), g 46 (by decide), g 60 (by decide), g 61 (by decide), g 63 (by decide), k18]
    simp only [k19]
    by_cases z : f = M 44 0 18
    · rw [z, f41, f42, f43, f44, ← h14, hnM_18n (by decide) (by decide), hnM_18n (by decide) (by decide), hnM_18n (by decide) (by decide), hnM_18n (by decide) (by decide), hnM_18n (by decide) (by decide), hnM_18n (by decide) (by decide), hnM_18n (by decide) (by decide), hnM_18n (by decide) (by decide)]
      have c0 : hn1 M x1 18 (M 14 0 0) 0 = x1 := by unfold hn1; rw [up3_nj (by decide), up3_nj (by decide), up3_nj (by decide), up3_nj (by decide), up3_nj (by decide), up3_nj (by decide), up3_nj (by decide), up3_eq]
      have c1 : hn1 M x1 18 (M 14 0 0) 1 = M 13 x1 1 := by unfold hn1; rw [up3_nj (by decide), up3_nj (by decide), up3_nj (by decide), up3_nj (by decide), up3_nj (by decide), up3_nj (by decide), up3_eq]
      have c3 : hn1 M x1 18 (M 14 0 0) 3 = M 13 x1 2 := by unfold hn1; rw [up3_nj (by decide), up3_nj (by decide), up3_nj (by decide), up3_nj (by decide), up3_nj (by decide), up3_eq]
      have c2 : hn1 M x1 18 (M 14 0 0) 2 = M 2 0 0 := by unfold hn1; rw [up3_nj (by decide), up3_nj (by decide), up3_nj (by decide), up3_nj (by decide), up3_eq]
      have c5 : hn1 M x1 18 (M 14 0 0) 5 = -1 := by unfold hn1; rw [up3_nj (by decide), up3_nj (by decide), up3_nj (by decide), up3_eq]
      have c7 : hn1 M x1 18 (M 14 0 0) 7 = 0 := by unfold hn1; rw [up3_eq]
      rw [c0, c1, c2, c3, c5, c7]
      refine ⟨⟨rfl, p1, hb, p2⟩, fun q c d => ?_, Or.inl rfl, Or.inl rfl, fun _ => rfl, fun y => by omega, ⟨by omega, by omega⟩, ⟨by omega, by omega⟩, q5⟩
      rw [if_pos ⟨rfl, c, d⟩, hv59 q c d]
      have w := f6 q c d
      rw [← h14] at w
      rw [w]
      refine ⟨rfl, ?_⟩
      split <;> omega
    · obtain ⟨r1, r2, r3, r4⟩ := f5 f z
      have z' : f ≠ M 14 0 0 := by omega
      have hf := hF.2.2 f a (by omega)
      unfold iF at hf
      rw [r1, r2, r3, r4, hnM_18 z', hnM_18 z', hnM_18 z', hnM_18 z', hnM_18 z', hnM_18 z', hnM_18 z', hnM_18 z']
      obtain ⟨w1, w2, w3⟩ := hf
      refine ⟨w1, fun q c d => ?_, w3⟩
      rw [if_neg (by omega), f7 _ (by omega)]
      exact w2 q c d
  have eL : LM3 K = LM3 M := LM3_eq (g 52 (by decide)) (g44 9 (by decide))
  have hW : iW K := fun f a b => by
    rw [f3] at b
    by_cases z : f = M 44 0 18
    · have lc : LL3 (hn2 M x1 s) = LM3 K := by
        rw [eL, ← hI.1.1.L]
        refine LL3_eq ?_ ?_
        · unfold hn2
          rw [ws1_r (by decide), hn1_fr M x1 4 (by decide)]
        · unfold hn2
          rw [ws1_r (by decide), hn1_fr M x1 3 (by decide)]
      have ff := hFr.2.2 f a (by rw [f3]; omega)
      rw [z] at ff ⊢
      have h18 : ∀ j : Int, j ≠ 9 → j ≠ 10 → hn2 M x1 s 18 (M 44 0 18) j = K 18 (M 44 0 18) j := fun j h9 h10 => by
        rw [k18, ← h14, hnM_18n h9 h10]
        unfold hn2
        rw [ws1_r (by decide)]
      obtain ⟨⟨w1, w2, w3, w4⟩, w5, _⟩ := ff
      obtain ⟨t1, t2⟩ := wgt_is (N := hn2 M x1 s) (K := K) (f := M 44 0 18) lc (fun q c d => by rw [hn2_19, ← k19]; exact (w5 q c d).1) (by rw [h18 1 (by decide) (by decide)]; exact w2) (by rw [h18 2 (by decide) (by decide)]; exact w3) (by rw [h18 3 (by decide) (by decide)]; exact w4)
      rw [← t1, ← t2, k18, ← h14]
      unfold hnM hn3
      exact ⟨by rw [up3_nr (by decide), up3_nj (by decide), up3_eq], by rw [up3_nr (by decide), up3_eq]⟩
    · obtain ⟨r1, r2, r3, r4⟩ := f5 f z
      have w := hI.1.2 f a (by omega)
      have er : mRights K f = mRights M f := by
        unfold mRights
        refine cn3_congr fun q c d => ?_
        rw [f7 _ (by omega), eL, r2]
      have el : mLck K f = mLck M f := by
        unfold mLck
        rw [er, eL, r1, r2, r3, g 46 (by decide)]
      rw [er, el, k18, hnM_18 (by omega), hnM_18 (by omega)]
      exact w
  clear f5 f6 f7 k18 k19 hv59
  exact ⟨⟨⟨(iBas_of (by first | exact g _ (by decide) | rw [g _ (by decide)] | exact g44 _ (by decide) | exact g3 _ (by decide)) (by first | exact g _ (by decide) | rw [g _ (by decide)] | exact g44 _ (by decide) | exact g3 _ (by decide)) (by first | exact g _ (by decide) | rw [g _ (by decide)] | exact g44 _ (by decide) | exact g3 _ (by decide)) (by first | exact g _ (by decide) | rw [g _ (by decide)] | exact g44 _ (by decide) | exact g3 _ (by decide)) (by first | exact g _ (by decide) | rw [g _ (by decide)] | exact g44 _ (by decide) | exact g3 _ (by decide)) (by first | exact g _ (by decide) | rw [g _ (by decide)] | exact g44 _ (by decide) | exact g3 _ (by decide)) hI.1.1.1), (iLaw_of (by first | exact g _ (by decide) | rw [g _ (by decide)] | exact g44 _ (by decide) | exact g3 _ (by decide)) (by first | exact g _ (by decide) | rw [g _ (by decide)] | exact g44 _ (by decide) | exact g3 _ (by decide)) (by first | exact g _ (by decide) | rw [g _ (by decide)] | exact g44 _ (by decide) | exact g3 _ (by decide)) (by first | exact g _ (by decide) | rw [g _ (by decide)] | exact g44 _ (by decide) | exact g3 _ (by decide)) hI.1.1.2.1), (iCty_of (by first | exact g _ (by decide) | rw [g _ (by decide)] | exact g44 _ (by decide) | exact g3 _ (by decide)) (by first | exact g _ (by decide) | rw [g _ (by decide)] | exact g44 _ (by decide) | exact g3 _ (by decide)) (by first | exact g _ (by decide) | rw [g _ (by decide)] | exact g44 _ (by decide) | exact g3 _ (by decide)) (by first | exact g _ (by decide) | rw [g _ (by decide)] | exact g44 _ (by decide) | exact g3 _ (by decide)) (by first | exact g _ (by decide) | rw [g _ (by decide)] | exact g44 _ (by decide) | exact g3 _ (by decide)) (by first | exact g _ (by decide) | rw [g _ (by decide)] | exact g44 _ (by decide) | exact g3 _ (by decide)) (by first | exact g _ (by decide) | rw [g _ (by decide)] | exact g44 _ (by decide) | exact g3 _ (by decide)) (by first | exact g _ (by decide) | rw [g _ (by decide)] | exact g44 _ (by decide) | exact g3 _ (by decide)) (by first | exact g _ (by decide) | rw [g _ (by decide)] | exact g44 _ (by decide) | exact g3 _ (by decide)) (by first | exact g _ (by decide) | rw [g _ (by decide)] | exact g44 _ (by decide) | exact g3 _ (by decide)) hI.1.1.2.2.1), hFr, (iOrd_of (by first | exact g _ (by decide) | rw [g _ (by decide)] | exact g44 _ (by decide) | exact g3 _ (by decide)) (by first | exact g _ (by decide) | rw [g _ (by decide)] | exact g44 _ (by decide) | exact g3 _ (by decide)) hI.1.1.2.2.2.2.1), (iLin_of (by first | exact g _ (by decide) | rw [g _ (by decide)] | exact g44 _ (by decide) | exact g3 _ (by decide)) (by first | exact g _ (by decide) | rw [g _ (by decide)] | exact g44 _ (by decide) | exact g3 _ (by decide)) (by first | exact g _ (by decide) | rw [g _ (by decide)] | exact g44 _ (by decide) | exact g3 _ (by decide)) (by first | exact g _ (by decide) | rw [g _ (by decide)] | exact g44 _ (by decide) | exact g3 _ (by decide)) (by first | exact g _ (by decide) | rw [g _ (by decide)] | exact g44 _ (by decide) | exact g3 _ (by decide)) (by first | exact g _ (by decide) | rw [g _ (by decide)] | exact g44 _ (by decide) | exact g3 _ (by decide)) (by first | exact g _ (by decide) | rw [g _ (by decide)] | exact g44 _ (by decide) | exact g3 _ (by decide)) (by first | exact g _ (by decide) | rw [g _ (by decide)] | exact g44 _ (by decide) | exact g3 _ (by decide)) (by first | exact g _ (by decide) | rw [g _ (by decide)] | exact g44 _ (by decide) | exact g3 _ (by decide)) (by first | exact g _ (by decide) | rw [g _ (by decide)] | exact g44 _ (by decide) | exact g3 _ (by decide)) (by first | exact g _ (by decide) | rw [g _ (by decide)] | exact g44 _ (by decide) | exact g3 _ (by decide)) (by first | exact g _ (by decide) | rw [g _ (by decide)] | exact g44 _ (by decide) | exact g3 _ (by decide)) (by first | exact g _ (by decide) | rw [g _ (by decide)] | exact g44 _ (by decide) | exact g3 _ (by decide)) (by first | exact g _ (by decide) | rw [g _ (by decide)] | exact g44 _ (by decide) | exact g3 _ (by decide)) (by first | exact g _ (by decide) | rw [g _ (by decide)] | exact g44 _ (by decide) | exact g3 _ (by decide)) (by first | exact g _ (by decide) | rw [g _ (by decide)] | exact g44 _ (by decide) | exact g3 _ (by decide)) (by first | exact g _ (by decide) | rw [g _ (by decide)] | exact g44 _ (by decide) | exact g3 _ (by decide)) hI.1.1.2.2.2.2.2.1), (iLst_of (by first | exact g _ (by decide) | rw [g _ (by decide)] | exact g44 _ (by decide) | exact g3 _ (by decide)) (by first | exact g _ (by decide) | rw [g _ (by decide)] | exact g44 _ (by decide) | exact g3 _ (by decide)) (by first | exact g _ (by decide) | rw [g _ (by decide)] | exact g44 _ (by decide) | exact g3 _ (by decide)) (by first | exact g _ (by decide) | rw [g _ (by decide)] | exact g44 _ (by decide) | exact g3 _ (by decide)) (by first | exact g _ (by decide) | rw [g _ (by decide)] | exact g44 _ (by decide) | exact g3 _ (by decide)) (by first | exact g _ (by decide) | rw [g _ (by decide)] | exact g44 _ (by decide) | exact g3 _ (by decide)) (by first | exact g _ (by decide) | rw [g _ (by decide)] | exact g44 _ (by decide) | exact g3 _ (by decide)) hI.1.1.2.2.2.2.2.2.1), (iSum_of (by first | exact g _ (by decide) | rw [g _ (by decide)] | exact g44 _ (by decide) | exact g3 _ (by decide)) (by first | exact g _ (by decide) | rw [g _ (by decide)] | exact g44 _ (by decide) | exact g3 _ (by decide)) (by first | exact g _ (by decide) | rw [g _ (by decide)] | exact g44 _ (by decide) | exact g3 _ (by decide)) (by first | exact g _ (by decide) | rw [g _ (by decide)] | exact g44 _ (by decide) | exact g3 _ (by decide)) (by first | exact g _ (by decide) | rw [g _ (by decide)] | exact g44 _ (by decide) | exact g3 _ (by decide)) (by first | exact g _ (by decide) | rw [g _ (by decide)] | exact g44 _ (by decide) | exact g3 _ (by decide)) (by first | exact g _ (by decide) | rw [g _ (by decide)] | exact g44 _ (by decide) | exact g3 _ (by decide)) (by first | exact g _ (by decide) | rw [g _ (by decide)] | exact g44 _ (by decide) | exact g3 _ (by decide)) (by first | exact g _ (by decide) | rw [g _ (by decide)] | exact g44 _ (by decide) | exact g3 _ (by decide)) hI.1.1.2.2.2.2.2.2.2.1), (iSht_of (by first | exact g _ (by decide) | rw [g _ (by decide)] | exact g44 _ (by decide) | exact g3 _ (by decide)) (by first | exact g _ (by decide) | rw [g _ (by decide)] | exact g44 _ (by decide) | exact g3 _ (by decide)) (by first | exact g _ (by decide) | rw [g _ (by decide)] | exact g44 _ (by decide) | exact g3 _ (by decide)) (by first | exact g _ (by decide) | rw [g _ (by decide)] | exact g44 _ (by decide) | exact g3 _ (by decide)) (by first | exact g _ (by decide) | rw [g _ (by decide)] | exact g44 _ (by decide) | exact g3 _ (by decide)) (by first | exact g _ (by decide) | rw [g _ (by decide)] | exact g44 _ (by decide) | exact g3 _ (by decide)) hI.1.1.2.2.2.2.2.2.2.2)⟩, hW⟩, hC, (RdC_of (by first | exact g _ (by decide) | rw [g _ (by decide)] | exact g44 _ (by decide) | exact g3 _ (by decide)) (by first | exact g _ (by decide) | rw [g _ (by decide)] | exact g44 _ (by decide) | exact g3 _ (by decide)) (by first | exact g _ (by decide) | rw [g _ (by decide)] | exact g44 _ (by decide) | exact g3 _ (by decide)) (by first | exact g _ (by decide) | rw [g _ (by decide)] | exact g44 _ (by decide) | exact g3 _ (by decide)) (by first | exact g _ (by decide) | rw [g _ (by decide)] | exact g44 _ (by decide) | exact g3 _ (by decide)) (by first | exact g _ (by decide) | rw [g _ (by decide)] | exact g44 _ (by decide) | exact g3 _ (by decide)) (by first | exact g _ (by decide) | rw [g _ (by decide)] | exact g44 _ (by decide) | exact g3 _ (by decide)) (by first | exact g _ (by decide) | rw [g _ (by decide)] | exact g44 _ (by decide) | exact g3 _ (by decide)) hI.2.2)⟩
theorem inv58 {M K : M3} {v : Int} (hI : Inv M) (g : ∀ q : Nat, q ∉ ([0, 44] : List Nat) → K q = M q) (g0 : ∀ j : Int, j ≠ 9 → K 0 0 j = M 0 0 j) (g44 : ∀ j : Int, j ≠ 58 → K 44 0 j = M 44 0 j) (k0 : K 0 0 9 = v) (k44 : K 44 0 58 = v) : Inv K := by
  have hB : iBas K := by
    obtain ⟨b1, b2, b3, b4, b5⟩ := hI.1.1.1
    rw [iBas, g 2 (by decide), g44 0 (by decide), g44 27 (by decide), k0, k44]
    exact ⟨b1, b2, b3, b4, rfl⟩
  exact ⟨⟨⟨hB, (iLaw_of (by first | exact g _ (by decide) | rw [g _ (by decide)] | exact g44 _ (by decide) | exact g0 _ (by decide)) (by first | exact g _ (by decide) | rw [g _ (by decide)] | exact g44 _ (by decide) | exact g0 _ (by decide)) (by first | exact g _ (by decide) | rw [g _ (by decide)] | exact g44 _ (by decide) | exact g0 _ (by decide)) (by first | exact g _ (by decide) | rw [g _ (by decide)] | exact g44 _ (by decide) | exact g0 _ (by decide)) hI.1.1.2.1), (iCty_of (by first | exact g _ (by decide) | rw [g _ (by decide)] | exact g44 _ (by decide) | exact g0 _ (by decide)) (by first | exact g _ (by decide) | rw [g _ (by decide)] | exact g44 _ (by decide) | exact g0 _ (by decide)) (by first | exact g _ (by decide) | rw [g _ (by decide)] | exact g44 _ (by decide) | exact g0 _ (by decide)) (by first | exact g _ (by decide) | rw [g _ (by decide)] | exact g44 _ (by decide) | exact g0 _ (by decide)) (by first | exact g _ (by decide) | rw [g _ (by decide)] | exact g44 _ (by decide) | exact g0 _ (by decide)) (by first | exact g _ (by decide) | rw [g _ (by decide)] | exact g44 _ (by decide) | exact g0 _ (by decide)) (by first | exact g _ (by decide) | rw [g _ (by decide)] | exact g44 _ (by decide) | exact g0 _ (by decide)) (by first | exact g _ (by decide) | rw [g _ (by decide)] | exact g44 _ (by decide) | exact g0 _ (by decide)) (by first | exact g _ (by decide) | rw [g _ (by decide)] | exact g44 _ (by decide) | exact g0 _ (by decide)) (by first | exact g _ (by decide) | rw [g _ (by decide)] | exact g44 _ (by decide) | exact g0 _ (by decide)) hI.1.1.2.2.1), (iFrm_of (by first | exact g _ (by decide) | rw [g _ (by decide)] | exact g44 _ (by decide) | exact g0 _ (by decide)) (by first | exact g _ (by decide) | rw [g _ (by decide)] | exact g44 _ (by decide) | exact g0 _ (by decide)) (by first | exact g _ (by decide) | rw [g _ (by decide)] | exact g44 _ (by decide) | exact g0 _ (by decide)) (by first | exact g _ (by decide) | rw [g _ (by decide)] | exact g44 _ (by decide) | exact g0 _ (by decide)) (fun f j hj => by first | exact g _ (by decide) | rw [g _ (by decide)] | exact g44 _ (by decide) | exact g0 _ (by decide)) (by first | exact g _ (by decide) | rw [g _ (by decide)] | exact g44 _ (by decide) | exact g0 _ (by decide)) (by first | exact g _ (by decide) | rw [g _ (by decide)] | exact g44 _ (by decide) | exact g0 _ (by decide)) (by first | exact g _ (by decide) | rw [g _ (by decide)] | exact g44 _ (by decide) | exact g0 _ (by decide)) (by first | exact g _ (by decide) | rw [g _ (by decide)] | exact g44 _ (by decide) | exact g0 _ (by decide)) (by first | exact g _ (by decide) | rw [g _ (by decide)] | exact g44 _ (by decide) | exact g0 _ (by decide)) (by first | exact g _ (by decide) | rw [g _ (by decide)] | exact g44 _ (by decide) | exact g0 _ (by decide)) (by first | exact g _ (by decide) | rw [g _ (by decide)] | exact g44 _ (by decide) | exact g0 _ (by decide)) (by first | exact g _ (by decide) | rw [g _ (by decide)] | exact g44 _ (by decide) | exact g0 _ (by decide)) (by first | exact g _ (by decide) | rw [g _ (by decide)] | exact g44 _ (by decide) | exact g0 _ (by decide)) (by first | exact g _ (by decide) | rw [g _ (by decide)] | exact g44 _ (by decide) | exact g0 _ (by decide)) hI.1.1.2.2.2.1), (iOrd_of (by first | exact g _ (by decide) | rw [g _ (by decide)] | exact g44 _ (by decide) | exact g0 _ (by decide)) (by first | exact g _ (by decide) | rw [g _ (by decide)] | exact g44 _ (by decide) | exact g0 _ (by decide)) hI.1.1.2.2.2.2.1), (iLin_of (by first | exact g _ (by decide) | rw [g _ (by decide)] | exact g44 _ (by decide) | exact g0 _ (by decide)) (by first | exact g _ (by decide) | rw [g _ (by decide)] | exact g44 _ (by decide) | exact g0 _ (by decide)) (by first | exact g _ (by decide) | rw [g _ (by decide)] | exact g44 _ (by decide) | exact g0 _ (by decide)) (by first | exact g _ (by decide) | rw [g _ (by decide)] | exact g44 _ (by decide) | exact g0 _ (by decide)) (by first | exact g _ (by decide) | rw [g _ (by decide)] | exact g44 _ (by decide) | exact g0 _ (by decide)) (by first | exact g _ (by decide) | rw [g _ (by decide)] | exact g44 _ (by decide) | exact g0 _ (by decide)) (by first | exact g _ (by decide) | rw [g _ (by decide)] | exact g44 _ (by decide) | exact g0 _ (by decide)) (by first | exact g _ (by decide) | rw [g _ (by decide)] | exact g44 _ (by decide) | exact g0 _ (by decide)) (by first | exact g _ (by decide) | rw [g _ (by decide)] | exact g44 _ (by decide) | exact g0 _ (by decide)) (by first | exact g _ (by decide) | rw [g _ (by decide)] | exact g44 _ (by decide) | exact g0 _ (by decide)) (by first | exact g _ (by decide) | rw [g _ (by decide)] | exact g44 _ (by decide) | exact g0 _ (by decide)) (by first | exact g _ (by decide) | rw [g _ (by decide)] | exact g44 _ (by decide) | exact g0 _ (by decide)) (by first | exact g _ (by decide) | rw [g _ (by decide)] | exact g44 _ (by decide) | exact g0 _ (by decide)) (by first | exact g _ (by decide) | rw [g _ (by decide)] | exact g44 _ (by decide) | exact g0 _ (by decide)) (by first | exact g _ (by decide) | rw [g _ (by decide)] | exact g44 _ (by decide) | exact g0 _ (by decide)) (by first | exact g _ (by decide) | rw [g _ (by decide)] | exact g44 _ (by decide) | exact g0 _ (by decide)) (by first | exact g _ (by decide) | rw [g _ (by decide)] | exact g44 _ (by decide) | exact g0 _ (by decide)) hI.1.1.2.2.2.2.2.1), (iLst_of (by first | exact g _ (by decide) | rw [g _ (by decide)] | exact g44 _ (by decide) | exact g0 _ (by decide)) (by first | exact g _ (by decide) | rw [g _ (by decide)] | exact g44 _ (by decide) | exact g0 _ (by decide)) (by first | exact g _ (by decide) | rw [g _ (by decide)] | exact g44 _ (by decide) | exact g0 _ (by decide)) (by first | exact g _ (by decide) | rw [g _ (by decide)] | exact g44 _ (by decide) | exact g0 _ (by decide)) (by first | exact g _ (by decide) | rw [g _ (by decide)] | exact g44 _ (by decide) | exact g0 _ (by decide)) (by first | exact g _ (by decide) | rw [g _ (by decide)] | exact g44 _ (by decide) | exact g0 _ (by decide)) (by first | exact g _ (by decide) | rw [g _ (by decide)] | exact g44 _ (by decide) | exact g0 _ (by decide)) hI.1.1.2.2.2.2.2.2.1), (iSum_of (by first | exact g _ (by decide) | rw [g _ (by decide)] | exact g44 _ (by decide) | exact g0 _ (by decide)) (by first | exact g _ (by decide) | rw [g _ (by decide)] | exact g44 _ (by decide) | exact g0 _ (by decide)) (by first | exact g _ (by decide) | rw [g _ (by decide)] | exact g44 _ (by decide) | exact g0 _ (by decide)) (by first | exact g _ (by decide) | rw [g _ (by decide)] | exact g44 _ (by decide) | exact g0 _ (by decide)) (by first | exact g _ (by decide) | rw [g _ (by decide)] | exact g44 _ (by decide) | exact g0 _ (by decide)) (by first | exact g _ (by decide) | rw [g _ (by decide)] | exact g44 _ (by decide) | exact g0 _ (by decide)) (by first | exact g _ (by decide) | rw [g _ (by decide)] | exact g44 _ (by decide) | exact g0 _ (by decide)) (by first | exact g _ (by decide) | rw [g _ (by decide)] | exact g44 _ (by decide) | exact g0 _ (by decide)) (by first | exact g _ (by decide) | rw [g _ (by decide)] | exact g44 _ (by decide) | exact g0 _ (by decide)) hI.1.1.2.2.2.2.2.2.2.1), (iSht_of (by first | exact g _ (by decide) | rw [g _ (by decide)] | exact g44 _ (by decide) | exact g0 _ (by decide)) (by first | exact g _ (by decide) | rw [g _ (by decide)] | exact g44 _ (by decide) | exact g0 _ (by decide)) (by first | exact g _ (by decide) | rw [g _ (by decide)] | exact g44 _ (by decide) | exact g0 _ (by decide)) (by first | exact g _ (by decide) | rw [g _ (by decide)] | exact g44 _ (by decide) | exact g0 _ (by decide)) (by first | exact g _ (by decide) | rw [g _ (by decide)] | exact g44 _ (by decide) | exact g0 _ (by decide)) (by first | exact g _ (by decide) | rw [g _ (by decide)] | exact g44 _ (by decide) | exact g0 _ (by decide)) hI.1.1.2.2.2.2.2.2.2.2)⟩, (iW_of (by first | exact g _ (by decide) | rw [g _ (by decide)] | exact g44 _ (by decide) | exact g0 _ (by decide)) (by first | exact g _ (by decide) | rw [g _ (by decide)] | exact g44 _ (by decide) | exact g0 _ (by decide)) (by first | exact g _ (by decide) | rw [g _ (by decide)] | exact g44 _ (by decide) | exact g0 _ (by decide)) (by first | exact g _ (by decide) | rw [g _ (by decide)] | exact g44 _ (by decide) | exact g0 _ (by decide)) (by first | exact g _ (by decide) | rw [g _ (by decide)] | exact g44 _ (by decide) | exact g0 _ (by decide)) (by first | exact g _ (by decide) | rw [g _ (by decide)] | exact g44 _ (by decide) | exact g0 _ (by decide)) (by first | exact g _ (by decide) | rw [g _ (by decide)] | exact g44 _ (by decide) | exact g0 _ (by decide)) (by first | exact g _ (by decide) | rw [g _ (by decide)] | exact g44 _ (by decide) | exact g0 _ (by decide)) (by first | exact g _ (by decide) | rw [g _ (by decide)] | exact g44 _ (by decide) | exact g0 _ (by decide)) hI.1.2)⟩, (LwC_of (by first | exact g _ (by decide) | rw [g _ (by decide)] | exact g44 _ (by decide) | exact g0 _ (by decide)) (by first | exact g _ (by decide) | rw [g _ (by decide)] | exact g44 _ (by decide) | exact g0 _ (by decide)) (by first | exact g _ (by decide) | rw [g _ (by decide)] | exact g44 _ (by decide) | exact g0 _ (by decide)) (by first | exact g _ (by decide) | rw [g _ (by decide)] | exact g44 _ (by decide) | exact g0 _ (by decide)) (by first | exact g _ (by decide) | rw [g _ (by decide)] | exact g44 _ (by decide) | exact g0 _ (by decide)) (by first | exact g _ (by decide) | rw [g _ (by decide)] | exact g44 _ (by decide) | exact g0 _ (by decide)) (by first | exact g _ (by decide) | rw [g _ (by decide)] | exact g44 _ (by decide) | exact g0 _ (by decide)) (by first | exact g _ (by decide) | rw [g _ (by decide)] | exact g44 _ (by decide) | exact g0 _ (by decide)) (by first | exact g _ (by decide) | rw [g _ (by decide)] | exact g44 _ (by decide) | exact g0 _ (by decide)) (by first | exact g _ (by decide) | rw [g _ (by decide)] | exact g44 _ (by decide) | exact g0 _ (by decide)) hI.2.1), (RdC_of (by first | exact g _ (by decide) | rw [g _ (by decide)] | exact g44 _ (by decide) | exact g0 _ (by decide)) (by first | exact g _ (by decide) | rw [g _ (by decide)] | exact g44 _ (by decide) | exact g0 _ (by decide)) (by first | exact g _ (by decide) | rw [g _ (by decide)] | exact g44 _ (by decide) | exact g0 _ (by decide)) (by first | exact g _ (by decide) | rw [g _ (by decide)] | exact g44 _ (by decide) | exact g0 _ (by decide)) (by first | exact g _ (by decide) | rw [g _ (by decide)] | exact g44 _ (by decide) | exact g0 _ (by decide)) (by first | exact g _ (by decide) | rw [g _ (by decide)] | exact g44 _ (by decide) | exact g0 _ (by decide)) (by first | exact g _ (by decide) | rw [g _ (by decide)] | exact g44 _ (by decide) | exact g0 _ (by decide)) (by first | exact g _ (by decide) | rw [g _ (by decide)] | exact g44 _ (by decide) | exact g0 _ (by decide)) hI.2.2)⟩
theorem p_form {E : E3} {M : M3} {x1 x2 : Int} (hI : Inv M) (hx1 : -2147483648 ≤ x1 ∧ x1 ≤ 2147483647) (hx2 : -2147483648 ≤ x2 ∧ x2 ≤ 2147483647) : C3 E YX11_form [vR 0 0, vI x1, vI x2] M (P2 E YX12_form [vR 44 0, vI x1, vI x2]) := by
  refine c3_rm fun hM => ?_
  have hc1 := hI.1.1.2.2.1.1
  have hc2 := hI.1.1.2.2.1.2.1
  have hF1 := hI.1.1.2.2.2.1.1
  have hF2 := hI.1.1.2.2.2.1.2.1
  have hd := hI.1.1.1.2.2.1
  have hb := hI.1.1.1.1
  by_cases hv : (0 ≤ x1 ∧ x1 < M 44 0 1) ∧ (0 ≤ x2 ∧ x2 ≤ 3)
  · have h5 : M 13 x1 5 = M 50 0 x1 := (hI.1.1.p hv.1.1 (by omega)).1.2.2.2.2.1
    have hs : (M 80 0 x2 = 0 ∧ M 42 x2 0 = -1) ∨ (M 80 0 x2 ≠ 0 ∧ M 42 x2 0 ≠ -1 ∧ (0 ≤ M 42 x2 1 ∧ M 42 x2 1 ≤ 40)) := by
      rcases hI.1.1.2.2.2.2.2.2.2.2 x2 hv.2.1 (by omega) with w | ⟨w1, w2, w3, w4, w5, w6⟩
      · exact Or.inl w
      · exact Or.inr ⟨by omega, by omega, by omega⟩
    refine sX11_form ?_
    refine ⟨?_, ?_⟩
    · first | omega | exact ⟨hI.2.1, by omega, by omega, by omega, by omega, by omega⟩
    refine ⟨fun c1 => ?_, fun c1 => ?_⟩
    · first
      | (exfalso; omega)
      | (refine p2I (m_form hI.1.1.wm hx1 hx2 (fun z => r2I rfl hI) (fun z _ => ?_) (fun z _ _ => ?_) (fun z _ _ _ => ?_) (fun z _ _ _ K _ _ _ _ _ _ _ => ?_)) <;> (exfalso; omega))
      | (refine p2I (m_form hI.1.1.wm hx1 hx2 (fun z => ?_) (fun z _ => ?_) (fun z _ _ => r2I rfl hI) (fun z _ _ _ => ?_) (fun z _ _ _ K _ _ _ _ _ _ _ => ?_)) <;> (exfalso; omega))
      | (refine p2I (m_form hI.1.1.wm hx1 hx2 (fun z => ?_) (fun z _ => ?_) (fun z _ _ => ?_) (fun z _ _ _ => r2I rfl hI) (fun z _ _ _ K _ _ _ _ _ _ _ => ?_)) <;> (exfalso; omega))
      | (have hW : WM (up3 M 0 0 9 1) := WM_q (Hm.rf.up (by decide)) hI.1.1.wm
         have e44 : ∀ j : Int, (up3 M 0 0 9 1) 44 0 j = M 44 0 j := fun j => up3_nr (by decide)
         have e80 : (up3 M 0 0 9 1) 80 0 x2 = M 80 0 x2 := up3_nr (by decide)
         refine p2I (m_form hW hx1 hx2 (fun z => ?_) (fun z _ => ?_) (fun z y _ => ?_) (fun z y _ _ => ?_) (fun z y _ _ K _ _ _ _ _ _ _ => ?_))
         · rw [e44] at z
           exfalso
           omega
         · exact r2I rfl (inv58 hI (fr_up (fr_up fr_rf (by decide)) (by decide)) (fun j hj => by rw [up3_nr (by decide), up3_nj hj]) (fun j hj => by rw [up3_nj hj, up3_nr (by decide)]) (by rw [up3_nr (by decide), up3_eq]) up3_eq)
         · rw [e80] at y
           exfalso
           omega
         · rw [e80] at y
           exfalso
           omega
         · rw [e80] at y
           exfalso
           omega)
      | (have hm : Hm M N1 := fun q hq => (hp1.2.hm q hq).trans (hnM_r fun z => by
           have := (show ∀ y ∈ ([14, 18, 19] : List Nat), y < 44 by decide) q z
           omega)
         have hW : WM N1 := WM_q hm hI.1.1.wm
         refine p2I (m_form hW hx1 hx2 (fun z => ?_) (fun z y => ?_) (fun z y x => ?_) (fun z y _ x => ?_) (fun z y _ _ K g1 g2 g3 g4 g5 g6 g7 => ?_))
         · rw [hm 44 (by decide)] at z
           exfalso
           omega
         · rw [hm 80 (by decide)] at y
           exfalso
           omega
         · rw [hm 50 (by decide)] at x
           exfalso
           omega
         · rw [hm 44 (by decide)] at x
           exfalso
           omega
         · exact r2I (svI (by rw [hm 44 (by decide)]; exact hF1.symm)) (inv_form hI hv (by omega) (by omega) hp1.1 hp1.2 g1 g2 g3 g4 g5 g6 g7))
    · refine ⟨fun c2 => ?_, fun c2 => ?_⟩
      · first
        | (exfalso; omega)
        | (refine p2I (m_form hI.1.1.wm hx1 hx2 (fun z => r2I rfl hI) (fun z _ => ?_) (fun z _ _ => ?_) (fun z _ _ _ => ?_) (fun z _ _ _ K _ _ _ _ _ _ _ => ?_)) <;> (exfalso; omega))
        | (refine p2I (m_form hI.1.1.wm hx1 hx2 (fun z => ?_) (fun z _ => ?_) (fun z _ _ => r2I rfl hI) (fun z _ _ _ => ?_) (fun z _ _ _ K _ _ _ _ _ _ _ => ?_)) <;> (exfalso; omega))
        | (refine p2I (m_form hI.1.1.wm hx1 hx2 (fun z => ?_) (fun z _ => ?_) (fun z _ _ => ?_) (fun z _ _ _ => r2I rfl hI) (fun z _ _ _ K _ _ _ _ _ _ _ => ?_)) <;> (exfalso; omega))
        | (have hW : WM (up3 M 0 0 9 1) := WM_q (Hm.rf.up (by decide)) hI.1.1.wm
           have e44 : ∀ j : Int, (up3 M 0 0 9 1) 44 0 j = M 44 0 j := fun j => up3_nr (by decide)
           have e80 : (up3 M 0 0 9 1) 80 0 x2 = M 80 0 x2 := up3_nr (by decide)
           refine p2I (m_form hW hx1 hx2 (fun z => ?_) (fun z _ => ?_) (fun z y _ => ?_) (fun z y _ _ => ?_) (fun z y _ _ K _ _ _ _ _ _ _ => ?_))
           · rw [e44] at z
             exfalso
             omega
           · exact r2I rfl (inv58 hI (fr_up (fr_up fr_rf (by decide)) (by decide)) (fun j hj => by rw [up3_nr (by decide), up3_nj hj]) (fun j hj => by rw [up3_nj hj, up3_nr (by decide)]) (by rw [up3_nr (by decide), up3_eq]) up3_eq)
           · rw [e80] at y
             exfalso
             omega
           · rw [e80] at y
             exfalso
             omega
           · rw [e80] at y
             exfalso
             omega)
        | (have hm : Hm M N1 := fun q hq => (hp1.2.hm q hq).trans (hnM_r fun z => by
             have := (show ∀ y ∈ ([14, 18, 19] : List Nat), y < 44 by decide) q z
             omega)
           have hW : WM N1 := WM_q hm hI.1.1.wm
           refine p2I (m_form hW hx1 hx2 (fun z => ?_) (fun z y => ?_) (fun z y x => ?_) (fun z y _ x => ?_) (fun z y _ _ K g1 g2 g3 g4 g5 g6 g7 => ?_))
           · rw [hm 44 (by decide)] at z
             exfalso
             omega
           · rw [hm 80 (by decide)] at y
             exfalso
             omega
           · rw [hm 50 (by decide)] at x
             exfalso
             omega
           · rw [hm 44 (by decide)] at x
             exfalso
             omega
           · exact r2I (svI (by rw [hm 44 (by decide)]; exact hF1.symm)) (inv_form hI hv (by omega) (by omega) hp1.1 hp1.2 g1 g2 g3 g4 g5 g6 g7))
      · refine ⟨?_, ?_⟩
        · first | omega | exact ⟨hI.2.1, by omega, by omega, by omega, by omega, by omega⟩
        refine ⟨fun c3 => ?_, fun c3 => ?_⟩
        · refine ⟨?_, ?_⟩
          · first | omega | exact ⟨hI.2.1, by omega, by omega, by omega, by omega, by omega⟩
          refine ⟨fun c4 => ?_, fun c4 => ?_⟩
          · refine ⟨?_, ?_⟩
            · first | omega | exact ⟨hI.2.1, by omega, by omega, by omega, by omega, by omega⟩
            refine ⟨fun c5 => ?_, fun c5 => ?_⟩
            · refine ⟨fun c6 => ?_, fun c6 => ?_⟩
              · refine ⟨?_, ?_⟩
                · first | omega | exact ⟨hI.2.1, by omega, by omega, by omega, by omega, by omega⟩
                intro N1 hN1 hf1 hp1
                first
                | (exfalso; omega)
                | (refine p2I (m_form hI.1.1.wm hx1 hx2 (fun z => r2I rfl hI) (fun z _ => ?_) (fun z _ _ => ?_) (fun z _ _ _ => ?_) (fun z _ _ _ K _ _ _ _ _ _ _ => ?_)) <;> (exfalso; omega))
                | (refine p2I (m_form hI.1.1.wm hx1 hx2 (fun z => ?_) (fun z _ => ?_) (fun z _ _ => r2I rfl hI) (fun z _ _ _ => ?_) (fun z _ _ _ K _ _ _ _ _ _ _ => ?_)) <;> (exfalso; omega))
                | (refine p2I (m_form hI.1.1.wm hx1 hx2 (fun z => ?_) (fun z _ => ?_) (fun z _ _ => ?_) (fun z _ _ _ => r2I rfl hI) (fun z _ _ _ K _ _ _ _ _ _ _ => ?_)) <;> (exfalso; omega))
                | (have hW : WM (up3 M 0 0 9 1) := WM_q (Hm.rf.up (by decide)) hI.1.1.wm
                   have e44 : ∀ j : Int, (up3 M 0 0 9 1) 44 0 j = M 44 0 j := fun j => up3_nr (by decide)
                   have e80 : (up3 M 0 0 9 1) 80 0 x2 = M 80 0 x2 := up3_nr (by decide)
                   refine p2I (m_form hW hx1 hx2 (fun z => ?_) (fun z _ => ?_) (fun z y _ => ?_) (fun z y _ _ => ?_) (fun z y _ _ K _ _ _ _ _ _ _ => ?_))
                   · rw [e44] at z
                     exfalso
                     omega
                   · exact r2I rfl (inv58 hI (fr_up (fr_up fr_rf (by decide)) (by decide)) (fun j hj => by rw [up3_nr (by decide), up3_nj hj]) (fun j hj => by rw [up3_nj hj, up3_nr (by decide)]) (by rw [up3_nr (by decide), up3_eq]) up3_eq)
                   · rw [e80] at y
                     exfalso
                     omega
                   · rw [e80] at y
                     exfalso
                     omega
                   · rw [e80] at y
                     exfalso
                     omega)
                | (have hm : Hm M N1 := fun q hq => (hp1.2.hm q hq).trans (hnM_r fun z => by
                     have := (show ∀ y ∈ ([14, 18, 19] : List Nat), y < 44 by decide) q z
                     omega)
                   have hW : WM N1 := WM_q hm hI.1.1.wm
                   refine p2I (m_form hW hx1 hx2 (fun z => ?_) (fun z y => ?_) (fun z y x => ?_) (fun z y _ x => ?_) (fun z y _ _ K g1 g2 g3 g4 g5 g6 g7 => ?_))
                   · rw [hm 44 (by decide)] at z
                     exfalso
                     omega
                   · rw [hm 80 (by decide)] at y
                     exfalso
                     omega
                   · rw [hm 50 (by decide)] at x
                     exfalso
                     omega
                   · rw [hm 44 (by decide)] at x
                     exfalso
                     omega
                   · exact r2I (svI (by rw [hm 44 (by decide)]; exact hF1.symm)) (inv_form hI hv (by omega) (by omega) hp1.1 hp1.2 g1 g2 g3 g4 g5 g6 g7))
              · first
                | (exfalso; omega)
                | (refine p2I (m_form hI.1.1.wm hx1 hx2 (fun z => r2I rfl hI) (fun z _ => ?_) (fun z _ _ => ?_) (fun z _ _ _ => ?_) (fun z _ _ _ K _ _ _ _ _ _ _ => ?_)) <;> (exfalso; omega))
                | (refine p2I (m_form hI.1.1.wm hx1 hx2 (fun z => ?_) (fun z _ => ?_) (fun z _ _ => r2I rfl hI) (fun z _ _ _ => ?_) (fun z _ _ _ K _ _ _ _ _ _ _ => ?_)) <;> (exfalso; omega))
                | (refine p2I (m_form hI.1.1.wm hx1 hx2 (fun z => ?_) (fun z _ => ?_) (fun z _ _ => ?_) (fun z _ _ _ => r2I rfl hI) (fun z _ _ _ K _ _ _ _ _ _ _ => ?_)) <;> (exfalso; omega))
                | (have hW : WM (up3 M 0 0 9 1) := WM_q (Hm.rf.up (by decide)) hI.1.1.wm
                   have e44 : ∀ j : Int, (up3 M 0 0 9 1) 44 0 j = M 44 0 j := fun j => up3_nr (by decide)
                   have e80 : (up3 M 0 0 9 1) 80 0 x2 = M 80 0 x2 := up3_nr (by decide)
                   refine p2I (m_form hW hx1 hx2 (fun z => ?_) (fun z _ => ?_) (fun z y _ => ?_) (fun z y _ _ => ?_) (fun z y _ _ K _ _ _ _ _ _ _ => ?_))
                   · rw [e44] at z
                     exfalso
                     omega
                   · exact r2I rfl (inv58 hI (fr_up (fr_up fr_rf (by decide)) (by decide)) (fun j hj => by rw [up3_nr (by decide), up3_nj hj]) (fun j hj => by rw [up3_nj hj, up3_nr (by decide)]) (by rw [up3_nr (by decide), up3_eq]) up3_eq)
                   · rw [e80] at y
                     exfalso
                     omega
                   · rw [e80] at y
                     exfalso
                     omega
                   · rw [e80] at y
                     exfalso
                     omega)
                | (have hm : Hm M N1 := fun q hq => (hp1.2.hm q hq).trans (hnM_r fun z => by
                     have := (show ∀ y ∈ ([14, 18, 19] : List Nat), y < 44 by decide) q z
                     omega)
                   have hW : WM N1 := WM_q hm hI.1.1.wm
                   refine p2I (m_form hW hx1 hx2 (fun z => ?_) (fun z y => ?_) (fun z y x => ?_) (fun z y _ x => ?_) (fun z y _ _ K g1 g2 g3 g4 g5 g6 g7 => ?_))
                   · rw [hm 44 (by decide)] at z
                     exfalso
                     omega
                   · rw [hm 80 (by decide)] at y
                     exfalso
                     omega
                   · rw [hm 50 (by decide)] at x
                     exfalso
                     omega
                   · rw [hm 44 (by decide)] at x
                     exfalso
                     omega
                   · exact r2I (svI (by rw [hm 44 (by decide)]; exact hF1.symm)) (inv_form hI hv (by omega) (by omega) hp1.1 hp1.2 g1 g2 g3 g4 g5 g6 g7))
            · first
              | (exfalso; omega)
              | (refine p2I (m_form hI.1.1.wm hx1 hx2 (fun z => r2I rfl hI) (fun z _ => ?_) (fun z _ _ => ?_) (fun z _ _ _ => ?_) (fun z _ _ _ K _ _ _ _ _ _ _ => ?_)) <;> (exfalso; omega))
              | (refine p2I (m_form hI.1.1.wm hx1 hx2 (fun z => ?_) (fun z _ => ?_) (fun z _ _ => r2I rfl hI) (fun z _ _ _ => ?_) (fun z _ _ _ K _ _ _ _ _ _ _ => ?_)) <;> (exfalso; omega))
              | (refine p2I (m_form hI.1.1.wm hx1 hx2 (fun z => ?_) (fun z _ => ?_) (fun z _ _ => ?_) (fun z _ _ _ => r2I rfl hI) (fun z _ _ _ K _ _ _ _ _ _ _ => ?_)) <;> (exfalso; omega))
              | (have hW : WM (up3 M 0 0 9 1) := WM_q (Hm.rf.up (by decide)) hI.1.1.wm
                 have e44 : ∀ j : Int, (up3 M 0 0 9 1) 44 0 j = M 44 0 j := fun j => up3_nr (by decide)
                 have e80 : (up3 M 0 0 9 1) 80 0 x2 = M 80 0 x2 := up3_nr (by decide)
                 refine p2I (m_form hW hx1 hx2 (fun z => ?_) (fun z _ => ?_) (fun z y _ => ?_) (fun z y _ _ => ?_) (fun z y _ _ K _ _ _ _ _ _ _ => ?_))
                 · rw [e44] at z
                   exfalso
                   omega
                 · exact r2I rfl (inv58 hI (fr_up (fr_up fr_rf (by decide)) (by decide)) (fun j hj => by rw [up3_nr (by decide), up3_nj hj]) (fun j hj => by rw [up3_nj hj, up3_nr (by decide)]) (by rw [up3_nr (by decide), up3_eq]) up3_eq)
                 · rw [e80] at y
                   exfalso
                   omega
                 · rw [e80] at y
                   exfalso
                   omega
                 · rw [e80] at y
                   exfalso
                   omega)
              | (have hm : Hm M N1 := fun q hq => (hp1.2.hm q hq).trans (hnM_r fun z => by
                   have := (show ∀ y ∈ ([14, 18, 19] : List Nat), y < 44 by decide) q z
                   omega)
                 have hW : WM N1 := WM_q hm hI.1.1.wm
                 refine p2I (m_form hW hx1 hx2 (fun z => ?_) (fun z y => ?_) (fun z y x => ?_) (fun z y _ x => ?_) (fun z y _ _ K g1 g2 g3 g4 g5 g6 g7 => ?_))
                 · rw [hm 44 (by decide)] at z
                   exfalso
                   omega
                 · rw [hm 80 (by decide)] at y
                   exfalso
                   omega
                 · rw [hm 50 (by decide)] at x
                   exfalso
                   omega
                 · rw [hm 44 (by decide)] at x
                   exfalso
                   omega
                 · exact r2I (svI (by rw [hm 44 (by decide)]; exact hF1.symm)) (inv_form hI hv (by omega) (by omega) hp1.1 hp1.2 g1 g2 g3 g4 g5 g6 g7))
          · first
            | (exfalso; omega)
            | (refine p2I (m_form hI.1.1.wm hx1 hx2 (fun z => r2I rfl hI) (fun z _ => ?_) (fun z _ _ => ?_) (fun z _ _ _ => ?_) (fun z _ _ _ K _ _ _ _ _ _ _ => ?_)) <;> (exfalso; omega))
            | (refine p2I (m_form hI.1.1.wm hx1 hx2 (fun z => ?_) (fun z _ => ?_) (fun z _ _ => r2I rfl hI) (fun z _ _ _ => ?_) (fun z _ _ _ K _ _ _ _ _ _ _ => ?_)) <;> (exfalso; omega))
            | (refine p2I (m_form hI.1.1.wm hx1 hx2 (fun z => ?_) (fun z _ => ?_) (fun z _ _ => ?_) (fun z _ _ _ => r2I rfl hI) (fun z _ _ _ K _ _ _ _ _ _ _ => ?_)) <;> (exfalso; omega))
            | (have hW : WM (up3 M 0 0 9 1) := WM_q (Hm.rf.up (by decide)) hI.1.1.wm
               have e44 : ∀ j : Int, (up3 M 0 0 9 1) 44 0 j = M 44 0 j := fun j => up3_nr (by decide)
               have e80 : (up3 M 0 0 9 1) 80 0 x2 = M 80 0 x2 := up3_nr (by decide)
               refine p2I (m_form hW hx1 hx2 (fun z => ?_) (fun z _ => ?_) (fun z y _ => ?_) (fun z y _ _ => ?_) (fun z y _ _ K _ _ _ _ _ _ _ => ?_))
               · rw [e44] at z
                 exfalso
                 omega
               · exact r2I rfl (inv58 hI (fr_up (fr_up fr_rf (by decide)) (by decide)) (fun j hj => by rw [up3_nr (by decide), up3_nj hj]) (fun j hj => by rw [up3_nj hj, up3_nr (by decide)]) (by rw [up3_nr (by decide), up3_eq]) up3_eq)
               · rw [e80] at y
                 exfalso
                 omega
               · rw [e80] at y
                 exfalso
                 omega
               · rw [e80] at y
                 exfalso
                 omega)
            | (have hm : Hm M N1 := fun q hq => (hp1.2.hm q hq).trans (hnM_r fun z => by
                 have := (show ∀ y ∈ ([14, 18, 19] : List Nat), y < 44 by decide) q z
                 omega)
               have hW : WM N1 := WM_q hm hI.1.1.wm
               refine p2I (m_form hW hx1 hx2 (fun z => ?_) (fun z y => ?_) (fun z y x => ?_) (fun z y _ x => ?_) (fun z y _ _ K g1 g2 g3 g4 g5 g6 g7 => ?_))
               · rw [hm 44 (by decide)] at z
                 exfalso
                 omega
               · rw [hm 80 (by decide)] at y
                 exfalso
                 omega
               · rw [hm 50 (by decide)] at x
                 exfalso
                 omega
               · rw [hm 44 (by decide)] at x
                 exfalso
                 omega
               · exact r2I (svI (by rw [hm 44 (by decide)]; exact hF1.symm)) (inv_form hI hv (by omega) (by omega) hp1.1 hp1.2 g1 g2 g3 g4 g5 g6 g7))
        · first
          | (exfalso; omega)
          | (refine p2I (m_form hI.1.1.wm hx1 hx2 (fun z => r2I rfl hI) (fun z _ => ?_) (fun z _ _ => ?_) (fun z _ _ _ => ?_) (fun z _ _ _ K _ _ _ _ _ _ _ => ?_)) <;> (exfalso; omega))
          | (refine p2I (m_form hI.1.1.wm hx1 hx2 (fun z => ?_) (fun z _ => ?_) (fun z _ _ => r2I rfl hI) (fun z _ _ _ => ?_) (fun z _ _ _ K _ _ _ _ _ _ _ => ?_)) <;> (exfalso; omega))
          | (refine p2I (m_form hI.1.1.wm hx1 hx2 (fun z => ?_) (fun z _ => ?_) (fun z _ _ => ?_) (fun z _ _ _ => r2I rfl hI) (fun z _ _ _ K _ _ _ _ _ _ _ => ?_)) <;> (exfalso; omega))
          | (have hW : WM (up3 M 0 0 9 1) := WM_q (Hm.rf.up (by decide)) hI.1.1.wm
             have e44 : ∀ j : Int, (up3 M 0 0 9 1) 44 0 j = M 44 0 j := fun j => up3_nr (by decide)
             have e80 : (up3 M 0 0 9 1) 80 0 x2 = M 80 0 x2 := up3_nr (by decide)
             refine p2I (m_form hW hx1 hx2 (fun z => ?_) (fun z _ => ?_) (fun z y _ => ?_) (fun z y _ _ => ?_) (fun z y _ _ K _ _ _ _ _ _ _ => ?_))
             · rw [e44] at z
               exfalso
               omega
             · exact r2I rfl (inv58 hI (fr_up (fr_up fr_rf (by decide)) (by decide)) (fun j hj => by rw [up3_nr (by decide), up3_nj hj]) (fun j hj => by rw [up3_nj hj, up3_nr (by decide)]) (by rw [up3_nr (by decide), up3_eq]) up3_eq)
             · rw [e80] at y
               exfalso
               omega
             · rw [e80] at y
               exfalso
               omega
             · rw [e80] at y
               exfalso
               omega)
          | (have hm : Hm M N1 := fun q hq => (hp1.2.hm q hq).trans (hnM_r fun z => by
               have := (show ∀ y ∈ ([14, 18, 19] : List Nat), y < 44 by decide) q z
               omega)
             have hW : WM N1 := WM_q hm hI.1.1.wm
             refine p2I (m_form hW hx1 hx2 (fun z => ?_) (fun z y => ?_) (fun z y x => ?_) (fun z y _ x => ?_) (fun z y _ _ K g1 g2 g3 g4 g5 g6 g7 => ?_))
             · rw [hm 44 (by decide)] at z
               exfalso
               omega
             · rw [hm 80 (by decide)] at y
               exfalso
               omega
             · rw [hm 50 (by decide)] at x
               exfalso
               omega
             · rw [hm 44 (by decide)] at x
               exfalso
               omega
             · exact r2I (svI (by rw [hm 44 (by decide)]; exact hF1.symm)) (inv_form hI hv (by omega) (by omega) hp1.1 hp1.2 g1 g2 g3 g4 g5 g6 g7))
  · skip
    refine sX11_form ?_
    refine ⟨?_, ?_⟩
    · first | omega | (exfalso; omega)
    refine ⟨fun c1 => ?_, fun c1 => ?_⟩
    · first
      | (exfalso; omega)
      | (refine p2I (m_form hI.1.1.wm hx1 hx2 (fun z => r2I rfl hI) (fun z _ => ?_) (fun z _ _ => ?_) (fun z _ _ _ => ?_) (fun z _ _ _ K _ _ _ _ _ _ _ => ?_)) <;> (exfalso; omega))
    · refine ⟨fun c2 => ?_, fun c2 => ?_⟩
      · first
        | (exfalso; omega)
        | (refine p2I (m_form hI.1.1.wm hx1 hx2 (fun z => r2I rfl hI) (fun z _ => ?_) (fun z _ _ => ?_) (fun z _ _ _ => ?_) (fun z _ _ _ K _ _ _ _ _ _ _ => ?_)) <;> (exfalso; omega))
      · refine ⟨?_, ?_⟩
        · first | omega | (exfalso; omega)
        refine ⟨fun c3 => ?_, fun c3 => ?_⟩
        · refine ⟨?_, ?_⟩
          · first | omega | (exfalso; omega)
          refine ⟨fun c4 => ?_, fun c4 => ?_⟩
          · refine ⟨?_, ?_⟩
            · first | omega | (exfalso; omega)
            refine ⟨fun c5 => ?_, fun c5 => ?_⟩
            · refine ⟨fun c6 => ?_, fun c6 => ?_⟩
              · refine ⟨?_, ?_⟩
                · first | omega | (exfalso; omega)
                intro N1 hN1 hf1 hp1
                first
                | (exfalso; omega)
                | (refine p2I (m_form hI.1.1.wm hx1 hx2 (fun z => r2I rfl hI) (fun z _ => ?_) (fun z _ _ => ?_) (fun z _ _ _ => ?_) (fun z _ _ _ K _ _ _ _ _ _ _ => ?_)) <;> (exfalso; omega))
              · first
                | (exfalso; omega)
                | (refine p2I (m_form hI.1.1.wm hx1 hx2 (fun z => r2I rfl hI) (fun z _ => ?_) (fun z _ _ => ?_) (fun z _ _ _ => ?_) (fun z _ _ _ K _ _ _ _ _ _ _ => ?_)) <;> (exfalso; omega))
            · first
              | (exfalso; omega)
              | (refine p2I (m_form hI.1.1.wm hx1 hx2 (fun z => r2I rfl hI) (fun z _ => ?_) (fun z _ _ => ?_) (fun z _ _ _ => ?_) (fun z _ _ _ K _ _ _ _ _ _ _ => ?_)) <;> (exfalso; omega))
          · first
            | (exfalso; omega)
            | (refine p2I (m_form hI.1.1.wm hx1 hx2 (fun z => r2I rfl hI) (fun z _ => ?_) (fun z _ _ => ?_) (fun z _ _ _ => ?_) (fun z _ _ _ K _ _ _ _ _ _ _ => ?_)) <;> (exfalso; omega))
        · first
          | (exfalso; omega)
          | (refine p2I (m_form hI.1.1.wm hx1 hx2 (fun z => r2I rfl hI) (fun z _ => ?_) (fun z _ _ => ?_) (fun z _ _ _ => ?_) (fun z _ _ _ K _ _ _ _ _ _ _ => ?_)) <;> (exfalso; omega))
