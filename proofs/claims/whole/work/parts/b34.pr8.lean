/-! PAIRS: person -/
theorem iFrm_p {M K : M3} (h : iFrm M) (f1 : ∀ q : Nat, q ∉ ([10, 13, 44, 45, 46, 47, 48, 49] : List Nat) → K q = M q) (e44 : ∀ j : Int, j ≠ 1 → K 44 0 j = M 44 0 j) (e1 : K 44 0 1 = M 44 0 1 + 1) (s46 : ∀ p : Int, p ≠ M 44 0 1 → K 46 0 p = M 46 0 p) : iFrm K := by
  obtain ⟨h1, h2, h3⟩ := h
  refine ⟨by rw [f1 14 (by decide), e44 18 (by decide)]; exact h1, by rw [e44 18 (by decide)]; exact h2, fun f a b => ?_⟩
  rw [e44 18 (by decide)] at b
  obtain ⟨g1, g2, g3, g4, g5, g6, g7, g8, g9⟩ := h3 f a b
  unfold iF
  rw [f1 18 (by decide), f1 19 (by decide), f1 56 (by decide), f1 57 (by decide), f1 58 (by decide), f1 59 (by decide), f1 60 (by decide), f1 61 (by decide), f1 62 (by decide), f1 63 (by decide), e44 0 (by decide), e1, s46 (M 56 0 f) (by omega)]
  exact ⟨g1, g2, g3, g4, g5, g6, ⟨g7.1, by omega⟩, g8, g9⟩
theorem iLin_p {M K : M3} (h : iLin M) (f1 : ∀ q : Nat, q ∉ ([10, 13, 44, 45, 46, 47, 48, 49] : List Nat) → K q = M q) (e44 : ∀ j : Int, j ≠ 1 → K 44 0 j = M 44 0 j) (e1 : K 44 0 1 = M 44 0 1 + 1) (s46 : ∀ p : Int, p ≠ M 44 0 1 → K 46 0 p = M 46 0 p) : iLin K := by
  obtain ⟨n1, n2, ⟨l1, l2, l3, l4, l5, l6⟩, n4, n5, s, hs, hc⟩ := h
  unfold iLin okL SgP lt3
  rw [f1 20 (by decide), f1 21 (by decide), f1 22 (by decide), f1 23 (by decide), f1 25 (by decide), f1 64 (by decide), f1 65 (by decide), f1 66 (by decide), e44 32 (by decide), e44 29 (by decide), e44 30 (by decide), e44 31 (by decide), e1]
  refine ⟨n1, n2, ⟨l1, l2, l3, l4, l5, fun k a b => ?_⟩, n4, fun k a b => ?_, s, hs, fun k a b => ?_⟩
  · have := n5 k a b
    rw [s46 _ (by omega)]
    exact l6 k a b
  · have := n5 k a b
    omega
  · have w := hs.1 k a b
    have := n5 (s k) w.1 w.2
    rw [s46 _ (by omega)]
    exact hc k a b
theorem iSum_p {M K : M3} (h : iSum M) (f1 : ∀ q : Nat, q ∉ ([10, 13, 44, 45, 46, 47, 48, 49] : List Nat) → K q = M q) (e44 : ∀ j : Int, j ≠ 1 → K 44 0 j = M 44 0 j) (e1 : K 44 0 1 = M 44 0 1 + 1) : iSum K := by
  obtain ⟨n1, n2, n3⟩ := h
  unfold iSum
  rw [f1 31 (by decide), f1 32 (by decide), f1 33 (by decide), f1 34 (by decide), f1 75 (by decide), f1 76 (by decide), f1 77 (by decide), e44 44 (by decide), e1]
  refine ⟨n1, n2, fun k a b => ?_⟩
  obtain ⟨m1, m2, m3, m4, m5⟩ := n3 k a b
  exact ⟨m1, m2, m3, fun z => by have := m4 z; omega, m5⟩
theorem iW_p {M K : M3} (h : iW M) (hF : iFrm M) (f1 : ∀ q : Nat, q ∉ ([10, 13, 44, 45, 46, 47, 48, 49] : List Nat) → K q = M q) (e44 : ∀ j : Int, j ≠ 1 → K 44 0 j = M 44 0 j) (s46 : ∀ p : Int, p ≠ M 44 0 1 → K 46 0 p = M 46 0 p) : iW K := fun f a b => by
  rw [e44 18 (by decide)] at b
  obtain ⟨g1, g2, g3, g4, g5, g6, g7, g8, g9⟩ := hF.2.2 f a b
  have eL : LM3 K = LM3 M := LM3_eq (f1 52 (by decide)) (e44 9 (by decide))
  have w := h f a b
  unfold mLck mRights at w ⊢
  rw [eL, f1 18 (by decide), f1 56 (by decide), f1 57 (by decide), f1 58 (by decide), f1 59 (by decide), s46 (M 56 0 f) (by omega)]
  exact w
theorem inv_person {M K : M3} {x1 x2 x3 x4 x5 : Int} (hI : Inv M) (hv : (((0 ≤ x1 ∧ x1 ≤ 5) ∧ (0 ≤ x2 ∧ x2 ≤ 1)) ∧ ((0 ≤ x3 ∧ x3 ≤ 20) ∧ (0 ≤ x4 ∧ x4 ≤ 9)) ∧ (-1 ≤ x5 ∧ x5 < M 44 0 1))) (hlt : M 44 0 1 < 48) (f1 : ∀ q : Nat, q ∉ ([10, 13, 44, 45, 46, 47, 48, 49] : List Nat) → K q = M q) (e10 : K 10 0 0 = M 44 0 1 + 1) (e44 : ∀ j : Int, j ≠ 1 → K 44 0 j = M 44 0 j) (e1 : K 44 0 1 = M 44 0 1 + 1) (s13 : ∀ p j : Int, p ≠ M 44 0 1 → K 13 p j = M 13 p j) (t0 : K 13 (M 44 0 1) 0 = x1) (t1 : K 13 (M 44 0 1) 1 = x2) (t2 : K 13 (M 44 0 1) 2 = x3) (t3 : K 13 (M 44 0 1) 3 = x4) (t4 : K 13 (M 44 0 1) 4 = x5) (t5 : ∀ j : Int, 4 < j → K 13 (M 44 0 1) j = M 13 (M 44 0 1) j) (s45 : ∀ p : Int, p ≠ M 44 0 1 → K 45 0 p = M 45 0 p) (s46 : ∀ p : Int, p ≠ M 44 0 1 → K 46 0 p = M 46 0 p) (s47 : ∀ p : Int, p ≠ M 44 0 1 → K 47 0 p = M 47 0 p) (s48 : ∀ p : Int, p ≠ M 44 0 1 → K 48 0 p = M 48 0 p) (s49 : ∀ p : Int, p ≠ M 44 0 1 → K 49 0 p = M 49 0 p) (v45 : K 45 0 (M 44 0 1) = x1) (v46 : K 46 0 (M 44 0 1) = x2) (v47 : K 47 0 (M 44 0 1) = x3) (v48 : K 48 0 (M 44 0 1) = x4) (v49 : K 49 0 (M 44 0 1) = x5) : Inv K := by
  have hc := hI.1.1.2.2.1.2.1
  have hP : iCty K := by
    refine ⟨by rw [e10, e1], by rw [e1]; omega, fun p a c => ?_⟩
    have w := hI.1.1.p a c
    unfold iP at w ⊢
    rw [e1, f1 50 (by decide), f1 51 (by decide)]
    obtain ⟨⟨p1, p2, p3, p4, p5, p6⟩, q1, q2, q3, q4, q5, q6, q7, q8, q9⟩ := w
    by_cases z : p = M 44 0 1
    · rw [z] at p5 p6 q8 q9 ⊢
      rw [t0, t1, t2, t3, t4, t5 5 (by decide), t5 6 (by decide), v45, v46, v47, v48, v49]
      exact ⟨⟨rfl, rfl, rfl, rfl, p5, p6⟩, fun _ => rfl, fun y => by omega, by omega, by omega, by omega, by omega, by omega, by omega, q9⟩
    · rw [s13 p 0 z, s13 p 1 z, s13 p 2 z, s13 p 3 z, s13 p 4 z, s13 p 5 z, s13 p 6 z, s45 p z, s46 p z, s47 p z, s48 p z, s49 p z]
      exact ⟨⟨p1, p2, p3, p4, p5, p6⟩, q1, q2, q3, q4, q5, q6, ⟨q7.1, q7.2.1, fun y => by omega⟩, ⟨q8.1, q8.2.1, fun y => by omega⟩, q9⟩
  have hF := iFrm_p hI.1.1.2.2.2.1 f1 e44 e1 s46
  have hL := iLin_p hI.1.1.2.2.2.2.2.1 f1 e44 e1 s46
  have hS := iSum_p hI.1.1.2.2.2.2.2.2.2.1 f1 e44 e1
  have hW := iW_p hI.1.2 hI.1.1.2.2.2.1 f1 e44 s46
  clear s13 t0 t1 t2 t3 t4 t5 s45 s46 s47 s48 s49 v45 v46 v47 v48 v49
  exact ⟨⟨⟨(iBas_of (by first | exact f1 _ (by decide) | rw [f1 _ (by decide)] | exact e44 _ (by decide)) (by first | exact f1 _ (by decide) | rw [f1 _ (by decide)] | exact e44 _ (by decide)) (by first | exact f1 _ (by decide) | rw [f1 _ (by decide)] | exact e44 _ (by decide)) (by first | exact f1 _ (by decide) | rw [f1 _ (by decide)] | exact e44 _ (by decide)) (by first | exact f1 _ (by decide) | rw [f1 _ (by decide)] | exact e44 _ (by decide)) (by first | exact f1 _ (by decide) | rw [f1 _ (by decide)] | exact e44 _ (by decide)) hI.1.1.1), (iLaw_of (by first | exact f1 _ (by decide) | rw [f1 _ (by decide)] | exact e44 _ (by decide)) (by first | exact f1 _ (by decide) | rw [f1 _ (by decide)] | exact e44 _ (by decide)) (by first | exact f1 _ (by decide) | rw [f1 _ (by decide)] | exact e44 _ (by decide)) (by first | exact f1 _ (by decide) | rw [f1 _ (by decide)] | exact e44 _ (by decide)) hI.1.1.2.1), hP, hF, (iOrd_of (by first | exact f1 _ (by decide) | rw [f1 _ (by decide)] | exact e44 _ (by decide)) (by first | exact f1 _ (by decide) | rw [f1 _ (by decide)] | exact e44 _ (by decide)) hI.1.1.2.2.2.2.1), hL, (iLst_of (by first | exact f1 _ (by decide) | rw [f1 _ (by decide)] | exact e44 _ (by decide)) (by first | exact f1 _ (by decide) | rw [f1 _ (by decide)] | exact e44 _ (by decide)) (by first | exact f1 _ (by decide) | rw [f1 _ (by decide)] | exact e44 _ (by decide)) (by first | exact f1 _ (by decide) | rw [f1 _ (by decide)] | exact e44 _ (by decide)) (by first | exact f1 _ (by decide) | rw [f1 _ (by decide)] | exact e44 _ (by decide)) (by first | exact f1 _ (by decide) | rw [f1 _ (by decide)] | exact e44 _ (by decide)) (by first | exact f1 _ (by decide) | rw [f1 _ (by decide)] | exact e44 _ (by decide)) hI.1.1.2.2.2.2.2.2.1), hS, (iSht_of (by first | exact f1 _ (by decide) | rw [f1 _ (by decide)] | exact e44 _ (by decide)) (by first | exact f1 _ (by decide) | rw [f1 _ (by decide)] | exact e44 _ (by decide)) (by first | exact f1 _ (by decide) | rw [f1 _ (by decide)] | exact e44 _ (by decide)) (by first | exact f1 _ (by decide) | rw [f1 _ (by decide)] | exact e44 _ (by decide)) (by first | exact f1 _ (by decide) | rw [f1 _ (by decide)] | exact e44 _ (by decide)) (by first | exact f1 _ (by decide) | rw [f1 _ (by decide)] | exact e44 _ (by decide)) hI.1.1.2.2.2.2.2.2.2.2)⟩, hW⟩, (LwC_of (by first | exact f1 _ (by decide) | rw [f1 _ (by decide)] | exact e44 _ (by decide)) (by first | exact f1 _ (by decide) | rw [f1 _ (by decide)] | exact e44 _ (by decide)) (by first | exact f1 _ (by decide) | rw [f1 _ (by decide)] | exact e44 _ (by decide)) (by first | exact f1 _ (by decide) | rw [f1 _ (by decide)] | exact e44 _ (by decide)) (by first | exact f1 _ (by decide) | rw [f1 _ (by decide)] | exact e44 _ (by decide)) (by first | exact f1 _ (by decide) | rw [f1 _ (by decide)] | exact e44 _ (by decide)) (by first | exact f1 _ (by decide) | rw [f1 _ (by decide)] | exact e44 _ (by decide)) (by first | exact f1 _ (by decide) | rw [f1 _ (by decide)] | exact e44 _ (by decide)) (by first | exact f1 _ (by decide) | rw [f1 _ (by decide)] | exact e44 _ (by decide)) (by first | exact f1 _ (by decide) | rw [f1 _ (by decide)] | exact e44 _ (by decide)) hI.2.1), (RdC_of (by first | exact f1 _ (by decide) | rw [f1 _ (by decide)] | exact e44 _ (by decide)) (by first | exact f1 _ (by decide) | rw [f1 _ (by decide)] | exact e44 _ (by decide)) (by first | exact f1 _ (by decide) | rw [f1 _ (by decide)] | exact e44 _ (by decide)) (by first | exact f1 _ (by decide) | rw [f1 _ (by decide)] | exact e44 _ (by decide)) (by first | exact f1 _ (by decide) | rw [f1 _ (by decide)] | exact e44 _ (by decide)) (by first | exact f1 _ (by decide) | rw [f1 _ (by decide)] | exact e44 _ (by decide)) (by first | exact f1 _ (by decide) | rw [f1 _ (by decide)] | exact e44 _ (by decide)) (by first | exact f1 _ (by decide) | rw [f1 _ (by decide)] | exact e44 _ (by decide)) hI.2.2)⟩
def a_person (M : M3) (x1 x2 x3 x4 x5 : Int) : Int := if ¬ (((0 ≤ x1 ∧ x1 ≤ 5) ∧ (0 ≤ x2 ∧ x2 ≤ 1)) ∧ ((0 ≤ x3 ∧ x3 ≤ 20) ∧ (0 ≤ x4 ∧ x4 ≤ 9)) ∧ (-1 ≤ x5 ∧ x5 < M 44 0 1)) then -2 else if M 44 0 1 = 48 then -4 else M 44 0 1
def u_person (M : M3) (x1 x2 x3 x4 x5 : Int) : M3 := if ¬ (((0 ≤ x1 ∧ x1 ≤ 5) ∧ (0 ≤ x2 ∧ x2 ≤ 1)) ∧ ((0 ≤ x3 ∧ x3 ≤ 20) ∧ (0 ≤ x4 ∧ x4 ≤ 9)) ∧ (-1 ≤ x5 ∧ x5 < M 44 0 1)) then M else if M 44 0 1 = 48 then M else up3 (up3 (up3 (up3 (up3 (up3 M 13 (M 10 0 0) 0 x1) 13 (M 10 0 0) 1 x2) 13 (M 10 0 0) 2 x3) 13 (M 10 0 0) 3 x4) 13 (M 10 0 0) 4 x5) 10 0 0 (M 10 0 0 + 1)
def w_person (M : M3) (x1 x2 x3 x4 x5 : Int) : M3 := if ¬ (((0 ≤ x1 ∧ x1 ≤ 5) ∧ (0 ≤ x2 ∧ x2 ≤ 1)) ∧ ((0 ≤ x3 ∧ x3 ≤ 20) ∧ (0 ≤ x4 ∧ x4 ≤ 9)) ∧ (-1 ≤ x5 ∧ x5 < M 44 0 1)) then M else if M 44 0 1 = 48 then M else up3 (up3 (up3 (up3 (up3 (up3 M 45 0 (M 44 0 1) x1) 46 0 (M 44 0 1) x2) 47 0 (M 44 0 1) x3) 48 0 (M 44 0 1) x4) 49 0 (M 44 0 1) x5) 44 0 1 (M 44 0 1 + 1)
theorem c_person {E : E3} {Q : Q3} {M : M3} {x1 x2 x3 x4 x5 : Int} (hI : Inv M) (hx1 : -2147483648 ≤ x1 ∧ x1 ≤ 2147483647) (hx2 : -2147483648 ≤ x2 ∧ x2 ≤ 2147483647) (hx3 : -2147483648 ≤ x3 ∧ x3 ≤ 2147483647) (hx4 : -2147483648 ≤ x4 ∧ x4 ≤ 2147483647) (hx5 : -2147483648 ≤ x5 ∧ x5 ≤ 2147483647) (k : Q (some (vI (a_person M x1 x2 x3 x4 x5))) (u_person M x1 x2 x3 x4 x5)) : C3 E YX11_person [vR 0 0, vI x1, vI x2, vI x3, vI x4, vI x5] M Q := by
  refine c3_rm fun hM => ?_
  have hc1 := hI.1.1.2.2.1.1
  have hc2 := hI.1.1.2.2.1.2.1
  unfold a_person u_person at k
  refine sX11_person ?_
  refine ⟨?_, ?_⟩
  · first | omega
  refine ⟨fun c1 => ?_, fun c1 => ?_⟩
  · first
    | (repeat (first | rw [if_pos (by omega)] at k | rw [if_neg (by omega)] at k)
       exact qI (by omega) k)
    | (exfalso; omega)
  · refine ⟨?_, ?_⟩
    · first | omega
    refine ⟨fun c2 => ?_, fun c2 => ?_⟩
    · first
      | (repeat (first | rw [if_pos (by omega)] at k | rw [if_neg (by omega)] at k)
         exact qI (by omega) k)
      | (exfalso; omega)
    · refine ⟨?_, ?_⟩
      · first | omega
      refine ⟨fun c3 => ?_, fun c3 => ?_⟩
      · first
        | (repeat (first | rw [if_pos (by omega)] at k | rw [if_neg (by omega)] at k)
           exact qI (by omega) k)
        | (exfalso; omega)
      · refine ⟨?_, ?_⟩
        · first | omega
        refine ⟨fun c4 => ?_, fun c4 => ?_⟩
        · first
          | (repeat (first | rw [if_pos (by omega)] at k | rw [if_neg (by omega)] at k)
             exact qI (by omega) k)
          | (exfalso; omega)
        · refine ⟨?_, ?_⟩
          · first | omega
          refine ⟨fun c5 => ?_, fun c5 => ?_⟩
          · refine ⟨fun c6 => ?_, fun c6 => ?_⟩
            · refine ⟨?_, ?_, ?_, ?_, ?_, ?_, ?_⟩
              · first | omega
              · first | omega
              · first | omega
              · first | omega
              · first | omega
              · first | omega
              first
              | (repeat (first | rw [if_pos (by omega)] at k | rw [if_neg (by omega)] at k)
                 exact qI (by omega) k)
              | (exfalso; omega)
            · first
              | (repeat (first | rw [if_pos (by omega)] at k | rw [if_neg (by omega)] at k)
                 exact qI (by omega) k)
              | (exfalso; omega)
          · refine ⟨fun c6 => ?_, fun c6 => ?_⟩
            · first
              | (repeat (first | rw [if_pos (by omega)] at k | rw [if_neg (by omega)] at k)
                 exact qI (by omega) k)
              | (exfalso; omega)
            · refine ⟨fun c7 => ?_, fun c7 => ?_⟩
              · first
                | (repeat (first | rw [if_pos (by omega)] at k | rw [if_neg (by omega)] at k)
                   exact qI (by omega) k)
                | (exfalso; omega)
              · refine ⟨fun c8 => ?_, fun c8 => ?_⟩
                · refine ⟨?_, ?_, ?_, ?_, ?_, ?_, ?_⟩
                  · first | omega
                  · first | omega
                  · first | omega
                  · first | omega
                  · first | omega
                  · first | omega
                  first
                  | (repeat (first | rw [if_pos (by omega)] at k | rw [if_neg (by omega)] at k)
                     exact qI (by omega) k)
                  | (exfalso; omega)
                · first
                  | (repeat (first | rw [if_pos (by omega)] at k | rw [if_neg (by omega)] at k)
                     exact qI (by omega) k)
                  | (exfalso; omega)
theorem m_person {E : E3} {Q : Q3} {M : M3} {x1 x2 x3 x4 x5 : Int} (hW : WM M) (hR : RdC M) (hx1 : -2147483648 ≤ x1 ∧ x1 ≤ 2147483647) (hx2 : -2147483648 ≤ x2 ∧ x2 ≤ 2147483647) (hx3 : -2147483648 ≤ x3 ∧ x3 ≤ 2147483647) (hx4 : -2147483648 ≤ x4 ∧ x4 ≤ 2147483647) (hx5 : -2147483648 ≤ x5 ∧ x5 ≤ 2147483647) (k : Q (some (vI (a_person M x1 x2 x3 x4 x5))) (w_person M x1 x2 x3 x4 x5)) : C3 E YX12_person [vR 44 0, vI x1, vI x2, vI x3, vI x4, vI x5] M Q := by
  refine c3_rm fun hM => ?_
  obtain ⟨w1, w2, w3, w4, w5, w6, w7, w8⟩ := hW.1
  unfold a_person w_person at k
  refine sX12_person ?_
  refine ⟨?_, ?_⟩
  · first | omega
  refine ⟨fun c1 => ?_, fun c1 => ?_⟩
  · first
    | (repeat (first | rw [if_pos (by omega)] at k | rw [if_neg (by omega)] at k)
       exact qI (by omega) k)
    | (exfalso; omega)
  · refine ⟨?_, ?_⟩
    · first | omega
    refine ⟨fun c2 => ?_, fun c2 => ?_⟩
    · first
      | (repeat (first | rw [if_pos (by omega)] at k | rw [if_neg (by omega)] at k)
         exact qI (by omega) k)
      | (exfalso; omega)
    · refine ⟨?_, ?_⟩
      · first | omega
      refine ⟨fun c3 => ?_, fun c3 => ?_⟩
      · first
        | (repeat (first | rw [if_pos (by omega)] at k | rw [if_neg (by omega)] at k)
           exact qI (by omega) k)
        | (exfalso; omega)
      · refine ⟨?_, ?_⟩
        · first | omega
        refine ⟨fun c4 => ?_, fun c4 => ?_⟩
        · first
          | (repeat (first | rw [if_pos (by omega)] at k | rw [if_neg (by omega)] at k)
             exact qI (by omega) k)
          | (exfalso; omega)
        · refine ⟨?_, ?_⟩
          · first | omega
          refine ⟨fun c5 => ?_, fun c5 => ?_⟩
          · refine ⟨fun c6 => ?_, fun c6 => ?_⟩
            · refine ⟨?_, ?_, ?_, ?_, ?_, ?_, ?_, ?_⟩
              · first | omega
              · first | omega
              · first | omega
              · first | omega
              · first | omega
              · first | omega
              · first | omega
              first
              | (repeat (first | rw [if_pos (by omega)] at k | rw [if_neg (by omega)] at k)
                 exact qI (by omega) k)
              | (exfalso; omega)
            · first
              | (repeat (first | rw [if_pos (by omega)] at k | rw [if_neg (by omega)] at k)
                 exact qI (by omega) k)
              | (exfalso; omega)
          · first
            | (repeat (first | rw [if_pos (by omega)] at k | rw [if_neg (by omega)] at k)
               exact qI (by omega) k)
            | (exfalso; omega)
theorem a_person_q {M N : M3} (h : Hm M N) (x1 x2 x3 x4 x5 : Int) : a_person N x1 x2 x3 x4 x5 = a_person M x1 x2 x3 x4 x5 := by unfold a_person; simp only [h 44 (by decide)]
theorem u_person_h (M : M3) (x1 x2 x3 x4 x5 : Int) : Hm M (u_person M x1 x2 x3 x4 x5) ∧ (RdC M → RdC (u_person M x1 x2 x3 x4 x5)) := by
  unfold u_person
  repeat' split
  all_goals first
    | exact ⟨(((((Hm.rf.up (by decide)).up (by decide)).up (by decide)).up (by decide)).up (by decide)).up (by decide), fun h => (((((h.up (by decide)).up (by decide)).up (by decide)).up (by decide)).up (by decide)).up (by decide)⟩
    | exact ⟨((((Hm.rf.up (by decide)).up (by decide)).up (by decide)).up (by decide)).up (by decide), fun h => ((((h.up (by decide)).up (by decide)).up (by decide)).up (by decide)).up (by decide)⟩
    | exact ⟨(((Hm.rf.up (by decide)).up (by decide)).up (by decide)).up (by decide), fun h => (((h.up (by decide)).up (by decide)).up (by decide)).up (by decide)⟩
    | exact ⟨((Hm.rf.up (by decide)).up (by decide)).up (by decide), fun h => ((h.up (by decide)).up (by decide)).up (by decide)⟩
    | exact ⟨(Hm.rf.up (by decide)).up (by decide), fun h => (h.up (by decide)).up (by decide)⟩
    | exact ⟨Hm.rf.up (by decide), fun h => h.up (by decide)⟩
    | exact ⟨Hm.rf, fun h => h⟩
theorem i_person {M : M3} {x1 x2 x3 x4 x5 : Int} (hI : Inv M) (hx1 : -2147483648 ≤ x1 ∧ x1 ≤ 2147483647) (hx2 : -2147483648 ≤ x2 ∧ x2 ≤ 2147483647) (hx3 : -2147483648 ≤ x3 ∧ x3 ≤ 2147483647) (hx4 : -2147483648 ≤ x4 ∧ x4 ≤ 2147483647) (hx5 : -2147483648 ≤ x5 ∧ x5 ≤ 2147483647) : Inv (w_person (u_person M x1 x2 x3 x4 x5) x1 x2 x3 x4 x5) := by
  have hc1 := hI.1.1.2.2.1.1
  have hc := hI.1.1.2.2.1.2.1
  unfold u_person
  by_cases c1 : ¬ (((0 ≤ x1 ∧ x1 ≤ 5) ∧ (0 ≤ x2 ∧ x2 ≤ 1)) ∧ ((0 ≤ x3 ∧ x3 ≤ 20) ∧ (0 ≤ x4 ∧ x4 ≤ 9)) ∧ (-1 ≤ x5 ∧ x5 < M 44 0 1))
  · rw [if_pos c1]
    unfold w_person
    rw [if_pos c1]
    exact hI
  rw [if_neg c1]
  by_cases c2 : M 44 0 1 = 48
  · rw [if_pos c2]
    unfold w_person
    rw [if_neg c1, if_pos c2]
    exact hI
  rw [if_neg c2]
  unfold w_person
  rw [hc1]
  have h44 : (up3 (up3 (up3 (up3 (up3 (up3 M 13 (M 44 0 1) 0 x1) 13 (M 44 0 1) 1 x2) 13 (M 44 0 1) 2 x3) 13 (M 44 0 1) 3 x4) 13 (M 44 0 1) 4 x5) 10 0 0 (M 44 0 1 + 1)) 44 = M 44 := by rw [up3_r (by decide), up3_r (by decide), up3_r (by decide), up3_r (by decide), up3_r (by decide), up3_r (by decide)]
  rw [h44, if_neg c1, if_neg c2]
  have g : ∀ q : Nat, q ∉ ([10, 13] : List Nat) → (up3 (up3 (up3 (up3 (up3 (up3 M 13 (M 44 0 1) 0 x1) 13 (M 44 0 1) 1 x2) 13 (M 44 0 1) 2 x3) 13 (M 44 0 1) 3 x4) 13 (M 44 0 1) 4 x5) 10 0 0 (M 44 0 1 + 1)) q = M q := fr_up (fr_up (fr_up (fr_up (fr_up (fr_up fr_rf (by decide)) (by decide)) (by decide)) (by decide)) (by decide)) (by decide)
  have a10 : (up3 (up3 (up3 (up3 (up3 (up3 M 13 (M 44 0 1) 0 x1) 13 (M 44 0 1) 1 x2) 13 (M 44 0 1) 2 x3) 13 (M 44 0 1) 3 x4) 13 (M 44 0 1) 4 x5) 10 0 0 (M 44 0 1 + 1)) 10 0 0 = M 44 0 1 + 1 := up3_eq
  have a13 : ∀ p j : Int, p ≠ M 44 0 1 → (up3 (up3 (up3 (up3 (up3 (up3 M 13 (M 44 0 1) 0 x1) 13 (M 44 0 1) 1 x2) 13 (M 44 0 1) 2 x3) 13 (M 44 0 1) 3 x4) 13 (M 44 0 1) 4 x5) 10 0 0 (M 44 0 1 + 1)) 13 p j = M 13 p j := fun p j hp => by rw [up3_nr (by decide), up3_ni hp, up3_ni hp, up3_ni hp, up3_ni hp, up3_ni hp]
  have a0 : (up3 (up3 (up3 (up3 (up3 (up3 M 13 (M 44 0 1) 0 x1) 13 (M 44 0 1) 1 x2) 13 (M 44 0 1) 2 x3) 13 (M 44 0 1) 3 x4) 13 (M 44 0 1) 4 x5) 10 0 0 (M 44 0 1 + 1)) 13 (M 44 0 1) 0 = x1 := by rw [up3_nr (by decide), up3_nj (by decide), up3_nj (by decide), up3_nj (by decide), up3_nj (by decide), up3_eq]
  have a1 : (up3 (up3 (up3 (up3 (up3 (up3 M 13 (M 44 0 1) 0 x1) 13 (M 44 0 1) 1 x2) 13 (M 44 0 1) 2 x3) 13 (M 44 0 1) 3 x4) 13 (M 44 0 1) 4 x5) 10 0 0 (M 44 0 1 + 1)) 13 (M 44 0 1) 1 = x2 := by rw [up3_nr (by decide), up3_nj (by decide), up3_nj (by decide), up3_nj (by decide), up3_eq]
  have a2 : (up3 (up3 (up3 (up3 (up3 (up3 M 13 (M 44 0 1) 0 x1) 13 (M 44 0 1) 1 x2) 13 (M 44 0 1) 2 x3) 13 (M 44 0 1) 3 x4) 13 (M 44 0 1) 4 x5) 10 0 0 (M 44 0 1 + 1)) 13 (M 44 0 1) 2 = x3 := by rw [up3_nr (by decide), up3_nj (by decide), up3_nj (by decide), up3_eq]
  have a3 : (up3 (up3 (up3 (up3 (up3 (up3 M 13 (M 44 0 1) 0 x1) 13 (M 44 0 1) 1 x2) 13 (M 44 0 1) 2 x3) 13 (M 44 0 1) 3 x4) 13 (M 44 0 1) 4 x5) 10 0 0 (M 44 0 1 + 1)) 13 (M 44 0 1) 3 = x4 := by rw [up3_nr (by decide), up3_nj (by decide), up3_eq]
  have a4 : (up3 (up3 (up3 (up3 (up3 (up3 M 13 (M 44 0 1) 0 x1) 13 (M 44 0 1) 1 x2) 13 (M 44 0 1) 2 x3) 13 (M 44 0 1) 3 x4) 13 (M 44 0 1) 4 x5) 10 0 0 (M 44 0 1 + 1)) 13 (M 44 0 1) 4 = x5 := by rw [up3_nr (by decide), up3_eq]
  have a5 : ∀ j : Int, 4 < j → (up3 (up3 (up3 (up3 (up3 (up3 M 13 (M 44 0 1) 0 x1) 13 (M 44 0 1) 1 x2) 13 (M 44 0 1) 2 x3) 13 (M 44 0 1) 3 x4) 13 (M 44 0 1) 4 x5) 10 0 0 (M 44 0 1 + 1)) 13 (M 44 0 1) j = M 13 (M 44 0 1) j := fun j hj => by rw [up3_nr (by decide), up3_nj (by omega), up3_nj (by omega), up3_nj (by omega), up3_nj (by omega), up3_nj (by omega)]
  generalize hU : (up3 (up3 (up3 (up3 (up3 (up3 M 13 (M 44 0 1) 0 x1) 13 (M 44 0 1) 1 x2) 13 (M 44 0 1) 2 x3) 13 (M 44 0 1) 3 x4) 13 (M 44 0 1) 4 x5) 10 0 0 (M 44 0 1 + 1)) = U at g a10 a13 a0 a1 a2 a3 a4 a5 h44 ⊢
  clear hU
  have e13 : (up3 (up3 (up3 (up3 (up3 (up3 U 45 0 (M 44 0 1) x1) 46 0 (M 44 0 1) x2) 47 0 (M 44 0 1) x3) 48 0 (M 44 0 1) x4) 49 0 (M 44 0 1) x5) 44 0 1 (M 44 0 1 + 1)) 13 = U 13 := by rw [up3_r (by decide), up3_r (by decide), up3_r (by decide), up3_r (by decide), up3_r (by decide), up3_r (by decide)]
  refine inv_person hI (x1 := x1) (x2 := x2) (x3 := x3) (x4 := x4) (x5 := x5) (Decidable.not_not.mp c1) (by omega) (fun q hq => (fr_up (fr_up (fr_up (fr_up (fr_up (fr_up fr_rf (by decide)) (by decide)) (by decide)) (by decide)) (by decide)) (by decide) q hq).trans (g q (fun z => hq ((show ∀ y ∈ ([10, 13] : List Nat), y ∈ ([10, 13, 44, 45, 46, 47, 48, 49] : List Nat) by decide) q z)))) ?_ (fun j hj => ?_) up3_eq (fun p j hp => by rw [e13]; exact a13 p j hp) (by rw [e13]; exact a0) (by rw [e13]; exact a1) (by rw [e13]; exact a2) (by rw [e13]; exact a3) (by rw [e13]; exact a4) (fun j hj => by rw [e13]; exact a5 j hj) (fun p hp => ?_) (fun p hp => ?_) (fun p hp => ?_) (fun p hp => ?_) (fun p hp => ?_) ?_ ?_ ?_ ?_ ?_
  · rw [up3_nr (by decide), up3_nr (by decide), up3_nr (by decide), up3_nr (by decide), up3_nr (by decide), up3_nr (by decide)]
    exact a10
  · rw [up3_nj hj, up3_nr (by decide), up3_nr (by decide), up3_nr (by decide), up3_nr (by decide), up3_nr (by decide), h44]
  · rw [up3_nr (by decide), up3_nr (by decide), up3_nr (by decide), up3_nr (by decide), up3_nr (by decide), up3_nj hp, g 45 (by decide)]
  · rw [up3_nr (by decide), up3_nr (by decide), up3_nr (by decide), up3_nr (by decide), up3_nj hp, up3_nr (by decide), g 46 (by decide)]
  · rw [up3_nr (by decide), up3_nr (by decide), up3_nr (by decide), up3_nj hp, up3_nr (by decide), up3_nr (by decide), g 47 (by decide)]
  · rw [up3_nr (by decide), up3_nr (by decide), up3_nj hp, up3_nr (by decide), up3_nr (by decide), up3_nr (by decide), g 48 (by decide)]
  · rw [up3_nr (by decide), up3_nj hp, up3_nr (by decide), up3_nr (by decide), up3_nr (by decide), up3_nr (by decide), g 49 (by decide)]
  · rw [up3_nr (by decide), up3_nr (by decide), up3_nr (by decide), up3_nr (by decide), up3_nr (by decide), up3_eq]
  · rw [up3_nr (by decide), up3_nr (by decide), up3_nr (by decide), up3_nr (by decide), up3_eq]
  · rw [up3_nr (by decide), up3_nr (by decide), up3_nr (by decide), up3_eq]
  · rw [up3_nr (by decide), up3_nr (by decide), up3_eq]
  · rw [up3_nr (by decide), up3_eq]
theorem p_person {E : E3} {M : M3} {x1 x2 x3 x4 x5 : Int} (hI : Inv M) (hx1 : -2147483648 ≤ x1 ∧ x1 ≤ 2147483647) (hx2 : -2147483648 ≤ x2 ∧ x2 ≤ 2147483647) (hx3 : -2147483648 ≤ x3 ∧ x3 ≤ 2147483647) (hx4 : -2147483648 ≤ x4 ∧ x4 ≤ 2147483647) (hx5 : -2147483648 ≤ x5 ∧ x5 ≤ 2147483647) : C3 E YX11_person [vR 0 0, vI x1, vI x2, vI x3, vI x4, vI x5] M (P2 E YX12_person [vR 44 0, vI x1, vI x2, vI x3, vI x4, vI x5]) :=
  c_person hI hx1 hx2 hx3 hx4 hx5 (p2I (m_person (WM_q (u_person_h M x1 x2 x3 x4 x5).1 hI.1.1.wm) ((u_person_h M x1 x2 x3 x4 x5).2 hI.2.2) hx1 hx2 hx3 hx4 hx5 (r2I (svI (a_person_q (u_person_h M x1 x2 x3 x4 x5).1 x1 x2 x3 x4 x5)) (i_person hI hx1 hx2 hx3 hx4 hx5))))
