/-! PAIRS: sees, begun, stand -/
theorem plc_is {M : M3} (h : iLin M) {s : Int → Int} (hs : SgP M s) (h1 : ∀ i : Int, 0 ≤ i → i < M 44 0 32 → M 21 0 i = M 65 0 (s i)) (x : Int) : (cPlc M x = -1 ∧ mPlc M x = -1) ∨ ((0 ≤ cPlc M x ∧ cPlc M x < M 44 0 32) ∧ (0 ≤ mPlc M x ∧ mPlc M x < M 44 0 32) ∧ s (cPlc M x) = mPlc M x) := by
  obtain ⟨⟨n1, _⟩, _, n3, n4, n5, _⟩ := h
  have hn := n3.1
  have hn1 : 0 ≤ M 20 0 0 := by omega
  rcases ff3_c hn1 (fun k => decide (M 21 0 k = x)) with ⟨e, h⟩ | ⟨a, b, c⟩
  · left
    refine ⟨e, ff3_no hn.1 fun j p q => ?_⟩
    obtain ⟨i, hi, hj⟩ := hs.2.2 j p q
    have z := of_decide_eq_false (h i hi.1 (by omega))
    exact decide_eq_false fun y => z (by rw [h1 i hi.1 hi.2, hj]; exact y)
  · right
    have b' : M 21 0 (cPlc M x) = x := of_decide_eq_true b
    have a' : 0 ≤ cPlc M x ∧ cPlc M x < M 20 0 0 := a
    have b2 := h1 _ a'.1 (by omega)
    have hs0 := hs.1 (cPlc M x) a'.1 (by omega)
    have e : mPlc M x = s (cPlc M x) := ff3_is hs0 (decide_eq_true (by rw [← b2]; exact b')) (fun k p q => decide_eq_false fun y => by
      have := n4 k (s (cPlc M x)) p (by omega) hs0.1 hs0.2 (by rw [← b2, b']; exact y)
      omega)
    exact ⟨by omega, by rw [e]; exact hs0, e.symm⟩
theorem SgP_q {M N : M3} (h : Hm M N) {s : Int → Int} (hs : SgP M s) : SgP N s := by
  unfold SgP lt3 at hs ⊢
  rw [h 44 (by decide), h 66 (by decide)]
  exact hs
theorem mSv_q {M N : M3} (h : Hm M N) (c : Int) (s : Int → Int) : mSv N c s = mSv M c s := by
  unfold mSv mCm mMn
  rw [h 44 (by decide), h 66 (by decide), h 64 (by decide), h 46 (by decide), h 65 (by decide)]
theorem mPlc_q {M N : M3} (e1 : N 44 = M 44) (e2 : N 65 = M 65) (x : Int) : mPlc N x = mPlc M x := by unfold mPlc; rw [e1, e2]
theorem mSv_rg {M : M3} (h : 0 ≤ M 44 0 32 ∧ M 44 0 32 ≤ 24) (c : Int) (s : Int → Int) : 0 ≤ mSv M c s ∧ mSv M c s ≤ M 44 0 32 := by
  unfold mSv sv3
  rcases ff3_c h.1 (fun i => decide (M 44 0 31 < fr3 (M 44 0 30) (mCm M s) (mMn M c s) (i + 1))) with ⟨e, _⟩ | ⟨a, _⟩
  · rw [if_pos e]
    omega
  · rw [if_neg (by omega)]
    omega
theorem m_sees {E : E3} {Q : Q3} {M : M3} {x1 x2 : Int} (hL : okL M) {s : Int → Int} (hs : SgP M s) (hx1 : -2147483648 ≤ x1 ∧ x1 ≤ 2147483647) (hx2 : -2147483648 ≤ x2 ∧ x2 ≤ 2147483647) (k : ∀ (r : Int) (N : M3), (∀ q : Nat, q ∉ ([67] : List Nat) → N q = M q) → (((0 ≤ x1 ∧ x1 ≤ 3) ∧ (0 ≤ x2 ∧ x2 ≤ 399) ∧ r = if opn3 (M 44 0 29) x2 then mSv M x1 s else 0) ∨ (¬ ((0 ≤ x1 ∧ x1 ≤ 3) ∧ (0 ≤ x2 ∧ x2 ≤ 399)) ∧ r = -2)) → Q (some (vI r)) N) : C3 E YX12_sees [vR 44 0, vI x1, vI x2] M Q := by
  refine c3_rm fun hM => ?_
  refine sX12_sees ?_
  refine ⟨?_, ?_⟩
  · first | omega | exact ⟨hL, ⟨s, hs⟩, by omega⟩
  refine ⟨fun c1 => ?_, fun c1 => ?_⟩
  · first
    | exact k _ _ hf1 (Or.inl ⟨by omega, by omega, (hp1 s hs).1⟩)
    | exact k _ M (fun _ _ => rfl) (Or.inr ⟨by omega, rfl⟩)
    | (exfalso; omega)
  · refine ⟨?_, ?_⟩
    · first | omega | exact ⟨hL, ⟨s, hs⟩, by omega⟩
    refine ⟨fun c2 => ?_, fun c2 => ?_⟩
    · first
      | exact k _ _ hf1 (Or.inl ⟨by omega, by omega, (hp1 s hs).1⟩)
      | exact k _ M (fun _ _ => rfl) (Or.inr ⟨by omega, rfl⟩)
      | (exfalso; omega)
    · refine ⟨?_, ?_⟩
      · first | omega | exact ⟨hL, ⟨s, hs⟩, by omega⟩
      intro r1 N1 hN1 hf1 hp1
      first
      | exact k _ _ hf1 (Or.inl ⟨by omega, by omega, (hp1 s hs).1⟩)
      | exact k _ M (fun _ _ => rfl) (Or.inr ⟨by omega, rfl⟩)
      | (exfalso; omega)
theorem sg24 {M N : M3} (hI : Inv M) (hf : ∀ q : Nat, q ∉ ([24] : List Nat) → N q = M q) : Inv N := hI.s (Es.fr hf (by decide)) (hI.2.1.fr hf (by decide)) (hI.2.2.fr hf (by decide))
theorem sg67 {M N : M3} (hI : Inv M) (hf : ∀ q : Nat, q ∉ ([67] : List Nat) → N q = M q) : Inv N := hI.s (Es.fr hf (by decide)) (hI.2.1.fr hf (by decide)) (hI.2.2.fr hf (by decide))
theorem p_sees {E : E3} {M : M3} {x1 x2 : Int} (hI : Inv M) (hx1 : -2147483648 ≤ x1 ∧ x1 ≤ 2147483647) (hx2 : -2147483648 ≤ x2 ∧ x2 ≤ 2147483647) : C3 E YX11_sees [vR 0 0, vI x1, vI x2] M (P2 E YX12_sees [vR 44 0, vI x1, vI x2]) := by
  refine c3_rm fun hM => ?_
  have hlin := hI.1.1.2.2.2.2.2.1
  obtain ⟨s0, hs0, _⟩ := hlin.2.2.2.2.2
  refine sX11_sees ?_
  refine ⟨?_, ?_⟩
  · first | omega | exact ⟨hlin, by omega⟩
  refine ⟨fun c1 => ?_, fun c1 => ?_⟩
  · first
    | (obtain ⟨s, hs, h1, hr, _⟩ := hp1
       have hm : Hm M N1 := Hm.of hf1 (by decide)
       have hN := sg24 hI hf1
       refine p2I (m_sees hN.1.1.okL (SgP_q hm hs) hx1 hx2 fun r N fr h => r2I (svI ?_) (sg67 hN fr))
       rw [mSv_q hm, hm 44 (by decide)] at h
       rcases h with ⟨_, _, h⟩ | ⟨h, _⟩
       · rw [h, hr]
       · exact absurd ⟨by omega, by omega⟩ h)
    | (refine p2I (m_sees hI.1.1.okL hs0 hx1 hx2 fun r N fr h => r2I (svI ?_) (sg67 hI fr))
       rcases h with ⟨_, _, h⟩ | ⟨h, h2⟩
       · exfalso
         omega
       · exact h2)
  · refine ⟨?_, ?_⟩
    · first | omega | exact ⟨hlin, by omega⟩
    refine ⟨fun c2 => ?_, fun c2 => ?_⟩
    · refine ⟨?_, ?_⟩
      · first | omega | exact ⟨hlin, by omega⟩
      intro r1 N1 hN1 hf1 hp1
      first
      | (obtain ⟨s, hs, h1, hr, _⟩ := hp1
         have hm : Hm M N1 := Hm.of hf1 (by decide)
         have hN := sg24 hI hf1
         refine p2I (m_sees hN.1.1.okL (SgP_q hm hs) hx1 hx2 fun r N fr h => r2I (svI ?_) (sg67 hN fr))
         rw [mSv_q hm, hm 44 (by decide)] at h
         rcases h with ⟨_, _, h⟩ | ⟨h, _⟩
         · rw [h, hr]
         · exact absurd ⟨by omega, by omega⟩ h)
      | (refine p2I (m_sees hI.1.1.okL hs0 hx1 hx2 fun r N fr h => r2I (svI ?_) (sg67 hI fr))
         rcases h with ⟨_, _, h⟩ | ⟨h, h2⟩
         · exfalso
           omega
         · exact h2)
    · first
      | (obtain ⟨s, hs, h1, hr, _⟩ := hp1
         have hm : Hm M N1 := Hm.of hf1 (by decide)
         have hN := sg24 hI hf1
         refine p2I (m_sees hN.1.1.okL (SgP_q hm hs) hx1 hx2 fun r N fr h => r2I (svI ?_) (sg67 hN fr))
         rw [mSv_q hm, hm 44 (by decide)] at h
         rcases h with ⟨_, _, h⟩ | ⟨h, _⟩
         · rw [h, hr]
         · exact absurd ⟨by omega, by omega⟩ h)
      | (refine p2I (m_sees hI.1.1.okL hs0 hx1 hx2 fun r N fr h => r2I (svI ?_) (sg67 hI fr))
         rcases h with ⟨_, _, h⟩ | ⟨h, h2⟩
         · exfalso
           omega
         · exact h2)
theorem m_begun {E : E3} {Q : Q3} {M : M3} {x1 x2 x3 : Int} (hL : okL M) {s : Int → Int} (hs : SgP M s) (hx1 : -2147483648 ≤ x1 ∧ x1 ≤ 2147483647) (hx2 : -2147483648 ≤ x2 ∧ x2 ≤ 2147483647) (hx3 : -2147483648 ≤ x3 ∧ x3 ≤ 2147483647) (k : ∀ (N : M3), (∀ q : Nat, q ∉ ([67] : List Nat) → N q = M q) → ((0 ≤ x1 ∧ x1 ≤ 3) ∧ (0 ≤ x2 ∧ x2 ≤ 399) ∧ mPlc M x3 ≠ -1) → (∃ r : Int, (r = if opn3 (M 44 0 29) x2 then mSv M x1 s else 0) ∧ ∀ i : Int, 0 ≤ i → i < M 44 0 32 → N 67 0 (s i) = if i < r then max (fr3 (M 44 0 30) (mCm M s) (mMn M x1 s) i) (M 66 0 (s i)) else -1) → Q (some (vI (N 67 0 (mPlc M x3)))) N) (k2 : ¬ ((0 ≤ x1 ∧ x1 ≤ 3) ∧ (0 ≤ x2 ∧ x2 ≤ 399) ∧ mPlc M x3 ≠ -1) → Q (some (vI (-2))) M) : C3 E YX12_begun [vR 44 0, vI x1, vI x2, vI x3] M Q := by
  refine c3_rm fun hM => ?_
  have hn := hL.1
  have hp : -1 ≤ mPlc M x3 ∧ mPlc M x3 < M 44 0 32 := by
    rcases ff3_c hn.1 (fun k => decide (M 65 0 k = x3)) with ⟨e, _⟩ | ⟨a, _⟩
    · have e' : mPlc M x3 = -1 := e
      omega
    · have a' : 0 ≤ mPlc M x3 ∧ mPlc M x3 < M 44 0 32 := a
      omega
  refine sX12_begun ?_
  refine ⟨?_, ?_⟩
  · first | omega | exact ⟨hL, ⟨s, hs⟩, by omega⟩ | (rw [hf1 44 (by decide)]; omega) | (rw [mPlc_q (hf1 44 (by decide)) (hf1 65 (by decide))]; omega)
  refine ⟨fun c1 => ?_, fun c1 => ?_⟩
  · first
    | (rw [mPlc_q (hf1 44 (by decide)) (hf1 65 (by decide))]
       exact k _ hf1 ⟨by omega, by omega, by omega⟩ ⟨_, hp1 s hs⟩)
    | exact k2 (by omega)
    | (exfalso; omega)
  · refine ⟨?_, ?_⟩
    · first | omega | exact ⟨hL, ⟨s, hs⟩, by omega⟩ | (rw [hf1 44 (by decide)]; omega) | (rw [mPlc_q (hf1 44 (by decide)) (hf1 65 (by decide))]; omega)
    refine ⟨fun c2 => ?_, fun c2 => ?_⟩
    · first
      | (rw [mPlc_q (hf1 44 (by decide)) (hf1 65 (by decide))]
         exact k _ hf1 ⟨by omega, by omega, by omega⟩ ⟨_, hp1 s hs⟩)
      | exact k2 (by omega)
      | (exfalso; omega)
    · refine ⟨?_, ?_, ?_⟩
      · first | omega | exact ⟨hL, ⟨s, hs⟩, by omega⟩ | (rw [hf1 44 (by decide)]; omega) | (rw [mPlc_q (hf1 44 (by decide)) (hf1 65 (by decide))]; omega)
      · first | omega | exact ⟨hL, ⟨s, hs⟩, by omega⟩ | (rw [hf1 44 (by decide)]; omega) | (rw [mPlc_q (hf1 44 (by decide)) (hf1 65 (by decide))]; omega)
      refine ⟨fun c3 => ?_, fun c3 => ?_⟩
      · refine ⟨?_, ?_⟩
        · first | omega | exact ⟨hL, ⟨s, hs⟩, by omega⟩ | (rw [hf1 44 (by decide)]; omega) | (rw [mPlc_q (hf1 44 (by decide)) (hf1 65 (by decide))]; omega)
        intro r1 N1 hN1 hf1 hp1
        refine ⟨?_, ?_, ?_⟩
        · first | omega | exact ⟨hL, ⟨s, hs⟩, by omega⟩ | (rw [hf1 44 (by decide)]; omega) | (rw [mPlc_q (hf1 44 (by decide)) (hf1 65 (by decide))]; omega)
        · first | omega | exact ⟨hL, ⟨s, hs⟩, by omega⟩ | (rw [hf1 44 (by decide)]; omega) | (rw [mPlc_q (hf1 44 (by decide)) (hf1 65 (by decide))]; omega)
        first
        | (rw [mPlc_q (hf1 44 (by decide)) (hf1 65 (by decide))]
           exact k _ hf1 ⟨by omega, by omega, by omega⟩ ⟨_, hp1 s hs⟩)
        | exact k2 (by omega)
        | (exfalso; omega)
      · first
        | (rw [mPlc_q (hf1 44 (by decide)) (hf1 65 (by decide))]
           exact k _ hf1 ⟨by omega, by omega, by omega⟩ ⟨_, hp1 s hs⟩)
        | exact k2 (by omega)
        | (exfalso; omega)
theorem p_begun {E : E3} {M : M3} {x1 x2 x3 : Int} (hI : Inv M) (hx1 : -2147483648 ≤ x1 ∧ x1 ≤ 2147483647) (hx2 : -2147483648 ≤ x2 ∧ x2 ≤ 2147483647) (hx3 : -2147483648 ≤ x3 ∧ x3 ≤ 2147483647) : C3 E YX11_begun [vR 0 0, vI x1, vI x2, vI x3] M (P2 E YX12_begun [vR 44 0, vI x1, vI x2, vI x3]) := by
  refine c3_rm fun hM => ?_
  have hlin := hI.1.1.2.2.2.2.2.1
  have hn1 := hlin.1.1
  have hn := hlin.2.2.1.1
  obtain ⟨s0, hs0, hc0⟩ := hlin.2.2.2.2.2
  have hp0 := plc_is hlin hs0 (fun i a b => (hc0 i a b).1) x3
  have hpr : -1 ≤ cPlc M x3 ∧ cPlc M x3 < 24 := by omega
  refine sX11_begun ?_
  refine ⟨?_, ?_⟩
  · first | omega | exact ⟨hlin, by omega⟩ | (obtain ⟨s, hs, h1, hr, _⟩ := hp1; have := mSv_rg hn x1 s; rw [hr]; split <;> omega)
  refine ⟨fun c1 => ?_, fun c1 => ?_⟩
  · first
    | (refine p2I (m_begun hI.1.1.okL hs0 hx1 hx2 hx3 (fun N _ hv _ => ?_) (fun _ => r2I rfl hI))
       exfalso
       obtain ⟨v1, v2, v3⟩ := hv
       omega)
    | (obtain ⟨s, hs, h1, hr, hb⟩ := hp1
       have hm : Hm M N1 := Hm.of hf1 (by decide)
       have hN := sg24 hI hf1
       have hp := plc_is hlin hs h1 x3
       refine p2I (m_begun hN.1.1.okL (SgP_q hm hs) hx1 hx2 hx3 (fun N fr hv hq => r2I (svI ?_) (sg67 hN fr)) (fun hv => ?_))
       · obtain ⟨r, er, hq⟩ := hq
         have es : mSv N1 x1 s = mSv M x1 s := mSv_q hm x1 s
         rw [es, hm 44 (by decide), ← hr] at er
         rw [mPlc_q (hm 44 (by decide)) (hm 65 (by decide))]
         rcases hp with hp | ⟨a, b, c⟩
         · omega
         · have z := hq (cPlc M x3) a.1 (by rw [hm 44 (by decide)]; exact a.2)
           rw [er] at z
           rw [← c, z]
           first
           | (rw [if_neg (by omega)]; done)
           | (rw [if_pos (by omega), hb _ a.1 (by omega)]
              unfold mMn mCm
              rw [hm 44 (by decide), hm 66 (by decide), hm 64 (by decide), hm 46 (by decide), hm 65 (by decide)])
       · exfalso
         refine hv ⟨by omega, by omega, ?_⟩
         rw [mPlc_q (hm 44 (by decide)) (hm 65 (by decide))]
         omega)
    | (exfalso; omega)
  · refine ⟨?_, ?_⟩
    · first | omega | exact ⟨hlin, by omega⟩ | (obtain ⟨s, hs, h1, hr, _⟩ := hp1; have := mSv_rg hn x1 s; rw [hr]; split <;> omega)
    refine ⟨fun c2 => ?_, fun c2 => ?_⟩
    · first
      | (refine p2I (m_begun hI.1.1.okL hs0 hx1 hx2 hx3 (fun N _ hv _ => ?_) (fun _ => r2I rfl hI))
         exfalso
         obtain ⟨v1, v2, v3⟩ := hv
         omega)
      | (obtain ⟨s, hs, h1, hr, hb⟩ := hp1
         have hm : Hm M N1 := Hm.of hf1 (by decide)
         have hN := sg24 hI hf1
         have hp := plc_is hlin hs h1 x3
         refine p2I (m_begun hN.1.1.okL (SgP_q hm hs) hx1 hx2 hx3 (fun N fr hv hq => r2I (svI ?_) (sg67 hN fr)) (fun hv => ?_))
         · obtain ⟨r, er, hq⟩ := hq
           have es : mSv N1 x1 s = mSv M x1 s := mSv_q hm x1 s
           rw [es, hm 44 (by decide), ← hr] at er
           rw [mPlc_q (hm 44 (by decide)) (hm 65 (by decide))]
           rcases hp with hp | ⟨a, b, c⟩
           · omega
           · have z := hq (cPlc M x3) a.1 (by rw [hm 44 (by decide)]; exact a.2)
             rw [er] at z
             rw [← c, z]
             first
             | (rw [if_neg (by omega)]; done)
             | (rw [if_pos (by omega), hb _ a.1 (by omega)]
                unfold mMn mCm
                rw [hm 44 (by decide), hm 66 (by decide), hm 64 (by decide), hm 46 (by decide), hm 65 (by decide)])
         · exfalso
           refine hv ⟨by omega, by omega, ?_⟩
           rw [mPlc_q (hm 44 (by decide)) (hm 65 (by decide))]
           omega)
      | (exfalso; omega)
    · refine ⟨?_, ?_, ?_⟩
      · first | omega | exact ⟨hlin, by omega⟩ | (obtain ⟨s, hs, h1, hr, _⟩ := hp1; have := mSv_rg hn x1 s; rw [hr]; split <;> omega)
      · first | omega | exact ⟨hlin, by omega⟩ | (obtain ⟨s, hs, h1, hr, _⟩ := hp1; have := mSv_rg hn x1 s; rw [hr]; split <;> omega)
      refine ⟨fun c3 => ?_, fun c3 => ?_⟩
      · refine ⟨?_, ?_⟩
        · first | omega | exact ⟨hlin, by omega⟩ | (obtain ⟨s, hs, h1, hr, _⟩ := hp1; have := mSv_rg hn x1 s; rw [hr]; split <;> omega)
        intro r1 N1 hN1 hf1 hp1
        refine ⟨fun c4 => ?_, fun c4 => ?_⟩
        · first
          | (refine p2I (m_begun hI.1.1.okL hs0 hx1 hx2 hx3 (fun N _ hv _ => ?_) (fun _ => r2I rfl hI))
             exfalso
             obtain ⟨v1, v2, v3⟩ := hv
             omega)
          | (obtain ⟨s, hs, h1, hr, hb⟩ := hp1
             have hm : Hm M N1 := Hm.of hf1 (by decide)
             have hN := sg24 hI hf1
             have hp := plc_is hlin hs h1 x3
             refine p2I (m_begun hN.1.1.okL (SgP_q hm hs) hx1 hx2 hx3 (fun N fr hv hq => r2I (svI ?_) (sg67 hN fr)) (fun hv => ?_))
             · obtain ⟨r, er, hq⟩ := hq
               have es : mSv N1 x1 s = mSv M x1 s := mSv_q hm x1 s
               rw [es, hm 44 (by decide), ← hr] at er
               rw [mPlc_q (hm 44 (by decide)) (hm 65 (by decide))]
               rcases hp with hp | ⟨a, b, c⟩
               · omega
               · have z := hq (cPlc M x3) a.1 (by rw [hm 44 (by decide)]; exact a.2)
                 rw [er] at z
                 rw [← c, z]
                 first
                 | (rw [if_neg (by omega)]; done)
                 | (rw [if_pos (by omega), hb _ a.1 (by omega)]
                    unfold mMn mCm
                    rw [hm 44 (by decide), hm 66 (by decide), hm 64 (by decide), hm 46 (by decide), hm 65 (by decide)])
             · exfalso
               refine hv ⟨by omega, by omega, ?_⟩
               rw [mPlc_q (hm 44 (by decide)) (hm 65 (by decide))]
               omega)
          | (exfalso; omega)
        · refine ⟨?_, ?_⟩
          · first | omega | exact ⟨hlin, by omega⟩ | (obtain ⟨s, hs, h1, hr, _⟩ := hp1; have := mSv_rg hn x1 s; rw [hr]; split <;> omega)
          refine ⟨fun c5 => ?_, fun c5 => ?_⟩
          · first
            | (refine p2I (m_begun hI.1.1.okL hs0 hx1 hx2 hx3 (fun N _ hv _ => ?_) (fun _ => r2I rfl hI))
               exfalso
               obtain ⟨v1, v2, v3⟩ := hv
               omega)
            | (obtain ⟨s, hs, h1, hr, hb⟩ := hp1
               have hm : Hm M N1 := Hm.of hf1 (by decide)
               have hN := sg24 hI hf1
               have hp := plc_is hlin hs h1 x3
               refine p2I (m_begun hN.1.1.okL (SgP_q hm hs) hx1 hx2 hx3 (fun N fr hv hq => r2I (svI ?_) (sg67 hN fr)) (fun hv => ?_))
               · obtain ⟨r, er, hq⟩ := hq
                 have es : mSv N1 x1 s = mSv M x1 s := mSv_q hm x1 s
                 rw [es, hm 44 (by decide), ← hr] at er
                 rw [mPlc_q (hm 44 (by decide)) (hm 65 (by decide))]
                 rcases hp with hp | ⟨a, b, c⟩
                 · omega
                 · have z := hq (cPlc M x3) a.1 (by rw [hm 44 (by decide)]; exact a.2)
                   rw [er] at z
                   rw [← c, z]
                   first
                   | (rw [if_neg (by omega)]; done)
                   | (rw [if_pos (by omega), hb _ a.1 (by omega)]
                      unfold mMn mCm
                      rw [hm 44 (by decide), hm 66 (by decide), hm 64 (by decide), hm 46 (by decide), hm 65 (by decide)])
               · exfalso
                 refine hv ⟨by omega, by omega, ?_⟩
                 rw [mPlc_q (hm 44 (by decide)) (hm 65 (by decide))]
                 omega)
            | (exfalso; omega)
          · refine ⟨?_, ?_⟩
            · first | omega | exact ⟨hlin, by omega⟩ | (obtain ⟨s, hs, h1, hr, _⟩ := hp1; have := mSv_rg hn x1 s; rw [hr]; split <;> omega)
            first
            | (refine p2I (m_begun hI.1.1.okL hs0 hx1 hx2 hx3 (fun N _ hv _ => ?_) (fun _ => r2I rfl hI))
               exfalso
               obtain ⟨v1, v2, v3⟩ := hv
               omega)
            | (obtain ⟨s, hs, h1, hr, hb⟩ := hp1
               have hm : Hm M N1 := Hm.of hf1 (by decide)
               have hN := sg24 hI hf1
               have hp := plc_is hlin hs h1 x3
               refine p2I (m_begun hN.1.1.okL (SgP_q hm hs) hx1 hx2 hx3 (fun N fr hv hq => r2I (svI ?_) (sg67 hN fr)) (fun hv => ?_))
               · obtain ⟨r, er, hq⟩ := hq
                 have es : mSv N1 x1 s = mSv M x1 s := mSv_q hm x1 s
                 rw [es, hm 44 (by decide), ← hr] at er
                 rw [mPlc_q (hm 44 (by decide)) (hm 65 (by decide))]
                 rcases hp with hp | ⟨a, b, c⟩
                 · omega
                 · have z := hq (cPlc M x3) a.1 (by rw [hm 44 (by decide)]; exact a.2)
                   rw [er] at z
                   rw [← c, z]
                   first
                   | (rw [if_neg (by omega)]; done)
                   | (rw [if_pos (by omega), hb _ a.1 (by omega)]
                      unfold mMn mCm
                      rw [hm 44 (by decide), hm 66 (by decide), hm 64 (by decide), hm 46 (by decide), hm 65 (by decide)])
               · exfalso
                 refine hv ⟨by omega, by omega, ?_⟩
                 rw [mPlc_q (hm 44 (by decide)) (hm 65 (by decide))]
                 omega)
            | (exfalso; omega)
      · first
        | (refine p2I (m_begun hI.1.1.okL hs0 hx1 hx2 hx3 (fun N _ hv _ => ?_) (fun _ => r2I rfl hI))
           exfalso
           obtain ⟨v1, v2, v3⟩ := hv
           omega)
        | (obtain ⟨s, hs, h1, hr, hb⟩ := hp1
           have hm : Hm M N1 := Hm.of hf1 (by decide)
           have hN := sg24 hI hf1
           have hp := plc_is hlin hs h1 x3
           refine p2I (m_begun hN.1.1.okL (SgP_q hm hs) hx1 hx2 hx3 (fun N fr hv hq => r2I (svI ?_) (sg67 hN fr)) (fun hv => ?_))
           · obtain ⟨r, er, hq⟩ := hq
             have es : mSv N1 x1 s = mSv M x1 s := mSv_q hm x1 s
             rw [es, hm 44 (by decide), ← hr] at er
             rw [mPlc_q (hm 44 (by decide)) (hm 65 (by decide))]
             rcases hp with hp | ⟨a, b, c⟩
             · omega
             · have z := hq (cPlc M x3) a.1 (by rw [hm 44 (by decide)]; exact a.2)
               rw [er] at z
               rw [← c, z]
               first
               | (rw [if_neg (by omega)]; done)
               | (rw [if_pos (by omega), hb _ a.1 (by omega)]
                  unfold mMn mCm
                  rw [hm 44 (by decide), hm 66 (by decide), hm 64 (by decide), hm 46 (by decide), hm 65 (by decide)])
           · exfalso
             refine hv ⟨by omega, by omega, ?_⟩
             rw [mPlc_q (hm 44 (by decide)) (hm 65 (by decide))]
             omega)
        | (exfalso; omega)
