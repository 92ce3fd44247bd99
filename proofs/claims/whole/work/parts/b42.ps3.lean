/-! PAIRS: sheet, copy -/
theorem lX12_sheet {E : E3} {Q : Q3} {M0 : M3} {x1 x2 x3 : Int} (hz : 0 ≤ x1 ∧ x1 ≤ 3) (k : ∀ (K : M3), (∀ q : Nat, q ∉ ([83] : List Nat) → K q = M0 q) → (∀ i : Int, 0 ≤ i → i < 40 → K 83 0 (40 * x1 + i) = 0) → (∀ j : Int, ¬ (40 * x1 ≤ j ∧ j < 40 * x1 + 40) → K 83 0 j = M0 83 0 j) → Q (some (vI x3)) K) : ∀ (n : Nat) (x4 : Int) (M : M3), 0 ≤ x4 → x4 + n = 40 → (∀ q : Nat, q ∉ ([83] : List Nat) → M q = M0 q) → (∀ i : Int, 0 ≤ i → i < x4 → M 83 0 (40 * x1 + i) = 0) → (∀ j : Int, ¬ (40 * x1 ≤ j ∧ j < 40 * x1 + 40) → M 83 0 j = M0 83 0 j) → G3 E YX12_sheet Q 59 [(0, vR 44 0), (1, vI x1), (3, vI x3), (4, vI x4)] [] M := by
  intro n
  induction n with
  | zero =>
    intro x4 M h1 h2 h3 h4 h5
    refine g3_rm fun hM => ?_
    refine sX12_sheet_59 ?_
    refine ⟨?_, ?_⟩
    · first | omega | (exfalso; omega)
    refine ⟨fun c1 => ?_, fun c1 => ?_⟩
    · first
        | (exfalso; omega)
        | exact k M h3 (fun i a b => h4 i a (by omega)) h5
    · refine ⟨?_, ?_⟩
      · first | omega | (exfalso; omega)
      exfalso; omega
  | succ n ih =>
    intro x4 M h1 h2 h3 h4 h5
    refine g3_rm fun hM => ?_
    refine sX12_sheet_59 ?_
    refine ⟨?_, ?_⟩
    · first | omega | (exfalso; omega)
    refine ⟨fun c1 => ?_, fun c1 => ?_⟩
    · exfalso; omega
    · refine ⟨?_, ?_⟩
      · first | omega | (exfalso; omega)
      first
        | (exfalso; omega)
        | (refine ih _ _ (by omega) (by omega) (fr_up h3 (by decide)) (fun i a b => ?_) (fun j hj => ?_)
           · by_cases e : i = x4
             · rw [e, up3_eq]
             · rw [up3_nj (by omega)]
               exact h4 i a (by omega)
           · rw [up3_nj (by omega)]
             exact h5 j hj)
theorem m_sheet {E : E3} {Q : Q3} {M : M3} {x1 x2 x3 : Int} (hx1 : -2147483648 ≤ x1 ∧ x1 ≤ 2147483647) (hx2 : -2147483648 ≤ x2 ∧ x2 ≤ 2147483647) (hx3 : -2147483648 ≤ x3 ∧ x3 ≤ 2147483647) (k1 : ¬ ((0 ≤ x1 ∧ x1 ≤ 3) ∧ (0 ≤ x2 ∧ x2 ≤ 2) ∧ x3 ≤ 40) → Q (some (vI (-2))) M) (k2 : ((0 ≤ x1 ∧ x1 ≤ 3) ∧ (0 ≤ x2 ∧ x2 ≤ 2) ∧ x3 ≤ 40) → x3 < 0 → Q (some (vI (-15))) (up3 M 44 0 58 5)) (k : ((0 ≤ x1 ∧ x1 ≤ 3) ∧ (0 ≤ x2 ∧ x2 ≤ 2) ∧ x3 ≤ 40) → 0 ≤ x3 → (∀ (K : M3), (∀ q : Nat, q ∉ ([80, 81, 82, 83] : List Nat) → K q = M q) → (∀ j : Int, j ≠ x1 → K 80 0 j = M 80 0 j ∧ K 81 0 j = M 81 0 j ∧ K 82 0 j = M 82 0 j) → (K 80 0 x1 = 1 ∧ K 81 0 x1 = x2 ∧ K 82 0 x1 = x3) → (∀ i : Int, 0 ≤ i → i < 40 → K 83 0 (40 * x1 + i) = 0) → (∀ j : Int, ¬ (40 * x1 ≤ j ∧ j < 40 * x1 + 40) → K 83 0 j = M 83 0 j) → Q (some (vI x3)) K)) : C3 E YX12_sheet [vR 44 0, vI x1, vI x2, vI x3] M Q := by
  refine c3_rm fun hM => ?_
  refine sX12_sheet ?_
  refine ⟨?_, ?_⟩
  · omega
  refine ⟨fun c1 => ?_, fun c1 => ?_⟩
  · first | exact k1 (by omega) | exact k2 (by omega) (by omega) | (exfalso; omega)
  · refine ⟨?_, ?_⟩
    · omega
    refine ⟨fun c2 => ?_, fun c2 => ?_⟩
    · first | exact k1 (by omega) | exact k2 (by omega) (by omega) | (exfalso; omega)
    · refine ⟨?_, ?_⟩
      · omega
      refine ⟨fun c3 => ?_, fun c3 => ?_⟩
      · refine ⟨fun c4 => ?_, fun c4 => ?_⟩
        · refine ⟨?_, ?_, ?_⟩
          · omega
          · omega
          first
          | (exfalso; omega)
          | (refine lX12_sheet (M0 := up3 (up3 (up3 M 80 0 x1 1) 81 0 x1 x2) 82 0 x1 x3) (x2 := x2) (by omega) (fun K f z e => k (by omega) (by omega) K (fun q hq => (f q (fun z => hq ((show ∀ y ∈ ([83] : List Nat), y ∈ ([80, 81, 82, 83] : List Nat) by decide) q z))).trans (fr_up (fr_up (fr_up fr_rf (by decide)) (by decide)) (by decide) q (fun z => hq ((show ∀ y ∈ ([80, 81, 82] : List Nat), y ∈ ([80, 81, 82, 83] : List Nat) by decide) q z)))) (fun j hj => ?_) ?_ z (fun j hj => ?_)) 40 0 _ (by omega) (by omega) (fun _ _ => rfl) (fun i a b => by exfalso; omega) (fun _ _ => rfl)
             · rw [f 80 (by decide), f 81 (by decide), f 82 (by decide)]
               exact ⟨by rw [up3_nr (by decide), up3_nr (by decide), up3_nj hj], by rw [up3_nr (by decide), up3_nj hj, up3_nr (by decide)], by rw [up3_nj hj, up3_nr (by decide), up3_nr (by decide)]⟩
             · rw [f 80 (by decide), f 81 (by decide), f 82 (by decide)]
               exact ⟨by rw [up3_nr (by decide), up3_nr (by decide), up3_eq], by rw [up3_nr (by decide), up3_eq], up3_eq⟩
             · rw [e j hj, up3_nr (by decide), up3_nr (by decide), up3_nr (by decide)])
        · first | exact k1 (by omega) | exact k2 (by omega) (by omega) | (exfalso; omega)
      · first | exact k1 (by omega) | exact k2 (by omega) (by omega) | (exfalso; omega)
theorem inv_sht {M K : M3} (hI : Inv M) (g : ∀ q : Nat, q ∉ ([42, 43, 80, 81, 82, 83] : List Nat) → K q = M q) (hS : iSht K) : Inv K := ⟨⟨⟨(iBas_of (by first | exact g _ (by decide) | rw [g _ (by decide)]) (by first | exact g _ (by decide) | rw [g _ (by decide)]) (by first | exact g _ (by decide) | rw [g _ (by decide)]) (by first | exact g _ (by decide) | rw [g _ (by decide)]) (by first | exact g _ (by decide) | rw [g _ (by decide)]) (by first | exact g _ (by decide) | rw [g _ (by decide)]) hI.1.1.1), (iLaw_of (by first | exact g _ (by decide) | rw [g _ (by decide)]) (by first | exact g _ (by decide) | rw [g _ (by decide)]) (by first | exact g _ (by decide) | rw [g _ (by decide)]) (by first | exact g _ (by decide) | rw [g _ (by decide)]) hI.1.1.2.1), (iCty_of (by first | exact g _ (by decide) | rw [g _ (by decide)]) (by first | exact g _ (by decide) | rw [g _ (by decide)]) (by first | exact g _ (by decide) | rw [g _ (by decide)]) (by first | exact g _ (by decide) | rw [g _ (by decide)]) (by first | exact g _ (by decide) | rw [g _ (by decide)]) (by first | exact g _ (by decide) | rw [g _ (by decide)]) (by first | exact g _ (by decide) | rw [g _ (by decide)]) (by first | exact g _ (by decide) | rw [g _ (by decide)]) (by first | exact g _ (by decide) | rw [g _ (by decide)]) (by first | exact g _ (by decide) | rw [g _ (by decide)]) hI.1.1.2.2.1), (iFrm_of (by first | exact g _ (by decide) | rw [g _ (by decide)]) (by first | exact g _ (by decide) | rw [g _ (by decide)]) (by first | exact g _ (by decide) | rw [g _ (by decide)]) (by first | exact g _ (by decide) | rw [g _ (by decide)]) (fun f j hj => by first | exact g _ (by decide) | rw [g _ (by decide)]) (by first | exact g _ (by decide) | rw [g _ (by decide)]) (by first | exact g _ (by decide) | rw [g _ (by decide)]) (by first | exact g _ (by decide) | rw [g _ (by decide)]) (by first | exact g _ (by decide) | rw [g _ (by decide)]) (by first | exact g _ (by decide) | rw [g _ (by decide)]) (by first | exact g _ (by decide) | rw [g _ (by decide)]) (by first | exact g _ (by decide) | rw [g _ (by decide)]) (by first | exact g _ (by decide) | rw [g _ (by decide)]) (by first | exact g _ (by decide) | rw [g _ (by decide)]) (by first | exact g _ (by decide) | rw [g _ (by decide)]) hI.1.1.2.2.2.1), (iOrd_of (by first | exact g _ (by decide) | rw [g _ (by decide)]) (by first | exact g _ (by decide) | rw [g _ (by decide)]) hI.1.1.2.2.2.2.1), (iLin_of (by first | exact g _ (by decide) | rw [g _ (by decide)]) (by first | exact g _ (by decide) | rw [g _ (by decide)]) (by first | exact g _ (by decide) | rw [g _ (by decide)]) (by first | exact g _ (by decide) | rw [g _ (by decide)]) (by first | exact g _ (by decide) | rw [g _ (by decide)]) (by first | exact g _ (by decide) | rw [g _ (by decide)]) (by first | exact g _ (by decide) | rw [g _ (by decide)]) (by first | exact g _ (by decide) | rw [g _ (by decide)]) (by first | exact g _ (by decide) | rw [g _ (by decide)]) (by first | exact g _ (by decide) | rw [g _ (by decide)]) (by first | exact g _ (by decide) | rw [g _ (by decide)]) (by first | exact g _ (by decide) | rw [g _ (by decide)]) (by first | exact g _ (by decide) | rw [g _ (by decide)]) (by first | exact g _ (by decide) | rw [g _ (by decide)]) (by first | exact g _ (by decide) | rw [g _ (by decide)]) (by first | exact g _ (by decide) | rw [g _ (by decide)]) (by first | exact g _ (by decide) | rw [g _ (by decide)]) hI.1.1.2.2.2.2.2.1), (iLst_of (by first | exact g _ (by decide) | rw [g _ (by decide)]) (by first | exact g _ (by decide) | rw [g _ (by decide)]) (by first | exact g _ (by decide) | rw [g _ (by decide)]) (by first | exact g _ (by decide) | rw [g _ (by decide)]) (by first | exact g _ (by decide) | rw [g _ (by decide)]) (by first | exact g _ (by decide) | rw [g _ (by decide)]) (by first | exact g _ (by decide) | rw [g _ (by decide)]) hI.1.1.2.2.2.2.2.2.1), (iSum_of (by first | exact g _ (by decide) | rw [g _ (by decide)]) (by first | exact g _ (by decide) | rw [g _ (by decide)]) (by first | exact g _ (by decide) | rw [g _ (by decide)]) (by first | exact g _ (by decide) | rw [g _ (by decide)]) (by first | exact g _ (by decide) | rw [g _ (by decide)]) (by first | exact g _ (by decide) | rw [g _ (by decide)]) (by first | exact g _ (by decide) | rw [g _ (by decide)]) (by first | exact g _ (by decide) | rw [g _ (by decide)]) (by first | exact g _ (by decide) | rw [g _ (by decide)]) hI.1.1.2.2.2.2.2.2.2.1), hS⟩, (iW_of (by first | exact g _ (by decide) | rw [g _ (by decide)]) (by first | exact g _ (by decide) | rw [g _ (by decide)]) (by first | exact g _ (by decide) | rw [g _ (by decide)]) (by first | exact g _ (by decide) | rw [g _ (by decide)]) (by first | exact g _ (by decide) | rw [g _ (by decide)]) (by first | exact g _ (by decide) | rw [g _ (by decide)]) (by first | exact g _ (by decide) | rw [g _ (by decide)]) (by first | exact g _ (by decide) | rw [g _ (by decide)]) (by first | exact g _ (by decide) | rw [g _ (by decide)]) hI.1.2)⟩, (LwC_of (by first | exact g _ (by decide) | rw [g _ (by decide)]) (by first | exact g _ (by decide) | rw [g _ (by decide)]) (by first | exact g _ (by decide) | rw [g _ (by decide)]) (by first | exact g _ (by decide) | rw [g _ (by decide)]) (by first | exact g _ (by decide) | rw [g _ (by decide)]) (by first | exact g _ (by decide) | rw [g _ (by decide)]) (by first | exact g _ (by decide) | rw [g _ (by decide)]) (by first | exact g _ (by decide) | rw [g _ (by decide)]) (by first | exact g _ (by decide) | rw [g _ (by decide)]) (by first | exact g _ (by decide) | rw [g _ (by decide)]) hI.2.1), (RdC_of (by first | exact g _ (by decide) | rw [g _ (by decide)]) (by first | exact g _ (by decide) | rw [g _ (by decide)]) (by first | exact g _ (by decide) | rw [g _ (by decide)]) (by first | exact g _ (by decide) | rw [g _ (by decide)]) (by first | exact g _ (by decide) | rw [g _ (by decide)]) (by first | exact g _ (by decide) | rw [g _ (by decide)]) (by first | exact g _ (by decide) | rw [g _ (by decide)]) (by first | exact g _ (by decide) | rw [g _ (by decide)]) hI.2.2)⟩
theorem p_sheet {E : E3} {M : M3} {x1 x2 x3 : Int} (hI : Inv M) (hx1 : -2147483648 ≤ x1 ∧ x1 ≤ 2147483647) (hx2 : -2147483648 ≤ x2 ∧ x2 ≤ 2147483647) (hx3 : -2147483648 ≤ x3 ∧ x3 ≤ 2147483647) : C3 E YX11_sheet [vR 0 0, vI x1, vI x2, vI x3] M (P2 E YX12_sheet [vR 44 0, vI x1, vI x2, vI x3]) := by
  refine c3_rm fun hM => ?_
  refine sX11_sheet ?_
  refine ⟨?_, ?_⟩
  · omega
  refine ⟨fun c1 => ?_, fun c1 => ?_⟩
  · first
    | exact p2I (m_sheet hx1 hx2 hx3 (fun _ => r2I rfl hI) (fun _ _ => by exfalso; omega) (fun _ _ _ _ _ _ _ _ => by exfalso; omega))
    | exact p2I (m_sheet hx1 hx2 hx3 (fun _ => by exfalso; omega) (fun _ _ => r2I rfl (iErr hI 5)) (fun _ _ _ _ _ _ _ _ => by exfalso; omega))
    | (refine p2I (m_sheet hx1 hx2 hx3 (fun _ => by exfalso; omega) (fun _ _ => by exfalso; omega) (fun v _ K f1 f2 f3 f4 f5 => r2I rfl ?_))
       obtain ⟨r1, r2, r3⟩ := hp1
       obtain ⟨f31, f32, f33⟩ := f3
       refine inv_sht hI (fun q hq => (f1 q (fun z => hq ((show ∀ y ∈ ([80, 81, 82, 83] : List Nat), y ∈ ([42, 43, 80, 81, 82, 83] : List Nat) by decide) q z))).trans (hf1 q (fun z => hq ((show ∀ y ∈ ([42, 43] : List Nat), y ∈ ([42, 43, 80, 81, 82, 83] : List Nat) by decide) q z)))) (fun s a b => ?_)
       unfold iS
       rw [f1 42 (by decide), f1 43 (by decide)]
       by_cases z : s = x1
       · rw [z, f31, f32, f33, r1, r1, if_pos ⟨rfl, rfl⟩, if_neg (by omega), if_pos ⟨rfl, rfl⟩]
         exact Or.inr ⟨rfl, rfl, rfl, by omega, by omega, fun i c d => by rw [r2 i c (by omega), f4 i c (by omega)]⟩
       · obtain ⟨e1, e2, e3⟩ := f2 s z
         have w := hI.1.1.2.2.2.2.2.2.2.2 s a b
         unfold iS at w
         rw [e1, e2, e3, r1, r1, if_neg (by omega), if_neg (by omega), if_neg (by omega), if_neg (by omega), hf1 80 (by decide), hf1 81 (by decide), hf1 82 (by decide)]
         rcases w with w | ⟨w1, w2, w3, w4, w5, w6⟩
         · exact Or.inl w
         · exact Or.inr ⟨w1, w2, w3, w4, w5, fun i c d => by rw [r3 s i z, f5 _ (by omega), hf1 83 (by decide)]; exact w6 i c d⟩)
    | (exfalso; omega)
  · refine ⟨?_, ?_⟩
    · omega
    refine ⟨fun c2 => ?_, fun c2 => ?_⟩
    · first
      | exact p2I (m_sheet hx1 hx2 hx3 (fun _ => r2I rfl hI) (fun _ _ => by exfalso; omega) (fun _ _ _ _ _ _ _ _ => by exfalso; omega))
      | exact p2I (m_sheet hx1 hx2 hx3 (fun _ => by exfalso; omega) (fun _ _ => r2I rfl (iErr hI 5)) (fun _ _ _ _ _ _ _ _ => by exfalso; omega))
      | (refine p2I (m_sheet hx1 hx2 hx3 (fun _ => by exfalso; omega) (fun _ _ => by exfalso; omega) (fun v _ K f1 f2 f3 f4 f5 => r2I rfl ?_))
         obtain ⟨r1, r2, r3⟩ := hp1
         obtain ⟨f31, f32, f33⟩ := f3
         refine inv_sht hI (fun q hq => (f1 q (fun z => hq ((show ∀ y ∈ ([80, 81, 82, 83] : List Nat), y ∈ ([42, 43, 80, 81, 82, 83] : List Nat) by decide) q z))).trans (hf1 q (fun z => hq ((show ∀ y ∈ ([42, 43] : List Nat), y ∈ ([42, 43, 80, 81, 82, 83] : List Nat) by decide) q z)))) (fun s a b => ?_)
         unfold iS
         rw [f1 42 (by decide), f1 43 (by decide)]
         by_cases z : s = x1
         · rw [z, f31, f32, f33, r1, r1, if_pos ⟨rfl, rfl⟩, if_neg (by omega), if_pos ⟨rfl, rfl⟩]
           exact Or.inr ⟨rfl, rfl, rfl, by omega, by omega, fun i c d => by rw [r2 i c (by omega), f4 i c (by omega)]⟩
         · obtain ⟨e1, e2, e3⟩ := f2 s z
           have w := hI.1.1.2.2.2.2.2.2.2.2 s a b
           unfold iS at w
           rw [e1, e2, e3, r1, r1, if_neg (by omega), if_neg (by omega), if_neg (by omega), if_neg (by omega), hf1 80 (by decide), hf1 81 (by decide), hf1 82 (by decide)]
           rcases w with w | ⟨w1, w2, w3, w4, w5, w6⟩
           · exact Or.inl w
           · exact Or.inr ⟨w1, w2, w3, w4, w5, fun i c d => by rw [r3 s i z, f5 _ (by omega), hf1 83 (by decide)]; exact w6 i c d⟩)
      | (exfalso; omega)
    · refine ⟨?_, ?_⟩
      · omega
      refine ⟨fun c3 => ?_, fun c3 => ?_⟩
      · refine ⟨fun c4 => ?_, fun c4 => ?_⟩
        · refine ⟨?_, ?_, ?_⟩
          · omega
          · omega
          intro N1 hN1 hf1 hp1
          first
          | exact p2I (m_sheet hx1 hx2 hx3 (fun _ => r2I rfl hI) (fun _ _ => by exfalso; omega) (fun _ _ _ _ _ _ _ _ => by exfalso; omega))
          | exact p2I (m_sheet hx1 hx2 hx3 (fun _ => by exfalso; omega) (fun _ _ => r2I rfl (iErr hI 5)) (fun _ _ _ _ _ _ _ _ => by exfalso; omega))
          | (refine p2I (m_sheet hx1 hx2 hx3 (fun _ => by exfalso; omega) (fun _ _ => by exfalso; omega) (fun v _ K f1 f2 f3 f4 f5 => r2I rfl ?_))
             obtain ⟨r1, r2, r3⟩ := hp1
             obtain ⟨f31, f32, f33⟩ := f3
             refine inv_sht hI (fun q hq => (f1 q (fun z => hq ((show ∀ y ∈ ([80, 81, 82, 83] : List Nat), y ∈ ([42, 43, 80, 81, 82, 83] : List Nat) by decide) q z))).trans (hf1 q (fun z => hq ((show ∀ y ∈ ([42, 43] : List Nat), y ∈ ([42, 43, 80, 81, 82, 83] : List Nat) by decide) q z)))) (fun s a b => ?_)
             unfold iS
             rw [f1 42 (by decide), f1 43 (by decide)]
             by_cases z : s = x1
             · rw [z, f31, f32, f33, r1, r1, if_pos ⟨rfl, rfl⟩, if_neg (by omega), if_pos ⟨rfl, rfl⟩]
               exact Or.inr ⟨rfl, rfl, rfl, by omega, by omega, fun i c d => by rw [r2 i c (by omega), f4 i c (by omega)]⟩
             · obtain ⟨e1, e2, e3⟩ := f2 s z
               have w := hI.1.1.2.2.2.2.2.2.2.2 s a b
               unfold iS at w
               rw [e1, e2, e3, r1, r1, if_neg (by omega), if_neg (by omega), if_neg (by omega), if_neg (by omega), hf1 80 (by decide), hf1 81 (by decide), hf1 82 (by decide)]
               rcases w with w | ⟨w1, w2, w3, w4, w5, w6⟩
               · exact Or.inl w
               · exact Or.inr ⟨w1, w2, w3, w4, w5, fun i c d => by rw [r3 s i z, f5 _ (by omega), hf1 83 (by decide)]; exact w6 i c d⟩)
          | (exfalso; omega)
        · first
          | exact p2I (m_sheet hx1 hx2 hx3 (fun _ => r2I rfl hI) (fun _ _ => by exfalso; omega) (fun _ _ _ _ _ _ _ _ => by exfalso; omega))
          | exact p2I (m_sheet hx1 hx2 hx3 (fun _ => by exfalso; omega) (fun _ _ => r2I rfl (iErr hI 5)) (fun _ _ _ _ _ _ _ _ => by exfalso; omega))
          | (refine p2I (m_sheet hx1 hx2 hx3 (fun _ => by exfalso; omega) (fun _ _ => by exfalso; omega) (fun v _ K f1 f2 f3 f4 f5 => r2I rfl ?_))
             obtain ⟨r1, r2, r3⟩ := hp1
             obtain ⟨f31, f32, f33⟩ := f3
             refine inv_sht hI (fun q hq => (f1 q (fun z => hq ((show ∀ y ∈ ([80, 81, 82, 83] : List Nat), y ∈ ([42, 43, 80, 81, 82, 83] : List Nat) by decide) q z))).trans (hf1 q (fun z => hq ((show ∀ y ∈ ([42, 43] : List Nat), y ∈ ([42, 43, 80, 81, 82, 83] : List Nat) by decide) q z)))) (fun s a b => ?_)
             unfold iS
             rw [f1 42 (by decide), f1 43 (by decide)]
             by_cases z : s = x1
             · rw [z, f31, f32, f33, r1, r1, if_pos ⟨rfl, rfl⟩, if_neg (by omega), if_pos ⟨rfl, rfl⟩]
               exact Or.inr ⟨rfl, rfl, rfl, by omega, by omega, fun i c d => by rw [r2 i c (by omega), f4 i c (by omega)]⟩
             · obtain ⟨e1, e2, e3⟩ := f2 s z
               have w := hI.1.1.2.2.2.2.2.2.2.2 s a b
               unfold iS at w
               rw [e1, e2, e3, r1, r1, if_neg (by omega), if_neg (by omega), if_neg (by omega), if_neg (by omega), hf1 80 (by decide), hf1 81 (by decide), hf1 82 (by decide)]
               rcases w with w | ⟨w1, w2, w3, w4, w5, w6⟩
               · exact Or.inl w
               · exact Or.inr ⟨w1, w2, w3, w4, w5, fun i c d => by rw [r3 s i z, f5 _ (by omega), hf1 83 (by decide)]; exact w6 i c d⟩)
          | (exfalso; omega)
      · first
        | exact p2I (m_sheet hx1 hx2 hx3 (fun _ => r2I rfl hI) (fun _ _ => by exfalso; omega) (fun _ _ _ _ _ _ _ _ => by exfalso; omega))
        | exact p2I (m_sheet hx1 hx2 hx3 (fun _ => by exfalso; omega) (fun _ _ => r2I rfl (iErr hI 5)) (fun _ _ _ _ _ _ _ _ => by exfalso; omega))
        | (refine p2I (m_sheet hx1 hx2 hx3 (fun _ => by exfalso; omega) (fun _ _ => by exfalso; omega) (fun v _ K f1 f2 f3 f4 f5 => r2I rfl ?_))
           obtain ⟨r1, r2, r3⟩ := hp1
           obtain ⟨f31, f32, f33⟩ := f3
           refine inv_sht hI (fun q hq => (f1 q (fun z => hq ((show ∀ y ∈ ([80, 81, 82, 83] : List Nat), y ∈ ([42, 43, 80, 81, 82, 83] : List Nat) by decide) q z))).trans (hf1 q (fun z => hq ((show ∀ y ∈ ([42, 43] : List Nat), y ∈ ([42, 43, 80, 81, 82, 83] : List Nat) by decide) q z)))) (fun s a b => ?_)
           unfold iS
           rw [f1 42 (by decide), f1 43 (by decide)]
           by_cases z : s = x1
           · rw [z, f31, f32, f33, r1, r1, if_pos ⟨rfl, rfl⟩, if_neg (by omega), if_pos ⟨rfl, rfl⟩]
             exact Or.inr ⟨rfl, rfl, rfl, by omega, by omega, fun i c d => by rw [r2 i c (by omega), f4 i c (by omega)]⟩
           · obtain ⟨e1, e2, e3⟩ := f2 s z
             have w := hI.1.1.2.2.2.2.2.2.2.2 s a b
             unfold iS at w
             rw [e1, e2, e3, r1, r1, if_neg (by omega), if_neg (by omega), if_neg (by omega), if_neg (by omega), hf1 80 (by decide), hf1 81 (by decide), hf1 82 (by decide)]
             rcases w with w | ⟨w1, w2, w3, w4, w5, w6⟩
             · exact Or.inl w
             · exact Or.inr ⟨w1, w2, w3, w4, w5, fun i c d => by rw [r3 s i z, f5 _ (by omega), hf1 83 (by decide)]; exact w6 i c d⟩)
        | (exfalso; omega)
theorem i2l3_i {x : Int} (h : -2147483648 ≤ x ∧ x ≤ 2147483647) : (i2l3 x).toInt = x := by
  unfold i2l3
  rw [Int32.toInt_toInt64, t3_in h]
theorem cmp3_add {a b c : Int} (ha : -2147483648 ≤ a ∧ a ≤ 2147483647) (hb : -2147483648 ≤ b ∧ b ≤ 2147483647) (hc : -2147483648 ≤ c ∧ c ≤ 2147483647) : cmp3 ((i2l3 a) + (i2l3 b)) (i2l3 c) ≤ 0 ↔ a + b ≤ c := by
  have e : ∀ z : Int32, z.toInt ≤ 0 ↔ z ≤ 0 := fun z => (Int32.le_iff_toInt_le (y := 0)).symm
  unfold cmp3
  rw [e, lg_cmp_le, Int64.le_iff_toInt_le, Int64.toInt_add, i2l3_i ha, i2l3_i hb, i2l3_i hc, Int.bmod_eq_of_le (by omega) (by omega)]
theorem lX12_copy2 {E : E3} {Q : Q3} {M0 : M3} {x3 x4 x5 u : Int} (hz : (0 ≤ x3 ∧ x3 ≤ 3) ∧ 0 ≤ x4 ∧ 0 ≤ x5 ∧ x4 + x5 ≤ 40) (k : ∀ (K : M3), (∀ q : Nat, q ∉ ([83, 84] : List Nat) → K q = M0 q) → (∀ j : Int, K 83 0 j = if 40 * x3 + x4 ≤ j ∧ j < 40 * x3 + x4 + x5 then M0 83 0 (u + (j - (40 * x3 + x4))) else M0 83 0 j) → Q (some (vI 1)) K) : ∀ (n : Nat) (x6 : Int) (M : M3), 0 ≤ x6 → x6 + n = x5 → (∀ q : Nat, q ∉ ([83, 84] : List Nat) → M q = M0 q) → (∀ i : Int, 0 ≤ i → i < x5 → M 84 0 i = M0 83 0 (u + i)) → (∀ j : Int, M 83 0 j = if 40 * x3 + x4 ≤ j ∧ j < 40 * x3 + x4 + x6 then M0 83 0 (u + (j - (40 * x3 + x4))) else M0 83 0 j) → G3 E YX12_copy Q 157 [(0, vR 44 0), (3, vI x3), (4, vI x4), (5, vI x5), (6, vI x6)] [] M := by
  intro n
  induction n with
  | zero =>
    intro x6 M h1 h2 h3 h4 h5
    refine g3_rm fun hM => ?_
    refine sX12_copy_157 ?_
    refine ⟨?_, ?_, ?_⟩
    · first | omega | (exfalso; omega)
    · first | omega | (exfalso; omega)
    refine ⟨fun c1 => ?_, fun c1 => ?_⟩
    · first
        | (exfalso; omega)
        | (rw [show x6 = x5 by omega] at h5
           exact k M h3 h5)
    · refine ⟨?_, ?_, ?_⟩
      · first | omega | (exfalso; omega)
      · first | omega | (exfalso; omega)
      exfalso; omega
  | succ n ih =>
    intro x6 M h1 h2 h3 h4 h5
    refine g3_rm fun hM => ?_
    refine sX12_copy_157 ?_
    refine ⟨?_, ?_, ?_⟩
    · first | omega | (exfalso; omega)
    · first | omega | (exfalso; omega)
    refine ⟨fun c1 => ?_, fun c1 => ?_⟩
    · exfalso; omega
    · refine ⟨?_, ?_, ?_⟩
      · first | omega | (exfalso; omega)
      · first | omega | (exfalso; omega)
      first
        | (exfalso; omega)
        | (refine ih _ _ (by omega) (by omega) (fr_up h3 (by decide)) (fun i a b => ?_) (fun j => ?_)
           · rw [up3_nr (by decide)]
             exact h4 i a b
           · by_cases e : j = 40 * x3 + x4 + x6
             · rw [e, up3_eq, if_pos (by omega), h4 x6 (by omega) (by omega), show u + (40 * x3 + x4 + x6 - (40 * x3 + x4)) = u + x6 by omega]
             · rw [up3_nj e, h5 j]
               by_cases y : 40 * x3 + x4 ≤ j ∧ j < 40 * x3 + x4 + x6
               · rw [if_pos y, if_pos (by omega)]
               · rw [if_neg y, if_neg (by omega)])
theorem lX12_copy1 {E : E3} {Q : Q3} {M0 : M3} {x1 x2 x3 x4 x5 : Int} (hz : (0 ≤ x1 ∧ x1 ≤ 3) ∧ (0 ≤ x3 ∧ x3 ≤ 3) ∧ 0 ≤ x2 ∧ 0 ≤ x4 ∧ 0 ≤ x5 ∧ x2 + x5 ≤ 40 ∧ x4 + x5 ≤ 40) (k : ∀ (K : M3), (∀ q : Nat, q ∉ ([83, 84] : List Nat) → K q = M0 q) → (∀ j : Int, K 83 0 j = if 40 * x3 + x4 ≤ j ∧ j < 40 * x3 + x4 + x5 then M0 83 0 (40 * x1 + x2 + (j - (40 * x3 + x4))) else M0 83 0 j) → Q (some (vI 1)) K) : ∀ (n : Nat) (x6 : Int) (M : M3), 0 ≤ x6 → x6 + n = x5 → (∀ q : Nat, q ∉ ([84] : List Nat) → M q = M0 q) → (∀ i : Int, 0 ≤ i → i < x6 → M 84 0 i = M0 83 0 (40 * x1 + x2 + i)) → G3 E YX12_copy Q 120 [(0, vR 44 0), (1, vI x1), (2, vI x2), (3, vI x3), (4, vI x4), (5, vI x5), (6, vI x6)] [] M := by
  intro n
  induction n with
  | zero =>
    intro x6 M h1 h2 h3 h4
    refine g3_rm fun hM => ?_
    refine sX12_copy_120 ?_
    refine ⟨?_, ?_, ?_⟩
    · first | omega | (exfalso; omega)
    · first | omega | (exfalso; omega)
    refine ⟨fun c1 => ?_, fun c1 => ?_⟩
    · first
        | (exfalso; omega)
        | (have h83 : M 83 = M0 83 := h3 83 (by decide)
           refine lX12_copy2 (M0 := M) (x3 := x3) (x4 := x4) (x5 := x5) (u := 40 * x1 + x2) (by omega) (fun K f e => k K (fun q hq => (f q hq).trans (h3 q (fun z => hq ((show ∀ y ∈ ([84] : List Nat), y ∈ ([83, 84] : List Nat) by decide) q z)))) (fun j => by rw [e j, h83])) x5.toNat 0 M (by omega) (by omega) (fun _ _ => rfl) (fun i a b => by rw [h83]; exact h4 i a (by omega)) (fun j => by rw [if_neg (by omega)]))
    · refine ⟨?_, ?_, ?_⟩
      · first | omega | (exfalso; omega)
      · first | omega | (exfalso; omega)
      first
        | (exfalso; omega)
        | (have h83 : M 83 = M0 83 := h3 83 (by decide)
           refine lX12_copy2 (M0 := M) (x3 := x3) (x4 := x4) (x5 := x5) (u := 40 * x1 + x2) (by omega) (fun K f e => k K (fun q hq => (f q hq).trans (h3 q (fun z => hq ((show ∀ y ∈ ([84] : List Nat), y ∈ ([83, 84] : List Nat) by decide) q z)))) (fun j => by rw [e j, h83])) x5.toNat 0 M (by omega) (by omega) (fun _ _ => rfl) (fun i a b => by rw [h83]; exact h4 i a (by omega)) (fun j => by rw [if_neg (by omega)]))
  | succ n ih =>
    intro x6 M h1 h2 h3 h4
    refine g3_rm fun hM => ?_
    refine sX12_copy_120 ?_
    refine ⟨?_, ?_, ?_⟩
    · first | omega | (exfalso; omega)
    · first | omega | (exfalso; omega)
    refine ⟨fun c1 => ?_, fun c1 => ?_⟩
    · first
        | (exfalso; omega)
        | (refine ih _ _ (by omega) (by omega) (fr_up h3 (by decide)) (fun i a b => ?_)
           by_cases e : i = x6
           · rw [e, up3_eq, h3 83 (by decide)]
           · rw [up3_nj e]
             exact h4 i a (by omega))
    · refine ⟨?_, ?_, ?_⟩
      · first | omega | (exfalso; omega)
      · first | omega | (exfalso; omega)
      first
        | (exfalso; omega)
        | (refine ih _ _ (by omega) (by omega) (fr_up h3 (by decide)) (fun i a b => ?_)
           by_cases e : i = x6
           · rw [e, up3_eq, h3 83 (by decide)]
           · rw [up3_nj e]
             exact h4 i a (by omega))
theorem m_copy {E : E3} {Q : Q3} {M : M3} {x1 x2 x3 x4 x5 : Int} (hW : WM M) (hx1 : -2147483648 ≤ x1 ∧ x1 ≤ 2147483647) (hx2 : -2147483648 ≤ x2 ∧ x2 ≤ 2147483647) (hx3 : -2147483648 ≤ x3 ∧ x3 ≤ 2147483647) (hx4 : -2147483648 ≤ x4 ∧ x4 ≤ 2147483647) (hx5 : -2147483648 ≤ x5 ∧ x5 ≤ 2147483647) (k1 : ¬ ((0 ≤ x1 ∧ x1 ≤ 3) ∧ (0 ≤ x3 ∧ x3 ≤ 3)) → Q (some (vI (-2))) M) (k2 : ((0 ≤ x1 ∧ x1 ≤ 3) ∧ (0 ≤ x3 ∧ x3 ≤ 3)) → (M 80 0 x1 = 0 ∨ M 80 0 x3 = 0) → Q (some (vI (-11))) (up3 M 44 0 58 1)) (k4 : ((0 ≤ x1 ∧ x1 ≤ 3) ∧ (0 ≤ x3 ∧ x3 ≤ 3)) → ¬ (M 80 0 x1 = 0 ∨ M 80 0 x3 = 0) → M 81 0 x1 ≠ M 81 0 x3 → Q (some (vI (-14))) (up3 M 44 0 58 4)) (k3 : ((0 ≤ x1 ∧ x1 ≤ 3) ∧ (0 ≤ x3 ∧ x3 ≤ 3)) → ¬ (M 80 0 x1 = 0 ∨ M 80 0 x3 = 0) → ¬ M 81 0 x1 ≠ M 81 0 x3 → (x2 < 0 ∨ x4 < 0 ∨ x5 < 0 ∨ M 82 0 x1 < x2 + x5 ∨ M 82 0 x3 < x4 + x5) → Q (some (vI (-12))) (up3 M 44 0 58 2)) (k : ((0 ≤ x1 ∧ x1 ≤ 3) ∧ (0 ≤ x3 ∧ x3 ≤ 3)) → ¬ (M 80 0 x1 = 0 ∨ M 80 0 x3 = 0) → ¬ M 81 0 x1 ≠ M 81 0 x3 → ¬ (x2 < 0 ∨ x4 < 0 ∨ x5 < 0 ∨ M 82 0 x1 < x2 + x5 ∨ M 82 0 x3 < x4 + x5) → (∀ (K : M3), (∀ q : Nat, q ∉ ([83, 84] : List Nat) → K q = M q) → (∀ j : Int, K 83 0 j = if 40 * x3 + x4 ≤ j ∧ j < 40 * x3 + x4 + x5 then M 83 0 (40 * x1 + x2 + (j - (40 * x3 + x4))) else M 83 0 j) → Q (some (vI 1)) K)) : C3 E YX12_copy [vR 44 0, vI x1, vI x2, vI x3, vI x4, vI x5] M Q := by
  refine c3_rm fun hM => ?_
  have s1 := hM 82 0 x1
  have s3 := hM 82 0 x3
  have d1 := cmp3_add hx2 hx5 s1
  have d3 := cmp3_add hx4 hx5 s3
  have v1 : ((0 ≤ x1 ∧ x1 ≤ 3) ∧ (0 ≤ x3 ∧ x3 ≤ 3)) → ¬ (M 80 0 x1 = 0 ∨ M 80 0 x3 = 0) → M 82 0 x1 ≤ 40 ∧ M 82 0 x3 ≤ 40 := fun a b => by
    rcases hW.2.2.1 x1 a.1.1 (by omega) with w | ⟨_, _, w⟩
    · omega
    · rcases hW.2.2.1 x3 a.2.1 (by omega) with y | ⟨_, _, y⟩
      · omega
      · omega
  refine sX12_copy ?_
  refine ⟨?_, ?_⟩
  · omega
  refine ⟨fun c1 => ?_, fun c1 => ?_⟩
  · first | exact k1 (by omega) | exact k2 (by omega) (by omega) | exact k4 (by omega) (by omega) (by omega) | exact k3 (by omega) (by omega) (by omega) (by omega) | (exfalso; omega)
  · refine ⟨?_, ?_⟩
    · omega
    refine ⟨fun c2 => ?_, fun c2 => ?_⟩
    · refine ⟨?_, ?_⟩
      · omega
      refine ⟨fun c3 => ?_, fun c3 => ?_⟩
      · first | exact k1 (by omega) | exact k2 (by omega) (by omega) | exact k4 (by omega) (by omega) (by omega) | exact k3 (by omega) (by omega) (by omega) (by omega) | (exfalso; omega)
      · refine ⟨?_, ?_⟩
        · omega
        refine ⟨fun c4 => ?_, fun c4 => ?_⟩
        · refine ⟨fun c5 => ?_, fun c5 => ?_⟩
          · refine ⟨?_, ?_⟩
            · omega
            refine ⟨fun c6 => ?_, fun c6 => ?_⟩
            · first | exact k1 (by omega) | exact k2 (by omega) (by omega) | exact k4 (by omega) (by omega) (by omega) | exact k3 (by omega) (by omega) (by omega) (by omega) | (exfalso; omega)
            · refine ⟨?_, ?_⟩
              · omega
              refine ⟨fun c7 => ?_, fun c7 => ?_⟩
              · first | exact k1 (by omega) | exact k2 (by omega) (by omega) | exact k4 (by omega) (by omega) (by omega) | exact k3 (by omega) (by omega) (by omega) (by omega) | (exfalso; omega)
              · refine ⟨?_, ?_⟩
                · omega
                refine ⟨fun c8 => ?_, fun c8 => ?_⟩
                · first | exact k1 (by omega) | exact k2 (by omega) (by omega) | exact k4 (by omega) (by omega) (by omega) | exact k3 (by omega) (by omega) (by omega) (by omega) | (exfalso; omega)
                · refine ⟨fun c9 => ?_, fun c9 => ?_⟩
                  · first | exact k1 (by omega) | exact k2 (by omega) (by omega) | exact k4 (by omega) (by omega) (by omega) | exact k3 (by omega) (by omega) (by omega) (by omega) | (exfalso; omega)
                  · refine ⟨fun c10 => ?_, fun c10 => ?_⟩
                    · first
                      | (exfalso; omega)
                      | (have v2 := v1 (by omega) (by omega)
                         exact lX12_copy1 (by omega) (k (by omega) (by omega) (by omega) (by omega)) x5.toNat 0 M (by omega) (by omega) (fun _ _ => rfl) (fun i a b => by exfalso; omega))
                    · first | exact k1 (by omega) | exact k2 (by omega) (by omega) | exact k4 (by omega) (by omega) (by omega) | exact k3 (by omega) (by omega) (by omega) (by omega) | (exfalso; omega)
          · first | exact k1 (by omega) | exact k2 (by omega) (by omega) | exact k4 (by omega) (by omega) (by omega) | exact k3 (by omega) (by omega) (by omega) (by omega) | (exfalso; omega)
        · first | exact k1 (by omega) | exact k2 (by omega) (by omega) | exact k4 (by omega) (by omega) (by omega) | exact k3 (by omega) (by omega) (by omega) (by omega) | (exfalso; omega)
    · first | exact k1 (by omega) | exact k2 (by omega) (by omega) | exact k4 (by omega) (by omega) (by omega) | exact k3 (by omega) (by omega) (by omega) (by omega) | (exfalso; omega)
theorem m_copyU {E : E3} {Q : Q3} {M U : M3} {x1 x2 x3 x4 x5 : Int} (h : Hm M U) (hW : WM M) (hx1 : -2147483648 ≤ x1 ∧ x1 ≤ 2147483647) (hx2 : -2147483648 ≤ x2 ∧ x2 ≤ 2147483647) (hx3 : -2147483648 ≤ x3 ∧ x3 ≤ 2147483647) (hx4 : -2147483648 ≤ x4 ∧ x4 ≤ 2147483647) (hx5 : -2147483648 ≤ x5 ∧ x5 ≤ 2147483647) (k1 : ¬ ((0 ≤ x1 ∧ x1 ≤ 3) ∧ (0 ≤ x3 ∧ x3 ≤ 3)) → Q (some (vI (-2))) U) (k2 : ((0 ≤ x1 ∧ x1 ≤ 3) ∧ (0 ≤ x3 ∧ x3 ≤ 3)) → (M 80 0 x1 = 0 ∨ M 80 0 x3 = 0) → Q (some (vI (-11))) (up3 U 44 0 58 1)) (k4 : ((0 ≤ x1 ∧ x1 ≤ 3) ∧ (0 ≤ x3 ∧ x3 ≤ 3)) → ¬ (M 80 0 x1 = 0 ∨ M 80 0 x3 = 0) → M 81 0 x1 ≠ M 81 0 x3 → Q (some (vI (-14))) (up3 U 44 0 58 4)) (k3 : ((0 ≤ x1 ∧ x1 ≤ 3) ∧ (0 ≤ x3 ∧ x3 ≤ 3)) → ¬ (M 80 0 x1 = 0 ∨ M 80 0 x3 = 0) → ¬ M 81 0 x1 ≠ M 81 0 x3 → (x2 < 0 ∨ x4 < 0 ∨ x5 < 0 ∨ M 82 0 x1 < x2 + x5 ∨ M 82 0 x3 < x4 + x5) → Q (some (vI (-12))) (up3 U 44 0 58 2)) (k : ((0 ≤ x1 ∧ x1 ≤ 3) ∧ (0 ≤ x3 ∧ x3 ≤ 3)) → ¬ (M 80 0 x1 = 0 ∨ M 80 0 x3 = 0) → ¬ M 81 0 x1 ≠ M 81 0 x3 → ¬ (x2 < 0 ∨ x4 < 0 ∨ x5 < 0 ∨ M 82 0 x1 < x2 + x5 ∨ M 82 0 x3 < x4 + x5) → (∀ (K : M3), (∀ q : Nat, q ∉ ([83, 84] : List Nat) → K q = U q) → (∀ j : Int, K 83 0 j = if 40 * x3 + x4 ≤ j ∧ j < 40 * x3 + x4 + x5 then U 83 0 (40 * x1 + x2 + (j - (40 * x3 + x4))) else U 83 0 j) → Q (some (vI 1)) K)) : C3 E YX12_copy [vR 44 0, vI x1, vI x2, vI x3, vI x4, vI x5] U Q := by
  refine m_copy (WM_q h hW) hx1 hx2 hx3 hx4 hx5 k1 ?_ ?_ ?_ ?_ <;> rw [h 80 (by decide)]
  · exact k2
  · rw [h 81 (by decide)]
    exact k4
  · rw [h 81 (by decide), h 82 (by decide)]
    exact k3
  · rw [h 81 (by decide), h 82 (by decide)]
    exact k
theorem inv_copy {M K : M3} {x1 x2 x3 x4 x5 : Int} (hI : Inv M) (hv : ((0 ≤ x1 ∧ x1 ≤ 3) ∧ (0 ≤ x3 ∧ x3 ≤ 3))) (h1 : M 80 0 x1 = 1) (h2 : M 80 0 x3 = 1) (hr : 0 ≤ x2 ∧ 0 ≤ x4 ∧ 0 ≤ x5 ∧ x2 + x5 ≤ M 82 0 x1 ∧ x4 + x5 ≤ M 82 0 x3) (g1 : ∀ q : Nat, q ∉ ([83, 84] : List Nat) → K q = cp3 M 43 x1 x2 x3 x4 x5 q) (g2 : ∀ j : Int, K 83 0 j = if 40 * x3 + x4 ≤ j ∧ j < 40 * x3 + x4 + x5 then M 83 0 (40 * x1 + x2 + (j - (40 * x3 + x4))) else M 83 0 j) : Inv K := by
  have f : ∀ q : Nat, q ≠ 43 → cp3 M 43 x1 x2 x3 x4 x5 q = M q := fun q hq => by
    funext i j
    exact if_neg fun z => hq z.1
  have g : ∀ q : Nat, q ∉ ([43, 83, 84] : List Nat) → K q = M q := fun q hq => (g1 q (fun z => hq ((show ∀ y ∈ ([83, 84] : List Nat), y ∈ ([43, 83, 84] : List Nat) by decide) q z))).trans (f q fun z => hq (by rw [z]; decide))
  have h40 : M 82 0 x3 ≤ 40 := by
    rcases hI.1.1.2.2.2.2.2.2.2.2 x3 hv.2.1 (by omega) with u | ⟨u1, u2, u3, u4, u5, u6⟩
    · omega
    · exact u5.2
  have hS : iSht K := fun s a b => by
    have w := hI.1.1.2.2.2.2.2.2.2.2 s a b
    unfold iS at w ⊢
    rw [g 42 (by decide), g 80 (by decide), g 81 (by decide), g 82 (by decide), g1 43 (by decide)]
    rcases w with w | ⟨w1, w2, w3, w4, w5, w6⟩
    · exact Or.inl w
    · refine Or.inr ⟨w1, w2, w3, w4, w5, fun i c d => ?_⟩
      rw [g2]
      unfold cp3
      by_cases y : s = x3 ∧ x4 ≤ i ∧ i < x4 + x5
      · rw [if_pos ⟨rfl, y⟩, if_pos (by omega)]
        rcases hI.1.1.2.2.2.2.2.2.2.2 x1 hv.1.1 (by omega) with u | ⟨u1, u2, u3, u4, u5, u6⟩
        · omega
        · rw [u6 (x2 + (i - x4)) (by omega) (by omega)]
          congr 1
          omega
      · rw [if_neg (fun z => y z.2), if_neg (by omega)]
        exact w6 i c d
  exact ⟨⟨⟨(iBas_of (by first | exact g _ (by decide) | rw [g _ (by decide)]) (by first | exact g _ (by decide) | rw [g _ (by decide)]) (by first | exact g _ (by decide) | rw [g _ (by decide)]) (by first | exact g _ (by decide) | rw [g _ (by decide)]) (by first | exact g _ (by decide) | rw [g _ (by decide)]) (by first | exact g _ (by decide) | rw [g _ (by decide)]) hI.1.1.1), (iLaw_of (by first | exact g _ (by decide) | rw [g _ (by decide)]) (by first | exact g _ (by decide) | rw [g _ (by decide)]) (by first | exact g _ (by decide) | rw [g _ (by decide)]) (by first | exact g _ (by decide) | rw [g _ (by decide)]) hI.1.1.2.1), (iCty_of (by first | exact g _ (by decide) | rw [g _ (by decide)]) (by first | exact g _ (by decide) | rw [g _ (by decide)]) (by first | exact g _ (by decide) | rw [g _ (by decide)]) (by first | exact g _ (by decide) | rw [g _ (by decide)]) (by first | exact g _ (by decide) | rw [g _ (by decide)]) (by first | exact g _ (by decide) | rw [g _ (by decide)]) (by first | exact g _ (by decide) | rw [g _ (by decide)]) (by first | exact g _ (by decide) | rw [g _ (by decide)]) (by first | exact g _ (by decide) | rw [g _ (by decide)]) (by first | exact g _ (by decide) | rw [g _ (by decide)]) hI.1.1.2.2.1), (iFrm_of (by first | exact g _ (by decide) | rw [g _ (by decide)]) (by first | exact g _ (by decide) | rw [g _ (by decide)]) (by first | exact g _ (by decide) | rw [g _ (by decide)]) (by first | exact g _ (by decide) | rw [g _ (by decide)]) (fun f j hj => by first | exact g _ (by decide) | rw [g _ (by decide)]) (by first | exact g _ (by decide) | rw [g _ (by decide)]) (by first | exact g _ (by decide) | rw [g _ (by decide)]) (by first | exact g _ (by decide) | rw [g _ (by decide)]) (by first | exact g _ (by decide) | rw [g _ (by decide)]) (by first | exact g _ (by decide) | rw [g _ (by decide)]) (by first | exact g _ (by decide) | rw [g _ (by decide)]) (by first | exact g _ (by decide) | rw [g _ (by decide)]) (by first | exact g _ (by decide) | rw [g _ (by decide)]) (by first | exact g _ (by decide) | rw [g _ (by decide)]) (by first | exact g _ (by decide) | rw [g _ (by decide)]) hI.1.1.2.2.2.1), (iOrd_of (by first | exact g _ (by decide) | rw [g _ (by decide)]) (by first | exact g _ (by decide) | rw [g _ (by decide)]) hI.1.1.2.2.2.2.1), (iLin_of (by first | exact g _ (by decide) | rw [g _ (by decide)]) (by first | exact g _ (by decide) | rw [g _ (by decide)]) (by first | exact g _ (by decide) | rw [g _ (by decide)]) (by first | exact g _ (by decide) | rw [g _ (by decide)]) (by first | exact g _ (by decide) | rw [g _ (by decide)]) (by first | exact g _ (by decide) | rw [g _ (by decide)]) (by first | exact g _ (by decide) | rw [g _ (by decide)]) (by first | exact g _ (by decide) | rw [g _ (by decide)]) (by first | exact g _ (by decide) | rw [g _ (by decide)]) (by first | exact g _ (by decide) | rw [g _ (by decide)]) (by first | exact g _ (by decide) | rw [g _ (by decide)]) (by first | exact g _ (by decide) | rw [g _ (by decide)]) (by first | exact g _ (by decide) | rw [g _ (by decide)]) (by first | exact g _ (by decide) | rw [g _ (by decide)]) (by first | exact g _ (by decide) | rw [g _ (by decide)]) (by first | exact g _ (by decide) | rw [g _ (by decide)]) (by first | exact g _ (by decide) | rw [g _ (by decide)]) hI.1.1.2.2.2.2.2.1), (iLst_of (by first | exact g _ (by decide) | rw [g _ (by decide)]) (by first | exact g _ (by decide) | rw [g _ (by decide)]) (by first | exact g _ (by decide) | rw [g _ (by decide)]) (by first | exact g _ (by decide) | rw [g _ (by decide)]) (by first | exact g _ (by decide) | rw [g _ (by decide)]) (by first | exact g _ (by decide) | rw [g _ (by decide)]) (by first | exact g _ (by decide) | rw [g _ (by decide)]) hI.1.1.2.2.2.2.2.2.1), (iSum_of (by first | exact g _ (by decide) | rw [g _ (by decide)]) (by first | exact g _ (by decide) | rw [g _ (by decide)]) (by first | exact g _ (by decide) | rw [g _ (by decide)]) (by first | exact g _ (by decide) | rw [g _ (by decide)]) (by first | exact g _ (by decide) | rw [g _ (by decide)]) (by first | exact g _ (by decide) | rw [g _ (by decide)]) (by first | exact g _ (by decide) | rw [g _ (by decide)]) (by first | exact g _ (by decide) | rw [g _ (by decide)]) (by first | exact g _ (by decide) | rw [g _ (by decide)]) hI.1.1.2.2.2.2.2.2.2.1), hS⟩, (iW_of (by first | exact g _ (by decide) | rw [g _ (by decide)]) (by first | exact g _ (by decide) | rw [g _ (by decide)]) (by first | exact g _ (by decide) | rw [g _ (by decide)]) (by first | exact g _ (by decide) | rw [g _ (by decide)]) (by first | exact g _ (by decide) | rw [g _ (by decide)]) (by first | exact g _ (by decide) | rw [g _ (by decide)]) (by first | exact g _ (by decide) | rw [g _ (by decide)]) (by first | exact g _ (by decide) | rw [g _ (by decide)]) (by first | exact g _ (by decide) | rw [g _ (by decide)]) hI.1.2)⟩, (LwC_of (by first | exact g _ (by decide) | rw [g _ (by decide)]) (by first | exact g _ (by decide) | rw [g _ (by decide)]) (by first | exact g _ (by decide) | rw [g _ (by decide)]) (by first | exact g _ (by decide) | rw [g _ (by decide)]) (by first | exact g _ (by decide) | rw [g _ (by decide)]) (by first | exact g _ (by decide) | rw [g _ (by decide)]) (by first | exact g _ (by decide) | rw [g _ (by decide)]) (by first | exact g _ (by decide) | rw [g _ (by decide)]) (by first | exact g _ (by decide) | rw [g _ (by decide)]) (by first | exact g _ (by decide) | rw [g _ (by decide)]) hI.2.1), (RdC_of (by first | exact g _ (by decide) | rw [g _ (by decide)]) (by first | exact g _ (by decide) | rw [g _ (by decide)]) (by first | exact g _ (by decide) | rw [g _ (by decide)]) (by first | exact g _ (by decide) | rw [g _ (by decide)]) (by first | exact g _ (by decide) | rw [g _ (by decide)]) (by first | exact g _ (by decide) | rw [g _ (by decide)]) (by first | exact g _ (by decide) | rw [g _ (by decide)]) (by first | exact g _ (by decide) | rw [g _ (by decide)]) hI.2.2)⟩
theorem p_copy {E : E3} {M : M3} {x1 x2 x3 x4 x5 : Int} (hI : Inv M) (hx1 : -2147483648 ≤ x1 ∧ x1 ≤ 2147483647) (hx2 : -2147483648 ≤ x2 ∧ x2 ≤ 2147483647) (hx3 : -2147483648 ≤ x3 ∧ x3 ≤ 2147483647) (hx4 : -2147483648 ≤ x4 ∧ x4 ≤ 2147483647) (hx5 : -2147483648 ≤ x5 ∧ x5 ≤ 2147483647) : C3 E YX11_copy [vR 0 0, vI x1, vI x2, vI x3, vI x4, vI x5] M (P2 E YX12_copy [vR 44 0, vI x1, vI x2, vI x3, vI x4, vI x5]) := by
  refine c3_rm fun hM => ?_
  have hW := hI.1.1.wm
  have hs : ∀ x : Int, (0 ≤ x ∧ x ≤ 3) → (M 80 0 x = 0 ∧ M 42 x 0 = -1) ∨ (M 80 0 x = 1 ∧ M 42 x 0 ≠ -1 ∧ M 42 x 0 = M 81 0 x ∧ M 42 x 1 = M 82 0 x ∧ (0 ≤ M 82 0 x ∧ M 82 0 x ≤ 40)) := fun x h => by
    rcases hI.1.1.2.2.2.2.2.2.2.2 x h.1 (by omega) with w | ⟨w1, w2, w3, w4, w5, w6⟩
    · exact Or.inl w
    · exact Or.inr ⟨w1, by omega, w2, w3, w5⟩
  by_cases hv : ((0 ≤ x1 ∧ x1 ≤ 3) ∧ (0 ≤ x3 ∧ x3 ≤ 3))
  · have s1 := hs x1 hv.1
    have s3 := hs x3 hv.2
    clear hs
    refine sX11_copy ?_
    refine ⟨?_, ?_⟩
    · omega
    refine ⟨fun c1 => ?_, fun c1 => ?_⟩
    · first
      | (exfalso; omega)
      | (refine p2I (m_copyU (Hm.rf.up (by decide)) hW hx1 hx2 hx3 hx4 hx5 (fun z => ?_) (fun z _ => r2I rfl (iErr hI 1)) (fun z _ _ => ?_) (fun z _ _ _ => ?_) (fun z _ _ _ K g1 g2 => ?_)) <;> (exfalso; omega))
      | (refine p2I (m_copyU (Hm.rf.up (by decide)) hW hx1 hx2 hx3 hx4 hx5 (fun z => ?_) (fun z _ => ?_) (fun z _ _ => r2I rfl (iErr hI 4)) (fun z _ _ _ => ?_) (fun z _ _ _ K g1 g2 => ?_)) <;> (exfalso; omega))
      | (refine p2I (m_copyU (Hm.rf.up (by decide)) hW hx1 hx2 hx3 hx4 hx5 (fun z => ?_) (fun z _ => ?_) (fun z _ _ => ?_) (fun z _ _ _ => r2I rfl (iErr hI 2)) (fun z _ _ _ K g1 g2 => ?_)) <;> (exfalso; omega))
      | (have hm : Hm M (cp3 M 43 x1 x2 x3 x4 x5) := fun q hq => by
           funext i j
           exact if_neg fun z => by omega
         have hz : M 80 0 x1 = 1 ∧ M 80 0 x3 = 1 ∧ (0 ≤ x2 ∧ 0 ≤ x4 ∧ 0 ≤ x5 ∧ x2 + x5 ≤ M 82 0 x1 ∧ x4 + x5 ≤ M 82 0 x3) := by omega
         refine p2I (m_copyU hm hW hx1 hx2 hx3 hx4 hx5 (fun z => ?_) (fun z y => ?_) (fun z y w => ?_) (fun z y w v => ?_) (fun z y w v K g1 g2 => r2I rfl (inv_copy hI hv hz.1 hz.2.1 hz.2.2 g1 (fun j => by rw [g2, hm 83 (by decide)]))))
         · exact absurd hv z
         · exfalso; omega
         · exfalso; omega
         · exfalso; omega)
    · refine ⟨?_, ?_⟩
      · omega
      refine ⟨fun c2 => ?_, fun c2 => ?_⟩
      · refine ⟨?_, ?_, ?_⟩
        · omega
        · omega
        refine ⟨fun c3 => ?_, fun c3 => ?_⟩
        · refine ⟨fun c4 => ?_, fun c4 => ?_⟩
          · refine ⟨fun c5 => ?_, fun c5 => ?_⟩
            · refine ⟨?_, ?_⟩
              · omega
              refine ⟨fun c6 => ?_, fun c6 => ?_⟩
              · first
                | (exfalso; omega)
                | (refine p2I (m_copyU (Hm.rf.up (by decide)) hW hx1 hx2 hx3 hx4 hx5 (fun z => ?_) (fun z _ => r2I rfl (iErr hI 1)) (fun z _ _ => ?_) (fun z _ _ _ => ?_) (fun z _ _ _ K g1 g2 => ?_)) <;> (exfalso; omega))
                | (refine p2I (m_copyU (Hm.rf.up (by decide)) hW hx1 hx2 hx3 hx4 hx5 (fun z => ?_) (fun z _ => ?_) (fun z _ _ => r2I rfl (iErr hI 4)) (fun z _ _ _ => ?_) (fun z _ _ _ K g1 g2 => ?_)) <;> (exfalso; omega))
                | (refine p2I (m_copyU (Hm.rf.up (by decide)) hW hx1 hx2 hx3 hx4 hx5 (fun z => ?_) (fun z _ => ?_) (fun z _ _ => ?_) (fun z _ _ _ => r2I rfl (iErr hI 2)) (fun z _ _ _ K g1 g2 => ?_)) <;> (exfalso; omega))
                | (have hm : Hm M (cp3 M 43 x1 x2 x3 x4 x5) := fun q hq => by
                     funext i j
                     exact if_neg fun z => by omega
                   have hz : M 80 0 x1 = 1 ∧ M 80 0 x3 = 1 ∧ (0 ≤ x2 ∧ 0 ≤ x4 ∧ 0 ≤ x5 ∧ x2 + x5 ≤ M 82 0 x1 ∧ x4 + x5 ≤ M 82 0 x3) := by omega
                   refine p2I (m_copyU hm hW hx1 hx2 hx3 hx4 hx5 (fun z => ?_) (fun z y => ?_) (fun z y w => ?_) (fun z y w v => ?_) (fun z y w v K g1 g2 => r2I rfl (inv_copy hI hv hz.1 hz.2.1 hz.2.2 g1 (fun j => by rw [g2, hm 83 (by decide)]))))
                   · exact absurd hv z
                   · exfalso; omega
                   · exfalso; omega
                   · exfalso; omega)
              · refine ⟨?_, ?_⟩
                · omega
                refine ⟨fun c7 => ?_, fun c7 => ?_⟩
                · first
                  | (exfalso; omega)
                  | (refine p2I (m_copyU (Hm.rf.up (by decide)) hW hx1 hx2 hx3 hx4 hx5 (fun z => ?_) (fun z _ => r2I rfl (iErr hI 1)) (fun z _ _ => ?_) (fun z _ _ _ => ?_) (fun z _ _ _ K g1 g2 => ?_)) <;> (exfalso; omega))
                  | (refine p2I (m_copyU (Hm.rf.up (by decide)) hW hx1 hx2 hx3 hx4 hx5 (fun z => ?_) (fun z _ => ?_) (fun z _ _ => r2I rfl (iErr hI 4)) (fun z _ _ _ => ?_) (fun z _ _ _ K g1 g2 => ?_)) <;> (exfalso; omega))
                  | (refine p2I (m_copyU (Hm.rf.up (by decide)) hW hx1 hx2 hx3 hx4 hx5 (fun z => ?_) (fun z _ => ?_) (fun z _ _ => ?_) (fun z _ _ _ => r2I rfl (iErr hI 2)) (fun z _ _ _ K g1 g2 => ?_)) <;> (exfalso; omega))
                  | (have hm : Hm M (cp3 M 43 x1 x2 x3 x4 x5) := fun q hq => by
                       funext i j
                       exact if_neg fun z => by omega
                     have hz : M 80 0 x1 = 1 ∧ M 80 0 x3 = 1 ∧ (0 ≤ x2 ∧ 0 ≤ x4 ∧ 0 ≤ x5 ∧ x2 + x5 ≤ M 82 0 x1 ∧ x4 + x5 ≤ M 82 0 x3) := by omega
                     refine p2I (m_copyU hm hW hx1 hx2 hx3 hx4 hx5 (fun z => ?_) (fun z y => ?_) (fun z y w => ?_) (fun z y w v => ?_) (fun z y w v K g1 g2 => r2I rfl (inv_copy hI hv hz.1 hz.2.1 hz.2.2 g1 (fun j => by rw [g2, hm 83 (by decide)]))))
                     · exact absurd hv z
                     · exfalso; omega
                     · exfalso; omega
                     · exfalso; omega)
                · refine ⟨fun c8 => ?_, fun c8 => ?_⟩
                  · first
                    | (exfalso; omega)
                    | (refine p2I (m_copyU (Hm.rf.up (by decide)) hW hx1 hx2 hx3 hx4 hx5 (fun z => ?_) (fun z _ => r2I rfl (iErr hI 1)) (fun z _ _ => ?_) (fun z _ _ _ => ?_) (fun z _ _ _ K g1 g2 => ?_)) <;> (exfalso; omega))
                    | (refine p2I (m_copyU (Hm.rf.up (by decide)) hW hx1 hx2 hx3 hx4 hx5 (fun z => ?_) (fun z _ => ?_) (fun z _ _ => r2I rfl (iErr hI 4)) (fun z _ _ _ => ?_) (fun z _ _ _ K g1 g2 => ?_)) <;> (exfalso; omega))
                    | (refine p2I (m_copyU (Hm.rf.up (by decide)) hW hx1 hx2 hx3 hx4 hx5 (fun z => ?_) (fun z _ => ?_) (fun z _ _ => ?_) (fun z _ _ _ => r2I rfl (iErr hI 2)) (fun z _ _ _ K g1 g2 => ?_)) <;> (exfalso; omega))
                    | (have hm : Hm M (cp3 M 43 x1 x2 x3 x4 x5) := fun q hq => by
                         funext i j
                         exact if_neg fun z => by omega
                       have hz : M 80 0 x1 = 1 ∧ M 80 0 x3 = 1 ∧ (0 ≤ x2 ∧ 0 ≤ x4 ∧ 0 ≤ x5 ∧ x2 + x5 ≤ M 82 0 x1 ∧ x4 + x5 ≤ M 82 0 x3) := by omega
                       refine p2I (m_copyU hm hW hx1 hx2 hx3 hx4 hx5 (fun z => ?_) (fun z y => ?_) (fun z y w => ?_) (fun z y w v => ?_) (fun z y w v K g1 g2 => r2I rfl (inv_copy hI hv hz.1 hz.2.1 hz.2.2 g1 (fun j => by rw [g2, hm 83 (by decide)]))))
                       · exact absurd hv z
                       · exfalso; omega
                       · exfalso; omega
                       · exfalso; omega)
                  · refine ⟨?_, ?_⟩
                    · omega
                    refine ⟨fun c9 => ?_, fun c9 => ?_⟩
                    · first
                      | (exfalso; omega)
                      | (refine p2I (m_copyU (Hm.rf.up (by decide)) hW hx1 hx2 hx3 hx4 hx5 (fun z => ?_) (fun z _ => r2I rfl (iErr hI 1)) (fun z _ _ => ?_) (fun z _ _ _ => ?_) (fun z _ _ _ K g1 g2 => ?_)) <;> (exfalso; omega))
                      | (refine p2I (m_copyU (Hm.rf.up (by decide)) hW hx1 hx2 hx3 hx4 hx5 (fun z => ?_) (fun z _ => ?_) (fun z _ _ => r2I rfl (iErr hI 4)) (fun z _ _ _ => ?_) (fun z _ _ _ K g1 g2 => ?_)) <;> (exfalso; omega))
                      | (refine p2I (m_copyU (Hm.rf.up (by decide)) hW hx1 hx2 hx3 hx4 hx5 (fun z => ?_) (fun z _ => ?_) (fun z _ _ => ?_) (fun z _ _ _ => r2I rfl (iErr hI 2)) (fun z _ _ _ K g1 g2 => ?_)) <;> (exfalso; omega))
                      | (have hm : Hm M (cp3 M 43 x1 x2 x3 x4 x5) := fun q hq => by
                           funext i j
                           exact if_neg fun z => by omega
                         have hz : M 80 0 x1 = 1 ∧ M 80 0 x3 = 1 ∧ (0 ≤ x2 ∧ 0 ≤ x4 ∧ 0 ≤ x5 ∧ x2 + x5 ≤ M 82 0 x1 ∧ x4 + x5 ≤ M 82 0 x3) := by omega
                         refine p2I (m_copyU hm hW hx1 hx2 hx3 hx4 hx5 (fun z => ?_) (fun z y => ?_) (fun z y w => ?_) (fun z y w v => ?_) (fun z y w v K g1 g2 => r2I rfl (inv_copy hI hv hz.1 hz.2.1 hz.2.2 g1 (fun j => by rw [g2, hm 83 (by decide)]))))
                         · exact absurd hv z
                         · exfalso; omega
                         · exfalso; omega
                         · exfalso; omega)
                    · refine ⟨?_, ?_⟩
                      · omega
                      refine ⟨fun c10 => ?_, fun c10 => ?_⟩
                      · first
                        | (exfalso; omega)
                        | (refine p2I (m_copyU (Hm.rf.up (by decide)) hW hx1 hx2 hx3 hx4 hx5 (fun z => ?_) (fun z _ => r2I rfl (iErr hI 1)) (fun z _ _ => ?_) (fun z _ _ _ => ?_) (fun z _ _ _ K g1 g2 => ?_)) <;> (exfalso; omega))
                        | (refine p2I (m_copyU (Hm.rf.up (by decide)) hW hx1 hx2 hx3 hx4 hx5 (fun z => ?_) (fun z _ => ?_) (fun z _ _ => r2I rfl (iErr hI 4)) (fun z _ _ _ => ?_) (fun z _ _ _ K g1 g2 => ?_)) <;> (exfalso; omega))
                        | (refine p2I (m_copyU (Hm.rf.up (by decide)) hW hx1 hx2 hx3 hx4 hx5 (fun z => ?_) (fun z _ => ?_) (fun z _ _ => ?_) (fun z _ _ _ => r2I rfl (iErr hI 2)) (fun z _ _ _ K g1 g2 => ?_)) <;> (exfalso; omega))
                        | (have hm : Hm M (cp3 M 43 x1 x2 x3 x4 x5) := fun q hq => by
                             funext i j
                             exact if_neg fun z => by omega
                           have hz : M 80 0 x1 = 1 ∧ M 80 0 x3 = 1 ∧ (0 ≤ x2 ∧ 0 ≤ x4 ∧ 0 ≤ x5 ∧ x2 + x5 ≤ M 82 0 x1 ∧ x4 + x5 ≤ M 82 0 x3) := by omega
                           refine p2I (m_copyU hm hW hx1 hx2 hx3 hx4 hx5 (fun z => ?_) (fun z y => ?_) (fun z y w => ?_) (fun z y w v => ?_) (fun z y w v K g1 g2 => r2I rfl (inv_copy hI hv hz.1 hz.2.1 hz.2.2 g1 (fun j => by rw [g2, hm 83 (by decide)]))))
                           · exact absurd hv z
                           · exfalso; omega
                           · exfalso; omega
                           · exfalso; omega)
                      · refine ⟨fun c11 => ?_, fun c11 => ?_⟩
                        · first
                          | (exfalso; omega)
                          | (refine p2I (m_copyU (Hm.rf.up (by decide)) hW hx1 hx2 hx3 hx4 hx5 (fun z => ?_) (fun z _ => r2I rfl (iErr hI 1)) (fun z _ _ => ?_) (fun z _ _ _ => ?_) (fun z _ _ _ K g1 g2 => ?_)) <;> (exfalso; omega))
                          | (refine p2I (m_copyU (Hm.rf.up (by decide)) hW hx1 hx2 hx3 hx4 hx5 (fun z => ?_) (fun z _ => ?_) (fun z _ _ => r2I rfl (iErr hI 4)) (fun z _ _ _ => ?_) (fun z _ _ _ K g1 g2 => ?_)) <;> (exfalso; omega))
                          | (refine p2I (m_copyU (Hm.rf.up (by decide)) hW hx1 hx2 hx3 hx4 hx5 (fun z => ?_) (fun z _ => ?_) (fun z _ _ => ?_) (fun z _ _ _ => r2I rfl (iErr hI 2)) (fun z _ _ _ K g1 g2 => ?_)) <;> (exfalso; omega))
                          | (have hm : Hm M (cp3 M 43 x1 x2 x3 x4 x5) := fun q hq => by
                               funext i j
                               exact if_neg fun z => by omega
                             have hz : M 80 0 x1 = 1 ∧ M 80 0 x3 = 1 ∧ (0 ≤ x2 ∧ 0 ≤ x4 ∧ 0 ≤ x5 ∧ x2 + x5 ≤ M 82 0 x1 ∧ x4 + x5 ≤ M 82 0 x3) := by omega
                             refine p2I (m_copyU hm hW hx1 hx2 hx3 hx4 hx5 (fun z => ?_) (fun z y => ?_) (fun z y w => ?_) (fun z y w v => ?_) (fun z y w v K g1 g2 => r2I rfl (inv_copy hI hv hz.1 hz.2.1 hz.2.2 g1 (fun j => by rw [g2, hm 83 (by decide)]))))
                             · exact absurd hv z
                             · exfalso; omega
                             · exfalso; omega
                             · exfalso; omega)
                        · refine ⟨fun c12 => ?_, fun c12 => ?_⟩
                          · first
                            | (exfalso; omega)
                            | (refine p2I (m_copyU (Hm.rf.up (by decide)) hW hx1 hx2 hx3 hx4 hx5 (fun z => ?_) (fun z _ => r2I rfl (iErr hI 1)) (fun z _ _ => ?_) (fun z _ _ _ => ?_) (fun z _ _ _ K g1 g2 => ?_)) <;> (exfalso; omega))
                            | (refine p2I (m_copyU (Hm.rf.up (by decide)) hW hx1 hx2 hx3 hx4 hx5 (fun z => ?_) (fun z _ => ?_) (fun z _ _ => r2I rfl (iErr hI 4)) (fun z _ _ _ => ?_) (fun z _ _ _ K g1 g2 => ?_)) <;> (exfalso; omega))
                            | (refine p2I (m_copyU (Hm.rf.up (by decide)) hW hx1 hx2 hx3 hx4 hx5 (fun z => ?_) (fun z _ => ?_) (fun z _ _ => ?_) (fun z _ _ _ => r2I rfl (iErr hI 2)) (fun z _ _ _ K g1 g2 => ?_)) <;> (exfalso; omega))
                            | (have hm : Hm M (cp3 M 43 x1 x2 x3 x4 x5) := fun q hq => by
                                 funext i j
                                 exact if_neg fun z => by omega
                               have hz : M 80 0 x1 = 1 ∧ M 80 0 x3 = 1 ∧ (0 ≤ x2 ∧ 0 ≤ x4 ∧ 0 ≤ x5 ∧ x2 + x5 ≤ M 82 0 x1 ∧ x4 + x5 ≤ M 82 0 x3) := by omega
                               refine p2I (m_copyU hm hW hx1 hx2 hx3 hx4 hx5 (fun z => ?_) (fun z y => ?_) (fun z y w => ?_) (fun z y w v => ?_) (fun z y w v K g1 g2 => r2I rfl (inv_copy hI hv hz.1 hz.2.1 hz.2.2 g1 (fun j => by rw [g2, hm 83 (by decide)]))))
                               · exact absurd hv z
                               · exfalso; omega
                               · exfalso; omega
                               · exfalso; omega)
                          · refine ⟨?_, ?_⟩
                            · omega
                            refine ⟨fun c13 => ?_, fun c13 => ?_⟩
                            · first
                              | (exfalso; omega)
                              | (refine p2I (m_copyU (Hm.rf.up (by decide)) hW hx1 hx2 hx3 hx4 hx5 (fun z => ?_) (fun z _ => r2I rfl (iErr hI 1)) (fun z _ _ => ?_) (fun z _ _ _ => ?_) (fun z _ _ _ K g1 g2 => ?_)) <;> (exfalso; omega))
                              | (refine p2I (m_copyU (Hm.rf.up (by decide)) hW hx1 hx2 hx3 hx4 hx5 (fun z => ?_) (fun z _ => ?_) (fun z _ _ => r2I rfl (iErr hI 4)) (fun z _ _ _ => ?_) (fun z _ _ _ K g1 g2 => ?_)) <;> (exfalso; omega))
                              | (refine p2I (m_copyU (Hm.rf.up (by decide)) hW hx1 hx2 hx3 hx4 hx5 (fun z => ?_) (fun z _ => ?_) (fun z _ _ => ?_) (fun z _ _ _ => r2I rfl (iErr hI 2)) (fun z _ _ _ K g1 g2 => ?_)) <;> (exfalso; omega))
                              | (have hm : Hm M (cp3 M 43 x1 x2 x3 x4 x5) := fun q hq => by
                                   funext i j
                                   exact if_neg fun z => by omega
                                 have hz : M 80 0 x1 = 1 ∧ M 80 0 x3 = 1 ∧ (0 ≤ x2 ∧ 0 ≤ x4 ∧ 0 ≤ x5 ∧ x2 + x5 ≤ M 82 0 x1 ∧ x4 + x5 ≤ M 82 0 x3) := by omega
                                 refine p2I (m_copyU hm hW hx1 hx2 hx3 hx4 hx5 (fun z => ?_) (fun z y => ?_) (fun z y w => ?_) (fun z y w v => ?_) (fun z y w v K g1 g2 => r2I rfl (inv_copy hI hv hz.1 hz.2.1 hz.2.2 g1 (fun j => by rw [g2, hm 83 (by decide)]))))
                                 · exact absurd hv z
                                 · exfalso; omega
                                 · exfalso; omega
                                 · exfalso; omega)
                            · refine ⟨?_, ?_⟩
                              · omega
                              first
                              | (exfalso; omega)
                              | (refine p2I (m_copyU (Hm.rf.up (by decide)) hW hx1 hx2 hx3 hx4 hx5 (fun z => ?_) (fun z _ => r2I rfl (iErr hI 1)) (fun z _ _ => ?_) (fun z _ _ _ => ?_) (fun z _ _ _ K g1 g2 => ?_)) <;> (exfalso; omega))
                              | (refine p2I (m_copyU (Hm.rf.up (by decide)) hW hx1 hx2 hx3 hx4 hx5 (fun z => ?_) (fun z _ => ?_) (fun z _ _ => r2I rfl (iErr hI 4)) (fun z _ _ _ => ?_) (fun z _ _ _ K g1 g2 => ?_)) <;> (exfalso; omega))
                              | (refine p2I (m_copyU (Hm.rf.up (by decide)) hW hx1 hx2 hx3 hx4 hx5 (fun z => ?_) (fun z _ => ?_) (fun z _ _ => ?_) (fun z _ _ _ => r2I rfl (iErr hI 2)) (fun z _ _ _ K g1 g2 => ?_)) <;> (exfalso; omega))
                              | (have hm : Hm M (cp3 M 43 x1 x2 x3 x4 x5) := fun q hq => by
                                   funext i j
                                   exact if_neg fun z => by omega
                                 have hz : M 80 0 x1 = 1 ∧ M 80 0 x3 = 1 ∧ (0 ≤ x2 ∧ 0 ≤ x4 ∧ 0 ≤ x5 ∧ x2 + x5 ≤ M 82 0 x1 ∧ x4 + x5 ≤ M 82 0 x3) := by omega
                                 refine p2I (m_copyU hm hW hx1 hx2 hx3 hx4 hx5 (fun z => ?_) (fun z y => ?_) (fun z y w => ?_) (fun z y w v => ?_) (fun z y w v K g1 g2 => r2I rfl (inv_copy hI hv hz.1 hz.2.1 hz.2.2 g1 (fun j => by rw [g2, hm 83 (by decide)]))))
                                 · exact absurd hv z
                                 · exfalso; omega
                                 · exfalso; omega
                                 · exfalso; omega)
            · first
              | (exfalso; omega)
              | (refine p2I (m_copyU (Hm.rf.up (by decide)) hW hx1 hx2 hx3 hx4 hx5 (fun z => ?_) (fun z _ => r2I rfl (iErr hI 1)) (fun z _ _ => ?_) (fun z _ _ _ => ?_) (fun z _ _ _ K g1 g2 => ?_)) <;> (exfalso; omega))
              | (refine p2I (m_copyU (Hm.rf.up (by decide)) hW hx1 hx2 hx3 hx4 hx5 (fun z => ?_) (fun z _ => ?_) (fun z _ _ => r2I rfl (iErr hI 4)) (fun z _ _ _ => ?_) (fun z _ _ _ K g1 g2 => ?_)) <;> (exfalso; omega))
              | (refine p2I (m_copyU (Hm.rf.up (by decide)) hW hx1 hx2 hx3 hx4 hx5 (fun z => ?_) (fun z _ => ?_) (fun z _ _ => ?_) (fun z _ _ _ => r2I rfl (iErr hI 2)) (fun z _ _ _ K g1 g2 => ?_)) <;> (exfalso; omega))
              | (have hm : Hm M (cp3 M 43 x1 x2 x3 x4 x5) := fun q hq => by
                   funext i j
                   exact if_neg fun z => by omega
                 have hz : M 80 0 x1 = 1 ∧ M 80 0 x3 = 1 ∧ (0 ≤ x2 ∧ 0 ≤ x4 ∧ 0 ≤ x5 ∧ x2 + x5 ≤ M 82 0 x1 ∧ x4 + x5 ≤ M 82 0 x3) := by omega
                 refine p2I (m_copyU hm hW hx1 hx2 hx3 hx4 hx5 (fun z => ?_) (fun z y => ?_) (fun z y w => ?_) (fun z y w v => ?_) (fun z y w v K g1 g2 => r2I rfl (inv_copy hI hv hz.1 hz.2.1 hz.2.2 g1 (fun j => by rw [g2, hm 83 (by decide)]))))
                 · exact absurd hv z
                 · exfalso; omega
                 · exfalso; omega
                 · exfalso; omega)
          · first
            | (exfalso; omega)
            | (refine p2I (m_copyU (Hm.rf.up (by decide)) hW hx1 hx2 hx3 hx4 hx5 (fun z => ?_) (fun z _ => r2I rfl (iErr hI 1)) (fun z _ _ => ?_) (fun z _ _ _ => ?_) (fun z _ _ _ K g1 g2 => ?_)) <;> (exfalso; omega))
            | (refine p2I (m_copyU (Hm.rf.up (by decide)) hW hx1 hx2 hx3 hx4 hx5 (fun z => ?_) (fun z _ => ?_) (fun z _ _ => r2I rfl (iErr hI 4)) (fun z _ _ _ => ?_) (fun z _ _ _ K g1 g2 => ?_)) <;> (exfalso; omega))
            | (refine p2I (m_copyU (Hm.rf.up (by decide)) hW hx1 hx2 hx3 hx4 hx5 (fun z => ?_) (fun z _ => ?_) (fun z _ _ => ?_) (fun z _ _ _ => r2I rfl (iErr hI 2)) (fun z _ _ _ K g1 g2 => ?_)) <;> (exfalso; omega))
            | (have hm : Hm M (cp3 M 43 x1 x2 x3 x4 x5) := fun q hq => by
                 funext i j
                 exact if_neg fun z => by omega
               have hz : M 80 0 x1 = 1 ∧ M 80 0 x3 = 1 ∧ (0 ≤ x2 ∧ 0 ≤ x4 ∧ 0 ≤ x5 ∧ x2 + x5 ≤ M 82 0 x1 ∧ x4 + x5 ≤ M 82 0 x3) := by omega
               refine p2I (m_copyU hm hW hx1 hx2 hx3 hx4 hx5 (fun z => ?_) (fun z y => ?_) (fun z y w => ?_) (fun z y w v => ?_) (fun z y w v K g1 g2 => r2I rfl (inv_copy hI hv hz.1 hz.2.1 hz.2.2 g1 (fun j => by rw [g2, hm 83 (by decide)]))))
               · exact absurd hv z
               · exfalso; omega
               · exfalso; omega
               · exfalso; omega)
        · first
          | (exfalso; omega)
          | (refine p2I (m_copyU (Hm.rf.up (by decide)) hW hx1 hx2 hx3 hx4 hx5 (fun z => ?_) (fun z _ => r2I rfl (iErr hI 1)) (fun z _ _ => ?_) (fun z _ _ _ => ?_) (fun z _ _ _ K g1 g2 => ?_)) <;> (exfalso; omega))
          | (refine p2I (m_copyU (Hm.rf.up (by decide)) hW hx1 hx2 hx3 hx4 hx5 (fun z => ?_) (fun z _ => ?_) (fun z _ _ => r2I rfl (iErr hI 4)) (fun z _ _ _ => ?_) (fun z _ _ _ K g1 g2 => ?_)) <;> (exfalso; omega))
          | (refine p2I (m_copyU (Hm.rf.up (by decide)) hW hx1 hx2 hx3 hx4 hx5 (fun z => ?_) (fun z _ => ?_) (fun z _ _ => ?_) (fun z _ _ _ => r2I rfl (iErr hI 2)) (fun z _ _ _ K g1 g2 => ?_)) <;> (exfalso; omega))
          | (have hm : Hm M (cp3 M 43 x1 x2 x3 x4 x5) := fun q hq => by
               funext i j
               exact if_neg fun z => by omega
             have hz : M 80 0 x1 = 1 ∧ M 80 0 x3 = 1 ∧ (0 ≤ x2 ∧ 0 ≤ x4 ∧ 0 ≤ x5 ∧ x2 + x5 ≤ M 82 0 x1 ∧ x4 + x5 ≤ M 82 0 x3) := by omega
             refine p2I (m_copyU hm hW hx1 hx2 hx3 hx4 hx5 (fun z => ?_) (fun z y => ?_) (fun z y w => ?_) (fun z y w v => ?_) (fun z y w v K g1 g2 => r2I rfl (inv_copy hI hv hz.1 hz.2.1 hz.2.2 g1 (fun j => by rw [g2, hm 83 (by decide)]))))
             · exact absurd hv z
             · exfalso; omega
             · exfalso; omega
             · exfalso; omega)
      · first
        | (exfalso; omega)
        | (refine p2I (m_copyU (Hm.rf.up (by decide)) hW hx1 hx2 hx3 hx4 hx5 (fun z => ?_) (fun z _ => r2I rfl (iErr hI 1)) (fun z _ _ => ?_) (fun z _ _ _ => ?_) (fun z _ _ _ K g1 g2 => ?_)) <;> (exfalso; omega))
        | (refine p2I (m_copyU (Hm.rf.up (by decide)) hW hx1 hx2 hx3 hx4 hx5 (fun z => ?_) (fun z _ => ?_) (fun z _ _ => r2I rfl (iErr hI 4)) (fun z _ _ _ => ?_) (fun z _ _ _ K g1 g2 => ?_)) <;> (exfalso; omega))
        | (refine p2I (m_copyU (Hm.rf.up (by decide)) hW hx1 hx2 hx3 hx4 hx5 (fun z => ?_) (fun z _ => ?_) (fun z _ _ => ?_) (fun z _ _ _ => r2I rfl (iErr hI 2)) (fun z _ _ _ K g1 g2 => ?_)) <;> (exfalso; omega))
        | (have hm : Hm M (cp3 M 43 x1 x2 x3 x4 x5) := fun q hq => by
             funext i j
             exact if_neg fun z => by omega
           have hz : M 80 0 x1 = 1 ∧ M 80 0 x3 = 1 ∧ (0 ≤ x2 ∧ 0 ≤ x4 ∧ 0 ≤ x5 ∧ x2 + x5 ≤ M 82 0 x1 ∧ x4 + x5 ≤ M 82 0 x3) := by omega
           refine p2I (m_copyU hm hW hx1 hx2 hx3 hx4 hx5 (fun z => ?_) (fun z y => ?_) (fun z y w => ?_) (fun z y w v => ?_) (fun z y w v K g1 g2 => r2I rfl (inv_copy hI hv hz.1 hz.2.1 hz.2.2 g1 (fun j => by rw [g2, hm 83 (by decide)]))))
           · exact absurd hv z
           · exfalso; omega
           · exfalso; omega
           · exfalso; omega)
  · skip
    refine sX11_copy ?_
    refine ⟨?_, ?_⟩
    · first | omega | (exfalso; omega)
    refine ⟨fun c1 => ?_, fun c1 => ?_⟩
    · first
      | (exfalso; omega)
      | (refine p2I (m_copyU Hm.rf hW hx1 hx2 hx3 hx4 hx5 (fun z => r2I rfl hI) (fun z _ => ?_) (fun z _ _ => ?_) (fun z _ _ _ => ?_) (fun z _ _ _ K g1 g2 => ?_)) <;> (exfalso; omega))
    · refine ⟨?_, ?_⟩
      · first | omega | (exfalso; omega)
      refine ⟨fun c2 => ?_, fun c2 => ?_⟩
      · refine ⟨?_, ?_, ?_⟩
        · first | omega | (exfalso; omega)
        · first | omega | (exfalso; omega)
        refine ⟨fun c3 => ?_, fun c3 => ?_⟩
        · refine ⟨fun c4 => ?_, fun c4 => ?_⟩
          · refine ⟨fun c5 => ?_, fun c5 => ?_⟩
            · refine ⟨?_, ?_⟩
              · first | omega | (exfalso; omega)
              refine ⟨fun c6 => ?_, fun c6 => ?_⟩
              · first
                | (exfalso; omega)
                | (refine p2I (m_copyU Hm.rf hW hx1 hx2 hx3 hx4 hx5 (fun z => r2I rfl hI) (fun z _ => ?_) (fun z _ _ => ?_) (fun z _ _ _ => ?_) (fun z _ _ _ K g1 g2 => ?_)) <;> (exfalso; omega))
              · refine ⟨?_, ?_⟩
                · first | omega | (exfalso; omega)
                refine ⟨fun c7 => ?_, fun c7 => ?_⟩
                · first
                  | (exfalso; omega)
                  | (refine p2I (m_copyU Hm.rf hW hx1 hx2 hx3 hx4 hx5 (fun z => r2I rfl hI) (fun z _ => ?_) (fun z _ _ => ?_) (fun z _ _ _ => ?_) (fun z _ _ _ K g1 g2 => ?_)) <;> (exfalso; omega))
                · refine ⟨fun c8 => ?_, fun c8 => ?_⟩
                  · first
                    | (exfalso; omega)
                    | (refine p2I (m_copyU Hm.rf hW hx1 hx2 hx3 hx4 hx5 (fun z => r2I rfl hI) (fun z _ => ?_) (fun z _ _ => ?_) (fun z _ _ _ => ?_) (fun z _ _ _ K g1 g2 => ?_)) <;> (exfalso; omega))
                  · refine ⟨?_, ?_⟩
                    · first | omega | (exfalso; omega)
                    refine ⟨fun c9 => ?_, fun c9 => ?_⟩
                    · first
                      | (exfalso; omega)
                      | (refine p2I (m_copyU Hm.rf hW hx1 hx2 hx3 hx4 hx5 (fun z => r2I rfl hI) (fun z _ => ?_) (fun z _ _ => ?_) (fun z _ _ _ => ?_) (fun z _ _ _ K g1 g2 => ?_)) <;> (exfalso; omega))
                    · refine ⟨?_, ?_⟩
                      · first | omega | (exfalso; omega)
                      refine ⟨fun c10 => ?_, fun c10 => ?_⟩
                      · first
                        | (exfalso; omega)
                        | (refine p2I (m_copyU Hm.rf hW hx1 hx2 hx3 hx4 hx5 (fun z => r2I rfl hI) (fun z _ => ?_) (fun z _ _ => ?_) (fun z _ _ _ => ?_) (fun z _ _ _ K g1 g2 => ?_)) <;> (exfalso; omega))
                      · refine ⟨fun c11 => ?_, fun c11 => ?_⟩
                        · first
                          | (exfalso; omega)
                          | (refine p2I (m_copyU Hm.rf hW hx1 hx2 hx3 hx4 hx5 (fun z => r2I rfl hI) (fun z _ => ?_) (fun z _ _ => ?_) (fun z _ _ _ => ?_) (fun z _ _ _ K g1 g2 => ?_)) <;> (exfalso; omega))
                        · refine ⟨fun c12 => ?_, fun c12 => ?_⟩
                          · first
                            | (exfalso; omega)
                            | (refine p2I (m_copyU Hm.rf hW hx1 hx2 hx3 hx4 hx5 (fun z => r2I rfl hI) (fun z _ => ?_) (fun z _ _ => ?_) (fun z _ _ _ => ?_) (fun z _ _ _ K g1 g2 => ?_)) <;> (exfalso; omega))
                          · refine ⟨?_, ?_⟩
                            · first | omega | (exfalso; omega)
                            refine ⟨fun c13 => ?_, fun c13 => ?_⟩
                            · first
                              | (exfalso; omega)
                              | (refine p2I (m_copyU Hm.rf hW hx1 hx2 hx3 hx4 hx5 (fun z => r2I rfl hI) (fun z _ => ?_) (fun z _ _ => ?_) (fun z _ _ _ => ?_) (fun z _ _ _ K g1 g2 => ?_)) <;> (exfalso; omega))
                            · refine ⟨?_, ?_⟩
                              · first | omega | (exfalso; omega)
                              first
                              | (exfalso; omega)
                              | (refine p2I (m_copyU Hm.rf hW hx1 hx2 hx3 hx4 hx5 (fun z => r2I rfl hI) (fun z _ => ?_) (fun z _ _ => ?_) (fun z _ _ _ => ?_) (fun z _ _ _ K g1 g2 => ?_)) <;> (exfalso; omega))
            · first
              | (exfalso; omega)
              | (refine p2I (m_copyU Hm.rf hW hx1 hx2 hx3 hx4 hx5 (fun z => r2I rfl hI) (fun z _ => ?_) (fun z _ _ => ?_) (fun z _ _ _ => ?_) (fun z _ _ _ K g1 g2 => ?_)) <;> (exfalso; omega))
          · first
            | (exfalso; omega)
            | (refine p2I (m_copyU Hm.rf hW hx1 hx2 hx3 hx4 hx5 (fun z => r2I rfl hI) (fun z _ => ?_) (fun z _ _ => ?_) (fun z _ _ _ => ?_) (fun z _ _ _ K g1 g2 => ?_)) <;> (exfalso; omega))
        · first
          | (exfalso; omega)
          | (refine p2I (m_copyU Hm.rf hW hx1 hx2 hx3 hx4 hx5 (fun z => r2I rfl hI) (fun z _ => ?_) (fun z _ _ => ?_) (fun z _ _ _ => ?_) (fun z _ _ _ K g1 g2 => ?_)) <;> (exfalso; omega))
      · first
        | (exfalso; omega)
        | (refine p2I (m_copyU Hm.rf hW hx1 hx2 hx3 hx4 hx5 (fun z => r2I rfl hI) (fun z _ => ?_) (fun z _ _ => ?_) (fun z _ _ _ => ?_) (fun z _ _ _ K g1 g2 => ?_)) <;> (exfalso; omega))
