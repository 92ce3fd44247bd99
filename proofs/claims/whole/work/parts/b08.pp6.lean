/-! PAIRS: sheets, choices, answers -/
theorem iErr {M : M3} (hI : Inv M) (v : Int) : Inv (up3 (up3 M 0 0 9 v) 44 0 58 v) := by
  have f1 : ∀ q : Nat, q ∉ ([0, 44] : List Nat) → (up3 (up3 M 0 0 9 v) 44 0 58 v) q = M q := (fr_up (fr_up fr_rf (by decide)) (by decide))
  have f4 : ∀ j : Int, j ≠ 58 → (up3 (up3 M 0 0 9 v) 44 0 58 v) 44 0 j = M 44 0 j := fun j a0 => by rw [up3_nj a0, up3_nr (by decide)]
  have f5 : ∀ j : Int, j ≠ 9 → (up3 (up3 M 0 0 9 v) 44 0 58 v) 0 0 j = M 0 0 j := fun j a0 => by rw [up3_nr (by decide), up3_nj a0]
  have v1 : (up3 (up3 M 0 0 9 v) 44 0 58 v) 0 0 9 = v := by rw [up3_nr (by decide), up3_eq]
  have v2 : (up3 (up3 M 0 0 9 v) 44 0 58 v) 44 0 58 = v := by rw [up3_eq]
  generalize hN : up3 (up3 M 0 0 9 v) 44 0 58 v = N at f1 f4 f5 v1 v2 ⊢
  clear hN
  refine ⟨⟨⟨?_, (iLaw_of (by first | exact f1 _ (by decide) | rw [f1 _ (by decide)] | exact f4 _ (by decide) | exact f5 _ (by decide)) (by first | exact f1 _ (by decide) | rw [f1 _ (by decide)] | exact f4 _ (by decide) | exact f5 _ (by decide)) (by first | exact f1 _ (by decide) | rw [f1 _ (by decide)] | exact f4 _ (by decide) | exact f5 _ (by decide)) (by first | exact f1 _ (by decide) | rw [f1 _ (by decide)] | exact f4 _ (by decide) | exact f5 _ (by decide)) hI.1.1.2.1), (iCty_of (by first | exact f1 _ (by decide) | rw [f1 _ (by decide)] | exact f4 _ (by decide) | exact f5 _ (by decide)) (by first | exact f1 _ (by decide) | rw [f1 _ (by decide)] | exact f4 _ (by decide) | exact f5 _ (by decide)) (by first | exact f1 _ (by decide) | rw [f1 _ (by decide)] | exact f4 _ (by decide) | exact f5 _ (by decide)) (by first | exact f1 _ (by decide) | rw [f1 _ (by decide)] | exact f4 _ (by decide) | exact f5 _ (by decide)) (by first | exact f1 _ (by decide) | rw [f1 _ (by decide)] | exact f4 _ (by decide) | exact f5 _ (by decide)) (by first | exact f1 _ (by decide) | rw [f1 _ (by decide)] | exact f4 _ (by decide) | exact f5 _ (by decide)) (by first | exact f1 _ (by decide) | rw [f1 _ (by decide)] | exact f4 _ (by decide) | exact f5 _ (by decide)) (by first | exact f1 _ (by decide) | rw [f1 _ (by decide)] | exact f4 _ (by decide) | exact f5 _ (by decide)) (by first | exact f1 _ (by decide) | rw [f1 _ (by decide)] | exact f4 _ (by decide) | exact f5 _ (by decide)) (by first | exact f1 _ (by decide) | rw [f1 _ (by decide)] | exact f4 _ (by decide) | exact f5 _ (by decide)) hI.1.1.2.2.1), (iFrm_of (by first | exact f1 _ (by decide) | rw [f1 _ (by decide)] | exact f4 _ (by decide) | exact f5 _ (by decide)) (by first | exact f1 _ (by decide) | rw [f1 _ (by decide)] | exact f4 _ (by decide) | exact f5 _ (by decide)) (by first | exact f1 _ (by decide) | rw [f1 _ (by decide)] | exact f4 _ (by decide) | exact f5 _ (by decide)) (by first | exact f1 _ (by decide) | rw [f1 _ (by decide)] | exact f4 _ (by decide) | exact f5 _ (by decide)) (fun f j hj => by first | exact f1 _ (by decide) | rw [f1 _ (by decide)] | exact f4 _ (by decide) | exact f5 _ (by decide)) (by first | exact f1 _ (by decide) | rw [f1 _ (by decide)] | exact f4 _ (by decide) | exact f5 _ (by decide)) (by first | exact f1 _ (by decide) | rw [f1 _ (by decide)] | exact f4 _ (by decide) | exact f5 _ (by decide)) (by first | exact f1 _ (by decide) | rw [f1 _ (by decide)] | exact f4 _ (by decide) | exact f5 _ (by decide)) (by first | exact f1 _ (by decide) | rw [f1 _ (by decide)] | exact f4 _ (by decide) | exact f5 _ (by decide)) (by first | exact f1 _ (by decide) | rw [f1 _ (by decide)] | exact f4 _ (by decide) | exact f5 _ (by decide)) (by first | exact f1 _ (by decide) | rw [f1 _ (by decide)] | exact f4 _ (by decide) | exact f5 _ (by decide)) (by first | exact f1 _ (by decide) | rw [f1 _ (by decide)] | exact f4 _ (by decide) | exact f5 _ (by decide)) (by first | exact f1 _ (by decide) | rw [f1 _ (by decide)] | exact f4 _ (by decide) | exact f5 _ (by decide)) (by first | exact f1 _ (by decide) | rw [f1 _ (by decide)] | exact f4 _ (by decide) | exact f5 _ (by decide)) (by first | exact f1 _ (by decide) | rw [f1 _ (by decide)] | exact f4 _ (by decide) | exact f5 _ (by decide)) hI.1.1.2.2.2.1), (iOrd_of (by first | exact f1 _ (by decide) | rw [f1 _ (by decide)] | exact f4 _ (by decide) | exact f5 _ (by decide)) (by first | exact f1 _ (by decide) | rw [f1 _ (by decide)] | exact f4 _ (by decide) | exact f5 _ (by decide)) hI.1.1.2.2.2.2.1), (iLin_of (by first | exact f1 _ (by decide) | rw [f1 _ (by decide)] | exact f4 _ (by decide) | exact f5 _ (by decide)) (by first | exact f1 _ (by decide) | rw [f1 _ (by decide)] | exact f4 _ (by decide) | exact f5 _ (by decide)) (by first | exact f1 _ (by decide) | rw [f1 _ (by decide)] | exact f4 _ (by decide) | exact f5 _ (by decide)) (by first | exact f1 _ (by decide) | rw [f1 _ (by decide)] | exact f4 _ (by decide) | exact f5 _ (by decide)) (by first | exact f1 _ (by decide) | rw [f1 _ (by decide)] | exact f4 _ (by decide) | exact f5 _ (by decide)) (by first | exact f1 _ (by decide) | rw [f1 _ (by decide)] | exact f4 _ (by decide) | exact f5 _ (by decide)) (by first | exact f1 _ (by decide) | rw [f1 _ (by decide)] | exact f4 _ (by decide) | exact f5 _ (by decide)) (by first | exact f1 _ (by decide) | rw [f1 _ (by decide)] | exact f4 _ (by decide) | exact f5 _ (by decide)) (by first | exact f1 _ (by decide) | rw [f1 _ (by decide)] | exact f4 _ (by decide) | exact f5 _ (by decide)) (by first | exact f1 _ (by decide) | rw [f1 _ (by decide)] | exact f4 _ (by decide) | exact f5 _ (by decide)) (by first | exact f1 _ (by decide) | rw [f1 _ (by decide)] | exact f4 _ (by decide) | exact f5 _ (by decide)) (by first | exact f1 _ (by decide) | rw [f1 _ (by decide)] | exact f4 _ (by decide) | exact f5 _ (by decide)) (by first | exact f1 _ (by decide) | rw [f1 _ (by decide)] | exact f4 _ (by decide) | exact f5 _ (by decide)) (by first | exact f1 _ (by decide) | rw [f1 _ (by decide)] | exact f4 _ (by decide) | exact f5 _ (by decide)) (by first | exact f1 _ (by decide) | rw [f1 _ (by decide)] | exact f4 _ (by decide) | exact f5 _ (by decide)) (by first | exact f1 _ (by decide) | rw [f1 _ (by decide)] | exact f4 _ (by decide) | exact f5 _ (by decide)) (by first | exact f1 _ (by decide) | rw [f1 _ (by decide)] | exact f4 _ (by decide) | exact f5 _ (by decide)) hI.1.1.2.2.2.2.2.1), (iLst_of (by first | exact f1 _ (by decide) | rw [f1 _ (by decide)] | exact f4 _ (by decide) | exact f5 _ (by decide)) (by first | exact f1 _ (by decide) | rw [f1 _ (by decide)] | exact f4 _ (by decide) | exact f5 _ (by decide)) (by first | exact f1 _ (by decide) | rw [f1 _ (by decide)] | exact f4 _ (by decide) | exact f5 _ (by decide)) (by first | exact f1 _ (by decide) | rw [f1 _ (by decide)] | exact f4 _ (by decide) | exact f5 _ (by decide)) (by first | exact f1 _ (by decide) | rw [f1 _ (by decide)] | exact f4 _ (by decide) | exact f5 _ (by decide)) (by first | exact f1 _ (by decide) | rw [f1 _ (by decide)] | exact f4 _ (by decide) | exact f5 _ (by decide)) (by first | exact f1 _ (by decide) | rw [f1 _ (by decide)] | exact f4 _ (by decide) | exact f5 _ (by decide)) hI.1.1.2.2.2.2.2.2.1), (iSum_of (by first | exact f1 _ (by decide) | rw [f1 _ (by decide)] | exact f4 _ (by decide) | exact f5 _ (by decide)) (by first | exact f1 _ (by decide) | rw [f1 _ (by decide)] | exact f4 _ (by decide) | exact f5 _ (by decide)) (by first | exact f1 _ (by decide) | rw [f1 _ (by decide)] | exact f4 _ (by decide) | exact f5 _ (by decide)) (by first | exact f1 _ (by decide) | rw [f1 _ (by decide)] | exact f4 _ (by decide) | exact f5 _ (by decide)) (by first | exact f1 _ (by decide) | rw [f1 _ (by decide)] | exact f4 _ (by decide) | exact f5 _ (by decide)) (by first | exact f1 _ (by decide) | rw [f1 _ (by decide)] | exact f4 _ (by decide) | exact f5 _ (by decide)) (by first | exact f1 _ (by decide) | rw [f1 _ (by decide)] | exact f4 _ (by decide) | exact f5 _ (by decide)) (by first | exact f1 _ (by decide) | rw [f1 _ (by decide)] | exact f4 _ (by decide) | exact f5 _ (by decide)) (by first | exact f1 _ (by decide) | rw [f1 _ (by decide)] | exact f4 _ (by decide) | exact f5 _ (by decide)) hI.1.1.2.2.2.2.2.2.2.1), (iSht_of (by first | exact f1 _ (by decide) | rw [f1 _ (by decide)] | exact f4 _ (by decide) | exact f5 _ (by decide)) (by first | exact f1 _ (by decide) | rw [f1 _ (by decide)] | exact f4 _ (by decide) | exact f5 _ (by decide)) (by first | exact f1 _ (by decide) | rw [f1 _ (by decide)] | exact f4 _ (by decide) | exact f5 _ (by decide)) (by first | exact f1 _ (by decide) | rw [f1 _ (by decide)] | exact f4 _ (by decide) | exact f5 _ (by decide)) (by first | exact f1 _ (by decide) | rw [f1 _ (by decide)] | exact f4 _ (by decide) | exact f5 _ (by decide)) (by first | exact f1 _ (by decide) | rw [f1 _ (by decide)] | exact f4 _ (by decide) | exact f5 _ (by decide)) hI.1.1.2.2.2.2.2.2.2.2)⟩, (iW_of (by first | exact f1 _ (by decide) | rw [f1 _ (by decide)] | exact f4 _ (by decide) | exact f5 _ (by decide)) (by first | exact f1 _ (by decide) | rw [f1 _ (by decide)] | exact f4 _ (by decide) | exact f5 _ (by decide)) (by first | exact f1 _ (by decide) | rw [f1 _ (by decide)] | exact f4 _ (by decide) | exact f5 _ (by decide)) (by first | exact f1 _ (by decide) | rw [f1 _ (by decide)] | exact f4 _ (by decide) | exact f5 _ (by decide)) (by first | exact f1 _ (by decide) | rw [f1 _ (by decide)] | exact f4 _ (by decide) | exact f5 _ (by decide)) (by first | exact f1 _ (by decide) | rw [f1 _ (by decide)] | exact f4 _ (by decide) | exact f5 _ (by decide)) (by first | exact f1 _ (by decide) | rw [f1 _ (by decide)] | exact f4 _ (by decide) | exact f5 _ (by decide)) (by first | exact f1 _ (by decide) | rw [f1 _ (by decide)] | exact f4 _ (by decide) | exact f5 _ (by decide)) (by first | exact f1 _ (by decide) | rw [f1 _ (by decide)] | exact f4 _ (by decide) | exact f5 _ (by decide)) hI.1.2)⟩, (LwC_of (by first | exact f1 _ (by decide) | rw [f1 _ (by decide)] | exact f4 _ (by decide) | exact f5 _ (by decide)) (by first | exact f1 _ (by decide) | rw [f1 _ (by decide)] | exact f4 _ (by decide) | exact f5 _ (by decide)) (by first | exact f1 _ (by decide) | rw [f1 _ (by decide)] | exact f4 _ (by decide) | exact f5 _ (by decide)) (by first | exact f1 _ (by decide) | rw [f1 _ (by decide)] | exact f4 _ (by decide) | exact f5 _ (by decide)) (by first | exact f1 _ (by decide) | rw [f1 _ (by decide)] | exact f4 _ (by decide) | exact f5 _ (by decide)) (by first | exact f1 _ (by decide) | rw [f1 _ (by decide)] | exact f4 _ (by decide) | exact f5 _ (by decide)) (by first | exact f1 _ (by decide) | rw [f1 _ (by decide)] | exact f4 _ (by decide) | exact f5 _ (by decide)) (by first | exact f1 _ (by decide) | rw [f1 _ (by decide)] | exact f4 _ (by decide) | exact f5 _ (by decide)) (by first | exact f1 _ (by decide) | rw [f1 _ (by decide)] | exact f4 _ (by decide) | exact f5 _ (by decide)) (by first | exact f1 _ (by decide) | rw [f1 _ (by decide)] | exact f4 _ (by decide) | exact f5 _ (by decide)) hI.2.1), (RdC_of (by first | exact f1 _ (by decide) | rw [f1 _ (by decide)] | exact f4 _ (by decide) | exact f5 _ (by decide)) (by first | exact f1 _ (by decide) | rw [f1 _ (by decide)] | exact f4 _ (by decide) | exact f5 _ (by decide)) (by first | exact f1 _ (by decide) | rw [f1 _ (by decide)] | exact f4 _ (by decide) | exact f5 _ (by decide)) (by first | exact f1 _ (by decide) | rw [f1 _ (by decide)] | exact f4 _ (by decide) | exact f5 _ (by decide)) (by first | exact f1 _ (by decide) | rw [f1 _ (by decide)] | exact f4 _ (by decide) | exact f5 _ (by decide)) (by first | exact f1 _ (by decide) | rw [f1 _ (by decide)] | exact f4 _ (by decide) | exact f5 _ (by decide)) (by first | exact f1 _ (by decide) | rw [f1 _ (by decide)] | exact f4 _ (by decide) | exact f5 _ (by decide)) (by first | exact f1 _ (by decide) | rw [f1 _ (by decide)] | exact f4 _ (by decide) | exact f5 _ (by decide)) hI.2.2)⟩
  obtain ⟨b1, b2, b3, b4, b5⟩ := hI.1.1.1
  unfold iBas
  rw [v1, v2, f4 0 (by decide), f4 27 (by decide), f1 2 (by decide)]
  exact ⟨b1, b2, b3, b4, rfl⟩
theorem iLay {M : M3} {x1 x3 : Int} (hI : Inv M) (h1 : 0 ≤ x3) (h2 : x3 < 40) (v : Int) : Inv (up3 (up3 M 43 x1 x3 v) 83 0 (40 * x1 + x3) v) := by
  have f1 : ∀ q : Nat, q ∉ ([43, 83] : List Nat) → (up3 (up3 M 43 x1 x3 v) 83 0 (40 * x1 + x3) v) q = M q := fr_up (fr_up fr_rf (by decide)) (by decide)
  have f2 : ∀ s i : Int, 0 ≤ s → 0 ≤ i → i < 40 → M 43 s i = M 83 0 (40 * s + i) → (up3 (up3 M 43 x1 x3 v) 83 0 (40 * x1 + x3) v) 43 s i = (up3 (up3 M 43 x1 x3 v) 83 0 (40 * x1 + x3) v) 83 0 (40 * s + i) := fun s i a b c e => by
    rw [up3_nr (show (43 : Nat) ≠ 83 by decide)]
    by_cases z : s = x1
    · by_cases z2 : i = x3
      · rw [z, z2, up3_eq, up3_eq]
      · rw [z, up3_nj z2, up3_nj (by omega), up3_nr (by decide), ← z]
        exact e
    · rw [up3_ni z, up3_nj (by omega), up3_nr (by decide)]
      exact e
  generalize hN : up3 (up3 M 43 x1 x3 v) 83 0 (40 * x1 + x3) v = N at f1 f2 ⊢
  clear hN
  refine ⟨⟨⟨(iBas_of (by first | exact f1 _ (by decide) | rw [f1 _ (by decide)]) (by first | exact f1 _ (by decide) | rw [f1 _ (by decide)]) (by first | exact f1 _ (by decide) | rw [f1 _ (by decide)]) (by first | exact f1 _ (by decide) | rw [f1 _ (by decide)]) (by first | exact f1 _ (by decide) | rw [f1 _ (by decide)]) (by first | exact f1 _ (by decide) | rw [f1 _ (by decide)]) hI.1.1.1), (iLaw_of (by first | exact f1 _ (by decide) | rw [f1 _ (by decide)]) (by first | exact f1 _ (by decide) | rw [f1 _ (by decide)]) (by first | exact f1 _ (by decide) | rw [f1 _ (by decide)]) (by first | exact f1 _ (by decide) | rw [f1 _ (by decide)]) hI.1.1.2.1), (iCty_of (by first | exact f1 _ (by decide) | rw [f1 _ (by decide)]) (by first | exact f1 _ (by decide) | rw [f1 _ (by decide)]) (by first | exact f1 _ (by decide) | rw [f1 _ (by decide)]) (by first | exact f1 _ (by decide) | rw [f1 _ (by decide)]) (by first | exact f1 _ (by decide) | rw [f1 _ (by decide)]) (by first | exact f1 _ (by decide) | rw [f1 _ (by decide)]) (by first | exact f1 _ (by decide) | rw [f1 _ (by decide)]) (by first | exact f1 _ (by decide) | rw [f1 _ (by decide)]) (by first | exact f1 _ (by decide) | rw [f1 _ (by decide)]) (by first | exact f1 _ (by decide) | rw [f1 _ (by decide)]) hI.1.1.2.2.1), (iFrm_of (by first | exact f1 _ (by decide) | rw [f1 _ (by decide)]) (by first | exact f1 _ (by decide) | rw [f1 _ (by decide)]) (by first | exact f1 _ (by decide) | rw [f1 _ (by decide)]) (by first | exact f1 _ (by decide) | rw [f1 _ (by decide)]) (fun f j hj => by first | exact f1 _ (by decide) | rw [f1 _ (by decide)]) (by first | exact f1 _ (by decide) | rw [f1 _ (by decide)]) (by first | exact f1 _ (by decide) | rw [f1 _ (by decide)]) (by first | exact f1 _ (by decide) | rw [f1 _ (by decide)]) (by first | exact f1 _ (by decide) | rw [f1 _ (by decide)]) (by first | exact f1 _ (by decide) | rw [f1 _ (by decide)]) (by first | exact f1 _ (by decide) | rw [f1 _ (by decide)]) (by first | exact f1 _ (by decide) | rw [f1 _ (by decide)]) (by first | exact f1 _ (by decide) | rw [f1 _ (by decide)]) (by first | exact f1 _ (by decide) | rw [f1 _ (by decide)]) (by first | exact f1 _ (by decide) | rw [f1 _ (by decide)]) hI.1.1.2.2.2.1), (iOrd_of (by first | exact f1 _ (by decide) | rw [f1 _ (by decide)]) (by first | exact f1 _ (by decide) | rw [f1 _ (by decide)]) hI.1.1.2.2.2.2.1), (iLin_of (by first | exact f1 _ (by decide) | rw [f1 _ (by decide)]) (by first | exact f1 _ (by decide) | rw [f1 _ (by decide)]) (by first | exact f1 _ (by decide) | rw [f1 _ (by decide)]) (by first | exact f1 _ (by decide) | rw [f1 _ (by decide)]) (by first | exact f1 _ (by decide) | rw [f1 _ (by decide)]) (by first | exact f1 _ (by decide) | rw [f1 _ (by decide)]) (by first | exact f1 _ (by decide) | rw [f1 _ (by decide)]) (by first | exact f1 _ (by decide) | rw [f1 _ (by decide)]) (by first | exact f1 _ (by decide) | rw [f1 _ (by decide)]) (by first | exact f1 _ (by decide) | rw [f1 _ (by decide)]) (by first | exact f1 _ (by decide) | rw [f1 _ (by decide)]) (by first | exact f1 _ (by decide) | rw [f1 _ (by decide)]) (by first | exact f1 _ (by decide) | rw [f1 _ (by decide)]) (by first | exact f1 _ (by decide) | rw [f1 _ (by decide)]) (by first | exact f1 _ (by decide) | rw [f1 _ (by decide)]) (by first | exact f1 _ (by decide) | rw [f1 _ (by decide)]) (by first | exact f1 _ (by decide) | rw [f1 _ (by decide)]) hI.1.1.2.2.2.2.2.1), (iLst_of (by first | exact f1 _ (by decide) | rw [f1 _ (by decide)]) (by first | exact f1 _ (by decide) | rw [f1 _ (by decide)]) (by first | exact f1 _ (by decide) | rw [f1 _ (by decide)]) (by first | exact f1 _ (by decide) | rw [f1 _ (by decide)]) (by first | exact f1 _ (by decide) | rw [f1 _ (by decide)]) (by first | exact f1 _ (by decide) | rw [f1 _ (by decide)]) (by first | exact f1 _ (by decide) | rw [f1 _ (by decide)]) hI.1.1.2.2.2.2.2.2.1), (iSum_of (by first | exact f1 _ (by decide) | rw [f1 _ (by decide)]) (by first | exact f1 _ (by decide) | rw [f1 _ (by decide)]) (by first | exact f1 _ (by decide) | rw [f1 _ (by decide)]) (by first | exact f1 _ (by decide) | rw [f1 _ (by decide)]) (by first | exact f1 _ (by decide) | rw [f1 _ (by decide)]) (by first | exact f1 _ (by decide) | rw [f1 _ (by decide)]) (by first | exact f1 _ (by decide) | rw [f1 _ (by decide)]) (by first | exact f1 _ (by decide) | rw [f1 _ (by decide)]) (by first | exact f1 _ (by decide) | rw [f1 _ (by decide)]) hI.1.1.2.2.2.2.2.2.2.1), fun s a b => ?_⟩, (iW_of (by first | exact f1 _ (by decide) | rw [f1 _ (by decide)]) (by first | exact f1 _ (by decide) | rw [f1 _ (by decide)]) (by first | exact f1 _ (by decide) | rw [f1 _ (by decide)]) (by first | exact f1 _ (by decide) | rw [f1 _ (by decide)]) (by first | exact f1 _ (by decide) | rw [f1 _ (by decide)]) (by first | exact f1 _ (by decide) | rw [f1 _ (by decide)]) (by first | exact f1 _ (by decide) | rw [f1 _ (by decide)]) (by first | exact f1 _ (by decide) | rw [f1 _ (by decide)]) (by first | exact f1 _ (by decide) | rw [f1 _ (by decide)]) hI.1.2)⟩, (LwC_of (by first | exact f1 _ (by decide) | rw [f1 _ (by decide)]) (by first | exact f1 _ (by decide) | rw [f1 _ (by decide)]) (by first | exact f1 _ (by decide) | rw [f1 _ (by decide)]) (by first | exact f1 _ (by decide) | rw [f1 _ (by decide)]) (by first | exact f1 _ (by decide) | rw [f1 _ (by decide)]) (by first | exact f1 _ (by decide) | rw [f1 _ (by decide)]) (by first | exact f1 _ (by decide) | rw [f1 _ (by decide)]) (by first | exact f1 _ (by decide) | rw [f1 _ (by decide)]) (by first | exact f1 _ (by decide) | rw [f1 _ (by decide)]) (by first | exact f1 _ (by decide) | rw [f1 _ (by decide)]) hI.2.1), (RdC_of (by first | exact f1 _ (by decide) | rw [f1 _ (by decide)]) (by first | exact f1 _ (by decide) | rw [f1 _ (by decide)]) (by first | exact f1 _ (by decide) | rw [f1 _ (by decide)]) (by first | exact f1 _ (by decide) | rw [f1 _ (by decide)]) (by first | exact f1 _ (by decide) | rw [f1 _ (by decide)]) (by first | exact f1 _ (by decide) | rw [f1 _ (by decide)]) (by first | exact f1 _ (by decide) | rw [f1 _ (by decide)]) (by first | exact f1 _ (by decide) | rw [f1 _ (by decide)]) hI.2.2)⟩
  have w := hI.1.1.2.2.2.2.2.2.2.2 s a b
  unfold iS at w ⊢
  rw [f1 42 (by decide), f1 80 (by decide), f1 81 (by decide), f1 82 (by decide)]
  rcases w with w | ⟨w1, w2, w3, w4, w5, w6⟩
  · exact Or.inl w
  · exact Or.inr ⟨w1, w2, w3, w4, w5, fun i c d => f2 s i a c (by omega) (w6 i c d)⟩
theorem iLos {M : M3} {x1 : Int} (hI : Inv M) : Inv (up3 (up3 (up3 M 42 x1 0 (-1)) 42 x1 1 0) 80 0 x1 0) := by
  have f1 : ∀ q : Nat, q ∉ ([42, 80] : List Nat) → (up3 (up3 (up3 M 42 x1 0 (-1)) 42 x1 1 0) 80 0 x1 0) q = M q := fr_up (fr_up (fr_up fr_rf (by decide)) (by decide)) (by decide)
  have f2 : ∀ s j : Int, s ≠ x1 → (up3 (up3 (up3 M 42 x1 0 (-1)) 42 x1 1 0) 80 0 x1 0) 42 s j = M 42 s j := fun s j z => by rw [up3_nr (by decide), up3_ni z, up3_ni z]
  have f3 : ∀ s : Int, s ≠ x1 → (up3 (up3 (up3 M 42 x1 0 (-1)) 42 x1 1 0) 80 0 x1 0) 80 0 s = M 80 0 s := fun s z => by rw [up3_nj z, up3_nr (by decide), up3_nr (by decide)]
  have f4 : (up3 (up3 (up3 M 42 x1 0 (-1)) 42 x1 1 0) 80 0 x1 0) 42 x1 0 = -1 := by rw [up3_nr (by decide), up3_nj (by decide), up3_eq]
  have f5 : (up3 (up3 (up3 M 42 x1 0 (-1)) 42 x1 1 0) 80 0 x1 0) 80 0 x1 = 0 := up3_eq
  generalize hN : up3 (up3 (up3 M 42 x1 0 (-1)) 42 x1 1 0) 80 0 x1 0 = N at f1 f2 f3 f4 f5 ⊢
  clear hN
  refine ⟨⟨⟨(iBas_of (by first | exact f1 _ (by decide) | rw [f1 _ (by decide)]) (by first | exact f1 _ (by decide) | rw [f1 _ (by decide)]) (by first | exact f1 _ (by decide) | rw [f1 _ (by decide)]) (by first | exact f1 _ (by decide) | rw [f1 _ (by decide)]) (by first | exact f1 _ (by decide) | rw [f1 _ (by decide)]) (by first | exact f1 _ (by decide) | rw [f1 _ (by decide)]) hI.1.1.1), (iLaw_of (by first | exact f1 _ (by decide) | rw [f1 _ (by decide)]) (by first | exact f1 _ (by decide) | rw [f1 _ (by decide)]) (by first | exact f1 _ (by decide) | rw [f1 _ (by decide)]) (by first | exact f1 _ (by decide) | rw [f1 _ (by decide)]) hI.1.1.2.1), (iCty_of (by first | exact f1 _ (by decide) | rw [f1 _ (by decide)]) (by first | exact f1 _ (by decide) | rw [f1 _ (by decide)]) (by first | exact f1 _ (by decide) | rw [f1 _ (by decide)]) (by first | exact f1 _ (by decide) | rw [f1 _ (by decide)]) (by first | exact f1 _ (by decide) | rw [f1 _ (by decide)]) (by first | exact f1 _ (by decide) | rw [f1 _ (by decide)]) (by first | exact f1 _ (by decide) | rw [f1 _ (by decide)]) (by first | exact f1 _ (by decide) | rw [f1 _ (by decide)]) (by first | exact f1 _ (by decide) | rw [f1 _ (by decide)]) (by first | exact f1 _ (by decide) | rw [f1 _ (by decide)]) hI.1.1.2.2.1), (iFrm_of (by first | exact f1 _ (by decide) | rw [f1 _ (by decide)]) (by first | exact f1 _ (by decide) | rw [f1 _ (by decide)]) (by first | exact f1 _ (by decide) | rw [f1 _ (by decide)]) (by first | exact f1 _ (by decide) | rw [f1 _ (by decide)]) (fun f j hj => by first | exact f1 _ (by decide) | rw [f1 _ (by decide)]) (by first | exact f1 _ (by decide) | rw [f1 _ (by decide)]) (by first | exact f1 _ (by decide) | rw [f1 _ (by decide)]) (by first | exact f1 _ (by decide) | rw [f1 _ (by decide)]) (by first | exact f1 _ (by decide) | rw [f1 _ (by decide)]) (by first | exact f1 _ (by decide) | rw [f1 _ (by decide)]) (by first | exact f1 _ (by decide) | rw [f1 _ (by decide)]) (by first | exact f1 _ (by decide) | rw [f1 _ (by decide)]) (by first | exact f1 _ (by decide) | rw [f1 _ (by decide)]) (by first | exact f1 _ (by decide) | rw [f1 _ (by decide)]) (by first | exact f1 _ (by decide) | rw [f1 _ (by decide)]) hI.1.1.2.2.2.1), (iOrd_of (by first | exact f1 _ (by decide) | rw [f1 _ (by decide)]) (by first | exact f1 _ (by decide) | rw [f1 _ (by decide)]) hI.1.1.2.2.2.2.1), (iLin_of (by first | exact f1 _ (by decide) | rw [f1 _ (by decide)]) (by first | exact f1 _ (by decide) | rw [f1 _ (by decide)]) (by first | exact f1 _ (by decide) | rw [f1 _ (by decide)]) (by first | exact f1 _ (by decide) | rw [f1 _ (by decide)]) (by first | exact f1 _ (by decide) | rw [f1 _ (by decide)]) (by first | exact f1 _ (by decide) | rw [f1 _ (by decide)]) (by first | exact f1 _ (by decide) | rw [f1 _ (by decide)]) (by first | exact f1 _ (by decide) | rw [f1 _ (by decide)]) (by first | exact f1 _ (by decide) | rw [f1 _ (by decide)]) (by first | exact f1 _ (by decide) | rw [f1 _ (by decide)]) (by first | exact f1 _ (by decide) | rw [f1 _ (by decide)]) (by first | exact f1 _ (by decide) | rw [f1 _ (by decide)]) (by first | exact f1 _ (by decide) | rw [f1 _ (by decide)]) (by first | exact f1 _ (by decide) | rw [f1 _ (by decide)]) (by first | exact f1 _ (by decide) | rw [f1 _ (by decide)]) (by first | exact f1 _ (by decide) | rw [f1 _ (by decide)]) (by first | exact f1 _ (by decide) | rw [f1 _ (by decide)]) hI.1.1.2.2.2.2.2.1), (iLst_of (by first | exact f1 _ (by decide) | rw [f1 _ (by decide)]) (by first | exact f1 _ (by decide) | rw [f1 _ (by decide)]) (by first | exact f1 _ (by decide) | rw [f1 _ (by decide)]) (by first | exact f1 _ (by decide) | rw [f1 _ (by decide)]) (by first | exact f1 _ (by decide) | rw [f1 _ (by decide)]) (by first | exact f1 _ (by decide) | rw [f1 _ (by decide)]) (by first | exact f1 _ (by decide) | rw [f1 _ (by decide)]) hI.1.1.2.2.2.2.2.2.1), (iSum_of (by first | exact f1 _ (by decide) | rw [f1 _ (by decide)]) (by first | exact f1 _ (by decide) | rw [f1 _ (by decide)]) (by first | exact f1 _ (by decide) | rw [f1 _ (by decide)]) (by first | exact f1 _ (by decide) | rw [f1 _ (by decide)]) (by first | exact f1 _ (by decide) | rw [f1 _ (by decide)]) (by first | exact f1 _ (by decide) | rw [f1 _ (by decide)]) (by first | exact f1 _ (by decide) | rw [f1 _ (by decide)]) (by first | exact f1 _ (by decide) | rw [f1 _ (by decide)]) (by first | exact f1 _ (by decide) | rw [f1 _ (by decide)]) hI.1.1.2.2.2.2.2.2.2.1), fun s a b => ?_⟩, (iW_of (by first | exact f1 _ (by decide) | rw [f1 _ (by decide)]) (by first | exact f1 _ (by decide) | rw [f1 _ (by decide)]) (by first | exact f1 _ (by decide) | rw [f1 _ (by decide)]) (by first | exact f1 _ (by decide) | rw [f1 _ (by decide)]) (by first | exact f1 _ (by decide) | rw [f1 _ (by decide)]) (by first | exact f1 _ (by decide) | rw [f1 _ (by decide)]) (by first | exact f1 _ (by decide) | rw [f1 _ (by decide)]) (by first | exact f1 _ (by decide) | rw [f1 _ (by decide)]) (by first | exact f1 _ (by decide) | rw [f1 _ (by decide)]) hI.1.2)⟩, (LwC_of (by first | exact f1 _ (by decide) | rw [f1 _ (by decide)]) (by first | exact f1 _ (by decide) | rw [f1 _ (by decide)]) (by first | exact f1 _ (by decide) | rw [f1 _ (by decide)]) (by first | exact f1 _ (by decide) | rw [f1 _ (by decide)]) (by first | exact f1 _ (by decide) | rw [f1 _ (by decide)]) (by first | exact f1 _ (by decide) | rw [f1 _ (by decide)]) (by first | exact f1 _ (by decide) | rw [f1 _ (by decide)]) (by first | exact f1 _ (by decide) | rw [f1 _ (by decide)]) (by first | exact f1 _ (by decide) | rw [f1 _ (by decide)]) (by first | exact f1 _ (by decide) | rw [f1 _ (by decide)]) hI.2.1), (RdC_of (by first | exact f1 _ (by decide) | rw [f1 _ (by decide)]) (by first | exact f1 _ (by decide) | rw [f1 _ (by decide)]) (by first | exact f1 _ (by decide) | rw [f1 _ (by decide)]) (by first | exact f1 _ (by decide) | rw [f1 _ (by decide)]) (by first | exact f1 _ (by decide) | rw [f1 _ (by decide)]) (by first | exact f1 _ (by decide) | rw [f1 _ (by decide)]) (by first | exact f1 _ (by decide) | rw [f1 _ (by decide)]) (by first | exact f1 _ (by decide) | rw [f1 _ (by decide)]) hI.2.2)⟩
  by_cases z : s = x1
  · rw [z]
    exact Or.inl ⟨f5, f4⟩
  have w := hI.1.1.2.2.2.2.2.2.2.2 s a b
  unfold iS at w ⊢
  rw [f2 s 0 z, f2 s 1 z, f3 s z, f1 43 (by decide), f1 81 (by decide), f1 82 (by decide), f1 83 (by decide)]
  exact w
def a_lose (M : M3) (x1 : Int) : Int := if ¬ (0 ≤ x1 ∧ x1 ≤ 3) then -2 else if M 80 0 x1 = 0 then -11 else M 82 0 x1
def u_lose (M : M3) (x1 : Int) : M3 := if ¬ (0 ≤ x1 ∧ x1 ≤ 3) then M else if M 80 0 x1 = 0 then up3 M 0 0 9 1 else up3 (up3 M 42 x1 0 (-1)) 42 x1 1 0
def w_lose (M : M3) (x1 : Int) : M3 := if ¬ (0 ≤ x1 ∧ x1 ≤ 3) then M else if M 80 0 x1 = 0 then up3 M 44 0 58 1 else up3 M 80 0 x1 0
theorem c_lose {E : E3} {Q : Q3} {M : M3} {x1 : Int} (hI : Inv M) (hx1 : -2147483648 ≤ x1 ∧ x1 ≤ 2147483647) (k : Q (some (vI (a_lose M x1))) (u_lose M x1)) : C3 E YX11_lose [vR 0 0, vI x1] M Q := by
  refine c3_rm fun hM => ?_
  skip
  unfold a_lose u_lose at k
  by_cases hv : 0 ≤ x1 ∧ x1 ≤ 3
  · have hf : (M 80 0 x1 = 0 ∧ M 42 x1 0 = -1) ∨ ((M 80 0 x1 = 1 ∧ M 42 x1 0 = M 81 0 x1 ∧ M 42 x1 1 = M 82 0 x1 ∧ (0 ≤ M 81 0 x1 ∧ M 81 0 x1 ≤ 2) ∧ (0 ≤ M 82 0 x1 ∧ M 82 0 x1 ≤ 40))) := by
      rcases hI.1.1.2.2.2.2.2.2.2.2 x1 (by omega) (by omega) with w | ⟨w1, w2, w3, w4, w5, w6⟩
      · exact Or.inl w
      · refine Or.inr ⟨w1, w2, w3, w4, w5⟩
    refine sX11_lose ?_
    refine ⟨?_, ?_⟩
    · first | omega
    refine ⟨fun c1 => ?_, fun c1 => ?_⟩
    · refine ⟨?_, ?_⟩
      · first | omega
      refine ⟨fun c2 => ?_, fun c2 => ?_⟩
      · first
        | (repeat (first | rw [if_pos (by omega)] at k | rw [if_neg (by omega)] at k)
           exact qI (by omega) k)
        | (exfalso; omega)
      · first
        | (repeat (first | rw [if_pos (by omega)] at k | rw [if_neg (by omega)] at k)
           exact qI (by omega) k)
        | (exfalso; omega)
    · first
      | (repeat (first | rw [if_pos (by omega)] at k | rw [if_neg (by omega)] at k)
         exact qI (by omega) k)
      | (exfalso; omega)
  · skip
    refine sX11_lose ?_
    refine ⟨?_, ?_⟩
    · first | omega
    refine ⟨fun c1 => ?_, fun c1 => ?_⟩
    · refine ⟨?_, ?_⟩
      · first | omega
      refine ⟨fun c2 => ?_, fun c2 => ?_⟩
      · first
        | (repeat (first | rw [if_pos (by omega)] at k | rw [if_neg (by omega)] at k)
           exact qI (by omega) k)
        | (exfalso; omega)
      · first
        | (repeat (first | rw [if_pos (by omega)] at k | rw [if_neg (by omega)] at k)
           exact qI (by omega) k)
        | (exfalso; omega)
    · first
      | (repeat (first | rw [if_pos (by omega)] at k | rw [if_neg (by omega)] at k)
         exact qI (by omega) k)
      | (exfalso; omega)
theorem m_lose {E : E3} {Q : Q3} {M : M3} {x1 : Int} (hW : WM M) (hR : RdC M) (hx1 : -2147483648 ≤ x1 ∧ x1 ≤ 2147483647) (k : Q (some (vI (a_lose M x1))) (w_lose M x1)) : C3 E YX12_lose [vR 44 0, vI x1] M Q := by
  refine c3_rm fun hM => ?_
  have hs : (x1 < 0 ∨ 3 < x1) ∨ (M 80 0 x1 = 0 ∨ (M 80 0 x1 = 1 ∧ (0 ≤ M 81 0 x1 ∧ M 81 0 x1 ≤ 2) ∧ (0 ≤ M 82 0 x1 ∧ M 82 0 x1 ≤ 40))) := by
    by_cases z : 0 ≤ x1 ∧ x1 < 4
    · exact Or.inr (hW.2.2.1 x1 z.1 z.2)
    · exact Or.inl (by omega)
  unfold a_lose w_lose at k
  refine sX12_lose ?_
  refine ⟨?_, ?_⟩
  · first | omega
  refine ⟨fun c1 => ?_, fun c1 => ?_⟩
  · refine ⟨?_, ?_⟩
    · first | omega
    refine ⟨fun c2 => ?_, fun c2 => ?_⟩
    · first
      | (repeat (first | rw [if_pos (by omega)] at k | rw [if_neg (by omega)] at k)
         exact qI (by omega) k)
      | (exfalso; omega)
    · first
      | (repeat (first | rw [if_pos (by omega)] at k | rw [if_neg (by omega)] at k)
         exact qI (by omega) k)
      | (exfalso; omega)
  · first
    | (repeat (first | rw [if_pos (by omega)] at k | rw [if_neg (by omega)] at k)
       exact qI (by omega) k)
    | (exfalso; omega)
theorem a_lose_q {M N : M3} (h : Hm M N) (x1 : Int) : a_lose N x1 = a_lose M x1 := by unfold a_lose; simp only [h 80 (by decide), h 82 (by decide)]
theorem u_lose_h (M : M3) (x1 : Int) : Hm M (u_lose M x1) ∧ (RdC M → RdC (u_lose M x1)) := by
  unfold u_lose
  repeat' split
  all_goals first
    | exact ⟨(Hm.rf.up (by decide)).up (by decide), fun h => (h.up (by decide)).up (by decide)⟩
    | exact ⟨Hm.rf.up (by decide), fun h => h.up (by decide)⟩
    | exact ⟨Hm.rf, fun h => h⟩
theorem i_lose {M : M3} {x1 : Int} (hI : Inv M) (hx1 : -2147483648 ≤ x1 ∧ x1 ≤ 2147483647) : Inv (w_lose (u_lose M x1) x1) := by
  unfold u_lose
  by_cases c11 : ¬ (0 ≤ x1 ∧ x1 ≤ 3)
  · rw [if_pos c11]
    unfold w_lose
    rw [if_pos (by skip; exact c11)]
    exact hI
  rw [if_neg c11]
  by_cases c12 : M 80 0 x1 = 0
  · rw [if_pos c12]
    unfold w_lose
    rw [if_neg (by (try rw [up3_nr (show (80 : Nat) ≠ 0 by decide)]); (try rw [up3_nr (show (81 : Nat) ≠ 0 by decide)]); (try rw [up3_nr (show (82 : Nat) ≠ 0 by decide)]); exact c11), if_pos (by (try rw [up3_nr (show (80 : Nat) ≠ 0 by decide)]); (try rw [up3_nr (show (81 : Nat) ≠ 0 by decide)]); (try rw [up3_nr (show (82 : Nat) ≠ 0 by decide)]); exact c12)]
    exact iErr hI 1
  rw [if_neg c12]
  unfold w_lose
  rw [if_neg c11, if_neg (by rw [up3_nr (show (80 : Nat) ≠ 42 by decide), up3_nr (show (80 : Nat) ≠ 42 by decide)]; exact c12)]
  exact iLos hI
theorem p_lose {E : E3} {M : M3} {x1 : Int} (hI : Inv M) (hx1 : -2147483648 ≤ x1 ∧ x1 ≤ 2147483647) : C3 E YX11_lose [vR 0 0, vI x1] M (P2 E YX12_lose [vR 44 0, vI x1]) :=
  c_lose hI hx1 (p2I (m_lose (WM_q (u_lose_h M x1).1 hI.1.1.wm) ((u_lose_h M x1).2 hI.2.2) hx1 (r2I (svI (a_lose_q (u_lose_h M x1).1 x1)) (i_lose hI hx1))))
def a_get (M : M3) (x1 x2 x3 : Int) : Int := if ¬ ((0 ≤ x1 ∧ x1 ≤ 3) ∧ (0 ≤ x2 ∧ x2 ≤ 2)) then -2147483648 else if M 80 0 x1 = 0 then -2147483648 else if M 81 0 x1 ≠ x2 then -2147483648 else if ¬ (0 ≤ x3 ∧ x3 < M 82 0 x1) then -2147483648 else M 83 0 (40 * x1 + x3)
def u_get (M : M3) (x1 x2 x3 : Int) : M3 := if ¬ ((0 ≤ x1 ∧ x1 ≤ 3) ∧ (0 ≤ x2 ∧ x2 ≤ 2)) then M else if M 80 0 x1 = 0 then up3 M 0 0 9 1 else if M 81 0 x1 ≠ x2 then up3 M 0 0 9 3 else if ¬ (0 ≤ x3 ∧ x3 < M 82 0 x1) then up3 M 0 0 9 2 else M
def w_get (M : M3) (x1 x2 x3 : Int) : M3 := if ¬ ((0 ≤ x1 ∧ x1 ≤ 3) ∧ (0 ≤ x2 ∧ x2 ≤ 2)) then M else if M 80 0 x1 = 0 then up3 M 44 0 58 1 else if M 81 0 x1 ≠ x2 then up3 M 44 0 58 3 else if ¬ (0 ≤ x3 ∧ x3 < M 82 0 x1) then up3 M 44 0 58 2 else M
theorem c_get {E : E3} {Q : Q3} {M : M3} {x1 x2 x3 : Int} (hI : Inv M) (hx1 : -2147483648 ≤ x1 ∧ x1 ≤ 2147483647) (hx2 : -2147483648 ≤ x2 ∧ x2 ≤ 2147483647) (hx3 : -2147483648 ≤ x3 ∧ x3 ≤ 2147483647) (k : Q (some (vI (a_get M x1 x2 x3))) (u_get M x1 x2 x3)) : C3 E YX11_get [vR 0 0, vI x1, vI x2, vI x3] M Q := by
  refine c3_rm fun hM => ?_
  skip
  unfold a_get u_get at k
  by_cases hv : 0 ≤ x1 ∧ x1 ≤ 3
  · have hf : (M 80 0 x1 = 0 ∧ M 42 x1 0 = -1) ∨ ((M 80 0 x1 = 1 ∧ M 42 x1 0 = M 81 0 x1 ∧ M 42 x1 1 = M 82 0 x1 ∧ (0 ≤ M 81 0 x1 ∧ M 81 0 x1 ≤ 2) ∧ (0 ≤ M 82 0 x1 ∧ M 82 0 x1 ≤ 40)) ∧ (x3 < 0 ∨ M 82 0 x1 ≤ x3 ∨ M 43 x1 x3 = M 83 0 (40 * x1 + x3))) := by
      rcases hI.1.1.2.2.2.2.2.2.2.2 x1 (by omega) (by omega) with w | ⟨w1, w2, w3, w4, w5, w6⟩
      · exact Or.inl w
      · refine Or.inr ⟨⟨w1, w2, w3, w4, w5⟩, ?_⟩
        by_cases z : 0 ≤ x3
        · by_cases z2 : x3 < M 82 0 x1
          · exact Or.inr (Or.inr (w6 x3 z z2))
          · exact Or.inr (Or.inl (by omega))
        · exact Or.inl (by omega)
    refine sX11_get ?_
    refine ⟨?_, ?_⟩
    · first | omega
    refine ⟨fun c1 => ?_, fun c1 => ?_⟩
    · first
      | (repeat (first | rw [if_pos (by omega)] at k | rw [if_neg (by omega)] at k)
         exact qI (by omega) k)
      | (exfalso; omega)
    · refine ⟨?_, ?_⟩
      · first | omega
      refine ⟨fun c2 => ?_, fun c2 => ?_⟩
      · refine ⟨?_, ?_⟩
        · first | omega
        refine ⟨fun c3 => ?_, fun c3 => ?_⟩
        · refine ⟨?_, ?_⟩
          · first | omega
          refine ⟨fun c4 => ?_, fun c4 => ?_⟩
          · refine ⟨?_, ?_⟩
            · first | omega
            refine ⟨fun c5 => ?_, fun c5 => ?_⟩
            · first
              | (repeat (first | rw [if_pos (by omega)] at k | rw [if_neg (by omega)] at k)
                 exact qI (by omega) k)
              | (exfalso; omega)
            · refine ⟨fun c6 => ?_, fun c6 => ?_⟩
              · first
                | (repeat (first | rw [if_pos (by omega)] at k | rw [if_neg (by omega)] at k)
                   exact qI (by omega) k)
                | (exfalso; omega)
              · refine ⟨?_, ?_⟩
                · first | omega
                first
                | (repeat (first | rw [if_pos (by omega)] at k | rw [if_neg (by omega)] at k)
                   exact qI (by omega) k)
                | (exfalso; omega)
          · first
            | (repeat (first | rw [if_pos (by omega)] at k | rw [if_neg (by omega)] at k)
               exact qI (by omega) k)
            | (exfalso; omega)
        · first
          | (repeat (first | rw [if_pos (by omega)] at k | rw [if_neg (by omega)] at k)
             exact qI (by omega) k)
          | (exfalso; omega)
      · first
        | (repeat (first | rw [if_pos (by omega)] at k | rw [if_neg (by omega)] at k)
           exact qI (by omega) k)
        | (exfalso; omega)
  · skip
    refine sX11_get ?_
    refine ⟨?_, ?_⟩
    · first | omega
    refine ⟨fun c1 => ?_, fun c1 => ?_⟩
    · first
      | (repeat (first | rw [if_pos (by omega)] at k | rw [if_neg (by omega)] at k)
         exact qI (by omega) k)
      | (exfalso; omega)
    · refine ⟨?_, ?_⟩
      · first | omega
      refine ⟨fun c2 => ?_, fun c2 => ?_⟩
      · refine ⟨?_, ?_⟩
        · first | omega
        refine ⟨fun c3 => ?_, fun c3 => ?_⟩
        · refine ⟨?_, ?_⟩
          · first | omega
          refine ⟨fun c4 => ?_, fun c4 => ?_⟩
          · refine ⟨?_, ?_⟩
            · first | omega
            refine ⟨fun c5 => ?_, fun c5 => ?_⟩
            · first
              | (repeat (first | rw [if_pos (by omega)] at k | rw [if_neg (by omega)] at k)
                 exact qI (by omega) k)
              | (exfalso; omega)
            · refine ⟨fun c6 => ?_, fun c6 => ?_⟩
              · first
                | (repeat (first | rw [if_pos (by omega)] at k | rw [if_neg (by omega)] at k)
                   exact qI (by omega) k)
                | (exfalso; omega)
              · refine ⟨?_, ?_⟩
                · first | omega
                first
                | (repeat (first | rw [if_pos (by omega)] at k | rw [if_neg (by omega)] at k)
                   exact qI (by omega) k)
                | (exfalso; omega)
          · first
            | (repeat (first | rw [if_pos (by omega)] at k | rw [if_neg (by omega)] at k)
               exact qI (by omega) k)
            | (exfalso; omega)
        · first
          | (repeat (first | rw [if_pos (by omega)] at k | rw [if_neg (by omega)] at k)
             exact qI (by omega) k)
          | (exfalso; omega)
      · first
        | (repeat (first | rw [if_pos (by omega)] at k | rw [if_neg (by omega)] at k)
           exact qI (by omega) k)
        | (exfalso; omega)
theorem m_get {E : E3} {Q : Q3} {M : M3} {x1 x2 x3 : Int} (hW : WM M) (hR : RdC M) (hx1 : -2147483648 ≤ x1 ∧ x1 ≤ 2147483647) (hx2 : -2147483648 ≤ x2 ∧ x2 ≤ 2147483647) (hx3 : -2147483648 ≤ x3 ∧ x3 ≤ 2147483647) (k : Q (some (vI (a_get M x1 x2 x3))) (w_get M x1 x2 x3)) : C3 E YX12_get [vR 44 0, vI x1, vI x2, vI x3] M Q := by
  refine c3_rm fun hM => ?_
  have hs : (x1 < 0 ∨ 3 < x1) ∨ (M 80 0 x1 = 0 ∨ (M 80 0 x1 = 1 ∧ (0 ≤ M 81 0 x1 ∧ M 81 0 x1 ≤ 2) ∧ (0 ≤ M 82 0 x1 ∧ M 82 0 x1 ≤ 40))) := by
    by_cases z : 0 ≤ x1 ∧ x1 < 4
    · exact Or.inr (hW.2.2.1 x1 z.1 z.2)
    · exact Or.inl (by omega)
  unfold a_get w_get at k
  refine sX12_get ?_
  refine ⟨?_, ?_⟩
  · first | omega
  refine ⟨fun c1 => ?_, fun c1 => ?_⟩
  · first
    | (repeat (first | rw [if_pos (by omega)] at k | rw [if_neg (by omega)] at k)
       exact qI (by omega) k)
    | (exfalso; omega)
  · refine ⟨?_, ?_⟩
    · first | omega
    refine ⟨fun c2 => ?_, fun c2 => ?_⟩
    · refine ⟨?_, ?_⟩
      · first | omega
      refine ⟨fun c3 => ?_, fun c3 => ?_⟩
      · refine ⟨?_, ?_⟩
        · first | omega
        refine ⟨fun c4 => ?_, fun c4 => ?_⟩
        · refine ⟨?_, ?_⟩
          · first | omega
          refine ⟨fun c5 => ?_, fun c5 => ?_⟩
          · first
            | (repeat (first | rw [if_pos (by omega)] at k | rw [if_neg (by omega)] at k)
               exact qI (by omega) k)
            | (exfalso; omega)
          · refine ⟨?_, ?_⟩
            · first | omega
            first
            | (repeat (first | rw [if_pos (by omega)] at k | rw [if_neg (by omega)] at k)
               exact qI (by omega) k)
            | (exfalso; omega)
        · first
          | (repeat (first | rw [if_pos (by omega)] at k | rw [if_neg (by omega)] at k)
             exact qI (by omega) k)
          | (exfalso; omega)
      · first
        | (repeat (first | rw [if_pos (by omega)] at k | rw [if_neg (by omega)] at k)
           exact qI (by omega) k)
        | (exfalso; omega)
    · first
      | (repeat (first | rw [if_pos (by omega)] at k | rw [if_neg (by omega)] at k)
         exact qI (by omega) k)
      | (exfalso; omega)
theorem a_get_q {M N : M3} (h : Hm M N) (x1 x2 x3 : Int) : a_get N x1 x2 x3 = a_get M x1 x2 x3 := by unfold a_get; simp only [h 80 (by decide), h 81 (by decide), h 82 (by decide), h 83 (by decide)]
theorem u_get_h (M : M3) (x1 x2 x3 : Int) : Hm M (u_get M x1 x2 x3) ∧ (RdC M → RdC (u_get M x1 x2 x3)) := by
  unfold u_get
  repeat' split
  all_goals first
    | exact ⟨Hm.rf.up (by decide), fun h => h.up (by decide)⟩
    | exact ⟨Hm.rf, fun h => h⟩
theorem i_get {M : M3} {x1 x2 x3 : Int} (hI : Inv M) (hx1 : -2147483648 ≤ x1 ∧ x1 ≤ 2147483647) (hx2 : -2147483648 ≤ x2 ∧ x2 ≤ 2147483647) (hx3 : -2147483648 ≤ x3 ∧ x3 ≤ 2147483647) : Inv (w_get (u_get M x1 x2 x3) x1 x2 x3) := by
  unfold u_get
  by_cases c11 : ¬ ((0 ≤ x1 ∧ x1 ≤ 3) ∧ (0 ≤ x2 ∧ x2 ≤ 2))
  · rw [if_pos c11]
    unfold w_get
    rw [if_pos (by skip; exact c11)]
    exact hI
  rw [if_neg c11]
  by_cases c12 : M 80 0 x1 = 0
  · rw [if_pos c12]
    unfold w_get
    rw [if_neg (by (try rw [up3_nr (show (80 : Nat) ≠ 0 by decide)]); (try rw [up3_nr (show (81 : Nat) ≠ 0 by decide)]); (try rw [up3_nr (show (82 : Nat) ≠ 0 by decide)]); exact c11), if_pos (by (try rw [up3_nr (show (80 : Nat) ≠ 0 by decide)]); (try rw [up3_nr (show (81 : Nat) ≠ 0 by decide)]); (try rw [up3_nr (show (82 : Nat) ≠ 0 by decide)]); exact c12)]
    exact iErr hI 1
  rw [if_neg c12]
  by_cases c13 : M 81 0 x1 ≠ x2
  · rw [if_pos c13]
    unfold w_get
    rw [if_neg (by (try rw [up3_nr (show (80 : Nat) ≠ 0 by decide)]); (try rw [up3_nr (show (81 : Nat) ≠ 0 by decide)]); (try rw [up3_nr (show (82 : Nat) ≠ 0 by decide)]); exact c11), if_neg (by (try rw [up3_nr (show (80 : Nat) ≠ 0 by decide)]); (try rw [up3_nr (show (81 : Nat) ≠ 0 by decide)]); (try rw [up3_nr (show (82 : Nat) ≠ 0 by decide)]); exact c12), if_pos (by (try rw [up3_nr (show (80 : Nat) ≠ 0 by decide)]); (try rw [up3_nr (show (81 : Nat) ≠ 0 by decide)]); (try rw [up3_nr (show (82 : Nat) ≠ 0 by decide)]); exact c13)]
    exact iErr hI 3
  rw [if_neg c13]
  by_cases c14 : ¬ (0 ≤ x3 ∧ x3 < M 82 0 x1)
  · rw [if_pos c14]
    unfold w_get
    rw [if_neg (by (try rw [up3_nr (show (80 : Nat) ≠ 0 by decide)]); (try rw [up3_nr (show (81 : Nat) ≠ 0 by decide)]); (try rw [up3_nr (show (82 : Nat) ≠ 0 by decide)]); exact c11), if_neg (by (try rw [up3_nr (show (80 : Nat) ≠ 0 by decide)]); (try rw [up3_nr (show (81 : Nat) ≠ 0 by decide)]); (try rw [up3_nr (show (82 : Nat) ≠ 0 by decide)]); exact c12), if_neg (by (try rw [up3_nr (show (80 : Nat) ≠ 0 by decide)]); (try rw [up3_nr (show (81 : Nat) ≠ 0 by decide)]); (try rw [up3_nr (show (82 : Nat) ≠ 0 by decide)]); exact c13), if_pos (by (try rw [up3_nr (show (80 : Nat) ≠ 0 by decide)]); (try rw [up3_nr (show (81 : Nat) ≠ 0 by decide)]); (try rw [up3_nr (show (82 : Nat) ≠ 0 by decide)]); exact c14)]
    exact iErr hI 2
  rw [if_neg c14]
  unfold w_get
  rw [if_neg c11, if_neg c12, if_neg c13, if_neg c14]
  exact hI
theorem p_get {E : E3} {M : M3} {x1 x2 x3 : Int} (hI : Inv M) (hx1 : -2147483648 ≤ x1 ∧ x1 ≤ 2147483647) (hx2 : -2147483648 ≤ x2 ∧ x2 ≤ 2147483647) (hx3 : -2147483648 ≤ x3 ∧ x3 ≤ 2147483647) : C3 E YX11_get [vR 0 0, vI x1, vI x2, vI x3] M (P2 E YX12_get [vR 44 0, vI x1, vI x2, vI x3]) :=
  c_get hI hx1 hx2 hx3 (p2I (m_get (WM_q (u_get_h M x1 x2 x3).1 hI.1.1.wm) ((u_get_h M x1 x2 x3).2 hI.2.2) hx1 hx2 hx3 (r2I (svI (a_get_q (u_get_h M x1 x2 x3).1 x1 x2 x3)) (i_get hI hx1 hx2 hx3))))
def a_lay (M : M3) (x1 x2 x3 x4 : Int) : Int := if ¬ ((0 ≤ x1 ∧ x1 ≤ 3) ∧ (0 ≤ x2 ∧ x2 ≤ 2)) then -2 else if M 80 0 x1 = 0 then -11 else if M 81 0 x1 ≠ x2 then -13 else if ¬ (0 ≤ x3 ∧ x3 < M 82 0 x1) then -12 else if M 81 0 x1 = 0 then 1 else if M 81 0 x1 = 1 then 1 else 1
def uu_lay (M : M3) (x1 x2 x3 x4 : Int) : M3 := if ¬ ((0 ≤ x1 ∧ x1 ≤ 3) ∧ (0 ≤ x2 ∧ x2 ≤ 2)) then M else if M 80 0 x1 = 0 then up3 M 0 0 9 1 else if M 81 0 x1 ≠ x2 then up3 M 0 0 9 3 else if ¬ (0 ≤ x3 ∧ x3 < M 82 0 x1) then up3 M 0 0 9 2 else if M 81 0 x1 = 0 then up3 M 43 x1 x3 (i2b3 x4) else if M 81 0 x1 = 1 then up3 M 43 x1 x3 (i2s3 x4) else up3 M 43 x1 x3 (x4)
def w_lay (M : M3) (x1 x2 x3 x4 : Int) : M3 := if ¬ ((0 ≤ x1 ∧ x1 ≤ 3) ∧ (0 ≤ x2 ∧ x2 ≤ 2)) then M else if M 80 0 x1 = 0 then up3 M 44 0 58 1 else if M 81 0 x1 ≠ x2 then up3 M 44 0 58 3 else if ¬ (0 ≤ x3 ∧ x3 < M 82 0 x1) then up3 M 44 0 58 2 else if M 81 0 x1 = 0 then up3 M 83 0 (40 * x1 + x3) (i2b3 x4) else if M 81 0 x1 = 1 then up3 M 83 0 (40 * x1 + x3) (i2s3 x4) else up3 M 83 0 (40 * x1 + x3) (x4)
theorem c_lay {E : E3} {Q : Q3} {M : M3} {x1 x2 x3 x4 : Int} (hI : Inv M) (hx1 : -2147483648 ≤ x1 ∧ x1 ≤ 2147483647) (hx2 : -2147483648 ≤ x2 ∧ x2 ≤ 2147483647) (hx3 : -2147483648 ≤ x3 ∧ x3 ≤ 2147483647) (hx4 : -2147483648 ≤ x4 ∧ x4 ≤ 2147483647) (k : Q (some (vI (a_lay M x1 x2 x3 x4))) (uu_lay M x1 x2 x3 x4)) : C3 E YX11_lay [vR 0 0, vI x1, vI x2, vI x3, vI x4] M Q := by
  refine c3_rm fun hM => ?_
  skip
  unfold a_lay uu_lay at k
  by_cases hv : 0 ≤ x1 ∧ x1 ≤ 3
  · have hf : (M 80 0 x1 = 0 ∧ M 42 x1 0 = -1) ∨ ((M 80 0 x1 = 1 ∧ M 42 x1 0 = M 81 0 x1 ∧ M 42 x1 1 = M 82 0 x1 ∧ (0 ≤ M 81 0 x1 ∧ M 81 0 x1 ≤ 2) ∧ (0 ≤ M 82 0 x1 ∧ M 82 0 x1 ≤ 40))) := by
      rcases hI.1.1.2.2.2.2.2.2.2.2 x1 (by omega) (by omega) with w | ⟨w1, w2, w3, w4, w5, w6⟩
      · exact Or.inl w
      · refine Or.inr ⟨w1, w2, w3, w4, w5⟩
    refine sX11_lay ?_
    refine ⟨?_, ?_⟩
    · first | omega
    refine ⟨fun c1 => ?_, fun c1 => ?_⟩
    · first
      | (repeat (first | rw [if_pos (by omega)] at k | rw [if_neg (by omega)] at k)
         exact qI (by omega) k)
      | (exfalso; omega)
    · refine ⟨?_, ?_⟩
      · first | omega
      refine ⟨fun c2 => ?_, fun c2 => ?_⟩
      · refine ⟨?_, ?_⟩
        · first | omega
        refine ⟨fun c3 => ?_, fun c3 => ?_⟩
        · refine ⟨?_, ?_⟩
          · first | omega
          refine ⟨fun c4 => ?_, fun c4 => ?_⟩
          · refine ⟨?_, ?_⟩
            · first | omega
            refine ⟨fun c5 => ?_, fun c5 => ?_⟩
            · first
              | (repeat (first | rw [if_pos (by omega)] at k | rw [if_neg (by omega)] at k)
                 exact qI (by omega) k)
              | (exfalso; omega)
            · refine ⟨fun c6 => ?_, fun c6 => ?_⟩
              · first
                | (repeat (first | rw [if_pos (by omega)] at k | rw [if_neg (by omega)] at k)
                   exact qI (by omega) k)
                | (exfalso; omega)
              · refine ⟨fun c7 => ?_, fun c7 => ?_⟩
                · refine ⟨?_, ?_⟩
                  · first | omega
                  first
                  | (repeat (first | rw [if_pos (by omega)] at k | rw [if_neg (by omega)] at k)
                     exact qI (by omega) k)
                  | (exfalso; omega)
                · refine ⟨fun c8 => ?_, fun c8 => ?_⟩
                  · refine ⟨?_, ?_⟩
                    · first | omega
                    first
                    | (repeat (first | rw [if_pos (by omega)] at k | rw [if_neg (by omega)] at k)
                       exact qI (by omega) k)
                    | (exfalso; omega)
                  · refine ⟨?_, ?_, ?_⟩
                    · first | omega
                    · first | omega
                    first
                    | (repeat (first | rw [if_pos (by omega)] at k | rw [if_neg (by omega)] at k)
                       exact qI (by omega) k)
                    | (exfalso; omega)
          · first
            | (repeat (first | rw [if_pos (by omega)] at k | rw [if_neg (by omega)] at k)
               exact qI (by omega) k)
            | (exfalso; omega)
        · first
          | (repeat (first | rw [if_pos (by omega)] at k | rw [if_neg (by omega)] at k)
             exact qI (by omega) k)
          | (exfalso; omega)
      · first
        | (repeat (first | rw [if_pos (by omega)] at k | rw [if_neg (by omega)] at k)
           exact qI (by omega) k)
        | (exfalso; omega)
  · skip
    refine sX11_lay ?_
    refine ⟨?_, ?_⟩
    · first | omega
    refine ⟨fun c1 => ?_, fun c1 => ?_⟩
    · first
      | (repeat (first | rw [if_pos (by omega)] at k | rw [if_neg (by omega)] at k)
         exact qI (by omega) k)
      | (exfalso; omega)
    · refine ⟨?_, ?_⟩
      · first | omega
      refine ⟨fun c2 => ?_, fun c2 => ?_⟩
      · refine ⟨?_, ?_⟩
        · first | omega
        refine ⟨fun c3 => ?_, fun c3 => ?_⟩
        · refine ⟨?_, ?_⟩
          · first | omega
          refine ⟨fun c4 => ?_, fun c4 => ?_⟩
          · refine ⟨?_, ?_⟩
            · first | omega
            refine ⟨fun c5 => ?_, fun c5 => ?_⟩
            · first
              | (repeat (first | rw [if_pos (by omega)] at k | rw [if_neg (by omega)] at k)
                 exact qI (by omega) k)
              | (exfalso; omega)
            · refine ⟨fun c6 => ?_, fun c6 => ?_⟩
              · first
                | (repeat (first | rw [if_pos (by omega)] at k | rw [if_neg (by omega)] at k)
                   exact qI (by omega) k)
                | (exfalso; omega)
              · refine ⟨fun c7 => ?_, fun c7 => ?_⟩
                · refine ⟨?_, ?_⟩
                  · first | omega
                  first
                  | (repeat (first | rw [if_pos (by omega)] at k | rw [if_neg (by omega)] at k)
                     exact qI (by omega) k)
                  | (exfalso; omega)
                · refine ⟨fun c8 => ?_, fun c8 => ?_⟩
                  · refine ⟨?_, ?_⟩
                    · first | omega
                    first
                    | (repeat (first | rw [if_pos (by omega)] at k | rw [if_neg (by omega)] at k)
                       exact qI (by omega) k)
                    | (exfalso; omega)
                  · refine ⟨?_, ?_, ?_⟩
                    · first | omega
                    · first | omega
                    first
                    | (repeat (first | rw [if_pos (by omega)] at k | rw [if_neg (by omega)] at k)
                       exact qI (by omega) k)
                    | (exfalso; omega)
          · first
            | (repeat (first | rw [if_pos (by omega)] at k | rw [if_neg (by omega)] at k)
               exact qI (by omega) k)
            | (exfalso; omega)
        · first
          | (repeat (first | rw [if_pos (by omega)] at k | rw [if_neg (by omega)] at k)
             exact qI (by omega) k)
          | (exfalso; omega)
      · first
        | (repeat (first | rw [if_pos (by omega)] at k | rw [if_neg (by omega)] at k)
           exact qI (by omega) k)
        | (exfalso; omega)
theorem m_lay {E : E3} {Q : Q3} {M : M3} {x1 x2 x3 x4 : Int} (hW : WM M) (hR : RdC M) (hx1 : -2147483648 ≤ x1 ∧ x1 ≤ 2147483647) (hx2 : -2147483648 ≤ x2 ∧ x2 ≤ 2147483647) (hx3 : -2147483648 ≤ x3 ∧ x3 ≤ 2147483647) (hx4 : -2147483648 ≤ x4 ∧ x4 ≤ 2147483647) (k : Q (some (vI (a_lay M x1 x2 x3 x4))) (w_lay M x1 x2 x3 x4)) : C3 E YX12_lay [vR 44 0, vI x1, vI x2, vI x3, vI x4] M Q := by
  refine c3_rm fun hM => ?_
  have hs : (x1 < 0 ∨ 3 < x1) ∨ (M 80 0 x1 = 0 ∨ (M 80 0 x1 = 1 ∧ (0 ≤ M 81 0 x1 ∧ M 81 0 x1 ≤ 2) ∧ (0 ≤ M 82 0 x1 ∧ M 82 0 x1 ≤ 40))) := by
    by_cases z : 0 ≤ x1 ∧ x1 < 4
    · exact Or.inr (hW.2.2.1 x1 z.1 z.2)
    · exact Or.inl (by omega)
  unfold a_lay w_lay at k
  refine sX12_lay ?_
  refine ⟨?_, ?_⟩
  · first | omega
  refine ⟨fun c1 => ?_, fun c1 => ?_⟩
  · first
    | (repeat (first | rw [if_pos (by omega)] at k | rw [if_neg (by omega)] at k)
       exact qI (by omega) k)
    | (exfalso; omega)
  · refine ⟨?_, ?_⟩
    · first | omega
    refine ⟨fun c2 => ?_, fun c2 => ?_⟩
    · refine ⟨?_, ?_⟩
      · first | omega
      refine ⟨fun c3 => ?_, fun c3 => ?_⟩
      · refine ⟨?_, ?_⟩
        · first | omega
        refine ⟨fun c4 => ?_, fun c4 => ?_⟩
        · refine ⟨?_, ?_⟩
          · first | omega
          refine ⟨fun c5 => ?_, fun c5 => ?_⟩
          · first
            | (repeat (first | rw [if_pos (by omega)] at k | rw [if_neg (by omega)] at k)
               exact qI (by omega) k)
            | (exfalso; omega)
          · refine ⟨fun c6 => ?_, fun c6 => ?_⟩
            · refine ⟨fun c7 => ?_, fun c7 => ?_⟩
              · refine ⟨?_, ?_, ?_⟩
                · first | omega
                · first | omega
                first
                | (repeat (first | rw [if_pos (by omega)] at k | rw [if_neg (by omega)] at k)
                   exact qI (by omega) k)
                | (exfalso; omega)
              · refine ⟨?_, ?_⟩
                · first | omega
                first
                | (repeat (first | rw [if_pos (by omega)] at k | rw [if_neg (by omega)] at k)
                   exact qI (by omega) k)
                | (exfalso; omega)
            · refine ⟨?_, ?_⟩
              · first | omega
              first
              | (repeat (first | rw [if_pos (by omega)] at k | rw [if_neg (by omega)] at k)
                 exact qI (by omega) k)
              | (exfalso; omega)
        · first
          | (repeat (first | rw [if_pos (by omega)] at k | rw [if_neg (by omega)] at k)
             exact qI (by omega) k)
          | (exfalso; omega)
      · first
        | (repeat (first | rw [if_pos (by omega)] at k | rw [if_neg (by omega)] at k)
           exact qI (by omega) k)
        | (exfalso; omega)
    · first
      | (repeat (first | rw [if_pos (by omega)] at k | rw [if_neg (by omega)] at k)
         exact qI (by omega) k)
      | (exfalso; omega)
theorem a_lay_q {M N : M3} (h : Hm M N) (x1 x2 x3 x4 : Int) : a_lay N x1 x2 x3 x4 = a_lay M x1 x2 x3 x4 := by unfold a_lay; simp only [h 80 (by decide), h 81 (by decide), h 82 (by decide)]
theorem uu_lay_h (M : M3) (x1 x2 x3 x4 : Int) : Hm M (uu_lay M x1 x2 x3 x4) ∧ (RdC M → RdC (uu_lay M x1 x2 x3 x4)) := by
  unfold uu_lay
  repeat' split
  all_goals first
    | exact ⟨Hm.rf.up (by decide), fun h => h.up (by decide)⟩
    | exact ⟨Hm.rf, fun h => h⟩
theorem i_lay {M : M3} {x1 x2 x3 x4 : Int} (hI : Inv M) (hx1 : -2147483648 ≤ x1 ∧ x1 ≤ 2147483647) (hx2 : -2147483648 ≤ x2 ∧ x2 ≤ 2147483647) (hx3 : -2147483648 ≤ x3 ∧ x3 ≤ 2147483647) (hx4 : -2147483648 ≤ x4 ∧ x4 ≤ 2147483647) : Inv (w_lay (uu_lay M x1 x2 x3 x4) x1 x2 x3 x4) := by
  have h82 : (x1 < 0 ∨ 3 < x1) ∨ M 80 0 x1 = 0 ∨ M 82 0 x1 ≤ 40 := by
    by_cases z : 0 ≤ x1 ∧ x1 < 4
    · rcases hI.1.1.2.2.2.2.2.2.2.2 x1 z.1 z.2 with w | w
      · exact Or.inr (Or.inl w.1)
      · exact Or.inr (Or.inr w.2.2.2.2.1.2)
    · exact Or.inl (by omega)
  unfold uu_lay
  by_cases c11 : ¬ ((0 ≤ x1 ∧ x1 ≤ 3) ∧ (0 ≤ x2 ∧ x2 ≤ 2))
  · rw [if_pos c11]
    unfold w_lay
    rw [if_pos (by skip; exact c11)]
    exact hI
  rw [if_neg c11]
  by_cases c12 : M 80 0 x1 = 0
  · rw [if_pos c12]
    unfold w_lay
    rw [if_neg (by (try rw [up3_nr (show (80 : Nat) ≠ 0 by decide)]); (try rw [up3_nr (show (81 : Nat) ≠ 0 by decide)]); (try rw [up3_nr (show (82 : Nat) ≠ 0 by decide)]); exact c11), if_pos (by (try rw [up3_nr (show (80 : Nat) ≠ 0 by decide)]); (try rw [up3_nr (show (81 : Nat) ≠ 0 by decide)]); (try rw [up3_nr (show (82 : Nat) ≠ 0 by decide)]); exact c12)]
    exact iErr hI 1
  rw [if_neg c12]
  by_cases c13 : M 81 0 x1 ≠ x2
  · rw [if_pos c13]
    unfold w_lay
    rw [if_neg (by (try rw [up3_nr (show (80 : Nat) ≠ 0 by decide)]); (try rw [up3_nr (show (81 : Nat) ≠ 0 by decide)]); (try rw [up3_nr (show (82 : Nat) ≠ 0 by decide)]); exact c11), if_neg (by (try rw [up3_nr (show (80 : Nat) ≠ 0 by decide)]); (try rw [up3_nr (show (81 : Nat) ≠ 0 by decide)]); (try rw [up3_nr (show (82 : Nat) ≠ 0 by decide)]); exact c12), if_pos (by (try rw [up3_nr (show (80 : Nat) ≠ 0 by decide)]); (try rw [up3_nr (show (81 : Nat) ≠ 0 by decide)]); (try rw [up3_nr (show (82 : Nat) ≠ 0 by decide)]); exact c13)]
    exact iErr hI 3
  rw [if_neg c13]
  by_cases c14 : ¬ (0 ≤ x3 ∧ x3 < M 82 0 x1)
  · rw [if_pos c14]
    unfold w_lay
    rw [if_neg (by (try rw [up3_nr (show (80 : Nat) ≠ 0 by decide)]); (try rw [up3_nr (show (81 : Nat) ≠ 0 by decide)]); (try rw [up3_nr (show (82 : Nat) ≠ 0 by decide)]); exact c11), if_neg (by (try rw [up3_nr (show (80 : Nat) ≠ 0 by decide)]); (try rw [up3_nr (show (81 : Nat) ≠ 0 by decide)]); (try rw [up3_nr (show (82 : Nat) ≠ 0 by decide)]); exact c12), if_neg (by (try rw [up3_nr (show (80 : Nat) ≠ 0 by decide)]); (try rw [up3_nr (show (81 : Nat) ≠ 0 by decide)]); (try rw [up3_nr (show (82 : Nat) ≠ 0 by decide)]); exact c13), if_pos (by (try rw [up3_nr (show (80 : Nat) ≠ 0 by decide)]); (try rw [up3_nr (show (81 : Nat) ≠ 0 by decide)]); (try rw [up3_nr (show (82 : Nat) ≠ 0 by decide)]); exact c14)]
    exact iErr hI 2
  rw [if_neg c14]
  by_cases c15 : M 81 0 x1 = 0
  · rw [if_pos c15]
    unfold w_lay
    rw [if_neg (by (try rw [up3_nr (show (80 : Nat) ≠ 43 by decide)]); (try rw [up3_nr (show (81 : Nat) ≠ 43 by decide)]); (try rw [up3_nr (show (82 : Nat) ≠ 43 by decide)]); exact c11), if_neg (by (try rw [up3_nr (show (80 : Nat) ≠ 43 by decide)]); (try rw [up3_nr (show (81 : Nat) ≠ 43 by decide)]); (try rw [up3_nr (show (82 : Nat) ≠ 43 by decide)]); exact c12), if_neg (by (try rw [up3_nr (show (80 : Nat) ≠ 43 by decide)]); (try rw [up3_nr (show (81 : Nat) ≠ 43 by decide)]); (try rw [up3_nr (show (82 : Nat) ≠ 43 by decide)]); exact c13), if_neg (by (try rw [up3_nr (show (80 : Nat) ≠ 43 by decide)]); (try rw [up3_nr (show (81 : Nat) ≠ 43 by decide)]); (try rw [up3_nr (show (82 : Nat) ≠ 43 by decide)]); exact c14), if_pos (by (try rw [up3_nr (show (80 : Nat) ≠ 43 by decide)]); (try rw [up3_nr (show (81 : Nat) ≠ 43 by decide)]); (try rw [up3_nr (show (82 : Nat) ≠ 43 by decide)]); exact c15)]
    exact iLay hI (by omega) (by omega) _
  rw [if_neg c15]
  by_cases c16 : M 81 0 x1 = 1
  · rw [if_pos c16]
    unfold w_lay
    rw [if_neg (by (try rw [up3_nr (show (80 : Nat) ≠ 43 by decide)]); (try rw [up3_nr (show (81 : Nat) ≠ 43 by decide)]); (try rw [up3_nr (show (82 : Nat) ≠ 43 by decide)]); exact c11), if_neg (by (try rw [up3_nr (show (80 : Nat) ≠ 43 by decide)]); (try rw [up3_nr (show (81 : Nat) ≠ 43 by decide)]); (try rw [up3_nr (show (82 : Nat) ≠ 43 by decide)]); exact c12), if_neg (by (try rw [up3_nr (show (80 : Nat) ≠ 43 by decide)]); (try rw [up3_nr (show (81 : Nat) ≠ 43 by decide)]); (try rw [up3_nr (show (82 : Nat) ≠ 43 by decide)]); exact c13), if_neg (by (try rw [up3_nr (show (80 : Nat) ≠ 43 by decide)]); (try rw [up3_nr (show (81 : Nat) ≠ 43 by decide)]); (try rw [up3_nr (show (82 : Nat) ≠ 43 by decide)]); exact c14), if_neg (by (try rw [up3_nr (show (80 : Nat) ≠ 43 by decide)]); (try rw [up3_nr (show (81 : Nat) ≠ 43 by decide)]); (try rw [up3_nr (show (82 : Nat) ≠ 43 by decide)]); exact c15), if_pos (by (try rw [up3_nr (show (80 : Nat) ≠ 43 by decide)]); (try rw [up3_nr (show (81 : Nat) ≠ 43 by decide)]); (try rw [up3_nr (show (82 : Nat) ≠ 43 by decide)]); exact c16)]
    exact iLay hI (by omega) (by omega) _
  rw [if_neg c16]
  unfold w_lay
  rw [if_neg (by (try rw [up3_nr (show (80 : Nat) ≠ 43 by decide)]); (try rw [up3_nr (show (81 : Nat) ≠ 43 by decide)]); (try rw [up3_nr (show (82 : Nat) ≠ 43 by decide)]); exact c11), if_neg (by (try rw [up3_nr (show (80 : Nat) ≠ 43 by decide)]); (try rw [up3_nr (show (81 : Nat) ≠ 43 by decide)]); (try rw [up3_nr (show (82 : Nat) ≠ 43 by decide)]); exact c12), if_neg (by (try rw [up3_nr (show (80 : Nat) ≠ 43 by decide)]); (try rw [up3_nr (show (81 : Nat) ≠ 43 by decide)]); (try rw [up3_nr (show (82 : Nat) ≠ 43 by decide)]); exact c13), if_neg (by (try rw [up3_nr (show (80 : Nat) ≠ 43 by decide)]); (try rw [up3_nr (show (81 : Nat) ≠ 43 by decide)]); (try rw [up3_nr (show (82 : Nat) ≠ 43 by decide)]); exact c14), if_neg (by (try rw [up3_nr (show (80 : Nat) ≠ 43 by decide)]); (try rw [up3_nr (show (81 : Nat) ≠ 43 by decide)]); (try rw [up3_nr (show (82 : Nat) ≠ 43 by decide)]); exact c15), if_neg (by (try rw [up3_nr (show (80 : Nat) ≠ 43 by decide)]); (try rw [up3_nr (show (81 : Nat) ≠ 43 by decide)]); (try rw [up3_nr (show (82 : Nat) ≠ 43 by decide)]); exact c16)]
  exact iLay hI (by omega) (by omega) _
theorem p_lay {E : E3} {M : M3} {x1 x2 x3 x4 : Int} (hI : Inv M) (hx1 : -2147483648 ≤ x1 ∧ x1 ≤ 2147483647) (hx2 : -2147483648 ≤ x2 ∧ x2 ≤ 2147483647) (hx3 : -2147483648 ≤ x3 ∧ x3 ≤ 2147483647) (hx4 : -2147483648 ≤ x4 ∧ x4 ≤ 2147483647) : C3 E YX11_lay [vR 0 0, vI x1, vI x2, vI x3, vI x4] M (P2 E YX12_lay [vR 44 0, vI x1, vI x2, vI x3, vI x4]) :=
  c_lay hI hx1 hx2 hx3 hx4 (p2I (m_lay (WM_q (uu_lay_h M x1 x2 x3 x4).1 hI.1.1.wm) ((uu_lay_h M x1 x2 x3 x4).2 hI.2.2) hx1 hx2 hx3 hx4 (r2I (svI (a_lay_q (uu_lay_h M x1 x2 x3 x4).1 x1 x2 x3 x4)) (i_lay hI hx1 hx2 hx3 hx4))))
