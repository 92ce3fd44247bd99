/-! PAIRS: sheets, choices, answers -/
theorem iCho {M : M3} {x1 x2 x3 : Int} (hI : Inv M) (h0 : M 44 0 44 < 8) (h1 : (x1 = 0 ∧ (0 ≤ x2 ∧ x2 ≤ 5)) ∨ (x1 = 1 ∧ (0 ≤ x2 ∧ x2 < M 44 0 1))) (h3 : 0 ≤ x3 ∧ x3 ≤ 100) : Inv (up3 (up3 (up3 (up3 (up3 (up3 (up3 (up3 M 32 0 (M 31 0 0) x1) 33 0 (M 31 0 0) x2) 34 0 (M 31 0 0) x3) 31 0 0 (M 31 0 0 + 1)) 75 0 (M 44 0 44) x1) 76 0 (M 44 0 44) x2) 77 0 (M 44 0 44) x3) 44 0 44 (M 44 0 44 + 1)) := by
  obtain ⟨m1, m2, m3⟩ := hI.1.1.2.2.2.2.2.2.2.1
  have f1 : ∀ q : Nat, q ∉ ([31, 32, 33, 34, 44, 75, 76, 77] : List Nat) → (up3 (up3 (up3 (up3 (up3 (up3 (up3 (up3 M 32 0 (M 31 0 0) x1) 33 0 (M 31 0 0) x2) 34 0 (M 31 0 0) x3) 31 0 0 (M 31 0 0 + 1)) 75 0 (M 44 0 44) x1) 76 0 (M 44 0 44) x2) 77 0 (M 44 0 44) x3) 44 0 44 (M 44 0 44 + 1)) q = M q := (fr_up (fr_up (fr_up (fr_up (fr_up (fr_up (fr_up (fr_up fr_rf (by decide)) (by decide)) (by decide)) (by decide)) (by decide)) (by decide)) (by decide)) (by decide))
  have f4 : ∀ j : Int, j ≠ 44 → (up3 (up3 (up3 (up3 (up3 (up3 (up3 (up3 M 32 0 (M 31 0 0) x1) 33 0 (M 31 0 0) x2) 34 0 (M 31 0 0) x3) 31 0 0 (M 31 0 0 + 1)) 75 0 (M 44 0 44) x1) 76 0 (M 44 0 44) x2) 77 0 (M 44 0 44) x3) 44 0 44 (M 44 0 44 + 1)) 44 0 j = M 44 0 j := fun j a => by rw [up3_nj a, up3_nr (by decide), up3_nr (by decide), up3_nr (by decide), up3_nr (by decide), up3_nr (by decide), up3_nr (by decide), up3_nr (by decide)]
  have v1 : (up3 (up3 (up3 (up3 (up3 (up3 (up3 (up3 M 32 0 (M 31 0 0) x1) 33 0 (M 31 0 0) x2) 34 0 (M 31 0 0) x3) 31 0 0 (M 31 0 0 + 1)) 75 0 (M 44 0 44) x1) 76 0 (M 44 0 44) x2) 77 0 (M 44 0 44) x3) 44 0 44 (M 44 0 44 + 1)) 44 0 44 = M 44 0 44 + 1 := by rw [up3_eq]
  have v2 : (up3 (up3 (up3 (up3 (up3 (up3 (up3 (up3 M 32 0 (M 31 0 0) x1) 33 0 (M 31 0 0) x2) 34 0 (M 31 0 0) x3) 31 0 0 (M 31 0 0 + 1)) 75 0 (M 44 0 44) x1) 76 0 (M 44 0 44) x2) 77 0 (M 44 0 44) x3) 44 0 44 (M 44 0 44 + 1)) 31 0 0 = M 31 0 0 + 1 := by rw [up3_nr (by decide), up3_nr (by decide), up3_nr (by decide), up3_nr (by decide), up3_eq]
  have g32 : ∀ k : Int, (up3 (up3 (up3 (up3 (up3 (up3 (up3 (up3 M 32 0 (M 31 0 0) x1) 33 0 (M 31 0 0) x2) 34 0 (M 31 0 0) x3) 31 0 0 (M 31 0 0 + 1)) 75 0 (M 44 0 44) x1) 76 0 (M 44 0 44) x2) 77 0 (M 44 0 44) x3) 44 0 44 (M 44 0 44 + 1)) 32 0 k = if k = M 31 0 0 then x1 else M 32 0 k := fun k => by
    by_cases z : k = M 31 0 0
    · rw [if_pos z, z, up3_nr (by decide), up3_nr (by decide), up3_nr (by decide), up3_nr (by decide), up3_nr (by decide), up3_nr (by decide), up3_nr (by decide), up3_eq]
    · rw [if_neg z, up3_nr (by decide), up3_nr (by decide), up3_nr (by decide), up3_nr (by decide), up3_nr (by decide), up3_nr (by decide), up3_nr (by decide), up3_nj z]
  have g33 : ∀ k : Int, (up3 (up3 (up3 (up3 (up3 (up3 (up3 (up3 M 32 0 (M 31 0 0) x1) 33 0 (M 31 0 0) x2) 34 0 (M 31 0 0) x3) 31 0 0 (M 31 0 0 + 1)) 75 0 (M 44 0 44) x1) 76 0 (M 44 0 44) x2) 77 0 (M 44 0 44) x3) 44 0 44 (M 44 0 44 + 1)) 33 0 k = if k = M 31 0 0 then x2 else M 33 0 k := fun k => by
    by_cases z : k = M 31 0 0
    · rw [if_pos z, z, up3_nr (by decide), up3_nr (by decide), up3_nr (by decide), up3_nr (by decide), up3_nr (by decide), up3_nr (by decide), up3_eq]
    · rw [if_neg z, up3_nr (by decide), up3_nr (by decide), up3_nr (by decide), up3_nr (by decide), up3_nr (by decide), up3_nr (by decide), up3_nj z, up3_nr (by decide)]
  have g34 : ∀ k : Int, (up3 (up3 (up3 (up3 (up3 (up3 (up3 (up3 M 32 0 (M 31 0 0) x1) 33 0 (M 31 0 0) x2) 34 0 (M 31 0 0) x3) 31 0 0 (M 31 0 0 + 1)) 75 0 (M 44 0 44) x1) 76 0 (M 44 0 44) x2) 77 0 (M 44 0 44) x3) 44 0 44 (M 44 0 44 + 1)) 34 0 k = if k = M 31 0 0 then x3 else M 34 0 k := fun k => by
    by_cases z : k = M 31 0 0
    · rw [if_pos z, z, up3_nr (by decide), up3_nr (by decide), up3_nr (by decide), up3_nr (by decide), up3_nr (by decide), up3_eq]
    · rw [if_neg z, up3_nr (by decide), up3_nr (by decide), up3_nr (by decide), up3_nr (by decide), up3_nr (by decide), up3_nj z, up3_nr (by decide), up3_nr (by decide)]
  have g75 : ∀ k : Int, (up3 (up3 (up3 (up3 (up3 (up3 (up3 (up3 M 32 0 (M 31 0 0) x1) 33 0 (M 31 0 0) x2) 34 0 (M 31 0 0) x3) 31 0 0 (M 31 0 0 + 1)) 75 0 (M 44 0 44) x1) 76 0 (M 44 0 44) x2) 77 0 (M 44 0 44) x3) 44 0 44 (M 44 0 44 + 1)) 75 0 k = if k = M 44 0 44 then x1 else M 75 0 k := fun k => by
    by_cases z : k = M 44 0 44
    · rw [if_pos z, z, up3_nr (by decide), up3_nr (by decide), up3_nr (by decide), up3_eq]
    · rw [if_neg z, up3_nr (by decide), up3_nr (by decide), up3_nr (by decide), up3_nj z, up3_nr (by decide), up3_nr (by decide), up3_nr (by decide), up3_nr (by decide)]
  have g76 : ∀ k : Int, (up3 (up3 (up3 (up3 (up3 (up3 (up3 (up3 M 32 0 (M 31 0 0) x1) 33 0 (M 31 0 0) x2) 34 0 (M 31 0 0) x3) 31 0 0 (M 31 0 0 + 1)) 75 0 (M 44 0 44) x1) 76 0 (M 44 0 44) x2) 77 0 (M 44 0 44) x3) 44 0 44 (M 44 0 44 + 1)) 76 0 k = if k = M 44 0 44 then x2 else M 76 0 k := fun k => by
    by_cases z : k = M 44 0 44
    · rw [if_pos z, z, up3_nr (by decide), up3_nr (by decide), up3_eq]
    · rw [if_neg z, up3_nr (by decide), up3_nr (by decide), up3_nj z, up3_nr (by decide), up3_nr (by decide), up3_nr (by decide), up3_nr (by decide), up3_nr (by decide)]
  have g77 : ∀ k : Int, (up3 (up3 (up3 (up3 (up3 (up3 (up3 (up3 M 32 0 (M 31 0 0) x1) 33 0 (M 31 0 0) x2) 34 0 (M 31 0 0) x3) 31 0 0 (M 31 0 0 + 1)) 75 0 (M 44 0 44) x1) 76 0 (M 44 0 44) x2) 77 0 (M 44 0 44) x3) 44 0 44 (M 44 0 44 + 1)) 77 0 k = if k = M 44 0 44 then x3 else M 77 0 k := fun k => by
    by_cases z : k = M 44 0 44
    · rw [if_pos z, z, up3_nr (by decide), up3_eq]
    · rw [if_neg z, up3_nr (by decide), up3_nj z, up3_nr (by decide), up3_nr (by decide), up3_nr (by decide), up3_nr (by decide), up3_nr (by decide), up3_nr (by decide)]
  generalize hN : up3 (up3 (up3 (up3 (up3 (up3 (up3 (up3 M 32 0 (M 31 0 0) x1) 33 0 (M 31 0 0) x2) 34 0 (M 31 0 0) x3) 31 0 0 (M 31 0 0 + 1)) 75 0 (M 44 0 44) x1) 76 0 (M 44 0 44) x2) 77 0 (M 44 0 44) x3) 44 0 44 (M 44 0 44 + 1) = N at f1 f4 v1 v2 g32 g33 g34 g75 g76 g77 ⊢
  clear hN
  refine ⟨⟨⟨(iBas_of (by first | exact f1 _ (by decide) | rw [f1 _ (by decide)] | exact f4 _ (by decide)) (by first | exact f1 _ (by decide) | rw [f1 _ (by decide)] | exact f4 _ (by decide)) (by first | exact f1 _ (by decide) | rw [f1 _ (by decide)] | exact f4 _ (by decide)) (by first | exact f1 _ (by decide) | rw [f1 _ (by decide)] | exact f4 _ (by decide)) (by first | exact f1 _ (by decide) | rw [f1 _ (by decide)] | exact f4 _ (by decide)) (by first | exact f1 _ (by decide) | rw [f1 _ (by decide)] | exact f4 _ (by decide)) hI.1.1.1), (iLaw_of (by first | exact f1 _ (by decide) | rw [f1 _ (by decide)] | exact f4 _ (by decide)) (by first | exact f1 _ (by decide) | rw [f1 _ (by decide)] | exact f4 _ (by decide)) (by first | exact f1 _ (by decide) | rw [f1 _ (by decide)] | exact f4 _ (by decide)) (by first | exact f1 _ (by decide) | rw [f1 _ (by decide)] | exact f4 _ (by decide)) hI.1.1.2.1), (iCty_of (by first | exact f1 _ (by decide) | rw [f1 _ (by decide)] | exact f4 _ (by decide)) (by first | exact f1 _ (by decide) | rw [f1 _ (by decide)] | exact f4 _ (by decide)) (by first | exact f1 _ (by decide) | rw [f1 _ (by decide)] | exact f4 _ (by decide)) (by first | exact f1 _ (by decide) | rw [f1 _ (by decide)] | exact f4 _ (by decide)) (by first | exact f1 _ (by decide) | rw [f1 _ (by decide)] | exact f4 _ (by decide)) (by first | exact f1 _ (by decide) | rw [f1 _ (by decide)] | exact f4 _ (by decide)) (by first | exact f1 _ (by decide) | rw [f1 _ (by decide)] | exact f4 _ (by decide)) (by first | exact f1 _ (by decide) | rw [f1 _ (by decide)] | exact f4 _ (by decide)) (by first | exact f1 _ (by decide) | rw [f1 _ (by decide)] | exact f4 _ (by decide)) (by first | exact f1 _ (by decide) | rw [f1 _ (by decide)] | exact f4 _ (by decide)) hI.1.1.2.2.1), (iFrm_of (by first | exact f1 _ (by decide) | rw [f1 _ (by decide)] | exact f4 _ (by decide)) (by first | exact f1 _ (by decide) | rw [f1 _ (by decide)] | exact f4 _ (by decide)) (by first | exact f1 _ (by decide) | rw [f1 _ (by decide)] | exact f4 _ (by decide)) (by first | exact f1 _ (by decide) | rw [f1 _ (by decide)] | exact f4 _ (by decide)) (fun f j hj => by first | exact f1 _ (by decide) | rw [f1 _ (by decide)] | exact f4 _ (by decide)) (by first | exact f1 _ (by decide) | rw [f1 _ (by decide)] | exact f4 _ (by decide)) (by first | exact f1 _ (by decide) | rw [f1 _ (by decide)] | exact f4 _ (by decide)) (by first | exact f1 _ (by decide) | rw [f1 _ (by decide)] | exact f4 _ (by decide)) (by first | exact f1 _ (by decide) | rw [f1 _ (by decide)] | exact f4 _ (by decide)) (by first | exact f1 _ (by decide) | rw [f1 _ (by decide)] | exact f4 _ (by decide)) (by first | exact f1 _ (by decide) | rw [f1 _ (by decide)] | exact f4 _ (by decide)) (by first | exact f1 _ (by decide) | rw [f1 _ (by decide)] | exact f4 _ (by decide)) (by first | exact f1 _ (by decide) | rw [f1 _ (by decide)] | exact f4 _ (by decide)) (by first | exact f1 _ (by decide) | rw [f1 _ (by decide)] | exact f4 _ (by decide)) (by first | exact f1 _ (by decide) | rw [f1 _ (by decide)] | exact f4 _ (by decide)) hI.1.1.2.2.2.1), (iOrd_of (by first | exact f1 _ (by decide) | rw [f1 _ (by decide)] | exact f4 _ (by decide)) (by first | exact f1 _ (by decide) | rw [f1 _ (by decide)] | exact f4 _ (by decide)) hI.1.1.2.2.2.2.1), (iLin_of (by first | exact f1 _ (by decide) | rw [f1 _ (by decide)] | exact f4 _ (by decide)) (by first | exact f1 _ (by decide) | rw [f1 _ (by decide)] | exact f4 _ (by decide)) (by first | exact f1 _ (by decide) | rw [f1 _ (by decide)] | exact f4 _ (by decide)) (by first | exact f1 _ (by decide) | rw [f1 _ (by decide)] | exact f4 _ (by decide)) (by first | exact f1 _ (by decide) | rw [f1 _ (by decide)] | exact f4 _ (by decide)) (by first | exact f1 _ (by decide) | rw [f1 _ (by decide)] | exact f4 _ (by decide)) (by first | exact f1 _ (by decide) | rw [f1 _ (by decide)] | exact f4 _ (by decide)) (by first | exact f1 _ (by decide) | rw [f1 _ (by decide)] | exact f4 _ (by decide)) (by first | exact f1 _ (by decide) | rw [f1 _ (by decide)] | exact f4 _ (by decide)) (by first | exact f1 _ (by decide) | rw [f1 _ (by decide)] | exact f4 _ (by decide)) (by first | exact f1 _ (by decide) | rw [f1 _ (by decide)] | exact f4 _ (by decide)) (by first | exact f1 _ (by decide) | rw [f1 _ (by decide)] | exact f4 _ (by decide)) (by first | exact f1 _ (by decide) | rw [f1 _ (by decide)] | exact f4 _ (by decide)) (by first | exact f1 _ (by decide) | rw [f1 _ (by decide)] | exact f4 _ (by decide)) (by first | exact f1 _ (by decide) | rw [f1 _ (by decide)] | exact f4 _ (by decide)) (by first | exact f1 _ (by decide) | rw [f1 _ (by decide)] | exact f4 _ (by decide)) (by first | exact f1 _ (by decide) | rw [f1 _ (by decide)] | exact f4 _ (by decide)) hI.1.1.2.2.2.2.2.1), (iLst_of (by first | exact f1 _ (by decide) | rw [f1 _ (by decide)] | exact f4 _ (by decide)) (by first | exact f1 _ (by decide) | rw [f1 _ (by decide)] | exact f4 _ (by decide)) (by first | exact f1 _ (by decide) | rw [f1 _ (by decide)] | exact f4 _ (by decide)) (by first | exact f1 _ (by decide) | rw [f1 _ (by decide)] | exact f4 _ (by decide)) (by first | exact f1 _ (by decide) | rw [f1 _ (by decide)] | exact f4 _ (by decide)) (by first | exact f1 _ (by decide) | rw [f1 _ (by decide)] | exact f4 _ (by decide)) (by first | exact f1 _ (by decide) | rw [f1 _ (by decide)] | exact f4 _ (by decide)) hI.1.1.2.2.2.2.2.2.1), ?_, (iSht_of (by first | exact f1 _ (by decide) | rw [f1 _ (by decide)] | exact f4 _ (by decide)) (by first | exact f1 _ (by decide) | rw [f1 _ (by decide)] | exact f4 _ (by decide)) (by first | exact f1 _ (by decide) | rw [f1 _ (by decide)] | exact f4 _ (by decide)) (by first | exact f1 _ (by decide) | rw [f1 _ (by decide)] | exact f4 _ (by decide)) (by first | exact f1 _ (by decide) | rw [f1 _ (by decide)] | exact f4 _ (by decide)) (by first | exact f1 _ (by decide) | rw [f1 _ (by decide)] | exact f4 _ (by decide)) hI.1.1.2.2.2.2.2.2.2.2)⟩, (iW_of (by first | exact f1 _ (by decide) | rw [f1 _ (by decide)] | exact f4 _ (by decide)) (by first | exact f1 _ (by decide) | rw [f1 _ (by decide)] | exact f4 _ (by decide)) (by first | exact f1 _ (by decide) | rw [f1 _ (by decide)] | exact f4 _ (by decide)) (by first | exact f1 _ (by decide) | rw [f1 _ (by decide)] | exact f4 _ (by decide)) (by first | exact f1 _ (by decide) | rw [f1 _ (by decide)] | exact f4 _ (by decide)) (by first | exact f1 _ (by decide) | rw [f1 _ (by decide)] | exact f4 _ (by decide)) (by first | exact f1 _ (by decide) | rw [f1 _ (by decide)] | exact f4 _ (by decide)) (by first | exact f1 _ (by decide) | rw [f1 _ (by decide)] | exact f4 _ (by decide)) (by first | exact f1 _ (by decide) | rw [f1 _ (by decide)] | exact f4 _ (by decide)) hI.1.2)⟩, (LwC_of (by first | exact f1 _ (by decide) | rw [f1 _ (by decide)] | exact f4 _ (by decide)) (by first | exact f1 _ (by decide) | rw [f1 _ (by decide)] | exact f4 _ (by decide)) (by first | exact f1 _ (by decide) | rw [f1 _ (by decide)] | exact f4 _ (by decide)) (by first | exact f1 _ (by decide) | rw [f1 _ (by decide)] | exact f4 _ (by decide)) (by first | exact f1 _ (by decide) | rw [f1 _ (by decide)] | exact f4 _ (by decide)) (by first | exact f1 _ (by decide) | rw [f1 _ (by decide)] | exact f4 _ (by decide)) (by first | exact f1 _ (by decide) | rw [f1 _ (by decide)] | exact f4 _ (by decide)) (by first | exact f1 _ (by decide) | rw [f1 _ (by decide)] | exact f4 _ (by decide)) (by first | exact f1 _ (by decide) | rw [f1 _ (by decide)] | exact f4 _ (by decide)) (by first | exact f1 _ (by decide) | rw [f1 _ (by decide)] | exact f4 _ (by decide)) hI.2.1), (RdC_of (by first | exact f1 _ (by decide) | rw [f1 _ (by decide)] | exact f4 _ (by decide)) (by first | exact f1 _ (by decide) | rw [f1 _ (by decide)] | exact f4 _ (by decide)) (by first | exact f1 _ (by decide) | rw [f1 _ (by decide)] | exact f4 _ (by decide)) (by first | exact f1 _ (by decide) | rw [f1 _ (by decide)] | exact f4 _ (by decide)) (by first | exact f1 _ (by decide) | rw [f1 _ (by decide)] | exact f4 _ (by decide)) (by first | exact f1 _ (by decide) | rw [f1 _ (by decide)] | exact f4 _ (by decide)) (by first | exact f1 _ (by decide) | rw [f1 _ (by decide)] | exact f4 _ (by decide)) (by first | exact f1 _ (by decide) | rw [f1 _ (by decide)] | exact f4 _ (by decide)) hI.2.2)⟩
  unfold iSum
  rw [v1, v2, f4 1 (by decide)]
  refine ⟨by rw [m1], by omega, fun k a b => ?_⟩
  rw [g32, g33, g34, g75, g76, g77, m1]
  by_cases z : k = M 44 0 44
  · rw [if_pos z, if_pos z, if_pos z, if_pos z, if_pos z, if_pos z]
    refine ⟨⟨rfl, rfl, rfl⟩, by omega, fun q => by omega, fun q => by omega, by omega⟩
  · rw [if_neg z, if_neg z, if_neg z, if_neg z, if_neg z, if_neg z]
    exact m3 k a (by omega)
def a_choice (M : M3) (x1 x2 x3 : Int) : Int := if ¬ (((x1 = 0 ∧ (0 ≤ x2 ∧ x2 ≤ 5)) ∨ (x1 = 1 ∧ (0 ≤ x2 ∧ x2 < M 44 0 1))) ∧ (0 ≤ x3 ∧ x3 ≤ 100)) then -2 else if M 44 0 44 = 8 then -4 else M 44 0 44 + 1
def u_choice (M : M3) (x1 x2 x3 : Int) : M3 := if ¬ (((x1 = 0 ∧ (0 ≤ x2 ∧ x2 ≤ 5)) ∨ (x1 = 1 ∧ (0 ≤ x2 ∧ x2 < M 44 0 1))) ∧ (0 ≤ x3 ∧ x3 ≤ 100)) then M else if M 44 0 44 = 8 then M else up3 (up3 (up3 (up3 M 32 0 (M 31 0 0) x1) 33 0 (M 31 0 0) x2) 34 0 (M 31 0 0) x3) 31 0 0 (M 31 0 0 + 1)
def w_choice (M : M3) (x1 x2 x3 : Int) : M3 := if ¬ (((x1 = 0 ∧ (0 ≤ x2 ∧ x2 ≤ 5)) ∨ (x1 = 1 ∧ (0 ≤ x2 ∧ x2 < M 44 0 1))) ∧ (0 ≤ x3 ∧ x3 ≤ 100)) then M else if M 44 0 44 = 8 then M else up3 (up3 (up3 (up3 M 75 0 (M 44 0 44) x1) 76 0 (M 44 0 44) x2) 77 0 (M 44 0 44) x3) 44 0 44 (M 44 0 44 + 1)
theorem c_choice {E : E3} {Q : Q3} {M : M3} {x1 x2 x3 : Int} (hI : Inv M) (hx1 : x1 = 0 ∨ x1 = 1) (hx2 : -2147483648 ≤ x2 ∧ x2 ≤ 2147483647) (hx3 : -2147483648 ≤ x3 ∧ x3 ≤ 2147483647) (k : Q (some (vI (a_choice M x1 x2 x3))) (u_choice M x1 x2 x3)) : C3 E YX11_choice [vR 0 0, vI x1, vI x2, vI x3] M Q := by
  refine c3_rm fun hM => ?_
  obtain ⟨m1, m2, m3⟩ := hI.1.1.2.2.2.2.2.2.2.1
  have hc1 := hI.1.1.2.2.1.1
  have hc2 := hI.1.1.2.2.1.2.1
  clear m3
  unfold a_choice u_choice at k
  refine sX11_choice ?_
  refine ⟨?_, ?_⟩
  · first | omega
  refine ⟨fun c1 => ?_, fun c1 => ?_⟩
  · refine ⟨?_, ?_⟩
    · first | omega
    refine ⟨fun c2 => ?_, fun c2 => ?_⟩
    · first
      | (repeat (first | rw [if_pos (by omega)] at k | rw [if_neg (by omega)] at k)
         exact qI (by omega) k)
      | (exfalso; omega)
    · refine ⟨?_, ?_⟩
      · first | omega
      refine ⟨fun c3 => ?_, fun c3 => ?_⟩
      · refine ⟨fun c4 => ?_, fun c4 => ?_⟩
        · refine ⟨?_, ?_, ?_, ?_, ?_, ?_⟩
          · first | omega
          · first | omega
          · first | omega
          · first | omega
          · first | omega
          first
          | (repeat (first | rw [if_pos (by omega)] at k | rw [if_neg (by omega)] at k)
             exact qI (by omega) k)
          | (exfalso; omega)
        · first
          | (repeat (first | rw [if_pos (by omega)] at k | rw [if_neg (by omega)] at k)
             exact qI (by omega) k)
          | (exfalso; omega)
      · first
        | (repeat (first | rw [if_pos (by omega)] at k | rw [if_neg (by omega)] at k)
           exact qI (by omega) k)
        | (exfalso; omega)
  · refine ⟨?_, ?_⟩
    · first | omega
    refine ⟨fun c2 => ?_, fun c2 => ?_⟩
    · first
      | (repeat (first | rw [if_pos (by omega)] at k | rw [if_neg (by omega)] at k)
         exact qI (by omega) k)
      | (exfalso; omega)
    · refine ⟨fun c3 => ?_, fun c3 => ?_⟩
      · first
        | (repeat (first | rw [if_pos (by omega)] at k | rw [if_neg (by omega)] at k)
           exact qI (by omega) k)
        | (exfalso; omega)
      · refine ⟨?_, ?_⟩
        · first | omega
        refine ⟨fun c4 => ?_, fun c4 => ?_⟩
        · refine ⟨fun c5 => ?_, fun c5 => ?_⟩
          · refine ⟨?_, ?_, ?_, ?_, ?_⟩
            · first | omega
            · first | omega
            · first | omega
            · first | omega
            first
            | (repeat (first | rw [if_pos (by omega)] at k | rw [if_neg (by omega)] at k)
               exact qI (by omega) k)
            | (exfalso; omega)
          · first
            | (repeat (first | rw [if_pos (by omega)] at k | rw [if_neg (by omega)] at k)
               exact qI (by omega) k)
            | (exfalso; omega)
        · first
          | (repeat (first | rw [if_pos (by omega)] at k | rw [if_neg (by omega)] at k)
             exact qI (by omega) k)
          | (exfalso; omega)
theorem m_choice {E : E3} {Q : Q3} {M : M3} {x1 x2 x3 : Int} (hW : WM M) (hR : RdC M) (hx1 : x1 = 0 ∨ x1 = 1) (hx2 : -2147483648 ≤ x2 ∧ x2 ≤ 2147483647) (hx3 : -2147483648 ≤ x3 ∧ x3 ≤ 2147483647) (k : Q (some (vI (a_choice M x1 x2 x3))) (w_choice M x1 x2 x3)) : C3 E YX12_choice [vR 44 0, vI x1, vI x2, vI x3] M Q := by
  refine c3_rm fun hM => ?_
  obtain ⟨w1, w2, w3, w4, w5, w6, w7, w8⟩ := hW.1
  unfold a_choice w_choice at k
  refine sX12_choice ?_
  refine ⟨?_, ?_⟩
  · first | omega
  refine ⟨fun c1 => ?_, fun c1 => ?_⟩
  · refine ⟨?_, ?_⟩
    · first | omega
    refine ⟨fun c2 => ?_, fun c2 => ?_⟩
    · first
      | (repeat (first | rw [if_pos (by omega)] at k | rw [if_neg (by omega)] at k)
         exact qI (by omega) k)
      | (exfalso; omega)
    · refine ⟨?_, ?_⟩
      · first | omega
      refine ⟨fun c3 => ?_, fun c3 => ?_⟩
      · refine ⟨fun c4 => ?_, fun c4 => ?_⟩
        · refine ⟨?_, ?_, ?_, ?_, ?_, ?_⟩
          · first | omega
          · first | omega
          · first | omega
          · first | omega
          · first | omega
          first
          | (repeat (first | rw [if_pos (by omega)] at k | rw [if_neg (by omega)] at k)
             exact qI (by omega) k)
          | (exfalso; omega)
        · first
          | (repeat (first | rw [if_pos (by omega)] at k | rw [if_neg (by omega)] at k)
             exact qI (by omega) k)
          | (exfalso; omega)
      · first
        | (repeat (first | rw [if_pos (by omega)] at k | rw [if_neg (by omega)] at k)
           exact qI (by omega) k)
        | (exfalso; omega)
  · refine ⟨?_, ?_⟩
    · first | omega
    refine ⟨fun c2 => ?_, fun c2 => ?_⟩
    · first
      | (repeat (first | rw [if_pos (by omega)] at k | rw [if_neg (by omega)] at k)
         exact qI (by omega) k)
      | (exfalso; omega)
    · refine ⟨?_, ?_⟩
      · first | omega
      refine ⟨fun c3 => ?_, fun c3 => ?_⟩
      · refine ⟨fun c4 => ?_, fun c4 => ?_⟩
        · refine ⟨?_, ?_, ?_, ?_, ?_, ?_⟩
          · first | omega
          · first | omega
          · first | omega
          · first | omega
          · first | omega
          first
          | (repeat (first | rw [if_pos (by omega)] at k | rw [if_neg (by omega)] at k)
             exact qI (by omega) k)
          | (exfalso; omega)
        · first
          | (repeat (first | rw [if_pos (by omega)] at k | rw [if_neg (by omega)] at k)
             exact qI (by omega) k)
          | (exfalso; omega)
      · first
        | (repeat (first | rw [if_pos (by omega)] at k | rw [if_neg (by omega)] at k)
           exact qI (by omega) k)
        | (exfalso; omega)
theorem a_choice_q {M N : M3} (h : Hm M N) (x1 x2 x3 : Int) : a_choice N x1 x2 x3 = a_choice M x1 x2 x3 := by unfold a_choice; simp only [h 44 (by decide)]
theorem u_choice_h (M : M3) (x1 x2 x3 : Int) : Hm M (u_choice M x1 x2 x3) ∧ (RdC M → RdC (u_choice M x1 x2 x3)) := by
  unfold u_choice
  repeat' split
  all_goals first
    | exact ⟨(((Hm.rf.up (by decide)).up (by decide)).up (by decide)).up (by decide), fun h => (((h.up (by decide)).up (by decide)).up (by decide)).up (by decide)⟩
    | exact ⟨((Hm.rf.up (by decide)).up (by decide)).up (by decide), fun h => ((h.up (by decide)).up (by decide)).up (by decide)⟩
    | exact ⟨(Hm.rf.up (by decide)).up (by decide), fun h => (h.up (by decide)).up (by decide)⟩
    | exact ⟨Hm.rf.up (by decide), fun h => h.up (by decide)⟩
    | exact ⟨Hm.rf, fun h => h⟩
theorem i_choice {M : M3} {x1 x2 x3 : Int} (hI : Inv M) (hx1 : x1 = 0 ∨ x1 = 1) (hx2 : -2147483648 ≤ x2 ∧ x2 ≤ 2147483647) (hx3 : -2147483648 ≤ x3 ∧ x3 ≤ 2147483647) : Inv (w_choice (u_choice M x1 x2 x3) x1 x2 x3) := by
  unfold u_choice
  by_cases c11 : ¬ (((x1 = 0 ∧ (0 ≤ x2 ∧ x2 ≤ 5)) ∨ (x1 = 1 ∧ (0 ≤ x2 ∧ x2 < M 44 0 1))) ∧ (0 ≤ x3 ∧ x3 ≤ 100))
  · rw [if_pos c11]
    unfold w_choice
    rw [if_pos (by skip; exact c11)]
    exact hI
  rw [if_neg c11]
  by_cases c12 : M 44 0 44 = 8
  · rw [if_pos c12]
    unfold w_choice
    rw [if_neg (by skip; exact c11), if_pos (by skip; exact c12)]
    exact hI
  rw [if_neg c12]
  unfold w_choice
  have m2 := hI.1.1.2.2.2.2.2.2.2.1.2.1
  have e44 : ∀ j : Int, (up3 (up3 (up3 (up3 M 32 0 (M 31 0 0) x1) 33 0 (M 31 0 0) x2) 34 0 (M 31 0 0) x3) 31 0 0 (M 31 0 0 + 1)) 44 0 j = M 44 0 j := fun j => by rw [up3_nr (by decide), up3_nr (by decide), up3_nr (by decide), up3_nr (by decide)]
  rw [e44, e44, if_neg c11, if_neg c12]
  exact iCho hI (by omega) (by omega) (by omega)
theorem p_choice {E : E3} {M : M3} {x1 x2 x3 : Int} (hI : Inv M) (hx1 : x1 = 0 ∨ x1 = 1) (hx2 : -2147483648 ≤ x2 ∧ x2 ≤ 2147483647) (hx3 : -2147483648 ≤ x3 ∧ x3 ≤ 2147483647) : C3 E YX11_choice [vR 0 0, vI x1, vI x2, vI x3] M (P2 E YX12_choice [vR 44 0, vI x1, vI x2, vI x3]) :=
  c_choice hI hx1 hx2 hx3 (p2I (m_choice (WM_q (u_choice_h M x1 x2 x3).1 hI.1.1.wm) ((u_choice_h M x1 x2 x3).2 hI.2.2) hx1 hx2 hx3 (r2I (svI (a_choice_q (u_choice_h M x1 x2 x3).1 x1 x2 x3)) (i_choice hI hx1 hx2 hx3))))
