/-! the digest: what is said of the calls in it -/
theorem mCt_q {M N : M3} (h : Hm M N) (w : Int) : mCt N w = mCt M w := by
  unfold mCt mCk mCr
  simp only [mRoll_q h, mNow_q h, mHow_q h, h 44 (by decide), h 57 (by decide)]
theorem mAb_q {M N : M3} (h : Hm M N) (p w : Int) : mAb N p w = mAb M p w := by
  unfold mAb mKnN
  simp only [mNow_q h, h 44 (by decide), h 45 (by decide), h 46 (by decide), h 47 (by decide), h 48 (by decide), h 49 (by decide), h 50 (by decide), h 51 (by decide), h 56 (by decide), h 57 (by decide)]
theorem mChs_q {M N : M3} (h : Hm M N) (b : Int) : mChs N b = mChs M b := by
  unfold mChs
  simp only [mRoll_q h]
theorem mBad_q {M N : M3} (h : Hm M N) (c s z : Int) : mBad N c s z = mBad M c s z := by
  unfold mBad
  simp only [mHow_q h, mRights_q h, h 44 (by decide), h 46 (by decide), h 56 (by decide), h 61 (by decide)]
theorem mFtg_q {M N : M3} (h : Hm M N) (c s : Int) : mFtg N c s = mFtg M c s := by
  unfold mFtg
  simp only [mFit, mBad_q h]
theorem mUof_q {M N : M3} (h : Hm M N) (c : Int) : mUof N c = mUof M c := by
  unfold mUof
  simp only [mUnl, mHow_q h, mRights_q h, h 44 (by decide), h 46 (by decide), h 56 (by decide), h 61 (by decide)]
theorem mCt_e {M N : M3} (e : Em M N) (w : Int) : mCt N w = mCt M w := by
  unfold mCt mCk mCr
  simp only [mRoll_e e, mNow_e e, mHow_e e, e.2 0 (by decide), e.2 1 (by decide), e.2 18 (by decide), e.2 39 (by decide), e.2 32 (by decide), e.2 44 (by decide), e.2 9 (by decide), e.2 58 (by decide), e.1 57 (by decide)]
theorem mAb_e {M N : M3} (e : Em M N) (p w : Int) : mAb N p w = mAb M p w := by
  unfold mAb mKnN
  simp only [mNow_e e, e.2 18 (by decide), e.1 45 (by decide), e.1 46 (by decide), e.1 47 (by decide), e.1 48 (by decide), e.1 49 (by decide), e.1 50 (by decide), e.1 51 (by decide), e.1 56 (by decide), e.1 57 (by decide)]
theorem mChs_e {M N : M3} (e : Em M N) (b : Int) : mChs N b = mChs M b := by
  unfold mChs
  simp only [mRoll_e e]
theorem hX11_count {E : E3} {Q : Q3} {M : M3} {x1 : Int} (h : Inv M ∧ (-2147483648 ≤ x1 ∧ x1 ≤ 2147483647)) (k : Q (some (vI (mCt M x1))) M) : C3 E YX11_count [vR 0 0, vI x1] M Q := c_count h.1 h.2 k
theorem hX11_about {E : E3} {Q : Q3} {M : M3} {x1 x2 : Int} (h : Inv M ∧ (-2147483648 ≤ x1 ∧ x1 ≤ 2147483647) ∧ (-2147483648 ≤ x2 ∧ x2 ≤ 2147483647)) (k : Q (some (vI (a_about M x1 x2))) M) : C3 E YX11_about [vR 0 0, vI x1, vI x2] M Q := c_about h.1 h.2.1 h.2.2 k
theorem hX11_chosen {E : E3} {Q : Q3} {M : M3} {x1 : Int} (h : Inv M ∧ (-2147483648 ≤ x1 ∧ x1 ≤ 2147483647)) (k : Q (some (vI (a_chosen M x1))) M) : C3 E YX11_chosen [vR 0 0, vI x1] M Q := c_chosen h.1 h.2 k
theorem full44 {M N : M3} (h : Hm M N) : ∀ q : Nat, q ∉ ([0, 1, 2, 3, 4, 5, 6, 7, 8, 9, 10, 11, 12, 13, 14, 15, 16, 17, 18, 19, 20, 21, 22, 23, 24, 25, 26, 27, 28, 29, 30, 31, 32, 33, 34, 35, 36, 37, 38, 39, 40, 41, 42, 43, 44, 45, 46, 47, 48, 49, 50, 51, 52, 53, 54, 55, 56, 57, 58, 59, 60, 61, 62, 63, 64, 65, 66, 67, 68, 69, 70, 71, 72, 73, 74, 75, 76, 77, 78, 79, 80, 81, 82, 83, 84, 85, 86, 87, 88, 89] : List Nat) → N q = M q := fun q hq => h q (by
  rcases Nat.lt_or_ge q 44 with z | z
  · exact absurd ((show ∀ y : Nat, y < 44 → y ∈ ([0, 1, 2, 3, 4, 5, 6, 7, 8, 9, 10, 11, 12, 13, 14, 15, 16, 17, 18, 19, 20, 21, 22, 23, 24, 25, 26, 27, 28, 29, 30, 31, 32, 33, 34, 35, 36, 37, 38, 39, 40, 41, 42, 43, 44, 45, 46, 47, 48, 49, 50, 51, 52, 53, 54, 55, 56, 57, 58, 59, 60, 61, 62, 63, 64, 65, 66, 67, 68, 69, 70, 71, 72, 73, 74, 75, 76, 77, 78, 79, 80, 81, 82, 83, 84, 85, 86, 87, 88, 89] : List Nat) by decide) q z) hq
  · exact z)
theorem hX11_formIs {E : E3} {Q : Q3} {M : M3} {x1 x2 : Int} (h : Inv M ∧ (-2147483648 ≤ x1 ∧ x1 ≤ 2147483647) ∧ (-2147483648 ≤ x2 ∧ x2 ≤ 2147483647)) (k : ∀ (N : M3), RM3 N → (∀ q : Nat, q ∉ ([0, 1, 2, 3, 4, 5, 6, 7, 8, 9, 10, 11, 12, 13, 14, 15, 16, 17, 18, 19, 20, 21, 22, 23, 24, 25, 26, 27, 28, 29, 30, 31, 32, 33, 34, 35, 36, 37, 38, 39, 40, 41, 42, 43, 44, 45, 46, 47, 48, 49, 50, 51, 52, 53, 54, 55, 56, 57, 58, 59, 60, 61, 62, 63, 64, 65, 66, 67, 68, 69, 70, 71, 72, 73, 74, 75, 76, 77, 78, 79, 80, 81, 82, 83, 84, 85, 86, 87, 88, 89] : List Nat) → N q = M q) → (Inv N ∧ Hm M N) → Q (some (vI (a_formIs M x1 x2))) N) : C3 E YX11_formIs [vR 0 0, vI x1, vI x2] M Q :=
  c3_mono (c_formIs h.1 h.2.1 h.2.2 (Q := fun v N => v = some (vI (a_formIs M x1 x2)) ∧ Inv N ∧ Hm M N) fun N a b => ⟨rfl, a, b⟩) fun v N r z => by
    rw [z.1]
    exact k N r (full44 z.2.2) z.2
theorem hX11_ready {E : E3} {Q : Q3} {M : M3} {x1 : Int} (h : Inv M ∧ (-2147483648 ≤ x1 ∧ x1 ≤ 2147483647)) (k : ∀ (N : M3), RM3 N → (∀ q : Nat, q ∉ ([0, 1, 2, 3, 4, 5, 6, 7, 8, 9, 10, 11, 12, 13, 14, 15, 16, 17, 18, 19, 20, 21, 22, 23, 24, 25, 26, 27, 28, 29, 30, 31, 32, 33, 34, 35, 36, 37, 38, 39, 40, 41, 42, 43, 44, 45, 46, 47, 48, 49, 50, 51, 52, 53, 54, 55, 56, 57, 58, 59, 60, 61, 62, 63, 64, 65, 66, 67, 68, 69, 70, 71, 72, 73, 74, 75, 76, 77, 78, 79, 80, 81, 82, 83, 84, 85, 86, 87, 88, 89] : List Nat) → N q = M q) → (Inv N ∧ Hm M N) → Q (some (vI (a_ready M x1))) N) : C3 E YX11_ready [vR 0 0, vI x1] M Q :=
  c3_mono (c_ready h.1 h.2 (Q := fun v N => v = some (vI (a_ready M x1)) ∧ Inv N ∧ Hm M N) fun N a b => ⟨rfl, a, b⟩) fun v N r z => by
    rw [z.1]
    exact k N r (full44 z.2.2) z.2
