/-! CLASS AND MODEL SAY THE SAME -/
def iBas (M : M3) : Prop := M 2 0 0 = M 44 0 0 ∧ M 2 0 1 = M 44 0 27 ∧ (0 ≤ M 44 0 0 ∧ M 44 0 0 ≤ 399) ∧ (-1 ≤ M 44 0 27 ∧ M 44 0 27 ≤ M 44 0 0) ∧ M 0 0 9 = M 44 0 58
def iLaw (M : M3) : Prop := M 3 0 0 = M 44 0 9 ∧ (0 ≤ M 44 0 9 ∧ M 44 0 9 ≤ 200) ∧ ∀ k : Int, 0 ≤ k → k < M 44 0 9 → M 4 0 k = M 52 0 k
def iP (M : M3) (p : Int) : Prop := (M 13 p 1 = M 46 0 p ∧ M 13 p 2 = M 47 0 p ∧ M 13 p 3 = M 48 0 p ∧ M 13 p 4 = M 49 0 p ∧ M 13 p 5 = M 50 0 p ∧ M 13 p 6 = M 51 0 p) ∧ (M 50 0 p ≤ 2 → M 13 p 0 = M 45 0 p) ∧ (3 ≤ M 50 0 p → M 13 p 0 = -1) ∧ (0 ≤ M 45 0 p ∧ M 45 0 p ≤ 5) ∧ (0 ≤ M 46 0 p ∧ M 46 0 p ≤ 1) ∧ (0 ≤ M 47 0 p ∧ M 47 0 p ≤ 20) ∧ (0 ≤ M 48 0 p ∧ M 48 0 p ≤ 9) ∧ (-1 ≤ M 49 0 p ∧ M 49 0 p < 48 ∧ (p < M 44 0 1 → M 49 0 p < M 44 0 1)) ∧ (0 ≤ M 50 0 p ∧ M 50 0 p ≤ 4 ∧ (M 44 0 1 ≤ p → M 50 0 p = 0)) ∧ (0 ≤ M 51 0 p ∧ M 51 0 p ≤ 9)
def iCty (M : M3) : Prop := M 10 0 0 = M 44 0 1 ∧ (0 ≤ M 44 0 1 ∧ M 44 0 1 ≤ 48) ∧ ∀ p : Int, 0 ≤ p → p < 48 → iP M p
def iF (M : M3) (f : Int) : Prop := (M 18 f 0 = M 56 0 f ∧ M 18 f 1 = M 46 0 (M 56 0 f) ∧ M 18 f 2 = M 57 0 f ∧ M 18 f 3 = M 58 0 f) ∧ (∀ q : Int, 0 ≤ q → q < 20 → M 19 f q = M 59 0 (20 * f + q) ∧ -1 ≤ M 59 0 (20 * f + q) ∧ M 59 0 (20 * f + q) ≤ 99) ∧ (M 62 0 f = 0 ∨ M 62 0 f = 1 ∨ M 62 0 f = 2) ∧ (M 18 f 7 = 0 ∨ M 18 f 7 = 1) ∧ (M 62 0 f = 0 → M 18 f 5 = -1) ∧ (0 < M 62 0 f → M 18 f 5 = M 60 0 f ∧ M 18 f 6 = M 61 0 f ∧ (M 18 f 7 = 1 ↔ M 62 0 f = 1) ∧ M 18 f 8 = M 63 0 f ∧ (M 57 0 f ≤ M 60 0 f ∧ M 60 0 f ≤ M 44 0 0) ∧ (0 ≤ M 61 0 f ∧ M 61 0 f ≤ 3) ∧ (-1 ≤ M 63 0 f ∧ M 63 0 f ≤ 4) ∧ (M 62 0 f = 2 → 0 ≤ M 63 0 f)) ∧ (0 ≤ M 56 0 f ∧ M 56 0 f < M 44 0 1) ∧ (0 ≤ M 57 0 f ∧ M 57 0 f ≤ M 44 0 0) ∧ (0 ≤ M 58 0 f ∧ M 58 0 f ≤ 20)
def iFrm (M : M3) : Prop := M 14 0 0 = M 44 0 18 ∧ (0 ≤ M 44 0 18 ∧ M 44 0 18 ≤ 60) ∧ ∀ f : Int, 0 ≤ f → f < M 44 0 18 → iF M f
def iOrd (M : M3) : Prop := ∀ c : Int, 0 ≤ c → c < 4 → M 16 0 c = M 74 0 c ∧ -1 ≤ M 74 0 c ∧ M 74 0 c ≤ 399
def iLin (M : M3) : Prop := (M 20 0 0 = M 44 0 32 ∧ M 20 0 6 = M 44 0 29 ∧ M 20 0 7 = M 44 0 30 ∧ M 20 0 8 = M 44 0 31) ∧ (∀ k : Int, 0 ≤ k → k < 8 → M 25 0 k = M 64 0 k) ∧ okL M ∧ (∀ i j : Int, 0 ≤ i → i < M 44 0 32 → 0 ≤ j → j < M 44 0 32 → M 65 0 i = M 65 0 j → i = j) ∧ (∀ i : Int, 0 ≤ i → i < M 44 0 32 → M 65 0 i < M 44 0 1) ∧ ∃ s : Int → Int, SgP M s ∧ ∀ i : Int, 0 ≤ i → i < M 44 0 32 → M 21 0 i = M 65 0 (s i) ∧ M 22 0 i = M 46 0 (M 65 0 (s i)) ∧ M 23 0 i = M 66 0 (s i)
def iLst (M : M3) : Prop := M 36 0 0 = M 44 0 39 ∧ (0 ≤ M 44 0 39 ∧ M 44 0 39 ≤ 30) ∧ ∀ l : Int, 0 ≤ l → l < M 44 0 39 → M 37 0 l = M 71 0 (4 * l) ∧ M 38 0 l = M 71 0 (4 * l + 1) ∧ M 39 0 l = M 71 0 (4 * l + 2) ∧ M 40 0 l = M 71 0 (4 * l + 3)
def iSum (M : M3) : Prop := M 31 0 0 = M 44 0 44 ∧ (0 ≤ M 44 0 44 ∧ M 44 0 44 ≤ 8) ∧ ∀ k : Int, 0 ≤ k → k < M 44 0 44 → (M 32 0 k = M 75 0 k ∧ M 33 0 k = M 76 0 k ∧ M 34 0 k = M 77 0 k) ∧ (M 75 0 k = 0 ∨ M 75 0 k = 1) ∧ (M 75 0 k = 0 → 0 ≤ M 76 0 k ∧ M 76 0 k ≤ 5) ∧ (M 75 0 k = 1 → 0 ≤ M 76 0 k ∧ M 76 0 k < M 44 0 1) ∧ (0 ≤ M 77 0 k ∧ M 77 0 k ≤ 100)
def iS (M : M3) (s : Int) : Prop := (M 80 0 s = 0 ∧ M 42 s 0 = -1) ∨ (M 80 0 s = 1 ∧ M 42 s 0 = M 81 0 s ∧ M 42 s 1 = M 82 0 s ∧ (0 ≤ M 81 0 s ∧ M 81 0 s ≤ 2) ∧ (0 ≤ M 82 0 s ∧ M 82 0 s ≤ 40) ∧ ∀ i : Int, 0 ≤ i → i < M 82 0 s → M 43 s i = M 83 0 (40 * s + i))
def iSht (M : M3) : Prop := ∀ s : Int, 0 ≤ s → s < 4 → iS M s
def mLck (M : M3) (f : Int) : Int := (if alw3 (LM3 M) (M 46 0 (M 56 0 f)) (M 57 0 f) then 0 else 1) + (if M 58 0 f < sSd (LM3 M) 22 (M 57 0 f) then 2 else 0) + (if mRights M f < sSd (LM3 M) 20 (M 57 0 f) then 4 else 0)
def iW (M : M3) : Prop := ∀ f : Int, 0 ≤ f → f < M 44 0 18 → M 18 f 9 = mRights M f ∧ M 18 f 10 = mLck M f
def IB (M : M3) : Prop := iBas M ∧ iLaw M ∧ iCty M ∧ iFrm M ∧ iOrd M ∧ iLin M ∧ iLst M ∧ iSum M ∧ iSht M
def IA (M : M3) : Prop := IB M ∧ iW M
def Inv (M : M3) : Prop := IA M ∧ LwC M ∧ RdC M
theorem iBas_of {M N : M3} (e2_0 : N 2 0 0 = M 2 0 0) (e2_1 : N 2 0 1 = M 2 0 1) (e44_0 : N 44 0 0 = M 44 0 0) (e44_27 : N 44 0 27 = M 44 0 27) (e0_9 : N 0 0 9 = M 0 0 9) (e44_58 : N 44 0 58 = M 44 0 58) (h : iBas M) : iBas N := by
  unfold iBas at h ⊢
  simp only [e2_0, e2_1, e44_0, e44_27, e0_9, e44_58]
  exact h
theorem iLaw_of {M N : M3} (e3_0 : N 3 0 0 = M 3 0 0) (e44_9 : N 44 0 9 = M 44 0 9) (e4 : N 4 = M 4) (e52 : N 52 = M 52) (h : iLaw M) : iLaw N := by
  unfold iLaw at h ⊢
  simp only [e3_0, e44_9, e4, e52]
  exact h
theorem iCty_of {M N : M3} (e10_0 : N 10 0 0 = M 10 0 0) (e44_1 : N 44 0 1 = M 44 0 1) (e13 : N 13 = M 13) (e45 : N 45 = M 45) (e46 : N 46 = M 46) (e47 : N 47 = M 47) (e48 : N 48 = M 48) (e49 : N 49 = M 49) (e50 : N 50 = M 50) (e51 : N 51 = M 51) (h : iCty M) : iCty N := by
  unfold iCty iP at h ⊢
  simp only [e10_0, e44_1, e13, e45, e46, e47, e48, e49, e50, e51]
  exact h
theorem iFrm_of {M N : M3} (e14_0 : N 14 0 0 = M 14 0 0) (e44_18 : N 44 0 18 = M 44 0 18) (e44_0 : N 44 0 0 = M 44 0 0) (e44_1 : N 44 0 1 = M 44 0 1) (e18 : ∀ f j : Int, j < 9 → N 18 f j = M 18 f j) (e19 : N 19 = M 19) (e46 : N 46 = M 46) (e56 : N 56 = M 56) (e57 : N 57 = M 57) (e58 : N 58 = M 58) (e59 : N 59 = M 59) (e60 : N 60 = M 60) (e61 : N 61 = M 61) (e62 : N 62 = M 62) (e63 : N 63 = M 63) (h : iFrm M) : iFrm N := by
  unfold iFrm iF at h ⊢
  simp only [e14_0, e44_18, e44_0, e44_1, e19, e46, e56, e57, e58, e59, e60, e61, e62, e63, e18 _ 0 (by decide), e18 _ 1 (by decide), e18 _ 2 (by decide), e18 _ 3 (by decide), e18 _ 5 (by decide), e18 _ 6 (by decide), e18 _ 7 (by decide), e18 _ 8 (by decide)]
  exact h
theorem iOrd_of {M N : M3} (e16 : N 16 = M 16) (e74 : N 74 = M 74) (h : iOrd M) : iOrd N := by
  unfold iOrd at h ⊢
  simp only [e16, e74]
  exact h
theorem iLin_of {M N : M3} (e20_0 : N 20 0 0 = M 20 0 0) (e20_6 : N 20 0 6 = M 20 0 6) (e20_7 : N 20 0 7 = M 20 0 7) (e20_8 : N 20 0 8 = M 20 0 8) (e44_32 : N 44 0 32 = M 44 0 32) (e44_29 : N 44 0 29 = M 44 0 29) (e44_30 : N 44 0 30 = M 44 0 30) (e44_31 : N 44 0 31 = M 44 0 31) (e44_1 : N 44 0 1 = M 44 0 1) (e21 : N 21 = M 21) (e22 : N 22 = M 22) (e23 : N 23 = M 23) (e25 : N 25 = M 25) (e64 : N 64 = M 64) (e65 : N 65 = M 65) (e66 : N 66 = M 66) (e46 : N 46 = M 46) (h : iLin M) : iLin N := by
  unfold iLin okL SgP lt3 at h ⊢
  simp only [e20_0, e20_6, e20_7, e20_8, e44_32, e44_29, e44_30, e44_31, e44_1, e21, e22, e23, e25, e64, e65, e66, e46]
  exact h
theorem iLst_of {M N : M3} (e36_0 : N 36 0 0 = M 36 0 0) (e44_39 : N 44 0 39 = M 44 0 39) (e37 : N 37 = M 37) (e38 : N 38 = M 38) (e39 : N 39 = M 39) (e40 : N 40 = M 40) (e71 : N 71 = M 71) (h : iLst M) : iLst N := by
  unfold iLst at h ⊢
  simp only [e36_0, e44_39, e37, e38, e39, e40, e71]
  exact h
theorem iSum_of {M N : M3} (e31_0 : N 31 0 0 = M 31 0 0) (e44_44 : N 44 0 44 = M 44 0 44) (e44_1 : N 44 0 1 = M 44 0 1) (e32 : N 32 = M 32) (e33 : N 33 = M 33) (e34 : N 34 = M 34) (e75 : N 75 = M 75) (e76 : N 76 = M 76) (e77 : N 77 = M 77) (h : iSum M) : iSum N := by
  unfold iSum at h ⊢
  simp only [e31_0, e44_44, e44_1, e32, e33, e34, e75, e76, e77]
  exact h
theorem iSht_of {M N : M3} (e42 : N 42 = M 42) (e43 : N 43 = M 43) (e80 : N 80 = M 80) (e81 : N 81 = M 81) (e82 : N 82 = M 82) (e83 : N 83 = M 83) (h : iSht M) : iSht N := by
  unfold iSht iS at h ⊢
  simp only [e42, e43, e80, e81, e82, e83]
  exact h
theorem iW_of {M N : M3} (e44_18 : N 44 0 18 = M 44 0 18) (e44_9 : N 44 0 9 = M 44 0 9) (e52 : N 52 = M 52) (e18 : N 18 = M 18) (e46 : N 46 = M 46) (e56 : N 56 = M 56) (e57 : N 57 = M 57) (e58 : N 58 = M 58) (e59 : N 59 = M 59) (h : iW M) : iW N := by
  unfold iW mLck mRights alw3 at h ⊢
  simp only [e44_18, e44_9, e52, e18, e46, e56, e57, e58, e59, LM3_eq e52 e44_9]
  exact h
theorem iBas.s {M N : M3} (e : Es M N) (h : iBas M) : iBas N := iBas_of (by rw [e.1 2 (by decide)]) (by rw [e.1 2 (by decide)]) (e.2.2.2 0 (by decide)) (e.2.2.2 27 (by decide)) (by rw [e.1 0 (by decide)]) (e.2.2.2 58 (by decide)) h
theorem iLaw.s {M N : M3} (e : Es M N) (h : iLaw M) : iLaw N := iLaw_of (e.2.1 0 (by decide)) (e.2.2.2 9 (by decide)) (e.1 4 (by decide)) (e.1 52 (by decide)) h
theorem iCty.s {M N : M3} (e : Es M N) (h : iCty M) : iCty N := iCty_of (by rw [e.1 10 (by decide)]) (e.2.2.2 1 (by decide)) (e.1 13 (by decide)) (e.1 45 (by decide)) (e.1 46 (by decide)) (e.1 47 (by decide)) (e.1 48 (by decide)) (e.1 49 (by decide)) (e.1 50 (by decide)) (e.1 51 (by decide)) h
theorem iFrm.s {M N : M3} (e : Es M N) (h : iFrm M) : iFrm N := iFrm_of (by rw [e.1 14 (by decide)]) (e.2.2.2 18 (by decide)) (e.2.2.2 0 (by decide)) (e.2.2.2 1 (by decide)) (fun f j _ => by rw [e.1 18 (by decide)]) (e.1 19 (by decide)) (e.1 46 (by decide)) (e.1 56 (by decide)) (e.1 57 (by decide)) (e.1 58 (by decide)) (e.1 59 (by decide)) (e.1 60 (by decide)) (e.1 61 (by decide)) (e.1 62 (by decide)) (e.1 63 (by decide)) h
theorem iOrd.s {M N : M3} (e : Es M N) (h : iOrd M) : iOrd N := iOrd_of (e.1 16 (by decide)) (e.1 74 (by decide)) h
theorem iLin.s {M N : M3} (e : Es M N) (h : iLin M) : iLin N := iLin_of (by rw [e.1 20 (by decide)]) (by rw [e.1 20 (by decide)]) (by rw [e.1 20 (by decide)]) (by rw [e.1 20 (by decide)]) (e.2.2.2 32 (by decide)) (e.2.2.2 29 (by decide)) (e.2.2.2 30 (by decide)) (e.2.2.2 31 (by decide)) (e.2.2.2 1 (by decide)) (e.1 21 (by decide)) (e.1 22 (by decide)) (e.1 23 (by decide)) (e.1 25 (by decide)) (e.1 64 (by decide)) (e.1 65 (by decide)) (e.1 66 (by decide)) (e.1 46 (by decide)) h
theorem iLst.s {M N : M3} (e : Es M N) (h : iLst M) : iLst N := iLst_of (by rw [e.1 36 (by decide)]) (e.2.2.2 39 (by decide)) (e.1 37 (by decide)) (e.1 38 (by decide)) (e.1 39 (by decide)) (e.1 40 (by decide)) (e.1 71 (by decide)) h
theorem iSum.s {M N : M3} (e : Es M N) (h : iSum M) : iSum N := iSum_of (e.2.2.1 0 (by decide)) (e.2.2.2 44 (by decide)) (e.2.2.2 1 (by decide)) (e.1 32 (by decide)) (e.1 33 (by decide)) (e.1 34 (by decide)) (e.1 75 (by decide)) (e.1 76 (by decide)) (e.1 77 (by decide)) h
theorem iSht.s {M N : M3} (e : Es M N) (h : iSht M) : iSht N := iSht_of (e.1 42 (by decide)) (e.1 43 (by decide)) (e.1 80 (by decide)) (e.1 81 (by decide)) (e.1 82 (by decide)) (e.1 83 (by decide)) h
theorem iW.s {M N : M3} (e : Es M N) (h : iW M) : iW N := iW_of (e.2.2.2 18 (by decide)) (e.2.2.2 9 (by decide)) (e.1 52 (by decide)) (e.1 18 (by decide)) (e.1 46 (by decide)) (e.1 56 (by decide)) (e.1 57 (by decide)) (e.1 58 (by decide)) (e.1 59 (by decide)) h
theorem IB.s {M N : M3} (e : Es M N) (h : IB M) : IB N := by
  obtain ⟨h1, h2, h3, h4, h5, h6, h7, h8, h9⟩ := h
  exact ⟨h1.s e, h2.s e, h3.s e, h4.s e, h5.s e, h6.s e, h7.s e, h8.s e, h9.s e⟩
theorem IA.s {M N : M3} (e : Es M N) (h : IA M) : IA N := ⟨h.1.s e, h.2.s e⟩
theorem LwC.m {M N : M3} (h : LwC M) (e : Em M N) : LwC N := h.same (fun j _ => by rw [e.1 3 (by decide)]) (fun q hq => e.1 q fun z => by
  have : ∀ x : Nat, x ∈ ([4, 5, 6, 7, 8, 9] : List Nat) → x ∉ ([44, 53, 54, 55] : List Nat) := by decide
  exact this q hq z)
theorem RdC.c {M N : M3} (h : RdC M) (e : Ec M N) : RdC N := h.same (fun j _ => by rw [e.1 44 (by decide)]) (fun q hq => e.1 q fun z => by
  have : ∀ x : Nat, x ∈ ([52, 53, 54, 55] : List Nat) → x ∉ ([3, 8, 9] : List Nat) := by decide
  exact this q hq z)
theorem Inv.m {M N : M3} (h : Inv M) (e : Em M N) (hR : RdC N) : Inv N := ⟨h.1.s (Es.m e), h.2.1.m e, hR⟩
theorem Inv.c {M N : M3} (h : Inv M) (e : Ec M N) (hL : LwC N) : Inv N := ⟨h.1.s (Es.c e), hL, h.2.2.c e⟩
theorem Inv.s {M N : M3} (h : Inv M) (e : Es M N) (hL : LwC N) (hR : RdC N) : Inv N := ⟨h.1.s e, hL, hR⟩
/-! what follows from it -/
theorem IB.L {M : M3} (h : IB M) : LL3 M = LM3 M := by
  obtain ⟨a, b, c⟩ := h.2.1
  show lwL (M 3 0 0) (M 4 0) = lwL (M 44 0 9) (M 52 0)
  rw [a]
  unfold lwL lwF
  rw [lw_congr c]
theorem IB.now {M : M3} (h : IB M) : cTold M = mNow M := by
  obtain ⟨a, b, _⟩ := h.1
  unfold cTold mNow
  rw [a, b]
theorem IB.nowr {M : M3} (h : IB M) : 0 ≤ mNow M ∧ mNow M ≤ M 44 0 0 := by
  obtain ⟨a, b, c, d, _⟩ := h.1
  rcases mNow_c M with q | q <;> omega
theorem IB.p {M : M3} (h : IB M) {p : Int} (h0 : 0 ≤ p) (h1 : p < 48) : iP M p := h.2.2.1.2.2 p h0 h1
theorem IB.f {M : M3} (h : IB M) {f : Int} (h0 : 0 ≤ f) (h1 : f < M 44 0 18) : iF M f := h.2.2.2.1.2.2 f h0 h1
theorem IB.okA {M : M3} (h : IB M) : okA M := by
  refine ⟨h.2.2.2.1.2.1, fun f a b => ?_⟩
  obtain ⟨f1, f2, f3, f4, f5, f6, f7, f8, f9⟩ := h.f a b
  have hn := h.2.2.2.1.2.1
  have hw := h.nowr
  have hd := h.1.2.2.1
  have hc := h.2.2.1.2.1
  exact ⟨⟨by omega, by omega, by omega⟩, by omega, f3, fun q => by
    obtain ⟨g1, g2, g3, g4, g5, g6, g7, g8⟩ := f6 q
    omega⟩
theorem IB.okP {M : M3} (h : IB M) : okP M := ⟨h.2.2.1.2.1, h.1.2.2.1, fun p a b => (h.p a (by have := h.2.2.1.2.1; omega)).2.2.2.2.2.1⟩
theorem IB.okJ {M : M3} (h : IB M) : okJ M := ⟨h.okP, h.2.2.2.2.2.2.2.1.2.1, fun k a b => by
  obtain ⟨_, c2, _, c4, c5⟩ := h.2.2.2.2.2.2.2.1.2.2 k a b
  exact ⟨fun q => c4 (by omega), c5⟩⟩
theorem IB.okS {M : M3} (h : IB M) : okS M := ⟨h.2.2.1.2.1, h.2.2.2.2.2.2.1.2.1, fun p a b => by
  obtain ⟨p1, p2, p3, p4, p5, p6, p7, p8, p9, p10⟩ := h.p a (show p < 48 by have := h.2.2.1.2.1; omega)
  exact ⟨p4, by omega, p7⟩⟩
theorem IB.okL {M : M3} (h : IB M) : okL M := h.2.2.2.2.2.1.2.2.1
theorem IB.tly {M : M3} (h : IB M) {b s t : Int} (ht : t ≤ 2) : fTally M b s t = mRoll M b s t := by
  unfold fTally mRoll
  rw [h.2.2.1.1]
  refine cn3_congr fun p a c => decide_eq_decide.mpr ?_
  obtain ⟨⟨p1, p2, p3, p4, p5, p6⟩, q1, _⟩ := h.p a (show p < 48 by have := h.2.2.1.2.1; omega)
  rw [p5, p1]
  constructor
  · intro z
    rw [q1 (by omega)] at z
    exact z
  · intro z
    rw [q1 (by omega)]
    exact z
theorem IB.how {M : M3} (h : IB M) {f : Int} (h0 : 0 ≤ f) (h1 : f < M 44 0 18) : (M 18 f 5 ≠ -1 ∧ M 18 f 5 ≤ cTold M) ↔ 0 < mHow M f := by
  obtain ⟨f1, f2, f3, f4, f5, f6, f7, f8, f9⟩ := h.f h0 h1
  rw [h.now]
  rcases mHow_c M f with ⟨q, e⟩ | ⟨q, e⟩
  · obtain ⟨g1, g2, g3, g4, g5, g6, g7, g8⟩ := f6 q.2.1
    rw [e]
    constructor
    · intro _
      exact q.2.1
    · intro _
      omega
  · rw [e]
    constructor
    · intro z
      exfalso
      by_cases y : 0 < M 62 0 f
      · obtain ⟨g1, g2, g3, g4, g5, g6, g7, g8⟩ := f6 y
        exact q (by omega)
      · have := f5 (by omega)
        omega
    · intro z
      omega
theorem IB.knw {M : M3} (h : IB M) (p : Int) : cKnown M p = if p = -1 then mCk M else mKnN M p := by
  by_cases q : p = -1
  · rw [if_pos q]
    unfold cKnown mCk
    rw [h.2.2.2.1.1]
    refine cn3_congr fun f a b => decide_eq_decide.mpr ?_
    obtain ⟨⟨f1, f2, f3, f4⟩, _⟩ := h.f a b
    rw [f3, h.now]
    exact ⟨fun z => z.1, fun z => ⟨z, Or.inl q⟩⟩
  · rw [if_neg q]
    unfold cKnown mKnN
    rw [h.2.2.2.1.1]
    refine cn3_congr fun f a b => decide_eq_decide.mpr ?_
    obtain ⟨⟨f1, f2, f3, f4⟩, _⟩ := h.f a b
    rw [f3, h.now, f1]
    exact ⟨fun z => ⟨z.2.resolve_left q, z.1⟩, fun z => ⟨z.2, Or.inr z.1⟩⟩
theorem IB.rds {M : M3} (h : IB M) : cReads M = mCr M := by
  unfold cReads mCr
  rw [h.2.2.2.1.1]
  exact cn3_congr fun f a b => decide_eq_decide.mpr (h.how a b)
theorem mHow_v {M : M3} (h : IB M) {f : Int} (h0 : 0 ≤ f) (h1 : f < M 44 0 18) : mHow M f = 0 ∨ mHow M f = 1 ∨ mHow M f = 2 := by
  have := (h.f h0 h1).2.2.1
  rcases mHow_c M f with q | q <;> omega
theorem IB.rd {M : M3} (h : IB M) {f : Int} (h0 : 0 ≤ f) (h1 : f < M 44 0 18) (hr : 0 < mHow M f) : M 18 f 5 = M 60 0 f ∧ M 18 f 6 = M 61 0 f ∧ (M 18 f 7 = 1 ↔ mHow M f = 1) ∧ M 18 f 8 = M 63 0 f ∧ mHow M f = M 62 0 f := by
  obtain ⟨f1, f2, f3, f4, f5, f6, f7, f8, f9⟩ := h.f h0 h1
  rcases mHow_c M f with ⟨q, e⟩ | ⟨q, e⟩
  · obtain ⟨g1, g2, g3, g4, g5, g6, g7, g8⟩ := f6 q.2.1
    exact ⟨g1, g2, by rw [e]; exact g3, g4, e⟩
  · omega
theorem or3_c : or3 1 2 = 3 ∧ or3 0 2 = 2 ∧ or3 1 0 = 1 ∧ or3 0 0 = 0 ∧ or3 3 4 = 7 ∧ or3 2 4 = 6 ∧ or3 1 4 = 5 ∧ or3 0 4 = 4 ∧ or3 3 0 = 3 ∧ or3 2 0 = 2 ∧ or3 7 8 = 15 ∧ or3 6 8 = 14 ∧ or3 5 8 = 13 ∧ or3 4 8 = 12 ∧ or3 3 8 = 11 ∧ or3 2 8 = 10 ∧ or3 1 8 = 9 ∧ or3 0 8 = 8 ∧ or3 7 0 = 7 ∧ or3 6 0 = 6 ∧ or3 5 0 = 5 ∧ or3 4 0 = 4 := by decide +kernel
theorem lck_k (P1 P2 P3 P4 : Prop) [Decidable P1] [Decidable P2] [Decidable P3] [Decidable P4] : (((if P1 then (0 : Int) else 1) + (if P2 then 2 else 0) + (if P3 then 4 else 0) = 0) ↔ (P1 ∧ ¬ P2 ∧ ¬ P3)) ∧ 0 ≤ (if P1 then (0 : Int) else 1) + (if P2 then 2 else 0) + (if P3 then 4 else 0) ∧ (if P1 then (0 : Int) else 1) + (if P2 then 2 else 0) + (if P3 then 4 else 0) ≤ 7 ∧ or3 (or3 (or3 (if P1 then (0 : Int) else 1) (if P2 then 2 else 0)) (if P3 then 4 else 0)) (if P4 then 8 else 0) = if P4 then (if P1 then (0 : Int) else 1) + (if P2 then 2 else 0) + (if P3 then 4 else 0) + 8 else (if P1 then (0 : Int) else 1) + (if P2 then 2 else 0) + (if P3 then 4 else 0) := by
  obtain ⟨c1, c2, c3, c4, c5, c6, c7, c8, c9, c10, c11, c12, c13, c14, c15, c16, c17, c18, c19, c20, c21, c22⟩ := or3_c
  by_cases p1 : P1 <;> by_cases p2 : P2 <;> by_cases p3 : P3 <;> by_cases p4 : P4 <;> simp [p1, p2, p3, p4, c1, c2, c3, c4, c5, c6, c7, c8, c9, c10, c11, c12, c13, c14, c15, c16, c17, c18, c19, c20, c21, c22]
theorem mLck_c (M : M3) (f : Int) : (mLck M f = 0 ↔ mByT M f) ∧ 0 ≤ mLck M f ∧ mLck M f ≤ 7 ∧ mTrue M f = (if mLate M f then mLck M f + 8 else mLck M f) := by
  obtain ⟨a, b, c, d⟩ := lck_k (alw3 (LM3 M) (M 46 0 (M 56 0 f)) (M 57 0 f)) (M 58 0 f < sSd (LM3 M) 22 (M 57 0 f)) (mRights M f < sSd (LM3 M) 20 (M 57 0 f)) (mLate M f)
  refine ⟨a.trans ?_, b, c, d⟩
  unfold mByT
  constructor
  · intro z
    exact ⟨z.1, by omega, by omega⟩
  · intro z
    exact ⟨z.1, by omega, by omega⟩
