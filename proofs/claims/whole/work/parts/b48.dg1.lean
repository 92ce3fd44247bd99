/-! PAIRS: digest -/
abbrev h31 (h : Int64) (v : Int) : Int64 := ((31 : Int64) * h) + (i2l3 v)
def gdN (f : Int → Int64 → Int64) (h : Int64) : Nat → Int64
  | 0 => h
  | n + 1 => f n (gdN f h n)
def gd3 (n : Int) (f : Int → Int64 → Int64) (h : Int64) : Int64 := gdN f h n.toNat
theorem gd3_s {n : Int} (hn : 0 ≤ n) (f : Int → Int64 → Int64) (h : Int64) : gd3 (n + 1) f h = f n (gd3 n f h) := by
  unfold gd3
  obtain ⟨k, rfl⟩ := Int.eq_ofNat_of_zero_le hn
  rfl
theorem gd3_0 (f : Int → Int64 → Int64) (h : Int64) : gd3 0 f h = h := rfl
def sC (M : M3) : Int → Int64 → Int64 := fun w h => h31 h (mCt M w)
def sA (M : M3) (p : Int) : Int → Int64 → Int64 := fun w h => h31 h (mAb M p w)
def sP (M : M3) : Int → Int64 → Int64 := fun p h => gd3 7 (sA M p) h
def fV (M : M3) (f w : Int) : Int := if M 57 0 f ≤ mNow M then mFo M f w else -3
def sF (M : M3) : Int → Int64 → Int64 := fun f h => h31 (h31 (h31 (h31 h (fV M f 3)) (fV M f 5)) (fV M f 8)) (fV M f 10)
def sH (M : M3) : Int → Int64 → Int64 := fun c h => h31 (h31 h (mFtg M c 0 * mFtg M c 1)) (mUof M c)
def sB (M : M3) : Int → Int64 → Int64 := fun b h => h31 h (mChs M b)
def dg1 (M : M3) : Int64 := gd3 9 (sC M) 17
def dg2 (M : M3) : Int64 := gd3 (M 44 0 1) (sP M) (dg1 M)
def dg3 (M : M3) : Int64 := gd3 (M 44 0 18) (sF M) (dg2 M)
def dg4 (M : M3) : Int64 := gd3 4 (sH M) (dg3 M)
def dg5 (M : M3) : Int64 := h31 (h31 (dg4 M) (lwF (M 44 0 9) (M 52 0))) (mRdy M (-1) 0)
def dg6 (M : M3) : Int64 := gd3 6 (sB M) (dg5 M)
def mDg (M : M3) : Int64 := h31 (h31 (dg6 M) (jOn M (shl3 1 (M 44 0 44) - 1))) (jRd M (shl3 1 (M 44 0 44) - 1))
theorem fV_q {M N : M3} (h : Hm M N) (f w : Int) : fV N f w = fV M f w := by
  unfold fV
  rw [mNow_q h, h 57 (by decide), mFo_q h]
theorem mDg_q {M N : M3} (h : Hm M N) : mDg N = mDg M := by
  have e1 : sC N = sC M := by
    unfold sC
    simp only [mCt_q h]
  have e2 : sP N = sP M := by
    unfold sP sA
    simp only [mAb_q h]
  have e3 : sF N = sF M := by
    unfold sF
    simp only [fV_q h]
  have e4 : sH N = sH M := by
    unfold sH
    simp only [mFtg_q h, mUof_q h]
  have e6 : sB N = sB M := by
    unfold sB
    simp only [mChs_q h]
  unfold mDg dg6 dg5 dg4 dg3 dg2 dg1
  rw [e1, e2, e3, e4, e6, h 44 (by decide), h 52 (by decide), mRdy_h h, jOn_q h, jRd_q h]
/-! the class -/
theorem lD6 {E : E3} {Q : Q3} {M : M3} (hI : Inv M) (k : G3 E YX11_digest Q 33 [(0, vR 0 0), (1, vL (dg1 M)), (3, vI 0)] [] M) : ∀ (n : Nat) (x3 : Int), 0 ≤ x3 → x3 + n = 9 → G3 E YX11_digest Q 6 [(0, vR 0 0), (1, vL (gd3 x3 (sC M) 17)), (3, vI x3)] [] M := by
  intro n
  induction n with
  | zero =>
    intro x3 h1 h2
    refine sX11_digest_6 ?_
    refine ⟨?_, ?_⟩
    · first | omega | exact ⟨hI, by omega⟩
    refine ⟨fun c1 => ?_, fun c1 => ?_⟩
    · rw [show x3 = 9 by omega]
      exact k
    · refine ⟨?_, ?_⟩
      · first | omega | exact ⟨hI, by omega⟩
      exfalso
      omega
  | succ n ih =>
    intro x3 h1 h2
    refine sX11_digest_6 ?_
    refine ⟨?_, ?_⟩
    · first | omega | exact ⟨hI, by omega⟩
    refine ⟨fun c1 => ?_, fun c1 => ?_⟩
    · exfalso
      omega
    · refine ⟨?_, ?_⟩
      · first | omega | exact ⟨hI, by omega⟩
      have k1 := ih (x3 + 1) (by omega) (by omega)
      rw [gd3_s h1] at k1
      exact k1
theorem lD47 {E : E3} {Q : Q3} {M : M3} (hI : Inv M) {p : Int} {h : Int64} (hp : 0 ≤ p ∧ p < M 44 0 1) (k : G3 E YX11_digest Q 33 [(0, vR 0 0), (1, vL (gd3 7 (sA M p) h)), (3, vI (p + 1))] [] M) : ∀ (n : Nat) (x4 : Int), 0 ≤ x4 → x4 + n = 7 → G3 E YX11_digest Q 47 [(0, vR 0 0), (1, vL (gd3 x4 (sA M p) h)), (3, vI p), (4, vI x4)] [] M := by
  have hc2 := hI.1.1.2.2.1.2.1
  intro n
  induction n with
  | zero =>
    intro x4 h1 h2
    refine sX11_digest_47 ?_
    refine ⟨?_, ?_⟩
    · first | omega | exact ⟨hI, by omega, by omega⟩
    refine ⟨fun c1 => ?_, fun c1 => ?_⟩
    · rw [show x4 = 7 by omega]
      exact k
    · refine ⟨?_, ?_⟩
      · first | omega | exact ⟨hI, by omega, by omega⟩
      exfalso
      omega
  | succ n ih =>
    intro x4 h1 h2
    refine sX11_digest_47 ?_
    refine ⟨?_, ?_⟩
    · first | omega | exact ⟨hI, by omega, by omega⟩
    refine ⟨fun c1 => ?_, fun c1 => ?_⟩
    · exfalso
      omega
    · refine ⟨?_, ?_⟩
      · first | omega | exact ⟨hI, by omega, by omega⟩
      have k1 := ih (x4 + 1) (by omega) (by omega)
      rw [gd3_s h1] at k1
      rw [show a_about M p x4 = mAb M p x4 from if_pos (by omega)]
      exact k1
theorem lD33 {E : E3} {Q : Q3} {M : M3} (hI : Inv M) (k : G3 E YX11_digest Q 83 [(0, vR 0 0), (1, vL (dg2 M)), (3, vI 0)] [] M) : ∀ (n : Nat) (x3 : Int), 0 ≤ x3 → x3 + n = M 44 0 1 → G3 E YX11_digest Q 33 [(0, vR 0 0), (1, vL (gd3 x3 (sP M) (dg1 M))), (3, vI x3)] [] M := by
  have hc1 := hI.1.1.2.2.1.1
  have hc2 := hI.1.1.2.2.1.2.1
  intro n
  induction n with
  | zero =>
    intro x3 h1 h2
    refine sX11_digest_33 ?_
    refine ⟨?_, ?_⟩
    · omega
    refine ⟨fun c1 => ?_, fun c1 => ?_⟩
    · rw [show x3 = M 44 0 1 by omega]
      exact k
    · exfalso
      omega
  | succ n ih =>
    intro x3 h1 h2
    refine sX11_digest_33 ?_
    refine ⟨?_, ?_⟩
    · omega
    refine ⟨fun c1 => ?_, fun c1 => ?_⟩
    · exfalso
      omega
    · have k1 := ih (x3 + 1) (by omega) (by omega)
      rw [gd3_s h1] at k1
      exact lD47 hI (by omega) k1 7 0 (by decide) (by decide)
theorem lD83 {E : E3} {Q : Q3} {M0 : M3} (hI0 : Inv M0) (k : ∀ (M : M3), Inv M → Hm M0 M → G3 E YX11_digest Q 160 [(0, vR 0 0), (1, vL (dg3 M0)), (3, vI 0)] [] M) : ∀ (n : Nat) (x3 : Int) (M : M3), 0 ≤ x3 → x3 + n = M0 44 0 18 → Inv M → Hm M0 M → G3 E YX11_digest Q 83 [(0, vR 0 0), (1, vL (gd3 x3 (sF M0) (dg2 M0))), (3, vI x3)] [] M := by
  have hf2 := hI0.1.1.2.2.2.1.2.1
  have fv : ∀ (N : M3) (f w : Int), Hm M0 N → (0 ≤ f ∧ f < M0 44 0 18) → (0 ≤ w ∧ w ≤ 11) → a_formIs N f w = fV M0 f w := fun N f w h a b => by
    rw [a_formIs_q h]
    exact if_pos ⟨a, b⟩
  intro n
  induction n with
  | zero =>
    intro x3 M h1 h2 h3 h4
    have e14 : M 14 0 0 = M0 44 0 18 := by rw [h3.1.1.2.2.2.1.1, h4 44 (by decide)]
    refine sX11_digest_83 ?_
    refine ⟨?_, ?_⟩
    · first | omega | exact ⟨h3, by omega, by omega⟩ | exact ⟨hp1.1, by omega, by omega⟩ | exact ⟨hp2.1, by omega, by omega⟩ | exact ⟨hp3.1, by omega, by omega⟩
    refine ⟨fun c1 => ?_, fun c1 => ?_⟩
    · rw [show x3 = M0 44 0 18 by omega]
      exact k M h3 h4
    · refine ⟨?_, ?_⟩
      · first | omega | exact ⟨h3, by omega, by omega⟩ | exact ⟨hp1.1, by omega, by omega⟩ | exact ⟨hp2.1, by omega, by omega⟩ | exact ⟨hp3.1, by omega, by omega⟩
      intro N1 hN1 hf1 hp1
      refine ⟨?_, ?_⟩
      · first | omega | exact ⟨h3, by omega, by omega⟩ | exact ⟨hp1.1, by omega, by omega⟩ | exact ⟨hp2.1, by omega, by omega⟩ | exact ⟨hp3.1, by omega, by omega⟩
      intro N2 hN2 hf2 hp2
      refine ⟨?_, ?_⟩
      · first | omega | exact ⟨h3, by omega, by omega⟩ | exact ⟨hp1.1, by omega, by omega⟩ | exact ⟨hp2.1, by omega, by omega⟩ | exact ⟨hp3.1, by omega, by omega⟩
      intro N3 hN3 hf3 hp3
      refine ⟨?_, ?_⟩
      · first | omega | exact ⟨h3, by omega, by omega⟩ | exact ⟨hp1.1, by omega, by omega⟩ | exact ⟨hp2.1, by omega, by omega⟩ | exact ⟨hp3.1, by omega, by omega⟩
      intro N4 hN4 hf4 hp4
      exfalso
      omega
  | succ n ih =>
    intro x3 M h1 h2 h3 h4
    have e14 : M 14 0 0 = M0 44 0 18 := by rw [h3.1.1.2.2.2.1.1, h4 44 (by decide)]
    refine sX11_digest_83 ?_
    refine ⟨?_, ?_⟩
    · first | omega | exact ⟨h3, by omega, by omega⟩ | exact ⟨hp1.1, by omega, by omega⟩ | exact ⟨hp2.1, by omega, by omega⟩ | exact ⟨hp3.1, by omega, by omega⟩
    refine ⟨fun c1 => ?_, fun c1 => ?_⟩
    · exfalso
      omega
    · refine ⟨?_, ?_⟩
      · first | omega | exact ⟨h3, by omega, by omega⟩ | exact ⟨hp1.1, by omega, by omega⟩ | exact ⟨hp2.1, by omega, by omega⟩ | exact ⟨hp3.1, by omega, by omega⟩
      intro N1 hN1 hf1 hp1
      refine ⟨?_, ?_⟩
      · first | omega | exact ⟨h3, by omega, by omega⟩ | exact ⟨hp1.1, by omega, by omega⟩ | exact ⟨hp2.1, by omega, by omega⟩ | exact ⟨hp3.1, by omega, by omega⟩
      intro N2 hN2 hf2 hp2
      refine ⟨?_, ?_⟩
      · first | omega | exact ⟨h3, by omega, by omega⟩ | exact ⟨hp1.1, by omega, by omega⟩ | exact ⟨hp2.1, by omega, by omega⟩ | exact ⟨hp3.1, by omega, by omega⟩
      intro N3 hN3 hf3 hp3
      refine ⟨?_, ?_⟩
      · first | omega | exact ⟨h3, by omega, by omega⟩ | exact ⟨hp1.1, by omega, by omega⟩ | exact ⟨hp2.1, by omega, by omega⟩ | exact ⟨hp3.1, by omega, by omega⟩
      intro N4 hN4 hf4 hp4
      have k1 := ih (x3 + 1) N4 (by omega) (by omega) hp4.1 ((((h4.tr hp1.2).tr hp2.2).tr hp3.2).tr hp4.2)
      rw [gd3_s h1] at k1
      rw [fv M x3 3 h4 (by omega) (by decide), fv N1 x3 5 (h4.tr hp1.2) (by omega) (by decide), fv N2 x3 8 ((h4.tr hp1.2).tr hp2.2) (by omega) (by decide), fv N3 x3 10 (((h4.tr hp1.2).tr hp2.2).tr hp3.2) (by omega) (by decide)]
      exact k1
theorem lD160 {E : E3} {Q : Q3} {M0 M : M3} (hI : Inv M) (hm : Hm M0 M) (k : ∀ (N : M3), Inv N → Hm M0 N → G3 E YX11_digest Q 230 [(0, vR 0 0), (1, vL (dg5 M0)), (3, vI 0)] [] N) : ∀ (n : Nat) (x3 : Int), 0 ≤ x3 → x3 + n = 4 → G3 E YX11_digest Q 160 [(0, vR 0 0), (1, vL (gd3 x3 (sH M0) (dg3 M0))), (3, vI x3)] [] M := by
  have hlw : M 3 0 1 = lwF (M0 44 0 9) (M0 52 0) := by
    have hL := hI.2.1.2.1
    have hl := hI.1.1.2.1
    rw [hL, hl.1, hm 44 (by decide)]
    have hl3 := hl.2.2
    rw [hm 44 (by decide), hm 52 (by decide)] at hl3
    unfold lwF
    rw [lw_congr hl3]
  have hr : a_ready M (-1) = mRdy M0 (-1) 0 := by rw [a_ready_q hm]; exact if_pos (by decide)
  intro n
  induction n with
  | zero =>
    intro x3 h1 h2
    have r0 := cLst_rg M x3 0
    have r1 := cLst_rg M x3 1
    have r2 := cMst_rg M x3 0
    have r3 := cMst_rg M x3 1
    refine sX11_digest_160 ?_
    refine ⟨?_, ?_⟩
    · first | omega | exact ⟨hI, by omega⟩ | exact ⟨hI.1, by omega⟩
    refine ⟨fun c1 => ?_, fun c1 => ?_⟩
    · refine ⟨?_, ?_⟩
      · first | omega | exact ⟨hI, by omega⟩ | exact ⟨hI.1, by omega⟩
      intro N1 hN1 hf1 hp1
      have k1 := k N1 hp1.1 (hm.tr hp1.2)
      rw [hlw, hr, show x3 = 4 by omega]
      exact k1
    · refine ⟨?_, ?_, ?_, ?_, ?_, ?_⟩
      · first | omega | exact ⟨hI, by omega⟩ | exact ⟨hI.1, by omega⟩
      · first | omega | exact ⟨hI, by omega⟩ | exact ⟨hI.1, by omega⟩
      · first | omega | exact ⟨hI, by omega⟩ | exact ⟨hI.1, by omega⟩
      · first | omega | exact ⟨hI, by omega⟩ | exact ⟨hI.1, by omega⟩
      · first | omega | exact ⟨hI, by omega⟩ | exact ⟨hI.1, by omega⟩
      exfalso
      omega
  | succ n ih =>
    intro x3 h1 h2
    have r0 := cLst_rg M x3 0
    have r1 := cLst_rg M x3 1
    have r2 := cMst_rg M x3 0
    have r3 := cMst_rg M x3 1
    refine sX11_digest_160 ?_
    refine ⟨?_, ?_⟩
    · first | omega | exact ⟨hI, by omega⟩ | exact ⟨hI.1, by omega⟩
    refine ⟨fun c1 => ?_, fun c1 => ?_⟩
    · refine ⟨?_, ?_⟩
      · first | omega | exact ⟨hI, by omega⟩ | exact ⟨hI.1, by omega⟩
      intro N1 hN1 hf1 hp1
      exfalso
      omega
    · refine ⟨?_, ?_, ?_, ?_, ?_, ?_⟩
      · first | omega | exact ⟨hI, by omega⟩ | exact ⟨hI.1, by omega⟩
      · first | omega | exact ⟨hI, by omega⟩ | exact ⟨hI.1, by omega⟩
      · first | omega | exact ⟨hI, by omega⟩ | exact ⟨hI.1, by omega⟩
      · first | omega | exact ⟨hI, by omega⟩ | exact ⟨hI.1, by omega⟩
      · first | omega | exact ⟨hI, by omega⟩ | exact ⟨hI.1, by omega⟩
      have k1 := ih (x3 + 1) (by omega) (by omega)
      rw [gd3_s h1] at k1
      rw [← ftg_is hI.1.1 x3 0, ← ftg_is hI.1.1 x3 1, mFtg_q hm, mFtg_q hm, mUof_q hm]
      exact k1
theorem lD230 {E : E3} {Q : Q3} {M0 M : M3} (hI : Inv M) (hm : Hm M0 M) (k : ∀ (N : M3), Inv N → Hm M0 N → Q (some (vL (mDg M0))) N) : ∀ (n : Nat) (x3 : Int), 0 ≤ x3 → x3 + n = 6 → G3 E YX11_digest Q 230 [(0, vR 0 0), (1, vL (gd3 x3 (sB M0) (dg5 M0))), (3, vI x3)] [] M := by
  have hu : M 31 0 0 = M0 44 0 44 := by rw [hI.1.1.2.2.2.2.2.2.2.1.1, hm 44 (by decide)]
  intro n
  induction n with
  | zero =>
    intro x3 h1 h2
    refine sX11_digest_230 ?_
    refine ⟨?_, ?_⟩
    · first | omega | exact ⟨hI.2.1, hI.1.1, by decide⟩ | exact ⟨hp1.2.2, hI.1.1.s hp1.1, by decide⟩ | exact ⟨hI, by omega⟩
    refine ⟨fun c1 => ?_, fun c1 => ?_⟩
    · refine ⟨?_, ?_⟩
      · first | omega | exact ⟨hI.2.1, hI.1.1, by decide⟩ | exact ⟨hp1.2.2, hI.1.1.s hp1.1, by decide⟩ | exact ⟨hI, by omega⟩
      intro N1 hN1 hf1 hp1
      refine ⟨?_, ?_⟩
      · first | omega | exact ⟨hI.2.1, hI.1.1, by decide⟩ | exact ⟨hp1.2.2, hI.1.1.s hp1.1, by decide⟩ | exact ⟨hI, by omega⟩
      intro N2 hN2 hf2 hp2
      have hN : Inv N1 := hI.s hp1.1 hp1.2.2 (RdC.k hp1.2.1 hI.2.2)
      have hK : Inv N2 := hN.s hp2.1 hp2.2.2 (RdC.k hp2.2.1 hN.2.2)
      have k1 := k N2 hK ((hm.tr hp1.2.1).tr hp2.2.1)
      have hu2 : N1 31 0 0 = M0 44 0 44 := by rw [hN.1.1.2.2.2.2.2.2.2.1.1, hp1.2.1 44 (by decide), hm 44 (by decide)]
      rw [hu, hu2, mOut_q hm, mOut_q (hm.tr hp1.2.1), show x3 = 6 by omega]
      exact k1
    · refine ⟨?_, ?_⟩
      · first | omega | exact ⟨hI.2.1, hI.1.1, by decide⟩ | exact ⟨hp1.2.2, hI.1.1.s hp1.1, by decide⟩ | exact ⟨hI, by omega⟩
      exfalso
      omega
  | succ n ih =>
    intro x3 h1 h2
    refine sX11_digest_230 ?_
    refine ⟨?_, ?_⟩
    · first | omega | exact ⟨hI.2.1, hI.1.1, by decide⟩ | exact ⟨hp1.2.2, hI.1.1.s hp1.1, by decide⟩ | exact ⟨hI, by omega⟩
    refine ⟨fun c1 => ?_, fun c1 => ?_⟩
    · refine ⟨?_, ?_⟩
      · first | omega | exact ⟨hI.2.1, hI.1.1, by decide⟩ | exact ⟨hp1.2.2, hI.1.1.s hp1.1, by decide⟩ | exact ⟨hI, by omega⟩
      intro N1 hN1 hf1 hp1
      refine ⟨?_, ?_⟩
      · first | omega | exact ⟨hI.2.1, hI.1.1, by decide⟩ | exact ⟨hp1.2.2, hI.1.1.s hp1.1, by decide⟩ | exact ⟨hI, by omega⟩
      intro N2 hN2 hf2 hp2
      exfalso
      omega
    · refine ⟨?_, ?_⟩
      · first | omega | exact ⟨hI.2.1, hI.1.1, by decide⟩ | exact ⟨hp1.2.2, hI.1.1.s hp1.1, by decide⟩ | exact ⟨hI, by omega⟩
      have k1 := ih (x3 + 1) (by omega) (by omega)
      rw [gd3_s h1] at k1
      rw [show a_chosen M x3 = mChs M x3 from if_pos (by omega), mChs_q hm]
      exact k1
theorem c_digest {E : E3} {Q : Q3} {M : M3} (hI : Inv M) (k : ∀ (N : M3), Inv N → Hm M N → Q (some (vL (mDg M))) N) : C3 E YX11_digest [vR 0 0] M Q := by
  have hc2 := hI.1.1.2.2.1.2.1
  have hf2 := hI.1.1.2.2.2.1.2.1
  refine c3_rm fun hM => ?_
  refine sX11_digest ?_
  skip
  refine lD6 hI ?_ 9 0 (by decide) (by decide)
  refine lD33 hI ?_ (M 44 0 1).toNat 0 (by decide) (by omega)
  refine lD83 hI (fun N hN hm => ?_) (M 44 0 18).toNat 0 M (by decide) (by omega) hI Hm.rf
  refine lD160 hN hm (fun K hK hm2 => ?_) 4 0 (by decide) (by decide)
  exact lD230 hK hm2 k 6 0 (by decide) (by decide)
