/-! PAIRS: digest, the model -/
theorem lM6 {E : E3} {Q : Q3} {M : M3} (hI : Inv M) (k : G3 E YX12_digest Q 33 [(0, vR 44 0), (1, vL (dg1 M)), (3, vI 0)] [] M) : ∀ (n : Nat) (x3 : Int), 0 ≤ x3 → x3 + n = 9 → G3 E YX12_digest Q 6 [(0, vR 44 0), (1, vL (gd3 x3 (sC M) 17)), (3, vI x3)] [] M := by
  have hc2 := hI.1.1.2.2.1.2.1
  have hf2 := hI.1.1.2.2.2.1.2.1
  intro n
  induction n with
  | zero =>
    intro x3 h1 h2
    refine sX12_digest_6 ?_
    refine ⟨?_, ?_⟩
    · omega
    refine ⟨fun c1 => ?_, fun c1 => ?_⟩
    · rw [show x3 = 9 by omega]
      exact k
    · refine ⟨?_, ?_⟩
      · omega
      exfalso
      omega
  | succ n ih =>
    intro x3 h1 h2
    refine sX12_digest_6 ?_
    refine ⟨?_, ?_⟩
    · omega
    refine ⟨fun c1 => ?_, fun c1 => ?_⟩
    · exfalso
      omega
    · refine ⟨?_, ?_⟩
      · omega
      have k1 := ih (x3 + 1) (by omega) (by omega)
      rw [gd3_s h1] at k1
      exact k1
theorem lM44 {E : E3} {Q : Q3} {M : M3} (hI : Inv M) {p : Int} {h : Int64} (hp : 0 ≤ p ∧ p < M 44 0 1) (k : G3 E YX12_digest Q 33 [(0, vR 44 0), (1, vL (gd3 7 (sA M p) h)), (3, vI (p + 1))] [] M) : ∀ (n : Nat) (x4 : Int), 0 ≤ x4 → x4 + n = 7 → G3 E YX12_digest Q 44 [(0, vR 44 0), (1, vL (gd3 x4 (sA M p) h)), (3, vI p), (4, vI x4)] [] M := by
  have hc2 := hI.1.1.2.2.1.2.1
  have hf2 := hI.1.1.2.2.2.1.2.1
  intro n
  induction n with
  | zero =>
    intro x4 h1 h2
    refine sX12_digest_44 ?_
    refine ⟨?_, ?_⟩
    · omega
    refine ⟨fun c1 => ?_, fun c1 => ?_⟩
    · rw [show x4 = 7 by omega]
      exact k
    · refine ⟨?_, ?_⟩
      · omega
      exfalso
      omega
  | succ n ih =>
    intro x4 h1 h2
    refine sX12_digest_44 ?_
    refine ⟨?_, ?_⟩
    · omega
    refine ⟨fun c1 => ?_, fun c1 => ?_⟩
    · exfalso
      omega
    · refine ⟨?_, ?_⟩
      · omega
      have k1 := ih (x4 + 1) (by omega) (by omega)
      rw [gd3_s h1] at k1
      exact k1
theorem lM33 {E : E3} {Q : Q3} {M : M3} (hI : Inv M) (k : G3 E YX12_digest Q 80 [(0, vR 44 0), (1, vL (dg2 M)), (3, vI 0)] [] M) : ∀ (n : Nat) (x3 : Int), 0 ≤ x3 → x3 + n = M 44 0 1 → G3 E YX12_digest Q 33 [(0, vR 44 0), (1, vL (gd3 x3 (sP M) (dg1 M))), (3, vI x3)] [] M := by
  have hc2 := hI.1.1.2.2.1.2.1
  intro n
  induction n with
  | zero =>
    intro x3 h1 h2
    refine sX12_digest_33 ?_
    refine ⟨?_, ?_⟩
    · omega
    refine ⟨fun c1 => ?_, fun c1 => ?_⟩
    · rw [show x3 = M 44 0 1 by omega]
      exact k
    · exfalso
      omega
  | succ n ih =>
    intro x3 h1 h2
    refine sX12_digest_33 ?_
    refine ⟨?_, ?_⟩
    · omega
    refine ⟨fun c1 => ?_, fun c1 => ?_⟩
    · exfalso
      omega
    · have k1 := ih (x3 + 1) (by omega) (by omega)
      rw [gd3_s h1] at k1
      exact lM44 hI (by omega) k1 7 0 (by decide) (by decide)
theorem lM80 {E : E3} {Q : Q3} {M0 : M3} (hI0 : Inv M0) (k : ∀ (M : M3), RdC M → Em M0 M → G3 E YX12_digest Q 206 [(0, vR 44 0), (1, vL (dg3 M0)), (3, vI 0)] [] M) : ∀ (n : Nat) (x3 : Int) (M : M3), 0 ≤ x3 → x3 + n = M0 44 0 18 → RdC M → Em M0 M → G3 E YX12_digest Q 80 [(0, vR 44 0), (1, vL (gd3 x3 (sF M0) (dg2 M0))), (3, vI x3)] [] M := by
  have hf2 := hI0.1.1.2.2.2.1.2.1
  have fy : ∀ f w : Int, M0 57 0 f ≤ mNow M0 → fV M0 f w = mFo M0 f w := fun f w a => if_pos a
  have fn : ∀ f w : Int, ¬ M0 57 0 f ≤ mNow M0 → fV M0 f w = -3 := fun f w a => if_neg a
  intro n
  induction n with
  | zero =>
    intro x3 M h1 h2 h3 h4
    have e18 : M 44 0 18 = M0 44 0 18 := h4.2 18 (by decide)
    refine sX12_digest_80 ?_
    refine ⟨?_, ?_⟩
    · first | omega | (exfalso; omega)
    refine ⟨fun c1 => ?_, fun c1 => ?_⟩
    · rw [show x3 = M0 44 0 18 by omega]
      exact k M h3 h4
    · refine ⟨?_, ?_⟩
      · first | omega | (exfalso; omega)
      refine ⟨fun c2 => ?_, fun c2 => ?_⟩
      · refine ⟨fun c3 => ?_, fun c3 => ?_⟩
        · refine ⟨fun c4 => ?_, fun c4 => ?_⟩
          · refine ⟨fun c5 => ?_, fun c5 => ?_⟩
            · exfalso
              omega
            · refine ⟨?_, ?_⟩
              · first | omega | (exfalso; omega)
              intro N1 hN1 he1 hp1
              exfalso
              omega
          · refine ⟨?_, ?_⟩
            · first | omega | (exfalso; omega)
            intro N1 hN1 he1 hp1
            refine ⟨fun c5 => ?_, fun c5 => ?_⟩
            · exfalso
              omega
            · refine ⟨?_, ?_⟩
              · first | omega | (exfalso; omega)
              intro N2 hN2 he2 hp2
              exfalso
              omega
        · refine ⟨?_, ?_⟩
          · first | omega | (exfalso; omega)
          intro N1 hN1 he1 hp1
          refine ⟨fun c4 => ?_, fun c4 => ?_⟩
          · refine ⟨fun c5 => ?_, fun c5 => ?_⟩
            · exfalso
              omega
            · refine ⟨?_, ?_⟩
              · first | omega | (exfalso; omega)
              intro N2 hN2 he2 hp2
              exfalso
              omega
          · refine ⟨?_, ?_⟩
            · first | omega | (exfalso; omega)
            intro N2 hN2 he2 hp2
            refine ⟨fun c5 => ?_, fun c5 => ?_⟩
            · exfalso
              omega
            · refine ⟨?_, ?_⟩
              · first | omega | (exfalso; omega)
              intro N3 hN3 he3 hp3
              exfalso
              omega
      · refine ⟨?_, ?_⟩
        · first | omega | (exfalso; omega)
        intro N1 hN1 he1 hp1
        refine ⟨fun c3 => ?_, fun c3 => ?_⟩
        · refine ⟨fun c4 => ?_, fun c4 => ?_⟩
          · refine ⟨fun c5 => ?_, fun c5 => ?_⟩
            · exfalso
              omega
            · refine ⟨?_, ?_⟩
              · first | omega | (exfalso; omega)
              intro N2 hN2 he2 hp2
              exfalso
              omega
          · refine ⟨?_, ?_⟩
            · first | omega | (exfalso; omega)
            intro N2 hN2 he2 hp2
            refine ⟨fun c5 => ?_, fun c5 => ?_⟩
            · exfalso
              omega
            · refine ⟨?_, ?_⟩
              · first | omega | (exfalso; omega)
              intro N3 hN3 he3 hp3
              exfalso
              omega
        · refine ⟨?_, ?_⟩
          · first | omega | (exfalso; omega)
          intro N2 hN2 he2 hp2
          refine ⟨fun c4 => ?_, fun c4 => ?_⟩
          · refine ⟨fun c5 => ?_, fun c5 => ?_⟩
            · exfalso
              omega
            · refine ⟨?_, ?_⟩
              · first | omega | (exfalso; omega)
              intro N3 hN3 he3 hp3
              exfalso
              omega
          · refine ⟨?_, ?_⟩
            · first | omega | (exfalso; omega)
            intro N3 hN3 he3 hp3
            refine ⟨fun c5 => ?_, fun c5 => ?_⟩
            · exfalso
              omega
            · refine ⟨?_, ?_⟩
              · first | omega | (exfalso; omega)
              intro N4 hN4 he4 hp4
              exfalso
              omega
  | succ n ih =>
    intro x3 M h1 h2 h3 h4
    have e18 : M 44 0 18 = M0 44 0 18 := h4.2 18 (by decide)
    have e57 : M 57 0 x3 = M0 57 0 x3 := by rw [h4.1 57 (by decide)]
    have en : mNow M = mNow M0 := mNow_e h4
    have ef : ∀ f w : Int, mFo M f w = mFo M0 f w := mFo_e h4
    have hM := hI0.m h4 h3
    have hR : x3 < M0 44 0 18 → okR M x3 := fun z => hM.1.1.okA.2 x3 h1 (by omega)
    refine sX12_digest_80 ?_
    refine ⟨?_, ?_⟩
    · first | omega | exact ⟨h3, hR (by omega), by omega⟩ | exact ⟨hp1, hR (by omega), by omega⟩ | exact ⟨hp2, hR (by omega), by omega⟩ | exact ⟨hp3, hR (by omega), by omega⟩
    refine ⟨fun c1 => ?_, fun c1 => ?_⟩
    · exfalso
      omega
    · refine ⟨?_, ?_⟩
      · first | omega | exact ⟨h3, hR (by omega), by omega⟩ | exact ⟨hp1, hR (by omega), by omega⟩ | exact ⟨hp2, hR (by omega), by omega⟩ | exact ⟨hp3, hR (by omega), by omega⟩
      refine ⟨fun c2 => ?_, fun c2 => ?_⟩
      · refine ⟨fun c3 => ?_, fun c3 => ?_⟩
        · refine ⟨fun c4 => ?_, fun c4 => ?_⟩
          · refine ⟨fun c5 => ?_, fun c5 => ?_⟩
            · first
              | (exfalso; omega)
              | (have k1 := ih (x3 + 1) N4 (by omega) (by omega) hp4 ((((h4.tr he1).tr he2).tr he3).tr he4)
                 rw [gd3_s h1, sF, fy _ _ (by omega), fy _ _ (by omega), fy _ _ (by omega), fy _ _ (by omega)] at k1
                 rw [ef, ef, ef, ef]
                 exact k1)
              | (have k1 := ih (x3 + 1) M (by omega) (by omega) h3 h4
                 rw [gd3_s h1, sF, fn _ _ (by omega), fn _ _ (by omega), fn _ _ (by omega), fn _ _ (by omega)] at k1
                 exact k1)
            · refine ⟨?_, ?_⟩
              · first | omega | exact ⟨h3, hR (by omega), by omega⟩ | exact ⟨hp1, hR (by omega), by omega⟩ | exact ⟨hp2, hR (by omega), by omega⟩ | exact ⟨hp3, hR (by omega), by omega⟩
              intro N1 hN1 he1 hp1
              first
              | (exfalso; omega)
              | (have k1 := ih (x3 + 1) N4 (by omega) (by omega) hp4 ((((h4.tr he1).tr he2).tr he3).tr he4)
                 rw [gd3_s h1, sF, fy _ _ (by omega), fy _ _ (by omega), fy _ _ (by omega), fy _ _ (by omega)] at k1
                 rw [ef, ef, ef, ef]
                 exact k1)
              | (have k1 := ih (x3 + 1) M (by omega) (by omega) h3 h4
                 rw [gd3_s h1, sF, fn _ _ (by omega), fn _ _ (by omega), fn _ _ (by omega), fn _ _ (by omega)] at k1
                 exact k1)
          · refine ⟨?_, ?_⟩
            · first | omega | exact ⟨h3, hR (by omega), by omega⟩ | exact ⟨hp1, hR (by omega), by omega⟩ | exact ⟨hp2, hR (by omega), by omega⟩ | exact ⟨hp3, hR (by omega), by omega⟩
            intro N1 hN1 he1 hp1
            refine ⟨fun c5 => ?_, fun c5 => ?_⟩
            · first
              | (exfalso; omega)
              | (have k1 := ih (x3 + 1) N4 (by omega) (by omega) hp4 ((((h4.tr he1).tr he2).tr he3).tr he4)
                 rw [gd3_s h1, sF, fy _ _ (by omega), fy _ _ (by omega), fy _ _ (by omega), fy _ _ (by omega)] at k1
                 rw [ef, ef, ef, ef]
                 exact k1)
              | (have k1 := ih (x3 + 1) M (by omega) (by omega) h3 h4
                 rw [gd3_s h1, sF, fn _ _ (by omega), fn _ _ (by omega), fn _ _ (by omega), fn _ _ (by omega)] at k1
                 exact k1)
            · refine ⟨?_, ?_⟩
              · first | omega | exact ⟨h3, hR (by omega), by omega⟩ | exact ⟨hp1, hR (by omega), by omega⟩ | exact ⟨hp2, hR (by omega), by omega⟩ | exact ⟨hp3, hR (by omega), by omega⟩
              intro N2 hN2 he2 hp2
              first
              | (exfalso; omega)
              | (have k1 := ih (x3 + 1) N4 (by omega) (by omega) hp4 ((((h4.tr he1).tr he2).tr he3).tr he4)
                 rw [gd3_s h1, sF, fy _ _ (by omega), fy _ _ (by omega), fy _ _ (by omega), fy _ _ (by omega)] at k1
                 rw [ef, ef, ef, ef]
                 exact k1)
              | (have k1 := ih (x3 + 1) M (by omega) (by omega) h3 h4
                 rw [gd3_s h1, sF, fn _ _ (by omega), fn _ _ (by omega), fn _ _ (by omega), fn _ _ (by omega)] at k1
                 exact k1)
        · refine ⟨?_, ?_⟩
          · first | omega | exact ⟨h3, hR (by omega), by omega⟩ | exact ⟨hp1, hR (by omega), by omega⟩ | exact ⟨hp2, hR (by omega), by omega⟩ | exact ⟨hp3, hR (by omega), by omega⟩
          intro N1 hN1 he1 hp1
          refine ⟨fun c4 => ?_, fun c4 => ?_⟩
          · refine ⟨fun c5 => ?_, fun c5 => ?_⟩
            · first
              | (exfalso; omega)
              | (have k1 := ih (x3 + 1) N4 (by omega) (by omega) hp4 ((((h4.tr he1).tr he2).tr he3).tr he4)
                 rw [gd3_s h1, sF, fy _ _ (by omega), fy _ _ (by omega), fy _ _ (by omega), fy _ _ (by omega)] at k1
                 rw [ef, ef, ef, ef]
                 exact k1)
              | (have k1 := ih (x3 + 1) M (by omega) (by omega) h3 h4
                 rw [gd3_s h1, sF, fn _ _ (by omega), fn _ _ (by omega), fn _ _ (by omega), fn _ _ (by omega)] at k1
                 exact k1)
            · refine ⟨?_, ?_⟩
              · first | omega | exact ⟨h3, hR (by omega), by omega⟩ | exact ⟨hp1, hR (by omega), by omega⟩ | exact ⟨hp2, hR (by omega), by omega⟩ | exact ⟨hp3, hR (by omega), by omega⟩
              intro N2 hN2 he2 hp2
              first
              | (exfalso; omega)
              | (have k1 := ih (x3 + 1) N4 (by omega) (by omega) hp4 ((((h4.tr he1).tr he2).tr he3).tr he4)
                 rw [gd3_s h1, sF, fy _ _ (by omega), fy _ _ (by omega), fy _ _ (by omega), fy _ _ (by omega)] at k1
                 rw [ef, ef, ef, ef]
                 exact k1)
              | (have k1 := ih (x3 + 1) M (by omega) (by omega) h3 h4
                 rw [gd3_s h1, sF, fn _ _ (by omega), fn _ _ (by omega), fn _ _ (by omega), fn _ _ (by omega)] at k1
                 exact k1)
          · refine ⟨?_, ?_⟩
            · first | omega | exact ⟨h3, hR (by omega), by omega⟩ | exact ⟨hp1, hR (by omega), by omega⟩ | exact ⟨hp2, hR (by omega), by omega⟩ | exact ⟨hp3, hR (by omega), by omega⟩
            intro N2 hN2 he2 hp2
            refine ⟨fun c5 => ?_, fun c5 => ?_⟩
            · first
              | (exfalso; omega)
              | (have k1 := ih (x3 + 1) N4 (by omega) (by omega) hp4 ((((h4.tr he1).tr he2).tr he3).tr he4)
                 rw [gd3_s h1, sF, fy _ _ (by omega), fy _ _ (by omega), fy _ _ (by omega), fy _ _ (by omega)] at k1
                 rw [ef, ef, ef, ef]
                 exact k1)
              | (have k1 := ih (x3 + 1) M (by omega) (by omega) h3 h4
                 rw [gd3_s h1, sF, fn _ _ (by omega), fn _ _ (by omega), fn _ _ (by omega), fn _ _ (by omega)] at k1
                 exact k1)
            · refine ⟨?_, ?_⟩
              · first | omega | exact ⟨h3, hR (by omega), by omega⟩ | exact ⟨hp1, hR (by omega), by omega⟩ | exact ⟨hp2, hR (by omega), by omega⟩ | exact ⟨hp3, hR (by omega), by omega⟩
              intro N3 hN3 he3 hp3
              first
              | (exfalso; omega)
              | (have k1 := ih (x3 + 1) N4 (by omega) (by omega) hp4 ((((h4.tr he1).tr he2).tr he3).tr he4)
                 rw [gd3_s h1, sF, fy _ _ (by omega), fy _ _ (by omega), fy _ _ (by omega), fy _ _ (by omega)] at k1
                 rw [ef, ef, ef, ef]
                 exact k1)
              | (have k1 := ih (x3 + 1) M (by omega) (by omega) h3 h4
                 rw [gd3_s h1, sF, fn _ _ (by omega), fn _ _ (by omega), fn _ _ (by omega), fn _ _ (by omega)] at k1
                 exact k1)
      · refine ⟨?_, ?_⟩
        · first | omega | exact ⟨h3, hR (by omega), by omega⟩ | exact ⟨hp1, hR (by omega), by omega⟩ | exact ⟨hp2, hR (by omega), by omega⟩ | exact ⟨hp3, hR (by omega), by omega⟩
        intro N1 hN1 he1 hp1
        refine ⟨fun c3 => ?_, fun c3 => ?_⟩
        · refine ⟨fun c4 => ?_, fun c4 => ?_⟩
          · refine ⟨fun c5 => ?_, fun c5 => ?_⟩
            · first
              | (exfalso; omega)
              | (have k1 := ih (x3 + 1) N4 (by omega) (by omega) hp4 ((((h4.tr he1).tr he2).tr he3).tr he4)
                 rw [gd3_s h1, sF, fy _ _ (by omega), fy _ _ (by omega), fy _ _ (by omega), fy _ _ (by omega)] at k1
                 rw [ef, ef, ef, ef]
                 exact k1)
              | (have k1 := ih (x3 + 1) M (by omega) (by omega) h3 h4
                 rw [gd3_s h1, sF, fn _ _ (by omega), fn _ _ (by omega), fn _ _ (by omega), fn _ _ (by omega)] at k1
                 exact k1)
            · refine ⟨?_, ?_⟩
              · first | omega | exact ⟨h3, hR (by omega), by omega⟩ | exact ⟨hp1, hR (by omega), by omega⟩ | exact ⟨hp2, hR (by omega), by omega⟩ | exact ⟨hp3, hR (by omega), by omega⟩
              intro N2 hN2 he2 hp2
              first
              | (exfalso; omega)
              | (have k1 := ih (x3 + 1) N4 (by omega) (by omega) hp4 ((((h4.tr he1).tr he2).tr he3).tr he4)
                 rw [gd3_s h1, sF, fy _ _ (by omega), fy _ _ (by omega), fy _ _ (by omega), fy _ _ (by omega)] at k1
                 rw [ef, ef, ef, ef]
                 exact k1)
              | (have k1 := ih (x3 + 1) M (by omega) (by omega) h3 h4
                 rw [gd3_s h1, sF, fn _ _ (by omega), fn _ _ (by omega), fn _ _ (by omega), fn _ _ (by omega)] at k1
                 exact k1)
          · refine ⟨?_, ?_⟩
            · first | omega | exact ⟨h3, hR (by omega), by omega⟩ | exact ⟨hp1, hR (by omega), by omega⟩ | exact ⟨hp2, hR (by omega), by omega⟩ | exact ⟨hp3, hR (by omega), by omega⟩
            intro N2 hN2 he2 hp2
            refine ⟨fun c5 => ?_, fun c5 => ?_⟩
            · first
              | (exfalso; omega)
              | (have k1 := ih (x3 + 1) N4 (by omega) (by omega) hp4 ((((h4.tr he1).tr he2).tr he3).tr he4)
                 rw [gd3_s h1, sF, fy _ _ (by omega), fy _ _ (by omega), fy _ _ (by omega), fy _ _ (by omega)] at k1
                 rw [ef, ef, ef, ef]
                 exact k1)
              | (have k1 := ih (x3 + 1) M (by omega) (by omega) h3 h4
                 rw [gd3_s h1, sF, fn _ _ (by omega), fn _ _ (by omega), fn _ _ (by omega), fn _ _ (by omega)] at k1
                 exact k1)
            · refine ⟨?_, ?_⟩
              · first | omega | exact ⟨h3, hR (by omega), by omega⟩ | exact ⟨hp1, hR (by omega), by omega⟩ | exact ⟨hp2, hR (by omega), by omega⟩ | exact ⟨hp3, hR (by omega), by omega⟩
              intro N3 hN3 he3 hp3
              first
              | (exfalso; omega)
              | (have k1 := ih (x3 + 1) N4 (by omega) (by omega) hp4 ((((h4.tr he1).tr he2).tr he3).tr he4)
                 rw [gd3_s h1, sF, fy _ _ (by omega), fy _ _ (by omega), fy _ _ (by omega), fy _ _ (by omega)] at k1
                 rw [ef, ef, ef, ef]
                 exact k1)
              | (have k1 := ih (x3 + 1) M (by omega) (by omega) h3 h4
                 rw [gd3_s h1, sF, fn _ _ (by omega), fn _ _ (by omega), fn _ _ (by omega), fn _ _ (by omega)] at k1
                 exact k1)
        · refine ⟨?_, ?_⟩
          · first | omega | exact ⟨h3, hR (by omega), by omega⟩ | exact ⟨hp1, hR (by omega), by omega⟩ | exact ⟨hp2, hR (by omega), by omega⟩ | exact ⟨hp3, hR (by omega), by omega⟩
          intro N2 hN2 he2 hp2
          refine ⟨fun c4 => ?_, fun c4 => ?_⟩
          · refine ⟨fun c5 => ?_, fun c5 => ?_⟩
            · first
              | (exfalso; omega)
              | (have k1 := ih (x3 + 1) N4 (by omega) (by omega) hp4 ((((h4.tr he1).tr he2).tr he3).tr he4)
                 rw [gd3_s h1, sF, fy _ _ (by omega), fy _ _ (by omega), fy _ _ (by omega), fy _ _ (by omega)] at k1
                 rw [ef, ef, ef, ef]
                 exact k1)
              | (have k1 := ih (x3 + 1) M (by omega) (by omega) h3 h4
                 rw [gd3_s h1, sF, fn _ _ (by omega), fn _ _ (by omega), fn _ _ (by omega), fn _ _ (by omega)] at k1
                 exact k1)
            · refine ⟨?_, ?_⟩
              · first | omega | exact ⟨h3, hR (by omega), by omega⟩ | exact ⟨hp1, hR (by omega), by omega⟩ | exact ⟨hp2, hR (by omega), by omega⟩ | exact ⟨hp3, hR (by omega), by omega⟩
              intro N3 hN3 he3 hp3
              first
              | (exfalso; omega)
              | (have k1 := ih (x3 + 1) N4 (by omega) (by omega) hp4 ((((h4.tr he1).tr he2).tr he3).tr he4)
                 rw [gd3_s h1, sF, fy _ _ (by omega), fy _ _ (by omega), fy _ _ (by omega), fy _ _ (by omega)] at k1
                 rw [ef, ef, ef, ef]
                 exact k1)
              | (have k1 := ih (x3 + 1) M (by omega) (by omega) h3 h4
                 rw [gd3_s h1, sF, fn _ _ (by omega), fn _ _ (by omega), fn _ _ (by omega), fn _ _ (by omega)] at k1
                 exact k1)
          · refine ⟨?_, ?_⟩
            · first | omega | exact ⟨h3, hR (by omega), by omega⟩ | exact ⟨hp1, hR (by omega), by omega⟩ | exact ⟨hp2, hR (by omega), by omega⟩ | exact ⟨hp3, hR (by omega), by omega⟩
            intro N3 hN3 he3 hp3
            refine ⟨fun c5 => ?_, fun c5 => ?_⟩
            · first
              | (exfalso; omega)
              | (have k1 := ih (x3 + 1) N4 (by omega) (by omega) hp4 ((((h4.tr he1).tr he2).tr he3).tr he4)
                 rw [gd3_s h1, sF, fy _ _ (by omega), fy _ _ (by omega), fy _ _ (by omega), fy _ _ (by omega)] at k1
                 rw [ef, ef, ef, ef]
                 exact k1)
              | (have k1 := ih (x3 + 1) M (by omega) (by omega) h3 h4
                 rw [gd3_s h1, sF, fn _ _ (by omega), fn _ _ (by omega), fn _ _ (by omega), fn _ _ (by omega)] at k1
                 exact k1)
            · refine ⟨?_, ?_⟩
              · first | omega | exact ⟨h3, hR (by omega), by omega⟩ | exact ⟨hp1, hR (by omega), by omega⟩ | exact ⟨hp2, hR (by omega), by omega⟩ | exact ⟨hp3, hR (by omega), by omega⟩
              intro N4 hN4 he4 hp4
              first
              | (exfalso; omega)
              | (have k1 := ih (x3 + 1) N4 (by omega) (by omega) hp4 ((((h4.tr he1).tr he2).tr he3).tr he4)
                 rw [gd3_s h1, sF, fy _ _ (by omega), fy _ _ (by omega), fy _ _ (by omega), fy _ _ (by omega)] at k1
                 rw [ef, ef, ef, ef]
                 exact k1)
              | (have k1 := ih (x3 + 1) M (by omega) (by omega) h3 h4
                 rw [gd3_s h1, sF, fn _ _ (by omega), fn _ _ (by omega), fn _ _ (by omega), fn _ _ (by omega)] at k1
                 exact k1)
theorem lM206 {E : E3} {Q : Q3} {M0 : M3} (hI0 : Inv M0) (k : ∀ (M : M3), RdC M → Em M0 M → G3 E YX12_digest Q 283 [(0, vR 44 0), (1, vL (dg5 M0)), (3, vI 0)] [] M) : ∀ (n : Nat) (x3 : Int) (M : M3), 0 ≤ x3 → x3 + n = 4 → RdC M → Em M0 M → G3 E YX12_digest Q 206 [(0, vR 44 0), (1, vL (gd3 x3 (sH M0) (dg3 M0))), (3, vI x3)] [] M := by
  intro n
  induction n with
  | zero =>
    intro x3 M h1 h2 h3 h4
    have hA := (hI0.m h4 h3).1.1.okA
    refine sX12_digest_206 ?_
    refine ⟨?_, ?_⟩
    · first | omega | exact h3 | exact ⟨hp1.1, ((hI0.m h4 h3).m ⟨hf1, hs1⟩ hp1.1).1.1.okP, by decide⟩ | exact ⟨h3, hA, by omega, by omega⟩ | exact ⟨hp1, hA, by omega, by omega⟩ | exact ⟨hp2, hA, by omega⟩
    refine ⟨fun c1 => ?_, fun c1 => ?_⟩
    · refine ⟨?_, ?_⟩
      · first | omega | exact h3 | exact ⟨hp1.1, ((hI0.m h4 h3).m ⟨hf1, hs1⟩ hp1.1).1.1.okP, by decide⟩ | exact ⟨h3, hA, by omega, by omega⟩ | exact ⟨hp1, hA, by omega, by omega⟩ | exact ⟨hp2, hA, by omega⟩
      intro N1 hN1 hf1 hs1 hp1
      refine ⟨?_, ?_⟩
      · first | omega | exact h3 | exact ⟨hp1.1, ((hI0.m h4 h3).m ⟨hf1, hs1⟩ hp1.1).1.1.okP, by decide⟩ | exact ⟨h3, hA, by omega, by omega⟩ | exact ⟨hp1, hA, by omega, by omega⟩ | exact ⟨hp2, hA, by omega⟩
      intro N2 hN2 he2 hp2
      have e5 : Em M0 N1 := h4.tr ⟨hf1, hs1⟩
      have k1 := k N2 hp2 (e5.tr he2)
      have z := hp1.1.2
      have e1 := e5.2 9 (by decide)
      have e2 := e5.1 52 (by decide)
      rw [e1, e2] at z
      have z2 : N1 44 0 12 = lwF (M0 44 0 9) (M0 52 0) := by
        rcases z with z | z
        · have := hp1.2
          omega
        · exact z.2.1
      rw [z2, mRdy_e e5, show x3 = 4 by omega]
      exact k1
    · refine ⟨?_, ?_⟩
      · first | omega | exact h3 | exact ⟨hp1.1, ((hI0.m h4 h3).m ⟨hf1, hs1⟩ hp1.1).1.1.okP, by decide⟩ | exact ⟨h3, hA, by omega, by omega⟩ | exact ⟨hp1, hA, by omega, by omega⟩ | exact ⟨hp2, hA, by omega⟩
      intro N1 hN1 he1 hp1
      refine ⟨?_, ?_⟩
      · first | omega | exact h3 | exact ⟨hp1.1, ((hI0.m h4 h3).m ⟨hf1, hs1⟩ hp1.1).1.1.okP, by decide⟩ | exact ⟨h3, hA, by omega, by omega⟩ | exact ⟨hp1, hA, by omega, by omega⟩ | exact ⟨hp2, hA, by omega⟩
      intro N2 hN2 he2 hp2
      refine ⟨?_, ?_⟩
      · first | omega | exact h3 | exact ⟨hp1.1, ((hI0.m h4 h3).m ⟨hf1, hs1⟩ hp1.1).1.1.okP, by decide⟩ | exact ⟨h3, hA, by omega, by omega⟩ | exact ⟨hp1, hA, by omega, by omega⟩ | exact ⟨hp2, hA, by omega⟩
      intro N3 hN3 he3 hp3
      exfalso
      omega
  | succ n ih =>
    intro x3 M h1 h2 h3 h4
    have hA := (hI0.m h4 h3).1.1.okA
    refine sX12_digest_206 ?_
    refine ⟨?_, ?_⟩
    · first | omega | exact h3 | exact ⟨hp1.1, ((hI0.m h4 h3).m ⟨hf1, hs1⟩ hp1.1).1.1.okP, by decide⟩ | exact ⟨h3, hA, by omega, by omega⟩ | exact ⟨hp1, hA, by omega, by omega⟩ | exact ⟨hp2, hA, by omega⟩
    refine ⟨fun c1 => ?_, fun c1 => ?_⟩
    · refine ⟨?_, ?_⟩
      · first | omega | exact h3 | exact ⟨hp1.1, ((hI0.m h4 h3).m ⟨hf1, hs1⟩ hp1.1).1.1.okP, by decide⟩ | exact ⟨h3, hA, by omega, by omega⟩ | exact ⟨hp1, hA, by omega, by omega⟩ | exact ⟨hp2, hA, by omega⟩
      intro N1 hN1 hf1 hs1 hp1
      refine ⟨?_, ?_⟩
      · first | omega | exact h3 | exact ⟨hp1.1, ((hI0.m h4 h3).m ⟨hf1, hs1⟩ hp1.1).1.1.okP, by decide⟩ | exact ⟨h3, hA, by omega, by omega⟩ | exact ⟨hp1, hA, by omega, by omega⟩ | exact ⟨hp2, hA, by omega⟩
      intro N2 hN2 he2 hp2
      exfalso
      omega
    · refine ⟨?_, ?_⟩
      · first | omega | exact h3 | exact ⟨hp1.1, ((hI0.m h4 h3).m ⟨hf1, hs1⟩ hp1.1).1.1.okP, by decide⟩ | exact ⟨h3, hA, by omega, by omega⟩ | exact ⟨hp1, hA, by omega, by omega⟩ | exact ⟨hp2, hA, by omega⟩
      intro N1 hN1 he1 hp1
      refine ⟨?_, ?_⟩
      · first | omega | exact h3 | exact ⟨hp1.1, ((hI0.m h4 h3).m ⟨hf1, hs1⟩ hp1.1).1.1.okP, by decide⟩ | exact ⟨h3, hA, by omega, by omega⟩ | exact ⟨hp1, hA, by omega, by omega⟩ | exact ⟨hp2, hA, by omega⟩
      intro N2 hN2 he2 hp2
      refine ⟨?_, ?_⟩
      · first | omega | exact h3 | exact ⟨hp1.1, ((hI0.m h4 h3).m ⟨hf1, hs1⟩ hp1.1).1.1.okP, by decide⟩ | exact ⟨h3, hA, by omega, by omega⟩ | exact ⟨hp1, hA, by omega, by omega⟩ | exact ⟨hp2, hA, by omega⟩
      intro N3 hN3 he3 hp3
      have k1 := ih (x3 + 1) N3 (by omega) (by omega) hp3 (((h4.tr he1).tr he2).tr he3)
      rw [gd3_s h1] at k1
      rw [mFtg_e h4, mFtg_e h4, mUof_e h4]
      exact k1
theorem lM283 {E : E3} {Q : Q3} {M0 M : M3} (hI0 : Inv M0) (h3 : RdC M) (h4 : Em M0 M) (k : ∀ (N : M3), Inv N → Q (some (vL (mDg M0))) N) : ∀ (n : Nat) (x3 : Int), 0 ≤ x3 → x3 + n = 6 → G3 E YX12_digest Q 283 [(0, vR 44 0), (1, vL (gd3 x3 (sB M0) (dg5 M0))), (3, vI x3)] [] M := by
  have hI := hI0.m h4 h3
  have hc2 := hI.1.1.2.2.1.2.1
  intro n
  induction n with
  | zero =>
    intro x3 h1 h2
    refine sX12_digest_283 ?_
    refine ⟨?_, ?_⟩
    · first | omega | exact ⟨h3, hI.1.1.okJ⟩
    refine ⟨fun c1 => ?_, fun c1 => ?_⟩
    · refine ⟨?_, ?_⟩
      · first | omega | exact ⟨h3, hI.1.1.okJ⟩
      intro N1 hN1 hf1 hs1 hp1
      have ej : Ej M N1 := ⟨hf1, hs1⟩
      have hN : Inv N1 := hI.s (Es.j ej) (LwC.k ej.k hI.2.1) hp1.1
      have k1 := k N1 hN
      have ej0 : Ej M0 M := Ej.m h4
      rw [hp1.2.1, hp1.2.2.1, jOn_e ej0, jRd_e ej0, h4.2 44 (by decide), show x3 = 6 by omega]
      exact k1
    · refine ⟨?_, ?_⟩
      · first | omega | exact ⟨h3, hI.1.1.okJ⟩
      exfalso
      omega
  | succ n ih =>
    intro x3 h1 h2
    refine sX12_digest_283 ?_
    refine ⟨?_, ?_⟩
    · first | omega | exact ⟨h3, hI.1.1.okJ⟩
    refine ⟨fun c1 => ?_, fun c1 => ?_⟩
    · refine ⟨?_, ?_⟩
      · first | omega | exact ⟨h3, hI.1.1.okJ⟩
      intro N1 hN1 hf1 hs1 hp1
      exfalso
      omega
    · refine ⟨?_, ?_⟩
      · first | omega | exact ⟨h3, hI.1.1.okJ⟩
      have k1 := ih (x3 + 1) (by omega) (by omega)
      rw [gd3_s h1] at k1
      rw [mChs_e h4]
      exact k1
theorem m_digest {E : E3} {Q : Q3} {M : M3} (hI : Inv M) (k : ∀ (N : M3), Inv N → Q (some (vL (mDg M))) N) : C3 E YX12_digest [vR 44 0] M Q := by
  have hc2 := hI.1.1.2.2.1.2.1
  have hf2 := hI.1.1.2.2.2.1.2.1
  refine c3_rm fun hM => ?_
  refine sX12_digest ?_
  skip
  refine lM6 hI ?_ 9 0 (by decide) (by decide)
  refine lM33 hI ?_ (M 44 0 1).toNat 0 (by decide) (by omega)
  refine lM80 hI (fun N hN hm => ?_) (M 44 0 18).toNat 0 M (by decide) (by omega) hI.2.2 Em.rf
  refine lM206 hI (fun K hK hm2 => ?_) 4 0 N (by decide) (by decide) hN hm
  exact lM283 hI hK hm2 k 6 0 (by decide) (by decide)
def P2L (E : E3) (Y : Y3) (as : List V3) : Q3 := fun v N => (∃ x : Int64, v = some (vL x)) ∧ C3 E Y as N (R2 v)
theorem p_digest {E : E3} {M : M3} (hI : Inv M) : C3 E YX11_digest [vR 0 0] M (P2L E YX12_digest [vR 44 0]) :=
  c_digest hI (fun N hN hq => ⟨⟨_, rfl⟩, m_digest hN (fun K hK => r2I (by rw [mDg_q hq]) hK)⟩)
