/-! CLASS: the summer, gone through -/
theorem lX10_gt31 {E : E3} {Q : Q3} {M0 : M3} {x1 : Int} (hI : IB M0) (hA : M0 31 0 9 = sRm (LM3 M0) (M0 44 0 0)) (k : ∀ (N : M3), RM3 N → Eg M0 N → LwC N → (∀ b : Int, 0 ≤ b → b < 6 → N 35 0 b = gvs M0 x1 (M0 44 0 44) b) → N 31 0 10 = jOn M0 x1 → G3 E YX10_goThrough Q 158 [(0, vR 31 0), (4, vI 0)] [] (up3 N 31 0 11 (-(N 31 0 10)))) : ∀ (n : Nat) (x4 : Int) (x2 : Int64) (M : M3), 0 ≤ x4 → x4 + n = M0 44 0 44 → LwC M → Eg M0 M → gI M0 x1 x4 x2 M → G3 E YX10_goThrough Q 31 [(0, vR 31 0), (1, vI x1), (2, vL x2), (4, vI x4)] [] M := by
  have hn := hI.2.2.1.2.1
  have hd := hI.1.2.2.1
  have hk := hI.2.2.2.2.2.2.2.1.2.1
  have hk0 := hI.2.2.2.2.2.2.2.1.1
  intro n
  induction n with
  | zero =>
    intro x4 x2 M h1 h2 h3 h4 h5
    refine g3_rm fun hM => ?_
    have eK : M 31 0 0 = M0 44 0 44 := (h4.2.2 0 (by decide)).trans hk0
    have ex : x4 = M0 44 0 44 := by omega
    obtain ⟨g1, g2, g3⟩ := h5
    rw [ex] at g1 g2
    have g2' : M 31 0 10 = jOn M0 x1 := g2
    have ro := jOn_rg hn x1
    refine sX10_goThrough_31 ?_
    simp only [eK]
    refine ⟨?_, ?_⟩
    · first | omega | (exfalso; omega)
    refine ⟨fun c1 => ?_, fun c1 => ?_⟩
    · refine ⟨?_, ?_⟩
      · first | omega | (exfalso; omega)
      exact k M hM h4 h3 g1 g2'
    · refine ⟨fun c2 => ?_, fun c2 => ?_⟩
      · refine ⟨?_, ?_⟩
        · first | omega | (exfalso; omega)
        refine ⟨fun c3 => ?_, fun c3 => ?_⟩
        · refine ⟨fun c4 => ?_, fun c4 => ?_⟩
          · exfalso; omega
          · refine ⟨?_, ?_, ?_⟩
            · first | omega | (exfalso; omega)
            · first | omega | (exfalso; omega)
            refine ⟨fun c5 => ?_, fun c5 => ?_⟩
            · exfalso; omega
            · refine ⟨?_, ?_⟩
              · first | omega | (exfalso; omega)
              refine ⟨fun c6 => ?_, fun c6 => ?_⟩
              · refine ⟨?_, ?_, ?_, ?_⟩
                · first | omega | (exfalso; omega)
                · first | omega | (exfalso; omega)
                · first | omega | (exfalso; omega)
                intro N1 hN1 he1 hp1
                refine ⟨fun c7 => ?_, fun c7 => ?_⟩
                · refine ⟨?_, ?_⟩
                  · first | omega | (exfalso; omega)
                  intro N2 hN2 he2 hp2
                  refine ⟨?_, ?_, ?_⟩
                  · first | omega | (exfalso; omega)
                  · first | omega | (exfalso; omega)
                  refine ⟨fun c8 => ?_, fun c8 => ?_⟩
                  · refine ⟨?_, ?_⟩
                    · first | omega | (exfalso; omega)
                    intro N3 hN3 he3 hp3
                    refine ⟨?_, ?_⟩
                    · first | omega | (exfalso; omega)
                    refine ⟨fun c9 => ?_, fun c9 => ?_⟩
                    · exfalso; omega
                    · refine ⟨fun c10 => ?_, fun c10 => ?_⟩
                      · exfalso; omega
                      · refine ⟨?_, ?_⟩
                        · first | omega | (exfalso; omega)
                        exfalso; omega
                  · refine ⟨?_, ?_⟩
                    · first | omega | (exfalso; omega)
                    intro N3 hN3 he3 hp3
                    refine ⟨?_, ?_⟩
                    · first | omega | (exfalso; omega)
                    refine ⟨fun c9 => ?_, fun c9 => ?_⟩
                    · refine ⟨fun c10 => ?_, fun c10 => ?_⟩
                      · exfalso; omega
                      · refine ⟨?_, ?_⟩
                        · first | omega | (exfalso; omega)
                        exfalso; omega
                    · refine ⟨fun c10 => ?_, fun c10 => ?_⟩
                      · exfalso; omega
                      · refine ⟨?_, ?_⟩
                        · first | omega | (exfalso; omega)
                        exfalso; omega
                · refine ⟨?_, ?_⟩
                  · first | omega | (exfalso; omega)
                  intro N2 hN2 he2 hp2
                  refine ⟨?_, ?_, ?_⟩
                  · first | omega | (exfalso; omega)
                  · first | omega | (exfalso; omega)
                  refine ⟨fun c8 => ?_, fun c8 => ?_⟩
                  · refine ⟨?_, ?_⟩
                    · first | omega | (exfalso; omega)
                    intro N3 hN3 he3 hp3
                    refine ⟨?_, ?_⟩
                    · first | omega | (exfalso; omega)
                    refine ⟨fun c9 => ?_, fun c9 => ?_⟩
                    · refine ⟨?_, ?_⟩
                      · first | omega | (exfalso; omega)
                      exfalso; omega
                    · refine ⟨fun c10 => ?_, fun c10 => ?_⟩
                      · exfalso; omega
                      · refine ⟨?_, ?_⟩
                        · first | omega | (exfalso; omega)
                        exfalso; omega
                  · refine ⟨?_, ?_⟩
                    · first | omega | (exfalso; omega)
                    intro N3 hN3 he3 hp3
                    refine ⟨?_, ?_⟩
                    · first | omega | (exfalso; omega)
                    refine ⟨fun c9 => ?_, fun c9 => ?_⟩
                    · refine ⟨fun c10 => ?_, fun c10 => ?_⟩
                      · exfalso; omega
                      · refine ⟨?_, ?_⟩
                        · first | omega | (exfalso; omega)
                        exfalso; omega
                    · refine ⟨fun c10 => ?_, fun c10 => ?_⟩
                      · exfalso; omega
                      · refine ⟨?_, ?_⟩
                        · first | omega | (exfalso; omega)
                        exfalso; omega
              · exfalso; omega
        · refine ⟨?_, ?_, ?_⟩
          · first | omega | (exfalso; omega)
          · first | omega | (exfalso; omega)
          exfalso; omega
      · exfalso; omega
  | succ n ih =>
    intro x4 x2 M h1 h2 h3 h4 h5
    refine g3_rm fun hM => ?_
    have eK : M 31 0 0 = M0 44 0 44 := (h4.2.2 0 (by decide)).trans hk0
    have e9 : M 31 0 9 = sRm (LM3 M0) (M0 44 0 0) := (h4.2.2 9 (by decide)).trans hA
    have e13 : M 13 = M0 13 := h4.1 13 (by decide)
    have e32 : M 32 = M0 32 := h4.1 32 (by decide)
    have e33 : M 33 = M0 33 := h4.1 33 (by decide)
    have eD : M 2 0 0 = M0 44 0 0 := by rw [h4.1 2 (by decide)]; exact hI.1.1
    have eL : LL3 M = LM3 M0 := h4.L.trans hI.L
    obtain ⟨⟨s1, s2, s3⟩, s4, s5, s6, s7⟩ := hI.2.2.2.2.2.2.2.1.2.2 x4 h1 (by omega)
    have hp48 : 0 ≤ M0 76 0 x4 ∧ M0 76 0 x4 < 48 := by omega
    obtain ⟨⟨p1, p2, p3, p4, p5, p6⟩, q1, q2, q3, q4, q5, q6, q7, q8, q9⟩ := hI.p hp48.1 hp48.2
    have s22 := h3.sd 22 (M0 44 0 0)
    have s20 := h3.sd 20 (M0 44 0 0)
    rw [eL] at s22 s20
    have srm : 0 ≤ sRm (LM3 M0) (M0 44 0 0) ∧ sRm (LM3 M0) (M0 44 0 0) ≤ 20 := cn3_rg (by omega) _
    obtain ⟨w1, w2, w3, w4, w5, w6, w7, w8, -⟩ := or3_c
    have ha := and3_1 (shr3 (sSd (LM3 M0) 21 (M0 44 0 0)) (M0 46 0 (M0 76 0 x4)))
    have ht := and3_1 (shr3 x1 x4)
    have h5' := h5
    obtain ⟨g1, g2, g3⟩ := h5'
    have gr : ∀ b : Int, 0 ≤ gvs M0 x1 x4 b ∧ gvs M0 x1 x4 b ≤ x4 := fun b => gvs_rg h1
    have e35 : M0 50 0 (M0 76 0 x4) ≤ 2 → M 35 0 (M0 13 (M0 76 0 x4) 0) = gvs M0 x1 x4 (M0 45 0 (M0 76 0 x4)) := fun q => by
      rw [q1 q]
      exact g1 _ q3.1 (by omega)
    have grp := gr (M0 45 0 (M0 76 0 x4))
    have grt := gr (M0 76 0 x4)
    have e35t : 0 ≤ M0 76 0 x4 → M0 76 0 x4 < 6 → M 35 0 (M0 76 0 x4) = gvs M0 x1 x4 (M0 76 0 x4) := fun a b => g1 _ a b
    have rc := cn3_rg hn.1 (fun p => cmI M0 x1 x4 p)
    have skip : ∀ N : M3, LwC N → Eg M N → N 35 = M 35 → N 31 = M 31 → (∀ b : Int, ¬ lsnP M0 x1 b x4) → (rdP M0 x1 x4 (M0 76 0 x4) → bL3 x2 (M0 76 0 x4)) → G3 E YX10_goThrough Q 31 [(0, vR 31 0), (1, vI x1), (2, vL x2), (4, vI (x4 + 1))] [] N := fun N a b c d e f => by
      refine ih _ _ N (by omega) (by omega) a (h4.tr b) (gI_no h1 h5 e (fun p pa pb z => ?_) c d)
      have hz := z.2.2.1
      rw [← hz] at z pa pb ⊢
      exact (g3 _ pa pb).mp (f z)
    refine sX10_goThrough_31 ?_
    simp only [eK, e9, e13, e32, e33, eD, eL, s1, s2, p1, w1, w2, w3, w4, w5, w6, w7, w8]
    refine ⟨?_, ?_⟩
    · first | omega | exact ⟨h3, by omega, hd⟩ | exact ⟨hp1, by omega, hd⟩ | exact ⟨hp2, by omega, hd⟩ | exact ⟨by omega, by omega, by omega⟩ | (have := q1 (by omega); omega) | (exfalso; omega)
    refine ⟨fun c1 => ?_, fun c1 => ?_⟩
    · refine ⟨?_, ?_⟩
      · first | omega | exact ⟨h3, by omega, hd⟩ | exact ⟨hp1, by omega, hd⟩ | exact ⟨hp2, by omega, hd⟩ | exact ⟨by omega, by omega, by omega⟩ | (have := q1 (by omega); omega) | (exfalso; omega)
      exfalso; omega
    · refine ⟨fun c2 => ?_, fun c2 => ?_⟩
      · refine ⟨?_, ?_⟩
        · first | omega | exact ⟨h3, by omega, hd⟩ | exact ⟨hp1, by omega, hd⟩ | exact ⟨hp2, by omega, hd⟩ | exact ⟨by omega, by omega, by omega⟩ | (have := q1 (by omega); omega) | (exfalso; omega)
        refine ⟨fun c3 => ?_, fun c3 => ?_⟩
        · refine ⟨fun c4 => ?_, fun c4 => ?_⟩
          · first
            | (exfalso; omega)
            | exact skip M h3 Eg.rf rfl rfl (fun b z => by have z1 : and3 (shr3 x1 x4) 1 = 1 := z.1; omega) (fun z => by have z1 : and3 (shr3 x1 x4) 1 = 1 := z.1; omega)
            | exact skip M h3 Eg.rf rfl rfl (fun b z => by have := z.2.1; omega) (fun _ => by assumption)
            | exact skip M h3 Eg.rf rfl rfl (fun b z => by have := z.2.1; omega) (fun z => by
                obtain ⟨z1, z2, z3, ⟨z4, z5⟩, z6, z7⟩ := z
                exfalso
                omega)
            | exact skip N3 hp3 ((Eg.c he1).tr ((Eg.c he2).tr (Eg.c he3))) (((he3.1 35 (by decide)).trans (he2.1 35 (by decide))).trans (he1.1 35 (by decide))) (((he3.1 31 (by decide)).trans (he2.1 31 (by decide))).trans (he1.1 31 (by decide))) (fun b z => by have := z.2.1; omega) (fun z => by
                obtain ⟨z1, z2, z3, ⟨z4, z5⟩, z6, z7⟩ := z
                exfalso
                have z5' : and3 (shr3 (sSd (LM3 M0) 21 (M0 44 0 0)) (M0 46 0 (M0 76 0 x4))) 1 = 1 := z5
                have z6' := e35 (by omega)
                have z7' : sSd (LM3 M0) 20 (M0 44 0 0) ≤ sRm (LM3 M0) (M0 44 0 0) := z7
                have z8 : sSd (LM3 M0) 22 (M0 44 0 0) ≤ min 20 (M0 47 0 (M0 76 0 x4) + 2 * gvs M0 x1 x4 (M0 45 0 (M0 76 0 x4))) := z6
                omega)
            | (have hl : M0 75 0 x4 = 0 := by omega
               have htk : tkP x1 x4 := by show and3 _ 1 = 1; omega
               have cm : ∀ p : Int, cmI M0 x1 (x4 + 1) p = cmI M0 x1 x4 p := fun p => cm_n h1 fun z => z.2.1 hl
               refine ih _ _ _ (by omega) (by omega) (h3.up (by decide)) (h4.up) ⟨fun b b0 b1 => ?_, ?_, fun p a b => by rw [cm p]; exact g3 p a b⟩
               · rw [gvs_s h1]
                 by_cases e : b = M0 76 0 x4
                 · rw [e, up3_eq, if_pos ⟨htk, hl, rfl⟩, e35t (by omega) (by omega)]
                 · rw [up3_nj e, if_neg (fun z => e z.2.2.symm), g1 b b0 b1]
                   omega
               · rw [up3_nr (by decide), g2]
                 exact cn3_congr fun p _ _ => (cm p).symm)
            | (have htk : tkP x1 x4 := by show and3 _ 1 = 1; omega
               have hpl : M0 76 0 x4 < M0 44 0 1 := by omega
               have hst : M0 50 0 (M0 76 0 x4) = 0 ∨ M0 50 0 (M0 76 0 x4) = 2 := by omega
               have he := e35 (by omega)
               have hR : rdP M0 x1 x4 (M0 76 0 x4) := ⟨htk, by omega, rfl, ⟨hst, by show and3 _ 1 = 1; omega⟩, by show sSd (LM3 M0) 22 (M0 44 0 0) ≤ _; omega, by show sSd (LM3 M0) 20 (M0 44 0 0) ≤ _; omega⟩
               have hnb : ¬ bL3 x2 (M0 76 0 x4) := fun z => z (by assumption)
               have hcf : cmI M0 x1 x4 (M0 76 0 x4) = false := by
                 cases hv : cmI M0 x1 x4 (M0 76 0 x4) with
                 | false => rfl
                 | true => exact absurd ((g3 _ hp48.1 hpl).mpr hv) hnb
               have hct : cmI M0 x1 (x4 + 1) (M0 76 0 x4) = true := by rw [cm_s h1, decide_eq_true hR, Bool.or_true]
               have ne : ∀ p : Int, p ≠ M0 76 0 x4 → cmI M0 x1 (x4 + 1) p = cmI M0 x1 x4 p := fun p hp => cm_n h1 fun z => hp z.2.2.1.symm
               refine ih _ _ _ (by omega) (by omega) (hp3.up (by decide)) ((h4.tr ((Eg.c he1).tr ((Eg.c he2).tr (Eg.c he3)))).ups (by decide)) ⟨fun b b0 b1 => ?_, ?_, fun p a b => ?_⟩
               · rw [up3_nr (by decide), he3.1 35 (by decide), he2.1 35 (by decide), he1.1 35 (by decide), g1 b b0 b1, gvs_s h1, if_neg (fun z => by have := z.2.1; omega)]
                 omega
               · rw [up3_eq, g2]
                 exact (cn3_one ⟨hp48.1, hpl⟩ hcf hct fun p _ _ e => ne p e).symm
               · rw [bl_or ⟨a, by omega⟩ hp48]
                 by_cases e : p = M0 76 0 x4
                 · rw [e, hct]
                   exact ⟨fun _ => rfl, fun _ => Or.inl rfl⟩
                 · rw [ne p e, ← g3 p a b]
                   exact ⟨fun z => z.resolve_left e, fun z => Or.inr z⟩)
          · refine ⟨?_, ?_, ?_⟩
            · first | omega | exact ⟨h3, by omega, hd⟩ | exact ⟨hp1, by omega, hd⟩ | exact ⟨hp2, by omega, hd⟩ | exact ⟨by omega, by omega, by omega⟩ | (have := q1 (by omega); omega) | (exfalso; omega)
            · first | omega | exact ⟨h3, by omega, hd⟩ | exact ⟨hp1, by omega, hd⟩ | exact ⟨hp2, by omega, hd⟩ | exact ⟨by omega, by omega, by omega⟩ | (have := q1 (by omega); omega) | (exfalso; omega)
            refine ⟨fun c5 => ?_, fun c5 => ?_⟩
            · first
              | (exfalso; omega)
              | exact skip M h3 Eg.rf rfl rfl (fun b z => by have z1 : and3 (shr3 x1 x4) 1 = 1 := z.1; omega) (fun z => by have z1 : and3 (shr3 x1 x4) 1 = 1 := z.1; omega)
              | exact skip M h3 Eg.rf rfl rfl (fun b z => by have := z.2.1; omega) (fun _ => by assumption)
              | exact skip M h3 Eg.rf rfl rfl (fun b z => by have := z.2.1; omega) (fun z => by
                  obtain ⟨z1, z2, z3, ⟨z4, z5⟩, z6, z7⟩ := z
                  exfalso
                  omega)
              | exact skip N3 hp3 ((Eg.c he1).tr ((Eg.c he2).tr (Eg.c he3))) (((he3.1 35 (by decide)).trans (he2.1 35 (by decide))).trans (he1.1 35 (by decide))) (((he3.1 31 (by decide)).trans (he2.1 31 (by decide))).trans (he1.1 31 (by decide))) (fun b z => by have := z.2.1; omega) (fun z => by
                  obtain ⟨z1, z2, z3, ⟨z4, z5⟩, z6, z7⟩ := z
                  exfalso
                  have z5' : and3 (shr3 (sSd (LM3 M0) 21 (M0 44 0 0)) (M0 46 0 (M0 76 0 x4))) 1 = 1 := z5
                  have z6' := e35 (by omega)
                  have z7' : sSd (LM3 M0) 20 (M0 44 0 0) ≤ sRm (LM3 M0) (M0 44 0 0) := z7
                  have z8 : sSd (LM3 M0) 22 (M0 44 0 0) ≤ min 20 (M0 47 0 (M0 76 0 x4) + 2 * gvs M0 x1 x4 (M0 45 0 (M0 76 0 x4))) := z6
                  omega)
              | (have hl : M0 75 0 x4 = 0 := by omega
                 have htk : tkP x1 x4 := by show and3 _ 1 = 1; omega
                 have cm : ∀ p : Int, cmI M0 x1 (x4 + 1) p = cmI M0 x1 x4 p := fun p => cm_n h1 fun z => z.2.1 hl
                 refine ih _ _ _ (by omega) (by omega) (h3.up (by decide)) (h4.up) ⟨fun b b0 b1 => ?_, ?_, fun p a b => by rw [cm p]; exact g3 p a b⟩
                 · rw [gvs_s h1]
                   by_cases e : b = M0 76 0 x4
                   · rw [e, up3_eq, if_pos ⟨htk, hl, rfl⟩, e35t (by omega) (by omega)]
                   · rw [up3_nj e, if_neg (fun z => e z.2.2.symm), g1 b b0 b1]
                     omega
                 · rw [up3_nr (by decide), g2]
                   exact cn3_congr fun p _ _ => (cm p).symm)
              | (have htk : tkP x1 x4 := by show and3 _ 1 = 1; omega
                 have hpl : M0 76 0 x4 < M0 44 0 1 := by omega
                 have hst : M0 50 0 (M0 76 0 x4) = 0 ∨ M0 50 0 (M0 76 0 x4) = 2 := by omega
                 have he := e35 (by omega)
                 have hR : rdP M0 x1 x4 (M0 76 0 x4) := ⟨htk, by omega, rfl, ⟨hst, by show and3 _ 1 = 1; omega⟩, by show sSd (LM3 M0) 22 (M0 44 0 0) ≤ _; omega, by show sSd (LM3 M0) 20 (M0 44 0 0) ≤ _; omega⟩
                 have hnb : ¬ bL3 x2 (M0 76 0 x4) := fun z => z (by assumption)
                 have hcf : cmI M0 x1 x4 (M0 76 0 x4) = false := by
                   cases hv : cmI M0 x1 x4 (M0 76 0 x4) with
                   | false => rfl
                   | true => exact absurd ((g3 _ hp48.1 hpl).mpr hv) hnb
                 have hct : cmI M0 x1 (x4 + 1) (M0 76 0 x4) = true := by rw [cm_s h1, decide_eq_true hR, Bool.or_true]
                 have ne : ∀ p : Int, p ≠ M0 76 0 x4 → cmI M0 x1 (x4 + 1) p = cmI M0 x1 x4 p := fun p hp => cm_n h1 fun z => hp z.2.2.1.symm
                 refine ih _ _ _ (by omega) (by omega) (hp3.up (by decide)) ((h4.tr ((Eg.c he1).tr ((Eg.c he2).tr (Eg.c he3)))).ups (by decide)) ⟨fun b b0 b1 => ?_, ?_, fun p a b => ?_⟩
                 · rw [up3_nr (by decide), he3.1 35 (by decide), he2.1 35 (by decide), he1.1 35 (by decide), g1 b b0 b1, gvs_s h1, if_neg (fun z => by have := z.2.1; omega)]
                   omega
                 · rw [up3_eq, g2]
                   exact (cn3_one ⟨hp48.1, hpl⟩ hcf hct fun p _ _ e => ne p e).symm
                 · rw [bl_or ⟨a, by omega⟩ hp48]
                   by_cases e : p = M0 76 0 x4
                   · rw [e, hct]
                     exact ⟨fun _ => rfl, fun _ => Or.inl rfl⟩
                   · rw [ne p e, ← g3 p a b]
                     exact ⟨fun z => z.resolve_left e, fun z => Or.inr z⟩)
            · refine ⟨?_, ?_⟩
              · first | omega | exact ⟨h3, by omega, hd⟩ | exact ⟨hp1, by omega, hd⟩ | exact ⟨hp2, by omega, hd⟩ | exact ⟨by omega, by omega, by omega⟩ | (have := q1 (by omega); omega) | (exfalso; omega)
              refine ⟨fun c6 => ?_, fun c6 => ?_⟩
              · refine ⟨?_, ?_, ?_, ?_⟩
                · first | omega | exact ⟨h3, by omega, hd⟩ | exact ⟨hp1, by omega, hd⟩ | exact ⟨hp2, by omega, hd⟩ | exact ⟨by omega, by omega, by omega⟩ | (have := q1 (by omega); omega) | (exfalso; omega)
                · first | omega | exact ⟨h3, by omega, hd⟩ | exact ⟨hp1, by omega, hd⟩ | exact ⟨hp2, by omega, hd⟩ | exact ⟨by omega, by omega, by omega⟩ | (have := q1 (by omega); omega) | (exfalso; omega)
                · first | omega | exact ⟨h3, by omega, hd⟩ | exact ⟨hp1, by omega, hd⟩ | exact ⟨hp2, by omega, hd⟩ | exact ⟨by omega, by omega, by omega⟩ | (have := q1 (by omega); omega) | (exfalso; omega)
                intro N1 hN1 he1 hp1
                refine ⟨fun c7 => ?_, fun c7 => ?_⟩
                · refine ⟨?_, ?_⟩
                  · first | omega | exact ⟨h3, by omega, hd⟩ | exact ⟨hp1, by omega, hd⟩ | exact ⟨hp2, by omega, hd⟩ | exact ⟨by omega, by omega, by omega⟩ | (have := q1 (by omega); omega) | (exfalso; omega)
                  intro N2 hN2 he2 hp2
                  refine ⟨?_, ?_, ?_⟩
                  · first | omega | exact ⟨h3, by omega, hd⟩ | exact ⟨hp1, by omega, hd⟩ | exact ⟨hp2, by omega, hd⟩ | exact ⟨by omega, by omega, by omega⟩ | (have := q1 (by omega); omega) | (exfalso; omega)
                  · first | omega | exact ⟨h3, by omega, hd⟩ | exact ⟨hp1, by omega, hd⟩ | exact ⟨hp2, by omega, hd⟩ | exact ⟨by omega, by omega, by omega⟩ | (have := q1 (by omega); omega) | (exfalso; omega)
                  refine ⟨fun c8 => ?_, fun c8 => ?_⟩
                  · refine ⟨?_, ?_⟩
                    · first | omega | exact ⟨h3, by omega, hd⟩ | exact ⟨hp1, by omega, hd⟩ | exact ⟨hp2, by omega, hd⟩ | exact ⟨by omega, by omega, by omega⟩ | (have := q1 (by omega); omega) | (exfalso; omega)
                    intro N3 hN3 he3 hp3
                    refine ⟨?_, ?_⟩
                    · first | omega | exact ⟨h3, by omega, hd⟩ | exact ⟨hp1, by omega, hd⟩ | exact ⟨hp2, by omega, hd⟩ | exact ⟨by omega, by omega, by omega⟩ | (have := q1 (by omega); omega) | (exfalso; omega)
                    refine ⟨fun c9 => ?_, fun c9 => ?_⟩
                    · first
                      | (exfalso; omega)
                      | exact skip M h3 Eg.rf rfl rfl (fun b z => by have z1 : and3 (shr3 x1 x4) 1 = 1 := z.1; omega) (fun z => by have z1 : and3 (shr3 x1 x4) 1 = 1 := z.1; omega)
                      | exact skip M h3 Eg.rf rfl rfl (fun b z => by have := z.2.1; omega) (fun _ => by assumption)
                      | exact skip M h3 Eg.rf rfl rfl (fun b z => by have := z.2.1; omega) (fun z => by
                          obtain ⟨z1, z2, z3, ⟨z4, z5⟩, z6, z7⟩ := z
                          exfalso
                          omega)
                      | exact skip N3 hp3 ((Eg.c he1).tr ((Eg.c he2).tr (Eg.c he3))) (((he3.1 35 (by decide)).trans (he2.1 35 (by decide))).trans (he1.1 35 (by decide))) (((he3.1 31 (by decide)).trans (he2.1 31 (by decide))).trans (he1.1 31 (by decide))) (fun b z => by have := z.2.1; omega) (fun z => by
                          obtain ⟨z1, z2, z3, ⟨z4, z5⟩, z6, z7⟩ := z
                          exfalso
                          have z5' : and3 (shr3 (sSd (LM3 M0) 21 (M0 44 0 0)) (M0 46 0 (M0 76 0 x4))) 1 = 1 := z5
                          have z6' := e35 (by omega)
                          have z7' : sSd (LM3 M0) 20 (M0 44 0 0) ≤ sRm (LM3 M0) (M0 44 0 0) := z7
                          have z8 : sSd (LM3 M0) 22 (M0 44 0 0) ≤ min 20 (M0 47 0 (M0 76 0 x4) + 2 * gvs M0 x1 x4 (M0 45 0 (M0 76 0 x4))) := z6
                          omega)
                      | (have hl : M0 75 0 x4 = 0 := by omega
                         have htk : tkP x1 x4 := by show and3 _ 1 = 1; omega
                         have cm : ∀ p : Int, cmI M0 x1 (x4 + 1) p = cmI M0 x1 x4 p := fun p => cm_n h1 fun z => z.2.1 hl
                         refine ih _ _ _ (by omega) (by omega) (h3.up (by decide)) (h4.up) ⟨fun b b0 b1 => ?_, ?_, fun p a b => by rw [cm p]; exact g3 p a b⟩
                         · rw [gvs_s h1]
                           by_cases e : b = M0 76 0 x4
                           · rw [e, up3_eq, if_pos ⟨htk, hl, rfl⟩, e35t (by omega) (by omega)]
                           · rw [up3_nj e, if_neg (fun z => e z.2.2.symm), g1 b b0 b1]
                             omega
                         · rw [up3_nr (by decide), g2]
                           exact cn3_congr fun p _ _ => (cm p).symm)
                      | (have htk : tkP x1 x4 := by show and3 _ 1 = 1; omega
                         have hpl : M0 76 0 x4 < M0 44 0 1 := by omega
                         have hst : M0 50 0 (M0 76 0 x4) = 0 ∨ M0 50 0 (M0 76 0 x4) = 2 := by omega
                         have he := e35 (by omega)
                         have hR : rdP M0 x1 x4 (M0 76 0 x4) := ⟨htk, by omega, rfl, ⟨hst, by show and3 _ 1 = 1; omega⟩, by show sSd (LM3 M0) 22 (M0 44 0 0) ≤ _; omega, by show sSd (LM3 M0) 20 (M0 44 0 0) ≤ _; omega⟩
                         have hnb : ¬ bL3 x2 (M0 76 0 x4) := fun z => z (by assumption)
                         have hcf : cmI M0 x1 x4 (M0 76 0 x4) = false := by
                           cases hv : cmI M0 x1 x4 (M0 76 0 x4) with
                           | false => rfl
                           | true => exact absurd ((g3 _ hp48.1 hpl).mpr hv) hnb
                         have hct : cmI M0 x1 (x4 + 1) (M0 76 0 x4) = true := by rw [cm_s h1, decide_eq_true hR, Bool.or_true]
                         have ne : ∀ p : Int, p ≠ M0 76 0 x4 → cmI M0 x1 (x4 + 1) p = cmI M0 x1 x4 p := fun p hp => cm_n h1 fun z => hp z.2.2.1.symm
                         refine ih _ _ _ (by omega) (by omega) (hp3.up (by decide)) ((h4.tr ((Eg.c he1).tr ((Eg.c he2).tr (Eg.c he3)))).ups (by decide)) ⟨fun b b0 b1 => ?_, ?_, fun p a b => ?_⟩
                         · rw [up3_nr (by decide), he3.1 35 (by decide), he2.1 35 (by decide), he1.1 35 (by decide), g1 b b0 b1, gvs_s h1, if_neg (fun z => by have := z.2.1; omega)]
                           omega
                         · rw [up3_eq, g2]
                           exact (cn3_one ⟨hp48.1, hpl⟩ hcf hct fun p _ _ e => ne p e).symm
                         · rw [bl_or ⟨a, by omega⟩ hp48]
                           by_cases e : p = M0 76 0 x4
                           · rw [e, hct]
                             exact ⟨fun _ => rfl, fun _ => Or.inl rfl⟩
                           · rw [ne p e, ← g3 p a b]
                             exact ⟨fun z => z.resolve_left e, fun z => Or.inr z⟩)
                    · refine ⟨fun c10 => ?_, fun c10 => ?_⟩
                      · first
                        | (exfalso; omega)
                        | exact skip M h3 Eg.rf rfl rfl (fun b z => by have z1 : and3 (shr3 x1 x4) 1 = 1 := z.1; omega) (fun z => by have z1 : and3 (shr3 x1 x4) 1 = 1 := z.1; omega)
                        | exact skip M h3 Eg.rf rfl rfl (fun b z => by have := z.2.1; omega) (fun _ => by assumption)
                        | exact skip M h3 Eg.rf rfl rfl (fun b z => by have := z.2.1; omega) (fun z => by
                            obtain ⟨z1, z2, z3, ⟨z4, z5⟩, z6, z7⟩ := z
                            exfalso
                            omega)
                        | exact skip N3 hp3 ((Eg.c he1).tr ((Eg.c he2).tr (Eg.c he3))) (((he3.1 35 (by decide)).trans (he2.1 35 (by decide))).trans (he1.1 35 (by decide))) (((he3.1 31 (by decide)).trans (he2.1 31 (by decide))).trans (he1.1 31 (by decide))) (fun b z => by have := z.2.1; omega) (fun z => by
                            obtain ⟨z1, z2, z3, ⟨z4, z5⟩, z6, z7⟩ := z
                            exfalso
                            have z5' : and3 (shr3 (sSd (LM3 M0) 21 (M0 44 0 0)) (M0 46 0 (M0 76 0 x4))) 1 = 1 := z5
                            have z6' := e35 (by omega)
                            have z7' : sSd (LM3 M0) 20 (M0 44 0 0) ≤ sRm (LM3 M0) (M0 44 0 0) := z7
                            have z8 : sSd (LM3 M0) 22 (M0 44 0 0) ≤ min 20 (M0 47 0 (M0 76 0 x4) + 2 * gvs M0 x1 x4 (M0 45 0 (M0 76 0 x4))) := z6
                            omega)
                        | (have hl : M0 75 0 x4 = 0 := by omega
                           have htk : tkP x1 x4 := by show and3 _ 1 = 1; omega
                           have cm : ∀ p : Int, cmI M0 x1 (x4 + 1) p = cmI M0 x1 x4 p := fun p => cm_n h1 fun z => z.2.1 hl
                           refine ih _ _ _ (by omega) (by omega) (h3.up (by decide)) (h4.up) ⟨fun b b0 b1 => ?_, ?_, fun p a b => by rw [cm p]; exact g3 p a b⟩
                           · rw [gvs_s h1]
                             by_cases e : b = M0 76 0 x4
                             · rw [e, up3_eq, if_pos ⟨htk, hl, rfl⟩, e35t (by omega) (by omega)]
                             · rw [up3_nj e, if_neg (fun z => e z.2.2.symm), g1 b b0 b1]
                               omega
                           · rw [up3_nr (by decide), g2]
                             exact cn3_congr fun p _ _ => (cm p).symm)
                        | (have htk : tkP x1 x4 := by show and3 _ 1 = 1; omega
                           have hpl : M0 76 0 x4 < M0 44 0 1 := by omega
                           have hst : M0 50 0 (M0 76 0 x4) = 0 ∨ M0 50 0 (M0 76 0 x4) = 2 := by omega
                           have he := e35 (by omega)
                           have hR : rdP M0 x1 x4 (M0 76 0 x4) := ⟨htk, by omega, rfl, ⟨hst, by show and3 _ 1 = 1; omega⟩, by show sSd (LM3 M0) 22 (M0 44 0 0) ≤ _; omega, by show sSd (LM3 M0) 20 (M0 44 0 0) ≤ _; omega⟩
                           have hnb : ¬ bL3 x2 (M0 76 0 x4) := fun z => z (by assumption)
                           have hcf : cmI M0 x1 x4 (M0 76 0 x4) = false := by
                             cases hv : cmI M0 x1 x4 (M0 76 0 x4) with
                             | false => rfl
                             | true => exact absurd ((g3 _ hp48.1 hpl).mpr hv) hnb
                           have hct : cmI M0 x1 (x4 + 1) (M0 76 0 x4) = true := by rw [cm_s h1, decide_eq_true hR, Bool.or_true]
                           have ne : ∀ p : Int, p ≠ M0 76 0 x4 → cmI M0 x1 (x4 + 1) p = cmI M0 x1 x4 p := fun p hp => cm_n h1 fun z => hp z.2.2.1.symm
                           refine ih _ _ _ (by omega) (by omega) (hp3.up (by decide)) ((h4.tr ((Eg.c he1).tr ((Eg.c he2).tr (Eg.c he3)))).ups (by decide)) ⟨fun b b0 b1 => ?_, ?_, fun p a b => ?_⟩
                           · rw [up3_nr (by decide), he3.1 35 (by decide), he2.1 35 (by decide), he1.1 35 (by decide), g1 b b0 b1, gvs_s h1, if_neg (fun z => by have := z.2.1; omega)]
                             omega
                           · rw [up3_eq, g2]
                             exact (cn3_one ⟨hp48.1, hpl⟩ hcf hct fun p _ _ e => ne p e).symm
                           · rw [bl_or ⟨a, by omega⟩ hp48]
                             by_cases e : p = M0 76 0 x4
                             · rw [e, hct]
                               exact ⟨fun _ => rfl, fun _ => Or.inl rfl⟩
                             · rw [ne p e, ← g3 p a b]
                               exact ⟨fun z => z.resolve_left e, fun z => Or.inr z⟩)
                      · refine ⟨?_, ?_⟩
                        · first | omega | exact ⟨h3, by omega, hd⟩ | exact ⟨hp1, by omega, hd⟩ | exact ⟨hp2, by omega, hd⟩ | exact ⟨by omega, by omega, by omega⟩ | (have := q1 (by omega); omega) | (exfalso; omega)
                        first
                        | (exfalso; omega)
                        | exact skip M h3 Eg.rf rfl rfl (fun b z => by have z1 : and3 (shr3 x1 x4) 1 = 1 := z.1; omega) (fun z => by have z1 : and3 (shr3 x1 x4) 1 = 1 := z.1; omega)
                        | exact skip M h3 Eg.rf rfl rfl (fun b z => by have := z.2.1; omega) (fun _ => by assumption)
                        | exact skip M h3 Eg.rf rfl rfl (fun b z => by have := z.2.1; omega) (fun z => by
                            obtain ⟨z1, z2, z3, ⟨z4, z5⟩, z6, z7⟩ := z
                            exfalso
                            omega)
                        | exact skip N3 hp3 ((Eg.c he1).tr ((Eg.c he2).tr (Eg.c he3))) (((he3.1 35 (by decide)).trans (he2.1 35 (by decide))).trans (he1.1 35 (by decide))) (((he3.1 31 (by decide)).trans (he2.1 31 (by decide))).trans (he1.1 31 (by decide))) (fun b z => by have := z.2.1; omega) (fun z => by
                            obtain ⟨z1, z2, z3, ⟨z4, z5⟩, z6, z7⟩ := z
                            exfalso
                            have z5' : and3 (shr3 (sSd (LM3 M0) 21 (M0 44 0 0)) (M0 46 0 (M0 76 0 x4))) 1 = 1 := z5
                            have z6' := e35 (by omega)
                            have z7' : sSd (LM3 M0) 20 (M0 44 0 0) ≤ sRm (LM3 M0) (M0 44 0 0) := z7
                            have z8 : sSd (LM3 M0) 22 (M0 44 0 0) ≤ min 20 (M0 47 0 (M0 76 0 x4) + 2 * gvs M0 x1 x4 (M0 45 0 (M0 76 0 x4))) := z6
                            omega)
                        | (have hl : M0 75 0 x4 = 0 := by omega
                           have htk : tkP x1 x4 := by show and3 _ 1 = 1; omega
                           have cm : ∀ p : Int, cmI M0 x1 (x4 + 1) p = cmI M0 x1 x4 p := fun p => cm_n h1 fun z => z.2.1 hl
                           refine ih _ _ _ (by omega) (by omega) (h3.up (by decide)) (h4.up) ⟨fun b b0 b1 => ?_, ?_, fun p a b => by rw [cm p]; exact g3 p a b⟩
                           · rw [gvs_s h1]
                             by_cases e : b = M0 76 0 x4
                             · rw [e, up3_eq, if_pos ⟨htk, hl, rfl⟩, e35t (by omega) (by omega)]
                             · rw [up3_nj e, if_neg (fun z => e z.2.2.symm), g1 b b0 b1]
                               omega
                           · rw [up3_nr (by decide), g2]
                             exact cn3_congr fun p _ _ => (cm p).symm)
                        | (have htk : tkP x1 x4 := by show and3 _ 1 = 1; omega
                           have hpl : M0 76 0 x4 < M0 44 0 1 := by omega
                           have hst : M0 50 0 (M0 76 0 x4) = 0 ∨ M0 50 0 (M0 76 0 x4) = 2 := by omega
                           have he := e35 (by omega)
                           have hR : rdP M0 x1 x4 (M0 76 0 x4) := ⟨htk, by omega, rfl, ⟨hst, by show and3 _ 1 = 1; omega⟩, by show sSd (LM3 M0) 22 (M0 44 0 0) ≤ _; omega, by show sSd (LM3 M0) 20 (M0 44 0 0) ≤ _; omega⟩
                           have hnb : ¬ bL3 x2 (M0 76 0 x4) := fun z => z (by assumption)
                           have hcf : cmI M0 x1 x4 (M0 76 0 x4) = false := by
                             cases hv : cmI M0 x1 x4 (M0 76 0 x4) with
                             | false => rfl
                             | true => exact absurd ((g3 _ hp48.1 hpl).mpr hv) hnb
                           have hct : cmI M0 x1 (x4 + 1) (M0 76 0 x4) = true := by rw [cm_s h1, decide_eq_true hR, Bool.or_true]
                           have ne : ∀ p : Int, p ≠ M0 76 0 x4 → cmI M0 x1 (x4 + 1) p = cmI M0 x1 x4 p := fun p hp => cm_n h1 fun z => hp z.2.2.1.symm
                           refine ih _ _ _ (by omega) (by omega) (hp3.up (by decide)) ((h4.tr ((Eg.c he1).tr ((Eg.c he2).tr (Eg.c he3)))).ups (by decide)) ⟨fun b b0 b1 => ?_, ?_, fun p a b => ?_⟩
                           · rw [up3_nr (by decide), he3.1 35 (by decide), he2.1 35 (by decide), he1.1 35 (by decide), g1 b b0 b1, gvs_s h1, if_neg (fun z => by have := z.2.1; omega)]
                             omega
                           · rw [up3_eq, g2]
                             exact (cn3_one ⟨hp48.1, hpl⟩ hcf hct fun p _ _ e => ne p e).symm
                           · rw [bl_or ⟨a, by omega⟩ hp48]
                             by_cases e : p = M0 76 0 x4
                             · rw [e, hct]
                               exact ⟨fun _ => rfl, fun _ => Or.inl rfl⟩
                             · rw [ne p e, ← g3 p a b]
                               exact ⟨fun z => z.resolve_left e, fun z => Or.inr z⟩)
                  · refine ⟨?_, ?_⟩
                    · first | omega | exact ⟨h3, by omega, hd⟩ | exact ⟨hp1, by omega, hd⟩ | exact ⟨hp2, by omega, hd⟩ | exact ⟨by omega, by omega, by omega⟩ | (have := q1 (by omega); omega) | (exfalso; omega)
                    intro N3 hN3 he3 hp3
                    refine ⟨?_, ?_⟩
                    · first | omega | exact ⟨h3, by omega, hd⟩ | exact ⟨hp1, by omega, hd⟩ | exact ⟨hp2, by omega, hd⟩ | exact ⟨by omega, by omega, by omega⟩ | (have := q1 (by omega); omega) | (exfalso; omega)
                    refine ⟨fun c9 => ?_, fun c9 => ?_⟩
                    · refine ⟨fun c10 => ?_, fun c10 => ?_⟩
                      · first
                        | (exfalso; omega)
                        | exact skip M h3 Eg.rf rfl rfl (fun b z => by have z1 : and3 (shr3 x1 x4) 1 = 1 := z.1; omega) (fun z => by have z1 : and3 (shr3 x1 x4) 1 = 1 := z.1; omega)
                        | exact skip M h3 Eg.rf rfl rfl (fun b z => by have := z.2.1; omega) (fun _ => by assumption)
                        | exact skip M h3 Eg.rf rfl rfl (fun b z => by have := z.2.1; omega) (fun z => by
                            obtain ⟨z1, z2, z3, ⟨z4, z5⟩, z6, z7⟩ := z
                            exfalso
                            omega)
                        | exact skip N3 hp3 ((Eg.c he1).tr ((Eg.c he2).tr (Eg.c he3))) (((he3.1 35 (by decide)).trans (he2.1 35 (by decide))).trans (he1.1 35 (by decide))) (((he3.1 31 (by decide)).trans (he2.1 31 (by decide))).trans (he1.1 31 (by decide))) (fun b z => by have := z.2.1; omega) (fun z => by
                            obtain ⟨z1, z2, z3, ⟨z4, z5⟩, z6, z7⟩ := z
                            exfalso
                            have z5' : and3 (shr3 (sSd (LM3 M0) 21 (M0 44 0 0)) (M0 46 0 (M0 76 0 x4))) 1 = 1 := z5
                            have z6' := e35 (by omega)
                            have z7' : sSd (LM3 M0) 20 (M0 44 0 0) ≤ sRm (LM3 M0) (M0 44 0 0) := z7
                            have z8 : sSd (LM3 M0) 22 (M0 44 0 0) ≤ min 20 (M0 47 0 (M0 76 0 x4) + 2 * gvs M0 x1 x4 (M0 45 0 (M0 76 0 x4))) := z6
                            omega)
                        | (have hl : M0 75 0 x4 = 0 := by omega
                           have htk : tkP x1 x4 := by show and3 _ 1 = 1; omega
                           have cm : ∀ p : Int, cmI M0 x1 (x4 + 1) p = cmI M0 x1 x4 p := fun p => cm_n h1 fun z => z.2.1 hl
                           refine ih _ _ _ (by omega) (by omega) (h3.up (by decide)) (h4.up) ⟨fun b b0 b1 => ?_, ?_, fun p a b => by rw [cm p]; exact g3 p a b⟩
                           · rw [gvs_s h1]
                             by_cases e : b = M0 76 0 x4
                             · rw [e, up3_eq, if_pos ⟨htk, hl, rfl⟩, e35t (by omega) (by omega)]
                             · rw [up3_nj e, if_neg (fun z => e z.2.2.symm), g1 b b0 b1]
                               omega
                           · rw [up3_nr (by decide), g2]
                             exact cn3_congr fun p _ _ => (cm p).symm)
                        | (have htk : tkP x1 x4 := by show and3 _ 1 = 1; omega
                           have hpl : M0 76 0 x4 < M0 44 0 1 := by omega
                           have hst : M0 50 0 (M0 76 0 x4) = 0 ∨ M0 50 0 (M0 76 0 x4) = 2 := by omega
                           have he := e35 (by omega)
                           have hR : rdP M0 x1 x4 (M0 76 0 x4) := ⟨htk, by omega, rfl, ⟨hst, by show and3 _ 1 = 1; omega⟩, by show sSd (LM3 M0) 22 (M0 44 0 0) ≤ _; omega, by show sSd (LM3 M0) 20 (M0 44 0 0) ≤ _; omega⟩
                           have hnb : ¬ bL3 x2 (M0 76 0 x4) := fun z => z (by assumption)
                           have hcf : cmI M0 x1 x4 (M0 76 0 x4) = false := by
                             cases hv : cmI M0 x1 x4 (M0 76 0 x4) with
                             | false => rfl
                             | true => exact absurd ((g3 _ hp48.1 hpl).mpr hv) hnb
                           have hct : cmI M0 x1 (x4 + 1) (M0 76 0 x4) = true := by rw [cm_s h1, decide_eq_true hR, Bool.or_true]
                           have ne : ∀ p : Int, p ≠ M0 76 0 x4 → cmI M0 x1 (x4 + 1) p = cmI M0 x1 x4 p := fun p hp => cm_n h1 fun z => hp z.2.2.1.symm
                           refine ih _ _ _ (by omega) (by omega) (hp3.up (by decide)) ((h4.tr ((Eg.c he1).tr ((Eg.c he2).tr (Eg.c he3)))).ups (by decide)) ⟨fun b b0 b1 => ?_, ?_, fun p a b => ?_⟩
                           · rw [up3_nr (by decide), he3.1 35 (by decide), he2.1 35 (by decide), he1.1 35 (by decide), g1 b b0 b1, gvs_s h1, if_neg (fun z => by have := z.2.1; omega)]
                             omega
                           · rw [up3_eq, g2]
                             exact (cn3_one ⟨hp48.1, hpl⟩ hcf hct fun p _ _ e => ne p e).symm
                           · rw [bl_or ⟨a, by omega⟩ hp48]
                             by_cases e : p = M0 76 0 x4
                             · rw [e, hct]
                               exact ⟨fun _ => rfl, fun _ => Or.inl rfl⟩
                             · rw [ne p e, ← g3 p a b]
                               exact ⟨fun z => z.resolve_left e, fun z => Or.inr z⟩)
                      · refine ⟨?_, ?_⟩
                        · first | omega | exact ⟨h3, by omega, hd⟩ | exact ⟨hp1, by omega, hd⟩ | exact ⟨hp2, by omega, hd⟩ | exact ⟨by omega, by omega, by omega⟩ | (have := q1 (by omega); omega) | (exfalso; omega)
                        first
                        | (exfalso; omega)
                        | exact skip M h3 Eg.rf rfl rfl (fun b z => by have z1 : and3 (shr3 x1 x4) 1 = 1 := z.1; omega) (fun z => by have z1 : and3 (shr3 x1 x4) 1 = 1 := z.1; omega)
                        | exact skip M h3 Eg.rf rfl rfl (fun b z => by have := z.2.1; omega) (fun _ => by assumption)
                        | exact skip M h3 Eg.rf rfl rfl (fun b z => by have := z.2.1; omega) (fun z => by
                            obtain ⟨z1, z2, z3, ⟨z4, z5⟩, z6, z7⟩ := z
                            exfalso
                            omega)
                        | exact skip N3 hp3 ((Eg.c he1).tr ((Eg.c he2).tr (Eg.c he3))) (((he3.1 35 (by decide)).trans (he2.1 35 (by decide))).trans (he1.1 35 (by decide))) (((he3.1 31 (by decide)).trans (he2.1 31 (by decide))).trans (he1.1 31 (by decide))) (fun b z => by have := z.2.1; omega) (fun z => by
                            obtain ⟨z1, z2, z3, ⟨z4, z5⟩, z6, z7⟩ := z
                            exfalso
                            have z5' : and3 (shr3 (sSd (LM3 M0) 21 (M0 44 0 0)) (M0 46 0 (M0 76 0 x4))) 1 = 1 := z5
                            have z6' := e35 (by omega)
                            have z7' : sSd (LM3 M0) 20 (M0 44 0 0) ≤ sRm (LM3 M0) (M0 44 0 0) := z7
                            have z8 : sSd (LM3 M0) 22 (M0 44 0 0) ≤ min 20 (M0 47 0 (M0 76 0 x4) + 2 * gvs M0 x1 x4 (M0 45 0 (M0 76 0 x4))) := z6
                            omega)
                        | (have hl : M0 75 0 x4 = 0 := by omega
                           have htk : tkP x1 x4 := by show and3 _ 1 = 1; omega
                           have cm : ∀ p : Int, cmI M0 x1 (x4 + 1) p = cmI M0 x1 x4 p := fun p => cm_n h1 fun z => z.2.1 hl
                           refine ih _ _ _ (by omega) (by omega) (h3.up (by decide)) (h4.up) ⟨fun b b0 b1 => ?_, ?_, fun p a b => by rw [cm p]; exact g3 p a b⟩
                           · rw [gvs_s h1]
                             by_cases e : b = M0 76 0 x4
                             · rw [e, up3_eq, if_pos ⟨htk, hl, rfl⟩, e35t (by omega) (by omega)]
                             · rw [up3_nj e, if_neg (fun z => e z.2.2.symm), g1 b b0 b1]
                               omega
                           · rw [up3_nr (by decide), g2]
                             exact cn3_congr fun p _ _ => (cm p).symm)
                        | (have htk : tkP x1 x4 := by show and3 _ 1 = 1; omega
                           have hpl : M0 76 0 x4 < M0 44 0 1 := by omega
                           have hst : M0 50 0 (M0 76 0 x4) = 0 ∨ M0 50 0 (M0 76 0 x4) = 2 := by omega
                           have he := e35 (by omega)
                           have hR : rdP M0 x1 x4 (M0 76 0 x4) := ⟨htk, by omega, rfl, ⟨hst, by show and3 _ 1 = 1; omega⟩, by show sSd (LM3 M0) 22 (M0 44 0 0) ≤ _; omega, by show sSd (LM3 M0) 20 (M0 44 0 0) ≤ _; omega⟩
                           have hnb : ¬ bL3 x2 (M0 76 0 x4) := fun z => z (by assumption)
                           have hcf : cmI M0 x1 x4 (M0 76 0 x4) = false := by
                             cases hv : cmI M0 x1 x4 (M0 76 0 x4) with
                             | false => rfl
                             | true => exact absurd ((g3 _ hp48.1 hpl).mpr hv) hnb
                           have hct : cmI M0 x1 (x4 + 1) (M0 76 0 x4) = true := by rw [cm_s h1, decide_eq_true hR, Bool.or_true]
                           have ne : ∀ p : Int, p ≠ M0 76 0 x4 → cmI M0 x1 (x4 + 1) p = cmI M0 x1 x4 p := fun p hp => cm_n h1 fun z => hp z.2.2.1.symm
                           refine ih _ _ _ (by omega) (by omega) (hp3.up (by decide)) ((h4.tr ((Eg.c he1).tr ((Eg.c he2).tr (Eg.c he3)))).ups (by decide)) ⟨fun b b0 b1 => ?_, ?_, fun p a b => ?_⟩
                           · rw [up3_nr (by decide), he3.1 35 (by decide), he2.1 35 (by decide), he1.1 35 (by decide), g1 b b0 b1, gvs_s h1, if_neg (fun z => by have := z.2.1; omega)]
                             omega
                           · rw [up3_eq, g2]
                             exact (cn3_one ⟨hp48.1, hpl⟩ hcf hct fun p _ _ e => ne p e).symm
                           · rw [bl_or ⟨a, by omega⟩ hp48]
                             by_cases e : p = M0 76 0 x4
                             · rw [e, hct]
                               exact ⟨fun _ => rfl, fun _ => Or.inl rfl⟩
                             · rw [ne p e, ← g3 p a b]
                               exact ⟨fun z => z.resolve_left e, fun z => Or.inr z⟩)
                    · refine ⟨fun c10 => ?_, fun c10 => ?_⟩
                      · first
                        | (exfalso; omega)
                        | exact skip M h3 Eg.rf rfl rfl (fun b z => by have z1 : and3 (shr3 x1 x4) 1 = 1 := z.1; omega) (fun z => by have z1 : and3 (shr3 x1 x4) 1 = 1 := z.1; omega)
                        | exact skip M h3 Eg.rf rfl rfl (fun b z => by have := z.2.1; omega) (fun _ => by assumption)
                        | exact skip M h3 Eg.rf rfl rfl (fun b z => by have := z.2.1; omega) (fun z => by
                            obtain ⟨z1, z2, z3, ⟨z4, z5⟩, z6, z7⟩ := z
                            exfalso
                            omega)
                        | exact skip N3 hp3 ((Eg.c he1).tr ((Eg.c he2).tr (Eg.c he3))) (((he3.1 35 (by decide)).trans (he2.1 35 (by decide))).trans (he1.1 35 (by decide))) (((he3.1 31 (by decide)).trans (he2.1 31 (by decide))).trans (he1.1 31 (by decide))) (fun b z => by have := z.2.1; omega) (fun z => by
                            obtain ⟨z1, z2, z3, ⟨z4, z5⟩, z6, z7⟩ := z
                            exfalso
                            have z5' : and3 (shr3 (sSd (LM3 M0) 21 (M0 44 0 0)) (M0 46 0 (M0 76 0 x4))) 1 = 1 := z5
                            have z6' := e35 (by omega)
                            have z7' : sSd (LM3 M0) 20 (M0 44 0 0) ≤ sRm (LM3 M0) (M0 44 0 0) := z7
                            have z8 : sSd (LM3 M0) 22 (M0 44 0 0) ≤ min 20 (M0 47 0 (M0 76 0 x4) + 2 * gvs M0 x1 x4 (M0 45 0 (M0 76 0 x4))) := z6
                            omega)
                        | (have hl : M0 75 0 x4 = 0 := by omega
                           have htk : tkP x1 x4 := by show and3 _ 1 = 1; omega
                           have cm : ∀ p : Int, cmI M0 x1 (x4 + 1) p = cmI M0 x1 x4 p := fun p => cm_n h1 fun z => z.2.1 hl
                           refine ih _ _ _ (by omega) (by omega) (h3.up (by decide)) (h4.up) ⟨fun b b0 b1 => ?_, ?_, fun p a b => by rw [cm p]; exact g3 p a b⟩
                           · rw [gvs_s h1]
                             by_cases e : b = M0 76 0 x4
                             · rw [e, up3_eq, if_pos ⟨htk, hl, rfl⟩, e35t (by omega) (by omega)]
                             · rw [up3_nj e, if_neg (fun z => e z.2.2.symm), g1 b b0 b1]
                               omega
                           · rw [up3_nr (by decide), g2]
                             exact cn3_congr fun p _ _ => (cm p).symm)
                        | (have htk : tkP x1 x4 := by show and3 _ 1 = 1; omega
                           have hpl : M0 76 0 x4 < M0 44 0 1 := by omega
                           have hst : M0 50 0 (M0 76 0 x4) = 0 ∨ M0 50 0 (M0 76 0 x4) = 2 := by omega
                           have he := e35 (by omega)
                           have hR : rdP M0 x1 x4 (M0 76 0 x4) := ⟨htk, by omega, rfl, ⟨hst, by show and3 _ 1 = 1; omega⟩, by show sSd (LM3 M0) 22 (M0 44 0 0) ≤ _; omega, by show sSd (LM3 M0) 20 (M0 44 0 0) ≤ _; omega⟩
                           have hnb : ¬ bL3 x2 (M0 76 0 x4) := fun z => z (by assumption)
                           have hcf : cmI M0 x1 x4 (M0 76 0 x4) = false := by
                             cases hv : cmI M0 x1 x4 (M0 76 0 x4) with
                             | false => rfl
                             | true => exact absurd ((g3 _ hp48.1 hpl).mpr hv) hnb
                           have hct : cmI M0 x1 (x4 + 1) (M0 76 0 x4) = true := by rw [cm_s h1, decide_eq_true hR, Bool.or_true]
                           have ne : ∀ p : Int, p ≠ M0 76 0 x4 → cmI M0 x1 (x4 + 1) p = cmI M0 x1 x4 p := fun p hp => cm_n h1 fun z => hp z.2.2.1.symm
                           refine ih _ _ _ (by omega) (by omega) (hp3.up (by decide)) ((h4.tr ((Eg.c he1).tr ((Eg.c he2).tr (Eg.c he3)))).ups (by decide)) ⟨fun b b0 b1 => ?_, ?_, fun p a b => ?_⟩
                           · rw [up3_nr (by decide), he3.1 35 (by decide), he2.1 35 (by decide), he1.1 35 (by decide), g1 b b0 b1, gvs_s h1, if_neg (fun z => by have := z.2.1; omega)]
                             omega
                           · rw [up3_eq, g2]
                             exact (cn3_one ⟨hp48.1, hpl⟩ hcf hct fun p _ _ e => ne p e).symm
                           · rw [bl_or ⟨a, by omega⟩ hp48]
                             by_cases e : p = M0 76 0 x4
                             · rw [e, hct]
                               exact ⟨fun _ => rfl, fun _ => Or.inl rfl⟩
                             · rw [ne p e, ← g3 p a b]
                               exact ⟨fun z => z.resolve_left e, fun z => Or.inr z⟩)
                      · refine ⟨?_, ?_⟩
                        · first | omega | exact ⟨h3, by omega, hd⟩ | exact ⟨hp1, by omega, hd⟩ | exact ⟨hp2, by omega, hd⟩ | exact ⟨by omega, by omega, by omega⟩ | (have := q1 (by omega); omega) | (exfalso; omega)
                        first
                        | (exfalso; omega)
                        | exact skip M h3 Eg.rf rfl rfl (fun b z => by have z1 : and3 (shr3 x1 x4) 1 = 1 := z.1; omega) (fun z => by have z1 : and3 (shr3 x1 x4) 1 = 1 := z.1; omega)
                        | exact skip M h3 Eg.rf rfl rfl (fun b z => by have := z.2.1; omega) (fun _ => by assumption)
                        | exact skip M h3 Eg.rf rfl rfl (fun b z => by have := z.2.1; omega) (fun z => by
                            obtain ⟨z1, z2, z3, ⟨z4, z5⟩, z6, z7⟩ := z
                            exfalso
                            omega)
                        | exact skip N3 hp3 ((Eg.c he1).tr ((Eg.c he2).tr (Eg.c he3))) (((he3.1 35 (by decide)).trans (he2.1 35 (by decide))).trans (he1.1 35 (by decide))) (((he3.1 31 (by decide)).trans (he2.1 31 (by decide))).trans (he1.1 31 (by decide))) (fun b z => by have := z.2.1; omega) (fun z => by
                            obtain ⟨z1, z2, z3, ⟨z4, z5⟩, z6, z7⟩ := z
                            exfalso
                            have z5' : and3 (shr3 (sSd (LM3 M0) 21 (M0 44 0 0)) (M0 46 0 (M0 76 0 x4))) 1 = 1 := z5
                            have z6' := e35 (by omega)
                            have z7' : sSd (LM3 M0) 20 (M0 44 0 0) ≤ sRm (LM3 M0) (M0 44 0 0) := z7
                            have z8 : sSd (LM3 M0) 22 (M0 44 0 0) ≤ min 20 (M0 47 0 (M0 76 0 x4) + 2 * gvs M0 x1 x4 (M0 45 0 (M0 76 0 x4))) := z6
                            omega)
                        | (have hl : M0 75 0 x4 = 0 := by omega
                           have htk : tkP x1 x4 := by show and3 _ 1 = 1; omega
                           have cm : ∀ p : Int, cmI M0 x1 (x4 + 1) p = cmI M0 x1 x4 p := fun p => cm_n h1 fun z => z.2.1 hl
                           refine ih _ _ _ (by omega) (by omega) (h3.up (by decide)) (h4.up) ⟨fun b b0 b1 => ?_, ?_, fun p a b => by rw [cm p]; exact g3 p a b⟩
                           · rw [gvs_s h1]
                             by_cases e : b = M0 76 0 x4
                             · rw [e, up3_eq, if_pos ⟨htk, hl, rfl⟩, e35t (by omega) (by omega)]
                             · rw [up3_nj e, if_neg (fun z => e z.2.2.symm), g1 b b0 b1]
                               omega
                           · rw [up3_nr (by decide), g2]
                             exact cn3_congr fun p _ _ => (cm p).symm)
                        | (have htk : tkP x1 x4 := by show and3 _ 1 = 1; omega
                           have hpl : M0 76 0 x4 < M0 44 0 1 := by omega
                           have hst : M0 50 0 (M0 76 0 x4) = 0 ∨ M0 50 0 (M0 76 0 x4) = 2 := by omega
                           have he := e35 (by omega)
                           have hR : rdP M0 x1 x4 (M0 76 0 x4) := ⟨htk, by omega, rfl, ⟨hst, by show and3 _ 1 = 1; omega⟩, by show sSd (LM3 M0) 22 (M0 44 0 0) ≤ _; omega, by show sSd (LM3 M0) 20 (M0 44 0 0) ≤ _; omega⟩
                           have hnb : ¬ bL3 x2 (M0 76 0 x4) := fun z => z (by assumption)
                           have hcf : cmI M0 x1 x4 (M0 76 0 x4) = false := by
                             cases hv : cmI M0 x1 x4 (M0 76 0 x4) with
                             | false => rfl
                             | true => exact absurd ((g3 _ hp48.1 hpl).mpr hv) hnb
                           have hct : cmI M0 x1 (x4 + 1) (M0 76 0 x4) = true := by rw [cm_s h1, decide_eq_true hR, Bool.or_true]
                           have ne : ∀ p : Int, p ≠ M0 76 0 x4 → cmI M0 x1 (x4 + 1) p = cmI M0 x1 x4 p := fun p hp => cm_n h1 fun z => hp z.2.2.1.symm
                           refine ih _ _ _ (by omega) (by omega) (hp3.up (by decide)) ((h4.tr ((Eg.c he1).tr ((Eg.c he2).tr (Eg.c he3)))).ups (by decide)) ⟨fun b b0 b1 => ?_, ?_, fun p a b => ?_⟩
                           · rw [up3_nr (by decide), he3.1 35 (by decide), he2.1 35 (by decide), he1.1 35 (by decide), g1 b b0 b1, gvs_s h1, if_neg (fun z => by have := z.2.1; omega)]
                             omega
                           · rw [up3_eq, g2]
                             exact (cn3_one ⟨hp48.1, hpl⟩ hcf hct fun p _ _ e => ne p e).symm
                           · rw [bl_or ⟨a, by omega⟩ hp48]
                             by_cases e : p = M0 76 0 x4
                             · rw [e, hct]
                               exact ⟨fun _ => rfl, fun _ => Or.inl rfl⟩
                             · rw [ne p e, ← g3 p a b]
                               exact ⟨fun z => z.resolve_left e, fun z => Or.inr z⟩)
                · refine ⟨?_, ?_⟩
                  · first | omega | exact ⟨h3, by omega, hd⟩ | exact ⟨hp1, by omega, hd⟩ | exact ⟨hp2, by omega, hd⟩ | exact ⟨by omega, by omega, by omega⟩ | (have := q1 (by omega); omega) | (exfalso; omega)
                  intro N2 hN2 he2 hp2
                  refine ⟨?_, ?_, ?_⟩
                  · first | omega | exact ⟨h3, by omega, hd⟩ | exact ⟨hp1, by omega, hd⟩ | exact ⟨hp2, by omega, hd⟩ | exact ⟨by omega, by omega, by omega⟩ | (have := q1 (by omega); omega) | (exfalso; omega)
                  · first | omega | exact ⟨h3, by omega, hd⟩ | exact ⟨hp1, by omega, hd⟩ | exact ⟨hp2, by omega, hd⟩ | exact ⟨by omega, by omega, by omega⟩ | (have := q1 (by omega); omega) | (exfalso; omega)
                  refine ⟨fun c8 => ?_, fun c8 => ?_⟩
                  · refine ⟨?_, ?_⟩
                    · first | omega | exact ⟨h3, by omega, hd⟩ | exact ⟨hp1, by omega, hd⟩ | exact ⟨hp2, by omega, hd⟩ | exact ⟨by omega, by omega, by omega⟩ | (have := q1 (by omega); omega) | (exfalso; omega)
                    intro N3 hN3 he3 hp3
                    refine ⟨?_, ?_⟩
                    · first | omega | exact ⟨h3, by omega, hd⟩ | exact ⟨hp1, by omega, hd⟩ | exact ⟨hp2, by omega, hd⟩ | exact ⟨by omega, by omega, by omega⟩ | (have := q1 (by omega); omega) | (exfalso; omega)
                    refine ⟨fun c9 => ?_, fun c9 => ?_⟩
                    · refine ⟨?_, ?_⟩
                      · first | omega | exact ⟨h3, by omega, hd⟩ | exact ⟨hp1, by omega, hd⟩ | exact ⟨hp2, by omega, hd⟩ | exact ⟨by omega, by omega, by omega⟩ | (have := q1 (by omega); omega) | (exfalso; omega)
                      first
                      | (exfalso; omega)
                      | exact skip M h3 Eg.rf rfl rfl (fun b z => by have z1 : and3 (shr3 x1 x4) 1 = 1 := z.1; omega) (fun z => by have z1 : and3 (shr3 x1 x4) 1 = 1 := z.1; omega)
                      | exact skip M h3 Eg.rf rfl rfl (fun b z => by have := z.2.1; omega) (fun _ => by assumption)
                      | exact skip M h3 Eg.rf rfl rfl (fun b z => by have := z.2.1; omega) (fun z => by
                          obtain ⟨z1, z2, z3, ⟨z4, z5⟩, z6, z7⟩ := z
                          exfalso
                          omega)
                      | exact skip N3 hp3 ((Eg.c he1).tr ((Eg.c he2).tr (Eg.c he3))) (((he3.1 35 (by decide)).trans (he2.1 35 (by decide))).trans (he1.1 35 (by decide))) (((he3.1 31 (by decide)).trans (he2.1 31 (by decide))).trans (he1.1 31 (by decide))) (fun b z => by have := z.2.1; omega) (fun z => by
                          obtain ⟨z1, z2, z3, ⟨z4, z5⟩, z6, z7⟩ := z
                          exfalso
                          have z5' : and3 (shr3 (sSd (LM3 M0) 21 (M0 44 0 0)) (M0 46 0 (M0 76 0 x4))) 1 = 1 := z5
                          have z6' := e35 (by omega)
                          have z7' : sSd (LM3 M0) 20 (M0 44 0 0) ≤ sRm (LM3 M0) (M0 44 0 0) := z7
                          have z8 : sSd (LM3 M0) 22 (M0 44 0 0) ≤ min 20 (M0 47 0 (M0 76 0 x4) + 2 * gvs M0 x1 x4 (M0 45 0 (M0 76 0 x4))) := z6
                          omega)
                      | (have hl : M0 75 0 x4 = 0 := by omega
                         have htk : tkP x1 x4 := by show and3 _ 1 = 1; omega
                         have cm : ∀ p : Int, cmI M0 x1 (x4 + 1) p = cmI M0 x1 x4 p := fun p => cm_n h1 fun z => z.2.1 hl
                         refine ih _ _ _ (by omega) (by omega) (h3.up (by decide)) (h4.up) ⟨fun b b0 b1 => ?_, ?_, fun p a b => by rw [cm p]; exact g3 p a b⟩
                         · rw [gvs_s h1]
                           by_cases e : b = M0 76 0 x4
                           · rw [e, up3_eq, if_pos ⟨htk, hl, rfl⟩, e35t (by omega) (by omega)]
                           · rw [up3_nj e, if_neg (fun z => e z.2.2.symm), g1 b b0 b1]
                             omega
                         · rw [up3_nr (by decide), g2]
                           exact cn3_congr fun p _ _ => (cm p).symm)
                      | (have htk : tkP x1 x4 := by show and3 _ 1 = 1; omega
                         have hpl : M0 76 0 x4 < M0 44 0 1 := by omega
                         have hst : M0 50 0 (M0 76 0 x4) = 0 ∨ M0 50 0 (M0 76 0 x4) = 2 := by omega
                         have he := e35 (by omega)
                         have hR : rdP M0 x1 x4 (M0 76 0 x4) := ⟨htk, by omega, rfl, ⟨hst, by show and3 _ 1 = 1; omega⟩, by show sSd (LM3 M0) 22 (M0 44 0 0) ≤ _; omega, by show sSd (LM3 M0) 20 (M0 44 0 0) ≤ _; omega⟩
                         have hnb : ¬ bL3 x2 (M0 76 0 x4) := fun z => z (by assumption)
                         have hcf : cmI M0 x1 x4 (M0 76 0 x4) = false := by
                           cases hv : cmI M0 x1 x4 (M0 76 0 x4) with
                           | false => rfl
                           | true => exact absurd ((g3 _ hp48.1 hpl).mpr hv) hnb
                         have hct : cmI M0 x1 (x4 + 1) (M0 76 0 x4) = true := by rw [cm_s h1, decide_eq_true hR, Bool.or_true]
                         have ne : ∀ p : Int, p ≠ M0 76 0 x4 → cmI M0 x1 (x4 + 1) p = cmI M0 x1 x4 p := fun p hp => cm_n h1 fun z => hp z.2.2.1.symm
                         refine ih _ _ _ (by omega) (by omega) (hp3.up (by decide)) ((h4.tr ((Eg.c he1).tr ((Eg.c he2).tr (Eg.c he3)))).ups (by decide)) ⟨fun b b0 b1 => ?_, ?_, fun p a b => ?_⟩
                         · rw [up3_nr (by decide), he3.1 35 (by decide), he2.1 35 (by decide), he1.1 35 (by decide), g1 b b0 b1, gvs_s h1, if_neg (fun z => by have := z.2.1; omega)]
                           omega
                         · rw [up3_eq, g2]
                           exact (cn3_one ⟨hp48.1, hpl⟩ hcf hct fun p _ _ e => ne p e).symm
                         · rw [bl_or ⟨a, by omega⟩ hp48]
                           by_cases e : p = M0 76 0 x4
                           · rw [e, hct]
                             exact ⟨fun _ => rfl, fun _ => Or.inl rfl⟩
                           · rw [ne p e, ← g3 p a b]
                             exact ⟨fun z => z.resolve_left e, fun z => Or.inr z⟩)
                    · refine ⟨fun c10 => ?_, fun c10 => ?_⟩
                      · first
                        | (exfalso; omega)
                        | exact skip M h3 Eg.rf rfl rfl (fun b z => by have z1 : and3 (shr3 x1 x4) 1 = 1 := z.1; omega) (fun z => by have z1 : and3 (shr3 x1 x4) 1 = 1 := z.1; omega)
                        | exact skip M h3 Eg.rf rfl rfl (fun b z => by have := z.2.1; omega) (fun _ => by assumption)
                        | exact skip M h3 Eg.rf rfl rfl (fun b z => by have := z.2.1; omega) (fun z => by
                            obtain ⟨z1, z2, z3, ⟨z4, z5⟩, z6, z7⟩ := z
                            exfalso
                            omega)
                        | exact skip N3 hp3 ((Eg.c he1).tr ((Eg.c he2).tr (Eg.c he3))) (((he3.1 35 (by decide)).trans (he2.1 35 (by decide))).trans (he1.1 35 (by decide))) (((he3.1 31 (by decide)).trans (he2.1 31 (by decide))).trans (he1.1 31 (by decide))) (fun b z => by have := z.2.1; omega) (fun z => by
                            obtain ⟨z1, z2, z3, ⟨z4, z5⟩, z6, z7⟩ := z
                            exfalso
                            have z5' : and3 (shr3 (sSd (LM3 M0) 21 (M0 44 0 0)) (M0 46 0 (M0 76 0 x4))) 1 = 1 := z5
                            have z6' := e35 (by omega)
                            have z7' : sSd (LM3 M0) 20 (M0 44 0 0) ≤ sRm (LM3 M0) (M0 44 0 0) := z7
                            have z8 : sSd (LM3 M0) 22 (M0 44 0 0) ≤ min 20 (M0 47 0 (M0 76 0 x4) + 2 * gvs M0 x1 x4 (M0 45 0 (M0 76 0 x4))) := z6
                            omega)
                        | (have hl : M0 75 0 x4 = 0 := by omega
                           have htk : tkP x1 x4 := by show and3 _ 1 = 1; omega
                           have cm : ∀ p : Int, cmI M0 x1 (x4 + 1) p = cmI M0 x1 x4 p := fun p => cm_n h1 fun z => z.2.1 hl
                           refine ih _ _ _ (by omega) (by omega) (h3.up (by decide)) (h4.up) ⟨fun b b0 b1 => ?_, ?_, fun p a b => by rw [cm p]; exact g3 p a b⟩
                           · rw [gvs_s h1]
                             by_cases e : b = M0 76 0 x4
                             · rw [e, up3_eq, if_pos ⟨htk, hl, rfl⟩, e35t (by omega) (by omega)]
                             · rw [up3_nj e, if_neg (fun z => e z.2.2.symm), g1 b b0 b1]
                               omega
                           · rw [up3_nr (by decide), g2]
                             exact cn3_congr fun p _ _ => (cm p).symm)
                        | (have htk : tkP x1 x4 := by show and3 _ 1 = 1; omega
                           have hpl : M0 76 0 x4 < M0 44 0 1 := by omega
                           have hst : M0 50 0 (M0 76 0 x4) = 0 ∨ M0 50 0 (M0 76 0 x4) = 2 := by omega
                           have he := e35 (by omega)
                           have hR : rdP M0 x1 x4 (M0 76 0 x4) := ⟨htk, by omega, rfl, ⟨hst, by show and3 _ 1 = 1; omega⟩, by show sSd (LM3 M0) 22 (M0 44 0 0) ≤ _; omega, by show sSd (LM3 M0) 20 (M0 44 0 0) ≤ _; omega⟩
                           have hnb : ¬ bL3 x2 (M0 76 0 x4) := fun z => z (by assumption)
                           have hcf : cmI M0 x1 x4 (M0 76 0 x4) = false := by
                             cases hv : cmI M0 x1 x4 (M0 76 0 x4) with
                             | false => rfl
                             | true => exact absurd ((g3 _ hp48.1 hpl).mpr hv) hnb
                           have hct : cmI M0 x1 (x4 + 1) (M0 76 0 x4) = true := by rw [cm_s h1, decide_eq_true hR, Bool.or_true]
                           have ne : ∀ p : Int, p ≠ M0 76 0 x4 → cmI M0 x1 (x4 + 1) p = cmI M0 x1 x4 p := fun p hp => cm_n h1 fun z => hp z.2.2.1.symm
                           refine ih _ _ _ (by omega) (by omega) (hp3.up (by decide)) ((h4.tr ((Eg.c he1).tr ((Eg.c he2).tr (Eg.c he3)))).ups (by decide)) ⟨fun b b0 b1 => ?_, ?_, fun p a b => ?_⟩
                           · rw [up3_nr (by decide), he3.1 35 (by decide), he2.1 35 (by decide), he1.1 35 (by decide), g1 b b0 b1, gvs_s h1, if_neg (fun z => by have := z.2.1; omega)]
                             omega
                           · rw [up3_eq, g2]
                             exact (cn3_one ⟨hp48.1, hpl⟩ hcf hct fun p _ _ e => ne p e).symm
                           · rw [bl_or ⟨a, by omega⟩ hp48]
                             by_cases e : p = M0 76 0 x4
                             · rw [e, hct]
                               exact ⟨fun _ => rfl, fun _ => Or.inl rfl⟩
                             · rw [ne p e, ← g3 p a b]
                               exact ⟨fun z => z.resolve_left e, fun z => Or.inr z⟩)
                      · refine ⟨?_, ?_⟩
                        · first | omega | exact ⟨h3, by omega, hd⟩ | exact ⟨hp1, by omega, hd⟩ | exact ⟨hp2, by omega, hd⟩ | exact ⟨by omega, by omega, by omega⟩ | (have := q1 (by omega); omega) | (exfalso; omega)
                        first
                        | (exfalso; omega)
                        | exact skip M h3 Eg.rf rfl rfl (fun b z => by have z1 : and3 (shr3 x1 x4) 1 = 1 := z.1; omega) (fun z => by have z1 : and3 (shr3 x1 x4) 1 = 1 := z.1; omega)
                        | exact skip M h3 Eg.rf rfl rfl (fun b z => by have := z.2.1; omega) (fun _ => by assumption)
                        | exact skip M h3 Eg.rf rfl rfl (fun b z => by have := z.2.1; omega) (fun z => by
                            obtain ⟨z1, z2, z3, ⟨z4, z5⟩, z6, z7⟩ := z
                            exfalso
                            omega)
                        | exact skip N3 hp3 ((Eg.c he1).tr ((Eg.c he2).tr (Eg.c he3))) (((he3.1 35 (by decide)).trans (he2.1 35 (by decide))).trans (he1.1 35 (by decide))) (((he3.1 31 (by decide)).trans (he2.1 31 (by decide))).trans (he1.1 31 (by decide))) (fun b z => by have := z.2.1; omega) (fun z => by
                            obtain ⟨z1, z2, z3, ⟨z4, z5⟩, z6, z7⟩ := z
                            exfalso
                            have z5' : and3 (shr3 (sSd (LM3 M0) 21 (M0 44 0 0)) (M0 46 0 (M0 76 0 x4))) 1 = 1 := z5
                            have z6' := e35 (by omega)
                            have z7' : sSd (LM3 M0) 20 (M0 44 0 0) ≤ sRm (LM3 M0) (M0 44 0 0) := z7
                            have z8 : sSd (LM3 M0) 22 (M0 44 0 0) ≤ min 20 (M0 47 0 (M0 76 0 x4) + 2 * gvs M0 x1 x4 (M0 45 0 (M0 76 0 x4))) := z6
                            omega)
                        | (have hl : M0 75 0 x4 = 0 := by omega
                           have htk : tkP x1 x4 := by show and3 _ 1 = 1; omega
                           have cm : ∀ p : Int, cmI M0 x1 (x4 + 1) p = cmI M0 x1 x4 p := fun p => cm_n h1 fun z => z.2.1 hl
                           refine ih _ _ _ (by omega) (by omega) (h3.up (by decide)) (h4.up) ⟨fun b b0 b1 => ?_, ?_, fun p a b => by rw [cm p]; exact g3 p a b⟩
                           · rw [gvs_s h1]
                             by_cases e : b = M0 76 0 x4
                             · rw [e, up3_eq, if_pos ⟨htk, hl, rfl⟩, e35t (by omega) (by omega)]
                             · rw [up3_nj e, if_neg (fun z => e z.2.2.symm), g1 b b0 b1]
                               omega
                           · rw [up3_nr (by decide), g2]
                             exact cn3_congr fun p _ _ => (cm p).symm)
                        | (have htk : tkP x1 x4 := by show and3 _ 1 = 1; omega
                           have hpl : M0 76 0 x4 < M0 44 0 1 := by omega
                           have hst : M0 50 0 (M0 76 0 x4) = 0 ∨ M0 50 0 (M0 76 0 x4) = 2 := by omega
                           have he := e35 (by omega)
                           have hR : rdP M0 x1 x4 (M0 76 0 x4) := ⟨htk, by omega, rfl, ⟨hst, by show and3 _ 1 = 1; omega⟩, by show sSd (LM3 M0) 22 (M0 44 0 0) ≤ _; omega, by show sSd (LM3 M0) 20 (M0 44 0 0) ≤ _; omega⟩
                           have hnb : ¬ bL3 x2 (M0 76 0 x4) := fun z => z (by assumption)
                           have hcf : cmI M0 x1 x4 (M0 76 0 x4) = false := by
                             cases hv : cmI M0 x1 x4 (M0 76 0 x4) with
                             | false => rfl
                             | true => exact absurd ((g3 _ hp48.1 hpl).mpr hv) hnb
                           have hct : cmI M0 x1 (x4 + 1) (M0 76 0 x4) = true := by rw [cm_s h1, decide_eq_true hR, Bool.or_true]
                           have ne : ∀ p : Int, p ≠ M0 76 0 x4 → cmI M0 x1 (x4 + 1) p = cmI M0 x1 x4 p := fun p hp => cm_n h1 fun z => hp z.2.2.1.symm
                           refine ih _ _ _ (by omega) (by omega) (hp3.up (by decide)) ((h4.tr ((Eg.c he1).tr ((Eg.c he2).tr (Eg.c he3)))).ups (by decide)) ⟨fun b b0 b1 => ?_, ?_, fun p a b => ?_⟩
                           · rw [up3_nr (by decide), he3.1 35 (by decide), he2.1 35 (by decide), he1.1 35 (by decide), g1 b b0 b1, gvs_s h1, if_neg (fun z => by have := z.2.1; omega)]
                             omega
                           · rw [up3_eq, g2]
                             exact (cn3_one ⟨hp48.1, hpl⟩ hcf hct fun p _ _ e => ne p e).symm
                           · rw [bl_or ⟨a, by omega⟩ hp48]
                             by_cases e : p = M0 76 0 x4
                             · rw [e, hct]
                               exact ⟨fun _ => rfl, fun _ => Or.inl rfl⟩
                             · rw [ne p e, ← g3 p a b]
                               exact ⟨fun z => z.resolve_left e, fun z => Or.inr z⟩)
                  · refine ⟨?_, ?_⟩
                    · first | omega | exact ⟨h3, by omega, hd⟩ | exact ⟨hp1, by omega, hd⟩ | exact ⟨hp2, by omega, hd⟩ | exact ⟨by omega, by omega, by omega⟩ | (have := q1 (by omega); omega) | (exfalso; omega)
                    intro N3 hN3 he3 hp3
                    refine ⟨?_, ?_⟩
                    · first | omega | exact ⟨h3, by omega, hd⟩ | exact ⟨hp1, by omega, hd⟩ | exact ⟨hp2, by omega, hd⟩ | exact ⟨by omega, by omega, by omega⟩ | (have := q1 (by omega); omega) | (exfalso; omega)
                    refine ⟨fun c9 => ?_, fun c9 => ?_⟩
                    · refine ⟨fun c10 => ?_, fun c10 => ?_⟩
                      · first
                        | (exfalso; omega)
                        | exact skip M h3 Eg.rf rfl rfl (fun b z => by have z1 : and3 (shr3 x1 x4) 1 = 1 := z.1; omega) (fun z => by have z1 : and3 (shr3 x1 x4) 1 = 1 := z.1; omega)
                        | exact skip M h3 Eg.rf rfl rfl (fun b z => by have := z.2.1; omega) (fun _ => by assumption)
                        | exact skip M h3 Eg.rf rfl rfl (fun b z => by have := z.2.1; omega) (fun z => by
                            obtain ⟨z1, z2, z3, ⟨z4, z5⟩, z6, z7⟩ := z
                            exfalso
                            omega)
                        | exact skip N3 hp3 ((Eg.c he1).tr ((Eg.c he2).tr (Eg.c he3))) (((he3.1 35 (by decide)).trans (he2.1 35 (by decide))).trans (he1.1 35 (by decide))) (((he3.1 31 (by decide)).trans (he2.1 31 (by decide))).trans (he1.1 31 (by decide))) (fun b z => by have := z.2.1; omega) (fun z => by
                            obtain ⟨z1, z2, z3, ⟨z4, z5⟩, z6, z7⟩ := z
                            exfalso
                            have z5' : and3 (shr3 (sSd (LM3 M0) 21 (M0 44 0 0)) (M0 46 0 (M0 76 0 x4))) 1 = 1 := z5
                            have z6' := e35 (by omega)
                            have z7' : sSd (LM3 M0) 20 (M0 44 0 0) ≤ sRm (LM3 M0) (M0 44 0 0) := z7
                            have z8 : sSd (LM3 M0) 22 (M0 44 0 0) ≤ min 20 (M0 47 0 (M0 76 0 x4) + 2 * gvs M0 x1 x4 (M0 45 0 (M0 76 0 x4))) := z6
                            omega)
                        | (have hl : M0 75 0 x4 = 0 := by omega
                           have htk : tkP x1 x4 := by show and3 _ 1 = 1; omega
                           have cm : ∀ p : Int, cmI M0 x1 (x4 + 1) p = cmI M0 x1 x4 p := fun p => cm_n h1 fun z => z.2.1 hl
                           refine ih _ _ _ (by omega) (by omega) (h3.up (by decide)) (h4.up) ⟨fun b b0 b1 => ?_, ?_, fun p a b => by rw [cm p]; exact g3 p a b⟩
                           · rw [gvs_s h1]
                             by_cases e : b = M0 76 0 x4
                             · rw [e, up3_eq, if_pos ⟨htk, hl, rfl⟩, e35t (by omega) (by omega)]
                             · rw [up3_nj e, if_neg (fun z => e z.2.2.symm), g1 b b0 b1]
                               omega
                           · rw [up3_nr (by decide), g2]
                             exact cn3_congr fun p _ _ => (cm p).symm)
                        | (have htk : tkP x1 x4 := by show and3 _ 1 = 1; omega
                           have hpl : M0 76 0 x4 < M0 44 0 1 := by omega
                           have hst : M0 50 0 (M0 76 0 x4) = 0 ∨ M0 50 0 (M0 76 0 x4) = 2 := by omega
                           have he := e35 (by omega)
                           have hR : rdP M0 x1 x4 (M0 76 0 x4) := ⟨htk, by omega, rfl, ⟨hst, by show and3 _ 1 = 1; omega⟩, by show sSd (LM3 M0) 22 (M0 44 0 0) ≤ _; omega, by show sSd (LM3 M0) 20 (M0 44 0 0) ≤ _; omega⟩
                           have hnb : ¬ bL3 x2 (M0 76 0 x4) := fun z => z (by assumption)
                           have hcf : cmI M0 x1 x4 (M0 76 0 x4) = false := by
                             cases hv : cmI M0 x1 x4 (M0 76 0 x4) with
                             | false => rfl
                             | true => exact absurd ((g3 _ hp48.1 hpl).mpr hv) hnb
                           have hct : cmI M0 x1 (x4 + 1) (M0 76 0 x4) = true := by rw [cm_s h1, decide_eq_true hR, Bool.or_true]
                           have ne : ∀ p : Int, p ≠ M0 76 0 x4 → cmI M0 x1 (x4 + 1) p = cmI M0 x1 x4 p := fun p hp => cm_n h1 fun z => hp z.2.2.1.symm
                           refine ih _ _ _ (by omega) (by omega) (hp3.up (by decide)) ((h4.tr ((Eg.c he1).tr ((Eg.c he2).tr (Eg.c he3)))).ups (by decide)) ⟨fun b b0 b1 => ?_, ?_, fun p a b => ?_⟩
                           · rw [up3_nr (by decide), he3.1 35 (by decide), he2.1 35 (by decide), he1.1 35 (by decide), g1 b b0 b1, gvs_s h1, if_neg (fun z => by have := z.2.1; omega)]
                             omega
                           · rw [up3_eq, g2]
                             exact (cn3_one ⟨hp48.1, hpl⟩ hcf hct fun p _ _ e => ne p e).symm
                           · rw [bl_or ⟨a, by omega⟩ hp48]
                             by_cases e : p = M0 76 0 x4
                             · rw [e, hct]
                               exact ⟨fun _ => rfl, fun _ => Or.inl rfl⟩
                             · rw [ne p e, ← g3 p a b]
                               exact ⟨fun z => z.resolve_left e, fun z => Or.inr z⟩)
                      · refine ⟨?_, ?_⟩
                        · first | omega | exact ⟨h3, by omega, hd⟩ | exact ⟨hp1, by omega, hd⟩ | exact ⟨hp2, by omega, hd⟩ | exact ⟨by omega, by omega, by omega⟩ | (have := q1 (by omega); omega) | (exfalso; omega)
                        first
                        | (exfalso; omega)
                        | exact skip M h3 Eg.rf rfl rfl (fun b z => by have z1 : and3 (shr3 x1 x4) 1 = 1 := z.1; omega) (fun z => by have z1 : and3 (shr3 x1 x4) 1 = 1 := z.1; omega)
                        | exact skip M h3 Eg.rf rfl rfl (fun b z => by have := z.2.1; omega) (fun _ => by assumption)
                        | exact skip M h3 Eg.rf rfl rfl (fun b z => by have := z.2.1; omega) (fun z => by
                            obtain ⟨z1, z2, z3, ⟨z4, z5⟩, z6, z7⟩ := z
                            exfalso
                            omega)
                        | exact skip N3 hp3 ((Eg.c he1).tr ((Eg.c he2).tr (Eg.c he3))) (((he3.1 35 (by decide)).trans (he2.1 35 (by decide))).trans (he1.1 35 (by decide))) (((he3.1 31 (by decide)).trans (he2.1 31 (by decide))).trans (he1.1 31 (by decide))) (fun b z => by have := z.2.1; omega) (fun z => by
                            obtain ⟨z1, z2, z3, ⟨z4, z5⟩, z6, z7⟩ := z
                            exfalso
                            have z5' : and3 (shr3 (sSd (LM3 M0) 21 (M0 44 0 0)) (M0 46 0 (M0 76 0 x4))) 1 = 1 := z5
                            have z6' := e35 (by omega)
                            have z7' : sSd (LM3 M0) 20 (M0 44 0 0) ≤ sRm (LM3 M0) (M0 44 0 0) := z7
                            have z8 : sSd (LM3 M0) 22 (M0 44 0 0) ≤ min 20 (M0 47 0 (M0 76 0 x4) + 2 * gvs M0 x1 x4 (M0 45 0 (M0 76 0 x4))) := z6
                            omega)
                        | (have hl : M0 75 0 x4 = 0 := by omega
                           have htk : tkP x1 x4 := by show and3 _ 1 = 1; omega
                           have cm : ∀ p : Int, cmI M0 x1 (x4 + 1) p = cmI M0 x1 x4 p := fun p => cm_n h1 fun z => z.2.1 hl
                           refine ih _ _ _ (by omega) (by omega) (h3.up (by decide)) (h4.up) ⟨fun b b0 b1 => ?_, ?_, fun p a b => by rw [cm p]; exact g3 p a b⟩
                           · rw [gvs_s h1]
                             by_cases e : b = M0 76 0 x4
                             · rw [e, up3_eq, if_pos ⟨htk, hl, rfl⟩, e35t (by omega) (by omega)]
                             · rw [up3_nj e, if_neg (fun z => e z.2.2.symm), g1 b b0 b1]
                               omega
                           · rw [up3_nr (by decide), g2]
                             exact cn3_congr fun p _ _ => (cm p).symm)
                        | (have htk : tkP x1 x4 := by show and3 _ 1 = 1; omega
                           have hpl : M0 76 0 x4 < M0 44 0 1 := by omega
                           have hst : M0 50 0 (M0 76 0 x4) = 0 ∨ M0 50 0 (M0 76 0 x4) = 2 := by omega
                           have he := e35 (by omega)
                           have hR : rdP M0 x1 x4 (M0 76 0 x4) := ⟨htk, by omega, rfl, ⟨hst, by show and3 _ 1 = 1; omega⟩, by show sSd (LM3 M0) 22 (M0 44 0 0) ≤ _; omega, by show sSd (LM3 M0) 20 (M0 44 0 0) ≤ _; omega⟩
                           have hnb : ¬ bL3 x2 (M0 76 0 x4) := fun z => z (by assumption)
                           have hcf : cmI M0 x1 x4 (M0 76 0 x4) = false := by
                             cases hv : cmI M0 x1 x4 (M0 76 0 x4) with
                             | false => rfl
                             | true => exact absurd ((g3 _ hp48.1 hpl).mpr hv) hnb
                           have hct : cmI M0 x1 (x4 + 1) (M0 76 0 x4) = true := by rw [cm_s h1, decide_eq_true hR, Bool.or_true]
                           have ne : ∀ p : Int, p ≠ M0 76 0 x4 → cmI M0 x1 (x4 + 1) p = cmI M0 x1 x4 p := fun p hp => cm_n h1 fun z => hp z.2.2.1.symm
                           refine ih _ _ _ (by omega) (by omega) (hp3.up (by decide)) ((h4.tr ((Eg.c he1).tr ((Eg.c he2).tr (Eg.c he3)))).ups (by decide)) ⟨fun b b0 b1 => ?_, ?_, fun p a b => ?_⟩
                           · rw [up3_nr (by decide), he3.1 35 (by decide), he2.1 35 (by decide), he1.1 35 (by decide), g1 b b0 b1, gvs_s h1, if_neg (fun z => by have := z.2.1; omega)]
                             omega
                           · rw [up3_eq, g2]
                             exact (cn3_one ⟨hp48.1, hpl⟩ hcf hct fun p _ _ e => ne p e).symm
                           · rw [bl_or ⟨a, by omega⟩ hp48]
                             by_cases e : p = M0 76 0 x4
                             · rw [e, hct]
                               exact ⟨fun _ => rfl, fun _ => Or.inl rfl⟩
                             · rw [ne p e, ← g3 p a b]
                               exact ⟨fun z => z.resolve_left e, fun z => Or.inr z⟩)
                    · refine ⟨fun c10 => ?_, fun c10 => ?_⟩
                      · first
                        | (exfalso; omega)
                        | exact skip M h3 Eg.rf rfl rfl (fun b z => by have z1 : and3 (shr3 x1 x4) 1 = 1 := z.1; omega) (fun z => by have z1 : and3 (shr3 x1 x4) 1 = 1 := z.1; omega)
                        | exact skip M h3 Eg.rf rfl rfl (fun b z => by have := z.2.1; omega) (fun _ => by assumption)
                        | exact skip M h3 Eg.rf rfl rfl (fun b z => by have := z.2.1; omega) (fun z => by
                            obtain ⟨z1, z2, z3, ⟨z4, z5⟩, z6, z7⟩ := z
                            exfalso
                            omega)
                        | exact skip N3 hp3 ((Eg.c he1).tr ((Eg.c he2).tr (Eg.c he3))) (((he3.1 35 (by decide)).trans (he2.1 35 (by decide))).trans (he1.1 35 (by decide))) (((he3.1 31 (by decide)).trans (he2.1 31 (by decide))).trans (he1.1 31 (by decide))) (fun b z => by have := z.2.1; omega) (fun z => by
                            obtain ⟨z1, z2, z3, ⟨z4, z5⟩, z6, z7⟩ := z
                            exfalso
                            have z5' : and3 (shr3 (sSd (LM3 M0) 21 (M0 44 0 0)) (M0 46 0 (M0 76 0 x4))) 1 = 1 := z5
                            have z6' := e35 (by omega)
                            have z7' : sSd (LM3 M0) 20 (M0 44 0 0) ≤ sRm (LM3 M0) (M0 44 0 0) := z7
                            have z8 : sSd (LM3 M0) 22 (M0 44 0 0) ≤ min 20 (M0 47 0 (M0 76 0 x4) + 2 * gvs M0 x1 x4 (M0 45 0 (M0 76 0 x4))) := z6
                            omega)
                        | (have hl : M0 75 0 x4 = 0 := by omega
                           have htk : tkP x1 x4 := by show and3 _ 1 = 1; omega
                           have cm : ∀ p : Int, cmI M0 x1 (x4 + 1) p = cmI M0 x1 x4 p := fun p => cm_n h1 fun z => z.2.1 hl
                           refine ih _ _ _ (by omega) (by omega) (h3.up (by decide)) (h4.up) ⟨fun b b0 b1 => ?_, ?_, fun p a b => by rw [cm p]; exact g3 p a b⟩
                           · rw [gvs_s h1]
                             by_cases e : b = M0 76 0 x4
                             · rw [e, up3_eq, if_pos ⟨htk, hl, rfl⟩, e35t (by omega) (by omega)]
                             · rw [up3_nj e, if_neg (fun z => e z.2.2.symm), g1 b b0 b1]
                               omega
                           · rw [up3_nr (by decide), g2]
                             exact cn3_congr fun p _ _ => (cm p).symm)
                        | (have htk : tkP x1 x4 := by show and3 _ 1 = 1; omega
                           have hpl : M0 76 0 x4 < M0 44 0 1 := by omega
                           have hst : M0 50 0 (M0 76 0 x4) = 0 ∨ M0 50 0 (M0 76 0 x4) = 2 := by omega
                           have he := e35 (by omega)
                           have hR : rdP M0 x1 x4 (M0 76 0 x4) := ⟨htk, by omega, rfl, ⟨hst, by show and3 _ 1 = 1; omega⟩, by show sSd (LM3 M0) 22 (M0 44 0 0) ≤ _; omega, by show sSd (LM3 M0) 20 (M0 44 0 0) ≤ _; omega⟩
                           have hnb : ¬ bL3 x2 (M0 76 0 x4) := fun z => z (by assumption)
                           have hcf : cmI M0 x1 x4 (M0 76 0 x4) = false := by
                             cases hv : cmI M0 x1 x4 (M0 76 0 x4) with
                             | false => rfl
                             | true => exact absurd ((g3 _ hp48.1 hpl).mpr hv) hnb
                           have hct : cmI M0 x1 (x4 + 1) (M0 76 0 x4) = true := by rw [cm_s h1, decide_eq_true hR, Bool.or_true]
                           have ne : ∀ p : Int, p ≠ M0 76 0 x4 → cmI M0 x1 (x4 + 1) p = cmI M0 x1 x4 p := fun p hp => cm_n h1 fun z => hp z.2.2.1.symm
                           refine ih _ _ _ (by omega) (by omega) (hp3.up (by decide)) ((h4.tr ((Eg.c he1).tr ((Eg.c he2).tr (Eg.c he3)))).ups (by decide)) ⟨fun b b0 b1 => ?_, ?_, fun p a b => ?_⟩
                           · rw [up3_nr (by decide), he3.1 35 (by decide), he2.1 35 (by decide), he1.1 35 (by decide), g1 b b0 b1, gvs_s h1, if_neg (fun z => by have := z.2.1; omega)]
                             omega
                           · rw [up3_eq, g2]
                             exact (cn3_one ⟨hp48.1, hpl⟩ hcf hct fun p _ _ e => ne p e).symm
                           · rw [bl_or ⟨a, by omega⟩ hp48]
                             by_cases e : p = M0 76 0 x4
                             · rw [e, hct]
                               exact ⟨fun _ => rfl, fun _ => Or.inl rfl⟩
                             · rw [ne p e, ← g3 p a b]
                               exact ⟨fun z => z.resolve_left e, fun z => Or.inr z⟩)
                      · refine ⟨?_, ?_⟩
                        · first | omega | exact ⟨h3, by omega, hd⟩ | exact ⟨hp1, by omega, hd⟩ | exact ⟨hp2, by omega, hd⟩ | exact ⟨by omega, by omega, by omega⟩ | (have := q1 (by omega); omega) | (exfalso; omega)
                        first
                        | (exfalso; omega)
                        | exact skip M h3 Eg.rf rfl rfl (fun b z => by have z1 : and3 (shr3 x1 x4) 1 = 1 := z.1; omega) (fun z => by have z1 : and3 (shr3 x1 x4) 1 = 1 := z.1; omega)
                        | exact skip M h3 Eg.rf rfl rfl (fun b z => by have := z.2.1; omega) (fun _ => by assumption)
                        | exact skip M h3 Eg.rf rfl rfl (fun b z => by have := z.2.1; omega) (fun z => by
                            obtain ⟨z1, z2, z3, ⟨z4, z5⟩, z6, z7⟩ := z
                            exfalso
                            omega)
                        | exact skip N3 hp3 ((Eg.c he1).tr ((Eg.c he2).tr (Eg.c he3))) (((he3.1 35 (by decide)).trans (he2.1 35 (by decide))).trans (he1.1 35 (by decide))) (((he3.1 31 (by decide)).trans (he2.1 31 (by decide))).trans (he1.1 31 (by decide))) (fun b z => by have := z.2.1; omega) (fun z => by
                            obtain ⟨z1, z2, z3, ⟨z4, z5⟩, z6, z7⟩ := z
                            exfalso
                            have z5' : and3 (shr3 (sSd (LM3 M0) 21 (M0 44 0 0)) (M0 46 0 (M0 76 0 x4))) 1 = 1 := z5
                            have z6' := e35 (by omega)
                            have z7' : sSd (LM3 M0) 20 (M0 44 0 0) ≤ sRm (LM3 M0) (M0 44 0 0) := z7
                            have z8 : sSd (LM3 M0) 22 (M0 44 0 0) ≤ min 20 (M0 47 0 (M0 76 0 x4) + 2 * gvs M0 x1 x4 (M0 45 0 (M0 76 0 x4))) := z6
                            omega)
                        | (have hl : M0 75 0 x4 = 0 := by omega
                           have htk : tkP x1 x4 := by show and3 _ 1 = 1; omega
                           have cm : ∀ p : Int, cmI M0 x1 (x4 + 1) p = cmI M0 x1 x4 p := fun p => cm_n h1 fun z => z.2.1 hl
                           refine ih _ _ _ (by omega) (by omega) (h3.up (by decide)) (h4.up) ⟨fun b b0 b1 => ?_, ?_, fun p a b => by rw [cm p]; exact g3 p a b⟩
                           · rw [gvs_s h1]
                             by_cases e : b = M0 76 0 x4
                             · rw [e, up3_eq, if_pos ⟨htk, hl, rfl⟩, e35t (by omega) (by omega)]
                             · rw [up3_nj e, if_neg (fun z => e z.2.2.symm), g1 b b0 b1]
                               omega
                           · rw [up3_nr (by decide), g2]
                             exact cn3_congr fun p _ _ => (cm p).symm)
                        | (have htk : tkP x1 x4 := by show and3 _ 1 = 1; omega
                           have hpl : M0 76 0 x4 < M0 44 0 1 := by omega
                           have hst : M0 50 0 (M0 76 0 x4) = 0 ∨ M0 50 0 (M0 76 0 x4) = 2 := by omega
                           have he := e35 (by omega)
                           have hR : rdP M0 x1 x4 (M0 76 0 x4) := ⟨htk, by omega, rfl, ⟨hst, by show and3 _ 1 = 1; omega⟩, by show sSd (LM3 M0) 22 (M0 44 0 0) ≤ _; omega, by show sSd (LM3 M0) 20 (M0 44 0 0) ≤ _; omega⟩
                           have hnb : ¬ bL3 x2 (M0 76 0 x4) := fun z => z (by assumption)
                           have hcf : cmI M0 x1 x4 (M0 76 0 x4) = false := by
                             cases hv : cmI M0 x1 x4 (M0 76 0 x4) with
                             | false => rfl
                             | true => exact absurd ((g3 _ hp48.1 hpl).mpr hv) hnb
                           have hct : cmI M0 x1 (x4 + 1) (M0 76 0 x4) = true := by rw [cm_s h1, decide_eq_true hR, Bool.or_true]
                           have ne : ∀ p : Int, p ≠ M0 76 0 x4 → cmI M0 x1 (x4 + 1) p = cmI M0 x1 x4 p := fun p hp => cm_n h1 fun z => hp z.2.2.1.symm
                           refine ih _ _ _ (by omega) (by omega) (hp3.up (by decide)) ((h4.tr ((Eg.c he1).tr ((Eg.c he2).tr (Eg.c he3)))).ups (by decide)) ⟨fun b b0 b1 => ?_, ?_, fun p a b => ?_⟩
                           · rw [up3_nr (by decide), he3.1 35 (by decide), he2.1 35 (by decide), he1.1 35 (by decide), g1 b b0 b1, gvs_s h1, if_neg (fun z => by have := z.2.1; omega)]
                             omega
                           · rw [up3_eq, g2]
                             exact (cn3_one ⟨hp48.1, hpl⟩ hcf hct fun p _ _ e => ne p e).symm
                           · rw [bl_or ⟨a, by omega⟩ hp48]
                             by_cases e : p = M0 76 0 x4
                             · rw [e, hct]
                               exact ⟨fun _ => rfl, fun _ => Or.inl rfl⟩
                             · rw [ne p e, ← g3 p a b]
                               exact ⟨fun z => z.resolve_left e, fun z => Or.inr z⟩)
              · first
                | (exfalso; omega)
                | exact skip M h3 Eg.rf rfl rfl (fun b z => by have z1 : and3 (shr3 x1 x4) 1 = 1 := z.1; omega) (fun z => by have z1 : and3 (shr3 x1 x4) 1 = 1 := z.1; omega)
                | exact skip M h3 Eg.rf rfl rfl (fun b z => by have := z.2.1; omega) (fun _ => by assumption)
                | exact skip M h3 Eg.rf rfl rfl (fun b z => by have := z.2.1; omega) (fun z => by
                    obtain ⟨z1, z2, z3, ⟨z4, z5⟩, z6, z7⟩ := z
                    exfalso
                    omega)
                | exact skip N3 hp3 ((Eg.c he1).tr ((Eg.c he2).tr (Eg.c he3))) (((he3.1 35 (by decide)).trans (he2.1 35 (by decide))).trans (he1.1 35 (by decide))) (((he3.1 31 (by decide)).trans (he2.1 31 (by decide))).trans (he1.1 31 (by decide))) (fun b z => by have := z.2.1; omega) (fun z => by
                    obtain ⟨z1, z2, z3, ⟨z4, z5⟩, z6, z7⟩ := z
                    exfalso
                    have z5' : and3 (shr3 (sSd (LM3 M0) 21 (M0 44 0 0)) (M0 46 0 (M0 76 0 x4))) 1 = 1 := z5
                    have z6' := e35 (by omega)
                    have z7' : sSd (LM3 M0) 20 (M0 44 0 0) ≤ sRm (LM3 M0) (M0 44 0 0) := z7
                    have z8 : sSd (LM3 M0) 22 (M0 44 0 0) ≤ min 20 (M0 47 0 (M0 76 0 x4) + 2 * gvs M0 x1 x4 (M0 45 0 (M0 76 0 x4))) := z6
                    omega)
                | (have hl : M0 75 0 x4 = 0 := by omega
                   have htk : tkP x1 x4 := by show and3 _ 1 = 1; omega
                   have cm : ∀ p : Int, cmI M0 x1 (x4 + 1) p = cmI M0 x1 x4 p := fun p => cm_n h1 fun z => z.2.1 hl
                   refine ih _ _ _ (by omega) (by omega) (h3.up (by decide)) (h4.up) ⟨fun b b0 b1 => ?_, ?_, fun p a b => by rw [cm p]; exact g3 p a b⟩
                   · rw [gvs_s h1]
                     by_cases e : b = M0 76 0 x4
                     · rw [e, up3_eq, if_pos ⟨htk, hl, rfl⟩, e35t (by omega) (by omega)]
                     · rw [up3_nj e, if_neg (fun z => e z.2.2.symm), g1 b b0 b1]
                       omega
                   · rw [up3_nr (by decide), g2]
                     exact cn3_congr fun p _ _ => (cm p).symm)
                | (have htk : tkP x1 x4 := by show and3 _ 1 = 1; omega
                   have hpl : M0 76 0 x4 < M0 44 0 1 := by omega
                   have hst : M0 50 0 (M0 76 0 x4) = 0 ∨ M0 50 0 (M0 76 0 x4) = 2 := by omega
                   have he := e35 (by omega)
                   have hR : rdP M0 x1 x4 (M0 76 0 x4) := ⟨htk, by omega, rfl, ⟨hst, by show and3 _ 1 = 1; omega⟩, by show sSd (LM3 M0) 22 (M0 44 0 0) ≤ _; omega, by show sSd (LM3 M0) 20 (M0 44 0 0) ≤ _; omega⟩
                   have hnb : ¬ bL3 x2 (M0 76 0 x4) := fun z => z (by assumption)
                   have hcf : cmI M0 x1 x4 (M0 76 0 x4) = false := by
                     cases hv : cmI M0 x1 x4 (M0 76 0 x4) with
                     | false => rfl
                     | true => exact absurd ((g3 _ hp48.1 hpl).mpr hv) hnb
                   have hct : cmI M0 x1 (x4 + 1) (M0 76 0 x4) = true := by rw [cm_s h1, decide_eq_true hR, Bool.or_true]
                   have ne : ∀ p : Int, p ≠ M0 76 0 x4 → cmI M0 x1 (x4 + 1) p = cmI M0 x1 x4 p := fun p hp => cm_n h1 fun z => hp z.2.2.1.symm
                   refine ih _ _ _ (by omega) (by omega) (hp3.up (by decide)) ((h4.tr ((Eg.c he1).tr ((Eg.c he2).tr (Eg.c he3)))).ups (by decide)) ⟨fun b b0 b1 => ?_, ?_, fun p a b => ?_⟩
                   · rw [up3_nr (by decide), he3.1 35 (by decide), he2.1 35 (by decide), he1.1 35 (by decide), g1 b b0 b1, gvs_s h1, if_neg (fun z => by have := z.2.1; omega)]
                     omega
                   · rw [up3_eq, g2]
                     exact (cn3_one ⟨hp48.1, hpl⟩ hcf hct fun p _ _ e => ne p e).symm
                   · rw [bl_or ⟨a, by omega⟩ hp48]
                     by_cases e : p = M0 76 0 x4
                     · rw [e, hct]
                       exact ⟨fun _ => rfl, fun _ => Or.inl rfl⟩
                     · rw [ne p e, ← g3 p a b]
                       exact ⟨fun z => z.resolve_left e, fun z => Or.inr z⟩)
        · refine ⟨?_, ?_, ?_⟩
          · first | omega | exact ⟨h3, by omega, hd⟩ | exact ⟨hp1, by omega, hd⟩ | exact ⟨hp2, by omega, hd⟩ | exact ⟨by omega, by omega, by omega⟩ | (have := q1 (by omega); omega) | (exfalso; omega)
          · first | omega | exact ⟨h3, by omega, hd⟩ | exact ⟨hp1, by omega, hd⟩ | exact ⟨hp2, by omega, hd⟩ | exact ⟨by omega, by omega, by omega⟩ | (have := q1 (by omega); omega) | (exfalso; omega)
          first
          | (exfalso; omega)
          | exact skip M h3 Eg.rf rfl rfl (fun b z => by have z1 : and3 (shr3 x1 x4) 1 = 1 := z.1; omega) (fun z => by have z1 : and3 (shr3 x1 x4) 1 = 1 := z.1; omega)
          | exact skip M h3 Eg.rf rfl rfl (fun b z => by have := z.2.1; omega) (fun _ => by assumption)
          | exact skip M h3 Eg.rf rfl rfl (fun b z => by have := z.2.1; omega) (fun z => by
              obtain ⟨z1, z2, z3, ⟨z4, z5⟩, z6, z7⟩ := z
              exfalso
              omega)
          | exact skip N3 hp3 ((Eg.c he1).tr ((Eg.c he2).tr (Eg.c he3))) (((he3.1 35 (by decide)).trans (he2.1 35 (by decide))).trans (he1.1 35 (by decide))) (((he3.1 31 (by decide)).trans (he2.1 31 (by decide))).trans (he1.1 31 (by decide))) (fun b z => by have := z.2.1; omega) (fun z => by
              obtain ⟨z1, z2, z3, ⟨z4, z5⟩, z6, z7⟩ := z
              exfalso
              have z5' : and3 (shr3 (sSd (LM3 M0) 21 (M0 44 0 0)) (M0 46 0 (M0 76 0 x4))) 1 = 1 := z5
              have z6' := e35 (by omega)
              have z7' : sSd (LM3 M0) 20 (M0 44 0 0) ≤ sRm (LM3 M0) (M0 44 0 0) := z7
              have z8 : sSd (LM3 M0) 22 (M0 44 0 0) ≤ min 20 (M0 47 0 (M0 76 0 x4) + 2 * gvs M0 x1 x4 (M0 45 0 (M0 76 0 x4))) := z6
              omega)
          | (have hl : M0 75 0 x4 = 0 := by omega
             have htk : tkP x1 x4 := by show and3 _ 1 = 1; omega
             have cm : ∀ p : Int, cmI M0 x1 (x4 + 1) p = cmI M0 x1 x4 p := fun p => cm_n h1 fun z => z.2.1 hl
             refine ih _ _ _ (by omega) (by omega) (h3.up (by decide)) (h4.up) ⟨fun b b0 b1 => ?_, ?_, fun p a b => by rw [cm p]; exact g3 p a b⟩
             · rw [gvs_s h1]
               by_cases e : b = M0 76 0 x4
               · rw [e, up3_eq, if_pos ⟨htk, hl, rfl⟩, e35t (by omega) (by omega)]
               · rw [up3_nj e, if_neg (fun z => e z.2.2.symm), g1 b b0 b1]
                 omega
             · rw [up3_nr (by decide), g2]
               exact cn3_congr fun p _ _ => (cm p).symm)
          | (have htk : tkP x1 x4 := by show and3 _ 1 = 1; omega
             have hpl : M0 76 0 x4 < M0 44 0 1 := by omega
             have hst : M0 50 0 (M0 76 0 x4) = 0 ∨ M0 50 0 (M0 76 0 x4) = 2 := by omega
             have he := e35 (by omega)
             have hR : rdP M0 x1 x4 (M0 76 0 x4) := ⟨htk, by omega, rfl, ⟨hst, by show and3 _ 1 = 1; omega⟩, by show sSd (LM3 M0) 22 (M0 44 0 0) ≤ _; omega, by show sSd (LM3 M0) 20 (M0 44 0 0) ≤ _; omega⟩
             have hnb : ¬ bL3 x2 (M0 76 0 x4) := fun z => z (by assumption)
             have hcf : cmI M0 x1 x4 (M0 76 0 x4) = false := by
               cases hv : cmI M0 x1 x4 (M0 76 0 x4) with
               | false => rfl
               | true => exact absurd ((g3 _ hp48.1 hpl).mpr hv) hnb
             have hct : cmI M0 x1 (x4 + 1) (M0 76 0 x4) = true := by rw [cm_s h1, decide_eq_true hR, Bool.or_true]
             have ne : ∀ p : Int, p ≠ M0 76 0 x4 → cmI M0 x1 (x4 + 1) p = cmI M0 x1 x4 p := fun p hp => cm_n h1 fun z => hp z.2.2.1.symm
             refine ih _ _ _ (by omega) (by omega) (hp3.up (by decide)) ((h4.tr ((Eg.c he1).tr ((Eg.c he2).tr (Eg.c he3)))).ups (by decide)) ⟨fun b b0 b1 => ?_, ?_, fun p a b => ?_⟩
             · rw [up3_nr (by decide), he3.1 35 (by decide), he2.1 35 (by decide), he1.1 35 (by decide), g1 b b0 b1, gvs_s h1, if_neg (fun z => by have := z.2.1; omega)]
               omega
             · rw [up3_eq, g2]
               exact (cn3_one ⟨hp48.1, hpl⟩ hcf hct fun p _ _ e => ne p e).symm
             · rw [bl_or ⟨a, by omega⟩ hp48]
               by_cases e : p = M0 76 0 x4
               · rw [e, hct]
                 exact ⟨fun _ => rfl, fun _ => Or.inl rfl⟩
               · rw [ne p e, ← g3 p a b]
                 exact ⟨fun z => z.resolve_left e, fun z => Or.inr z⟩)
      · first
        | (exfalso; omega)
        | exact skip M h3 Eg.rf rfl rfl (fun b z => by have z1 : and3 (shr3 x1 x4) 1 = 1 := z.1; omega) (fun z => by have z1 : and3 (shr3 x1 x4) 1 = 1 := z.1; omega)
        | exact skip M h3 Eg.rf rfl rfl (fun b z => by have := z.2.1; omega) (fun _ => by assumption)
        | exact skip M h3 Eg.rf rfl rfl (fun b z => by have := z.2.1; omega) (fun z => by
            obtain ⟨z1, z2, z3, ⟨z4, z5⟩, z6, z7⟩ := z
            exfalso
            omega)
        | exact skip N3 hp3 ((Eg.c he1).tr ((Eg.c he2).tr (Eg.c he3))) (((he3.1 35 (by decide)).trans (he2.1 35 (by decide))).trans (he1.1 35 (by decide))) (((he3.1 31 (by decide)).trans (he2.1 31 (by decide))).trans (he1.1 31 (by decide))) (fun b z => by have := z.2.1; omega) (fun z => by
            obtain ⟨z1, z2, z3, ⟨z4, z5⟩, z6, z7⟩ := z
            exfalso
            have z5' : and3 (shr3 (sSd (LM3 M0) 21 (M0 44 0 0)) (M0 46 0 (M0 76 0 x4))) 1 = 1 := z5
            have z6' := e35 (by omega)
            have z7' : sSd (LM3 M0) 20 (M0 44 0 0) ≤ sRm (LM3 M0) (M0 44 0 0) := z7
            have z8 : sSd (LM3 M0) 22 (M0 44 0 0) ≤ min 20 (M0 47 0 (M0 76 0 x4) + 2 * gvs M0 x1 x4 (M0 45 0 (M0 76 0 x4))) := z6
            omega)
        | (have hl : M0 75 0 x4 = 0 := by omega
           have htk : tkP x1 x4 := by show and3 _ 1 = 1; omega
           have cm : ∀ p : Int, cmI M0 x1 (x4 + 1) p = cmI M0 x1 x4 p := fun p => cm_n h1 fun z => z.2.1 hl
           refine ih _ _ _ (by omega) (by omega) (h3.up (by decide)) (h4.up) ⟨fun b b0 b1 => ?_, ?_, fun p a b => by rw [cm p]; exact g3 p a b⟩
           · rw [gvs_s h1]
             by_cases e : b = M0 76 0 x4
             · rw [e, up3_eq, if_pos ⟨htk, hl, rfl⟩, e35t (by omega) (by omega)]
             · rw [up3_nj e, if_neg (fun z => e z.2.2.symm), g1 b b0 b1]
               omega
           · rw [up3_nr (by decide), g2]
             exact cn3_congr fun p _ _ => (cm p).symm)
        | (have htk : tkP x1 x4 := by show and3 _ 1 = 1; omega
           have hpl : M0 76 0 x4 < M0 44 0 1 := by omega
           have hst : M0 50 0 (M0 76 0 x4) = 0 ∨ M0 50 0 (M0 76 0 x4) = 2 := by omega
           have he := e35 (by omega)
           have hR : rdP M0 x1 x4 (M0 76 0 x4) := ⟨htk, by omega, rfl, ⟨hst, by show and3 _ 1 = 1; omega⟩, by show sSd (LM3 M0) 22 (M0 44 0 0) ≤ _; omega, by show sSd (LM3 M0) 20 (M0 44 0 0) ≤ _; omega⟩
           have hnb : ¬ bL3 x2 (M0 76 0 x4) := fun z => z (by assumption)
           have hcf : cmI M0 x1 x4 (M0 76 0 x4) = false := by
             cases hv : cmI M0 x1 x4 (M0 76 0 x4) with
             | false => rfl
             | true => exact absurd ((g3 _ hp48.1 hpl).mpr hv) hnb
           have hct : cmI M0 x1 (x4 + 1) (M0 76 0 x4) = true := by rw [cm_s h1, decide_eq_true hR, Bool.or_true]
           have ne : ∀ p : Int, p ≠ M0 76 0 x4 → cmI M0 x1 (x4 + 1) p = cmI M0 x1 x4 p := fun p hp => cm_n h1 fun z => hp z.2.2.1.symm
           refine ih _ _ _ (by omega) (by omega) (hp3.up (by decide)) ((h4.tr ((Eg.c he1).tr ((Eg.c he2).tr (Eg.c he3)))).ups (by decide)) ⟨fun b b0 b1 => ?_, ?_, fun p a b => ?_⟩
           · rw [up3_nr (by decide), he3.1 35 (by decide), he2.1 35 (by decide), he1.1 35 (by decide), g1 b b0 b1, gvs_s h1, if_neg (fun z => by have := z.2.1; omega)]
             omega
           · rw [up3_eq, g2]
             exact (cn3_one ⟨hp48.1, hpl⟩ hcf hct fun p _ _ e => ne p e).symm
           · rw [bl_or ⟨a, by omega⟩ hp48]
             by_cases e : p = M0 76 0 x4
             · rw [e, hct]
               exact ⟨fun _ => rfl, fun _ => Or.inl rfl⟩
             · rw [ne p e, ← g3 p a b]
               exact ⟨fun z => z.resolve_left e, fun z => Or.inr z⟩)
theorem lX10_gt158 {E : E3} {Q : Q3} {M0 : M3} {x1 : Int} (hI : IB M0) (hR : ∀ b g : Int, 0 ≤ b → b < 6 → 0 ≤ g → g ≤ 12 → M0 28 b g = mRdy M0 b g) (k : ∀ (N : M3), RM3 N → Eg M0 N → LwC N → N 31 0 10 = jOn M0 x1 → N 31 0 11 = jRd M0 x1 → Q none N) : ∀ (n : Nat) (x4 : Int) (M : M3), 0 ≤ x4 → x4 + n = 6 → LwC M → Eg M0 M → (∀ b : Int, 0 ≤ b → b < 6 → M 35 0 b = gvs M0 x1 (M0 44 0 44) b) → M 31 0 10 = jOn M0 x1 → M 31 0 11 = -(jOn M0 x1) + sm3 x4 (fun b => mRdy M0 b (gvs M0 x1 (M0 44 0 44) b)) → G3 E YX10_goThrough Q 158 [(0, vR 31 0), (4, vI x4)] [] M := by
  have hn := hI.2.2.1.2.1
  have hk := hI.2.2.2.2.2.2.2.1.2.1
  intro n
  induction n with
  | zero =>
    intro x4 M h1 h2 h3 h4 h5 h6 h7
    refine g3_rm fun hM => ?_
    have hs := rd_sum hI x1
    rw [show x4 = 6 by omega, sm3_6] at h7
    refine sX10_goThrough_158 ?_
    refine ⟨?_, ?_⟩
    · omega
    refine ⟨fun c1 => ?_, fun c1 => ?_⟩
    · first | (exfalso; omega) | exact k M hM h4 h3 h6 (by rw [h7]; omega)
    · refine ⟨?_, ?_, ?_, ?_⟩
      · omega
      · omega
      · omega
      exfalso; omega
  | succ n ih =>
    intro x4 M h1 h2 h3 h4 h5 h6 h7
    refine g3_rm fun hM => ?_
    have g0 := h5 x4 h1 (by omega)
    have gr := gvs_rg (M := M0) (bits := x1) (k := M0 44 0 44) (b := x4) hk.1
    have e28 : M 28 x4 (gvs M0 x1 (M0 44 0 44) x4) = mRdy M0 x4 (gvs M0 x1 (M0 44 0 44) x4) := by
      rw [h4.1 28 (by decide)]
      exact hR _ _ h1 (by omega) gr.1 (by omega)
    have r1 := mRdy_rg hn x4 (gvs M0 x1 (M0 44 0 44) x4)
    have r2 := sm3_rg (n := x4) (B := 48) h1 (f := fun b => mRdy M0 b (gvs M0 x1 (M0 44 0 44) b)) fun b _ _ => mRdy_rg hn _ _
    have r3 := jOn_rg hn x1
    refine sX10_goThrough_158 ?_
    rw [g0, e28, h7]
    refine ⟨?_, ?_⟩
    · first | omega | (exfalso; omega)
    refine ⟨fun c1 => ?_, fun c1 => ?_⟩
    · exfalso; omega
    · refine ⟨?_, ?_, ?_, ?_⟩
      · first | omega | (exfalso; omega)
      · first | omega | (exfalso; omega)
      · first | omega | (exfalso; omega)
      first
      | (exfalso; omega)
      | (refine ih _ _ (by omega) (by omega) (h3.up (by decide)) (h4.ups (by decide)) (fun b b0 b1 => by rw [up3_nr (by decide)]; exact h5 b b0 b1) (by rw [up3_nj (by decide)]; exact h6) ?_
         rw [up3_eq, sm3_s h1]
         omega)
def preGt (M : M3) : Prop := LwC M ∧ IB M ∧ (∀ b g : Int, 0 ≤ b → b < 6 → 0 ≤ g → g ≤ 12 → M 28 b g = mRdy M b g) ∧ M 31 0 9 = sRm (LM3 M) (M 44 0 0)
def poGt (M : M3) (bits : Int) (N : M3) : Prop := LwC N ∧ N 31 0 10 = jOn M bits ∧ N 31 0 11 = jRd M bits ∧ Eg M N
theorem kX10_goThrough {E : E3} {Q : Q3} {M : M3} {x1 : Int} (h : preGt M) (k : ∀ (N : M3), RM3 N → (∀ q : Nat, q ∉ ([3, 8, 9, 31, 35] : List Nat) → N q = M q) → (∀ j : Int, j ∉ ([10, 11] : List Int) → N 31 0 j = M 31 0 j) → poGt M x1 N → Q none N) : C3 E YX10_goThrough [vR 31 0, vI x1] M Q := by
  obtain ⟨hL, hI, hR, hA⟩ := h
  have hn := hI.2.2.1.2.1
  have hk := hI.2.2.2.2.2.2.2.1.2.1
  refine sX10_goThrough (lX10_gt2 (fun N a b c => lX10_gt31 hI hA (fun N2 a2 b2 c2 d2 e2 => ?_) (M 44 0 44).toNat 0 0 _ (by omega) (by omega) ((hL.fr b (by decide)).up (by decide)) (Eg.ups ⟨fr_sub b (by decide), fun j _ => by rw [b 3 (by decide)], fun j _ => by rw [b 31 (by decide)]⟩ (by decide)) ⟨fun x x0 x1 => by rw [up3_nr (by decide), c x x0 x1]; rfl, by rw [up3_eq]; exact (cn3_zero.mpr fun p _ _ => rfl).symm, fun p a b => ⟨fun z => absurd z (bl_0 ⟨a, by omega⟩), fun z => by cases z⟩⟩) 6 0 M (by omega) (by omega) fr_rf (fun b a c => by omega))
  refine lX10_gt158 hI hR (fun N3 a3 b3 c3 d3 e3 => k N3 a3 b3.1 b3.2.2 ⟨c3, d3, e3, b3⟩) 6 0 _ (by omega) (by omega) (c2.up (by decide)) (b2.ups (by decide)) (fun x x0 x1 => by rw [up3_nr (by decide)]; exact d2 x x0 x1) (by rw [up3_nj (by decide)]; exact e2) ?_
  rw [up3_eq, e2]
  show _ = _ + (0 : Int)
  omega
theorem lX10_priceOf {E : E3} {Q : Q3} {M : M3} {x1 : Int} (hS : iSum M) (k : Q (some (vI (jPr M x1))) M) : ∀ (n : Nat) (x3 x2 : Int), 0 ≤ x3 → x3 + n = M 44 0 44 → x2 = prs M x1 x3 → G3 E YX10_priceOf Q 4 [(0, vR 31 0), (1, vI x1), (2, vI x2), (3, vI x3)] [] M := by
  intro n
  induction n with
  | zero =>
    intro x3 x2 h1 h2 h3
    refine g3_rm fun hM => ?_
    have hk := hS.2.1
    have e0 := hS.1
    have ha := and3_1 (shr3 x1 x3)
    have rp : 0 ≤ prs M x1 x3 ∧ prs M x1 x3 ≤ x3 * 100 := sm3_rg h1 (f := fun j => if tkP x1 j then M 77 0 j else 0) fun j a b => by
      have c := (hS.2.2 j a (by omega)).2.2.2.2
      show 0 ≤ (if tkP x1 j then M 77 0 j else 0) ∧ (if tkP x1 j then M 77 0 j else 0) ≤ 100
      split <;> omega
    refine sX10_priceOf_4 ?_
    refine ⟨?_, ?_⟩
    · first | omega | (exfalso; omega)
    refine ⟨fun c1 => ?_, fun c1 => ?_⟩
    · first | (exfalso; omega) | (rw [jPr, ← show x3 = M 44 0 44 by omega, ← h3] at k; exact k)
    · refine ⟨fun c2 => ?_, fun c2 => ?_⟩
      · exfalso; omega
      · refine ⟨?_, ?_⟩
        · first | omega | (exfalso; omega)
        exfalso; omega
  | succ n ih =>
    intro x3 x2 h1 h2 h3
    refine g3_rm fun hM => ?_
    have hk := hS.2.1
    have e0 := hS.1
    have ha := and3_1 (shr3 x1 x3)
    have rp : 0 ≤ prs M x1 x3 ∧ prs M x1 x3 ≤ x3 * 100 := sm3_rg h1 (f := fun j => if tkP x1 j then M 77 0 j else 0) fun j a b => by
      have c := (hS.2.2 j a (by omega)).2.2.2.2
      show 0 ≤ (if tkP x1 j then M 77 0 j else 0) ∧ (if tkP x1 j then M 77 0 j else 0) ≤ 100
      split <;> omega
    have c := (hS.2.2 x3 h1 (by omega))
    have u1 := c.1.2.2
    have u2 := c.2.2.2.2
    clear c
    refine sX10_priceOf_4 ?_
    refine ⟨?_, ?_⟩
    · first | omega | (exfalso; omega)
    refine ⟨fun c1 => ?_, fun c1 => ?_⟩
    · exfalso; omega
    · refine ⟨fun c2 => ?_, fun c2 => ?_⟩
      · first
          | (exfalso; omega)
          | (refine ih _ _ (by omega) (by omega) ?_
             rw [prs, sm3_s h1]
             first
               | (rw [if_pos (show tkP x1 x3 by show and3 _ 1 = 1; omega), u1, h3]; try rfl)
               | (rw [if_neg (fun z => by have z1 : and3 (shr3 x1 x3) 1 = 1 := z; omega), Int.add_zero]; exact h3))
      · refine ⟨?_, ?_⟩
        · first | omega | (exfalso; omega)
        first
          | (exfalso; omega)
          | (refine ih _ _ (by omega) (by omega) ?_
             rw [prs, sm3_s h1]
             first
               | (rw [if_pos (show tkP x1 x3 by show and3 _ 1 = 1; omega), u1, h3]; try rfl)
               | (rw [if_neg (fun z => by have z1 : and3 (shr3 x1 x3) 1 = 1 := z; omega), Int.add_zero]; exact h3))
theorem kX10_priceOf {E : E3} {Q : Q3} {M : M3} {x1 : Int} (h : iSum M) (k : Q (some (vI (jPr M x1))) M) : C3 E YX10_priceOf [vR 31 0, vI x1] M Q :=
  sX10_priceOf (lX10_priceOf h k (M 44 0 44).toNat 0 0 (by omega) (by have := h.2.1; omega) rfl)
