/-! PAIRS: write -/
def cvt3 (t v : Int) : Int := if t = 0 then i2b3 v else if t = 1 then i2s3 v else v
def wrC (M : M3) (s x : Int) : M3 := ws1 M 43 s x (fun _ => true) (fun q => cvt3 (M 42 s 0) (sSd (LL3 M) q (M 2 0 0)))
def wrM (M : M3) (s x : Int) : M3 := fun r i j => if r = 83 ∧ i = 0 ∧ 40 * s ≤ j ∧ j < 40 * s + x then cvt3 (M 81 0 s) (sSd (LM3 M) (j - 40 * s) (M 44 0 0)) else M r i j
theorem wrM_r {M : M3} {s x : Int} {r : Nat} (h : r ≠ 83) : wrM M s x r = M r := by
  funext i j
  exact if_neg fun z => h z.1
theorem wrM_0 {M : M3} {s : Int} : wrM M s 0 = M := by
  funext r i j
  exact if_neg fun z => by omega
theorem wrM_s {M : M3} {s x : Int} (hx : 0 ≤ x) : up3 (wrM M s x) 83 0 (40 * s + x) (cvt3 (M 81 0 s) (sSd (LM3 M) x (M 44 0 0))) = wrM M s (x + 1) := by
  funext r i j
  unfold up3 wrM
  by_cases h : r = 83 ∧ i = 0 ∧ j = 40 * s + x
  · rw [if_pos h, if_pos ⟨h.1, h.2.1, by omega, by omega⟩, h.2.2, show 40 * s + x - 40 * s = x by omega]
  · rw [if_neg h]
    by_cases h2 : r = 83 ∧ i = 0 ∧ 40 * s ≤ j ∧ j < 40 * s + x
    · rw [if_pos h2, if_pos ⟨h2.1, h2.2.1, h2.2.2.1, by omega⟩]
    · rw [if_neg h2, if_neg fun z => h2 ⟨z.1, z.2.1, z.2.2.1, by have := z.2.2.2; have : j ≠ 40 * s + x := fun y => h ⟨z.1, z.2.1, y⟩; omega⟩]
theorem cvt3_rg {t v : Int} (hv : -1 ≤ v ∧ v ≤ 99) : -2147483648 ≤ cvt3 t v ∧ cvt3 t v ≤ 2147483647 := by
  unfold cvt3 i2b3 i2s3
  split
  · exact t3_tr _
  · split
    · exact t3_tr _
    · omega
theorem lX11_write {E : E3} {Q : Q3} {M0 : M3} {i2 x3 : Int} (hz : (0 ≤ i2 ∧ i2 < 4) ∧ (0 ≤ x3 ∧ x3 ≤ 20) ∧ (0 ≤ M0 2 0 0 ∧ M0 2 0 0 ≤ 399)) (hsd : ∀ kd d : Int, -1 ≤ sSd (LL3 M0) kd d ∧ sSd (LL3 M0) kd d ≤ 99) (k : ∀ (N : M3), Ec (wrC M0 i2 x3) N → LwC N → Q (some (vI x3)) N) : ∀ (n : Nat) (x4 : Int) (M : M3), 0 ≤ x4 → x4 + n = x3 → LwC M → Ec (wrC M0 i2 x4) M → G3 E YX11_write Q 43 [(0, vR 0 0), (2, vR 42 i2), (3, vI x3), (4, vI x4)] [] M := by
  intro n
  induction n with
  | zero =>
    intro x4 M h1 h2 h3 h4
    refine g3_rm fun hM => ?_
    have e2 : M 2 = M0 2 := by rw [h4.1 2 (by decide), wrC, ws1_r (by decide)]
    have e42 : M 42 = M0 42 := by rw [h4.1 42 (by decide), wrC, ws1_r (by decide)]
    have eL : LL3 M = LL3 M0 := h4.L.trans (LL3_eq (by rw [wrC, ws1_r (by decide)]) (by rw [wrC, ws1_r (by decide)]))
    have hs := hsd x4 (M0 2 0 0)
    refine sX11_write_43 ?_
    simp only [e2, e42, eL]
    refine ⟨?_, ?_, ?_⟩
    · first | omega | exact ⟨h3, by omega, by omega⟩ | (exfalso; omega)
    · first | omega | exact ⟨h3, by omega, by omega⟩ | (exfalso; omega)
    refine ⟨fun c1 => ?_, fun c1 => ?_⟩
    · first
        | (exfalso; omega)
        | (rw [show x4 = x3 by omega] at h4
           exact k M h4 h3)
    · refine ⟨?_, ?_⟩
      · first | omega | exact ⟨h3, by omega, by omega⟩ | (exfalso; omega)
      intro N1 hN1 he1 hp1
      refine ⟨?_, ?_⟩
      · first | omega | exact ⟨h3, by omega, by omega⟩ | (exfalso; omega)
      refine ⟨fun c2 => ?_, fun c2 => ?_⟩
      · refine ⟨?_, ?_⟩
        · first | omega | exact ⟨h3, by omega, by omega⟩ | (exfalso; omega)
        exfalso; omega
      · refine ⟨fun c3 => ?_, fun c3 => ?_⟩
        · refine ⟨?_, ?_⟩
          · first | omega | exact ⟨h3, by omega, by omega⟩ | (exfalso; omega)
          exfalso; omega
        · refine ⟨?_, ?_, ?_⟩
          · first | omega | exact ⟨h3, by omega, by omega⟩ | (exfalso; omega)
          · first | omega | exact ⟨h3, by omega, by omega⟩ | (exfalso; omega)
          exfalso; omega
  | succ n ih =>
    intro x4 M h1 h2 h3 h4
    refine g3_rm fun hM => ?_
    have e2 : M 2 = M0 2 := by rw [h4.1 2 (by decide), wrC, ws1_r (by decide)]
    have e42 : M 42 = M0 42 := by rw [h4.1 42 (by decide), wrC, ws1_r (by decide)]
    have eL : LL3 M = LL3 M0 := h4.L.trans (LL3_eq (by rw [wrC, ws1_r (by decide)]) (by rw [wrC, ws1_r (by decide)]))
    have hs := hsd x4 (M0 2 0 0)
    refine sX11_write_43 ?_
    simp only [e2, e42, eL]
    refine ⟨?_, ?_, ?_⟩
    · first | omega | exact ⟨h3, by omega, by omega⟩ | (exfalso; omega)
    · first | omega | exact ⟨h3, by omega, by omega⟩ | (exfalso; omega)
    refine ⟨fun c1 => ?_, fun c1 => ?_⟩
    · exfalso; omega
    · refine ⟨?_, ?_⟩
      · first | omega | exact ⟨h3, by omega, by omega⟩ | (exfalso; omega)
      intro N1 hN1 he1 hp1
      refine ⟨?_, ?_⟩
      · first | omega | exact ⟨h3, by omega, by omega⟩ | (exfalso; omega)
      refine ⟨fun c2 => ?_, fun c2 => ?_⟩
      · refine ⟨?_, ?_⟩
        · first | omega | exact ⟨h3, by omega, by omega⟩ | (exfalso; omega)
        first
          | (exfalso; omega)
          | (refine ih _ _ (by omega) (by omega) (LwC.fr (L := [43]) hp1 (fr_up fr_rf (by decide)) (by decide)) ?_
             rw [wrC, ← ws1_t h1 rfl rfl]
             have e9 := (Ec.tr h4 he1).up 43 i2 x4 (cvt3 (M0 42 i2 0) (sSd (LL3 M0) x4 (M0 2 0 0)))
             have ec : cvt3 (M0 42 i2 0) (sSd (LL3 M0) x4 (M0 2 0 0)) = i2b3 (sSd (LL3 M0) x4 (M0 2 0 0)) := by
               unfold cvt3
               rw [if_pos (by omega)]
             rw [ec] at e9
             simp only [ec]
             exact e9)
          | (refine ih _ _ (by omega) (by omega) (LwC.fr (L := [43]) hp1 (fr_up fr_rf (by decide)) (by decide)) ?_
             rw [wrC, ← ws1_t h1 rfl rfl]
             have e9 := (Ec.tr h4 he1).up 43 i2 x4 (cvt3 (M0 42 i2 0) (sSd (LL3 M0) x4 (M0 2 0 0)))
             have ec : cvt3 (M0 42 i2 0) (sSd (LL3 M0) x4 (M0 2 0 0)) = i2s3 (sSd (LL3 M0) x4 (M0 2 0 0)) := by
               unfold cvt3
               rw [if_neg (by omega), if_pos (by omega)]
             rw [ec] at e9
             simp only [ec]
             exact e9)
          | (refine ih _ _ (by omega) (by omega) (LwC.fr (L := [43]) hp1 (fr_up fr_rf (by decide)) (by decide)) ?_
             rw [wrC, ← ws1_t h1 rfl rfl]
             have e9 := (Ec.tr h4 he1).up 43 i2 x4 (cvt3 (M0 42 i2 0) (sSd (LL3 M0) x4 (M0 2 0 0)))
             have ec : cvt3 (M0 42 i2 0) (sSd (LL3 M0) x4 (M0 2 0 0)) = sSd (LL3 M0) x4 (M0 2 0 0) := by
               unfold cvt3
               rw [if_neg (by omega), if_neg (by omega)]
             rw [ec] at e9
             simp only [ec]
             exact e9)
      · refine ⟨fun c3 => ?_, fun c3 => ?_⟩
        · refine ⟨?_, ?_⟩
          · first | omega | exact ⟨h3, by omega, by omega⟩ | (exfalso; omega)
          first
            | (exfalso; omega)
            | (refine ih _ _ (by omega) (by omega) (LwC.fr (L := [43]) hp1 (fr_up fr_rf (by decide)) (by decide)) ?_
               rw [wrC, ← ws1_t h1 rfl rfl]
               have e9 := (Ec.tr h4 he1).up 43 i2 x4 (cvt3 (M0 42 i2 0) (sSd (LL3 M0) x4 (M0 2 0 0)))
               have ec : cvt3 (M0 42 i2 0) (sSd (LL3 M0) x4 (M0 2 0 0)) = i2b3 (sSd (LL3 M0) x4 (M0 2 0 0)) := by
                 unfold cvt3
                 rw [if_pos (by omega)]
               rw [ec] at e9
               simp only [ec]
               exact e9)
            | (refine ih _ _ (by omega) (by omega) (LwC.fr (L := [43]) hp1 (fr_up fr_rf (by decide)) (by decide)) ?_
               rw [wrC, ← ws1_t h1 rfl rfl]
               have e9 := (Ec.tr h4 he1).up 43 i2 x4 (cvt3 (M0 42 i2 0) (sSd (LL3 M0) x4 (M0 2 0 0)))
               have ec : cvt3 (M0 42 i2 0) (sSd (LL3 M0) x4 (M0 2 0 0)) = i2s3 (sSd (LL3 M0) x4 (M0 2 0 0)) := by
                 unfold cvt3
                 rw [if_neg (by omega), if_pos (by omega)]
               rw [ec] at e9
               simp only [ec]
               exact e9)
            | (refine ih _ _ (by omega) (by omega) (LwC.fr (L := [43]) hp1 (fr_up fr_rf (by decide)) (by decide)) ?_
               rw [wrC, ← ws1_t h1 rfl rfl]
               have e9 := (Ec.tr h4 he1).up 43 i2 x4 (cvt3 (M0 42 i2 0) (sSd (LL3 M0) x4 (M0 2 0 0)))
               have ec : cvt3 (M0 42 i2 0) (sSd (LL3 M0) x4 (M0 2 0 0)) = sSd (LL3 M0) x4 (M0 2 0 0) := by
                 unfold cvt3
                 rw [if_neg (by omega), if_neg (by omega)]
               rw [ec] at e9
               simp only [ec]
               exact e9)
        · refine ⟨?_, ?_, ?_⟩
          · first | omega | exact ⟨h3, by omega, by omega⟩ | (exfalso; omega)
          · first | omega | exact ⟨h3, by omega, by omega⟩ | (exfalso; omega)
          first
            | (exfalso; omega)
            | (refine ih _ _ (by omega) (by omega) (LwC.fr (L := [43]) hp1 (fr_up fr_rf (by decide)) (by decide)) ?_
               rw [wrC, ← ws1_t h1 rfl rfl]
               have e9 := (Ec.tr h4 he1).up 43 i2 x4 (cvt3 (M0 42 i2 0) (sSd (LL3 M0) x4 (M0 2 0 0)))
               have ec : cvt3 (M0 42 i2 0) (sSd (LL3 M0) x4 (M0 2 0 0)) = i2b3 (sSd (LL3 M0) x4 (M0 2 0 0)) := by
                 unfold cvt3
                 rw [if_pos (by omega)]
               rw [ec] at e9
               simp only [ec]
               exact e9)
            | (refine ih _ _ (by omega) (by omega) (LwC.fr (L := [43]) hp1 (fr_up fr_rf (by decide)) (by decide)) ?_
               rw [wrC, ← ws1_t h1 rfl rfl]
               have e9 := (Ec.tr h4 he1).up 43 i2 x4 (cvt3 (M0 42 i2 0) (sSd (LL3 M0) x4 (M0 2 0 0)))
               have ec : cvt3 (M0 42 i2 0) (sSd (LL3 M0) x4 (M0 2 0 0)) = i2s3 (sSd (LL3 M0) x4 (M0 2 0 0)) := by
                 unfold cvt3
                 rw [if_neg (by omega), if_pos (by omega)]
               rw [ec] at e9
               simp only [ec]
               exact e9)
            | (refine ih _ _ (by omega) (by omega) (LwC.fr (L := [43]) hp1 (fr_up fr_rf (by decide)) (by decide)) ?_
               rw [wrC, ← ws1_t h1 rfl rfl]
               have e9 := (Ec.tr h4 he1).up 43 i2 x4 (cvt3 (M0 42 i2 0) (sSd (LL3 M0) x4 (M0 2 0 0)))
               have ec : cvt3 (M0 42 i2 0) (sSd (LL3 M0) x4 (M0 2 0 0)) = sSd (LL3 M0) x4 (M0 2 0 0) := by
                 unfold cvt3
                 rw [if_neg (by omega), if_neg (by omega)]
               rw [ec] at e9
               simp only [ec]
               exact e9)
theorem lX12_write {E : E3} {Q : Q3} {M0 : M3} {x1 : Int} (hz : (0 ≤ x1 ∧ x1 < 4) ∧ (0 ≤ M0 82 0 x1 ∧ M0 82 0 x1 ≤ 40) ∧ (0 ≤ M0 44 0 0 ∧ M0 44 0 0 ≤ 399)) (hsd : ∀ kd d : Int, -1 ≤ sSd (LM3 M0) kd d ∧ sSd (LM3 M0) kd d ≤ 99) (k : ∀ (N : M3), Em (wrM M0 x1 (min (M0 82 0 x1) 20)) N → RdC N → Q (some (vI (min (M0 82 0 x1) 20))) N) : ∀ (n : Nat) (x2 : Int) (M : M3), 0 ≤ x2 → x2 + n = min (M0 82 0 x1) 20 → RdC M → Em (wrM M0 x1 x2) M → G3 E YX12_write Q 27 [(0, vR 44 0), (1, vI x1), (2, vI x2)] [] M := by
  intro n
  induction n with
  | zero =>
    intro x2 M h1 h2 h3 h4
    refine g3_rm fun hM => ?_
    have e0 : M 44 0 0 = M0 44 0 0 := by rw [h4.2 0 (by decide), wrM_r (by decide)]
    have e81 : M 81 = M0 81 := by rw [h4.1 81 (by decide), wrM_r (by decide)]
    have e82 : M 82 = M0 82 := by rw [h4.1 82 (by decide), wrM_r (by decide)]
    have eL : LM3 M = LM3 M0 := h4.L.trans (LM3_eq (wrM_r (by decide)) (by rw [wrM_r (by decide)]))
    have hs := hsd x2 (M0 44 0 0)
    refine sX12_write_27 ?_
    simp only [e0, e81, e82, eL]
    refine ⟨?_, ?_⟩
    · first | omega | exact ⟨h3, by omega, by omega⟩ | (exfalso; omega)
    refine ⟨fun c1 => ?_, fun c1 => ?_⟩
    · first
        | (exfalso; omega)
        | (rw [show x2 = min (M0 82 0 x1) 20 by omega] at h4 ⊢
           exact k M h4 h3)
    · refine ⟨?_, ?_⟩
      · first | omega | exact ⟨h3, by omega, by omega⟩ | (exfalso; omega)
      refine ⟨fun c2 => ?_, fun c2 => ?_⟩
      · first
          | (exfalso; omega)
          | (rw [show x2 = min (M0 82 0 x1) 20 by omega] at h4 ⊢
             exact k M h4 h3)
      · refine ⟨?_, ?_⟩
        · first | omega | exact ⟨h3, by omega, by omega⟩ | (exfalso; omega)
        intro N1 hN1 he1 hp1
        refine ⟨fun c3 => ?_, fun c3 => ?_⟩
        · refine ⟨fun c4 => ?_, fun c4 => ?_⟩
          · refine ⟨?_, ?_, ?_⟩
            · first | omega | exact ⟨h3, by omega, by omega⟩ | (exfalso; omega)
            · first | omega | exact ⟨h3, by omega, by omega⟩ | (exfalso; omega)
            exfalso; omega
          · refine ⟨?_, ?_⟩
            · first | omega | exact ⟨h3, by omega, by omega⟩ | (exfalso; omega)
            exfalso; omega
        · refine ⟨?_, ?_⟩
          · first | omega | exact ⟨h3, by omega, by omega⟩ | (exfalso; omega)
          exfalso; omega
  | succ n ih =>
    intro x2 M h1 h2 h3 h4
    refine g3_rm fun hM => ?_
    have e0 : M 44 0 0 = M0 44 0 0 := by rw [h4.2 0 (by decide), wrM_r (by decide)]
    have e81 : M 81 = M0 81 := by rw [h4.1 81 (by decide), wrM_r (by decide)]
    have e82 : M 82 = M0 82 := by rw [h4.1 82 (by decide), wrM_r (by decide)]
    have eL : LM3 M = LM3 M0 := h4.L.trans (LM3_eq (wrM_r (by decide)) (by rw [wrM_r (by decide)]))
    have hs := hsd x2 (M0 44 0 0)
    refine sX12_write_27 ?_
    simp only [e0, e81, e82, eL]
    refine ⟨?_, ?_⟩
    · first | omega | exact ⟨h3, by omega, by omega⟩ | (exfalso; omega)
    refine ⟨fun c1 => ?_, fun c1 => ?_⟩
    · exfalso; omega
    · refine ⟨?_, ?_⟩
      · first | omega | exact ⟨h3, by omega, by omega⟩ | (exfalso; omega)
      refine ⟨fun c2 => ?_, fun c2 => ?_⟩
      · exfalso; omega
      · refine ⟨?_, ?_⟩
        · first | omega | exact ⟨h3, by omega, by omega⟩ | (exfalso; omega)
        intro N1 hN1 he1 hp1
        refine ⟨fun c3 => ?_, fun c3 => ?_⟩
        · refine ⟨fun c4 => ?_, fun c4 => ?_⟩
          · refine ⟨?_, ?_, ?_⟩
            · first | omega | exact ⟨h3, by omega, by omega⟩ | (exfalso; omega)
            · first | omega | exact ⟨h3, by omega, by omega⟩ | (exfalso; omega)
            first
              | (exfalso; omega)
              | (refine ih _ _ (by omega) (by omega) (RdC.fr (L := [83]) hp1 (fr_up fr_rf (by decide)) (by decide)) ?_
                 rw [← wrM_s h1]
                 have e9 := (Em.tr h4 he1).up 83 0 (40 * x1 + x2) (cvt3 (M0 81 0 x1) (sSd (LM3 M0) x2 (M0 44 0 0)))
                 have ec : cvt3 (M0 81 0 x1) (sSd (LM3 M0) x2 (M0 44 0 0)) = i2b3 (sSd (LM3 M0) x2 (M0 44 0 0)) := by
                   unfold cvt3
                   rw [if_pos (by omega)]
                 rw [ec] at e9 ⊢
                 exact e9)
              | (refine ih _ _ (by omega) (by omega) (RdC.fr (L := [83]) hp1 (fr_up fr_rf (by decide)) (by decide)) ?_
                 rw [← wrM_s h1]
                 have e9 := (Em.tr h4 he1).up 83 0 (40 * x1 + x2) (cvt3 (M0 81 0 x1) (sSd (LM3 M0) x2 (M0 44 0 0)))
                 have ec : cvt3 (M0 81 0 x1) (sSd (LM3 M0) x2 (M0 44 0 0)) = i2s3 (sSd (LM3 M0) x2 (M0 44 0 0)) := by
                   unfold cvt3
                   rw [if_neg (by omega), if_pos (by omega)]
                 rw [ec] at e9 ⊢
                 exact e9)
              | (refine ih _ _ (by omega) (by omega) (RdC.fr (L := [83]) hp1 (fr_up fr_rf (by decide)) (by decide)) ?_
                 rw [← wrM_s h1]
                 have e9 := (Em.tr h4 he1).up 83 0 (40 * x1 + x2) (cvt3 (M0 81 0 x1) (sSd (LM3 M0) x2 (M0 44 0 0)))
                 have ec : cvt3 (M0 81 0 x1) (sSd (LM3 M0) x2 (M0 44 0 0)) = sSd (LM3 M0) x2 (M0 44 0 0) := by
                   unfold cvt3
                   rw [if_neg (by omega), if_neg (by omega)]
                 rw [ec] at e9 ⊢
                 exact e9)
          · refine ⟨?_, ?_⟩
            · first | omega | exact ⟨h3, by omega, by omega⟩ | (exfalso; omega)
            first
              | (exfalso; omega)
              | (refine ih _ _ (by omega) (by omega) (RdC.fr (L := [83]) hp1 (fr_up fr_rf (by decide)) (by decide)) ?_
                 rw [← wrM_s h1]
                 have e9 := (Em.tr h4 he1).up 83 0 (40 * x1 + x2) (cvt3 (M0 81 0 x1) (sSd (LM3 M0) x2 (M0 44 0 0)))
                 have ec : cvt3 (M0 81 0 x1) (sSd (LM3 M0) x2 (M0 44 0 0)) = i2b3 (sSd (LM3 M0) x2 (M0 44 0 0)) := by
                   unfold cvt3
                   rw [if_pos (by omega)]
                 rw [ec] at e9 ⊢
                 exact e9)
              | (refine ih _ _ (by omega) (by omega) (RdC.fr (L := [83]) hp1 (fr_up fr_rf (by decide)) (by decide)) ?_
                 rw [← wrM_s h1]
                 have e9 := (Em.tr h4 he1).up 83 0 (40 * x1 + x2) (cvt3 (M0 81 0 x1) (sSd (LM3 M0) x2 (M0 44 0 0)))
                 have ec : cvt3 (M0 81 0 x1) (sSd (LM3 M0) x2 (M0 44 0 0)) = i2s3 (sSd (LM3 M0) x2 (M0 44 0 0)) := by
                   unfold cvt3
                   rw [if_neg (by omega), if_pos (by omega)]
                 rw [ec] at e9 ⊢
                 exact e9)
              | (refine ih _ _ (by omega) (by omega) (RdC.fr (L := [83]) hp1 (fr_up fr_rf (by decide)) (by decide)) ?_
                 rw [← wrM_s h1]
                 have e9 := (Em.tr h4 he1).up 83 0 (40 * x1 + x2) (cvt3 (M0 81 0 x1) (sSd (LM3 M0) x2 (M0 44 0 0)))
                 have ec : cvt3 (M0 81 0 x1) (sSd (LM3 M0) x2 (M0 44 0 0)) = sSd (LM3 M0) x2 (M0 44 0 0) := by
                   unfold cvt3
                   rw [if_neg (by omega), if_neg (by omega)]
                 rw [ec] at e9 ⊢
                 exact e9)
        · refine ⟨?_, ?_⟩
          · first | omega | exact ⟨h3, by omega, by omega⟩ | (exfalso; omega)
          first
            | (exfalso; omega)
            | (refine ih _ _ (by omega) (by omega) (RdC.fr (L := [83]) hp1 (fr_up fr_rf (by decide)) (by decide)) ?_
               rw [← wrM_s h1]
               have e9 := (Em.tr h4 he1).up 83 0 (40 * x1 + x2) (cvt3 (M0 81 0 x1) (sSd (LM3 M0) x2 (M0 44 0 0)))
               have ec : cvt3 (M0 81 0 x1) (sSd (LM3 M0) x2 (M0 44 0 0)) = i2b3 (sSd (LM3 M0) x2 (M0 44 0 0)) := by
                 unfold cvt3
                 rw [if_pos (by omega)]
               rw [ec] at e9 ⊢
               exact e9)
            | (refine ih _ _ (by omega) (by omega) (RdC.fr (L := [83]) hp1 (fr_up fr_rf (by decide)) (by decide)) ?_
               rw [← wrM_s h1]
               have e9 := (Em.tr h4 he1).up 83 0 (40 * x1 + x2) (cvt3 (M0 81 0 x1) (sSd (LM3 M0) x2 (M0 44 0 0)))
               have ec : cvt3 (M0 81 0 x1) (sSd (LM3 M0) x2 (M0 44 0 0)) = i2s3 (sSd (LM3 M0) x2 (M0 44 0 0)) := by
                 unfold cvt3
                 rw [if_neg (by omega), if_pos (by omega)]
               rw [ec] at e9 ⊢
               exact e9)
            | (refine ih _ _ (by omega) (by omega) (RdC.fr (L := [83]) hp1 (fr_up fr_rf (by decide)) (by decide)) ?_
               rw [← wrM_s h1]
               have e9 := (Em.tr h4 he1).up 83 0 (40 * x1 + x2) (cvt3 (M0 81 0 x1) (sSd (LM3 M0) x2 (M0 44 0 0)))
               have ec : cvt3 (M0 81 0 x1) (sSd (LM3 M0) x2 (M0 44 0 0)) = sSd (LM3 M0) x2 (M0 44 0 0) := by
                 unfold cvt3
                 rw [if_neg (by omega), if_neg (by omega)]
               rw [ec] at e9 ⊢
               exact e9)
theorem m_write {E : E3} {Q : Q3} {M : M3} {x1 : Int} (hW : WM M) (hR : RdC M) (hx1 : -2147483648 ≤ x1 ∧ x1 ≤ 2147483647) (k1 : ¬ (0 ≤ x1 ∧ x1 ≤ 3) → Q (some (vI (-2))) M) (k2 : (0 ≤ x1 ∧ x1 ≤ 3) → M 80 0 x1 = 0 → Q (some (vI (-11))) (up3 M 44 0 58 1)) (k : (0 ≤ x1 ∧ x1 ≤ 3) → M 80 0 x1 ≠ 0 → ∀ (N : M3), Em (wrM M x1 (min (M 82 0 x1) 20)) N → RdC N → Q (some (vI (min (M 82 0 x1) 20))) N) : C3 E YX12_write [vR 44 0, vI x1] M Q := by
  refine c3_rm fun hM => ?_
  have hd := hW.1.1
  have v1 : (0 ≤ x1 ∧ x1 ≤ 3) → M 80 0 x1 ≠ 0 → 0 ≤ M 82 0 x1 ∧ M 82 0 x1 ≤ 40 := fun a b => by
    rcases hW.2.2.1 x1 a.1 (by omega) with w | ⟨_, _, w⟩
    · omega
    · exact w
  refine sX12_write ?_
  refine ⟨?_, ?_⟩
  · omega
  refine ⟨fun c1 => ?_, fun c1 => ?_⟩
  · refine ⟨?_, ?_⟩
    · omega
    refine ⟨fun c2 => ?_, fun c2 => ?_⟩
    · first
      | (exfalso; omega)
      | (have v2 := v1 (by omega) (by omega)
         exact lX12_write ⟨by omega, v2, hd⟩ hR.sd (k (by omega) (by omega)) (min (M 82 0 x1) 20).toNat 0 M (by omega) (by omega) hR (by rw [wrM_0]; exact Em.rf))
    · first | exact k1 (by omega) | exact k2 (by omega) (by omega) | (exfalso; omega)
  · first | exact k1 (by omega) | exact k2 (by omega) (by omega) | (exfalso; omega)
theorem inv_write {M N K : M3} {s n : Int} (hI : Inv M) (hs : 0 ≤ s ∧ s < 4) (hn : 0 ≤ n ∧ n ≤ 40) (h1 : M 42 s 0 = M 81 0 s) (e : Ec (wrC M s n) N) (hl : LwC N) (e2 : Em (wrM N s n) K) (hr : RdC K) : Inv K := by
  have hm : Hm M N := fun q hq => (e.hm q hq).trans (ws1_r (by omega))
  have g : ∀ q : Nat, q ∉ ([3, 8, 9, 43, 44, 53, 54, 55, 83] : List Nat) → K q = M q := fun q hq => (e2.1 q (fun z => hq ((show ∀ y ∈ ([44, 53, 54, 55] : List Nat), y ∈ ([3, 8, 9, 43, 44, 53, 54, 55, 83] : List Nat) by decide) q z))).trans ((wrM_r fun z => hq (by rw [z]; decide)).trans ((e.1 q (fun z => hq ((show ∀ y ∈ ([3, 8, 9] : List Nat), y ∈ ([3, 8, 9, 43, 44, 53, 54, 55, 83] : List Nat) by decide) q z))).trans (ws1_r fun z => hq (by rw [z]; decide))))
  have g44 : ∀ j : Int, j ∉ ([11, 12, 13, 17] : List Int) → K 44 0 j = M 44 0 j := fun j hj => by rw [e2.2 j hj, wrM_r (by decide), hm 44 (by decide)]
  have g3 : ∀ j : Int, j ∉ ([10] : List Int) → K 3 0 j = M 3 0 j := fun j hj => by rw [e2.1 3 (by decide), wrM_r (by decide), e.2 j hj, wrC, ws1_r (by decide)]
  have hC : LwC K := LwC.k (fun q hq => (e2.1 q fun z => by
    have := (show ∀ y ∈ ([44, 53, 54, 55] : List Nat), 44 ≤ y by decide) q z
    omega).trans (wrM_r (by omega))) hl
  have k83 : ∀ j : Int, K 83 0 j = if 40 * s ≤ j ∧ j < 40 * s + n then cvt3 (M 81 0 s) (sSd (LM3 M) (j - 40 * s) (M 44 0 0)) else M 83 0 j := fun j => by
    rw [e2.1 83 (by decide), ← hm 81 (by decide), ← hm 44 (by decide), ← LM3_q hm, ← hm 83 (by decide)]
    unfold wrM
    by_cases z : 40 * s ≤ j ∧ j < 40 * s + n
    · rw [if_pos ⟨rfl, rfl, z⟩, if_pos z]
    · rw [if_neg (fun y => z y.2.2), if_neg z]
  have k43 : ∀ i j : Int, K 43 i j = if i = s ∧ 0 ≤ j ∧ j < n then cvt3 (M 42 s 0) (sSd (LL3 M) j (M 2 0 0)) else M 43 i j := fun i j => by
    rw [e2.1 43 (by decide), wrM_r (by decide), e.1 43 (by decide)]
    unfold wrC ws1
    by_cases z : i = s ∧ 0 ≤ j ∧ j < n
    · rw [if_pos z, if_pos ⟨rfl, z.1, z.2, rfl⟩]
    · rw [if_neg z, if_neg fun y => z ⟨y.2.1, y.2.2.1⟩]
  have hS : iSht K := fun t a b => by
    have w := hI.1.1.2.2.2.2.2.2.2.2 t a b
    unfold iS at w ⊢
    rw [g 42 (by decide), g 80 (by decide), g 81 (by decide), g 82 (by decide)]
    rcases w with w | ⟨w1, w2, w3, w4, w5, w6⟩
    · exact Or.inl w
    · refine Or.inr ⟨w1, w2, w3, w4, w5, fun i c d => ?_⟩
      rw [k43, k83]
      by_cases z : t = s ∧ 0 ≤ i ∧ i < n
      · rw [if_pos z, if_pos (by omega), h1, hI.1.1.L, hI.1.1.1.1, z.1, show 40 * s + i - 40 * s = i by omega]
      · rw [if_neg z, if_neg (by omega)]
        exact w6 i c d
  clear k43 k83
  exact ⟨⟨⟨(iBas_of (by first | exact g _ (by decide) | rw [g _ (by decide)] | exact g44 _ (by decide) | exact g3 _ (by decide)) (by first | exact g _ (by decide) | rw [g _ (by decide)] | exact g44 _ (by decide) | exact g3 _ (by decide)) (by first | exact g _ (by decide) | rw [g _ (by decide)] | exact g44 _ (by decide) | exact g3 _ (by decide)) (by first | exact g _ (by decide) | rw [g _ (by decide)] | exact g44 _ (by decide) | exact g3 _ (by decide)) (by first | exact g _ (by decide) | rw [g _ (by decide)] | exact g44 _ (by decide) | exact g3 _ (by decide)) (by first | exact g _ (by decide) | rw [g _ (by decide)] | exact g44 _ (by decide) | exact g3 _ (by decide)) hI.1.1.1), (iLaw_of (by first | exact g _ (by decide) | rw [g _ (by decide)] | exact g44 _ (by decide) | exact g3 _ (by decide)) (by first | exact g _ (by decide) | rw [g _ (by decide)] | exact g44 _ (by decide) | exact g3 _ (by decide)) (by first | exact g _ (by decide) | rw [g _ (by decide)] | exact g44 _ (by decide) | exact g3 _ (by decide)) (by first | exact g _ (by decide) | rw [g _ (by decide)] | exact g44 _ (by decide) | exact g3 _ (by decide)) hI.1.1.2.1), (iCty_of (by first | exact g _ (by decide) | rw [g _ (by decide)] | exact g44 _ (by decide) | exact g3 _ (by decide)) (by first | exact g _ (by decide) | rw [g _ (by decide)] | exact g44 _ (by decide) | exact g3 _ (by decide)) (by first | exact g _ (by decide) | rw [g _ (by decide)] | exact g44 _ (by decide) | exact g3 _ (by decide)) (by first | exact g _ (by decide) | rw [g _ (by decide)] | exact g44 _ (by decide) | exact g3 _ (by decide)) (by first | exact g _ (by decide) | rw [g _ (by decide)] | exact g44 _ (by decide) | exact g3 _ (by decide)) (by first | exact g _ (by decide) | rw [g _ (by decide)] | exact g44 _ (by decide) | exact g3 _ (by decide)) (by first | exact g _ (by decide) | rw [g _ (by decide)] | exact g44 _ (by decide) | exact g3 _ (by decide)) (by first | exact g _ (by decide) | rw [g _ (by decide)] | exact g44 _ (by decide) | exact g3 _ (by decide)) (by first | exact g _ (by decide) | rw [g _ (by decide)] | exact g44 _ (by decide) | exact g3 _ (by decide)) (by first | exact g _ (by decide) | rw [g _ (by decide)] | exact g44 _ (by decide) | exact g3 _ (by decide)) hI.1.1.2.2.1), (iFrm_of (by first | exact g _ (by decide) | rw [g _ (by decide)] | exact g44 _ (by decide) | exact g3 _ (by decide)) (by first | exact g _ (by decide) | rw [g _ (by decide)] | exact g44 _ (by decide) | exact g3 _ (by decide)) (by first | exact g _ (by decide) | rw [g _ (by decide)] | exact g44 _ (by decide) | exact g3 _ (by decide)) (by first | exact g _ (by decide) | rw [g _ (by decide)] | exact g44 _ (by decide) | exact g3 _ (by decide)) (fun f j hj => by first | exact g _ (by decide) | rw [g _ (by decide)] | exact g44 _ (by decide) | exact g3 _ (by decide)) (by first | exact g _ (by decide) | rw [g _ (by decide)] | exact g44 _ (by decide) | exact g3 _ (by decide)) (by first | exact g _ (by decide) | rw [g _ (by decide)] | exact g44 _ (by decide) | exact g3 _ (by decide)) (by first | exact g _ (by decide) | rw [g _ (by decide)] | exact g44 _ (by decide) | exact g3 _ (by decide)) (by first | exact g _ (by decide) | rw [g _ (by decide)] | exact g44 _ (by decide) | exact g3 _ (by decide)) (by first | exact g _ (by decide) | rw [g _ (by decide)] | exact g44 _ (by decide) | exact g3 _ (by decide)) (by first | exact g _ (by decide) | rw [g _ (by decide)] | exact g44 _ (by decide) | exact g3 _ (by decide)) (by first | exact g _ (by decide) | rw [g _ (by decide)] | exact g44 _ (by decide) | exact g3 _ (by decide)) (by first | exact g _ (by decide) | rw [g _ (by decide)] | exact g44 _ (by decide) | exact g3 _ (by decide)) (by first | exact g _ (by decide) | rw [g _ (by decide)] | exact g44 _ (by decide) | exact g3 _ (by decide)) (by first | exact g _ (by decide) | rw [g _ (by decide)] | exact g44 _ (by decide) | exact g3 _ (by decide)) hI.1.1.2.2.2.1), (iOrd_of (by first | exact g _ (by decide) | rw [g _ (by decide)] | exact g44 _ (by decide) | exact g3 _ (by decide)) (by first | exact g _ (by decide) | rw [g _ (by decide)] | exact g44 _ (by decide) | exact g3 _ (by decide)) hI.1.1.2.2.2.2.1), (iLin_of (by first | exact g _ (by decide) | rw [g _ (by decide)] | exact g44 _ (by decide) | exact g3 _ (by decide)) (by first | exact g _ (by decide) | rw [g _ (by decide)] | exact g44 _ (by decide) | exact g3 _ (by decide)) (by first | exact g _ (by decide) | rw [g _ (by decide)] | exact g44 _ (by decide) | exact g3 _ (by decide)) (by first | exact g _ (by decide) | rw [g _ (by decide)] | exact g44 _ (by decide) | exact g3 _ (by decide)) (by first | exact g _ (by decide) | rw [g _ (by decide)] | exact g44 _ (by decide) | exact g3 _ (by decide)) (by first | exact g _ (by decide) | rw [g _ (by decide)] | exact g44 _ (by decide) | exact g3 _ (by decide)) (by first | exact g _ (by decide) | rw [g _ (by decide)] | exact g44 _ (by decide) | exact g3 _ (by decide)) (by first | exact g _ (by decide) | rw [g _ (by decide)] | exact g44 _ (by decide) | exact g3 _ (by decide)) (by first | exact g _ (by decide) | rw [g _ (by decide)] | exact g44 _ (by decide) | exact g3 _ (by decide)) (by first | exact g _ (by decide) | rw [g _ (by decide)] | exact g44 _ (by decide) | exact g3 _ (by decide)) (by first | exact g _ (by decide) | rw [g _ (by decide)] | exact g44 _ (by decide) | exact g3 _ (by decide)) (by first | exact g _ (by decide) | rw [g _ (by decide)] | exact g44 _ (by decide) | exact g3 _ (by decide)) (by first | exact g _ (by decide) | rw [g _ (by decide)] | exact g44 _ (by decide) | exact g3 _ (by decide)) (by first | exact g _ (by decide) | rw [g _ (by decide)] | exact g44 _ (by decide) | exact g3 _ (by decide)) (by first | exact g _ (by decide) | rw [g _ (by decide)] | exact g44 _ (by decide) | exact g3 _ (by decide)) (by first | exact g _ (by decide) | rw [g _ (by decide)] | exact g44 _ (by decide) | exact g3 _ (by decide)) (by first | exact g _ (by decide) | rw [g _ (by decide)] | exact g44 _ (by decide) | exact g3 _ (by decide)) hI.1.1.2.2.2.2.2.1), (iLst_of (by first | exact g _ (by decide) | rw [g _ (by decide)] | exact g44 _ (by decide) | exact g3 _ (by decide)) (by first | exact g _ (by decide) | rw [g _ (by decide)] | exact g44 _ (by decide) | exact g3 _ (by decide)) (by first | exact g _ (by decide) | rw [g _ (by decide)] | exact g44 _ (by decide) | exact g3 _ (by decide)) (by first | exact g _ (by decide) | rw [g _ (by decide)] | exact g44 _ (by decide) | exact g3 _ (by decide)) (by first | exact g _ (by decide) | rw [g _ (by decide)] | exact g44 _ (by decide) | exact g3 _ (by decide)) (by first | exact g _ (by decide) | rw [g _ (by decide)] | exact g44 _ (by decide) | exact g3 _ (by decide)) (by first | exact g _ (by decide) | rw [g _ (by decide)] | exact g44 _ (by decide) | exact g3 _ (by decide)) hI.1.1.2.2.2.2.2.2.1), (iSum_of (by first | exact g _ (by decide) | rw [g _ (by decide)] | exact g44 _ (by decide) | exact g3 _ (by decide)) (by first | exact g _ (by decide) | rw [g _ (by decide)] | exact g44 _ (by decide) | exact g3 _ (by decide)) (by first | exact g _ (by decide) | rw [g _ (by decide)] | exact g44 _ (by decide) | exact g3 _ (by decide)) (by first | exact g _ (by decide) | rw [g _ (by decide)] | exact g44 _ (by decide) | exact g3 _ (by decide)) (by first | exact g _ (by decide) | rw [g _ (by decide)] | exact g44 _ (by decide) | exact g3 _ (by decide)) (by first | exact g _ (by decide) | rw [g _ (by decide)] | exact g44 _ (by decide) | exact g3 _ (by decide)) (by first | exact g _ (by decide) | rw [g _ (by decide)] | exact g44 _ (by decide) | exact g3 _ (by decide)) (by first | exact g _ (by decide) | rw [g _ (by decide)] | exact g44 _ (by decide) | exact g3 _ (by decide)) (by first | exact g _ (by decide) | rw [g _ (by decide)] | exact g44 _ (by decide) | exact g3 _ (by decide)) hI.1.1.2.2.2.2.2.2.2.1), hS⟩, (iW_of (by first | exact g _ (by decide) | rw [g _ (by decide)] | exact g44 _ (by decide) | exact g3 _ (by decide)) (by first | exact g _ (by decide) | rw [g _ (by decide)] | exact g44 _ (by decide) | exact g3 _ (by decide)) (by first | exact g _ (by decide) | rw [g _ (by decide)] | exact g44 _ (by decide) | exact g3 _ (by decide)) (by first | exact g _ (by decide) | rw [g _ (by decide)] | exact g44 _ (by decide) | exact g3 _ (by decide)) (by first | exact g _ (by decide) | rw [g _ (by decide)] | exact g44 _ (by decide) | exact g3 _ (by decide)) (by first | exact g _ (by decide) | rw [g _ (by decide)] | exact g44 _ (by decide) | exact g3 _ (by decide)) (by first | exact g _ (by decide) | rw [g _ (by decide)] | exact g44 _ (by decide) | exact g3 _ (by decide)) (by first | exact g _ (by decide) | rw [g _ (by decide)] | exact g44 _ (by decide) | exact g3 _ (by decide)) (by first | exact g _ (by decide) | rw [g _ (by decide)] | exact g44 _ (by decide) | exact g3 _ (by decide)) hI.1.2)⟩, hC, hr⟩
theorem p_write {E : E3} {M : M3} {x1 : Int} (hI : Inv M) (hx1 : -2147483648 ≤ x1 ∧ x1 ≤ 2147483647) : C3 E YX11_write [vR 0 0, vI x1] M (P2 E YX12_write [vR 44 0, vI x1]) := by
  refine c3_rm fun hM => ?_
  have hb := hI.1.1.1.1
  have hd := hI.1.1.1.2.2.1
  have hW := hI.1.1.wm
  by_cases hv : 0 ≤ x1 ∧ x1 ≤ 3
  · have hs : (M 80 0 x1 = 0 ∧ M 42 x1 0 = -1) ∨ (M 80 0 x1 = 1 ∧ M 42 x1 0 ≠ -1 ∧ M 42 x1 0 = M 81 0 x1 ∧ M 42 x1 1 = M 82 0 x1 ∧ (0 ≤ M 82 0 x1 ∧ M 82 0 x1 ≤ 40)) := by
      rcases hI.1.1.2.2.2.2.2.2.2.2 x1 hv.1 (by omega) with w | ⟨w1, w2, w3, w4, w5, w6⟩
      · exact Or.inl w
      · exact Or.inr ⟨w1, by omega, w2, w3, w5⟩
    have hsd : ∀ kd d : Int, -1 ≤ sSd (LL3 M) kd d ∧ sSd (LL3 M) kd d ≤ 99 := by
      rw [hI.1.1.L]
      exact hI.2.2.sd
    refine sX11_write ?_
    refine ⟨?_, ?_⟩
    · omega
    refine ⟨fun c1 => ?_, fun c1 => ?_⟩
    · refine ⟨?_, ?_⟩
      · omega
      refine ⟨fun c2 => ?_, fun c2 => ?_⟩
      · first
        | (exfalso; omega)
        | (refine lX11_write (by omega) hsd (fun N e l => ?_) (min (M 42 x1 1) 20).toNat 0 M (by omega) (by omega) hI.2.1 (by rw [wrC, ws1_0]; exact Ec.rf)
           have hm : Hm M N := fun q hq => (e.hm q hq).trans (ws1_r (by omega))
           have e82 : M 42 x1 1 = M 82 0 x1 := by omega
           rw [e82] at e ⊢
           refine p2I (m_write (WM_q hm hW) (RdC.k hm hI.2.2) hx1 (fun z => ?_) (fun z y => ?_) (fun z y K e2 r => r2I (svI (by rw [hm 82 (by decide)])) ?_))
           · exfalso; omega
           · rw [hm 80 (by decide)] at y
             exfalso; omega
           · rw [hm 82 (by decide)] at e2
             exact inv_write hI (by omega) (by omega) (by omega) e l e2 r)
      · first
        | (exfalso; omega)
        | (have hm : Hm M (up3 M 0 0 9 1) := Hm.rf.up (by decide)
           refine p2I (m_write (WM_q hm hW) (RdC.k hm hI.2.2) hx1 (fun z => ?_) (fun z _ => r2I rfl (iErr hI 1)) (fun z y => ?_))
           · exfalso; omega
           · rw [hm 80 (by decide)] at y
             exfalso; omega)
    · first
      | (exfalso; omega)
      | (have hm : Hm M (up3 M 0 0 9 1) := Hm.rf.up (by decide)
         refine p2I (m_write (WM_q hm hW) (RdC.k hm hI.2.2) hx1 (fun z => ?_) (fun z _ => r2I rfl (iErr hI 1)) (fun z y => ?_))
         · exfalso; omega
         · rw [hm 80 (by decide)] at y
           exfalso; omega)
  · skip
    refine sX11_write ?_
    refine ⟨?_, ?_⟩
    · first | omega | (exfalso; omega)
    refine ⟨fun c1 => ?_, fun c1 => ?_⟩
    · refine ⟨?_, ?_⟩
      · first | omega | (exfalso; omega)
      refine ⟨fun c2 => ?_, fun c2 => ?_⟩
      · exfalso; omega
      · first
        | (exfalso; omega)
        | exact p2I (m_write hW hI.2.2 hx1 (fun _ => r2I rfl hI) (fun z => absurd z hv) (fun z => absurd z hv))
    · first
      | (exfalso; omega)
      | exact p2I (m_write hW hI.2.2 hx1 (fun _ => r2I rfl hI) (fun z => absurd z hv) (fun z => absurd z hv))
