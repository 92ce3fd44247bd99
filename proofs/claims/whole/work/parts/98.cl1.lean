/-! CLASS: lessons -/
def tcC (M : M3) (b x : Int) : M3 := ws2 M 13 2 x (fun p => decide (tcP M b p)) (fun p => min 20 (M 47 0 p + 2))
theorem lX5_give {E : E3} {Q : Q3} {M0 : M3} {x1 : Int} (hI : IB M0) (hx : 0 ≤ x1 ∧ x1 ≤ 5) (k : ∀ (N : M3), RM3 N → Ec (tcC M0 x1 (M0 44 0 1)) N → LwC N → Q (some (vI (mTch M0 x1))) N) : ∀ (n : Nat) (x3 x2 : Int) (M : M3), 0 ≤ x3 → x3 + n = M0 44 0 1 → LwC M → Ec (tcC M0 x1 x3) M → x2 = cn3 x3 (fun p => decide (tcP M0 x1 p)) → G3 E YX5_give Q 4 [(0, vR 26 0), (1, vI x1), (2, vI x2), (3, vI x3)] [] M := by
  intro n
  induction n with
  | zero =>
    intro x3 x2 M h1 h2 h3 h4 h5
    refine g3_rm fun hM => ?_
    have hn := hI.2.2.1.2.1
    have hd := hI.1.2.2.1
    have e10 : M 10 0 0 = M0 44 0 1 := by rw [h4.1 10 (by decide), tcC, ws2_r (by decide)]; exact hI.2.2.1.1
    have ej : ∀ j : Int, j ≠ 2 → M 13 x3 j = M0 13 x3 j := fun j hj => by rw [h4.1 13 (by decide), tcC, ws2_j hj]
    have e0 := ej 0 (by decide)
    have e1 := ej 1 (by decide)
    have e5 := ej 5 (by decide)
    have e2 : M 13 x3 2 = M0 13 x3 2 := by rw [h4.1 13 (by decide), tcC, ws2_out (by omega)]
    have eD : M 2 0 0 = M0 44 0 0 := by rw [h4.1 2 (by decide), tcC, ws2_r (by decide)]; exact hI.1.1
    have eL : LL3 M = LM3 M0 := (h4.L.trans (LL3_eq (by rw [tcC, ws2_r (by decide)]) (by rw [tcC, ws2_r (by decide)]))).trans hI.L
    refine sX5_give_4 ?_
    simp only [e10, e0, e1, e5, e2, eD, eL]
    refine ⟨?_, ?_⟩
    · first | omega | exact ⟨h3, by omega, hd⟩ | (exfalso; omega)
    refine ⟨fun c1 => ?_, fun c1 => ?_⟩
    · first
        | (exfalso; omega)
        | (rw [show x3 = M0 44 0 1 by omega] at h4 h5
           rw [h5]
           exact k M hM h4 h3)
    · refine ⟨?_, ?_, ?_, ?_⟩
      · first | omega | exact ⟨h3, by omega, hd⟩ | (exfalso; omega)
      · first | omega | exact ⟨h3, by omega, hd⟩ | (exfalso; omega)
      · first | omega | exact ⟨h3, by omega, hd⟩ | (exfalso; omega)
      refine ⟨fun c2 => ?_, fun c2 => ?_⟩
      · exfalso; omega
      · refine ⟨fun c3 => ?_, fun c3 => ?_⟩
        · exfalso; omega
        · refine ⟨?_, ?_⟩
          · first | omega | exact ⟨h3, by omega, hd⟩ | (exfalso; omega)
          intro N1 hN1 he1 hp1
          refine ⟨fun c4 => ?_, fun c4 => ?_⟩
          · exfalso; omega
          · refine ⟨?_, ?_⟩
            · first | omega | exact ⟨h3, by omega, hd⟩ | (exfalso; omega)
            refine ⟨fun c5 => ?_, fun c5 => ?_⟩
            · exfalso; omega
            · exfalso; omega
  | succ n ih =>
    intro x3 x2 M h1 h2 h3 h4 h5
    refine g3_rm fun hM => ?_
    have hn := hI.2.2.1.2.1
    have hd := hI.1.2.2.1
    have e10 : M 10 0 0 = M0 44 0 1 := by rw [h4.1 10 (by decide), tcC, ws2_r (by decide)]; exact hI.2.2.1.1
    have ej : ∀ j : Int, j ≠ 2 → M 13 x3 j = M0 13 x3 j := fun j hj => by rw [h4.1 13 (by decide), tcC, ws2_j hj]
    have e0 := ej 0 (by decide)
    have e1 := ej 1 (by decide)
    have e5 := ej 5 (by decide)
    have e2 : M 13 x3 2 = M0 13 x3 2 := by rw [h4.1 13 (by decide), tcC, ws2_out (by omega)]
    have eD : M 2 0 0 = M0 44 0 0 := by rw [h4.1 2 (by decide), tcC, ws2_r (by decide)]; exact hI.1.1
    have eL : LL3 M = LM3 M0 := (h4.L.trans (LL3_eq (by rw [tcC, ws2_r (by decide)]) (by rw [tcC, ws2_r (by decide)]))).trans hI.L
    have hp := hI.p h1 (show x3 < 48 by have := hI.2.2.1.2.1; omega)
    have hp1' := hp.1
    have hp2 := hp.2.1
    have hp4 := hp.2.2.2.1
    have hp5 := hp.2.2.2.2.2.1
    have hp3 := hp.2.2.1
    have ha := and3_1 (shr3 (sSd (LM3 M0) 21 (M0 44 0 0)) (M0 46 0 x3))
    obtain ⟨p1, p2, p3, p4, p5, p6⟩ := hp1'

    refine sX5_give_4 ?_
    simp only [e10, e0, e1, e5, e2, eD, eL]
    rw [p1]
    refine ⟨?_, ?_⟩
    · first | omega | exact ⟨h3, by omega, hd⟩ | (exfalso; omega)
    refine ⟨fun c1 => ?_, fun c1 => ?_⟩
    · exfalso; omega
    · refine ⟨?_, ?_, ?_, ?_⟩
      · first | omega | exact ⟨h3, by omega, hd⟩ | (exfalso; omega)
      · first | omega | exact ⟨h3, by omega, hd⟩ | (exfalso; omega)
      · first | omega | exact ⟨h3, by omega, hd⟩ | (exfalso; omega)
      refine ⟨fun c2 => ?_, fun c2 => ?_⟩
      · first
          | (have hP : tcP M0 x1 x3 := ⟨by omega, by omega, by show and3 _ 1 = 1; omega, by omega⟩
             refine ih _ _ _ (by omega) (by omega) (hp1.up (by decide)) ?_ (by rw [cn3_t h1 (decide_eq_true hP), h5])
             rw [tcC, ← ws2_t h1 (decide_eq_true hP) rfl]
             have e9 := (Ec.tr h4 he1).up 13 x3 2 (min 20 (M0 47 0 x3 + 2))
             rw [show min 20 (M0 13 x3 2 + 2 * 1) = min 20 (M0 47 0 x3 + 2) by omega]
             exact e9)
          | (have hP : ¬ tcP M0 x1 x3 := fun z => by
               obtain ⟨z1, z2, z3, z4⟩ := z
               have z3' : and3 (shr3 (sSd (LM3 M0) 21 (M0 44 0 0)) (M0 46 0 x3)) 1 = 1 := z3
               omega
             refine ih _ _ _ (by omega) (by omega) (by first | exact hp1 | exact h3) ?_ (by rw [cn3_f h1 (decide_eq_false hP), h5])
             rw [tcC, ws2_f (decide_eq_false hP)]
             first | exact Ec.tr h4 he1 | exact h4)
          | (exfalso; omega)
      · refine ⟨fun c3 => ?_, fun c3 => ?_⟩
        · first
            | (have hP : tcP M0 x1 x3 := ⟨by omega, by omega, by show and3 _ 1 = 1; omega, by omega⟩
               refine ih _ _ _ (by omega) (by omega) (hp1.up (by decide)) ?_ (by rw [cn3_t h1 (decide_eq_true hP), h5])
               rw [tcC, ← ws2_t h1 (decide_eq_true hP) rfl]
               have e9 := (Ec.tr h4 he1).up 13 x3 2 (min 20 (M0 47 0 x3 + 2))
               rw [show min 20 (M0 13 x3 2 + 2 * 1) = min 20 (M0 47 0 x3 + 2) by omega]
               exact e9)
            | (have hP : ¬ tcP M0 x1 x3 := fun z => by
                 obtain ⟨z1, z2, z3, z4⟩ := z
                 have z3' : and3 (shr3 (sSd (LM3 M0) 21 (M0 44 0 0)) (M0 46 0 x3)) 1 = 1 := z3
                 omega
               refine ih _ _ _ (by omega) (by omega) (by first | exact hp1 | exact h3) ?_ (by rw [cn3_f h1 (decide_eq_false hP), h5])
               rw [tcC, ws2_f (decide_eq_false hP)]
               first | exact Ec.tr h4 he1 | exact h4)
            | (exfalso; omega)
        · refine ⟨?_, ?_⟩
          · first | omega | exact ⟨h3, by omega, hd⟩ | (exfalso; omega)
          intro N1 hN1 he1 hp1
          refine ⟨fun c4 => ?_, fun c4 => ?_⟩
          · first
              | (have hP : tcP M0 x1 x3 := ⟨by omega, by omega, by show and3 _ 1 = 1; omega, by omega⟩
                 refine ih _ _ _ (by omega) (by omega) (hp1.up (by decide)) ?_ (by rw [cn3_t h1 (decide_eq_true hP), h5])
                 rw [tcC, ← ws2_t h1 (decide_eq_true hP) rfl]
                 have e9 := (Ec.tr h4 he1).up 13 x3 2 (min 20 (M0 47 0 x3 + 2))
                 rw [show min 20 (M0 13 x3 2 + 2 * 1) = min 20 (M0 47 0 x3 + 2) by omega]
                 exact e9)
              | (have hP : ¬ tcP M0 x1 x3 := fun z => by
                   obtain ⟨z1, z2, z3, z4⟩ := z
                   have z3' : and3 (shr3 (sSd (LM3 M0) 21 (M0 44 0 0)) (M0 46 0 x3)) 1 = 1 := z3
                   omega
                 refine ih _ _ _ (by omega) (by omega) (by first | exact hp1 | exact h3) ?_ (by rw [cn3_f h1 (decide_eq_false hP), h5])
                 rw [tcC, ws2_f (decide_eq_false hP)]
                 first | exact Ec.tr h4 he1 | exact h4)
              | (exfalso; omega)
          · refine ⟨?_, ?_⟩
            · first | omega | exact ⟨h3, by omega, hd⟩ | (exfalso; omega)
            refine ⟨fun c5 => ?_, fun c5 => ?_⟩
            · first
                | (have hP : tcP M0 x1 x3 := ⟨by omega, by omega, by show and3 _ 1 = 1; omega, by omega⟩
                   refine ih _ _ _ (by omega) (by omega) (hp1.up (by decide)) ?_ (by rw [cn3_t h1 (decide_eq_true hP), h5])
                   rw [tcC, ← ws2_t h1 (decide_eq_true hP) rfl]
                   have e9 := (Ec.tr h4 he1).up 13 x3 2 (min 20 (M0 47 0 x3 + 2))
                   rw [show min 20 (M0 13 x3 2 + 2 * 1) = min 20 (M0 47 0 x3 + 2) by omega]
                   exact e9)
                | (have hP : ¬ tcP M0 x1 x3 := fun z => by
                     obtain ⟨z1, z2, z3, z4⟩ := z
                     have z3' : and3 (shr3 (sSd (LM3 M0) 21 (M0 44 0 0)) (M0 46 0 x3)) 1 = 1 := z3
                     omega
                   refine ih _ _ _ (by omega) (by omega) (by first | exact hp1 | exact h3) ?_ (by rw [cn3_f h1 (decide_eq_false hP), h5])
                   rw [tcC, ws2_f (decide_eq_false hP)]
                   first | exact Ec.tr h4 he1 | exact h4)
                | (exfalso; omega)
            · first
                | (have hP : tcP M0 x1 x3 := ⟨by omega, by omega, by show and3 _ 1 = 1; omega, by omega⟩
                   refine ih _ _ _ (by omega) (by omega) (hp1.up (by decide)) ?_ (by rw [cn3_t h1 (decide_eq_true hP), h5])
                   rw [tcC, ← ws2_t h1 (decide_eq_true hP) rfl]
                   have e9 := (Ec.tr h4 he1).up 13 x3 2 (min 20 (M0 47 0 x3 + 2))
                   rw [show min 20 (M0 13 x3 2 + 2 * 1) = min 20 (M0 47 0 x3 + 2) by omega]
                   exact e9)
                | (have hP : ¬ tcP M0 x1 x3 := fun z => by
                     obtain ⟨z1, z2, z3, z4⟩ := z
                     have z3' : and3 (shr3 (sSd (LM3 M0) 21 (M0 44 0 0)) (M0 46 0 x3)) 1 = 1 := z3
                     omega
                   refine ih _ _ _ (by omega) (by omega) (by first | exact hp1 | exact h3) ?_ (by rw [cn3_f h1 (decide_eq_false hP), h5])
                   rw [tcC, ws2_f (decide_eq_false hP)]
                   first | exact Ec.tr h4 he1 | exact h4)
                | (exfalso; omega)
theorem kX5_give {E : E3} {Q : Q3} {M : M3} {x1 : Int} (h : LwC M ∧ IB M ∧ 0 ≤ x1 ∧ x1 ≤ 5) (k : ∀ (N : M3), RM3 N → Ec (tcC M x1 (M 44 0 1)) N → LwC N → Q (some (vI (mTch M x1))) N) : C3 E YX5_give [vR 26 0, vI x1] M Q :=
  sX5_give (lX5_give h.2.1 h.2.2 k (M 44 0 1).toNat 0 0 M (by omega) (by have := h.2.1.2.2.1.2.1; omega) h.1 (by rw [tcC, ws2_0]; exact Ec.rf) rfl)
theorem lX5_readyIn {E : E3} {Q : Q3} {M0 : M3} {x1 : Int} (hI : IB M0) (hx : -1 ≤ x1 ∧ x1 ≤ 5) (k : ∀ (N : M3), RM3 N → Ec M0 N → LwC N → Q (some (vI (mRdy M0 x1 0))) N) : ∀ (n : Nat) (x3 x2 : Int) (M : M3), 0 ≤ x3 → x3 + n = M0 44 0 1 → LwC M → Ec (M0) M → x2 = cn3 x3 (fun p => decide ((M0 50 0 p = 0 ∨ M0 50 0 p = 2) ∧ (x1 = -1 ∨ M0 45 0 p = x1) ∧ alw3 (LM3 M0) (M0 46 0 p) (M0 44 0 0) ∧ sSd (LM3 M0) 22 (M0 44 0 0) ≤ min 20 (M0 47 0 p + 2 * 0))) → G3 E YX5_readyIn Q 4 [(0, vR 26 0), (1, vI x1), (2, vI x2), (3, vI x3)] [] M := by
  intro n
  induction n with
  | zero =>
    intro x3 x2 M h1 h2 h3 h4 h5
    refine g3_rm fun hM => ?_
    have hn := hI.2.2.1.2.1
    have hd := hI.1.2.2.1
    have e10 : M 10 0 0 = M0 44 0 1 := by rw [h4.1 10 (by decide)]; exact hI.2.2.1.1
    have e13 : M 13 = M0 13 := h4.1 13 (by decide)
    have eD : M 2 0 0 = M0 44 0 0 := by rw [h4.1 2 (by decide)]; exact hI.1.1
    have eL : LL3 M = LM3 M0 := h4.L.trans hI.L
    have s22 := h3.sd 22 (M0 44 0 0)
    rw [eL] at s22
    refine sX5_readyIn_4 ?_
    simp only [e10, e13, eD, eL]
    refine ⟨?_, ?_⟩
    · first | omega | exact ⟨h3, by omega, hd⟩ | exact ⟨hp1, by omega, hd⟩ | (exfalso; omega)
    refine ⟨fun c1 => ?_, fun c1 => ?_⟩
    · first
        | (exfalso; omega)
        | (rw [h5, show x3 = M0 44 0 1 by omega]; exact k M hM h4 h3)
    · refine ⟨?_, ?_⟩
      · first | omega | exact ⟨h3, by omega, hd⟩ | exact ⟨hp1, by omega, hd⟩ | (exfalso; omega)
      refine ⟨fun c2 => ?_, fun c2 => ?_⟩
      · exfalso; omega
      · refine ⟨?_, ?_⟩
        · first | omega | exact ⟨h3, by omega, hd⟩ | exact ⟨hp1, by omega, hd⟩ | (exfalso; omega)
        refine ⟨fun c3 => ?_, fun c3 => ?_⟩
        · refine ⟨?_, ?_⟩
          · first | omega | exact ⟨h3, by omega, hd⟩ | exact ⟨hp1, by omega, hd⟩ | (exfalso; omega)
          intro N1 hN1 he1 hp1
          refine ⟨fun c4 => ?_, fun c4 => ?_⟩
          · exfalso; omega
          · refine ⟨?_, ?_⟩
            · first | omega | exact ⟨h3, by omega, hd⟩ | exact ⟨hp1, by omega, hd⟩ | (exfalso; omega)
            intro N2 hN2 he2 hp2
            refine ⟨?_, ?_⟩
            · first | omega | exact ⟨h3, by omega, hd⟩ | exact ⟨hp1, by omega, hd⟩ | (exfalso; omega)
            refine ⟨fun c5 => ?_, fun c5 => ?_⟩
            · exfalso; omega
            · exfalso; omega
        · refine ⟨fun c4 => ?_, fun c4 => ?_⟩
          · exfalso; omega
          · refine ⟨?_, ?_⟩
            · first | omega | exact ⟨h3, by omega, hd⟩ | exact ⟨hp1, by omega, hd⟩ | (exfalso; omega)
            intro N1 hN1 he1 hp1
            refine ⟨fun c5 => ?_, fun c5 => ?_⟩
            · exfalso; omega
            · refine ⟨?_, ?_⟩
              · first | omega | exact ⟨h3, by omega, hd⟩ | exact ⟨hp1, by omega, hd⟩ | (exfalso; omega)
              intro N2 hN2 he2 hp2
              refine ⟨?_, ?_⟩
              · first | omega | exact ⟨h3, by omega, hd⟩ | exact ⟨hp1, by omega, hd⟩ | (exfalso; omega)
              refine ⟨fun c6 => ?_, fun c6 => ?_⟩
              · exfalso; omega
              · exfalso; omega
  | succ n ih =>
    intro x3 x2 M h1 h2 h3 h4 h5
    refine g3_rm fun hM => ?_
    have hn := hI.2.2.1.2.1
    have hd := hI.1.2.2.1
    have e10 : M 10 0 0 = M0 44 0 1 := by rw [h4.1 10 (by decide)]; exact hI.2.2.1.1
    have e13 : M 13 = M0 13 := h4.1 13 (by decide)
    have eD : M 2 0 0 = M0 44 0 0 := by rw [h4.1 2 (by decide)]; exact hI.1.1
    have eL : LL3 M = LM3 M0 := h4.L.trans hI.L
    have s22 := h3.sd 22 (M0 44 0 0)
    rw [eL] at s22
    have hp := hI.p h1 (show x3 < 48 by have := hI.2.2.1.2.1; omega)
    have hp1' := hp.1
    have hq2 := hp.2.1
    have hp4 := hp.2.2.2.1
    have hp5 := hp.2.2.2.2.2.1
    have hp3 := hp.2.2.1
    have ha := and3_1 (shr3 (sSd (LM3 M0) 21 (M0 44 0 0)) (M0 46 0 x3))
    obtain ⟨p1, p2, p3, p4, p5, p6⟩ := hp1'

    refine sX5_readyIn_4 ?_
    simp only [e10, e13, eD, eL]
    rw [p1]
    refine ⟨?_, ?_⟩
    · first | omega | exact ⟨h3, by omega, hd⟩ | exact ⟨hp1, by omega, hd⟩ | (exfalso; omega)
    refine ⟨fun c1 => ?_, fun c1 => ?_⟩
    · exfalso; omega
    · refine ⟨?_, ?_⟩
      · first | omega | exact ⟨h3, by omega, hd⟩ | exact ⟨hp1, by omega, hd⟩ | (exfalso; omega)
      refine ⟨fun c2 => ?_, fun c2 => ?_⟩
      · first
          | (have hP : (M0 50 0 x3 = 0 ∨ M0 50 0 x3 = 2) ∧ (x1 = -1 ∨ M0 45 0 x3 = x1) ∧ alw3 (LM3 M0) (M0 46 0 x3) (M0 44 0 0) ∧ sSd (LM3 M0) 22 (M0 44 0 0) ≤ min 20 (M0 47 0 x3 + 2 * 0) := ⟨by omega, by omega, by show and3 _ 1 = 1; omega, by omega⟩
             exact ih _ _ _ (by omega) (by omega) hp2 (Ec.tr (Ec.tr h4 he1) he2) (by rw [cn3_t h1 (decide_eq_true hP), h5]))
          | (have hP : ¬ ((M0 50 0 x3 = 0 ∨ M0 50 0 x3 = 2) ∧ (x1 = -1 ∨ M0 45 0 x3 = x1) ∧ alw3 (LM3 M0) (M0 46 0 x3) (M0 44 0 0) ∧ sSd (LM3 M0) 22 (M0 44 0 0) ≤ min 20 (M0 47 0 x3 + 2 * 0)) := fun z => by
               obtain ⟨z1, z2, z3, z4⟩ := z
               have z3' : and3 (shr3 (sSd (LM3 M0) 21 (M0 44 0 0)) (M0 46 0 x3)) 1 = 1 := z3
               omega
             exact ih _ _ _ (by omega) (by omega) (by first | exact hp2 | exact hp1 | exact h3) (by first | exact Ec.tr (Ec.tr h4 he1) he2 | exact Ec.tr h4 he1 | exact h4) (by rw [cn3_f h1 (decide_eq_false hP), h5]))
          | (exfalso; omega)
      · refine ⟨?_, ?_⟩
        · first | omega | exact ⟨h3, by omega, hd⟩ | exact ⟨hp1, by omega, hd⟩ | (exfalso; omega)
        refine ⟨fun c3 => ?_, fun c3 => ?_⟩
        · refine ⟨?_, ?_⟩
          · first | omega | exact ⟨h3, by omega, hd⟩ | exact ⟨hp1, by omega, hd⟩ | (exfalso; omega)
          intro N1 hN1 he1 hp1
          refine ⟨fun c4 => ?_, fun c4 => ?_⟩
          · first
              | (have hP : (M0 50 0 x3 = 0 ∨ M0 50 0 x3 = 2) ∧ (x1 = -1 ∨ M0 45 0 x3 = x1) ∧ alw3 (LM3 M0) (M0 46 0 x3) (M0 44 0 0) ∧ sSd (LM3 M0) 22 (M0 44 0 0) ≤ min 20 (M0 47 0 x3 + 2 * 0) := ⟨by omega, by omega, by show and3 _ 1 = 1; omega, by omega⟩
                 exact ih _ _ _ (by omega) (by omega) hp2 (Ec.tr (Ec.tr h4 he1) he2) (by rw [cn3_t h1 (decide_eq_true hP), h5]))
              | (have hP : ¬ ((M0 50 0 x3 = 0 ∨ M0 50 0 x3 = 2) ∧ (x1 = -1 ∨ M0 45 0 x3 = x1) ∧ alw3 (LM3 M0) (M0 46 0 x3) (M0 44 0 0) ∧ sSd (LM3 M0) 22 (M0 44 0 0) ≤ min 20 (M0 47 0 x3 + 2 * 0)) := fun z => by
                   obtain ⟨z1, z2, z3, z4⟩ := z
                   have z3' : and3 (shr3 (sSd (LM3 M0) 21 (M0 44 0 0)) (M0 46 0 x3)) 1 = 1 := z3
                   omega
                 exact ih _ _ _ (by omega) (by omega) (by first | exact hp2 | exact hp1 | exact h3) (by first | exact Ec.tr (Ec.tr h4 he1) he2 | exact Ec.tr h4 he1 | exact h4) (by rw [cn3_f h1 (decide_eq_false hP), h5]))
              | (exfalso; omega)
          · refine ⟨?_, ?_⟩
            · first | omega | exact ⟨h3, by omega, hd⟩ | exact ⟨hp1, by omega, hd⟩ | (exfalso; omega)
            intro N2 hN2 he2 hp2
            refine ⟨?_, ?_⟩
            · first | omega | exact ⟨h3, by omega, hd⟩ | exact ⟨hp1, by omega, hd⟩ | (exfalso; omega)
            refine ⟨fun c5 => ?_, fun c5 => ?_⟩
            · first
                | (have hP : (M0 50 0 x3 = 0 ∨ M0 50 0 x3 = 2) ∧ (x1 = -1 ∨ M0 45 0 x3 = x1) ∧ alw3 (LM3 M0) (M0 46 0 x3) (M0 44 0 0) ∧ sSd (LM3 M0) 22 (M0 44 0 0) ≤ min 20 (M0 47 0 x3 + 2 * 0) := ⟨by omega, by omega, by show and3 _ 1 = 1; omega, by omega⟩
                   exact ih _ _ _ (by omega) (by omega) hp2 (Ec.tr (Ec.tr h4 he1) he2) (by rw [cn3_t h1 (decide_eq_true hP), h5]))
                | (have hP : ¬ ((M0 50 0 x3 = 0 ∨ M0 50 0 x3 = 2) ∧ (x1 = -1 ∨ M0 45 0 x3 = x1) ∧ alw3 (LM3 M0) (M0 46 0 x3) (M0 44 0 0) ∧ sSd (LM3 M0) 22 (M0 44 0 0) ≤ min 20 (M0 47 0 x3 + 2 * 0)) := fun z => by
                     obtain ⟨z1, z2, z3, z4⟩ := z
                     have z3' : and3 (shr3 (sSd (LM3 M0) 21 (M0 44 0 0)) (M0 46 0 x3)) 1 = 1 := z3
                     omega
                   exact ih _ _ _ (by omega) (by omega) (by first | exact hp2 | exact hp1 | exact h3) (by first | exact Ec.tr (Ec.tr h4 he1) he2 | exact Ec.tr h4 he1 | exact h4) (by rw [cn3_f h1 (decide_eq_false hP), h5]))
                | (exfalso; omega)
            · first
                | (have hP : (M0 50 0 x3 = 0 ∨ M0 50 0 x3 = 2) ∧ (x1 = -1 ∨ M0 45 0 x3 = x1) ∧ alw3 (LM3 M0) (M0 46 0 x3) (M0 44 0 0) ∧ sSd (LM3 M0) 22 (M0 44 0 0) ≤ min 20 (M0 47 0 x3 + 2 * 0) := ⟨by omega, by omega, by show and3 _ 1 = 1; omega, by omega⟩
                   exact ih _ _ _ (by omega) (by omega) hp2 (Ec.tr (Ec.tr h4 he1) he2) (by rw [cn3_t h1 (decide_eq_true hP), h5]))
                | (have hP : ¬ ((M0 50 0 x3 = 0 ∨ M0 50 0 x3 = 2) ∧ (x1 = -1 ∨ M0 45 0 x3 = x1) ∧ alw3 (LM3 M0) (M0 46 0 x3) (M0 44 0 0) ∧ sSd (LM3 M0) 22 (M0 44 0 0) ≤ min 20 (M0 47 0 x3 + 2 * 0)) := fun z => by
                     obtain ⟨z1, z2, z3, z4⟩ := z
                     have z3' : and3 (shr3 (sSd (LM3 M0) 21 (M0 44 0 0)) (M0 46 0 x3)) 1 = 1 := z3
                     omega
                   exact ih _ _ _ (by omega) (by omega) (by first | exact hp2 | exact hp1 | exact h3) (by first | exact Ec.tr (Ec.tr h4 he1) he2 | exact Ec.tr h4 he1 | exact h4) (by rw [cn3_f h1 (decide_eq_false hP), h5]))
                | (exfalso; omega)
        · refine ⟨fun c4 => ?_, fun c4 => ?_⟩
          · first
              | (have hP : (M0 50 0 x3 = 0 ∨ M0 50 0 x3 = 2) ∧ (x1 = -1 ∨ M0 45 0 x3 = x1) ∧ alw3 (LM3 M0) (M0 46 0 x3) (M0 44 0 0) ∧ sSd (LM3 M0) 22 (M0 44 0 0) ≤ min 20 (M0 47 0 x3 + 2 * 0) := ⟨by omega, by omega, by show and3 _ 1 = 1; omega, by omega⟩
                 exact ih _ _ _ (by omega) (by omega) hp2 (Ec.tr (Ec.tr h4 he1) he2) (by rw [cn3_t h1 (decide_eq_true hP), h5]))
              | (have hP : ¬ ((M0 50 0 x3 = 0 ∨ M0 50 0 x3 = 2) ∧ (x1 = -1 ∨ M0 45 0 x3 = x1) ∧ alw3 (LM3 M0) (M0 46 0 x3) (M0 44 0 0) ∧ sSd (LM3 M0) 22 (M0 44 0 0) ≤ min 20 (M0 47 0 x3 + 2 * 0)) := fun z => by
                   obtain ⟨z1, z2, z3, z4⟩ := z
                   have z3' : and3 (shr3 (sSd (LM3 M0) 21 (M0 44 0 0)) (M0 46 0 x3)) 1 = 1 := z3
                   omega
                 exact ih _ _ _ (by omega) (by omega) (by first | exact hp2 | exact hp1 | exact h3) (by first | exact Ec.tr (Ec.tr h4 he1) he2 | exact Ec.tr h4 he1 | exact h4) (by rw [cn3_f h1 (decide_eq_false hP), h5]))
              | (exfalso; omega)
          · refine ⟨?_, ?_⟩
            · first | omega | exact ⟨h3, by omega, hd⟩ | exact ⟨hp1, by omega, hd⟩ | (exfalso; omega)
            intro N1 hN1 he1 hp1
            refine ⟨fun c5 => ?_, fun c5 => ?_⟩
            · first
                | (have hP : (M0 50 0 x3 = 0 ∨ M0 50 0 x3 = 2) ∧ (x1 = -1 ∨ M0 45 0 x3 = x1) ∧ alw3 (LM3 M0) (M0 46 0 x3) (M0 44 0 0) ∧ sSd (LM3 M0) 22 (M0 44 0 0) ≤ min 20 (M0 47 0 x3 + 2 * 0) := ⟨by omega, by omega, by show and3 _ 1 = 1; omega, by omega⟩
                   exact ih _ _ _ (by omega) (by omega) hp2 (Ec.tr (Ec.tr h4 he1) he2) (by rw [cn3_t h1 (decide_eq_true hP), h5]))
                | (have hP : ¬ ((M0 50 0 x3 = 0 ∨ M0 50 0 x3 = 2) ∧ (x1 = -1 ∨ M0 45 0 x3 = x1) ∧ alw3 (LM3 M0) (M0 46 0 x3) (M0 44 0 0) ∧ sSd (LM3 M0) 22 (M0 44 0 0) ≤ min 20 (M0 47 0 x3 + 2 * 0)) := fun z => by
                     obtain ⟨z1, z2, z3, z4⟩ := z
                     have z3' : and3 (shr3 (sSd (LM3 M0) 21 (M0 44 0 0)) (M0 46 0 x3)) 1 = 1 := z3
                     omega
                   exact ih _ _ _ (by omega) (by omega) (by first | exact hp2 | exact hp1 | exact h3) (by first | exact Ec.tr (Ec.tr h4 he1) he2 | exact Ec.tr h4 he1 | exact h4) (by rw [cn3_f h1 (decide_eq_false hP), h5]))
                | (exfalso; omega)
            · refine ⟨?_, ?_⟩
              · first | omega | exact ⟨h3, by omega, hd⟩ | exact ⟨hp1, by omega, hd⟩ | (exfalso; omega)
              intro N2 hN2 he2 hp2
              refine ⟨?_, ?_⟩
              · first | omega | exact ⟨h3, by omega, hd⟩ | exact ⟨hp1, by omega, hd⟩ | (exfalso; omega)
              refine ⟨fun c6 => ?_, fun c6 => ?_⟩
              · first
                  | (have hP : (M0 50 0 x3 = 0 ∨ M0 50 0 x3 = 2) ∧ (x1 = -1 ∨ M0 45 0 x3 = x1) ∧ alw3 (LM3 M0) (M0 46 0 x3) (M0 44 0 0) ∧ sSd (LM3 M0) 22 (M0 44 0 0) ≤ min 20 (M0 47 0 x3 + 2 * 0) := ⟨by omega, by omega, by show and3 _ 1 = 1; omega, by omega⟩
                     exact ih _ _ _ (by omega) (by omega) hp2 (Ec.tr (Ec.tr h4 he1) he2) (by rw [cn3_t h1 (decide_eq_true hP), h5]))
                  | (have hP : ¬ ((M0 50 0 x3 = 0 ∨ M0 50 0 x3 = 2) ∧ (x1 = -1 ∨ M0 45 0 x3 = x1) ∧ alw3 (LM3 M0) (M0 46 0 x3) (M0 44 0 0) ∧ sSd (LM3 M0) 22 (M0 44 0 0) ≤ min 20 (M0 47 0 x3 + 2 * 0)) := fun z => by
                       obtain ⟨z1, z2, z3, z4⟩ := z
                       have z3' : and3 (shr3 (sSd (LM3 M0) 21 (M0 44 0 0)) (M0 46 0 x3)) 1 = 1 := z3
                       omega
                     exact ih _ _ _ (by omega) (by omega) (by first | exact hp2 | exact hp1 | exact h3) (by first | exact Ec.tr (Ec.tr h4 he1) he2 | exact Ec.tr h4 he1 | exact h4) (by rw [cn3_f h1 (decide_eq_false hP), h5]))
                  | (exfalso; omega)
              · first
                  | (have hP : (M0 50 0 x3 = 0 ∨ M0 50 0 x3 = 2) ∧ (x1 = -1 ∨ M0 45 0 x3 = x1) ∧ alw3 (LM3 M0) (M0 46 0 x3) (M0 44 0 0) ∧ sSd (LM3 M0) 22 (M0 44 0 0) ≤ min 20 (M0 47 0 x3 + 2 * 0) := ⟨by omega, by omega, by show and3 _ 1 = 1; omega, by omega⟩
                     exact ih _ _ _ (by omega) (by omega) hp2 (Ec.tr (Ec.tr h4 he1) he2) (by rw [cn3_t h1 (decide_eq_true hP), h5]))
                  | (have hP : ¬ ((M0 50 0 x3 = 0 ∨ M0 50 0 x3 = 2) ∧ (x1 = -1 ∨ M0 45 0 x3 = x1) ∧ alw3 (LM3 M0) (M0 46 0 x3) (M0 44 0 0) ∧ sSd (LM3 M0) 22 (M0 44 0 0) ≤ min 20 (M0 47 0 x3 + 2 * 0)) := fun z => by
                       obtain ⟨z1, z2, z3, z4⟩ := z
                       have z3' : and3 (shr3 (sSd (LM3 M0) 21 (M0 44 0 0)) (M0 46 0 x3)) 1 = 1 := z3
                       omega
                     exact ih _ _ _ (by omega) (by omega) (by first | exact hp2 | exact hp1 | exact h3) (by first | exact Ec.tr (Ec.tr h4 he1) he2 | exact Ec.tr h4 he1 | exact h4) (by rw [cn3_f h1 (decide_eq_false hP), h5]))
                  | (exfalso; omega)
theorem kX5_readyIn {E : E3} {Q : Q3} {M : M3} {x1 : Int} (h : LwC M ∧ IB M ∧ -1 ≤ x1 ∧ x1 ≤ 5) (k : ∀ (N : M3), RM3 N → Ec M N → LwC N → Q (some (vI (mRdy M x1 0))) N) : C3 E YX5_readyIn [vR 26 0, vI x1] M Q :=
  sX5_readyIn (lX5_readyIn h.2.1 h.2.2 k (M 44 0 1).toNat 0 0 M (by omega) (by have := h.2.1.2.2.1.2.1; omega) h.1 Ec.rf rfl)
/-- the same but for the caches and some regions -/
def Ex (L : List Nat) (M N : M3) : Prop := (∀ q : Nat, q ∉ 3 :: 8 :: 9 :: L → N q = M q) ∧ ∀ j : Int, j ≠ 10 → N 3 0 j = M 3 0 j
theorem Ex.rf {L : List Nat} {M : M3} : Ex L M M := ⟨fun _ _ => rfl, fun _ _ => rfl⟩
theorem Ex.tr {L : List Nat} {M N K : M3} (h : Ex L M N) (h2 : Ex L N K) : Ex L M K := ⟨fun q hq => (h2.1 q hq).trans (h.1 q hq), fun j hj => (h2.2 j hj).trans (h.2 j hj)⟩
theorem Ex.c {L : List Nat} {M N : M3} (h : Ec M N) : Ex L M N := ⟨fun q hq => h.1 q fun z => hq (by
  rcases List.mem_cons.mp z with z | z
  · rw [z]; exact List.mem_cons_self
  · rcases List.mem_cons.mp z with z | z
    · rw [z]; exact List.mem_cons_of_mem _ List.mem_cons_self
    · rw [List.mem_singleton.mp z]; exact List.mem_cons_of_mem _ (List.mem_cons_of_mem _ List.mem_cons_self)), fun j hj => h.2 j fun z => hj (List.mem_singleton.mp z)⟩
theorem Ex.up {L : List Nat} {M N : M3} (h : Ex L M N) {r : Nat} {i j v : Int} (hr : r ∈ L) (h3 : r ≠ 3) : Ex L M (up3 N r i j v) := ⟨fr_up h.1 (List.mem_cons_of_mem _ (List.mem_cons_of_mem _ (List.mem_cons_of_mem _ hr))), fun k hk => (up3_nr (fun e => h3 e.symm)).trans (h.2 k hk)⟩
theorem Ex.fr {L : List Nat} {M N : M3} {K : List Nat} (h : ∀ q : Nat, q ∉ K → N q = M q) (hK : ∀ q ∈ K, q ∈ L) (h3 : 3 ∉ K) : Ex L M N := ⟨fun q hq => h q fun z => hq (List.mem_cons_of_mem _ (List.mem_cons_of_mem _ (List.mem_cons_of_mem _ (hK q z)))), fun j _ => by rw [h 3 h3]⟩
theorem Ex.L {L : List Nat} {M N : M3} (h : Ex L M N) (h4 : 4 ∉ 3 :: 8 :: 9 :: L) : LL3 N = LL3 M := LL3_eq (h.1 4 h4) (h.2 0 (by decide))
theorem Es.x {L : List Nat} {M N : M3} (h : Ex L M N) (hL : ∀ q ∈ L, q ∈ scR) : Es M N := by
  have h31 : N 31 = M 31 := h.1 31 fun z => by
    simp at z
    exact absurd (hL 31 z) (by decide)
  have h44 : N 44 = M 44 := h.1 44 fun z => by
    simp at z
    exact absurd (hL 44 z) (by decide)
  refine ⟨fun q hq => h.1 q fun z => hq ?_, h.2, fun j _ => by rw [h31], fun j _ => by rw [h44]⟩
  rcases List.mem_cons.mp z with z | z
  · rw [z]; decide
  · rcases List.mem_cons.mp z with z | z
    · rw [z]; decide
    · rcases List.mem_cons.mp z with z | z
      · rw [z]; decide
      · exact List.mem_cons_of_mem _ (List.mem_cons_of_mem _ (List.mem_cons_of_mem _ (hL q z)))
abbrev fsP (M : M3) (b g p : Int) : Prop := (M 50 0 p = 0 ∨ M 50 0 p = 2) ∧ (b = -1 ∨ M 45 0 p = b) ∧ alw3 (LM3 M) (M 46 0 p) (M 44 0 0) ∧ sSd (LM3 M) 22 (M 44 0 0) ≤ min 20 (M 47 0 p + 2 * g)
theorem lX5_fs2 {E : E3} {Q : Q3} {M0 : M3} (hL0 : LwC M0) (k39 : ∀ (N : M3), RM3 N → LwC N → Ex [28] M0 N → (∀ b g : Int, 0 ≤ b → b < 6 → 0 ≤ g → g ≤ 12 → N 28 b g = 0) → G3 E YX5_foresee Q 39 [(0, vR 26 0), (1, vI 0)] [] N) : ∀ (n : Nat) (x1 : Int) (M : M3), 0 ≤ x1 → x1 + n = 6 → (∀ q : Nat, q ∉ ([28] : List Nat) → M q = M0 q) → (∀ b g : Int, 0 ≤ b → b < x1 → 0 ≤ g → g ≤ 12 → M 28 b g = 0) → G3 E YX5_foresee Q 2 [(0, vR 26 0), (1, vI x1)] [] M := by
  intro n
  induction n with
  | zero =>
    intro x1 M h1 h2 h3 h4
    refine g3_rm fun hM => ?_
    refine sX5_foresee_2 ?_
    refine ⟨?_, ?_⟩
    · omega
    refine ⟨fun c1 => ?_, fun c1 => ?_⟩
    · first | (exfalso; omega) | exact k39 M hM (hL0.fr h3 (by decide)) (Ex.fr h3 (by decide) (by decide)) (fun b g b0 b1 g0 g1 => h4 b g b0 (by omega) g0 g1)
    · first | (exfalso; omega) | exact k39 M hM (hL0.fr h3 (by decide)) (Ex.fr h3 (by decide) (by decide)) (fun b g b0 b1 g0 g1 => h4 b g b0 (by omega) g0 g1)
  | succ n ih =>
    intro x1 M h1 h2 h3 h4
    have inner : ∀ (m : Nat) (x2 : Int) (M : M3), 0 ≤ x2 → x2 + m = 13 → (∀ q : Nat, q ∉ ([28] : List Nat) → M q = M0 q) → (∀ b g : Int, 0 ≤ b → b < x1 → 0 ≤ g → g ≤ 12 → M 28 b g = 0) → (∀ g : Int, 0 ≤ g → g < x2 → M 28 x1 g = 0) → G3 E YX5_foresee Q 10 [(0, vR 26 0), (1, vI x1), (2, vI x2)] [] M := by
      intro m
      induction m with
      | zero =>
        intro x2 M g1 g2 g3 g4 g5
        refine sX5_foresee_10 ?_
        refine ⟨?_, ?_⟩
        · omega
        refine ⟨fun c1 => ?_, fun c1 => ?_⟩
        · first | (exfalso; omega) | exact ih _ _ (by omega) (by omega) g3 (fun b g b0 b1 g0 gl => by
            by_cases e : b = x1
            · rw [e]; exact g5 g g0 (by omega)
            · exact g4 b g b0 (by omega) g0 gl)
        · refine ⟨?_, ?_, ?_⟩
          · omega
          · omega
          first | (exfalso; omega) | exact ih _ _ (by omega) (by omega) g3 (fun b g b0 b1 g0 gl => by
            by_cases e : b = x1
            · rw [e]; exact g5 g g0 (by omega)
            · exact g4 b g b0 (by omega) g0 gl)
      | succ m ih2 =>
        intro x2 M g1 g2 g3 g4 g5
        refine sX5_foresee_10 ?_
        refine ⟨?_, ?_⟩
        · first | omega | (exfalso; omega)
        refine ⟨fun c1 => ?_, fun c1 => ?_⟩
        · first | (exfalso; omega) | exact ih2 _ _ (by omega) (by omega) (fr_up g3 (by decide)) (fun b g b0 b1 g0 gl => by rw [up3_ni (by omega)]; exact g4 b g b0 b1 g0 gl) (fun g g0 gl => by
            by_cases e : g = x2
            · rw [e, up3_eq]
            · rw [up3_nj e]; exact g5 g g0 (by omega))
        · refine ⟨?_, ?_, ?_⟩
          · first | omega | (exfalso; omega)
          · first | omega | (exfalso; omega)
          first | (exfalso; omega) | exact ih2 _ _ (by omega) (by omega) (fr_up g3 (by decide)) (fun b g b0 b1 g0 gl => by rw [up3_ni (by omega)]; exact g4 b g b0 b1 g0 gl) (fun g g0 gl => by
            by_cases e : g = x2
            · rw [e, up3_eq]
            · rw [up3_nj e]; exact g5 g g0 (by omega))
    refine sX5_foresee_2 ?_
    refine ⟨?_, ?_⟩
    · omega
    refine ⟨fun c1 => ?_, fun c1 => ?_⟩
    · first | (exfalso; omega) | exact inner 13 0 M (by omega) (by omega) h3 h4 (fun g a b => by omega)
    · first | (exfalso; omega) | exact inner 13 0 M (by omega) (by omega) h3 h4 (fun g a b => by omega)
theorem lX5_fs39 {E : E3} {Q : Q3} {M0 : M3} (hI : IB M0) (k : ∀ (N : M3), RM3 N → LwC N → Ex [28] M0 N → (∀ b g : Int, 0 ≤ b → b < 6 → 0 ≤ g → g ≤ 12 → N 28 b g = mRdy M0 b g) → Q none N) : ∀ (n : Nat) (x1 : Int) (M : M3), 0 ≤ x1 → x1 + n = M0 44 0 1 → LwC M → Ex [28] M0 M → (∀ b g : Int, 0 ≤ b → b < 6 → 0 ≤ g → g ≤ 12 → M 28 b g = cn3 x1 (fun p => decide (fsP M0 b g p))) → G3 E YX5_foresee Q 39 [(0, vR 26 0), (1, vI x1)] [] M := by
  have hn := hI.2.2.1.2.1
  have hd := hI.1.2.2.1
  intro n
  induction n with
  | zero =>
    intro x1 M h1 h2 h3 h4 h5
    refine g3_rm fun hM => ?_
    have e10 : M 10 0 0 = M0 44 0 1 := by rw [h4.1 10 (by decide)]; exact hI.2.2.1.1
    refine sX5_foresee_39 ?_
    simp only [e10]
    refine ⟨?_, ?_⟩
    · omega
    refine ⟨fun c1 => ?_, fun c1 => ?_⟩
    · first | (exfalso; omega) | exact k M hM h3 h4 (fun b g b0 b1 g0 g1 => by rw [h5 b g b0 b1 g0 g1, show x1 = M0 44 0 1 by omega]; rfl)
    · refine ⟨?_, ?_⟩
      · omega
      exfalso; omega
  | succ n ih =>
    intro x1 M h1 h2 h3 h4 h5
    refine g3_rm fun hM => ?_
    have hp := hI.p h1 (show x1 < 48 by have := hI.2.2.1.2.1; omega)
    have hp1' := hp.1
    have hq2 := hp.2.1
    have hp4 := hp.2.2.2.1
    have hp5 := hp.2.2.2.2.2.1
    have hp3 := hp.2.2.1
    have ha := and3_1 (shr3 (sSd (LM3 M0) 21 (M0 44 0 0)) (M0 46 0 x1))
    obtain ⟨p1, p2, p3, p4, p5, p6⟩ := hp1'
    have inner : ∀ (m : Nat) (x3 : Int) (M : M3), 0 ≤ x3 → x3 + m = 13 → LwC M → Ex [28] M0 M → (∀ b g : Int, 0 ≤ b → b < 6 → 0 ≤ g → g ≤ 12 → M 28 b g = cn3 (if g < x3 then x1 + 1 else x1) (fun p => decide (fsP M0 b g p))) → G3 E YX5_foresee Q 61 [(0, vR 26 0), (1, vI x1), (2, vR 13 x1), (3, vI x3)] [] M := by
      intro m
      induction m with
      | zero =>
        intro x3 M g1 g2 g3 g4 g5
        refine sX5_foresee_61 ?_
        refine ⟨?_, ?_⟩
        · first | omega | (exfalso; omega)
        refine ⟨fun c1 => ?_, fun c1 => ?_⟩
        · first | (exfalso; omega) | exact ih _ _ (by omega) (by omega) g3 g4 (fun b g b0 b1 g0 gl => by rw [g5 b g b0 b1 g0 gl, if_pos (by omega)])
        · refine ⟨?_, ?_⟩
          · first | omega | (exfalso; omega)
          refine ⟨fun c2 => ?_, fun c2 => ?_⟩
          · first | (exfalso; omega) | exact ih _ _ (by omega) (by omega) g3 g4 (fun b g b0 b1 g0 gl => by rw [g5 b g b0 b1 g0 gl, if_pos (by omega)])
          · refine ⟨?_, ?_⟩
            · first | omega | (exfalso; omega)
            refine ⟨fun c3 => ?_, fun c3 => ?_⟩
            · first | (exfalso; omega) | exact ih _ _ (by omega) (by omega) g3 g4 (fun b g b0 b1 g0 gl => by rw [g5 b g b0 b1 g0 gl, if_pos (by omega)])
            · refine ⟨?_, ?_, ?_⟩
              · first | omega | (exfalso; omega)
              · first | omega | (exfalso; omega)
              intro N1 hN1 he1 hp1
              refine ⟨fun c4 => ?_, fun c4 => ?_⟩
              · first | (exfalso; omega) | exact ih _ _ (by omega) (by omega) g3 g4 (fun b g b0 b1 g0 gl => by rw [g5 b g b0 b1 g0 gl, if_pos (by omega)])
              · refine ⟨?_, ?_⟩
                · first | omega | (exfalso; omega)
                intro N2 hN2 he2 hp2
                refine ⟨?_, ?_, ?_⟩
                · first | omega | (exfalso; omega)
                · first | omega | (exfalso; omega)
                refine ⟨fun c5 => ?_, fun c5 => ?_⟩
                · first | (exfalso; omega) | exact ih _ _ (by omega) (by omega) g3 g4 (fun b g b0 b1 g0 gl => by rw [g5 b g b0 b1 g0 gl, if_pos (by omega)])
                · refine ⟨?_, ?_, ?_, ?_⟩
                  · first | omega | (exfalso; omega)
                  · first | omega | (exfalso; omega)
                  · first | omega | (exfalso; omega)
                  first | (exfalso; omega) | exact ih _ _ (by omega) (by omega) g3 g4 (fun b g b0 b1 g0 gl => by rw [g5 b g b0 b1 g0 gl, if_pos (by omega)])
      | succ m ih2 =>
        intro x3 M g1 g2 g3 g4 g5
        refine g3_rm fun hM => ?_
        have e13 : M 13 = M0 13 := g4.1 13 (by decide)
        have eD : M 2 0 0 = M0 44 0 0 := by rw [g4.1 2 (by decide)]; exact hI.1.1
        have eL : LL3 M = LM3 M0 := (g4.L (by decide)).trans hI.L
        have s22 := g3.sd 22 (M0 44 0 0)
        rw [eL] at s22
        have no : ∀ N : M3, (∀ b : Int, 0 ≤ b → b < 6 → ¬ fsP M0 b x3 x1) → N 28 = M 28 → (∀ b g : Int, 0 ≤ b → b < 6 → 0 ≤ g → g ≤ 12 → N 28 b g = cn3 (if g < x3 + 1 then x1 + 1 else x1) (fun p => decide (fsP M0 b g p))) := fun N hno e b g b0 b1 g0 gl => by
          rw [e, g5 b g b0 b1 g0 gl]
          by_cases q : g = x3
          · rw [q, if_neg (by omega), if_pos (by omega), cn3_f h1 (decide_eq_false (hno b b0 b1))]
          · by_cases y : g < x3
            · rw [if_pos y, if_pos (by omega)]
            · rw [if_neg y, if_neg (by omega)]
        refine sX5_foresee_61 ?_
        simp only [e13, eD, eL]
        rw [p1, p2]
        refine ⟨?_, ?_⟩
        · first | omega | exact ⟨g3, by omega, hd⟩ | exact ⟨hp1, by omega, hd⟩ | exact ⟨by omega, by omega, by omega⟩ | (have := cn3_rg h1 (fun p => decide (fsP M0 (M0 13 x1 0) x3 p)); have e := g5 (M0 13 x1 0) x3 (by omega) (by omega) g1 (by omega); rw [if_neg (by omega)] at e; omega) | (exfalso; omega)
        refine ⟨fun c1 => ?_, fun c1 => ?_⟩
        · first
          | (exfalso; omega)
          | (have hst : M0 50 0 x1 = 0 ∨ M0 50 0 x1 = 2 := by omega
             have hbt : M0 13 x1 0 = M0 45 0 x1 := hq2 (by omega)
             have hP : fsP M0 (M0 13 x1 0) x3 x1 := ⟨hst, Or.inr hbt.symm, by show and3 _ 1 = 1; omega, by omega⟩
             refine ih2 _ _ (by omega) (by omega) (hp2.up (by decide)) (((g4.tr (Ex.c he1)).tr (Ex.c he2)).up (by decide) (by decide)) (fun b g b0 b1 g0 gl => ?_)
             by_cases q : g = x3
             · by_cases e : b = M0 13 x1 0
               · rw [q, e, up3_eq, g5 _ _ (by omega) (by omega) g1 (by omega), if_neg (by omega), if_pos (by omega), cn3_t h1 (decide_eq_true hP)]
               · rw [up3_ni e, he2.1 28 (by decide), he1.1 28 (by decide)]
                 rw [g5 b g b0 b1 g0 gl, q, if_neg (by omega), if_pos (by omega), cn3_f h1 (decide_eq_false fun z => by
                   rcases z.2.1 with w | w <;> omega)]
             · rw [up3_nj q, he2.1 28 (by decide), he1.1 28 (by decide), g5 b g b0 b1 g0 gl]
               by_cases y : g < x3
               · rw [if_pos y, if_pos (by omega)]
               · rw [if_neg y, if_neg (by omega)])
          | (have hno : ∀ b : Int, 0 ≤ b → b < 6 → ¬ fsP M0 b x3 x1 := fun b b0 b1 z => by
               obtain ⟨z1, z2, z3, z4⟩ := z
               have z3' : and3 (shr3 (sSd (LM3 M0) 21 (M0 44 0 0)) (M0 46 0 x1)) 1 = 1 := z3
               omega
             first
               | exact ih2 _ _ (by omega) (by omega) hp2 ((g4.tr (Ex.c he1)).tr (Ex.c he2)) (no _ hno ((he2.1 28 (by decide)).trans (he1.1 28 (by decide))))
               | exact ih2 _ _ (by omega) (by omega) hp1 (g4.tr (Ex.c he1)) (no _ hno (he1.1 28 (by decide)))
               | exact ih2 _ _ (by omega) (by omega) g3 g4 (no _ hno rfl))
        · refine ⟨?_, ?_⟩
          · first | omega | exact ⟨g3, by omega, hd⟩ | exact ⟨hp1, by omega, hd⟩ | exact ⟨by omega, by omega, by omega⟩ | (have := cn3_rg h1 (fun p => decide (fsP M0 (M0 13 x1 0) x3 p)); have e := g5 (M0 13 x1 0) x3 (by omega) (by omega) g1 (by omega); rw [if_neg (by omega)] at e; omega) | (exfalso; omega)
          refine ⟨fun c2 => ?_, fun c2 => ?_⟩
          · first
            | (exfalso; omega)
            | (have hst : M0 50 0 x1 = 0 ∨ M0 50 0 x1 = 2 := by omega
               have hbt : M0 13 x1 0 = M0 45 0 x1 := hq2 (by omega)
               have hP : fsP M0 (M0 13 x1 0) x3 x1 := ⟨hst, Or.inr hbt.symm, by show and3 _ 1 = 1; omega, by omega⟩
               refine ih2 _ _ (by omega) (by omega) (hp2.up (by decide)) (((g4.tr (Ex.c he1)).tr (Ex.c he2)).up (by decide) (by decide)) (fun b g b0 b1 g0 gl => ?_)
               by_cases q : g = x3
               · by_cases e : b = M0 13 x1 0
                 · rw [q, e, up3_eq, g5 _ _ (by omega) (by omega) g1 (by omega), if_neg (by omega), if_pos (by omega), cn3_t h1 (decide_eq_true hP)]
                 · rw [up3_ni e, he2.1 28 (by decide), he1.1 28 (by decide)]
                   rw [g5 b g b0 b1 g0 gl, q, if_neg (by omega), if_pos (by omega), cn3_f h1 (decide_eq_false fun z => by
                     rcases z.2.1 with w | w <;> omega)]
               · rw [up3_nj q, he2.1 28 (by decide), he1.1 28 (by decide), g5 b g b0 b1 g0 gl]
                 by_cases y : g < x3
                 · rw [if_pos y, if_pos (by omega)]
                 · rw [if_neg y, if_neg (by omega)])
            | (have hno : ∀ b : Int, 0 ≤ b → b < 6 → ¬ fsP M0 b x3 x1 := fun b b0 b1 z => by
                 obtain ⟨z1, z2, z3, z4⟩ := z
                 have z3' : and3 (shr3 (sSd (LM3 M0) 21 (M0 44 0 0)) (M0 46 0 x1)) 1 = 1 := z3
                 omega
               first
                 | exact ih2 _ _ (by omega) (by omega) hp2 ((g4.tr (Ex.c he1)).tr (Ex.c he2)) (no _ hno ((he2.1 28 (by decide)).trans (he1.1 28 (by decide))))
                 | exact ih2 _ _ (by omega) (by omega) hp1 (g4.tr (Ex.c he1)) (no _ hno (he1.1 28 (by decide)))
                 | exact ih2 _ _ (by omega) (by omega) g3 g4 (no _ hno rfl))
          · refine ⟨?_, ?_⟩
            · first | omega | exact ⟨g3, by omega, hd⟩ | exact ⟨hp1, by omega, hd⟩ | exact ⟨by omega, by omega, by omega⟩ | (have := cn3_rg h1 (fun p => decide (fsP M0 (M0 13 x1 0) x3 p)); have e := g5 (M0 13 x1 0) x3 (by omega) (by omega) g1 (by omega); rw [if_neg (by omega)] at e; omega) | (exfalso; omega)
            refine ⟨fun c3 => ?_, fun c3 => ?_⟩
            · first
              | (exfalso; omega)
              | (have hst : M0 50 0 x1 = 0 ∨ M0 50 0 x1 = 2 := by omega
                 have hbt : M0 13 x1 0 = M0 45 0 x1 := hq2 (by omega)
                 have hP : fsP M0 (M0 13 x1 0) x3 x1 := ⟨hst, Or.inr hbt.symm, by show and3 _ 1 = 1; omega, by omega⟩
                 refine ih2 _ _ (by omega) (by omega) (hp2.up (by decide)) (((g4.tr (Ex.c he1)).tr (Ex.c he2)).up (by decide) (by decide)) (fun b g b0 b1 g0 gl => ?_)
                 by_cases q : g = x3
                 · by_cases e : b = M0 13 x1 0
                   · rw [q, e, up3_eq, g5 _ _ (by omega) (by omega) g1 (by omega), if_neg (by omega), if_pos (by omega), cn3_t h1 (decide_eq_true hP)]
                   · rw [up3_ni e, he2.1 28 (by decide), he1.1 28 (by decide)]
                     rw [g5 b g b0 b1 g0 gl, q, if_neg (by omega), if_pos (by omega), cn3_f h1 (decide_eq_false fun z => by
                       rcases z.2.1 with w | w <;> omega)]
                 · rw [up3_nj q, he2.1 28 (by decide), he1.1 28 (by decide), g5 b g b0 b1 g0 gl]
                   by_cases y : g < x3
                   · rw [if_pos y, if_pos (by omega)]
                   · rw [if_neg y, if_neg (by omega)])
              | (have hno : ∀ b : Int, 0 ≤ b → b < 6 → ¬ fsP M0 b x3 x1 := fun b b0 b1 z => by
                   obtain ⟨z1, z2, z3, z4⟩ := z
                   have z3' : and3 (shr3 (sSd (LM3 M0) 21 (M0 44 0 0)) (M0 46 0 x1)) 1 = 1 := z3
                   omega
                 first
                   | exact ih2 _ _ (by omega) (by omega) hp2 ((g4.tr (Ex.c he1)).tr (Ex.c he2)) (no _ hno ((he2.1 28 (by decide)).trans (he1.1 28 (by decide))))
                   | exact ih2 _ _ (by omega) (by omega) hp1 (g4.tr (Ex.c he1)) (no _ hno (he1.1 28 (by decide)))
                   | exact ih2 _ _ (by omega) (by omega) g3 g4 (no _ hno rfl))
            · refine ⟨?_, ?_, ?_⟩
              · first | omega | exact ⟨g3, by omega, hd⟩ | exact ⟨hp1, by omega, hd⟩ | exact ⟨by omega, by omega, by omega⟩ | (have := cn3_rg h1 (fun p => decide (fsP M0 (M0 13 x1 0) x3 p)); have e := g5 (M0 13 x1 0) x3 (by omega) (by omega) g1 (by omega); rw [if_neg (by omega)] at e; omega) | (exfalso; omega)
              · first | omega | exact ⟨g3, by omega, hd⟩ | exact ⟨hp1, by omega, hd⟩ | exact ⟨by omega, by omega, by omega⟩ | (have := cn3_rg h1 (fun p => decide (fsP M0 (M0 13 x1 0) x3 p)); have e := g5 (M0 13 x1 0) x3 (by omega) (by omega) g1 (by omega); rw [if_neg (by omega)] at e; omega) | (exfalso; omega)
              intro N1 hN1 he1 hp1
              refine ⟨fun c4 => ?_, fun c4 => ?_⟩
              · first
                | (exfalso; omega)
                | (have hst : M0 50 0 x1 = 0 ∨ M0 50 0 x1 = 2 := by omega
                   have hbt : M0 13 x1 0 = M0 45 0 x1 := hq2 (by omega)
                   have hP : fsP M0 (M0 13 x1 0) x3 x1 := ⟨hst, Or.inr hbt.symm, by show and3 _ 1 = 1; omega, by omega⟩
                   refine ih2 _ _ (by omega) (by omega) (hp2.up (by decide)) (((g4.tr (Ex.c he1)).tr (Ex.c he2)).up (by decide) (by decide)) (fun b g b0 b1 g0 gl => ?_)
                   by_cases q : g = x3
                   · by_cases e : b = M0 13 x1 0
                     · rw [q, e, up3_eq, g5 _ _ (by omega) (by omega) g1 (by omega), if_neg (by omega), if_pos (by omega), cn3_t h1 (decide_eq_true hP)]
                     · rw [up3_ni e, he2.1 28 (by decide), he1.1 28 (by decide)]
                       rw [g5 b g b0 b1 g0 gl, q, if_neg (by omega), if_pos (by omega), cn3_f h1 (decide_eq_false fun z => by
                         rcases z.2.1 with w | w <;> omega)]
                   · rw [up3_nj q, he2.1 28 (by decide), he1.1 28 (by decide), g5 b g b0 b1 g0 gl]
                     by_cases y : g < x3
                     · rw [if_pos y, if_pos (by omega)]
                     · rw [if_neg y, if_neg (by omega)])
                | (have hno : ∀ b : Int, 0 ≤ b → b < 6 → ¬ fsP M0 b x3 x1 := fun b b0 b1 z => by
                     obtain ⟨z1, z2, z3, z4⟩ := z
                     have z3' : and3 (shr3 (sSd (LM3 M0) 21 (M0 44 0 0)) (M0 46 0 x1)) 1 = 1 := z3
                     omega
                   first
                     | exact ih2 _ _ (by omega) (by omega) hp2 ((g4.tr (Ex.c he1)).tr (Ex.c he2)) (no _ hno ((he2.1 28 (by decide)).trans (he1.1 28 (by decide))))
                     | exact ih2 _ _ (by omega) (by omega) hp1 (g4.tr (Ex.c he1)) (no _ hno (he1.1 28 (by decide)))
                     | exact ih2 _ _ (by omega) (by omega) g3 g4 (no _ hno rfl))
              · refine ⟨?_, ?_⟩
                · first | omega | exact ⟨g3, by omega, hd⟩ | exact ⟨hp1, by omega, hd⟩ | exact ⟨by omega, by omega, by omega⟩ | (have := cn3_rg h1 (fun p => decide (fsP M0 (M0 13 x1 0) x3 p)); have e := g5 (M0 13 x1 0) x3 (by omega) (by omega) g1 (by omega); rw [if_neg (by omega)] at e; omega) | (exfalso; omega)
                intro N2 hN2 he2 hp2
                refine ⟨?_, ?_, ?_⟩
                · first | omega | exact ⟨g3, by omega, hd⟩ | exact ⟨hp1, by omega, hd⟩ | exact ⟨by omega, by omega, by omega⟩ | (have := cn3_rg h1 (fun p => decide (fsP M0 (M0 13 x1 0) x3 p)); have e := g5 (M0 13 x1 0) x3 (by omega) (by omega) g1 (by omega); rw [if_neg (by omega)] at e; omega) | (exfalso; omega)
                · first | omega | exact ⟨g3, by omega, hd⟩ | exact ⟨hp1, by omega, hd⟩ | exact ⟨by omega, by omega, by omega⟩ | (have := cn3_rg h1 (fun p => decide (fsP M0 (M0 13 x1 0) x3 p)); have e := g5 (M0 13 x1 0) x3 (by omega) (by omega) g1 (by omega); rw [if_neg (by omega)] at e; omega) | (exfalso; omega)
                refine ⟨fun c5 => ?_, fun c5 => ?_⟩
                · first
                  | (exfalso; omega)
                  | (have hst : M0 50 0 x1 = 0 ∨ M0 50 0 x1 = 2 := by omega
                     have hbt : M0 13 x1 0 = M0 45 0 x1 := hq2 (by omega)
                     have hP : fsP M0 (M0 13 x1 0) x3 x1 := ⟨hst, Or.inr hbt.symm, by show and3 _ 1 = 1; omega, by omega⟩
                     refine ih2 _ _ (by omega) (by omega) (hp2.up (by decide)) (((g4.tr (Ex.c he1)).tr (Ex.c he2)).up (by decide) (by decide)) (fun b g b0 b1 g0 gl => ?_)
                     by_cases q : g = x3
                     · by_cases e : b = M0 13 x1 0
                       · rw [q, e, up3_eq, g5 _ _ (by omega) (by omega) g1 (by omega), if_neg (by omega), if_pos (by omega), cn3_t h1 (decide_eq_true hP)]
                       · rw [up3_ni e, he2.1 28 (by decide), he1.1 28 (by decide)]
                         rw [g5 b g b0 b1 g0 gl, q, if_neg (by omega), if_pos (by omega), cn3_f h1 (decide_eq_false fun z => by
                           rcases z.2.1 with w | w <;> omega)]
                     · rw [up3_nj q, he2.1 28 (by decide), he1.1 28 (by decide), g5 b g b0 b1 g0 gl]
                       by_cases y : g < x3
                       · rw [if_pos y, if_pos (by omega)]
                       · rw [if_neg y, if_neg (by omega)])
                  | (have hno : ∀ b : Int, 0 ≤ b → b < 6 → ¬ fsP M0 b x3 x1 := fun b b0 b1 z => by
                       obtain ⟨z1, z2, z3, z4⟩ := z
                       have z3' : and3 (shr3 (sSd (LM3 M0) 21 (M0 44 0 0)) (M0 46 0 x1)) 1 = 1 := z3
                       omega
                     first
                       | exact ih2 _ _ (by omega) (by omega) hp2 ((g4.tr (Ex.c he1)).tr (Ex.c he2)) (no _ hno ((he2.1 28 (by decide)).trans (he1.1 28 (by decide))))
                       | exact ih2 _ _ (by omega) (by omega) hp1 (g4.tr (Ex.c he1)) (no _ hno (he1.1 28 (by decide)))
                       | exact ih2 _ _ (by omega) (by omega) g3 g4 (no _ hno rfl))
                · refine ⟨?_, ?_, ?_, ?_⟩
                  · first | omega | exact ⟨g3, by omega, hd⟩ | exact ⟨hp1, by omega, hd⟩ | exact ⟨by omega, by omega, by omega⟩ | (have := cn3_rg h1 (fun p => decide (fsP M0 (M0 13 x1 0) x3 p)); have e := g5 (M0 13 x1 0) x3 (by omega) (by omega) g1 (by omega); rw [if_neg (by omega)] at e; omega) | (exfalso; omega)
                  · first | omega | exact ⟨g3, by omega, hd⟩ | exact ⟨hp1, by omega, hd⟩ | exact ⟨by omega, by omega, by omega⟩ | (have := cn3_rg h1 (fun p => decide (fsP M0 (M0 13 x1 0) x3 p)); have e := g5 (M0 13 x1 0) x3 (by omega) (by omega) g1 (by omega); rw [if_neg (by omega)] at e; omega) | (exfalso; omega)
                  · first | omega | exact ⟨g3, by omega, hd⟩ | exact ⟨hp1, by omega, hd⟩ | exact ⟨by omega, by omega, by omega⟩ | (have := cn3_rg h1 (fun p => decide (fsP M0 (M0 13 x1 0) x3 p)); have e := g5 (M0 13 x1 0) x3 (by omega) (by omega) g1 (by omega); rw [if_neg (by omega)] at e; omega) | (exfalso; omega)
                  first
                  | (exfalso; omega)
                  | (have hst : M0 50 0 x1 = 0 ∨ M0 50 0 x1 = 2 := by omega
                     have hbt : M0 13 x1 0 = M0 45 0 x1 := hq2 (by omega)
                     have hP : fsP M0 (M0 13 x1 0) x3 x1 := ⟨hst, Or.inr hbt.symm, by show and3 _ 1 = 1; omega, by omega⟩
                     refine ih2 _ _ (by omega) (by omega) (hp2.up (by decide)) (((g4.tr (Ex.c he1)).tr (Ex.c he2)).up (by decide) (by decide)) (fun b g b0 b1 g0 gl => ?_)
                     by_cases q : g = x3
                     · by_cases e : b = M0 13 x1 0
                       · rw [q, e, up3_eq, g5 _ _ (by omega) (by omega) g1 (by omega), if_neg (by omega), if_pos (by omega), cn3_t h1 (decide_eq_true hP)]
                       · rw [up3_ni e, he2.1 28 (by decide), he1.1 28 (by decide)]
                         rw [g5 b g b0 b1 g0 gl, q, if_neg (by omega), if_pos (by omega), cn3_f h1 (decide_eq_false fun z => by
                           rcases z.2.1 with w | w <;> omega)]
                     · rw [up3_nj q, he2.1 28 (by decide), he1.1 28 (by decide), g5 b g b0 b1 g0 gl]
                       by_cases y : g < x3
                       · rw [if_pos y, if_pos (by omega)]
                       · rw [if_neg y, if_neg (by omega)])
                  | (have hno : ∀ b : Int, 0 ≤ b → b < 6 → ¬ fsP M0 b x3 x1 := fun b b0 b1 z => by
                       obtain ⟨z1, z2, z3, z4⟩ := z
                       have z3' : and3 (shr3 (sSd (LM3 M0) 21 (M0 44 0 0)) (M0 46 0 x1)) 1 = 1 := z3
                       omega
                     first
                       | exact ih2 _ _ (by omega) (by omega) hp2 ((g4.tr (Ex.c he1)).tr (Ex.c he2)) (no _ hno ((he2.1 28 (by decide)).trans (he1.1 28 (by decide))))
                       | exact ih2 _ _ (by omega) (by omega) hp1 (g4.tr (Ex.c he1)) (no _ hno (he1.1 28 (by decide)))
                       | exact ih2 _ _ (by omega) (by omega) g3 g4 (no _ hno rfl))
    have e10 : M 10 0 0 = M0 44 0 1 := by rw [h4.1 10 (by decide)]; exact hI.2.2.1.1
    refine sX5_foresee_39 ?_
    simp only [e10]
    refine ⟨?_, ?_⟩
    · omega
    refine ⟨fun c1 => ?_, fun c1 => ?_⟩
    · exfalso; omega
    · refine ⟨?_, ?_⟩
      · omega
      first | (exfalso; omega) | exact inner 13 0 M (by omega) (by omega) h3 h4 (fun b g b0 b1 g0 gl => by rw [if_neg (by omega)]; exact h5 b g b0 b1 g0 gl)
def poFs (M N : M3) : Prop := LwC N ∧ ∀ b g : Int, 0 ≤ b → b < 6 → 0 ≤ g → g ≤ 12 → N 28 b g = mRdy M b g
theorem kX5_foresee {E : E3} {Q : Q3} {M : M3} (h : LwC M ∧ IB M) (k : ∀ (N : M3), RM3 N → (∀ q : Nat, q ∉ ([3, 8, 9, 28] : List Nat) → N q = M q) → (∀ j : Int, j ∉ ([10] : List Int) → N 3 0 j = M 3 0 j) → poFs M N → Q none N) : C3 E YX5_foresee [vR 26 0] M Q :=
  sX5_foresee (lX5_fs2 h.1 (fun N a b c d => lX5_fs39 h.2 (fun N2 a2 b2 c2 d2 => k N2 a2 c2.1 (fun j hj => c2.2 j fun z => hj (by rw [z]; decide)) ⟨b2, d2⟩) (M 44 0 1).toNat 0 N (by omega) (by have := h.2.2.2.1.2.1; omega) b c (fun x g x0 x1 g0 g1 => d x g x0 x1 g0 g1)) 6 0 M (by omega) (by omega) fr_rf (fun b g b0 b1 g0 g1 => by omega))
