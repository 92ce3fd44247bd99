/-! CLASS: the forms -/
abbrev Hm (M N : M3) : Prop := ∀ q : Nat, 44 ≤ q → N q = M q
theorem Ec.hm {M N : M3} (e : Ec M N) : Hm M N := fun q hq => e.1 q fun z => by
  rcases List.mem_cons.mp z with z | z
  · omega
  · rcases List.mem_cons.mp z with z | z
    · omega
    · rcases List.mem_cons.mp z with z | z
      · omega
      · exact absurd z (by simp)
section HM
variable {M N : M3}
theorem LM3_q (h : Hm M N) : LM3 N = LM3 M := LM3_eq (h 52 (by decide)) (by rw [h 44 (by decide)])
theorem mNow_q (h : Hm M N) : mNow N = mNow M := by unfold mNow; rw [h 44 (by decide)]
theorem mHow_q (h : Hm M N) (f : Int) : mHow N f = mHow M f := by unfold mHow; rw [h 57 (by decide), h 62 (by decide), h 60 (by decide), mNow_q h]
theorem mRights_q (h : Hm M N) (f : Int) : mRights N f = mRights M f := by unfold mRights; rw [h 59 (by decide), h 57 (by decide), LM3_q h]
theorem mEnd_q (h : Hm M N) (f : Int) : mEnd N f = mEnd M f := by unfold mEnd; rw [mHow_q h, h 60 (by decide), mNow_q h]
theorem mLate_q (h : Hm M N) (f : Int) : mLate N f ↔ mLate M f := by unfold mLate; rw [LM3_q h, mEnd_q h, h 57 (by decide)]
theorem mLck_q (h : Hm M N) (f : Int) : mLck N f = mLck M f := by unfold mLck alw3; rw [LM3_q h, mRights_q h, h 46 (by decide), h 56 (by decide), h 57 (by decide), h 58 (by decide)]
theorem mTrue_q (h : Hm M N) (f : Int) : mTrue N f = mTrue M f := by
  rw [(mLck_c N f).2.2.2, (mLck_c M f).2.2.2, mLck_q h]
  have := mLate_q h f
  by_cases q : mLate M f
  · rw [if_pos q, if_pos (this.mpr q)]
  · rw [if_neg q, if_neg fun z => q (this.mp z)]
end HM
theorem IB.late {M : M3} (h : IB M) {f : Int} (h0 : 0 ≤ f) (h1 : f < M 44 0 18) : (0 < mHow M f ∧ mEnd M f = M 18 f 5) ∨ (¬ 0 < mHow M f ∧ mEnd M f = cTold M) := by
  by_cases q : 0 < mHow M f
  · exact Or.inl ⟨q, by rw [mEnd, if_pos q, (h.rd h0 h1 q).1]⟩
  · exact Or.inr ⟨q, by rw [mEnd, if_neg q, h.now]⟩
theorem kX2_isLate {E : E3} {Q : Q3} {M : M3} {i1 : Int} (h : LwC M ∧ IB M ∧ 0 ≤ i1 ∧ i1 < M 44 0 18) (k : ∀ (N : M3), RM3 N → Ec M N → LwC N → Q (some (vI (bo3 (mLate M i1)))) N) : C3 E YX2_isLate [vR 14 0, vR 18 i1] M Q := by
  obtain ⟨hL, hB, h0, h1⟩ := h
  have hn := hB.2.2.2.1.2.1
  have hw := hB.how h0 h1
  have hl := hB.late h0 h1
  have hnow := hB.now
  have hnr := hB.nowr
  have hd := hB.1.2.2.1
  obtain ⟨⟨f1, f2, f3, f4⟩, _, _, _, _, f6, _, f8, _⟩ := hB.f h0 h1
  have hrd : 0 < mHow M i1 → M 18 i1 5 = M 60 0 i1 ∧ M 57 0 i1 ≤ M 60 0 i1 ∧ M 60 0 i1 ≤ M 44 0 0 := fun q => by
    have a := hB.rd h0 h1 q
    have b := f6 (by have := a.2.2.2.2; omega)
    exact ⟨a.1, b.2.2.2.2.1⟩
  have s1 := hL.sd 23 (cTold M)
  have s2 := hL.sd 23 (M 18 i1 5)
  have eL := hB.L
  refine sX2_isLate ?_
  refine ⟨?_, ?_⟩
  · first | omega | exact ⟨hL, by omega, by omega⟩
  refine ⟨fun c1 => ?_, fun c1 => ?_⟩
  · refine ⟨?_, ?_⟩
    · first | omega | exact ⟨hL, by omega, by omega⟩
    intro N1 hN1 he1 hp1
    refine ⟨?_, ?_, ?_⟩
    · first | omega | exact ⟨hL, by omega, by omega⟩
    · first | omega | exact ⟨hL, by omega, by omega⟩
    refine ⟨fun c2 => ?_, fun c2 => ?_⟩
    · have k1 := k N1 hN1 he1 hp1
      have e : mEnd M i1 = cTold M ∨ mEnd M i1 = M 18 i1 5 := by omega
      rw [eL] at *
      first
        | (rw [bo3_t (show mLate M i1 by unfold mLate; first | (rw [show mEnd M i1 = cTold M by omega]; omega) | (rw [show mEnd M i1 = M 18 i1 5 by omega]; omega))] at k1; exact k1)
        | (rw [bo3_f (show ¬ mLate M i1 by unfold mLate; first | (rw [show mEnd M i1 = cTold M by omega]; omega) | (rw [show mEnd M i1 = M 18 i1 5 by omega]; omega))] at k1; exact k1)
    · have k1 := k N1 hN1 he1 hp1
      have e : mEnd M i1 = cTold M ∨ mEnd M i1 = M 18 i1 5 := by omega
      rw [eL] at *
      first
        | (rw [bo3_t (show mLate M i1 by unfold mLate; first | (rw [show mEnd M i1 = cTold M by omega]; omega) | (rw [show mEnd M i1 = M 18 i1 5 by omega]; omega))] at k1; exact k1)
        | (rw [bo3_f (show ¬ mLate M i1 by unfold mLate; first | (rw [show mEnd M i1 = cTold M by omega]; omega) | (rw [show mEnd M i1 = M 18 i1 5 by omega]; omega))] at k1; exact k1)
  · refine ⟨?_, ?_⟩
    · first | omega | exact ⟨hL, by omega, by omega⟩
    intro N1 hN1 he1 hp1
    refine ⟨?_, ?_, ?_⟩
    · first | omega | exact ⟨hL, by omega, by omega⟩
    · first | omega | exact ⟨hL, by omega, by omega⟩
    refine ⟨fun c2 => ?_, fun c2 => ?_⟩
    · have k1 := k N1 hN1 he1 hp1
      have e : mEnd M i1 = cTold M ∨ mEnd M i1 = M 18 i1 5 := by omega
      rw [eL] at *
      first
        | (rw [bo3_t (show mLate M i1 by unfold mLate; first | (rw [show mEnd M i1 = cTold M by omega]; omega) | (rw [show mEnd M i1 = M 18 i1 5 by omega]; omega))] at k1; exact k1)
        | (rw [bo3_f (show ¬ mLate M i1 by unfold mLate; first | (rw [show mEnd M i1 = cTold M by omega]; omega) | (rw [show mEnd M i1 = M 18 i1 5 by omega]; omega))] at k1; exact k1)
    · have k1 := k N1 hN1 he1 hp1
      have e : mEnd M i1 = cTold M ∨ mEnd M i1 = M 18 i1 5 := by omega
      rw [eL] at *
      first
        | (rw [bo3_t (show mLate M i1 by unfold mLate; first | (rw [show mEnd M i1 = cTold M by omega]; omega) | (rw [show mEnd M i1 = M 18 i1 5 by omega]; omega))] at k1; exact k1)
        | (rw [bo3_f (show ¬ mLate M i1 by unfold mLate; first | (rw [show mEnd M i1 = cTold M by omega]; omega) | (rw [show mEnd M i1 = M 18 i1 5 by omega]; omega))] at k1; exact k1)
theorem eX2_isLate {E : E3} {Q : Q3} {M0 M : M3} {i1 : Int} (e : Ec M0 M) (h : LwC M ∧ IB M0 ∧ 0 ≤ i1 ∧ i1 < M0 44 0 18) (k : ∀ (N : M3), RM3 N → Ec M N → LwC N → Q (some (vI (bo3 (mLate M0 i1)))) N) : C3 E YX2_isLate [vR 14 0, vR 18 i1] M Q :=
  kX2_isLate ⟨h.1, h.2.1.s (Es.c e), h.2.2.1, by rw [e.1 44 (by decide)]; exact h.2.2.2⟩ (fun N a b d => by rw [bo3_of (mLate_q e.hm i1)]; exact k N a b d)
/-! what the laws make of a form, by the class's own row -/
def cRts (M : M3) (i : Int) : Int := cn3 20 fun q => decide (M 19 i q ≠ -1 ∧ M 19 i q = sSd (LL3 M) q (M 18 i 2))
def cLck (M : M3) (i : Int) : Int := (if alw3 (LL3 M) (M 18 i 1) (M 18 i 2) then 0 else 1) + (if M 18 i 3 < sSd (LL3 M) 22 (M 18 i 2) then 2 else 0) + (if cRts M i < sSd (LL3 M) 20 (M 18 i 2) then 4 else 0)
theorem lX2_weigh {E : E3} {Q : Q3} {M0 : M3} {i1 : Int} (hz : (0 ≤ i1 ∧ i1 < 60) ∧ (0 ≤ M0 18 i1 2 ∧ M0 18 i1 2 ≤ 399)) (k : ∀ (N : M3), RM3 N → Ec (up3 (up3 M0 18 i1 9 (cRts M0 i1)) 18 i1 10 (cLck M0 i1)) N → LwC N → Q none N) : ∀ (n : Nat) (x3 x2 : Int) (M : M3), 0 ≤ x3 → x3 + n = 20 → LwC M → Ec M0 M → x2 = cn3 x3 (fun q => decide (M0 19 i1 q ≠ -1 ∧ M0 19 i1 q = sSd (LL3 M0) q (M0 18 i1 2))) → G3 E YX2_weigh Q 4 [(0, vR 14 0), (1, vR 18 i1), (2, vI x2), (3, vI x3)] [] M := by
  intro n
  induction n with
  | zero =>
    intro x3 x2 M h1 h2 h3 h4 h5
    refine g3_rm fun hM => ?_
    have rc := cn3_rg h1 (fun q => decide (M0 19 i1 q ≠ -1 ∧ M0 19 i1 q = sSd (LL3 M0) q (M0 18 i1 2)))
    have e18 : M 18 = M0 18 := h4.1 18 (by decide)
    have eU : ∀ v : Int, LL3 (up3 M 18 i1 9 v) = LL3 M0 := fun v => (LL3_eq (up3_r (by decide)) (by rw [up3_r (by decide)])).trans h4.L
    have ex : x2 = cRts M0 i1 := by rw [h5, show x3 = 20 by omega]; rfl
    have s22 := h3.sd 22 (M0 18 i1 2)
    have s20 := h3.sd 20 (M0 18 i1 2)
    rw [h4.L] at s22 s20
    have hLu : LwC (up3 M 18 i1 9 x2) := h3.up (by decide)
    obtain ⟨w1, w2, w3, w4, w5, w6, w7, w8, -⟩ := or3_c
    have fin : ∀ (N : M3) (v : Int), RM3 N → Ec (up3 M 18 i1 9 x2) N → LwC N → v = cLck M0 i1 → (0 ≤ v ∧ v ≤ 7) → Q none (up3 N 18 i1 10 v) := fun N v a b c d e => by
      refine k _ (a.up (by omega)) ?_ (c.up (by decide))
      have h6 := (Ec.tr (h4.up 18 i1 9 x2) b).up 18 i1 10 v
      rw [d, ex] at h6
      rw [d]
      exact h6
    have a1 : ¬ and3 (shr3 (sSd (LL3 M0) 21 (M0 18 i1 2)) (M0 18 i1 1)) 1 = 0 → alw3 (LL3 M0) (M0 18 i1 1) (M0 18 i1 2) := fun q => by
      rcases and3_1 (shr3 (sSd (LL3 M0) 21 (M0 18 i1 2)) (M0 18 i1 1)) with e | e
      · exact absurd e q
      · exact e
    have a0 : and3 (shr3 (sSd (LL3 M0) 21 (M0 18 i1 2)) (M0 18 i1 1)) 1 = 0 → ¬ alw3 (LL3 M0) (M0 18 i1 1) (M0 18 i1 2) := fun q z => by
      have z' : and3 (shr3 (sSd (LL3 M0) 21 (M0 18 i1 2)) (M0 18 i1 1)) 1 = 1 := z
      omega
    refine sX2_weigh_4 ?_
    simp only [e18, eU]
    refine ⟨?_, ?_⟩
    · first | omega | exact ⟨hLu, by omega, hz.2⟩ | exact ⟨hp1, by omega, hz.2⟩ | exact ⟨hp2, by omega, hz.2⟩
    refine ⟨fun c1 => ?_, fun c1 => ?_⟩
    · refine ⟨?_, ?_, ?_, ?_⟩
      · first | omega | exact ⟨hLu, by omega, hz.2⟩ | exact ⟨hp1, by omega, hz.2⟩ | exact ⟨hp2, by omega, hz.2⟩
      · first | omega | exact ⟨hLu, by omega, hz.2⟩ | exact ⟨hp1, by omega, hz.2⟩ | exact ⟨hp2, by omega, hz.2⟩
      · first | omega | exact ⟨hLu, by omega, hz.2⟩ | exact ⟨hp1, by omega, hz.2⟩ | exact ⟨hp2, by omega, hz.2⟩
      intro N1 hN1 he1 hp1
      refine ⟨fun c2 => ?_, fun c2 => ?_⟩
      · refine ⟨?_, ?_⟩
        · first | omega | exact ⟨hLu, by omega, hz.2⟩ | exact ⟨hp1, by omega, hz.2⟩ | exact ⟨hp2, by omega, hz.2⟩
        intro N2 hN2 he2 hp2
        refine ⟨?_, ?_⟩
        · first | omega | exact ⟨hLu, by omega, hz.2⟩ | exact ⟨hp1, by omega, hz.2⟩ | exact ⟨hp2, by omega, hz.2⟩
        refine ⟨fun c3 => ?_, fun c3 => ?_⟩
        · refine ⟨?_, ?_⟩
          · first | omega | exact ⟨hLu, by omega, hz.2⟩ | exact ⟨hp1, by omega, hz.2⟩ | exact ⟨hp2, by omega, hz.2⟩
          intro N3 hN3 he3 hp3
          refine ⟨?_, ?_⟩
          · first | omega | exact ⟨hLu, by omega, hz.2⟩ | exact ⟨hp1, by omega, hz.2⟩ | exact ⟨hp2, by omega, hz.2⟩
          refine ⟨fun c4 => ?_, fun c4 => ?_⟩
          · refine fin N3 _ hN3 (Ec.tr (Ec.tr he1 he2) he3) hp3 ?_ ?_
            · rw [cLck, ← ex]
              first | rw [if_pos (a1 (by assumption))] | rw [if_neg (a0 (by assumption))]
              first | rw [if_pos (show M0 18 i1 3 < sSd (LL3 M0) 22 (M0 18 i1 2) by assumption)] | rw [if_neg (show ¬ M0 18 i1 3 < sSd (LL3 M0) 22 (M0 18 i1 2) by omega)]
              first | rw [if_pos (show x2 < sSd (LL3 M0) 20 (M0 18 i1 2) by assumption)] | rw [if_neg (show ¬ x2 < sSd (LL3 M0) 20 (M0 18 i1 2) by omega)]
              try simp only [w1, w2, w3, w4, w5, w6, w7, w8]
              try omega
            · try simp only [w1, w2, w3, w4, w5, w6, w7, w8]
              omega
          · refine fin N3 _ hN3 (Ec.tr (Ec.tr he1 he2) he3) hp3 ?_ ?_
            · rw [cLck, ← ex]
              first | rw [if_pos (a1 (by assumption))] | rw [if_neg (a0 (by assumption))]
              first | rw [if_pos (show M0 18 i1 3 < sSd (LL3 M0) 22 (M0 18 i1 2) by assumption)] | rw [if_neg (show ¬ M0 18 i1 3 < sSd (LL3 M0) 22 (M0 18 i1 2) by omega)]
              first | rw [if_pos (show x2 < sSd (LL3 M0) 20 (M0 18 i1 2) by assumption)] | rw [if_neg (show ¬ x2 < sSd (LL3 M0) 20 (M0 18 i1 2) by omega)]
              try simp only [w1, w2, w3, w4, w5, w6, w7, w8]
              try omega
            · try simp only [w1, w2, w3, w4, w5, w6, w7, w8]
              omega
        · refine ⟨?_, ?_⟩
          · first | omega | exact ⟨hLu, by omega, hz.2⟩ | exact ⟨hp1, by omega, hz.2⟩ | exact ⟨hp2, by omega, hz.2⟩
          intro N3 hN3 he3 hp3
          refine ⟨?_, ?_⟩
          · first | omega | exact ⟨hLu, by omega, hz.2⟩ | exact ⟨hp1, by omega, hz.2⟩ | exact ⟨hp2, by omega, hz.2⟩
          refine ⟨fun c4 => ?_, fun c4 => ?_⟩
          · refine fin N3 _ hN3 (Ec.tr (Ec.tr he1 he2) he3) hp3 ?_ ?_
            · rw [cLck, ← ex]
              first | rw [if_pos (a1 (by assumption))] | rw [if_neg (a0 (by assumption))]
              first | rw [if_pos (show M0 18 i1 3 < sSd (LL3 M0) 22 (M0 18 i1 2) by assumption)] | rw [if_neg (show ¬ M0 18 i1 3 < sSd (LL3 M0) 22 (M0 18 i1 2) by omega)]
              first | rw [if_pos (show x2 < sSd (LL3 M0) 20 (M0 18 i1 2) by assumption)] | rw [if_neg (show ¬ x2 < sSd (LL3 M0) 20 (M0 18 i1 2) by omega)]
              try simp only [w1, w2, w3, w4, w5, w6, w7, w8]
              try omega
            · try simp only [w1, w2, w3, w4, w5, w6, w7, w8]
              omega
          · refine fin N3 _ hN3 (Ec.tr (Ec.tr he1 he2) he3) hp3 ?_ ?_
            · rw [cLck, ← ex]
              first | rw [if_pos (a1 (by assumption))] | rw [if_neg (a0 (by assumption))]
              first | rw [if_pos (show M0 18 i1 3 < sSd (LL3 M0) 22 (M0 18 i1 2) by assumption)] | rw [if_neg (show ¬ M0 18 i1 3 < sSd (LL3 M0) 22 (M0 18 i1 2) by omega)]
              first | rw [if_pos (show x2 < sSd (LL3 M0) 20 (M0 18 i1 2) by assumption)] | rw [if_neg (show ¬ x2 < sSd (LL3 M0) 20 (M0 18 i1 2) by omega)]
              try simp only [w1, w2, w3, w4, w5, w6, w7, w8]
              try omega
            · try simp only [w1, w2, w3, w4, w5, w6, w7, w8]
              omega
      · refine ⟨?_, ?_⟩
        · first | omega | exact ⟨hLu, by omega, hz.2⟩ | exact ⟨hp1, by omega, hz.2⟩ | exact ⟨hp2, by omega, hz.2⟩
        intro N2 hN2 he2 hp2
        refine ⟨?_, ?_⟩
        · first | omega | exact ⟨hLu, by omega, hz.2⟩ | exact ⟨hp1, by omega, hz.2⟩ | exact ⟨hp2, by omega, hz.2⟩
        refine ⟨fun c3 => ?_, fun c3 => ?_⟩
        · refine ⟨?_, ?_⟩
          · first | omega | exact ⟨hLu, by omega, hz.2⟩ | exact ⟨hp1, by omega, hz.2⟩ | exact ⟨hp2, by omega, hz.2⟩
          intro N3 hN3 he3 hp3
          refine ⟨?_, ?_⟩
          · first | omega | exact ⟨hLu, by omega, hz.2⟩ | exact ⟨hp1, by omega, hz.2⟩ | exact ⟨hp2, by omega, hz.2⟩
          refine ⟨fun c4 => ?_, fun c4 => ?_⟩
          · refine fin N3 _ hN3 (Ec.tr (Ec.tr he1 he2) he3) hp3 ?_ ?_
            · rw [cLck, ← ex]
              first | rw [if_pos (a1 (by assumption))] | rw [if_neg (a0 (by assumption))]
              first | rw [if_pos (show M0 18 i1 3 < sSd (LL3 M0) 22 (M0 18 i1 2) by assumption)] | rw [if_neg (show ¬ M0 18 i1 3 < sSd (LL3 M0) 22 (M0 18 i1 2) by omega)]
              first | rw [if_pos (show x2 < sSd (LL3 M0) 20 (M0 18 i1 2) by assumption)] | rw [if_neg (show ¬ x2 < sSd (LL3 M0) 20 (M0 18 i1 2) by omega)]
              try simp only [w1, w2, w3, w4, w5, w6, w7, w8]
              try omega
            · try simp only [w1, w2, w3, w4, w5, w6, w7, w8]
              omega
          · refine fin N3 _ hN3 (Ec.tr (Ec.tr he1 he2) he3) hp3 ?_ ?_
            · rw [cLck, ← ex]
              first | rw [if_pos (a1 (by assumption))] | rw [if_neg (a0 (by assumption))]
              first | rw [if_pos (show M0 18 i1 3 < sSd (LL3 M0) 22 (M0 18 i1 2) by assumption)] | rw [if_neg (show ¬ M0 18 i1 3 < sSd (LL3 M0) 22 (M0 18 i1 2) by omega)]
              first | rw [if_pos (show x2 < sSd (LL3 M0) 20 (M0 18 i1 2) by assumption)] | rw [if_neg (show ¬ x2 < sSd (LL3 M0) 20 (M0 18 i1 2) by omega)]
              try simp only [w1, w2, w3, w4, w5, w6, w7, w8]
              try omega
            · try simp only [w1, w2, w3, w4, w5, w6, w7, w8]
              omega
        · refine ⟨?_, ?_⟩
          · first | omega | exact ⟨hLu, by omega, hz.2⟩ | exact ⟨hp1, by omega, hz.2⟩ | exact ⟨hp2, by omega, hz.2⟩
          intro N3 hN3 he3 hp3
          refine ⟨?_, ?_⟩
          · first | omega | exact ⟨hLu, by omega, hz.2⟩ | exact ⟨hp1, by omega, hz.2⟩ | exact ⟨hp2, by omega, hz.2⟩
          refine ⟨fun c4 => ?_, fun c4 => ?_⟩
          · refine fin N3 _ hN3 (Ec.tr (Ec.tr he1 he2) he3) hp3 ?_ ?_
            · rw [cLck, ← ex]
              first | rw [if_pos (a1 (by assumption))] | rw [if_neg (a0 (by assumption))]
              first | rw [if_pos (show M0 18 i1 3 < sSd (LL3 M0) 22 (M0 18 i1 2) by assumption)] | rw [if_neg (show ¬ M0 18 i1 3 < sSd (LL3 M0) 22 (M0 18 i1 2) by omega)]
              first | rw [if_pos (show x2 < sSd (LL3 M0) 20 (M0 18 i1 2) by assumption)] | rw [if_neg (show ¬ x2 < sSd (LL3 M0) 20 (M0 18 i1 2) by omega)]
              try simp only [w1, w2, w3, w4, w5, w6, w7, w8]
              try omega
            · try simp only [w1, w2, w3, w4, w5, w6, w7, w8]
              omega
          · refine fin N3 _ hN3 (Ec.tr (Ec.tr he1 he2) he3) hp3 ?_ ?_
            · rw [cLck, ← ex]
              first | rw [if_pos (a1 (by assumption))] | rw [if_neg (a0 (by assumption))]
              first | rw [if_pos (show M0 18 i1 3 < sSd (LL3 M0) 22 (M0 18 i1 2) by assumption)] | rw [if_neg (show ¬ M0 18 i1 3 < sSd (LL3 M0) 22 (M0 18 i1 2) by omega)]
              first | rw [if_pos (show x2 < sSd (LL3 M0) 20 (M0 18 i1 2) by assumption)] | rw [if_neg (show ¬ x2 < sSd (LL3 M0) 20 (M0 18 i1 2) by omega)]
              try simp only [w1, w2, w3, w4, w5, w6, w7, w8]
              try omega
            · try simp only [w1, w2, w3, w4, w5, w6, w7, w8]
              omega
    · refine ⟨?_, ?_, ?_⟩
      · first | omega | exact ⟨hLu, by omega, hz.2⟩ | exact ⟨hp1, by omega, hz.2⟩ | exact ⟨hp2, by omega, hz.2⟩
      · first | omega | exact ⟨hLu, by omega, hz.2⟩ | exact ⟨hp1, by omega, hz.2⟩ | exact ⟨hp2, by omega, hz.2⟩
      refine ⟨fun c2 => ?_, fun c2 => ?_⟩
      · exfalso; omega
      · refine ⟨?_, ?_⟩
        · first | omega | exact ⟨hLu, by omega, hz.2⟩ | exact ⟨hp1, by omega, hz.2⟩ | exact ⟨hp2, by omega, hz.2⟩
        intro N1 hN1 he1 hp1
        refine ⟨?_, ?_⟩
        · first | omega | exact ⟨hLu, by omega, hz.2⟩ | exact ⟨hp1, by omega, hz.2⟩ | exact ⟨hp2, by omega, hz.2⟩
        refine ⟨fun c3 => ?_, fun c3 => ?_⟩
        · exfalso; omega
        · exfalso; omega
  | succ n ih =>
    intro x3 x2 M h1 h2 h3 h4 h5
    refine g3_rm fun hM => ?_
    have rc := cn3_rg h1 (fun q => decide (M0 19 i1 q ≠ -1 ∧ M0 19 i1 q = sSd (LL3 M0) q (M0 18 i1 2)))
    have e18 : M 18 = M0 18 := h4.1 18 (by decide)
    have e19 : M 19 = M0 19 := h4.1 19 (by decide)
    have sq := h3.sd x3 (M0 18 i1 2)
    rw [h4.L] at sq
    refine sX2_weigh_4 ?_
    simp only [e18, e19, h4.L]
    refine ⟨?_, ?_⟩
    · first | omega | exact ⟨h3, by omega, hz.2⟩ | (exfalso; omega)
    refine ⟨fun c1 => ?_, fun c1 => ?_⟩
    · refine ⟨?_, ?_, ?_, ?_⟩
      · first | omega | exact ⟨h3, by omega, hz.2⟩ | (exfalso; omega)
      · first | omega | exact ⟨h3, by omega, hz.2⟩ | (exfalso; omega)
      · first | omega | exact ⟨h3, by omega, hz.2⟩ | (exfalso; omega)
      intro N1 hN1 he1 hp1
      refine ⟨fun c2 => ?_, fun c2 => ?_⟩
      · refine ⟨?_, ?_⟩
        · first | omega | exact ⟨h3, by omega, hz.2⟩ | (exfalso; omega)
        intro N2 hN2 he2 hp2
        refine ⟨?_, ?_⟩
        · first | omega | exact ⟨h3, by omega, hz.2⟩ | (exfalso; omega)
        refine ⟨fun c3 => ?_, fun c3 => ?_⟩
        · refine ⟨?_, ?_⟩
          · first | omega | exact ⟨h3, by omega, hz.2⟩ | (exfalso; omega)
          intro N3 hN3 he3 hp3
          refine ⟨?_, ?_⟩
          · first | omega | exact ⟨h3, by omega, hz.2⟩ | (exfalso; omega)
          refine ⟨fun c4 => ?_, fun c4 => ?_⟩
          · exfalso; omega
          · exfalso; omega
        · refine ⟨?_, ?_⟩
          · first | omega | exact ⟨h3, by omega, hz.2⟩ | (exfalso; omega)
          intro N3 hN3 he3 hp3
          refine ⟨?_, ?_⟩
          · first | omega | exact ⟨h3, by omega, hz.2⟩ | (exfalso; omega)
          refine ⟨fun c4 => ?_, fun c4 => ?_⟩
          · exfalso; omega
          · exfalso; omega
      · refine ⟨?_, ?_⟩
        · first | omega | exact ⟨h3, by omega, hz.2⟩ | (exfalso; omega)
        intro N2 hN2 he2 hp2
        refine ⟨?_, ?_⟩
        · first | omega | exact ⟨h3, by omega, hz.2⟩ | (exfalso; omega)
        refine ⟨fun c3 => ?_, fun c3 => ?_⟩
        · refine ⟨?_, ?_⟩
          · first | omega | exact ⟨h3, by omega, hz.2⟩ | (exfalso; omega)
          intro N3 hN3 he3 hp3
          refine ⟨?_, ?_⟩
          · first | omega | exact ⟨h3, by omega, hz.2⟩ | (exfalso; omega)
          refine ⟨fun c4 => ?_, fun c4 => ?_⟩
          · exfalso; omega
          · exfalso; omega
        · refine ⟨?_, ?_⟩
          · first | omega | exact ⟨h3, by omega, hz.2⟩ | (exfalso; omega)
          intro N3 hN3 he3 hp3
          refine ⟨?_, ?_⟩
          · first | omega | exact ⟨h3, by omega, hz.2⟩ | (exfalso; omega)
          refine ⟨fun c4 => ?_, fun c4 => ?_⟩
          · exfalso; omega
          · exfalso; omega
    · refine ⟨?_, ?_, ?_⟩
      · first | omega | exact ⟨h3, by omega, hz.2⟩ | (exfalso; omega)
      · first | omega | exact ⟨h3, by omega, hz.2⟩ | (exfalso; omega)
      refine ⟨fun c2 => ?_, fun c2 => ?_⟩
      · first
        | (exfalso; omega)
        | exact ih _ _ _ (by omega) (by omega) (by first | exact hp1 | exact h3) (by first | exact Em.tr h4 he1 | exact Ec.tr h4 he1 | exact h4) (by
            rw [cn3_s h1, ← h5]
            first
              | (rw [if_pos (decide_eq_true ⟨by assumption, by assumption⟩)])
              | (rw [if_neg (fun z => by have := of_decide_eq_true z; omega)]; omega))
      · refine ⟨?_, ?_⟩
        · first | omega | exact ⟨h3, by omega, hz.2⟩ | (exfalso; omega)
        intro N1 hN1 he1 hp1
        refine ⟨?_, ?_⟩
        · first | omega | exact ⟨h3, by omega, hz.2⟩ | (exfalso; omega)
        refine ⟨fun c3 => ?_, fun c3 => ?_⟩
        · first
          | (exfalso; omega)
          | exact ih _ _ _ (by omega) (by omega) (by first | exact hp1 | exact h3) (by first | exact Em.tr h4 he1 | exact Ec.tr h4 he1 | exact h4) (by
              rw [cn3_s h1, ← h5]
              first
                | (rw [if_pos (decide_eq_true ⟨by assumption, by assumption⟩)])
                | (rw [if_neg (fun z => by have := of_decide_eq_true z; omega)]; omega))
        · first
          | (exfalso; omega)
          | exact ih _ _ _ (by omega) (by omega) (by first | exact hp1 | exact h3) (by first | exact Em.tr h4 he1 | exact Ec.tr h4 he1 | exact h4) (by
              rw [cn3_s h1, ← h5]
              first
                | (rw [if_pos (decide_eq_true ⟨by assumption, by assumption⟩)])
                | (rw [if_neg (fun z => by have := of_decide_eq_true z; omega)]; omega))
theorem kX2_weigh {E : E3} {Q : Q3} {M : M3} {i1 : Int} (h : LwC M ∧ (0 ≤ i1 ∧ i1 < 60) ∧ (0 ≤ M 18 i1 2 ∧ M 18 i1 2 ≤ 399)) (k : ∀ (N : M3), RM3 N → Ec (up3 (up3 M 18 i1 9 (cRts M i1)) 18 i1 10 (cLck M i1)) N → LwC N → Q none N) : C3 E YX2_weigh [vR 14 0, vR 18 i1] M Q :=
  sX2_weigh (lX2_weigh h.2 k 20 0 0 M (by omega) (by omega) h.1 Ec.rf rfl)
/-! CLASS: habits -/
def lstN (M : M3) (c s : Int) : Nat → Int
  | 0 => 0
  | n + 1 => if mHow M n = 2 ∧ M 61 0 n = c ∧ M 46 0 (M 56 0 n) = s then max (lstN M c s n) (mRights M n + 1) else lstN M c s n
def mstN (M : M3) (c s : Int) : Nat → Int
  | 0 => 21
  | n + 1 => if mHow M n = 1 ∧ M 61 0 n = c ∧ M 46 0 (M 56 0 n) = s then min (mstN M c s n) (mRights M n) else mstN M c s n
theorem lstN_s {M : M3} {c s x : Int} (h : 0 ≤ x) : lstN M c s (x + 1).toNat = if mHow M x = 2 ∧ M 61 0 x = c ∧ M 46 0 (M 56 0 x) = s then max (lstN M c s x.toNat) (mRights M x + 1) else lstN M c s x.toNat := by
  obtain ⟨k, rfl⟩ := Int.eq_ofNat_of_zero_le h
  rfl
theorem mstN_s {M : M3} {c s x : Int} (h : 0 ≤ x) : mstN M c s (x + 1).toNat = if mHow M x = 1 ∧ M 61 0 x = c ∧ M 46 0 (M 56 0 x) = s then min (mstN M c s x.toNat) (mRights M x) else mstN M c s x.toNat := by
  obtain ⟨k, rfl⟩ := Int.eq_ofNat_of_zero_le h
  rfl
theorem lstN_rg (M : M3) (c s : Int) : ∀ n : Nat, 0 ≤ lstN M c s n ∧ lstN M c s n ≤ 21
  | 0 => by unfold lstN; omega
  | n + 1 => by
    have h := lstN_rg M c s n
    have h2 := mRights_rg M n
    unfold lstN
    split <;> omega
theorem mstN_rg (M : M3) (c s : Int) : ∀ n : Nat, 0 ≤ mstN M c s n ∧ mstN M c s n ≤ 21
  | 0 => by unfold mstN; omega
  | n + 1 => by
    have h := mstN_rg M c s n
    have h2 := mRights_rg M n
    unfold mstN
    split <;> omega
def cLst (M : M3) (c s : Int) : Int := lstN M c s (M 44 0 18).toNat
def cMst (M : M3) (c s : Int) : Int := mstN M c s (M 44 0 18).toNat
theorem lX2_leastAsked {E : E3} {Q : Q3} {M : M3} {x1 x2 : Int} (hI : IA M) (hx : (0 ≤ x1 ∧ x1 ≤ 3) ∧ (0 ≤ x2 ∧ x2 ≤ 1)) (k : Q (some (vI (cLst M x1 x2))) M) : ∀ (n : Nat) (x4 x3 : Int), 0 ≤ x4 → x4 + n = M 44 0 18 → x3 = lstN M x1 x2 x4.toNat → G3 E YX2_leastAsked Q 5 [(0, vR 14 0), (1, vI x1), (2, vI x2), (3, vI x3), (4, vI x4)] [] M := by
  intro n
  induction n with
  | zero =>
    intro x4 x3 h1 h2 h3
    refine g3_rm fun hM => ?_
    obtain ⟨hB, hW⟩ := hI
    have hn := hB.2.2.2.1.2.1
    have e14 : M 14 0 0 = M 44 0 18 := hB.2.2.2.1.1
    have r3 := lstN_rg M x1 x2 x4.toNat
    refine sX2_leastAsked_5 ?_
    refine ⟨?_, ?_⟩
    · first | omega | (exfalso; omega)
    refine ⟨fun c1 => ?_, fun c1 => ?_⟩
    · first | (exfalso; omega) | (rw [cLst, ← show x4 = M 44 0 18 by omega, ← h3] at k; exact k)
    · refine ⟨?_, ?_⟩
      · first | omega | (exfalso; omega)
      refine ⟨fun c2 => ?_, fun c2 => ?_⟩
      · exfalso; omega
      · refine ⟨?_, ?_⟩
        · first | omega | (exfalso; omega)
        refine ⟨fun c3 => ?_, fun c3 => ?_⟩
        · exfalso; omega
        · refine ⟨?_, ?_⟩
          · first | omega | (exfalso; omega)
          refine ⟨fun c4 => ?_, fun c4 => ?_⟩
          · exfalso; omega
          · refine ⟨fun c5 => ?_, fun c5 => ?_⟩
            · exfalso; omega
            · refine ⟨?_, ?_, ?_⟩
              · first | omega | (exfalso; omega)
              · first | omega | (exfalso; omega)
              exfalso; omega
  | succ n ih =>
    intro x4 x3 h1 h2 h3
    refine g3_rm fun hM => ?_
    obtain ⟨hB, hW⟩ := hI
    have hn := hB.2.2.2.1.2.1
    have e14 : M 14 0 0 = M 44 0 18 := hB.2.2.2.1.1
    have r3 := lstN_rg M x1 x2 x4.toNat
    have hw := hB.how h1 (show x4 < M 44 0 18 by omega)
    have hv := mHow_v hB h1 (show x4 < M 44 0 18 by omega)
    have hrd : 0 < mHow M x4 → M 18 x4 5 = M 60 0 x4 ∧ M 18 x4 6 = M 61 0 x4 ∧ (M 18 x4 7 = 1 ↔ mHow M x4 = 1) ∧ M 18 x4 8 = M 63 0 x4 ∧ mHow M x4 = M 62 0 x4 := fun q => hB.rd h1 (by omega) q
    have fx := hB.f h1 (show x4 < M 44 0 18 by omega)
    have f1 := fx.1
    have f7 := fx.2.2.2.1
    have hww := hW x4 h1 (by omega)
    have rr := mRights_rg M x4
    refine sX2_leastAsked_5 ?_
    refine ⟨?_, ?_⟩
    · first | omega | (exfalso; omega)
    refine ⟨fun c1 => ?_, fun c1 => ?_⟩
    · exfalso; omega
    · refine ⟨?_, ?_⟩
      · first | omega | (exfalso; omega)
      refine ⟨fun c2 => ?_, fun c2 => ?_⟩
      · refine ih _ _ (by omega) (by omega) ?_
        rw [lstN_s h1, ← h3]
        first
          | (rw [if_neg (by omega)])
          | (rw [if_pos (by omega), hww.1])
      · refine ⟨?_, ?_⟩
        · first | omega | (exfalso; omega)
        refine ⟨fun c3 => ?_, fun c3 => ?_⟩
        · refine ih _ _ (by omega) (by omega) ?_
          rw [lstN_s h1, ← h3]
          first
            | (rw [if_neg (by omega)])
            | (rw [if_pos (by omega), hww.1])
        · refine ⟨?_, ?_⟩
          · first | omega | (exfalso; omega)
          refine ⟨fun c4 => ?_, fun c4 => ?_⟩
          · refine ih _ _ (by omega) (by omega) ?_
            rw [lstN_s h1, ← h3]
            first
              | (rw [if_neg (by omega)])
              | (rw [if_pos (by omega), hww.1])
          · refine ⟨fun c5 => ?_, fun c5 => ?_⟩
            · refine ih _ _ (by omega) (by omega) ?_
              rw [lstN_s h1, ← h3]
              first
                | (rw [if_neg (by omega)])
                | (rw [if_pos (by omega), hww.1])
            · refine ⟨?_, ?_, ?_⟩
              · first | omega | (exfalso; omega)
              · first | omega | (exfalso; omega)
              refine ih _ _ (by omega) (by omega) ?_
              rw [lstN_s h1, ← h3]
              first
                | (rw [if_neg (by omega)])
                | (rw [if_pos (by omega), hww.1])
theorem kX2_leastAsked {E : E3} {Q : Q3} {M : M3} {x1 x2 : Int} (h : IA M ∧ (0 ≤ x1 ∧ x1 ≤ 3) ∧ (0 ≤ x2 ∧ x2 ≤ 1)) (k : Q (some (vI (cLst M x1 x2))) M) : C3 E YX2_leastAsked [vR 14 0, vI x1, vI x2] M Q :=
  sX2_leastAsked (lX2_leastAsked h.1 h.2 k (M 44 0 18).toNat 0 0 (by omega) (by have := h.1.1.2.2.2.1.2.1; omega) rfl)
theorem lX2_mostAsked {E : E3} {Q : Q3} {M : M3} {x1 x2 : Int} (hI : IA M) (hx : (0 ≤ x1 ∧ x1 ≤ 3) ∧ (0 ≤ x2 ∧ x2 ≤ 1)) (k : Q (some (vI (cMst M x1 x2))) M) : ∀ (n : Nat) (x4 x3 : Int), 0 ≤ x4 → x4 + n = M 44 0 18 → x3 = mstN M x1 x2 x4.toNat → G3 E YX2_mostAsked Q 6 [(0, vR 14 0), (1, vI x1), (2, vI x2), (3, vI x3), (4, vI x4)] [] M := by
  intro n
  induction n with
  | zero =>
    intro x4 x3 h1 h2 h3
    refine g3_rm fun hM => ?_
    obtain ⟨hB, hW⟩ := hI
    have hn := hB.2.2.2.1.2.1
    have e14 : M 14 0 0 = M 44 0 18 := hB.2.2.2.1.1
    have r3 := mstN_rg M x1 x2 x4.toNat
    refine sX2_mostAsked_6 ?_
    refine ⟨?_, ?_⟩
    · first | omega | (exfalso; omega)
    refine ⟨fun c1 => ?_, fun c1 => ?_⟩
    · first | (exfalso; omega) | (rw [cMst, ← show x4 = M 44 0 18 by omega, ← h3] at k; exact k)
    · refine ⟨?_, ?_⟩
      · first | omega | (exfalso; omega)
      refine ⟨fun c2 => ?_, fun c2 => ?_⟩
      · exfalso; omega
      · refine ⟨?_, ?_⟩
        · first | omega | (exfalso; omega)
        refine ⟨fun c3 => ?_, fun c3 => ?_⟩
        · exfalso; omega
        · refine ⟨?_, ?_⟩
          · first | omega | (exfalso; omega)
          refine ⟨fun c4 => ?_, fun c4 => ?_⟩
          · exfalso; omega
          · refine ⟨fun c5 => ?_, fun c5 => ?_⟩
            · exfalso; omega
            · refine ⟨?_, ?_⟩
              · first | omega | (exfalso; omega)
              exfalso; omega
  | succ n ih =>
    intro x4 x3 h1 h2 h3
    refine g3_rm fun hM => ?_
    obtain ⟨hB, hW⟩ := hI
    have hn := hB.2.2.2.1.2.1
    have e14 : M 14 0 0 = M 44 0 18 := hB.2.2.2.1.1
    have r3 := mstN_rg M x1 x2 x4.toNat
    have hw := hB.how h1 (show x4 < M 44 0 18 by omega)
    have hv := mHow_v hB h1 (show x4 < M 44 0 18 by omega)
    have hrd : 0 < mHow M x4 → M 18 x4 5 = M 60 0 x4 ∧ M 18 x4 6 = M 61 0 x4 ∧ (M 18 x4 7 = 1 ↔ mHow M x4 = 1) ∧ M 18 x4 8 = M 63 0 x4 ∧ mHow M x4 = M 62 0 x4 := fun q => hB.rd h1 (by omega) q
    have fx := hB.f h1 (show x4 < M 44 0 18 by omega)
    have f1 := fx.1
    have f7 := fx.2.2.2.1
    have hww := hW x4 h1 (by omega)
    have rr := mRights_rg M x4
    refine sX2_mostAsked_6 ?_
    refine ⟨?_, ?_⟩
    · first | omega | (exfalso; omega)
    refine ⟨fun c1 => ?_, fun c1 => ?_⟩
    · exfalso; omega
    · refine ⟨?_, ?_⟩
      · first | omega | (exfalso; omega)
      refine ⟨fun c2 => ?_, fun c2 => ?_⟩
      · refine ih _ _ (by omega) (by omega) ?_
        rw [mstN_s h1, ← h3]
        first
          | (rw [if_neg (by omega)])
          | (rw [if_pos (by omega), hww.1])
      · refine ⟨?_, ?_⟩
        · first | omega | (exfalso; omega)
        refine ⟨fun c3 => ?_, fun c3 => ?_⟩
        · refine ih _ _ (by omega) (by omega) ?_
          rw [mstN_s h1, ← h3]
          first
            | (rw [if_neg (by omega)])
            | (rw [if_pos (by omega), hww.1])
        · refine ⟨?_, ?_⟩
          · first | omega | (exfalso; omega)
          refine ⟨fun c4 => ?_, fun c4 => ?_⟩
          · refine ih _ _ (by omega) (by omega) ?_
            rw [mstN_s h1, ← h3]
            first
              | (rw [if_neg (by omega)])
              | (rw [if_pos (by omega), hww.1])
          · refine ⟨fun c5 => ?_, fun c5 => ?_⟩
            · refine ih _ _ (by omega) (by omega) ?_
              rw [mstN_s h1, ← h3]
              first
                | (rw [if_neg (by omega)])
                | (rw [if_pos (by omega), hww.1])
            · refine ⟨?_, ?_⟩
              · first | omega | (exfalso; omega)
              refine ih _ _ (by omega) (by omega) ?_
              rw [mstN_s h1, ← h3]
              first
                | (rw [if_neg (by omega)])
                | (rw [if_pos (by omega), hww.1])
theorem kX2_mostAsked {E : E3} {Q : Q3} {M : M3} {x1 x2 : Int} (h : IA M ∧ (0 ≤ x1 ∧ x1 ≤ 3) ∧ (0 ≤ x2 ∧ x2 ≤ 1)) (k : Q (some (vI (cMst M x1 x2))) M) : C3 E YX2_mostAsked [vR 14 0, vI x1, vI x2] M Q :=
  sX2_mostAsked (lX2_mostAsked h.1 h.2 k (M 44 0 18).toNat 0 21 (by omega) (by have := h.1.1.2.2.2.1.2.1; omega) rfl)
theorem cn3_int {a b : Int} (ha : 0 ≤ a) : ∀ n : Nat, cnN (fun k => decide (a ≤ k ∧ k ≤ b)) n = max 0 (min (n : Int) (b + 1) - a)
  | 0 => by show (0 : Int) = _; omega
  | n + 1 => by
    show cnN (fun k => decide (a ≤ k ∧ k ≤ b)) n + (if decide (a ≤ (n : Int) ∧ (n : Int) ≤ b) = true then 1 else 0) = _
    rw [cn3_int ha n]
    by_cases q : a ≤ (n : Int) ∧ (n : Int) ≤ b
    · rw [if_pos (decide_eq_true q)]
      omega
    · rw [if_neg fun z => q (of_decide_eq_true z)]
      omega
theorem ite_c (P : Prop) [Decidable P] (a b : Int) : (P ∧ (if P then a else b) = a) ∨ (¬ P ∧ (if P then a else b) = b) := by
  by_cases q : P
  · exact Or.inl ⟨q, if_pos q⟩
  · exact Or.inr ⟨q, if_neg q⟩
theorem fit_iff {M : M3} (h : IB M) {c s fr : Int} (h0 : 0 ≤ fr ∧ fr ≤ 21) : mFit M c s fr ↔ cLst M c s ≤ fr ∧ fr ≤ cMst M c s := by
  have key : ∀ n : Nat, (n : Int) ≤ M 44 0 18 → (cnN (fun f => decide (0 < mHow M f ∧ M 61 0 f = c ∧ M 46 0 (M 56 0 f) = s ∧ ((mHow M f = 1 ∧ mRights M f < fr) ∨ (mHow M f ≠ 1 ∧ fr ≤ mRights M f)))) n = 0 ↔ lstN M c s n ≤ fr ∧ fr ≤ mstN M c s n) := by
    intro n
    induction n with
    | zero =>
      intro _
      show ((0 : Int) = 0) ↔ ((0 : Int) ≤ fr ∧ fr ≤ 21)
      exact ⟨fun _ => h0, fun _ => rfl⟩
    | succ n ih =>
      intro hn
      have hi := ih (by omega)
      have hv := mHow_v h (f := (n : Int)) (by omega) (by omega)
      have rr := mRights_rg M n
      have r3 := (cnN_rg (fun f => decide (0 < mHow M f ∧ M 61 0 f = c ∧ M 46 0 (M 56 0 f) = s ∧ ((mHow M f = 1 ∧ mRights M f < fr) ∨ (mHow M f ≠ 1 ∧ fr ≤ mRights M f)))) n).1
      show (cnN _ n + (if decide (0 < mHow M n ∧ M 61 0 n = c ∧ M 46 0 (M 56 0 n) = s ∧ ((mHow M n = 1 ∧ mRights M n < fr) ∨ (mHow M n ≠ 1 ∧ fr ≤ mRights M n))) = true then 1 else 0) = 0) ↔ (if mHow M n = 2 ∧ M 61 0 n = c ∧ M 46 0 (M 56 0 n) = s then max (lstN M c s n) (mRights M n + 1) else lstN M c s n) ≤ fr ∧ fr ≤ (if mHow M n = 1 ∧ M 61 0 n = c ∧ M 46 0 (M 56 0 n) = s then min (mstN M c s n) (mRights M n) else mstN M c s n)
      have nob : ¬ (0 < mHow M n ∧ M 61 0 n = c ∧ M 46 0 (M 56 0 n) = s ∧ ((mHow M n = 1 ∧ mRights M n < fr) ∨ (mHow M n ≠ 1 ∧ fr ≤ mRights M n))) → (if decide (0 < mHow M n ∧ M 61 0 n = c ∧ M 46 0 (M 56 0 n) = s ∧ ((mHow M n = 1 ∧ mRights M n < fr) ∨ (mHow M n ≠ 1 ∧ fr ≤ mRights M n))) = true then (1 : Int) else 0) = 0 := fun q => if_neg fun z => q (of_decide_eq_true z)
      have yeb : (0 < mHow M n ∧ M 61 0 n = c ∧ M 46 0 (M 56 0 n) = s ∧ ((mHow M n = 1 ∧ mRights M n < fr) ∨ (mHow M n ≠ 1 ∧ fr ≤ mRights M n))) → (if decide (0 < mHow M n ∧ M 61 0 n = c ∧ M 46 0 (M 56 0 n) = s ∧ ((mHow M n = 1 ∧ mRights M n < fr) ∨ (mHow M n ≠ 1 ∧ fr ≤ mRights M n))) = true then (1 : Int) else 0) = 1 := fun q => if_pos (decide_eq_true q)
      have L0 : ¬ (mHow M n = 2 ∧ M 61 0 n = c ∧ M 46 0 (M 56 0 n) = s) → (if mHow M n = 2 ∧ M 61 0 n = c ∧ M 46 0 (M 56 0 n) = s then max (lstN M c s n) (mRights M n + 1) else lstN M c s n) = lstN M c s n := fun q => if_neg q
      have L1 : (mHow M n = 2 ∧ M 61 0 n = c ∧ M 46 0 (M 56 0 n) = s) → (if mHow M n = 2 ∧ M 61 0 n = c ∧ M 46 0 (M 56 0 n) = s then max (lstN M c s n) (mRights M n + 1) else lstN M c s n) = max (lstN M c s n) (mRights M n + 1) := fun q => if_pos q
      have N0 : ¬ (mHow M n = 1 ∧ M 61 0 n = c ∧ M 46 0 (M 56 0 n) = s) → (if mHow M n = 1 ∧ M 61 0 n = c ∧ M 46 0 (M 56 0 n) = s then min (mstN M c s n) (mRights M n) else mstN M c s n) = mstN M c s n := fun q => if_neg q
      have N1 : (mHow M n = 1 ∧ M 61 0 n = c ∧ M 46 0 (M 56 0 n) = s) → (if mHow M n = 1 ∧ M 61 0 n = c ∧ M 46 0 (M 56 0 n) = s then min (mstN M c s n) (mRights M n) else mstN M c s n) = min (mstN M c s n) (mRights M n) := fun q => if_pos q
      by_cases p : M 61 0 n = c ∧ M 46 0 (M 56 0 n) = s
      · rcases hv with hv | hv | hv
        · rw [nob (fun z => by have := z.1; omega), L0 (fun z => by have := z.1; omega), N0 (fun z => by have := z.1; omega), Int.add_zero]
          exact hi
        · rw [L0 (fun z => by have := z.1; omega), N1 ⟨hv, p⟩]
          by_cases b : mRights M n < fr
          · rw [yeb ⟨by omega, p.1, p.2, Or.inl ⟨hv, b⟩⟩]
            constructor
            · intro z
              omega
            · intro z
              omega
          · rw [nob (fun z => by have := z.2.2.2; omega), Int.add_zero, hi]
            omega
        · rw [L1 ⟨hv, p⟩, N0 (fun z => by have := z.1; omega)]
          by_cases b : fr ≤ mRights M n
          · rw [yeb ⟨by omega, p.1, p.2, Or.inr ⟨by omega, b⟩⟩]
            constructor
            · intro z
              omega
            · intro z
              omega
          · rw [nob (fun z => by have := z.2.2.2; omega), Int.add_zero, hi]
            omega
      · rw [nob (fun z => p ⟨z.2.1, z.2.2.1⟩), L0 (fun z => p z.2), N0 (fun z => p z.2), Int.add_zero]
        exact hi
  exact key (M 44 0 18).toNat (by have := h.2.2.2.1.2.1; omega)
theorem fit_n {M : M3} (h : IB M) (c s : Int) (n : Int) (hn : 0 ≤ n ∧ n ≤ 22) : cn3 n (fun z => decide (mFit M c s z)) = max 0 (min n (cMst M c s + 1) - cLst M c s) := by
  have r1 := lstN_rg M c s (M 44 0 18).toNat
  have r2 := mstN_rg M c s (M 44 0 18).toNat
  have e : cn3 n (fun z => decide (mFit M c s z)) = cn3 n (fun k => decide (cLst M c s ≤ k ∧ k ≤ cMst M c s)) := cn3_congr fun k a b => decide_eq_decide.mpr (fit_iff h ⟨a, by omega⟩)
  rw [e]
  have := cn3_int (a := cLst M c s) (b := cMst M c s) r1.1 n.toNat
  rw [show ((n.toNat : Nat) : Int) = n by omega] at this
  exact this
theorem ftg_is {M : M3} (h : IB M) (c s : Int) : mFtg M c s = max 0 (cMst M c s - cLst M c s + 1) := by
  have r2 := mstN_rg M c s (M 44 0 18).toNat
  have e := fit_n h c s 22 (by omega)
  have e2 : cMst M c s = mstN M c s (M 44 0 18).toNat := rfl
  rw [mFtg, e]
  omega
theorem at_is {M : M3} (h : IB M) {c s i : Int} (hi : 0 ≤ i ∧ i < mFtg M c s) : mAt M c s i = cLst M c s + i := by
  have e := ftg_is h c s
  have r1 := lstN_rg M c s (M 44 0 18).toNat
  have r2 := mstN_rg M c s (M 44 0 18).toNat
  have e1 : cLst M c s = lstN M c s (M 44 0 18).toNat := rfl
  have e2 : cMst M c s = mstN M c s (M 44 0 18).toNat := rfl
  refine mAt_is (by omega) ((fit_iff h (by omega)).mpr ⟨by omega, by omega⟩) ?_
  rw [fit_n h c s _ (by omega)]
  omega
