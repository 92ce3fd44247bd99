/-! CLASS: parted, weighed, handed in -/
theorem ptd_c {M : M3} (hI : IA M) {f x1 x2 : Int} (h0 : 0 ≤ f) (h1 : f < M 44 0 18) (hx : 0 ≤ x2 ∧ x2 ≤ 2) : (((x2 = 2 ∧ mFls M f) ∨ (x2 ≠ 2 ∧ mPtd M f ∧ mHow M f = x2 + 1)) ∧ (x1 = -1 ∨ M 46 0 (M 56 0 f) = x1)) ↔ (0 < mHow M f ∧ (x1 = -1 ∨ M 18 f 1 = x1) ∧ ((x2 = 0 ∧ M 18 f 7 ≠ 0 ∧ M 18 f 10 ≠ 0) ∨ (x2 = 1 ∧ M 18 f 7 = 0 ∧ M 18 f 10 = 0) ∨ (x2 = 2 ∧ M 18 f 7 = 0 ∧ and3 (shr3 (mTrue M f) (M 18 f 8)) 1 = 0))) := by
  obtain ⟨hB, hW⟩ := hI
  obtain ⟨⟨f1, f2, f3, f4⟩, _, _, f7, _⟩ := hB.f h0 h1
  have e10 := (hW f h0 h1).2
  have lc := (mLck_c M f).1
  rw [← e10] at lc
  have hv := mHow_v hB h0 h1
  rw [f2]
  by_cases q : 0 < mHow M f
  · obtain ⟨r1, r2, r3, r4, r5⟩ := hB.rd h0 h1 q
    rw [r4]
    by_cases b : mByT M f
    · have lb := lc.mpr b
      constructor
      · rintro ⟨z, w⟩
        refine ⟨q, w, ?_⟩
        rcases z with ⟨z1, z2, z3⟩ | ⟨z1, ⟨z2, z3⟩, z4⟩
        · exact Or.inr (Or.inr ⟨z1, by omega, z3⟩)
        · rcases z3 with z3 | z3
          · exact absurd b z3.2
          · exact Or.inr (Or.inl ⟨by omega, by omega, lb⟩)
      · rintro ⟨_, w, z⟩
        refine ⟨?_, w⟩
        rcases z with ⟨z1, z2, z3⟩ | ⟨z1, z2, z3⟩ | ⟨z1, z2, z3⟩
        · exact absurd lb z3
        · exact Or.inr ⟨by omega, ⟨q, Or.inr ⟨by omega, b⟩⟩, by omega⟩
        · exact Or.inl ⟨z1, by omega, z3⟩
    · have lb : ¬ M 18 f 10 = 0 := fun z => b (lc.mp z)
      constructor
      · rintro ⟨z, w⟩
        refine ⟨q, w, ?_⟩
        rcases z with ⟨z1, z2, z3⟩ | ⟨z1, ⟨z2, z3⟩, z4⟩
        · exact Or.inr (Or.inr ⟨z1, by omega, z3⟩)
        · rcases z3 with z3 | z3
          · exact Or.inl ⟨by omega, by omega, lb⟩
          · exact absurd z3.2 b
      · rintro ⟨_, w, z⟩
        refine ⟨?_, w⟩
        rcases z with ⟨z1, z2, z3⟩ | ⟨z1, z2, z3⟩ | ⟨z1, z2, z3⟩
        · exact Or.inr ⟨by omega, ⟨q, Or.inl ⟨by omega, b⟩⟩, by omega⟩
        · exact absurd z3 lb
        · exact Or.inl ⟨z1, by omega, z3⟩
  · constructor
    · rintro ⟨z, w⟩
      rcases z with ⟨z1, z2, z3⟩ | ⟨z1, ⟨z2, z3⟩, z4⟩
      · omega
      · omega
    · rintro ⟨z, w⟩
      exact absurd z q
theorem lX2_partedOnes {E : E3} {Q : Q3} {M0 : M3} {x1 x2 : Int} (hI : IA M0) (hx : (-1 ≤ x1 ∧ x1 ≤ 1) ∧ 0 ≤ x2 ∧ x2 ≤ 2) (k : ∀ (N : M3), RM3 N → Ec M0 N → LwC N → Q (some (vI (mParted M0 x1 x2))) N) : ∀ (n : Nat) (x4 x3 : Int) (M : M3), 0 ≤ x4 → x4 + n = M0 44 0 18 → LwC M → Ec (M0) M → x3 = cn3 x4 (fun p => decide (((x2 = 2 ∧ mFls M0 p) ∨ (x2 ≠ 2 ∧ mPtd M0 p ∧ mHow M0 p = x2 + 1)) ∧ (x1 = -1 ∨ M0 46 0 (M0 56 0 p) = x1))) → G3 E YX2_partedOnes Q 5 [(0, vR 14 0), (1, vI x1), (2, vI x2), (3, vI x3), (4, vI x4)] [] M := by
  intro n
  induction n with
  | zero =>
    intro x4 x3 M h1 h2 h3 h4 h5
    refine g3_rm fun hM => ?_
    have hn := hI.1.2.2.2.1.2.1
    have e14 : M 14 0 0 = M0 44 0 18 := by rw [h4.1 14 (by decide)]; exact hI.1.2.2.2.1.1
    have e18 : M 18 = M0 18 := h4.1 18 (by decide)
    have eT : cTold M = cTold M0 := by unfold cTold; rw [h4.1 2 (by decide)]
    have eR : ∀ f : Int, mTrue M f = mTrue M0 f := fun f => mTrue_q h4.hm f
    refine sX2_partedOnes_5 ?_
    simp only [e14, e18, eT, eR]
    refine ⟨?_, ?_⟩
    · first | omega | exact ⟨h3, hI.s (Es.c h4), h1, by rw [h4.1 44 (by decide)]; omega⟩ | (exfalso; omega)
    refine ⟨fun c1 => ?_, fun c1 => ?_⟩
    · first
        | (exfalso; omega)
        | (rw [h5, show x4 = M0 44 0 18 by omega]; exact k M hM h4 h3)
    · refine ⟨?_, ?_⟩
      · first | omega | exact ⟨h3, hI.s (Es.c h4), h1, by rw [h4.1 44 (by decide)]; omega⟩ | (exfalso; omega)
      refine ⟨fun c2 => ?_, fun c2 => ?_⟩
      · exfalso; omega
      · refine ⟨?_, ?_⟩
        · first | omega | exact ⟨h3, hI.s (Es.c h4), h1, by rw [h4.1 44 (by decide)]; omega⟩ | (exfalso; omega)
        refine ⟨fun c3 => ?_, fun c3 => ?_⟩
        · refine ⟨?_, ?_⟩
          · first | omega | exact ⟨h3, hI.s (Es.c h4), h1, by rw [h4.1 44 (by decide)]; omega⟩ | (exfalso; omega)
          refine ⟨fun c4 => ?_, fun c4 => ?_⟩
          · refine ⟨fun c5 => ?_, fun c5 => ?_⟩
            · exfalso; omega
            · refine ⟨fun c6 => ?_, fun c6 => ?_⟩
              · exfalso; omega
              · exfalso; omega
          · refine ⟨fun c5 => ?_, fun c5 => ?_⟩
            · refine ⟨fun c6 => ?_, fun c6 => ?_⟩
              · exfalso; omega
              · refine ⟨fun c7 => ?_, fun c7 => ?_⟩
                · exfalso; omega
                · exfalso; omega
            · refine ⟨fun c6 => ?_, fun c6 => ?_⟩
              · exfalso; omega
              · refine ⟨?_, ?_⟩
                · first | omega | exact ⟨h3, hI.s (Es.c h4), h1, by rw [h4.1 44 (by decide)]; omega⟩ | (exfalso; omega)
                intro N1 hN1 he1 hp1
                refine ⟨fun c7 => ?_, fun c7 => ?_⟩
                · exfalso; omega
                · exfalso; omega
        · refine ⟨fun c4 => ?_, fun c4 => ?_⟩
          · exfalso; omega
          · refine ⟨?_, ?_⟩
            · first | omega | exact ⟨h3, hI.s (Es.c h4), h1, by rw [h4.1 44 (by decide)]; omega⟩ | (exfalso; omega)
            refine ⟨fun c5 => ?_, fun c5 => ?_⟩
            · refine ⟨fun c6 => ?_, fun c6 => ?_⟩
              · exfalso; omega
              · refine ⟨fun c7 => ?_, fun c7 => ?_⟩
                · exfalso; omega
                · exfalso; omega
            · refine ⟨fun c6 => ?_, fun c6 => ?_⟩
              · refine ⟨fun c7 => ?_, fun c7 => ?_⟩
                · exfalso; omega
                · refine ⟨fun c8 => ?_, fun c8 => ?_⟩
                  · exfalso; omega
                  · exfalso; omega
              · refine ⟨fun c7 => ?_, fun c7 => ?_⟩
                · exfalso; omega
                · refine ⟨?_, ?_⟩
                  · first | omega | exact ⟨h3, hI.s (Es.c h4), h1, by rw [h4.1 44 (by decide)]; omega⟩ | (exfalso; omega)
                  intro N1 hN1 he1 hp1
                  refine ⟨fun c8 => ?_, fun c8 => ?_⟩
                  · exfalso; omega
                  · exfalso; omega
  | succ n ih =>
    intro x4 x3 M h1 h2 h3 h4 h5
    refine g3_rm fun hM => ?_
    have hn := hI.1.2.2.2.1.2.1
    have e14 : M 14 0 0 = M0 44 0 18 := by rw [h4.1 14 (by decide)]; exact hI.1.2.2.2.1.1
    have e18 : M 18 = M0 18 := h4.1 18 (by decide)
    have eT : cTold M = cTold M0 := by unfold cTold; rw [h4.1 2 (by decide)]
    have eR : ∀ f : Int, mTrue M f = mTrue M0 f := fun f => mTrue_q h4.hm f
    have hw : ∀ _ : Bool, _ := fun _ => hI.1.how h1 (show x4 < M0 44 0 18 by omega)
    have pt : ∀ _ : Bool, _ := fun _ => ptd_c (x1 := x1) hI h1 (show x4 < M0 44 0 18 by omega) hx.2
    have f1 := (hI.1.f h1 (show x4 < M0 44 0 18 by omega)).1
    have t := mLck_c M0 x4
    have tr : -1000 ≤ mTrue M0 x4 ∧ mTrue M0 x4 ≤ 1000 := by
      have a := t.2.1
      have b := t.2.2.1
      rw [t.2.2.2]
      split <;> omega
    clear t
    refine sX2_partedOnes_5 ?_
    simp only [e14, e18, eT, eR]
    refine ⟨?_, ?_⟩
    · first | omega | exact ⟨h3, hI.s (Es.c h4), h1, by rw [h4.1 44 (by decide)]; omega⟩ | (exfalso; omega)
    refine ⟨fun c1 => ?_, fun c1 => ?_⟩
    · exfalso; omega
    · refine ⟨?_, ?_⟩
      · first | omega | exact ⟨h3, hI.s (Es.c h4), h1, by rw [h4.1 44 (by decide)]; omega⟩ | (exfalso; omega)
      refine ⟨fun c2 => ?_, fun c2 => ?_⟩
      · first
          | (exfalso; omega)
          | (have hP : ((x2 = 2 ∧ mFls M0 x4) ∨ (x2 ≠ 2 ∧ mPtd M0 x4 ∧ mHow M0 x4 = x2 + 1)) ∧ (x1 = -1 ∨ M0 46 0 (M0 56 0 x4) = x1) := (pt true).mpr ⟨(hw true).mp (by assumption), by omega, by first | exact Or.inl ⟨by assumption, by assumption, by assumption⟩ | exact Or.inr (Or.inl ⟨by assumption, by assumption, by assumption⟩) | exact Or.inr (Or.inr ⟨by omega, by assumption, by assumption⟩)⟩
             exact ih _ _ _ (by omega) (by omega) (by first | exact hp1 | exact h3) (by first | exact Ec.tr h4 he1 | exact h4) (by rw [cn3_t h1 (decide_eq_true hP), h5]))
          | (have hP : ¬ (((x2 = 2 ∧ mFls M0 x4) ∨ (x2 ≠ 2 ∧ mPtd M0 x4 ∧ mHow M0 x4 = x2 + 1)) ∧ (x1 = -1 ∨ M0 46 0 (M0 56 0 x4) = x1)) := fun z => by
               obtain ⟨z1, z2, z3⟩ := (pt true).mp z
               first
                 | exact absurd ((hw true).mpr z1) (by assumption)
                 | omega
                 | (rcases z3 with ⟨y1, y2, y3⟩ | ⟨y1, y2, y3⟩ | ⟨y1, y2, y3⟩ <;> first | omega | contradiction)
             exact ih _ _ _ (by omega) (by omega) (by first | exact hp1 | exact h3) (by first | exact Ec.tr h4 he1 | exact h4) (by rw [cn3_f h1 (decide_eq_false hP), h5]))
      · refine ⟨?_, ?_⟩
        · first | omega | exact ⟨h3, hI.s (Es.c h4), h1, by rw [h4.1 44 (by decide)]; omega⟩ | (exfalso; omega)
        refine ⟨fun c3 => ?_, fun c3 => ?_⟩
        · refine ⟨?_, ?_⟩
          · first | omega | exact ⟨h3, hI.s (Es.c h4), h1, by rw [h4.1 44 (by decide)]; omega⟩ | (exfalso; omega)
          refine ⟨fun c4 => ?_, fun c4 => ?_⟩
          · refine ⟨fun c5 => ?_, fun c5 => ?_⟩
            · first
                | (exfalso; omega)
                | (have hP : ((x2 = 2 ∧ mFls M0 x4) ∨ (x2 ≠ 2 ∧ mPtd M0 x4 ∧ mHow M0 x4 = x2 + 1)) ∧ (x1 = -1 ∨ M0 46 0 (M0 56 0 x4) = x1) := (pt true).mpr ⟨(hw true).mp (by assumption), by omega, by first | exact Or.inl ⟨by assumption, by assumption, by assumption⟩ | exact Or.inr (Or.inl ⟨by assumption, by assumption, by assumption⟩) | exact Or.inr (Or.inr ⟨by omega, by assumption, by assumption⟩)⟩
                   exact ih _ _ _ (by omega) (by omega) (by first | exact hp1 | exact h3) (by first | exact Ec.tr h4 he1 | exact h4) (by rw [cn3_t h1 (decide_eq_true hP), h5]))
                | (have hP : ¬ (((x2 = 2 ∧ mFls M0 x4) ∨ (x2 ≠ 2 ∧ mPtd M0 x4 ∧ mHow M0 x4 = x2 + 1)) ∧ (x1 = -1 ∨ M0 46 0 (M0 56 0 x4) = x1)) := fun z => by
                     obtain ⟨z1, z2, z3⟩ := (pt true).mp z
                     first
                       | exact absurd ((hw true).mpr z1) (by assumption)
                       | omega
                       | (rcases z3 with ⟨y1, y2, y3⟩ | ⟨y1, y2, y3⟩ | ⟨y1, y2, y3⟩ <;> first | omega | contradiction)
                   exact ih _ _ _ (by omega) (by omega) (by first | exact hp1 | exact h3) (by first | exact Ec.tr h4 he1 | exact h4) (by rw [cn3_f h1 (decide_eq_false hP), h5]))
            · refine ⟨fun c6 => ?_, fun c6 => ?_⟩
              · first
                  | (exfalso; omega)
                  | (have hP : ((x2 = 2 ∧ mFls M0 x4) ∨ (x2 ≠ 2 ∧ mPtd M0 x4 ∧ mHow M0 x4 = x2 + 1)) ∧ (x1 = -1 ∨ M0 46 0 (M0 56 0 x4) = x1) := (pt true).mpr ⟨(hw true).mp (by assumption), by omega, by first | exact Or.inl ⟨by assumption, by assumption, by assumption⟩ | exact Or.inr (Or.inl ⟨by assumption, by assumption, by assumption⟩) | exact Or.inr (Or.inr ⟨by omega, by assumption, by assumption⟩)⟩
                     exact ih _ _ _ (by omega) (by omega) (by first | exact hp1 | exact h3) (by first | exact Ec.tr h4 he1 | exact h4) (by rw [cn3_t h1 (decide_eq_true hP), h5]))
                  | (have hP : ¬ (((x2 = 2 ∧ mFls M0 x4) ∨ (x2 ≠ 2 ∧ mPtd M0 x4 ∧ mHow M0 x4 = x2 + 1)) ∧ (x1 = -1 ∨ M0 46 0 (M0 56 0 x4) = x1)) := fun z => by
                       obtain ⟨z1, z2, z3⟩ := (pt true).mp z
                       first
                         | exact absurd ((hw true).mpr z1) (by assumption)
                         | omega
                         | (rcases z3 with ⟨y1, y2, y3⟩ | ⟨y1, y2, y3⟩ | ⟨y1, y2, y3⟩ <;> first | omega | contradiction)
                     exact ih _ _ _ (by omega) (by omega) (by first | exact hp1 | exact h3) (by first | exact Ec.tr h4 he1 | exact h4) (by rw [cn3_f h1 (decide_eq_false hP), h5]))
              · first
                  | (exfalso; omega)
                  | (have hP : ((x2 = 2 ∧ mFls M0 x4) ∨ (x2 ≠ 2 ∧ mPtd M0 x4 ∧ mHow M0 x4 = x2 + 1)) ∧ (x1 = -1 ∨ M0 46 0 (M0 56 0 x4) = x1) := (pt true).mpr ⟨(hw true).mp (by assumption), by omega, by first | exact Or.inl ⟨by assumption, by assumption, by assumption⟩ | exact Or.inr (Or.inl ⟨by assumption, by assumption, by assumption⟩) | exact Or.inr (Or.inr ⟨by omega, by assumption, by assumption⟩)⟩
                     exact ih _ _ _ (by omega) (by omega) (by first | exact hp1 | exact h3) (by first | exact Ec.tr h4 he1 | exact h4) (by rw [cn3_t h1 (decide_eq_true hP), h5]))
                  | (have hP : ¬ (((x2 = 2 ∧ mFls M0 x4) ∨ (x2 ≠ 2 ∧ mPtd M0 x4 ∧ mHow M0 x4 = x2 + 1)) ∧ (x1 = -1 ∨ M0 46 0 (M0 56 0 x4) = x1)) := fun z => by
                       obtain ⟨z1, z2, z3⟩ := (pt true).mp z
                       first
                         | exact absurd ((hw true).mpr z1) (by assumption)
                         | omega
                         | (rcases z3 with ⟨y1, y2, y3⟩ | ⟨y1, y2, y3⟩ | ⟨y1, y2, y3⟩ <;> first | omega | contradiction)
                     exact ih _ _ _ (by omega) (by omega) (by first | exact hp1 | exact h3) (by first | exact Ec.tr h4 he1 | exact h4) (by rw [cn3_f h1 (decide_eq_false hP), h5]))
          · refine ⟨fun c5 => ?_, fun c5 => ?_⟩
            · refine ⟨fun c6 => ?_, fun c6 => ?_⟩
              · first
                  | (exfalso; omega)
                  | (have hP : ((x2 = 2 ∧ mFls M0 x4) ∨ (x2 ≠ 2 ∧ mPtd M0 x4 ∧ mHow M0 x4 = x2 + 1)) ∧ (x1 = -1 ∨ M0 46 0 (M0 56 0 x4) = x1) := (pt true).mpr ⟨(hw true).mp (by assumption), by omega, by first | exact Or.inl ⟨by assumption, by assumption, by assumption⟩ | exact Or.inr (Or.inl ⟨by assumption, by assumption, by assumption⟩) | exact Or.inr (Or.inr ⟨by omega, by assumption, by assumption⟩)⟩
                     exact ih _ _ _ (by omega) (by omega) (by first | exact hp1 | exact h3) (by first | exact Ec.tr h4 he1 | exact h4) (by rw [cn3_t h1 (decide_eq_true hP), h5]))
                  | (have hP : ¬ (((x2 = 2 ∧ mFls M0 x4) ∨ (x2 ≠ 2 ∧ mPtd M0 x4 ∧ mHow M0 x4 = x2 + 1)) ∧ (x1 = -1 ∨ M0 46 0 (M0 56 0 x4) = x1)) := fun z => by
                       obtain ⟨z1, z2, z3⟩ := (pt true).mp z
                       first
                         | exact absurd ((hw true).mpr z1) (by assumption)
                         | omega
                         | (rcases z3 with ⟨y1, y2, y3⟩ | ⟨y1, y2, y3⟩ | ⟨y1, y2, y3⟩ <;> first | omega | contradiction)
                     exact ih _ _ _ (by omega) (by omega) (by first | exact hp1 | exact h3) (by first | exact Ec.tr h4 he1 | exact h4) (by rw [cn3_f h1 (decide_eq_false hP), h5]))
              · refine ⟨fun c7 => ?_, fun c7 => ?_⟩
                · first
                    | (exfalso; omega)
                    | (have hP : ((x2 = 2 ∧ mFls M0 x4) ∨ (x2 ≠ 2 ∧ mPtd M0 x4 ∧ mHow M0 x4 = x2 + 1)) ∧ (x1 = -1 ∨ M0 46 0 (M0 56 0 x4) = x1) := (pt true).mpr ⟨(hw true).mp (by assumption), by omega, by first | exact Or.inl ⟨by assumption, by assumption, by assumption⟩ | exact Or.inr (Or.inl ⟨by assumption, by assumption, by assumption⟩) | exact Or.inr (Or.inr ⟨by omega, by assumption, by assumption⟩)⟩
                       exact ih _ _ _ (by omega) (by omega) (by first | exact hp1 | exact h3) (by first | exact Ec.tr h4 he1 | exact h4) (by rw [cn3_t h1 (decide_eq_true hP), h5]))
                    | (have hP : ¬ (((x2 = 2 ∧ mFls M0 x4) ∨ (x2 ≠ 2 ∧ mPtd M0 x4 ∧ mHow M0 x4 = x2 + 1)) ∧ (x1 = -1 ∨ M0 46 0 (M0 56 0 x4) = x1)) := fun z => by
                         obtain ⟨z1, z2, z3⟩ := (pt true).mp z
                         first
                           | exact absurd ((hw true).mpr z1) (by assumption)
                           | omega
                           | (rcases z3 with ⟨y1, y2, y3⟩ | ⟨y1, y2, y3⟩ | ⟨y1, y2, y3⟩ <;> first | omega | contradiction)
                       exact ih _ _ _ (by omega) (by omega) (by first | exact hp1 | exact h3) (by first | exact Ec.tr h4 he1 | exact h4) (by rw [cn3_f h1 (decide_eq_false hP), h5]))
                · first
                    | (exfalso; omega)
                    | (have hP : ((x2 = 2 ∧ mFls M0 x4) ∨ (x2 ≠ 2 ∧ mPtd M0 x4 ∧ mHow M0 x4 = x2 + 1)) ∧ (x1 = -1 ∨ M0 46 0 (M0 56 0 x4) = x1) := (pt true).mpr ⟨(hw true).mp (by assumption), by omega, by first | exact Or.inl ⟨by assumption, by assumption, by assumption⟩ | exact Or.inr (Or.inl ⟨by assumption, by assumption, by assumption⟩) | exact Or.inr (Or.inr ⟨by omega, by assumption, by assumption⟩)⟩
                       exact ih _ _ _ (by omega) (by omega) (by first | exact hp1 | exact h3) (by first | exact Ec.tr h4 he1 | exact h4) (by rw [cn3_t h1 (decide_eq_true hP), h5]))
                    | (have hP : ¬ (((x2 = 2 ∧ mFls M0 x4) ∨ (x2 ≠ 2 ∧ mPtd M0 x4 ∧ mHow M0 x4 = x2 + 1)) ∧ (x1 = -1 ∨ M0 46 0 (M0 56 0 x4) = x1)) := fun z => by
                         obtain ⟨z1, z2, z3⟩ := (pt true).mp z
                         first
                           | exact absurd ((hw true).mpr z1) (by assumption)
                           | omega
                           | (rcases z3 with ⟨y1, y2, y3⟩ | ⟨y1, y2, y3⟩ | ⟨y1, y2, y3⟩ <;> first | omega | contradiction)
                       exact ih _ _ _ (by omega) (by omega) (by first | exact hp1 | exact h3) (by first | exact Ec.tr h4 he1 | exact h4) (by rw [cn3_f h1 (decide_eq_false hP), h5]))
            · refine ⟨fun c6 => ?_, fun c6 => ?_⟩
              · first
                  | (exfalso; omega)
                  | (have hP : ((x2 = 2 ∧ mFls M0 x4) ∨ (x2 ≠ 2 ∧ mPtd M0 x4 ∧ mHow M0 x4 = x2 + 1)) ∧ (x1 = -1 ∨ M0 46 0 (M0 56 0 x4) = x1) := (pt true).mpr ⟨(hw true).mp (by assumption), by omega, by first | exact Or.inl ⟨by assumption, by assumption, by assumption⟩ | exact Or.inr (Or.inl ⟨by assumption, by assumption, by assumption⟩) | exact Or.inr (Or.inr ⟨by omega, by assumption, by assumption⟩)⟩
                     exact ih _ _ _ (by omega) (by omega) (by first | exact hp1 | exact h3) (by first | exact Ec.tr h4 he1 | exact h4) (by rw [cn3_t h1 (decide_eq_true hP), h5]))
                  | (have hP : ¬ (((x2 = 2 ∧ mFls M0 x4) ∨ (x2 ≠ 2 ∧ mPtd M0 x4 ∧ mHow M0 x4 = x2 + 1)) ∧ (x1 = -1 ∨ M0 46 0 (M0 56 0 x4) = x1)) := fun z => by
                       obtain ⟨z1, z2, z3⟩ := (pt true).mp z
                       first
                         | exact absurd ((hw true).mpr z1) (by assumption)
                         | omega
                         | (rcases z3 with ⟨y1, y2, y3⟩ | ⟨y1, y2, y3⟩ | ⟨y1, y2, y3⟩ <;> first | omega | contradiction)
                     exact ih _ _ _ (by omega) (by omega) (by first | exact hp1 | exact h3) (by first | exact Ec.tr h4 he1 | exact h4) (by rw [cn3_f h1 (decide_eq_false hP), h5]))
              · refine ⟨?_, ?_⟩
                · first | omega | exact ⟨h3, hI.s (Es.c h4), h1, by rw [h4.1 44 (by decide)]; omega⟩ | (exfalso; omega)
                intro N1 hN1 he1 hp1
                refine ⟨fun c7 => ?_, fun c7 => ?_⟩
                · first
                    | (exfalso; omega)
                    | (have hP : ((x2 = 2 ∧ mFls M0 x4) ∨ (x2 ≠ 2 ∧ mPtd M0 x4 ∧ mHow M0 x4 = x2 + 1)) ∧ (x1 = -1 ∨ M0 46 0 (M0 56 0 x4) = x1) := (pt true).mpr ⟨(hw true).mp (by assumption), by omega, by first | exact Or.inl ⟨by assumption, by assumption, by assumption⟩ | exact Or.inr (Or.inl ⟨by assumption, by assumption, by assumption⟩) | exact Or.inr (Or.inr ⟨by omega, by assumption, by assumption⟩)⟩
                       exact ih _ _ _ (by omega) (by omega) (by first | exact hp1 | exact h3) (by first | exact Ec.tr h4 he1 | exact h4) (by rw [cn3_t h1 (decide_eq_true hP), h5]))
                    | (have hP : ¬ (((x2 = 2 ∧ mFls M0 x4) ∨ (x2 ≠ 2 ∧ mPtd M0 x4 ∧ mHow M0 x4 = x2 + 1)) ∧ (x1 = -1 ∨ M0 46 0 (M0 56 0 x4) = x1)) := fun z => by
                         obtain ⟨z1, z2, z3⟩ := (pt true).mp z
                         first
                           | exact absurd ((hw true).mpr z1) (by assumption)
                           | omega
                           | (rcases z3 with ⟨y1, y2, y3⟩ | ⟨y1, y2, y3⟩ | ⟨y1, y2, y3⟩ <;> first | omega | contradiction)
                       exact ih _ _ _ (by omega) (by omega) (by first | exact hp1 | exact h3) (by first | exact Ec.tr h4 he1 | exact h4) (by rw [cn3_f h1 (decide_eq_false hP), h5]))
                · first
                    | (exfalso; omega)
                    | (have hP : ((x2 = 2 ∧ mFls M0 x4) ∨ (x2 ≠ 2 ∧ mPtd M0 x4 ∧ mHow M0 x4 = x2 + 1)) ∧ (x1 = -1 ∨ M0 46 0 (M0 56 0 x4) = x1) := (pt true).mpr ⟨(hw true).mp (by assumption), by omega, by first | exact Or.inl ⟨by assumption, by assumption, by assumption⟩ | exact Or.inr (Or.inl ⟨by assumption, by assumption, by assumption⟩) | exact Or.inr (Or.inr ⟨by omega, by assumption, by assumption⟩)⟩
                       exact ih _ _ _ (by omega) (by omega) (by first | exact hp1 | exact h3) (by first | exact Ec.tr h4 he1 | exact h4) (by rw [cn3_t h1 (decide_eq_true hP), h5]))
                    | (have hP : ¬ (((x2 = 2 ∧ mFls M0 x4) ∨ (x2 ≠ 2 ∧ mPtd M0 x4 ∧ mHow M0 x4 = x2 + 1)) ∧ (x1 = -1 ∨ M0 46 0 (M0 56 0 x4) = x1)) := fun z => by
                         obtain ⟨z1, z2, z3⟩ := (pt true).mp z
                         first
                           | exact absurd ((hw true).mpr z1) (by assumption)
                           | omega
                           | (rcases z3 with ⟨y1, y2, y3⟩ | ⟨y1, y2, y3⟩ | ⟨y1, y2, y3⟩ <;> first | omega | contradiction)
                       exact ih _ _ _ (by omega) (by omega) (by first | exact hp1 | exact h3) (by first | exact Ec.tr h4 he1 | exact h4) (by rw [cn3_f h1 (decide_eq_false hP), h5]))
        · refine ⟨fun c4 => ?_, fun c4 => ?_⟩
          · first
              | (exfalso; omega)
              | (have hP : ((x2 = 2 ∧ mFls M0 x4) ∨ (x2 ≠ 2 ∧ mPtd M0 x4 ∧ mHow M0 x4 = x2 + 1)) ∧ (x1 = -1 ∨ M0 46 0 (M0 56 0 x4) = x1) := (pt true).mpr ⟨(hw true).mp (by assumption), by omega, by first | exact Or.inl ⟨by assumption, by assumption, by assumption⟩ | exact Or.inr (Or.inl ⟨by assumption, by assumption, by assumption⟩) | exact Or.inr (Or.inr ⟨by omega, by assumption, by assumption⟩)⟩
                 exact ih _ _ _ (by omega) (by omega) (by first | exact hp1 | exact h3) (by first | exact Ec.tr h4 he1 | exact h4) (by rw [cn3_t h1 (decide_eq_true hP), h5]))
              | (have hP : ¬ (((x2 = 2 ∧ mFls M0 x4) ∨ (x2 ≠ 2 ∧ mPtd M0 x4 ∧ mHow M0 x4 = x2 + 1)) ∧ (x1 = -1 ∨ M0 46 0 (M0 56 0 x4) = x1)) := fun z => by
                   obtain ⟨z1, z2, z3⟩ := (pt true).mp z
                   first
                     | exact absurd ((hw true).mpr z1) (by assumption)
                     | omega
                     | (rcases z3 with ⟨y1, y2, y3⟩ | ⟨y1, y2, y3⟩ | ⟨y1, y2, y3⟩ <;> first | omega | contradiction)
                 exact ih _ _ _ (by omega) (by omega) (by first | exact hp1 | exact h3) (by first | exact Ec.tr h4 he1 | exact h4) (by rw [cn3_f h1 (decide_eq_false hP), h5]))
          · refine ⟨?_, ?_⟩
            · first | omega | exact ⟨h3, hI.s (Es.c h4), h1, by rw [h4.1 44 (by decide)]; omega⟩ | (exfalso; omega)
            refine ⟨fun c5 => ?_, fun c5 => ?_⟩
            · refine ⟨fun c6 => ?_, fun c6 => ?_⟩
              · first
                  | (exfalso; omega)
                  | (have hP : ((x2 = 2 ∧ mFls M0 x4) ∨ (x2 ≠ 2 ∧ mPtd M0 x4 ∧ mHow M0 x4 = x2 + 1)) ∧ (x1 = -1 ∨ M0 46 0 (M0 56 0 x4) = x1) := (pt true).mpr ⟨(hw true).mp (by assumption), by omega, by first | exact Or.inl ⟨by assumption, by assumption, by assumption⟩ | exact Or.inr (Or.inl ⟨by assumption, by assumption, by assumption⟩) | exact Or.inr (Or.inr ⟨by omega, by assumption, by assumption⟩)⟩
                     exact ih _ _ _ (by omega) (by omega) (by first | exact hp1 | exact h3) (by first | exact Ec.tr h4 he1 | exact h4) (by rw [cn3_t h1 (decide_eq_true hP), h5]))
                  | (have hP : ¬ (((x2 = 2 ∧ mFls M0 x4) ∨ (x2 ≠ 2 ∧ mPtd M0 x4 ∧ mHow M0 x4 = x2 + 1)) ∧ (x1 = -1 ∨ M0 46 0 (M0 56 0 x4) = x1)) := fun z => by
                       obtain ⟨z1, z2, z3⟩ := (pt true).mp z
                       first
                         | exact absurd ((hw true).mpr z1) (by assumption)
                         | omega
                         | (rcases z3 with ⟨y1, y2, y3⟩ | ⟨y1, y2, y3⟩ | ⟨y1, y2, y3⟩ <;> first | omega | contradiction)
                     exact ih _ _ _ (by omega) (by omega) (by first | exact hp1 | exact h3) (by first | exact Ec.tr h4 he1 | exact h4) (by rw [cn3_f h1 (decide_eq_false hP), h5]))
              · refine ⟨fun c7 => ?_, fun c7 => ?_⟩
                · first
                    | (exfalso; omega)
                    | (have hP : ((x2 = 2 ∧ mFls M0 x4) ∨ (x2 ≠ 2 ∧ mPtd M0 x4 ∧ mHow M0 x4 = x2 + 1)) ∧ (x1 = -1 ∨ M0 46 0 (M0 56 0 x4) = x1) := (pt true).mpr ⟨(hw true).mp (by assumption), by omega, by first | exact Or.inl ⟨by assumption, by assumption, by assumption⟩ | exact Or.inr (Or.inl ⟨by assumption, by assumption, by assumption⟩) | exact Or.inr (Or.inr ⟨by omega, by assumption, by assumption⟩)⟩
                       exact ih _ _ _ (by omega) (by omega) (by first | exact hp1 | exact h3) (by first | exact Ec.tr h4 he1 | exact h4) (by rw [cn3_t h1 (decide_eq_true hP), h5]))
                    | (have hP : ¬ (((x2 = 2 ∧ mFls M0 x4) ∨ (x2 ≠ 2 ∧ mPtd M0 x4 ∧ mHow M0 x4 = x2 + 1)) ∧ (x1 = -1 ∨ M0 46 0 (M0 56 0 x4) = x1)) := fun z => by
                         obtain ⟨z1, z2, z3⟩ := (pt true).mp z
                         first
                           | exact absurd ((hw true).mpr z1) (by assumption)
                           | omega
                           | (rcases z3 with ⟨y1, y2, y3⟩ | ⟨y1, y2, y3⟩ | ⟨y1, y2, y3⟩ <;> first | omega | contradiction)
                       exact ih _ _ _ (by omega) (by omega) (by first | exact hp1 | exact h3) (by first | exact Ec.tr h4 he1 | exact h4) (by rw [cn3_f h1 (decide_eq_false hP), h5]))
                · first
                    | (exfalso; omega)
                    | (have hP : ((x2 = 2 ∧ mFls M0 x4) ∨ (x2 ≠ 2 ∧ mPtd M0 x4 ∧ mHow M0 x4 = x2 + 1)) ∧ (x1 = -1 ∨ M0 46 0 (M0 56 0 x4) = x1) := (pt true).mpr ⟨(hw true).mp (by assumption), by omega, by first | exact Or.inl ⟨by assumption, by assumption, by assumption⟩ | exact Or.inr (Or.inl ⟨by assumption, by assumption, by assumption⟩) | exact Or.inr (Or.inr ⟨by omega, by assumption, by assumption⟩)⟩
                       exact ih _ _ _ (by omega) (by omega) (by first | exact hp1 | exact h3) (by first | exact Ec.tr h4 he1 | exact h4) (by rw [cn3_t h1 (decide_eq_true hP), h5]))
                    | (have hP : ¬ (((x2 = 2 ∧ mFls M0 x4) ∨ (x2 ≠ 2 ∧ mPtd M0 x4 ∧ mHow M0 x4 = x2 + 1)) ∧ (x1 = -1 ∨ M0 46 0 (M0 56 0 x4) = x1)) := fun z => by
                         obtain ⟨z1, z2, z3⟩ := (pt true).mp z
                         first
                           | exact absurd ((hw true).mpr z1) (by assumption)
                           | omega
                           | (rcases z3 with ⟨y1, y2, y3⟩ | ⟨y1, y2, y3⟩ | ⟨y1, y2, y3⟩ <;> first | omega | contradiction)
                       exact ih _ _ _ (by omega) (by omega) (by first | exact hp1 | exact h3) (by first | exact Ec.tr h4 he1 | exact h4) (by rw [cn3_f h1 (decide_eq_false hP), h5]))
            · refine ⟨fun c6 => ?_, fun c6 => ?_⟩
              · refine ⟨fun c7 => ?_, fun c7 => ?_⟩
                · first
                    | (exfalso; omega)
                    | (have hP : ((x2 = 2 ∧ mFls M0 x4) ∨ (x2 ≠ 2 ∧ mPtd M0 x4 ∧ mHow M0 x4 = x2 + 1)) ∧ (x1 = -1 ∨ M0 46 0 (M0 56 0 x4) = x1) := (pt true).mpr ⟨(hw true).mp (by assumption), by omega, by first | exact Or.inl ⟨by assumption, by assumption, by assumption⟩ | exact Or.inr (Or.inl ⟨by assumption, by assumption, by assumption⟩) | exact Or.inr (Or.inr ⟨by omega, by assumption, by assumption⟩)⟩
                       exact ih _ _ _ (by omega) (by omega) (by first | exact hp1 | exact h3) (by first | exact Ec.tr h4 he1 | exact h4) (by rw [cn3_t h1 (decide_eq_true hP), h5]))
                    | (have hP : ¬ (((x2 = 2 ∧ mFls M0 x4) ∨ (x2 ≠ 2 ∧ mPtd M0 x4 ∧ mHow M0 x4 = x2 + 1)) ∧ (x1 = -1 ∨ M0 46 0 (M0 56 0 x4) = x1)) := fun z => by
                         obtain ⟨z1, z2, z3⟩ := (pt true).mp z
                         first
                           | exact absurd ((hw true).mpr z1) (by assumption)
                           | omega
                           | (rcases z3 with ⟨y1, y2, y3⟩ | ⟨y1, y2, y3⟩ | ⟨y1, y2, y3⟩ <;> first | omega | contradiction)
                       exact ih _ _ _ (by omega) (by omega) (by first | exact hp1 | exact h3) (by first | exact Ec.tr h4 he1 | exact h4) (by rw [cn3_f h1 (decide_eq_false hP), h5]))
                · refine ⟨fun c8 => ?_, fun c8 => ?_⟩
                  · first
                      | (exfalso; omega)
                      | (have hP : ((x2 = 2 ∧ mFls M0 x4) ∨ (x2 ≠ 2 ∧ mPtd M0 x4 ∧ mHow M0 x4 = x2 + 1)) ∧ (x1 = -1 ∨ M0 46 0 (M0 56 0 x4) = x1) := (pt true).mpr ⟨(hw true).mp (by assumption), by omega, by first | exact Or.inl ⟨by assumption, by assumption, by assumption⟩ | exact Or.inr (Or.inl ⟨by assumption, by assumption, by assumption⟩) | exact Or.inr (Or.inr ⟨by omega, by assumption, by assumption⟩)⟩
                         exact ih _ _ _ (by omega) (by omega) (by first | exact hp1 | exact h3) (by first | exact Ec.tr h4 he1 | exact h4) (by rw [cn3_t h1 (decide_eq_true hP), h5]))
                      | (have hP : ¬ (((x2 = 2 ∧ mFls M0 x4) ∨ (x2 ≠ 2 ∧ mPtd M0 x4 ∧ mHow M0 x4 = x2 + 1)) ∧ (x1 = -1 ∨ M0 46 0 (M0 56 0 x4) = x1)) := fun z => by
                           obtain ⟨z1, z2, z3⟩ := (pt true).mp z
                           first
                             | exact absurd ((hw true).mpr z1) (by assumption)
                             | omega
                             | (rcases z3 with ⟨y1, y2, y3⟩ | ⟨y1, y2, y3⟩ | ⟨y1, y2, y3⟩ <;> first | omega | contradiction)
                         exact ih _ _ _ (by omega) (by omega) (by first | exact hp1 | exact h3) (by first | exact Ec.tr h4 he1 | exact h4) (by rw [cn3_f h1 (decide_eq_false hP), h5]))
                  · first
                      | (exfalso; omega)
                      | (have hP : ((x2 = 2 ∧ mFls M0 x4) ∨ (x2 ≠ 2 ∧ mPtd M0 x4 ∧ mHow M0 x4 = x2 + 1)) ∧ (x1 = -1 ∨ M0 46 0 (M0 56 0 x4) = x1) := (pt true).mpr ⟨(hw true).mp (by assumption), by omega, by first | exact Or.inl ⟨by assumption, by assumption, by assumption⟩ | exact Or.inr (Or.inl ⟨by assumption, by assumption, by assumption⟩) | exact Or.inr (Or.inr ⟨by omega, by assumption, by assumption⟩)⟩
                         exact ih _ _ _ (by omega) (by omega) (by first | exact hp1 | exact h3) (by first | exact Ec.tr h4 he1 | exact h4) (by rw [cn3_t h1 (decide_eq_true hP), h5]))
                      | (have hP : ¬ (((x2 = 2 ∧ mFls M0 x4) ∨ (x2 ≠ 2 ∧ mPtd M0 x4 ∧ mHow M0 x4 = x2 + 1)) ∧ (x1 = -1 ∨ M0 46 0 (M0 56 0 x4) = x1)) := fun z => by
                           obtain ⟨z1, z2, z3⟩ := (pt true).mp z
                           first
                             | exact absurd ((hw true).mpr z1) (by assumption)
                             | omega
                             | (rcases z3 with ⟨y1, y2, y3⟩ | ⟨y1, y2, y3⟩ | ⟨y1, y2, y3⟩ <;> first | omega | contradiction)
                         exact ih _ _ _ (by omega) (by omega) (by first | exact hp1 | exact h3) (by first | exact Ec.tr h4 he1 | exact h4) (by rw [cn3_f h1 (decide_eq_false hP), h5]))
              · refine ⟨fun c7 => ?_, fun c7 => ?_⟩
                · first
                    | (exfalso; omega)
                    | (have hP : ((x2 = 2 ∧ mFls M0 x4) ∨ (x2 ≠ 2 ∧ mPtd M0 x4 ∧ mHow M0 x4 = x2 + 1)) ∧ (x1 = -1 ∨ M0 46 0 (M0 56 0 x4) = x1) := (pt true).mpr ⟨(hw true).mp (by assumption), by omega, by first | exact Or.inl ⟨by assumption, by assumption, by assumption⟩ | exact Or.inr (Or.inl ⟨by assumption, by assumption, by assumption⟩) | exact Or.inr (Or.inr ⟨by omega, by assumption, by assumption⟩)⟩
                       exact ih _ _ _ (by omega) (by omega) (by first | exact hp1 | exact h3) (by first | exact Ec.tr h4 he1 | exact h4) (by rw [cn3_t h1 (decide_eq_true hP), h5]))
                    | (have hP : ¬ (((x2 = 2 ∧ mFls M0 x4) ∨ (x2 ≠ 2 ∧ mPtd M0 x4 ∧ mHow M0 x4 = x2 + 1)) ∧ (x1 = -1 ∨ M0 46 0 (M0 56 0 x4) = x1)) := fun z => by
                         obtain ⟨z1, z2, z3⟩ := (pt true).mp z
                         first
                           | exact absurd ((hw true).mpr z1) (by assumption)
                           | omega
                           | (rcases z3 with ⟨y1, y2, y3⟩ | ⟨y1, y2, y3⟩ | ⟨y1, y2, y3⟩ <;> first | omega | contradiction)
                       exact ih _ _ _ (by omega) (by omega) (by first | exact hp1 | exact h3) (by first | exact Ec.tr h4 he1 | exact h4) (by rw [cn3_f h1 (decide_eq_false hP), h5]))
                · refine ⟨?_, ?_⟩
                  · first | omega | exact ⟨h3, hI.s (Es.c h4), h1, by rw [h4.1 44 (by decide)]; omega⟩ | (exfalso; omega)
                  intro N1 hN1 he1 hp1
                  refine ⟨fun c8 => ?_, fun c8 => ?_⟩
                  · first
                      | (exfalso; omega)
                      | (have hP : ((x2 = 2 ∧ mFls M0 x4) ∨ (x2 ≠ 2 ∧ mPtd M0 x4 ∧ mHow M0 x4 = x2 + 1)) ∧ (x1 = -1 ∨ M0 46 0 (M0 56 0 x4) = x1) := (pt true).mpr ⟨(hw true).mp (by assumption), by omega, by first | exact Or.inl ⟨by assumption, by assumption, by assumption⟩ | exact Or.inr (Or.inl ⟨by assumption, by assumption, by assumption⟩) | exact Or.inr (Or.inr ⟨by omega, by assumption, by assumption⟩)⟩
                         exact ih _ _ _ (by omega) (by omega) (by first | exact hp1 | exact h3) (by first | exact Ec.tr h4 he1 | exact h4) (by rw [cn3_t h1 (decide_eq_true hP), h5]))
                      | (have hP : ¬ (((x2 = 2 ∧ mFls M0 x4) ∨ (x2 ≠ 2 ∧ mPtd M0 x4 ∧ mHow M0 x4 = x2 + 1)) ∧ (x1 = -1 ∨ M0 46 0 (M0 56 0 x4) = x1)) := fun z => by
                           obtain ⟨z1, z2, z3⟩ := (pt true).mp z
                           first
                             | exact absurd ((hw true).mpr z1) (by assumption)
                             | omega
                             | (rcases z3 with ⟨y1, y2, y3⟩ | ⟨y1, y2, y3⟩ | ⟨y1, y2, y3⟩ <;> first | omega | contradiction)
                         exact ih _ _ _ (by omega) (by omega) (by first | exact hp1 | exact h3) (by first | exact Ec.tr h4 he1 | exact h4) (by rw [cn3_f h1 (decide_eq_false hP), h5]))
                  · first
                      | (exfalso; omega)
                      | (have hP : ((x2 = 2 ∧ mFls M0 x4) ∨ (x2 ≠ 2 ∧ mPtd M0 x4 ∧ mHow M0 x4 = x2 + 1)) ∧ (x1 = -1 ∨ M0 46 0 (M0 56 0 x4) = x1) := (pt true).mpr ⟨(hw true).mp (by assumption), by omega, by first | exact Or.inl ⟨by assumption, by assumption, by assumption⟩ | exact Or.inr (Or.inl ⟨by assumption, by assumption, by assumption⟩) | exact Or.inr (Or.inr ⟨by omega, by assumption, by assumption⟩)⟩
                         exact ih _ _ _ (by omega) (by omega) (by first | exact hp1 | exact h3) (by first | exact Ec.tr h4 he1 | exact h4) (by rw [cn3_t h1 (decide_eq_true hP), h5]))
                      | (have hP : ¬ (((x2 = 2 ∧ mFls M0 x4) ∨ (x2 ≠ 2 ∧ mPtd M0 x4 ∧ mHow M0 x4 = x2 + 1)) ∧ (x1 = -1 ∨ M0 46 0 (M0 56 0 x4) = x1)) := fun z => by
                           obtain ⟨z1, z2, z3⟩ := (pt true).mp z
                           first
                             | exact absurd ((hw true).mpr z1) (by assumption)
                             | omega
                             | (rcases z3 with ⟨y1, y2, y3⟩ | ⟨y1, y2, y3⟩ | ⟨y1, y2, y3⟩ <;> first | omega | contradiction)
                         exact ih _ _ _ (by omega) (by omega) (by first | exact hp1 | exact h3) (by first | exact Ec.tr h4 he1 | exact h4) (by rw [cn3_f h1 (decide_eq_false hP), h5]))
theorem kX2_partedOnes {E : E3} {Q : Q3} {M : M3} {x1 x2 : Int} (h : LwC M ∧ IA M ∧ (-1 ≤ x1 ∧ x1 ≤ 1) ∧ 0 ≤ x2 ∧ x2 ≤ 2) (k : ∀ (N : M3), RM3 N → Ec M N → LwC N → Q (some (vI (mParted M x1 x2))) N) : C3 E YX2_partedOnes [vR 14 0, vI x1, vI x2] M Q :=
  sX2_partedOnes (lX2_partedOnes h.2.1 h.2.2 k (M 44 0 18).toNat 0 0 M (by omega) (by have := h.2.1.1.2.2.2.1.2.1; omega) h.1 Ec.rf rfl)
/-- the memory when the first x forms were weighed -/
def wgM (M : M3) (x : Int) : M3 := fun r i j => if r = 18 ∧ (0 ≤ i ∧ i < x) ∧ (j = 9 ∨ j = 10) then (if j = 9 then cRts M i else cLck M i) else M r i j
theorem wgM_r {M : M3} {x : Int} {r : Nat} (h : r ≠ 18) : wgM M x r = M r := by
  funext i j
  exact if_neg fun z => h z.1
theorem wgM_j {M : M3} {x i j : Int} {r : Nat} (h : j ≠ 9 ∧ j ≠ 10) : wgM M x r i j = M r i j := if_neg fun z => by omega
theorem wgM_s {M : M3} {x : Int} (hx : 0 ≤ x) : up3 (up3 (wgM M x) 18 x 9 (cRts M x)) 18 x 10 (cLck M x) = wgM M (x + 1) := by
  funext r i j
  unfold up3 wgM
  by_cases a : r = 18 ∧ i = x ∧ j = 10
  · rw [if_pos a, if_pos ⟨a.1, by omega, Or.inr a.2.2⟩, if_neg (by omega), a.2.1]
  · rw [if_neg a]
    by_cases b : r = 18 ∧ i = x ∧ j = 9
    · rw [if_pos b, if_pos ⟨b.1, by omega, Or.inl b.2.2⟩, if_pos b.2.2, b.2.1]
    · rw [if_neg b]
      by_cases c : r = 18 ∧ (0 ≤ i ∧ i < x) ∧ (j = 9 ∨ j = 10)
      · rw [if_pos c]
        exact (if_pos ⟨c.1, by omega, c.2.2⟩).symm
      · rw [if_neg c, if_neg fun z => by
          by_cases e : i = x
          · rcases z.2.2 with w | w
            · exact b ⟨z.1, e, w⟩
            · exact a ⟨z.1, e, w⟩
          · exact c ⟨z.1, by omega, z.2.2⟩]
theorem wgM_0 {M : M3} : wgM M 0 = M := by
  funext r i j
  exact if_neg fun z => by omega
theorem cRts_e {M N : M3} {i : Int} (h19 : N 19 = M 19) (h2 : N 18 i 2 = M 18 i 2) (hL : LL3 N = LL3 M) : cRts N i = cRts M i := by
  unfold cRts
  rw [h19, h2, hL]
theorem cLck_e {M N : M3} {i : Int} (h19 : N 19 = M 19) (h1 : N 18 i 1 = M 18 i 1) (h2 : N 18 i 2 = M 18 i 2) (h3 : N 18 i 3 = M 18 i 3) (hL : LL3 N = LL3 M) : cLck N i = cLck M i := by
  unfold cLck alw3
  rw [cRts_e h19 h2 hL, h1, h2, h3, hL]
def poWa (M N : M3) : Prop := Ec (wgM M (M 14 0 0)) N
theorem lX2_weighAll {E : E3} {Q : Q3} {M0 : M3} (hz : (0 ≤ M0 14 0 0 ∧ M0 14 0 0 ≤ 60) ∧ ∀ i : Int, 0 ≤ i → i < M0 14 0 0 → 0 ≤ M0 18 i 2 ∧ M0 18 i 2 ≤ 399) (k : ∀ (N : M3), RM3 N → poWa M0 N → LwC N → Q none N) : ∀ (n : Nat) (x1 : Int) (M : M3), 0 ≤ x1 → x1 + n = M0 14 0 0 → LwC M → Ec (wgM M0 x1) M → G3 E YX2_weighAll Q 2 [(0, vR 14 0), (1, vI x1)] [] M := by
  intro n
  induction n with
  | zero =>
    intro x1 M h1 h2 h3 h4
    refine g3_rm fun hM => ?_
    have hz1 := hz.1
    have e14 : M 14 0 0 = M0 14 0 0 := by rw [h4.1 14 (by decide), wgM_r (by decide)]
    have ej : ∀ j : Int, j ≠ 9 ∧ j ≠ 10 → M 18 x1 j = M0 18 x1 j := fun j hj => by rw [h4.1 18 (by decide)]; exact wgM_j hj
    have e2 := ej 2 (by decide)
    have e19 : M 19 = M0 19 := (h4.1 19 (by decide)).trans (wgM_r (by decide))
    have eL : LL3 M = LL3 M0 := h4.L.trans (LL3_eq (wgM_r (by decide)) (by rw [wgM_r (by decide)]))
    refine sX2_weighAll_2 ?_
    simp only [e14, e2]
    refine ⟨?_, ?_⟩
    · first | omega | exact ⟨h3, by omega, hz.2 _ h1 (by omega)⟩ | (exfalso; omega)
    refine ⟨fun c1 => ?_, fun c1 => ?_⟩
    · first
        | (exfalso; omega)
        | exact k M hM (by rw [show x1 = M0 14 0 0 by omega] at h4; exact h4) h3
    · refine ⟨?_, ?_, ?_⟩
      · first | omega | exact ⟨h3, by omega, hz.2 _ h1 (by omega)⟩ | (exfalso; omega)
      · first | omega | exact ⟨h3, by omega, hz.2 _ h1 (by omega)⟩ | (exfalso; omega)
      intro N1 hN1 hf1 hs1 hp1
      exfalso; omega
  | succ n ih =>
    intro x1 M h1 h2 h3 h4
    refine g3_rm fun hM => ?_
    have hz1 := hz.1
    have e14 : M 14 0 0 = M0 14 0 0 := by rw [h4.1 14 (by decide), wgM_r (by decide)]
    have ej : ∀ j : Int, j ≠ 9 ∧ j ≠ 10 → M 18 x1 j = M0 18 x1 j := fun j hj => by rw [h4.1 18 (by decide)]; exact wgM_j hj
    have e2 := ej 2 (by decide)
    have e19 : M 19 = M0 19 := (h4.1 19 (by decide)).trans (wgM_r (by decide))
    have eL : LL3 M = LL3 M0 := h4.L.trans (LL3_eq (wgM_r (by decide)) (by rw [wgM_r (by decide)]))
    refine sX2_weighAll_2 ?_
    simp only [e14, e2]
    refine ⟨?_, ?_⟩
    · first | omega | exact ⟨h3, by omega, hz.2 _ h1 (by omega)⟩ | (exfalso; omega)
    refine ⟨fun c1 => ?_, fun c1 => ?_⟩
    · exfalso; omega
    · refine ⟨?_, ?_, ?_⟩
      · first | omega | exact ⟨h3, by omega, hz.2 _ h1 (by omega)⟩ | (exfalso; omega)
      · first | omega | exact ⟨h3, by omega, hz.2 _ h1 (by omega)⟩ | (exfalso; omega)
      intro N1 hN1 hf1 hs1 hp1
      first
        | (exfalso; omega)
        | (refine ih _ _ (by omega) (by omega) hp1.1 ?_
           have e := hp1.2
           unfold poWg at e
           rw [cRts_e e19 e2 eL, cLck_e e19 (ej 1 (by decide)) e2 (ej 3 (by decide)) eL] at e
           rw [← wgM_s h1]
           exact Ec.tr ((h4.up 18 x1 9 _).up 18 x1 10 _) e)
theorem kX2_weighAll {E : E3} {Q : Q3} {M : M3} (h : LwC M ∧ (0 ≤ M 14 0 0 ∧ M 14 0 0 ≤ 60) ∧ ∀ i : Int, 0 ≤ i → i < M 14 0 0 → 0 ≤ M 18 i 2 ∧ M 18 i 2 ≤ 399) (k : ∀ (N : M3), RM3 N → (∀ q : Nat, q ∉ ([3, 8, 9, 18] : List Nat) → N q = M q) → (∀ j : Int, j ∉ ([10] : List Int) → N 3 0 j = M 3 0 j) → LwC N ∧ poWa M N → Q none N) : C3 E YX2_weighAll [vR 14 0] M Q :=
  sX2_weighAll (lX2_weighAll h.2 (fun N a b c => k N a (fun q hq => (b.1 q fun z => hq (by
      have : ∀ x ∈ ([3, 8, 9] : List Nat), x ∈ ([3, 8, 9, 18] : List Nat) := by decide
      exact this q z)).trans (wgM_r fun e => hq (by rw [e]; decide))) (fun j hj => (b.2 j hj).trans (by rw [wgM_r (by decide)])) ⟨c, b⟩) (M 14 0 0).toNat 0 M (by omega) (by omega) h.1 (by rw [wgM_0]; exact Ec.rf))
