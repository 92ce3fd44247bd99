/-! MODEL: ripe -/
def mRpN (M : M3) (a b d : Int) : Int := cn3 (M 44 0 18) fun f => decide (mHow M f = 2 ∧ mPtd M f ∧ M 46 0 (M 56 0 f) = 1 ∧ (a ≤ M 57 0 f ∧ M 57 0 f ≤ b) ∧ M 60 0 f ≤ d)
def mRp (M : M3) (n a b : Int) : Int := ff3 (mNow M + 1) fun d => decide (n ≤ mRpN M a b d)
theorem lX12_ripe {E : E3} {Q : Q3} {M0 : M3} {x1 x2 x3 : Int} (ha : okA M0) (hw : 0 ≤ mNow M0 ∧ mNow M0 ≤ 399) (hx : (1 ≤ x1 ∧ x1 ≤ 30) ∧ (0 ≤ x2 ∧ x2 ≤ 399) ∧ (0 ≤ x3 ∧ x3 ≤ 399)) (k : ∀ (N : M3), RM3 N → Em M0 N → RdC N → Q (some (vI (mRp M0 x1 x2 x3))) N) : ∀ (n : Nat) (x4 : Int) (M : M3), 0 ≤ x4 → x4 + n = mNow M0 + 1 → RdC M → Em M0 M → (∀ y : Int, 0 ≤ y → y < x4 → mRpN M0 x2 x3 y < x1) → G3 E YX12_ripe Q 35 [(0, vR 44 0), (1, vI x1), (2, vI x2), (3, vI x3), (4, vI x4)] [] M := by
  have hb := ha.1
  intro n
  induction n with
  | zero =>
    intro x4 M h1 h2 h3 h4 h5
    refine g3_rm fun hM => ?_
    refine sX12_ripe_35 ?_
    simp only [mNow_e h4]
    refine ⟨?_, ?_, ?_⟩
    · omega
    · omega
    refine ⟨fun c1 => ?_, fun c1 => ?_⟩
    · have k1 := k M hM h4 h3
      rw [mRp, ff3_no (by omega) fun y z w => decide_eq_false (by have := h5 y z (by omega); omega)] at k1
      exact k1
    · exfalso; omega
  | succ n ih =>
    intro x4 M h1 h2 h3 h4 h5
    have inner : ∀ (m : Nat) (x5 x6 : Int) (M : M3), 0 ≤ x6 → x6 + m = M0 44 0 18 → RdC M → Em M0 M → x5 = cn3 x6 (fun f => decide (mHow M0 f = 2 ∧ mPtd M0 f ∧ M0 46 0 (M0 56 0 f) = 1 ∧ (x2 ≤ M0 57 0 f ∧ M0 57 0 f ≤ x3) ∧ M0 60 0 f ≤ x4)) → G3 E YX12_ripe Q 50 [(0, vR 44 0), (1, vI x1), (2, vI x2), (3, vI x3), (4, vI x4), (5, vI x5), (6, vI x6)] [] M := by
      intro m
      induction m with
      | zero =>
        intro x5 x6 M g1 g2 g3 g4 g5
        refine g3_rm fun hM => ?_
        have g6 : x5 = mRpN M0 x2 x3 x4 := by rw [g5, show x6 = M0 44 0 18 by omega]; rfl
        have g7 := cn3_rg g1 (fun f => decide (mHow M0 f = 2 ∧ mPtd M0 f ∧ M0 46 0 (M0 56 0 f) = 1 ∧ (x2 ≤ M0 57 0 f ∧ M0 57 0 f ≤ x3) ∧ M0 60 0 f ≤ x4))
        refine sX12_ripe_50 ?_
        simp only [g4.2 18 (by decide), mPtd_e g4, mHow_e g4, g4.1 46 (by decide), g4.1 56 (by decide), g4.1 57 (by decide), g4.1 60 (by decide)]
        refine ⟨?_, ?_⟩
        · first | omega | (exfalso; omega)
        refine ⟨fun c1 => ?_, fun c1 => ?_⟩
        · refine ⟨?_, ?_, ?_⟩
          · first | omega | (exfalso; omega)
          · first | omega | (exfalso; omega)
          refine ⟨fun c2 => ?_, fun c2 => ?_⟩
          · first
            | (exfalso; omega)
            | (refine ih _ _ (by omega) (by omega) g3 g4 (fun y a b => ?_)
               by_cases e : y < x4
               · exact h5 y a e
               · rw [show y = x4 by omega]
                 omega)
          · first
            | (exfalso; omega)
            | (have k1 := k M hM g4 g3
               rw [mRp, ff3_is (r := x4) ⟨h1, by omega⟩ (decide_eq_true (by omega)) fun y z w => decide_eq_false (by have := h5 y z (by omega); omega)] at k1
               exact k1)
        · refine ⟨?_, ?_⟩
          · first | omega | (exfalso; omega)
          refine ⟨fun c2 => ?_, fun c2 => ?_⟩
          · first
            | (exfalso; omega)
            | (refine ih _ _ (by omega) (by omega) g3 g4 (fun y a b => ?_)
               by_cases e : y < x4
               · exact h5 y a e
               · rw [show y = x4 by omega]
                 omega)
          · refine ⟨?_, ?_⟩
            · first | omega | (exfalso; omega)
            intro N1 hN1 he1 hp1
            refine ⟨fun c3 => ?_, fun c3 => ?_⟩
            · first
              | (exfalso; omega)
              | (refine ih _ _ (by omega) (by omega) g3 g4 (fun y a b => ?_)
                 by_cases e : y < x4
                 · exact h5 y a e
                 · rw [show y = x4 by omega]
                   omega)
            · refine ⟨?_, ?_⟩
              · first | omega | (exfalso; omega)
              refine ⟨fun c4 => ?_, fun c4 => ?_⟩
              · first
                | (exfalso; omega)
                | (refine ih _ _ (by omega) (by omega) g3 g4 (fun y a b => ?_)
                   by_cases e : y < x4
                   · exact h5 y a e
                   · rw [show y = x4 by omega]
                     omega)
              · refine ⟨?_, ?_⟩
                · first | omega | (exfalso; omega)
                refine ⟨fun c5 => ?_, fun c5 => ?_⟩
                · first
                  | (exfalso; omega)
                  | (refine ih _ _ (by omega) (by omega) g3 g4 (fun y a b => ?_)
                     by_cases e : y < x4
                     · exact h5 y a e
                     · rw [show y = x4 by omega]
                       omega)
                · refine ⟨?_, ?_⟩
                  · first | omega | (exfalso; omega)
                  refine ⟨fun c6 => ?_, fun c6 => ?_⟩
                  · first
                    | (exfalso; omega)
                    | (refine ih _ _ (by omega) (by omega) g3 g4 (fun y a b => ?_)
                       by_cases e : y < x4
                       · exact h5 y a e
                       · rw [show y = x4 by omega]
                         omega)
                  · first
                    | (exfalso; omega)
                    | (refine ih _ _ (by omega) (by omega) g3 g4 (fun y a b => ?_)
                       by_cases e : y < x4
                       · exact h5 y a e
                       · rw [show y = x4 by omega]
                         omega)
      | succ m ih2 =>
        intro x5 x6 M g1 g2 g3 g4 g5
        refine g3_rm fun hM => ?_
        refine sX12_ripe_50 ?_
        simp only [g4.2 18 (by decide), mPtd_e g4, mHow_e g4, g4.1 46 (by decide), g4.1 56 (by decide), g4.1 57 (by decide), g4.1 60 (by decide)]
        refine ⟨?_, ?_⟩
        · first | omega | exact ⟨g3, okR_e g4 (ha.2 _ g1 (by omega))⟩ | (have := (ha.2 _ g1 (by omega)).1; have := this.1; omega) | (have := (ha.2 _ g1 (by omega)).1; exact ⟨this.1, by rw [he1.1 56 (by decide), g4.1 56 (by decide)]; exact this.2.2⟩) | (have := (ha.2 _ g1 (by omega)).1.2.1; exact ⟨by omega, by omega, by omega⟩) | (exfalso; omega)
        refine ⟨fun c1 => ?_, fun c1 => ?_⟩
        · refine ⟨?_, ?_, ?_⟩
          · first | omega | exact ⟨g3, okR_e g4 (ha.2 _ g1 (by omega))⟩ | (have := (ha.2 _ g1 (by omega)).1; have := this.1; omega) | (have := (ha.2 _ g1 (by omega)).1; exact ⟨this.1, by rw [he1.1 56 (by decide), g4.1 56 (by decide)]; exact this.2.2⟩) | (have := (ha.2 _ g1 (by omega)).1.2.1; exact ⟨by omega, by omega, by omega⟩) | (exfalso; omega)
          · first | omega | exact ⟨g3, okR_e g4 (ha.2 _ g1 (by omega))⟩ | (have := (ha.2 _ g1 (by omega)).1; have := this.1; omega) | (have := (ha.2 _ g1 (by omega)).1; exact ⟨this.1, by rw [he1.1 56 (by decide), g4.1 56 (by decide)]; exact this.2.2⟩) | (have := (ha.2 _ g1 (by omega)).1.2.1; exact ⟨by omega, by omega, by omega⟩) | (exfalso; omega)
          refine ⟨fun c2 => ?_, fun c2 => ?_⟩
          · first
            | (exfalso; omega)
            | (refine ih2 _ _ _ (by omega) (by omega) (by first | assumption | exact g3) (by first | exact g4 | exact Em.tr g4 Em.rf) ?_
               rw [cn3_s g1, ← g5]
               by_cases hP : (mHow M0 x6 = 2 ∧ mPtd M0 x6 ∧ M0 46 0 (M0 56 0 x6) = 1 ∧ (x2 ≤ M0 57 0 x6 ∧ M0 57 0 x6 ≤ x3) ∧ M0 60 0 x6 ≤ x4)
               · rw [if_pos (decide_eq_true hP)] <;> first | omega | (exfalso; simp_all)
               · rw [if_neg (fun q => hP (of_decide_eq_true q))] <;> first | omega | (exfalso; simp_all))
          · exfalso; omega
        · refine ⟨?_, ?_⟩
          · first | omega | exact ⟨g3, okR_e g4 (ha.2 _ g1 (by omega))⟩ | (have := (ha.2 _ g1 (by omega)).1; have := this.1; omega) | (have := (ha.2 _ g1 (by omega)).1; exact ⟨this.1, by rw [he1.1 56 (by decide), g4.1 56 (by decide)]; exact this.2.2⟩) | (have := (ha.2 _ g1 (by omega)).1.2.1; exact ⟨by omega, by omega, by omega⟩) | (exfalso; omega)
          refine ⟨fun c2 => ?_, fun c2 => ?_⟩
          · first
            | (exfalso; omega)
            | (refine ih2 _ _ _ (by omega) (by omega) (by first | assumption | exact g3) (by first | exact g4 | exact Em.tr g4 Em.rf) ?_
               rw [cn3_s g1, ← g5]
               by_cases hP : (mHow M0 x6 = 2 ∧ mPtd M0 x6 ∧ M0 46 0 (M0 56 0 x6) = 1 ∧ (x2 ≤ M0 57 0 x6 ∧ M0 57 0 x6 ≤ x3) ∧ M0 60 0 x6 ≤ x4)
               · rw [if_pos (decide_eq_true hP)] <;> first | omega | (exfalso; simp_all)
               · rw [if_neg (fun q => hP (of_decide_eq_true q))] <;> first | omega | (exfalso; simp_all))
          · refine ⟨?_, ?_⟩
            · first | omega | exact ⟨g3, okR_e g4 (ha.2 _ g1 (by omega))⟩ | (have := (ha.2 _ g1 (by omega)).1; have := this.1; omega) | (have := (ha.2 _ g1 (by omega)).1; exact ⟨this.1, by rw [he1.1 56 (by decide), g4.1 56 (by decide)]; exact this.2.2⟩) | (have := (ha.2 _ g1 (by omega)).1.2.1; exact ⟨by omega, by omega, by omega⟩) | (exfalso; omega)
            intro N1 hN1 he1 hp1
            refine ⟨fun c3 => ?_, fun c3 => ?_⟩
            · first
              | (exfalso; omega)
              | (refine ih2 _ _ _ (by omega) (by omega) (by first | assumption | exact g3) (by first | exact g4 | exact Em.tr g4 (Em.tr Em.rf he1)) ?_
                 rw [cn3_s g1, ← g5]
                 by_cases hP : (mHow M0 x6 = 2 ∧ mPtd M0 x6 ∧ M0 46 0 (M0 56 0 x6) = 1 ∧ (x2 ≤ M0 57 0 x6 ∧ M0 57 0 x6 ≤ x3) ∧ M0 60 0 x6 ≤ x4)
                 · rw [if_pos (decide_eq_true hP)] <;> first | omega | (exfalso; simp_all)
                 · rw [if_neg (fun q => hP (of_decide_eq_true q))] <;> first | omega | (exfalso; simp_all))
            · refine ⟨?_, ?_⟩
              · first | omega | exact ⟨g3, okR_e g4 (ha.2 _ g1 (by omega))⟩ | (have := (ha.2 _ g1 (by omega)).1; have := this.1; omega) | (have := (ha.2 _ g1 (by omega)).1; exact ⟨this.1, by rw [he1.1 56 (by decide), g4.1 56 (by decide)]; exact this.2.2⟩) | (have := (ha.2 _ g1 (by omega)).1.2.1; exact ⟨by omega, by omega, by omega⟩) | (exfalso; omega)
              refine ⟨fun c4 => ?_, fun c4 => ?_⟩
              · first
                | (exfalso; omega)
                | (refine ih2 _ _ _ (by omega) (by omega) (by first | assumption | exact g3) (by first | exact g4 | exact Em.tr g4 (Em.tr Em.rf he1)) ?_
                   rw [cn3_s g1, ← g5]
                   by_cases hP : (mHow M0 x6 = 2 ∧ mPtd M0 x6 ∧ M0 46 0 (M0 56 0 x6) = 1 ∧ (x2 ≤ M0 57 0 x6 ∧ M0 57 0 x6 ≤ x3) ∧ M0 60 0 x6 ≤ x4)
                   · rw [if_pos (decide_eq_true hP)] <;> first | omega | (exfalso; simp_all)
                   · rw [if_neg (fun q => hP (of_decide_eq_true q))] <;> first | omega | (exfalso; simp_all))
              · refine ⟨?_, ?_⟩
                · first | omega | exact ⟨g3, okR_e g4 (ha.2 _ g1 (by omega))⟩ | (have := (ha.2 _ g1 (by omega)).1; have := this.1; omega) | (have := (ha.2 _ g1 (by omega)).1; exact ⟨this.1, by rw [he1.1 56 (by decide), g4.1 56 (by decide)]; exact this.2.2⟩) | (have := (ha.2 _ g1 (by omega)).1.2.1; exact ⟨by omega, by omega, by omega⟩) | (exfalso; omega)
                refine ⟨fun c5 => ?_, fun c5 => ?_⟩
                · first
                  | (exfalso; omega)
                  | (refine ih2 _ _ _ (by omega) (by omega) (by first | assumption | exact g3) (by first | exact g4 | exact Em.tr g4 (Em.tr Em.rf he1)) ?_
                     rw [cn3_s g1, ← g5]
                     by_cases hP : (mHow M0 x6 = 2 ∧ mPtd M0 x6 ∧ M0 46 0 (M0 56 0 x6) = 1 ∧ (x2 ≤ M0 57 0 x6 ∧ M0 57 0 x6 ≤ x3) ∧ M0 60 0 x6 ≤ x4)
                     · rw [if_pos (decide_eq_true hP)] <;> first | omega | (exfalso; simp_all)
                     · rw [if_neg (fun q => hP (of_decide_eq_true q))] <;> first | omega | (exfalso; simp_all))
                · refine ⟨?_, ?_⟩
                  · first | omega | exact ⟨g3, okR_e g4 (ha.2 _ g1 (by omega))⟩ | (have := (ha.2 _ g1 (by omega)).1; have := this.1; omega) | (have := (ha.2 _ g1 (by omega)).1; exact ⟨this.1, by rw [he1.1 56 (by decide), g4.1 56 (by decide)]; exact this.2.2⟩) | (have := (ha.2 _ g1 (by omega)).1.2.1; exact ⟨by omega, by omega, by omega⟩) | (exfalso; omega)
                  refine ⟨fun c6 => ?_, fun c6 => ?_⟩
                  · first
                    | (exfalso; omega)
                    | (refine ih2 _ _ _ (by omega) (by omega) (by first | assumption | exact g3) (by first | exact g4 | exact Em.tr g4 (Em.tr Em.rf he1)) ?_
                       rw [cn3_s g1, ← g5]
                       by_cases hP : (mHow M0 x6 = 2 ∧ mPtd M0 x6 ∧ M0 46 0 (M0 56 0 x6) = 1 ∧ (x2 ≤ M0 57 0 x6 ∧ M0 57 0 x6 ≤ x3) ∧ M0 60 0 x6 ≤ x4)
                       · rw [if_pos (decide_eq_true hP)] <;> first | omega | (exfalso; simp_all)
                       · rw [if_neg (fun q => hP (of_decide_eq_true q))] <;> first | omega | (exfalso; simp_all))
                  · first
                    | (exfalso; omega)
                    | (refine ih2 _ _ _ (by omega) (by omega) (by first | assumption | exact g3) (by first | exact g4 | exact Em.tr g4 (Em.tr Em.rf he1)) ?_
                       rw [cn3_s g1, ← g5]
                       by_cases hP : (mHow M0 x6 = 2 ∧ mPtd M0 x6 ∧ M0 46 0 (M0 56 0 x6) = 1 ∧ (x2 ≤ M0 57 0 x6 ∧ M0 57 0 x6 ≤ x3) ∧ M0 60 0 x6 ≤ x4)
                       · rw [if_pos (decide_eq_true hP)] <;> first | omega | (exfalso; simp_all)
                       · rw [if_neg (fun q => hP (of_decide_eq_true q))] <;> first | omega | (exfalso; simp_all))
    refine g3_rm fun hM => ?_
    refine sX12_ripe_35 ?_
    simp only [mNow_e h4]
    refine ⟨?_, ?_, ?_⟩
    · omega
    · omega
    refine ⟨fun c1 => ?_, fun c1 => ?_⟩
    · exfalso; omega
    · exact inner (M0 44 0 18).toNat 0 0 M (by omega) (by omega) h3 h4 rfl
theorem kX12_ripe {E : E3} {Q : Q3} {M : M3} {x1 x2 x3 : Int} (h : RdC M ∧ okA M ∧ (0 ≤ mNow M ∧ mNow M ≤ 399) ∧ (-2147483648 ≤ x1 ∧ x1 ≤ 2147483647) ∧ (-2147483648 ≤ x2 ∧ x2 ≤ 2147483647) ∧ (-2147483648 ≤ x3 ∧ x3 ≤ 2147483647)) (k : ∀ (N : M3), RM3 N → Em M N → RdC N → Q (some (vI (if (1 ≤ x1 ∧ x1 ≤ 30) ∧ (0 ≤ x2 ∧ x2 ≤ 399) ∧ (0 ≤ x3 ∧ x3 ≤ 399) ∧ x2 ≤ x3 then mRp M x1 x2 x3 else -2))) N) : C3 E YX12_ripe [vR 44 0, vI x1, vI x2, vI x3] M Q := by
  refine c3_rm fun hM => ?_
  obtain ⟨hR, ha, hw, hx, hy, hz⟩ := h
  refine sX12_ripe ?_
  refine ⟨?_, ?_⟩
  · omega
  refine ⟨fun c1 => ?_, fun c1 => ?_⟩
  · have k1 := k M hM Em.rf hR
    rw [if_neg (fun z => by omega)] at k1
    exact k1
  · refine ⟨?_, ?_⟩
    · omega
    refine ⟨fun c2 => ?_, fun c2 => ?_⟩
    · have k1 := k M hM Em.rf hR
      rw [if_neg (fun z => by omega)] at k1
      exact k1
    · refine ⟨?_, ?_⟩
      · omega
      refine ⟨fun c3 => ?_, fun c3 => ?_⟩
      · have k1 := k M hM Em.rf hR
        rw [if_neg (fun z => by omega)] at k1
        exact k1
      · refine ⟨?_, ?_, ?_⟩
        · omega
        · omega
        refine ⟨fun c4 => ?_, fun c4 => ?_⟩
        · exact lX12_ripe ha hw ⟨by assumption, by assumption, by assumption⟩ (fun N a b d => by have k1 := k N a b d; rw [if_pos ⟨by assumption, by assumption, by assumption, by assumption⟩] at k1; exact k1) (mNow M + 1).toNat 0 M (by omega) (by omega) hR Em.rf (fun y a b => by omega)
        · have k1 := k M hM Em.rf hR
          rw [if_neg (fun z => by omega)] at k1
          exact k1
