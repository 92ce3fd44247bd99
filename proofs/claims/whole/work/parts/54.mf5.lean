/-! MODEL: habits, readiness -/
theorem mRoll_e {M N : M3} (h : Em M N) (a b c : Int) : mRoll N a b c = mRoll M a b c := by unfold mRoll; rw [h.1 50 (by decide), h.1 45 (by decide), h.1 46 (by decide), h.2 1 (by decide)]
def okA (M : M3) : Prop := (0 ≤ M 44 0 18 ∧ M 44 0 18 ≤ 60) ∧ ∀ f : Int, 0 ≤ f → f < M 44 0 18 → okR M f
theorem okA_e {M N : M3} (e : Em M N) (h : okA M) : okA N := by
  unfold okA at h ⊢
  rw [e.2 18 (by decide)]
  exact ⟨h.1, fun f a b => okR_e e (h.2 f a b)⟩
abbrev mUnl (M : M3) (c f g : Int) : Prop := mHow M f = 1 ∧ mHow M g = 2 ∧ M 61 0 f = c ∧ M 61 0 g = c ∧ M 46 0 (M 56 0 f) ≠ M 46 0 (M 56 0 g) ∧ mRights M f ≤ mRights M g
theorem mUnl_e {M N : M3} (e : Em M N) (c f g : Int) : mUnl N c f g ↔ mUnl M c f g := by unfold mUnl; rw [mHow_e e, mHow_e e, mRights_e e, mRights_e e, e.1 61 (by decide), e.1 46 (by decide), e.1 56 (by decide)]
theorem kX12_areUnlike {E : E3} {Q : Q3} {M : M3} {x1 x2 x3 : Int} (h : RdC M ∧ okR M x2 ∧ okR M x3 ∧ (-2147483648 ≤ x1 ∧ x1 ≤ 2147483647)) (k : ∀ (N : M3), RM3 N → Em M N → RdC N → Q (some (vI (bo3 (mUnl M x1 x2 x3)))) N) : C3 E YX12_areUnlike [vR 44 0, vI x1, vI x2, vI x3] M Q := by
  refine c3_rm fun hM => ?_
  obtain ⟨hR, ho2, ho3, hx⟩ := h
  obtain ⟨⟨a1, a2, a3⟩, -⟩ := id ho2
  obtain ⟨⟨b1, b2, b3⟩, -⟩ := id ho3
  refine sX12_areUnlike ?_
  refine ⟨?_, ?_⟩
  · first | omega | exact ⟨hR, ho3.1⟩ | exact ⟨hp1, ho2.1⟩ | exact ⟨by omega, by omega⟩
  refine ⟨fun c1 => ?_, fun c1 => ?_⟩
  · first
      | (have k1 := k M hM Em.rf hR
         rw [bo3_f (fun z => by obtain ⟨z1, z2, z3, z4, z5, z6⟩ := z; first | contradiction | omega)] at k1
         exact k1)
      | (have k1 := k M hM Em.rf h.1
         first
           | (rw [bo3_t ⟨by assumption, by assumption, by assumption, by assumption, by assumption, by assumption⟩] at k1; exact k1)
           | (rw [bo3_f (fun z => by obtain ⟨z1, z2, z3, z4, z5, z6⟩ := z; first | contradiction | omega)] at k1; exact k1))
  · refine ⟨?_, ?_⟩
    · first | omega | exact ⟨hR, ho3.1⟩ | exact ⟨hp1, ho2.1⟩ | exact ⟨by omega, by omega⟩
    refine ⟨fun c2 => ?_, fun c2 => ?_⟩
    · first
        | (have k1 := k M hM Em.rf hR
           rw [bo3_f (fun z => by obtain ⟨z1, z2, z3, z4, z5, z6⟩ := z; first | contradiction | omega)] at k1
           exact k1)
        | (have k1 := k M hM Em.rf h.1
           first
             | (rw [bo3_t ⟨by assumption, by assumption, by assumption, by assumption, by assumption, by assumption⟩] at k1; exact k1)
             | (rw [bo3_f (fun z => by obtain ⟨z1, z2, z3, z4, z5, z6⟩ := z; first | contradiction | omega)] at k1; exact k1))
    · refine ⟨?_, ?_⟩
      · first | omega | exact ⟨hR, ho3.1⟩ | exact ⟨hp1, ho2.1⟩ | exact ⟨by omega, by omega⟩
      refine ⟨fun c3 => ?_, fun c3 => ?_⟩
      · first
          | (have k1 := k M hM Em.rf hR
             rw [bo3_f (fun z => by obtain ⟨z1, z2, z3, z4, z5, z6⟩ := z; first | contradiction | omega)] at k1
             exact k1)
          | (have k1 := k M hM Em.rf h.1
             first
               | (rw [bo3_t ⟨by assumption, by assumption, by assumption, by assumption, by assumption, by assumption⟩] at k1; exact k1)
               | (rw [bo3_f (fun z => by obtain ⟨z1, z2, z3, z4, z5, z6⟩ := z; first | contradiction | omega)] at k1; exact k1))
      · refine ⟨fun c4 => ?_, fun c4 => ?_⟩
        · first
            | (have k1 := k M hM Em.rf hR
               rw [bo3_f (fun z => by obtain ⟨z1, z2, z3, z4, z5, z6⟩ := z; first | contradiction | omega)] at k1
               exact k1)
            | (have k1 := k M hM Em.rf h.1
               first
                 | (rw [bo3_t ⟨by assumption, by assumption, by assumption, by assumption, by assumption, by assumption⟩] at k1; exact k1)
                 | (rw [bo3_f (fun z => by obtain ⟨z1, z2, z3, z4, z5, z6⟩ := z; first | contradiction | omega)] at k1; exact k1))
        · refine ⟨?_, ?_, ?_⟩
          · first | omega | exact ⟨hR, ho3.1⟩ | exact ⟨hp1, ho2.1⟩ | exact ⟨by omega, by omega⟩
          · first | omega | exact ⟨hR, ho3.1⟩ | exact ⟨hp1, ho2.1⟩ | exact ⟨by omega, by omega⟩
          refine ⟨fun c5 => ?_, fun c5 => ?_⟩
          · first
              | (have k1 := k M hM Em.rf hR
                 rw [bo3_f (fun z => by obtain ⟨z1, z2, z3, z4, z5, z6⟩ := z; first | contradiction | omega)] at k1
                 exact k1)
              | (have k1 := k M hM Em.rf h.1
                 first
                   | (rw [bo3_t ⟨by assumption, by assumption, by assumption, by assumption, by assumption, by assumption⟩] at k1; exact k1)
                   | (rw [bo3_f (fun z => by obtain ⟨z1, z2, z3, z4, z5, z6⟩ := z; first | contradiction | omega)] at k1; exact k1))
          · refine ⟨?_, ?_⟩
            · first | omega | exact ⟨hR, ho3.1⟩ | exact ⟨hp1, ho2.1⟩ | exact ⟨by omega, by omega⟩
            intro N1 hN1 he1 hp1
            refine ⟨?_, ?_⟩
            · first | omega | exact ⟨hR, ho3.1⟩ | exact ⟨hp1, ho2.1⟩ | exact ⟨by omega, by omega⟩
            intro N2 hN2 he2 hp2
            refine ⟨fun c6 => ?_, fun c6 => ?_⟩
            · first
                | (have k1 := k M hM Em.rf hR
                   rw [bo3_f (fun z => by obtain ⟨z1, z2, z3, z4, z5, z6⟩ := z; first | contradiction | omega)] at k1
                   exact k1)
                | (have k1 := k N2 hN2 (Em.tr (Em.tr Em.rf he1) he2) hp2
                   first
                     | (rw [bo3_t ⟨by assumption, by assumption, by assumption, by assumption, by assumption, by assumption⟩] at k1; exact k1)
                     | (rw [bo3_f (fun z => by obtain ⟨z1, z2, z3, z4, z5, z6⟩ := z; first | contradiction | omega)] at k1; exact k1))
            · first
                | (have k1 := k M hM Em.rf hR
                   rw [bo3_f (fun z => by obtain ⟨z1, z2, z3, z4, z5, z6⟩ := z; first | contradiction | omega)] at k1
                   exact k1)
                | (have k1 := k N2 hN2 (Em.tr (Em.tr Em.rf he1) he2) hp2
                   first
                     | (rw [bo3_t ⟨by assumption, by assumption, by assumption, by assumption, by assumption, by assumption⟩] at k1; exact k1)
                     | (rw [bo3_f (fun z => by obtain ⟨z1, z2, z3, z4, z5, z6⟩ := z; first | contradiction | omega)] at k1; exact k1))
theorem eX12_areUnlike {E : E3} {Q : Q3} {M0 M : M3} {x1 x2 x3 : Int} (e : Em M0 M) (h : RdC M ∧ okR M0 x2 ∧ okR M0 x3 ∧ (-2147483648 ≤ x1 ∧ x1 ≤ 2147483647)) (k : ∀ (N : M3), RM3 N → Em M N → RdC N → Q (some (vI (bo3 (mUnl M0 x1 x2 x3)))) N) : C3 E YX12_areUnlike [vR 44 0, vI x1, vI x2, vI x3] M Q :=
  kX12_areUnlike ⟨h.1, okR_e e h.2.1, okR_e e h.2.2.1, h.2.2.2⟩ (fun N a b d => by rw [bo3_of (mUnl_e e _ _ _)]; exact k N a b d)
def mParted (M : M3) (x1 x2 : Int) : Int := cn3 (M 44 0 18) fun p => decide (((x2 = 2 ∧ mFls M p) ∨ (x2 ≠ 2 ∧ mPtd M p ∧ mHow M p = x2 + 1)) ∧ (x1 = -1 ∨ M 46 0 (M 56 0 p) = x1))
theorem lX12_parted_26 {E : E3} {Q : Q3} {M0 : M3} {x1 x2 : Int} (ha : okA M0) (hx : (-2147483648 ≤ x1 ∧ x1 ≤ 2147483647) ∧ 0 ≤ x2 ∧ x2 ≤ 2) (k : ∀ (N : M3), RM3 N → Em M0 N → RdC N → Q (some (vI (mParted M0 x1 x2))) N) : ∀ (n : Nat) (x3 x4 : Int) (M : M3), 0 ≤ x4 → x4 + n = M0 44 0 18 → RdC M → Em M0 M → x3 = cn3 x4 (fun p => decide (((x2 = 2 ∧ mFls M0 p) ∨ (x2 ≠ 2 ∧ mPtd M0 p ∧ mHow M0 p = x2 + 1)) ∧ (x1 = -1 ∨ M0 46 0 (M0 56 0 p) = x1))) → G3 E YX12_parted Q 26 [(0, vR 44 0), (1, vI x1), (2, vI x2), (3, vI x3), (4, vI x4)] [] M := by
  intro n
  induction n with
  | zero =>
    intro x3 x4 M h1 h2 h3 h4 h5
    refine g3_rm fun hM => ?_
    have hR := h3
    have hb := ha.1
    refine sX12_parted_26 ?_
    simp only [h4.2 18 (by decide), bo3_of (mFls_e h4 _), mFls_e h4, mPtd_e h4, mHow_e h4, h4.1 46 (by decide), h4.1 56 (by decide)]
    refine ⟨?_, ?_⟩
    · first | omega | exact ⟨h3, okR_e h4 (ha.2 _ h1 (by omega))⟩ | (have := (ha.2 _ h1 (by omega)).1; have := this.1; omega) | (have := (ha.2 _ h1 (by omega)).1; exact ⟨this.1, by rw [he1.1 56 (by decide), h4.1 56 (by decide)]; exact this.2.2⟩) | (exfalso; omega)
    refine ⟨fun c1 => ?_, fun c1 => ?_⟩
    · first | (exfalso; omega) | (rw [h5, show x4 = M0 44 0 18 by omega]; exact k M hM h4 h3)
    · refine ⟨?_, ?_⟩
      · first | omega | exact ⟨h3, okR_e h4 (ha.2 _ h1 (by omega))⟩ | (have := (ha.2 _ h1 (by omega)).1; have := this.1; omega) | (have := (ha.2 _ h1 (by omega)).1; exact ⟨this.1, by rw [he1.1 56 (by decide), h4.1 56 (by decide)]; exact this.2.2⟩) | (exfalso; omega)
      refine ⟨fun c2 => ?_, fun c2 => ?_⟩
      · refine ⟨?_, ?_⟩
        · first | omega | exact ⟨h3, okR_e h4 (ha.2 _ h1 (by omega))⟩ | (have := (ha.2 _ h1 (by omega)).1; have := this.1; omega) | (have := (ha.2 _ h1 (by omega)).1; exact ⟨this.1, by rw [he1.1 56 (by decide), h4.1 56 (by decide)]; exact this.2.2⟩) | (exfalso; omega)
        intro N1 hN1 he1 hp1
        refine ⟨fun c3 => ?_, fun c3 => ?_⟩
        · exfalso; omega
        · refine ⟨?_, ?_, ?_⟩
          · first | omega | exact ⟨h3, okR_e h4 (ha.2 _ h1 (by omega))⟩ | (have := (ha.2 _ h1 (by omega)).1; have := this.1; omega) | (have := (ha.2 _ h1 (by omega)).1; exact ⟨this.1, by rw [he1.1 56 (by decide), h4.1 56 (by decide)]; exact this.2.2⟩) | (exfalso; omega)
          · first | omega | exact ⟨h3, okR_e h4 (ha.2 _ h1 (by omega))⟩ | (have := (ha.2 _ h1 (by omega)).1; have := this.1; omega) | (have := (ha.2 _ h1 (by omega)).1; exact ⟨this.1, by rw [he1.1 56 (by decide), h4.1 56 (by decide)]; exact this.2.2⟩) | (exfalso; omega)
          refine ⟨fun c4 => ?_, fun c4 => ?_⟩
          · exfalso; omega
          · refine ⟨?_, ?_⟩
            · first | omega | exact ⟨h3, okR_e h4 (ha.2 _ h1 (by omega))⟩ | (have := (ha.2 _ h1 (by omega)).1; have := this.1; omega) | (have := (ha.2 _ h1 (by omega)).1; exact ⟨this.1, by rw [he1.1 56 (by decide), h4.1 56 (by decide)]; exact this.2.2⟩) | (exfalso; omega)
            refine ⟨fun c5 => ?_, fun c5 => ?_⟩
            · exfalso; omega
            · refine ⟨?_, ?_⟩
              · first | omega | exact ⟨h3, okR_e h4 (ha.2 _ h1 (by omega))⟩ | (have := (ha.2 _ h1 (by omega)).1; have := this.1; omega) | (have := (ha.2 _ h1 (by omega)).1; exact ⟨this.1, by rw [he1.1 56 (by decide), h4.1 56 (by decide)]; exact this.2.2⟩) | (exfalso; omega)
              refine ⟨fun c6 => ?_, fun c6 => ?_⟩
              · exfalso; omega
              · exfalso; omega
      · refine ⟨?_, ?_⟩
        · first | omega | exact ⟨h3, okR_e h4 (ha.2 _ h1 (by omega))⟩ | (have := (ha.2 _ h1 (by omega)).1; have := this.1; omega) | (have := (ha.2 _ h1 (by omega)).1; exact ⟨this.1, by rw [he1.1 56 (by decide), h4.1 56 (by decide)]; exact this.2.2⟩) | (exfalso; omega)
        intro N1 hN1 he1 hp1
        refine ⟨fun c3 => ?_, fun c3 => ?_⟩
        · exfalso; omega
        · refine ⟨?_, ?_⟩
          · first | omega | exact ⟨h3, okR_e h4 (ha.2 _ h1 (by omega))⟩ | (have := (ha.2 _ h1 (by omega)).1; have := this.1; omega) | (have := (ha.2 _ h1 (by omega)).1; exact ⟨this.1, by rw [he1.1 56 (by decide), h4.1 56 (by decide)]; exact this.2.2⟩) | (exfalso; omega)
          refine ⟨fun c4 => ?_, fun c4 => ?_⟩
          · exfalso; omega
          · refine ⟨?_, ?_⟩
            · first | omega | exact ⟨h3, okR_e h4 (ha.2 _ h1 (by omega))⟩ | (have := (ha.2 _ h1 (by omega)).1; have := this.1; omega) | (have := (ha.2 _ h1 (by omega)).1; exact ⟨this.1, by rw [he1.1 56 (by decide), h4.1 56 (by decide)]; exact this.2.2⟩) | (exfalso; omega)
            refine ⟨fun c5 => ?_, fun c5 => ?_⟩
            · exfalso; omega
            · exfalso; omega
  | succ n ih =>
    intro x3 x4 M h1 h2 h3 h4 h5
    refine g3_rm fun hM => ?_
    have hR := h3
    have hb := ha.1
    refine sX12_parted_26 ?_
    simp only [h4.2 18 (by decide), bo3_of (mFls_e h4 _), mFls_e h4, mPtd_e h4, mHow_e h4, h4.1 46 (by decide), h4.1 56 (by decide)]
    refine ⟨?_, ?_⟩
    · first | omega | exact ⟨h3, okR_e h4 (ha.2 _ h1 (by omega))⟩ | (have := (ha.2 _ h1 (by omega)).1; have := this.1; omega) | (have := (ha.2 _ h1 (by omega)).1; exact ⟨this.1, by rw [he1.1 56 (by decide), h4.1 56 (by decide)]; exact this.2.2⟩) | (exfalso; omega)
    refine ⟨fun c1 => ?_, fun c1 => ?_⟩
    · exfalso; omega
    · refine ⟨?_, ?_⟩
      · first | omega | exact ⟨h3, okR_e h4 (ha.2 _ h1 (by omega))⟩ | (have := (ha.2 _ h1 (by omega)).1; have := this.1; omega) | (have := (ha.2 _ h1 (by omega)).1; exact ⟨this.1, by rw [he1.1 56 (by decide), h4.1 56 (by decide)]; exact this.2.2⟩) | (exfalso; omega)
      refine ⟨fun c2 => ?_, fun c2 => ?_⟩
      · refine ⟨?_, ?_⟩
        · first | omega | exact ⟨h3, okR_e h4 (ha.2 _ h1 (by omega))⟩ | (have := (ha.2 _ h1 (by omega)).1; have := this.1; omega) | (have := (ha.2 _ h1 (by omega)).1; exact ⟨this.1, by rw [he1.1 56 (by decide), h4.1 56 (by decide)]; exact this.2.2⟩) | (exfalso; omega)
        intro N1 hN1 he1 hp1
        refine ⟨fun c3 => ?_, fun c3 => ?_⟩
        · first
          | (exfalso; omega)
          | (refine ih _ _ _ (by omega) (by omega) (by first | assumption | exact h3) (by first | exact h4 | exact Em.tr h4 (Em.tr Em.rf he1)) ?_
             rw [cn3_s h1, ← h5]
             by_cases hP : (((x2 = 2 ∧ mFls M0 x4) ∨ (x2 ≠ 2 ∧ mPtd M0 x4 ∧ mHow M0 x4 = x2 + 1)) ∧ (x1 = -1 ∨ M0 46 0 (M0 56 0 x4) = x1))
             · rw [if_pos (decide_eq_true hP)] <;> first | omega | (exfalso; simp_all)
             · rw [if_neg (fun q => hP (of_decide_eq_true q))] <;> first | omega | (exfalso; simp_all))
        · refine ⟨?_, ?_, ?_⟩
          · first | omega | exact ⟨h3, okR_e h4 (ha.2 _ h1 (by omega))⟩ | (have := (ha.2 _ h1 (by omega)).1; have := this.1; omega) | (have := (ha.2 _ h1 (by omega)).1; exact ⟨this.1, by rw [he1.1 56 (by decide), h4.1 56 (by decide)]; exact this.2.2⟩) | (exfalso; omega)
          · first | omega | exact ⟨h3, okR_e h4 (ha.2 _ h1 (by omega))⟩ | (have := (ha.2 _ h1 (by omega)).1; have := this.1; omega) | (have := (ha.2 _ h1 (by omega)).1; exact ⟨this.1, by rw [he1.1 56 (by decide), h4.1 56 (by decide)]; exact this.2.2⟩) | (exfalso; omega)
          refine ⟨fun c4 => ?_, fun c4 => ?_⟩
          · first
            | (exfalso; omega)
            | (refine ih _ _ _ (by omega) (by omega) (by first | assumption | exact h3) (by first | exact h4 | exact Em.tr h4 (Em.tr Em.rf he1)) ?_
               rw [cn3_s h1, ← h5]
               by_cases hP : (((x2 = 2 ∧ mFls M0 x4) ∨ (x2 ≠ 2 ∧ mPtd M0 x4 ∧ mHow M0 x4 = x2 + 1)) ∧ (x1 = -1 ∨ M0 46 0 (M0 56 0 x4) = x1))
               · rw [if_pos (decide_eq_true hP)] <;> first | omega | (exfalso; simp_all)
               · rw [if_neg (fun q => hP (of_decide_eq_true q))] <;> first | omega | (exfalso; simp_all))
          · refine ⟨?_, ?_⟩
            · first | omega | exact ⟨h3, okR_e h4 (ha.2 _ h1 (by omega))⟩ | (have := (ha.2 _ h1 (by omega)).1; have := this.1; omega) | (have := (ha.2 _ h1 (by omega)).1; exact ⟨this.1, by rw [he1.1 56 (by decide), h4.1 56 (by decide)]; exact this.2.2⟩) | (exfalso; omega)
            refine ⟨fun c5 => ?_, fun c5 => ?_⟩
            · first
              | (exfalso; omega)
              | (refine ih _ _ _ (by omega) (by omega) (by first | assumption | exact h3) (by first | exact h4 | exact Em.tr h4 (Em.tr Em.rf he1)) ?_
                 rw [cn3_s h1, ← h5]
                 by_cases hP : (((x2 = 2 ∧ mFls M0 x4) ∨ (x2 ≠ 2 ∧ mPtd M0 x4 ∧ mHow M0 x4 = x2 + 1)) ∧ (x1 = -1 ∨ M0 46 0 (M0 56 0 x4) = x1))
                 · rw [if_pos (decide_eq_true hP)] <;> first | omega | (exfalso; simp_all)
                 · rw [if_neg (fun q => hP (of_decide_eq_true q))] <;> first | omega | (exfalso; simp_all))
            · refine ⟨?_, ?_⟩
              · first | omega | exact ⟨h3, okR_e h4 (ha.2 _ h1 (by omega))⟩ | (have := (ha.2 _ h1 (by omega)).1; have := this.1; omega) | (have := (ha.2 _ h1 (by omega)).1; exact ⟨this.1, by rw [he1.1 56 (by decide), h4.1 56 (by decide)]; exact this.2.2⟩) | (exfalso; omega)
              refine ⟨fun c6 => ?_, fun c6 => ?_⟩
              · first
                | (exfalso; omega)
                | (refine ih _ _ _ (by omega) (by omega) (by first | assumption | exact h3) (by first | exact h4 | exact Em.tr h4 (Em.tr Em.rf he1)) ?_
                   rw [cn3_s h1, ← h5]
                   by_cases hP : (((x2 = 2 ∧ mFls M0 x4) ∨ (x2 ≠ 2 ∧ mPtd M0 x4 ∧ mHow M0 x4 = x2 + 1)) ∧ (x1 = -1 ∨ M0 46 0 (M0 56 0 x4) = x1))
                   · rw [if_pos (decide_eq_true hP)] <;> first | omega | (exfalso; simp_all)
                   · rw [if_neg (fun q => hP (of_decide_eq_true q))] <;> first | omega | (exfalso; simp_all))
              · first
                | (exfalso; omega)
                | (refine ih _ _ _ (by omega) (by omega) (by first | assumption | exact h3) (by first | exact h4 | exact Em.tr h4 (Em.tr Em.rf he1)) ?_
                   rw [cn3_s h1, ← h5]
                   by_cases hP : (((x2 = 2 ∧ mFls M0 x4) ∨ (x2 ≠ 2 ∧ mPtd M0 x4 ∧ mHow M0 x4 = x2 + 1)) ∧ (x1 = -1 ∨ M0 46 0 (M0 56 0 x4) = x1))
                   · rw [if_pos (decide_eq_true hP)] <;> first | omega | (exfalso; simp_all)
                   · rw [if_neg (fun q => hP (of_decide_eq_true q))] <;> first | omega | (exfalso; simp_all))
      · refine ⟨?_, ?_⟩
        · first | omega | exact ⟨h3, okR_e h4 (ha.2 _ h1 (by omega))⟩ | (have := (ha.2 _ h1 (by omega)).1; have := this.1; omega) | (have := (ha.2 _ h1 (by omega)).1; exact ⟨this.1, by rw [he1.1 56 (by decide), h4.1 56 (by decide)]; exact this.2.2⟩) | (exfalso; omega)
        intro N1 hN1 he1 hp1
        refine ⟨fun c3 => ?_, fun c3 => ?_⟩
        · first
          | (exfalso; omega)
          | (refine ih _ _ _ (by omega) (by omega) (by first | assumption | exact h3) (by first | exact h4 | exact Em.tr h4 (Em.tr Em.rf he1)) ?_
             rw [cn3_s h1, ← h5]
             by_cases hP : (((x2 = 2 ∧ mFls M0 x4) ∨ (x2 ≠ 2 ∧ mPtd M0 x4 ∧ mHow M0 x4 = x2 + 1)) ∧ (x1 = -1 ∨ M0 46 0 (M0 56 0 x4) = x1))
             · rw [if_pos (decide_eq_true hP)] <;> first | omega | (exfalso; simp_all)
             · rw [if_neg (fun q => hP (of_decide_eq_true q))] <;> first | omega | (exfalso; simp_all))
        · refine ⟨?_, ?_⟩
          · first | omega | exact ⟨h3, okR_e h4 (ha.2 _ h1 (by omega))⟩ | (have := (ha.2 _ h1 (by omega)).1; have := this.1; omega) | (have := (ha.2 _ h1 (by omega)).1; exact ⟨this.1, by rw [he1.1 56 (by decide), h4.1 56 (by decide)]; exact this.2.2⟩) | (exfalso; omega)
          refine ⟨fun c4 => ?_, fun c4 => ?_⟩
          · first
            | (exfalso; omega)
            | (refine ih _ _ _ (by omega) (by omega) (by first | assumption | exact h3) (by first | exact h4 | exact Em.tr h4 (Em.tr Em.rf he1)) ?_
               rw [cn3_s h1, ← h5]
               by_cases hP : (((x2 = 2 ∧ mFls M0 x4) ∨ (x2 ≠ 2 ∧ mPtd M0 x4 ∧ mHow M0 x4 = x2 + 1)) ∧ (x1 = -1 ∨ M0 46 0 (M0 56 0 x4) = x1))
               · rw [if_pos (decide_eq_true hP)] <;> first | omega | (exfalso; simp_all)
               · rw [if_neg (fun q => hP (of_decide_eq_true q))] <;> first | omega | (exfalso; simp_all))
          · refine ⟨?_, ?_⟩
            · first | omega | exact ⟨h3, okR_e h4 (ha.2 _ h1 (by omega))⟩ | (have := (ha.2 _ h1 (by omega)).1; have := this.1; omega) | (have := (ha.2 _ h1 (by omega)).1; exact ⟨this.1, by rw [he1.1 56 (by decide), h4.1 56 (by decide)]; exact this.2.2⟩) | (exfalso; omega)
            refine ⟨fun c5 => ?_, fun c5 => ?_⟩
            · first
              | (exfalso; omega)
              | (refine ih _ _ _ (by omega) (by omega) (by first | assumption | exact h3) (by first | exact h4 | exact Em.tr h4 (Em.tr Em.rf he1)) ?_
                 rw [cn3_s h1, ← h5]
                 by_cases hP : (((x2 = 2 ∧ mFls M0 x4) ∨ (x2 ≠ 2 ∧ mPtd M0 x4 ∧ mHow M0 x4 = x2 + 1)) ∧ (x1 = -1 ∨ M0 46 0 (M0 56 0 x4) = x1))
                 · rw [if_pos (decide_eq_true hP)] <;> first | omega | (exfalso; simp_all)
                 · rw [if_neg (fun q => hP (of_decide_eq_true q))] <;> first | omega | (exfalso; simp_all))
            · first
              | (exfalso; omega)
              | (refine ih _ _ _ (by omega) (by omega) (by first | assumption | exact h3) (by first | exact h4 | exact Em.tr h4 (Em.tr Em.rf he1)) ?_
                 rw [cn3_s h1, ← h5]
                 by_cases hP : (((x2 = 2 ∧ mFls M0 x4) ∨ (x2 ≠ 2 ∧ mPtd M0 x4 ∧ mHow M0 x4 = x2 + 1)) ∧ (x1 = -1 ∨ M0 46 0 (M0 56 0 x4) = x1))
                 · rw [if_pos (decide_eq_true hP)] <;> first | omega | (exfalso; simp_all)
                 · rw [if_neg (fun q => hP (of_decide_eq_true q))] <;> first | omega | (exfalso; simp_all))
def okP (M : M3) : Prop := (0 ≤ M 44 0 1 ∧ M 44 0 1 ≤ 48) ∧ (0 ≤ M 44 0 0 ∧ M 44 0 0 ≤ 399) ∧ ∀ p : Int, 0 ≤ p → p < M 44 0 1 → 0 ≤ M 47 0 p ∧ M 47 0 p ≤ 20
theorem okP_e {M N : M3} (e : Em M N) (h : okP M) : okP N := by
  unfold okP at h ⊢
  rw [e.2 1 (by decide), e.2 0 (by decide), e.1 47 (by decide)]
  exact h
def mRdy (M : M3) (x1 x2 : Int) : Int := cn3 (M 44 0 1) fun p => decide ((M 50 0 p = 0 ∨ M 50 0 p = 2) ∧ (x1 = -1 ∨ M 45 0 p = x1) ∧ alw3 (LM3 M) (M 46 0 p) (M 44 0 0) ∧ sSd (LM3 M) 22 (M 44 0 0) ≤ min 20 (M 47 0 p + 2 * x2))
theorem lX12_readyOf_5 {E : E3} {Q : Q3} {M0 : M3} {x1 x2 : Int} (ha : okP M0) (hx : (-2147483648 ≤ x1 ∧ x1 ≤ 2147483647) ∧ 0 ≤ x2 ∧ x2 ≤ 12) (k : ∀ (N : M3), RM3 N → Em M0 N → RdC N → Q (some (vI (mRdy M0 x1 x2))) N) : ∀ (n : Nat) (x3 x4 : Int) (M : M3), 0 ≤ x4 → x4 + n = M0 44 0 1 → RdC M → Em M0 M → x3 = cn3 x4 (fun p => decide ((M0 50 0 p = 0 ∨ M0 50 0 p = 2) ∧ (x1 = -1 ∨ M0 45 0 p = x1) ∧ alw3 (LM3 M0) (M0 46 0 p) (M0 44 0 0) ∧ sSd (LM3 M0) 22 (M0 44 0 0) ≤ min 20 (M0 47 0 p + 2 * x2))) → G3 E YX12_readyOf Q 5 [(0, vR 44 0), (1, vI x1), (2, vI x2), (3, vI x3), (4, vI x4)] [] M := by
  intro n
  induction n with
  | zero =>
    intro x3 x4 M h1 h2 h3 h4 h5
    refine g3_rm fun hM => ?_
    have hR := h3
    have hb := ha.1
    refine sX12_readyOf_5 ?_
    simp only [h4.2 1 (by decide), h4.2 0 (by decide), h4.L, h4.1 50 (by decide), h4.1 45 (by decide), h4.1 46 (by decide), h4.1 47 (by decide)]
    refine ⟨?_, ?_⟩
    · first | omega | exact ⟨h3, ha.2.1⟩ | exact ⟨hp1, by omega, ha.2.1⟩ | (have := ha.2.2 _ h1 (by omega); omega) | (have := hR.sd 22 (M0 44 0 0); rw [h4.L] at this; omega) | (exfalso; omega)
    refine ⟨fun c1 => ?_, fun c1 => ?_⟩
    · first | (exfalso; omega) | (rw [h5, show x4 = M0 44 0 1 by omega]; exact k M hM h4 h3)
    · refine ⟨?_, ?_, ?_⟩
      · first | omega | exact ⟨h3, ha.2.1⟩ | exact ⟨hp1, by omega, ha.2.1⟩ | (have := ha.2.2 _ h1 (by omega); omega) | (have := hR.sd 22 (M0 44 0 0); rw [h4.L] at this; omega) | (exfalso; omega)
      · first | omega | exact ⟨h3, ha.2.1⟩ | exact ⟨hp1, by omega, ha.2.1⟩ | (have := ha.2.2 _ h1 (by omega); omega) | (have := hR.sd 22 (M0 44 0 0); rw [h4.L] at this; omega) | (exfalso; omega)
      refine ⟨fun c2 => ?_, fun c2 => ?_⟩
      · refine ⟨fun c3 => ?_, fun c3 => ?_⟩
        · exfalso; omega
        · refine ⟨?_, ?_⟩
          · first | omega | exact ⟨h3, ha.2.1⟩ | exact ⟨hp1, by omega, ha.2.1⟩ | (have := ha.2.2 _ h1 (by omega); omega) | (have := hR.sd 22 (M0 44 0 0); rw [h4.L] at this; omega) | (exfalso; omega)
          refine ⟨fun c4 => ?_, fun c4 => ?_⟩
          · refine ⟨?_, ?_⟩
            · first | omega | exact ⟨h3, ha.2.1⟩ | exact ⟨hp1, by omega, ha.2.1⟩ | (have := ha.2.2 _ h1 (by omega); omega) | (have := hR.sd 22 (M0 44 0 0); rw [h4.L] at this; omega) | (exfalso; omega)
            intro N1 hN1 he1 hp1
            refine ⟨fun c5 => ?_, fun c5 => ?_⟩
            · exfalso; omega
            · refine ⟨?_, ?_⟩
              · first | omega | exact ⟨h3, ha.2.1⟩ | exact ⟨hp1, by omega, ha.2.1⟩ | (have := ha.2.2 _ h1 (by omega); omega) | (have := hR.sd 22 (M0 44 0 0); rw [h4.L] at this; omega) | (exfalso; omega)
              intro N2 hN2 he2 hp2
              refine ⟨?_, ?_⟩
              · first | omega | exact ⟨h3, ha.2.1⟩ | exact ⟨hp1, by omega, ha.2.1⟩ | (have := ha.2.2 _ h1 (by omega); omega) | (have := hR.sd 22 (M0 44 0 0); rw [h4.L] at this; omega) | (exfalso; omega)
              refine ⟨fun c6 => ?_, fun c6 => ?_⟩
              · exfalso; omega
              · exfalso; omega
          · refine ⟨fun c5 => ?_, fun c5 => ?_⟩
            · exfalso; omega
            · refine ⟨?_, ?_⟩
              · first | omega | exact ⟨h3, ha.2.1⟩ | exact ⟨hp1, by omega, ha.2.1⟩ | (have := ha.2.2 _ h1 (by omega); omega) | (have := hR.sd 22 (M0 44 0 0); rw [h4.L] at this; omega) | (exfalso; omega)
              intro N1 hN1 he1 hp1
              refine ⟨fun c6 => ?_, fun c6 => ?_⟩
              · exfalso; omega
              · refine ⟨?_, ?_⟩
                · first | omega | exact ⟨h3, ha.2.1⟩ | exact ⟨hp1, by omega, ha.2.1⟩ | (have := ha.2.2 _ h1 (by omega); omega) | (have := hR.sd 22 (M0 44 0 0); rw [h4.L] at this; omega) | (exfalso; omega)
                intro N2 hN2 he2 hp2
                refine ⟨?_, ?_⟩
                · first | omega | exact ⟨h3, ha.2.1⟩ | exact ⟨hp1, by omega, ha.2.1⟩ | (have := ha.2.2 _ h1 (by omega); omega) | (have := hR.sd 22 (M0 44 0 0); rw [h4.L] at this; omega) | (exfalso; omega)
                refine ⟨fun c7 => ?_, fun c7 => ?_⟩
                · exfalso; omega
                · exfalso; omega
      · refine ⟨fun c3 => ?_, fun c3 => ?_⟩
        · exfalso; omega
        · refine ⟨?_, ?_⟩
          · first | omega | exact ⟨h3, ha.2.1⟩ | exact ⟨hp1, by omega, ha.2.1⟩ | (have := ha.2.2 _ h1 (by omega); omega) | (have := hR.sd 22 (M0 44 0 0); rw [h4.L] at this; omega) | (exfalso; omega)
          refine ⟨fun c4 => ?_, fun c4 => ?_⟩
          · refine ⟨?_, ?_⟩
            · first | omega | exact ⟨h3, ha.2.1⟩ | exact ⟨hp1, by omega, ha.2.1⟩ | (have := ha.2.2 _ h1 (by omega); omega) | (have := hR.sd 22 (M0 44 0 0); rw [h4.L] at this; omega) | (exfalso; omega)
            intro N1 hN1 he1 hp1
            refine ⟨fun c5 => ?_, fun c5 => ?_⟩
            · exfalso; omega
            · refine ⟨?_, ?_⟩
              · first | omega | exact ⟨h3, ha.2.1⟩ | exact ⟨hp1, by omega, ha.2.1⟩ | (have := ha.2.2 _ h1 (by omega); omega) | (have := hR.sd 22 (M0 44 0 0); rw [h4.L] at this; omega) | (exfalso; omega)
              intro N2 hN2 he2 hp2
              refine ⟨?_, ?_⟩
              · first | omega | exact ⟨h3, ha.2.1⟩ | exact ⟨hp1, by omega, ha.2.1⟩ | (have := ha.2.2 _ h1 (by omega); omega) | (have := hR.sd 22 (M0 44 0 0); rw [h4.L] at this; omega) | (exfalso; omega)
              refine ⟨fun c6 => ?_, fun c6 => ?_⟩
              · exfalso; omega
              · exfalso; omega
          · refine ⟨fun c5 => ?_, fun c5 => ?_⟩
            · exfalso; omega
            · refine ⟨?_, ?_⟩
              · first | omega | exact ⟨h3, ha.2.1⟩ | exact ⟨hp1, by omega, ha.2.1⟩ | (have := ha.2.2 _ h1 (by omega); omega) | (have := hR.sd 22 (M0 44 0 0); rw [h4.L] at this; omega) | (exfalso; omega)
              intro N1 hN1 he1 hp1
              refine ⟨fun c6 => ?_, fun c6 => ?_⟩
              · exfalso; omega
              · refine ⟨?_, ?_⟩
                · first | omega | exact ⟨h3, ha.2.1⟩ | exact ⟨hp1, by omega, ha.2.1⟩ | (have := ha.2.2 _ h1 (by omega); omega) | (have := hR.sd 22 (M0 44 0 0); rw [h4.L] at this; omega) | (exfalso; omega)
                intro N2 hN2 he2 hp2
                refine ⟨?_, ?_⟩
                · first | omega | exact ⟨h3, ha.2.1⟩ | exact ⟨hp1, by omega, ha.2.1⟩ | (have := ha.2.2 _ h1 (by omega); omega) | (have := hR.sd 22 (M0 44 0 0); rw [h4.L] at this; omega) | (exfalso; omega)
                refine ⟨fun c7 => ?_, fun c7 => ?_⟩
                · exfalso; omega
                · exfalso; omega
  | succ n ih =>
    intro x3 x4 M h1 h2 h3 h4 h5
    refine g3_rm fun hM => ?_
    have hR := h3
    have hb := ha.1
    refine sX12_readyOf_5 ?_
    simp only [h4.2 1 (by decide), h4.2 0 (by decide), h4.L, h4.1 50 (by decide), h4.1 45 (by decide), h4.1 46 (by decide), h4.1 47 (by decide)]
    refine ⟨?_, ?_⟩
    · first | omega | exact ⟨h3, ha.2.1⟩ | exact ⟨hp1, by omega, ha.2.1⟩ | (have := ha.2.2 _ h1 (by omega); omega) | (have := hR.sd 22 (M0 44 0 0); rw [h4.L] at this; omega) | (exfalso; omega)
    refine ⟨fun c1 => ?_, fun c1 => ?_⟩
    · exfalso; omega
    · refine ⟨?_, ?_, ?_⟩
      · first | omega | exact ⟨h3, ha.2.1⟩ | exact ⟨hp1, by omega, ha.2.1⟩ | (have := ha.2.2 _ h1 (by omega); omega) | (have := hR.sd 22 (M0 44 0 0); rw [h4.L] at this; omega) | (exfalso; omega)
      · first | omega | exact ⟨h3, ha.2.1⟩ | exact ⟨hp1, by omega, ha.2.1⟩ | (have := ha.2.2 _ h1 (by omega); omega) | (have := hR.sd 22 (M0 44 0 0); rw [h4.L] at this; omega) | (exfalso; omega)
      refine ⟨fun c2 => ?_, fun c2 => ?_⟩
      · refine ⟨fun c3 => ?_, fun c3 => ?_⟩
        · first
          | (exfalso; omega)
          | (refine ih _ _ _ (by omega) (by omega) (by first | assumption | exact h3) (by first | exact h4 | exact Em.tr h4 Em.rf) ?_
             rw [cn3_s h1, ← h5]
             by_cases hP : ((M0 50 0 x4 = 0 ∨ M0 50 0 x4 = 2) ∧ (x1 = -1 ∨ M0 45 0 x4 = x1) ∧ alw3 (LM3 M0) (M0 46 0 x4) (M0 44 0 0) ∧ sSd (LM3 M0) 22 (M0 44 0 0) ≤ min 20 (M0 47 0 x4 + 2 * x2))
             · rw [if_pos (decide_eq_true hP)] <;> first | omega | (exfalso; simp_all)
             · rw [if_neg (fun q => hP (of_decide_eq_true q))] <;> first | omega | (exfalso; simp_all))
        · refine ⟨?_, ?_⟩
          · first | omega | exact ⟨h3, ha.2.1⟩ | exact ⟨hp1, by omega, ha.2.1⟩ | (have := ha.2.2 _ h1 (by omega); omega) | (have := hR.sd 22 (M0 44 0 0); rw [h4.L] at this; omega) | (exfalso; omega)
          refine ⟨fun c4 => ?_, fun c4 => ?_⟩
          · refine ⟨?_, ?_⟩
            · first | omega | exact ⟨h3, ha.2.1⟩ | exact ⟨hp1, by omega, ha.2.1⟩ | (have := ha.2.2 _ h1 (by omega); omega) | (have := hR.sd 22 (M0 44 0 0); rw [h4.L] at this; omega) | (exfalso; omega)
            intro N1 hN1 he1 hp1
            refine ⟨fun c5 => ?_, fun c5 => ?_⟩
            · first
              | (exfalso; omega)
              | (refine ih _ _ _ (by omega) (by omega) (by first | assumption | exact h3) (by first | exact h4 | exact Em.tr h4 (Em.tr Em.rf he1)) ?_
                 rw [cn3_s h1, ← h5]
                 by_cases hP : ((M0 50 0 x4 = 0 ∨ M0 50 0 x4 = 2) ∧ (x1 = -1 ∨ M0 45 0 x4 = x1) ∧ alw3 (LM3 M0) (M0 46 0 x4) (M0 44 0 0) ∧ sSd (LM3 M0) 22 (M0 44 0 0) ≤ min 20 (M0 47 0 x4 + 2 * x2))
                 · rw [if_pos (decide_eq_true hP)] <;> first | omega | (exfalso; simp_all)
                 · rw [if_neg (fun q => hP (of_decide_eq_true q))] <;> first | omega | (exfalso; simp_all))
            · refine ⟨?_, ?_⟩
              · first | omega | exact ⟨h3, ha.2.1⟩ | exact ⟨hp1, by omega, ha.2.1⟩ | (have := ha.2.2 _ h1 (by omega); omega) | (have := hR.sd 22 (M0 44 0 0); rw [h4.L] at this; omega) | (exfalso; omega)
              intro N2 hN2 he2 hp2
              refine ⟨?_, ?_⟩
              · first | omega | exact ⟨h3, ha.2.1⟩ | exact ⟨hp1, by omega, ha.2.1⟩ | (have := ha.2.2 _ h1 (by omega); omega) | (have := hR.sd 22 (M0 44 0 0); rw [h4.L] at this; omega) | (exfalso; omega)
              refine ⟨fun c6 => ?_, fun c6 => ?_⟩
              · first
                | (exfalso; omega)
                | (refine ih _ _ _ (by omega) (by omega) (by first | assumption | exact h3) (by first | exact h4 | exact Em.tr h4 (Em.tr (Em.tr Em.rf he1) he2)) ?_
                   rw [cn3_s h1, ← h5]
                   by_cases hP : ((M0 50 0 x4 = 0 ∨ M0 50 0 x4 = 2) ∧ (x1 = -1 ∨ M0 45 0 x4 = x1) ∧ alw3 (LM3 M0) (M0 46 0 x4) (M0 44 0 0) ∧ sSd (LM3 M0) 22 (M0 44 0 0) ≤ min 20 (M0 47 0 x4 + 2 * x2))
                   · rw [if_pos (decide_eq_true hP)] <;> first | omega | (exfalso; simp_all)
                   · rw [if_neg (fun q => hP (of_decide_eq_true q))] <;> first | omega | (exfalso; simp_all))
              · first
                | (exfalso; omega)
                | (refine ih _ _ _ (by omega) (by omega) (by first | assumption | exact h3) (by first | exact h4 | exact Em.tr h4 (Em.tr (Em.tr Em.rf he1) he2)) ?_
                   rw [cn3_s h1, ← h5]
                   by_cases hP : ((M0 50 0 x4 = 0 ∨ M0 50 0 x4 = 2) ∧ (x1 = -1 ∨ M0 45 0 x4 = x1) ∧ alw3 (LM3 M0) (M0 46 0 x4) (M0 44 0 0) ∧ sSd (LM3 M0) 22 (M0 44 0 0) ≤ min 20 (M0 47 0 x4 + 2 * x2))
                   · rw [if_pos (decide_eq_true hP)] <;> first | omega | (exfalso; simp_all)
                   · rw [if_neg (fun q => hP (of_decide_eq_true q))] <;> first | omega | (exfalso; simp_all))
          · refine ⟨fun c5 => ?_, fun c5 => ?_⟩
            · first
              | (exfalso; omega)
              | (refine ih _ _ _ (by omega) (by omega) (by first | assumption | exact h3) (by first | exact h4 | exact Em.tr h4 Em.rf) ?_
                 rw [cn3_s h1, ← h5]
                 by_cases hP : ((M0 50 0 x4 = 0 ∨ M0 50 0 x4 = 2) ∧ (x1 = -1 ∨ M0 45 0 x4 = x1) ∧ alw3 (LM3 M0) (M0 46 0 x4) (M0 44 0 0) ∧ sSd (LM3 M0) 22 (M0 44 0 0) ≤ min 20 (M0 47 0 x4 + 2 * x2))
                 · rw [if_pos (decide_eq_true hP)] <;> first | omega | (exfalso; simp_all)
                 · rw [if_neg (fun q => hP (of_decide_eq_true q))] <;> first | omega | (exfalso; simp_all))
            · refine ⟨?_, ?_⟩
              · first | omega | exact ⟨h3, ha.2.1⟩ | exact ⟨hp1, by omega, ha.2.1⟩ | (have := ha.2.2 _ h1 (by omega); omega) | (have := hR.sd 22 (M0 44 0 0); rw [h4.L] at this; omega) | (exfalso; omega)
              intro N1 hN1 he1 hp1
              refine ⟨fun c6 => ?_, fun c6 => ?_⟩
              · first
                | (exfalso; omega)
                | (refine ih _ _ _ (by omega) (by omega) (by first | assumption | exact h3) (by first | exact h4 | exact Em.tr h4 (Em.tr Em.rf he1)) ?_
                   rw [cn3_s h1, ← h5]
                   by_cases hP : ((M0 50 0 x4 = 0 ∨ M0 50 0 x4 = 2) ∧ (x1 = -1 ∨ M0 45 0 x4 = x1) ∧ alw3 (LM3 M0) (M0 46 0 x4) (M0 44 0 0) ∧ sSd (LM3 M0) 22 (M0 44 0 0) ≤ min 20 (M0 47 0 x4 + 2 * x2))
                   · rw [if_pos (decide_eq_true hP)] <;> first | omega | (exfalso; simp_all)
                   · rw [if_neg (fun q => hP (of_decide_eq_true q))] <;> first | omega | (exfalso; simp_all))
              · refine ⟨?_, ?_⟩
                · first | omega | exact ⟨h3, ha.2.1⟩ | exact ⟨hp1, by omega, ha.2.1⟩ | (have := ha.2.2 _ h1 (by omega); omega) | (have := hR.sd 22 (M0 44 0 0); rw [h4.L] at this; omega) | (exfalso; omega)
                intro N2 hN2 he2 hp2
                refine ⟨?_, ?_⟩
                · first | omega | exact ⟨h3, ha.2.1⟩ | exact ⟨hp1, by omega, ha.2.1⟩ | (have := ha.2.2 _ h1 (by omega); omega) | (have := hR.sd 22 (M0 44 0 0); rw [h4.L] at this; omega) | (exfalso; omega)
                refine ⟨fun c7 => ?_, fun c7 => ?_⟩
                · first
                  | (exfalso; omega)
                  | (refine ih _ _ _ (by omega) (by omega) (by first | assumption | exact h3) (by first | exact h4 | exact Em.tr h4 (Em.tr (Em.tr Em.rf he1) he2)) ?_
                     rw [cn3_s h1, ← h5]
                     by_cases hP : ((M0 50 0 x4 = 0 ∨ M0 50 0 x4 = 2) ∧ (x1 = -1 ∨ M0 45 0 x4 = x1) ∧ alw3 (LM3 M0) (M0 46 0 x4) (M0 44 0 0) ∧ sSd (LM3 M0) 22 (M0 44 0 0) ≤ min 20 (M0 47 0 x4 + 2 * x2))
                     · rw [if_pos (decide_eq_true hP)] <;> first | omega | (exfalso; simp_all)
                     · rw [if_neg (fun q => hP (of_decide_eq_true q))] <;> first | omega | (exfalso; simp_all))
                · first
                  | (exfalso; omega)
                  | (refine ih _ _ _ (by omega) (by omega) (by first | assumption | exact h3) (by first | exact h4 | exact Em.tr h4 (Em.tr (Em.tr Em.rf he1) he2)) ?_
                     rw [cn3_s h1, ← h5]
                     by_cases hP : ((M0 50 0 x4 = 0 ∨ M0 50 0 x4 = 2) ∧ (x1 = -1 ∨ M0 45 0 x4 = x1) ∧ alw3 (LM3 M0) (M0 46 0 x4) (M0 44 0 0) ∧ sSd (LM3 M0) 22 (M0 44 0 0) ≤ min 20 (M0 47 0 x4 + 2 * x2))
                     · rw [if_pos (decide_eq_true hP)] <;> first | omega | (exfalso; simp_all)
                     · rw [if_neg (fun q => hP (of_decide_eq_true q))] <;> first | omega | (exfalso; simp_all))
      · refine ⟨fun c3 => ?_, fun c3 => ?_⟩
        · first
          | (exfalso; omega)
          | (refine ih _ _ _ (by omega) (by omega) (by first | assumption | exact h3) (by first | exact h4 | exact Em.tr h4 Em.rf) ?_
             rw [cn3_s h1, ← h5]
             by_cases hP : ((M0 50 0 x4 = 0 ∨ M0 50 0 x4 = 2) ∧ (x1 = -1 ∨ M0 45 0 x4 = x1) ∧ alw3 (LM3 M0) (M0 46 0 x4) (M0 44 0 0) ∧ sSd (LM3 M0) 22 (M0 44 0 0) ≤ min 20 (M0 47 0 x4 + 2 * x2))
             · rw [if_pos (decide_eq_true hP)] <;> first | omega | (exfalso; simp_all)
             · rw [if_neg (fun q => hP (of_decide_eq_true q))] <;> first | omega | (exfalso; simp_all))
        · refine ⟨?_, ?_⟩
          · first | omega | exact ⟨h3, ha.2.1⟩ | exact ⟨hp1, by omega, ha.2.1⟩ | (have := ha.2.2 _ h1 (by omega); omega) | (have := hR.sd 22 (M0 44 0 0); rw [h4.L] at this; omega) | (exfalso; omega)
          refine ⟨fun c4 => ?_, fun c4 => ?_⟩
          · refine ⟨?_, ?_⟩
            · first | omega | exact ⟨h3, ha.2.1⟩ | exact ⟨hp1, by omega, ha.2.1⟩ | (have := ha.2.2 _ h1 (by omega); omega) | (have := hR.sd 22 (M0 44 0 0); rw [h4.L] at this; omega) | (exfalso; omega)
            intro N1 hN1 he1 hp1
            refine ⟨fun c5 => ?_, fun c5 => ?_⟩
            · first
              | (exfalso; omega)
              | (refine ih _ _ _ (by omega) (by omega) (by first | assumption | exact h3) (by first | exact h4 | exact Em.tr h4 (Em.tr Em.rf he1)) ?_
                 rw [cn3_s h1, ← h5]
                 by_cases hP : ((M0 50 0 x4 = 0 ∨ M0 50 0 x4 = 2) ∧ (x1 = -1 ∨ M0 45 0 x4 = x1) ∧ alw3 (LM3 M0) (M0 46 0 x4) (M0 44 0 0) ∧ sSd (LM3 M0) 22 (M0 44 0 0) ≤ min 20 (M0 47 0 x4 + 2 * x2))
                 · rw [if_pos (decide_eq_true hP)] <;> first | omega | (exfalso; simp_all)
                 · rw [if_neg (fun q => hP (of_decide_eq_true q))] <;> first | omega | (exfalso; simp_all))
            · refine ⟨?_, ?_⟩
              · first | omega | exact ⟨h3, ha.2.1⟩ | exact ⟨hp1, by omega, ha.2.1⟩ | (have := ha.2.2 _ h1 (by omega); omega) | (have := hR.sd 22 (M0 44 0 0); rw [h4.L] at this; omega) | (exfalso; omega)
              intro N2 hN2 he2 hp2
              refine ⟨?_, ?_⟩
              · first | omega | exact ⟨h3, ha.2.1⟩ | exact ⟨hp1, by omega, ha.2.1⟩ | (have := ha.2.2 _ h1 (by omega); omega) | (have := hR.sd 22 (M0 44 0 0); rw [h4.L] at this; omega) | (exfalso; omega)
              refine ⟨fun c6 => ?_, fun c6 => ?_⟩
              · first
                | (exfalso; omega)
                | (refine ih _ _ _ (by omega) (by omega) (by first | assumption | exact h3) (by first | exact h4 | exact Em.tr h4 (Em.tr (Em.tr Em.rf he1) he2)) ?_
                   rw [cn3_s h1, ← h5]
                   by_cases hP : ((M0 50 0 x4 = 0 ∨ M0 50 0 x4 = 2) ∧ (x1 = -1 ∨ M0 45 0 x4 = x1) ∧ alw3 (LM3 M0) (M0 46 0 x4) (M0 44 0 0) ∧ sSd (LM3 M0) 22 (M0 44 0 0) ≤ min 20 (M0 47 0 x4 + 2 * x2))
                   · rw [if_pos (decide_eq_true hP)] <;> first | omega | (exfalso; simp_all)
                   · rw [if_neg (fun q => hP (of_decide_eq_true q))] <;> first | omega | (exfalso; simp_all))
              · first
                | (exfalso; omega)
                | (refine ih _ _ _ (by omega) (by omega) (by first | assumption | exact h3) (by first | exact h4 | exact Em.tr h4 (Em.tr (Em.tr Em.rf he1) he2)) ?_
                   rw [cn3_s h1, ← h5]
                   by_cases hP : ((M0 50 0 x4 = 0 ∨ M0 50 0 x4 = 2) ∧ (x1 = -1 ∨ M0 45 0 x4 = x1) ∧ alw3 (LM3 M0) (M0 46 0 x4) (M0 44 0 0) ∧ sSd (LM3 M0) 22 (M0 44 0 0) ≤ min 20 (M0 47 0 x4 + 2 * x2))
                   · rw [if_pos (decide_eq_true hP)] <;> first | omega | (exfalso; simp_all)
                   · rw [if_neg (fun q => hP (of_decide_eq_true q))] <;> first | omega | (exfalso; simp_all))
          · refine ⟨fun c5 => ?_, fun c5 => ?_⟩
            · first
              | (exfalso; omega)
              | (refine ih _ _ _ (by omega) (by omega) (by first | assumption | exact h3) (by first | exact h4 | exact Em.tr h4 Em.rf) ?_
                 rw [cn3_s h1, ← h5]
                 by_cases hP : ((M0 50 0 x4 = 0 ∨ M0 50 0 x4 = 2) ∧ (x1 = -1 ∨ M0 45 0 x4 = x1) ∧ alw3 (LM3 M0) (M0 46 0 x4) (M0 44 0 0) ∧ sSd (LM3 M0) 22 (M0 44 0 0) ≤ min 20 (M0 47 0 x4 + 2 * x2))
                 · rw [if_pos (decide_eq_true hP)] <;> first | omega | (exfalso; simp_all)
                 · rw [if_neg (fun q => hP (of_decide_eq_true q))] <;> first | omega | (exfalso; simp_all))
            · refine ⟨?_, ?_⟩
              · first | omega | exact ⟨h3, ha.2.1⟩ | exact ⟨hp1, by omega, ha.2.1⟩ | (have := ha.2.2 _ h1 (by omega); omega) | (have := hR.sd 22 (M0 44 0 0); rw [h4.L] at this; omega) | (exfalso; omega)
              intro N1 hN1 he1 hp1
              refine ⟨fun c6 => ?_, fun c6 => ?_⟩
              · first
                | (exfalso; omega)
                | (refine ih _ _ _ (by omega) (by omega) (by first | assumption | exact h3) (by first | exact h4 | exact Em.tr h4 (Em.tr Em.rf he1)) ?_
                   rw [cn3_s h1, ← h5]
                   by_cases hP : ((M0 50 0 x4 = 0 ∨ M0 50 0 x4 = 2) ∧ (x1 = -1 ∨ M0 45 0 x4 = x1) ∧ alw3 (LM3 M0) (M0 46 0 x4) (M0 44 0 0) ∧ sSd (LM3 M0) 22 (M0 44 0 0) ≤ min 20 (M0 47 0 x4 + 2 * x2))
                   · rw [if_pos (decide_eq_true hP)] <;> first | omega | (exfalso; simp_all)
                   · rw [if_neg (fun q => hP (of_decide_eq_true q))] <;> first | omega | (exfalso; simp_all))
              · refine ⟨?_, ?_⟩
                · first | omega | exact ⟨h3, ha.2.1⟩ | exact ⟨hp1, by omega, ha.2.1⟩ | (have := ha.2.2 _ h1 (by omega); omega) | (have := hR.sd 22 (M0 44 0 0); rw [h4.L] at this; omega) | (exfalso; omega)
                intro N2 hN2 he2 hp2
                refine ⟨?_, ?_⟩
                · first | omega | exact ⟨h3, ha.2.1⟩ | exact ⟨hp1, by omega, ha.2.1⟩ | (have := ha.2.2 _ h1 (by omega); omega) | (have := hR.sd 22 (M0 44 0 0); rw [h4.L] at this; omega) | (exfalso; omega)
                refine ⟨fun c7 => ?_, fun c7 => ?_⟩
                · first
                  | (exfalso; omega)
                  | (refine ih _ _ _ (by omega) (by omega) (by first | assumption | exact h3) (by first | exact h4 | exact Em.tr h4 (Em.tr (Em.tr Em.rf he1) he2)) ?_
                     rw [cn3_s h1, ← h5]
                     by_cases hP : ((M0 50 0 x4 = 0 ∨ M0 50 0 x4 = 2) ∧ (x1 = -1 ∨ M0 45 0 x4 = x1) ∧ alw3 (LM3 M0) (M0 46 0 x4) (M0 44 0 0) ∧ sSd (LM3 M0) 22 (M0 44 0 0) ≤ min 20 (M0 47 0 x4 + 2 * x2))
                     · rw [if_pos (decide_eq_true hP)] <;> first | omega | (exfalso; simp_all)
                     · rw [if_neg (fun q => hP (of_decide_eq_true q))] <;> first | omega | (exfalso; simp_all))
                · first
                  | (exfalso; omega)
                  | (refine ih _ _ _ (by omega) (by omega) (by first | assumption | exact h3) (by first | exact h4 | exact Em.tr h4 (Em.tr (Em.tr Em.rf he1) he2)) ?_
                     rw [cn3_s h1, ← h5]
                     by_cases hP : ((M0 50 0 x4 = 0 ∨ M0 50 0 x4 = 2) ∧ (x1 = -1 ∨ M0 45 0 x4 = x1) ∧ alw3 (LM3 M0) (M0 46 0 x4) (M0 44 0 0) ∧ sSd (LM3 M0) 22 (M0 44 0 0) ≤ min 20 (M0 47 0 x4 + 2 * x2))
                     · rw [if_pos (decide_eq_true hP)] <;> first | omega | (exfalso; simp_all)
                     · rw [if_neg (fun q => hP (of_decide_eq_true q))] <;> first | omega | (exfalso; simp_all))
theorem mParted_e {M N : M3} (h : Em M N) (a b : Int) : mParted N a b = mParted M a b := by
  unfold mParted
  simp only [h.2 18 (by decide), mFls_e h, mPtd_e h, mHow_e h, h.1 46 (by decide), h.1 56 (by decide)]
theorem mRdy_e {M N : M3} (h : Em M N) (a b : Int) : mRdy N a b = mRdy M a b := by
  unfold mRdy
  simp only [alw3, h.2 1 (by decide), h.2 0 (by decide), h.L, h.1 50 (by decide), h.1 45 (by decide), h.1 46 (by decide), h.1 47 (by decide)]
theorem kX12_parted {E : E3} {Q : Q3} {M : M3} {x1 x2 : Int} (h : RdC M ∧ okA M ∧ (-2147483648 ≤ x1 ∧ x1 ≤ 2147483647) ∧ (-2147483648 ≤ x2 ∧ x2 ≤ 2147483647)) (k : ∀ (N : M3), RM3 N → Em M N → RdC N → Q (some (vI (if (-1 ≤ x1 ∧ x1 ≤ 1) ∧ 0 ≤ x2 ∧ x2 ≤ 2 then mParted M x1 x2 else -2))) N) : C3 E YX12_parted [vR 44 0, vI x1, vI x2] M Q := by
  refine c3_rm fun hM => ?_
  obtain ⟨hR, ha, hx, hy⟩ := h
  refine sX12_parted ?_
  refine ⟨?_, ?_⟩
  · omega
  refine ⟨fun c1 => ?_, fun c1 => ?_⟩
  · have k1 := k M hM Em.rf hR
    rw [if_neg (fun z => by first | exact absurd z.1 (by assumption) | exact absurd z.2 (by assumption))] at k1
    exact k1
  · refine ⟨?_, ?_⟩
    · omega
    refine ⟨fun c2 => ?_, fun c2 => ?_⟩
    · exact lX12_parted_26 ha ⟨hx, by assumption⟩ (fun N a b d => by have k1 := k N a b d; rw [if_pos ⟨by assumption, by assumption⟩] at k1; exact k1) (M 44 0 18).toNat 0 0 M (by omega) (by have := ha.1; omega) hR Em.rf rfl
    · have k1 := k M hM Em.rf hR
      rw [if_neg (fun z => by first | exact absurd z.1 (by assumption) | exact absurd z.2 (by assumption))] at k1
      exact k1
theorem eX12_parted {E : E3} {Q : Q3} {M0 M : M3} {x1 x2 : Int} (e : Em M0 M) (h : RdC M ∧ okA M0 ∧ (-2147483648 ≤ x1 ∧ x1 ≤ 2147483647) ∧ (-2147483648 ≤ x2 ∧ x2 ≤ 2147483647)) (k : ∀ (N : M3), RM3 N → Em M N → RdC N → Q (some (vI (if (-1 ≤ x1 ∧ x1 ≤ 1) ∧ 0 ≤ x2 ∧ x2 ≤ 2 then mParted M0 x1 x2 else -2))) N) : C3 E YX12_parted [vR 44 0, vI x1, vI x2] M Q :=
  kX12_parted ⟨h.1, okA_e e h.2.1, h.2.2⟩ (fun N a b d => by rw [mParted_e e]; exact k N a b d)
theorem kX12_readyOf {E : E3} {Q : Q3} {M : M3} {x1 x2 : Int} (h : RdC M ∧ okP M ∧ (-2147483648 ≤ x1 ∧ x1 ≤ 2147483647) ∧ 0 ≤ x2 ∧ x2 ≤ 12) (k : ∀ (N : M3), RM3 N → Em M N → RdC N → Q (some (vI (mRdy M x1 x2))) N) : C3 E YX12_readyOf [vR 44 0, vI x1, vI x2] M Q :=
  sX12_readyOf (lX12_readyOf_5 h.2.1 h.2.2 k (M 44 0 1).toNat 0 0 M (by omega) (by have := h.2.1.1; omega) h.1 Em.rf rfl)
theorem eX12_readyOf {E : E3} {Q : Q3} {M0 M : M3} {x1 x2 : Int} (e : Em M0 M) (h : RdC M ∧ okP M0 ∧ (-2147483648 ≤ x1 ∧ x1 ≤ 2147483647) ∧ 0 ≤ x2 ∧ x2 ≤ 12) (k : ∀ (N : M3), RM3 N → Em M N → RdC N → Q (some (vI (mRdy M0 x1 x2))) N) : C3 E YX12_readyOf [vR 44 0, vI x1, vI x2] M Q :=
  kX12_readyOf ⟨h.1, okP_e e h.2.1, h.2.2⟩ (fun N a b d => by rw [mRdy_e e]; exact k N a b d)
