def mBad (M : M3) (c s fr : Int) : Int := cn3 (M 44 0 18) fun f => decide (0 < mHow M f ∧ M 61 0 f = c ∧ M 46 0 (M 56 0 f) = s ∧ ((mHow M f = 1 ∧ mRights M f < fr) ∨ (mHow M f ≠ 1 ∧ fr ≤ mRights M f)))
abbrev mFit (M : M3) (c s fr : Int) : Prop := mBad M c s fr = 0
theorem mBad_e {M N : M3} (e : Em M N) (c s fr : Int) : mBad N c s fr = mBad M c s fr := by
  unfold mBad
  rw [e.2 18 (by decide), e.1 61 (by decide), e.1 46 (by decide), e.1 56 (by decide)]
  refine cn3_congr fun k _ _ => ?_
  rw [mHow_e e, mRights_e e]
theorem lX12_doesFit {E : E3} {Q : Q3} {M0 : M3} {x1 x2 x3 : Int} (ha : okA M0) (hx : (-2147483648 ≤ x1 ∧ x1 ≤ 2147483647) ∧ (-2147483648 ≤ x2 ∧ x2 ≤ 2147483647) ∧ (-2147483648 ≤ x3 ∧ x3 ≤ 2147483647)) (k : ∀ (N : M3), RM3 N → Em M0 N → RdC N → Q (some (vI (bo3 (mFit M0 x1 x2 x3)))) N) : ∀ (n : Nat) (x4 : Int) (M : M3), 0 ≤ x4 → x4 + n = M0 44 0 18 → RdC M → Em M0 M → cn3 x4 (fun f => decide (0 < mHow M0 f ∧ M0 61 0 f = x1 ∧ M0 46 0 (M0 56 0 f) = x2 ∧ ((mHow M0 f = 1 ∧ mRights M0 f < x3) ∨ (mHow M0 f ≠ 1 ∧ x3 ≤ mRights M0 f)))) = 0 → G3 E YX12_doesFit Q 3 [(0, vR 44 0), (1, vI x1), (2, vI x2), (3, vI x3), (4, vI x4)] [] M := by
  intro n
  have hb := ha.1
  induction n with
  | zero =>
    intro x4 M h1 h2 h3 h4 h5
    refine g3_rm fun hM => ?_
    refine sX12_doesFit_3 ?_
    simp only [h4.2 18 (by decide), mHow_e h4, mRights_e h4, h4.1 46 (by decide), h4.1 56 (by decide), h4.1 61 (by decide)]
    refine ⟨by omega, fun _ => ?_, fun c => absurd c (by omega)⟩
    have k1 := k M hM h4 h3
    rw [bo3_t (show mFit M0 x1 x2 x3 by unfold mFit mBad; rw [← h2, show x4 + ((0 : Nat) : Int) = x4 by omega]; exact h5)] at k1
    exact k1
  | succ n ih =>
    intro x4 M h1 h2 h3 h4 h5
    refine g3_rm fun hM => ?_
    have hR := h3
    obtain ⟨⟨b1, b2, b3⟩, -⟩ := id (ha.2 x4 h1 (by omega))
    have go : ∀ N : M3, RdC N → Em M0 N → ¬ (0 < mHow M0 x4 ∧ M0 61 0 x4 = x1 ∧ M0 46 0 (M0 56 0 x4) = x2 ∧ ((mHow M0 x4 = 1 ∧ mRights M0 x4 < x3) ∨ (mHow M0 x4 ≠ 1 ∧ x3 ≤ mRights M0 x4))) → G3 E YX12_doesFit Q 3 [(0, vR 44 0), (1, vI x1), (2, vI x2), (3, vI x3), (4, vI (x4 + 1))] [] N := fun N a b c => ih _ N (by omega) (by omega) a b (by rw [cn3_f h1 (decide_eq_false c)]; exact h5)
    have no : ∀ N : M3, RM3 N → RdC N → Em M0 N → (0 < mHow M0 x4 ∧ M0 61 0 x4 = x1 ∧ M0 46 0 (M0 56 0 x4) = x2 ∧ ((mHow M0 x4 = 1 ∧ mRights M0 x4 < x3) ∨ (mHow M0 x4 ≠ 1 ∧ x3 ≤ mRights M0 x4))) → Q (some (vI 0)) N := fun N r a b c => by
      have k1 := k N r b a
      rw [bo3_f (fun z => by have := cn3_zero.mp z x4 h1 (by omega); rw [decide_eq_true c] at this; cases this)] at k1
      exact k1
    refine sX12_doesFit_3 ?_
    simp only [h4.2 18 (by decide), mHow_e h4, mRights_e h4, h4.1 46 (by decide), h4.1 56 (by decide), h4.1 61 (by decide)]
    refine ⟨?_, ?_⟩
    · first | omega | exact ⟨h3, okF_e h4 (ha.2 _ h1 (by omega)).1⟩ | exact ⟨by omega, by omega⟩
    refine ⟨fun c1 => ?_, fun c1 => ?_⟩
    · first
      | (exfalso; omega)
      | exact no N1 hN1 hp1 (Em.tr h4 he1) (by omega)
    · refine ⟨?_, ?_⟩
      · first | omega | exact ⟨h3, okF_e h4 (ha.2 _ h1 (by omega)).1⟩ | exact ⟨by omega, by omega⟩
      refine ⟨fun c2 => ?_, fun c2 => ?_⟩
      · first
        | exact go M h3 h4 (by omega)
        | exact go N1 hp1 (Em.tr h4 he1) (by omega)
      · refine ⟨?_, ?_⟩
        · first | omega | exact ⟨h3, okF_e h4 (ha.2 _ h1 (by omega)).1⟩ | exact ⟨by omega, by omega⟩
        refine ⟨fun c3 => ?_, fun c3 => ?_⟩
        · first
          | exact go M h3 h4 (by omega)
          | exact go N1 hp1 (Em.tr h4 he1) (by omega)
        · refine ⟨?_, ?_, ?_⟩
          · first | omega | exact ⟨h3, okF_e h4 (ha.2 _ h1 (by omega)).1⟩ | exact ⟨by omega, by omega⟩
          · first | omega | exact ⟨h3, okF_e h4 (ha.2 _ h1 (by omega)).1⟩ | exact ⟨by omega, by omega⟩
          refine ⟨fun c4 => ?_, fun c4 => ?_⟩
          · first
            | exact go M h3 h4 (by omega)
            | exact go N1 hp1 (Em.tr h4 he1) (by omega)
          · refine ⟨fun c5 => ?_, fun c5 => ?_⟩
            · refine ⟨?_, ?_⟩
              · first | omega | exact ⟨h3, okF_e h4 (ha.2 _ h1 (by omega)).1⟩ | exact ⟨by omega, by omega⟩
              intro N1 hN1 he1 hp1
              refine ⟨?_, ?_⟩
              · first | omega | exact ⟨h3, okF_e h4 (ha.2 _ h1 (by omega)).1⟩ | exact ⟨by omega, by omega⟩
              refine ⟨fun c6 => ?_, fun c6 => ?_⟩
              · first
                | exact go M h3 h4 (by omega)
                | exact go N1 hp1 (Em.tr h4 he1) (by omega)
              · first
                | (exfalso; omega)
                | exact no N1 hN1 hp1 (Em.tr h4 he1) (by omega)
            · refine ⟨?_, ?_⟩
              · first | omega | exact ⟨h3, okF_e h4 (ha.2 _ h1 (by omega)).1⟩ | exact ⟨by omega, by omega⟩
              intro N1 hN1 he1 hp1
              refine ⟨?_, ?_⟩
              · first | omega | exact ⟨h3, okF_e h4 (ha.2 _ h1 (by omega)).1⟩ | exact ⟨by omega, by omega⟩
              refine ⟨fun c6 => ?_, fun c6 => ?_⟩
              · first
                | (exfalso; omega)
                | exact no N1 hN1 hp1 (Em.tr h4 he1) (by omega)
              · first
                | exact go M h3 h4 (by omega)
                | exact go N1 hp1 (Em.tr h4 he1) (by omega)
theorem kX12_doesFit {E : E3} {Q : Q3} {M : M3} {x1 x2 x3 : Int} (h : RdC M ∧ okA M ∧ (-2147483648 ≤ x1 ∧ x1 ≤ 2147483647) ∧ (-2147483648 ≤ x2 ∧ x2 ≤ 2147483647) ∧ (-2147483648 ≤ x3 ∧ x3 ≤ 2147483647)) (k : ∀ (N : M3), RM3 N → Em M N → RdC N → Q (some (vI (bo3 (mFit M x1 x2 x3)))) N) : C3 E YX12_doesFit [vR 44 0, vI x1, vI x2, vI x3] M Q :=
  sX12_doesFit (lX12_doesFit h.2.1 h.2.2 k (M 44 0 18).toNat 0 M (by omega) (by have := h.2.1.1; omega) h.1 Em.rf rfl)
theorem eX12_doesFit {E : E3} {Q : Q3} {M0 M : M3} {x1 x2 x3 : Int} (e : Em M0 M) (h : RdC M ∧ okA M0 ∧ (-2147483648 ≤ x1 ∧ x1 ≤ 2147483647) ∧ (-2147483648 ≤ x2 ∧ x2 ≤ 2147483647) ∧ (-2147483648 ≤ x3 ∧ x3 ≤ 2147483647)) (k : ∀ (N : M3), RM3 N → Em M N → RdC N → Q (some (vI (bo3 (mFit M0 x1 x2 x3)))) N) : C3 E YX12_doesFit [vR 44 0, vI x1, vI x2, vI x3] M Q :=
  kX12_doesFit ⟨h.1, okA_e e h.2.1, h.2.2⟩ (fun N a b d => by simp only [mFit, mBad_e e]; exact k N a b d)
def mUof (M : M3) (c : Int) : Int := sm3 (M 44 0 18) fun f => cn3 (M 44 0 18) fun g => decide (mUnl M c f g)
theorem mUof_e {M N : M3} (e : Em M N) (c : Int) : mUof N c = mUof M c := by
  unfold mUof
  rw [e.2 18 (by decide)]
  refine sm3_congr fun f _ _ => cn3_congr fun g _ _ => ?_
  simp only [mUnl_e e]
theorem lX12_unlikeOf {E : E3} {Q : Q3} {M0 : M3} {x1 : Int} (ha : okA M0) (hx : (-2147483648 ≤ x1 ∧ x1 ≤ 2147483647)) (k : ∀ (N : M3), RM3 N → Em M0 N → RdC N → Q (some (vI (mUof M0 x1))) N) : ∀ (n : Nat) (x2 x3 : Int) (M : M3), 0 ≤ x3 → x3 + n = M0 44 0 18 → RdC M → Em M0 M → x2 = sm3 x3 (fun f => cn3 (M0 44 0 18) fun g => decide (mUnl M0 x1 f g)) → G3 E YX12_unlikeOf Q 4 [(0, vR 44 0), (1, vI x1), (2, vI x2), (3, vI x3)] [] M := by
  intro n
  have hb := ha.1
  induction n with
  | zero =>
    intro x2 x3 M h1 h2 h3 h4 h5
    refine g3_rm fun hM => ?_
    refine sX12_unlikeOf_4 ?_
    simp only [h4.2 18 (by decide)]
    refine ⟨by omega, fun _ => ?_, fun c => absurd c (by omega)⟩
    rw [h5, show x3 = M0 44 0 18 by omega]
    exact k M hM h4 h3
  | succ n ih =>
    intro x2 x3 M h1 h2 h3 h4 h5
    refine sX12_unlikeOf_4 ?_
    simp only [h4.2 18 (by decide)]
    refine ⟨by omega, fun c => absurd c (by omega), fun _ => ?_⟩
    have inner : ∀ (m : Nat) (y x4 : Int) (M : M3), 0 ≤ x4 → x4 + m = M0 44 0 18 → RdC M → Em M0 M → y = x2 + cn3 x4 (fun g => decide (mUnl M0 x1 x3 g)) → G3 E YX12_unlikeOf Q 15 [(0, vR 44 0), (1, vI x1), (2, vI y), (3, vI x3), (4, vI x4)] [] M := by
      intro m
      induction m with
      | zero =>
        intro y x4 M g1 g2 g3 g4 g5
        refine sX12_unlikeOf_15 ?_
        simp only [g4.2 18 (by decide)]
        refine ⟨by omega, fun _ => ?_, fun c => absurd c (by omega)⟩
        refine ih _ _ M (by omega) (by omega) g3 g4 ?_
        rw [sm3_s h1, ← h5, g5, show x4 = M0 44 0 18 by omega]
      | succ m ihm =>
        intro y x4 M g1 g2 g3 g4 g5
        refine sX12_unlikeOf_15 ?_
        simp only [g4.2 18 (by decide), mUnl_e g4]
        refine ⟨by omega, fun c => absurd c (by omega), fun _ => ⟨⟨g3, okR_e g4 (ha.2 _ h1 (by omega)), okR_e g4 (ha.2 _ g1 (by omega)), hx⟩, ?_⟩⟩
        intro N1 hN1 he1 hp1
        refine ⟨fun c => ?_, fun c => ?_⟩
        · exact ihm _ _ N1 (by omega) (by omega) hp1 (Em.tr g4 he1) (by rw [cn3_f g1 (decide_eq_false c)]; omega)
        · exact ihm _ _ N1 (by omega) (by omega) hp1 (Em.tr g4 he1) (by rw [cn3_t g1 (decide_eq_true c)]; omega)
    exact inner (M0 44 0 18).toNat x2 0 M (by omega) (by omega) h3 h4 (by rw [cn3_0]; omega)
theorem kX12_unlikeOf {E : E3} {Q : Q3} {M : M3} {x1 : Int} (h : RdC M ∧ okA M ∧ (-2147483648 ≤ x1 ∧ x1 ≤ 2147483647)) (k : ∀ (N : M3), RM3 N → Em M N → RdC N → Q (some (vI (mUof M x1))) N) : C3 E YX12_unlikeOf [vR 44 0, vI x1] M Q :=
  sX12_unlikeOf (lX12_unlikeOf h.2.1 h.2.2 k (M 44 0 18).toNat 0 0 M (by omega) (by have := h.2.1.1; omega) h.1 Em.rf rfl)
theorem eX12_unlikeOf {E : E3} {Q : Q3} {M0 M : M3} {x1 : Int} (e : Em M0 M) (h : RdC M ∧ okA M0 ∧ (-2147483648 ≤ x1 ∧ x1 ≤ 2147483647)) (k : ∀ (N : M3), RM3 N → Em M N → RdC N → Q (some (vI (mUof M0 x1))) N) : C3 E YX12_unlikeOf [vR 44 0, vI x1] M Q :=
  kX12_unlikeOf ⟨h.1, okA_e e h.2.1, h.2.2⟩ (fun N a b d => by rw [mUof_e e]; exact k N a b d)
