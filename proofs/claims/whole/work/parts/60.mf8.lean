theorem cn3_mono {a b : Int} (h0 : 0 ≤ a) (h : a ≤ b) (f : Int → Bool) : cn3 a f ≤ cn3 b f := by
  have key : ∀ (n : Nat) (b : Int), a + n = b → cn3 a f ≤ cn3 b f := by
    intro n
    induction n with
    | zero =>
      intro b e
      rw [show b = a by omega]
      exact Int.le_refl _
    | succ n ih =>
      intro b e
      have h1 := ih (a + n) rfl
      rw [show b = a + n + 1 by omega, cn3_s (by omega)]
      split <;> omega
  exact key (b - a).toNat b (by omega)
def mAt (M : M3) (c s i : Int) : Int := cn3 22 fun fr => decide (cn3 (fr + 1) (fun z => decide (mFit M c s z)) ≤ i)
theorem mAt_is {M : M3} {c s i r : Int} (h : 0 ≤ r ∧ r < 22) (hf : mFit M c s r) (hc : cn3 r (fun z => decide (mFit M c s z)) = i) : mAt M c s i = r := by
  unfold mAt
  refine cn3_thr (by omega) fun k a b => ?_
  rw [decide_eq_true_eq]
  have h1 := cn3_t (f := fun z => decide (mFit M c s z)) h.1 (decide_eq_true hf)
  constructor
  · intro q
    refine Classical.byContradiction fun z => ?_
    have := cn3_mono (a := r + 1) (b := k + 1) (by omega) (by omega) (fun z => decide (mFit M c s z))
    omega
  · intro q
    have := cn3_mono (a := k + 1) (b := r) (by omega) (by omega) (fun z => decide (mFit M c s z))
    omega
theorem mAt_e {M N : M3} (e : Em M N) (c s i : Int) : mAt N c s i = mAt M c s i := by
  unfold mAt
  simp only [mFit, mBad_e e]
theorem lX12_fitAt {E : E3} {Q : Q3} {M0 : M3} {x1 x2 i : Int} (ha : okA M0) (hx : (-2147483648 ≤ x1 ∧ x1 ≤ 2147483647) ∧ (-2147483648 ≤ x2 ∧ x2 ≤ 2147483647)) (hi : 0 ≤ i ∧ i < mFtg M0 x1 x2) (k : ∀ (N : M3), RM3 N → Em M0 N → RdC N → Q (some (vI (mAt M0 x1 x2 i))) N) : ∀ (n : Nat) (x4 x5 : Int) (M : M3), 0 ≤ x4 → x4 + n = 22 → RdC M → Em M0 M → x5 = i - cn3 x4 (fun z => decide (mFit M0 x1 x2 z)) → 0 ≤ x5 → G3 E YX12_fitAt Q 6 [(0, vR 44 0), (1, vI x1), (2, vI x2), (4, vI x4), (5, vI x5)] [] M := by
  have hi2 : mFtg M0 x1 x2 ≤ 22 := (cn3_rg (by decide) _).2
  intro n
  induction n with
  | zero =>
    intro x4 x5 M h1 h2 h3 h4 h5 h6
    have e : mFtg M0 x1 x2 = cn3 x4 (fun z => decide (mFit M0 x1 x2 z)) := by rw [show x4 = 22 by omega]; rfl
    omega
  | succ n ih =>
    intro x4 x5 M h1 h2 h3 h4 h5 h6
    have hc := cn3_rg h1 (fun z => decide (mFit M0 x1 x2 z))
    have yes : ∀ N : M3, RdC N → Em M0 N → mFit M0 x1 x2 x4 → 0 < x5 → ∀ y : Int, y = x5 - 1 → G3 E YX12_fitAt Q 6 [(0, vR 44 0), (1, vI x1), (2, vI x2), (4, vI (x4 + 1)), (5, vI y)] [] N := fun N a b c d y hy => ih _ _ N (by omega) (by omega) a b (by rw [cn3_t h1 (decide_eq_true c)]; omega) (by omega)
    have no : ∀ N : M3, RdC N → Em M0 N → ¬ mFit M0 x1 x2 x4 → ∀ y : Int, y = x5 - 0 → G3 E YX12_fitAt Q 6 [(0, vR 44 0), (1, vI x1), (2, vI x2), (4, vI (x4 + 1)), (5, vI y)] [] N := fun N a b c y hy => ih _ _ N (by omega) (by omega) a b (by rw [cn3_f h1 (decide_eq_false c)]; omega) (by omega)
    refine sX12_fitAt_6 ?_
    simp only [mFit, mBad_e h4]
    refine ⟨?_, ?_⟩
    · first | omega | exact ⟨h3, okA_e h4 ha, hx.1, hx.2, by omega⟩ | exact ⟨hp1, okA_e h4 ha, hx.1, hx.2, by omega⟩
    refine ⟨fun c1 => ?_, fun c1 => ?_⟩
    · refine ⟨?_, ?_⟩
      · first | omega | exact ⟨h3, okA_e h4 ha, hx.1, hx.2, by omega⟩ | exact ⟨hp1, okA_e h4 ha, hx.1, hx.2, by omega⟩
      intro N1 hN1 he1 hp1
      refine ⟨fun c2 => ?_, fun c2 => ?_⟩
      · first
        | exact yes N1 hp1 (Em.tr h4 he1) (by assumption) (by assumption) _ rfl
        | exact no N1 hp1 (Em.tr h4 he1) (by assumption) _ rfl
        | exact no N2 hp2 (Em.tr (Em.tr h4 he1) he2) (by assumption) _ rfl
        | contradiction
      · first
        | exact yes N1 hp1 (Em.tr h4 he1) (by assumption) (by assumption) _ rfl
        | exact no N1 hp1 (Em.tr h4 he1) (by assumption) _ rfl
        | exact no N2 hp2 (Em.tr (Em.tr h4 he1) he2) (by assumption) _ rfl
        | contradiction
    · refine ⟨?_, ?_⟩
      · first | omega | exact ⟨h3, okA_e h4 ha, hx.1, hx.2, by omega⟩ | exact ⟨hp1, okA_e h4 ha, hx.1, hx.2, by omega⟩
      intro N1 hN1 he1 hp1
      refine ⟨fun c2 => ?_, fun c2 => ?_⟩
      · have k1 := k N1 hN1 (Em.tr h4 he1) hp1
        rw [mAt_is (M := M0) (c := x1) (s := x2) (i := i) (r := x4) (by omega) (by assumption) (by omega)] at k1
        exact k1
      · refine ⟨?_, ?_⟩
        · first | omega | exact ⟨h3, okA_e h4 ha, hx.1, hx.2, by omega⟩ | exact ⟨hp1, okA_e h4 ha, hx.1, hx.2, by omega⟩
        intro N2 hN2 he2 hp2
        refine ⟨fun c3 => ?_, fun c3 => ?_⟩
        · first
          | exact yes N1 hp1 (Em.tr h4 he1) (by assumption) (by assumption) _ rfl
          | exact no N1 hp1 (Em.tr h4 he1) (by assumption) _ rfl
          | exact no N2 hp2 (Em.tr (Em.tr h4 he1) he2) (by assumption) _ rfl
          | contradiction
        · first
          | exact yes N1 hp1 (Em.tr h4 he1) (by assumption) (by assumption) _ rfl
          | exact no N1 hp1 (Em.tr h4 he1) (by assumption) _ rfl
          | exact no N2 hp2 (Em.tr (Em.tr h4 he1) he2) (by assumption) _ rfl
          | contradiction
theorem kX12_fitAt {E : E3} {Q : Q3} {M : M3} {x1 x2 x3 : Int} (h : RdC M ∧ okA M ∧ (-2147483648 ≤ x1 ∧ x1 ≤ 2147483647) ∧ (-2147483648 ≤ x2 ∧ x2 ≤ 2147483647) ∧ 0 ≤ x3 ∧ x3 < mFtg M x1 x2) (k : ∀ (N : M3), RM3 N → Em M N → RdC N → Q (some (vI (mAt M x1 x2 x3))) N) : C3 E YX12_fitAt [vR 44 0, vI x1, vI x2, vI x3] M Q :=
  sX12_fitAt (lX12_fitAt h.2.1 ⟨h.2.2.1, h.2.2.2.1⟩ h.2.2.2.2 k 22 0 x3 M (by omega) (by omega) h.1 Em.rf (by rw [cn3_0]; omega) h.2.2.2.2.1)
theorem eX12_fitAt {E : E3} {Q : Q3} {M0 M : M3} {x1 x2 x3 : Int} (e : Em M0 M) (h : RdC M ∧ okA M0 ∧ (-2147483648 ≤ x1 ∧ x1 ≤ 2147483647) ∧ (-2147483648 ≤ x2 ∧ x2 ≤ 2147483647) ∧ 0 ≤ x3 ∧ x3 < mFtg M0 x1 x2) (k : ∀ (N : M3), RM3 N → Em M N → RdC N → Q (some (vI (mAt M0 x1 x2 x3))) N) : C3 E YX12_fitAt [vR 44 0, vI x1, vI x2, vI x3] M Q :=
  kX12_fitAt ⟨h.1, okA_e e h.2.1, h.2.2.1, h.2.2.2.1, by rw [mFtg_e e]; exact h.2.2.2.2⟩ (fun N a b d => by rw [mAt_e e]; exact k N a b d)
