/-! MODEL: proves -/
def mP1 (M : M3) (c f : Int) : Int := ff3 (M 44 0 18) fun g => decide (mUnl M c f g)
def mP0 (M : M3) (c : Int) : Int := ff3 (M 44 0 18) fun f => decide (mP1 M c f ≠ -1)
def mPrv (M : M3) (c : Int) : Int := if mP0 M c = -1 then -1 else 100 * mP0 M c + mP1 M c (mP0 M c)
theorem mP1_e {M N : M3} (e : Em M N) (c f : Int) : mP1 N c f = mP1 M c f := by
  unfold mP1
  simp only [e.2 18 (by decide), mUnl_e e]
theorem mPrv_e {M N : M3} (e : Em M N) (c : Int) : mPrv N c = mPrv M c := by
  unfold mPrv mP0
  simp only [e.2 18 (by decide), mP1_e e]
theorem mPrv_is {M : M3} {c f g : Int} (h : 0 ≤ f ∧ f < M 44 0 18) (h2 : 0 ≤ g ∧ g < M 44 0 18) (h3 : mUnl M c f g) (h4 : ∀ z : Int, 0 ≤ z → z < g → ¬ mUnl M c f z) (h5 : ∀ y : Int, 0 ≤ y → y < f → mP1 M c y = -1) : 100 * f + g = mPrv M c := by
  have a1 : mP1 M c f = g := ff3_is h2 (decide_eq_true h3) fun k x y => decide_eq_false (h4 k x y)
  have a2 : mP0 M c = f := ff3_is h (decide_eq_true (by rw [a1]; omega)) fun k x y => decide_eq_false (fun q => q (h5 k x y))
  unfold mPrv
  rw [a2, a1, if_neg (by omega)]
theorem lX12_proves {E : E3} {Q : Q3} {M0 : M3} {x1 : Int} (ha : okA M0) (hx : 0 ≤ x1 ∧ x1 ≤ 3) (k : ∀ (N : M3), RM3 N → Em M0 N → RdC N → Q (some (vI (mPrv M0 x1))) N) : ∀ (n : Nat) (x2 : Int) (M : M3), 0 ≤ x2 → x2 + n = M0 44 0 18 → RdC M → Em M0 M → (∀ y : Int, 0 ≤ y → y < x2 → mP1 M0 x1 y = -1) → G3 E YX12_proves Q 12 [(0, vR 44 0), (1, vI x1), (2, vI x2)] [] M := by
  have hb := ha.1
  intro n
  induction n with
  | zero =>
    intro x2 M h1 h2 h3 h4 h5
    refine g3_rm fun hM => ?_
    refine sX12_proves_12 ?_
    simp only [h4.2 18 (by decide)]
    refine ⟨?_, ?_⟩
    · omega
    refine ⟨fun c1 => ?_, fun c1 => ?_⟩
    · have k1 := k M hM h4 h3
      have a : mP0 M0 x1 = -1 := ff3_no (by omega) fun y z w => decide_eq_false (fun q => q (h5 y z (by omega)))
      rw [mPrv, if_pos a] at k1
      exact k1
    · exfalso; omega
  | succ n ih =>
    intro x2 M h1 h2 h3 h4 h5
    have inner : ∀ (m : Nat) (x3 : Int) (M : M3), 0 ≤ x3 → x3 + m = M0 44 0 18 → RdC M → Em M0 M → (∀ z : Int, 0 ≤ z → z < x3 → ¬ mUnl M0 x1 x2 z) → G3 E YX12_proves Q 22 [(0, vR 44 0), (1, vI x1), (2, vI x2), (3, vI x3)] [] M := by
      intro m
      induction m with
      | zero =>
        intro x3 M g1 g2 g3 g4 g5
        refine g3_rm fun hM => ?_
        refine sX12_proves_22 ?_
        simp only [g4.2 18 (by decide), mUnl_e g4]
        refine ⟨?_, ?_⟩
        · first | omega | (exfalso; omega)
        refine ⟨fun c1 => ?_, fun c1 => ?_⟩
        · first
          | (refine ih _ _ (by omega) (by omega) g3 g4 (fun y a b => ?_)
             by_cases e : y < x2
             · exact h5 y a e
             · rw [show y = x2 by omega]
               exact ff3_no (by omega) fun z c d => decide_eq_false (g5 z c (by omega)))
          | (exfalso; omega)
        · refine ⟨?_, ?_⟩
          · first | omega | (exfalso; omega)
          intro N1 hN1 he1 hp1
          refine ⟨fun c2 => ?_, fun c2 => ?_⟩
          · first
            | (refine ih _ _ (by omega) (by omega) g3 g4 (fun y a b => ?_)
               by_cases e : y < x2
               · exact h5 y a e
               · rw [show y = x2 by omega]
                 exact ff3_no (by omega) fun z c d => decide_eq_false (g5 z c (by omega)))
            | (exfalso; omega)
          · exfalso; omega
      | succ m ih2 =>
        intro x3 M g1 g2 g3 g4 g5
        refine g3_rm fun hM => ?_
        refine sX12_proves_22 ?_
        simp only [g4.2 18 (by decide), mUnl_e g4]
        refine ⟨?_, ?_⟩
        · first | omega | exact ⟨g3, okR_e g4 (ha.2 _ h1 (by omega)), okR_e g4 (ha.2 _ g1 (by omega)), by omega⟩
        refine ⟨fun c1 => ?_, fun c1 => ?_⟩
        · first
          | (exfalso; omega)
          | (refine ih2 _ _ (by omega) (by omega) hp1 (Em.tr g4 he1) (fun z a b => ?_)
             by_cases e : z < x3
             · exact g5 z a e
             · rw [show z = x3 by omega]
               assumption)
        · refine ⟨?_, ?_⟩
          · first | omega | exact ⟨g3, okR_e g4 (ha.2 _ h1 (by omega)), okR_e g4 (ha.2 _ g1 (by omega)), by omega⟩
          intro N1 hN1 he1 hp1
          refine ⟨fun c2 => ?_, fun c2 => ?_⟩
          · first
            | (exfalso; omega)
            | (refine ih2 _ _ (by omega) (by omega) hp1 (Em.tr g4 he1) (fun z a b => ?_)
               by_cases e : z < x3
               · exact g5 z a e
               · rw [show z = x3 by omega]
                 assumption)
          · have k1 := k N1 hN1 (Em.tr g4 he1) hp1
            rw [← mPrv_is ⟨h1, by omega⟩ ⟨g1, by omega⟩ (by assumption) g5 h5] at k1
            exact k1
    refine g3_rm fun hM => ?_
    refine sX12_proves_12 ?_
    simp only [h4.2 18 (by decide)]
    refine ⟨?_, ?_⟩
    · omega
    refine ⟨fun c1 => ?_, fun c1 => ?_⟩
    · exfalso; omega
    · exact inner (M0 44 0 18).toNat 0 M (by omega) (by omega) h3 h4 (fun z a b => by omega)
theorem kX12_proves {E : E3} {Q : Q3} {M : M3} {x1 : Int} (h : RdC M ∧ okA M ∧ (-2147483648 ≤ x1 ∧ x1 ≤ 2147483647)) (k : ∀ (N : M3), RM3 N → Em M N → RdC N → Q (some (vI (if 0 ≤ x1 ∧ x1 ≤ 3 then mPrv M x1 else -2))) N) : C3 E YX12_proves [vR 44 0, vI x1] M Q := by
  refine c3_rm fun hM => ?_
  obtain ⟨hR, ha, hx⟩ := h
  refine sX12_proves ?_
  refine ⟨?_, ?_⟩
  · omega
  refine ⟨fun c1 => ?_, fun c1 => ?_⟩
  · exact lX12_proves ha (by assumption) (fun N a b d => by have k1 := k N a b d; rw [if_pos (by assumption)] at k1; exact k1) (M 44 0 18).toNat 0 M (by omega) (by have := ha.1; omega) hR Em.rf (fun y a b => by omega)
  · have k1 := k M hM Em.rf hR
    rw [if_neg (by assumption)] at k1
    exact k1
