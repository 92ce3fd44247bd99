/-! MODEL: the best way to give lessons -/
abbrev vl3 (R : Int → Int → Int) (g : Int → Int) : Int := R 0 (g 0) + R 1 (g 1) + R 2 (g 2) + R 3 (g 3) + R 4 (g 4) + R 5 (g 5)
def wrs3 (R : Int → Int → Int) (best : Int → Int) (most few : Int) (k : Int → Int) : Prop := vl3 R k < most ∨ (vl3 R k = most ∧ (few < tot3 k ∨ (few = tot3 k ∧ ¬ lgt3 k best)))
def bst3 (R : Int → Int → Int) (h : Int) (P : (Int → Int) → Prop) (best : Int → Int) (most few : Int) : Prop := vld3 h best ∧ most = vl3 R best ∧ few = tot3 best ∧ ∀ k : Int → Int, vld3 h k → P k → wrs3 R best most few k
def hpS (R : Int → Int → Int) (h b a : Int) : Prop := ∃ (best : Int → Int) (most few : Int), bst3 R h (fun _ => True) best most few ∧ a = if b = -1 then most else best b
theorem lgt_eq {g k : Int → Int} (h : ¬ lgt3 g k) (h2 : ¬ lgt3 k g) : eq6 g k := by
  unfold lgt3 at h h2
  unfold eq6
  omega
theorem hpS_u {R : Int → Int → Int} {h b a a' : Int} (hb : -1 ≤ b ∧ b ≤ 5) (h1 : hpS R h b a) (h2 : hpS R h b a') : a = a' := by
  obtain ⟨b1, m1, f1, ⟨v1, w1, x1, y1⟩, e1⟩ := h1
  obtain ⟨b2, m2, f2, ⟨v2, w2, x2, y2⟩, e2⟩ := h2
  have c1 := y1 b2 v2 trivial
  have c2 := y2 b1 v1 trivial
  unfold wrs3 at c1 c2
  rw [← w2, ← x2] at c1
  rw [← w1, ← x1] at c2
  have em : m1 = m2 := by omega
  have d1 : ¬ lgt3 b2 b1 := by
    rcases c1 with c1 | ⟨_, c1 | ⟨_, c1⟩⟩
    · omega
    · omega
    · exact c1
  have d2 : ¬ lgt3 b1 b2 := by
    rcases c2 with c2 | ⟨_, c2 | ⟨_, c2⟩⟩
    · omega
    · omega
    · exact c2
  obtain ⟨z0, z1, z2, z3, z4, z5⟩ := lgt_eq d2 d1
  rw [e1, e2]
  by_cases q : b = -1
  · rw [if_pos q, if_pos q, em]
  · rw [if_neg q, if_neg q]
    rcases (show b = 0 ∨ b = 1 ∨ b = 2 ∨ b = 3 ∨ b = 4 ∨ b = 5 by omega) with e | e | e | e | e | e <;> rw [e] <;> assumption
/-- how far the search is -/
def hlI (R : Int → Int → Int) (h : Int) (g best : Int → Int) (x3 x4 x5 : Int) : Prop := (x5 = 0 ∧ bst3 R h (fun _ => True) best x3 x4) ∨ (x5 = 1 ∧ vld3 h g ∧ ((x3 = -1 ∧ ∀ k : Int → Int, vld3 h k → ¬ clt3 k g) ∨ bst3 R h (fun k => clt3 k g) best x3 x4))
theorem lgt_tr {k b g : Int → Int} (h : ¬ lgt3 k b) (h2 : lgt3 g b) : ¬ lgt3 k g := by
  intro h3
  unfold lgt3 at *
  rcases h2 with c | ⟨c0, c | ⟨c1, c | ⟨c2, c | ⟨c3, c | ⟨c4, c⟩⟩⟩⟩⟩ <;> omega
theorem hl_no {R : Int → Int → Int} {h x3 x4 : Int} {g best : Int → Int} (hR : 0 ≤ vl3 R g) (hi : hlI R h g best x3 x4 1) (hc : ¬ (x3 < vl3 R g ∨ (vl3 R g = x3 ∧ (tot3 g < x4 ∨ (tot3 g = x4 ∧ lgt3 g best))))) : bst3 R h (fun k => clt3 k g ∨ eq6 k g) best x3 x4 := by
  rcases hi with ⟨a, _⟩ | ⟨_, hg, ⟨a, _⟩ | ⟨a, b, c, d⟩⟩
  · omega
  · exfalso
    exact hc (Or.inl (by omega))
  · refine ⟨a, b, c, fun k hk hp => ?_⟩
    rcases hp with hp | ⟨z0, z1, z2, z3, z4, z5⟩
    · exact d k hk hp
    · unfold wrs3
      have e1 : vl3 R k = vl3 R g := by unfold vl3; rw [z0, z1, z2, z3, z4, z5]
      have e2 : tot3 k = tot3 g := by unfold tot3; rw [z0, z1, z2, z3, z4, z5]
      have e3 : lgt3 k best → lgt3 g best := fun q => by unfold lgt3 at q ⊢; rw [z0, z1, z2, z3, z4, z5] at q; exact q
      rw [e1, e2]
      by_cases p1 : vl3 R g < x3
      · exact Or.inl p1
      · by_cases p2 : x4 < tot3 g
        · exact Or.inr ⟨by omega, Or.inl p2⟩
        · exact Or.inr ⟨by omega, Or.inr ⟨by omega, fun q => hc (Or.inr ⟨by omega, Or.inr ⟨by omega, e3 q⟩⟩)⟩⟩
theorem hl_yes {R : Int → Int → Int} {h x3 x4 : Int} {g best best' : Int → Int} (hi : hlI R h g best x3 x4 1) (hc : x3 < vl3 R g ∨ (vl3 R g = x3 ∧ (tot3 g < x4 ∨ (tot3 g = x4 ∧ lgt3 g best)))) (hR : 0 ≤ vl3 R g) (he : eq6 best' g) : bst3 R h (fun k => clt3 k g ∨ eq6 k g) best' (vl3 R g) (tot3 g) := by
  have hg : vld3 h g := by
    rcases hi with ⟨a, _⟩ | ⟨_, hg, _⟩
    · omega
    · exact hg
  obtain ⟨y0, y1, y2, y3, y4, y5⟩ := he
  have lb : ∀ k : Int → Int, lgt3 k best' → lgt3 k g := fun k q => by unfold lgt3 at q ⊢; rw [y0, y1, y2, y3, y4, y5] at q; exact q
  refine ⟨?_, by unfold vl3; rw [y0, y1, y2, y3, y4, y5], by unfold tot3; rw [y0, y1, y2, y3, y4, y5], fun k hk hp => ?_⟩
  · unfold vld3 tot3 at hg ⊢
    rw [y0, y1, y2, y3, y4, y5]
    exact hg
  · unfold wrs3
    rcases hp with hp | ⟨z0, z1, z2, z3, z4, z5⟩
    · rcases hi with ⟨a, _⟩ | ⟨_, _, ⟨_, a⟩ | ⟨a, b, c, d⟩⟩
      · omega
      · exact absurd hp (a k hk)
      · have w := d k hk hp
        unfold wrs3 at w
        rcases hc with hc | ⟨hc, hd⟩
        · exact Or.inl (by omega)
        · rcases w with w | ⟨w, w2⟩
          · exact Or.inl (by omega)
          · refine Or.inr ⟨by omega, ?_⟩
            rcases hd with hd | ⟨hd, hl⟩
            · exact Or.inl (by omega)
            · rcases w2 with w2 | ⟨w2, w3⟩
              · exact Or.inl (by omega)
              · exact Or.inr ⟨by omega, fun q => lgt_tr w3 hl (lb k q)⟩
    · have e1 : vl3 R k = vl3 R g := by unfold vl3; rw [z0, z1, z2, z3, z4, z5]
      have e2 : tot3 k = tot3 g := by unfold tot3; rw [z0, z1, z2, z3, z4, z5]
      refine Or.inr ⟨e1, Or.inr ⟨e2.symm, fun q => ?_⟩⟩
      have := lb k q
      unfold lgt3 at this
      omega
theorem hl_next {R : Int → Int → Int} {h x3 x4 r : Int} {g best n : Int → Int} (hb : bst3 R h (fun k => clt3 k g ∨ eq6 k g) best x3 x4) (hg : vld3 h g) (hh : h ≤ 12) (hp : (r = 1 ∧ ∃ b : Int, nxg3 h g b n) ∨ (r = 0 ∧ ∀ z : Int, 0 ≤ z → z < 6 → h ≤ tz3 g z)) : hlI R h n best x3 x4 r ∧ (r = 1 → rnk3 g < rnk3 n) := by
  obtain ⟨a, b, c, d⟩ := hb
  rcases hp with ⟨e, w, hn⟩ | ⟨e, hf⟩
  · obtain ⟨n1, n2, n3⟩ := nxg_ok hg hn
    exact ⟨Or.inr ⟨e, n1, Or.inr ⟨a, b, c, fun k hk hc => d k hk (n3 k hk hc)⟩⟩, fun _ => clt_rnk hh hg n1 n2⟩
  · refine ⟨Or.inl ⟨e, a, b, c, fun k hk _ => d k hk ?_⟩, fun z => by omega⟩
    rcases clt_tri g k with q | q | q
    · exact Or.inl q
    · exact Or.inr q
    · obtain ⟨t, t1, t2, t3⟩ := full3 (b := 6) (by omega) (fun z z0 z1 => hf z z0 z1) hk q
      omega
theorem lX12_h191 {E : E3} {Q : Q3} {M0 : M3} {x1 x2 x3 x4 x6 : Int} (hp : preNxg M0 x1 x6) (k : ∀ (r : Int) (N : M3), RM3 N → (∀ q : Nat, q ∉ ([69, 70] : List Nat) → N q = M0 q) → poNxg M0 x1 x6 r N → (∀ c : Int, 0 ≤ c → c < 6 → N 70 0 c = M0 69 0 c) → G3 E YX12_helpers Q 86 [(0, vR 44 0), (1, vI x1), (2, vI x2), (3, vI x3), (4, vI x4), (5, vI r)] [] N) : ∀ (n : Nat) (x8 : Int) (M : M3), 0 ≤ x8 → x8 + n = 6 → (∀ q : Nat, q ∉ ([70] : List Nat) → M q = M0 q) → (∀ c : Int, 0 ≤ c → c < x8 → M 70 0 c = M0 69 0 c) → G3 E YX12_helpers Q 191 [(0, vR 44 0), (1, vI x1), (2, vI x2), (3, vI x3), (4, vI x4), (6, vI x6), (8, vI x8)] [] M := by
  intro n
  induction n with
  | zero =>
    intro x8 M h1 h2 h3 h4
    refine g3_rm fun hM => ?_
    have e69 : M 69 = M0 69 := h3 69 (by decide)
    refine sX12_helpers_191 ?_
    refine ⟨?_, ?_⟩
    · first | omega | (unfold preNxg; rw [e69]; exact hp) | (exfalso; omega)
    refine ⟨fun c1 => ?_, fun c1 => ?_⟩
    · refine ⟨?_, ?_⟩
      · first | omega | (unfold preNxg; rw [e69]; exact hp) | (exfalso; omega)
      intro r1 N1 hN1 hf1 hp1
      first
        | (exfalso; omega)
        | exact k r1 N1 hN1 (fr_tr (fr_sub h3 (by decide)) (fr_sub hf1 (by decide))) (by unfold poNxg at hp1 ⊢; rw [e69] at hp1; exact hp1) (fun c a b => by rw [hf1 70 (by decide)]; exact h4 c a (by omega))
    · refine ⟨?_, ?_⟩
      · first | omega | (unfold preNxg; rw [e69]; exact hp) | (exfalso; omega)
      first
        | (exfalso; omega)
        | exact k r1 N1 hN1 (fr_tr (fr_sub h3 (by decide)) (fr_sub hf1 (by decide))) (by unfold poNxg at hp1 ⊢; rw [e69] at hp1; exact hp1) (fun c a b => by rw [hf1 70 (by decide)]; exact h4 c a (by omega))
  | succ n ih =>
    intro x8 M h1 h2 h3 h4
    refine g3_rm fun hM => ?_
    have e69 : M 69 = M0 69 := h3 69 (by decide)
    refine sX12_helpers_191 ?_
    refine ⟨?_, ?_⟩
    · first | omega | (unfold preNxg; rw [e69]; exact hp) | (exfalso; omega)
    refine ⟨fun c1 => ?_, fun c1 => ?_⟩
    · refine ⟨?_, ?_⟩
      · first | omega | (unfold preNxg; rw [e69]; exact hp) | (exfalso; omega)
      intro r1 N1 hN1 hf1 hp1
      first
        | (exfalso; omega)
        | (refine ih _ _ (by omega) (by omega) (fr_up h3 (by decide)) (fun c a b => ?_)
           by_cases e : c = x8
           · rw [e, up3_eq, e69]
           · rw [up3_nj e]; exact h4 c a (by omega))
    · refine ⟨?_, ?_⟩
      · first | omega | (unfold preNxg; rw [e69]; exact hp) | (exfalso; omega)
      first
        | (exfalso; omega)
        | (refine ih _ _ (by omega) (by omega) (fr_up h3 (by decide)) (fun c a b => ?_)
           by_cases e : c = x8
           · rw [e, up3_eq, e69]
           · rw [up3_nj e]; exact h4 c a (by omega))
theorem lX12_h86 {E : E3} {Q : Q3} {M0 : M3} {R : Int → Int → Int} {x1 x2 : Int} (hx : (0 ≤ x1 ∧ x1 ≤ 12) ∧ -1 ≤ x2 ∧ x2 ≤ 5) (hR : ∀ b g : Int, 0 ≤ b → b < 6 → 0 ≤ g → g ≤ 12 → M0 68 0 (13 * b + g) = R b g) (hRr : ∀ b g : Int, 0 ≤ R b g ∧ R b g ≤ 48) (k : ∀ (a : Int) (N : M3), RM3 N → (∀ q : Nat, q ∉ ([69, 70] : List Nat) → N q = M0 q) → hpS R x1 x2 a → Q (some (vI a)) N) : ∀ (n : Nat) (x3 x4 x5 : Int) (M : M3), (∀ q : Nat, q ∉ ([69, 70] : List Nat) → M q = M0 q) → hlI R x1 (M 69 0) (M 70 0) x3 x4 x5 → (x5 = 1 → 4826809 - rnk3 (M 69 0) ≤ n) → G3 E YX12_helpers Q 86 [(0, vR 44 0), (1, vI x1), (2, vI x2), (3, vI x3), (4, vI x4), (5, vI x5)] [] M := by
  intro n
  induction n with
  | zero =>
    intro x3 x4 x5 M h1 h2 h3
    refine g3_rm fun hM => ?_
    rcases h2 with ⟨a, b⟩ | ⟨a, b, _⟩
    · refine sX12_helpers_86 ?_
      refine ⟨?_, ?_⟩
      · omega
      refine ⟨fun c1 => ?_, fun c1 => ?_⟩
      · refine ⟨?_, ?_⟩
        · omega
        refine ⟨fun c2 => ?_, fun c2 => ?_⟩
        · refine ⟨?_, ?_⟩
          · omega
          first
          | (exfalso; omega)
          | exact k _ M hM h1 ⟨_, x3, x4, b, by first | (rw [if_pos (by omega)]) | (rw [if_neg (by omega)])⟩
        · first
          | (exfalso; omega)
          | exact k _ M hM h1 ⟨_, x3, x4, b, by first | (rw [if_pos (by omega)]) | (rw [if_neg (by omega)])⟩
      · exfalso; omega
    · exfalso
      have := h3 a
      obtain ⟨⟨g0, g1, g2, g3, g4, g5⟩, gt⟩ := b
      unfold tot3 at gt
      unfold rnk3 at this
      omega
  | succ n ih =>
    intro x3 x4 x5 M h1 h2 h3
    refine g3_rm fun hM => ?_
    have h2' := h2
    rcases h2' with ⟨a, b⟩ | ⟨a, hg, hb⟩
    · refine sX12_helpers_86 ?_
      refine ⟨?_, ?_⟩
      · omega
      refine ⟨fun c1 => ?_, fun c1 => ?_⟩
      · refine ⟨?_, ?_⟩
        · omega
        refine ⟨fun c2 => ?_, fun c2 => ?_⟩
        · refine ⟨?_, ?_⟩
          · omega
          first
          | (exfalso; omega)
          | exact k _ M hM h1 ⟨_, x3, x4, b, by first | (rw [if_pos (by omega)]) | (rw [if_neg (by omega)])⟩
        · first
          | (exfalso; omega)
          | exact k _ M hM h1 ⟨_, x3, x4, b, by first | (rw [if_pos (by omega)]) | (rw [if_neg (by omega)])⟩
      · exfalso; omega
    · have e68 : M 68 = M0 68 := h1 68 (by decide)
      have gr : ∀ z : Int, 0 ≤ z → z < 6 → 0 ≤ M 69 0 z ∧ M 69 0 z ≤ 12 := fun z z0 z1 => by
        have := vld_nn hg (z := z) ⟨z0, z1⟩
        omega
      have x3r : -1 ≤ x3 ∧ x3 ≤ 288 := by
        rcases hb with ⟨hb, _⟩ | ⟨_, hb, _⟩
        · omega
        · have r0 := hRr 0 (M 70 0 0)
          have r1 := hRr 1 (M 70 0 1)
          have r2 := hRr 2 (M 70 0 2)
          have r3 := hRr 3 (M 70 0 3)
          have r4 := hRr 4 (M 70 0 4)
          have r5 := hRr 5 (M 70 0 5)
          unfold vl3 at hb
          omega
      have vr : 0 ≤ vl3 R (M 69 0) ∧ vl3 R (M 69 0) ≤ 288 := by
        have r0 := hRr 0 (M 69 0 0)
        have r1 := hRr 1 (M 69 0 1)
        have r2 := hRr 2 (M 69 0 2)
        have r3 := hRr 3 (M 69 0 3)
        have r4 := hRr 4 (M 69 0 4)
        have r5 := hRr 5 (M 69 0 5)
        unfold vl3
        omega
      have tr : 0 ≤ tot3 (M 69 0) ∧ tot3 (M 69 0) ≤ 12 := by
        have := hg.1
        have := hg.2
        unfold tot3 at *
        omega
      rw [a] at h2 h3
      have pre6 : preNxg M x1 (tot3 (M 69 0)) := ⟨hx.1, hg, rfl⟩
      have inner : ∀ (m : Nat) (x8 x6 x7 : Int), 0 ≤ x8 → x8 + m = 6 → x6 = sm3 x8 (M 69 0) → x7 = sm3 x8 (fun b => R b (M 69 0 b)) → (x3 = -1 → x4 = x4) → G3 E YX12_helpers Q 100 [(0, vR 44 0), (1, vI x1), (2, vI x2), (3, vI x3), (4, vI x4), (6, vI x6), (7, vI x7), (8, vI x8)] [] M := by
        intro m
        induction m with
        | zero =>
          intro x8 x6 x7 g1 g2 g3 g4 g5
          have e6 : x6 = tot3 (M 69 0) := by rw [g3, show x8 = 6 by omega, sm3_6]
          have e7 : x7 = vl3 R (M 69 0) := by rw [g4, show x8 = 6 by omega, sm3_6]
          have x4r : x3 ≠ -1 → 0 ≤ x4 ∧ x4 ≤ 12 := fun q => by
            rcases hb with ⟨hb, _⟩ | ⟨hb, _, hc, _⟩
            · omega
            · have := hb.1
              have := hb.2
              unfold tot3 at *
              omega
          have fin : bst3 R x1 (fun k => clt3 k (M 69 0) ∨ eq6 k (M 69 0)) (M 70 0) x3 x4 → ∀ (r : Int) (N : M3), RM3 N → (∀ q : Nat, q ∉ ([69] : List Nat) → N q = M q) → poNxg M x1 (tot3 (M 69 0)) r N → G3 E YX12_helpers Q 86 [(0, vR 44 0), (1, vI x1), (2, vI x2), (3, vI x3), (4, vI x4), (5, vI r)] [] N := fun hbb r N n1 n2 n3 => by
            have hn := hl_next hbb hg hx.1.2 n3
            refine ih _ _ _ N (fr_tr h1 (fr_sub n2 (by decide))) (by rw [n2 70 (by decide)]; exact hn.1) (fun q => ?_)
            have := hn.2 q
            have := h3 rfl
            omega
          have yes : (x3 < vl3 R (M 69 0) ∨ (vl3 R (M 69 0) = x3 ∧ (tot3 (M 69 0) < x4 ∨ (tot3 (M 69 0) = x4 ∧ lgt3 (M 69 0) (M 70 0))))) → G3 E YX12_helpers Q 191 [(0, vR 44 0), (1, vI x1), (2, vI x2), (3, vI x7), (4, vI x6), (6, vI x6), (8, vI 0)] [] M := fun hc => by
            rw [e6, e7]
            refine lX12_h191 pre6 (fun r N n1 n2 n3 n4 => ?_) 6 0 M (by omega) (by omega) fr_rf (fun c c0 c1 => by omega)
            have hbb := hl_yes (best' := N 70 0) h2 hc vr.1 ⟨n4 0 (by omega) (by omega), n4 1 (by omega) (by omega), n4 2 (by omega) (by omega), n4 3 (by omega) (by omega), n4 4 (by omega) (by omega), n4 5 (by omega) (by omega)⟩
            have hn := hl_next hbb hg hx.1.2 n3
            refine ih _ _ _ N (fr_tr h1 n2) hn.1 (fun q => ?_)
            have := hn.2 q
            have := h3 rfl
            omega
          refine sX12_helpers_100 ?_
          refine ⟨?_, ?_⟩
          · first | omega | (rw [e6]; exact pre6)
          refine ⟨fun c1 => ?_, fun c1 => ?_⟩
          · refine ⟨?_, ?_, ?_⟩
            · first | omega | (rw [e6]; exact pre6)
            · first | omega | (rw [e6]; exact pre6)
            refine ⟨fun c2 => ?_, fun c2 => ?_⟩
            · first
              | (exfalso; omega)
              | exact yes (Or.inl (by omega))
              | (rw [show x7 = x3 by omega] at *; exact yes (Or.inr ⟨by omega, Or.inl (by omega)⟩))
              | exact yes (Or.inr ⟨by omega, Or.inl (by omega)⟩)
              | exact yes (Or.inr ⟨by omega, Or.inr ⟨by omega, by assumption⟩⟩)
            · refine ⟨fun c3 => ?_, fun c3 => ?_⟩
              · refine ⟨?_, ?_⟩
                · first | omega | (rw [e6]; exact pre6)
                intro r1 N1 hN1 hf1 hp1
                first
                | (exfalso; omega)
                | (rw [e6] at hp1
                   refine fin (hl_no vr.1 h2 (fun z => ?_)) r1 N1 hN1 hf1 hp1
                   rcases z with z | ⟨z, z2⟩
                   · omega
                   · rcases z2 with z2 | ⟨z2, z3⟩
                     · omega
                     · first | omega | exact absurd z3 (by assumption))
              · refine ⟨?_, ?_, ?_⟩
                · first | omega | (rw [e6]; exact pre6)
                · first | omega | (rw [e6]; exact pre6)
                refine ⟨fun c4 => ?_, fun c4 => ?_⟩
                · first
                  | (exfalso; omega)
                  | exact yes (Or.inl (by omega))
                  | (rw [show x7 = x3 by omega] at *; exact yes (Or.inr ⟨by omega, Or.inl (by omega)⟩))
                  | exact yes (Or.inr ⟨by omega, Or.inl (by omega)⟩)
                  | exact yes (Or.inr ⟨by omega, Or.inr ⟨by omega, by assumption⟩⟩)
                · refine ⟨fun c5 => ?_, fun c5 => ?_⟩
                  · refine ⟨?_, ?_⟩
                    · first | omega | (rw [e6]; exact pre6)
                    intro r1 N1 hN1 hf1 hp1
                    first
                    | (exfalso; omega)
                    | (rw [e6] at hp1
                       refine fin (hl_no vr.1 h2 (fun z => ?_)) r1 N1 hN1 hf1 hp1
                       rcases z with z | ⟨z, z2⟩
                       · omega
                       · rcases z2 with z2 | ⟨z2, z3⟩
                         · omega
                         · first | omega | exact absurd z3 (by assumption))
                  · refine ⟨fun c6 => ?_, fun c6 => ?_⟩
                    · refine ⟨?_, ?_⟩
                      · first | omega | (rw [e6]; exact pre6)
                      intro r1 N1 hN1 hf1 hp1
                      first
                      | (exfalso; omega)
                      | (rw [e6] at hp1
                         refine fin (hl_no vr.1 h2 (fun z => ?_)) r1 N1 hN1 hf1 hp1
                         rcases z with z | ⟨z, z2⟩
                         · omega
                         · rcases z2 with z2 | ⟨z2, z3⟩
                           · omega
                           · first | omega | exact absurd z3 (by assumption))
                    · first
                      | (exfalso; omega)
                      | exact yes (Or.inl (by omega))
                      | (rw [show x7 = x3 by omega] at *; exact yes (Or.inr ⟨by omega, Or.inl (by omega)⟩))
                      | exact yes (Or.inr ⟨by omega, Or.inl (by omega)⟩)
                      | exact yes (Or.inr ⟨by omega, Or.inr ⟨by omega, by assumption⟩⟩)
          · refine ⟨?_, ?_, ?_⟩
            · first | omega | (rw [e6]; exact pre6)
            · first | omega | (rw [e6]; exact pre6)
            exfalso; omega
        | succ m ih2 =>
          intro x8 x6 x7 g1 g2 g3 g4 g5
          have gg := gr x8 g1 (by omega)
          have eR := hR x8 (M 69 0 x8) g1 (by omega) gg.1 gg.2
          have rr := hRr x8 (M 69 0 x8)
          refine sX12_helpers_100 ?_
          rw [e68, eR]
          refine ⟨?_, ?_⟩
          · first | omega | (exfalso; omega)
          refine ⟨fun c1 => ?_, fun c1 => ?_⟩
          · refine ⟨?_, ?_, ?_⟩
            · first | omega | (exfalso; omega)
            · first | omega | (exfalso; omega)
            refine ⟨fun c2 => ?_, fun c2 => ?_⟩
            · exfalso; omega
            · refine ⟨fun c3 => ?_, fun c3 => ?_⟩
              · refine ⟨?_, ?_⟩
                · first | omega | (exfalso; omega)
                intro r1 N1 hN1 hf1 hp1
                exfalso; omega
              · refine ⟨?_, ?_, ?_⟩
                · first | omega | (exfalso; omega)
                · first | omega | (exfalso; omega)
                refine ⟨fun c4 => ?_, fun c4 => ?_⟩
                · exfalso; omega
                · refine ⟨fun c5 => ?_, fun c5 => ?_⟩
                  · refine ⟨?_, ?_⟩
                    · first | omega | (exfalso; omega)
                    intro r1 N1 hN1 hf1 hp1
                    exfalso; omega
                  · refine ⟨fun c6 => ?_, fun c6 => ?_⟩
                    · refine ⟨?_, ?_⟩
                      · first | omega | (exfalso; omega)
                      intro r1 N1 hN1 hf1 hp1
                      exfalso; omega
                    · exfalso; omega
          · refine ⟨?_, ?_, ?_⟩
            · first | omega | (exfalso; omega)
            · first | omega | (exfalso; omega)
            first
            | (exfalso; omega)
            | exact ih2 _ _ _ (by omega) (by omega) (by rw [sm3_s g1, g3]) (by rw [sm3_s g1, g4]) (fun _ => rfl)
      refine sX12_helpers_86 ?_
      refine ⟨?_, ?_⟩
      · omega
      refine ⟨fun c1 => ?_, fun c1 => ?_⟩
      · refine ⟨?_, ?_⟩
        · omega
        refine ⟨fun c2 => ?_, fun c2 => ?_⟩
        · refine ⟨?_, ?_⟩
          · omega
          exfalso; omega
        · exfalso; omega
      · first | (exfalso; omega) | exact inner 6 0 0 0 (by omega) (by omega) rfl rfl (fun _ => rfl)
theorem lX12_h62 {E : E3} {Q : Q3} {M0 : M3} {x1 x2 x3 x4 : Int} (k : ∀ (N : M3), RM3 N → (∀ q : Nat, q ∉ ([69] : List Nat) → N q = M0 q) → (∀ c : Int, 0 ≤ c → c < 6 → N 69 0 c = 0) → G3 E YX12_helpers Q 86 [(0, vR 44 0), (1, vI x1), (2, vI x2), (3, vI x3), (4, vI x4), (5, vI 1)] [] N) : ∀ (n : Nat) (x5 : Int) (M : M3), 0 ≤ x5 → x5 + n = 6 → (∀ q : Nat, q ∉ ([69] : List Nat) → M q = M0 q) → (∀ c : Int, 0 ≤ c → c < x5 → M 69 0 c = 0) → G3 E YX12_helpers Q 62 [(0, vR 44 0), (1, vI x1), (2, vI x2), (3, vI x3), (4, vI x4), (5, vI x5)] [] M := by
  intro n
  induction n with
  | zero =>
    intro x5 M h1 h2 h3 h4
    refine g3_rm fun hM => ?_
    refine sX12_helpers_62 ?_
    refine ⟨?_, ?_⟩
    · first | omega | (exfalso; omega)
    refine ⟨fun c1 => ?_, fun c1 => ?_⟩
    · first
        | (exfalso; omega)
        | exact k M hM h3 (fun c a b => h4 c a (by omega))
    · refine ⟨?_, ?_⟩
      · first | omega | (exfalso; omega)
      first
        | (exfalso; omega)
        | exact k M hM h3 (fun c a b => h4 c a (by omega))
  | succ n ih =>
    intro x5 M h1 h2 h3 h4
    refine g3_rm fun hM => ?_
    refine sX12_helpers_62 ?_
    refine ⟨?_, ?_⟩
    · first | omega | (exfalso; omega)
    refine ⟨fun c1 => ?_, fun c1 => ?_⟩
    · first
        | (exfalso; omega)
        | (refine ih _ _ (by omega) (by omega) (fr_up h3 (by decide)) (fun c a b => ?_)
           by_cases e : c = x5
           · rw [e, up3_eq]
           · rw [up3_nj e]; exact h4 c a (by omega))
    · refine ⟨?_, ?_⟩
      · first | omega | (exfalso; omega)
      first
        | (exfalso; omega)
        | (refine ih _ _ (by omega) (by omega) (fr_up h3 (by decide)) (fun c a b => ?_)
           by_cases e : c = x5
           · rw [e, up3_eq]
           · rw [up3_nj e]; exact h4 c a (by omega))
theorem mRdy_q {M N : M3} (h : ∀ q : Nat, q ∈ ([44, 45, 46, 47, 50, 52] : List Nat) → N q = M q) (a b : Int) : mRdy N a b = mRdy M a b := by
  unfold mRdy
  have eL : LM3 N = LM3 M := LM3_eq (h 52 (by decide)) (by rw [h 44 (by decide)])
  simp only [alw3, eL, h 44 (by decide), h 45 (by decide), h 46 (by decide), h 47 (by decide), h 50 (by decide)]
theorem mRdy_rg {M : M3} (h : 0 ≤ M 44 0 1 ∧ M 44 0 1 ≤ 48) (a b : Int) : 0 ≤ mRdy M a b ∧ mRdy M a b ≤ 48 := by
  have := cn3_rg h.1 (fun p => decide ((M 50 0 p = 0 ∨ M 50 0 p = 2) ∧ (a = -1 ∨ M 45 0 p = a) ∧ alw3 (LM3 M) (M 46 0 p) (M 44 0 0) ∧ sSd (LM3 M) 22 (M 44 0 0) ≤ min 20 (M 47 0 p + 2 * b)))
  unfold mRdy
  omega
def rbM (M : M3) (x : Int) : M3 := ws1 M 68 0 x (fun _ => true) (fun k => mRdy M (k / 13) (k % 13))
theorem lX12_h24 {E : E3} {Q : Q3} {M0 : M3} {x1 x2 : Int} (hz : okP M0) (k : ∀ (N : M3), RM3 N → Em (rbM M0 78) N → RdC N → G3 E YX12_helpers Q 62 [(0, vR 44 0), (1, vI x1), (2, vI x2), (3, vI (-1)), (4, vI 0), (5, vI 0)] [] N) : ∀ (n : Nat) (x3 : Int) (M : M3), 0 ≤ x3 → x3 + n = 78 → RdC M → Em (rbM M0 x3) M → G3 E YX12_helpers Q 24 [(0, vR 44 0), (1, vI x1), (2, vI x2), (3, vI x3)] [] M := by
  intro n
  induction n with
  | zero =>
    intro x3 M h1 h2 h3 h4
    refine g3_rm fun hM => ?_
    have er : ∀ q : Nat, q ∈ ([44, 45, 46, 47, 50, 52] : List Nat) → rbM M0 x3 q = M0 q := fun q hq => ws1_r (fun e => by rw [e] at hq; exact absurd hq (by decide))
    have eR : ∀ a b : Int, mRdy M a b = mRdy M0 a b := fun a b => (mRdy_e h4 a b).trans (mRdy_q er a b)
    have hP : okP M := okP_e h4 (by unfold okP; rw [er 44 (by decide), er 47 (by decide)]; exact hz)
    have rr := mRdy_rg hz.1 (x3 / 13) (x3 % 13)
    refine sX12_helpers_24 ?_
    simp only [eR]
    refine ⟨?_, ?_⟩
    · first | omega | exact ⟨h3, hP, by omega, by omega⟩ | (exfalso; omega)
    refine ⟨fun c1 => ?_, fun c1 => ?_⟩
    · first
        | (exfalso; omega)
        | (rw [show x3 = 78 by omega] at h4; exact k M hM h4 h3)
    · refine ⟨?_, ?_, ?_⟩
      · first | omega | exact ⟨h3, hP, by omega, by omega⟩ | (exfalso; omega)
      · first | omega | exact ⟨h3, hP, by omega, by omega⟩ | (exfalso; omega)
      intro N1 hN1 he1 hp1
      refine ⟨?_, ?_, ?_⟩
      · first | omega | exact ⟨h3, hP, by omega, by omega⟩ | (exfalso; omega)
      · first | omega | exact ⟨h3, hP, by omega, by omega⟩ | (exfalso; omega)
      first
        | (exfalso; omega)
        | (rw [show x3 = 78 by omega] at h4; exact k M hM h4 h3)
  | succ n ih =>
    intro x3 M h1 h2 h3 h4
    refine g3_rm fun hM => ?_
    have er : ∀ q : Nat, q ∈ ([44, 45, 46, 47, 50, 52] : List Nat) → rbM M0 x3 q = M0 q := fun q hq => ws1_r (fun e => by rw [e] at hq; exact absurd hq (by decide))
    have eR : ∀ a b : Int, mRdy M a b = mRdy M0 a b := fun a b => (mRdy_e h4 a b).trans (mRdy_q er a b)
    have hP : okP M := okP_e h4 (by unfold okP; rw [er 44 (by decide), er 47 (by decide)]; exact hz)
    have rr := mRdy_rg hz.1 (x3 / 13) (x3 % 13)
    refine sX12_helpers_24 ?_
    simp only [eR]
    refine ⟨?_, ?_⟩
    · first | omega | exact ⟨h3, hP, by omega, by omega⟩ | (exfalso; omega)
    refine ⟨fun c1 => ?_, fun c1 => ?_⟩
    · first
        | (exfalso; omega)
        | (refine ih _ _ (by omega) (by omega) (hp1.up (by decide)) ?_
           rw [rbM, ← ws1_t h1 rfl rfl]
           exact (Em.tr h4 he1).up 68 0 x3 _)
    · refine ⟨?_, ?_, ?_⟩
      · first | omega | exact ⟨h3, hP, by omega, by omega⟩ | (exfalso; omega)
      · first | omega | exact ⟨h3, hP, by omega, by omega⟩ | (exfalso; omega)
      intro N1 hN1 he1 hp1
      refine ⟨?_, ?_, ?_⟩
      · first | omega | exact ⟨h3, hP, by omega, by omega⟩ | (exfalso; omega)
      · first | omega | exact ⟨h3, hP, by omega, by omega⟩ | (exfalso; omega)
      first
        | (exfalso; omega)
        | (refine ih _ _ (by omega) (by omega) (hp1.up (by decide)) ?_
           rw [rbM, ← ws1_t h1 rfl rfl]
           exact (Em.tr h4 he1).up 68 0 x3 _)
theorem kX12_helpers {E : E3} {Q : Q3} {M : M3} {x1 x2 : Int} (h : RdC M ∧ okP M ∧ (-2147483648 ≤ x1 ∧ x1 ≤ 2147483647) ∧ (-2147483648 ≤ x2 ∧ x2 ≤ 2147483647)) (k : ∀ (a : Int) (N : M3), RM3 N → Es M N → RdC N → (∀ q : Nat, q < 44 → N q = M q) → (if (0 ≤ x1 ∧ x1 ≤ 12) ∧ (-1 ≤ x2 ∧ x2 ≤ 5) then hpS (mRdy M) x1 x2 a else a = -2) → Q (some (vI a)) N) : C3 E YX12_helpers [vR 44 0, vI x1, vI x2] M Q := by
  refine c3_rm fun hM => ?_
  have nin : ∀ {L : List Nat} {q : Nat}, (∀ y ∈ L, 44 ≤ y) → q < 44 → q ∉ L := fun hL hq z => by
    have := hL _ z
    omega
  obtain ⟨hR, hP, hx, hy⟩ := h
  refine sX12_helpers ?_
  refine ⟨?_, ?_⟩
  · omega
  refine ⟨fun c1 => ?_, fun c1 => ?_⟩
  · exact k _ M hM Es.rf hR (fun _ _ => rfl) (by rw [if_neg (fun z => by first | exact absurd z.1 (by assumption) | exact absurd z.2 (by assumption))])
  · refine ⟨?_, ?_⟩
    · omega
    refine ⟨fun c2 => ?_, fun c2 => ?_⟩
    · have hx1 : (0 ≤ x1 ∧ x1 ≤ 12) ∧ (-1 ≤ x2 ∧ x2 ≤ 5) := ⟨by assumption, by assumption⟩
      refine lX12_h24 hP (fun N n1 n2 n3 => lX12_h62 (fun N2 m1 m2 m3 => ?_) 6 0 N (by omega) (by omega) fr_rf (fun c a b => by omega)) 78 0 M (by omega) (by omega) hR (by rw [rbM, ws1_0]; exact Em.rf)
      have e68 : N2 68 = rbM M 78 68 := (m2 68 (by decide)).trans (n2.1 68 (by decide))
      have hS : Es M N := (Es.ws1 (by decide)).tr (Es.m n2)
      refine lX12_h86 (M0 := N2) (R := mRdy M) hx1 (fun b g b0 b1 g0 g1 => ?_) (fun b g => mRdy_rg hP.1 b g) (fun a N3 o1 o2 o3 => ?_) 4826809 _ _ _ N2 fr_rf (Or.inr ⟨rfl, ?_, Or.inl ⟨rfl, fun k hk c => ?_⟩⟩) (fun _ => ?_)
      · rw [e68, rbM, ws1_in (by omega) rfl]
        show mRdy M ((13 * b + g) / 13) ((13 * b + g) % 13) = mRdy M b g
        rw [show (13 * b + g) / 13 = b by omega, show (13 * b + g) % 13 = g by omega]
      · refine k a N3 o1 ((hS.tr (Es.fr m2 (by decide))).tr (Es.fr o2 (by decide))) ?_ (fun q hq => (o2 q (nin (by decide) hq)).trans ((m2 q (nin (by decide) hq)).trans ((n2.1 q (nin (by decide) hq)).trans (ws1_r (show q ≠ 68 by omega))))) (by rw [if_pos hx1]; exact o3)
        exact (n3.same (fun j _ => by rw [m2 44 (by decide)]) (fun q hq => m2 q (fun e => by rw [List.mem_singleton.mp e] at hq; exact absurd hq (by decide)))).same (fun j _ => by rw [o2 44 (by decide)]) (fun q hq => o2 q (fun e => by
          have : ∀ y : Nat, y ∈ ([69, 70] : List Nat) → y ∉ ([52, 53, 54, 55] : List Nat) := by decide
          exact this q e hq))
      · unfold vld3 tot3
        rw [m3 0 (by omega) (by omega), m3 1 (by omega) (by omega), m3 2 (by omega) (by omega), m3 3 (by omega) (by omega), m3 4 (by omega) (by omega), m3 5 (by omega) (by omega)]
        omega
      · unfold clt3 at c
        have := hk.1
        rw [m3 0 (by omega) (by omega), m3 1 (by omega) (by omega), m3 2 (by omega) (by omega), m3 3 (by omega) (by omega), m3 4 (by omega) (by omega), m3 5 (by omega) (by omega)] at c
        omega
      · unfold rnk3
        rw [m3 0 (by omega) (by omega), m3 1 (by omega) (by omega), m3 2 (by omega) (by omega), m3 3 (by omega) (by omega), m3 4 (by omega) (by omega), m3 5 (by omega) (by omega)]
        omega
    · exact k _ M hM Es.rf hR (fun _ _ => rfl) (by rw [if_neg (fun z => by first | exact absurd z.1 (by assumption) | exact absurd z.2 (by assumption))])
