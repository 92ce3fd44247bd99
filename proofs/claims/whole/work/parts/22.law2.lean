/-! CLASS: a part is read -/
def poG3 (ft kd sy fr nx : Int) (M : M3) (r : Int) (N : M3) : Prop := (∀ j : Int, j ≠ 3 → j ≠ 1 → j ≠ 4 → N 3 0 j = M 3 0 j) ∧ (ft ≠ -1 → r = 0 ∧ N 3 0 1 = ft ∧ N 3 0 4 = M 3 0 4 ∧ N 5 = M 5 ∧ N 6 = M 6 ∧ N 7 = M 7) ∧ (ft = -1 → r = 1 ∧ N 3 0 1 = M 3 0 1 ∧ N 3 0 3 = nx ∧ N 3 0 4 = M 3 0 4 + 1 ∧ ∀ k : Int, N 5 0 k = (if k = M 3 0 4 then kd else M 5 0 k) ∧ N 6 0 k = (if k = M 3 0 4 then sy else M 6 0 k) ∧ N 7 0 k = (if k = M 3 0 4 then fr else M 7 0 k))
theorem poG3.base {ft kd sy fr nx r : Int} {M M' N : M3} (h : poG3 ft kd sy fr nx M' r N) (hf : ∀ q : Nat, q ∉ ([3] : List Nat) → M' q = M q) (hj : ∀ j : Int, j ≠ 3 → M' 3 0 j = M 3 0 j) : poG3 ft kd sy fr nx M r N := by
  unfold poG3 at h ⊢
  rw [hf 5 (by decide), hf 6 (by decide), hf 7 (by decide), hj 1 (by decide), hj 4 (by decide)] at h
  exact ⟨fun j a b c => (h.1 j a b c).trans (hj j a), h.2⟩
abbrev ps3 (M : M3) : Prop := (0 ≤ M 3 0 3 ∧ M 3 0 3 ≤ 300) ∧ (0 ≤ M 3 0 0 ∧ M 3 0 0 ≤ 200)
theorem lTake107 {E : E3} {Q : Q3} {M : M3} {x1 x2 x3 : Int} (hx : (-2147483648 ≤ x1 ∧ x1 ≤ 2147483647) ∧ (-2147483648 ≤ x2 ∧ x2 ≤ 2147483647) ∧ (-2147483648 ≤ x3 ∧ x3 ≤ 2147483647)) (hn : 0 ≤ M 3 0 4 ∧ M 3 0 4 < 50) (k : ∀ (r : Int) (N : M3), RM3 N → (∀ q : Nat, q ∉ ([3, 5, 6, 7] : List Nat) → N q = M q) → poG3 (-1) x1 x2 x3 (M 3 0 3) M r N → Q (some (vI r)) N) : G3 E YX4_takePart Q 107 [(0, vR 3 0), (1, vI x1), (2, vI x2), (3, vI x3)] [] M := by
  refine g3_rm fun hM => ?_
  refine sX4_takePart_107 ?_
  refine ⟨fun c1 => ?_, fun c1 => ?_⟩
  · first | (exfalso; omega) | exact k _ _ ((((hM.up (by omega)).up (by omega)).up (by omega)).up (by omega)) (fr_up (fr_up (fr_up (fr_up fr_rf (by decide)) (by decide)) (by decide)) (by decide)) ⟨fun j a b c => by rw [up3_nj c, up3_nr (by decide), up3_nr (by decide), up3_nr (by decide)], fun q => absurd rfl q, fun _ => ⟨rfl, by rw [up3_nj (by decide), up3_nr (by decide), up3_nr (by decide), up3_nr (by decide)], by rw [up3_nj (by decide), up3_nr (by decide), up3_nr (by decide), up3_nr (by decide)], up3_eq, fun k => by simp [up3]⟩⟩
  · refine ⟨?_, ?_, ?_, ?_, ?_, ?_⟩
    · omega
    · omega
    · omega
    · omega
    · omega
    first | (exfalso; omega) | exact k _ _ ((((hM.up (by omega)).up (by omega)).up (by omega)).up (by omega)) (fr_up (fr_up (fr_up (fr_up fr_rf (by decide)) (by decide)) (by decide)) (by decide)) ⟨fun j a b c => by rw [up3_nj c, up3_nr (by decide), up3_nr (by decide), up3_nr (by decide)], fun q => absurd rfl q, fun _ => ⟨rfl, by rw [up3_nj (by decide), up3_nr (by decide), up3_nr (by decide), up3_nr (by decide)], by rw [up3_nj (by decide), up3_nr (by decide), up3_nr (by decide), up3_nr (by decide)], up3_eq, fun k => by simp [up3]⟩⟩
theorem lTake46 {E : E3} {Q : Q3} {M : M3} {x1 x2 : Int} (hx : (-2147483648 ≤ x1 ∧ x1 ≤ 2147483647) ∧ (-2147483648 ≤ x2 ∧ x2 ≤ 2147483647)) (h2 : x2 ≠ -1) (hp : ps3 M) (hn : 0 ≤ M 3 0 4 ∧ M 3 0 4 < 50) (k : ∀ (r : Int) (N : M3), RM3 N → (∀ q : Nat, q ∉ ([3, 5, 6, 7] : List Nat) → N q = M q) → poG3 (fa3 (tb3 M) (M 3 0 3)).1 x1 x2 (fa3 (tb3 M) (M 3 0 3)).2.1 (fa3 (tb3 M) (M 3 0 3)).2.2 M r N → Q (some (vI r)) N) : G3 E YX4_takePart Q 46 [(0, vR 3 0), (1, vI x1), (2, vI x2)] [] M := by
  refine g3_rm fun hM => ?_
  have hc := tb3_c M hp.1.1
  have h64 : tb3 M (M 3 0 3) ≠ 64 → fa3 (tb3 M) (M 3 0 3) = (-1, 0, M 3 0 3) := fun q => if_neg q
  have g64 : tb3 M (M 3 0 3) = 64 → fa3 (tb3 M) (M 3 0 3) = (if ba3 (nu3 (tb3 M) 3 (M 3 0 3 + 1) 0) (M 3 0 3 + 1) 0 399 then (M 3 0 3 + 1, 0, 0) else (-1, (nu3 (tb3 M) 3 (M 3 0 3 + 1) 0).1, (nu3 (tb3 M) 3 (M 3 0 3 + 1) 0).2)) := fun q => if_pos q
  refine sX4_takePart_46 ?_
  refine ⟨?_, ?_⟩
  · first | omega | (have := hp1.2.2.2.2; omega) | exact ⟨by omega, by omega, ⟨by rw [up3_eq]; omega, by rw [up3_eq]; omega⟩, by rw [up3_nj (by decide)]; omega⟩
  refine ⟨fun c1 => ?_, fun c1 => ?_⟩
  · refine ⟨fun c2 => ?_, fun c2 => ?_⟩
    · first
        | exact lTake107 ⟨hx.1, hx.2, by omega⟩ hn (fun r N a b c => k r N a b (by rw [h64 (by omega)]; exact c))
        | (have e := g64 (by omega)
           have et : tb3 (up3 M 3 0 3 (M 3 0 3 + 1)) = tb3 M := by unfold tb3; rw [up3_nj (by decide), up3_r (by decide)]
           obtain ⟨p1, p2, p3, p4, p5⟩ := hp1
           rw [et, up3_eq, show (3 : Int).toNat = 3 from rfl] at p1 p3 p4
           have hb : ¬ ba3 (nu3 (tb3 M) 3 (M 3 0 3 + 1) 0) (M 3 0 3 + 1) 0 399 := fun q => by have := (p3 q).1; omega
           rw [if_neg hb] at e
           obtain ⟨s1, s2⟩ := p4 hb
           rw [up3_nj (by decide)] at s2
           have e4 : N1 3 0 4 = M 3 0 4 := (p2 4 (by decide) (by decide)).trans (up3_nj (by decide))
           refine lTake107 ⟨hx.1, hx.2, by omega⟩ (by rw [e4]; exact hn) (fun r N a b c => k r N a (fr_tr (fr_sub (fr_tr (fr_up fr_rf (by decide)) hf1) (by decide)) b) ?_)
           rw [e]
           have c2 := c.base (fun q hq => (hf1 q hq).trans (up3_r (fun z => hq (by rw [z]; decide)))) (fun j hj => if h1 : j = 1 then by rw [h1, s2] else (p2 j hj h1).trans (up3_nj hj))
           rw [show N1 3 0 3 = (nu3 (tb3 M) 3 (M 3 0 3 + 1) 0).2 from p1, s1] at c2
           exact c2)
    · refine ⟨?_, ?_⟩
      · first | omega | (have := hp1.2.2.2.2; omega) | exact ⟨by omega, by omega, ⟨by rw [up3_eq]; omega, by rw [up3_eq]; omega⟩, by rw [up3_nj (by decide)]; omega⟩
      refine ⟨fun c3 => ?_, fun c3 => ?_⟩
      · first
          | exact lTake107 ⟨hx.1, hx.2, by omega⟩ hn (fun r N a b c => k r N a b (by rw [h64 (by omega)]; exact c))
          | (have e := g64 (by omega)
             have et : tb3 (up3 M 3 0 3 (M 3 0 3 + 1)) = tb3 M := by unfold tb3; rw [up3_nj (by decide), up3_r (by decide)]
             obtain ⟨p1, p2, p3, p4, p5⟩ := hp1
             rw [et, up3_eq, show (3 : Int).toNat = 3 from rfl] at p1 p3 p4
             have hb : ¬ ba3 (nu3 (tb3 M) 3 (M 3 0 3 + 1) 0) (M 3 0 3 + 1) 0 399 := fun q => by have := (p3 q).1; omega
             rw [if_neg hb] at e
             obtain ⟨s1, s2⟩ := p4 hb
             rw [up3_nj (by decide)] at s2
             have e4 : N1 3 0 4 = M 3 0 4 := (p2 4 (by decide) (by decide)).trans (up3_nj (by decide))
             refine lTake107 ⟨hx.1, hx.2, by omega⟩ (by rw [e4]; exact hn) (fun r N a b c => k r N a (fr_tr (fr_sub (fr_tr (fr_up fr_rf (by decide)) hf1) (by decide)) b) ?_)
             rw [e]
             have c2 := c.base (fun q hq => (hf1 q hq).trans (up3_r (fun z => hq (by rw [z]; decide)))) (fun j hj => if h1 : j = 1 then by rw [h1, s2] else (p2 j hj h1).trans (up3_nj hj))
             rw [show N1 3 0 3 = (nu3 (tb3 M) 3 (M 3 0 3 + 1) 0).2 from p1, s1] at c2
             exact c2)
      · refine ⟨?_, ?_, ?_⟩
        · first | omega | (have := hp1.2.2.2.2; omega) | exact ⟨by omega, by omega, ⟨by rw [up3_eq]; omega, by rw [up3_eq]; omega⟩, by rw [up3_nj (by decide)]; omega⟩
        · first | omega | (have := hp1.2.2.2.2; omega) | exact ⟨by omega, by omega, ⟨by rw [up3_eq]; omega, by rw [up3_eq]; omega⟩, by rw [up3_nj (by decide)]; omega⟩
        intro r1 N1 hN1 hf1 hp1
        refine ⟨?_, ?_⟩
        · first | omega | (have := hp1.2.2.2.2; omega) | exact ⟨by omega, by omega, ⟨by rw [up3_eq]; omega, by rw [up3_eq]; omega⟩, by rw [up3_nj (by decide)]; omega⟩
        refine ⟨fun c4 => ?_, fun c4 => ?_⟩
        · first
            | exact lTake107 ⟨hx.1, hx.2, by omega⟩ hn (fun r N a b c => k r N a b (by rw [h64 (by omega)]; exact c))
            | (have e := g64 (by omega)
               have et : tb3 (up3 M 3 0 3 (M 3 0 3 + 1)) = tb3 M := by unfold tb3; rw [up3_nj (by decide), up3_r (by decide)]
               obtain ⟨p1, p2, p3, p4, p5⟩ := hp1
               rw [et, up3_eq, show (3 : Int).toNat = 3 from rfl] at p1 p3 p4
               have hb : ¬ ba3 (nu3 (tb3 M) 3 (M 3 0 3 + 1) 0) (M 3 0 3 + 1) 0 399 := fun q => by have := (p3 q).1; omega
               rw [if_neg hb] at e
               obtain ⟨s1, s2⟩ := p4 hb
               rw [up3_nj (by decide)] at s2
               have e4 : N1 3 0 4 = M 3 0 4 := (p2 4 (by decide) (by decide)).trans (up3_nj (by decide))
               refine lTake107 ⟨hx.1, hx.2, by omega⟩ (by rw [e4]; exact hn) (fun r N a b c => k r N a (fr_tr (fr_sub (fr_tr (fr_up fr_rf (by decide)) hf1) (by decide)) b) ?_)
               rw [e]
               have c2 := c.base (fun q hq => (hf1 q hq).trans (up3_r (fun z => hq (by rw [z]; decide)))) (fun j hj => if h1 : j = 1 then by rw [h1, s2] else (p2 j hj h1).trans (up3_nj hj))
               rw [show N1 3 0 3 = (nu3 (tb3 M) 3 (M 3 0 3 + 1) 0).2 from p1, s1] at c2
               exact c2)
        · first
            | (exfalso; omega)
            | (have e := g64 (by omega)
               have et : tb3 (up3 M 3 0 3 (M 3 0 3 + 1)) = tb3 M := by unfold tb3; rw [up3_nj (by decide), up3_r (by decide)]
               obtain ⟨p1, p2, p3, p4, p5⟩ := hp1
               rw [et, up3_eq, show (3 : Int).toNat = 3 from rfl] at p1 p3 p4
               have hb : ba3 (nu3 (tb3 M) 3 (M 3 0 3 + 1) 0) (M 3 0 3 + 1) 0 399 := Classical.byContradiction fun q => by have := (p4 q).1; have := nu3_v (b := tb3 M) 3 (M 3 0 3 + 1) 0 (by omega); omega
               rw [if_pos hb] at e
               refine k 0 _ hN1 (fr_sub (fr_tr (fr_up fr_rf (by decide)) hf1) (by decide)) ?_
               rw [e]
               exact ⟨fun j a b c => (p2 j a b).trans (up3_nj a), fun _ => ⟨rfl, (p3 hb).2, (p2 4 (by decide) (by decide)).trans (up3_nj (by decide)), (hf1 5 (by decide)).trans (up3_r (by decide)), (hf1 6 (by decide)).trans (up3_r (by decide)), (hf1 7 (by decide)).trans (up3_r (by decide))⟩, fun q => absurd q (by show M 3 0 3 + 1 ≠ -1; omega)⟩)
  · first
      | (exfalso; omega)
      | (have e := g64 (by omega)
         have et : tb3 (up3 M 3 0 3 (M 3 0 3 + 1)) = tb3 M := by unfold tb3; rw [up3_nj (by decide), up3_r (by decide)]
         obtain ⟨p1, p2, p3, p4, p5⟩ := hp1
         rw [et, up3_eq, show (3 : Int).toNat = 3 from rfl] at p1 p3 p4
         have hb : ba3 (nu3 (tb3 M) 3 (M 3 0 3 + 1) 0) (M 3 0 3 + 1) 0 399 := Classical.byContradiction fun q => by have := (p4 q).1; have := nu3_v (b := tb3 M) 3 (M 3 0 3 + 1) 0 (by omega); omega
         rw [if_pos hb] at e
         refine k 0 _ hN1 (fr_sub (fr_tr (fr_up fr_rf (by decide)) hf1) (by decide)) ?_
         rw [e]
         exact ⟨fun j a b c => (p2 j a b).trans (up3_nj a), fun _ => ⟨rfl, (p3 hb).2, (p2 4 (by decide) (by decide)).trans (up3_nj (by decide)), (hf1 5 (by decide)).trans (up3_r (by decide)), (hf1 6 (by decide)).trans (up3_r (by decide)), (hf1 7 (by decide)).trans (up3_r (by decide))⟩, fun q => absurd q (by show M 3 0 3 + 1 ≠ -1; omega)⟩)
theorem lTake46n {E : E3} {Q : Q3} {M : M3} {x1 x2 : Int} (h2 : x2 = -1) (k : Q (some (vI 0)) M) : G3 E YX4_takePart Q 46 [(0, vR 3 0), (1, vI x1), (2, vI x2)] [] M :=
  sX4_takePart_46 ⟨by omega, fun c => absurd h2 c, fun _ => k⟩
theorem lTake5n {E : E3} {Q : Q3} {M : M3} {x1 : Int} (h1 : x1 = -1) (k : Q (some (vI 0)) M) : G3 E YX4_takePart Q 5 [(0, vR 3 0), (1, vI x1)] [] M :=
  sX4_takePart_5 ⟨by omega, fun _ => k, fun c => absurd h1 c⟩
theorem tb3_up (M : M3) (v : Int) : tb3 (up3 M 3 0 3 v) = tb3 M := by unfold tb3; rw [up3_nj (by decide), up3_r (by decide)]
theorem tb3_fr {M N : M3} (hf : ∀ q : Nat, q ∉ ([3] : List Nat) → N q = M q) (h0 : N 3 0 0 = M 3 0 0) : tb3 N = tb3 M := by unfold tb3; rw [h0, hf 4 (by decide)]
/-- behind the number that a part says -/
theorem lTake5g {E : E3} {Q : Q3} {M N : M3} {x1 f lo hi r : Int} (hx : -2147483648 ≤ x1 ∧ x1 ≤ 2147483647) (hp : (0 ≤ M 3 0 3 ∧ M 3 0 3 ≤ 250) ∧ (0 ≤ M 3 0 0 ∧ M 3 0 0 ≤ 200)) (hn : 0 ≤ M 3 0 4 ∧ M 3 0 4 < 50) (hf3 : f = 1 ∨ f = 2) (hlo : 0 ≤ lo) (hN : RM3 N) (hfr : ∀ q : Nat, q ∉ ([3] : List Nat) → N q = up3 M 3 0 3 (M 3 0 3 + 1) q) (hpo : poNum (up3 M 3 0 3 (M 3 0 3 + 1)) f lo hi r N)
    (hS : sa3 (tb3 M) x1 (M 3 0 3) = (if ba3 (nu3 (tb3 M) f.toNat (M 3 0 3 + 1) 0) (M 3 0 3 + 1) lo hi then (M 3 0 3 + 1, 0, 0) else (-1, (nu3 (tb3 M) f.toNat (M 3 0 3 + 1) 0).1, (nu3 (tb3 M) f.toNat (M 3 0 3 + 1) 0).2)))
    (k : ∀ (r : Int) (N : M3), RM3 N → (∀ q : Nat, q ∉ ([3, 5, 6, 7] : List Nat) → N q = M q) → poG3 (if (sa3 (tb3 M) x1 (M 3 0 3)).1 ≠ -1 then (sa3 (tb3 M) x1 (M 3 0 3)).1 else (fa3 (tb3 M) (sa3 (tb3 M) x1 (M 3 0 3)).2.2).1) x1 (sa3 (tb3 M) x1 (M 3 0 3)).2.1 (fa3 (tb3 M) (sa3 (tb3 M) x1 (M 3 0 3)).2.2).2.1 (fa3 (tb3 M) (sa3 (tb3 M) x1 (M 3 0 3)).2.2).2.2 M r N → Q (some (vI r)) N) : G3 E YX4_takePart Q 46 [(0, vR 3 0), (1, vI x1), (2, vI r)] [] N := by
  obtain ⟨p1, p2, p3, p4, p5⟩ := hpo
  rw [tb3_up, up3_eq] at p1 p3 p4
  have hfr' : ∀ q : Nat, q ∉ ([3] : List Nat) → N q = M q := fun q hq => (hfr q hq).trans (up3_r (fun z => hq (by rw [z]; decide)))
  have hj : ∀ j : Int, j ≠ 3 → j ≠ 1 → N 3 0 j = M 3 0 j := fun j a b => (p2 j a b).trans (up3_nj a)
  have hv := nu3_v (b := tb3 M) f.toNat (M 3 0 3 + 1) 0 (by omega)
  have ha := nu3_at (b := tb3 M) f.toNat (M 3 0 3 + 1) 0
  by_cases hb : ba3 (nu3 (tb3 M) f.toNat (M 3 0 3 + 1) 0) (M 3 0 3 + 1) lo hi
  · rw [if_pos hb] at hS
    obtain ⟨e1, e2⟩ := p3 hb
    refine lTake46n e1 (k 0 N hN (fr_sub hfr' (by decide)) ?_)
    rw [hS]
    have hne : (M 3 0 3 + 1) ≠ -1 := by omega
    refine ⟨fun j a b c => hj j a b, fun _ => ⟨rfl, ?_, hj 4 (by decide) (by decide), hfr' 5 (by decide), hfr' 6 (by decide), hfr' 7 (by decide)⟩, fun q => absurd q ?_⟩
    · rw [if_pos hne]; exact e2
    · rw [if_pos hne]; exact hne
  · rw [if_neg hb] at hS
    obtain ⟨e1, e2⟩ := p4 hb
    rw [up3_nj (by decide)] at e2
    have et : tb3 N = tb3 M := tb3_fr hfr' (hj 0 (by decide) (by decide))
    have hbb : ¬ (nu3 (tb3 M) f.toNat (M 3 0 3 + 1) 0).1 < lo := fun q => hb (Or.inr (Or.inl q))
    have e0 : N 3 0 0 = M 3 0 0 := hj 0 (by decide) (by decide)
    have e4 : N 3 0 4 = M 3 0 4 := hj 4 (by decide) (by decide)
    refine lTake46 ⟨hx, by omega⟩ (by omega) ⟨by rcases hf3 with rfl | rfl <;> (rw [p1]; have : ((1 : Int).toNat : Int) = 1 := rfl; have : ((2 : Int).toNat : Int) = 2 := rfl; omega), by omega⟩ (by omega) (fun r' N' a b c => k r' N' a (fr_tr (fr_sub hfr' (by decide)) b) ?_)
    rw [hS]
    have c2 := c.base hfr' (fun j hj3 => if h1 : j = 1 then by rw [h1]; exact e2 else hj j hj3 h1)
    rw [et, p1, e1] at c2
    exact c2
theorem lTake5 {E : E3} {Q : Q3} {M : M3} {x1 : Int} (hx : -2147483648 ≤ x1 ∧ x1 ≤ 2147483647) (h1 : x1 ≠ -1) (hp : (0 ≤ M 3 0 3 ∧ M 3 0 3 ≤ 250) ∧ (0 ≤ M 3 0 0 ∧ M 3 0 0 ≤ 200)) (hn : 0 ≤ M 3 0 4 ∧ M 3 0 4 < 50) (k : ∀ (r : Int) (N : M3), RM3 N → (∀ q : Nat, q ∉ ([3, 5, 6, 7] : List Nat) → N q = M q) → poG3 (if (sa3 (tb3 M) x1 (M 3 0 3)).1 ≠ -1 then (sa3 (tb3 M) x1 (M 3 0 3)).1 else (fa3 (tb3 M) (sa3 (tb3 M) x1 (M 3 0 3)).2.2).1) x1 (sa3 (tb3 M) x1 (M 3 0 3)).2.1 (fa3 (tb3 M) (sa3 (tb3 M) x1 (M 3 0 3)).2.2).2.1 (fa3 (tb3 M) (sa3 (tb3 M) x1 (M 3 0 3)).2.2).2.2 M r N → Q (some (vI r)) N) : G3 E YX4_takePart Q 5 [(0, vR 3 0), (1, vI x1)] [] M := by
  refine g3_rm fun hM => ?_
  have hc := tb3_c M hp.1.1
  have n61 : tb3 M (M 3 0 3) ≠ 61 → sa3 (tb3 M) x1 (M 3 0 3) = (M 3 0 3, 0, 0) := fun q => if_neg q
  have p61 : tb3 M (M 3 0 3) = 61 → sa3 (tb3 M) x1 (M 3 0 3) = _ := fun q => if_pos q
  have bad : tb3 M (M 3 0 3) ≠ 61 → Q (some (vI 0)) (up3 M 3 0 1 (M 3 0 3)) := fun q => by
    refine k 0 _ (hM.up (by omega)) (fr_up fr_rf (by decide)) ?_
    rw [n61 q]
    have hne : (M 3 0 3) ≠ -1 := by omega
    refine ⟨fun j a b c => up3_nj b, fun _ => ⟨rfl, ?_, up3_nj (by decide), up3_r (by decide), up3_r (by decide), up3_r (by decide)⟩, fun q => absurd q ?_⟩
    · rw [if_pos hne]; exact up3_eq
    · rw [if_pos hne]; exact hne
  refine sX4_takePart_5 ?_
  refine ⟨?_, ?_⟩
  · first | omega | exact ⟨by omega, by omega, ⟨by rw [up3_eq]; omega, by rw [up3_eq]; omega⟩, by rw [up3_nj (by decide)]; omega⟩
  refine ⟨fun c1 => ?_, fun c1 => ?_⟩
  · first | (exfalso; omega) | exact bad (by omega)
  · refine ⟨fun c2 => ?_, fun c2 => ?_⟩
    · first | (exfalso; omega) | exact bad (by omega)
    · refine ⟨?_, ?_⟩
      · first | omega | exact ⟨by omega, by omega, ⟨by rw [up3_eq]; omega, by rw [up3_eq]; omega⟩, by rw [up3_nj (by decide)]; omega⟩
      refine ⟨fun c3 => ?_, fun c3 => ?_⟩
      · refine ⟨?_, ?_⟩
        · first | omega | exact ⟨by omega, by omega, ⟨by rw [up3_eq]; omega, by rw [up3_eq]; omega⟩, by rw [up3_nj (by decide)]; omega⟩
        refine ⟨fun c4 => ?_, fun c4 => ?_⟩
        · refine ⟨?_, ?_⟩
          · first | omega | exact ⟨by omega, by omega, ⟨by rw [up3_eq]; omega, by rw [up3_eq]; omega⟩, by rw [up3_nj (by decide)]; omega⟩
          intro r1 N1 hN1 hf1 hp1
          first | exact lTake5g hx hp hn (Or.inr rfl) (by decide) hN1 hf1 hp1 ((p61 (by omega)).trans (if_neg (by omega))) k | exact lTake5g hx hp hn (Or.inl rfl) (by decide) hN1 hf1 hp1 ((p61 (by omega)).trans (if_pos (by omega))) k
        · refine ⟨?_, ?_⟩
          · first | omega | exact ⟨by omega, by omega, ⟨by rw [up3_eq]; omega, by rw [up3_eq]; omega⟩, by rw [up3_nj (by decide)]; omega⟩
          intro r1 N1 hN1 hf1 hp1
          first | exact lTake5g hx hp hn (Or.inr rfl) (by decide) hN1 hf1 hp1 ((p61 (by omega)).trans (if_neg (by omega))) k | exact lTake5g hx hp hn (Or.inl rfl) (by decide) hN1 hf1 hp1 ((p61 (by omega)).trans (if_pos (by omega))) k
      · first | (exfalso; omega) | exact bad (by omega)
def poTake (M : M3) (r : Int) (N : M3) : Prop := poG3 (pa3 (tb3 M) (M 3 0 3)).1 (pa3 (tb3 M) (M 3 0 3)).2.1.1 (pa3 (tb3 M) (M 3 0 3)).2.1.2.1 (pa3 (tb3 M) (M 3 0 3)).2.1.2.2 (pa3 (tb3 M) (M 3 0 3)).2.2 M r N
def preTake (M : M3) : Prop := (0 ≤ M 3 0 3 ∧ M 3 0 3 ≤ 200) ∧ (0 ≤ M 3 0 0 ∧ M 3 0 0 ≤ 200) ∧ 0 ≤ M 3 0 4 ∧ (M 3 0 3 < M 3 0 0 → M 3 0 4 < 50)
theorem poG3.out {ft kd sy fr nx kd' sy' fr' nx' r : Int} {M N : M3} (h : poG3 ft kd sy fr nx M r N) (hf : ft ≠ -1) : poG3 ft kd' sy' fr' nx' M r N := ⟨h.1, h.2.1, fun q => absurd q hf⟩
theorem lTakeGo {E : E3} {Q : Q3} {M N : M3} {x1 : Int} (hx : 0 ≤ x1 ∧ x1 ≤ 23) (hp : (0 ≤ N 3 0 3 ∧ N 3 0 3 ≤ 250) ∧ (0 ≤ M 3 0 0 ∧ M 3 0 0 ≤ 200)) (hn : 0 ≤ M 3 0 4 ∧ M 3 0 4 < 50) (hf : ∀ q : Nat, q ∉ ([3] : List Nat) → N q = M q) (hj : ∀ j : Int, j ≠ 3 → N 3 0 j = M 3 0 j) (hA : ka3 (tb3 M) (M 3 0 3) = (-1, x1, N 3 0 3)) (k : ∀ (r : Int) (N : M3), RM3 N → (∀ q : Nat, q ∉ ([3, 5, 6, 7] : List Nat) → N q = M q) → poTake M r N → Q (some (vI r)) N) : G3 E YX4_takePart Q 5 [(0, vR 3 0), (1, vI x1)] [] N := by
  have et : tb3 N = tb3 M := tb3_fr hf (hj 0 (by decide))
  refine lTake5 (by omega) (by omega) ⟨hp.1, by rw [hj 0 (by decide)]; exact hp.2⟩ (by rw [hj 4 (by decide)]; exact hn) (fun r N' a b c => k r N' a (fr_tr (fr_sub hf (by decide)) b) ?_)
  have c2 := c.base hf hj
  rw [et] at c2
  unfold poTake pa3
  rw [hA]
  by_cases q1 : (sa3 (tb3 M) x1 (N 3 0 3)).1 ≠ -1
  · rw [if_pos q1] at c2
    rw [if_neg (fun z => z rfl), if_pos q1]
    exact c2.out q1
  · rw [if_neg q1] at c2
    rw [if_neg (fun z => z rfl), if_neg q1]
    by_cases q2 : (fa3 (tb3 M) (sa3 (tb3 M) x1 (N 3 0 3)).2.2).1 ≠ -1
    · rw [if_pos q2]
      exact c2.out q2
    · rw [if_neg q2]
      rw [show (fa3 (tb3 M) (sa3 (tb3 M) x1 (N 3 0 3)).2.2).1 = -1 from Classical.byContradiction q2] at c2
      exact c2
theorem lTakeNo {E : E3} {Q : Q3} {M N : M3} (hM : RM3 N) (hf : ∀ q : Nat, q ∉ ([3] : List Nat) → N q = M q) (hj : ∀ j : Int, j ≠ 3 → j ≠ 1 → N 3 0 j = M 3 0 j) (hA : (ka3 (tb3 M) (M 3 0 3)).1 = N 3 0 1) (hne : N 3 0 1 ≠ -1) (k : ∀ (r : Int) (N : M3), RM3 N → (∀ q : Nat, q ∉ ([3, 5, 6, 7] : List Nat) → N q = M q) → poTake M r N → Q (some (vI r)) N) {x : Int} (hx : x = -1) : G3 E YX4_takePart Q 5 [(0, vR 3 0), (1, vI x)] [] N := by
  refine lTake5n hx (k 0 N hM (fr_sub hf (by decide)) ?_)
  have e : pa3 (tb3 M) (M 3 0 3) = ((ka3 (tb3 M) (M 3 0 3)).1, (0, 0, 0), 0) := if_pos (by rw [hA]; exact hne)
  unfold poTake
  rw [e]
  exact ⟨fun j a b c => hj j a b, fun _ => ⟨rfl, hA.symm, hj 4 (by decide) (by decide), hf 5 (by decide), hf 6 (by decide), hf 7 (by decide)⟩, fun q => absurd q (by rw [hA]; exact hne)⟩
theorem ka3_n {b : Int → Int} {p : Int} (h : b p = 110) : ka3 b p = (-1, 20, p + 1) := by unfold ka3; rw [if_neg (by omega), if_pos h]
theorem ka3_k {b : Int → Int} {p : Int} (h : b p = 107) : ka3 b p = (-1, 21, p + 1) := by unfold ka3; rw [if_neg (by omega), if_neg (by omega), if_pos h]
theorem ka3_s {b : Int → Int} {p : Int} (h : b p = 115) : ka3 b p = (-1, 22, p + 1) := by unfold ka3; rw [if_neg (by omega), if_neg (by omega), if_neg (by omega), if_pos h]
theorem ka3_w {b : Int → Int} {p : Int} (h : b p = 119) : ka3 b p = (-1, 23, p + 1) := by unfold ka3; rw [if_neg (by omega), if_neg (by omega), if_neg (by omega), if_neg (by omega), if_pos h]
theorem ka3_x {b : Int → Int} {p : Int} (h : b p ≠ 113 ∧ b p ≠ 110 ∧ b p ≠ 107 ∧ b p ≠ 115 ∧ b p ≠ 119) : ka3 b p = (p, 0, 0) := by unfold ka3; rw [if_neg (by omega), if_neg (by omega), if_neg (by omega), if_neg (by omega), if_neg (by omega)]
theorem kX4_takePart {E : E3} {Q : Q3} {M : M3} (h : preTake M) (k : ∀ (r : Int) (N : M3), RM3 N → (∀ q : Nat, q ∉ ([3, 5, 6, 7] : List Nat) → N q = M q) → poTake M r N → Q (some (vI r)) N) : C3 E YX4_takePart [vR 3 0] M Q := by
  refine c3_rm fun hM => ?_
  obtain ⟨hp, hl, hn0, hn⟩ := h
  have hc := tb3_c M hp.1
  have kind : ∀ x : Int, 0 ≤ x ∧ x ≤ 23 → M 3 0 3 < M 3 0 0 → ka3 (tb3 M) (M 3 0 3) = (-1, x, M 3 0 3 + 1) → G3 E YX4_takePart Q 5 [(0, vR 3 0), (1, vI x)] [] (up3 M 3 0 3 (M 3 0 3 + 1)) := fun x hx hlt hA =>
    lTakeGo hx ⟨by rw [up3_eq]; omega, hl⟩ (by omega) (fr_up fr_rf (by decide)) (fun j hj => up3_nj hj) (by rw [hA, up3_eq]) k
  have no : (tb3 M (M 3 0 3) ≠ 113 ∧ tb3 M (M 3 0 3) ≠ 110 ∧ tb3 M (M 3 0 3) ≠ 107 ∧ tb3 M (M 3 0 3) ≠ 115 ∧ tb3 M (M 3 0 3) ≠ 119) → G3 E YX4_takePart Q 5 [(0, vR 3 0), (1, vI (-1))] [] (up3 (up3 M 3 0 3 (M 3 0 3 + 1)) 3 0 1 (M 3 0 3 + 1 - 1)) := fun q =>
    lTakeNo ((hM.up (by omega)).up (by omega)) (fr_up (fr_up fr_rf (by decide)) (by decide)) (fun j a b => (up3_nj b).trans (up3_nj a)) (by rw [ka3_x q, up3_eq]; show M 3 0 3 = M 3 0 3 + 1 - 1; omega) (by rw [up3_eq]; omega) k rfl
  refine sX4_takePart ?_
  refine ⟨fun c1 => ?_, fun c1 => ?_⟩
  · refine ⟨?_, ?_, ?_⟩
    · first | omega | exact ⟨by omega, by omega, ⟨by rw [up3_eq]; omega, by rw [up3_eq]; omega⟩, by rw [up3_nj (by decide)]; omega⟩
    · first | omega | exact ⟨by omega, by omega, ⟨by rw [up3_eq]; omega, by rw [up3_eq]; omega⟩, by rw [up3_nj (by decide)]; omega⟩
    first
      | exact no (by omega)
      | exact kind 21 (by omega) (by omega) (ka3_k (by omega))
      | exact kind 20 (by omega) (by omega) (ka3_n (by omega))
      | exact kind 22 (by omega) (by omega) (ka3_s (by omega))
      | exact kind 23 (by omega) (by omega) (ka3_w (by omega))
      | (have hfr' : ∀ q : Nat, q ∉ ([3] : List Nat) → N1 q = M q := fun q hq => (hf1 q hq).trans (up3_r (fun z => hq (by rw [z]; decide)))
         obtain ⟨p1, p2, p3, p4, p5⟩ := hp1
         rw [tb3_up, up3_eq, show (2 : Int).toNat = 2 from rfl] at p1 p3 p4
         have hj : ∀ j : Int, j ≠ 3 → j ≠ 1 → N1 3 0 j = M 3 0 j := fun j a b => (p2 j a b).trans (up3_nj a)
         have ha := nu3_at (b := tb3 M) 2 (M 3 0 3 + 1) 0
         have hA : ka3 (tb3 M) (M 3 0 3) = (if ba3 (nu3 (tb3 M) 2 (M 3 0 3 + 1) 0) (M 3 0 3 + 1) 0 19 then (M 3 0 3 + 1, 0, 0) else (-1, (nu3 (tb3 M) 2 (M 3 0 3 + 1) 0).1, (nu3 (tb3 M) 2 (M 3 0 3 + 1) 0).2)) := if_pos (by omega)
         by_cases hb : ba3 (nu3 (tb3 M) 2 (M 3 0 3 + 1) 0) (M 3 0 3 + 1) 0 19
         · rw [if_pos hb] at hA
           obtain ⟨e1, e2⟩ := p3 hb
           exact lTakeNo hN1 hfr' hj (by rw [hA]; exact e2.symm) (by rw [e2]; omega) k e1
         · rw [if_neg hb] at hA
           obtain ⟨e1, e2⟩ := p4 hb
           rw [up3_nj (by decide)] at e2
           have hbb : ¬ ((nu3 (tb3 M) 2 (M 3 0 3 + 1) 0).1 < 0 ∨ 19 < (nu3 (tb3 M) 2 (M 3 0 3 + 1) 0).1) := fun q => hb (Or.inr q)
           have ha' : (nu3 (tb3 M) 2 (M 3 0 3 + 1) 0).2 ≤ M 3 0 3 + 1 + 2 := ha.2
           refine lTakeGo (by omega) ⟨?_, hl⟩ (by omega) hfr' (fun j hj3 => if h1 : j = 1 then by rw [h1]; exact e2 else hj j hj3 h1) (by rw [hA, e1]; exact congrArg (fun z => (-1, (nu3 (tb3 M) 2 (M 3 0 3 + 1) 0).1, z)) p1.symm) k
           rw [show N1 3 0 3 = (nu3 (tb3 M) 2 (M 3 0 3 + 1) 0).2 from p1]
           omega)
  · refine ⟨?_, ?_, ?_⟩
    · first | omega | exact ⟨by omega, by omega, ⟨by rw [up3_eq]; omega, by rw [up3_eq]; omega⟩, by rw [up3_nj (by decide)]; omega⟩
    · first | omega | exact ⟨by omega, by omega, ⟨by rw [up3_eq]; omega, by rw [up3_eq]; omega⟩, by rw [up3_nj (by decide)]; omega⟩
    refine ⟨fun c2 => ?_, fun c2 => ?_⟩
    · first
        | exact no (by omega)
        | exact kind 21 (by omega) (by omega) (ka3_k (by omega))
        | exact kind 20 (by omega) (by omega) (ka3_n (by omega))
        | exact kind 22 (by omega) (by omega) (ka3_s (by omega))
        | exact kind 23 (by omega) (by omega) (ka3_w (by omega))
        | (have hfr' : ∀ q : Nat, q ∉ ([3] : List Nat) → N1 q = M q := fun q hq => (hf1 q hq).trans (up3_r (fun z => hq (by rw [z]; decide)))
           obtain ⟨p1, p2, p3, p4, p5⟩ := hp1
           rw [tb3_up, up3_eq, show (2 : Int).toNat = 2 from rfl] at p1 p3 p4
           have hj : ∀ j : Int, j ≠ 3 → j ≠ 1 → N1 3 0 j = M 3 0 j := fun j a b => (p2 j a b).trans (up3_nj a)
           have ha := nu3_at (b := tb3 M) 2 (M 3 0 3 + 1) 0
           have hA : ka3 (tb3 M) (M 3 0 3) = (if ba3 (nu3 (tb3 M) 2 (M 3 0 3 + 1) 0) (M 3 0 3 + 1) 0 19 then (M 3 0 3 + 1, 0, 0) else (-1, (nu3 (tb3 M) 2 (M 3 0 3 + 1) 0).1, (nu3 (tb3 M) 2 (M 3 0 3 + 1) 0).2)) := if_pos (by omega)
           by_cases hb : ba3 (nu3 (tb3 M) 2 (M 3 0 3 + 1) 0) (M 3 0 3 + 1) 0 19
           · rw [if_pos hb] at hA
             obtain ⟨e1, e2⟩ := p3 hb
             exact lTakeNo hN1 hfr' hj (by rw [hA]; exact e2.symm) (by rw [e2]; omega) k e1
           · rw [if_neg hb] at hA
             obtain ⟨e1, e2⟩ := p4 hb
             rw [up3_nj (by decide)] at e2
             have hbb : ¬ ((nu3 (tb3 M) 2 (M 3 0 3 + 1) 0).1 < 0 ∨ 19 < (nu3 (tb3 M) 2 (M 3 0 3 + 1) 0).1) := fun q => hb (Or.inr q)
             have ha' : (nu3 (tb3 M) 2 (M 3 0 3 + 1) 0).2 ≤ M 3 0 3 + 1 + 2 := ha.2
             refine lTakeGo (by omega) ⟨?_, hl⟩ (by omega) hfr' (fun j hj3 => if h1 : j = 1 then by rw [h1]; exact e2 else hj j hj3 h1) (by rw [hA, e1]; exact congrArg (fun z => (-1, (nu3 (tb3 M) 2 (M 3 0 3 + 1) 0).1, z)) p1.symm) k
             rw [show N1 3 0 3 = (nu3 (tb3 M) 2 (M 3 0 3 + 1) 0).2 from p1]
             omega)
    · refine ⟨fun c3 => ?_, fun c3 => ?_⟩
      · first
          | exact no (by omega)
          | exact kind 21 (by omega) (by omega) (ka3_k (by omega))
          | exact kind 20 (by omega) (by omega) (ka3_n (by omega))
          | exact kind 22 (by omega) (by omega) (ka3_s (by omega))
          | exact kind 23 (by omega) (by omega) (ka3_w (by omega))
          | (have hfr' : ∀ q : Nat, q ∉ ([3] : List Nat) → N1 q = M q := fun q hq => (hf1 q hq).trans (up3_r (fun z => hq (by rw [z]; decide)))
             obtain ⟨p1, p2, p3, p4, p5⟩ := hp1
             rw [tb3_up, up3_eq, show (2 : Int).toNat = 2 from rfl] at p1 p3 p4
             have hj : ∀ j : Int, j ≠ 3 → j ≠ 1 → N1 3 0 j = M 3 0 j := fun j a b => (p2 j a b).trans (up3_nj a)
             have ha := nu3_at (b := tb3 M) 2 (M 3 0 3 + 1) 0
             have hA : ka3 (tb3 M) (M 3 0 3) = (if ba3 (nu3 (tb3 M) 2 (M 3 0 3 + 1) 0) (M 3 0 3 + 1) 0 19 then (M 3 0 3 + 1, 0, 0) else (-1, (nu3 (tb3 M) 2 (M 3 0 3 + 1) 0).1, (nu3 (tb3 M) 2 (M 3 0 3 + 1) 0).2)) := if_pos (by omega)
             by_cases hb : ba3 (nu3 (tb3 M) 2 (M 3 0 3 + 1) 0) (M 3 0 3 + 1) 0 19
             · rw [if_pos hb] at hA
               obtain ⟨e1, e2⟩ := p3 hb
               exact lTakeNo hN1 hfr' hj (by rw [hA]; exact e2.symm) (by rw [e2]; omega) k e1
             · rw [if_neg hb] at hA
               obtain ⟨e1, e2⟩ := p4 hb
               rw [up3_nj (by decide)] at e2
               have hbb : ¬ ((nu3 (tb3 M) 2 (M 3 0 3 + 1) 0).1 < 0 ∨ 19 < (nu3 (tb3 M) 2 (M 3 0 3 + 1) 0).1) := fun q => hb (Or.inr q)
               have ha' : (nu3 (tb3 M) 2 (M 3 0 3 + 1) 0).2 ≤ M 3 0 3 + 1 + 2 := ha.2
               refine lTakeGo (by omega) ⟨?_, hl⟩ (by omega) hfr' (fun j hj3 => if h1 : j = 1 then by rw [h1]; exact e2 else hj j hj3 h1) (by rw [hA, e1]; exact congrArg (fun z => (-1, (nu3 (tb3 M) 2 (M 3 0 3 + 1) 0).1, z)) p1.symm) k
               rw [show N1 3 0 3 = (nu3 (tb3 M) 2 (M 3 0 3 + 1) 0).2 from p1]
               omega)
      · refine ⟨fun c4 => ?_, fun c4 => ?_⟩
        · refine ⟨?_, ?_⟩
          · first | omega | exact ⟨by omega, by omega, ⟨by rw [up3_eq]; omega, by rw [up3_eq]; omega⟩, by rw [up3_nj (by decide)]; omega⟩
          intro r1 N1 hN1 hf1 hp1
          first
            | exact no (by omega)
            | exact kind 21 (by omega) (by omega) (ka3_k (by omega))
            | exact kind 20 (by omega) (by omega) (ka3_n (by omega))
            | exact kind 22 (by omega) (by omega) (ka3_s (by omega))
            | exact kind 23 (by omega) (by omega) (ka3_w (by omega))
            | (have hfr' : ∀ q : Nat, q ∉ ([3] : List Nat) → N1 q = M q := fun q hq => (hf1 q hq).trans (up3_r (fun z => hq (by rw [z]; decide)))
               obtain ⟨p1, p2, p3, p4, p5⟩ := hp1
               rw [tb3_up, up3_eq, show (2 : Int).toNat = 2 from rfl] at p1 p3 p4
               have hj : ∀ j : Int, j ≠ 3 → j ≠ 1 → N1 3 0 j = M 3 0 j := fun j a b => (p2 j a b).trans (up3_nj a)
               have ha := nu3_at (b := tb3 M) 2 (M 3 0 3 + 1) 0
               have hA : ka3 (tb3 M) (M 3 0 3) = (if ba3 (nu3 (tb3 M) 2 (M 3 0 3 + 1) 0) (M 3 0 3 + 1) 0 19 then (M 3 0 3 + 1, 0, 0) else (-1, (nu3 (tb3 M) 2 (M 3 0 3 + 1) 0).1, (nu3 (tb3 M) 2 (M 3 0 3 + 1) 0).2)) := if_pos (by omega)
               by_cases hb : ba3 (nu3 (tb3 M) 2 (M 3 0 3 + 1) 0) (M 3 0 3 + 1) 0 19
               · rw [if_pos hb] at hA
                 obtain ⟨e1, e2⟩ := p3 hb
                 exact lTakeNo hN1 hfr' hj (by rw [hA]; exact e2.symm) (by rw [e2]; omega) k e1
               · rw [if_neg hb] at hA
                 obtain ⟨e1, e2⟩ := p4 hb
                 rw [up3_nj (by decide)] at e2
                 have hbb : ¬ ((nu3 (tb3 M) 2 (M 3 0 3 + 1) 0).1 < 0 ∨ 19 < (nu3 (tb3 M) 2 (M 3 0 3 + 1) 0).1) := fun q => hb (Or.inr q)
                 have ha' : (nu3 (tb3 M) 2 (M 3 0 3 + 1) 0).2 ≤ M 3 0 3 + 1 + 2 := ha.2
                 refine lTakeGo (by omega) ⟨?_, hl⟩ (by omega) hfr' (fun j hj3 => if h1 : j = 1 then by rw [h1]; exact e2 else hj j hj3 h1) (by rw [hA, e1]; exact congrArg (fun z => (-1, (nu3 (tb3 M) 2 (M 3 0 3 + 1) 0).1, z)) p1.symm) k
                 rw [show N1 3 0 3 = (nu3 (tb3 M) 2 (M 3 0 3 + 1) 0).2 from p1]
                 omega)
        · refine ⟨fun c5 => ?_, fun c5 => ?_⟩
          · first
              | exact no (by omega)
              | exact kind 21 (by omega) (by omega) (ka3_k (by omega))
              | exact kind 20 (by omega) (by omega) (ka3_n (by omega))
              | exact kind 22 (by omega) (by omega) (ka3_s (by omega))
              | exact kind 23 (by omega) (by omega) (ka3_w (by omega))
              | (have hfr' : ∀ q : Nat, q ∉ ([3] : List Nat) → N1 q = M q := fun q hq => (hf1 q hq).trans (up3_r (fun z => hq (by rw [z]; decide)))
                 obtain ⟨p1, p2, p3, p4, p5⟩ := hp1
                 rw [tb3_up, up3_eq, show (2 : Int).toNat = 2 from rfl] at p1 p3 p4
                 have hj : ∀ j : Int, j ≠ 3 → j ≠ 1 → N1 3 0 j = M 3 0 j := fun j a b => (p2 j a b).trans (up3_nj a)
                 have ha := nu3_at (b := tb3 M) 2 (M 3 0 3 + 1) 0
                 have hA : ka3 (tb3 M) (M 3 0 3) = (if ba3 (nu3 (tb3 M) 2 (M 3 0 3 + 1) 0) (M 3 0 3 + 1) 0 19 then (M 3 0 3 + 1, 0, 0) else (-1, (nu3 (tb3 M) 2 (M 3 0 3 + 1) 0).1, (nu3 (tb3 M) 2 (M 3 0 3 + 1) 0).2)) := if_pos (by omega)
                 by_cases hb : ba3 (nu3 (tb3 M) 2 (M 3 0 3 + 1) 0) (M 3 0 3 + 1) 0 19
                 · rw [if_pos hb] at hA
                   obtain ⟨e1, e2⟩ := p3 hb
                   exact lTakeNo hN1 hfr' hj (by rw [hA]; exact e2.symm) (by rw [e2]; omega) k e1
                 · rw [if_neg hb] at hA
                   obtain ⟨e1, e2⟩ := p4 hb
                   rw [up3_nj (by decide)] at e2
                   have hbb : ¬ ((nu3 (tb3 M) 2 (M 3 0 3 + 1) 0).1 < 0 ∨ 19 < (nu3 (tb3 M) 2 (M 3 0 3 + 1) 0).1) := fun q => hb (Or.inr q)
                   have ha' : (nu3 (tb3 M) 2 (M 3 0 3 + 1) 0).2 ≤ M 3 0 3 + 1 + 2 := ha.2
                   refine lTakeGo (by omega) ⟨?_, hl⟩ (by omega) hfr' (fun j hj3 => if h1 : j = 1 then by rw [h1]; exact e2 else hj j hj3 h1) (by rw [hA, e1]; exact congrArg (fun z => (-1, (nu3 (tb3 M) 2 (M 3 0 3 + 1) 0).1, z)) p1.symm) k
                   rw [show N1 3 0 3 = (nu3 (tb3 M) 2 (M 3 0 3 + 1) 0).2 from p1]
                   omega)
          · refine ⟨fun c6 => ?_, fun c6 => ?_⟩
            · first
                | exact no (by omega)
                | exact kind 21 (by omega) (by omega) (ka3_k (by omega))
                | exact kind 20 (by omega) (by omega) (ka3_n (by omega))
                | exact kind 22 (by omega) (by omega) (ka3_s (by omega))
                | exact kind 23 (by omega) (by omega) (ka3_w (by omega))
                | (have hfr' : ∀ q : Nat, q ∉ ([3] : List Nat) → N1 q = M q := fun q hq => (hf1 q hq).trans (up3_r (fun z => hq (by rw [z]; decide)))
                   obtain ⟨p1, p2, p3, p4, p5⟩ := hp1
                   rw [tb3_up, up3_eq, show (2 : Int).toNat = 2 from rfl] at p1 p3 p4
                   have hj : ∀ j : Int, j ≠ 3 → j ≠ 1 → N1 3 0 j = M 3 0 j := fun j a b => (p2 j a b).trans (up3_nj a)
                   have ha := nu3_at (b := tb3 M) 2 (M 3 0 3 + 1) 0
                   have hA : ka3 (tb3 M) (M 3 0 3) = (if ba3 (nu3 (tb3 M) 2 (M 3 0 3 + 1) 0) (M 3 0 3 + 1) 0 19 then (M 3 0 3 + 1, 0, 0) else (-1, (nu3 (tb3 M) 2 (M 3 0 3 + 1) 0).1, (nu3 (tb3 M) 2 (M 3 0 3 + 1) 0).2)) := if_pos (by omega)
                   by_cases hb : ba3 (nu3 (tb3 M) 2 (M 3 0 3 + 1) 0) (M 3 0 3 + 1) 0 19
                   · rw [if_pos hb] at hA
                     obtain ⟨e1, e2⟩ := p3 hb
                     exact lTakeNo hN1 hfr' hj (by rw [hA]; exact e2.symm) (by rw [e2]; omega) k e1
                   · rw [if_neg hb] at hA
                     obtain ⟨e1, e2⟩ := p4 hb
                     rw [up3_nj (by decide)] at e2
                     have hbb : ¬ ((nu3 (tb3 M) 2 (M 3 0 3 + 1) 0).1 < 0 ∨ 19 < (nu3 (tb3 M) 2 (M 3 0 3 + 1) 0).1) := fun q => hb (Or.inr q)
                     have ha' : (nu3 (tb3 M) 2 (M 3 0 3 + 1) 0).2 ≤ M 3 0 3 + 1 + 2 := ha.2
                     refine lTakeGo (by omega) ⟨?_, hl⟩ (by omega) hfr' (fun j hj3 => if h1 : j = 1 then by rw [h1]; exact e2 else hj j hj3 h1) (by rw [hA, e1]; exact congrArg (fun z => (-1, (nu3 (tb3 M) 2 (M 3 0 3 + 1) 0).1, z)) p1.symm) k
                     rw [show N1 3 0 3 = (nu3 (tb3 M) 2 (M 3 0 3 + 1) 0).2 from p1]
                     omega)
            · refine ⟨?_, ?_⟩
              · first | omega | exact ⟨by omega, by omega, ⟨by rw [up3_eq]; omega, by rw [up3_eq]; omega⟩, by rw [up3_nj (by decide)]; omega⟩
              first
                | exact no (by omega)
                | exact kind 21 (by omega) (by omega) (ka3_k (by omega))
                | exact kind 20 (by omega) (by omega) (ka3_n (by omega))
                | exact kind 22 (by omega) (by omega) (ka3_s (by omega))
                | exact kind 23 (by omega) (by omega) (ka3_w (by omega))
                | (have hfr' : ∀ q : Nat, q ∉ ([3] : List Nat) → N1 q = M q := fun q hq => (hf1 q hq).trans (up3_r (fun z => hq (by rw [z]; decide)))
                   obtain ⟨p1, p2, p3, p4, p5⟩ := hp1
                   rw [tb3_up, up3_eq, show (2 : Int).toNat = 2 from rfl] at p1 p3 p4
                   have hj : ∀ j : Int, j ≠ 3 → j ≠ 1 → N1 3 0 j = M 3 0 j := fun j a b => (p2 j a b).trans (up3_nj a)
                   have ha := nu3_at (b := tb3 M) 2 (M 3 0 3 + 1) 0
                   have hA : ka3 (tb3 M) (M 3 0 3) = (if ba3 (nu3 (tb3 M) 2 (M 3 0 3 + 1) 0) (M 3 0 3 + 1) 0 19 then (M 3 0 3 + 1, 0, 0) else (-1, (nu3 (tb3 M) 2 (M 3 0 3 + 1) 0).1, (nu3 (tb3 M) 2 (M 3 0 3 + 1) 0).2)) := if_pos (by omega)
                   by_cases hb : ba3 (nu3 (tb3 M) 2 (M 3 0 3 + 1) 0) (M 3 0 3 + 1) 0 19
                   · rw [if_pos hb] at hA
                     obtain ⟨e1, e2⟩ := p3 hb
                     exact lTakeNo hN1 hfr' hj (by rw [hA]; exact e2.symm) (by rw [e2]; omega) k e1
                   · rw [if_neg hb] at hA
                     obtain ⟨e1, e2⟩ := p4 hb
                     rw [up3_nj (by decide)] at e2
                     have hbb : ¬ ((nu3 (tb3 M) 2 (M 3 0 3 + 1) 0).1 < 0 ∨ 19 < (nu3 (tb3 M) 2 (M 3 0 3 + 1) 0).1) := fun q => hb (Or.inr q)
                     have ha' : (nu3 (tb3 M) 2 (M 3 0 3 + 1) 0).2 ≤ M 3 0 3 + 1 + 2 := ha.2
                     refine lTakeGo (by omega) ⟨?_, hl⟩ (by omega) hfr' (fun j hj3 => if h1 : j = 1 then by rw [h1]; exact e2 else hj j hj3 h1) (by rw [hA, e1]; exact congrArg (fun z => (-1, (nu3 (tb3 M) 2 (M 3 0 3 + 1) 0).1, z)) p1.symm) k
                     rw [show N1 3 0 3 = (nu3 (tb3 M) 2 (M 3 0 3 + 1) 0).2 from p1]
                     omega)
