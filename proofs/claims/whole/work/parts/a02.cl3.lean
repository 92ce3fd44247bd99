/-! CLASS: the helpers, shared out -/
theorem mg5 {R : Int → Int → Int} (g : Int) : mfN R 0 g = R 5 g := rfl
theorem mg_s {R : Int → Int → Int} (j : Nat) (e y g : Int) (hj : (4 : Int) - (j : Int) = e) (hy : 0 ≤ y ∧ y ≤ g) : R e y + mfN R j (g - y) ≤ mfN R (j + 1) g := by
  have h := mfN_ge (R := R) (k := j) hy
  rw [hj] at h
  exact h
theorem gr_hp {R : Int → Int → Int} {h used b : Int} (hR : okR3 R) (hh : 0 ≤ h ∧ h ≤ 12) (hu : 0 ≤ used ∧ used ≤ h) (h1 : ∀ g : Int, 0 ≤ g → g ≤ h → mfN R 5 g ≤ mfN R 5 used) (h2 : ∀ g : Int, 0 ≤ g → g < used → mfN R 5 g < mfN R 5 used) : hpS R h b (if b = -1 then mfN R 5 used else grV R used b) := by
  have c0 := hrF_c hR (e := 0) (l := used) (by omega) (by omega)
  have l1 : lfN R used 1 = used - hrF R 0 used := rfl
  have c1 := hrF_c hR (e := 1) (l := lfN R used 1) (by omega) (by omega)
  have l2 : lfN R used 2 = lfN R used 1 - hrF R 1 (lfN R used 1) := rfl
  have c2 := hrF_c hR (e := 2) (l := lfN R used 2) (by omega) (by omega)
  have l3 : lfN R used 3 = lfN R used 2 - hrF R 2 (lfN R used 2) := rfl
  have c3 := hrF_c hR (e := 3) (l := lfN R used 3) (by omega) (by omega)
  have l4 : lfN R used 4 = lfN R used 3 - hrF R 3 (lfN R used 3) := rfl
  have c4 := hrF_c hR (e := 4) (l := lfN R used 4) (by omega) (by omega)
  have l5 : lfN R used 5 = lfN R used 4 - hrF R 4 (lfN R used 4) := rfl
  have g0 : grV R used 0 = hrF R 0 used := rfl
  have g1 : grV R used 1 = hrF R 1 (lfN R used 1) := rfl
  have g2 : grV R used 2 = hrF R 2 (lfN R used 2) := rfl
  have g3 : grV R used 3 = hrF R 3 (lfN R used 3) := rfl
  have g4 : grV R used 4 = hrF R 4 (lfN R used 4) := rfl
  have g5 : grV R used 5 = lfN R used 5 := rfl
  rw [← l1] at c0
  rw [← l2] at c1
  rw [← l3] at c2
  rw [← l4] at c3
  rw [← l5] at c4
  have t0 : R 0 (grV R used 0) + mfN R 4 (lfN R used 1) = mfN R 5 used := by rw [g0]; exact c0.2.1
  have t1 : R 1 (grV R used 1) + mfN R 3 (lfN R used 2) = mfN R 4 (lfN R used 1) := by rw [g1]; exact c1.2.1
  have t2 : R 2 (grV R used 2) + mfN R 2 (lfN R used 3) = mfN R 3 (lfN R used 2) := by rw [g2]; exact c2.2.1
  have t3 : R 3 (grV R used 3) + mfN R 1 (lfN R used 4) = mfN R 2 (lfN R used 3) := by rw [g3]; exact c3.2.1
  have t4 : R 4 (grV R used 4) + mfN R 0 (lfN R used 5) = mfN R 1 (lfN R used 4) := by rw [g4]; exact c4.2.1
  have t5 : mfN R 0 (lfN R used 5) = R 5 (grV R used 5) := by rw [g5]; rfl
  have vb : vl3 R (grV R used) = mfN R 5 used := by unfold vl3; omega
  have tb : tot3 (grV R used) = used := by unfold tot3; omega
  refine ⟨grV R used, mfN R 5 used, used, ⟨⟨by omega, by rw [tb]; omega⟩, vb.symm, tb.symm, fun k hk _ => ?_⟩, rfl⟩
  obtain ⟨⟨k0, k1, k2, k3, k4, k5⟩, kt⟩ := hk
  unfold tot3 at kt
  have a4 : R 4 (k 4) + mfN R 0 (k 4 + k 5 - k 4) ≤ mfN R 1 (k 4 + k 5) := mg_s (R := R) 0 4 (k 4) (k 4 + k 5) (by decide) (by omega)
  have a3 : R 3 (k 3) + mfN R 1 (k 3 + k 4 + k 5 - k 3) ≤ mfN R 2 (k 3 + k 4 + k 5) := mg_s (R := R) 1 3 (k 3) (k 3 + k 4 + k 5) (by decide) (by omega)
  have a2 : R 2 (k 2) + mfN R 2 (k 2 + k 3 + k 4 + k 5 - k 2) ≤ mfN R 3 (k 2 + k 3 + k 4 + k 5) := mg_s (R := R) 2 2 (k 2) (k 2 + k 3 + k 4 + k 5) (by decide) (by omega)
  have a1 : R 1 (k 1) + mfN R 3 (k 1 + k 2 + k 3 + k 4 + k 5 - k 1) ≤ mfN R 4 (k 1 + k 2 + k 3 + k 4 + k 5) := mg_s (R := R) 3 1 (k 1) (k 1 + k 2 + k 3 + k 4 + k 5) (by decide) (by omega)
  have a0 : R 0 (k 0) + mfN R 4 (k 0 + k 1 + k 2 + k 3 + k 4 + k 5 - k 0) ≤ mfN R 5 (k 0 + k 1 + k 2 + k 3 + k 4 + k 5) := mg_s (R := R) 4 0 (k 0) (k 0 + k 1 + k 2 + k 3 + k 4 + k 5) (by decide) (by omega)
  rw [show k 4 + k 5 - k 4 = k 5 by omega] at a4
  rw [show k 3 + k 4 + k 5 - k 3 = k 4 + k 5 by omega] at a3
  rw [show k 2 + k 3 + k 4 + k 5 - k 2 = k 3 + k 4 + k 5 by omega] at a2
  rw [show k 1 + k 2 + k 3 + k 4 + k 5 - k 1 = k 2 + k 3 + k 4 + k 5 by omega] at a1
  rw [show k 0 + k 1 + k 2 + k 3 + k 4 + k 5 - k 0 = k 1 + k 2 + k 3 + k 4 + k 5 by omega] at a0
  have a5 : mfN R 0 (k 5) = R 5 (k 5) := rfl
  have top := h1 (k 0 + k 1 + k 2 + k 3 + k 4 + k 5) (by omega) (by omega)
  have et : tot3 k = k 0 + k 1 + k 2 + k 3 + k 4 + k 5 := rfl
  have ev : vl3 R k = R 0 (k 0) + R 1 (k 1) + R 2 (k 2) + R 3 (k 3) + R 4 (k 4) + R 5 (k 5) := rfl
  unfold wrs3
  rw [et, ev]
  by_cases p : R 0 (k 0) + R 1 (k 1) + R 2 (k 2) + R 3 (k 3) + R 4 (k 4) + R 5 (k 5) < mfN R 5 used
  · exact Or.inl p
  · refine Or.inr ⟨by omega, ?_⟩
    by_cases q : k 0 + k 1 + k 2 + k 3 + k 4 + k 5 < used
    · have := h2 _ (by omega) q
      omega
    · by_cases q2 : used < k 0 + k 1 + k 2 + k 3 + k 4 + k 5
      · exact Or.inl q2
      · have qe : k 0 + k 1 + k 2 + k 3 + k 4 + k 5 = used := by omega
        refine Or.inr ⟨by omega, fun z => ?_⟩
        rcases z with z | ⟨z0, z | ⟨z1, z | ⟨z2, z | ⟨z3, z | ⟨z4, z⟩⟩⟩⟩⟩
        · have w := c0.2.2 (k 0) (by omega) (by omega)
          rw [show used - k 0 = k 1 + k 2 + k 3 + k 4 + k 5 by omega] at w
          have w' : R 0 (k 0) + mfN R 4 (k 1 + k 2 + k 3 + k 4 + k 5) < mfN R 5 used := w
          omega
        · have w := c1.2.2 (k 1) (by omega) (by omega)
          rw [show lfN R used 1 - k 1 = k 2 + k 3 + k 4 + k 5 by omega] at w
          have w' : R 1 (k 1) + mfN R 3 (k 2 + k 3 + k 4 + k 5) < mfN R 4 (lfN R used 1) := w
          rw [z0] at p a0
          omega
        · have w := c2.2.2 (k 2) (by omega) (by omega)
          rw [show lfN R used 2 - k 2 = k 3 + k 4 + k 5 by omega] at w
          have w' : R 2 (k 2) + mfN R 2 (k 3 + k 4 + k 5) < mfN R 3 (lfN R used 2) := w
          rw [z0, z1] at p
          omega
        · have w := c3.2.2 (k 3) (by omega) (by omega)
          rw [show lfN R used 3 - k 3 = k 4 + k 5 by omega] at w
          have w' : R 3 (k 3) + mfN R 1 (k 4 + k 5) < mfN R 2 (lfN R used 3) := w
          rw [z0, z1, z2] at p
          omega
        · have w := c4.2.2 (k 4) (by omega) (by omega)
          rw [show lfN R used 4 - k 4 = k 5 by omega] at w
          have w' : R 4 (k 4) + mfN R 0 (k 5) < mfN R 1 (lfN R used 4) := w
          rw [z0, z1, z2, z3] at p
          omega
        · omega
theorem hpS_c {R R' : Int → Int → Int} {h b a : Int} (hh : h ≤ 12) (he : ∀ b g : Int, 0 ≤ b → b < 6 → 0 ≤ g → g ≤ 12 → R b g = R' b g) (hs : hpS R h b a) : hpS R' h b a := by
  have ev : ∀ k : Int → Int, vld3 h k → vl3 R k = vl3 R' k := fun k hk => by
    unfold vl3
    rw [he 0 _ (by omega) (by omega) (vld_nn hk (z := 0) (by omega)).1 (by have := (vld_nn hk (z := 0) (by omega)).2; omega), he 1 _ (by omega) (by omega) (vld_nn hk (z := 1) (by omega)).1 (by have := (vld_nn hk (z := 1) (by omega)).2; omega), he 2 _ (by omega) (by omega) (vld_nn hk (z := 2) (by omega)).1 (by have := (vld_nn hk (z := 2) (by omega)).2; omega), he 3 _ (by omega) (by omega) (vld_nn hk (z := 3) (by omega)).1 (by have := (vld_nn hk (z := 3) (by omega)).2; omega), he 4 _ (by omega) (by omega) (vld_nn hk (z := 4) (by omega)).1 (by have := (vld_nn hk (z := 4) (by omega)).2; omega), he 5 _ (by omega) (by omega) (vld_nn hk (z := 5) (by omega)).1 (by have := (vld_nn hk (z := 5) (by omega)).2; omega)]
  obtain ⟨best, m, f, ⟨v, w, x, y⟩, e⟩ := hs
  refine ⟨best, m, f, ⟨v, by rw [w, ev best v], x, fun k hk hp => ?_⟩, e⟩
  have z := y k hk hp
  unfold wrs3 at z ⊢
  rw [← ev k hk]
  exact z
theorem lX5_share {E : E3} {Q : Q3} {M : M3} {x1 x2 : Int} (hx : (0 ≤ x1 ∧ x1 ≤ 12) ∧ -1 ≤ x2 ∧ x2 ≤ 5) (hT : okT3 M (M 28) x1) (k : ∀ a : Int, hpS (M 28) x1 x2 a → Q (some (vI a)) M) : ∀ (n : Nat) (x4 x3 : Int), 0 ≤ x4 → x4 + n = x1 + 1 → (0 ≤ x3 ∧ x3 < x4) → (∀ g : Int, 0 ≤ g → g < x4 → mfN (M 28) 5 g ≤ mfN (M 28) 5 x3) → (∀ g : Int, 0 ≤ g → g < x3 → mfN (M 28) 5 g < mfN (M 28) 5 x3) → G3 E YX5_share Q 14 [(0, vR 26 0), (1, vI x1), (2, vI x2), (3, vI x3), (4, vI x4)] [] M := by
  obtain ⟨hR, hx2, hT⟩ := hT
  have row : ∀ g : Int, 0 ≤ g → g ≤ x1 → M 30 0 g = mfN (M 28) 5 g := fun g a b => (hT g a b).2 5 (by omega)
  intro n
  induction n with
  | zero =>
    intro x4 x3 h1 h2 h3 h4 h5
    refine g3_rm fun hM => ?_
    have hs := gr_hp (b := x2) hR hx.1 (used := x3) (by omega) (fun g a b => h4 g a (by omega)) h5
    refine sX5_share_14 ?_
    refine ⟨?_, ?_, ?_⟩
    · first | omega | exact ⟨by omega, hR, by omega, fun g a b => hT g a (by omega)⟩ | (exfalso; omega)
    · first | omega | exact ⟨by omega, hR, by omega, fun g a b => hT g a (by omega)⟩ | (exfalso; omega)
    refine ⟨fun c1 => ?_, fun c1 => ?_⟩
    · refine ⟨?_, ?_⟩
      · first | omega | exact ⟨by omega, hR, by omega, fun g a b => hT g a (by omega)⟩ | (exfalso; omega)
      refine ⟨fun c2 => ?_, fun c2 => ?_⟩
      · refine ⟨?_, ?_⟩
        · first | omega | exact ⟨by omega, hR, by omega, fun g a b => hT g a (by omega)⟩ | (exfalso; omega)
        first
        | (exfalso; omega)
        | (rw [if_neg (by assumption)] at hs; exact k _ hs)
        | (rw [if_pos (by assumption), ← row x3 (by omega) (by omega)] at hs; exact k _ hs)
      · refine ⟨?_, ?_⟩
        · first | omega | exact ⟨by omega, hR, by omega, fun g a b => hT g a (by omega)⟩ | (exfalso; omega)
        first
        | (exfalso; omega)
        | (rw [if_neg (by assumption)] at hs; exact k _ hs)
        | (rw [if_pos (by assumption), ← row x3 (by omega) (by omega)] at hs; exact k _ hs)
    · refine ⟨?_, ?_, ?_⟩
      · first | omega | exact ⟨by omega, hR, by omega, fun g a b => hT g a (by omega)⟩ | (exfalso; omega)
      · first | omega | exact ⟨by omega, hR, by omega, fun g a b => hT g a (by omega)⟩ | (exfalso; omega)
      refine ⟨fun c2 => ?_, fun c2 => ?_⟩
      · exfalso; omega
      · exfalso; omega
  | succ n ih =>
    intro x4 x3 h1 h2 h3 h4 h5
    refine g3_rm fun hM => ?_
    have r3 := row x3 (by omega) (by omega)
    have r4 := row x4 (by omega) (by omega)
    have b3 := mfN_rg hR 5 x3 (by omega) (by omega) (by omega)
    have b4 := mfN_rg hR 5 x4 (by omega) (by omega) (by omega)
    refine sX5_share_14 ?_
    rw [r3, r4]
    refine ⟨?_, ?_, ?_⟩
    · first | omega | (exfalso; omega)
    · first | omega | (exfalso; omega)
    refine ⟨fun c1 => ?_, fun c1 => ?_⟩
    · refine ⟨?_, ?_⟩
      · first | omega | (exfalso; omega)
      refine ⟨fun c2 => ?_, fun c2 => ?_⟩
      · refine ⟨?_, ?_⟩
        · first | omega | (exfalso; omega)
        exfalso; omega
      · refine ⟨?_, ?_⟩
        · first | omega | (exfalso; omega)
        exfalso; omega
    · refine ⟨?_, ?_, ?_⟩
      · first | omega | (exfalso; omega)
      · first | omega | (exfalso; omega)
      refine ⟨fun c2 => ?_, fun c2 => ?_⟩
      · first
        | (exfalso; omega)
        | exact ih _ _ (by omega) (by omega) (by omega) (fun g a b => by
            by_cases e : g = x4
            · rw [e]; omega
            · have := h4 g a (by omega)
              omega) (fun g a b => by
            first
              | exact h5 g a b
              | (have := h4 g a b
                 omega))
      · first
        | (exfalso; omega)
        | exact ih _ _ (by omega) (by omega) (by omega) (fun g a b => by
            by_cases e : g = x4
            · rw [e]; omega
            · have := h4 g a (by omega)
              omega) (fun g a b => by
            first
              | exact h5 g a b
              | (have := h4 g a b
                 omega))
theorem kX5_share {E : E3} {Q : Q3} {M : M3} {x1 x2 : Int} (h : LwC M ∧ IB M ∧ (0 ≤ x1 ∧ x1 ≤ 12) ∧ -1 ≤ x2 ∧ x2 ≤ 5) (k : ∀ (a : Int) (N : M3), RM3 N → Ex [28, 30] M N → LwC N → hpS (mRdy M) x1 x2 a → Q (some (vI a)) N) : C3 E YX5_share [vR 26 0, vI x1, vI x2] M Q := by
  refine c3_rm fun hM => ?_
  obtain ⟨hL, hB, hx⟩ := h
  have hok : ∀ N1 : M3, poFs M N1 → okR3 (N1 28) := fun N1 hp b g b0 b1 g0 g1 => by
    rw [hp.2 b g b0 b1 g0 g1]
    exact mRdy_rg hB.2.2.1.2.1 b g
  refine sX5_share ?_
  refine ⟨?_, ?_⟩
  · first | exact ⟨hL, hB⟩ | exact ⟨hx.1, hok N1 hp1⟩
  intro N1 hN1 hf1 hs1 hp1
  refine ⟨?_, ?_⟩
  · first | exact ⟨hL, hB⟩ | exact ⟨hx.1, hok N1 hp1⟩
  intro N2 hN2 hf2 hp2
  (have e28 : N2 28 = N1 28 := hf2 28 (by decide)
   have hT : okT3 N2 (N2 28) x1 := by
     rw [e28]
     refine ⟨hok N1 hp1, hx.1, fun g a b => ⟨fun _ _ _ => by rw [e28], fun b2 hb => ?_⟩⟩
     exact hp2 b2 g hb a b
   refine lX5_share hx hT (fun a ha => ?_) x1.toNat 1 0 (by omega) (by omega) (by omega) (fun g a b => by rw [show g = 0 by omega]; exact Int.le_refl _) (fun g a b => by omega)
   refine k a N2 hN2 (Ex.tr (L := [28, 30]) ⟨fun q hq => hf1 q fun z => hq ((show ∀ q ∈ ([3, 8, 9, 28] : List Nat), q ∈ ([3, 8, 9, 28, 30] : List Nat) by decide) q z), fun j hj => hs1 j fun z => hj (List.mem_singleton.mp z)⟩ (Ex.fr hf2 (by decide) (by decide))) (hp1.1.fr hf2 (by decide)) ?_
   rw [e28] at ha
   exact hpS_c hx.1.2 (fun b g b0 b1 g0 g1 => hp1.2 b g b0 b1 g0 g1) ha)
