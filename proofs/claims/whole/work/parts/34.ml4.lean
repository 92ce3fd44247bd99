theorem lRd188h {E : E3} {Q : Q3} {M K N : M3} {f fg lo hi r : Int} (hp : 0 ≤ M 44 0 13 ∧ M 44 0 13 ≤ 55) (hK : ∀ q : Nat, q ∉ ([44, 53, 54, 55] : List Nat) → K q = M q) (hKs : ∀ j : Int, j ∉ ([12, 13, 17] : List Int) → K 44 0 j = M 44 0 j) (h13 : K 44 0 13 = M 44 0 13) (h12 : K 44 0 12 = f) (hne : f ≠ -1) (hfr : ∀ q : Nat, q ∉ ([44] : List Nat) → N q = K q) (hs : ∀ j : Int, j ∉ ([12, 17] : List Int) → N 44 0 j = K 44 0 j) (hpo : poFig K fg lo hi r N) (k : KR3 M Q (fun N => N 44 0 12 = f)) : G3 E YX12_readsPart Q 188 [(0, vR 44 0)] [] (up3 N 54 0 (M 44 0 13) r) := by
  refine lRd188f (f := f) ?_ ?_ hne (k.base (fr_up (fr_tr hK (fr_sub hfr (by decide))) (by decide)) (fun j hj => (up3_nr (by decide)).trans ((hs j (fun q => hj (by simp at q ⊢; omega))).trans (hKs j hj))))
  · rw [up3_nr (by decide), hs 13 (by decide), h13]; exact hp
  · rw [up3_nr (by decide), (hpo.1 (by rw [h12]; exact hne)).2.1]; exact h12
theorem lRd106f {E : E3} {Q : Q3} {M : M3} {x2 f : Int} (hx : -2147483648 ≤ x2 ∧ x2 ≤ 2147483647) (hp : mp3 M) (hf : M 44 0 12 = f) (hne : f ≠ -1) (k : KR3 M Q (fun N => N 44 0 12 = f)) : G3 E YX12_readsPart Q 106 [(0, vR 44 0), (2, vI x2)] [] M := by
  obtain ⟨hp1', hp2, hp3⟩ := hp
  refine g3_rm fun hM => ?_
  have pf : ∀ a lo hi : Int, 0 ≤ a ∧ a ≤ 3 → (-2147483648 ≤ lo ∧ lo ≤ 2147483647) ∧ (-2147483648 ≤ hi ∧ hi ≤ 2147483647) → preFig (up3 (up3 M 44 0 17 (M 44 0 17 + 1)) 53 0 (M 44 0 13) x2) a lo hi := fun a lo hi h1 h2 => ⟨h1, h2, by rw [up3_nr (by decide), up3_eq]; omega, by rw [up3_nr (by decide), up3_nj (by decide)]; exact hp3⟩
  refine sX12_readsPart_106 ?_
  refine ⟨fun c1 => ?_, fun c1 => ?_⟩
  · refine ⟨?_, ?_, ?_, ?_⟩
    · first | omega | exact pf _ _ _ (by omega) (by omega) | exact absurd (by omega) hne | (have := hp1.2.2; omega) | exact tm3_rg hM _ | exact ⟨by omega, hp3⟩ | (exfalso; omega)
    · first | omega | exact pf _ _ _ (by omega) (by omega) | exact absurd (by omega) hne | (have := hp1.2.2; omega) | exact tm3_rg hM _ | exact ⟨by omega, hp3⟩ | (exfalso; omega)
    · first | omega | exact pf _ _ _ (by omega) (by omega) | exact absurd (by omega) hne | (have := hp1.2.2; omega) | exact tm3_rg hM _ | exact ⟨by omega, hp3⟩ | (exfalso; omega)
    refine ⟨fun c2 => ?_, fun c2 => ?_⟩
    · refine ⟨?_, ?_⟩
      · first | omega | exact pf _ _ _ (by omega) (by omega) | exact absurd (by omega) hne | (have := hp1.2.2; omega) | exact tm3_rg hM _ | exact ⟨by omega, hp3⟩ | (exfalso; omega)
      intro r1 N1 hN1 hf1 hs1 hp1
      refine ⟨?_, ?_⟩
      · first | omega | exact pf _ _ _ (by omega) (by omega) | exact absurd (by omega) hne | (have := hp1.2.2; omega) | exact tm3_rg hM _ | exact ⟨by omega, hp3⟩ | (exfalso; omega)
      first | (exfalso; omega) | exact lRd188h (f := f) hp2 (fr_up (fr_up fr_rf (by decide)) (by decide)) (fun j hj => (up3_nr (by decide)).trans (up3_nj (fun q => hj (by rw [q]; decide)))) ((up3_nr (by decide)).trans (up3_nj (by decide))) ((up3_nr (by decide)).trans ((up3_nj (by decide)).trans hf)) hne hf1 hs1 hp1 k
    · refine ⟨?_, ?_⟩
      · first | omega | exact pf _ _ _ (by omega) (by omega) | exact absurd (by omega) hne | (have := hp1.2.2; omega) | exact tm3_rg hM _ | exact ⟨by omega, hp3⟩ | (exfalso; omega)
      intro r1 N1 hN1 hf1 hs1 hp1
      refine ⟨?_, ?_⟩
      · first | omega | exact pf _ _ _ (by omega) (by omega) | exact absurd (by omega) hne | (have := hp1.2.2; omega) | exact tm3_rg hM _ | exact ⟨by omega, hp3⟩ | (exfalso; omega)
      first | (exfalso; omega) | exact lRd188h (f := f) hp2 (fr_up (fr_up fr_rf (by decide)) (by decide)) (fun j hj => (up3_nr (by decide)).trans (up3_nj (fun q => hj (by rw [q]; decide)))) ((up3_nr (by decide)).trans (up3_nj (by decide))) ((up3_nr (by decide)).trans ((up3_nj (by decide)).trans hf)) hne hf1 hs1 hp1 k
  · refine ⟨?_, ?_, ?_⟩
    · first | omega | exact pf _ _ _ (by omega) (by omega) | exact absurd (by omega) hne | (have := hp1.2.2; omega) | exact tm3_rg hM _ | exact ⟨by omega, hp3⟩ | (exfalso; omega)
    · first | omega | exact pf _ _ _ (by omega) (by omega) | exact absurd (by omega) hne | (have := hp1.2.2; omega) | exact tm3_rg hM _ | exact ⟨by omega, hp3⟩ | (exfalso; omega)
    refine ⟨fun c2 => ?_, fun c2 => ?_⟩
    · refine ⟨?_, ?_, ?_, ?_⟩
      · first | omega | exact pf _ _ _ (by omega) (by omega) | exact absurd (by omega) hne | (have := hp1.2.2; omega) | exact tm3_rg hM _ | exact ⟨by omega, hp3⟩ | (exfalso; omega)
      · first | omega | exact pf _ _ _ (by omega) (by omega) | exact absurd (by omega) hne | (have := hp1.2.2; omega) | exact tm3_rg hM _ | exact ⟨by omega, hp3⟩ | (exfalso; omega)
      · first | omega | exact pf _ _ _ (by omega) (by omega) | exact absurd (by omega) hne | (have := hp1.2.2; omega) | exact tm3_rg hM _ | exact ⟨by omega, hp3⟩ | (exfalso; omega)
      refine ⟨fun c3 => ?_, fun c3 => ?_⟩
      · refine ⟨?_, ?_⟩
        · first | omega | exact pf _ _ _ (by omega) (by omega) | exact absurd (by omega) hne | (have := hp1.2.2; omega) | exact tm3_rg hM _ | exact ⟨by omega, hp3⟩ | (exfalso; omega)
        intro r1 N1 hN1 hf1 hs1 hp1
        refine ⟨?_, ?_⟩
        · first | omega | exact pf _ _ _ (by omega) (by omega) | exact absurd (by omega) hne | (have := hp1.2.2; omega) | exact tm3_rg hM _ | exact ⟨by omega, hp3⟩ | (exfalso; omega)
        first | (exfalso; omega) | exact lRd188h (f := f) hp2 (fr_up (fr_up fr_rf (by decide)) (by decide)) (fun j hj => (up3_nr (by decide)).trans (up3_nj (fun q => hj (by rw [q]; decide)))) ((up3_nr (by decide)).trans (up3_nj (by decide))) ((up3_nr (by decide)).trans ((up3_nj (by decide)).trans hf)) hne hf1 hs1 hp1 k
      · refine ⟨?_, ?_⟩
        · first | omega | exact pf _ _ _ (by omega) (by omega) | exact absurd (by omega) hne | (have := hp1.2.2; omega) | exact tm3_rg hM _ | exact ⟨by omega, hp3⟩ | (exfalso; omega)
        intro r1 N1 hN1 hf1 hs1 hp1
        refine ⟨?_, ?_⟩
        · first | omega | exact pf _ _ _ (by omega) (by omega) | exact absurd (by omega) hne | (have := hp1.2.2; omega) | exact tm3_rg hM _ | exact ⟨by omega, hp3⟩ | (exfalso; omega)
        first | (exfalso; omega) | exact lRd188h (f := f) hp2 (fr_up (fr_up fr_rf (by decide)) (by decide)) (fun j hj => (up3_nr (by decide)).trans (up3_nj (fun q => hj (by rw [q]; decide)))) ((up3_nr (by decide)).trans (up3_nj (by decide))) ((up3_nr (by decide)).trans ((up3_nj (by decide)).trans hf)) hne hf1 hs1 hp1 k
    · refine ⟨?_, ?_, ?_, ?_⟩
      · first | omega | exact pf _ _ _ (by omega) (by omega) | exact absurd (by omega) hne | (have := hp1.2.2; omega) | exact tm3_rg hM _ | exact ⟨by omega, hp3⟩ | (exfalso; omega)
      · first | omega | exact pf _ _ _ (by omega) (by omega) | exact absurd (by omega) hne | (have := hp1.2.2; omega) | exact tm3_rg hM _ | exact ⟨by omega, hp3⟩ | (exfalso; omega)
      · first | omega | exact pf _ _ _ (by omega) (by omega) | exact absurd (by omega) hne | (have := hp1.2.2; omega) | exact tm3_rg hM _ | exact ⟨by omega, hp3⟩ | (exfalso; omega)
      refine ⟨fun c3 => ?_, fun c3 => ?_⟩
      · refine ⟨?_, ?_⟩
        · first | omega | exact pf _ _ _ (by omega) (by omega) | exact absurd (by omega) hne | (have := hp1.2.2; omega) | exact tm3_rg hM _ | exact ⟨by omega, hp3⟩ | (exfalso; omega)
        intro r1 N1 hN1 hf1 hs1 hp1
        refine ⟨?_, ?_⟩
        · first | omega | exact pf _ _ _ (by omega) (by omega) | exact absurd (by omega) hne | (have := hp1.2.2; omega) | exact tm3_rg hM _ | exact ⟨by omega, hp3⟩ | (exfalso; omega)
        first | (exfalso; omega) | exact lRd188h (f := f) hp2 (fr_up (fr_up fr_rf (by decide)) (by decide)) (fun j hj => (up3_nr (by decide)).trans (up3_nj (fun q => hj (by rw [q]; decide)))) ((up3_nr (by decide)).trans (up3_nj (by decide))) ((up3_nr (by decide)).trans ((up3_nj (by decide)).trans hf)) hne hf1 hs1 hp1 k
      · refine ⟨?_, ?_⟩
        · first | omega | exact pf _ _ _ (by omega) (by omega) | exact absurd (by omega) hne | (have := hp1.2.2; omega) | exact tm3_rg hM _ | exact ⟨by omega, hp3⟩ | (exfalso; omega)
        intro r1 N1 hN1 hf1 hs1 hp1
        refine ⟨?_, ?_⟩
        · first | omega | exact pf _ _ _ (by omega) (by omega) | exact absurd (by omega) hne | (have := hp1.2.2; omega) | exact tm3_rg hM _ | exact ⟨by omega, hp3⟩ | (exfalso; omega)
        first | (exfalso; omega) | exact lRd188h (f := f) hp2 (fr_up (fr_up fr_rf (by decide)) (by decide)) (fun j hj => (up3_nr (by decide)).trans (up3_nj (fun q => hj (by rw [q]; decide)))) ((up3_nr (by decide)).trans (up3_nj (by decide))) ((up3_nr (by decide)).trans ((up3_nj (by decide)).trans hf)) hne hf1 hs1 hp1 k
theorem lRd106 {E : E3} {Q : Q3} {M : M3} {x2 : Int} (hx : -2147483648 ≤ x2 ∧ x2 ≤ 2147483647) (hp : mp3 M) (h12 : M 44 0 12 = -1) (k : KR3 M Q (poH3 (if (sa3 (tm3 M) x2 (M 44 0 17)).1 ≠ -1 then (sa3 (tm3 M) x2 (M 44 0 17)).1 else (fa3 (tm3 M) (sa3 (tm3 M) x2 (M 44 0 17)).2.2).1) x2 (sa3 (tm3 M) x2 (M 44 0 17)).2.1 (fa3 (tm3 M) (sa3 (tm3 M) x2 (M 44 0 17)).2.2).2.1 (fa3 (tm3 M) (sa3 (tm3 M) x2 (M 44 0 17)).2.2).2.2 M)) : G3 E YX12_readsPart Q 106 [(0, vR 44 0), (2, vI x2)] [] M := by
  have hp0 := hp
  obtain ⟨hp1', hp2, hp3⟩ := hp
  refine g3_rm fun hM => ?_
  have pf : ∀ a lo hi : Int, 0 ≤ a ∧ a ≤ 3 → (-2147483648 ≤ lo ∧ lo ≤ 2147483647) ∧ (-2147483648 ≤ hi ∧ hi ≤ 2147483647) → preFig (up3 (up3 M 44 0 17 (M 44 0 17 + 1)) 53 0 (M 44 0 13) x2) a lo hi := fun a lo hi h1 h2 => ⟨h1, h2, by rw [up3_nr (by decide), up3_eq]; omega, by rw [up3_nr (by decide), up3_nj (by decide)]; exact hp3⟩
  have pg : ∀ a lo hi : Int, 0 ≤ a ∧ a ≤ 3 → (-2147483648 ≤ lo ∧ lo ≤ 2147483647) ∧ (-2147483648 ≤ hi ∧ hi ≤ 2147483647) → preFig (up3 (up3 (up3 M 44 0 12 (M 44 0 17)) 44 0 17 (M 44 0 17 + 1)) 53 0 (M 44 0 13) x2) a lo hi := fun a lo hi h1 h2 => ⟨h1, h2, by rw [up3_nr (by decide), up3_eq]; omega, by rw [up3_nr (by decide), up3_nj (by decide), up3_nj (by decide)]; exact hp3⟩
  have nn : tm3 M (M 44 0 17) ≠ 61 → KR3 M Q (fun N => N 44 0 12 = M 44 0 17) := fun q => k.post fun N h => by
    have e : sa3 (tm3 M) x2 (M 44 0 17) = (M 44 0 17, 0, 0) := if_neg q
    have hne : M 44 0 17 ≠ -1 := by omega
    rw [e, if_pos hne]
    exact ⟨fun _ => h, fun q => absurd q hne⟩
  have p61 : tm3 M (M 44 0 17) = 61 → sa3 (tm3 M) x2 (M 44 0 17) = _ := fun q => if_pos q
  refine sX12_readsPart_106 ?_
  refine ⟨fun c1 => ?_, fun c1 => ?_⟩
  · refine ⟨?_, ?_, ?_, ?_⟩
    · first | omega | exact pf _ _ _ (by omega) (by omega) | exact pg _ _ _ (by omega) (by omega) | (have := hp1.2.2; omega) | exact tm3_rg hM _ | exact ⟨by omega, hp3⟩ | (exfalso; omega)
    · first | omega | exact pf _ _ _ (by omega) (by omega) | exact pg _ _ _ (by omega) (by omega) | (have := hp1.2.2; omega) | exact tm3_rg hM _ | exact ⟨by omega, hp3⟩ | (exfalso; omega)
    · first | omega | exact pf _ _ _ (by omega) (by omega) | exact pg _ _ _ (by omega) (by omega) | (have := hp1.2.2; omega) | exact tm3_rg hM _ | exact ⟨by omega, hp3⟩ | (exfalso; omega)
    refine ⟨fun c2 => ?_, fun c2 => ?_⟩
    · refine ⟨?_, ?_⟩
      · first | omega | exact pf _ _ _ (by omega) (by omega) | exact pg _ _ _ (by omega) (by omega) | (have := hp1.2.2; omega) | exact tm3_rg hM _ | exact ⟨by omega, hp3⟩ | (exfalso; omega)
      intro r1 N1 hN1 hf1 hs1 hp1
      refine ⟨?_, ?_⟩
      · first | omega | exact pf _ _ _ (by omega) (by omega) | exact pg _ _ _ (by omega) (by omega) | (have := hp1.2.2; omega) | exact tm3_rg hM _ | exact ⟨by omega, hp3⟩ | (exfalso; omega)
      first
      | (exfalso; omega)
      | exact lRd188g hp0 h12 (Or.inr rfl) (by decide) hN1 hf1 hs1 hp1 ((p61 (by assumption)).trans (if_neg (by assumption))) k
      | exact lRd188g hp0 h12 (Or.inl rfl) (by decide) hN1 hf1 hs1 hp1 ((p61 (by assumption)).trans (if_pos (by assumption))) k
      | exact lRd188h (f := M 44 0 17) hp2 (fr_up (fr_up (fr_up fr_rf (by decide)) (by decide)) (by decide)) (fun j hj => (up3_nr (by decide)).trans ((up3_nj (fun q => hj (by rw [q]; decide))).trans (up3_nj (fun q => hj (by rw [q]; decide))))) ((up3_nr (by decide)).trans ((up3_nj (by decide)).trans (up3_nj (by decide)))) ((up3_nr (by decide)).trans ((up3_nj (by decide)).trans up3_eq)) (by omega) hf1 hs1 hp1 (nn (by assumption))
    · refine ⟨?_, ?_⟩
      · first | omega | exact pf _ _ _ (by omega) (by omega) | exact pg _ _ _ (by omega) (by omega) | (have := hp1.2.2; omega) | exact tm3_rg hM _ | exact ⟨by omega, hp3⟩ | (exfalso; omega)
      intro r1 N1 hN1 hf1 hs1 hp1
      refine ⟨?_, ?_⟩
      · first | omega | exact pf _ _ _ (by omega) (by omega) | exact pg _ _ _ (by omega) (by omega) | (have := hp1.2.2; omega) | exact tm3_rg hM _ | exact ⟨by omega, hp3⟩ | (exfalso; omega)
      first
      | (exfalso; omega)
      | exact lRd188g hp0 h12 (Or.inr rfl) (by decide) hN1 hf1 hs1 hp1 ((p61 (by assumption)).trans (if_neg (by assumption))) k
      | exact lRd188g hp0 h12 (Or.inl rfl) (by decide) hN1 hf1 hs1 hp1 ((p61 (by assumption)).trans (if_pos (by assumption))) k
      | exact lRd188h (f := M 44 0 17) hp2 (fr_up (fr_up (fr_up fr_rf (by decide)) (by decide)) (by decide)) (fun j hj => (up3_nr (by decide)).trans ((up3_nj (fun q => hj (by rw [q]; decide))).trans (up3_nj (fun q => hj (by rw [q]; decide))))) ((up3_nr (by decide)).trans ((up3_nj (by decide)).trans (up3_nj (by decide)))) ((up3_nr (by decide)).trans ((up3_nj (by decide)).trans up3_eq)) (by omega) hf1 hs1 hp1 (nn (by assumption))
  · refine ⟨?_, ?_, ?_⟩
    · first | omega | exact pf _ _ _ (by omega) (by omega) | exact pg _ _ _ (by omega) (by omega) | (have := hp1.2.2; omega) | exact tm3_rg hM _ | exact ⟨by omega, hp3⟩ | (exfalso; omega)
    · first | omega | exact pf _ _ _ (by omega) (by omega) | exact pg _ _ _ (by omega) (by omega) | (have := hp1.2.2; omega) | exact tm3_rg hM _ | exact ⟨by omega, hp3⟩ | (exfalso; omega)
    refine ⟨fun c2 => ?_, fun c2 => ?_⟩
    · refine ⟨?_, ?_, ?_, ?_⟩
      · first | omega | exact pf _ _ _ (by omega) (by omega) | exact pg _ _ _ (by omega) (by omega) | (have := hp1.2.2; omega) | exact tm3_rg hM _ | exact ⟨by omega, hp3⟩ | (exfalso; omega)
      · first | omega | exact pf _ _ _ (by omega) (by omega) | exact pg _ _ _ (by omega) (by omega) | (have := hp1.2.2; omega) | exact tm3_rg hM _ | exact ⟨by omega, hp3⟩ | (exfalso; omega)
      · first | omega | exact pf _ _ _ (by omega) (by omega) | exact pg _ _ _ (by omega) (by omega) | (have := hp1.2.2; omega) | exact tm3_rg hM _ | exact ⟨by omega, hp3⟩ | (exfalso; omega)
      refine ⟨fun c3 => ?_, fun c3 => ?_⟩
      · refine ⟨?_, ?_⟩
        · first | omega | exact pf _ _ _ (by omega) (by omega) | exact pg _ _ _ (by omega) (by omega) | (have := hp1.2.2; omega) | exact tm3_rg hM _ | exact ⟨by omega, hp3⟩ | (exfalso; omega)
        intro r1 N1 hN1 hf1 hs1 hp1
        refine ⟨?_, ?_⟩
        · first | omega | exact pf _ _ _ (by omega) (by omega) | exact pg _ _ _ (by omega) (by omega) | (have := hp1.2.2; omega) | exact tm3_rg hM _ | exact ⟨by omega, hp3⟩ | (exfalso; omega)
        first
        | (exfalso; omega)
        | exact lRd188g hp0 h12 (Or.inr rfl) (by decide) hN1 hf1 hs1 hp1 ((p61 (by assumption)).trans (if_neg (by assumption))) k
        | exact lRd188g hp0 h12 (Or.inl rfl) (by decide) hN1 hf1 hs1 hp1 ((p61 (by assumption)).trans (if_pos (by assumption))) k
        | exact lRd188h (f := M 44 0 17) hp2 (fr_up (fr_up (fr_up fr_rf (by decide)) (by decide)) (by decide)) (fun j hj => (up3_nr (by decide)).trans ((up3_nj (fun q => hj (by rw [q]; decide))).trans (up3_nj (fun q => hj (by rw [q]; decide))))) ((up3_nr (by decide)).trans ((up3_nj (by decide)).trans (up3_nj (by decide)))) ((up3_nr (by decide)).trans ((up3_nj (by decide)).trans up3_eq)) (by omega) hf1 hs1 hp1 (nn (by assumption))
      · refine ⟨?_, ?_⟩
        · first | omega | exact pf _ _ _ (by omega) (by omega) | exact pg _ _ _ (by omega) (by omega) | (have := hp1.2.2; omega) | exact tm3_rg hM _ | exact ⟨by omega, hp3⟩ | (exfalso; omega)
        intro r1 N1 hN1 hf1 hs1 hp1
        refine ⟨?_, ?_⟩
        · first | omega | exact pf _ _ _ (by omega) (by omega) | exact pg _ _ _ (by omega) (by omega) | (have := hp1.2.2; omega) | exact tm3_rg hM _ | exact ⟨by omega, hp3⟩ | (exfalso; omega)
        first
        | (exfalso; omega)
        | exact lRd188g hp0 h12 (Or.inr rfl) (by decide) hN1 hf1 hs1 hp1 ((p61 (by assumption)).trans (if_neg (by assumption))) k
        | exact lRd188g hp0 h12 (Or.inl rfl) (by decide) hN1 hf1 hs1 hp1 ((p61 (by assumption)).trans (if_pos (by assumption))) k
        | exact lRd188h (f := M 44 0 17) hp2 (fr_up (fr_up (fr_up fr_rf (by decide)) (by decide)) (by decide)) (fun j hj => (up3_nr (by decide)).trans ((up3_nj (fun q => hj (by rw [q]; decide))).trans (up3_nj (fun q => hj (by rw [q]; decide))))) ((up3_nr (by decide)).trans ((up3_nj (by decide)).trans (up3_nj (by decide)))) ((up3_nr (by decide)).trans ((up3_nj (by decide)).trans up3_eq)) (by omega) hf1 hs1 hp1 (nn (by assumption))
    · refine ⟨?_, ?_, ?_, ?_⟩
      · first | omega | exact pf _ _ _ (by omega) (by omega) | exact pg _ _ _ (by omega) (by omega) | (have := hp1.2.2; omega) | exact tm3_rg hM _ | exact ⟨by omega, hp3⟩ | (exfalso; omega)
      · first | omega | exact pf _ _ _ (by omega) (by omega) | exact pg _ _ _ (by omega) (by omega) | (have := hp1.2.2; omega) | exact tm3_rg hM _ | exact ⟨by omega, hp3⟩ | (exfalso; omega)
      · first | omega | exact pf _ _ _ (by omega) (by omega) | exact pg _ _ _ (by omega) (by omega) | (have := hp1.2.2; omega) | exact tm3_rg hM _ | exact ⟨by omega, hp3⟩ | (exfalso; omega)
      refine ⟨fun c3 => ?_, fun c3 => ?_⟩
      · refine ⟨?_, ?_⟩
        · first | omega | exact pf _ _ _ (by omega) (by omega) | exact pg _ _ _ (by omega) (by omega) | (have := hp1.2.2; omega) | exact tm3_rg hM _ | exact ⟨by omega, hp3⟩ | (exfalso; omega)
        intro r1 N1 hN1 hf1 hs1 hp1
        refine ⟨?_, ?_⟩
        · first | omega | exact pf _ _ _ (by omega) (by omega) | exact pg _ _ _ (by omega) (by omega) | (have := hp1.2.2; omega) | exact tm3_rg hM _ | exact ⟨by omega, hp3⟩ | (exfalso; omega)
        first
        | (exfalso; omega)
        | exact lRd188g hp0 h12 (Or.inr rfl) (by decide) hN1 hf1 hs1 hp1 ((p61 (by assumption)).trans (if_neg (by assumption))) k
        | exact lRd188g hp0 h12 (Or.inl rfl) (by decide) hN1 hf1 hs1 hp1 ((p61 (by assumption)).trans (if_pos (by assumption))) k
        | exact lRd188h (f := M 44 0 17) hp2 (fr_up (fr_up (fr_up fr_rf (by decide)) (by decide)) (by decide)) (fun j hj => (up3_nr (by decide)).trans ((up3_nj (fun q => hj (by rw [q]; decide))).trans (up3_nj (fun q => hj (by rw [q]; decide))))) ((up3_nr (by decide)).trans ((up3_nj (by decide)).trans (up3_nj (by decide)))) ((up3_nr (by decide)).trans ((up3_nj (by decide)).trans up3_eq)) (by omega) hf1 hs1 hp1 (nn (by assumption))
      · refine ⟨?_, ?_⟩
        · first | omega | exact pf _ _ _ (by omega) (by omega) | exact pg _ _ _ (by omega) (by omega) | (have := hp1.2.2; omega) | exact tm3_rg hM _ | exact ⟨by omega, hp3⟩ | (exfalso; omega)
        intro r1 N1 hN1 hf1 hs1 hp1
        refine ⟨?_, ?_⟩
        · first | omega | exact pf _ _ _ (by omega) (by omega) | exact pg _ _ _ (by omega) (by omega) | (have := hp1.2.2; omega) | exact tm3_rg hM _ | exact ⟨by omega, hp3⟩ | (exfalso; omega)
        first
        | (exfalso; omega)
        | exact lRd188g hp0 h12 (Or.inr rfl) (by decide) hN1 hf1 hs1 hp1 ((p61 (by assumption)).trans (if_neg (by assumption))) k
        | exact lRd188g hp0 h12 (Or.inl rfl) (by decide) hN1 hf1 hs1 hp1 ((p61 (by assumption)).trans (if_pos (by assumption))) k
        | exact lRd188h (f := M 44 0 17) hp2 (fr_up (fr_up (fr_up fr_rf (by decide)) (by decide)) (by decide)) (fun j hj => (up3_nr (by decide)).trans ((up3_nj (fun q => hj (by rw [q]; decide))).trans (up3_nj (fun q => hj (by rw [q]; decide))))) ((up3_nr (by decide)).trans ((up3_nj (by decide)).trans (up3_nj (by decide)))) ((up3_nr (by decide)).trans ((up3_nj (by decide)).trans up3_eq)) (by omega) hf1 hs1 hp1 (nn (by assumption))
def poRd (M N : M3) : Prop := poH3 (pa3 (tm3 M) (M 44 0 17)).1 (pa3 (tm3 M) (M 44 0 17)).2.1.1 (pa3 (tm3 M) (M 44 0 17)).2.1.2.1 (pa3 (tm3 M) (M 44 0 17)).2.1.2.2 (pa3 (tm3 M) (M 44 0 17)).2.2 M N
def preRd (M : M3) : Prop := M 44 0 12 = -1 ∧ (0 ≤ M 44 0 17 ∧ M 44 0 17 ≤ 200) ∧ (0 ≤ M 44 0 13 ∧ M 44 0 13 ≤ 55) ∧ (0 ≤ M 44 0 9 ∧ M 44 0 9 ≤ 200)
theorem poH3.base {ft kd sy fr nx : Int} {M M' N : M3} (h : poH3 ft kd sy fr nx M' N) (hf : ∀ q : Nat, q ∉ ([44] : List Nat) → M' q = M q) (h13 : M' 44 0 13 = M 44 0 13) : poH3 ft kd sy fr nx M N := by
  unfold poH3 at h ⊢
  rw [hf 53 (by decide), hf 54 (by decide), hf 55 (by decide), h13] at h
  exact h
/-- behind the kind: it was read -/
theorem lRdGo {E : E3} {Q : Q3} {M N : M3} {x2 : Int} (hx : 0 ≤ x2 ∧ x2 ≤ 23) (hp : preRd M) (hp17 : 0 ≤ N 44 0 17 ∧ N 44 0 17 ≤ 300) (hf : ∀ q : Nat, q ∉ ([44] : List Nat) → N q = M q) (hs : ∀ j : Int, j ≠ 17 → N 44 0 j = M 44 0 j) (hA : ka3 (tm3 M) (M 44 0 17) = (-1, x2, N 44 0 17)) (k : KR3 M Q (poRd M)) : G3 E YX12_readsPart Q 106 [(0, vR 44 0), (2, vI x2)] [] N := by
  obtain ⟨h12, h17, h13, h9⟩ := hp
  have et : tm3 N = tm3 M := tm3_fr (hf 52 (by decide)) (hs 9 (by decide))
  have fb : ∀ q : Nat, q ∉ ([44, 53, 54, 55] : List Nat) → N q = M q := fr_sub hf (by decide)
  have fs : ∀ j : Int, j ∉ ([12, 13, 17] : List Int) → N 44 0 j = M 44 0 j := fun j hj => hs j (fun q => hj (by rw [q]; decide))
  refine lRd106 (by omega) ⟨hp17, by rw [hs 13 (by decide)]; exact h13, by rw [hs 9 (by decide)]; exact h9⟩ ((hs 12 (by decide)).trans h12) ((k.base fb fs).post fun N' h => ?_)
  have c2 := h.base hf (hs 13 (by decide))
  rw [et] at c2
  unfold poRd pa3
  rw [hA]
  by_cases q1 : (sa3 (tm3 M) x2 (N 44 0 17)).1 ≠ -1
  · rw [if_pos q1] at c2
    rw [if_neg (fun z => z rfl), if_pos q1]
    exact ⟨c2.1, fun q => absurd q q1⟩
  · rw [if_neg q1] at c2
    rw [if_neg (fun z => z rfl), if_neg q1]
    by_cases q2 : (fa3 (tm3 M) (sa3 (tm3 M) x2 (N 44 0 17)).2.2).1 ≠ -1
    · rw [if_pos q2]
      exact ⟨c2.1, fun q => absurd q q2⟩
    · rw [if_neg q2]
      rw [show (fa3 (tm3 M) (sa3 (tm3 M) x2 (N 44 0 17)).2.2).1 = -1 from Classical.byContradiction q2] at c2
      exact c2
theorem pa3_ka {b : Int → Int} {p f : Int} (h : (ka3 b p).1 = f) (hne : f ≠ -1) : pa3 b p = (f, (0, 0, 0), 0) := by
  unfold pa3
  rw [if_pos (by rw [h]; exact hne), h]
theorem kX12_readsPart {E : E3} {Q : Q3} {M : M3} (h : preRd M) (k : ∀ (N : M3), RM3 N → (∀ q : Nat, q ∉ ([44, 53, 54, 55] : List Nat) → N q = M q) → (∀ j : Int, j ∉ ([12, 13, 17] : List Int) → N 44 0 j = M 44 0 j) → poRd M N → Q none N) : C3 E YX12_readsPart [vR 44 0] M Q := by
  refine c3_rm fun hM => ?_
  have h0 := h
  obtain ⟨h12, h17, h13, h9⟩ := h
  have kind : ∀ x : Int, 0 < x ∧ x ≤ 23 → ka3 (tm3 M) (M 44 0 17) = (-1, x, M 44 0 17 + 1) → G3 E YX12_readsPart Q 65 [(0, vR 44 0), (2, vI x)] [] M := fun x hx hA => by
    refine sX12_readsPart_65 ⟨by omega, fun _ => ⟨by omega, fun _ => ?_, fun c => absurd c (by omega)⟩, fun c => absurd c (by omega)⟩
    exact lRdGo (by omega) h0 (by rw [up3_eq]; omega) (fr_up fr_rf (by decide)) (fun j hj => up3_nj hj) (by rw [up3_eq]; exact hA) k
  have zero : tm3 M (M 44 0 17) = 113 → G3 E YX12_readsPart Q 65 [(0, vR 44 0), (2, vI 0)] [] M := fun q => by
    have hA : ka3 (tm3 M) (M 44 0 17) = (if ba3 (nu3 (tm3 M) 2 (M 44 0 17 + 1) 0) (M 44 0 17 + 1) 0 19 then (M 44 0 17 + 1, 0, 0) else (-1, (nu3 (tm3 M) 2 (M 44 0 17 + 1) 0).1, (nu3 (tm3 M) 2 (M 44 0 17 + 1) 0).2)) := if_pos q
    refine sX12_readsPart_65 ⟨by omega, fun _ => ⟨by omega, fun c => absurd rfl c, fun c => ⟨⟨by omega, by omega, ⟨by rw [up3_eq]; omega, by rw [up3_eq]; omega⟩, by rw [up3_nj (by decide)]; exact h9⟩, ?_⟩⟩, fun c => absurd c (by omega)⟩
    intro r1 N1 hN1 hf1 hs1 hp1
    obtain ⟨-, p2, p3⟩ := hp1
    obtain ⟨p4, p5, p6⟩ := p2 ((up3_nj (by decide)).trans h12)
    rw [tm3_up (by decide) (Or.inr (by decide)), up3_eq, show (2 : Int).toNat = 2 from rfl] at p4 p5 p6
    have fb : ∀ q : Nat, q ∉ ([44] : List Nat) → N1 q = M q := fr_tr (fr_up fr_rf (by decide)) hf1
    have fs : ∀ j : Int, j ≠ 12 → j ≠ 17 → N1 44 0 j = M 44 0 j := fun j a b => (hs1 j (by simp; omega)).trans (up3_nj b)
    have ha := nu3_at (b := tm3 M) 2 (M 44 0 17 + 1) 0
    by_cases hb : ba3 (nu3 (tm3 M) 2 (M 44 0 17 + 1) 0) (M 44 0 17 + 1) 0 19
    · rw [if_pos hb] at hA p6
      have hne : M 44 0 17 + 1 ≠ -1 := by omega
      have e := pa3_ka (b := tm3 M) (p := M 44 0 17) (f := M 44 0 17 + 1) (by rw [hA]) hne
      refine lRd106f (f := M 44 0 17 + 1) (by omega) ⟨by rw [p4]; omega, by rw [fs 13 (by decide) (by decide)]; exact h13, by rw [fs 9 (by decide) (by decide)]; exact h9⟩ p6 hne (KR3.base (KR3.post k fun N hN => ?_) (fr_sub fb (by decide)) (fun j hj => fs j (fun q => hj (by rw [q]; decide)) (fun q => hj (by rw [q]; decide))))
      unfold poRd
      rw [e]
      exact ⟨fun _ => hN, fun q => absurd q hne⟩
    · rw [if_neg hb] at hA p6
      have hbb : ¬ ((nu3 (tm3 M) 2 (M 44 0 17 + 1) 0).1 < 0 ∨ 19 < (nu3 (tm3 M) 2 (M 44 0 17 + 1) 0).1) := fun q => hb (Or.inr q)
      exact lRdGo (by omega) h0 (by rw [p4]; omega) fb (fun j hj => if q12 : j = 12 then by rw [q12, p6, h12] else fs j q12 hj) (by rw [hA, p4, p5]) k
  have no : tm3 M (M 44 0 17) ≠ 113 ∧ tm3 M (M 44 0 17) ≠ 110 ∧ tm3 M (M 44 0 17) ≠ 107 ∧ tm3 M (M 44 0 17) ≠ 115 ∧ tm3 M (M 44 0 17) ≠ 119 → G3 E YX12_readsPart Q 65 [(0, vR 44 0), (2, vI (-1))] [] M := fun q => by
    have hne : M 44 0 17 ≠ -1 := by omega
    have e := pa3_ka (b := tm3 M) (p := M 44 0 17) (f := M 44 0 17) (by rw [ka3_x q]) hne
    refine sX12_readsPart_65 ⟨by omega, fun c => absurd rfl c, fun c => k _ (hM.up (by omega)) (fr_up fr_rf (by decide)) (fun j hj => up3_nj (fun q => hj (by rw [q]; decide))) ?_⟩
    unfold poRd
    rw [e]
    exact ⟨fun _ => up3_eq, fun q => absurd q hne⟩
  refine sX12_readsPart ?_
  refine ⟨?_, ?_, ?_⟩
  · first | omega | exact ⟨by omega, h9⟩ | exact tm3_rg hM _
  · first | omega | exact ⟨by omega, h9⟩ | exact tm3_rg hM _
  refine ⟨fun c1 => ?_, fun c1 => ?_⟩
  · refine ⟨fun c2 => ?_, fun c2 => ?_⟩
    · refine ⟨fun c3 => ?_, fun c3 => ?_⟩
      · refine ⟨fun c4 => ?_, fun c4 => ?_⟩
        · refine ⟨fun c5 => ?_, fun c5 => ?_⟩
          · first | exact no ⟨by assumption, by assumption, by assumption, by assumption, by assumption⟩ | exact kind 23 (by omega) (ka3_w (by assumption)) | exact kind 22 (by omega) (ka3_s (by assumption)) | exact kind 21 (by omega) (ka3_k (by assumption)) | exact kind 20 (by omega) (ka3_n (by assumption)) | exact zero (by assumption)
          · first | exact no ⟨by assumption, by assumption, by assumption, by assumption, by assumption⟩ | exact kind 23 (by omega) (ka3_w (by assumption)) | exact kind 22 (by omega) (ka3_s (by assumption)) | exact kind 21 (by omega) (ka3_k (by assumption)) | exact kind 20 (by omega) (ka3_n (by assumption)) | exact zero (by assumption)
        · first | exact no ⟨by assumption, by assumption, by assumption, by assumption, by assumption⟩ | exact kind 23 (by omega) (ka3_w (by assumption)) | exact kind 22 (by omega) (ka3_s (by assumption)) | exact kind 21 (by omega) (ka3_k (by assumption)) | exact kind 20 (by omega) (ka3_n (by assumption)) | exact zero (by assumption)
      · first | exact no ⟨by assumption, by assumption, by assumption, by assumption, by assumption⟩ | exact kind 23 (by omega) (ka3_w (by assumption)) | exact kind 22 (by omega) (ka3_s (by assumption)) | exact kind 21 (by omega) (ka3_k (by assumption)) | exact kind 20 (by omega) (ka3_n (by assumption)) | exact zero (by assumption)
    · first | exact no ⟨by assumption, by assumption, by assumption, by assumption, by assumption⟩ | exact kind 23 (by omega) (ka3_w (by assumption)) | exact kind 22 (by omega) (ka3_s (by assumption)) | exact kind 21 (by omega) (ka3_k (by assumption)) | exact kind 20 (by omega) (ka3_n (by assumption)) | exact zero (by assumption)
  · first | exact no ⟨by assumption, by assumption, by assumption, by assumption, by assumption⟩ | exact kind 23 (by omega) (ka3_w (by assumption)) | exact kind 22 (by omega) (ka3_s (by assumption)) | exact kind 21 (by omega) (ka3_k (by assumption)) | exact kind 20 (by omega) (ka3_n (by assumption)) | exact zero (by assumption)
