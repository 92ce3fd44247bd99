theorem lX12_figures {E : E3} {Q : Q3} {M0 : M3} {x1 x2 x3 : Int} (h : preFig M0 x1 x2 x3) (h12 : M0 44 0 12 = -1) (k : ∀ (r : Int) (N : M3), RM3 N → (∀ q : Nat, q ∉ ([44] : List Nat) → N q = M0 q) → (∀ j : Int, j ∉ ([12, 17] : List Int) → N 44 0 j = M0 44 0 j) → poFig M0 x1 x2 x3 r N → Q (some (vI r)) N) : ∀ (n : Nat) (M : M3) (x5 : Int), M 44 0 17 + n = M0 44 0 17 + x1 → (∀ q : Nat, q ∉ ([44] : List Nat) → M q = M0 q) → (∀ j : Int, j ≠ 17 → M 44 0 j = M0 44 0 j) → M0 44 0 17 ≤ M 44 0 17 → (0 ≤ x5 ∧ (M 44 0 17 = M0 44 0 17 → x5 ≤ 0) ∧ (M 44 0 17 = M0 44 0 17 + 1 → x5 ≤ 9) ∧ (M 44 0 17 = M0 44 0 17 + 2 → x5 ≤ 99) ∧ (M 44 0 17 = M0 44 0 17 + 3 → x5 ≤ 999)) → nu3 (tm3 M0) n (M 44 0 17) x5 = nu3 (tm3 M0) x1.toNat (M0 44 0 17) 0 → G3 E YX12_figures Q 9 [(0, vR 44 0), (1, vI x1), (2, vI x2), (3, vI x3), (4, vI (M0 44 0 17)), (5, vI x5)] [] M := by
  obtain ⟨hf, ⟨hlo, hhi⟩, hp, hl⟩ := h
  have fin : ∀ (M : M3) (x5 : Int), RM3 M → (∀ q : Nat, q ∉ ([44] : List Nat) → M q = M0 q) → (∀ j : Int, j ≠ 17 → M 44 0 j = M0 44 0 j) → nu3 (tm3 M0) x1.toNat (M0 44 0 17) 0 = (x5, M 44 0 17) → (0 ≤ x5 ∧ x5 ≤ 999) → ((M 44 0 17 = M0 44 0 17 ∨ x5 < x2 ∨ x3 < x5) → Q (some (vI x5)) (up3 M 44 0 12 (M0 44 0 17))) ∧ (¬ (M 44 0 17 = M0 44 0 17 ∨ x5 < x2 ∨ x3 < x5) → Q (some (vI x5)) M) := by
    intro M x5 hM hfr hj hw h5
    refine ⟨fun hb => k _ _ (hM.up (by omega)) (fr_up hfr (by decide)) (fun j hj2 => (up3_nj (fun q => hj2 (by rw [q]; decide))).trans (hj j (fun q => hj2 (by rw [q]; decide)))) ⟨fun q => absurd h12 q, fun _ => ⟨?_, ?_, ?_⟩, by omega⟩, fun hb => k _ _ hM hfr (fun j hj2 => hj j (fun q => hj2 (by rw [q]; decide))) ⟨fun q => absurd h12 q, fun _ => ⟨by rw [hw], by rw [hw], ?_⟩, by omega⟩⟩
    · rw [hw]; exact up3_nj (by decide)
    · rw [hw]
    · rw [hw, if_pos hb]; exact up3_eq
    · rw [hw, if_neg hb]; exact (hj 12 (by decide)).trans h12
  intro n
  induction n with
  | zero =>
    intro M x5 h1 h3 h4 h5 h6 h7
    refine g3_rm fun hM => ?_
    obtain ⟨hb, hg⟩ := fin M x5 hM h3 h4 h7.symm (by omega)
    have e12 : M 44 0 12 = -1 := (h4 12 (by decide)).trans h12
    have e9 : M 44 0 9 = M0 44 0 9 := h4 9 (by decide)
    refine sX12_figures_9 ?_
    refine ⟨fun c1 => ?_, fun c1 => ?_⟩
    · refine ⟨fun c2 => ?_, fun c2 => ?_⟩
      · first | (exfalso; omega) | exact hb (by omega) | exact hg (by omega)
      · refine ⟨?_, ?_⟩
        · first | omega | exact tm3_rg hM _ | exact ⟨by omega, by omega⟩
        refine ⟨fun c3 => ?_, fun c3 => ?_⟩
        · first | (exfalso; omega) | exact hb (by omega) | exact hg (by omega)
        · refine ⟨?_, ?_⟩
          · first | omega | exact tm3_rg hM _ | exact ⟨by omega, by omega⟩
          refine ⟨fun c4 => ?_, fun c4 => ?_⟩
          · first | (exfalso; omega) | exact hb (by omega) | exact hg (by omega)
          · first | (exfalso; omega) | exact hb (by omega) | exact hg (by omega)
    · refine ⟨?_, ?_⟩
      · first | omega | exact tm3_rg hM _ | exact ⟨by omega, by omega⟩
      refine ⟨fun c2 => ?_, fun c2 => ?_⟩
      · refine ⟨fun c3 => ?_, fun c3 => ?_⟩
        · first | (exfalso; omega) | exact hb (by omega) | exact hg (by omega)
        · refine ⟨?_, ?_⟩
          · first | omega | exact tm3_rg hM _ | exact ⟨by omega, by omega⟩
          refine ⟨fun c4 => ?_, fun c4 => ?_⟩
          · first | (exfalso; omega) | exact hb (by omega) | exact hg (by omega)
          · refine ⟨?_, ?_⟩
            · first | omega | exact tm3_rg hM _ | exact ⟨by omega, by omega⟩
            refine ⟨fun c5 => ?_, fun c5 => ?_⟩
            · first | (exfalso; omega) | exact hb (by omega) | exact hg (by omega)
            · first | (exfalso; omega) | exact hb (by omega) | exact hg (by omega)
      · refine ⟨?_, ?_, ?_⟩
        · first | omega | exact tm3_rg hM _ | exact ⟨by omega, by omega⟩
        · first | omega | exact tm3_rg hM _ | exact ⟨by omega, by omega⟩
        refine ⟨fun c3 => ?_, fun c3 => ?_⟩
        · refine ⟨fun c4 => ?_, fun c4 => ?_⟩
          · first | (exfalso; omega) | exact hb (by omega) | exact hg (by omega)
          · refine ⟨?_, ?_⟩
            · first | omega | exact tm3_rg hM _ | exact ⟨by omega, by omega⟩
            refine ⟨fun c5 => ?_, fun c5 => ?_⟩
            · first | (exfalso; omega) | exact hb (by omega) | exact hg (by omega)
            · refine ⟨?_, ?_⟩
              · first | omega | exact tm3_rg hM _ | exact ⟨by omega, by omega⟩
              refine ⟨fun c6 => ?_, fun c6 => ?_⟩
              · first | (exfalso; omega) | exact hb (by omega) | exact hg (by omega)
              · first | (exfalso; omega) | exact hb (by omega) | exact hg (by omega)
        · refine ⟨fun c4 => ?_, fun c4 => ?_⟩
          · refine ⟨fun c5 => ?_, fun c5 => ?_⟩
            · first | (exfalso; omega) | exact hb (by omega) | exact hg (by omega)
            · refine ⟨?_, ?_⟩
              · first | omega | exact tm3_rg hM _ | exact ⟨by omega, by omega⟩
              refine ⟨fun c6 => ?_, fun c6 => ?_⟩
              · first | (exfalso; omega) | exact hb (by omega) | exact hg (by omega)
              · refine ⟨?_, ?_⟩
                · first | omega | exact tm3_rg hM _ | exact ⟨by omega, by omega⟩
                refine ⟨fun c7 => ?_, fun c7 => ?_⟩
                · first | (exfalso; omega) | exact hb (by omega) | exact hg (by omega)
                · first | (exfalso; omega) | exact hb (by omega) | exact hg (by omega)
          · refine ⟨?_, ?_⟩
            · first | omega | exact tm3_rg hM _ | exact ⟨by omega, by omega⟩
            exfalso; omega
  | succ n ih =>
    intro M x5 h1 h3 h4 h5 h6 h7
    refine g3_rm fun hM => ?_
    have e12 : M 44 0 12 = -1 := (h4 12 (by decide)).trans h12
    have e9 : M 44 0 9 = M0 44 0 9 := h4 9 (by decide)
    have et : tm3 M = tm3 M0 := tm3_fr (h3 52 (by decide)) e9
    have hst : ¬ (48 ≤ tm3 M (M 44 0 17) ∧ tm3 M (M 44 0 17) ≤ 57) → nu3 (tm3 M0) x1.toNat (M0 44 0 17) 0 = (x5, M 44 0 17) := fun q => by
      rw [← h7, nu3.eq_2, if_neg (by rw [← et]; exact q)]
    have hgo : (48 ≤ tm3 M (M 44 0 17) ∧ tm3 M (M 44 0 17) ≤ 57) → nu3 (tm3 M0) n (M 44 0 17 + 1) (10 * x5 + tm3 M (M 44 0 17) - 48) = nu3 (tm3 M0) x1.toNat (M0 44 0 17) 0 := fun q => by
      rw [← h7, nu3.eq_2, if_pos (by rw [← et]; exact q), et]
    refine sX12_figures_9 ?_
    refine ⟨fun c1 => ?_, fun c1 => ?_⟩
    · refine ⟨fun c2 => ?_, fun c2 => ?_⟩
      · first | (exfalso; omega) | exact (fin M x5 hM h3 h4 (hst (by omega)) (by omega)).1 (by omega) | exact (fin M x5 hM h3 h4 (hst (by omega)) (by omega)).2 (by omega)
      · refine ⟨?_, ?_⟩
        · first | omega | exact tm3_rg hM _ | exact ⟨by omega, by omega⟩
        refine ⟨fun c3 => ?_, fun c3 => ?_⟩
        · first | (exfalso; omega) | exact (fin M x5 hM h3 h4 (hst (by omega)) (by omega)).1 (by omega) | exact (fin M x5 hM h3 h4 (hst (by omega)) (by omega)).2 (by omega)
        · refine ⟨?_, ?_⟩
          · first | omega | exact tm3_rg hM _ | exact ⟨by omega, by omega⟩
          refine ⟨fun c4 => ?_, fun c4 => ?_⟩
          · first | (exfalso; omega) | exact (fin M x5 hM h3 h4 (hst (by omega)) (by omega)).1 (by omega) | exact (fin M x5 hM h3 h4 (hst (by omega)) (by omega)).2 (by omega)
          · first | (exfalso; omega) | exact (fin M x5 hM h3 h4 (hst (by omega)) (by omega)).1 (by omega) | exact (fin M x5 hM h3 h4 (hst (by omega)) (by omega)).2 (by omega)
    · refine ⟨?_, ?_⟩
      · first | omega | exact tm3_rg hM _ | exact ⟨by omega, by omega⟩
      refine ⟨fun c2 => ?_, fun c2 => ?_⟩
      · refine ⟨fun c3 => ?_, fun c3 => ?_⟩
        · first | (exfalso; omega) | exact (fin M x5 hM h3 h4 (hst (by omega)) (by omega)).1 (by omega) | exact (fin M x5 hM h3 h4 (hst (by omega)) (by omega)).2 (by omega)
        · refine ⟨?_, ?_⟩
          · first | omega | exact tm3_rg hM _ | exact ⟨by omega, by omega⟩
          refine ⟨fun c4 => ?_, fun c4 => ?_⟩
          · first | (exfalso; omega) | exact (fin M x5 hM h3 h4 (hst (by omega)) (by omega)).1 (by omega) | exact (fin M x5 hM h3 h4 (hst (by omega)) (by omega)).2 (by omega)
          · refine ⟨?_, ?_⟩
            · first | omega | exact tm3_rg hM _ | exact ⟨by omega, by omega⟩
            refine ⟨fun c5 => ?_, fun c5 => ?_⟩
            · first | (exfalso; omega) | exact (fin M x5 hM h3 h4 (hst (by omega)) (by omega)).1 (by omega) | exact (fin M x5 hM h3 h4 (hst (by omega)) (by omega)).2 (by omega)
            · first | (exfalso; omega) | exact (fin M x5 hM h3 h4 (hst (by omega)) (by omega)).1 (by omega) | exact (fin M x5 hM h3 h4 (hst (by omega)) (by omega)).2 (by omega)
      · refine ⟨?_, ?_, ?_⟩
        · first | omega | exact tm3_rg hM _ | exact ⟨by omega, by omega⟩
        · first | omega | exact tm3_rg hM _ | exact ⟨by omega, by omega⟩
        refine ⟨fun c3 => ?_, fun c3 => ?_⟩
        · refine ⟨fun c4 => ?_, fun c4 => ?_⟩
          · first | (exfalso; omega) | exact (fin M x5 hM h3 h4 (hst (by omega)) (by omega)).1 (by omega) | exact (fin M x5 hM h3 h4 (hst (by omega)) (by omega)).2 (by omega)
          · refine ⟨?_, ?_⟩
            · first | omega | exact tm3_rg hM _ | exact ⟨by omega, by omega⟩
            refine ⟨fun c5 => ?_, fun c5 => ?_⟩
            · first | (exfalso; omega) | exact (fin M x5 hM h3 h4 (hst (by omega)) (by omega)).1 (by omega) | exact (fin M x5 hM h3 h4 (hst (by omega)) (by omega)).2 (by omega)
            · refine ⟨?_, ?_⟩
              · first | omega | exact tm3_rg hM _ | exact ⟨by omega, by omega⟩
              refine ⟨fun c6 => ?_, fun c6 => ?_⟩
              · first | (exfalso; omega) | exact (fin M x5 hM h3 h4 (hst (by omega)) (by omega)).1 (by omega) | exact (fin M x5 hM h3 h4 (hst (by omega)) (by omega)).2 (by omega)
              · first | (exfalso; omega) | exact (fin M x5 hM h3 h4 (hst (by omega)) (by omega)).1 (by omega) | exact (fin M x5 hM h3 h4 (hst (by omega)) (by omega)).2 (by omega)
        · refine ⟨fun c4 => ?_, fun c4 => ?_⟩
          · refine ⟨fun c5 => ?_, fun c5 => ?_⟩
            · first | (exfalso; omega) | exact (fin M x5 hM h3 h4 (hst (by omega)) (by omega)).1 (by omega) | exact (fin M x5 hM h3 h4 (hst (by omega)) (by omega)).2 (by omega)
            · refine ⟨?_, ?_⟩
              · first | omega | exact tm3_rg hM _ | exact ⟨by omega, by omega⟩
              refine ⟨fun c6 => ?_, fun c6 => ?_⟩
              · first | (exfalso; omega) | exact (fin M x5 hM h3 h4 (hst (by omega)) (by omega)).1 (by omega) | exact (fin M x5 hM h3 h4 (hst (by omega)) (by omega)).2 (by omega)
              · refine ⟨?_, ?_⟩
                · first | omega | exact tm3_rg hM _ | exact ⟨by omega, by omega⟩
                refine ⟨fun c7 => ?_, fun c7 => ?_⟩
                · first | (exfalso; omega) | exact (fin M x5 hM h3 h4 (hst (by omega)) (by omega)).1 (by omega) | exact (fin M x5 hM h3 h4 (hst (by omega)) (by omega)).2 (by omega)
                · first | (exfalso; omega) | exact (fin M x5 hM h3 h4 (hst (by omega)) (by omega)).1 (by omega) | exact (fin M x5 hM h3 h4 (hst (by omega)) (by omega)).2 (by omega)
          · refine ⟨?_, ?_⟩
            · first | omega | exact tm3_rg hM _ | exact ⟨by omega, by omega⟩
            refine ih _ _ (by rw [up3_eq]; omega) (fr_up h3 (by decide)) (fun j hj => (up3_nj hj).trans (h4 j hj)) (by rw [up3_eq]; omega) (by rw [up3_eq]; omega) ?_
            rw [up3_eq]
            exact hgo (by omega)
theorem kX12_figures {E : E3} {Q : Q3} {M : M3} {x1 x2 x3 : Int} (h : preFig M x1 x2 x3) (k : ∀ (r : Int) (N : M3), RM3 N → (∀ q : Nat, q ∉ ([44] : List Nat) → N q = M q) → (∀ j : Int, j ∉ ([12, 17] : List Int) → N 44 0 j = M 44 0 j) → poFig M x1 x2 x3 r N → Q (some (vI r)) N) : C3 E YX12_figures [vR 44 0, vI x1, vI x2, vI x3] M Q := by
  refine sX12_figures ?_
  by_cases h12 : M 44 0 12 = -1
  · exact lX12_figures h h12 k x1.toNat M 0 (by have := h.1; omega) fr_rf (fun _ _ => rfl) (by omega) (by omega) rfl
  · refine g3_rm fun hM => ?_
    have h1 := h.2.2.1
    refine sX12_figures_9 ?_
    refine ⟨fun c1 => ?_, fun c1 => ?_⟩
    · refine ⟨fun c2 => ?_, fun c2 => ?_⟩
      · first | exact k 0 M hM fr_rf (fun _ _ => rfl) ⟨fun _ => ⟨rfl, rfl, rfl⟩, fun q => absurd q h12, by omega⟩ | exact absurd (by assumption) h12
      · refine ⟨?_, ?_⟩
        · first | omega | exact tm3_rg hM _ | exact ⟨by omega, by have := h.2.2.2; omega⟩
        refine ⟨fun c3 => ?_, fun c3 => ?_⟩
        · first | exact k 0 M hM fr_rf (fun _ _ => rfl) ⟨fun _ => ⟨rfl, rfl, rfl⟩, fun q => absurd q h12, by omega⟩ | exact absurd (by assumption) h12
        · refine ⟨?_, ?_⟩
          · first | omega | exact tm3_rg hM _ | exact ⟨by omega, by have := h.2.2.2; omega⟩
          refine ⟨fun c4 => ?_, fun c4 => ?_⟩
          · first | exact k 0 M hM fr_rf (fun _ _ => rfl) ⟨fun _ => ⟨rfl, rfl, rfl⟩, fun q => absurd q h12, by omega⟩ | exact absurd (by assumption) h12
          · first | exact k 0 M hM fr_rf (fun _ _ => rfl) ⟨fun _ => ⟨rfl, rfl, rfl⟩, fun q => absurd q h12, by omega⟩ | exact absurd (by assumption) h12
    · refine ⟨?_, ?_⟩
      · first | omega | exact tm3_rg hM _ | exact ⟨by omega, by have := h.2.2.2; omega⟩
      refine ⟨fun c2 => ?_, fun c2 => ?_⟩
      · refine ⟨fun c3 => ?_, fun c3 => ?_⟩
        · first | exact k 0 M hM fr_rf (fun _ _ => rfl) ⟨fun _ => ⟨rfl, rfl, rfl⟩, fun q => absurd q h12, by omega⟩ | exact absurd (by assumption) h12
        · refine ⟨?_, ?_⟩
          · first | omega | exact tm3_rg hM _ | exact ⟨by omega, by have := h.2.2.2; omega⟩
          refine ⟨fun c4 => ?_, fun c4 => ?_⟩
          · first | exact k 0 M hM fr_rf (fun _ _ => rfl) ⟨fun _ => ⟨rfl, rfl, rfl⟩, fun q => absurd q h12, by omega⟩ | exact absurd (by assumption) h12
          · refine ⟨?_, ?_⟩
            · first | omega | exact tm3_rg hM _ | exact ⟨by omega, by have := h.2.2.2; omega⟩
            refine ⟨fun c5 => ?_, fun c5 => ?_⟩
            · first | exact k 0 M hM fr_rf (fun _ _ => rfl) ⟨fun _ => ⟨rfl, rfl, rfl⟩, fun q => absurd q h12, by omega⟩ | exact absurd (by assumption) h12
            · first | exact k 0 M hM fr_rf (fun _ _ => rfl) ⟨fun _ => ⟨rfl, rfl, rfl⟩, fun q => absurd q h12, by omega⟩ | exact absurd (by assumption) h12
      · refine ⟨?_, ?_, ?_⟩
        · first | omega | exact tm3_rg hM _ | exact ⟨by omega, by have := h.2.2.2; omega⟩
        · first | omega | exact tm3_rg hM _ | exact ⟨by omega, by have := h.2.2.2; omega⟩
        refine ⟨fun c3 => ?_, fun c3 => ?_⟩
        · refine ⟨fun c4 => ?_, fun c4 => ?_⟩
          · first | exact k 0 M hM fr_rf (fun _ _ => rfl) ⟨fun _ => ⟨rfl, rfl, rfl⟩, fun q => absurd q h12, by omega⟩ | exact absurd (by assumption) h12
          · refine ⟨?_, ?_⟩
            · first | omega | exact tm3_rg hM _ | exact ⟨by omega, by have := h.2.2.2; omega⟩
            refine ⟨fun c5 => ?_, fun c5 => ?_⟩
            · first | exact k 0 M hM fr_rf (fun _ _ => rfl) ⟨fun _ => ⟨rfl, rfl, rfl⟩, fun q => absurd q h12, by omega⟩ | exact absurd (by assumption) h12
            · refine ⟨?_, ?_⟩
              · first | omega | exact tm3_rg hM _ | exact ⟨by omega, by have := h.2.2.2; omega⟩
              refine ⟨fun c6 => ?_, fun c6 => ?_⟩
              · first | exact k 0 M hM fr_rf (fun _ _ => rfl) ⟨fun _ => ⟨rfl, rfl, rfl⟩, fun q => absurd q h12, by omega⟩ | exact absurd (by assumption) h12
              · first | exact k 0 M hM fr_rf (fun _ _ => rfl) ⟨fun _ => ⟨rfl, rfl, rfl⟩, fun q => absurd q h12, by omega⟩ | exact absurd (by assumption) h12
        · refine ⟨fun c4 => ?_, fun c4 => ?_⟩
          · refine ⟨fun c5 => ?_, fun c5 => ?_⟩
            · first | exact k 0 M hM fr_rf (fun _ _ => rfl) ⟨fun _ => ⟨rfl, rfl, rfl⟩, fun q => absurd q h12, by omega⟩ | exact absurd (by assumption) h12
            · refine ⟨?_, ?_⟩
              · first | omega | exact tm3_rg hM _ | exact ⟨by omega, by have := h.2.2.2; omega⟩
              refine ⟨fun c6 => ?_, fun c6 => ?_⟩
              · first | exact k 0 M hM fr_rf (fun _ _ => rfl) ⟨fun _ => ⟨rfl, rfl, rfl⟩, fun q => absurd q h12, by omega⟩ | exact absurd (by assumption) h12
              · refine ⟨?_, ?_⟩
                · first | omega | exact tm3_rg hM _ | exact ⟨by omega, by have := h.2.2.2; omega⟩
                refine ⟨fun c7 => ?_, fun c7 => ?_⟩
                · first | exact k 0 M hM fr_rf (fun _ _ => rfl) ⟨fun _ => ⟨rfl, rfl, rfl⟩, fun q => absurd q h12, by omega⟩ | exact absurd (by assumption) h12
                · first | exact k 0 M hM fr_rf (fun _ _ => rfl) ⟨fun _ => ⟨rfl, rfl, rfl⟩, fun q => absurd q h12, by omega⟩ | exact absurd (by assumption) h12
          · refine ⟨?_, ?_⟩
            · first | omega | exact tm3_rg hM _ | exact ⟨by omega, by have := h.2.2.2; omega⟩
            exact absurd (by assumption) h12
