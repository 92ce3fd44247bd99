/-! MODEL: the whole text is read -/
abbrev LM3 (M : M3) : List (Int × Int × Int) := lwL (M 44 0 9) (M 52 0)
def arm3 (N : M3) (ps : List (Int × Int × Int)) : Prop := ∀ k : Int, 0 ≤ k → k < (ps.length : Int) → N 53 0 k = (gp3 ps k).1 ∧ N 54 0 k = (gp3 ps k).2.1 ∧ N 55 0 k = (gp3 ps k).2.2
def RdC (M : M3) : Prop := (0 ≤ M 44 0 9 ∧ M 44 0 9 ≤ 200) ∧ (M 44 0 11 = 0 ∨ (M 44 0 11 = 1 ∧ M 44 0 12 = lwF (M 44 0 9) (M 52 0) ∧ (lwF (M 44 0 9) (M 52 0) = -1 → M 44 0 13 = ((LM3 M).length : Int) ∧ arm3 M (LM3 M))))
theorem LM3_eq {M N : M3} (h : N 52 = M 52) (h9 : N 44 0 9 = M 44 0 9) : LM3 N = LM3 M := by unfold LM3; rw [h, h9]
theorem RdC.of {M0 N : M3} {f : Int} {qs : List (Int × Int × Int)} (h9 : 0 ≤ M0 44 0 9 ∧ M0 44 0 9 ≤ 200) (h52 : N 52 = M0 52) (e9 : N 44 0 9 = M0 44 0 9) (h11 : N 44 0 11 = 1) (hR : lwA (M0 44 0 9) (M0 52 0) = (f, qs)) (h12 : N 44 0 12 = f) (ha : f = -1 → N 44 0 13 = (qs.length : Int) ∧ arm3 N qs) : RdC N ∧ N 44 0 11 = 1 := by
  have hF : lwF (M0 44 0 9) (M0 52 0) = f := by unfold lwF; rw [hR]
  refine ⟨⟨by rw [e9]; exact h9, Or.inr ⟨h11, ?_, ?_⟩⟩, h11⟩
  · rw [e9, h52, hF]; exact h12
  · rw [LM3_eq h52 e9, e9, h52, hF]
    intro q
    have hL : LM3 M0 = qs := by show lwL _ _ = qs; unfold lwL; rw [if_pos (hF.trans q), hR]
    rw [hL]
    exact ha q
theorem lX12_reads {E : E3} {Q : Q3} {M0 : M3} (h9 : 0 ≤ M0 44 0 9 ∧ M0 44 0 9 ≤ 200) (k : ∀ (N : M3), RM3 N → (∀ q : Nat, q ∉ ([44, 53, 54, 55] : List Nat) → N q = M0 q) → (∀ j : Int, j ∉ ([11, 12, 13, 17] : List Int) → N 44 0 j = M0 44 0 j) → (RdC N ∧ N 44 0 11 = 1) → Q none N) : ∀ (f : Nat) (M : M3) (p : Int) (ps : List (Int × Int × Int)), (f : Int) + 1 + (ps.length : Int) = 51 → 4 * (ps.length : Int) ≤ p → p ≤ M0 44 0 9 → (∀ q : Nat, q ∉ ([44, 53, 54, 55] : List Nat) → M q = M0 q) → (∀ j : Int, j ∉ ([11, 12, 13, 17] : List Int) → M 44 0 j = M0 44 0 j) → M 44 0 11 = 1 → ((pa3 (tm3 M0) p).1 ≠ -1 → M 44 0 12 = (pa3 (tm3 M0) p).1) → ((pa3 (tm3 M0) p).1 = -1 → M 44 0 12 = -1 ∧ M 44 0 17 = (pa3 (tm3 M0) p).2.2 ∧ M 44 0 13 = (ps.length : Int) + 1 ∧ arm3 M (ps ++ [(pa3 (tm3 M0) p).2.1])) → pz3 (M0 44 0 9) (tm3 M0) (f + 1) p ps = lwA (M0 44 0 9) (M0 52 0) → G3 E YX12_reads Q 32 [(0, vR 44 0)] [] M := by
  intro f
  induction f with
  | zero =>
    intro M p ps h1 h2 h3 h4 h5 h6 h7 h8 h10
    refine g3_rm fun hM => ?_
    rw [pz3.eq_2] at h10
    have hP : (pa3 (tm3 M0) p).1 ≠ -1 := fun q => by
      have ok := pa3_ok q (by omega)
      have a := ok.2.1
      have b := ok.2.2
      have c : p + 3 ≤ M0 44 0 9 := Int.le_trans a b
      omega
    rw [if_pos hP] at h10
    refine sX12_reads_32 ⟨fun _ => k M hM h4 h5 (RdC.of h9 (h4 52 (by decide)) (h5 9 (by decide)) h6 h10.symm (h7 hP) (fun q => absurd q hP)), fun c => absurd (by rw [← h7 hP]; exact c) hP⟩
  | succ f ih =>
    intro M p ps h1 h2 h3 h4 h5 h6 h7 h8 h10
    refine g3_rm fun hM => ?_
    have e9 : M 44 0 9 = M0 44 0 9 := h5 9 (by decide)
    have et : tm3 M = tm3 M0 := tm3_fr (h4 52 (by decide)) e9
    rw [pz3.eq_2] at h10
    by_cases hP : (pa3 (tm3 M0) p).1 ≠ -1
    · rw [if_pos hP] at h10
      exact sX12_reads_32 ⟨fun _ => k M hM h4 h5 (RdC.of h9 (h4 52 (by decide)) (h5 9 (by decide)) h6 h10.symm (h7 hP) (fun q => absurd q hP)), fun c => absurd (by rw [← h7 hP]; exact c) hP⟩
    · rw [if_neg hP] at h10
      have hP1 := Classical.byContradiction hP
      obtain ⟨g1, g2, g3, g4⟩ := h8 hP1
      have ok := pa3_ok hP1 (by omega)
      have okA : p + 3 ≤ (pa3 (tm3 M0) p).2.2 := ok.2.1
      have okB : (pa3 (tm3 M0) p).2.2 ≤ M0 44 0 9 := ok.2.2
      have hlen : ((ps ++ [(pa3 (tm3 M0) p).2.1]).length : Int) = (ps.length : Int) + 1 := by simp
      refine sX12_reads_32 ⟨fun c => absurd g1 c, fun _ => ?_⟩
      rw [g2, e9, et]
      refine ⟨fun c => ?_, fun c => ⟨⟨by omega, by rw [e9]; exact h9⟩, by rw [← et]; exact tm3_rg hM _, fun c2 => ⟨by omega, ⟨(up3_nj (by decide)).trans g1, by rw [up3_eq]; omega, by rw [up3_nj (by decide)]; omega, by rw [up3_nj (by decide), e9]; exact h9⟩, ?_⟩, fun c2 => ?_⟩⟩
      · rw [if_pos c] at h10
        exact k M hM h4 h5 (RdC.of h9 (h4 52 (by decide)) e9 h6 h10.symm g1 (fun _ => ⟨by rw [hlen]; exact g3, g4⟩))
      · intro N1 hN1 hf1 hs1 hp1
        rw [if_neg (by omega), if_pos c2] at h10
        unfold poRd at hp1
        rw [tm3_up (by decide) (Or.inr (by decide)), et, up3_eq] at hp1
        have fs : ∀ j : Int, j ∉ ([12, 13, 17] : List Int) → N1 44 0 j = M 44 0 j := fun j hj => (hs1 j hj).trans (up3_nj (fun q => hj (by rw [q]; decide)))
        refine ih N1 _ _ (by omega) (by omega) (by omega) (fr_tr h4 (fr_tr (fr_up fr_rf (by decide)) hf1)) (fun j hj => (fs j (fun q => hj (by simp at q ⊢; omega))).trans (h5 j hj)) ((fs 11 (by decide)).trans h6) hp1.1 (fun q => ?_) h10
        obtain ⟨a1, a2, a3, a4⟩ := hp1.2 q
        rw [up3_nj (by decide), g3] at a3
        refine ⟨a1, a2, by rw [hlen]; exact a3, fun z z1 z2 => ?_⟩
        obtain ⟨b1, b2, b3⟩ := a4 z
        rw [up3_nj (by decide), g3] at b1 b2 b3
        have hl2 : (((ps ++ [(pa3 (tm3 M0) p).2.1]) ++ [(pa3 (tm3 M0) ((pa3 (tm3 M0) p).2.2 + 1)).2.1]).length : Int) = (ps.length : Int) + 2 := by simp
        by_cases qz : z = (ps.length : Int) + 1
        · rw [if_pos qz] at b1 b2 b3
          rw [gp3_new (by rw [hlen]; exact qz)]
          exact ⟨b1, b2, b3⟩
        · rw [if_neg qz, up3_nr (by decide)] at b1 b2 b3
          rw [gp3_old (by rw [hlen]; omega)]
          obtain ⟨d1, d2, d3⟩ := g4 z z1 (by rw [hlen]; omega)
          exact ⟨b1.trans d1, b2.trans d2, b3.trans d3⟩
      · rw [if_neg (by omega), if_neg c2] at h10
        exact k _ (hM.up (by omega)) (fr_up h4 (by decide)) (fun j hj => (up3_nj (fun q => hj (by rw [q]; decide))).trans (h5 j hj)) (RdC.of h9 ((up3_r (by decide)).trans (h4 52 (by decide))) ((up3_nj (by decide)).trans e9) ((up3_nj (by decide)).trans h6) h10.symm up3_eq (fun q => by omega))
theorem kX12_reads {E : E3} {Q : Q3} {M : M3} (h : RdC M) (k : ∀ (N : M3), RM3 N → (∀ q : Nat, q ∉ ([44, 53, 54, 55] : List Nat) → N q = M q) → (∀ j : Int, j ∉ ([11, 12, 13, 17] : List Int) → N 44 0 j = M 44 0 j) → (RdC N ∧ N 44 0 11 = 1) → Q none N) : C3 E YX12_reads [vR 44 0] M Q := by
  refine c3_rm fun hM => ?_
  have h9 := h.1
  refine sX12_reads ⟨fun _ => ?_, fun c => k M hM fr_rf (fun _ _ => rfl) ⟨h, ?_⟩⟩
  · refine ⟨⟨by rw [up3_nj (by decide), up3_eq], by rw [up3_nj (by decide), up3_nj (by decide), up3_eq]; omega, by rw [up3_eq]; omega, by rw [up3_nj (by decide), up3_nj (by decide), up3_nj (by decide), up3_nj (by decide)]; exact h9⟩, ?_⟩
    intro N1 hN1 hf1 hs1 hp1
    have et : tm3 (up3 (up3 (up3 (up3 M 44 0 11 1) 44 0 17 0) 44 0 12 (-1)) 44 0 13 0) = tm3 M := by rw [tm3_up (by decide) (Or.inr (by decide)), tm3_up (by decide) (Or.inr (by decide)), tm3_up (by decide) (Or.inr (by decide)), tm3_up (by decide) (Or.inr (by decide))]
    unfold poRd at hp1
    rw [et, show (up3 (up3 (up3 (up3 M 44 0 11 1) 44 0 17 0) 44 0 12 (-1)) 44 0 13 0) 44 0 17 = 0 by rw [up3_nj (by decide), up3_nj (by decide), up3_eq]] at hp1
    refine lX12_reads h9 k 50 N1 0 [] (by simp) (by simp) h9.1 (fr_tr (fr_up (fr_up (fr_up (fr_up fr_rf (by decide)) (by decide)) (by decide)) (by decide)) hf1) (fun j hj => ?_) ?_ hp1.1 (fun q => ?_) rfl
    · rw [hs1 j (fun q => hj (by simp at q ⊢; omega)), up3_nj (fun q => hj (by rw [q]; decide)), up3_nj (fun q => hj (by rw [q]; decide)), up3_nj (fun q => hj (by rw [q]; decide)), up3_nj (fun q => hj (by rw [q]; decide))]
    · rw [hs1 11 (by decide), up3_nj (by decide), up3_nj (by decide), up3_nj (by decide), up3_eq]
    · obtain ⟨a1, a2, a3, a4⟩ := hp1.2 q
      rw [up3_eq] at a3
      refine ⟨a1, a2, a3, fun z z1 z2 => ?_⟩
      obtain ⟨b1, b2, b3⟩ := a4 z
      have hz : z = 0 := by simp at z2; omega
      rw [up3_eq, if_pos hz] at b1 b2 b3
      rw [gp3_new (by rw [hz]; rfl)]
      exact ⟨b1, b2, b3⟩
  · rcases h.2 with q | q
    · exact absurd q c
    · exact q.1
