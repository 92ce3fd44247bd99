/-! CLASS: votes and lists, whole -/
theorem lX0_nc {E : E3} {Q : Q3} {M : M3} {x1 x2 : Int} (hI : IB M) (hx : (0 ≤ x1 ∧ x1 ≤ 5) ∧ x2 = mChs M x1) (k : Q (some (vI (mChd M x1))) M) : ∀ (n : Nat) (x4 x3 : Int), 0 ≤ x4 → x4 + n = 2 → x3 = chN (mChs M x1) (mWnt M x1) x4.toNat → G3 E YX0_namesToChange Q 11 [(0, vR 10 0), (1, vI x1), (2, vI x2), (3, vI x3), (4, vI x4)] [] M := by
  intro n
  induction n with
  | zero =>
    intro x4 x3 h1 h2 h3
    refine g3_rm fun hM => ?_
    have hz := hI.2.2.1.2.1
    have hr := mWnt_rg hz x1 x4
    have hc := mChs_rg M x1
    have hn := chN_rg (now := mChs M x1) (mWnt_rg hz x1) x4.toNat
    refine sX0_namesToChange_11 ?_
    refine ⟨?_, ?_⟩
    · first | omega | exact ⟨hI, hx.1, by omega, by omega⟩ | (exfalso; omega)
    refine ⟨fun c1 => ?_, fun c1 => ?_⟩
    · first
        | (exfalso; omega)
        | (rw [show x4 = 2 by omega] at h3
           rw [h3]
           exact k)
    · refine ⟨?_, ?_⟩
      · first | omega | exact ⟨hI, hx.1, by omega, by omega⟩ | (exfalso; omega)
      refine ⟨fun c2 => ?_, fun c2 => ?_⟩
      · refine ⟨?_, ?_, ?_⟩
        · first | omega | exact ⟨hI, hx.1, by omega, by omega⟩ | (exfalso; omega)
        · first | omega | exact ⟨hI, hx.1, by omega, by omega⟩ | (exfalso; omega)
        refine ⟨fun c3 => ?_, fun c3 => ?_⟩
        · exfalso; omega
        · refine ⟨?_, ?_⟩
          · first | omega | exact ⟨hI, hx.1, by omega, by omega⟩ | (exfalso; omega)
          refine ⟨fun c4 => ?_, fun c4 => ?_⟩
          · exfalso; omega
          · refine ⟨fun c5 => ?_, fun c5 => ?_⟩
            · exfalso; omega
            · exfalso; omega
      · exfalso; omega
  | succ n ih =>
    intro x4 x3 h1 h2 h3
    refine g3_rm fun hM => ?_
    have hz := hI.2.2.1.2.1
    have hr := mWnt_rg hz x1 x4
    have hc := mChs_rg M x1
    have hn := chN_rg (now := mChs M x1) (mWnt_rg hz x1) x4.toNat
    refine sX0_namesToChange_11 ?_
    refine ⟨?_, ?_⟩
    · first | omega | exact ⟨hI, hx.1, by omega, by omega⟩ | (exfalso; omega)
    refine ⟨fun c1 => ?_, fun c1 => ?_⟩
    · exfalso; omega
    · refine ⟨?_, ?_⟩
      · first | omega | exact ⟨hI, hx.1, by omega, by omega⟩ | (exfalso; omega)
      refine ⟨fun c2 => ?_, fun c2 => ?_⟩
      · refine ⟨?_, ?_, ?_⟩
        · first | omega | exact ⟨hI, hx.1, by omega, by omega⟩ | (exfalso; omega)
        · first | omega | exact ⟨hI, hx.1, by omega, by omega⟩ | (exfalso; omega)
        refine ⟨fun c3 => ?_, fun c3 => ?_⟩
        · refine ih _ _ (by omega) (by omega) ?_
          rw [chN_s h1, ← h3]
          first
            | exact (if_pos (by unfold chP; omega)).symm
            | exact (if_neg (by unfold chP; omega)).symm
        · refine ⟨?_, ?_⟩
          · first | omega | exact ⟨hI, hx.1, by omega, by omega⟩ | (exfalso; omega)
          refine ⟨fun c4 => ?_, fun c4 => ?_⟩
          · refine ih _ _ (by omega) (by omega) ?_
            rw [chN_s h1, ← h3]
            first
              | exact (if_pos (by unfold chP; omega)).symm
              | exact (if_neg (by unfold chP; omega)).symm
          · refine ⟨fun c5 => ?_, fun c5 => ?_⟩
            · refine ih _ _ (by omega) (by omega) ?_
              rw [chN_s h1, ← h3]
              first
                | exact (if_pos (by unfold chP; omega)).symm
                | exact (if_neg (by unfold chP; omega)).symm
            · refine ih _ _ (by omega) (by omega) ?_
              rw [chN_s h1, ← h3]
              first
                | exact (if_pos (by unfold chP; omega)).symm
                | exact (if_neg (by unfold chP; omega)).symm
      · refine ih _ _ (by omega) (by omega) ?_
        rw [chN_s h1, ← h3]
        first
          | exact (if_pos (by unfold chP; omega)).symm
          | exact (if_neg (by unfold chP; omega)).symm
theorem kX0_namesToChange {E : E3} {Q : Q3} {M : M3} {x1 : Int} (h : IB M ∧ 0 ≤ x1 ∧ x1 ≤ 5) (k : Q (some (vI (mChd M x1))) M) : C3 E YX0_namesToChange [vR 10 0, vI x1] M Q :=
  sX0_namesToChange ⟨h, lX0_nc h.1 ⟨h.2, rfl⟩ k 2 0 (-1) (by omega) (by omega) rfl⟩
theorem mRoll_q {M N : M3} (h : Hm M N) (a b c : Int) : mRoll N a b c = mRoll M a b c := by unfold mRoll; rw [h 44 (by decide), h 45 (by decide), h 46 (by decide), h 50 (by decide)]
theorem mWnt_q {M N : M3} (h : Hm M N) (b s : Int) : mWnt N b s = mWnt M b s := by unfold mWnt; simp only [mRoll_q h]
theorem cn3_all {f : Int → Bool} : ∀ n : Nat, (∀ k : Int, 0 ≤ k → k < n → f k = true) → cnN f n = n
  | 0, _ => rfl
  | n + 1, h => by
    show cnN f n + (if f n = true then 1 else 0) = _
    rw [cn3_all n fun k a b => h k a (by omega), if_pos (h n (by omega) (by omega))]
    omega
abbrev wOf (M : M3) (b : Int) : Int := mWnt M b 1
theorem lX0_nw {E : E3} {Q : Q3} {M0 : M3} {x1 : Int} (hI : IB M0) (hx : 0 ≤ x1 ∧ x1 ≤ 6) (k : ∀ (a : Int) (N : M3), RM3 N → (∀ q : Nat, q ∉ ([12] : List Nat) → N q = M0 q) → wnP (wOf M0) x1 a → Q (some (vI a)) N) : ∀ (n : Nat) (x3 x2 : Int) (M : M3), 0 ≤ x3 → x3 + n = 6 → (∀ q : Nat, q ∉ ([12] : List Nat) → M q = M0 q) → x2 = cn3 x3 (fun b => decide (wOf M0 b ≠ -1)) → (∀ i j : Int, 0 ≤ i → i < j → j < x2 → M 12 0 i ≤ M 12 0 j) → (∀ v : Int, cn3 x2 (fun i => decide (M 12 0 i ≤ v)) = cn3 x3 (fun b => decide (wOf M0 b ≠ -1 ∧ wOf M0 b ≤ v))) → G3 E YX0_namesToWin Q 4 [(0, vR 10 0), (1, vI x1), (2, vI x2), (3, vI x3)] [] M := by
  intro n
  induction n with
  | zero =>
    intro x3 x2 M h1 h2 h3 h4 h5 h6
    refine g3_rm fun hM => ?_
    have hm : Hm M0 M := Hm.fr h3 (by decide)
    have hB : IB M := hI.s (Es.fr h3 (by decide))
    have rx := cn3_rg h1 (fun b => decide (wOf M0 b ≠ -1))
    have ew : mWnt M x3 1 = wOf M0 x3 := mWnt_q hm x3 1
    have rw3 := mWnt_rg hI.2.2.1.2.1 x3 1
    have ew2 : wOf M0 x3 = mWnt M0 x3 1 := rfl
    refine sX0_namesToWin_4 ?_
    simp only [ew]
    refine ⟨?_, ?_⟩
    · first | omega | exact ⟨hB, by omega, by omega⟩ | exact ⟨by omega, by omega, h5⟩ | (exfalso; omega)
    refine ⟨fun c1 => ?_, fun c1 => ?_⟩
    · refine ⟨?_, ?_, ?_⟩
      · first | omega | exact ⟨hB, by omega, by omega⟩ | exact ⟨by omega, by omega, h5⟩ | (exfalso; omega)
      · first | omega | exact ⟨hB, by omega, by omega⟩ | exact ⟨by omega, by omega, h5⟩ | (exfalso; omega)
      refine ⟨fun c2 => ?_, fun c2 => ?_⟩
      · first
          | (exfalso; omega)
          | (have e6 : x3 = 6 := by omega
             rw [e6] at h4 h6
             have key : ∀ (m : Nat) (x4 y3 : Int), 0 ≤ x4 → x4 + m = x1 → y3 = sm3 x4 (fun k => M 12 0 k) → G3 E YX0_namesToWin Q 52 [(0, vR 10 0), (1, vI x1), (3, vI y3), (4, vI x4)] [] M := by
               intro m
               induction m with
               | zero =>
                 intro x4 y3 g1 g2 g3
                 refine sX0_namesToWin_52 ⟨by omega, by omega, fun _ => ?_, fun c => absurd c (by omega)⟩
                 refine k _ M hM h3 (Or.inr ⟨by omega, fun j => M 12 0 j, fun j j0 j1 => ⟨?_, ?_⟩, by rw [g3, show x4 = x1 by omega]⟩)
                 · show j < cn3 6 (fun b => decide (wOf M0 b ≠ -1 ∧ wOf M0 b ≤ M 12 0 j))
                   rw [← h6]
                   have a1 := cn3_all (f := fun i => decide (M 12 0 i ≤ M 12 0 j)) (j + 1).toNat (fun i i0 i1 => decide_eq_true (by
                     by_cases e : i = j
                     · rw [e]; exact Int.le_refl _
                     · exact h5 i j i0 (by omega) (by omega)))
                   have a2 := cn3_mono (a := j + 1) (b := x2) (by omega) (by omega) (fun i => decide (M 12 0 i ≤ M 12 0 j))
                   have a3 : cn3 (j + 1) (fun i => decide (M 12 0 i ≤ M 12 0 j)) = cnN (fun i => decide (M 12 0 i ≤ M 12 0 j)) (j + 1).toNat := rfl
                   omega
                 · show cn3 6 (fun b => decide (wOf M0 b ≠ -1 ∧ wOf M0 b ≤ M 12 0 j - 1)) ≤ j
                   rw [← h6]
                   have a1 : cn3 x2 (fun i => decide (M 12 0 i ≤ M 12 0 j - 1)) ≤ cn3 x2 (fun i => decide (i < j)) := cn3_le fun i i0 i1 q => decide_eq_true (by
                     have q' := of_decide_eq_true q
                     exact Classical.byContradiction fun z => by
                       by_cases e : i = j
                       · rw [e] at q'; omega
                       · have := h5 j i j0 (by omega) i1
                         omega)
                   have a2 : cn3 x2 (fun i => decide (i < j)) = j := cn3_thr (by omega) fun i i0 i1 => by rw [decide_eq_true_eq]
                   omega
               | succ m ih2 =>
                 intro x4 y3 g1 g2 g3
                 refine sX0_namesToWin_52 ⟨by omega, by omega, fun c => absurd c (by omega), fun _ => ⟨by omega, ?_⟩⟩
                 exact ih2 _ _ (by omega) (by omega) (by rw [sm3_s g1, g3])
             exact key x1.toNat 0 0 (by omega) (by omega) rfl)
      · first
          | (exfalso; omega)
          | (refine k (-1) M hM h3 (Or.inl ⟨?_, rfl⟩)
             rw [show x3 = 6 by omega] at h4
             show cn3 6 (fun b => decide (wOf M0 b ≠ -1)) < x1
             omega)
    · refine ⟨?_, ?_, ?_⟩
      · first | omega | exact ⟨hB, by omega, by omega⟩ | exact ⟨by omega, by omega, h5⟩ | (exfalso; omega)
      · first | omega | exact ⟨hB, by omega, by omega⟩ | exact ⟨by omega, by omega, h5⟩ | (exfalso; omega)
      refine ⟨fun c2 => ?_, fun c2 => ?_⟩
      · first
          | (exfalso; omega)
          | (have e6 : x3 = 6 := by omega
             rw [e6] at h4 h6
             have key : ∀ (m : Nat) (x4 y3 : Int), 0 ≤ x4 → x4 + m = x1 → y3 = sm3 x4 (fun k => M 12 0 k) → G3 E YX0_namesToWin Q 52 [(0, vR 10 0), (1, vI x1), (3, vI y3), (4, vI x4)] [] M := by
               intro m
               induction m with
               | zero =>
                 intro x4 y3 g1 g2 g3
                 refine sX0_namesToWin_52 ⟨by omega, by omega, fun _ => ?_, fun c => absurd c (by omega)⟩
                 refine k _ M hM h3 (Or.inr ⟨by omega, fun j => M 12 0 j, fun j j0 j1 => ⟨?_, ?_⟩, by rw [g3, show x4 = x1 by omega]⟩)
                 · show j < cn3 6 (fun b => decide (wOf M0 b ≠ -1 ∧ wOf M0 b ≤ M 12 0 j))
                   rw [← h6]
                   have a1 := cn3_all (f := fun i => decide (M 12 0 i ≤ M 12 0 j)) (j + 1).toNat (fun i i0 i1 => decide_eq_true (by
                     by_cases e : i = j
                     · rw [e]; exact Int.le_refl _
                     · exact h5 i j i0 (by omega) (by omega)))
                   have a2 := cn3_mono (a := j + 1) (b := x2) (by omega) (by omega) (fun i => decide (M 12 0 i ≤ M 12 0 j))
                   have a3 : cn3 (j + 1) (fun i => decide (M 12 0 i ≤ M 12 0 j)) = cnN (fun i => decide (M 12 0 i ≤ M 12 0 j)) (j + 1).toNat := rfl
                   omega
                 · show cn3 6 (fun b => decide (wOf M0 b ≠ -1 ∧ wOf M0 b ≤ M 12 0 j - 1)) ≤ j
                   rw [← h6]
                   have a1 : cn3 x2 (fun i => decide (M 12 0 i ≤ M 12 0 j - 1)) ≤ cn3 x2 (fun i => decide (i < j)) := cn3_le fun i i0 i1 q => decide_eq_true (by
                     have q' := of_decide_eq_true q
                     exact Classical.byContradiction fun z => by
                       by_cases e : i = j
                       · rw [e] at q'; omega
                       · have := h5 j i j0 (by omega) i1
                         omega)
                   have a2 : cn3 x2 (fun i => decide (i < j)) = j := cn3_thr (by omega) fun i i0 i1 => by rw [decide_eq_true_eq]
                   omega
               | succ m ih2 =>
                 intro x4 y3 g1 g2 g3
                 refine sX0_namesToWin_52 ⟨by omega, by omega, fun c => absurd c (by omega), fun _ => ⟨by omega, ?_⟩⟩
                 exact ih2 _ _ (by omega) (by omega) (by rw [sm3_s g1, g3])
             exact key x1.toNat 0 0 (by omega) (by omega) rfl)
      · refine ⟨?_, ?_⟩
        · first | omega | exact ⟨hB, by omega, by omega⟩ | exact ⟨by omega, by omega, h5⟩ | (exfalso; omega)
        intro N1 hN1 hf1 hp1
        first
          | (exfalso; omega)
          | (have e6 : x3 = 6 := by omega
             rw [e6] at h4 h6
             have key : ∀ (m : Nat) (x4 y3 : Int), 0 ≤ x4 → x4 + m = x1 → y3 = sm3 x4 (fun k => M 12 0 k) → G3 E YX0_namesToWin Q 52 [(0, vR 10 0), (1, vI x1), (3, vI y3), (4, vI x4)] [] M := by
               intro m
               induction m with
               | zero =>
                 intro x4 y3 g1 g2 g3
                 refine sX0_namesToWin_52 ⟨by omega, by omega, fun _ => ?_, fun c => absurd c (by omega)⟩
                 refine k _ M hM h3 (Or.inr ⟨by omega, fun j => M 12 0 j, fun j j0 j1 => ⟨?_, ?_⟩, by rw [g3, show x4 = x1 by omega]⟩)
                 · show j < cn3 6 (fun b => decide (wOf M0 b ≠ -1 ∧ wOf M0 b ≤ M 12 0 j))
                   rw [← h6]
                   have a1 := cn3_all (f := fun i => decide (M 12 0 i ≤ M 12 0 j)) (j + 1).toNat (fun i i0 i1 => decide_eq_true (by
                     by_cases e : i = j
                     · rw [e]; exact Int.le_refl _
                     · exact h5 i j i0 (by omega) (by omega)))
                   have a2 := cn3_mono (a := j + 1) (b := x2) (by omega) (by omega) (fun i => decide (M 12 0 i ≤ M 12 0 j))
                   have a3 : cn3 (j + 1) (fun i => decide (M 12 0 i ≤ M 12 0 j)) = cnN (fun i => decide (M 12 0 i ≤ M 12 0 j)) (j + 1).toNat := rfl
                   omega
                 · show cn3 6 (fun b => decide (wOf M0 b ≠ -1 ∧ wOf M0 b ≤ M 12 0 j - 1)) ≤ j
                   rw [← h6]
                   have a1 : cn3 x2 (fun i => decide (M 12 0 i ≤ M 12 0 j - 1)) ≤ cn3 x2 (fun i => decide (i < j)) := cn3_le fun i i0 i1 q => decide_eq_true (by
                     have q' := of_decide_eq_true q
                     exact Classical.byContradiction fun z => by
                       by_cases e : i = j
                       · rw [e] at q'; omega
                       · have := h5 j i j0 (by omega) i1
                         omega)
                   have a2 : cn3 x2 (fun i => decide (i < j)) = j := cn3_thr (by omega) fun i i0 i1 => by rw [decide_eq_true_eq]
                   omega
               | succ m ih2 =>
                 intro x4 y3 g1 g2 g3
                 refine sX0_namesToWin_52 ⟨by omega, by omega, fun c => absurd c (by omega), fun _ => ⟨by omega, ?_⟩⟩
                 exact ih2 _ _ (by omega) (by omega) (by rw [sm3_s g1, g3])
             exact key x1.toNat 0 0 (by omega) (by omega) rfl)
  | succ n ih =>
    intro x3 x2 M h1 h2 h3 h4 h5 h6
    refine g3_rm fun hM => ?_
    have hm : Hm M0 M := Hm.fr h3 (by decide)
    have hB : IB M := hI.s (Es.fr h3 (by decide))
    have rx := cn3_rg h1 (fun b => decide (wOf M0 b ≠ -1))
    have ew : mWnt M x3 1 = wOf M0 x3 := mWnt_q hm x3 1
    have rw3 := mWnt_rg hI.2.2.1.2.1 x3 1
    have ew2 : wOf M0 x3 = mWnt M0 x3 1 := rfl
    refine sX0_namesToWin_4 ?_
    simp only [ew]
    refine ⟨?_, ?_⟩
    · first | omega | exact ⟨hB, by omega, by omega⟩ | exact ⟨by omega, by omega, h5⟩ | (exfalso; omega)
    refine ⟨fun c1 => ?_, fun c1 => ?_⟩
    · refine ⟨?_, ?_, ?_⟩
      · first | omega | exact ⟨hB, by omega, by omega⟩ | exact ⟨by omega, by omega, h5⟩ | (exfalso; omega)
      · first | omega | exact ⟨hB, by omega, by omega⟩ | exact ⟨by omega, by omega, h5⟩ | (exfalso; omega)
      refine ⟨fun c2 => ?_, fun c2 => ?_⟩
      · first
          | (exfalso; omega)
          | (have hq : wOf M0 x3 ≠ -1 := by assumption
             refine ih _ _ _ (by omega) (by omega) (fr_tr h3 hf1) (by rw [cn3_t h1 (decide_eq_true hq), h4]) (fun i j a b c => hp1.1 i j a b (by omega)) (fun v => ?_)
             rw [hp1.2 v, h6 v, cn3_s h1]
             congr 1
             by_cases q : wOf M0 x3 ≤ v
             · rw [if_pos q, if_pos (decide_eq_true ⟨hq, q⟩)]
             · rw [if_neg q, if_neg fun z => q (of_decide_eq_true z).2])
          | (have hq : ¬ wOf M0 x3 ≠ -1 := by omega
             refine ih _ _ _ (by omega) (by omega) h3 (by rw [cn3_f h1 (decide_eq_false hq), h4]) h5 (fun v => ?_)
             rw [h6 v, cn3_f h1 (decide_eq_false fun z => hq z.1)])
      · exfalso; omega
    · refine ⟨?_, ?_, ?_⟩
      · first | omega | exact ⟨hB, by omega, by omega⟩ | exact ⟨by omega, by omega, h5⟩ | (exfalso; omega)
      · first | omega | exact ⟨hB, by omega, by omega⟩ | exact ⟨by omega, by omega, h5⟩ | (exfalso; omega)
      refine ⟨fun c2 => ?_, fun c2 => ?_⟩
      · first
          | (exfalso; omega)
          | (have hq : wOf M0 x3 ≠ -1 := by assumption
             refine ih _ _ _ (by omega) (by omega) (fr_tr h3 hf1) (by rw [cn3_t h1 (decide_eq_true hq), h4]) (fun i j a b c => hp1.1 i j a b (by omega)) (fun v => ?_)
             rw [hp1.2 v, h6 v, cn3_s h1]
             congr 1
             by_cases q : wOf M0 x3 ≤ v
             · rw [if_pos q, if_pos (decide_eq_true ⟨hq, q⟩)]
             · rw [if_neg q, if_neg fun z => q (of_decide_eq_true z).2])
          | (have hq : ¬ wOf M0 x3 ≠ -1 := by omega
             refine ih _ _ _ (by omega) (by omega) h3 (by rw [cn3_f h1 (decide_eq_false hq), h4]) h5 (fun v => ?_)
             rw [h6 v, cn3_f h1 (decide_eq_false fun z => hq z.1)])
      · refine ⟨?_, ?_⟩
        · first | omega | exact ⟨hB, by omega, by omega⟩ | exact ⟨by omega, by omega, h5⟩ | (exfalso; omega)
        intro N1 hN1 hf1 hp1
        first
          | (exfalso; omega)
          | (have hq : wOf M0 x3 ≠ -1 := by assumption
             refine ih _ _ _ (by omega) (by omega) (fr_tr h3 hf1) (by rw [cn3_t h1 (decide_eq_true hq), h4]) (fun i j a b c => hp1.1 i j a b (by omega)) (fun v => ?_)
             rw [hp1.2 v, h6 v, cn3_s h1]
             congr 1
             by_cases q : wOf M0 x3 ≤ v
             · rw [if_pos q, if_pos (decide_eq_true ⟨hq, q⟩)]
             · rw [if_neg q, if_neg fun z => q (of_decide_eq_true z).2])
          | (have hq : ¬ wOf M0 x3 ≠ -1 := by omega
             refine ih _ _ _ (by omega) (by omega) h3 (by rw [cn3_f h1 (decide_eq_false hq), h4]) h5 (fun v => ?_)
             rw [h6 v, cn3_f h1 (decide_eq_false fun z => hq z.1)])
theorem kX0_namesToWin {E : E3} {Q : Q3} {M : M3} {x1 : Int} (h : IB M ∧ 0 ≤ x1 ∧ x1 ≤ 6) (k : ∀ (a : Int) (N : M3), RM3 N → (∀ q : Nat, q ∉ ([12] : List Nat) → N q = M q) → wnP (wOf M) x1 a → Q (some (vI a)) N) : C3 E YX0_namesToWin [vR 10 0, vI x1] M Q :=
  sX0_namesToWin (lX0_nw h.1 h.2 k 6 0 0 M (by omega) (by omega) fr_rf rfl (fun i j a b c => by omega) (fun v => rfl))
def poPr (M : M3) (r : Int) (N : M3) : Prop := r = mGn M ∧ N 36 0 0 = M 44 0 39 + 1 ∧ (∀ l : Int, (N 37 0 l = if l = M 44 0 39 then M 44 0 0 else M 37 0 l) ∧ (N 38 0 l = if l = M 44 0 39 then mRoll M (-1) (-1) 1 else M 38 0 l) ∧ (N 39 0 l = if l = M 44 0 39 then mGn M else M 39 0 l) ∧ (N 40 0 l = if l = M 44 0 39 then mSk M else M 40 0 l)) ∧ (∀ p : Int, 0 ≤ p → p < M 44 0 1 → N 13 p 5 = nSt M p ∧ N 13 p 3 = nFe M p ∧ (N 13 p 0 = if lsP M p then -1 else M 13 p 0) ∧ ∀ j : Int, j ≠ 0 → j ≠ 3 → j ≠ 5 → N 13 p j = M 13 p j) ∧ ∀ p j : Int, ¬ (0 ≤ p ∧ p < M 44 0 1) → N 13 p j = M 13 p j
theorem kX7_print {E : E3} {Q : Q3} {M : M3} (h : IB M ∧ M 44 0 39 < 30) (k : ∀ (r : Int) (N : M3), RM3 N → (∀ q : Nat, q ∉ ([13, 36, 37, 38, 39, 40, 41] : List Nat) → N q = M q) → poPr M r N → Q (some (vI r)) N) : C3 E YX7_print [vR 36 0] M Q := by
  refine c3_rm fun hM => ?_
  obtain ⟨hI, hl⟩ := h
  have hz := hI.2.2.1.2.1
  have hL := hI.2.2.2.2.2.2.1
  have hL1 := hL.1
  have hL2 := hL.2.1
  have hc := hI.cty
  have hD := hI.1.1
  have rr := mRoll_rg hz (-1) (-1) 1
  have et : ∀ x y : Int, fTally (up3 (up3 M 36 0 0 x) 37 0 (M 44 0 39) y) (-1) (-1) 1 = mRoll M (-1) (-1) 1 := fun x y => by
    have e : fTally (up3 (up3 M 36 0 0 x) 37 0 (M 44 0 39) y) (-1) (-1) 1 = fTally M (-1) (-1) 1 := by
      unfold fTally
      rw [up3_r (show (10 : Nat) ≠ 37 by decide), up3_r (show (10 : Nat) ≠ 36 by decide), up3_r (show (13 : Nat) ≠ 37 by decide), up3_r (show (13 : Nat) ≠ 36 by decide)]
    rw [e, hI.tly (by omega)]
  have e10 : ∀ x y : Int, up3 (up3 M 36 0 0 x) 37 0 (M 44 0 39) y 10 0 0 = M 10 0 0 := fun x y => by rw [up3_nr (by decide), up3_nr (by decide)]
  refine sX7_print ?_
  rw [hL1, hD]
  simp only [et, e10]
  generalize hA : up3 (up3 (up3 M 36 0 0 (M 44 0 39 + 1)) 37 0 (M 44 0 39) (M 44 0 0)) 38 0 (M 44 0 39) (mRoll M (-1) (-1) 1) = A
  have fA : ∀ q : Nat, q ∉ ([36, 37, 38] : List Nat) → A q = M q := by
    rw [← hA]
    exact fr_up (fr_up (fr_up fr_rf (by decide)) (by decide)) (by decide)
  have hAc : iCty A := iCty_of (by rw [fA 10 (by decide)]) (by rw [fA 44 (by decide)]) (fA 13 (by decide)) (fA 45 (by decide)) (fA 46 (by decide)) (fA 47 (by decide)) (fA 48 (by decide)) (fA 49 (by decide)) (fA 50 (by decide)) (fA 51 (by decide)) hI.2.2.1
  have a44 := fA 44 (by decide)
  have a45 := fA 45 (by decide)
  have a48 := fA 48 (by decide)
  have a49 := fA 49 (by decide)
  have a50 := fA 50 (by decide)
  have a51 := fA 51 (by decide)
  have a13 := fA 13 (by decide)
  have elp : ∀ p : Int, lsP A p ↔ lsP M p := fun p => by unfold lsP; rw [a48, a49, a50, a51]
  have eG : mGi A = mGi M := funext fun b => by unfold mGi; simp only [lsP, a48, a49, a50, a51, a44, a45]
  have eN : mGn A = mGn M := by unfold mGn; simp only [lsP, a48, a49, a50, a51, a44]
  have rn : 0 ≤ mGn M ∧ mGn M ≤ 48 := by
    have := cn3_rg hz.1 (fun p => decide (lsP M p))
    unfold mGn
    omega
  refine ⟨by omega, by omega, ⟨by omega, by omega⟩, by omega, hAc, fun r1 N1 hN1 hf1 hp1 => ?_⟩
  obtain ⟨d1, d2, d3⟩ := hp1
  rw [eN] at d1
  rw [eG] at d2
  rw [a44, a13] at d3
  have d3' : ∀ p j : Int, N1 13 p j = if (0 ≤ p ∧ p < M 44 0 1) ∧ lsP M p then (if j = 5 then 3 else if j = 0 then -1 else M 13 p j) else M 13 p j := fun p j => by
    rw [d3 p j]
    have e := elp p
    by_cases q : (0 ≤ p ∧ p < M 44 0 1) ∧ lsP M p
    · rw [if_pos q, if_pos ⟨q.1, e.mpr q.2⟩, doV, a13]
    · rw [if_neg q, if_neg fun z => q ⟨z.1, e.mp z.2⟩]
  have n10 : N1 10 0 0 = M 44 0 1 := by rw [hf1 10 (by decide), fA 10 (by decide)]; exact hI.2.2.1.1
  have b13 : up3 N1 39 0 (M 44 0 39) r1 13 = N1 13 := up3_r (by decide)
  have b41 : up3 N1 39 0 (M 44 0 39) r1 41 = N1 41 := up3_r (by decide)
  have b10 : up3 N1 39 0 (M 44 0 39) r1 10 0 0 = M 44 0 1 := by rw [up3_nr (by decide)]; exact n10
  have q13 : ∀ p j : Int, j ≠ 0 → j ≠ 5 → N1 13 p j = M 13 p j := fun p j a b => by
    rw [d3' p j]
    by_cases q : (0 ≤ p ∧ p < M 44 0 1) ∧ lsP M p
    · rw [if_pos q, if_neg b, if_neg a]
    · rw [if_neg q]
  have hpre : preFr (up3 N1 39 0 (M 44 0 39) r1) := by
    refine ⟨by rw [b10]; exact hz, fun p a b => ?_, fun b b0 b1 => ?_⟩
    · rw [b13, q13 p 3 (by decide) (by decide)]
      obtain ⟨⟨p1, p2, p3, p4, p5, p6⟩, w⟩ := hI.p a b
      rw [p3]
      exact w.2.2.2.2.2.1
    · rw [b41, d2 b b0 b1]
      exact mGi_rg hz b
  refine ⟨by omega, hpre, fun r2 N2 hN2 hf2 hp2 => ?_⟩
  obtain ⟨f1, f2⟩ := hp2
  rw [b10] at f1 f2
  have sn : ∀ p : Int, 0 ≤ p → p < M 44 0 1 → sn3 (up3 N1 39 0 (M 44 0 39) r1) p = if lsP M p then 0 else if M 50 0 p < 3 then mGi M (M 45 0 p) else 0 := fun p a b => by
    obtain ⟨⟨p1, p2, p3, p4, p5, p6⟩, q1, q2, q3, _⟩ := hI.p a (show p < 48 by omega)
    have v0 : N1 13 p 0 = if lsP M p then -1 else M 13 p 0 := by
      rw [d3' p 0]
      by_cases q : lsP M p
      · rw [if_pos ⟨⟨a, b⟩, q⟩, if_neg (by decide), if_pos rfl, if_pos q]
      · rw [if_neg fun z => q z.2, if_neg q]
    unfold sn3
    rw [b13, b41]
    by_cases q : lsP M p
    · rw [if_pos q] at v0 ⊢
      rw [v0]
      rfl
    · rw [if_neg q] at v0 ⊢
      rw [v0]
      by_cases l : M 50 0 p < 3
      · rw [if_pos l, q1 (by omega), if_pos q3]
        exact d2 _ q3.1 (by omega)
      · rw [if_neg l, q2 (by omega)]
        rfl
  have s5 : ∀ p : Int, 0 ≤ p → p < M 44 0 1 → N1 13 p 5 = st1 M p := fun p a b => by
    obtain ⟨⟨p1, p2, p3, p4, p5, p6⟩, _⟩ := hI.p a (show p < 48 by omega)
    rw [d3' p 5]
    unfold st1
    by_cases q : lsP M p
    · rw [if_pos ⟨⟨a, b⟩, q⟩, if_pos rfl, if_pos q]
    · rw [if_neg fun z => q z.2, if_neg q, p5]
  have s3 : ∀ p : Int, 0 ≤ p → p < M 44 0 1 → N1 13 p 3 = M 48 0 p := fun p a b => by
    obtain ⟨⟨p1, p2, p3, p4, p5, p6⟩, _⟩ := hI.p a (show p < 48 by omega)
    rw [q13 p 3 (by decide) (by decide), p3]
  have sg : ∀ p : Int, 0 ≤ p → p < M 44 0 1 → (0 < sn3 (up3 N1 39 0 (M 44 0 39) r1) p ↔ sgP M p) ∧ (sgP M p → sn3 (up3 N1 39 0 (M 44 0 39) r1) p = mGi M (M 45 0 p)) := fun p a b => by
    rw [sn p a b]
    by_cases q : lsP M p
    · rw [if_pos q]
      exact ⟨⟨fun z => by omega, fun z => absurd q z.1⟩, fun z => absurd q z.1⟩
    · rw [if_neg q]
      by_cases l : M 50 0 p < 3
      · rw [if_pos l]
        exact ⟨⟨fun z => ⟨q, l, z⟩, fun z => z.2.2⟩, fun _ => rfl⟩
      · rw [if_neg l]
        exact ⟨⟨fun z => by omega, fun z => absurd z.2.1 l⟩, fun z => absurd z.2.1 l⟩
  have sk : ∀ p : Int, 0 ≤ p → p < M 44 0 1 → (fkP (up3 N1 39 0 (M 44 0 39) r1) p ↔ skP M p) := fun p a b => by
    obtain ⟨g1, g2⟩ := sg p a b
    unfold fkP skP
    rw [b13, s5 p a b, s3 p a b]
    constructor
    · intro z
      have y := g1.mp z.1
      have e := g2 y
      refine ⟨y, ?_, by have := z.2.2; omega⟩
      have := z.2.1
      unfold st1 at this
      rw [if_neg y.1] at this
      exact this
    · intro z
      have e := g2 z.1
      refine ⟨g1.mpr z.1, ?_, by have := z.2.2; omega⟩
      unfold st1
      rw [if_neg z.1.1]
      exact z.2.1
  have ek : r2 = mSk M := by
    rw [f1]
    exact cn3_congr fun p a b => decide_eq_decide.mpr (sk p a b)
  have rk : 0 ≤ mSk M ∧ mSk M ≤ 48 := by
    have := cn3_rg hz.1 (fun p => decide (skP M p))
    unfold mSk
    omega
  refine ⟨by omega, ?_⟩
  have val : ∀ r : Nat, r ∉ ([13, 36, 37, 38, 39, 40, 41] : List Nat) → up3 N2 40 0 (M 44 0 39) r2 r = M r := fun r hr => by
    have z : ∀ x ∈ ([13, 39, 40, 41, 36, 37, 38] : List Nat), x ∈ ([13, 36, 37, 38, 39, 40, 41] : List Nat) := by decide
    rw [up3_r (fun e => hr (z r (by rw [e]; decide))), hf2 r (fun e => hr (z r (by rw [List.mem_singleton.mp e]; decide))), up3_r (fun e => hr (z r (by rw [e]; decide))), hf1 r (fun e => hr (by
      have : ∀ x ∈ ([13, 41] : List Nat), x ∈ ([13, 36, 37, 38, 39, 40, 41] : List Nat) := by decide
      exact this r e)), fA r (fun e => hr (by
      have : ∀ x ∈ ([36, 37, 38] : List Nat), x ∈ ([13, 36, 37, 38, 39, 40, 41] : List Nat) := by decide
      exact this r e))]
  refine k r1 _ (hN2.up (by omega)) val ⟨d1, ?_, fun l => ⟨?_, ?_, ?_, ?_⟩, fun p a b => ⟨?_, ?_, ?_, fun j j0 j3 j5 => ?_⟩, fun p j hp => ?_⟩
  · rw [up3_nr (by decide), hf2 36 (by decide), up3_nr (by decide), hf1 36 (by decide), ← hA, up3_nr (by decide), up3_nr (by decide), up3_eq]
  · rw [up3_nr (by decide), hf2 37 (by decide), up3_nr (by decide), hf1 37 (by decide), ← hA, up3_nr (by decide)]
    by_cases e : l = M 44 0 39
    · rw [if_pos e, e, up3_eq]
    · rw [if_neg e, up3_nj e, up3_nr (by decide)]
  · rw [up3_nr (by decide), hf2 38 (by decide), up3_nr (by decide), hf1 38 (by decide), ← hA]
    by_cases e : l = M 44 0 39
    · rw [if_pos e, e, up3_eq]
    · rw [if_neg e, up3_nj e, up3_nr (by decide), up3_nr (by decide)]
  · rw [up3_nr (by decide), hf2 39 (by decide)]
    by_cases e : l = M 44 0 39
    · rw [if_pos e, e, up3_eq, d1]
    · rw [if_neg e, up3_nj e, hf1 39 (by decide), fA 39 (by decide)]
  · by_cases e : l = M 44 0 39
    · rw [if_pos e, e, up3_eq, ek]
    · rw [if_neg e, up3_nj e, hf2 40 (by decide), up3_nr (by decide), hf1 40 (by decide), fA 40 (by decide)]
  · rw [up3_nr (by decide), f2 p 5, if_pos ⟨a, b⟩, frV, if_pos rfl]
    have e := sk p a b
    have v : up3 N1 39 0 (M 44 0 39) r1 13 p 5 = st1 M p := by rw [b13, s5 p a b]
    by_cases y : skP M p
    · rw [if_pos (e.mpr y)]
      unfold nSt
      rw [if_neg y.1.1, if_pos y]
    · rw [if_neg (fun z => y (e.mp z)), v]
      unfold nSt st1
      by_cases q : lsP M p
      · rw [if_pos q, if_pos q]
      · rw [if_neg q, if_neg q, if_neg y]
  · rw [up3_nr (by decide), f2 p 3, if_pos ⟨a, b⟩, frV, if_neg (by decide), if_pos rfl, b13, s3 p a b]
    obtain ⟨g1, g2⟩ := sg p a b
    have rf := (hI.p a (show p < 48 by omega)).2.2.2.2.2.2.1
    unfold nFe
    by_cases y : sgP M p
    · rw [if_pos (g1.mpr y)]
      by_cases w : M 48 0 p < 9
      · rw [if_pos ⟨y, w⟩]
        omega
      · rw [if_neg fun z => w z.2]
        omega
    · rw [if_neg fun z => y (g1.mp z), if_neg fun z => y z.1]
  · rw [up3_nr (by decide), f2 p 0, if_pos ⟨a, b⟩, frV, if_neg (by decide), if_neg (by decide), b13, d3' p 0]
    by_cases q : lsP M p
    · rw [if_pos q, if_pos ⟨⟨a, b⟩, q⟩, if_neg (by decide), if_pos rfl]
    · rw [if_neg q, if_neg fun z => q z.2]
  · rw [up3_nr (by decide), f2 p j, if_pos ⟨a, b⟩, frV, if_neg j5, if_neg j3, b13, q13 p j j0 j5]
  · rw [up3_nr (by decide), f2 p j, if_neg hp, b13, d3' p j, if_neg fun z => hp z.1]
