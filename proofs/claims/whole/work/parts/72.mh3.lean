/-! MODEL: changed, wins, sees -/
abbrev chP (now best : Int) (w : Int → Int) (s : Int) : Prop := s ≠ now ∧ w s ≠ -1 ∧ (best = -1 ∨ w s < best)
def chN (now : Int) (w : Int → Int) : Nat → Int
  | 0 => -1
  | n + 1 => if chP now (chN now w n) w n then w n else chN now w n
theorem chN_s {now x : Int} {w : Int → Int} (h : 0 ≤ x) : chN now w (x + 1).toNat = if chP now (chN now w x.toNat) w x then w x else chN now w x.toNat := by
  obtain ⟨k, rfl⟩ := Int.eq_ofNat_of_zero_le h
  rfl
def mChd (M : M3) (b : Int) : Int := chN (mChs M b) (mWnt M b) 2
theorem mWnt_rg {M : M3} (h : 0 ≤ M 44 0 1 ∧ M 44 0 1 ≤ 48) (b s : Int) : -1 ≤ mWnt M b s ∧ mWnt M b s ≤ 96 := by
  have r3 := mRoll_rg h b s 0
  have r4 := mRoll_rg h b s 2
  unfold mWnt
  split <;> omega
theorem mChs_rg (M : M3) (b : Int) : -1 ≤ mChs M b ∧ mChs M b ≤ 1 := by
  unfold mChs
  split
  · omega
  · split <;> omega
theorem chN_rg {now : Int} {w : Int → Int} (h : ∀ s : Int, -1 ≤ w s ∧ w s ≤ 96) : ∀ n : Nat, -1 ≤ chN now w n ∧ chN now w n ≤ 96
  | 0 => by unfold chN; omega
  | n + 1 => by
    have h1 := chN_rg (now := now) h n
    have h2 := h n
    unfold chN
    split <;> omega
theorem lX12_changed {E : E3} {Q : Q3} {M : M3} {x1 x2 : Int} (hz : 0 ≤ M 44 0 1 ∧ M 44 0 1 ≤ 48) (hx : (0 ≤ x1 ∧ x1 ≤ 5) ∧ x2 = mChs M x1) (k : Q (some (vI (mChd M x1))) M) : ∀ (n : Nat) (x4 x3 : Int), 0 ≤ x4 → x4 + n = 2 → x3 = chN (mChs M x1) (mWnt M x1) x4.toNat → G3 E YX12_changed Q 21 [(0, vR 44 0), (1, vI x1), (2, vI x2), (3, vI x3), (4, vI x4)] [] M := by
  intro n
  induction n with
  | zero =>
    intro x4 x3 h1 h2 h3
    refine g3_rm fun hM => ?_
    have hr := mWnt_rg hz x1 x4
    have hc := mChs_rg M x1
    have hn := chN_rg (now := mChs M x1) (mWnt_rg hz x1) x4.toNat
    refine sX12_changed_21 ?_
    refine ⟨?_, ?_⟩
    · first | omega | (exfalso; omega)
    refine ⟨fun c1 => ?_, fun c1 => ?_⟩
    · first
        | (exfalso; omega)
        | (rw [show x4 = 2 by omega] at h3
           rw [h3]
           exact k)
    · refine ⟨?_, ?_⟩
      · first | omega | (exfalso; omega)
      refine ⟨fun c2 => ?_, fun c2 => ?_⟩
      · refine ⟨?_, ?_, ?_⟩
        · first | omega | (exfalso; omega)
        · first | omega | (exfalso; omega)
        refine ⟨fun c3 => ?_, fun c3 => ?_⟩
        · exfalso; omega
        · refine ⟨?_, ?_⟩
          · first | omega | (exfalso; omega)
          refine ⟨fun c4 => ?_, fun c4 => ?_⟩
          · exfalso; omega
          · refine ⟨fun c5 => ?_, fun c5 => ?_⟩
            · exfalso; omega
            · exfalso; omega
      · exfalso; omega
  | succ n ih =>
    intro x4 x3 h1 h2 h3
    refine g3_rm fun hM => ?_
    have hr := mWnt_rg hz x1 x4
    have hc := mChs_rg M x1
    have hn := chN_rg (now := mChs M x1) (mWnt_rg hz x1) x4.toNat
    refine sX12_changed_21 ?_
    refine ⟨?_, ?_⟩
    · first | omega | (exfalso; omega)
    refine ⟨fun c1 => ?_, fun c1 => ?_⟩
    · exfalso; omega
    · refine ⟨?_, ?_⟩
      · first | omega | (exfalso; omega)
      refine ⟨fun c2 => ?_, fun c2 => ?_⟩
      · refine ⟨?_, ?_, ?_⟩
        · first | omega | (exfalso; omega)
        · first | omega | (exfalso; omega)
        refine ⟨fun c3 => ?_, fun c3 => ?_⟩
        · refine ih _ _ (by omega) (by omega) ?_
          rw [chN_s h1, ← h3]
          first
            | exact (if_pos (by unfold chP; omega)).symm
            | exact (if_neg (by unfold chP; omega)).symm
        · refine ⟨?_, ?_⟩
          · first | omega | (exfalso; omega)
          refine ⟨fun c4 => ?_, fun c4 => ?_⟩
          · refine ih _ _ (by omega) (by omega) ?_
            rw [chN_s h1, ← h3]
            first
              | exact (if_pos (by unfold chP; omega)).symm
              | exact (if_neg (by unfold chP; omega)).symm
          · refine ⟨fun c5 => ?_, fun c5 => ?_⟩
            · refine ih _ _ (by omega) (by omega) ?_
              rw [chN_s h1, ← h3]
              first
                | exact (if_pos (by unfold chP; omega)).symm
                | exact (if_neg (by unfold chP; omega)).symm
            · refine ih _ _ (by omega) (by omega) ?_
              rw [chN_s h1, ← h3]
              first
                | exact (if_pos (by unfold chP; omega)).symm
                | exact (if_neg (by unfold chP; omega)).symm
      · refine ih _ _ (by omega) (by omega) ?_
        rw [chN_s h1, ← h3]
        first
          | exact (if_pos (by unfold chP; omega)).symm
          | exact (if_neg (by unfold chP; omega)).symm
theorem kX12_changed {E : E3} {Q : Q3} {M : M3} {x1 : Int} (h : (0 ≤ M 44 0 1 ∧ M 44 0 1 ≤ 48) ∧ (-2147483648 ≤ x1 ∧ x1 ≤ 2147483647)) (k : Q (some (vI (if 0 ≤ x1 ∧ x1 ≤ 5 then mChd M x1 else -2))) M) : C3 E YX12_changed [vR 44 0, vI x1] M Q := by
  obtain ⟨h1, h2⟩ := h
  refine sX12_changed ?_
  refine ⟨?_, ?_⟩
  · omega
  refine ⟨fun c1 => ?_, fun c1 => ?_⟩
  · refine ⟨?_, ?_⟩
    · omega
    rw [if_pos (by assumption)] at k
    exact lX12_changed h1 ⟨by assumption, rfl⟩ k 2 0 (-1) (by omega) (by omega) rfl
  · rw [if_neg (by assumption)] at k
    exact k
/-! bits that are taken -/
abbrev bt3 (t b : Int) : Prop := and3 (shr3 t b) 1 ≠ 0
theorem bt3_or : ∀ t : Fin 64, ∀ b : Fin 6, ∀ c : Fin 6, (bt3 (or3 t.val (shl3 1 c.val)) b.val ↔ (b.val = c.val ∨ bt3 t.val b.val)) ∧ 0 ≤ or3 t.val (shl3 1 c.val) ∧ or3 t.val (shl3 1 c.val) < 64 := by decide +kernel
theorem bt3_set {t b c : Int} (ht : 0 ≤ t ∧ t < 64) (hb : 0 ≤ b ∧ b < 6) (hc : 0 ≤ c ∧ c < 6) : (bt3 (or3 t (shl3 1 c)) b ↔ (b = c ∨ bt3 t b)) ∧ 0 ≤ or3 t (shl3 1 c) ∧ or3 t (shl3 1 c) < 64 := by
  obtain ⟨t', rfl⟩ := Int.eq_ofNat_of_zero_le ht.1
  obtain ⟨b', rfl⟩ := Int.eq_ofNat_of_zero_le hb.1
  obtain ⟨c', rfl⟩ := Int.eq_ofNat_of_zero_le hc.1
  have h := bt3_or ⟨t', by omega⟩ ⟨b', by omega⟩ ⟨c', by omega⟩
  refine ⟨h.1.trans ?_, h.2⟩
  show (b' = c' ∨ _) ↔ ((b' : Int) = (c' : Int) ∨ _)
  rw [Int.ofNat_inj]
theorem bt3_0' : ∀ b : Fin 6, ¬ bt3 0 b.val := by decide +kernel
theorem bt3_0 {b : Int} (h : 0 ≤ b) (h2 : b < 6) : ¬ bt3 0 b := by
  obtain ⟨b', rfl⟩ := Int.eq_ofNat_of_zero_le h
  exact bt3_0' ⟨b', by omega⟩
/-- the k-th least (from 0) of the values that are there -/
abbrev le3 (w : Int → Int) (v : Int) : Int := cn3 6 fun b => decide (w b ≠ -1 ∧ w b ≤ v)
def kth3 (w : Int → Int) (k v : Int) : Prop := k < le3 w v ∧ le3 w (v - 1) ≤ k
theorem le3_mono {w : Int → Int} {v u : Int} (h : v ≤ u) : le3 w v ≤ le3 w u := cn3_le fun b _ _ q => by
  have := of_decide_eq_true q
  exact decide_eq_true ⟨this.1, by omega⟩
theorem kth3_u {w : Int → Int} {k v u : Int} (h : kth3 w k v) (h2 : kth3 w k u) : v = u := by
  by_cases q : v < u
  · have := le3_mono (w := w) (show v ≤ u - 1 by omega)
    have := h.1
    have := h2.2
    omega
  · by_cases z : u < v
    · have := le3_mono (w := w) (show u ≤ v - 1 by omega)
      have := h2.1
      have := h.2
      omega
    · omega
def wnP (w : Int → Int) (m a : Int) : Prop := (cn3 6 (fun b => decide (w b ≠ -1)) < m ∧ a = -1) ∨ (m ≤ cn3 6 (fun b => decide (w b ≠ -1)) ∧ ∃ v : Int → Int, (∀ k : Int, 0 ≤ k → k < m → kth3 w k (v k)) ∧ a = sm3 m v)
theorem wnP_u {w : Int → Int} {m a a' : Int} (h : wnP w m a) (h2 : wnP w m a') : a = a' := by
  rcases h with ⟨h, e⟩ | ⟨h, v, hv, e⟩
  · rcases h2 with ⟨h2, e2⟩ | ⟨h2, _⟩
    · omega
    · omega
  · rcases h2 with ⟨h2, e2⟩ | ⟨h2, u, hu, e2⟩
    · omega
    · rw [e, e2]
      exact sm3_congr fun k a b => kth3_u (hv k a b) (hu k a b)
/-- what has been taken: x3 the bits, x4 how many; x2 the sum -/
def wnI (w : Int → Int) (x2 x3 x4 : Int) : Prop := (0 ≤ x3 ∧ x3 < 64) ∧ cn3 6 (fun b => decide (bt3 x3 b)) = x4 ∧ (∀ b : Int, 0 ≤ b → b < 6 → bt3 x3 b → w b ≠ -1) ∧ (∀ b c : Int, 0 ≤ b → b < 6 → 0 ≤ c → c < 6 → bt3 x3 b → w c ≠ -1 → ¬ bt3 x3 c → w b ≤ w c) ∧ ∃ v : Int → Int, (∀ k : Int, 0 ≤ k → k < x4 → kth3 w k (v k)) ∧ x2 = sm3 x4 v
theorem cn3_one {n c : Int} {f g : Int → Bool} (h : 0 ≤ c ∧ c < n) (hf : f c = false) (hg : g c = true) (he : ∀ k : Int, 0 ≤ k → k < n → k ≠ c → g k = f k) : cn3 n g = cn3 n f + 1 := by
  have key : ∀ m : Nat, (m : Int) ≤ n → cnN g m = cnN f m + (if c < m then 1 else 0) := by
    intro m
    induction m with
    | zero => intro _; rw [if_neg (by omega)]; rfl
    | succ m ih =>
      intro hm
      have e1 : cnN g (m + 1) = cnN g m + (if g m = true then 1 else 0) := rfl
      have e2 : cnN f (m + 1) = cnN f m + (if f m = true then 1 else 0) := rfl
      rw [e1, e2, ih (by omega)]
      by_cases q : (m : Int) = c
      · have a1 : (if g m = true then (1 : Int) else 0) = 1 := if_pos (by rw [q]; exact hg)
        have a2 : (if f m = true then (1 : Int) else 0) = 0 := if_neg (by rw [q, hf]; decide)
        have a3 : (if c < (m : Int) then (1 : Int) else 0) = 0 := if_neg (by omega)
        have a4 : (if c < ((m + 1 : Nat) : Int) then (1 : Int) else 0) = 1 := if_pos (by omega)
        rw [a1, a2, a3, a4]
      · rw [he m (by omega) (by omega) q]
        have a3 : (if c < ((m + 1 : Nat) : Int) then (1 : Int) else 0) = (if c < (m : Int) then (1 : Int) else 0) := by
          by_cases z : c < (m : Int)
          · rw [if_pos z, if_pos (by omega)]
          · rw [if_neg z, if_neg (by omega)]
        rw [a3]
        omega
  unfold cn3
  rw [key n.toNat (by omega), if_pos (by omega)]
theorem wnI_s {w : Int → Int} {x2 x3 x4 c : Int} (h : wnI w x2 x3 x4) (hc : 0 ≤ c ∧ c < 6) (h1 : ¬ bt3 x3 c) (h2 : w c ≠ -1) (h3 : ∀ b : Int, 0 ≤ b → b < 6 → w b ≠ -1 → ¬ bt3 x3 b → w c ≤ w b) (h4 : 0 ≤ x4) : wnI w (x2 + w c) (or3 x3 (shl3 1 c)) (x4 + 1) := by
  obtain ⟨a1, a2, a3, a4, v, a5, a6⟩ := h
  have s : ∀ b : Int, 0 ≤ b ∧ b < 6 → (bt3 (or3 x3 (shl3 1 c)) b ↔ (b = c ∨ bt3 x3 b)) := fun b hb => (bt3_set a1 hb hc).1
  refine ⟨(bt3_set a1 hc hc).2, ?_, fun b b0 b1 q => ?_, fun b d b0 b1 d0 d1 q q2 q3 => ?_, fun k => if k = x4 then w c else v k, fun k k0 k1 => ?_, ?_⟩
  · rw [← a2]
    refine cn3_one hc (decide_eq_false h1) (decide_eq_true ((s c hc).mpr (Or.inl rfl))) fun k k0 k1 kn => ?_
    have := s k ⟨k0, k1⟩
    by_cases z : bt3 x3 k
    · rw [decide_eq_true z, decide_eq_true (this.mpr (Or.inr z))]
    · rw [decide_eq_false z, decide_eq_false (fun y => by rcases this.mp y with y | y; exact kn y; exact z y)]
  · rcases (s b ⟨b0, b1⟩).mp q with q | q
    · rw [q]; exact h2
    · exact a3 b b0 b1 q
  · have n1 : ¬ bt3 x3 d := fun z => q3 ((s d ⟨d0, d1⟩).mpr (Or.inr z))
    rcases (s b ⟨b0, b1⟩).mp q with q | q
    · rw [q]; exact h3 d d0 d1 q2 n1
    · exact a4 b d b0 b1 d0 d1 q q2 n1
  · show kth3 w k (if k = x4 then w c else v k)
    by_cases e : k = x4
    · rw [if_pos e, e]
      refine ⟨?_, ?_⟩
      · have e1 : cn3 6 (fun b => decide (bt3 x3 b ∨ b = c)) = x4 + 1 := by
          rw [← a2]
          refine cn3_one hc (decide_eq_false h1) (decide_eq_true (Or.inr rfl)) fun k k0 k1 kn => ?_
          by_cases z : bt3 x3 k
          · rw [decide_eq_true z, decide_eq_true (Or.inl z)]
          · rw [decide_eq_false z, decide_eq_false (fun y => by rcases y with y | y; exact z y; exact kn y)]
        have e2 : cn3 6 (fun b => decide (bt3 x3 b ∨ b = c)) ≤ le3 w (w c) := cn3_le fun b b0 b1 q => by
          refine decide_eq_true ?_
          rcases of_decide_eq_true q with q | q
          · exact ⟨a3 b b0 b1 q, a4 b c b0 b1 hc.1 hc.2 q h2 h1⟩
          · rw [q]; exact ⟨h2, Int.le_refl _⟩
        omega
      · rw [← a2]
        refine cn3_le fun b b0 b1 q => decide_eq_true ?_
        have q1 := of_decide_eq_true q
        exact Classical.byContradiction fun z => by
          have := h3 b b0 b1 q1.1 z
          omega
    · rw [if_neg e]
      exact a5 k k0 (by omega)
  · rw [sm3_s h4, if_pos rfl, a6]
    congr 1
    exact sm3_congr fun k k0 k1 => (if_neg (by omega)).symm
theorem lX12_wins {E : E3} {Q : Q3} {M : M3} {x1 : Int} (hz : 0 ≤ M 44 0 1 ∧ M 44 0 1 ≤ 48) (hx : 0 ≤ x1 ∧ x1 ≤ 6) (k : ∀ a : Int, wnP (fun b => mWnt M b 1) x1 a → Q (some (vI a)) M) : ∀ (n : Nat) (x4 x2 x3 : Int), 0 ≤ x4 → x4 + n = x1 → wnI (fun b => mWnt M b 1) x2 x3 x4 → G3 E YX12_wins Q 20 [(0, vR 44 0), (1, vI x1), (2, vI x2), (3, vI x3), (4, vI x4)] [] M := by
  intro n
  induction n with
  | zero =>
    intro x4 x2 x3 h1 h2 h3
    refine sX12_wins_20 ?_
    refine ⟨?_, ?_, ?_⟩
    · omega
    · omega
    refine ⟨fun c1 => ?_, fun c1 => ?_⟩
    · obtain ⟨a1, a2, a3, a4, v, a5, a6⟩ := h3
      refine k _ (Or.inr ⟨?_, v, fun k k0 k1 => a5 k k0 (by omega), by rw [a6, show x1 = x4 by omega]⟩)
      rw [show x1 = x4 by omega, ← a2]
      exact cn3_le fun b b0 b1 q => decide_eq_true (a3 b b0 b1 (of_decide_eq_true q))
    · exfalso; omega
  | succ n ih =>
    intro x4 x2 x3 h1 h2 h3
    have h3' := h3
    obtain ⟨a1, a2, a3, a4, v, a5, a6⟩ := h3'
    have inner : ∀ (m : Nat) (x6 x5 : Int), 0 ≤ x6 → x6 + m = 6 → ((x5 = -1 ∧ ∀ b : Int, 0 ≤ b → b < x6 → mWnt M b 1 ≠ -1 → bt3 x3 b) ∨ ((0 ≤ x5 ∧ x5 < x6) ∧ ¬ bt3 x3 x5 ∧ mWnt M x5 1 ≠ -1 ∧ ∀ b : Int, 0 ≤ b → b < x6 → mWnt M b 1 ≠ -1 → ¬ bt3 x3 b → mWnt M x5 1 ≤ mWnt M b 1)) → G3 E YX12_wins Q 32 [(0, vR 44 0), (1, vI x1), (2, vI x2), (3, vI x3), (4, vI x4), (5, vI x5), (6, vI x6)] [] M := by
      intro m
      induction m with
      | zero =>
        intro x6 x5 g1 g2 g3
        have e6 : x6 = 6 := by omega
        refine sX12_wins_32 ?_
        refine ⟨?_, ?_⟩
        · first | omega | exact ⟨by omega, by omega, by omega⟩ | (exfalso; omega)
        refine ⟨fun c1 => ?_, fun c1 => ?_⟩
        · refine ⟨?_, ?_⟩
          · first | omega | exact ⟨by omega, by omega, by omega⟩ | (exfalso; omega)
          refine ⟨fun c2 => ?_, fun c2 => ?_⟩
          · refine ⟨?_, ?_⟩
            · first | omega | exact ⟨by omega, by omega, by omega⟩ | (exfalso; omega)
            first
            | (exfalso; omega)
            | (rcases g3 with ⟨g3, g4⟩ | ⟨g3, g4, g5, g6⟩
               · exfalso; omega
               · refine ih _ _ _ (by omega) (by omega) (wnI_s h3 (by omega) g4 g5 (fun b b0 b1 q q2 => g6 b b0 (by omega) q q2) h1))
          · first
            | (exfalso; omega)
            | (rcases g3 with ⟨g3, g4⟩ | ⟨g3, g4, g5, g6⟩
               · refine k _ (Or.inl ⟨?_, rfl⟩)
                 have e : cn3 6 (fun b => decide (mWnt M b 1 ≠ -1)) ≤ cn3 6 (fun b => decide (bt3 x3 b)) := cn3_le fun b b0 b1 q => decide_eq_true (g4 b b0 (by omega) (of_decide_eq_true q))
                 show cn3 6 (fun b => decide (mWnt M b 1 ≠ -1)) < x1
                 omega
               · exfalso; omega)
        · refine ⟨fun c2 => ?_, fun c2 => ?_⟩
          · first
            | (exfalso; omega)
            | (rcases g3 with ⟨g3, g4⟩ | ⟨g3, g4, g5, g6⟩
               · exfalso; omega
               · refine ih _ _ _ (by omega) (by omega) (wnI_s h3 (by omega) g4 g5 (fun b b0 b1 q q2 => g6 b b0 (by omega) q q2) h1))
          · refine ⟨?_, ?_, ?_⟩
            · first | omega | exact ⟨by omega, by omega, by omega⟩ | (exfalso; omega)
            · first | omega | exact ⟨by omega, by omega, by omega⟩ | (exfalso; omega)
            refine ⟨fun c3 => ?_, fun c3 => ?_⟩
            · first
              | (exfalso; omega)
              | (rcases g3 with ⟨g3, g4⟩ | ⟨g3, g4, g5, g6⟩
                 · exfalso; omega
                 · refine ih _ _ _ (by omega) (by omega) (wnI_s h3 (by omega) g4 g5 (fun b b0 b1 q q2 => g6 b b0 (by omega) q q2) h1))
            · refine ⟨?_, ?_⟩
              · first | omega | exact ⟨by omega, by omega, by omega⟩ | (exfalso; omega)
              refine ⟨fun c4 => ?_, fun c4 => ?_⟩
              · first
                | (exfalso; omega)
                | (rcases g3 with ⟨g3, g4⟩ | ⟨g3, g4, g5, g6⟩
                   · exfalso; omega
                   · refine ih _ _ _ (by omega) (by omega) (wnI_s h3 (by omega) g4 g5 (fun b b0 b1 q q2 => g6 b b0 (by omega) q q2) h1))
              · refine ⟨?_, ?_, ?_⟩
                · first | omega | exact ⟨by omega, by omega, by omega⟩ | (exfalso; omega)
                · first | omega | exact ⟨by omega, by omega, by omega⟩ | (exfalso; omega)
                refine ⟨fun c5 => ?_, fun c5 => ?_⟩
                · first
                  | (exfalso; omega)
                  | (rcases g3 with ⟨g3, g4⟩ | ⟨g3, g4, g5, g6⟩
                     · exfalso; omega
                     · refine ih _ _ _ (by omega) (by omega) (wnI_s h3 (by omega) g4 g5 (fun b b0 b1 q q2 => g6 b b0 (by omega) q q2) h1))
                · first
                  | (exfalso; omega)
                  | (rcases g3 with ⟨g3, g4⟩ | ⟨g3, g4, g5, g6⟩
                     · exfalso; omega
                     · refine ih _ _ _ (by omega) (by omega) (wnI_s h3 (by omega) g4 g5 (fun b b0 b1 q q2 => g6 b b0 (by omega) q q2) h1))
      | succ m ih2 =>
        intro x6 x5 g1 g2 g3
        have hr := mWnt_rg hz x6 1
        have hr5 := mWnt_rg hz x5 1
        refine sX12_wins_32 ?_
        refine ⟨?_, ?_⟩
        · first | omega | (rcases g3 with g3 | g3 <;> omega) | (exfalso; omega)
        refine ⟨fun c1 => ?_, fun c1 => ?_⟩
        · refine ⟨?_, ?_⟩
          · first | omega | (rcases g3 with g3 | g3 <;> omega) | (exfalso; omega)
          refine ⟨fun c2 => ?_, fun c2 => ?_⟩
          · refine ⟨?_, ?_⟩
            · first | omega | (rcases g3 with g3 | g3 <;> omega) | (exfalso; omega)
            first
            | (exfalso; omega)
            | (refine ih2 _ _ (by omega) (by omega) (Or.inr ⟨by omega, fun z => z (by assumption), by assumption, fun b b0 b1 q q2 => ?_⟩)
               by_cases e : b = x6
               · rw [e]; omega
               · rcases g3 with ⟨g3, g4⟩ | ⟨g3, g4, g5, g6⟩
                 · exact absurd (g4 b b0 (by omega) q) q2
                 · have := g6 b b0 (by omega) q q2
                   omega)
            | (refine ih2 _ _ (by omega) (by omega) ?_
               rcases g3 with ⟨g3, g4⟩ | ⟨g3, g4, g5, g6⟩
               · refine Or.inl ⟨g3, fun b b0 b1 q => ?_⟩
                 by_cases e : b = x6
                 · rw [e] at q ⊢
                   first | assumption | contradiction | (exfalso; omega)
                 · exact g4 b b0 (by omega) q
               · refine Or.inr ⟨by omega, g4, g5, fun b b0 b1 q q2 => ?_⟩
                 by_cases e : b = x6
                 · rw [e] at q q2 ⊢
                   first | omega | contradiction
                 · exact g6 b b0 (by omega) q q2)
          · exfalso; omega
        · refine ⟨fun c2 => ?_, fun c2 => ?_⟩
          · first
            | (exfalso; omega)
            | (refine ih2 _ _ (by omega) (by omega) (Or.inr ⟨by omega, fun z => z (by assumption), by assumption, fun b b0 b1 q q2 => ?_⟩)
               by_cases e : b = x6
               · rw [e]; omega
               · rcases g3 with ⟨g3, g4⟩ | ⟨g3, g4, g5, g6⟩
                 · exact absurd (g4 b b0 (by omega) q) q2
                 · have := g6 b b0 (by omega) q q2
                   omega)
            | (refine ih2 _ _ (by omega) (by omega) ?_
               rcases g3 with ⟨g3, g4⟩ | ⟨g3, g4, g5, g6⟩
               · refine Or.inl ⟨g3, fun b b0 b1 q => ?_⟩
                 by_cases e : b = x6
                 · rw [e] at q ⊢
                   first | assumption | contradiction | (exfalso; omega)
                 · exact g4 b b0 (by omega) q
               · refine Or.inr ⟨by omega, g4, g5, fun b b0 b1 q q2 => ?_⟩
                 by_cases e : b = x6
                 · rw [e] at q q2 ⊢
                   first | omega | contradiction
                 · exact g6 b b0 (by omega) q q2)
          · refine ⟨?_, ?_, ?_⟩
            · first | omega | (rcases g3 with g3 | g3 <;> omega) | (exfalso; omega)
            · first | omega | (rcases g3 with g3 | g3 <;> omega) | (exfalso; omega)
            refine ⟨fun c3 => ?_, fun c3 => ?_⟩
            · first
              | (exfalso; omega)
              | (refine ih2 _ _ (by omega) (by omega) (Or.inr ⟨by omega, fun z => z (by assumption), by assumption, fun b b0 b1 q q2 => ?_⟩)
                 by_cases e : b = x6
                 · rw [e]; omega
                 · rcases g3 with ⟨g3, g4⟩ | ⟨g3, g4, g5, g6⟩
                   · exact absurd (g4 b b0 (by omega) q) q2
                   · have := g6 b b0 (by omega) q q2
                     omega)
              | (refine ih2 _ _ (by omega) (by omega) ?_
                 rcases g3 with ⟨g3, g4⟩ | ⟨g3, g4, g5, g6⟩
                 · refine Or.inl ⟨g3, fun b b0 b1 q => ?_⟩
                   by_cases e : b = x6
                   · rw [e] at q ⊢
                     first | assumption | contradiction | (exfalso; omega)
                   · exact g4 b b0 (by omega) q
                 · refine Or.inr ⟨by omega, g4, g5, fun b b0 b1 q q2 => ?_⟩
                   by_cases e : b = x6
                   · rw [e] at q q2 ⊢
                     first | omega | contradiction
                   · exact g6 b b0 (by omega) q q2)
            · refine ⟨?_, ?_⟩
              · first | omega | (rcases g3 with g3 | g3 <;> omega) | (exfalso; omega)
              refine ⟨fun c4 => ?_, fun c4 => ?_⟩
              · first
                | (exfalso; omega)
                | (refine ih2 _ _ (by omega) (by omega) (Or.inr ⟨by omega, fun z => z (by assumption), by assumption, fun b b0 b1 q q2 => ?_⟩)
                   by_cases e : b = x6
                   · rw [e]; omega
                   · rcases g3 with ⟨g3, g4⟩ | ⟨g3, g4, g5, g6⟩
                     · exact absurd (g4 b b0 (by omega) q) q2
                     · have := g6 b b0 (by omega) q q2
                       omega)
                | (refine ih2 _ _ (by omega) (by omega) ?_
                   rcases g3 with ⟨g3, g4⟩ | ⟨g3, g4, g5, g6⟩
                   · refine Or.inl ⟨g3, fun b b0 b1 q => ?_⟩
                     by_cases e : b = x6
                     · rw [e] at q ⊢
                       first | assumption | contradiction | (exfalso; omega)
                     · exact g4 b b0 (by omega) q
                   · refine Or.inr ⟨by omega, g4, g5, fun b b0 b1 q q2 => ?_⟩
                     by_cases e : b = x6
                     · rw [e] at q q2 ⊢
                       first | omega | contradiction
                     · exact g6 b b0 (by omega) q q2)
              · refine ⟨?_, ?_, ?_⟩
                · first | omega | (rcases g3 with g3 | g3 <;> omega) | (exfalso; omega)
                · first | omega | (rcases g3 with g3 | g3 <;> omega) | (exfalso; omega)
                refine ⟨fun c5 => ?_, fun c5 => ?_⟩
                · first
                  | (exfalso; omega)
                  | (refine ih2 _ _ (by omega) (by omega) (Or.inr ⟨by omega, fun z => z (by assumption), by assumption, fun b b0 b1 q q2 => ?_⟩)
                     by_cases e : b = x6
                     · rw [e]; omega
                     · rcases g3 with ⟨g3, g4⟩ | ⟨g3, g4, g5, g6⟩
                       · exact absurd (g4 b b0 (by omega) q) q2
                       · have := g6 b b0 (by omega) q q2
                         omega)
                  | (refine ih2 _ _ (by omega) (by omega) ?_
                     rcases g3 with ⟨g3, g4⟩ | ⟨g3, g4, g5, g6⟩
                     · refine Or.inl ⟨g3, fun b b0 b1 q => ?_⟩
                       by_cases e : b = x6
                       · rw [e] at q ⊢
                         first | assumption | contradiction | (exfalso; omega)
                       · exact g4 b b0 (by omega) q
                     · refine Or.inr ⟨by omega, g4, g5, fun b b0 b1 q q2 => ?_⟩
                       by_cases e : b = x6
                       · rw [e] at q q2 ⊢
                         first | omega | contradiction
                       · exact g6 b b0 (by omega) q q2)
                · first
                  | (exfalso; omega)
                  | (refine ih2 _ _ (by omega) (by omega) (Or.inr ⟨by omega, fun z => z (by assumption), by assumption, fun b b0 b1 q q2 => ?_⟩)
                     by_cases e : b = x6
                     · rw [e]; omega
                     · rcases g3 with ⟨g3, g4⟩ | ⟨g3, g4, g5, g6⟩
                       · exact absurd (g4 b b0 (by omega) q) q2
                       · have := g6 b b0 (by omega) q q2
                         omega)
                  | (refine ih2 _ _ (by omega) (by omega) ?_
                     rcases g3 with ⟨g3, g4⟩ | ⟨g3, g4, g5, g6⟩
                     · refine Or.inl ⟨g3, fun b b0 b1 q => ?_⟩
                       by_cases e : b = x6
                       · rw [e] at q ⊢
                         first | assumption | contradiction | (exfalso; omega)
                       · exact g4 b b0 (by omega) q
                     · refine Or.inr ⟨by omega, g4, g5, fun b b0 b1 q q2 => ?_⟩
                       by_cases e : b = x6
                       · rw [e] at q q2 ⊢
                         first | omega | contradiction
                       · exact g6 b b0 (by omega) q q2)
    refine sX12_wins_20 ?_
    refine ⟨?_, ?_, ?_⟩
    · omega
    · omega
    refine ⟨fun c1 => ?_, fun c1 => ?_⟩
    · exfalso; omega
    · first | (exfalso; omega) | exact inner 6 0 (-1) (by omega) (by omega) (Or.inl ⟨rfl, fun b b0 b1 => by omega⟩)
theorem kX12_wins {E : E3} {Q : Q3} {M : M3} {x1 : Int} (h : (0 ≤ M 44 0 1 ∧ M 44 0 1 ≤ 48) ∧ (-2147483648 ≤ x1 ∧ x1 ≤ 2147483647)) (k : ∀ a : Int, (0 ≤ x1 ∧ x1 ≤ 6 → wnP (fun b => mWnt M b 1) x1 a) → (¬ (0 ≤ x1 ∧ x1 ≤ 6) → a = -2) → Q (some (vI a)) M) : C3 E YX12_wins [vR 44 0, vI x1] M Q := by
  obtain ⟨h1, h2⟩ := h
  refine sX12_wins ?_
  refine ⟨?_, ?_⟩
  · omega
  refine ⟨fun c1 => ?_, fun c1 => ?_⟩
  · exact lX12_wins h1 (by assumption) (fun a ha => k a (fun _ => ha) (fun z => absurd (by assumption) z)) x1.toNat 0 0 0 (by omega) (by omega) ⟨by omega, by rw [cn3_zero]; exact fun b b0 b1 => decide_eq_false (fun z => bt3_0 b0 b1 z), fun b b0 b1 q => absurd q (bt3_0 b0 b1), fun b c b0 b1 c0 c1 q => absurd q (bt3_0 b0 b1), fun _ => 0, fun k k0 k1 => by omega, rfl⟩
  · exact k _ (fun z => absurd z (by assumption)) (fun _ => rfl)
