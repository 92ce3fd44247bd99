/-! WHAT NOBODY SEES -/
abbrev scR : List Nat := [8, 9, 12, 17, 24, 28, 30, 35, 41, 53, 54, 55, 67, 68, 69, 70, 72, 73, 78, 79, 84]
/-- the same but for what is reckoned anew at each call, and the laws' caches -/
def Es (M N : M3) : Prop := (∀ q : Nat, q ∉ (3 :: 31 :: 44 :: scR : List Nat) → N q = M q) ∧ (∀ j : Int, j ≠ 10 → N 3 0 j = M 3 0 j) ∧ (∀ j : Int, j ∉ ([9, 10, 11] : List Int) → N 31 0 j = M 31 0 j) ∧ (∀ j : Int, j ∉ ([11, 12, 13, 17, 50, 51, 52] : List Int) → N 44 0 j = M 44 0 j)
theorem Es.rf {M : M3} : Es M M := ⟨fun _ _ => rfl, fun _ _ => rfl, fun _ _ => rfl, fun _ _ => rfl⟩
theorem Es.tr {M N K : M3} (h : Es M N) (h2 : Es N K) : Es M K := ⟨fun q hq => (h2.1 q hq).trans (h.1 q hq), fun j hj => (h2.2.1 j hj).trans (h.2.1 j hj), fun j hj => (h2.2.2.1 j hj).trans (h.2.2.1 j hj), fun j hj => (h2.2.2.2 j hj).trans (h.2.2.2 j hj)⟩
theorem Es.fr {M N : M3} {L : List Nat} (h : ∀ q : Nat, q ∉ L → N q = M q) (hL : ∀ q ∈ L, q ∈ scR) : Es M N := by
  have h3 : N 3 = M 3 := h 3 fun z => absurd (hL 3 z) (by decide)
  have h31 : N 31 = M 31 := h 31 fun z => absurd (hL 31 z) (by decide)
  have h44 : N 44 = M 44 := h 44 fun z => absurd (hL 44 z) (by decide)
  exact ⟨fun q hq => h q fun z => hq (List.mem_cons_of_mem _ (List.mem_cons_of_mem _ (List.mem_cons_of_mem _ (hL q z)))), fun j _ => by rw [h3], fun j _ => by rw [h31], fun j _ => by rw [h44]⟩
theorem Es.m {M N : M3} (h : Em M N) : Es M N := by
  refine ⟨fun q hq => h.1 q fun z => hq ?_, fun j _ => by rw [h.1 3 (by decide)], fun j _ => by rw [h.1 31 (by decide)], fun j hj => h.2 j fun z => hj ?_⟩
  · have : ∀ x ∈ ([44, 53, 54, 55] : List Nat), x ∈ (3 :: 31 :: 44 :: scR : List Nat) := by decide
    exact this q z
  · have : ∀ x ∈ ([11, 12, 13, 17] : List Int), x ∈ ([11, 12, 13, 17, 50, 51, 52] : List Int) := by decide
    exact this j z
theorem Es.c {M N : M3} (h : Ec M N) : Es M N := by
  refine ⟨fun q hq => h.1 q fun z => hq ?_, fun j hj => h.2 j fun z => hj (List.mem_singleton.mp z), fun j _ => by rw [h.1 31 (by decide)], fun j _ => by rw [h.1 44 (by decide)]⟩
  have : ∀ x ∈ ([3, 8, 9] : List Nat), x ∈ (3 :: 31 :: 44 :: scR : List Nat) := by decide
  exact this q z
theorem Es.ws1 {M : M3} {r : Nat} {i x : Int} {c : Int → Bool} {v : Int → Int} (h : r ∈ scR) : Es M (ws1 M r i x c v) :=
  Es.fr (L := [r]) (fun q hq => ws1_r fun e => hq (by rw [e]; exact List.mem_singleton.mpr rfl)) (fun q hq => by rw [List.mem_singleton.mp hq]; exact h)
/-! MODEL: the helpers -/
abbrev lgt3 (k b : Int → Int) : Prop := b 0 < k 0 ∨ (k 0 = b 0 ∧ (b 1 < k 1 ∨ (k 1 = b 1 ∧ (b 2 < k 2 ∨ (k 2 = b 2 ∧ (b 3 < k 3 ∨ (k 3 = b 3 ∧ (b 4 < k 4 ∨ (k 4 = b 4 ∧ b 5 < k 5)))))))))
abbrev clt3 (g k : Int → Int) : Prop := g 5 < k 5 ∨ (g 5 = k 5 ∧ (g 4 < k 4 ∨ (g 4 = k 4 ∧ (g 3 < k 3 ∨ (g 3 = k 3 ∧ (g 2 < k 2 ∨ (g 2 = k 2 ∧ (g 1 < k 1 ∨ (g 1 = k 1 ∧ g 0 < k 0)))))))))
abbrev eq6 (g k : Int → Int) : Prop := g 0 = k 0 ∧ g 1 = k 1 ∧ g 2 = k 2 ∧ g 3 = k 3 ∧ g 4 = k 4 ∧ g 5 = k 5
abbrev mMA (M : M3) : Prop := lgt3 (M 69 0) (M 70 0)
abbrev tot3 (g : Int → Int) : Int := g 0 + g 1 + g 2 + g 3 + g 4 + g 5
abbrev rnk3 (g : Int → Int) : Int := g 0 + 13 * g 1 + 169 * g 2 + 2197 * g 3 + 28561 * g 4 + 371293 * g 5
/-- a way to give lessons, h at most -/
def vld3 (h : Int) (g : Int → Int) : Prop := (0 ≤ g 0 ∧ 0 ≤ g 1 ∧ 0 ≤ g 2 ∧ 0 ≤ g 3 ∧ 0 ≤ g 4 ∧ 0 ≤ g 5) ∧ tot3 g ≤ h
theorem sm3_6 (f : Int → Int) : sm3 6 f = f 0 + f 1 + f 2 + f 3 + f 4 + f 5 := by
  show smN f 6 = _
  unfold smN smN smN smN smN smN smN
  show 0 + f 0 + f 1 + f 2 + f 3 + f 4 + f 5 = _
  omega
theorem clt_tri (g k : Int → Int) : clt3 k g ∨ eq6 k g ∨ clt3 g k := by
  unfold clt3 eq6
  omega
theorem clt_rnk {h : Int} {g k : Int → Int} (hh : h ≤ 12) (hg : vld3 h g) (hk : vld3 h k) (c : clt3 g k) : rnk3 g < rnk3 k := by
  obtain ⟨g1, g2⟩ := hg
  obtain ⟨k1, k2⟩ := hk
  unfold tot3 at g2 k2
  unfold rnk3
  rcases c with c | ⟨c0, c | ⟨c1, c | ⟨c2, c | ⟨c3, c | ⟨c4, c⟩⟩⟩⟩⟩ <;> omega
/-- tot from z on -/
abbrev tz3 (g : Int → Int) (z : Int) : Int := tot3 g - sm3 z g
theorem tz_0 (g : Int → Int) : tz3 g 0 = g 0 + g 1 + g 2 + g 3 + g 4 + g 5 := by
  show tot3 g - smN g 0 = _
  unfold smN
  unfold tot3
  omega
theorem tz_1 (g : Int → Int) : tz3 g 1 = g 1 + g 2 + g 3 + g 4 + g 5 := by
  show tot3 g - smN g 1 = _
  unfold smN smN
  show tot3 g - (0 + g 0) = _
  unfold tot3
  omega
theorem tz_2 (g : Int → Int) : tz3 g 2 = g 2 + g 3 + g 4 + g 5 := by
  show tot3 g - smN g 2 = _
  unfold smN smN smN
  show tot3 g - (0 + g 0 + g 1) = _
  unfold tot3
  omega
theorem tz_3 (g : Int → Int) : tz3 g 3 = g 3 + g 4 + g 5 := by
  show tot3 g - smN g 3 = _
  unfold smN smN smN smN
  show tot3 g - (0 + g 0 + g 1 + g 2) = _
  unfold tot3
  omega
theorem tz_4 (g : Int → Int) : tz3 g 4 = g 4 + g 5 := by
  show tot3 g - smN g 4 = _
  unfold smN smN smN smN smN
  show tot3 g - (0 + g 0 + g 1 + g 2 + g 3) = _
  unfold tot3
  omega
theorem tz_5 (g : Int → Int) : tz3 g 5 = g 5 := by
  show tot3 g - smN g 5 = _
  unfold smN smN smN smN smN smN
  show tot3 g - (0 + g 0 + g 1 + g 2 + g 3 + g 4) = _
  unfold tot3
  omega
/-- no way lies behind g if from each place on it is full above b -/
theorem full3 {h b : Int} {g k : Int → Int} (hb : 0 ≤ b ∧ b ≤ 6) (hf : ∀ z : Int, 0 ≤ z → z < b → h ≤ tz3 g z) (hk : vld3 h k) (c : clt3 g k) : ∃ t : Int, (b ≤ t ∧ t < 6) ∧ g t < k t ∧ ∀ z : Int, t < z → z < 6 → g z = k z := by
  obtain ⟨⟨k0, k1, k2, k3, k4, k5⟩, kt⟩ := hk
  unfold tot3 at kt
  have f0 := hf 0 (by omega)
  have f1 := hf 1 (by omega)
  have f2 := hf 2 (by omega)
  have f3 := hf 3 (by omega)
  have f4 := hf 4 (by omega)
  have f5 := hf 5 (by omega)
  rw [tz_0] at f0
  rw [tz_1] at f1
  rw [tz_2] at f2
  rw [tz_3] at f3
  rw [tz_4] at f4
  rw [tz_5] at f5
  rcases c with c | ⟨c5, c | ⟨c4, c | ⟨c3, c | ⟨c2, c | ⟨c1, c⟩⟩⟩⟩⟩
  · exact ⟨5, by omega, c, fun z a d => by omega⟩
  · exact ⟨4, by omega, c, fun z a d => by rw [show z = 5 by omega]; exact c5⟩
  · refine ⟨3, by omega, c, fun z a d => ?_⟩
    rcases (show z = 4 ∨ z = 5 by omega) with e | e <;> rw [e] <;> assumption
  · refine ⟨2, by omega, c, fun z a d => ?_⟩
    rcases (show z = 3 ∨ z = 4 ∨ z = 5 by omega) with e | e | e <;> rw [e] <;> assumption
  · refine ⟨1, by omega, c, fun z a d => ?_⟩
    rcases (show z = 2 ∨ z = 3 ∨ z = 4 ∨ z = 5 by omega) with e | e | e | e <;> rw [e] <;> assumption
  · refine ⟨0, by omega, c, fun z a d => ?_⟩
    rcases (show z = 1 ∨ z = 2 ∨ z = 3 ∨ z = 4 ∨ z = 5 by omega) with e | e | e | e | e <;> rw [e] <;> assumption
theorem clt_of {g k : Int → Int} {t : Int} (ht : 0 ≤ t ∧ t < 6) (h : g t < k t) (he : ∀ z : Int, t < z → z < 6 → g z = k z) : clt3 g k := by
  have e1 := he 1
  have e2 := he 2
  have e3 := he 3
  have e4 := he 4
  have e5 := he 5
  unfold clt3
  rcases (show t = 0 ∨ t = 1 ∨ t = 2 ∨ t = 3 ∨ t = 4 ∨ t = 5 by omega) with e | e | e | e | e | e <;> subst e <;> omega
theorem clt_ex {g k : Int → Int} (c : clt3 g k) : ∃ t : Int, (0 ≤ t ∧ t < 6) ∧ g t < k t ∧ ∀ z : Int, t < z → z < 6 → g z = k z := by
  rcases c with c | ⟨c5, c | ⟨c4, c | ⟨c3, c | ⟨c2, c | ⟨c1, c⟩⟩⟩⟩⟩
  · exact ⟨5, by omega, c, fun z a d => by omega⟩
  · exact ⟨4, by omega, c, fun z a d => by rw [show z = 5 by omega]; exact c5⟩
  · refine ⟨3, by omega, c, fun z a d => ?_⟩
    rcases (show z = 4 ∨ z = 5 by omega) with e | e <;> rw [e] <;> assumption
  · refine ⟨2, by omega, c, fun z a d => ?_⟩
    rcases (show z = 3 ∨ z = 4 ∨ z = 5 by omega) with e | e | e <;> rw [e] <;> assumption
  · refine ⟨1, by omega, c, fun z a d => ?_⟩
    rcases (show z = 2 ∨ z = 3 ∨ z = 4 ∨ z = 5 by omega) with e | e | e | e <;> rw [e] <;> assumption
  · refine ⟨0, by omega, c, fun z a d => ?_⟩
    rcases (show z = 1 ∨ z = 2 ∨ z = 3 ∨ z = 4 ∨ z = 5 by omega) with e | e | e | e | e <;> rw [e] <;> assumption
theorem vld_nn {h z : Int} {g : Int → Int} (hg : vld3 h g) (hz : 0 ≤ z ∧ z < 6) : 0 ≤ g z ∧ g z ≤ h := by
  obtain ⟨⟨g0, g1, g2, g3, g4, g5⟩, gt⟩ := hg
  unfold tot3 at gt
  rcases (show z = 0 ∨ z = 1 ∨ z = 2 ∨ z = 3 ∨ z = 4 ∨ z = 5 by omega) with e | e | e | e | e | e <;> rw [e] <;> omega
theorem clt_asym {g k : Int → Int} (h : clt3 g k) (h2 : clt3 k g) : False := by
  unfold clt3 at h h2
  omega
/-- the way behind g -/
def nxg3 (h : Int) (g : Int → Int) (b : Int) (n : Int → Int) : Prop := (0 ≤ b ∧ b < 6) ∧ tz3 g b < h ∧ (∀ z : Int, 0 ≤ z → z < b → h ≤ tz3 g z) ∧ ∀ c : Int, 0 ≤ c → c < 6 → n c = if c < b then 0 else if c = b then g b + 1 else g c
theorem nxg_ok {h b : Int} {g n : Int → Int} (hg : vld3 h g) (hn : nxg3 h g b n) : vld3 h n ∧ clt3 g n ∧ ∀ k : Int → Int, vld3 h k → clt3 k n → clt3 k g ∨ eq6 k g := by
  obtain ⟨n1, n2, n3, n4⟩ := hn
  obtain ⟨⟨g0, g1, g2, g3, g4, g5⟩, gt⟩ := hg
  have m0 := n4 0 (by omega) (by omega)
  have m1 := n4 1 (by omega) (by omega)
  have m2 := n4 2 (by omega) (by omega)
  have m3 := n4 3 (by omega) (by omega)
  have m4 := n4 4 (by omega) (by omega)
  have m5 := n4 5 (by omega) (by omega)
  have hc : clt3 g n := by
    refine clt_of n1 ?_ fun z a c => ?_
    · rw [n4 b n1.1 n1.2, if_neg (by omega), if_pos rfl]
      omega
    · rw [n4 z (by omega) c, if_neg (by omega), if_neg (by omega)]
  refine ⟨?_, hc, fun k hk c => ?_⟩
  · unfold vld3 tot3
    rcases (show b = 0 ∨ b = 1 ∨ b = 2 ∨ b = 3 ∨ b = 4 ∨ b = 5 by omega) with e | e | e | e | e | e <;> subst e
    · rw [tz_0] at n2
      simp at m0 m1 m2 m3 m4 m5
      omega
    · rw [tz_1] at n2
      simp at m0 m1 m2 m3 m4 m5
      omega
    · rw [tz_2] at n2
      simp at m0 m1 m2 m3 m4 m5
      omega
    · rw [tz_3] at n2
      simp at m0 m1 m2 m3 m4 m5
      omega
    · rw [tz_4] at n2
      simp at m0 m1 m2 m3 m4 m5
      omega
    · rw [tz_5] at n2
      simp at m0 m1 m2 m3 m4 m5
      omega
  · rcases clt_tri g k with d | d | d
    · exact Or.inl d
    · exact Or.inr d
    · exfalso
      obtain ⟨t, t1, t2, t3⟩ := full3 (b := b) (by omega) n3 hk d
      have nt : ∀ z : Int, b < z → z < 6 → n z = g z := fun z a c => by rw [n4 z (by omega) c, if_neg (by omega), if_neg (by omega)]
      have nb : n b = g b + 1 := by rw [n4 b n1.1 n1.2, if_neg (by omega), if_pos rfl]
      by_cases e : t = b
      · rw [e] at t2 t3
        by_cases y : n b < k b
        · exact clt_asym c (clt_of n1 y fun z a d => by rw [nt z a d]; exact t3 z a d)
        · obtain ⟨u, u1, u2, u3⟩ := clt_ex c
          by_cases v : u < b
          · have w := n4 u u1.1 u1.2
            rw [if_pos v] at w
            have := vld_nn hk u1
            omega
          · by_cases v2 : u = b
            · rw [v2] at u2
              omega
            · rw [nt u (by omega) u1.2, t3 u (by omega) u1.2] at u2
              omega
      · refine clt_asym c (clt_of (t := t) (by omega) (by rw [nt t (by omega) t1.2]; exact t2) fun z a d => ?_)
        rw [nt z (by omega) d]
        exact t3 z a d
theorem tz_s (g : Int → Int) {z : Int} (h : 0 ≤ z) : tz3 g (z + 1) = tz3 g z - g z := by
  unfold tz3
  rw [sm3_s h]
  omega
def preNxg (M : M3) (h all : Int) : Prop := (0 ≤ h ∧ h ≤ 12) ∧ vld3 h (M 69 0) ∧ all = tot3 (M 69 0)
def poNxg (M : M3) (h all r : Int) (N : M3) : Prop := (r = 1 ∧ ∃ b : Int, nxg3 h (M 69 0) b (N 69 0)) ∨ (r = 0 ∧ ∀ z : Int, 0 ≤ z → z < 6 → h ≤ tz3 (M 69 0) z)
theorem kX12_isMoreAhead {E : E3} {Q : Q3} {M : M3} (k : Q (some (vI (bo3 (mMA M)))) M) : C3 E YX12_isMoreAhead [vR 44 0] M Q := by
  have key : ∀ (n : Nat) (x1 : Int), 0 ≤ x1 → x1 + n = 6 → (∀ z : Int, 0 ≤ z → z < x1 → M 69 0 z = M 70 0 z) → G3 E YX12_isMoreAhead Q 2 [(0, vR 44 0), (1, vI x1)] [] M := by
    intro n
    induction n with
    | zero =>
      intro x1 h1 h2 h3
      have a0 := h3 0 (by omega) (by omega)
      have a1 := h3 1 (by omega) (by omega)
      have a2 := h3 2 (by omega) (by omega)
      have a3 := h3 3 (by omega) (by omega)
      have a4 := h3 4 (by omega) (by omega)
      have a5 := h3 5 (by omega) (by omega)
      refine sX12_isMoreAhead_2 ?_
      refine ⟨?_, ?_⟩
      · omega
      refine ⟨fun c1 => ?_, fun c1 => ?_⟩
      · first | (exfalso; omega) | (rw [bo3_f (by omega)] at k; exact k)
      · refine ⟨?_, ?_⟩
        · omega
        refine ⟨fun c2 => ?_, fun c2 => ?_⟩
        · exfalso; omega
        · refine ⟨fun c3 => ?_, fun c3 => ?_⟩
          · first | (exfalso; omega) | (rw [bo3_f (by omega)] at k; exact k)
          · first | (exfalso; omega) | (rw [bo3_f (by omega)] at k; exact k)
    | succ n ih =>
      intro x1 h1 h2 h3
      have a0 := h3 0 (by omega)
      have a1 := h3 1 (by omega)
      have a2 := h3 2 (by omega)
      have a3 := h3 3 (by omega)
      have a4 := h3 4 (by omega)
      refine sX12_isMoreAhead_2 ?_
      refine ⟨?_, ?_⟩
      · omega
      refine ⟨fun c1 => ?_, fun c1 => ?_⟩
      · rcases (show x1 = 0 ∨ x1 = 1 ∨ x1 = 2 ∨ x1 = 3 ∨ x1 = 4 ∨ x1 = 5 ∨ 6 ≤ x1 by omega) with e | e | e | e | e | e | e <;> first | (exfalso; omega) | (subst e; first | (rw [bo3_t (by omega)] at k; exact k) | (rw [bo3_f (by omega)] at k; exact k))
      · refine ⟨?_, ?_⟩
        · omega
        refine ⟨fun c2 => ?_, fun c2 => ?_⟩
        · exact ih _ (by omega) (by omega) (fun z a b => by
            by_cases e : z = x1
            · rw [e]; assumption
            · exact h3 z a (by omega))
        · refine ⟨fun c3 => ?_, fun c3 => ?_⟩
          · rcases (show x1 = 0 ∨ x1 = 1 ∨ x1 = 2 ∨ x1 = 3 ∨ x1 = 4 ∨ x1 = 5 ∨ 6 ≤ x1 by omega) with e | e | e | e | e | e | e <;> first | (exfalso; omega) | (subst e; first | (rw [bo3_t (by omega)] at k; exact k) | (rw [bo3_f (by omega)] at k; exact k))
          · rcases (show x1 = 0 ∨ x1 = 1 ∨ x1 = 2 ∨ x1 = 3 ∨ x1 = 4 ∨ x1 = 5 ∨ 6 ≤ x1 by omega) with e | e | e | e | e | e | e <;> first | (exfalso; omega) | (subst e; first | (rw [bo3_t (by omega)] at k; exact k) | (rw [bo3_f (by omega)] at k; exact k))
  exact sX12_isMoreAhead (key 6 0 (by omega) (by omega) (fun z a b => by omega))
theorem lX12_nextGiven {E : E3} {Q : Q3} {M0 : M3} {x1 : Int} (hp : (0 ≤ x1 ∧ x1 ≤ 12) ∧ vld3 x1 (M0 69 0)) (k : ∀ (r : Int) (N : M3), RM3 N → (∀ q : Nat, q ∉ ([69] : List Nat) → N q = M0 q) → poNxg M0 x1 (tot3 (M0 69 0)) r N → Q (some (vI r)) N) : ∀ (n : Nat) (x4 x3 : Int) (M : M3), 0 ≤ x4 → x4 + n = 6 → (∀ q : Nat, q ∉ ([69] : List Nat) → M q = M0 q) → x3 = tz3 (M0 69 0) x4 → (∀ z : Int, 0 ≤ z → z < x4 → x1 ≤ tz3 (M0 69 0) z) → (∀ z : Int, M 69 0 z = if 0 ≤ z ∧ z < x4 then 0 else M0 69 0 z) → G3 E YX12_nextGiven Q 5 [(0, vR 44 0), (1, vI x1), (3, vI x3), (4, vI x4)] [] M := by
  intro n
  induction n with
  | zero =>
    intro x4 x3 M h1 h2 h3 h4 h5 h6
    refine g3_rm fun hM => ?_
    refine sX12_nextGiven_5 ?_
    refine ⟨?_, ?_⟩
    · first | omega | (exfalso; omega)
    refine ⟨fun c1 => ?_, fun c1 => ?_⟩
    · first | (exfalso; omega) | exact k 0 M hM h3 (Or.inr ⟨rfl, fun z a b => h5 z a (by omega)⟩)
    · refine ⟨?_, ?_, ?_⟩
      · first | omega | (exfalso; omega)
      · first | omega | (exfalso; omega)
      refine ⟨fun c2 => ?_, fun c2 => ?_⟩
      · refine ⟨?_, ?_⟩
        · first | omega | (exfalso; omega)
        exfalso; omega
      · refine ⟨?_, ?_, ?_⟩
        · first | omega | (exfalso; omega)
        · first | omega | (exfalso; omega)
        first | (exfalso; omega) | exact k 0 M hM h3 (Or.inr ⟨rfl, fun z a b => h5 z a (by omega)⟩)
  | succ n ih =>
    intro x4 x3 M h1 h2 h3 h4 h5 h6
    refine g3_rm fun hM => ?_
    have nn := vld_nn hp.2 (z := x4) ⟨h1, by omega⟩
    have ts := tz_s (M0 69 0) h1
    have e69 : M 69 0 x4 = M0 69 0 x4 := by rw [h6 x4, if_neg (by omega)]
    have tr : -1000 ≤ x3 ∧ x3 ≤ 1000 := by
      have t0 := tz_0 (M0 69 0)
      have t1 := tz_1 (M0 69 0)
      have t2 := tz_2 (M0 69 0)
      have t3 := tz_3 (M0 69 0)
      have t4 := tz_4 (M0 69 0)
      have t5 := tz_5 (M0 69 0)
      obtain ⟨⟨g0, g1, g2, g3, g4, g5⟩, gt⟩ := hp.2
      unfold tot3 at gt
      rcases (show x4 = 0 ∨ x4 = 1 ∨ x4 = 2 ∨ x4 = 3 ∨ x4 = 4 ∨ x4 = 5 by omega) with e | e | e | e | e | e <;> subst e <;> omega
    refine sX12_nextGiven_5 ?_
    rw [e69]
    refine ⟨?_, ?_⟩
    · first | omega | (exfalso; omega)
    refine ⟨fun c1 => ?_, fun c1 => ?_⟩
    · first
        | (exfalso; omega)
        | exact k 1 _ (hM.up (by omega)) (fr_up h3 (by decide)) (Or.inl ⟨rfl, x4, ⟨h1, by omega⟩, by rw [← h4]; assumption, h5, fun c c0 c1 => by
            by_cases e : c = x4
            · rw [e, up3_eq, if_neg (by omega), if_pos rfl]
            · rw [up3_nj e, h6 c, if_neg e]
              by_cases q : c < x4
              · rw [if_pos q, if_pos ⟨c0, q⟩]
              · rw [if_neg q, if_neg (by omega)]⟩)
    · refine ⟨?_, ?_, ?_⟩
      · first | omega | (exfalso; omega)
      · first | omega | (exfalso; omega)
      refine ⟨fun c2 => ?_, fun c2 => ?_⟩
      · refine ⟨?_, ?_⟩
        · first | omega | (exfalso; omega)
        first
          | (exfalso; omega)
          | (refine ih _ _ _ (by omega) (by omega) (fr_up h3 (by decide)) (by rw [ts, h4]) (fun z a b => ?_) (fun z => ?_)
             · by_cases e : z = x4
               · rw [e, ← h4]; assumption
               · exact h5 z a (by omega)
             · by_cases e : z = x4
               · rw [e, up3_eq, if_pos (by omega)]
               · rw [up3_nj e, h6 z]
                 by_cases q : 0 ≤ z ∧ z < x4
                 · rw [if_pos q, if_pos (by omega)]
                 · rw [if_neg q, if_neg (by omega)])
      · refine ⟨?_, ?_, ?_⟩
        · first | omega | (exfalso; omega)
        · first | omega | (exfalso; omega)
        first
          | (exfalso; omega)
          | exact k 1 _ (hM.up (by omega)) (fr_up h3 (by decide)) (Or.inl ⟨rfl, x4, ⟨h1, by omega⟩, by rw [← h4]; assumption, h5, fun c c0 c1 => by
              by_cases e : c = x4
              · rw [e, up3_eq, if_neg (by omega), if_pos rfl]
              · rw [up3_nj e, h6 c, if_neg e]
                by_cases q : c < x4
                · rw [if_pos q, if_pos ⟨c0, q⟩]
                · rw [if_neg q, if_neg (by omega)]⟩)
theorem kX12_nextGiven {E : E3} {Q : Q3} {M : M3} {x1 x2 : Int} (h : preNxg M x1 x2) (k : ∀ (r : Int) (N : M3), RM3 N → (∀ q : Nat, q ∉ ([69] : List Nat) → N q = M q) → poNxg M x1 x2 r N → Q (some (vI r)) N) : C3 E YX12_nextGiven [vR 44 0, vI x1, vI x2] M Q := by
  refine c3_rm fun hM => ?_
  obtain ⟨h1, h2, h3⟩ := h
  subst h3
  exact sX12_nextGiven (lX12_nextGiven ⟨h1, h2⟩ k 6 0 _ M (by omega) (by omega) fr_rf (by
    show tot3 (M 69 0) = tot3 (M 69 0) - smN (M 69 0) 0
    unfold smN
    omega) (fun z a b => by omega) (fun z => by rw [if_neg (by omega)]))
