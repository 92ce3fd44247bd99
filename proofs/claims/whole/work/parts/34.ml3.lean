/-! MODEL: a part is read -/
abbrev KR3 (M : M3) (Q : Q3) (P : M3 → Prop) : Prop := ∀ (N : M3), RM3 N → (∀ q : Nat, q ∉ ([44, 53, 54, 55] : List Nat) → N q = M q) → (∀ j : Int, j ∉ ([12, 13, 17] : List Int) → N 44 0 j = M 44 0 j) → P N → Q none N
theorem KR3.base {M M' : M3} {Q : Q3} {P : M3 → Prop} (k : KR3 M Q P) (hf : ∀ q : Nat, q ∉ ([44, 53, 54, 55] : List Nat) → M' q = M q) (hs : ∀ j : Int, j ∉ ([12, 13, 17] : List Int) → M' 44 0 j = M 44 0 j) : KR3 M' Q P := fun N a b c d => k N a (fr_tr hf b) (fun j hj => (c j hj).trans (hs j hj)) d
theorem KR3.post {M : M3} {Q : Q3} {P P' : M3 → Prop} (k : KR3 M Q P) (h : ∀ N, P' N → P N) : KR3 M Q P' := fun N a b c d => k N a b c (h N d)
abbrev mp3 (M : M3) : Prop := (0 ≤ M 44 0 17 ∧ M 44 0 17 ≤ 300) ∧ (0 ≤ M 44 0 13 ∧ M 44 0 13 ≤ 55) ∧ (0 ≤ M 44 0 9 ∧ M 44 0 9 ≤ 200)
theorem lRd247 {E : E3} {Q : Q3} {M : M3} {P : M3 → Prop} (hp : 0 ≤ M 44 0 13 ∧ M 44 0 13 ≤ 55) (k : KR3 M Q P) (hP : P (up3 M 44 0 13 (M 44 0 13 + 1))) : G3 E YX12_readsPart Q 247 [(0, vR 44 0)] [] M := by
  refine g3_rm fun hM => sX12_readsPart_247 ⟨by omega, k _ (hM.up (by omega)) (fr_up fr_rf (by decide)) (fun j hj => up3_nj (fun q => hj (by rw [q]; decide))) hP⟩
theorem lRd188f {E : E3} {Q : Q3} {M : M3} {f : Int} (hp : 0 ≤ M 44 0 13 ∧ M 44 0 13 ≤ 55) (hf : M 44 0 12 = f) (hne : f ≠ -1) (k : KR3 M Q (fun N => N 44 0 12 = f)) : G3 E YX12_readsPart Q 188 [(0, vR 44 0)] [] M := by
  refine sX12_readsPart_188 ⟨by omega, fun _ => ?_, fun c => absurd c (by omega)⟩
  exact lRd247 (by rw [up3_nr (by decide)]; exact hp) (k.base (fr_up fr_rf (by decide)) (fun j _ => up3_nr (by decide))) (by rw [up3_nj (by decide), up3_nr (by decide)]; exact hf)
theorem lRd188 {E : E3} {Q : Q3} {M : M3} (hp : mp3 M) (h12 : M 44 0 12 = -1) (k : KR3 M Q (fun N => ((fa3 (tm3 M) (M 44 0 17)).1 ≠ -1 → N 44 0 12 = (fa3 (tm3 M) (M 44 0 17)).1) ∧ ((fa3 (tm3 M) (M 44 0 17)).1 = -1 → N 44 0 12 = -1 ∧ N 44 0 17 = (fa3 (tm3 M) (M 44 0 17)).2.2 ∧ N 44 0 13 = M 44 0 13 + 1 ∧ N 53 = M 53 ∧ N 54 = M 54 ∧ ∀ k : Int, N 55 0 k = (if k = M 44 0 13 then (fa3 (tm3 M) (M 44 0 17)).2.1 else M 55 0 k)))) : G3 E YX12_readsPart Q 188 [(0, vR 44 0)] [] M := by
  refine g3_rm fun hM => ?_
  obtain ⟨hp1', hp2, hp3⟩ := hp
  refine sX12_readsPart_188 ⟨by omega, fun c => absurd h12 c, fun _ => ?_⟩
  have et : tm3 (up3 M 55 0 (M 44 0 13) 0) = tm3 M := tm3_up (by decide) (Or.inl (by decide))
  rw [et]
  refine ⟨⟨by omega, by rw [up3_nr (by decide)]; exact hp3⟩, tm3_rg hM _, fun c2 => ?_, fun c2 => ⟨by omega, ⟨by omega, by omega, ⟨by rw [up3_eq]; omega, by rw [up3_eq]; omega⟩, by rw [up3_nj (by decide), up3_nr (by decide)]; exact hp3⟩, ?_⟩⟩
  · have e : fa3 (tm3 M) (M 44 0 17) = (-1, 0, M 44 0 17) := if_neg c2
    rw [e] at k
    refine lRd247 (by rw [up3_nr (by decide)]; exact hp2) (k.base (fr_up fr_rf (by decide)) (fun j _ => up3_nr (by decide))) ⟨fun q => absurd rfl q, fun _ => ⟨?_, ?_, ?_, ?_, ?_, fun k => ?_⟩⟩
    · rw [up3_nj (by decide), up3_nr (by decide)]; exact h12
    · rw [up3_nj (by decide), up3_nr (by decide)]
    · rw [up3_eq, up3_nr (by decide)]
    · rw [up3_r (by decide), up3_r (by decide)]
    · rw [up3_r (by decide), up3_r (by decide)]
    · rw [up3_nr (by decide)]
      simp [up3]
  · intro r1 N1 hN1 hf1 hs1 hp1
    have e : fa3 (tm3 M) (M 44 0 17) = (if ba3 (nu3 (tm3 M) 3 (M 44 0 17 + 1) 0) (M 44 0 17 + 1) 0 399 then (M 44 0 17 + 1, 0, 0) else (-1, (nu3 (tm3 M) 3 (M 44 0 17 + 1) 0).1, (nu3 (tm3 M) 3 (M 44 0 17 + 1) 0).2)) := if_pos c2
    have et2 : tm3 (up3 (up3 M 55 0 (M 44 0 13) 0) 44 0 17 (M 44 0 17 + 1)) = tm3 M := (tm3_up (by decide) (Or.inr (by decide))).trans et
    obtain ⟨-, p2, p3⟩ := hp1
    obtain ⟨p4, p5, p6⟩ := p2 (by rw [up3_nj (by decide), up3_nr (by decide)]; exact h12)
    rw [et2, up3_eq, show (3 : Int).toNat = 3 from rfl] at p4 p5 p6
    have f13 : N1 44 0 13 = M 44 0 13 := (hs1 13 (by decide)).trans ((up3_nj (by decide)).trans (up3_nr (by decide)))
    have fb : ∀ q : Nat, q ∉ ([44, 53, 54, 55] : List Nat) → N1 q = M q := fr_tr (fr_up (fr_up fr_rf (by decide)) (by decide)) (fr_sub hf1 (by decide))
    have fs : ∀ j : Int, j ∉ ([12, 13, 17] : List Int) → N1 44 0 j = M 44 0 j := fun j hj => (hs1 j (fun q => hj (by simp at q ⊢; omega))).trans ((up3_nj (fun q => hj (by rw [q]; decide))).trans (up3_nr (by decide)))
    refine ⟨by omega, lRd247 (by rw [up3_nr (by decide), f13]; exact hp2) (k.base (fr_up fb (by decide)) (fun j hj => (up3_nr (by decide)).trans (fs j hj))) ?_⟩
    rw [e]
    by_cases hb : ba3 (nu3 (tm3 M) 3 (M 44 0 17 + 1) 0) (M 44 0 17 + 1) 0 399
    · rw [if_pos hb] at p6
      rw [if_pos hb]
      refine ⟨fun _ => ?_, fun q => ?_⟩
      · rw [up3_nj (by decide), up3_nr (by decide)]; exact p6
      · have q' : M 44 0 17 + 1 = -1 := q
        omega
    · rw [if_neg hb] at p6
      rw [if_neg hb]
      refine ⟨fun q => absurd rfl q, fun _ => ⟨?_, ?_, ?_, ?_, ?_, fun k => ?_⟩⟩
      · rw [up3_nj (by decide), up3_nr (by decide)]; exact p6
      · rw [up3_nj (by decide), up3_nr (by decide)]; exact p4
      · rw [up3_eq, up3_nr (by decide), f13]
      · rw [up3_r (by decide), up3_r (by decide), hf1 53 (by decide), up3_r (by decide), up3_r (by decide)]
      · rw [up3_r (by decide), up3_r (by decide), hf1 54 (by decide), up3_r (by decide), up3_r (by decide)]
      · rw [up3_nr (by decide)]
        by_cases q : k = M 44 0 13
        · rw [if_pos q, q, up3_eq]; exact p5
        · rw [if_neg q, up3_nj q, hf1 55 (by decide), up3_nr (by decide), up3_nj q]
def poH3 (ft kd sy fr nx : Int) (M N : M3) : Prop := (ft ≠ -1 → N 44 0 12 = ft) ∧ (ft = -1 → N 44 0 12 = -1 ∧ N 44 0 17 = nx ∧ N 44 0 13 = M 44 0 13 + 1 ∧ ∀ k : Int, N 53 0 k = (if k = M 44 0 13 then kd else M 53 0 k) ∧ N 54 0 k = (if k = M 44 0 13 then sy else M 54 0 k) ∧ N 55 0 k = (if k = M 44 0 13 then fr else M 55 0 k))
/-- behind the number that a part says: g: where it stands, o: what was read before -/
theorem lRd188g {E : E3} {Q : Q3} {M N : M3} {x2 f lo hi r : Int} (hp : mp3 M) (h12 : M 44 0 12 = -1) (hf3 : f = 1 ∨ f = 2) (hlo : 0 ≤ lo) (hN : RM3 N) (hfr : ∀ q : Nat, q ∉ ([44] : List Nat) → N q = up3 (up3 M 44 0 17 (M 44 0 17 + 1)) 53 0 (M 44 0 13) x2 q) (hs : ∀ j : Int, j ∉ ([12, 17] : List Int) → N 44 0 j = up3 (up3 M 44 0 17 (M 44 0 17 + 1)) 53 0 (M 44 0 13) x2 44 0 j) (hpo : poFig (up3 (up3 M 44 0 17 (M 44 0 17 + 1)) 53 0 (M 44 0 13) x2) f lo hi r N)
    (hS : sa3 (tm3 M) x2 (M 44 0 17) = (if ba3 (nu3 (tm3 M) f.toNat (M 44 0 17 + 1) 0) (M 44 0 17 + 1) lo hi then (M 44 0 17 + 1, 0, 0) else (-1, (nu3 (tm3 M) f.toNat (M 44 0 17 + 1) 0).1, (nu3 (tm3 M) f.toNat (M 44 0 17 + 1) 0).2)))
    (k : KR3 M Q (poH3 (if (sa3 (tm3 M) x2 (M 44 0 17)).1 ≠ -1 then (sa3 (tm3 M) x2 (M 44 0 17)).1 else (fa3 (tm3 M) (sa3 (tm3 M) x2 (M 44 0 17)).2.2).1) x2 (sa3 (tm3 M) x2 (M 44 0 17)).2.1 (fa3 (tm3 M) (sa3 (tm3 M) x2 (M 44 0 17)).2.2).2.1 (fa3 (tm3 M) (sa3 (tm3 M) x2 (M 44 0 17)).2.2).2.2 M)) : G3 E YX12_readsPart Q 188 [(0, vR 44 0)] [] (up3 N 54 0 (M 44 0 13) r) := by
  obtain ⟨hp1', hp2, hp3⟩ := hp
  have et : tm3 (up3 (up3 M 44 0 17 (M 44 0 17 + 1)) 53 0 (M 44 0 13) x2) = tm3 M := (tm3_up (by decide) (Or.inl (by decide))).trans (tm3_up (by decide) (Or.inr (by decide)))
  obtain ⟨-, p2, p3⟩ := hpo
  obtain ⟨p4, p5, p6⟩ := p2 (by rw [up3_nr (by decide), up3_nj (by decide)]; exact h12)
  rw [et, up3_nr (by decide), up3_eq] at p4 p5 p6
  have hs' : ∀ j : Int, j ≠ 12 → j ≠ 17 → N 44 0 j = M 44 0 j := fun j a b => (hs j (by simp; omega)).trans ((up3_nr (by decide)).trans (up3_nj b))
  have f13 : N 44 0 13 = M 44 0 13 := hs' 13 (by decide) (by decide)
  have fb : ∀ q : Nat, q ∉ ([44, 53, 54, 55] : List Nat) → up3 N 54 0 (M 44 0 13) r q = M q := fr_up (fr_tr (fr_up (fr_up fr_rf (by decide)) (by decide)) (fr_sub hfr (by decide))) (by decide)
  have fs : ∀ j : Int, j ∉ ([12, 13, 17] : List Int) → up3 N 54 0 (M 44 0 13) r 44 0 j = M 44 0 j := fun j hj => (up3_nr (by decide)).trans (hs' j (fun q => hj (by rw [q]; decide)) (fun q => hj (by rw [q]; decide)))
  have h13' : 0 ≤ up3 N 54 0 (M 44 0 13) r 44 0 13 ∧ up3 N 54 0 (M 44 0 13) r 44 0 13 ≤ 55 := by rw [up3_nr (by decide), f13]; exact hp2
  by_cases hb : ba3 (nu3 (tm3 M) f.toNat (M 44 0 17 + 1) 0) (M 44 0 17 + 1) lo hi
  · rw [if_pos hb] at hS p6
    rw [hS] at k
    have hne : M 44 0 17 + 1 ≠ -1 := by omega
    refine lRd188f (f := M 44 0 17 + 1) h13' (by rw [up3_nr (by decide)]; exact p6) hne ((k.base fb fs).post fun N' h => ?_)
    rw [if_pos hne]
    exact ⟨fun _ => h, fun q => absurd q hne⟩
  · rw [if_neg hb] at hS p6
    rw [hS, if_neg (fun z => z rfl)] at k
    have et2 : tm3 (up3 N 54 0 (M 44 0 13) r) = tm3 M := tm3_fr (fb 52 (by decide)) ((up3_nr (by decide)).trans (hs' 9 (by decide) (by decide)))
    have ha := nu3_at (b := tm3 M) f.toNat (M 44 0 17 + 1) 0
    have e17 : up3 N 54 0 (M 44 0 13) r 44 0 17 = (nu3 (tm3 M) f.toNat (M 44 0 17 + 1) 0).2 := (up3_nr (by decide)).trans p4
    have e13 : up3 N 54 0 (M 44 0 13) r 44 0 13 = M 44 0 13 := (up3_nr (by decide)).trans f13
    have e9 : up3 N 54 0 (M 44 0 13) r 44 0 9 = M 44 0 9 := (up3_nr (by decide)).trans (hs' 9 (by decide) (by decide))
    have hf4 : (f.toNat : Int) ≤ 2 := by omega
    by_cases hbig : M 44 0 17 ≤ 250
    · refine lRd188 ⟨by rw [e17]; omega, by rw [e13]; exact hp2, by rw [e9]; exact hp3⟩ (by rw [up3_nr (by decide)]; exact p6) ((k.base fb fs).post fun N' h => ?_)
      rw [et2, e17, e13] at h
      refine ⟨h.1, fun q => ?_⟩
      obtain ⟨a1, a2, a3, a4, a5, a6⟩ := h.2 q
      refine ⟨a1, a2, a3, fun z => ⟨?_, ?_, ?_⟩⟩
      · rw [a4, up3_nr (by decide), hfr 53 (by decide)]
        by_cases qz : z = M 44 0 13
        · rw [if_pos qz, qz, up3_eq]
        · rw [if_neg qz, up3_nj qz, up3_nr (by decide)]
      · rw [a5]
        by_cases qz : z = M 44 0 13
        · rw [if_pos qz, qz, up3_eq]; exact p5
        · rw [if_neg qz, up3_nj qz, hfr 54 (by decide), up3_nr (by decide), up3_nr (by decide)]
      · rw [a6 z, up3_nr (by decide), hfr 55 (by decide), up3_nr (by decide), up3_nr (by decide)]
    · have h1 := nu3_at (b := tm3 M) f.toNat (M 44 0 17 + 1) 0
      have h2 : by3 (M 44 0 9) (M 52 0) (M 44 0 17 + 1) = -1 := by3_out (by omega)
      have h3 : (nu3 (tm3 M) f.toNat (M 44 0 17 + 1) 0).2 = M 44 0 17 + 1 := by
        rcases hf3 with rfl | rfl
        · show (nu3 (tm3 M) 1 (M 44 0 17 + 1) 0).2 = _
          rw [nu3.eq_2, if_neg (by show ¬ (48 ≤ by3 _ _ _ ∧ by3 _ _ _ ≤ 57); omega)]
        · show (nu3 (tm3 M) 2 (M 44 0 17 + 1) 0).2 = _
          rw [nu3.eq_2, if_neg (by show ¬ (48 ≤ by3 _ _ _ ∧ by3 _ _ _ ≤ 57); omega)]
      exact absurd (Or.inl h3) hb
