theorem lX12_partOf {E : E3} {Q : Q3} {M : M3} {x1 x2 : Int} (hx : (0 ≤ x1 ∧ x1 < 24) ∧ 0 ≤ x2 ∧ x2 ≤ 399) (h12 : M 44 0 12 = -1) (h13 : M 44 0 13 = ((LM3 M).length : Int)) (ha : arm3 M (LM3 M)) (hl : ((LM3 M).length : Int) ≤ 50) (k : Q (some (vI (sPt (LM3 M) x1 x2))) M) : ∀ (n m : Nat) (x3 : Int), (m : Int) + n = M 44 0 13 → x3 = lsD (LM3 M) x1 x2 m → G3 E YX12_partOf Q 9 [(0, vR 44 0), (1, vI x1), (2, vI x2), (3, vI x3), (4, vI (m : Int))] [] M := by
  intro n
  induction n with
  | zero =>
    intro m x3 h1 h2
    refine sX12_partOf_9 ⟨by omega, fun _ => ?_, fun c => absurd c (by omega)⟩
    rw [h2, show m = (LM3 M).length by omega]
    exact k
  | succ n ih =>
    intro m x3 h1 h2
    obtain ⟨a1, a2, a3⟩ := ha m (by omega) (by omega)
    refine sX12_partOf_9 ⟨by omega, fun c => absurd c (by omega), fun _ => ⟨fun c => absurd h12 c, fun _ => ⟨by omega, by omega, fun c => ?_, fun c => ⟨by omega, fun c2 => ?_, fun c2 => ?_⟩⟩⟩⟩
    · exact ih (m + 1) _ (by omega) (by rw [lsD_f (by omega)]; exact h2)
    · exact ih (m + 1) _ (by omega) (by rw [lsD_f (by omega)]; exact h2)
    · exact ih (m + 1) _ (by omega) (by rw [lsD_t (by omega)])
theorem kX12_partOf {E : E3} {Q : Q3} {M : M3} {x1 x2 : Int} (h : RdC M ∧ (0 ≤ x1 ∧ x1 < 24) ∧ 0 ≤ x2 ∧ x2 ≤ 399) (k : ∀ (N : M3), RM3 N → (∀ q : Nat, q ∉ ([44, 53, 54, 55] : List Nat) → N q = M q) → (∀ j : Int, j ∉ ([11, 12, 13, 17] : List Int) → N 44 0 j = M 44 0 j) → (RdC N ∧ N 44 0 11 = 1) → Q (some (vI (sPt (LM3 M) x1 x2))) N) : C3 E YX12_partOf [vR 44 0, vI x1, vI x2] M Q := by
  refine sX12_partOf ⟨h.1, ?_⟩
  intro N1 hN1 hf1 hs1 hp1
  have eL : LM3 N1 = LM3 M := LM3_eq (hf1 52 (by decide)) (hs1 9 (by decide))
  have k1 := k N1 hN1 hf1 hs1 hp1
  rw [← eL] at k1
  obtain ⟨⟨h9, hr⟩, h11⟩ := hp1
  have hok := lwL_ok (N1 52 0) h9
  rcases hr with hr | ⟨-, h12, h13⟩
  · omega
  by_cases q : lwF (N1 44 0 9) (N1 52 0) = -1
  · obtain ⟨a, b⟩ := h13 q
    exact lX12_partOf h.2 (h12.trans q) a b hok.2 k1 (N1 44 0 13).toNat 0 (-1) (by omega) rfl
  · have hL : LM3 N1 = [] := by show lwL _ _ = []; unfold lwL; rw [if_neg q]
    have hz : sPt (LM3 N1) x1 x2 = -1 := by rw [hL]; rfl
    rw [hz] at k1
    exact sX12_partOf_9 ⟨by omega, fun _ => k1, fun _ => ⟨fun _ => k1, fun c => absurd c (by omega)⟩⟩
theorem RdC.lok {M : M3} (h : RdC M) : (∀ k : Int, 0 ≤ k → k < (LM3 M).length → ok1 (gp3 (LM3 M) k)) ∧ ((LM3 M).length : Int) ≤ 50 := lwL_ok (M 52 0) h.1
theorem RdC.pt {M : M3} (h : RdC M) (kd d : Int) : -1 ≤ sPt (LM3 M) kd d ∧ sPt (LM3 M) kd d < 50 := by
  have h1 := sPt_rg (LM3 M) kd d
  have h2 := h.lok.2
  omega
theorem RdC.val {M : M3} (h : RdC M ∧ M 44 0 11 = 1) {kd d : Int} (hp : sPt (LM3 M) kd d ≠ -1) : M 54 0 (sPt (LM3 M) kd d) = sSd (LM3 M) kd d := by
  obtain ⟨⟨h9, hr⟩, h11⟩ := h
  have h1 := sPt_rg (LM3 M) kd d
  rcases hr with hr | ⟨-, h12, h13⟩
  · omega
  by_cases q : lwF (M 44 0 9) (M 52 0) = -1
  · rw [((h13 q).2 _ (by omega) h1.2).2.1]
    unfold sSd
    rw [if_neg hp]
  · have hL : LM3 M = [] := by show lwL _ _ = []; unfold lwL; rw [if_neg q]
    rw [hL] at hp
    exact absurd rfl hp
theorem RdC.sd {M : M3} (h : RdC M) (kd d : Int) : -1 ≤ sSd (LM3 M) kd d ∧ sSd (LM3 M) kd d ≤ 99 := by
  unfold sSd
  split
  · unfold dfl3
    split
    · omega
    split
    · omega
    split
    · omega
    split <;> omega
  · next q =>
    have h1 := sPt_rg (LM3 M) kd d
    have h2 := (h.lok.1 (sPt (LM3 M) kd d) (by omega) h1.2).2.1
    have h3 : 0 ≤ (gp3 (LM3 M) (sPt (LM3 M) kd d)).2.1 := h2.1
    have h4 : (gp3 (LM3 M) (sPt (LM3 M) kd d)).2.1 ≤ 99 := h2.2
    omega
theorem sSd_none {l : List (Int × Int × Int)} {kd d : Int} (h : sPt l kd d = -1) : sSd l kd d = dfl3 kd := if_pos h
/-- a question's right answer is there just if a part is -/
theorem sSd_q {M : M3} (h : ∀ k : Int, 0 ≤ k → k < (LM3 M).length → ok1 (gp3 (LM3 M) k)) {q d : Int} (hq : 0 ≤ q ∧ q < 20) : sSd (LM3 M) q d = -1 ↔ sPt (LM3 M) q d = -1 := by
  constructor
  · intro e
    refine Classical.byContradiction fun hp => ?_
    have h1 := sPt_rg (LM3 M) q d
    have h2 := (h (sPt (LM3 M) q d) (by omega) h1.2).2.1
    have h3 : 0 ≤ (gp3 (LM3 M) (sPt (LM3 M) q d)).2.1 := h2.1
    unfold sSd at e
    rw [if_neg hp] at e
    omega
  · intro e
    rw [sSd_none e]
    unfold dfl3
    rw [if_neg (by omega), if_neg (by omega), if_neg (by omega), if_neg (by omega)]
