/-! CLASS: what the parts say on a day, kept for a day -/
def LwC (M : M3) : Prop := (0 ≤ M 3 0 0 ∧ M 3 0 0 ≤ 200) ∧ M 3 0 1 = lwF (M 3 0 0) (M 4 0) ∧ M 3 0 4 = ((LL3 M).length : Int) ∧ ars3 M (LL3 M) ∧ (M 3 0 10 = -1 ∨ ∀ kd : Int, 0 ≤ kd → kd < 24 → M 8 0 kd = sPt (LL3 M) kd (M 3 0 10) ∧ M 9 0 kd = sSd (LL3 M) kd (M 3 0 10))
def preRk (M : M3) (d : Int) : Prop := LwC M ∧ 0 ≤ d ∧ d ≤ 399
def poRk (M : M3) (d : Int) (N : M3) : Prop := LwC N ∧ N 3 0 10 = d
theorem LL3_eq {M N : M3} (h4 : N 4 = M 4) (h0 : N 3 0 0 = M 3 0 0) : LL3 N = LL3 M := by unfold LL3; rw [h4, h0]
def lsD (l : List (Int × Int × Int)) (kd d : Int) (m : Nat) : Int := lsN (fun k => decide ((gp3 l k).1 = kd ∧ (gp3 l k).2.2 ≤ d)) m
def sdD (l : List (Int × Int × Int)) (kd d : Int) (m : Nat) : Int := if lsD l kd d m = -1 then dfl3 kd else (gp3 l (lsD l kd d m)).2.1
theorem lsD_t {l : List (Int × Int × Int)} {kd d : Int} {m : Nat} (h : (gp3 l m).1 = kd ∧ (gp3 l m).2.2 ≤ d) : lsD l kd d (m + 1) = m := by
  unfold lsD lsN
  rw [if_pos (decide_eq_true h)]
theorem lsD_f {l : List (Int × Int × Int)} {kd d : Int} {m : Nat} (h : ¬ ((gp3 l m).1 = kd ∧ (gp3 l m).2.2 ≤ d)) : lsD l kd d (m + 1) = lsD l kd d m := by
  unfold lsD
  rw [lsN.eq_2, if_neg]
  intro q
  exact h (of_decide_eq_true q)
theorem lX4_rk77 {E : E3} {Q : Q3} {M0 : M3} {d : Int} (hd : 0 ≤ d ∧ d ≤ 399) (h0 : (0 ≤ M0 3 0 0 ∧ M0 3 0 0 ≤ 200) ∧ M0 3 0 1 = lwF (M0 3 0 0) (M0 4 0) ∧ M0 3 0 4 = ((LL3 M0).length : Int) ∧ ars3 M0 (LL3 M0)) (k : ∀ (N : M3), RM3 N → (∀ q : Nat, q ∉ ([3, 8, 9] : List Nat) → N q = M0 q) → (∀ j : Int, j ∉ ([10] : List Int) → N 3 0 j = M0 3 0 j) → poRk M0 d N → Q none N) : ∀ (n m : Nat) (M : M3), (m : Int) + n = M0 3 0 4 → (∀ q : Nat, q ∉ ([3, 8, 9] : List Nat) → M q = M0 q) → (∀ j : Int, j ∉ ([10] : List Int) → M 3 0 j = M0 3 0 j) → M 3 0 10 = d → (∀ kd : Int, 0 ≤ kd → kd < 24 → M 8 0 kd = lsD (LL3 M0) kd d m ∧ M 9 0 kd = sdD (LL3 M0) kd d m) → G3 E YX4_reckonFor Q 77 [(0, vR 3 0), (1, vI d), (2, vI (m : Int))] [] M := by
  have hok := lwL_ok (M0 4 0) h0.1
  have hlen : M0 3 0 4 ≤ 50 := by rw [h0.2.2.1]; exact hok.2
  intro n
  induction n with
  | zero =>
    intro m M h1 h2 h3 h4 h5
    refine g3_rm fun hM => ?_
    have e4 : M 3 0 4 = M0 3 0 4 := h3 4 (by decide)
    refine sX4_reckonFor_77 ⟨by omega, fun _ => k M hM h2 h3 ⟨⟨?_, ?_, ?_, ?_, Or.inr ?_⟩, h4⟩, fun c => absurd c (by omega)⟩
    · rw [h3 0 (by decide)]; exact h0.1
    · rw [h3 0 (by decide), h3 1 (by decide), h2 4 (by decide)]; exact h0.2.1
    · rw [LL3_eq (h2 4 (by decide)) (h3 0 (by decide)), e4]; exact h0.2.2.1
    · rw [LL3_eq (h2 4 (by decide)) (h3 0 (by decide))]
      intro k a b
      rw [h2 5 (by decide), h2 6 (by decide), h2 7 (by decide)]
      exact h0.2.2.2 k a b
    · rw [LL3_eq (h2 4 (by decide)) (h3 0 (by decide)), h4]
      intro kd a b
      have hm : m = (LL3 M0).length := by have := h0.2.2.1; omega
      rw [hm] at h5
      exact h5 kd a b
  | succ n ih =>
    intro m M h1 h2 h3 h4 h5
    refine g3_rm fun hM => ?_
    have e4 : M 3 0 4 = M0 3 0 4 := h3 4 (by decide)
    have hm : (m : Int) < (LL3 M0).length := by have := h0.2.2.1; omega
    obtain ⟨a1, a2, a3⟩ := h0.2.2.2 m (by omega) hm
    obtain ⟨b1, b2, b3, b4⟩ := hok.1 m (by omega) hm
    have e5 : M 5 0 m = (gp3 (LL3 M0) m).1 := by rw [h2 5 (by decide)]; exact a1
    have e6 : M 6 0 m = (gp3 (LL3 M0) m).2.1 := by rw [h2 6 (by decide)]; exact a2
    have e7 : M 7 0 m = (gp3 (LL3 M0) m).2.2 := by rw [h2 7 (by decide)]; exact a3
    refine sX4_reckonFor_77 ⟨by omega, fun c => absurd c (by omega), fun c => ⟨by omega, by omega, fun c2 => ?_, fun c2 => ⟨?_, ?_⟩⟩⟩
    · refine ih (m + 1) M (by omega) h2 h3 h4 (fun kd a b => ?_)
      unfold sdD
      rw [lsD_f (by omega)]
      exact h5 kd a b
    · rw [e5]
      show 0 ≤ (gp3 (LL3 M0) m).1 ∧ (gp3 (LL3 M0) m).1 < 24
      have : (gp3 (LL3 M0) m).1 ≤ 23 := b1.2
      have : 0 ≤ (gp3 (LL3 M0) m).1 := b1.1
      omega
    · refine ih (m + 1) _ (by omega) (fr_up (fr_up h2 (by decide)) (by decide)) (fun j hj => ?_) ?_ (fun kd a b => ?_)
      · rw [up3_nr (by decide), up3_nr (by decide)]; exact h3 j hj
      · rw [up3_nr (by decide), up3_nr (by decide)]; exact h4
      · by_cases q : kd = M 5 0 m
        · rw [up3_nr (by decide), q, up3_eq, up3_eq]
          unfold sdD
          rw [lsD_t (by omega), if_neg (by omega)]
          exact ⟨rfl, e6⟩
        · rw [up3_nr (by decide), up3_nj q, up3_nj q, up3_nr (by decide)]
          unfold sdD
          rw [lsD_f (by omega)]
          exact h5 kd a b
theorem lX4_rk16 {E : E3} {Q : Q3} {M0 : M3} {d : Int} (hd : 0 ≤ d ∧ d ≤ 399) (h0 : (0 ≤ M0 3 0 0 ∧ M0 3 0 0 ≤ 200) ∧ M0 3 0 1 = lwF (M0 3 0 0) (M0 4 0) ∧ M0 3 0 4 = ((LL3 M0).length : Int) ∧ ars3 M0 (LL3 M0)) (k : ∀ (N : M3), RM3 N → (∀ q : Nat, q ∉ ([3, 8, 9] : List Nat) → N q = M0 q) → (∀ j : Int, j ∉ ([10] : List Int) → N 3 0 j = M0 3 0 j) → poRk M0 d N → Q none N) : ∀ (n : Nat) (x2 : Int) (M : M3), x2 + n = 24 → 0 ≤ x2 → (∀ q : Nat, q ∉ ([3, 8, 9] : List Nat) → M q = M0 q) → (∀ j : Int, j ∉ ([10] : List Int) → M 3 0 j = M0 3 0 j) → M 3 0 10 = d → (∀ kd : Int, 0 ≤ kd → kd < x2 → M 8 0 kd = -1 ∧ M 9 0 kd = -1) → G3 E YX4_reckonFor Q 16 [(0, vR 3 0), (1, vI d), (2, vI x2)] [] M := by
  intro n
  induction n with
  | zero =>
    intro x2 M h1 hx h2 h3 h4 h5
    refine sX4_reckonFor_16 ⟨by omega, fun _ => ?_, fun c => absurd c (by omega)⟩
    refine lX4_rk77 hd h0 k (M0 3 0 4).toNat 0 _ (by have := h0.2.2.1; omega) (fr_up (fr_up (fr_up (fr_up h2 (by decide)) (by decide)) (by decide)) (by decide)) (fun j hj => ?_) ?_ (fun kd a b => ?_)
    · rw [up3_nr (by decide), up3_nr (by decide), up3_nr (by decide), up3_nr (by decide)]; exact h3 j hj
    · rw [up3_nr (by decide), up3_nr (by decide), up3_nr (by decide), up3_nr (by decide)]; exact h4
    · obtain ⟨a1, a2⟩ := h5 kd a (by omega)
      refine ⟨by rw [up3_nr (by decide), up3_nr (by decide), up3_nr (by decide), up3_nr (by decide)]; exact a1, ?_⟩
      have e : sdD (LL3 M0) kd d 0 = dfl3 kd := if_pos rfl
      rw [e]
      unfold dfl3 up3
      simp only [true_and]
      by_cases q0 : kd = 20
      · subst q0; simp
      by_cases q1 : kd = 21
      · subst q1; simp
      by_cases q2 : kd = 22
      · subst q2; simp
      by_cases q3 : kd = 23
      · subst q3; simp
      · simp [q0, q1, q2, q3, a2]
  | succ n ih =>
    intro x2 M h1 hx h2 h3 h4 h5
    refine sX4_reckonFor_16 ⟨by omega, fun c => absurd c (by omega), fun c => ⟨by omega, ?_⟩⟩
    refine ih _ _ (by omega) (by omega) (fr_up (fr_up h2 (by decide)) (by decide)) (fun j hj => ?_) ?_ (fun kd a b => ?_)
    · rw [up3_nr (by decide), up3_nr (by decide)]; exact h3 j hj
    · rw [up3_nr (by decide), up3_nr (by decide)]; exact h4
    · by_cases q : kd = x2
      · rw [up3_nr (by decide), q, up3_eq, up3_eq]
        exact ⟨rfl, rfl⟩
      · rw [up3_nr (by decide), up3_nj q, up3_nj q, up3_nr (by decide)]
        exact h5 kd a (by omega)
theorem kX4_reckonFor {E : E3} {Q : Q3} {M : M3} {x1 : Int} (h : preRk M x1) (k : ∀ (N : M3), RM3 N → (∀ q : Nat, q ∉ ([3, 8, 9] : List Nat) → N q = M q) → (∀ j : Int, j ∉ ([10] : List Int) → N 3 0 j = M 3 0 j) → poRk M x1 N → Q none N) : C3 E YX4_reckonFor [vR 3 0, vI x1] M Q := by
  refine c3_rm fun hM => ?_
  obtain ⟨hL, hd⟩ := h
  refine sX4_reckonFor ⟨by omega, fun _ => ?_, fun c => k M hM fr_rf (fun _ _ => rfl) ⟨hL, c⟩⟩
  exact lX4_rk16 hd ⟨hL.1, hL.2.1, hL.2.2.1, hL.2.2.2.1⟩ k 24 0 _ (by omega) (by omega) (fr_up fr_rf (by decide)) (fun j hj => up3_nj (fun q => hj (by rw [q]; decide))) up3_eq (fun kd a b => by omega)
