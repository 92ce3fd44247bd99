theorem LwC.cache {M N : M3} {d kd : Int} (hp : poRk M d N) (hf : ∀ q : Nat, q ∉ ([3, 8, 9] : List Nat) → N q = M q) (hs : ∀ j : Int, j ∉ ([10] : List Int) → N 3 0 j = M 3 0 j) (hd : 0 ≤ d) (hk : 0 ≤ kd ∧ kd < 24) : N 8 0 kd = sPt (LL3 M) kd d ∧ N 9 0 kd = sSd (LL3 M) kd d := by
  obtain ⟨⟨-, -, -, -, h5⟩, h6⟩ := hp
  rw [h6, LL3_eq (hf 4 (by decide)) (hs 0 (by decide))] at h5
  rcases h5 with h5 | h5
  · omega
  · exact h5 kd hk.1 hk.2
theorem kX4_saidOf {E : E3} {Q : Q3} {M : M3} {x1 x2 : Int} (h : LwC M ∧ (0 ≤ x1 ∧ x1 < 24) ∧ 0 ≤ x2 ∧ x2 ≤ 399) (k : ∀ (N : M3), RM3 N → (∀ q : Nat, q ∉ ([3, 8, 9] : List Nat) → N q = M q) → (∀ j : Int, j ∉ ([10] : List Int) → N 3 0 j = M 3 0 j) → LwC N → Q (some (vI (sSd (LL3 M) x1 x2))) N) : C3 E YX4_saidOf [vR 3 0, vI x1, vI x2] M Q := by
  refine sX4_saidOf ?_
  refine ⟨?_, ?_⟩
  · first | omega | exact ⟨h.1, h.2.2⟩
  intro N1 hN1 hf1 hs1 hp1
  refine ⟨?_, ?_⟩
  · first | omega | exact ⟨h.1, h.2.2⟩
  refine ⟨fun c1 => ?_, fun c1 => ?_⟩
  · first
    | (exfalso; omega)
    | (rw [(LwC.cache hp1 hf1 hs1 h.2.2.1 h.2.1).2]
       exact k N1 hN1 hf1 hs1 hp1.1)
  · refine ⟨fun c2 => ?_, fun c2 => ?_⟩
    · first
      | (exfalso; omega)
      | (rw [(LwC.cache hp1 hf1 hs1 h.2.2.1 h.2.1).2]
         exact k N1 hN1 hf1 hs1 hp1.1)
    · refine ⟨?_, ?_⟩
      · first | omega | exact ⟨h.1, h.2.2⟩
      first
      | (exfalso; omega)
      | (rw [(LwC.cache hp1 hf1 hs1 h.2.2.1 h.2.1).2]
         exact k N1 hN1 hf1 hs1 hp1.1)
theorem kX4_partFor {E : E3} {Q : Q3} {M : M3} {x1 x2 : Int} (h : LwC M ∧ (0 ≤ x1 ∧ x1 < 24) ∧ 0 ≤ x2 ∧ x2 ≤ 399) (k : ∀ (N : M3), RM3 N → (∀ q : Nat, q ∉ ([3, 8, 9] : List Nat) → N q = M q) → (∀ j : Int, j ∉ ([10] : List Int) → N 3 0 j = M 3 0 j) → LwC N → Q (some (vI (sPt (LL3 M) x1 x2))) N) : C3 E YX4_partFor [vR 3 0, vI x1, vI x2] M Q := by
  refine sX4_partFor ?_
  refine ⟨?_, ?_⟩
  · first | omega | exact ⟨h.1, h.2.2⟩
  intro N1 hN1 hf1 hs1 hp1
  refine ⟨?_, ?_⟩
  · first | omega | exact ⟨h.1, h.2.2⟩
  refine ⟨fun c1 => ?_, fun c1 => ?_⟩
  · first
    | (exfalso; omega)
    | (rw [(LwC.cache hp1 hf1 hs1 h.2.2.1 h.2.1).1]
       exact k N1 hN1 hf1 hs1 hp1.1)
  · refine ⟨fun c2 => ?_, fun c2 => ?_⟩
    · first
      | (exfalso; omega)
      | (rw [(LwC.cache hp1 hf1 hs1 h.2.2.1 h.2.1).1]
         exact k N1 hN1 hf1 hs1 hp1.1)
    · refine ⟨?_, ?_⟩
      · first | omega | exact ⟨h.1, h.2.2⟩
      first
      | (exfalso; omega)
      | (rw [(LwC.cache hp1 hf1 hs1 h.2.2.1 h.2.1).1]
         exact k N1 hN1 hf1 hs1 hp1.1)
def sRm (l : List (Int × Int × Int)) (d : Int) : Int := cn3 20 fun q => decide (sPt l q d ≠ -1)
theorem lsN_rg (f : Int → Bool) : ∀ n : Nat, -1 ≤ lsN f n ∧ lsN f n < n
  | 0 => ⟨Int.le_refl _, by show (-1 : Int) < ((0 : Nat) : Int); omega⟩
  | n + 1 => by
    have h := lsN_rg f n
    unfold lsN
    split <;> omega
theorem sPt_rg (l : List (Int × Int × Int)) (kd d : Int) : -1 ≤ sPt l kd d ∧ sPt l kd d < l.length := lsN_rg _ _
theorem LwC.len {M : M3} (h : LwC M) : ((LL3 M).length : Int) ≤ 50 := (lwL_ok (M 4 0) h.1).2
theorem LwC.pt {M : M3} (h : LwC M) (kd d : Int) : -1 ≤ sPt (LL3 M) kd d ∧ sPt (LL3 M) kd d < 50 := by
  have h1 := sPt_rg (LL3 M) kd d
  have h2 := h.len
  omega
theorem LwC.sd {M : M3} (h : LwC M) (kd d : Int) : -1 ≤ sSd (LL3 M) kd d ∧ sSd (LL3 M) kd d ≤ 99 := by
  unfold sSd
  split
  · unfold dfl3
    split
    · omega
    split
    · omega
    split
    · omega
    split <;> omega
  · next q =>
    have h1 := sPt_rg (LL3 M) kd d
    have h2 := ((lwL_ok (M 4 0) h.1).1 (sPt (LL3 M) kd d) (by omega) h1.2).2.1
    have h3 : 0 ≤ (gp3 (LL3 M) (sPt (LL3 M) kd d)).2.1 := h2.1
    have h4 : (gp3 (LL3 M) (sPt (LL3 M) kd d)).2.1 ≤ 99 := h2.2
    omega
