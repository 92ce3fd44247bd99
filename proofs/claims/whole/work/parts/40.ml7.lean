theorem kX12_rightOf {E : E3} {Q : Q3} {M : M3} {x1 x2 : Int} (h : RdC M ∧ (0 ≤ x1 ∧ x1 < 20) ∧ 0 ≤ x2 ∧ x2 ≤ 399) (k : ∀ (N : M3), RM3 N → (∀ q : Nat, q ∉ ([44, 53, 54, 55] : List Nat) → N q = M q) → (∀ j : Int, j ∉ ([11, 12, 13, 17] : List Int) → N 44 0 j = M 44 0 j) → RdC N → Q (some (vI (sSd (LM3 M) x1 x2))) N) : C3 E YX12_rightOf [vR 44 0, vI x1, vI x2] M Q := by
  have hpt := h.1.pt x1 x2
  refine sX12_rightOf ?_
  refine ⟨?_, ?_⟩
  · first | omega | exact ⟨h.1, by omega, h.2.2⟩
  intro N1 hN1 hf1 hs1 hp1
  refine ⟨?_, ?_⟩
  · first | omega | exact ⟨h.1, by omega, h.2.2⟩
  refine ⟨fun c1 => ?_, fun c1 => ?_⟩
  · refine ⟨?_, ?_⟩
    · first | omega | exact ⟨h.1, by omega, h.2.2⟩
    have k1 := k N1 hN1 hf1 hs1 hp1.1
    have eL : LM3 N1 = LM3 M := LM3_eq (hf1 52 (by decide)) (hs1 9 (by decide))
    first
      | (rw [← eL] at k1 c1 ⊢
         rw [RdC.val hp1 c1]
         exact k1)
      | (rw [sSd_none (by assumption)] at k1
         unfold dfl3 at k1
         rw [if_neg (by omega), if_neg (by omega), if_neg (by omega), if_neg (by omega)] at k1
         exact k1)
  · have k1 := k N1 hN1 hf1 hs1 hp1.1
    have eL : LM3 N1 = LM3 M := LM3_eq (hf1 52 (by decide)) (hs1 9 (by decide))
    first
      | (rw [← eL] at k1 c1 ⊢
         rw [RdC.val hp1 c1]
         exact k1)
      | (rw [sSd_none (by assumption)] at k1
         unfold dfl3 at k1
         rw [if_neg (by omega), if_neg (by omega), if_neg (by omega), if_neg (by omega)] at k1
         exact k1)
theorem kX12_lawOf {E : E3} {Q : Q3} {M : M3} {x1 x2 : Int} (h : RdC M ∧ (0 ≤ x1 ∧ x1 < 4) ∧ 0 ≤ x2 ∧ x2 ≤ 399) (k : ∀ (N : M3), RM3 N → (∀ q : Nat, q ∉ ([44, 53, 54, 55] : List Nat) → N q = M q) → (∀ j : Int, j ∉ ([11, 12, 13, 17] : List Int) → N 44 0 j = M 44 0 j) → RdC N → Q (some (vI (sSd (LM3 M) (20 + x1) x2))) N) : C3 E YX12_lawOf [vR 44 0, vI x1, vI x2] M Q := by
  have hpt := h.1.pt (20 + x1) x2
  refine sX12_lawOf ?_
  refine ⟨?_, ?_⟩
  · first | omega | exact ⟨h.1, by omega, h.2.2⟩
  intro N1 hN1 hf1 hs1 hp1
  refine ⟨?_, ?_⟩
  · first | omega | exact ⟨h.1, by omega, h.2.2⟩
  refine ⟨fun c1 => ?_, fun c1 => ?_⟩
  · refine ⟨?_, ?_⟩
    · first | omega | exact ⟨h.1, by omega, h.2.2⟩
    refine ⟨fun c2 => ?_, fun c2 => ?_⟩
    · refine ⟨fun c3 => ?_, fun c3 => ?_⟩
      · refine ⟨fun c4 => ?_, fun c4 => ?_⟩
        · have k1 := k N1 hN1 hf1 hs1 hp1.1
          have eL : LM3 N1 = LM3 M := LM3_eq (hf1 52 (by decide)) (hs1 9 (by decide))
          first
            | (rw [← eL] at k1 c1 ⊢
               rw [RdC.val hp1 c1]
               exact k1)
            | (rw [sSd_none (by assumption)] at k1
               unfold dfl3 at k1
               have hx1 : x1 = 0 ∨ x1 = 1 ∨ x1 = 2 ∨ x1 = 3 := by omega
               rcases hx1 with q | q | q | q <;> first | (exfalso; omega) | (rw [q] at k1; exact k1))
        · have k1 := k N1 hN1 hf1 hs1 hp1.1
          have eL : LM3 N1 = LM3 M := LM3_eq (hf1 52 (by decide)) (hs1 9 (by decide))
          first
            | (rw [← eL] at k1 c1 ⊢
               rw [RdC.val hp1 c1]
               exact k1)
            | (rw [sSd_none (by assumption)] at k1
               unfold dfl3 at k1
               have hx1 : x1 = 0 ∨ x1 = 1 ∨ x1 = 2 ∨ x1 = 3 := by omega
               rcases hx1 with q | q | q | q <;> first | (exfalso; omega) | (rw [q] at k1; exact k1))
      · have k1 := k N1 hN1 hf1 hs1 hp1.1
        have eL : LM3 N1 = LM3 M := LM3_eq (hf1 52 (by decide)) (hs1 9 (by decide))
        first
          | (rw [← eL] at k1 c1 ⊢
             rw [RdC.val hp1 c1]
             exact k1)
          | (rw [sSd_none (by assumption)] at k1
             unfold dfl3 at k1
             have hx1 : x1 = 0 ∨ x1 = 1 ∨ x1 = 2 ∨ x1 = 3 := by omega
             rcases hx1 with q | q | q | q <;> first | (exfalso; omega) | (rw [q] at k1; exact k1))
    · have k1 := k N1 hN1 hf1 hs1 hp1.1
      have eL : LM3 N1 = LM3 M := LM3_eq (hf1 52 (by decide)) (hs1 9 (by decide))
      first
        | (rw [← eL] at k1 c1 ⊢
           rw [RdC.val hp1 c1]
           exact k1)
        | (rw [sSd_none (by assumption)] at k1
           unfold dfl3 at k1
           have hx1 : x1 = 0 ∨ x1 = 1 ∨ x1 = 2 ∨ x1 = 3 := by omega
           rcases hx1 with q | q | q | q <;> first | (exfalso; omega) | (rw [q] at k1; exact k1))
  · refine ⟨?_, ?_⟩
    · first | omega | exact ⟨h.1, by omega, h.2.2⟩
    have k1 := k N1 hN1 hf1 hs1 hp1.1
    have eL : LM3 N1 = LM3 M := LM3_eq (hf1 52 (by decide)) (hs1 9 (by decide))
    first
      | (rw [← eL] at k1 c1 ⊢
         rw [RdC.val hp1 c1]
         exact k1)
      | (rw [sSd_none (by assumption)] at k1
         unfold dfl3 at k1
         have hx1 : x1 = 0 ∨ x1 = 1 ∨ x1 = 2 ∨ x1 = 3 := by omega
         rcases hx1 with q | q | q | q <;> first | (exfalso; omega) | (rw [q] at k1; exact k1))
