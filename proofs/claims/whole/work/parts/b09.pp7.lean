/-! PAIRS: sheets, choices, answers -/
def a_answer (M : M3) (x1 x2 : Int) : Int := if ¬ ((0 ≤ x1 ∧ x1 < M 44 0 18) ∧ (0 ≤ x2 ∧ x2 ≤ 19)) then -2 else if ¬ (M 57 0 x1 ≤ mNow M) then -3 else M 59 0 (20 * x1 + x2)
def u_answer (M : M3) (x1 x2 : Int) : M3 := if ¬ ((0 ≤ x1 ∧ x1 < M 44 0 18) ∧ (0 ≤ x2 ∧ x2 ≤ 19)) then M else if ¬ (M 57 0 x1 ≤ mNow M) then M else M
def w_answer (M : M3) (x1 x2 : Int) : M3 := if ¬ ((0 ≤ x1 ∧ x1 < M 44 0 18) ∧ (0 ≤ x2 ∧ x2 ≤ 19)) then M else if ¬ (M 57 0 x1 ≤ mNow M) then M else M
theorem c_answer {E : E3} {Q : Q3} {M : M3} {x1 x2 : Int} (hI : Inv M) (hx1 : -2147483648 ≤ x1 ∧ x1 ≤ 2147483647) (hx2 : -2147483648 ≤ x2 ∧ x2 ≤ 2147483647) (k : Q (some (vI (a_answer M x1 x2))) (u_answer M x1 x2)) : C3 E YX11_answer [vR 0 0, vI x1, vI x2] M Q := by
  refine c3_rm fun hM => ?_
  have hF1 := hI.1.1.2.2.2.1.1
  have hF2 := hI.1.1.2.2.2.1.2.1
  have hN := hI.1.1.now
  unfold a_answer u_answer at k
  by_cases hv : (0 ≤ x1 ∧ x1 < M 44 0 18) ∧ (0 ≤ x2 ∧ x2 ≤ 19)
  · have hf : M 18 x1 2 = M 57 0 x1 ∧ M 19 x1 x2 = M 59 0 (20 * x1 + x2) := by
      have w := hI.1.1.f hv.1.1 hv.1.2
      exact ⟨w.1.2.2.1, (w.2.1 x2 (by omega) (by omega)).1⟩
    refine sX11_answer ?_
    refine ⟨?_, ?_⟩
    · first | omega
    refine ⟨fun c1 => ?_, fun c1 => ?_⟩
    · first
      | (repeat (first | rw [if_pos (by omega)] at k | rw [if_neg (by omega)] at k)
         exact qI (by omega) k)
      | (exfalso; omega)
    · refine ⟨fun c2 => ?_, fun c2 => ?_⟩
      · first
        | (repeat (first | rw [if_pos (by omega)] at k | rw [if_neg (by omega)] at k)
           exact qI (by omega) k)
        | (exfalso; omega)
      · refine ⟨?_, ?_⟩
        · first | omega
        refine ⟨fun c3 => ?_, fun c3 => ?_⟩
        · refine ⟨?_, ?_⟩
          · first | omega
          refine ⟨fun c4 => ?_, fun c4 => ?_⟩
          · refine ⟨?_, ?_⟩
            · first | omega
            first
            | (repeat (first | rw [if_pos (by omega)] at k | rw [if_neg (by omega)] at k)
               exact qI (by omega) k)
            | (exfalso; omega)
          · first
            | (repeat (first | rw [if_pos (by omega)] at k | rw [if_neg (by omega)] at k)
               exact qI (by omega) k)
            | (exfalso; omega)
        · first
          | (repeat (first | rw [if_pos (by omega)] at k | rw [if_neg (by omega)] at k)
             exact qI (by omega) k)
          | (exfalso; omega)
  · skip
    refine sX11_answer ?_
    refine ⟨?_, ?_⟩
    · first | omega
    refine ⟨fun c1 => ?_, fun c1 => ?_⟩
    · first
      | (repeat (first | rw [if_pos (by omega)] at k | rw [if_neg (by omega)] at k)
         exact qI (by omega) k)
      | (exfalso; omega)
    · refine ⟨fun c2 => ?_, fun c2 => ?_⟩
      · first
        | (repeat (first | rw [if_pos (by omega)] at k | rw [if_neg (by omega)] at k)
           exact qI (by omega) k)
        | (exfalso; omega)
      · refine ⟨?_, ?_⟩
        · first | omega
        refine ⟨fun c3 => ?_, fun c3 => ?_⟩
        · refine ⟨?_, ?_⟩
          · first | omega
          refine ⟨fun c4 => ?_, fun c4 => ?_⟩
          · refine ⟨?_, ?_⟩
            · first | omega
            first
            | (repeat (first | rw [if_pos (by omega)] at k | rw [if_neg (by omega)] at k)
               exact qI (by omega) k)
            | (exfalso; omega)
          · first
            | (repeat (first | rw [if_pos (by omega)] at k | rw [if_neg (by omega)] at k)
               exact qI (by omega) k)
            | (exfalso; omega)
        · first
          | (repeat (first | rw [if_pos (by omega)] at k | rw [if_neg (by omega)] at k)
             exact qI (by omega) k)
          | (exfalso; omega)
theorem m_answer {E : E3} {Q : Q3} {M : M3} {x1 x2 : Int} (hW : WM M) (hR : RdC M) (hx1 : -2147483648 ≤ x1 ∧ x1 ≤ 2147483647) (hx2 : -2147483648 ≤ x2 ∧ x2 ≤ 2147483647) (k : Q (some (vI (a_answer M x1 x2))) (w_answer M x1 x2)) : C3 E YX12_answer [vR 44 0, vI x1, vI x2] M Q := by
  refine c3_rm fun hM => ?_
  obtain ⟨w1, w2, w3, w4, w5, w6, w7, w8⟩ := hW.1
  unfold a_answer w_answer at k
  refine sX12_answer ?_
  refine ⟨?_, ?_⟩
  · first | omega
  refine ⟨fun c1 => ?_, fun c1 => ?_⟩
  · first
    | (repeat (first | rw [if_pos (by omega)] at k | rw [if_neg (by omega)] at k)
       exact qI (by omega) k)
    | (exfalso; omega)
  · refine ⟨?_, ?_⟩
    · first | omega
    refine ⟨fun c2 => ?_, fun c2 => ?_⟩
    · refine ⟨?_, ?_⟩
      · first | omega
      refine ⟨fun c3 => ?_, fun c3 => ?_⟩
      · first
        | (repeat (first | rw [if_pos (by omega)] at k | rw [if_neg (by omega)] at k)
           exact qI (by omega) k)
        | (exfalso; omega)
      · refine ⟨?_, ?_⟩
        · first | omega
        first
        | (repeat (first | rw [if_pos (by omega)] at k | rw [if_neg (by omega)] at k)
           exact qI (by omega) k)
        | (exfalso; omega)
    · first
      | (repeat (first | rw [if_pos (by omega)] at k | rw [if_neg (by omega)] at k)
         exact qI (by omega) k)
      | (exfalso; omega)
theorem a_answer_q {M N : M3} (h : Hm M N) (x1 x2 : Int) : a_answer N x1 x2 = a_answer M x1 x2 := by unfold a_answer; simp only [h 44 (by decide), h 57 (by decide), h 59 (by decide), mNow_q h]
theorem i_answer {M : M3} {x1 x2 : Int} (hI : Inv M) (hx1 : -2147483648 ≤ x1 ∧ x1 ≤ 2147483647) (hx2 : -2147483648 ≤ x2 ∧ x2 ≤ 2147483647) : Inv (w_answer (u_answer M x1 x2) x1 x2) := by
  unfold w_answer u_answer
  repeat (first | exact hI | split)
theorem p_answer {E : E3} {M : M3} {x1 x2 : Int} (hI : Inv M) (hx1 : -2147483648 ≤ x1 ∧ x1 ≤ 2147483647) (hx2 : -2147483648 ≤ x2 ∧ x2 ≤ 2147483647) : C3 E YX11_answer [vR 0 0, vI x1, vI x2] M (P2 E YX12_answer [vR 44 0, vI x1, vI x2]) :=
  c_answer hI hx1 hx2 (p2I (m_answer (WM_q (fun q _ => by unfold u_answer; repeat (first | rfl | split)) hI.1.1.wm) (by have h := hI.2.2; unfold u_answer; repeat (first | exact h | split)) hx1 hx2 (r2I (svI (a_answer_q (fun q _ => by unfold u_answer; repeat (first | rfl | split)) x1 x2)) (i_answer hI hx1 hx2))))
