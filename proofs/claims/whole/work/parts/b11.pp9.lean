/-! PAIRS: the law -/
def a_roll (M : M3) (x1 x2 x3 : Int) : Int := if ¬ (((-1 ≤ x1 ∧ x1 ≤ 5) ∧ (-1 ≤ x2 ∧ x2 ≤ 1)) ∧ (0 ≤ x3 ∧ x3 ≤ 2)) then -2 else mRoll M x1 x2 x3
def u_roll (M : M3) (x1 x2 x3 : Int) : M3 := if ¬ (((-1 ≤ x1 ∧ x1 ≤ 5) ∧ (-1 ≤ x2 ∧ x2 ≤ 1)) ∧ (0 ≤ x3 ∧ x3 ≤ 2)) then M else M
def w_roll (M : M3) (x1 x2 x3 : Int) : M3 := if ¬ (((-1 ≤ x1 ∧ x1 ≤ 5) ∧ (-1 ≤ x2 ∧ x2 ≤ 1)) ∧ (0 ≤ x3 ∧ x3 ≤ 2)) then M else M
theorem c_roll {E : E3} {Q : Q3} {M : M3} {x1 x2 x3 : Int} (hI : Inv M) (hx1 : -2147483648 ≤ x1 ∧ x1 ≤ 2147483647) (hx2 : -2147483648 ≤ x2 ∧ x2 ≤ 2147483647) (hx3 : -2147483648 ≤ x3 ∧ x3 ≤ 2147483647) (k : Q (some (vI (a_roll M x1 x2 x3))) (u_roll M x1 x2 x3)) : C3 E YX11_roll [vR 0 0, vI x1, vI x2, vI x3] M Q := by
  refine c3_rm fun hM => ?_
  have hc1 := hI.1.1.2.2.1.1
  have hc2 := hI.1.1.2.2.1.2.1
  unfold a_roll u_roll at k
  by_cases hv : x3 ≤ 2
  · have hf := hI.1.1.tly (b := x1) (s := x2) hv
    refine sX11_roll ?_
    refine ⟨?_, ?_⟩
    · first | omega
    refine ⟨fun c1 => ?_, fun c1 => ?_⟩
    · refine ⟨?_, ?_⟩
      · first | omega
      refine ⟨fun c2 => ?_, fun c2 => ?_⟩
      · refine ⟨?_, ?_⟩
        · first | omega
        refine ⟨fun c3 => ?_, fun c3 => ?_⟩
        · refine ⟨?_, ?_⟩
          · first | omega
          first
          | (repeat (first | rw [if_pos (by omega)] at k | rw [if_neg (by omega)] at k)
             exact qI (by omega) k)
          | (exfalso; omega)
        · first
          | (repeat (first | rw [if_pos (by omega)] at k | rw [if_neg (by omega)] at k)
             exact qI (by omega) k)
          | (exfalso; omega)
      · refine ⟨?_, ?_⟩
        · first | omega
        refine ⟨fun c3 => ?_, fun c3 => ?_⟩
        · first
          | (repeat (first | rw [if_pos (by omega)] at k | rw [if_neg (by omega)] at k)
             exact qI (by omega) k)
          | (exfalso; omega)
        · refine ⟨?_, ?_⟩
          · first | omega
          refine ⟨fun c4 => ?_, fun c4 => ?_⟩
          · refine ⟨?_, ?_⟩
            · first | omega
            first
            | (repeat (first | rw [if_pos (by omega)] at k | rw [if_neg (by omega)] at k)
               exact qI (by omega) k)
            | (exfalso; omega)
          · first
            | (repeat (first | rw [if_pos (by omega)] at k | rw [if_neg (by omega)] at k)
               exact qI (by omega) k)
            | (exfalso; omega)
    · refine ⟨?_, ?_⟩
      · first | omega
      refine ⟨fun c2 => ?_, fun c2 => ?_⟩
      · first
        | (repeat (first | rw [if_pos (by omega)] at k | rw [if_neg (by omega)] at k)
           exact qI (by omega) k)
        | (exfalso; omega)
      · refine ⟨?_, ?_⟩
        · first | omega
        refine ⟨fun c3 => ?_, fun c3 => ?_⟩
        · refine ⟨?_, ?_⟩
          · first | omega
          refine ⟨fun c4 => ?_, fun c4 => ?_⟩
          · refine ⟨?_, ?_⟩
            · first | omega
            first
            | (repeat (first | rw [if_pos (by omega)] at k | rw [if_neg (by omega)] at k)
               exact qI (by omega) k)
            | (exfalso; omega)
          · first
            | (repeat (first | rw [if_pos (by omega)] at k | rw [if_neg (by omega)] at k)
               exact qI (by omega) k)
            | (exfalso; omega)
        · refine ⟨?_, ?_⟩
          · first | omega
          refine ⟨fun c4 => ?_, fun c4 => ?_⟩
          · first
            | (repeat (first | rw [if_pos (by omega)] at k | rw [if_neg (by omega)] at k)
               exact qI (by omega) k)
            | (exfalso; omega)
          · refine ⟨?_, ?_⟩
            · first | omega
            refine ⟨fun c5 => ?_, fun c5 => ?_⟩
            · refine ⟨?_, ?_⟩
              · first | omega
              first
              | (repeat (first | rw [if_pos (by omega)] at k | rw [if_neg (by omega)] at k)
                 exact qI (by omega) k)
              | (exfalso; omega)
            · first
              | (repeat (first | rw [if_pos (by omega)] at k | rw [if_neg (by omega)] at k)
                 exact qI (by omega) k)
              | (exfalso; omega)
  · skip
    refine sX11_roll ?_
    refine ⟨?_, ?_⟩
    · first | omega
    refine ⟨fun c1 => ?_, fun c1 => ?_⟩
    · refine ⟨?_, ?_⟩
      · first | omega
      refine ⟨fun c2 => ?_, fun c2 => ?_⟩
      · refine ⟨?_, ?_⟩
        · first | omega
        refine ⟨fun c3 => ?_, fun c3 => ?_⟩
        · refine ⟨?_, ?_⟩
          · first | omega
          first
          | (repeat (first | rw [if_pos (by omega)] at k | rw [if_neg (by omega)] at k)
             exact qI (by omega) k)
          | (exfalso; omega)
        · first
          | (repeat (first | rw [if_pos (by omega)] at k | rw [if_neg (by omega)] at k)
             exact qI (by omega) k)
          | (exfalso; omega)
      · refine ⟨?_, ?_⟩
        · first | omega
        refine ⟨fun c3 => ?_, fun c3 => ?_⟩
        · first
          | (repeat (first | rw [if_pos (by omega)] at k | rw [if_neg (by omega)] at k)
             exact qI (by omega) k)
          | (exfalso; omega)
        · refine ⟨?_, ?_⟩
          · first | omega
          refine ⟨fun c4 => ?_, fun c4 => ?_⟩
          · refine ⟨?_, ?_⟩
            · first | omega
            first
            | (repeat (first | rw [if_pos (by omega)] at k | rw [if_neg (by omega)] at k)
               exact qI (by omega) k)
            | (exfalso; omega)
          · first
            | (repeat (first | rw [if_pos (by omega)] at k | rw [if_neg (by omega)] at k)
               exact qI (by omega) k)
            | (exfalso; omega)
    · refine ⟨?_, ?_⟩
      · first | omega
      refine ⟨fun c2 => ?_, fun c2 => ?_⟩
      · first
        | (repeat (first | rw [if_pos (by omega)] at k | rw [if_neg (by omega)] at k)
           exact qI (by omega) k)
        | (exfalso; omega)
      · refine ⟨?_, ?_⟩
        · first | omega
        refine ⟨fun c3 => ?_, fun c3 => ?_⟩
        · refine ⟨?_, ?_⟩
          · first | omega
          refine ⟨fun c4 => ?_, fun c4 => ?_⟩
          · refine ⟨?_, ?_⟩
            · first | omega
            first
            | (repeat (first | rw [if_pos (by omega)] at k | rw [if_neg (by omega)] at k)
               exact qI (by omega) k)
            | (exfalso; omega)
          · first
            | (repeat (first | rw [if_pos (by omega)] at k | rw [if_neg (by omega)] at k)
               exact qI (by omega) k)
            | (exfalso; omega)
        · refine ⟨?_, ?_⟩
          · first | omega
          refine ⟨fun c4 => ?_, fun c4 => ?_⟩
          · first
            | (repeat (first | rw [if_pos (by omega)] at k | rw [if_neg (by omega)] at k)
               exact qI (by omega) k)
            | (exfalso; omega)
          · refine ⟨?_, ?_⟩
            · first | omega
            refine ⟨fun c5 => ?_, fun c5 => ?_⟩
            · refine ⟨?_, ?_⟩
              · first | omega
              first
              | (repeat (first | rw [if_pos (by omega)] at k | rw [if_neg (by omega)] at k)
                 exact qI (by omega) k)
              | (exfalso; omega)
            · first
              | (repeat (first | rw [if_pos (by omega)] at k | rw [if_neg (by omega)] at k)
                 exact qI (by omega) k)
              | (exfalso; omega)
theorem m_roll {E : E3} {Q : Q3} {M : M3} {x1 x2 x3 : Int} (hW : WM M) (hR : RdC M) (hx1 : -2147483648 ≤ x1 ∧ x1 ≤ 2147483647) (hx2 : -2147483648 ≤ x2 ∧ x2 ≤ 2147483647) (hx3 : -2147483648 ≤ x3 ∧ x3 ≤ 2147483647) (k : Q (some (vI (a_roll M x1 x2 x3))) (w_roll M x1 x2 x3)) : C3 E YX12_roll [vR 44 0, vI x1, vI x2, vI x3] M Q := by
  refine c3_rm fun hM => ?_
  obtain ⟨w1, w2, w3, w4, w5, w6, w7, w8⟩ := hW.1
  unfold a_roll w_roll at k
  refine sX12_roll ?_
  refine ⟨?_, ?_⟩
  · first | omega
  refine ⟨fun c1 => ?_, fun c1 => ?_⟩
  · first
    | (repeat (first | rw [if_pos (by omega)] at k | rw [if_neg (by omega)] at k)
       exact qI (by omega) k)
    | (exfalso; omega)
  · refine ⟨?_, ?_⟩
    · first | omega
    refine ⟨fun c2 => ?_, fun c2 => ?_⟩
    · first
      | (repeat (first | rw [if_pos (by omega)] at k | rw [if_neg (by omega)] at k)
         exact qI (by omega) k)
      | (exfalso; omega)
    · refine ⟨?_, ?_⟩
      · first | omega
      refine ⟨fun c3 => ?_, fun c3 => ?_⟩
      · first
        | (repeat (first | rw [if_pos (by omega)] at k | rw [if_neg (by omega)] at k)
           exact qI (by omega) k)
        | (exfalso; omega)
      · refine ⟨?_, ?_⟩
        · first | omega
        first
        | (repeat (first | rw [if_pos (by omega)] at k | rw [if_neg (by omega)] at k)
           exact qI (by omega) k)
        | (exfalso; omega)
theorem a_roll_q {M N : M3} (h : Hm M N) (x1 x2 x3 : Int) : a_roll N x1 x2 x3 = a_roll M x1 x2 x3 := by unfold a_roll; simp only [mRoll_q h]
theorem i_roll {M : M3} {x1 x2 x3 : Int} (hI : Inv M) (hx1 : -2147483648 ≤ x1 ∧ x1 ≤ 2147483647) (hx2 : -2147483648 ≤ x2 ∧ x2 ≤ 2147483647) (hx3 : -2147483648 ≤ x3 ∧ x3 ≤ 2147483647) : Inv (w_roll (u_roll M x1 x2 x3) x1 x2 x3) := by
  unfold w_roll u_roll
  repeat (first | exact hI | split)
theorem p_roll {E : E3} {M : M3} {x1 x2 x3 : Int} (hI : Inv M) (hx1 : -2147483648 ≤ x1 ∧ x1 ≤ 2147483647) (hx2 : -2147483648 ≤ x2 ∧ x2 ≤ 2147483647) (hx3 : -2147483648 ≤ x3 ∧ x3 ≤ 2147483647) : C3 E YX11_roll [vR 0 0, vI x1, vI x2, vI x3] M (P2 E YX12_roll [vR 44 0, vI x1, vI x2, vI x3]) :=
  c_roll hI hx1 hx2 hx3 (p2I (m_roll (WM_q (fun q _ => by unfold u_roll; repeat (first | rfl | split)) hI.1.1.wm) (by have h := hI.2.2; unfold u_roll; repeat (first | exact h | split)) hx1 hx2 hx3 (r2I (svI (a_roll_q (fun q _ => by unfold u_roll; repeat (first | rfl | split)) x1 x2 x3)) (i_roll hI hx1 hx2 hx3))))
def a_right (M : M3) (x1 x2 : Int) : Int := if ¬ ((0 ≤ x1 ∧ x1 ≤ 19) ∧ (0 ≤ x2 ∧ x2 ≤ 399)) then -2 else sSd (LM3 M) x1 x2
theorem c_right {E : E3} {Q : Q3} {M : M3} {x1 x2 : Int} (hI : Inv M) (hx1 : -2147483648 ≤ x1 ∧ x1 ≤ 2147483647) (hx2 : -2147483648 ≤ x2 ∧ x2 ≤ 2147483647) (k : ∀ (N : M3), Inv N → Hm M N → Q (some (vI (a_right M x1 x2))) N) : C3 E YX11_right [vR 0 0, vI x1, vI x2] M Q := by
  refine c3_rm fun hM => ?_
  have hL := hI.1.1.L
  unfold a_right at k
  refine sX11_right ?_
  refine ⟨?_, ?_⟩
  · first | omega | exact ⟨hI.2.1, by omega⟩ | exact ⟨hI.2.2, by omega⟩
  refine ⟨fun c1 => ?_, fun c1 => ?_⟩
  · first
    | (refine qI ?_ (k _ (hI.c he1 hp1) he1.hm)
       try simp only [hL]
       (repeat (first | rw [if_pos (by omega)] | rw [if_neg (by omega)]))
       all_goals (first | rfl | omega))
    | (refine qI ?_ (k _ hI Hm.rf)
       try simp only [hL]
       (repeat (first | rw [if_pos (by omega)] | rw [if_neg (by omega)]))
       all_goals (first | rfl | omega))
    | (exfalso; omega)
  · refine ⟨?_, ?_⟩
    · first | omega | exact ⟨hI.2.1, by omega⟩ | exact ⟨hI.2.2, by omega⟩
    refine ⟨fun c2 => ?_, fun c2 => ?_⟩
    · refine ⟨?_, ?_⟩
      · first | omega | exact ⟨hI.2.1, by omega⟩ | exact ⟨hI.2.2, by omega⟩
      intro N1 hN1 he1 hp1
      first
      | (refine qI ?_ (k _ (hI.c he1 hp1) he1.hm)
         try simp only [hL]
         (repeat (first | rw [if_pos (by omega)] | rw [if_neg (by omega)]))
         all_goals (first | rfl | omega))
      | (refine qI ?_ (k _ hI Hm.rf)
         try simp only [hL]
         (repeat (first | rw [if_pos (by omega)] | rw [if_neg (by omega)]))
         all_goals (first | rfl | omega))
      | (exfalso; omega)
    · first
      | (refine qI ?_ (k _ (hI.c he1 hp1) he1.hm)
         try simp only [hL]
         (repeat (first | rw [if_pos (by omega)] | rw [if_neg (by omega)]))
         all_goals (first | rfl | omega))
      | (refine qI ?_ (k _ hI Hm.rf)
         try simp only [hL]
         (repeat (first | rw [if_pos (by omega)] | rw [if_neg (by omega)]))
         all_goals (first | rfl | omega))
      | (exfalso; omega)
theorem m_right {E : E3} {Q : Q3} {M : M3} {x1 x2 : Int} (hI : Inv M) (hx1 : -2147483648 ≤ x1 ∧ x1 ≤ 2147483647) (hx2 : -2147483648 ≤ x2 ∧ x2 ≤ 2147483647) (k : ∀ (N : M3), Inv N → Q (some (vI (a_right M x1 x2))) N) : C3 E YX12_right [vR 44 0, vI x1, vI x2] M Q := by
  refine c3_rm fun hM => ?_
  skip
  unfold a_right at k
  refine sX12_right ?_
  refine ⟨?_, ?_⟩
  · first | omega | exact ⟨hI.2.1, by omega⟩ | exact ⟨hI.2.2, by omega⟩
  refine ⟨fun c1 => ?_, fun c1 => ?_⟩
  · first
    | (refine qI ?_ (k _ (hI.m he1 hp1))
       skip
       (repeat (first | rw [if_pos (by omega)] | rw [if_neg (by omega)]))
       all_goals (first | rfl | omega))
    | (refine qI ?_ (k _ hI)
       skip
       (repeat (first | rw [if_pos (by omega)] | rw [if_neg (by omega)]))
       all_goals (first | rfl | omega))
    | (exfalso; omega)
  · refine ⟨?_, ?_⟩
    · first | omega | exact ⟨hI.2.1, by omega⟩ | exact ⟨hI.2.2, by omega⟩
    refine ⟨fun c2 => ?_, fun c2 => ?_⟩
    · first
      | (refine qI ?_ (k _ (hI.m he1 hp1))
         skip
         (repeat (first | rw [if_pos (by omega)] | rw [if_neg (by omega)]))
         all_goals (first | rfl | omega))
      | (refine qI ?_ (k _ hI)
         skip
         (repeat (first | rw [if_pos (by omega)] | rw [if_neg (by omega)]))
         all_goals (first | rfl | omega))
      | (exfalso; omega)
    · refine ⟨?_, ?_⟩
      · first | omega | exact ⟨hI.2.1, by omega⟩ | exact ⟨hI.2.2, by omega⟩
      intro N1 hN1 he1 hp1
      first
      | (refine qI ?_ (k _ (hI.m he1 hp1))
         skip
         (repeat (first | rw [if_pos (by omega)] | rw [if_neg (by omega)]))
         all_goals (first | rfl | omega))
      | (refine qI ?_ (k _ hI)
         skip
         (repeat (first | rw [if_pos (by omega)] | rw [if_neg (by omega)]))
         all_goals (first | rfl | omega))
      | (exfalso; omega)
theorem a_right_q {M N : M3} (h : Hm M N) (x1 x2 : Int) : a_right N x1 x2 = a_right M x1 x2 := by unfold a_right; simp only [LM3_q h]
theorem p_right {E : E3} {M : M3} {x1 x2 : Int} (hI : Inv M) (hx1 : -2147483648 ≤ x1 ∧ x1 ≤ 2147483647) (hx2 : -2147483648 ≤ x2 ∧ x2 ≤ 2147483647) : C3 E YX11_right [vR 0 0, vI x1, vI x2] M (P2 E YX12_right [vR 44 0, vI x1, vI x2]) :=
  c_right hI hx1 hx2 (fun N hN hq => p2I (m_right hN hx1 hx2 (fun K hK => r2I (svI (a_right_q hq x1 x2)) hK)))
def a_law (M : M3) (x1 x2 : Int) : Int := if ¬ ((0 ≤ x1 ∧ x1 ≤ 3) ∧ (0 ≤ x2 ∧ x2 ≤ 399)) then -2 else sSd (LM3 M) (20 + x1) x2
theorem c_law {E : E3} {Q : Q3} {M : M3} {x1 x2 : Int} (hI : Inv M) (hx1 : -2147483648 ≤ x1 ∧ x1 ≤ 2147483647) (hx2 : -2147483648 ≤ x2 ∧ x2 ≤ 2147483647) (k : ∀ (N : M3), Inv N → Hm M N → Q (some (vI (a_law M x1 x2))) N) : C3 E YX11_law [vR 0 0, vI x1, vI x2] M Q := by
  refine c3_rm fun hM => ?_
  have hL := hI.1.1.L
  unfold a_law at k
  refine sX11_law ?_
  refine ⟨?_, ?_⟩
  · first | omega | exact ⟨hI.2.1, by omega⟩ | exact ⟨hI.2.2, by omega⟩
  refine ⟨fun c1 => ?_, fun c1 => ?_⟩
  · first
    | (refine qI ?_ (k _ (hI.c he1 hp1) he1.hm)
       try simp only [hL]
       (repeat (first | rw [if_pos (by omega)] | rw [if_neg (by omega)]))
       all_goals (first | rfl | omega))
    | (refine qI ?_ (k _ hI Hm.rf)
       try simp only [hL]
       (repeat (first | rw [if_pos (by omega)] | rw [if_neg (by omega)]))
       all_goals (first | rfl | omega))
    | (exfalso; omega)
  · refine ⟨?_, ?_⟩
    · first | omega | exact ⟨hI.2.1, by omega⟩ | exact ⟨hI.2.2, by omega⟩
    refine ⟨fun c2 => ?_, fun c2 => ?_⟩
    · refine ⟨?_, ?_⟩
      · first | omega | exact ⟨hI.2.1, by omega⟩ | exact ⟨hI.2.2, by omega⟩
      intro N1 hN1 he1 hp1
      first
      | (refine qI ?_ (k _ (hI.c he1 hp1) he1.hm)
         try simp only [hL]
         (repeat (first | rw [if_pos (by omega)] | rw [if_neg (by omega)]))
         all_goals (first | rfl | omega))
      | (refine qI ?_ (k _ hI Hm.rf)
         try simp only [hL]
         (repeat (first | rw [if_pos (by omega)] | rw [if_neg (by omega)]))
         all_goals (first | rfl | omega))
      | (exfalso; omega)
    · first
      | (refine qI ?_ (k _ (hI.c he1 hp1) he1.hm)
         try simp only [hL]
         (repeat (first | rw [if_pos (by omega)] | rw [if_neg (by omega)]))
         all_goals (first | rfl | omega))
      | (refine qI ?_ (k _ hI Hm.rf)
         try simp only [hL]
         (repeat (first | rw [if_pos (by omega)] | rw [if_neg (by omega)]))
         all_goals (first | rfl | omega))
      | (exfalso; omega)
theorem m_law {E : E3} {Q : Q3} {M : M3} {x1 x2 : Int} (hI : Inv M) (hx1 : -2147483648 ≤ x1 ∧ x1 ≤ 2147483647) (hx2 : -2147483648 ≤ x2 ∧ x2 ≤ 2147483647) (k : ∀ (N : M3), Inv N → Q (some (vI (a_law M x1 x2))) N) : C3 E YX12_law [vR 44 0, vI x1, vI x2] M Q := by
  refine c3_rm fun hM => ?_
  skip
  unfold a_law at k
  refine sX12_law ?_
  refine ⟨?_, ?_⟩
  · first | omega | exact ⟨hI.2.1, by omega⟩ | exact ⟨hI.2.2, by omega⟩
  refine ⟨fun c1 => ?_, fun c1 => ?_⟩
  · first
    | (refine qI ?_ (k _ (hI.m he1 hp1))
       skip
       (repeat (first | rw [if_pos (by omega)] | rw [if_neg (by omega)]))
       all_goals (first | rfl | omega))
    | (refine qI ?_ (k _ hI)
       skip
       (repeat (first | rw [if_pos (by omega)] | rw [if_neg (by omega)]))
       all_goals (first | rfl | omega))
    | (exfalso; omega)
  · refine ⟨?_, ?_⟩
    · first | omega | exact ⟨hI.2.1, by omega⟩ | exact ⟨hI.2.2, by omega⟩
    refine ⟨fun c2 => ?_, fun c2 => ?_⟩
    · first
      | (refine qI ?_ (k _ (hI.m he1 hp1))
         skip
         (repeat (first | rw [if_pos (by omega)] | rw [if_neg (by omega)]))
         all_goals (first | rfl | omega))
      | (refine qI ?_ (k _ hI)
         skip
         (repeat (first | rw [if_pos (by omega)] | rw [if_neg (by omega)]))
         all_goals (first | rfl | omega))
      | (exfalso; omega)
    · refine ⟨?_, ?_⟩
      · first | omega | exact ⟨hI.2.1, by omega⟩ | exact ⟨hI.2.2, by omega⟩
      intro N1 hN1 he1 hp1
      first
      | (refine qI ?_ (k _ (hI.m he1 hp1))
         skip
         (repeat (first | rw [if_pos (by omega)] | rw [if_neg (by omega)]))
         all_goals (first | rfl | omega))
      | (refine qI ?_ (k _ hI)
         skip
         (repeat (first | rw [if_pos (by omega)] | rw [if_neg (by omega)]))
         all_goals (first | rfl | omega))
      | (exfalso; omega)
theorem a_law_q {M N : M3} (h : Hm M N) (x1 x2 : Int) : a_law N x1 x2 = a_law M x1 x2 := by unfold a_law; simp only [LM3_q h]
theorem p_law {E : E3} {M : M3} {x1 x2 : Int} (hI : Inv M) (hx1 : -2147483648 ≤ x1 ∧ x1 ≤ 2147483647) (hx2 : -2147483648 ≤ x2 ∧ x2 ≤ 2147483647) : C3 E YX11_law [vR 0 0, vI x1, vI x2] M (P2 E YX12_law [vR 44 0, vI x1, vI x2]) :=
  c_law hI hx1 hx2 (fun N hN hq => p2I (m_law hN hx1 hx2 (fun K hK => r2I (svI (a_law_q hq x1 x2)) hK)))
def a_why (M : M3) (x1 x2 : Int) : Int := if ¬ ((0 ≤ x1 ∧ x1 ≤ 23) ∧ (0 ≤ x2 ∧ x2 ≤ 399)) then -2 else sPt (LM3 M) x1 x2
theorem c_why {E : E3} {Q : Q3} {M : M3} {x1 x2 : Int} (hI : Inv M) (hx1 : -2147483648 ≤ x1 ∧ x1 ≤ 2147483647) (hx2 : -2147483648 ≤ x2 ∧ x2 ≤ 2147483647) (k : ∀ (N : M3), Inv N → Hm M N → Q (some (vI (a_why M x1 x2))) N) : C3 E YX11_why [vR 0 0, vI x1, vI x2] M Q := by
  refine c3_rm fun hM => ?_
  have hL := hI.1.1.L
  unfold a_why at k
  refine sX11_why ?_
  refine ⟨?_, ?_⟩
  · first | omega | exact ⟨hI.2.1, by omega⟩ | exact ⟨hI.2.2, by omega⟩
  refine ⟨fun c1 => ?_, fun c1 => ?_⟩
  · first
    | (refine qI ?_ (k _ (hI.c he1 hp1) he1.hm)
       try simp only [hL]
       (repeat (first | rw [if_pos (by omega)] | rw [if_neg (by omega)]))
       all_goals (first | rfl | omega))
    | (refine qI ?_ (k _ hI Hm.rf)
       try simp only [hL]
       (repeat (first | rw [if_pos (by omega)] | rw [if_neg (by omega)]))
       all_goals (first | rfl | omega))
    | (exfalso; omega)
  · refine ⟨?_, ?_⟩
    · first | omega | exact ⟨hI.2.1, by omega⟩ | exact ⟨hI.2.2, by omega⟩
    refine ⟨fun c2 => ?_, fun c2 => ?_⟩
    · refine ⟨?_, ?_⟩
      · first | omega | exact ⟨hI.2.1, by omega⟩ | exact ⟨hI.2.2, by omega⟩
      intro N1 hN1 he1 hp1
      first
      | (refine qI ?_ (k _ (hI.c he1 hp1) he1.hm)
         try simp only [hL]
         (repeat (first | rw [if_pos (by omega)] | rw [if_neg (by omega)]))
         all_goals (first | rfl | omega))
      | (refine qI ?_ (k _ hI Hm.rf)
         try simp only [hL]
         (repeat (first | rw [if_pos (by omega)] | rw [if_neg (by omega)]))
         all_goals (first | rfl | omega))
      | (exfalso; omega)
    · first
      | (refine qI ?_ (k _ (hI.c he1 hp1) he1.hm)
         try simp only [hL]
         (repeat (first | rw [if_pos (by omega)] | rw [if_neg (by omega)]))
         all_goals (first | rfl | omega))
      | (refine qI ?_ (k _ hI Hm.rf)
         try simp only [hL]
         (repeat (first | rw [if_pos (by omega)] | rw [if_neg (by omega)]))
         all_goals (first | rfl | omega))
      | (exfalso; omega)
theorem m_why {E : E3} {Q : Q3} {M : M3} {x1 x2 : Int} (hI : Inv M) (hx1 : -2147483648 ≤ x1 ∧ x1 ≤ 2147483647) (hx2 : -2147483648 ≤ x2 ∧ x2 ≤ 2147483647) (k : ∀ (N : M3), Inv N → Q (some (vI (a_why M x1 x2))) N) : C3 E YX12_why [vR 44 0, vI x1, vI x2] M Q := by
  refine c3_rm fun hM => ?_
  skip
  unfold a_why at k
  refine sX12_why ?_
  refine ⟨?_, ?_⟩
  · first | omega | exact ⟨hI.2.1, by omega⟩ | exact ⟨hI.2.2, by omega⟩
  refine ⟨fun c1 => ?_, fun c1 => ?_⟩
  · first
    | (refine qI ?_ (k _ (hI.m he1 hp1))
       skip
       (repeat (first | rw [if_pos (by omega)] | rw [if_neg (by omega)]))
       all_goals (first | rfl | omega))
    | (refine qI ?_ (k _ hI)
       skip
       (repeat (first | rw [if_pos (by omega)] | rw [if_neg (by omega)]))
       all_goals (first | rfl | omega))
    | (exfalso; omega)
  · refine ⟨?_, ?_⟩
    · first | omega | exact ⟨hI.2.1, by omega⟩ | exact ⟨hI.2.2, by omega⟩
    refine ⟨fun c2 => ?_, fun c2 => ?_⟩
    · first
      | (refine qI ?_ (k _ (hI.m he1 hp1))
         skip
         (repeat (first | rw [if_pos (by omega)] | rw [if_neg (by omega)]))
         all_goals (first | rfl | omega))
      | (refine qI ?_ (k _ hI)
         skip
         (repeat (first | rw [if_pos (by omega)] | rw [if_neg (by omega)]))
         all_goals (first | rfl | omega))
      | (exfalso; omega)
    · refine ⟨?_, ?_⟩
      · first | omega | exact ⟨hI.2.1, by omega⟩ | exact ⟨hI.2.2, by omega⟩
      intro N1 hN1 he1 hp1
      first
      | (refine qI ?_ (k _ (hI.m he1 hp1))
         skip
         (repeat (first | rw [if_pos (by omega)] | rw [if_neg (by omega)]))
         all_goals (first | rfl | omega))
      | (refine qI ?_ (k _ hI)
         skip
         (repeat (first | rw [if_pos (by omega)] | rw [if_neg (by omega)]))
         all_goals (first | rfl | omega))
      | (exfalso; omega)
theorem a_why_q {M N : M3} (h : Hm M N) (x1 x2 : Int) : a_why N x1 x2 = a_why M x1 x2 := by unfold a_why; simp only [LM3_q h]
theorem p_why {E : E3} {M : M3} {x1 x2 : Int} (hI : Inv M) (hx1 : -2147483648 ≤ x1 ∧ x1 ≤ 2147483647) (hx2 : -2147483648 ≤ x2 ∧ x2 ≤ 2147483647) : C3 E YX11_why [vR 0 0, vI x1, vI x2] M (P2 E YX12_why [vR 44 0, vI x1, vI x2]) :=
  c_why hI hx1 hx2 (fun N hN hq => p2I (m_why hN hx1 hx2 (fun K hK => r2I (svI (a_why_q hq x1 x2)) hK)))
