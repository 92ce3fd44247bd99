/-! PAIRS: days, line, choices, orders, lists -/
def a_order (M : M3) (x1 x2 : Int) : Int := if ¬ ((0 ≤ x1 ∧ x1 ≤ 3) ∧ (-1 ≤ x2 ∧ x2 ≤ 399)) then -2 else M 74 0 x1
def u_order (M : M3) (x1 x2 : Int) : M3 := if ¬ ((0 ≤ x1 ∧ x1 ≤ 3) ∧ (-1 ≤ x2 ∧ x2 ≤ 399)) then M else up3 M 16 0 x1 x2
def w_order (M : M3) (x1 x2 : Int) : M3 := if ¬ ((0 ≤ x1 ∧ x1 ≤ 3) ∧ (-1 ≤ x2 ∧ x2 ≤ 399)) then M else up3 M 74 0 x1 x2
theorem c_order {E : E3} {Q : Q3} {M : M3} {x1 x2 : Int} (hI : Inv M) (hx1 : -2147483648 ≤ x1 ∧ x1 ≤ 2147483647) (hx2 : -2147483648 ≤ x2 ∧ x2 ≤ 2147483647) (k : Q (some (vI (a_order M x1 x2))) (u_order M x1 x2)) : C3 E YX11_order [vR 0 0, vI x1, vI x2] M Q := by
  refine c3_rm fun hM => ?_
  skip
  unfold a_order u_order at k
  by_cases hv : 0 ≤ x1 ∧ x1 ≤ 3
  · have hf := hI.1.1.2.2.2.2.1 x1 (by omega) (by omega)
    refine sX11_order ?_
    refine ⟨?_, ?_⟩
    · first | omega
    refine ⟨fun c1 => ?_, fun c1 => ?_⟩
    · first
      | (repeat (first | rw [if_pos (by omega)] at k | rw [if_neg (by omega)] at k)
         exact qI (by omega) k)
      | (exfalso; omega)
    · refine ⟨?_, ?_⟩
      · first | omega
      refine ⟨fun c2 => ?_, fun c2 => ?_⟩
      · refine ⟨?_, ?_⟩
        · first | omega
        first
        | (repeat (first | rw [if_pos (by omega)] at k | rw [if_neg (by omega)] at k)
           exact qI (by omega) k)
        | (exfalso; omega)
      · refine ⟨?_, ?_⟩
        · first | omega
        refine ⟨fun c3 => ?_, fun c3 => ?_⟩
        · refine ⟨?_, ?_⟩
          · first | omega
          first
          | (repeat (first | rw [if_pos (by omega)] at k | rw [if_neg (by omega)] at k)
             exact qI (by omega) k)
          | (exfalso; omega)
        · first
          | (repeat (first | rw [if_pos (by omega)] at k | rw [if_neg (by omega)] at k)
             exact qI (by omega) k)
          | (exfalso; omega)
  · skip
    refine sX11_order ?_
    refine ⟨?_, ?_⟩
    · first | omega
    refine ⟨fun c1 => ?_, fun c1 => ?_⟩
    · first
      | (repeat (first | rw [if_pos (by omega)] at k | rw [if_neg (by omega)] at k)
         exact qI (by omega) k)
      | (exfalso; omega)
    · refine ⟨?_, ?_⟩
      · first | omega
      refine ⟨fun c2 => ?_, fun c2 => ?_⟩
      · refine ⟨?_, ?_⟩
        · first | omega
        first
        | (repeat (first | rw [if_pos (by omega)] at k | rw [if_neg (by omega)] at k)
           exact qI (by omega) k)
        | (exfalso; omega)
      · refine ⟨?_, ?_⟩
        · first | omega
        refine ⟨fun c3 => ?_, fun c3 => ?_⟩
        · refine ⟨?_, ?_⟩
          · first | omega
          first
          | (repeat (first | rw [if_pos (by omega)] at k | rw [if_neg (by omega)] at k)
             exact qI (by omega) k)
          | (exfalso; omega)
        · first
          | (repeat (first | rw [if_pos (by omega)] at k | rw [if_neg (by omega)] at k)
             exact qI (by omega) k)
          | (exfalso; omega)
theorem m_order {E : E3} {Q : Q3} {M : M3} {x1 x2 : Int} (hW : WM M) (hR : RdC M) (hx1 : -2147483648 ≤ x1 ∧ x1 ≤ 2147483647) (hx2 : -2147483648 ≤ x2 ∧ x2 ≤ 2147483647) (k : Q (some (vI (a_order M x1 x2))) (w_order M x1 x2)) : C3 E YX12_order [vR 44 0, vI x1, vI x2] M Q := by
  refine c3_rm fun hM => ?_
  obtain ⟨w1, w2, w3, w4, w5, w6, w7, w8⟩ := hW.1
  unfold a_order w_order at k
  refine sX12_order ?_
  refine ⟨?_, ?_⟩
  · first | omega
  refine ⟨fun c1 => ?_, fun c1 => ?_⟩
  · first
    | (repeat (first | rw [if_pos (by omega)] at k | rw [if_neg (by omega)] at k)
       exact qI (by omega) k)
    | (exfalso; omega)
  · refine ⟨?_, ?_⟩
    · first | omega
    refine ⟨fun c2 => ?_, fun c2 => ?_⟩
    · refine ⟨?_, ?_, ?_⟩
      · first | omega
      · first | omega
      first
      | (repeat (first | rw [if_pos (by omega)] at k | rw [if_neg (by omega)] at k)
         exact qI (by omega) k)
      | (exfalso; omega)
    · first
      | (repeat (first | rw [if_pos (by omega)] at k | rw [if_neg (by omega)] at k)
         exact qI (by omega) k)
      | (exfalso; omega)
theorem a_order_q {M N : M3} (h : Hm M N) (x1 x2 : Int) : a_order N x1 x2 = a_order M x1 x2 := by unfold a_order; simp only [h 74 (by decide)]
theorem u_order_h (M : M3) (x1 x2 : Int) : Hm M (u_order M x1 x2) ∧ (RdC M → RdC (u_order M x1 x2)) := by
  unfold u_order
  repeat' split
  all_goals first
    | exact ⟨Hm.rf.up (by decide), fun h => h.up (by decide)⟩
    | exact ⟨Hm.rf, fun h => h⟩
theorem i_order {M : M3} {x1 x2 : Int} (hI : Inv M) (hx1 : -2147483648 ≤ x1 ∧ x1 ≤ 2147483647) (hx2 : -2147483648 ≤ x2 ∧ x2 ≤ 2147483647) : Inv (w_order (u_order M x1 x2) x1 x2) := by
  unfold u_order
  by_cases c11 : ¬ ((0 ≤ x1 ∧ x1 ≤ 3) ∧ (-1 ≤ x2 ∧ x2 ≤ 399))
  · rw [if_pos c11]
    unfold w_order
    rw [if_pos (by skip; exact c11)]
    exact hI
  rw [if_neg c11]
  unfold w_order
  rw [if_neg c11]
  have f1 : ∀ q : Nat, q ∉ ([16, 74] : List Nat) → (up3 (up3 M 16 0 x1 x2) 74 0 x1 x2) q = M q := fr_up (fr_up fr_rf (by decide)) (by decide)
  exact ⟨⟨⟨(iBas_of (by first | exact f1 _ (by decide) | rw [f1 _ (by decide)]) (by first | exact f1 _ (by decide) | rw [f1 _ (by decide)]) (by first | exact f1 _ (by decide) | rw [f1 _ (by decide)]) (by first | exact f1 _ (by decide) | rw [f1 _ (by decide)]) (by first | exact f1 _ (by decide) | rw [f1 _ (by decide)]) (by first | exact f1 _ (by decide) | rw [f1 _ (by decide)]) hI.1.1.1), (iLaw_of (by first | exact f1 _ (by decide) | rw [f1 _ (by decide)]) (by first | exact f1 _ (by decide) | rw [f1 _ (by decide)]) (by first | exact f1 _ (by decide) | rw [f1 _ (by decide)]) (by first | exact f1 _ (by decide) | rw [f1 _ (by decide)]) hI.1.1.2.1), (iCty_of (by first | exact f1 _ (by decide) | rw [f1 _ (by decide)]) (by first | exact f1 _ (by decide) | rw [f1 _ (by decide)]) (by first | exact f1 _ (by decide) | rw [f1 _ (by decide)]) (by first | exact f1 _ (by decide) | rw [f1 _ (by decide)]) (by first | exact f1 _ (by decide) | rw [f1 _ (by decide)]) (by first | exact f1 _ (by decide) | rw [f1 _ (by decide)]) (by first | exact f1 _ (by decide) | rw [f1 _ (by decide)]) (by first | exact f1 _ (by decide) | rw [f1 _ (by decide)]) (by first | exact f1 _ (by decide) | rw [f1 _ (by decide)]) (by first | exact f1 _ (by decide) | rw [f1 _ (by decide)]) hI.1.1.2.2.1), (iFrm_of (by first | exact f1 _ (by decide) | rw [f1 _ (by decide)]) (by first | exact f1 _ (by decide) | rw [f1 _ (by decide)]) (by first | exact f1 _ (by decide) | rw [f1 _ (by decide)]) (by first | exact f1 _ (by decide) | rw [f1 _ (by decide)]) (fun f j hj => by first | exact f1 _ (by decide) | rw [f1 _ (by decide)]) (by first | exact f1 _ (by decide) | rw [f1 _ (by decide)]) (by first | exact f1 _ (by decide) | rw [f1 _ (by decide)]) (by first | exact f1 _ (by decide) | rw [f1 _ (by decide)]) (by first | exact f1 _ (by decide) | rw [f1 _ (by decide)]) (by first | exact f1 _ (by decide) | rw [f1 _ (by decide)]) (by first | exact f1 _ (by decide) | rw [f1 _ (by decide)]) (by first | exact f1 _ (by decide) | rw [f1 _ (by decide)]) (by first | exact f1 _ (by decide) | rw [f1 _ (by decide)]) (by first | exact f1 _ (by decide) | rw [f1 _ (by decide)]) (by first | exact f1 _ (by decide) | rw [f1 _ (by decide)]) hI.1.1.2.2.2.1), (fun c a b => by
    by_cases z : c = x1
    · rw [z, up3_eq, up3_nr (by decide), up3_eq]
      omega
    · rw [up3_nr (by decide), up3_nj z, up3_nj z, up3_nr (by decide)]
      exact hI.1.1.2.2.2.2.1 c a b), (iLin_of (by first | exact f1 _ (by decide) | rw [f1 _ (by decide)]) (by first | exact f1 _ (by decide) | rw [f1 _ (by decide)]) (by first | exact f1 _ (by decide) | rw [f1 _ (by decide)]) (by first | exact f1 _ (by decide) | rw [f1 _ (by decide)]) (by first | exact f1 _ (by decide) | rw [f1 _ (by decide)]) (by first | exact f1 _ (by decide) | rw [f1 _ (by decide)]) (by first | exact f1 _ (by decide) | rw [f1 _ (by decide)]) (by first | exact f1 _ (by decide) | rw [f1 _ (by decide)]) (by first | exact f1 _ (by decide) | rw [f1 _ (by decide)]) (by first | exact f1 _ (by decide) | rw [f1 _ (by decide)]) (by first | exact f1 _ (by decide) | rw [f1 _ (by decide)]) (by first | exact f1 _ (by decide) | rw [f1 _ (by decide)]) (by first | exact f1 _ (by decide) | rw [f1 _ (by decide)]) (by first | exact f1 _ (by decide) | rw [f1 _ (by decide)]) (by first | exact f1 _ (by decide) | rw [f1 _ (by decide)]) (by first | exact f1 _ (by decide) | rw [f1 _ (by decide)]) (by first | exact f1 _ (by decide) | rw [f1 _ (by decide)]) hI.1.1.2.2.2.2.2.1), (iLst_of (by first | exact f1 _ (by decide) | rw [f1 _ (by decide)]) (by first | exact f1 _ (by decide) | rw [f1 _ (by decide)]) (by first | exact f1 _ (by decide) | rw [f1 _ (by decide)]) (by first | exact f1 _ (by decide) | rw [f1 _ (by decide)]) (by first | exact f1 _ (by decide) | rw [f1 _ (by decide)]) (by first | exact f1 _ (by decide) | rw [f1 _ (by decide)]) (by first | exact f1 _ (by decide) | rw [f1 _ (by decide)]) hI.1.1.2.2.2.2.2.2.1), (iSum_of (by first | exact f1 _ (by decide) | rw [f1 _ (by decide)]) (by first | exact f1 _ (by decide) | rw [f1 _ (by decide)]) (by first | exact f1 _ (by decide) | rw [f1 _ (by decide)]) (by first | exact f1 _ (by decide) | rw [f1 _ (by decide)]) (by first | exact f1 _ (by decide) | rw [f1 _ (by decide)]) (by first | exact f1 _ (by decide) | rw [f1 _ (by decide)]) (by first | exact f1 _ (by decide) | rw [f1 _ (by decide)]) (by first | exact f1 _ (by decide) | rw [f1 _ (by decide)]) (by first | exact f1 _ (by decide) | rw [f1 _ (by decide)]) hI.1.1.2.2.2.2.2.2.2.1), (iSht_of (by first | exact f1 _ (by decide) | rw [f1 _ (by decide)]) (by first | exact f1 _ (by decide) | rw [f1 _ (by decide)]) (by first | exact f1 _ (by decide) | rw [f1 _ (by decide)]) (by first | exact f1 _ (by decide) | rw [f1 _ (by decide)]) (by first | exact f1 _ (by decide) | rw [f1 _ (by decide)]) (by first | exact f1 _ (by decide) | rw [f1 _ (by decide)]) hI.1.1.2.2.2.2.2.2.2.2)⟩, (iW_of (by first | exact f1 _ (by decide) | rw [f1 _ (by decide)]) (by first | exact f1 _ (by decide) | rw [f1 _ (by decide)]) (by first | exact f1 _ (by decide) | rw [f1 _ (by decide)]) (by first | exact f1 _ (by decide) | rw [f1 _ (by decide)]) (by first | exact f1 _ (by decide) | rw [f1 _ (by decide)]) (by first | exact f1 _ (by decide) | rw [f1 _ (by decide)]) (by first | exact f1 _ (by decide) | rw [f1 _ (by decide)]) (by first | exact f1 _ (by decide) | rw [f1 _ (by decide)]) (by first | exact f1 _ (by decide) | rw [f1 _ (by decide)]) hI.1.2)⟩, (LwC_of (by first | exact f1 _ (by decide) | rw [f1 _ (by decide)]) (by first | exact f1 _ (by decide) | rw [f1 _ (by decide)]) (by first | exact f1 _ (by decide) | rw [f1 _ (by decide)]) (by first | exact f1 _ (by decide) | rw [f1 _ (by decide)]) (by first | exact f1 _ (by decide) | rw [f1 _ (by decide)]) (by first | exact f1 _ (by decide) | rw [f1 _ (by decide)]) (by first | exact f1 _ (by decide) | rw [f1 _ (by decide)]) (by first | exact f1 _ (by decide) | rw [f1 _ (by decide)]) (by first | exact f1 _ (by decide) | rw [f1 _ (by decide)]) (by first | exact f1 _ (by decide) | rw [f1 _ (by decide)]) hI.2.1), (RdC_of (by first | exact f1 _ (by decide) | rw [f1 _ (by decide)]) (by first | exact f1 _ (by decide) | rw [f1 _ (by decide)]) (by first | exact f1 _ (by decide) | rw [f1 _ (by decide)]) (by first | exact f1 _ (by decide) | rw [f1 _ (by decide)]) (by first | exact f1 _ (by decide) | rw [f1 _ (by decide)]) (by first | exact f1 _ (by decide) | rw [f1 _ (by decide)]) (by first | exact f1 _ (by decide) | rw [f1 _ (by decide)]) (by first | exact f1 _ (by decide) | rw [f1 _ (by decide)]) hI.2.2)⟩
theorem p_order {E : E3} {M : M3} {x1 x2 : Int} (hI : Inv M) (hx1 : -2147483648 ≤ x1 ∧ x1 ≤ 2147483647) (hx2 : -2147483648 ≤ x2 ∧ x2 ≤ 2147483647) : C3 E YX11_order [vR 0 0, vI x1, vI x2] M (P2 E YX12_order [vR 44 0, vI x1, vI x2]) :=
  c_order hI hx1 hx2 (p2I (m_order (WM_q (u_order_h M x1 x2).1 hI.1.1.wm) ((u_order_h M x1 x2).2 hI.2.2) hx1 hx2 (r2I (svI (a_order_q (u_order_h M x1 x2).1 x1 x2)) (i_order hI hx1 hx2))))
def a_listIs (M : M3) (x1 x2 : Int) : Int := if ¬ ((0 ≤ x1 ∧ x1 < M 44 0 39) ∧ (0 ≤ x2 ∧ x2 ≤ 3)) then -2 else M 71 0 (4 * x1 + x2)
def u_listIs (M : M3) (x1 x2 : Int) : M3 := if ¬ ((0 ≤ x1 ∧ x1 < M 44 0 39) ∧ (0 ≤ x2 ∧ x2 ≤ 3)) then M else M
def w_listIs (M : M3) (x1 x2 : Int) : M3 := if ¬ ((0 ≤ x1 ∧ x1 < M 44 0 39) ∧ (0 ≤ x2 ∧ x2 ≤ 3)) then M else M
theorem c_listIs {E : E3} {Q : Q3} {M : M3} {x1 x2 : Int} (hI : Inv M) (hx1 : -2147483648 ≤ x1 ∧ x1 ≤ 2147483647) (hx2 : -2147483648 ≤ x2 ∧ x2 ≤ 2147483647) (k : Q (some (vI (a_listIs M x1 x2))) (u_listIs M x1 x2)) : C3 E YX11_listIs [vR 0 0, vI x1, vI x2] M Q := by
  refine c3_rm fun hM => ?_
  obtain ⟨m1, m2, m3⟩ := hI.1.1.2.2.2.2.2.2.1
  clear m3
  unfold a_listIs u_listIs at k
  by_cases hv : (0 ≤ x1 ∧ x1 < M 44 0 39) ∧ (0 ≤ x2 ∧ x2 ≤ 3)
  · have hf : (x2 = 0 ∧ M 37 0 x1 = M 71 0 (4 * x1 + x2)) ∨ (x2 = 1 ∧ M 38 0 x1 = M 71 0 (4 * x1 + x2)) ∨ (x2 = 2 ∧ M 39 0 x1 = M 71 0 (4 * x1 + x2)) ∨ (x2 = 3 ∧ M 40 0 x1 = M 71 0 (4 * x1 + x2)) := by
      obtain ⟨t1, t2, t3, t4⟩ := hI.1.1.2.2.2.2.2.2.1.2.2 x1 hv.1.1 hv.1.2
      rcases (show x2 = 0 ∨ x2 = 1 ∨ x2 = 2 ∨ x2 = 3 by omega) with z | z | z | z
      · exact Or.inl ⟨z, by rw [z, Int.add_zero]; exact t1⟩
      · exact Or.inr (Or.inl ⟨z, by rw [z]; exact t2⟩)
      · exact Or.inr (Or.inr (Or.inl ⟨z, by rw [z]; exact t3⟩))
      · exact Or.inr (Or.inr (Or.inr ⟨z, by rw [z]; exact t4⟩))
    refine sX11_listIs ?_
    refine ⟨?_, ?_⟩
    · first | omega
    refine ⟨fun c1 => ?_, fun c1 => ?_⟩
    · first
      | (repeat (first | rw [if_pos (by omega)] at k | rw [if_neg (by omega)] at k)
         exact qI (by omega) k)
      | (exfalso; omega)
    · refine ⟨fun c2 => ?_, fun c2 => ?_⟩
      · first
        | (repeat (first | rw [if_pos (by omega)] at k | rw [if_neg (by omega)] at k)
           exact qI (by omega) k)
        | (exfalso; omega)
      · refine ⟨?_, ?_⟩
        · first | omega
        refine ⟨fun c3 => ?_, fun c3 => ?_⟩
        · refine ⟨?_, ?_⟩
          · first | omega
          refine ⟨fun c4 => ?_, fun c4 => ?_⟩
          · refine ⟨?_, ?_⟩
            · first | omega
            first
            | (repeat (first | rw [if_pos (by omega)] at k | rw [if_neg (by omega)] at k)
               exact qI (by omega) k)
            | (exfalso; omega)
          · refine ⟨fun c5 => ?_, fun c5 => ?_⟩
            · refine ⟨?_, ?_⟩
              · first | omega
              first
              | (repeat (first | rw [if_pos (by omega)] at k | rw [if_neg (by omega)] at k)
                 exact qI (by omega) k)
              | (exfalso; omega)
            · refine ⟨fun c6 => ?_, fun c6 => ?_⟩
              · refine ⟨?_, ?_⟩
                · first | omega
                first
                | (repeat (first | rw [if_pos (by omega)] at k | rw [if_neg (by omega)] at k)
                   exact qI (by omega) k)
                | (exfalso; omega)
              · refine ⟨?_, ?_⟩
                · first | omega
                first
                | (repeat (first | rw [if_pos (by omega)] at k | rw [if_neg (by omega)] at k)
                   exact qI (by omega) k)
                | (exfalso; omega)
        · first
          | (repeat (first | rw [if_pos (by omega)] at k | rw [if_neg (by omega)] at k)
             exact qI (by omega) k)
          | (exfalso; omega)
  · skip
    refine sX11_listIs ?_
    refine ⟨?_, ?_⟩
    · first | omega
    refine ⟨fun c1 => ?_, fun c1 => ?_⟩
    · first
      | (repeat (first | rw [if_pos (by omega)] at k | rw [if_neg (by omega)] at k)
         exact qI (by omega) k)
      | (exfalso; omega)
    · refine ⟨fun c2 => ?_, fun c2 => ?_⟩
      · first
        | (repeat (first | rw [if_pos (by omega)] at k | rw [if_neg (by omega)] at k)
           exact qI (by omega) k)
        | (exfalso; omega)
      · refine ⟨?_, ?_⟩
        · first | omega
        refine ⟨fun c3 => ?_, fun c3 => ?_⟩
        · refine ⟨?_, ?_⟩
          · first | omega
          refine ⟨fun c4 => ?_, fun c4 => ?_⟩
          · refine ⟨?_, ?_⟩
            · first | omega
            first
            | (repeat (first | rw [if_pos (by omega)] at k | rw [if_neg (by omega)] at k)
               exact qI (by omega) k)
            | (exfalso; omega)
          · refine ⟨fun c5 => ?_, fun c5 => ?_⟩
            · refine ⟨?_, ?_⟩
              · first | omega
              first
              | (repeat (first | rw [if_pos (by omega)] at k | rw [if_neg (by omega)] at k)
                 exact qI (by omega) k)
              | (exfalso; omega)
            · refine ⟨fun c6 => ?_, fun c6 => ?_⟩
              · refine ⟨?_, ?_⟩
                · first | omega
                first
                | (repeat (first | rw [if_pos (by omega)] at k | rw [if_neg (by omega)] at k)
                   exact qI (by omega) k)
                | (exfalso; omega)
              · refine ⟨?_, ?_⟩
                · first | omega
                first
                | (repeat (first | rw [if_pos (by omega)] at k | rw [if_neg (by omega)] at k)
                   exact qI (by omega) k)
                | (exfalso; omega)
        · first
          | (repeat (first | rw [if_pos (by omega)] at k | rw [if_neg (by omega)] at k)
             exact qI (by omega) k)
          | (exfalso; omega)
theorem m_listIs {E : E3} {Q : Q3} {M : M3} {x1 x2 : Int} (hW : WM M) (hR : RdC M) (hx1 : -2147483648 ≤ x1 ∧ x1 ≤ 2147483647) (hx2 : -2147483648 ≤ x2 ∧ x2 ≤ 2147483647) (k : Q (some (vI (a_listIs M x1 x2))) (w_listIs M x1 x2)) : C3 E YX12_listIs [vR 44 0, vI x1, vI x2] M Q := by
  refine c3_rm fun hM => ?_
  obtain ⟨w1, w2, w3, w4, w5, w6, w7, w8⟩ := hW.1
  unfold a_listIs w_listIs at k
  refine sX12_listIs ?_
  refine ⟨?_, ?_⟩
  · first | omega
  refine ⟨fun c1 => ?_, fun c1 => ?_⟩
  · first
    | (repeat (first | rw [if_pos (by omega)] at k | rw [if_neg (by omega)] at k)
       exact qI (by omega) k)
    | (exfalso; omega)
  · refine ⟨?_, ?_⟩
    · first | omega
    refine ⟨fun c2 => ?_, fun c2 => ?_⟩
    · first
      | (repeat (first | rw [if_pos (by omega)] at k | rw [if_neg (by omega)] at k)
         exact qI (by omega) k)
      | (exfalso; omega)
    · refine ⟨?_, ?_⟩
      · first | omega
      first
      | (repeat (first | rw [if_pos (by omega)] at k | rw [if_neg (by omega)] at k)
         exact qI (by omega) k)
      | (exfalso; omega)
theorem a_listIs_q {M N : M3} (h : Hm M N) (x1 x2 : Int) : a_listIs N x1 x2 = a_listIs M x1 x2 := by unfold a_listIs; simp only [h 44 (by decide), h 71 (by decide)]
theorem i_listIs {M : M3} {x1 x2 : Int} (hI : Inv M) (hx1 : -2147483648 ≤ x1 ∧ x1 ≤ 2147483647) (hx2 : -2147483648 ≤ x2 ∧ x2 ≤ 2147483647) : Inv (w_listIs (u_listIs M x1 x2) x1 x2) := by
  unfold w_listIs u_listIs
  repeat (first | exact hI | split)
theorem p_listIs {E : E3} {M : M3} {x1 x2 : Int} (hI : Inv M) (hx1 : -2147483648 ≤ x1 ∧ x1 ≤ 2147483647) (hx2 : -2147483648 ≤ x2 ∧ x2 ≤ 2147483647) : C3 E YX11_listIs [vR 0 0, vI x1, vI x2] M (P2 E YX12_listIs [vR 44 0, vI x1, vI x2]) :=
  c_listIs hI hx1 hx2 (p2I (m_listIs (WM_q (fun q _ => by unfold u_listIs; repeat (first | rfl | split)) hI.1.1.wm) (by have h := hI.2.2; unfold u_listIs; repeat (first | exact h | split)) hx1 hx2 (r2I (svI (a_listIs_q (fun q _ => by unfold u_listIs; repeat (first | rfl | split)) x1 x2)) (i_listIs hI hx1 hx2))))
