/-! PAIRS: move, harsh -/
def a_move (M : M3) (x1 x2 : Int) : Int := if ¬ ((0 ≤ x1 ∧ x1 < M 44 0 1) ∧ (0 ≤ x2 ∧ x2 ≤ 5)) then -2 else if 2 < M 50 0 x1 then -3 else if M 45 0 x1 = x2 then -2 else M 45 0 x1
def u_move (M : M3) (x1 x2 : Int) : M3 := if ¬ ((0 ≤ x1 ∧ x1 < M 44 0 1) ∧ (0 ≤ x2 ∧ x2 ≤ 5)) then M else if 2 < M 50 0 x1 then M else if M 45 0 x1 = x2 then M else up3 M 13 x1 0 x2
def w_move (M : M3) (x1 x2 : Int) : M3 := if ¬ ((0 ≤ x1 ∧ x1 < M 44 0 1) ∧ (0 ≤ x2 ∧ x2 ≤ 5)) then M else if 2 < M 50 0 x1 then M else if M 45 0 x1 = x2 then M else up3 M 45 0 x1 x2
theorem c_move {E : E3} {Q : Q3} {M : M3} {x1 x2 : Int} (hI : Inv M) (hx1 : -2147483648 ≤ x1 ∧ x1 ≤ 2147483647) (hx2 : -2147483648 ≤ x2 ∧ x2 ≤ 2147483647) (k : Q (some (vI (a_move M x1 x2))) (u_move M x1 x2)) : C3 E YX11_move [vR 0 0, vI x1, vI x2] M Q := by
  refine c3_rm fun hM => ?_
  have hc1 := hI.1.1.2.2.1.1
  have hc2 := hI.1.1.2.2.1.2.1
  unfold a_move u_move at k
  by_cases hv : 0 ≤ x1 ∧ x1 < 48
  · have hf : (M 13 x1 5 = M 50 0 x1 ∧ M 13 x1 6 = M 51 0 x1 ∧ (0 ≤ M 45 0 x1 ∧ M 45 0 x1 ≤ 5)) ∧ ((M 50 0 x1 ≤ 2 ∧ M 13 x1 0 = M 45 0 x1) ∨ (3 ≤ M 50 0 x1 ∧ M 13 x1 0 = -1)) := by
      obtain ⟨⟨p1, p2, p3, p4, p5, p6⟩, q1, q2, q3, q4, q5, q6, q7, q8, q9⟩ := hI.1.1.p hv.1 hv.2
      refine ⟨⟨p5, p6, q3⟩, ?_⟩
      by_cases z : M 50 0 x1 ≤ 2
      · exact Or.inl ⟨z, q1 z⟩
      · exact Or.inr ⟨by omega, q2 (by omega)⟩
    refine sX11_move ?_
    refine ⟨?_, ?_⟩
    · first | omega
    refine ⟨fun c1 => ?_, fun c1 => ?_⟩
    · first
      | (repeat (first | rw [if_pos (by omega)] at k | rw [if_neg (by omega)] at k)
         exact qI (by omega) k)
      | (exfalso; omega)
    · refine ⟨fun c2 => ?_, fun c2 => ?_⟩
      · first
        | (repeat (first | rw [if_pos (by omega)] at k | rw [if_neg (by omega)] at k)
           exact qI (by omega) k)
        | (exfalso; omega)
      · refine ⟨?_, ?_⟩
        · first | omega
        refine ⟨fun c3 => ?_, fun c3 => ?_⟩
        · first
          | (repeat (first | rw [if_pos (by omega)] at k | rw [if_neg (by omega)] at k)
             exact qI (by omega) k)
          | (exfalso; omega)
        · refine ⟨?_, ?_, ?_⟩
          · first | omega
          · first | omega
          refine ⟨fun c4 => ?_, fun c4 => ?_⟩
          · refine ⟨fun c5 => ?_, fun c5 => ?_⟩
            · first
              | (repeat (first | rw [if_pos (by omega)] at k | rw [if_neg (by omega)] at k)
                 exact qI (by omega) k)
              | (exfalso; omega)
            · first
              | (repeat (first | rw [if_pos (by omega)] at k | rw [if_neg (by omega)] at k)
                 exact qI (by omega) k)
              | (exfalso; omega)
          · first
            | (repeat (first | rw [if_pos (by omega)] at k | rw [if_neg (by omega)] at k)
               exact qI (by omega) k)
            | (exfalso; omega)
  · skip
    refine sX11_move ?_
    refine ⟨?_, ?_⟩
    · first | omega
    refine ⟨fun c1 => ?_, fun c1 => ?_⟩
    · first
      | (repeat (first | rw [if_pos (by omega)] at k | rw [if_neg (by omega)] at k)
         exact qI (by omega) k)
      | (exfalso; omega)
    · refine ⟨fun c2 => ?_, fun c2 => ?_⟩
      · first
        | (repeat (first | rw [if_pos (by omega)] at k | rw [if_neg (by omega)] at k)
           exact qI (by omega) k)
        | (exfalso; omega)
      · refine ⟨?_, ?_⟩
        · first | omega
        refine ⟨fun c3 => ?_, fun c3 => ?_⟩
        · first
          | (repeat (first | rw [if_pos (by omega)] at k | rw [if_neg (by omega)] at k)
             exact qI (by omega) k)
          | (exfalso; omega)
        · refine ⟨?_, ?_, ?_⟩
          · first | omega
          · first | omega
          refine ⟨fun c4 => ?_, fun c4 => ?_⟩
          · refine ⟨fun c5 => ?_, fun c5 => ?_⟩
            · first
              | (repeat (first | rw [if_pos (by omega)] at k | rw [if_neg (by omega)] at k)
                 exact qI (by omega) k)
              | (exfalso; omega)
            · first
              | (repeat (first | rw [if_pos (by omega)] at k | rw [if_neg (by omega)] at k)
                 exact qI (by omega) k)
              | (exfalso; omega)
          · first
            | (repeat (first | rw [if_pos (by omega)] at k | rw [if_neg (by omega)] at k)
               exact qI (by omega) k)
            | (exfalso; omega)
theorem m_move {E : E3} {Q : Q3} {M : M3} {x1 x2 : Int} (hW : WM M) (hR : RdC M) (hx1 : -2147483648 ≤ x1 ∧ x1 ≤ 2147483647) (hx2 : -2147483648 ≤ x2 ∧ x2 ≤ 2147483647) (k : Q (some (vI (a_move M x1 x2))) (w_move M x1 x2)) : C3 E YX12_move [vR 44 0, vI x1, vI x2] M Q := by
  refine c3_rm fun hM => ?_
  obtain ⟨w1, w2, w3, w4, w5, w6, w7, w8⟩ := hW.1
  unfold a_move w_move at k
  refine sX12_move ?_
  refine ⟨?_, ?_⟩
  · first | omega
  refine ⟨fun c1 => ?_, fun c1 => ?_⟩
  · first
    | (repeat (first | rw [if_pos (by omega)] at k | rw [if_neg (by omega)] at k)
       exact qI (by omega) k)
    | (exfalso; omega)
  · refine ⟨?_, ?_⟩
    · first | omega
    refine ⟨fun c2 => ?_, fun c2 => ?_⟩
    · first
      | (repeat (first | rw [if_pos (by omega)] at k | rw [if_neg (by omega)] at k)
         exact qI (by omega) k)
      | (exfalso; omega)
    · refine ⟨?_, ?_⟩
      · first | omega
      refine ⟨fun c3 => ?_, fun c3 => ?_⟩
      · refine ⟨fun c4 => ?_, fun c4 => ?_⟩
        · refine ⟨?_, ?_⟩
          · first | omega
          first
          | (repeat (first | rw [if_pos (by omega)] at k | rw [if_neg (by omega)] at k)
             exact qI (by omega) k)
          | (exfalso; omega)
        · first
          | (repeat (first | rw [if_pos (by omega)] at k | rw [if_neg (by omega)] at k)
             exact qI (by omega) k)
          | (exfalso; omega)
      · refine ⟨?_, ?_⟩
        · first | omega
        refine ⟨fun c4 => ?_, fun c4 => ?_⟩
        · refine ⟨fun c5 => ?_, fun c5 => ?_⟩
          · first
            | (repeat (first | rw [if_pos (by omega)] at k | rw [if_neg (by omega)] at k)
               exact qI (by omega) k)
            | (exfalso; omega)
          · first
            | (repeat (first | rw [if_pos (by omega)] at k | rw [if_neg (by omega)] at k)
               exact qI (by omega) k)
            | (exfalso; omega)
        · first
          | (repeat (first | rw [if_pos (by omega)] at k | rw [if_neg (by omega)] at k)
             exact qI (by omega) k)
          | (exfalso; omega)
theorem a_move_q {M N : M3} (h : Hm M N) (x1 x2 : Int) : a_move N x1 x2 = a_move M x1 x2 := by unfold a_move; simp only [h 44 (by decide), h 45 (by decide), h 50 (by decide)]
theorem u_move_h (M : M3) (x1 x2 : Int) : Hm M (u_move M x1 x2) ∧ (RdC M → RdC (u_move M x1 x2)) := by
  unfold u_move
  repeat' split
  all_goals first
    | exact ⟨Hm.rf.up (by decide), fun h => h.up (by decide)⟩
    | exact ⟨Hm.rf, fun h => h⟩
theorem i_move {M : M3} {x1 x2 : Int} (hI : Inv M) (hx1 : -2147483648 ≤ x1 ∧ x1 ≤ 2147483647) (hx2 : -2147483648 ≤ x2 ∧ x2 ≤ 2147483647) : Inv (w_move (u_move M x1 x2) x1 x2) := by
  have hc2 := hI.1.1.2.2.1.2.1
  unfold w_move u_move
  by_cases c11 : ¬ ((0 ≤ x1 ∧ x1 < M 44 0 1) ∧ (0 ≤ x2 ∧ x2 ≤ 5))
  · rw [if_pos c11, if_pos c11]
    exact hI
  rw [if_neg c11]
  by_cases c12 : 2 < M 50 0 x1
  · rw [if_pos c12, if_neg c11, if_pos c12]
    exact hI
  rw [if_neg c12]
  by_cases c13 : M 45 0 x1 = x2
  · rw [if_pos c13, if_neg c11, if_neg c12, if_pos c13]
    exact hI
  rw [if_neg c13]
  rw [if_neg (by (try rw [up3_nr (show (44 : Nat) ≠ 13 by decide)]); (try rw [up3_nr (show (45 : Nat) ≠ 13 by decide)]); (try rw [up3_nr (show (50 : Nat) ≠ 13 by decide)]); exact c11), if_neg (by (try rw [up3_nr (show (44 : Nat) ≠ 13 by decide)]); (try rw [up3_nr (show (45 : Nat) ≠ 13 by decide)]); (try rw [up3_nr (show (50 : Nat) ≠ 13 by decide)]); exact c12), if_neg (by (try rw [up3_nr (show (44 : Nat) ≠ 13 by decide)]); (try rw [up3_nr (show (45 : Nat) ≠ 13 by decide)]); (try rw [up3_nr (show (50 : Nat) ≠ 13 by decide)]); exact c13)]
  have w := hI.1.1.p (p := x1) (by omega) (by omega)
  have key : ∀ N : M3, (∀ q : Nat, q ∉ ([13, 45] : List Nat) → N q = M q) → (∀ x j : Int, x ≠ x1 → N 13 x j = M 13 x j) → (∀ x : Int, x ≠ x1 → N 45 0 x = M 45 0 x) → (∀ j : Int, j ≠ 0 → N 13 x1 j = M 13 x1 j) → N 13 x1 0 = x2 → N 45 0 x1 = x2 → Inv N := fun N f1 f2 f3 f4 f5 f6 => by
    refine ⟨⟨⟨(iBas_of (by first | exact f1 _ (by decide) | rw [f1 _ (by decide)]) (by first | exact f1 _ (by decide) | rw [f1 _ (by decide)]) (by first | exact f1 _ (by decide) | rw [f1 _ (by decide)]) (by first | exact f1 _ (by decide) | rw [f1 _ (by decide)]) (by first | exact f1 _ (by decide) | rw [f1 _ (by decide)]) (by first | exact f1 _ (by decide) | rw [f1 _ (by decide)]) hI.1.1.1), (iLaw_of (by first | exact f1 _ (by decide) | rw [f1 _ (by decide)]) (by first | exact f1 _ (by decide) | rw [f1 _ (by decide)]) (by first | exact f1 _ (by decide) | rw [f1 _ (by decide)]) (by first | exact f1 _ (by decide) | rw [f1 _ (by decide)]) hI.1.1.2.1), (iCty_at (p := x1) hI.1.1.2.2.1 (by rw [f1 _ (by decide)]) (by rw [f1 _ (by decide)]) (fun x hx => ⟨fun j => f2 x j hx, f3 x hx, by rw [f1 _ (by decide)], by rw [f1 _ (by decide)], by rw [f1 _ (by decide)], by rw [f1 _ (by decide)], by rw [f1 _ (by decide)], by rw [f1 _ (by decide)]⟩) (fun _ _ => ?_)), (iFrm_of (by first | exact f1 _ (by decide) | rw [f1 _ (by decide)]) (by first | exact f1 _ (by decide) | rw [f1 _ (by decide)]) (by first | exact f1 _ (by decide) | rw [f1 _ (by decide)]) (by first | exact f1 _ (by decide) | rw [f1 _ (by decide)]) (fun f j hj => by first | exact f1 _ (by decide) | rw [f1 _ (by decide)]) (by first | exact f1 _ (by decide) | rw [f1 _ (by decide)]) (by first | exact f1 _ (by decide) | rw [f1 _ (by decide)]) (by first | exact f1 _ (by decide) | rw [f1 _ (by decide)]) (by first | exact f1 _ (by decide) | rw [f1 _ (by decide)]) (by first | exact f1 _ (by decide) | rw [f1 _ (by decide)]) (by first | exact f1 _ (by decide) | rw [f1 _ (by decide)]) (by first | exact f1 _ (by decide) | rw [f1 _ (by decide)]) (by first | exact f1 _ (by decide) | rw [f1 _ (by decide)]) (by first | exact f1 _ (by decide) | rw [f1 _ (by decide)]) (by first | exact f1 _ (by decide) | rw [f1 _ (by decide)]) hI.1.1.2.2.2.1), (iOrd_of (by first | exact f1 _ (by decide) | rw [f1 _ (by decide)]) (by first | exact f1 _ (by decide) | rw [f1 _ (by decide)]) hI.1.1.2.2.2.2.1), (iLin_of (by first | exact f1 _ (by decide) | rw [f1 _ (by decide)]) (by first | exact f1 _ (by decide) | rw [f1 _ (by decide)]) (by first | exact f1 _ (by decide) | rw [f1 _ (by decide)]) (by first | exact f1 _ (by decide) | rw [f1 _ (by decide)]) (by first | exact f1 _ (by decide) | rw [f1 _ (by decide)]) (by first | exact f1 _ (by decide) | rw [f1 _ (by decide)]) (by first | exact f1 _ (by decide) | rw [f1 _ (by decide)]) (by first | exact f1 _ (by decide) | rw [f1 _ (by decide)]) (by first | exact f1 _ (by decide) | rw [f1 _ (by decide)]) (by first | exact f1 _ (by decide) | rw [f1 _ (by decide)]) (by first | exact f1 _ (by decide) | rw [f1 _ (by decide)]) (by first | exact f1 _ (by decide) | rw [f1 _ (by decide)]) (by first | exact f1 _ (by decide) | rw [f1 _ (by decide)]) (by first | exact f1 _ (by decide) | rw [f1 _ (by decide)]) (by first | exact f1 _ (by decide) | rw [f1 _ (by decide)]) (by first | exact f1 _ (by decide) | rw [f1 _ (by decide)]) (by first | exact f1 _ (by decide) | rw [f1 _ (by decide)]) hI.1.1.2.2.2.2.2.1), (iLst_of (by first | exact f1 _ (by decide) | rw [f1 _ (by decide)]) (by first | exact f1 _ (by decide) | rw [f1 _ (by decide)]) (by first | exact f1 _ (by decide) | rw [f1 _ (by decide)]) (by first | exact f1 _ (by decide) | rw [f1 _ (by decide)]) (by first | exact f1 _ (by decide) | rw [f1 _ (by decide)]) (by first | exact f1 _ (by decide) | rw [f1 _ (by decide)]) (by first | exact f1 _ (by decide) | rw [f1 _ (by decide)]) hI.1.1.2.2.2.2.2.2.1), (iSum_of (by first | exact f1 _ (by decide) | rw [f1 _ (by decide)]) (by first | exact f1 _ (by decide) | rw [f1 _ (by decide)]) (by first | exact f1 _ (by decide) | rw [f1 _ (by decide)]) (by first | exact f1 _ (by decide) | rw [f1 _ (by decide)]) (by first | exact f1 _ (by decide) | rw [f1 _ (by decide)]) (by first | exact f1 _ (by decide) | rw [f1 _ (by decide)]) (by first | exact f1 _ (by decide) | rw [f1 _ (by decide)]) (by first | exact f1 _ (by decide) | rw [f1 _ (by decide)]) (by first | exact f1 _ (by decide) | rw [f1 _ (by decide)]) hI.1.1.2.2.2.2.2.2.2.1), (iSht_of (by first | exact f1 _ (by decide) | rw [f1 _ (by decide)]) (by first | exact f1 _ (by decide) | rw [f1 _ (by decide)]) (by first | exact f1 _ (by decide) | rw [f1 _ (by decide)]) (by first | exact f1 _ (by decide) | rw [f1 _ (by decide)]) (by first | exact f1 _ (by decide) | rw [f1 _ (by decide)]) (by first | exact f1 _ (by decide) | rw [f1 _ (by decide)]) hI.1.1.2.2.2.2.2.2.2.2)⟩, (iW_of (by first | exact f1 _ (by decide) | rw [f1 _ (by decide)]) (by first | exact f1 _ (by decide) | rw [f1 _ (by decide)]) (by first | exact f1 _ (by decide) | rw [f1 _ (by decide)]) (by first | exact f1 _ (by decide) | rw [f1 _ (by decide)]) (by first | exact f1 _ (by decide) | rw [f1 _ (by decide)]) (by first | exact f1 _ (by decide) | rw [f1 _ (by decide)]) (by first | exact f1 _ (by decide) | rw [f1 _ (by decide)]) (by first | exact f1 _ (by decide) | rw [f1 _ (by decide)]) (by first | exact f1 _ (by decide) | rw [f1 _ (by decide)]) hI.1.2)⟩, (LwC_of (by first | exact f1 _ (by decide) | rw [f1 _ (by decide)]) (by first | exact f1 _ (by decide) | rw [f1 _ (by decide)]) (by first | exact f1 _ (by decide) | rw [f1 _ (by decide)]) (by first | exact f1 _ (by decide) | rw [f1 _ (by decide)]) (by first | exact f1 _ (by decide) | rw [f1 _ (by decide)]) (by first | exact f1 _ (by decide) | rw [f1 _ (by decide)]) (by first | exact f1 _ (by decide) | rw [f1 _ (by decide)]) (by first | exact f1 _ (by decide) | rw [f1 _ (by decide)]) (by first | exact f1 _ (by decide) | rw [f1 _ (by decide)]) (by first | exact f1 _ (by decide) | rw [f1 _ (by decide)]) hI.2.1), (RdC_of (by first | exact f1 _ (by decide) | rw [f1 _ (by decide)]) (by first | exact f1 _ (by decide) | rw [f1 _ (by decide)]) (by first | exact f1 _ (by decide) | rw [f1 _ (by decide)]) (by first | exact f1 _ (by decide) | rw [f1 _ (by decide)]) (by first | exact f1 _ (by decide) | rw [f1 _ (by decide)]) (by first | exact f1 _ (by decide) | rw [f1 _ (by decide)]) (by first | exact f1 _ (by decide) | rw [f1 _ (by decide)]) (by first | exact f1 _ (by decide) | rw [f1 _ (by decide)]) hI.2.2)⟩
    unfold iP at w ⊢
    rw [f4 1 (by decide), f4 2 (by decide), f4 3 (by decide), f4 4 (by decide), f4 5 (by decide), f4 6 (by decide), f5, f6, f1 44 (by decide), f1 46 (by decide), f1 47 (by decide), f1 48 (by decide), f1 49 (by decide), f1 50 (by decide), f1 51 (by decide)]
    obtain ⟨⟨p1, p2, p3, p4, p5, p6⟩, q1, q2, q3, q4, q5, q6, q7, q8, q9⟩ := w
    exact ⟨⟨p1, p2, p3, p4, p5, p6⟩, fun _ => rfl, fun z => by omega, by omega, q4, q5, q6, q7, q8, q9⟩
  exact key _ (fr_up (fr_up fr_rf (by decide)) (by decide)) (fun x j hx => by rw [up3_nr (by decide), up3_ni hx]) (fun x hx => by rw [up3_nj hx, up3_nr (by decide)]) (fun j h0 => by rw [up3_nr (by decide), up3_nj h0]) (by rw [up3_nr (by decide), up3_eq]) up3_eq
theorem p_move {E : E3} {M : M3} {x1 x2 : Int} (hI : Inv M) (hx1 : -2147483648 ≤ x1 ∧ x1 ≤ 2147483647) (hx2 : -2147483648 ≤ x2 ∧ x2 ≤ 2147483647) : C3 E YX11_move [vR 0 0, vI x1, vI x2] M (P2 E YX12_move [vR 44 0, vI x1, vI x2]) :=
  c_move hI hx1 hx2 (p2I (m_move (WM_q (u_move_h M x1 x2).1 hI.1.1.wm) ((u_move_h M x1 x2).2 hI.2.2) hx1 hx2 (r2I (svI (a_move_q (u_move_h M x1 x2).1 x1 x2)) (i_move hI hx1 hx2))))
def a_harsh (M : M3) (x1 x2 : Int) : Int := if ¬ ((0 ≤ x1 ∧ x1 < M 44 0 1) ∧ (0 ≤ x2 ∧ x2 ≤ 9)) then -2 else M 51 0 x1
def u_harsh (M : M3) (x1 x2 : Int) : M3 := if ¬ ((0 ≤ x1 ∧ x1 < M 44 0 1) ∧ (0 ≤ x2 ∧ x2 ≤ 9)) then M else up3 M 13 x1 6 x2
def w_harsh (M : M3) (x1 x2 : Int) : M3 := if ¬ ((0 ≤ x1 ∧ x1 < M 44 0 1) ∧ (0 ≤ x2 ∧ x2 ≤ 9)) then M else up3 M 51 0 x1 x2
theorem c_harsh {E : E3} {Q : Q3} {M : M3} {x1 x2 : Int} (hI : Inv M) (hx1 : -2147483648 ≤ x1 ∧ x1 ≤ 2147483647) (hx2 : -2147483648 ≤ x2 ∧ x2 ≤ 2147483647) (k : Q (some (vI (a_harsh M x1 x2))) (u_harsh M x1 x2)) : C3 E YX11_harsh [vR 0 0, vI x1, vI x2] M Q := by
  refine c3_rm fun hM => ?_
  have hc1 := hI.1.1.2.2.1.1
  have hc2 := hI.1.1.2.2.1.2.1
  unfold a_harsh u_harsh at k
  by_cases hv : 0 ≤ x1 ∧ x1 < 48
  · have hf : (M 13 x1 5 = M 50 0 x1 ∧ M 13 x1 6 = M 51 0 x1 ∧ (0 ≤ M 45 0 x1 ∧ M 45 0 x1 ≤ 5)) ∧ ((M 50 0 x1 ≤ 2 ∧ M 13 x1 0 = M 45 0 x1) ∨ (3 ≤ M 50 0 x1 ∧ M 13 x1 0 = -1)) := by
      obtain ⟨⟨p1, p2, p3, p4, p5, p6⟩, q1, q2, q3, q4, q5, q6, q7, q8, q9⟩ := hI.1.1.p hv.1 hv.2
      refine ⟨⟨p5, p6, q3⟩, ?_⟩
      by_cases z : M 50 0 x1 ≤ 2
      · exact Or.inl ⟨z, q1 z⟩
      · exact Or.inr ⟨by omega, q2 (by omega)⟩
    refine sX11_harsh ?_
    refine ⟨?_, ?_⟩
    · first | omega
    refine ⟨fun c1 => ?_, fun c1 => ?_⟩
    · first
      | (repeat (first | rw [if_pos (by omega)] at k | rw [if_neg (by omega)] at k)
         exact qI (by omega) k)
      | (exfalso; omega)
    · refine ⟨fun c2 => ?_, fun c2 => ?_⟩
      · first
        | (repeat (first | rw [if_pos (by omega)] at k | rw [if_neg (by omega)] at k)
           exact qI (by omega) k)
        | (exfalso; omega)
      · refine ⟨?_, ?_⟩
        · first | omega
        refine ⟨fun c3 => ?_, fun c3 => ?_⟩
        · refine ⟨?_, ?_, ?_⟩
          · first | omega
          · first | omega
          first
          | (repeat (first | rw [if_pos (by omega)] at k | rw [if_neg (by omega)] at k)
             exact qI (by omega) k)
          | (exfalso; omega)
        · first
          | (repeat (first | rw [if_pos (by omega)] at k | rw [if_neg (by omega)] at k)
             exact qI (by omega) k)
          | (exfalso; omega)
  · skip
    refine sX11_harsh ?_
    refine ⟨?_, ?_⟩
    · first | omega
    refine ⟨fun c1 => ?_, fun c1 => ?_⟩
    · first
      | (repeat (first | rw [if_pos (by omega)] at k | rw [if_neg (by omega)] at k)
         exact qI (by omega) k)
      | (exfalso; omega)
    · refine ⟨fun c2 => ?_, fun c2 => ?_⟩
      · first
        | (repeat (first | rw [if_pos (by omega)] at k | rw [if_neg (by omega)] at k)
           exact qI (by omega) k)
        | (exfalso; omega)
      · refine ⟨?_, ?_⟩
        · first | omega
        refine ⟨fun c3 => ?_, fun c3 => ?_⟩
        · refine ⟨?_, ?_, ?_⟩
          · first | omega
          · first | omega
          first
          | (repeat (first | rw [if_pos (by omega)] at k | rw [if_neg (by omega)] at k)
             exact qI (by omega) k)
          | (exfalso; omega)
        · first
          | (repeat (first | rw [if_pos (by omega)] at k | rw [if_neg (by omega)] at k)
             exact qI (by omega) k)
          | (exfalso; omega)
theorem m_harsh {E : E3} {Q : Q3} {M : M3} {x1 x2 : Int} (hW : WM M) (hR : RdC M) (hx1 : -2147483648 ≤ x1 ∧ x1 ≤ 2147483647) (hx2 : -2147483648 ≤ x2 ∧ x2 ≤ 2147483647) (k : Q (some (vI (a_harsh M x1 x2))) (w_harsh M x1 x2)) : C3 E YX12_harsh [vR 44 0, vI x1, vI x2] M Q := by
  refine c3_rm fun hM => ?_
  obtain ⟨w1, w2, w3, w4, w5, w6, w7, w8⟩ := hW.1
  unfold a_harsh w_harsh at k
  refine sX12_harsh ?_
  refine ⟨?_, ?_⟩
  · first | omega
  refine ⟨fun c1 => ?_, fun c1 => ?_⟩
  · first
    | (repeat (first | rw [if_pos (by omega)] at k | rw [if_neg (by omega)] at k)
       exact qI (by omega) k)
    | (exfalso; omega)
  · refine ⟨?_, ?_⟩
    · first | omega
    refine ⟨fun c2 => ?_, fun c2 => ?_⟩
    · refine ⟨?_, ?_, ?_⟩
      · first | omega
      · first | omega
      first
      | (repeat (first | rw [if_pos (by omega)] at k | rw [if_neg (by omega)] at k)
         exact qI (by omega) k)
      | (exfalso; omega)
    · first
      | (repeat (first | rw [if_pos (by omega)] at k | rw [if_neg (by omega)] at k)
         exact qI (by omega) k)
      | (exfalso; omega)
theorem a_harsh_q {M N : M3} (h : Hm M N) (x1 x2 : Int) : a_harsh N x1 x2 = a_harsh M x1 x2 := by unfold a_harsh; simp only [h 44 (by decide), h 51 (by decide)]
theorem u_harsh_h (M : M3) (x1 x2 : Int) : Hm M (u_harsh M x1 x2) ∧ (RdC M → RdC (u_harsh M x1 x2)) := by
  unfold u_harsh
  repeat' split
  all_goals first
    | exact ⟨Hm.rf.up (by decide), fun h => h.up (by decide)⟩
    | exact ⟨Hm.rf, fun h => h⟩
theorem i_harsh {M : M3} {x1 x2 : Int} (hI : Inv M) (hx1 : -2147483648 ≤ x1 ∧ x1 ≤ 2147483647) (hx2 : -2147483648 ≤ x2 ∧ x2 ≤ 2147483647) : Inv (w_harsh (u_harsh M x1 x2) x1 x2) := by
  have hc2 := hI.1.1.2.2.1.2.1
  unfold w_harsh u_harsh
  by_cases c11 : ¬ ((0 ≤ x1 ∧ x1 < M 44 0 1) ∧ (0 ≤ x2 ∧ x2 ≤ 9))
  · rw [if_pos c11, if_pos c11]
    exact hI
  rw [if_neg c11]
  rw [if_neg (by (try rw [up3_nr (show (44 : Nat) ≠ 13 by decide)]); (try rw [up3_nr (show (51 : Nat) ≠ 13 by decide)]); (try rw [up3_nr (show (50 : Nat) ≠ 13 by decide)]); exact c11)]
  have w := hI.1.1.p (p := x1) (by omega) (by omega)
  have key : ∀ N : M3, (∀ q : Nat, q ∉ ([13, 51] : List Nat) → N q = M q) → (∀ x j : Int, x ≠ x1 → N 13 x j = M 13 x j) → (∀ x : Int, x ≠ x1 → N 51 0 x = M 51 0 x) → (∀ j : Int, j ≠ 6 → N 13 x1 j = M 13 x1 j) → N 13 x1 6 = x2 → N 51 0 x1 = x2 → Inv N := fun N f1 f2 f3 f4 f5 f6 => by
    refine ⟨⟨⟨(iBas_of (by first | exact f1 _ (by decide) | rw [f1 _ (by decide)]) (by first | exact f1 _ (by decide) | rw [f1 _ (by decide)]) (by first | exact f1 _ (by decide) | rw [f1 _ (by decide)]) (by first | exact f1 _ (by decide) | rw [f1 _ (by decide)]) (by first | exact f1 _ (by decide) | rw [f1 _ (by decide)]) (by first | exact f1 _ (by decide) | rw [f1 _ (by decide)]) hI.1.1.1), (iLaw_of (by first | exact f1 _ (by decide) | rw [f1 _ (by decide)]) (by first | exact f1 _ (by decide) | rw [f1 _ (by decide)]) (by first | exact f1 _ (by decide) | rw [f1 _ (by decide)]) (by first | exact f1 _ (by decide) | rw [f1 _ (by decide)]) hI.1.1.2.1), (iCty_at (p := x1) hI.1.1.2.2.1 (by rw [f1 _ (by decide)]) (by rw [f1 _ (by decide)]) (fun x hx => ⟨fun j => f2 x j hx, by rw [f1 _ (by decide)], by rw [f1 _ (by decide)], by rw [f1 _ (by decide)], by rw [f1 _ (by decide)], by rw [f1 _ (by decide)], by rw [f1 _ (by decide)], f3 x hx⟩) (fun _ _ => ?_)), (iFrm_of (by first | exact f1 _ (by decide) | rw [f1 _ (by decide)]) (by first | exact f1 _ (by decide) | rw [f1 _ (by decide)]) (by first | exact f1 _ (by decide) | rw [f1 _ (by decide)]) (by first | exact f1 _ (by decide) | rw [f1 _ (by decide)]) (fun f j hj => by first | exact f1 _ (by decide) | rw [f1 _ (by decide)]) (by first | exact f1 _ (by decide) | rw [f1 _ (by decide)]) (by first | exact f1 _ (by decide) | rw [f1 _ (by decide)]) (by first | exact f1 _ (by decide) | rw [f1 _ (by decide)]) (by first | exact f1 _ (by decide) | rw [f1 _ (by decide)]) (by first | exact f1 _ (by decide) | rw [f1 _ (by decide)]) (by first | exact f1 _ (by decide) | rw [f1 _ (by decide)]) (by first | exact f1 _ (by decide) | rw [f1 _ (by decide)]) (by first | exact f1 _ (by decide) | rw [f1 _ (by decide)]) (by first | exact f1 _ (by decide) | rw [f1 _ (by decide)]) (by first | exact f1 _ (by decide) | rw [f1 _ (by decide)]) hI.1.1.2.2.2.1), (iOrd_of (by first | exact f1 _ (by decide) | rw [f1 _ (by decide)]) (by first | exact f1 _ (by decide) | rw [f1 _ (by decide)]) hI.1.1.2.2.2.2.1), (iLin_of (by first | exact f1 _ (by decide) | rw [f1 _ (by decide)]) (by first | exact f1 _ (by decide) | rw [f1 _ (by decide)]) (by first | exact f1 _ (by decide) | rw [f1 _ (by decide)]) (by first | exact f1 _ (by decide) | rw [f1 _ (by decide)]) (by first | exact f1 _ (by decide) | rw [f1 _ (by decide)]) (by first | exact f1 _ (by decide) | rw [f1 _ (by decide)]) (by first | exact f1 _ (by decide) | rw [f1 _ (by decide)]) (by first | exact f1 _ (by decide) | rw [f1 _ (by decide)]) (by first | exact f1 _ (by decide) | rw [f1 _ (by decide)]) (by first | exact f1 _ (by decide) | rw [f1 _ (by decide)]) (by first | exact f1 _ (by decide) | rw [f1 _ (by decide)]) (by first | exact f1 _ (by decide) | rw [f1 _ (by decide)]) (by first | exact f1 _ (by decide) | rw [f1 _ (by decide)]) (by first | exact f1 _ (by decide) | rw [f1 _ (by decide)]) (by first | exact f1 _ (by decide) | rw [f1 _ (by decide)]) (by first | exact f1 _ (by decide) | rw [f1 _ (by decide)]) (by first | exact f1 _ (by decide) | rw [f1 _ (by decide)]) hI.1.1.2.2.2.2.2.1), (iLst_of (by first | exact f1 _ (by decide) | rw [f1 _ (by decide)]) (by first | exact f1 _ (by decide) | rw [f1 _ (by decide)]) (by first | exact f1 _ (by decide) | rw [f1 _ (by decide)]) (by first | exact f1 _ (by decide) | rw [f1 _ (by decide)]) (by first | exact f1 _ (by decide) | rw [f1 _ (by decide)]) (by first | exact f1 _ (by decide) | rw [f1 _ (by decide)]) (by first | exact f1 _ (by decide) | rw [f1 _ (by decide)]) hI.1.1.2.2.2.2.2.2.1), (iSum_of (by first | exact f1 _ (by decide) | rw [f1 _ (by decide)]) (by first | exact f1 _ (by decide) | rw [f1 _ (by decide)]) (by first | exact f1 _ (by decide) | rw [f1 _ (by decide)]) (by first | exact f1 _ (by decide) | rw [f1 _ (by decide)]) (by first | exact f1 _ (by decide) | rw [f1 _ (by decide)]) (by first | exact f1 _ (by decide) | rw [f1 _ (by decide)]) (by first | exact f1 _ (by decide) | rw [f1 _ (by decide)]) (by first | exact f1 _ (by decide) | rw [f1 _ (by decide)]) (by first | exact f1 _ (by decide) | rw [f1 _ (by decide)]) hI.1.1.2.2.2.2.2.2.2.1), (iSht_of (by first | exact f1 _ (by decide) | rw [f1 _ (by decide)]) (by first | exact f1 _ (by decide) | rw [f1 _ (by decide)]) (by first | exact f1 _ (by decide) | rw [f1 _ (by decide)]) (by first | exact f1 _ (by decide) | rw [f1 _ (by decide)]) (by first | exact f1 _ (by decide) | rw [f1 _ (by decide)]) (by first | exact f1 _ (by decide) | rw [f1 _ (by decide)]) hI.1.1.2.2.2.2.2.2.2.2)⟩, (iW_of (by first | exact f1 _ (by decide) | rw [f1 _ (by decide)]) (by first | exact f1 _ (by decide) | rw [f1 _ (by decide)]) (by first | exact f1 _ (by decide) | rw [f1 _ (by decide)]) (by first | exact f1 _ (by decide) | rw [f1 _ (by decide)]) (by first | exact f1 _ (by decide) | rw [f1 _ (by decide)]) (by first | exact f1 _ (by decide) | rw [f1 _ (by decide)]) (by first | exact f1 _ (by decide) | rw [f1 _ (by decide)]) (by first | exact f1 _ (by decide) | rw [f1 _ (by decide)]) (by first | exact f1 _ (by decide) | rw [f1 _ (by decide)]) hI.1.2)⟩, (LwC_of (by first | exact f1 _ (by decide) | rw [f1 _ (by decide)]) (by first | exact f1 _ (by decide) | rw [f1 _ (by decide)]) (by first | exact f1 _ (by decide) | rw [f1 _ (by decide)]) (by first | exact f1 _ (by decide) | rw [f1 _ (by decide)]) (by first | exact f1 _ (by decide) | rw [f1 _ (by decide)]) (by first | exact f1 _ (by decide) | rw [f1 _ (by decide)]) (by first | exact f1 _ (by decide) | rw [f1 _ (by decide)]) (by first | exact f1 _ (by decide) | rw [f1 _ (by decide)]) (by first | exact f1 _ (by decide) | rw [f1 _ (by decide)]) (by first | exact f1 _ (by decide) | rw [f1 _ (by decide)]) hI.2.1), (RdC_of (by first | exact f1 _ (by decide) | rw [f1 _ (by decide)]) (by first | exact f1 _ (by decide) | rw [f1 _ (by decide)]) (by first | exact f1 _ (by decide) | rw [f1 _ (by decide)]) (by first | exact f1 _ (by decide) | rw [f1 _ (by decide)]) (by first | exact f1 _ (by decide) | rw [f1 _ (by decide)]) (by first | exact f1 _ (by decide) | rw [f1 _ (by decide)]) (by first | exact f1 _ (by decide) | rw [f1 _ (by decide)]) (by first | exact f1 _ (by decide) | rw [f1 _ (by decide)]) hI.2.2)⟩
    unfold iP at w ⊢
    rw [f4 0 (by decide), f4 1 (by decide), f4 2 (by decide), f4 3 (by decide), f4 4 (by decide), f4 5 (by decide), f5, f6, f1 44 (by decide), f1 45 (by decide), f1 46 (by decide), f1 47 (by decide), f1 48 (by decide), f1 49 (by decide), f1 50 (by decide)]
    obtain ⟨⟨p1, p2, p3, p4, p5, p6⟩, q1, q2, q3, q4, q5, q6, q7, q8, q9⟩ := w
    exact ⟨⟨p1, p2, p3, p4, p5, rfl⟩, q1, q2, q3, q4, q5, q6, q7, q8, by omega⟩
  exact key _ (fr_up (fr_up fr_rf (by decide)) (by decide)) (fun x j hx => by rw [up3_nr (by decide), up3_ni hx]) (fun x hx => by rw [up3_nj hx, up3_nr (by decide)]) (fun j h0 => by rw [up3_nr (by decide), up3_nj h0]) (by rw [up3_nr (by decide), up3_eq]) up3_eq
theorem p_harsh {E : E3} {M : M3} {x1 x2 : Int} (hI : Inv M) (hx1 : -2147483648 ≤ x1 ∧ x1 ≤ 2147483647) (hx2 : -2147483648 ≤ x2 ∧ x2 ≤ 2147483647) : C3 E YX11_harsh [vR 0 0, vI x1, vI x2] M (P2 E YX12_harsh [vR 44 0, vI x1, vI x2]) :=
  c_harsh hI hx1 hx2 (p2I (m_harsh (WM_q (u_harsh_h M x1 x2).1 hI.1.1.wm) ((u_harsh_h M x1 x2).2 hI.2.2) hx1 hx2 (r2I (svI (a_harsh_q (u_harsh_h M x1 x2).1 x1 x2)) (i_harsh hI hx1 hx2))))
