/-! PAIRS: days, line, choices, orders, lists -/
def a_minutes (M : M3) (x1 x2 x3 : Int) : Int := if ¬ (((0 ≤ x1 ∧ x1 ≤ 3) ∧ (0 ≤ x2 ∧ x2 ≤ 1)) ∧ (1 ≤ x3 ∧ x3 ≤ 120)) then -2 else M 64 0 (2 * x1 + x2)
def u_minutes (M : M3) (x1 x2 x3 : Int) : M3 := if ¬ (((0 ≤ x1 ∧ x1 ≤ 3) ∧ (0 ≤ x2 ∧ x2 ≤ 1)) ∧ (1 ≤ x3 ∧ x3 ≤ 120)) then M else up3 M 25 0 (2 * x1 + x2) x3
def w_minutes (M : M3) (x1 x2 x3 : Int) : M3 := if ¬ (((0 ≤ x1 ∧ x1 ≤ 3) ∧ (0 ≤ x2 ∧ x2 ≤ 1)) ∧ (1 ≤ x3 ∧ x3 ≤ 120)) then M else up3 M 64 0 (2 * x1 + x2) x3
theorem c_minutes {E : E3} {Q : Q3} {M : M3} {x1 x2 x3 : Int} (hI : Inv M) (hx1 : -2147483648 ≤ x1 ∧ x1 ≤ 2147483647) (hx2 : -2147483648 ≤ x2 ∧ x2 ≤ 2147483647) (hx3 : -2147483648 ≤ x3 ∧ x3 ≤ 2147483647) (k : Q (some (vI (a_minutes M x1 x2 x3))) (u_minutes M x1 x2 x3)) : C3 E YX11_minutes [vR 0 0, vI x1, vI x2, vI x3] M Q := by
  refine c3_rm fun hM => ?_
  skip
  unfold a_minutes u_minutes at k
  by_cases hv : (0 ≤ x1 ∧ x1 ≤ 3) ∧ (0 ≤ x2 ∧ x2 ≤ 1)
  · have hf := hI.1.1.2.2.2.2.2.1.2.1 (2 * x1 + x2) (by omega) (by omega)
    refine sX11_minutes ?_
    refine ⟨?_, ?_⟩
    · first | omega
    refine ⟨fun c1 => ?_, fun c1 => ?_⟩
    · first
      | (repeat (first | rw [if_pos (by omega)] at k | rw [if_neg (by omega)] at k)
         exact qI (by omega) k)
      | (exfalso; omega)
    · refine ⟨?_, ?_⟩
      · first | omega
      refine ⟨fun c2 => ?_, fun c2 => ?_⟩
      · first
        | (repeat (first | rw [if_pos (by omega)] at k | rw [if_neg (by omega)] at k)
           exact qI (by omega) k)
        | (exfalso; omega)
      · refine ⟨?_, ?_⟩
        · first | omega
        refine ⟨fun c3 => ?_, fun c3 => ?_⟩
        · refine ⟨?_, ?_, ?_⟩
          · first | omega
          · first | omega
          first
          | (repeat (first | rw [if_pos (by omega)] at k | rw [if_neg (by omega)] at k)
             exact qI (by omega) k)
          | (exfalso; omega)
        · first
          | (repeat (first | rw [if_pos (by omega)] at k | rw [if_neg (by omega)] at k)
             exact qI (by omega) k)
          | (exfalso; omega)
  · skip
    refine sX11_minutes ?_
    refine ⟨?_, ?_⟩
    · first | omega
    refine ⟨fun c1 => ?_, fun c1 => ?_⟩
    · first
      | (repeat (first | rw [if_pos (by omega)] at k | rw [if_neg (by omega)] at k)
         exact qI (by omega) k)
      | (exfalso; omega)
    · refine ⟨?_, ?_⟩
      · first | omega
      refine ⟨fun c2 => ?_, fun c2 => ?_⟩
      · first
        | (repeat (first | rw [if_pos (by omega)] at k | rw [if_neg (by omega)] at k)
           exact qI (by omega) k)
        | (exfalso; omega)
      · refine ⟨?_, ?_⟩
        · first | omega
        refine ⟨fun c3 => ?_, fun c3 => ?_⟩
        · refine ⟨?_, ?_, ?_⟩
          · first | omega
          · first | omega
          first
          | (repeat (first | rw [if_pos (by omega)] at k | rw [if_neg (by omega)] at k)
             exact qI (by omega) k)
          | (exfalso; omega)
        · first
          | (repeat (first | rw [if_pos (by omega)] at k | rw [if_neg (by omega)] at k)
             exact qI (by omega) k)
          | (exfalso; omega)
theorem m_minutes {E : E3} {Q : Q3} {M : M3} {x1 x2 x3 : Int} (hW : WM M) (hR : RdC M) (hx1 : -2147483648 ≤ x1 ∧ x1 ≤ 2147483647) (hx2 : -2147483648 ≤ x2 ∧ x2 ≤ 2147483647) (hx3 : -2147483648 ≤ x3 ∧ x3 ≤ 2147483647) (k : Q (some (vI (a_minutes M x1 x2 x3))) (w_minutes M x1 x2 x3)) : C3 E YX12_minutes [vR 44 0, vI x1, vI x2, vI x3] M Q := by
  refine c3_rm fun hM => ?_
  obtain ⟨w1, w2, w3, w4, w5, w6, w7, w8⟩ := hW.1
  unfold a_minutes w_minutes at k
  refine sX12_minutes ?_
  refine ⟨?_, ?_⟩
  · first | omega
  refine ⟨fun c1 => ?_, fun c1 => ?_⟩
  · first
    | (repeat (first | rw [if_pos (by omega)] at k | rw [if_neg (by omega)] at k)
       exact qI (by omega) k)
    | (exfalso; omega)
  · refine ⟨?_, ?_⟩
    · first | omega
    refine ⟨fun c2 => ?_, fun c2 => ?_⟩
    · first
      | (repeat (first | rw [if_pos (by omega)] at k | rw [if_neg (by omega)] at k)
         exact qI (by omega) k)
      | (exfalso; omega)
    · refine ⟨?_, ?_⟩
      · first | omega
      refine ⟨fun c3 => ?_, fun c3 => ?_⟩
      · refine ⟨?_, ?_, ?_⟩
        · first | omega
        · first | omega
        first
        | (repeat (first | rw [if_pos (by omega)] at k | rw [if_neg (by omega)] at k)
           exact qI (by omega) k)
        | (exfalso; omega)
      · first
        | (repeat (first | rw [if_pos (by omega)] at k | rw [if_neg (by omega)] at k)
           exact qI (by omega) k)
        | (exfalso; omega)
theorem a_minutes_q {M N : M3} (h : Hm M N) (x1 x2 x3 : Int) : a_minutes N x1 x2 x3 = a_minutes M x1 x2 x3 := by unfold a_minutes; simp only [h 64 (by decide)]
theorem u_minutes_h (M : M3) (x1 x2 x3 : Int) : Hm M (u_minutes M x1 x2 x3) ∧ (RdC M → RdC (u_minutes M x1 x2 x3)) := by
  unfold u_minutes
  repeat' split
  all_goals first
    | exact ⟨Hm.rf.up (by decide), fun h => h.up (by decide)⟩
    | exact ⟨Hm.rf, fun h => h⟩
theorem i_minutes {M : M3} {x1 x2 x3 : Int} (hI : Inv M) (hx1 : -2147483648 ≤ x1 ∧ x1 ≤ 2147483647) (hx2 : -2147483648 ≤ x2 ∧ x2 ≤ 2147483647) (hx3 : -2147483648 ≤ x3 ∧ x3 ≤ 2147483647) : Inv (w_minutes (u_minutes M x1 x2 x3) x1 x2 x3) := by
  unfold u_minutes
  by_cases c11 : ¬ (((0 ≤ x1 ∧ x1 ≤ 3) ∧ (0 ≤ x2 ∧ x2 ≤ 1)) ∧ (1 ≤ x3 ∧ x3 ≤ 120))
  · rw [if_pos c11]
    unfold w_minutes
    rw [if_pos (by skip; exact c11)]
    exact hI
  rw [if_neg c11]
  unfold w_minutes
  rw [if_neg c11]
  have f1 : ∀ q : Nat, q ∉ ([25, 64] : List Nat) → (up3 (up3 M 25 0 (2 * x1 + x2) x3) 64 0 (2 * x1 + x2) x3) q = M q := fr_up (fr_up fr_rf (by decide)) (by decide)
  have f2 : ∀ k : Int, (up3 (up3 M 25 0 (2 * x1 + x2) x3) 64 0 (2 * x1 + x2) x3) 25 0 k = if k = 2 * x1 + x2 then x3 else M 25 0 k := fun k => by
    rw [up3_nr (by decide)]
    by_cases z : k = 2 * x1 + x2
    · rw [if_pos z, z, up3_eq]
    · rw [if_neg z, up3_nj z]
  have f3 : ∀ k : Int, (up3 (up3 M 25 0 (2 * x1 + x2) x3) 64 0 (2 * x1 + x2) x3) 64 0 k = if k = 2 * x1 + x2 then x3 else M 64 0 k := fun k => by
    by_cases z : k = 2 * x1 + x2
    · rw [if_pos z, z, up3_eq]
    · rw [if_neg z, up3_nj z, up3_nr (by decide)]
  generalize hN : up3 (up3 M 25 0 (2 * x1 + x2) x3) 64 0 (2 * x1 + x2) x3 = N at f1 f2 f3 ⊢
  clear hN
  refine ⟨⟨⟨(iBas_of (by first | exact f1 _ (by decide) | rw [f1 _ (by decide)]) (by first | exact f1 _ (by decide) | rw [f1 _ (by decide)]) (by first | exact f1 _ (by decide) | rw [f1 _ (by decide)]) (by first | exact f1 _ (by decide) | rw [f1 _ (by decide)]) (by first | exact f1 _ (by decide) | rw [f1 _ (by decide)]) (by first | exact f1 _ (by decide) | rw [f1 _ (by decide)]) hI.1.1.1), (iLaw_of (by first | exact f1 _ (by decide) | rw [f1 _ (by decide)]) (by first | exact f1 _ (by decide) | rw [f1 _ (by decide)]) (by first | exact f1 _ (by decide) | rw [f1 _ (by decide)]) (by first | exact f1 _ (by decide) | rw [f1 _ (by decide)]) hI.1.1.2.1), (iCty_of (by first | exact f1 _ (by decide) | rw [f1 _ (by decide)]) (by first | exact f1 _ (by decide) | rw [f1 _ (by decide)]) (by first | exact f1 _ (by decide) | rw [f1 _ (by decide)]) (by first | exact f1 _ (by decide) | rw [f1 _ (by decide)]) (by first | exact f1 _ (by decide) | rw [f1 _ (by decide)]) (by first | exact f1 _ (by decide) | rw [f1 _ (by decide)]) (by first | exact f1 _ (by decide) | rw [f1 _ (by decide)]) (by first | exact f1 _ (by decide) | rw [f1 _ (by decide)]) (by first | exact f1 _ (by decide) | rw [f1 _ (by decide)]) (by first | exact f1 _ (by decide) | rw [f1 _ (by decide)]) hI.1.1.2.2.1), (iFrm_of (by first | exact f1 _ (by decide) | rw [f1 _ (by decide)]) (by first | exact f1 _ (by decide) | rw [f1 _ (by decide)]) (by first | exact f1 _ (by decide) | rw [f1 _ (by decide)]) (by first | exact f1 _ (by decide) | rw [f1 _ (by decide)]) (fun f j hj => by first | exact f1 _ (by decide) | rw [f1 _ (by decide)]) (by first | exact f1 _ (by decide) | rw [f1 _ (by decide)]) (by first | exact f1 _ (by decide) | rw [f1 _ (by decide)]) (by first | exact f1 _ (by decide) | rw [f1 _ (by decide)]) (by first | exact f1 _ (by decide) | rw [f1 _ (by decide)]) (by first | exact f1 _ (by decide) | rw [f1 _ (by decide)]) (by first | exact f1 _ (by decide) | rw [f1 _ (by decide)]) (by first | exact f1 _ (by decide) | rw [f1 _ (by decide)]) (by first | exact f1 _ (by decide) | rw [f1 _ (by decide)]) (by first | exact f1 _ (by decide) | rw [f1 _ (by decide)]) (by first | exact f1 _ (by decide) | rw [f1 _ (by decide)]) hI.1.1.2.2.2.1), (iOrd_of (by first | exact f1 _ (by decide) | rw [f1 _ (by decide)]) (by first | exact f1 _ (by decide) | rw [f1 _ (by decide)]) hI.1.1.2.2.2.2.1), ?_, (iLst_of (by first | exact f1 _ (by decide) | rw [f1 _ (by decide)]) (by first | exact f1 _ (by decide) | rw [f1 _ (by decide)]) (by first | exact f1 _ (by decide) | rw [f1 _ (by decide)]) (by first | exact f1 _ (by decide) | rw [f1 _ (by decide)]) (by first | exact f1 _ (by decide) | rw [f1 _ (by decide)]) (by first | exact f1 _ (by decide) | rw [f1 _ (by decide)]) (by first | exact f1 _ (by decide) | rw [f1 _ (by decide)]) hI.1.1.2.2.2.2.2.2.1), (iSum_of (by first | exact f1 _ (by decide) | rw [f1 _ (by decide)]) (by first | exact f1 _ (by decide) | rw [f1 _ (by decide)]) (by first | exact f1 _ (by decide) | rw [f1 _ (by decide)]) (by first | exact f1 _ (by decide) | rw [f1 _ (by decide)]) (by first | exact f1 _ (by decide) | rw [f1 _ (by decide)]) (by first | exact f1 _ (by decide) | rw [f1 _ (by decide)]) (by first | exact f1 _ (by decide) | rw [f1 _ (by decide)]) (by first | exact f1 _ (by decide) | rw [f1 _ (by decide)]) (by first | exact f1 _ (by decide) | rw [f1 _ (by decide)]) hI.1.1.2.2.2.2.2.2.2.1), (iSht_of (by first | exact f1 _ (by decide) | rw [f1 _ (by decide)]) (by first | exact f1 _ (by decide) | rw [f1 _ (by decide)]) (by first | exact f1 _ (by decide) | rw [f1 _ (by decide)]) (by first | exact f1 _ (by decide) | rw [f1 _ (by decide)]) (by first | exact f1 _ (by decide) | rw [f1 _ (by decide)]) (by first | exact f1 _ (by decide) | rw [f1 _ (by decide)]) hI.1.1.2.2.2.2.2.2.2.2)⟩, (iW_of (by first | exact f1 _ (by decide) | rw [f1 _ (by decide)]) (by first | exact f1 _ (by decide) | rw [f1 _ (by decide)]) (by first | exact f1 _ (by decide) | rw [f1 _ (by decide)]) (by first | exact f1 _ (by decide) | rw [f1 _ (by decide)]) (by first | exact f1 _ (by decide) | rw [f1 _ (by decide)]) (by first | exact f1 _ (by decide) | rw [f1 _ (by decide)]) (by first | exact f1 _ (by decide) | rw [f1 _ (by decide)]) (by first | exact f1 _ (by decide) | rw [f1 _ (by decide)]) (by first | exact f1 _ (by decide) | rw [f1 _ (by decide)]) hI.1.2)⟩, (LwC_of (by first | exact f1 _ (by decide) | rw [f1 _ (by decide)]) (by first | exact f1 _ (by decide) | rw [f1 _ (by decide)]) (by first | exact f1 _ (by decide) | rw [f1 _ (by decide)]) (by first | exact f1 _ (by decide) | rw [f1 _ (by decide)]) (by first | exact f1 _ (by decide) | rw [f1 _ (by decide)]) (by first | exact f1 _ (by decide) | rw [f1 _ (by decide)]) (by first | exact f1 _ (by decide) | rw [f1 _ (by decide)]) (by first | exact f1 _ (by decide) | rw [f1 _ (by decide)]) (by first | exact f1 _ (by decide) | rw [f1 _ (by decide)]) (by first | exact f1 _ (by decide) | rw [f1 _ (by decide)]) hI.2.1), (RdC_of (by first | exact f1 _ (by decide) | rw [f1 _ (by decide)]) (by first | exact f1 _ (by decide) | rw [f1 _ (by decide)]) (by first | exact f1 _ (by decide) | rw [f1 _ (by decide)]) (by first | exact f1 _ (by decide) | rw [f1 _ (by decide)]) (by first | exact f1 _ (by decide) | rw [f1 _ (by decide)]) (by first | exact f1 _ (by decide) | rw [f1 _ (by decide)]) (by first | exact f1 _ (by decide) | rw [f1 _ (by decide)]) (by first | exact f1 _ (by decide) | rw [f1 _ (by decide)]) hI.2.2)⟩
  obtain ⟨n1, n2, n3, n4⟩ := hI.1.1.2.2.2.2.2.1
  unfold iLin okL SgP lt3 at *
  simp only [f1 20 (by decide), f1 21 (by decide), f1 22 (by decide), f1 23 (by decide), f1 44 (by decide), f1 46 (by decide), f1 65 (by decide), f1 66 (by decide), f2, f3]
  refine ⟨n1, fun k a b => by rw [n2 k a b], ⟨n3.1, n3.2.1, n3.2.2.1, n3.2.2.2.1, fun k a b => ?_, n3.2.2.2.2.2⟩, n4⟩
  have w := n3.2.2.2.2.1 k a b
  split
  · omega
  · exact w
theorem p_minutes {E : E3} {M : M3} {x1 x2 x3 : Int} (hI : Inv M) (hx1 : -2147483648 ≤ x1 ∧ x1 ≤ 2147483647) (hx2 : -2147483648 ≤ x2 ∧ x2 ≤ 2147483647) (hx3 : -2147483648 ≤ x3 ∧ x3 ≤ 2147483647) : C3 E YX11_minutes [vR 0 0, vI x1, vI x2, vI x3] M (P2 E YX12_minutes [vR 44 0, vI x1, vI x2, vI x3]) :=
  c_minutes hI hx1 hx2 hx3 (p2I (m_minutes (WM_q (u_minutes_h M x1 x2 x3).1 hI.1.1.wm) ((u_minutes_h M x1 x2 x3).2 hI.2.2) hx1 hx2 hx3 (r2I (svI (a_minutes_q (u_minutes_h M x1 x2 x3).1 x1 x2 x3)) (i_minutes hI hx1 hx2 hx3))))
def a_office (M : M3) (x1 x2 x3 : Int) : Int := if ¬ (((0 ≤ x1 ∧ x1 ≤ 127) ∧ (0 ≤ x2 ∧ x2 ≤ 1439)) ∧ ((0 ≤ x3 ∧ x3 ≤ 1439) ∧ x2 < x3)) then -2 else 1
def u_office (M : M3) (x1 x2 x3 : Int) : M3 := if ¬ (((0 ≤ x1 ∧ x1 ≤ 127) ∧ (0 ≤ x2 ∧ x2 ≤ 1439)) ∧ ((0 ≤ x3 ∧ x3 ≤ 1439) ∧ x2 < x3)) then M else up3 (up3 (up3 M 20 0 6 x1) 20 0 7 x2) 20 0 8 x3
def w_office (M : M3) (x1 x2 x3 : Int) : M3 := if ¬ (((0 ≤ x1 ∧ x1 ≤ 127) ∧ (0 ≤ x2 ∧ x2 ≤ 1439)) ∧ ((0 ≤ x3 ∧ x3 ≤ 1439) ∧ x2 < x3)) then M else up3 (up3 (up3 M 44 0 29 x1) 44 0 30 x2) 44 0 31 x3
theorem c_office {E : E3} {Q : Q3} {M : M3} {x1 x2 x3 : Int} (hI : Inv M) (hx1 : -2147483648 ≤ x1 ∧ x1 ≤ 2147483647) (hx2 : -2147483648 ≤ x2 ∧ x2 ≤ 2147483647) (hx3 : -2147483648 ≤ x3 ∧ x3 ≤ 2147483647) (k : Q (some (vI (a_office M x1 x2 x3))) (u_office M x1 x2 x3)) : C3 E YX11_office [vR 0 0, vI x1, vI x2, vI x3] M Q := by
  refine c3_rm fun hM => ?_
  skip
  unfold a_office u_office at k
  refine sX11_office ?_
  refine ⟨?_, ?_⟩
  · first | omega
  refine ⟨fun c1 => ?_, fun c1 => ?_⟩
  · first
    | (repeat (first | rw [if_pos (by omega)] at k | rw [if_neg (by omega)] at k)
       exact qI (by omega) k)
    | (exfalso; omega)
  · refine ⟨?_, ?_⟩
    · first | omega
    refine ⟨fun c2 => ?_, fun c2 => ?_⟩
    · first
      | (repeat (first | rw [if_pos (by omega)] at k | rw [if_neg (by omega)] at k)
         exact qI (by omega) k)
      | (exfalso; omega)
    · refine ⟨?_, ?_⟩
      · first | omega
      refine ⟨fun c3 => ?_, fun c3 => ?_⟩
      · first
        | (repeat (first | rw [if_pos (by omega)] at k | rw [if_neg (by omega)] at k)
           exact qI (by omega) k)
        | (exfalso; omega)
      · refine ⟨?_, ?_, ?_⟩
        · first | omega
        · first | omega
        refine ⟨fun c4 => ?_, fun c4 => ?_⟩
        · refine ⟨?_, ?_⟩
          · first | omega
          first
          | (repeat (first | rw [if_pos (by omega)] at k | rw [if_neg (by omega)] at k)
             exact qI (by omega) k)
          | (exfalso; omega)
        · first
          | (repeat (first | rw [if_pos (by omega)] at k | rw [if_neg (by omega)] at k)
             exact qI (by omega) k)
          | (exfalso; omega)
theorem m_office {E : E3} {Q : Q3} {M : M3} {x1 x2 x3 : Int} (hW : WM M) (hR : RdC M) (hx1 : -2147483648 ≤ x1 ∧ x1 ≤ 2147483647) (hx2 : -2147483648 ≤ x2 ∧ x2 ≤ 2147483647) (hx3 : -2147483648 ≤ x3 ∧ x3 ≤ 2147483647) (k : Q (some (vI (a_office M x1 x2 x3))) (w_office M x1 x2 x3)) : C3 E YX12_office [vR 44 0, vI x1, vI x2, vI x3] M Q := by
  refine c3_rm fun hM => ?_
  obtain ⟨w1, w2, w3, w4, w5, w6, w7, w8⟩ := hW.1
  unfold a_office w_office at k
  refine sX12_office ?_
  refine ⟨?_, ?_⟩
  · first | omega
  refine ⟨fun c1 => ?_, fun c1 => ?_⟩
  · first
    | (repeat (first | rw [if_pos (by omega)] at k | rw [if_neg (by omega)] at k)
       exact qI (by omega) k)
    | (exfalso; omega)
  · refine ⟨?_, ?_⟩
    · first | omega
    refine ⟨fun c2 => ?_, fun c2 => ?_⟩
    · first
      | (repeat (first | rw [if_pos (by omega)] at k | rw [if_neg (by omega)] at k)
         exact qI (by omega) k)
      | (exfalso; omega)
    · refine ⟨?_, ?_⟩
      · first | omega
      refine ⟨fun c3 => ?_, fun c3 => ?_⟩
      · first
        | (repeat (first | rw [if_pos (by omega)] at k | rw [if_neg (by omega)] at k)
           exact qI (by omega) k)
        | (exfalso; omega)
      · refine ⟨?_, ?_, ?_⟩
        · first | omega
        · first | omega
        refine ⟨fun c4 => ?_, fun c4 => ?_⟩
        · refine ⟨?_, ?_⟩
          · first | omega
          first
          | (repeat (first | rw [if_pos (by omega)] at k | rw [if_neg (by omega)] at k)
             exact qI (by omega) k)
          | (exfalso; omega)
        · first
          | (repeat (first | rw [if_pos (by omega)] at k | rw [if_neg (by omega)] at k)
             exact qI (by omega) k)
          | (exfalso; omega)
theorem a_office_q {M N : M3} (h : Hm M N) (x1 x2 x3 : Int) : a_office N x1 x2 x3 = a_office M x1 x2 x3 := by unfold a_office; simp only [h 44 (by decide)]
theorem u_office_h (M : M3) (x1 x2 x3 : Int) : Hm M (u_office M x1 x2 x3) ∧ (RdC M → RdC (u_office M x1 x2 x3)) := by
  unfold u_office
  repeat' split
  all_goals first
    | exact ⟨((Hm.rf.up (by decide)).up (by decide)).up (by decide), fun h => ((h.up (by decide)).up (by decide)).up (by decide)⟩
    | exact ⟨(Hm.rf.up (by decide)).up (by decide), fun h => (h.up (by decide)).up (by decide)⟩
    | exact ⟨Hm.rf.up (by decide), fun h => h.up (by decide)⟩
    | exact ⟨Hm.rf, fun h => h⟩
theorem i_office {M : M3} {x1 x2 x3 : Int} (hI : Inv M) (hx1 : -2147483648 ≤ x1 ∧ x1 ≤ 2147483647) (hx2 : -2147483648 ≤ x2 ∧ x2 ≤ 2147483647) (hx3 : -2147483648 ≤ x3 ∧ x3 ≤ 2147483647) : Inv (w_office (u_office M x1 x2 x3) x1 x2 x3) := by
  unfold u_office
  by_cases c11 : ¬ (((0 ≤ x1 ∧ x1 ≤ 127) ∧ (0 ≤ x2 ∧ x2 ≤ 1439)) ∧ ((0 ≤ x3 ∧ x3 ≤ 1439) ∧ x2 < x3))
  · rw [if_pos c11]
    unfold w_office
    rw [if_pos (by skip; exact c11)]
    exact hI
  rw [if_neg c11]
  unfold w_office
  rw [if_neg c11]
  have f1 : ∀ q : Nat, q ∉ ([20, 44] : List Nat) → (up3 (up3 (up3 (up3 (up3 (up3 M 20 0 6 x1) 20 0 7 x2) 20 0 8 x3) 44 0 29 x1) 44 0 30 x2) 44 0 31 x3) q = M q := (fr_up (fr_up (fr_up (fr_up (fr_up (fr_up fr_rf (by decide)) (by decide)) (by decide)) (by decide)) (by decide)) (by decide))
  have f4 : ∀ j : Int, j ≠ 29 → j ≠ 30 → j ≠ 31 → (up3 (up3 (up3 (up3 (up3 (up3 M 20 0 6 x1) 20 0 7 x2) 20 0 8 x3) 44 0 29 x1) 44 0 30 x2) 44 0 31 x3) 44 0 j = M 44 0 j := fun j a0 a1 a2 => by rw [up3_nj a2, up3_nj a1, up3_nj a0, up3_nr (by decide), up3_nr (by decide), up3_nr (by decide)]
  have f5 : ∀ j : Int, j ≠ 6 → j ≠ 7 → j ≠ 8 → (up3 (up3 (up3 (up3 (up3 (up3 M 20 0 6 x1) 20 0 7 x2) 20 0 8 x3) 44 0 29 x1) 44 0 30 x2) 44 0 31 x3) 20 0 j = M 20 0 j := fun j a0 a1 a2 => by rw [up3_nr (by decide), up3_nr (by decide), up3_nr (by decide), up3_nj a2, up3_nj a1, up3_nj a0]
  have v1 : (up3 (up3 (up3 (up3 (up3 (up3 M 20 0 6 x1) 20 0 7 x2) 20 0 8 x3) 44 0 29 x1) 44 0 30 x2) 44 0 31 x3) 20 0 6 = x1 := by rw [up3_nr (by decide), up3_nr (by decide), up3_nr (by decide), up3_nj (by decide), up3_nj (by decide), up3_eq]
  have v2 : (up3 (up3 (up3 (up3 (up3 (up3 M 20 0 6 x1) 20 0 7 x2) 20 0 8 x3) 44 0 29 x1) 44 0 30 x2) 44 0 31 x3) 20 0 7 = x2 := by rw [up3_nr (by decide), up3_nr (by decide), up3_nr (by decide), up3_nj (by decide), up3_eq]
  have v3 : (up3 (up3 (up3 (up3 (up3 (up3 M 20 0 6 x1) 20 0 7 x2) 20 0 8 x3) 44 0 29 x1) 44 0 30 x2) 44 0 31 x3) 20 0 8 = x3 := by rw [up3_nr (by decide), up3_nr (by decide), up3_nr (by decide), up3_eq]
  have v4 : (up3 (up3 (up3 (up3 (up3 (up3 M 20 0 6 x1) 20 0 7 x2) 20 0 8 x3) 44 0 29 x1) 44 0 30 x2) 44 0 31 x3) 44 0 29 = x1 := by rw [up3_nj (by decide), up3_nj (by decide), up3_eq]
  have v5 : (up3 (up3 (up3 (up3 (up3 (up3 M 20 0 6 x1) 20 0 7 x2) 20 0 8 x3) 44 0 29 x1) 44 0 30 x2) 44 0 31 x3) 44 0 30 = x2 := by rw [up3_nj (by decide), up3_eq]
  have v6 : (up3 (up3 (up3 (up3 (up3 (up3 M 20 0 6 x1) 20 0 7 x2) 20 0 8 x3) 44 0 29 x1) 44 0 30 x2) 44 0 31 x3) 44 0 31 = x3 := by rw [up3_eq]
  generalize hN : up3 (up3 (up3 (up3 (up3 (up3 M 20 0 6 x1) 20 0 7 x2) 20 0 8 x3) 44 0 29 x1) 44 0 30 x2) 44 0 31 x3 = N at f1 f4 f5 v1 v2 v3 v4 v5 v6 ⊢
  clear hN
  refine ⟨⟨⟨(iBas_of (by first | exact f1 _ (by decide) | rw [f1 _ (by decide)] | exact f4 _ (by decide) (by decide) (by decide) | exact f5 _ (by decide) (by decide) (by decide)) (by first | exact f1 _ (by decide) | rw [f1 _ (by decide)] | exact f4 _ (by decide) (by decide) (by decide) | exact f5 _ (by decide) (by decide) (by decide)) (by first | exact f1 _ (by decide) | rw [f1 _ (by decide)] | exact f4 _ (by decide) (by decide) (by decide) | exact f5 _ (by decide) (by decide) (by decide)) (by first | exact f1 _ (by decide) | rw [f1 _ (by decide)] | exact f4 _ (by decide) (by decide) (by decide) | exact f5 _ (by decide) (by decide) (by decide)) (by first | exact f1 _ (by decide) | rw [f1 _ (by decide)] | exact f4 _ (by decide) (by decide) (by decide) | exact f5 _ (by decide) (by decide) (by decide)) (by first | exact f1 _ (by decide) | rw [f1 _ (by decide)] | exact f4 _ (by decide) (by decide) (by decide) | exact f5 _ (by decide) (by decide) (by decide)) hI.1.1.1), (iLaw_of (by first | exact f1 _ (by decide) | rw [f1 _ (by decide)] | exact f4 _ (by decide) (by decide) (by decide) | exact f5 _ (by decide) (by decide) (by decide)) (by first | exact f1 _ (by decide) | rw [f1 _ (by decide)] | exact f4 _ (by decide) (by decide) (by decide) | exact f5 _ (by decide) (by decide) (by decide)) (by first | exact f1 _ (by decide) | rw [f1 _ (by decide)] | exact f4 _ (by decide) (by decide) (by decide) | exact f5 _ (by decide) (by decide) (by decide)) (by first | exact f1 _ (by decide) | rw [f1 _ (by decide)] | exact f4 _ (by decide) (by decide) (by decide) | exact f5 _ (by decide) (by decide) (by decide)) hI.1.1.2.1), (iCty_of (by first | exact f1 _ (by decide) | rw [f1 _ (by decide)] | exact f4 _ (by decide) (by decide) (by decide) | exact f5 _ (by decide) (by decide) (by decide)) (by first | exact f1 _ (by decide) | rw [f1 _ (by decide)] | exact f4 _ (by decide) (by decide) (by decide) | exact f5 _ (by decide) (by decide) (by decide)) (by first | exact f1 _ (by decide) | rw [f1 _ (by decide)] | exact f4 _ (by decide) (by decide) (by decide) | exact f5 _ (by decide) (by decide) (by decide)) (by first | exact f1 _ (by decide) | rw [f1 _ (by decide)] | exact f4 _ (by decide) (by decide) (by decide) | exact f5 _ (by decide) (by decide) (by decide)) (by first | exact f1 _ (by decide) | rw [f1 _ (by decide)] | exact f4 _ (by decide) (by decide) (by decide) | exact f5 _ (by decide) (by decide) (by decide)) (by first | exact f1 _ (by decide) | rw [f1 _ (by decide)] | exact f4 _ (by decide) (by decide) (by decide) | exact f5 _ (by decide) (by decide) (by decide)) (by first | exact f1 _ (by decide) | rw [f1 _ (by decide)] | exact f4 _ (by decide) (by decide) (by decide) | exact f5 _ (by decide) (by decide) (by decide)) (by first | exact f1 _ (by decide) | rw [f1 _ (by decide)] | exact f4 _ (by decide) (by decide) (by decide) | exact f5 _ (by decide) (by decide) (by decide)) (by first | exact f1 _ (by decide) | rw [f1 _ (by decide)] | exact f4 _ (by decide) (by decide) (by decide) | exact f5 _ (by decide) (by decide) (by decide)) (by first | exact f1 _ (by decide) | rw [f1 _ (by decide)] | exact f4 _ (by decide) (by decide) (by decide) | exact f5 _ (by decide) (by decide) (by decide)) hI.1.1.2.2.1), (iFrm_of (by first | exact f1 _ (by decide) | rw [f1 _ (by decide)] | exact f4 _ (by decide) (by decide) (by decide) | exact f5 _ (by decide) (by decide) (by decide)) (by first | exact f1 _ (by decide) | rw [f1 _ (by decide)] | exact f4 _ (by decide) (by decide) (by decide) | exact f5 _ (by decide) (by decide) (by decide)) (by first | exact f1 _ (by decide) | rw [f1 _ (by decide)] | exact f4 _ (by decide) (by decide) (by decide) | exact f5 _ (by decide) (by decide) (by decide)) (by first | exact f1 _ (by decide) | rw [f1 _ (by decide)] | exact f4 _ (by decide) (by decide) (by decide) | exact f5 _ (by decide) (by decide) (by decide)) (fun f j hj => by first | exact f1 _ (by decide) | rw [f1 _ (by decide)] | exact f4 _ (by decide) (by decide) (by decide) | exact f5 _ (by decide) (by decide) (by decide)) (by first | exact f1 _ (by decide) | rw [f1 _ (by decide)] | exact f4 _ (by decide) (by decide) (by decide) | exact f5 _ (by decide) (by decide) (by decide)) (by first | exact f1 _ (by decide) | rw [f1 _ (by decide)] | exact f4 _ (by decide) (by decide) (by decide) | exact f5 _ (by decide) (by decide) (by decide)) (by first | exact f1 _ (by decide) | rw [f1 _ (by decide)] | exact f4 _ (by decide) (by decide) (by decide) | exact f5 _ (by decide) (by decide) (by decide)) (by first | exact f1 _ (by decide) | rw [f1 _ (by decide)] | exact f4 _ (by decide) (by decide) (by decide) | exact f5 _ (by decide) (by decide) (by decide)) (by first | exact f1 _ (by decide) | rw [f1 _ (by decide)] | exact f4 _ (by decide) (by decide) (by decide) | exact f5 _ (by decide) (by decide) (by decide)) (by first | exact f1 _ (by decide) | rw [f1 _ (by decide)] | exact f4 _ (by decide) (by decide) (by decide) | exact f5 _ (by decide) (by decide) (by decide)) (by first | exact f1 _ (by decide) | rw [f1 _ (by decide)] | exact f4 _ (by decide) (by decide) (by decide) | exact f5 _ (by decide) (by decide) (by decide)) (by first | exact f1 _ (by decide) | rw [f1 _ (by decide)] | exact f4 _ (by decide) (by decide) (by decide) | exact f5 _ (by decide) (by decide) (by decide)) (by first | exact f1 _ (by decide) | rw [f1 _ (by decide)] | exact f4 _ (by decide) (by decide) (by decide) | exact f5 _ (by decide) (by decide) (by decide)) (by first | exact f1 _ (by decide) | rw [f1 _ (by decide)] | exact f4 _ (by decide) (by decide) (by decide) | exact f5 _ (by decide) (by decide) (by decide)) hI.1.1.2.2.2.1), (iOrd_of (by first | exact f1 _ (by decide) | rw [f1 _ (by decide)] | exact f4 _ (by decide) (by decide) (by decide) | exact f5 _ (by decide) (by decide) (by decide)) (by first | exact f1 _ (by decide) | rw [f1 _ (by decide)] | exact f4 _ (by decide) (by decide) (by decide) | exact f5 _ (by decide) (by decide) (by decide)) hI.1.1.2.2.2.2.1), ?_, (iLst_of (by first | exact f1 _ (by decide) | rw [f1 _ (by decide)] | exact f4 _ (by decide) (by decide) (by decide) | exact f5 _ (by decide) (by decide) (by decide)) (by first | exact f1 _ (by decide) | rw [f1 _ (by decide)] | exact f4 _ (by decide) (by decide) (by decide) | exact f5 _ (by decide) (by decide) (by decide)) (by first | exact f1 _ (by decide) | rw [f1 _ (by decide)] | exact f4 _ (by decide) (by decide) (by decide) | exact f5 _ (by decide) (by decide) (by decide)) (by first | exact f1 _ (by decide) | rw [f1 _ (by decide)] | exact f4 _ (by decide) (by decide) (by decide) | exact f5 _ (by decide) (by decide) (by decide)) (by first | exact f1 _ (by decide) | rw [f1 _ (by decide)] | exact f4 _ (by decide) (by decide) (by decide) | exact f5 _ (by decide) (by decide) (by decide)) (by first | exact f1 _ (by decide) | rw [f1 _ (by decide)] | exact f4 _ (by decide) (by decide) (by decide) | exact f5 _ (by decide) (by decide) (by decide)) (by first | exact f1 _ (by decide) | rw [f1 _ (by decide)] | exact f4 _ (by decide) (by decide) (by decide) | exact f5 _ (by decide) (by decide) (by decide)) hI.1.1.2.2.2.2.2.2.1), (iSum_of (by first | exact f1 _ (by decide) | rw [f1 _ (by decide)] | exact f4 _ (by decide) (by decide) (by decide) | exact f5 _ (by decide) (by decide) (by decide)) (by first | exact f1 _ (by decide) | rw [f1 _ (by decide)] | exact f4 _ (by decide) (by decide) (by decide) | exact f5 _ (by decide) (by decide) (by decide)) (by first | exact f1 _ (by decide) | rw [f1 _ (by decide)] | exact f4 _ (by decide) (by decide) (by decide) | exact f5 _ (by decide) (by decide) (by decide)) (by first | exact f1 _ (by decide) | rw [f1 _ (by decide)] | exact f4 _ (by decide) (by decide) (by decide) | exact f5 _ (by decide) (by decide) (by decide)) (by first | exact f1 _ (by decide) | rw [f1 _ (by decide)] | exact f4 _ (by decide) (by decide) (by decide) | exact f5 _ (by decide) (by decide) (by decide)) (by first | exact f1 _ (by decide) | rw [f1 _ (by decide)] | exact f4 _ (by decide) (by decide) (by decide) | exact f5 _ (by decide) (by decide) (by decide)) (by first | exact f1 _ (by decide) | rw [f1 _ (by decide)] | exact f4 _ (by decide) (by decide) (by decide) | exact f5 _ (by decide) (by decide) (by decide)) (by first | exact f1 _ (by decide) | rw [f1 _ (by decide)] | exact f4 _ (by decide) (by decide) (by decide) | exact f5 _ (by decide) (by decide) (by decide)) (by first | exact f1 _ (by decide) | rw [f1 _ (by decide)] | exact f4 _ (by decide) (by decide) (by decide) | exact f5 _ (by decide) (by decide) (by decide)) hI.1.1.2.2.2.2.2.2.2.1), (iSht_of (by first | exact f1 _ (by decide) | rw [f1 _ (by decide)] | exact f4 _ (by decide) (by decide) (by decide) | exact f5 _ (by decide) (by decide) (by decide)) (by first | exact f1 _ (by decide) | rw [f1 _ (by decide)] | exact f4 _ (by decide) (by decide) (by decide) | exact f5 _ (by decide) (by decide) (by decide)) (by first | exact f1 _ (by decide) | rw [f1 _ (by decide)] | exact f4 _ (by decide) (by decide) (by decide) | exact f5 _ (by decide) (by decide) (by decide)) (by first | exact f1 _ (by decide) | rw [f1 _ (by decide)] | exact f4 _ (by decide) (by decide) (by decide) | exact f5 _ (by decide) (by decide) (by decide)) (by first | exact f1 _ (by decide) | rw [f1 _ (by decide)] | exact f4 _ (by decide) (by decide) (by decide) | exact f5 _ (by decide) (by decide) (by decide)) (by first | exact f1 _ (by decide) | rw [f1 _ (by decide)] | exact f4 _ (by decide) (by decide) (by decide) | exact f5 _ (by decide) (by decide) (by decide)) hI.1.1.2.2.2.2.2.2.2.2)⟩, (iW_of (by first | exact f1 _ (by decide) | rw [f1 _ (by decide)] | exact f4 _ (by decide) (by decide) (by decide) | exact f5 _ (by decide) (by decide) (by decide)) (by first | exact f1 _ (by decide) | rw [f1 _ (by decide)] | exact f4 _ (by decide) (by decide) (by decide) | exact f5 _ (by decide) (by decide) (by decide)) (by first | exact f1 _ (by decide) | rw [f1 _ (by decide)] | exact f4 _ (by decide) (by decide) (by decide) | exact f5 _ (by decide) (by decide) (by decide)) (by first | exact f1 _ (by decide) | rw [f1 _ (by decide)] | exact f4 _ (by decide) (by decide) (by decide) | exact f5 _ (by decide) (by decide) (by decide)) (by first | exact f1 _ (by decide) | rw [f1 _ (by decide)] | exact f4 _ (by decide) (by decide) (by decide) | exact f5 _ (by decide) (by decide) (by decide)) (by first | exact f1 _ (by decide) | rw [f1 _ (by decide)] | exact f4 _ (by decide) (by decide) (by decide) | exact f5 _ (by decide) (by decide) (by decide)) (by first | exact f1 _ (by decide) | rw [f1 _ (by decide)] | exact f4 _ (by decide) (by decide) (by decide) | exact f5 _ (by decide) (by decide) (by decide)) (by first | exact f1 _ (by decide) | rw [f1 _ (by decide)] | exact f4 _ (by decide) (by decide) (by decide) | exact f5 _ (by decide) (by decide) (by decide)) (by first | exact f1 _ (by decide) | rw [f1 _ (by decide)] | exact f4 _ (by decide) (by decide) (by decide) | exact f5 _ (by decide) (by decide) (by decide)) hI.1.2)⟩, (LwC_of (by first | exact f1 _ (by decide) | rw [f1 _ (by decide)] | exact f4 _ (by decide) (by decide) (by decide) | exact f5 _ (by decide) (by decide) (by decide)) (by first | exact f1 _ (by decide) | rw [f1 _ (by decide)] | exact f4 _ (by decide) (by decide) (by decide) | exact f5 _ (by decide) (by decide) (by decide)) (by first | exact f1 _ (by decide) | rw [f1 _ (by decide)] | exact f4 _ (by decide) (by decide) (by decide) | exact f5 _ (by decide) (by decide) (by decide)) (by first | exact f1 _ (by decide) | rw [f1 _ (by decide)] | exact f4 _ (by decide) (by decide) (by decide) | exact f5 _ (by decide) (by decide) (by decide)) (by first | exact f1 _ (by decide) | rw [f1 _ (by decide)] | exact f4 _ (by decide) (by decide) (by decide) | exact f5 _ (by decide) (by decide) (by decide)) (by first | exact f1 _ (by decide) | rw [f1 _ (by decide)] | exact f4 _ (by decide) (by decide) (by decide) | exact f5 _ (by decide) (by decide) (by decide)) (by first | exact f1 _ (by decide) | rw [f1 _ (by decide)] | exact f4 _ (by decide) (by decide) (by decide) | exact f5 _ (by decide) (by decide) (by decide)) (by first | exact f1 _ (by decide) | rw [f1 _ (by decide)] | exact f4 _ (by decide) (by decide) (by decide) | exact f5 _ (by decide) (by decide) (by decide)) (by first | exact f1 _ (by decide) | rw [f1 _ (by decide)] | exact f4 _ (by decide) (by decide) (by decide) | exact f5 _ (by decide) (by decide) (by decide)) (by first | exact f1 _ (by decide) | rw [f1 _ (by decide)] | exact f4 _ (by decide) (by decide) (by decide) | exact f5 _ (by decide) (by decide) (by decide)) hI.2.1), (RdC_of (by first | exact f1 _ (by decide) | rw [f1 _ (by decide)] | exact f4 _ (by decide) (by decide) (by decide) | exact f5 _ (by decide) (by decide) (by decide)) (by first | exact f1 _ (by decide) | rw [f1 _ (by decide)] | exact f4 _ (by decide) (by decide) (by decide) | exact f5 _ (by decide) (by decide) (by decide)) (by first | exact f1 _ (by decide) | rw [f1 _ (by decide)] | exact f4 _ (by decide) (by decide) (by decide) | exact f5 _ (by decide) (by decide) (by decide)) (by first | exact f1 _ (by decide) | rw [f1 _ (by decide)] | exact f4 _ (by decide) (by decide) (by decide) | exact f5 _ (by decide) (by decide) (by decide)) (by first | exact f1 _ (by decide) | rw [f1 _ (by decide)] | exact f4 _ (by decide) (by decide) (by decide) | exact f5 _ (by decide) (by decide) (by decide)) (by first | exact f1 _ (by decide) | rw [f1 _ (by decide)] | exact f4 _ (by decide) (by decide) (by decide) | exact f5 _ (by decide) (by decide) (by decide)) (by first | exact f1 _ (by decide) | rw [f1 _ (by decide)] | exact f4 _ (by decide) (by decide) (by decide) | exact f5 _ (by decide) (by decide) (by decide)) (by first | exact f1 _ (by decide) | rw [f1 _ (by decide)] | exact f4 _ (by decide) (by decide) (by decide) | exact f5 _ (by decide) (by decide) (by decide)) hI.2.2)⟩
  obtain ⟨n1, n2, n3, n4⟩ := hI.1.1.2.2.2.2.2.1
  have e1 := f4 1 (by decide) (by decide) (by decide)
  have e2 := f4 32 (by decide) (by decide) (by decide)
  have e3 := f5 0 (by decide) (by decide) (by decide)
  unfold iLin okL SgP lt3 at *
  rw [v1, v2, v3, v4, v5, v6, e1, e2, e3, f1 21 (by decide), f1 22 (by decide), f1 23 (by decide), f1 25 (by decide), f1 46 (by decide), f1 64 (by decide), f1 65 (by decide), f1 66 (by decide)]
  exact ⟨⟨n1.1, rfl, rfl, rfl⟩, n2, ⟨n3.1, by omega, by omega, by omega, n3.2.2.2.2⟩, n4⟩
theorem p_office {E : E3} {M : M3} {x1 x2 x3 : Int} (hI : Inv M) (hx1 : -2147483648 ≤ x1 ∧ x1 ≤ 2147483647) (hx2 : -2147483648 ≤ x2 ∧ x2 ≤ 2147483647) (hx3 : -2147483648 ≤ x3 ∧ x3 ≤ 2147483647) : C3 E YX11_office [vR 0 0, vI x1, vI x2, vI x3] M (P2 E YX12_office [vR 44 0, vI x1, vI x2, vI x3]) :=
  c_office hI hx1 hx2 hx3 (p2I (m_office (WM_q (u_office_h M x1 x2 x3).1 hI.1.1.wm) ((u_office_h M x1 x2 x3).2 hI.2.2) hx1 hx2 hx3 (r2I (svI (a_office_q (u_office_h M x1 x2 x3).1 x1 x2 x3)) (i_office hI hx1 hx2 hx3))))
