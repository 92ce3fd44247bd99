/-! PAIRS: habits, lessons, votes -/
theorem Hm.of {M N : M3} {L : List Nat} (h : ∀ q : Nat, q ∉ L → N q = M q) (hL : ∀ q ∈ L, q < 44) : Hm M N := fun q hq => h q fun z => by
  have := hL q z
  omega
theorem LwC.k {M N : M3} (f : ∀ q : Nat, q < 44 → N q = M q) (h : LwC M) : LwC N := LwC_of (by rw [f 3 (by decide)]) (by rw [f 3 (by decide)]) (by rw [f 3 (by decide)]) (by rw [f 3 (by decide)]) (f 4 (by decide)) (f 5 (by decide)) (f 6 (by decide)) (f 7 (by decide)) (f 8 (by decide)) (f 9 (by decide)) h
theorem mByT_q {M N : M3} (h : Hm M N) (f : Int) : mByT N f ↔ mByT M f := by simp only [mByT, alw3, LM3_q h, mRights_q h, h 46 (by decide), h 56 (by decide), h 57 (by decide), h 58 (by decide)]
theorem mPtd_q {M N : M3} (h : Hm M N) (f : Int) : mPtd N f ↔ mPtd M f := by
  have q := mByT_q h f
  unfold mPtd
  rw [mHow_q h]
  simp only [q]
theorem mFls_q {M N : M3} (h : Hm M N) (f : Int) : mFls N f ↔ mFls M f := by
  unfold mFls
  rw [mHow_q h, mTrue_q h, h 63 (by decide)]
theorem mParted_q {M N : M3} (h : Hm M N) (a b : Int) : mParted N a b = mParted M a b := by
  unfold mParted
  simp only [h 44 (by decide), mFls_q h, mPtd_q h, mHow_q h, h 46 (by decide), h 56 (by decide)]
theorem mRdy_h {M N : M3} (h : Hm M N) (a b : Int) : mRdy N a b = mRdy M a b := by
  unfold mRdy
  simp only [alw3, LM3_q h, h 44 (by decide), h 50 (by decide), h 45 (by decide), h 46 (by decide), h 47 (by decide)]
theorem mRp_q {M N : M3} (h : Hm M N) (n a b : Int) : mRp N n a b = mRp M n a b := by
  unfold mRp mRpN
  simp only [mNow_q h, mHow_q h, mPtd_q h, h 44 (by decide), h 46 (by decide), h 56 (by decide), h 57 (by decide), h 60 (by decide)]
def a_parted (M : M3) (x1 x2 : Int) : Int := if (-1 ≤ x1 ∧ x1 ≤ 1) ∧ 0 ≤ x2 ∧ x2 ≤ 2 then mParted M x1 x2 else -2
theorem c_parted {E : E3} {Q : Q3} {M : M3} {x1 x2 : Int} (hI : Inv M) (hx1 : -2147483648 ≤ x1 ∧ x1 ≤ 2147483647) (hx2 : -2147483648 ≤ x2 ∧ x2 ≤ 2147483647) (k : ∀ (N : M3), Inv N → Hm M N → Q (some (vI (a_parted M x1 x2))) N) : C3 E YX11_parted [vR 0 0, vI x1, vI x2] M Q := by
  refine c3_rm fun hM => ?_
  skip
  unfold a_parted at k
  refine sX11_parted ?_
  refine ⟨?_, ?_⟩
  · first | omega | exact ⟨hI.2.1, hI.1, by omega, by omega⟩
  refine ⟨fun c1 => ?_, fun c1 => ?_⟩
  · refine ⟨?_, ?_⟩
    · first | omega | exact ⟨hI.2.1, hI.1, by omega, by omega⟩
    refine ⟨fun c2 => ?_, fun c2 => ?_⟩
    · refine ⟨?_, ?_⟩
      · first | omega | exact ⟨hI.2.1, hI.1, by omega, by omega⟩
      intro N1 hN1 hf1 hs1 hp1
      first
      | (refine qI ?_ (k _ (hI.c ⟨hf1, hs1⟩ hp1) (Ec.hm ⟨hf1, hs1⟩))
         (repeat (first | rw [if_pos (by omega)] | rw [if_neg (by omega)]))
         all_goals (first | rfl | omega))
      | (refine qI ?_ (k _ hI Hm.rf)
         (repeat (first | rw [if_pos (by omega)] | rw [if_neg (by omega)]))
         all_goals (first | rfl | omega))
      | (exfalso; omega)
    · first
      | (refine qI ?_ (k _ (hI.c ⟨hf1, hs1⟩ hp1) (Ec.hm ⟨hf1, hs1⟩))
         (repeat (first | rw [if_pos (by omega)] | rw [if_neg (by omega)]))
         all_goals (first | rfl | omega))
      | (refine qI ?_ (k _ hI Hm.rf)
         (repeat (first | rw [if_pos (by omega)] | rw [if_neg (by omega)]))
         all_goals (first | rfl | omega))
      | (exfalso; omega)
  · refine ⟨?_, ?_⟩
    · first | omega | exact ⟨hI.2.1, hI.1, by omega, by omega⟩
    refine ⟨fun c2 => ?_, fun c2 => ?_⟩
    · first
      | (refine qI ?_ (k _ (hI.c ⟨hf1, hs1⟩ hp1) (Ec.hm ⟨hf1, hs1⟩))
         (repeat (first | rw [if_pos (by omega)] | rw [if_neg (by omega)]))
         all_goals (first | rfl | omega))
      | (refine qI ?_ (k _ hI Hm.rf)
         (repeat (first | rw [if_pos (by omega)] | rw [if_neg (by omega)]))
         all_goals (first | rfl | omega))
      | (exfalso; omega)
    · refine ⟨?_, ?_⟩
      · first | omega | exact ⟨hI.2.1, hI.1, by omega, by omega⟩
      refine ⟨fun c3 => ?_, fun c3 => ?_⟩
      · refine ⟨?_, ?_⟩
        · first | omega | exact ⟨hI.2.1, hI.1, by omega, by omega⟩
        intro N1 hN1 hf1 hs1 hp1
        first
        | (refine qI ?_ (k _ (hI.c ⟨hf1, hs1⟩ hp1) (Ec.hm ⟨hf1, hs1⟩))
           (repeat (first | rw [if_pos (by omega)] | rw [if_neg (by omega)]))
           all_goals (first | rfl | omega))
        | (refine qI ?_ (k _ hI Hm.rf)
           (repeat (first | rw [if_pos (by omega)] | rw [if_neg (by omega)]))
           all_goals (first | rfl | omega))
        | (exfalso; omega)
      · first
        | (refine qI ?_ (k _ (hI.c ⟨hf1, hs1⟩ hp1) (Ec.hm ⟨hf1, hs1⟩))
           (repeat (first | rw [if_pos (by omega)] | rw [if_neg (by omega)]))
           all_goals (first | rfl | omega))
        | (refine qI ?_ (k _ hI Hm.rf)
           (repeat (first | rw [if_pos (by omega)] | rw [if_neg (by omega)]))
           all_goals (first | rfl | omega))
        | (exfalso; omega)
theorem m_parted {E : E3} {Q : Q3} {M : M3} {x1 x2 : Int} (hI : Inv M) (hx1 : -2147483648 ≤ x1 ∧ x1 ≤ 2147483647) (hx2 : -2147483648 ≤ x2 ∧ x2 ≤ 2147483647) (k : ∀ (N : M3), Inv N → Q (some (vI (a_parted M x1 x2))) N) : C3 E YX12_parted [vR 44 0, vI x1, vI x2] M Q := kX12_parted ⟨hI.2.2, hI.1.1.okA, hx1, hx2⟩ fun N _ e r => k N (hI.m e r)
theorem a_parted_q {M N : M3} (h : Hm M N) (x1 x2 : Int) : a_parted N x1 x2 = a_parted M x1 x2 := by unfold a_parted; simp only [mParted_q h]
theorem p_parted {E : E3} {M : M3} {x1 x2 : Int} (hI : Inv M) (hx1 : -2147483648 ≤ x1 ∧ x1 ≤ 2147483647) (hx2 : -2147483648 ≤ x2 ∧ x2 ≤ 2147483647) : C3 E YX11_parted [vR 0 0, vI x1, vI x2] M (P2 E YX12_parted [vR 44 0, vI x1, vI x2]) :=
  c_parted hI hx1 hx2 (fun N hN hq => p2I (m_parted hN hx1 hx2 (fun K hK => r2I (svI (a_parted_q hq x1 x2)) hK)))
def a_unlike (M : M3) (x1 : Int) : Int := if 0 ≤ x1 ∧ x1 ≤ 3 then mUof M x1 else -2
theorem c_unlike {E : E3} {Q : Q3} {M : M3} {x1 : Int} (hI : Inv M) (hx1 : -2147483648 ≤ x1 ∧ x1 ≤ 2147483647) (k : Q (some (vI (a_unlike M x1))) M) : C3 E YX11_unlike [vR 0 0, vI x1] M Q := by
  refine c3_rm fun hM => ?_
  skip
  unfold a_unlike at k
  refine sX11_unlike ?_
  refine ⟨?_, ?_⟩
  · first | omega | exact ⟨hI.1, by omega⟩
  refine ⟨fun c1 => ?_, fun c1 => ?_⟩
  · first
    | (refine qI ?_ (k)
       (repeat (first | rw [if_pos (by omega)] | rw [if_neg (by omega)]))
       all_goals (first | rfl | omega))
    | (exfalso; omega)
  · refine ⟨?_, ?_⟩
    · first | omega | exact ⟨hI.1, by omega⟩
    first
    | (refine qI ?_ (k)
       (repeat (first | rw [if_pos (by omega)] | rw [if_neg (by omega)]))
       all_goals (first | rfl | omega))
    | (exfalso; omega)
theorem m_unlike {E : E3} {Q : Q3} {M : M3} {x1 : Int} (hI : Inv M) (hx1 : -2147483648 ≤ x1 ∧ x1 ≤ 2147483647) (k : ∀ (N : M3), Inv N → Q (some (vI (a_unlike M x1))) N) : C3 E YX12_unlike [vR 44 0, vI x1] M Q := by
  refine c3_rm fun hM => ?_
  skip
  unfold a_unlike at k
  refine sX12_unlike ?_
  refine ⟨?_, ?_⟩
  · first | omega | exact ⟨hI.2.2, hI.1.1.okA, by omega⟩
  refine ⟨fun c1 => ?_, fun c1 => ?_⟩
  · first
    | (refine qI ?_ (k _ (hI.m he1 hp1))
       (repeat (first | rw [if_pos (by omega)] | rw [if_neg (by omega)]))
       all_goals (first | rfl | omega))
    | (refine qI ?_ (k _ hI)
       (repeat (first | rw [if_pos (by omega)] | rw [if_neg (by omega)]))
       all_goals (first | rfl | omega))
    | (exfalso; omega)
  · refine ⟨?_, ?_⟩
    · first | omega | exact ⟨hI.2.2, hI.1.1.okA, by omega⟩
    intro N1 hN1 he1 hp1
    first
    | (refine qI ?_ (k _ (hI.m he1 hp1))
       (repeat (first | rw [if_pos (by omega)] | rw [if_neg (by omega)]))
       all_goals (first | rfl | omega))
    | (refine qI ?_ (k _ hI)
       (repeat (first | rw [if_pos (by omega)] | rw [if_neg (by omega)]))
       all_goals (first | rfl | omega))
    | (exfalso; omega)
theorem p_unlike {E : E3} {M : M3} {x1 : Int} (hI : Inv M) (hx1 : -2147483648 ≤ x1 ∧ x1 ≤ 2147483647) : C3 E YX11_unlike [vR 0 0, vI x1] M (P2 E YX12_unlike [vR 44 0, vI x1]) :=
  c_unlike hI hx1 (p2I (m_unlike hI hx1 (fun K hK => r2I rfl hK)))
def a_proves (M : M3) (x1 : Int) : Int := if 0 ≤ x1 ∧ x1 ≤ 3 then mPrv M x1 else -2
theorem c_proves {E : E3} {Q : Q3} {M : M3} {x1 : Int} (hI : Inv M) (hx1 : -2147483648 ≤ x1 ∧ x1 ≤ 2147483647) (k : Q (some (vI (a_proves M x1))) M) : C3 E YX11_proves [vR 0 0, vI x1] M Q := by
  refine c3_rm fun hM => ?_
  skip
  unfold a_proves at k
  refine sX11_proves ?_
  refine ⟨?_, ?_⟩
  · first | omega | exact ⟨hI.1, by omega⟩
  refine ⟨fun c1 => ?_, fun c1 => ?_⟩
  · first
    | (refine qI ?_ (k)
       (repeat (first | rw [if_pos (by omega)] | rw [if_neg (by omega)]))
       all_goals (first | rfl | omega))
    | (exfalso; omega)
  · refine ⟨?_, ?_⟩
    · first | omega | exact ⟨hI.1, by omega⟩
    first
    | (refine qI ?_ (k)
       (repeat (first | rw [if_pos (by omega)] | rw [if_neg (by omega)]))
       all_goals (first | rfl | omega))
    | (exfalso; omega)
theorem m_proves {E : E3} {Q : Q3} {M : M3} {x1 : Int} (hI : Inv M) (hx1 : -2147483648 ≤ x1 ∧ x1 ≤ 2147483647) (k : ∀ (N : M3), Inv N → Q (some (vI (a_proves M x1))) N) : C3 E YX12_proves [vR 44 0, vI x1] M Q := kX12_proves ⟨hI.2.2, hI.1.1.okA, hx1⟩ fun N _ e r => k N (hI.m e r)
theorem p_proves {E : E3} {M : M3} {x1 : Int} (hI : Inv M) (hx1 : -2147483648 ≤ x1 ∧ x1 ≤ 2147483647) : C3 E YX11_proves [vR 0 0, vI x1] M (P2 E YX12_proves [vR 44 0, vI x1]) :=
  c_proves hI hx1 (p2I (m_proves hI hx1 (fun K hK => r2I rfl hK)))
def a_ripe (M : M3) (x1 x2 x3 : Int) : Int := if (1 ≤ x1 ∧ x1 ≤ 30) ∧ (0 ≤ x2 ∧ x2 ≤ 399) ∧ (0 ≤ x3 ∧ x3 ≤ 399) ∧ x2 ≤ x3 then mRp M x1 x2 x3 else -2
theorem c_ripe {E : E3} {Q : Q3} {M : M3} {x1 x2 x3 : Int} (hI : Inv M) (hx1 : -2147483648 ≤ x1 ∧ x1 ≤ 2147483647) (hx2 : -2147483648 ≤ x2 ∧ x2 ≤ 2147483647) (hx3 : -2147483648 ≤ x3 ∧ x3 ≤ 2147483647) (k : ∀ (N : M3), Inv N → Hm M N → Q (some (vI (a_ripe M x1 x2 x3))) N) : C3 E YX11_ripe [vR 0 0, vI x1, vI x2, vI x3] M Q := by
  refine c3_rm fun hM => ?_
  skip
  unfold a_ripe at k
  refine sX11_ripe ?_
  refine ⟨?_, ?_⟩
  · first | omega | exact ⟨hI.1, by omega⟩
  refine ⟨fun c1 => ?_, fun c1 => ?_⟩
  · first
    | (refine qI ?_ (k _ (hI.s (Es.fr hf1 (by decide)) (hI.2.1.fr hf1 (by decide)) (hI.2.2.fr hf1 (by decide))) (Hm.of hf1 (by decide)))
       (repeat (first | rw [if_pos (by omega)] | rw [if_neg (by omega)]))
       all_goals (first | rfl | omega))
    | (refine qI ?_ (k _ hI Hm.rf)
       (repeat (first | rw [if_pos (by omega)] | rw [if_neg (by omega)]))
       all_goals (first | rfl | omega))
    | (exfalso; omega)
  · refine ⟨?_, ?_⟩
    · first | omega | exact ⟨hI.1, by omega⟩
    refine ⟨fun c2 => ?_, fun c2 => ?_⟩
    · first
      | (refine qI ?_ (k _ (hI.s (Es.fr hf1 (by decide)) (hI.2.1.fr hf1 (by decide)) (hI.2.2.fr hf1 (by decide))) (Hm.of hf1 (by decide)))
         (repeat (first | rw [if_pos (by omega)] | rw [if_neg (by omega)]))
         all_goals (first | rfl | omega))
      | (refine qI ?_ (k _ hI Hm.rf)
         (repeat (first | rw [if_pos (by omega)] | rw [if_neg (by omega)]))
         all_goals (first | rfl | omega))
      | (exfalso; omega)
    · refine ⟨?_, ?_⟩
      · first | omega | exact ⟨hI.1, by omega⟩
      refine ⟨fun c3 => ?_, fun c3 => ?_⟩
      · first
        | (refine qI ?_ (k _ (hI.s (Es.fr hf1 (by decide)) (hI.2.1.fr hf1 (by decide)) (hI.2.2.fr hf1 (by decide))) (Hm.of hf1 (by decide)))
           (repeat (first | rw [if_pos (by omega)] | rw [if_neg (by omega)]))
           all_goals (first | rfl | omega))
        | (refine qI ?_ (k _ hI Hm.rf)
           (repeat (first | rw [if_pos (by omega)] | rw [if_neg (by omega)]))
           all_goals (first | rfl | omega))
        | (exfalso; omega)
      · refine ⟨?_, ?_, ?_⟩
        · first | omega | exact ⟨hI.1, by omega⟩
        · first | omega | exact ⟨hI.1, by omega⟩
        refine ⟨fun c4 => ?_, fun c4 => ?_⟩
        · refine ⟨?_, ?_⟩
          · first | omega | exact ⟨hI.1, by omega⟩
          intro N1 hN1 hf1 hp1
          first
          | (refine qI ?_ (k _ (hI.s (Es.fr hf1 (by decide)) (hI.2.1.fr hf1 (by decide)) (hI.2.2.fr hf1 (by decide))) (Hm.of hf1 (by decide)))
             (repeat (first | rw [if_pos (by omega)] | rw [if_neg (by omega)]))
             all_goals (first | rfl | omega))
          | (refine qI ?_ (k _ hI Hm.rf)
             (repeat (first | rw [if_pos (by omega)] | rw [if_neg (by omega)]))
             all_goals (first | rfl | omega))
          | (exfalso; omega)
        · first
          | (refine qI ?_ (k _ (hI.s (Es.fr hf1 (by decide)) (hI.2.1.fr hf1 (by decide)) (hI.2.2.fr hf1 (by decide))) (Hm.of hf1 (by decide)))
             (repeat (first | rw [if_pos (by omega)] | rw [if_neg (by omega)]))
             all_goals (first | rfl | omega))
          | (refine qI ?_ (k _ hI Hm.rf)
             (repeat (first | rw [if_pos (by omega)] | rw [if_neg (by omega)]))
             all_goals (first | rfl | omega))
          | (exfalso; omega)
theorem m_ripe {E : E3} {Q : Q3} {M : M3} {x1 x2 x3 : Int} (hI : Inv M) (hx1 : -2147483648 ≤ x1 ∧ x1 ≤ 2147483647) (hx2 : -2147483648 ≤ x2 ∧ x2 ≤ 2147483647) (hx3 : -2147483648 ≤ x3 ∧ x3 ≤ 2147483647) (k : ∀ (N : M3), Inv N → Q (some (vI (a_ripe M x1 x2 x3))) N) : C3 E YX12_ripe [vR 44 0, vI x1, vI x2, vI x3] M Q := kX12_ripe ⟨hI.2.2, hI.1.1.okA, ⟨hI.1.1.nowr.1, Int.le_trans hI.1.1.nowr.2 hI.1.1.1.2.2.1.2⟩, hx1, hx2, hx3⟩ fun N _ e r => k N (hI.m e r)
theorem a_ripe_q {M N : M3} (h : Hm M N) (x1 x2 x3 : Int) : a_ripe N x1 x2 x3 = a_ripe M x1 x2 x3 := by unfold a_ripe; simp only [mRp_q h]
theorem p_ripe {E : E3} {M : M3} {x1 x2 x3 : Int} (hI : Inv M) (hx1 : -2147483648 ≤ x1 ∧ x1 ≤ 2147483647) (hx2 : -2147483648 ≤ x2 ∧ x2 ≤ 2147483647) (hx3 : -2147483648 ≤ x3 ∧ x3 ≤ 2147483647) : C3 E YX11_ripe [vR 0 0, vI x1, vI x2, vI x3] M (P2 E YX12_ripe [vR 44 0, vI x1, vI x2, vI x3]) :=
  c_ripe hI hx1 hx2 hx3 (fun N hN hq => p2I (m_ripe hN hx1 hx2 hx3 (fun K hK => r2I (svI (a_ripe_q hq x1 x2 x3)) hK)))
def a_ready (M : M3) (x1 : Int) : Int := if -1 ≤ x1 ∧ x1 ≤ 5 then mRdy M x1 0 else -2
theorem c_ready {E : E3} {Q : Q3} {M : M3} {x1 : Int} (hI : Inv M) (hx1 : -2147483648 ≤ x1 ∧ x1 ≤ 2147483647) (k : ∀ (N : M3), Inv N → Hm M N → Q (some (vI (a_ready M x1))) N) : C3 E YX11_ready [vR 0 0, vI x1] M Q := by
  refine c3_rm fun hM => ?_
  skip
  unfold a_ready at k
  refine sX11_ready ?_
  refine ⟨?_, ?_⟩
  · first | omega | exact ⟨hI.2.1, hI.1.1, by omega⟩
  refine ⟨fun c1 => ?_, fun c1 => ?_⟩
  · refine ⟨?_, ?_⟩
    · first | omega | exact ⟨hI.2.1, hI.1.1, by omega⟩
    intro N1 hN1 hf1 hs1 hp1
    first
    | (refine qI ?_ (k _ (hI.c ⟨hf1, hs1⟩ hp1) (Ec.hm ⟨hf1, hs1⟩))
       (repeat (first | rw [if_pos (by omega)] | rw [if_neg (by omega)]))
       all_goals (first | rfl | omega))
    | (refine qI ?_ (k _ hI Hm.rf)
       (repeat (first | rw [if_pos (by omega)] | rw [if_neg (by omega)]))
       all_goals (first | rfl | omega))
    | (exfalso; omega)
  · refine ⟨?_, ?_⟩
    · first | omega | exact ⟨hI.2.1, hI.1.1, by omega⟩
    refine ⟨fun c2 => ?_, fun c2 => ?_⟩
    · first
      | (refine qI ?_ (k _ (hI.c ⟨hf1, hs1⟩ hp1) (Ec.hm ⟨hf1, hs1⟩))
         (repeat (first | rw [if_pos (by omega)] | rw [if_neg (by omega)]))
         all_goals (first | rfl | omega))
      | (refine qI ?_ (k _ hI Hm.rf)
         (repeat (first | rw [if_pos (by omega)] | rw [if_neg (by omega)]))
         all_goals (first | rfl | omega))
      | (exfalso; omega)
    · refine ⟨?_, ?_⟩
      · first | omega | exact ⟨hI.2.1, hI.1.1, by omega⟩
      intro N1 hN1 hf1 hs1 hp1
      first
      | (refine qI ?_ (k _ (hI.c ⟨hf1, hs1⟩ hp1) (Ec.hm ⟨hf1, hs1⟩))
         (repeat (first | rw [if_pos (by omega)] | rw [if_neg (by omega)]))
         all_goals (first | rfl | omega))
      | (refine qI ?_ (k _ hI Hm.rf)
         (repeat (first | rw [if_pos (by omega)] | rw [if_neg (by omega)]))
         all_goals (first | rfl | omega))
      | (exfalso; omega)
theorem m_ready {E : E3} {Q : Q3} {M : M3} {x1 : Int} (hI : Inv M) (hx1 : -2147483648 ≤ x1 ∧ x1 ≤ 2147483647) (k : ∀ (N : M3), Inv N → Q (some (vI (a_ready M x1))) N) : C3 E YX12_ready [vR 44 0, vI x1] M Q := by
  refine c3_rm fun hM => ?_
  skip
  unfold a_ready at k
  refine sX12_ready ?_
  refine ⟨?_, ?_⟩
  · first | omega | exact ⟨hI.2.2, hI.1.1.okP, by omega, by omega⟩
  refine ⟨fun c1 => ?_, fun c1 => ?_⟩
  · first
    | (refine qI ?_ (k _ (hI.m he1 hp1))
       (repeat (first | rw [if_pos (by omega)] | rw [if_neg (by omega)]))
       all_goals (first | rfl | omega))
    | (refine qI ?_ (k _ hI)
       (repeat (first | rw [if_pos (by omega)] | rw [if_neg (by omega)]))
       all_goals (first | rfl | omega))
    | (exfalso; omega)
  · refine ⟨?_, ?_⟩
    · first | omega | exact ⟨hI.2.2, hI.1.1.okP, by omega, by omega⟩
    intro N1 hN1 he1 hp1
    first
    | (refine qI ?_ (k _ (hI.m he1 hp1))
       (repeat (first | rw [if_pos (by omega)] | rw [if_neg (by omega)]))
       all_goals (first | rfl | omega))
    | (refine qI ?_ (k _ hI)
       (repeat (first | rw [if_pos (by omega)] | rw [if_neg (by omega)]))
       all_goals (first | rfl | omega))
    | (exfalso; omega)
theorem a_ready_q {M N : M3} (h : Hm M N) (x1 : Int) : a_ready N x1 = a_ready M x1 := by unfold a_ready; simp only [mRdy_h h]
theorem p_ready {E : E3} {M : M3} {x1 : Int} (hI : Inv M) (hx1 : -2147483648 ≤ x1 ∧ x1 ≤ 2147483647) : C3 E YX11_ready [vR 0 0, vI x1] M (P2 E YX12_ready [vR 44 0, vI x1]) :=
  c_ready hI hx1 (fun N hN hq => p2I (m_ready hN hx1 (fun K hK => r2I (svI (a_ready_q hq x1)) hK)))
def a_changed (M : M3) (x1 : Int) : Int := if 0 ≤ x1 ∧ x1 ≤ 5 then mChd M x1 else -2
theorem c_changed {E : E3} {Q : Q3} {M : M3} {x1 : Int} (hI : Inv M) (hx1 : -2147483648 ≤ x1 ∧ x1 ≤ 2147483647) (k : Q (some (vI (a_changed M x1))) M) : C3 E YX11_changed [vR 0 0, vI x1] M Q := by
  refine c3_rm fun hM => ?_
  skip
  unfold a_changed at k
  refine sX11_changed ?_
  refine ⟨?_, ?_⟩
  · first | omega | exact ⟨hI.1.1, by omega⟩
  refine ⟨fun c1 => ?_, fun c1 => ?_⟩
  · first
    | (refine qI ?_ (k)
       (repeat (first | rw [if_pos (by omega)] | rw [if_neg (by omega)]))
       all_goals (first | rfl | omega))
    | (exfalso; omega)
  · refine ⟨?_, ?_⟩
    · first | omega | exact ⟨hI.1.1, by omega⟩
    first
    | (refine qI ?_ (k)
       (repeat (first | rw [if_pos (by omega)] | rw [if_neg (by omega)]))
       all_goals (first | rfl | omega))
    | (exfalso; omega)
theorem m_changed {E : E3} {Q : Q3} {M : M3} {x1 : Int} (hI : Inv M) (hx1 : -2147483648 ≤ x1 ∧ x1 ≤ 2147483647) (k : ∀ (N : M3), Inv N → Q (some (vI (a_changed M x1))) N) : C3 E YX12_changed [vR 44 0, vI x1] M Q := kX12_changed ⟨hI.1.1.2.2.1.2.1, hx1⟩ (k M hI)
theorem p_changed {E : E3} {M : M3} {x1 : Int} (hI : Inv M) (hx1 : -2147483648 ≤ x1 ∧ x1 ≤ 2147483647) : C3 E YX11_changed [vR 0 0, vI x1] M (P2 E YX12_changed [vR 44 0, vI x1]) :=
  c_changed hI hx1 (p2I (m_changed hI hx1 (fun K hK => r2I rfl hK)))
def a_chosen (M : M3) (x1 : Int) : Int := if 0 ≤ x1 ∧ x1 ≤ 5 then mChs M x1 else -2
theorem c_chosen {E : E3} {Q : Q3} {M : M3} {x1 : Int} (hI : Inv M) (hx1 : -2147483648 ≤ x1 ∧ x1 ≤ 2147483647) (k : Q (some (vI (a_chosen M x1))) M) : C3 E YX11_chosen [vR 0 0, vI x1] M Q := by
  refine c3_rm fun hM => ?_
  skip
  unfold a_chosen at k
  refine sX11_chosen ?_
  refine ⟨?_, ?_⟩
  · first | omega | exact ⟨hI.1.1, by omega⟩
  refine ⟨fun c1 => ?_, fun c1 => ?_⟩
  · first
    | (refine qI ?_ (k)
       (repeat (first | rw [if_pos (by omega)] | rw [if_neg (by omega)]))
       all_goals (first | rfl | omega))
    | (exfalso; omega)
  · refine ⟨?_, ?_⟩
    · first | omega | exact ⟨hI.1.1, by omega⟩
    first
    | (refine qI ?_ (k)
       (repeat (first | rw [if_pos (by omega)] | rw [if_neg (by omega)]))
       all_goals (first | rfl | omega))
    | (exfalso; omega)
theorem m_chosen {E : E3} {Q : Q3} {M : M3} {x1 : Int} (hI : Inv M) (hx1 : -2147483648 ≤ x1 ∧ x1 ≤ 2147483647) (k : ∀ (N : M3), Inv N → Q (some (vI (a_chosen M x1))) N) : C3 E YX12_chosen [vR 44 0, vI x1] M Q := by
  refine c3_rm fun hM => ?_
  have hc2 := hI.1.1.2.2.1.2.1
  unfold a_chosen at k
  refine sX12_chosen ?_
  refine ⟨?_, ?_⟩
  · first | omega
  refine ⟨fun c1 => ?_, fun c1 => ?_⟩
  · first
    | (refine qI ?_ (k _ (hI.m he1 hp1))
       (repeat (first | rw [if_pos (by omega)] | rw [if_neg (by omega)]))
       all_goals (first | rfl | omega))
    | (refine qI ?_ (k _ hI)
       (repeat (first | rw [if_pos (by omega)] | rw [if_neg (by omega)]))
       all_goals (first | rfl | omega))
    | (exfalso; omega)
  · refine ⟨?_, ?_⟩
    · first | omega
    first
    | (refine qI ?_ (k _ (hI.m he1 hp1))
       (repeat (first | rw [if_pos (by omega)] | rw [if_neg (by omega)]))
       all_goals (first | rfl | omega))
    | (refine qI ?_ (k _ hI)
       (repeat (first | rw [if_pos (by omega)] | rw [if_neg (by omega)]))
       all_goals (first | rfl | omega))
    | (exfalso; omega)
theorem p_chosen {E : E3} {M : M3} {x1 : Int} (hI : Inv M) (hx1 : -2147483648 ≤ x1 ∧ x1 ≤ 2147483647) : C3 E YX11_chosen [vR 0 0, vI x1] M (P2 E YX12_chosen [vR 44 0, vI x1]) :=
  c_chosen hI hx1 (p2I (m_chosen hI hx1 (fun K hK => r2I rfl hK)))
