/-! CLASS: a form is handed in -/
theorem LwC.fr {M N : M3} {L : List Nat} (h : LwC M) (hf : ∀ q : Nat, q ∉ L → N q = M q) (hd : ∀ q ∈ ([3, 4, 5, 6, 7, 8, 9] : List Nat), q ∉ L) : LwC N :=
  h.same (fun j _ => by rw [hf 3 (hd 3 (by decide))]) (fun q hq => hf q (hd q (by
    have : ∀ x ∈ ([4, 5, 6, 7, 8, 9] : List Nat), x ∈ ([3, 4, 5, 6, 7, 8, 9] : List Nat) := by decide
    exact this q hq)))
theorem RdC.fr {M N : M3} {L : List Nat} (h : RdC M) (hf : ∀ q : Nat, q ∉ L → N q = M q) (hd : ∀ q ∈ ([44, 52, 53, 54, 55] : List Nat), q ∉ L) : RdC N :=
  h.same (fun j _ => by rw [hf 44 (hd 44 (by decide))]) (fun q hq => hf q (hd q (by
    have : ∀ x ∈ ([52, 53, 54, 55] : List Nat), x ∈ ([44, 52, 53, 54, 55] : List Nat) := by decide
    exact this q hq)))
/-- an answer out of item q of a sheet -/
def hvV (M : M3) (s q : Int) : Int := if q < M 42 s 1 ∧ 0 ≤ M 43 s q ∧ M 43 s q ≤ 99 then M 43 s q else -1
def hn1 (M : M3) (x1 : Int) : M3 := up3 (up3 (up3 (up3 (up3 (up3 (up3 (up3 M 18 (M 14 0 0) 0 x1) 18 (M 14 0 0) 1 (M 13 x1 1)) 18 (M 14 0 0) 3 (M 13 x1 2)) 18 (M 14 0 0) 2 (M 2 0 0)) 18 (M 14 0 0) 5 (-1)) 18 (M 14 0 0) 6 (-1)) 18 (M 14 0 0) 8 (-1)) 18 (M 14 0 0) 7 0
def hn2 (M : M3) (x1 s : Int) : M3 := ws1 (hn1 M x1) 19 (M 14 0 0) 20 (fun _ => true) (hvV M s)
def hn3 (M : M3) (x1 s : Int) : M3 := up3 (up3 (hn2 M x1 s) 18 (M 14 0 0) 9 (cRts (hn2 M x1 s) (M 14 0 0))) 18 (M 14 0 0) 10 (cLck (hn2 M x1 s) (M 14 0 0))
def hnM (M : M3) (x1 s : Int) : M3 := up3 (hn3 M x1 s) 14 0 0 (M 14 0 0 + 1)
theorem hn1_fr (M : M3) (x1 : Int) : ∀ q : Nat, q ∉ ([18] : List Nat) → hn1 M x1 q = M q := fr_up (fr_up (fr_up (fr_up (fr_up (fr_up (fr_up (fr_up fr_rf (by decide)) (by decide)) (by decide)) (by decide)) (by decide)) (by decide)) (by decide)) (by decide)
theorem lX2_handIn {E : E3} {Q : Q3} {M0 : M3} {i2 i3 : Int} (hL : LwC M0) (hz : (0 ≤ i2 ∧ i2 < 4) ∧ (0 ≤ i3 ∧ i3 < 60) ∧ (0 ≤ M0 42 i2 1 ∧ M0 42 i2 1 ≤ 40) ∧ (0 ≤ M0 18 i3 2 ∧ M0 18 i3 2 ≤ 399) ∧ (0 ≤ M0 14 0 0 ∧ M0 14 0 0 < 60)) (k : ∀ (N : M3), RM3 N → LwC N → poWg (ws1 M0 19 i3 20 (fun _ => true) (hvV M0 i2)) i3 N → Q (some (vI (M0 14 0 0))) (up3 N 14 0 0 (M0 14 0 0 + 1))) : ∀ (n : Nat) (x4 : Int) (M : M3), 0 ≤ x4 → x4 + n = 20 → (∀ q : Nat, q ∉ ([19] : List Nat) → M q = M0 q) → M = ws1 M0 19 i3 x4 (fun _ => true) (hvV M0 i2) → G3 E YX2_handIn Q 79 [(0, vR 14 0), (2, vR 42 i2), (3, vR 18 i3), (4, vI x4)] [] M := by
  intro n
  induction n with
  | zero =>
    intro x4 M h1 h2 h3 h4
    refine g3_rm fun hM => ?_
    obtain ⟨z1, z2, z3, z4, z5⟩ := hz
    have e14 : M 14 = M0 14 := h3 14 (by decide)
    have e18 : M 18 = M0 18 := h3 18 (by decide)
    have e42 : M 42 = M0 42 := h3 42 (by decide)
    have e43 : M 43 = M0 43 := h3 43 (by decide)
    have r43 := hM 43 i2 x4
    rw [e43] at r43
    have hLM : LwC M := hL.fr h3 (by decide)
    refine sX2_handIn_79 ?_
    simp only [e14, e18, e42, e43]
    refine ⟨?_, ?_⟩
    · first | omega | exact ⟨hLM, z2, z4⟩ | exact ⟨by omega, by omega, by omega⟩ | (exfalso; omega)
    refine ⟨fun c1 => ?_, fun c1 => ?_⟩
    · refine ⟨?_, ?_⟩
      · first | omega | exact ⟨hLM, z2, z4⟩ | exact ⟨by omega, by omega, by omega⟩ | (exfalso; omega)
      intro N1 hN1 hf1 hs1 hp1
      refine ⟨?_, ?_⟩
      · first | omega | exact ⟨hLM, z2, z4⟩ | exact ⟨by omega, by omega, by omega⟩ | (exfalso; omega)
      first
        | (exfalso; omega)
        | (rw [show M0 14 0 0 + 1 - 1 = M0 14 0 0 by omega]
           have e := hp1.2
           rw [h4, show x4 = 20 by omega] at e
           exact k N1 hN1 hp1.1 e)
    · refine ⟨?_, ?_⟩
      · first | omega | exact ⟨hLM, z2, z4⟩ | exact ⟨by omega, by omega, by omega⟩ | (exfalso; omega)
      refine ⟨fun c2 => ?_, fun c2 => ?_⟩
      · refine ⟨?_, ?_, ?_⟩
        · first | omega | exact ⟨hLM, z2, z4⟩ | exact ⟨by omega, by omega, by omega⟩ | (exfalso; omega)
        · first | omega | exact ⟨hLM, z2, z4⟩ | exact ⟨by omega, by omega, by omega⟩ | (exfalso; omega)
        refine ⟨fun c3 => ?_, fun c3 => ?_⟩
        · refine ⟨?_, ?_⟩
          · first | omega | exact ⟨hLM, z2, z4⟩ | exact ⟨by omega, by omega, by omega⟩ | (exfalso; omega)
          exfalso; omega
        · refine ⟨?_, ?_⟩
          · first | omega | exact ⟨hLM, z2, z4⟩ | exact ⟨by omega, by omega, by omega⟩ | (exfalso; omega)
          exfalso; omega
      · refine ⟨?_, ?_, ?_, ?_⟩
        · first | omega | exact ⟨hLM, z2, z4⟩ | exact ⟨by omega, by omega, by omega⟩ | (exfalso; omega)
        · first | omega | exact ⟨hLM, z2, z4⟩ | exact ⟨by omega, by omega, by omega⟩ | (exfalso; omega)
        · first | omega | exact ⟨hLM, z2, z4⟩ | exact ⟨by omega, by omega, by omega⟩ | (exfalso; omega)
        refine ⟨fun c3 => ?_, fun c3 => ?_⟩
        · refine ⟨?_, ?_⟩
          · first | omega | exact ⟨hLM, z2, z4⟩ | exact ⟨by omega, by omega, by omega⟩ | (exfalso; omega)
          exfalso; omega
        · refine ⟨?_, ?_⟩
          · first | omega | exact ⟨hLM, z2, z4⟩ | exact ⟨by omega, by omega, by omega⟩ | (exfalso; omega)
          exfalso; omega
  | succ n ih =>
    intro x4 M h1 h2 h3 h4
    refine g3_rm fun hM => ?_
    obtain ⟨z1, z2, z3, z4, z5⟩ := hz
    have e14 : M 14 = M0 14 := h3 14 (by decide)
    have e18 : M 18 = M0 18 := h3 18 (by decide)
    have e42 : M 42 = M0 42 := h3 42 (by decide)
    have e43 : M 43 = M0 43 := h3 43 (by decide)
    have r43 := hM 43 i2 x4
    rw [e43] at r43
    have hLM : LwC M := hL.fr h3 (by decide)
    refine sX2_handIn_79 ?_
    simp only [e14, e18, e42, e43]
    refine ⟨?_, ?_⟩
    · first | omega | exact ⟨hLM, z2, z4⟩ | exact ⟨by omega, by omega, by omega⟩ | (exfalso; omega)
    refine ⟨fun c1 => ?_, fun c1 => ?_⟩
    · refine ⟨?_, ?_⟩
      · first | omega | exact ⟨hLM, z2, z4⟩ | exact ⟨by omega, by omega, by omega⟩ | (exfalso; omega)
      intro N1 hN1 hf1 hs1 hp1
      refine ⟨?_, ?_⟩
      · first | omega | exact ⟨hLM, z2, z4⟩ | exact ⟨by omega, by omega, by omega⟩ | (exfalso; omega)
      exfalso; omega
    · refine ⟨?_, ?_⟩
      · first | omega | exact ⟨hLM, z2, z4⟩ | exact ⟨by omega, by omega, by omega⟩ | (exfalso; omega)
      refine ⟨fun c2 => ?_, fun c2 => ?_⟩
      · refine ⟨?_, ?_, ?_⟩
        · first | omega | exact ⟨hLM, z2, z4⟩ | exact ⟨by omega, by omega, by omega⟩ | (exfalso; omega)
        · first | omega | exact ⟨hLM, z2, z4⟩ | exact ⟨by omega, by omega, by omega⟩ | (exfalso; omega)
        refine ⟨fun c3 => ?_, fun c3 => ?_⟩
        · refine ⟨?_, ?_⟩
          · first | omega | exact ⟨hLM, z2, z4⟩ | exact ⟨by omega, by omega, by omega⟩ | (exfalso; omega)
          first
            | (exfalso; omega)
            | (refine ih _ _ (by omega) (by omega) (fr_up h3 (by decide)) ?_
               rw [← ws1_t h1 rfl rfl, h4]
               congr 1
               unfold hvV
               first
                 | (rw [if_pos (by omega)])
                 | (rw [if_neg (by omega)]))
        · refine ⟨?_, ?_⟩
          · first | omega | exact ⟨hLM, z2, z4⟩ | exact ⟨by omega, by omega, by omega⟩ | (exfalso; omega)
          first
            | (exfalso; omega)
            | (refine ih _ _ (by omega) (by omega) (fr_up h3 (by decide)) ?_
               rw [← ws1_t h1 rfl rfl, h4]
               congr 1
               unfold hvV
               first
                 | (rw [if_pos (by omega)])
                 | (rw [if_neg (by omega)]))
      · refine ⟨?_, ?_, ?_, ?_⟩
        · first | omega | exact ⟨hLM, z2, z4⟩ | exact ⟨by omega, by omega, by omega⟩ | (exfalso; omega)
        · first | omega | exact ⟨hLM, z2, z4⟩ | exact ⟨by omega, by omega, by omega⟩ | (exfalso; omega)
        · first | omega | exact ⟨hLM, z2, z4⟩ | exact ⟨by omega, by omega, by omega⟩ | (exfalso; omega)
        refine ⟨fun c3 => ?_, fun c3 => ?_⟩
        · refine ⟨?_, ?_⟩
          · first | omega | exact ⟨hLM, z2, z4⟩ | exact ⟨by omega, by omega, by omega⟩ | (exfalso; omega)
          first
            | (exfalso; omega)
            | (refine ih _ _ (by omega) (by omega) (fr_up h3 (by decide)) ?_
               rw [← ws1_t h1 rfl rfl, h4]
               congr 1
               unfold hvV
               first
                 | (rw [if_pos (by omega)])
                 | (rw [if_neg (by omega)]))
        · refine ⟨?_, ?_⟩
          · first | omega | exact ⟨hLM, z2, z4⟩ | exact ⟨by omega, by omega, by omega⟩ | (exfalso; omega)
          first
            | (exfalso; omega)
            | (refine ih _ _ (by omega) (by omega) (fr_up h3 (by decide)) ?_
               rw [← ws1_t h1 rfl rfl, h4]
               congr 1
               unfold hvV
               first
                 | (rw [if_pos (by omega)])
                 | (rw [if_neg (by omega)]))
theorem kX2_handIn {E : E3} {Q : Q3} {M : M3} {x1 i2 : Int} (h : LwC M ∧ (0 ≤ M 14 0 0 ∧ M 14 0 0 < 60) ∧ (0 ≤ x1 ∧ x1 < 48) ∧ (0 ≤ i2 ∧ i2 < 4) ∧ (0 ≤ M 42 i2 1 ∧ M 42 i2 1 ≤ 40) ∧ (0 ≤ M 2 0 0 ∧ M 2 0 0 ≤ 399)) (k : ∀ (N : M3), RM3 N → LwC N → Ec (hnM M x1 i2) N → Q (some (vI (M 14 0 0))) N) : C3 E YX2_handIn [vR 14 0, vI x1, vR 42 i2] M Q := by
  refine c3_rm fun hM => ?_
  obtain ⟨hL, z1, z2, z3, z4, z5⟩ := h
  have f := hn1_fr M x1
  have e2 : hn1 M x1 18 (M 14 0 0) 2 = M 2 0 0 := by
    unfold hn1
    rw [up3_nj (by decide), up3_nj (by decide), up3_nj (by decide), up3_nj (by decide), up3_eq]
  have ev : hvV (hn1 M x1) i2 = hvV M i2 := funext fun q => by unfold hvV; rw [f 42 (by decide), f 43 (by decide)]
  refine sX2_handIn ?_
  refine ⟨?_, ?_, ?_, ?_⟩
  · omega
  · omega
  · omega
  (have g := lX2_handIn (E := E) (Q := Q) (M0 := hn1 M x1) (i2 := i2) (i3 := M 14 0 0) (hL.fr f (by decide)) ⟨z3, z1, by rw [f 42 (by decide)]; exact z4, by rw [e2]; exact z5, by rw [f 14 (by decide)]; exact z1⟩ (fun N a b c => by
    rw [f 14 (by decide)]
    rw [ev] at c
    exact k _ (a.up (by omega)) (b.up (by decide)) (Ec.up c 14 0 0 _)) 20 0 (hn1 M x1) (by omega) (by omega) fr_rf (by rw [ws1_0])
   exact g)
