/-! MODEL: a choice is taken -/
theorem and3_1 (x : Int) : and3 x 1 = 0 ∨ and3 x 1 = 1 := by
  have e : (Int32.ofInt x &&& Int32.ofInt 1).toBitVec = (Int32.ofInt x).toBitVec &&& 1#32 := rfl
  have h : (Int32.ofInt x &&& Int32.ofInt 1).toInt = ((Int32.ofInt x).toBitVec &&& 1#32).toInt := by
    rw [← e]
    rfl
  unfold and3
  rw [h, BitVec.and_one_eq_setWidth_ofBool_getLsbD]
  cases (Int32.ofInt x).toBitVec.getLsbD 0 <;> decide
abbrev tkP (bits k : Int) : Prop := and3 (shr3 bits k) 1 = 1
theorem tk_no {bits k : Int} (h : ¬ tkP bits k) : and3 (shr3 bits k) 1 = 0 := by
  rcases and3_1 (shr3 bits k) with e | e
  · exact e
  · exact absurd e h
def ones3 (b : Int) : Int := sm3 8 fun k => and3 (shr3 b k) 1
theorem ones3_rg (b : Int) : -2147483648 ≤ ones3 b ∧ ones3 b ≤ 2147483647 := by
  have h := sm3_rg (n := 8) (B := 1) (by omega) (f := fun k => and3 (shr3 b k) 1) fun k _ _ => by
    show 0 ≤ and3 (shr3 b k) 1 ∧ and3 (shr3 b k) 1 ≤ 1
    rcases and3_1 (shr3 b k) with e | e <;> omega
  unfold ones3
  omega
abbrev frP (M : M3) (p : Int) : Prop := (M 50 0 p = 0 ∨ M 50 0 p = 2) ∧ alw3 (LM3 M) (M 46 0 p) (M 44 0 0)
def preTk (M : M3) (x1 x2 x3 : Int) : Prop := (0 ≤ x1 ∧ x1 < 8) ∧ (M 75 0 x1 ≠ 0 → 0 ≤ M 76 0 x1 ∧ M 76 0 x1 < 48) ∧ (0 ≤ M 44 0 1 ∧ M 44 0 1 ≤ 48) ∧ (0 ≤ M 44 0 0 ∧ M 44 0 0 ≤ 399) ∧ (∀ p : Int, 0 ≤ p → p < M 44 0 1 → 0 ≤ M 78 0 p ∧ M 78 0 p ≤ 20) ∧ (0 ≤ M 44 0 50 ∧ M 44 0 50 ≤ 48) ∧ (-2147483648 ≤ x2 ∧ x2 ≤ 2147483647) ∧ (-2147483648 ≤ x3 ∧ x3 ≤ 2147483647)
abbrev rdC (M : M3) (p x2 x3 : Int) : Prop := frP M p ∧ M 79 0 p = 0 ∧ x2 ≤ M 78 0 p ∧ x3 ≠ 0
abbrev lnC (M : M3) (b p : Int) : Prop := frP M p ∧ M 79 0 p = 0 ∧ M 45 0 p = b
def tkM (M : M3) (x1 x2 x3 : Int) : M3 := if M 75 0 x1 = 0 then ws1 M 78 0 (M 44 0 1) (fun p => decide (lnC M (M 76 0 x1) p)) (fun p => min 20 (M 78 0 p + 2)) else if rdC M (M 76 0 x1) x2 x3 then up3 (up3 M 79 0 (M 76 0 x1) 1) 44 0 50 (M 44 0 50 + 1) else M
def poTk (M : M3) (x1 x2 x3 : Int) (N : M3) : Prop := Em (tkM M x1 x2 x3) N
theorem lX12_takes {E : E3} {Q : Q3} {M0 : M3} {x1 : Int} {x2 x3 : Int} (hz : preTk M0 x1 x2 x3) (k : ∀ (N : M3), RM3 N → Em (ws1 M0 78 0 (M0 44 0 1) (fun p => decide (lnC M0 (M0 76 0 x1) p)) (fun p => min 20 (M0 78 0 p + 2))) N → RdC N → Q none N) : ∀ (n : Nat) (x4 : Int) (M : M3), 0 ≤ x4 → x4 + n = M0 44 0 1 → RdC M → Em (ws1 M0 78 0 x4 (fun p => decide (lnC M0 (M0 76 0 x1) p)) (fun p => min 20 (M0 78 0 p + 2))) M → G3 E YX12_takes Q 63 [(0, vR 44 0), (1, vI x1), (4, vI x4)] [] M := by
  intro n
  induction n with
  | zero =>
    intro x4 M h1 h2 h3 h4
    refine g3_rm fun hM => ?_
    obtain ⟨z1, z2, z3, z4, z5, z6, z7, z8⟩ := hz
    have e50 : M 50 = M0 50 := (h4.1 50 (by decide)).trans (ws1_r (by decide))
    have e45 : M 45 = M0 45 := (h4.1 45 (by decide)).trans (ws1_r (by decide))
    have e46 : M 46 = M0 46 := (h4.1 46 (by decide)).trans (ws1_r (by decide))
    have e76 : M 76 = M0 76 := (h4.1 76 (by decide)).trans (ws1_r (by decide))
    have e79 : M 79 = M0 79 := (h4.1 79 (by decide)).trans (ws1_r (by decide))
    have e78 : M 78 0 x4 = M0 78 0 x4 := by rw [h4.1 78 (by decide)]; exact ws1_out (by omega)
    have e0 : M 44 0 0 = M0 44 0 0 := (h4.2 0 (by decide)).trans (by rw [ws1_r (by decide)])
    have e1 : M 44 0 1 = M0 44 0 1 := (h4.2 1 (by decide)).trans (by rw [ws1_r (by decide)])
    have eL : LM3 M = LM3 M0 := h4.L.trans (LM3_eq (ws1_r (by decide)) (by rw [ws1_r (by decide)]))
    refine sX12_takes_63 ?_
    simp only [e50, e45, e46, e76, e79, e78, e0, e1, eL]
    refine ⟨?_, ?_⟩
    · first | omega | exact ⟨h3, z4⟩ | (have := z5 x4 h1 (by omega); omega) | (exfalso; omega)
    refine ⟨fun c1 => ?_, fun c1 => ?_⟩
    · first
        | (exfalso; omega)
        | (rw [show x4 = M0 44 0 1 by omega] at h4
           exact k M hM h4 h3)
    · refine ⟨?_, ?_⟩
      · first | omega | exact ⟨h3, z4⟩ | (have := z5 x4 h1 (by omega); omega) | (exfalso; omega)
      refine ⟨fun c2 => ?_, fun c2 => ?_⟩
      · exfalso; omega
      · refine ⟨fun c3 => ?_, fun c3 => ?_⟩
        · exfalso; omega
        · refine ⟨?_, ?_⟩
          · first | omega | exact ⟨h3, z4⟩ | (have := z5 x4 h1 (by omega); omega) | (exfalso; omega)
          intro N1 hN1 he1 hp1
          refine ⟨fun c4 => ?_, fun c4 => ?_⟩
          · exfalso; omega
          · refine ⟨?_, ?_⟩
            · first | omega | exact ⟨h3, z4⟩ | (have := z5 x4 h1 (by omega); omega) | (exfalso; omega)
            refine ⟨fun c5 => ?_, fun c5 => ?_⟩
            · exfalso; omega
            · refine ⟨fun c6 => ?_, fun c6 => ?_⟩
              · refine ⟨?_, ?_⟩
                · first | omega | exact ⟨h3, z4⟩ | (have := z5 x4 h1 (by omega); omega) | (exfalso; omega)
                exfalso; omega
              · exfalso; omega
  | succ n ih =>
    intro x4 M h1 h2 h3 h4
    refine g3_rm fun hM => ?_
    obtain ⟨z1, z2, z3, z4, z5, z6, z7, z8⟩ := hz
    have e50 : M 50 = M0 50 := (h4.1 50 (by decide)).trans (ws1_r (by decide))
    have e45 : M 45 = M0 45 := (h4.1 45 (by decide)).trans (ws1_r (by decide))
    have e46 : M 46 = M0 46 := (h4.1 46 (by decide)).trans (ws1_r (by decide))
    have e76 : M 76 = M0 76 := (h4.1 76 (by decide)).trans (ws1_r (by decide))
    have e79 : M 79 = M0 79 := (h4.1 79 (by decide)).trans (ws1_r (by decide))
    have e78 : M 78 0 x4 = M0 78 0 x4 := by rw [h4.1 78 (by decide)]; exact ws1_out (by omega)
    have e0 : M 44 0 0 = M0 44 0 0 := (h4.2 0 (by decide)).trans (by rw [ws1_r (by decide)])
    have e1 : M 44 0 1 = M0 44 0 1 := (h4.2 1 (by decide)).trans (by rw [ws1_r (by decide)])
    have eL : LM3 M = LM3 M0 := h4.L.trans (LM3_eq (ws1_r (by decide)) (by rw [ws1_r (by decide)]))
    refine sX12_takes_63 ?_
    simp only [e50, e45, e46, e76, e79, e78, e0, e1, eL]
    refine ⟨?_, ?_⟩
    · first | omega | exact ⟨h3, z4⟩ | (have := z5 x4 h1 (by omega); omega) | (exfalso; omega)
    refine ⟨fun c1 => ?_, fun c1 => ?_⟩
    · exfalso; omega
    · refine ⟨?_, ?_⟩
      · first | omega | exact ⟨h3, z4⟩ | (have := z5 x4 h1 (by omega); omega) | (exfalso; omega)
      refine ⟨fun c2 => ?_, fun c2 => ?_⟩
      · first
          | (have hP : lnC M0 (M0 76 0 x1) x4 := ⟨⟨by assumption, by assumption⟩, by assumption, by assumption⟩
             refine ih _ _ (by omega) (by omega) (hp1.up (by decide)) ?_
             rw [← ws1_t h1 (decide_eq_true hP) rfl]
             have e9 := (Em.tr h4 he1).up 78 0 x4 (min 20 (M0 78 0 x4 + 2))
             have z9 := z5 x4 h1 (by omega)
             first
               | (rw [show min 20 (M0 78 0 x4 + 2) = M0 78 0 x4 + 2 by omega] at e9 ⊢; exact e9)
               | (rw [show min 20 (M0 78 0 x4 + 2) = 20 by omega] at e9 ⊢; exact e9))
          | (have hP : ¬ lnC M0 (M0 76 0 x1) x4 := fun z => by obtain ⟨⟨z1, z2⟩, z3, z4⟩ := z; first | contradiction | omega
             refine ih _ _ (by omega) (by omega) (by first | exact hp1 | exact h3) ?_
             rw [ws1_f (decide_eq_false hP)]
             first | exact h4 | exact Em.tr h4 he1)
          | (exfalso; omega)
      · refine ⟨fun c3 => ?_, fun c3 => ?_⟩
        · first
            | (have hP : lnC M0 (M0 76 0 x1) x4 := ⟨⟨by assumption, by assumption⟩, by assumption, by assumption⟩
               refine ih _ _ (by omega) (by omega) (hp1.up (by decide)) ?_
               rw [← ws1_t h1 (decide_eq_true hP) rfl]
               have e9 := (Em.tr h4 he1).up 78 0 x4 (min 20 (M0 78 0 x4 + 2))
               have z9 := z5 x4 h1 (by omega)
               first
                 | (rw [show min 20 (M0 78 0 x4 + 2) = M0 78 0 x4 + 2 by omega] at e9 ⊢; exact e9)
                 | (rw [show min 20 (M0 78 0 x4 + 2) = 20 by omega] at e9 ⊢; exact e9))
            | (have hP : ¬ lnC M0 (M0 76 0 x1) x4 := fun z => by obtain ⟨⟨z1, z2⟩, z3, z4⟩ := z; first | contradiction | omega
               refine ih _ _ (by omega) (by omega) (by first | exact hp1 | exact h3) ?_
               rw [ws1_f (decide_eq_false hP)]
               first | exact h4 | exact Em.tr h4 he1)
            | (exfalso; omega)
        · refine ⟨?_, ?_⟩
          · first | omega | exact ⟨h3, z4⟩ | (have := z5 x4 h1 (by omega); omega) | (exfalso; omega)
          intro N1 hN1 he1 hp1
          refine ⟨fun c4 => ?_, fun c4 => ?_⟩
          · first
              | (have hP : lnC M0 (M0 76 0 x1) x4 := ⟨⟨by assumption, by assumption⟩, by assumption, by assumption⟩
                 refine ih _ _ (by omega) (by omega) (hp1.up (by decide)) ?_
                 rw [← ws1_t h1 (decide_eq_true hP) rfl]
                 have e9 := (Em.tr h4 he1).up 78 0 x4 (min 20 (M0 78 0 x4 + 2))
                 have z9 := z5 x4 h1 (by omega)
                 first
                   | (rw [show min 20 (M0 78 0 x4 + 2) = M0 78 0 x4 + 2 by omega] at e9 ⊢; exact e9)
                   | (rw [show min 20 (M0 78 0 x4 + 2) = 20 by omega] at e9 ⊢; exact e9))
              | (have hP : ¬ lnC M0 (M0 76 0 x1) x4 := fun z => by obtain ⟨⟨z1, z2⟩, z3, z4⟩ := z; first | contradiction | omega
                 refine ih _ _ (by omega) (by omega) (by first | exact hp1 | exact h3) ?_
                 rw [ws1_f (decide_eq_false hP)]
                 first | exact h4 | exact Em.tr h4 he1)
              | (exfalso; omega)
          · refine ⟨?_, ?_⟩
            · first | omega | exact ⟨h3, z4⟩ | (have := z5 x4 h1 (by omega); omega) | (exfalso; omega)
            refine ⟨fun c5 => ?_, fun c5 => ?_⟩
            · first
                | (have hP : lnC M0 (M0 76 0 x1) x4 := ⟨⟨by assumption, by assumption⟩, by assumption, by assumption⟩
                   refine ih _ _ (by omega) (by omega) (hp1.up (by decide)) ?_
                   rw [← ws1_t h1 (decide_eq_true hP) rfl]
                   have e9 := (Em.tr h4 he1).up 78 0 x4 (min 20 (M0 78 0 x4 + 2))
                   have z9 := z5 x4 h1 (by omega)
                   first
                     | (rw [show min 20 (M0 78 0 x4 + 2) = M0 78 0 x4 + 2 by omega] at e9 ⊢; exact e9)
                     | (rw [show min 20 (M0 78 0 x4 + 2) = 20 by omega] at e9 ⊢; exact e9))
                | (have hP : ¬ lnC M0 (M0 76 0 x1) x4 := fun z => by obtain ⟨⟨z1, z2⟩, z3, z4⟩ := z; first | contradiction | omega
                   refine ih _ _ (by omega) (by omega) (by first | exact hp1 | exact h3) ?_
                   rw [ws1_f (decide_eq_false hP)]
                   first | exact h4 | exact Em.tr h4 he1)
                | (exfalso; omega)
            · refine ⟨fun c6 => ?_, fun c6 => ?_⟩
              · refine ⟨?_, ?_⟩
                · first | omega | exact ⟨h3, z4⟩ | (have := z5 x4 h1 (by omega); omega) | (exfalso; omega)
                first
                  | (have hP : lnC M0 (M0 76 0 x1) x4 := ⟨⟨by assumption, by assumption⟩, by assumption, by assumption⟩
                     refine ih _ _ (by omega) (by omega) (hp1.up (by decide)) ?_
                     rw [← ws1_t h1 (decide_eq_true hP) rfl]
                     have e9 := (Em.tr h4 he1).up 78 0 x4 (min 20 (M0 78 0 x4 + 2))
                     have z9 := z5 x4 h1 (by omega)
                     first
                       | (rw [show min 20 (M0 78 0 x4 + 2) = M0 78 0 x4 + 2 by omega] at e9 ⊢; exact e9)
                       | (rw [show min 20 (M0 78 0 x4 + 2) = 20 by omega] at e9 ⊢; exact e9))
                  | (have hP : ¬ lnC M0 (M0 76 0 x1) x4 := fun z => by obtain ⟨⟨z1, z2⟩, z3, z4⟩ := z; first | contradiction | omega
                     refine ih _ _ (by omega) (by omega) (by first | exact hp1 | exact h3) ?_
                     rw [ws1_f (decide_eq_false hP)]
                     first | exact h4 | exact Em.tr h4 he1)
                  | (exfalso; omega)
              · first
                  | (have hP : lnC M0 (M0 76 0 x1) x4 := ⟨⟨by assumption, by assumption⟩, by assumption, by assumption⟩
                     refine ih _ _ (by omega) (by omega) (hp1.up (by decide)) ?_
                     rw [← ws1_t h1 (decide_eq_true hP) rfl]
                     have e9 := (Em.tr h4 he1).up 78 0 x4 (min 20 (M0 78 0 x4 + 2))
                     have z9 := z5 x4 h1 (by omega)
                     first
                       | (rw [show min 20 (M0 78 0 x4 + 2) = M0 78 0 x4 + 2 by omega] at e9 ⊢; exact e9)
                       | (rw [show min 20 (M0 78 0 x4 + 2) = 20 by omega] at e9 ⊢; exact e9))
                  | (have hP : ¬ lnC M0 (M0 76 0 x1) x4 := fun z => by obtain ⟨⟨z1, z2⟩, z3, z4⟩ := z; first | contradiction | omega
                     refine ih _ _ (by omega) (by omega) (by first | exact hp1 | exact h3) ?_
                     rw [ws1_f (decide_eq_false hP)]
                     first | exact h4 | exact Em.tr h4 he1)
                  | (exfalso; omega)
theorem tkM_fr (M : M3) (x1 x2 x3 : Int) : (∀ q : Nat, q ∉ ([44, 78, 79] : List Nat) → tkM M x1 x2 x3 q = M q) ∧ ∀ j : Int, j ≠ 50 → tkM M x1 x2 x3 44 0 j = M 44 0 j := by
  unfold tkM
  by_cases a : M 75 0 x1 = 0
  · rw [if_pos a]
    exact ⟨fun q hq => ws1_r fun e => hq (by rw [e]; decide), fun j hj => by rw [ws1_r (by decide)]⟩
  · rw [if_neg a]
    by_cases b : rdC M (M 76 0 x1) x2 x3
    · rw [if_pos b]
      exact ⟨fr_up (fr_up fr_rf (by decide)) (by decide), fun j hj => by rw [up3_nj hj, up3_nr (by decide)]⟩
    · rw [if_neg b]
      exact ⟨fr_rf, fun j _ => rfl⟩
theorem kX12_takes {E : E3} {Q : Q3} {M : M3} {x1 x2 x3 : Int} (h : RdC M ∧ preTk M x1 x2 x3) (k : ∀ (N : M3), RM3 N → (∀ q : Nat, q ∉ ([44, 53, 54, 55, 78, 79] : List Nat) → N q = M q) → (∀ j : Int, j ∉ ([11, 12, 13, 17, 50] : List Int) → N 44 0 j = M 44 0 j) → RdC N ∧ poTk M x1 x2 x3 N → Q none N) : C3 E YX12_takes [vR 44 0, vI x1, vI x2, vI x3] M Q := by
  refine c3_rm fun hM => ?_
  obtain ⟨hR, hz⟩ := h
  have hz' := hz
  obtain ⟨z1, z2, z3, z4, z5, z6, z7, z8⟩ := hz'
  have kk : ∀ N : M3, RM3 N → Em (tkM M x1 x2 x3) N → RdC N → Q none N := fun N a b c => by
    obtain ⟨t1, t2⟩ := tkM_fr M x1 x2 x3
    refine k N a (fun q hq => (b.1 q fun z => hq ?_).trans (t1 q fun z => hq ?_)) (fun j hj => (b.2 j fun z => hj ?_).trans (t2 j fun z => hj (by rw [z]; decide))) ⟨c, b⟩
    · have : ∀ x ∈ ([44, 53, 54, 55] : List Nat), x ∈ ([44, 53, 54, 55, 78, 79] : List Nat) := by decide
      exact this q z
    · have : ∀ x ∈ ([44, 78, 79] : List Nat), x ∈ ([44, 53, 54, 55, 78, 79] : List Nat) := by decide
      exact this q z
    · have : ∀ x ∈ ([11, 12, 13, 17] : List Int), x ∈ ([11, 12, 13, 17, 50] : List Int) := by decide
      exact this j z
  have no : M 75 0 x1 ≠ 0 → ¬ rdC M (M 76 0 x1) x2 x3 → tkM M x1 x2 x3 = M := fun a b => by rw [tkM, if_neg a, if_neg b]
  refine sX12_takes ?_
  refine ⟨?_, ?_⟩
  · first | omega | exact ⟨hR, z4⟩
  refine ⟨fun c1 => ?_, fun c1 => ?_⟩
  · exact lX12_takes hz (fun N a b c => kk N a (by rw [tkM, if_pos (by assumption)]; exact b) c) (M 44 0 1).toNat 0 M (by omega) (by omega) hR (by rw [ws1_0]; exact Em.rf)
  · refine ⟨?_, ?_⟩
    · first | omega | exact ⟨hR, z4⟩
    refine ⟨fun c2 => ?_, fun c2 => ?_⟩
    · first
      | (have hP : rdC M (M 76 0 x1) x2 x3 := ⟨⟨by assumption, by assumption⟩, by assumption, by assumption, by assumption⟩
         refine kk _ ((hN1.up (by omega)).up (by omega)) ?_ ((hp1.up (by decide)).ups (by decide))
         rw [tkM, if_neg (by assumption), if_pos hP]
         exact (he1.up 79 0 _ 1).up 44 0 50 _)
      | (have hP : ¬ rdC M (M 76 0 x1) x2 x3 := fun z => by obtain ⟨⟨z1, z2⟩, z3, z4, z5⟩ := z; first | contradiction | omega
         first
           | exact kk N1 hN1 (by rw [no (by assumption) hP]; exact he1) hp1
           | exact kk M hM (by rw [no (by assumption) hP]; exact Em.rf) hR)
    · refine ⟨?_, ?_⟩
      · first | omega | exact ⟨hR, z4⟩
      refine ⟨fun c3 => ?_, fun c3 => ?_⟩
      · first
        | (have hP : rdC M (M 76 0 x1) x2 x3 := ⟨⟨by assumption, by assumption⟩, by assumption, by assumption, by assumption⟩
           refine kk _ ((hN1.up (by omega)).up (by omega)) ?_ ((hp1.up (by decide)).ups (by decide))
           rw [tkM, if_neg (by assumption), if_pos hP]
           exact (he1.up 79 0 _ 1).up 44 0 50 _)
        | (have hP : ¬ rdC M (M 76 0 x1) x2 x3 := fun z => by obtain ⟨⟨z1, z2⟩, z3, z4, z5⟩ := z; first | contradiction | omega
           first
             | exact kk N1 hN1 (by rw [no (by assumption) hP]; exact he1) hp1
             | exact kk M hM (by rw [no (by assumption) hP]; exact Em.rf) hR)
      · refine ⟨?_, ?_⟩
        · first | omega | exact ⟨hR, z4⟩
        intro N1 hN1 he1 hp1
        refine ⟨fun c4 => ?_, fun c4 => ?_⟩
        · first
          | (have hP : rdC M (M 76 0 x1) x2 x3 := ⟨⟨by assumption, by assumption⟩, by assumption, by assumption, by assumption⟩
             refine kk _ ((hN1.up (by omega)).up (by omega)) ?_ ((hp1.up (by decide)).ups (by decide))
             rw [tkM, if_neg (by assumption), if_pos hP]
             exact (he1.up 79 0 _ 1).up 44 0 50 _)
          | (have hP : ¬ rdC M (M 76 0 x1) x2 x3 := fun z => by obtain ⟨⟨z1, z2⟩, z3, z4, z5⟩ := z; first | contradiction | omega
             first
               | exact kk N1 hN1 (by rw [no (by assumption) hP]; exact he1) hp1
               | exact kk M hM (by rw [no (by assumption) hP]; exact Em.rf) hR)
        · refine ⟨?_, ?_⟩
          · first | omega | exact ⟨hR, z4⟩
          refine ⟨fun c5 => ?_, fun c5 => ?_⟩
          · first
            | (have hP : rdC M (M 76 0 x1) x2 x3 := ⟨⟨by assumption, by assumption⟩, by assumption, by assumption, by assumption⟩
               refine kk _ ((hN1.up (by omega)).up (by omega)) ?_ ((hp1.up (by decide)).ups (by decide))
               rw [tkM, if_neg (by assumption), if_pos hP]
               exact (he1.up 79 0 _ 1).up 44 0 50 _)
            | (have hP : ¬ rdC M (M 76 0 x1) x2 x3 := fun z => by obtain ⟨⟨z1, z2⟩, z3, z4, z5⟩ := z; first | contradiction | omega
               first
                 | exact kk N1 hN1 (by rw [no (by assumption) hP]; exact he1) hp1
                 | exact kk M hM (by rw [no (by assumption) hP]; exact Em.rf) hR)
          · refine ⟨?_, ?_⟩
            · first | omega | exact ⟨hR, z4⟩
            refine ⟨fun c6 => ?_, fun c6 => ?_⟩
            · first
              | (have hP : rdC M (M 76 0 x1) x2 x3 := ⟨⟨by assumption, by assumption⟩, by assumption, by assumption, by assumption⟩
                 refine kk _ ((hN1.up (by omega)).up (by omega)) ?_ ((hp1.up (by decide)).ups (by decide))
                 rw [tkM, if_neg (by assumption), if_pos hP]
                 exact (he1.up 79 0 _ 1).up 44 0 50 _)
              | (have hP : ¬ rdC M (M 76 0 x1) x2 x3 := fun z => by obtain ⟨⟨z1, z2⟩, z3, z4, z5⟩ := z; first | contradiction | omega
                 first
                   | exact kk N1 hN1 (by rw [no (by assumption) hP]; exact he1) hp1
                   | exact kk M hM (by rw [no (by assumption) hP]; exact Em.rf) hR)
            · refine ⟨?_, ?_⟩
              · first | omega | exact ⟨hR, z4⟩
              first
              | (have hP : rdC M (M 76 0 x1) x2 x3 := ⟨⟨by assumption, by assumption⟩, by assumption, by assumption, by assumption⟩
                 refine kk _ ((hN1.up (by omega)).up (by omega)) ?_ ((hp1.up (by decide)).ups (by decide))
                 rw [tkM, if_neg (by assumption), if_pos hP]
                 exact (he1.up 79 0 _ 1).up 44 0 50 _)
              | (have hP : ¬ rdC M (M 76 0 x1) x2 x3 := fun z => by obtain ⟨⟨z1, z2⟩, z3, z4, z5⟩ := z; first | contradiction | omega
                 first
                   | exact kk N1 hN1 (by rw [no (by assumption) hP]; exact he1) hp1
                   | exact kk M hM (by rw [no (by assumption) hP]; exact Em.rf) hR)
theorem lX12_ones {E : E3} {Q : Q3} {M : M3} {x0 : Int} (k : Q (some (vI (ones3 x0))) M) : ∀ (n : Nat) (x2 x1 : Int), 0 ≤ x2 → x2 + n = 8 → x1 = sm3 x2 (fun k => and3 (shr3 x0 k) 1) → G3 E YX12_ones Q 4 [(0, vI x0), (1, vI x1), (2, vI x2)] [] M := by
  intro n
  induction n with
  | zero =>
    intro x2 x1 h1 h2 h3
    refine g3_rm fun hM => ?_
    have hb := and3_1 (shr3 x0 x2)
    refine sX12_ones_4 ?_
    refine ⟨?_, ?_⟩
    · first | omega | (exfalso; omega)
    refine ⟨fun c1 => ?_, fun c1 => ?_⟩
    · first | (exfalso; omega) | (rw [ones3, ← show x2 = 8 by omega, ← h3] at k; exact k)
    · exfalso; omega
  | succ n ih =>
    intro x2 x1 h1 h2 h3
    refine g3_rm fun hM => ?_
    have hb := and3_1 (shr3 x0 x2)
    refine sX12_ones_4 ?_
    refine ⟨?_, ?_⟩
    · first | omega | (exfalso; omega)
    refine ⟨fun c1 => ?_, fun c1 => ?_⟩
    · exfalso; omega
    · exact ih _ _ (by omega) (by omega) (by rw [sm3_s h1, h3])
theorem kX12_ones {E : E3} {Q : Q3} {M : M3} {x0 : Int} (k : Q (some (vI (ones3 x0))) M) : C3 E YX12_ones [vI x0] M Q :=
  sX12_ones (lX12_ones k 8 0 0 (by omega) (by omega) rfl)
