theorem clL_7 : Cond.classLink RL 7 RX11 ∈ gt3 := mem3 95 (by decide +kernel) rfl
theorem clL_10 : Cond.classLink RL 10 RX12 ∈ gt3 := mem3 1208 (by decide +kernel) rfl
theorem nlL_9 : Cond.methodLink RL 9 yX11_init ∈ gt3 := mem3 97 (by decide +kernel) rfl
theorem nlL_12 : Cond.methodLink RL 12 yX12_init ∈ gt3 := mem3 1210 (by decide +kernel) rfl
/-! THE LAW: its first instructions make both -/
def CC4 (E : E3) : List va_E := wX11 E 0 1 :: (LX11_4 E 0 1 ++ (wX12 E 225 226 :: LX12_4 E 225 226))
def cc4 (E : E3) : Im4 := fun j => ((CC4 E)[j]?).getD df4
theorem cc4_agree {E : E3} {c : Im4} {z1 z2 : va_E} : ∀ j : Nat, j < 266 → im4 (up4 (im4 (up4 c 0 z1) 1 0 (wX11 E 0 1) (LX11_4 E 0 1)) 225 z2) 226 225 (wX12 E 225 226) (LX12_4 E 225 226) j = cc4 E j := by
  intro j hj
  have hl : (LX11_4 E 0 1).length = 224 := lenX11
  unfold cc4 CC4
  by_cases h1 : j = 225
  · subst h1
    rw [im4_k, List.getElem?_cons_succ, List.getElem?_append_right (by rw [hl]; decide), hl]
    rfl
  · by_cases h2 : j < 226
    · rw [im4_old h2 h1, up4_ne h1]
      by_cases h3 : j = 0
      · subst h3
        rw [im4_k]
        rfl
      · obtain ⟨i, rfl⟩ : ∃ i, j = i + 1 := ⟨j - 1, by omega⟩
        have e1 : i + 1 - 1 = i := by omega
        unfold im4
        rw [if_neg h3, if_neg (by omega), e1, List.getElem?_cons_succ, List.getElem?_append_left (by omega)]
    · obtain ⟨i, rfl⟩ : ∃ i, j = 226 + i := ⟨j - 226, by omega⟩
      have e1 : 226 + i = (225 + i) + 1 := by omega
      have e2 : 225 + i - 224 = i + 1 := by omega
      have e3 : 226 + i - 226 = i := by omega
      unfold im4
      rw [if_neg h1, if_neg h2, e3, e1, List.getElem?_cons_succ, List.getElem?_append_right (by omega), hl, e2, List.getElem?_cons_succ]
theorem lawStart {E : E3} {mc ms : Nat} {F : Fn4} {c : Im4} (hm : 266 ≤ mc) (hs : 6858 ≤ ms) (h : N4 E YL mc ms F 266 6858 18 [(3, .int (Int32.ofInt 0)), (2, .ref (B4 E + 225)), (1, .ref (B4 E + 0)), (0, .ref (ad3 E 99 0))] [] (cc4 E) 266) : N4 E YL mc ms F 0 0 0 [(0, .ref (ad3 E 99 0))] [] c 0 := by
  refine n4_new (T := TX11) dL_law_0 rfl clL_7 isX11 iiX11 dfX11 (by omega) (by omega) ?_
  refine n4_dup dL_law_3 rfl ?_
  refine n4_call (as := []) (st := [.ref (B4 E + 0)]) (mc2 := 224) (ms2 := 3773) dL_law_4 m4X11 nlL_9 (by decide) (show (1 : Nat) ≤ 8 by decide) rfl (by omega) (by omega) ?_
  refine c4_mono (k4X11 (up4 c 0 (.inr (11, zX11))) 1 0 (by decide) up4_eq) fun c' n' hq => ?_
  obtain ⟨rfl, rfl⟩ := hq
  rw [lenX11]
  refine n4_astore_n (lv' := [(1, .ref (B4 E + 0)), (0, .ref (ad3 E 99 0))]) dL_law_7 rfl (by decide) rfl ?_
  refine n4_new (T := TX12) dL_law_8 rfl clL_10 isX12 iiX12 dfX12 (by omega) (by omega) ?_
  refine n4_dup dL_law_11 rfl ?_
  refine n4_call (as := []) (st := [.ref (B4 E + 225)]) (mc2 := 40) (ms2 := 3016) dL_law_12 m4X12 nlL_12 (by decide) (show (1 : Nat) ≤ 8 by decide) rfl (by omega) (by omega) ?_
  refine c4_mono (k4X12 _ 226 225 (by decide) up4_eq) fun c' n' hq => ?_
  obtain ⟨rfl, rfl⟩ := hq
  rw [lenX12]
  refine n4_astore_n (lv' := [(2, .ref (B4 E + 225)), (1, .ref (B4 E + 0)), (0, .ref (ad3 E 99 0))]) dL_law_15 rfl (by decide) rfl ?_
  refine n4_iconst dL_law_16 ?_
  refine n4_istore_n (lv' := [(3, .int (Int32.ofInt 0)), (2, .ref (B4 E + 225)), (1, .ref (B4 E + 0)), (0, .ref (ad3 E 99 0))]) dL_law_17 rfl (by decide) rfl ?_
  refine n4_agree cc4_agree ?_
  exact n4_cnt rfl rfl h
