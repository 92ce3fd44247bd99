/-! THE CLASS's constructor -/
def P11_1 (E : E3) (n : Nat) : List va_E := [] ++ (wX1 E (n + 0) (n + (0 + 1)) :: LX1_4 E (n + 0) (n + (0 + 1)))
theorem len11_1 {E : E3} {n : Nat} : (P11_1 E n).length = 1 := by
  unfold P11_1
  rw [List.length_append, List.length_cons, lenX1]
  rfl
def P11_2 (E : E3) (n : Nat) : List va_E := P11_1 E n ++ (wX4 E (n + 1) (n + (1 + 1)) :: LX4_4 E (n + 1) (n + (1 + 1)))
theorem len11_2 {E : E3} {n : Nat} : (P11_2 E n).length = 8 := by
  unfold P11_2
  rw [List.length_append, List.length_cons, len11_1, lenX4]
def P11_3 (E : E3) (n : Nat) : List va_E := P11_2 E n ++ (wX0 E (n + 8) (n + (8 + 1)) :: LX0_4 E (n + 8) (n + (8 + 1)))
theorem len11_3 {E : E3} {n : Nat} : (P11_3 E n).length = 59 := by
  unfold P11_3
  rw [List.length_append, List.length_cons, len11_2, lenX0]
def P11_4 (E : E3) (n : Nat) : List va_E := P11_3 E n ++ (wX2 E (B4 E + (n + 1)) (B4 E + (n + 8)) (B4 E + (n + 0)) (n + 59) (n + (59 + 1)) :: LX2_4 E (B4 E + (n + 1)) (B4 E + (n + 8)) (B4 E + (n + 0)) (n + 59) (n + (59 + 1)))
theorem len11_4 {E : E3} {n : Nat} : (P11_4 E n).length = 183 := by
  unfold P11_4
  rw [List.length_append, List.length_cons, len11_3, lenX2]
def P11_5 (E : E3) (n : Nat) : List va_E := P11_4 E n ++ (wX6 E (n + 183) (n + (183 + 1)) :: LX6_4 E (n + 183) (n + (183 + 1)))
theorem len11_5 {E : E3} {n : Nat} : (P11_5 E n).length = 189 := by
  unfold P11_5
  rw [List.length_append, List.length_cons, len11_4, lenX6]
def P11_6 (E : E3) (n : Nat) : List va_E := P11_5 E n ++ (wX5 E (B4 E + (n + 1)) (B4 E + (n + 8)) (B4 E + (n + 0)) (n + 189) (n + (189 + 1)) :: LX5_4 E (B4 E + (n + 1)) (B4 E + (n + 8)) (B4 E + (n + 0)) (n + 189) (n + (189 + 1)))
theorem len11_6 {E : E3} {n : Nat} : (P11_6 E n).length = 204 := by
  unfold P11_6
  rw [List.length_append, List.length_cons, len11_5, lenX5]
def P11_7 (E : E3) (n : Nat) : List va_E := P11_6 E n ++ (wX10 E (B4 E + (n + 1)) (B4 E + (n + 8)) (B4 E + (n + 0)) (B4 E + (n + 189)) (n + 204) (n + (204 + 1)) :: LX10_4 E (B4 E + (n + 1)) (B4 E + (n + 8)) (B4 E + (n + 0)) (B4 E + (n + 189)) (n + 204) (n + (204 + 1)))
theorem len11_7 {E : E3} {n : Nat} : (P11_7 E n).length = 209 := by
  unfold P11_7
  rw [List.length_append, List.length_cons, len11_6, lenX10]
def P11_8 (E : E3) (n : Nat) : List va_E := P11_7 E n ++ (wX7 E (B4 E + (n + 8)) (B4 E + (n + 0)) (n + 209) (n + (209 + 1)) :: LX7_4 E (B4 E + (n + 8)) (B4 E + (n + 0)) (n + 209) (n + (209 + 1)))
theorem len11_8 {E : E3} {n : Nat} : (P11_8 E n).length = 215 := by
  unfold P11_8
  rw [List.length_append, List.length_cons, len11_7, lenX7]
def fnX11 (E : E3) (n : Nat) : Nat → List va_E := fun j => wX9 E (n + (216 + 2 * j)) (n + (216 + 2 * j + 1)) :: LX9_4 E (n + (216 + 2 * j)) (n + (216 + 2 * j + 1))
def wX11 (E : E3) (k n : Nat) : va_E := .inr (11, [.ref (B4 E + (n + 0)), .ref (B4 E + (n + 1)), .ref (B4 E + (n + 8)), .ref (B4 E + (n + 59)), .ref (B4 E + (n + 183)), .ref (B4 E + (n + 189)), .ref (B4 E + (n + 204)), .ref (B4 E + (n + 209)), .ref (B4 E + (n + 215)), .int 0])
def LX11_4 (E : E3) (k n : Nat) : List va_E := P11_8 E n ++ (rw4 E 4 4 n 216 2 (4) :: tl4 (fnX11 E n) (4))
theorem lpX11_150 {E : E3} {c : Im4} {n k : Nat} (hk : k < n) : ∀ (m i : Nat), i + m = 4 → N4 E YX11_init 224 3773 (fin4 E YX11_init 224 3773 (fun c' n' => c' = im4 c n k (wX11 E k n) (LX11_4 E k n) ∧ n' = n + (LX11_4 E k n).length)) (216 + 2 * i) (3601 + 43 * i) 150 [(1, .int (Int32.ofInt (i : Int))), (0, .ref (B4 E + k))] [] (im4 c n k (.inr (11, [.ref (B4 E + (n + 0)), .ref (B4 E + (n + 1)), .ref (B4 E + (n + 8)), .ref (B4 E + (n + 59)), .ref (B4 E + (n + 183)), .ref (B4 E + (n + 189)), .ref (B4 E + (n + 204)), .ref (B4 E + (n + 209)), .ref (B4 E + (n + 215)), .int 0])) (P11_8 E n ++ (rw4 E 4 4 n 216 2 (i) :: tl4 (fnX11 E n) (i)))) (n + (P11_8 E n ++ (rw4 E 4 4 n 216 2 (i) :: tl4 (fnX11 E n) (i)) : List va_E).length) := by
  intro m
  induction m with
  | zero =>
    intro i hi
    obtain rfl : i = 4 := by omega
    refine n4_iload_n 0 dX11_init_150 rfl rfl ?_
    refine n4_iconst dX11_init_151 ?_
    refine n4_icmp_ge (tgt := 174) dX11_init_152 rfl (by omega) (by omega) (fun h9 => ?_) (fun h9 => by exfalso; omega)
    exact n4_return dX11_init_174 (by decide) (by decide) ⟨rfl, rfl⟩
  | succ m ih =>
    intro i hi
    have h5 : (tl4 (fnX11 E n) i).length = 2 * i := tl4_len (f := fnX11 E n) (d := 2) (fun _ => rfl) i
    have h6 : (P11_8 E n : List va_E).length = 215 := len11_8
    have hlen : (P11_8 E n ++ (rw4 E 4 4 n 216 2 (i) :: tl4 (fnX11 E n) (i)) : List va_E).length = 216 + 2 * i := by
      simp only [List.length_append, List.length_cons, h5, h6]
      omega
    refine n4_iload_n 0 dX11_init_150 rfl rfl ?_
    refine n4_iconst dX11_init_151 ?_
    refine n4_icmp_ge (tgt := 174) dX11_init_152 rfl (by omega) (by omega) (fun h9 => by exfalso; omega) (fun h9 => ?_)
    refine n4_aload_n 1 dX11_init_155 rfl rfl ?_
    refine i4_get (v := .ref (B4 E + (n + 215))) hk dX11_init_156 fdX11_73 rfl ?_
    refine n4_iload_n 0 dX11_init_159 rfl rfl ?_
    refine i4_new (T := TX9) (len := (216 + 2 * i)) hk hlen dX11_init_160 rfl clX11_71 isX9 iiX9 dfX9 (by omega) (by omega) ?_
    refine n4_dup dX11_init_163 rfl ?_
    refine i4_call (as := []) (st := [.ref (B4 E + (n + (216 + 2 * i))), .int (Int32.ofInt (i : Int)), .ref (B4 E + (n + 215))]) (L := _) (len := (216 + 2 * i)) hk hlen dX11_init_164 (k4X9) m4X9 (Or.inr nlX11_77) (by decide) (show (3 : Nat) ≤ 8 by decide) rfl (by omega) (by omega) ?_
    refine i4_aast (ci := 9) (t0 := 4) (a := 215) (b := 216 + 2 * i) hk dX11_init_167 (r := (RX9, TX9, 3)) rfl rfl (sh4_at h6) (last4 hlen) (by omega) ?_
    refine i4_list (L' := P11_8 E n ++ (rw4 E 4 4 n 216 2 (i + 1) :: tl4 (fnX11 E n) (i + 1))) ((sh4_set h6).trans (congrArg (fun x => P11_8 E n ++ (x :: tl4 (fnX11 E n) (i + 1))) (rw4_up rfl))) ?_
    refine n4_iinc (lv' := [(1, .int (Int32.ofInt ((i + 1 : Nat) : Int))), (0, .ref (B4 E + k))]) 0 dX11_init_168 rfl (by decide) rfl ?_
    refine n4_goto (tgt := 150) dX11_init_171 rfl ?_
    refine n4_cnt (uc' := 216 + 2 * (i + 1)) (us' := 3601 + 43 * (i + 1)) (by omega) (by omega) ?_
    exact ih (i + 1) (by omega)
theorem k4X11 {E : E3} : K4 E YX11_init 224 3773 [] (.inr (11, zX11)) (fun k n => wX11 E k n) (fun k n => LX11_4 E k n) := by
  refine k4_in (lv := []) (by decide +kernel) rfl (fun k => rfl) (fun k => (show 1 ≤ 2 by decide)) fun c n k hk => ?_
  refine n4_aload_n 0 dX11_init_0 rfl rfl ?_
  refine n4_obj dX11_init_1 (by decide) nlX11_1 oi4 oc4 (by decide) ?_
  refine n4_aload_n 0 dX11_init_4 rfl rfl ?_
  refine i4_new (T := TX1) (len := 0) hk rfl dX11_init_5 rfl clX11_7 isX1 iiX1 dfX1 (by decide) (by decide) ?_
  refine n4_dup dX11_init_8 rfl ?_
  refine i4_call (as := []) (st := [.ref (B4 E + (n + 0)), .ref (B4 E + k)]) (L := _) (len := 0) hk rfl dX11_init_9 (k4X1) m4X1 (Or.inr nlX11_9) (by decide) (show (2 : Nat) ≤ 8 by decide) rfl (by decide) (by decide) ?_
  refine i4_list (L' := P11_1 E n) rfl ?_
  refine i4_put hk dX11_init_12 fdX11_10 rfl rfl rfl (show 0 < 10 by decide) ?_
  refine n4_aload_n 0 dX11_init_15 rfl rfl ?_
  refine i4_new (T := TX4) (len := 1) hk len11_1 dX11_init_16 rfl clX11_16 isX4 iiX4 dfX4 (by decide) (by decide) ?_
  refine n4_dup dX11_init_19 rfl ?_
  refine i4_call (as := []) (st := [.ref (B4 E + (n + 1)), .ref (B4 E + k)]) (L := _) (len := 1) hk len11_1 dX11_init_20 (k4X4) m4X4 (Or.inr nlX11_18) (by decide) (show (2 : Nat) ≤ 8 by decide) rfl (by decide) (by decide) ?_
  refine i4_list (L' := P11_2 E n) rfl ?_
  refine i4_put hk dX11_init_23 fdX11_19 rfl rfl rfl (show 1 < 10 by decide) ?_
  refine n4_aload_n 0 dX11_init_26 rfl rfl ?_
  refine i4_new (T := TX0) (len := 8) hk len11_2 dX11_init_27 rfl clX11_23 isX0 iiX0 dfX0 (by decide) (by decide) ?_
  refine n4_dup dX11_init_30 rfl ?_
  refine i4_call (as := []) (st := [.ref (B4 E + (n + 8)), .ref (B4 E + k)]) (L := _) (len := 8) hk len11_2 dX11_init_31 (k4X0) m4X0 (Or.inl nlX11_25) (by decide) (show (2 : Nat) ≤ 8 by decide) rfl (by decide) (by decide) ?_
  refine i4_list (L' := P11_3 E n) rfl ?_
  refine i4_put hk dX11_init_34 fdX11_26 rfl rfl rfl (show 2 < 10 by decide) ?_
  refine n4_aload_n 0 dX11_init_37 rfl rfl ?_
  refine i4_new (T := TX2) (len := 59) hk len11_3 dX11_init_38 rfl clX11_30 isX2 iiX2 dfX2 (by decide) (by decide) ?_
  refine n4_dup dX11_init_41 rfl ?_
  refine n4_aload_n 0 dX11_init_42 rfl rfl ?_
  refine i4_get (v := .ref (B4 E + (n + 1))) hk dX11_init_43 fdX11_19 rfl ?_
  refine n4_aload_n 0 dX11_init_46 rfl rfl ?_
  refine i4_get (v := .ref (B4 E + (n + 8))) hk dX11_init_47 fdX11_26 rfl ?_
  refine n4_aload_n 0 dX11_init_50 rfl rfl ?_
  refine i4_get (v := .ref (B4 E + (n + 0))) hk dX11_init_51 fdX11_10 rfl ?_
  refine i4_call (as := [.ref (B4 E + (n + 1)), .ref (B4 E + (n + 8)), .ref (B4 E + (n + 0))]) (st := [.ref (B4 E + (n + 59)), .ref (B4 E + k)]) (L := _) (len := 59) hk len11_3 dX11_init_54 (k4X2 (B4 E + (n + 1)) (B4 E + (n + 8)) (B4 E + (n + 0))) m4X2 (Or.inl nlX11_32) (by decide) (show (2 : Nat) ≤ 8 by decide) rfl (by decide) (by decide) ?_
  refine i4_list (L' := P11_4 E n) rfl ?_
  refine i4_put hk dX11_init_57 fdX11_35 rfl rfl rfl (show 3 < 10 by decide) ?_
  refine n4_aload_n 0 dX11_init_60 rfl rfl ?_
  refine i4_new (T := TX6) (len := 183) hk len11_4 dX11_init_61 rfl clX11_39 isX6 iiX6 dfX6 (by decide) (by decide) ?_
  refine n4_dup dX11_init_64 rfl ?_
  refine i4_call (as := []) (st := [.ref (B4 E + (n + 183)), .ref (B4 E + k)]) (L := _) (len := 183) hk len11_4 dX11_init_65 (k4X6) m4X6 (Or.inl nlX11_41) (by decide) (show (2 : Nat) ≤ 8 by decide) rfl (by decide) (by decide) ?_
  refine i4_list (L' := P11_5 E n) rfl ?_
  refine i4_put hk dX11_init_68 fdX11_42 rfl rfl rfl (show 4 < 10 by decide) ?_
  refine n4_aload_n 0 dX11_init_71 rfl rfl ?_
  refine i4_new (T := TX5) (len := 189) hk len11_5 dX11_init_72 rfl clX11_46 isX5 iiX5 dfX5 (by decide) (by decide) ?_
  refine n4_dup dX11_init_75 rfl ?_
  refine n4_aload_n 0 dX11_init_76 rfl rfl ?_
  refine i4_get (v := .ref (B4 E + (n + 1))) hk dX11_init_77 fdX11_19 rfl ?_
  refine n4_aload_n 0 dX11_init_80 rfl rfl ?_
  refine i4_get (v := .ref (B4 E + (n + 8))) hk dX11_init_81 fdX11_26 rfl ?_
  refine n4_aload_n 0 dX11_init_84 rfl rfl ?_
  refine i4_get (v := .ref (B4 E + (n + 0))) hk dX11_init_85 fdX11_10 rfl ?_
  refine i4_call (as := [.ref (B4 E + (n + 1)), .ref (B4 E + (n + 8)), .ref (B4 E + (n + 0))]) (st := [.ref (B4 E + (n + 189)), .ref (B4 E + k)]) (L := _) (len := 189) hk len11_5 dX11_init_88 (k4X5 (B4 E + (n + 1)) (B4 E + (n + 8)) (B4 E + (n + 0))) m4X5 (Or.inl nlX11_48) (by decide) (show (2 : Nat) ≤ 8 by decide) rfl (by decide) (by decide) ?_
  refine i4_list (L' := P11_6 E n) rfl ?_
  refine i4_put hk dX11_init_91 fdX11_49 rfl rfl rfl (show 5 < 10 by decide) ?_
  refine n4_aload_n 0 dX11_init_94 rfl rfl ?_
  refine i4_new (T := TX10) (len := 204) hk len11_6 dX11_init_95 rfl clX11_53 isX10 iiX10 dfX10 (by decide) (by decide) ?_
  refine n4_dup dX11_init_98 rfl ?_
  refine n4_aload_n 0 dX11_init_99 rfl rfl ?_
  refine i4_get (v := .ref (B4 E + (n + 1))) hk dX11_init_100 fdX11_19 rfl ?_
  refine n4_aload_n 0 dX11_init_103 rfl rfl ?_
  refine i4_get (v := .ref (B4 E + (n + 8))) hk dX11_init_104 fdX11_26 rfl ?_
  refine n4_aload_n 0 dX11_init_107 rfl rfl ?_
  refine i4_get (v := .ref (B4 E + (n + 0))) hk dX11_init_108 fdX11_10 rfl ?_
  refine n4_aload_n 0 dX11_init_111 rfl rfl ?_
  refine i4_get (v := .ref (B4 E + (n + 189))) hk dX11_init_112 fdX11_49 rfl ?_
  refine i4_call (as := [.ref (B4 E + (n + 1)), .ref (B4 E + (n + 8)), .ref (B4 E + (n + 0)), .ref (B4 E + (n + 189))]) (st := [.ref (B4 E + (n + 204)), .ref (B4 E + k)]) (L := _) (len := 204) hk len11_6 dX11_init_115 (k4X10 (B4 E + (n + 1)) (B4 E + (n + 8)) (B4 E + (n + 0)) (B4 E + (n + 189))) m4X10 (Or.inl nlX11_55) (by decide) (show (2 : Nat) ≤ 8 by decide) rfl (by decide) (by decide) ?_
  refine i4_list (L' := P11_7 E n) rfl ?_
  refine i4_put hk dX11_init_118 fdX11_58 rfl rfl rfl (show 6 < 10 by decide) ?_
  refine n4_aload_n 0 dX11_init_121 rfl rfl ?_
  refine i4_new (T := TX7) (len := 209) hk len11_7 dX11_init_122 rfl clX11_62 isX7 iiX7 dfX7 (by decide) (by decide) ?_
  refine n4_dup dX11_init_125 rfl ?_
  refine n4_aload_n 0 dX11_init_126 rfl rfl ?_
  refine i4_get (v := .ref (B4 E + (n + 8))) hk dX11_init_127 fdX11_26 rfl ?_
  refine n4_aload_n 0 dX11_init_130 rfl rfl ?_
  refine i4_get (v := .ref (B4 E + (n + 0))) hk dX11_init_131 fdX11_10 rfl ?_
  refine i4_call (as := [.ref (B4 E + (n + 8)), .ref (B4 E + (n + 0))]) (st := [.ref (B4 E + (n + 209)), .ref (B4 E + k)]) (L := _) (len := 209) hk len11_7 dX11_init_134 (k4X7 (B4 E + (n + 8)) (B4 E + (n + 0))) m4X7 (Or.inl nlX11_64) (by decide) (show (2 : Nat) ≤ 8 by decide) rfl (by decide) (by decide) ?_
  refine i4_list (L' := P11_8 E n) rfl ?_
  refine i4_put hk dX11_init_137 fdX11_67 rfl rfl rfl (show 7 < 10 by decide) ?_
  refine n4_aload_n 0 dX11_init_140 rfl rfl ?_
  refine n4_iconst dX11_init_141 ?_
  refine i4_newq (N := 4) (t0 := 4) (len := 215) hk len11_8 dX11_init_142 clX11_71 (by decide) rfl (by decide) (by decide) (by decide) ?_
  refine i4_put hk dX11_init_145 fdX11_73 rfl rfl rfl (show 8 < 10 by decide) ?_
  refine n4_iconst dX11_init_148 ?_
  refine n4_istore_n (lv' := [(1, .int (Int32.ofInt (0))), (0, .ref (B4 E + k))]) dX11_init_149 rfl (by decide) rfl ?_
  refine n4_cnt (uc' := 216 + 2 * 0) (us' := 3601 + 43 * 0) (by decide) (by decide) ?_
  refine i4_list (L' := P11_8 E n ++ (rw4 E 4 4 n 216 2 (0) :: tl4 (fnX11 E n) (0))) (by rw [rw4_0]; rfl) ?_
  exact lpX11_150 hk 4 0 rfl
theorem lenX11 {E : E3} {k n : Nat} : (LX11_4 E k n).length = 224 := by
  have h5 : (tl4 (fnX11 E n) 4).length = 2 * 4 := tl4_len (f := fnX11 E n) (d := 2) (fun _ => rfl) 4
  unfold LX11_4
  rw [List.length_append, len11_8, List.length_cons, h5]
