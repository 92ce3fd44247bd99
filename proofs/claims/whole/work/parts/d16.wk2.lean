/-! THE CONSTRUCTORS of county, files and line -/
def fnX0 (E : E3) (n : Nat) : Nat → List va_E := fun j => wX8 E (n + (2 + 1 * j)) (n + (2 + 1 * j + 1)) :: LX8_4 E (n + (2 + 1 * j)) (n + (2 + 1 * j + 1))
def wX0 (E : E3) (k n : Nat) : va_E := .inr (0, [.int 0, .ref (B4 E + (n + 0)), .ref (B4 E + (n + 1))])
def LX0_4 (E : E3) (k n : Nat) : List va_E := [] ++ (rw4 E 2 48 n 2 1 (48) :: .inl (ca3 E 0, 6, .inl (fun _ => 0)) :: tl4 (fnX0 E n) (48))
theorem lpX0_23 {E : E3} {c : Im4} {n k : Nat} (hk : k < n) : ∀ (m i : Nat), i + m = 48 → N4 E YX0_init 50 390 (fin4 E YX0_init 50 390 (fun c' n' => c' = im4 c n k (wX0 E k n) (LX0_4 E k n) ∧ n' = n + (LX0_4 E k n).length)) (2 + 1 * i) (54 + 7 * i) 23 [(1, .int (Int32.ofInt (i : Int))), (0, .ref (B4 E + k))] [] (im4 c n k (.inr (0, [.int 0, .ref (B4 E + (n + 0)), .ref (B4 E + (n + 1))])) ([] ++ (rw4 E 2 48 n 2 1 (i) :: .inl (ca3 E 0, 6, .inl (fun _ => 0)) :: tl4 (fnX0 E n) (i)))) (n + ([] ++ (rw4 E 2 48 n 2 1 (i) :: .inl (ca3 E 0, 6, .inl (fun _ => 0)) :: tl4 (fnX0 E n) (i)) : List va_E).length) := by
  intro m
  induction m with
  | zero =>
    intro i hi
    obtain rfl : i = 48 := by omega
    refine n4_iload_n 0 dX0_init_23 rfl rfl ?_
    refine n4_bipush dX0_init_24 (by decide) ?_
    refine n4_icmp_ge (tgt := 48) dX0_init_26 rfl (by omega) (by omega) (fun h9 => ?_) (fun h9 => by exfalso; omega)
    exact n4_return dX0_init_48 (by decide) (by decide) ⟨rfl, rfl⟩
  | succ m ih =>
    intro i hi
    have h5 : (tl4 (fnX0 E n) i).length = 1 * i := tl4_len (f := fnX0 E n) (d := 1) (fun _ => rfl) i
    have h6 : ([] : List va_E).length = 0 := rfl
    have hlen : ([] ++ (rw4 E 2 48 n 2 1 (i) :: .inl (ca3 E 0, 6, .inl (fun _ => 0)) :: tl4 (fnX0 E n) (i)) : List va_E).length = 2 + 1 * i := by
      simp only [List.length_append, List.length_cons, h5, h6]
      omega
    refine n4_iload_n 0 dX0_init_23 rfl rfl ?_
    refine n4_bipush dX0_init_24 (by decide) ?_
    refine n4_icmp_ge (tgt := 48) dX0_init_26 rfl (by omega) (by omega) (fun h9 => by exfalso; omega) (fun h9 => ?_)
    refine n4_aload_n 1 dX0_init_29 rfl rfl ?_
    refine i4_get (v := .ref (B4 E + (n + 0))) hk dX0_init_30 fdX0_13 rfl ?_
    refine n4_iload_n 0 dX0_init_33 rfl rfl ?_
    refine i4_new (T := TX8) (len := (2 + 1 * i)) hk hlen dX0_init_34 rfl clX0_11 isX8 iiX8 dfX8 (by omega) (by omega) ?_
    refine n4_dup dX0_init_37 rfl ?_
    refine i4_call (as := []) (st := [.ref (B4 E + (n + (2 + 1 * i))), .int (Int32.ofInt (i : Int)), .ref (B4 E + (n + 0))]) (L := _) (len := (2 + 1 * i)) hk hlen dX0_init_38 (k4X8) m4X8 (Or.inr nlX0_21) (by decide) (show (3 : Nat) ≤ 8 by decide) rfl (by omega) (by omega) ?_
    refine i4_aast (ci := 8) (t0 := 2) (a := 0) (b := 2 + 1 * i) hk dX0_init_41 (r := (RX8, TX8, 7)) rfl rfl (sh4_at h6) (last4 hlen) (by omega) ?_
    refine i4_list (L' := [] ++ (rw4 E 2 48 n 2 1 (i + 1) :: .inl (ca3 E 0, 6, .inl (fun _ => 0)) :: tl4 (fnX0 E n) (i + 1))) ((sh4_set h6).trans (congrArg (fun x => [] ++ (x :: .inl (ca3 E 0, 6, .inl (fun _ => 0)) :: tl4 (fnX0 E n) (i + 1))) (rw4_up rfl))) ?_
    refine n4_iinc (lv' := [(1, .int (Int32.ofInt ((i + 1 : Nat) : Int))), (0, .ref (B4 E + k))]) 0 dX0_init_42 rfl (by decide) rfl ?_
    refine n4_goto (tgt := 23) dX0_init_45 rfl ?_
    refine n4_cnt (uc' := 2 + 1 * (i + 1)) (us' := 54 + 7 * (i + 1)) (by omega) (by omega) ?_
    exact ih (i + 1) (by omega)
theorem k4X0 {E : E3} : K4 E YX0_init 50 390 [] (.inr (0, zX0)) (fun k n => wX0 E k n) (fun k n => LX0_4 E k n) := by
  refine k4_in (lv := []) (by decide +kernel) rfl (fun k => rfl) (fun k => (show 1 ≤ 2 by decide)) fun c n k hk => ?_
  refine n4_aload_n 0 dX0_init_0 rfl rfl ?_
  refine n4_obj dX0_init_1 (by decide) nlX0_3 oi4 oc4 (by decide) ?_
  refine n4_aload_n 0 dX0_init_4 rfl rfl ?_
  refine n4_bipush dX0_init_5 (by decide) ?_
  refine i4_newq (N := 48) (t0 := 2) (len := 0) hk rfl dX0_init_7 clX0_11 (by decide) rfl (by decide) (by decide) (by decide) ?_
  refine i4_put hk dX0_init_10 fdX0_13 rfl rfl rfl (show 1 < 3 by decide) ?_
  refine n4_aload_n 0 dX0_init_13 rfl rfl ?_
  refine n4_bipush dX0_init_14 (by decide) ?_
  refine i4_newi (N := 6) (len := 1) hk rfl dX0_init_16 (by decide) (by decide) (by decide) ?_
  refine i4_put hk dX0_init_18 fdX0_17 rfl rfl rfl (show 2 < 3 by decide) ?_
  refine n4_iconst dX0_init_21 ?_
  refine n4_istore_n (lv' := [(1, .int (Int32.ofInt (0))), (0, .ref (B4 E + k))]) dX0_init_22 rfl (by decide) rfl ?_
  refine n4_cnt (uc' := 2 + 1 * 0) (us' := 54 + 7 * 0) (by decide) (by decide) ?_
  refine i4_list (L' := [] ++ (rw4 E 2 48 n 2 1 (0) :: .inl (ca3 E 0, 6, .inl (fun _ => 0)) :: tl4 (fnX0 E n) (0))) (by rw [rw4_0]; rfl) ?_
  exact lpX0_23 hk 48 0 rfl
theorem lenX0 {E : E3} {k n : Nat} : (LX0_4 E k n).length = 50 := by
  have h5 : (tl4 (fnX0 E n) 48).length = 1 * 48 := tl4_len (f := fnX0 E n) (d := 1) (fun _ => rfl) 48
  unfold LX0_4
  simp only [List.length_append, List.length_cons, h5]
  rfl
def fnX2 (E : E3) (n : Nat) : Nat → List va_E := fun j => wX3 E (n + (3 + 2 * j)) (n + (3 + 2 * j + 1)) :: LX3_4 E (n + (3 + 2 * j)) (n + (3 + 2 * j + 1))
def wX2 (E : E3) (a1 a2 a3 : Nat) (k n : Nat) : va_E := .inr (2, [.int 0, .ref a1, .ref a2, .ref a3, .ref (B4 E + (n + 0)), .ref (B4 E + (n + 1)), .ref (B4 E + (n + 2))])
def LX2_4 (E : E3) (a1 a2 a3 : Nat) (k n : Nat) : List va_E := rw4 E 3 60 n 3 2 60 :: it4 E 4 (4) (Int32.ofInt (-1)) :: .inl (ca3 E 0, 400, .inl (fun _ => 0)) :: tl4 (fnX2 E n) 60
theorem lpX2_77 {E : E3} {a1 : Nat} {a2 : Nat} {a3 : Nat} {c : Im4} {n k : Nat} (hk : k < n) : ∀ (m i : Nat), i + m = 4 → N4 E YX2_init 123 2324 (fin4 E YX2_init 123 2324 (fun c' n' => c' = im4 c n k (wX2 E a1 a2 a3 k n) (LX2_4 E a1 a2 a3 k n) ∧ n' = n + (LX2_4 E a1 a2 a3 k n).length)) (123) (2324) 77 [(4, .int (Int32.ofInt (i : Int))), (0, .ref (B4 E + k)), (1, .ref a1), (2, .ref a2), (3, .ref a3)] [] (im4 c n k (.inr (2, [.int 0, .ref a1, .ref a2, .ref a3, .ref (B4 E + (n + 0)), .ref (B4 E + (n + 1)), .ref (B4 E + (n + 2))])) ((rw4 E 3 60 n 3 2 60 :: it4 E 4 (i) (Int32.ofInt (-1)) :: .inl (ca3 E 0, 400, .inl (fun _ => 0)) :: tl4 (fnX2 E n) 60))) (n + ((rw4 E 3 60 n 3 2 60 :: it4 E 4 (i) (Int32.ofInt (-1)) :: .inl (ca3 E 0, 400, .inl (fun _ => 0)) :: tl4 (fnX2 E n) 60) : List va_E).length) := by
  intro m
  induction m with
  | zero =>
    intro i hi
    obtain rfl : i = 4 := by omega
    refine n4_iload 0 dX2_init_77 rfl ?_
    refine n4_iconst dX2_init_79 ?_
    refine n4_icmp_ge (tgt := 97) dX2_init_80 rfl (by omega) (by omega) (fun h9 => ?_) (fun h9 => by exfalso; omega)
    exact n4_return dX2_init_97 (by decide) (by decide) ⟨rfl, rfl⟩
  | succ m ih =>
    intro i hi
    refine n4_iload 0 dX2_init_77 rfl ?_
    refine n4_iconst dX2_init_79 ?_
    refine n4_icmp_ge (tgt := 97) dX2_init_80 rfl (by omega) (by omega) (fun h9 => by exfalso; omega) (fun h9 => ?_)
    refine n4_aload_n 1 dX2_init_83 rfl rfl ?_
    refine i4_get (v := .ref (B4 E + (n + 1))) hk dX2_init_84 fdX2_17 rfl ?_
    refine n4_iload 0 dX2_init_87 rfl ?_
    refine n4_iconst dX2_init_89 ?_
    refine i4_iast (a := 1) (N := 4) hk dX2_init_90 rfl (by omega) ?_
    refine i4_list (L' := rw4 E 3 60 n 3 2 60 :: it4 E 4 (i + 1) (Int32.ofInt (-1)) :: .inl (ca3 E 0, 400, .inl (fun _ => 0)) :: tl4 (fnX2 E n) 60) (congrArg (fun x : va_E => (rw4 E 3 60 n 3 2 60 :: x :: .inl (ca3 E 0, 400, .inl (fun _ => 0)) :: tl4 (fnX2 E n) 60 : List va_E)) (it4_up (E := E) (N := 4) (i := i) (x := (Int32.ofInt (-1))) (q := (i : Int)) (by omega))) ?_
    refine n4_iinc (lv' := [(4, .int (Int32.ofInt ((i + 1 : Nat) : Int))), (0, .ref (B4 E + k)), (1, .ref a1), (2, .ref a2), (3, .ref a3)]) 0 dX2_init_91 rfl (by decide) rfl ?_
    refine n4_goto (tgt := 77) dX2_init_94 rfl ?_
    exact ih (i + 1) (by omega)
theorem lpX2_47 {E : E3} {a1 : Nat} {a2 : Nat} {a3 : Nat} {c : Im4} {n k : Nat} (hk : k < n) : ∀ (m i : Nat), i + m = 60 → N4 E YX2_init 123 2324 (fin4 E YX2_init 123 2324 (fun c' n' => c' = im4 c n k (wX2 E a1 a2 a3 k n) (LX2_4 E a1 a2 a3 k n) ∧ n' = n + (LX2_4 E a1 a2 a3 k n).length)) (3 + 2 * i) (464 + 31 * i) 47 [(4, .int (Int32.ofInt (i : Int))), (0, .ref (B4 E + k)), (1, .ref a1), (2, .ref a2), (3, .ref a3)] [] (im4 c n k (.inr (2, [.int 0, .ref a1, .ref a2, .ref a3, .ref (B4 E + (n + 0)), .ref (B4 E + (n + 1)), .ref (B4 E + (n + 2))])) ([] ++ (rw4 E 3 60 n 3 2 (i) :: .inl (ca3 E 0, 4, .inl (fun _ => 0)) :: .inl (ca3 E 0, 400, .inl (fun _ => 0)) :: tl4 (fnX2 E n) (i)))) (n + ([] ++ (rw4 E 3 60 n 3 2 (i) :: .inl (ca3 E 0, 4, .inl (fun _ => 0)) :: .inl (ca3 E 0, 400, .inl (fun _ => 0)) :: tl4 (fnX2 E n) (i)) : List va_E).length) := by
  intro m
  induction m with
  | zero =>
    intro i hi
    obtain rfl : i = 60 := by omega
    refine n4_iload 0 dX2_init_47 rfl ?_
    refine n4_bipush dX2_init_49 (by decide) ?_
    refine n4_icmp_ge (tgt := 74) dX2_init_51 rfl (by omega) (by omega) (fun h9 => ?_) (fun h9 => by exfalso; omega)
    refine n4_iconst dX2_init_74 ?_
    refine n4_istore (lv' := [(4, .int (Int32.ofInt (0))), (0, .ref (B4 E + k)), (1, .ref a1), (2, .ref a2), (3, .ref a3)]) dX2_init_75 (by decide) rfl ?_
    refine n4_cnt (uc' := 123) (us' := 2324) (by decide) (by decide) ?_
    refine i4_list (L' := (rw4 E 3 60 n 3 2 60 :: it4 E 4 (0) (Int32.ofInt (-1)) :: .inl (ca3 E 0, 400, .inl (fun _ => 0)) :: tl4 (fnX2 E n) 60)) (by rw [it4_0]; rfl) ?_
    exact lpX2_77 (a1 := a1) (a2 := a2) (a3 := a3) hk 4 0 rfl
  | succ m ih =>
    intro i hi
    have h5 : (tl4 (fnX2 E n) i).length = 2 * i := tl4_len (f := fnX2 E n) (d := 2) (fun _ => rfl) i
    have h6 : ([] : List va_E).length = 0 := rfl
    have hlen : ([] ++ (rw4 E 3 60 n 3 2 (i) :: .inl (ca3 E 0, 4, .inl (fun _ => 0)) :: .inl (ca3 E 0, 400, .inl (fun _ => 0)) :: tl4 (fnX2 E n) (i)) : List va_E).length = 3 + 2 * i := by
      simp only [List.length_append, List.length_cons, h5, h6]
      omega
    refine n4_iload 0 dX2_init_47 rfl ?_
    refine n4_bipush dX2_init_49 (by decide) ?_
    refine n4_icmp_ge (tgt := 74) dX2_init_51 rfl (by omega) (by omega) (fun h9 => by exfalso; omega) (fun h9 => ?_)
    refine n4_aload_n 1 dX2_init_54 rfl rfl ?_
    refine i4_get (v := .ref (B4 E + (n + 0))) hk dX2_init_55 fdX2_13 rfl ?_
    refine n4_iload 0 dX2_init_58 rfl ?_
    refine i4_new (T := TX3) (len := (3 + 2 * i)) hk hlen dX2_init_60 rfl clX2_11 isX3 iiX3 dfX3 (by omega) (by omega) ?_
    refine n4_dup dX2_init_63 rfl ?_
    refine i4_call (as := []) (st := [.ref (B4 E + (n + (3 + 2 * i))), .int (Int32.ofInt (i : Int)), .ref (B4 E + (n + 0))]) (L := _) (len := (3 + 2 * i)) hk hlen dX2_init_64 (k4X3) m4X3 (Or.inr nlX2_36) (by decide) (show (3 : Nat) ≤ 8 by decide) rfl (by omega) (by omega) ?_
    refine i4_aast (ci := 3) (t0 := 3) (a := 0) (b := 3 + 2 * i) hk dX2_init_67 (r := (RX3, TX3, 11)) rfl rfl (sh4_at h6) (last4 hlen) (by omega) ?_
    refine i4_list (L' := [] ++ (rw4 E 3 60 n 3 2 (i + 1) :: .inl (ca3 E 0, 4, .inl (fun _ => 0)) :: .inl (ca3 E 0, 400, .inl (fun _ => 0)) :: tl4 (fnX2 E n) (i + 1))) ((sh4_set h6).trans (congrArg (fun x => [] ++ (x :: .inl (ca3 E 0, 4, .inl (fun _ => 0)) :: .inl (ca3 E 0, 400, .inl (fun _ => 0)) :: tl4 (fnX2 E n) (i + 1))) (rw4_up rfl))) ?_
    refine n4_iinc (lv' := [(4, .int (Int32.ofInt ((i + 1 : Nat) : Int))), (0, .ref (B4 E + k)), (1, .ref a1), (2, .ref a2), (3, .ref a3)]) 0 dX2_init_68 rfl (by decide) rfl ?_
    refine n4_goto (tgt := 47) dX2_init_71 rfl ?_
    refine n4_cnt (uc' := 3 + 2 * (i + 1)) (us' := 464 + 31 * (i + 1)) (by omega) (by omega) ?_
    exact ih (i + 1) (by omega)
theorem k4X2 {E : E3} (a1 a2 a3 : Nat) : K4 E YX2_init 123 2324 [.ref a1, .ref a2, .ref a3] (.inr (2, zX2)) (fun k n => wX2 E a1 a2 a3 k n) (fun k n => LX2_4 E a1 a2 a3 k n) := by
  refine k4_in (lv := [(1, .ref a1), (2, .ref a2), (3, .ref a3)]) (by decide +kernel) rfl (fun k => rfl) (fun k => (show 4 ≤ 5 by decide)) fun c n k hk => ?_
  refine n4_aload_n 0 dX2_init_0 rfl rfl ?_
  refine n4_obj dX2_init_1 (by decide) nlX2_3 oi4 oc4 (by decide) ?_
  refine n4_aload_n 0 dX2_init_4 rfl rfl ?_
  refine n4_bipush dX2_init_5 (by decide) ?_
  refine i4_newq (N := 60) (t0 := 3) (len := 0) hk rfl dX2_init_7 clX2_11 (by decide) rfl (by decide) (by decide) (by decide) ?_
  refine i4_put hk dX2_init_10 fdX2_13 rfl rfl rfl (show 4 < 7 by decide) ?_
  refine n4_aload_n 0 dX2_init_13 rfl rfl ?_
  refine n4_iconst dX2_init_14 ?_
  refine i4_newi (N := 4) (len := 1) hk rfl dX2_init_15 (by decide) (by decide) (by decide) ?_
  refine i4_put hk dX2_init_17 fdX2_17 rfl rfl rfl (show 5 < 7 by decide) ?_
  refine n4_aload_n 0 dX2_init_20 rfl rfl ?_
  refine n4_sipush dX2_init_21 (by decide) ?_
  refine i4_newi (N := 400) (len := 2) hk rfl dX2_init_24 (by decide) (by decide) (by decide) ?_
  refine i4_put hk dX2_init_26 fdX2_21 rfl rfl rfl (show 6 < 7 by decide) ?_
  refine n4_aload_n 0 dX2_init_29 rfl rfl ?_
  refine n4_aload_n 1 dX2_init_30 rfl rfl ?_
  refine i4_put hk dX2_init_31 fdX2_24 rfl rfl rfl (show 1 < 7 by decide) ?_
  refine n4_aload_n 0 dX2_init_34 rfl rfl ?_
  refine n4_aload_n 2 dX2_init_35 rfl rfl ?_
  refine i4_put hk dX2_init_36 fdX2_28 rfl rfl rfl (show 2 < 7 by decide) ?_
  refine n4_aload_n 0 dX2_init_39 rfl rfl ?_
  refine n4_aload_n 3 dX2_init_40 rfl rfl ?_
  refine i4_put hk dX2_init_41 fdX2_32 rfl rfl rfl (show 3 < 7 by decide) ?_
  refine n4_iconst dX2_init_44 ?_
  refine n4_istore (lv' := [(4, .int (Int32.ofInt (0))), (0, .ref (B4 E + k)), (1, .ref a1), (2, .ref a2), (3, .ref a3)]) dX2_init_45 (by decide) rfl ?_
  refine n4_cnt (uc' := 3 + 2 * 0) (us' := 464 + 31 * 0) (by decide) (by decide) ?_
  refine i4_list (L' := [] ++ (rw4 E 3 60 n 3 2 (0) :: .inl (ca3 E 0, 4, .inl (fun _ => 0)) :: .inl (ca3 E 0, 400, .inl (fun _ => 0)) :: tl4 (fnX2 E n) (0))) (by rw [rw4_0]; rfl) ?_
  exact lpX2_47 (a1 := a1) (a2 := a2) (a3 := a3) hk 60 0 rfl
theorem lenX2 {E : E3} (a1 a2 a3 : Nat) {k n : Nat} : (LX2_4 E a1 a2 a3 k n).length = 123 := by
  have h5 : (tl4 (fnX2 E n) 60).length = 2 * 60 := tl4_len (f := fnX2 E n) (d := 2) (fun _ => rfl) 60
  unfold LX2_4
  simp only [List.length_append, List.length_cons, h5]
def wX6 (E : E3) (k n : Nat) : va_E := .inr (6, [.int 0, .ref (B4 E + (n + 0)), .ref (B4 E + (n + 1)), .ref (B4 E + (n + 2)), .ref (B4 E + (n + 3)), .ref (B4 E + (n + 4)), .int (Int32.ofInt (1)), .int (Int32.ofInt (540)), .int (Int32.ofInt (1020))])
def LX6_4 (E : E3) (k n : Nat) : List va_E := [.inl (ca3 E 0, 24, .inl (fun _ => 0)), .inl (ca3 E 0, 24, .inl (fun _ => 0)), .inl (ca3 E 0, 24, .inl (fun _ => 0)), .inl (ca3 E 0, 24, .inl (fun _ => 0)), it4 E 8 (8) (Int32.ofInt 20)]
theorem lpX6_65 {E : E3} {c : Im4} {n k : Nat} (hk : k < n) : ∀ (m i : Nat), i + m = 8 → N4 E YX6_init 5 104 (fin4 E YX6_init 5 104 (fun c' n' => c' = im4 c n k (wX6 E k n) (LX6_4 E k n) ∧ n' = n + (LX6_4 E k n).length)) (5) (104) 65 [(1, .int (Int32.ofInt (i : Int))), (0, .ref (B4 E + k))] [] (im4 c n k (.inr (6, [.int 0, .ref (B4 E + (n + 0)), .ref (B4 E + (n + 1)), .ref (B4 E + (n + 2)), .ref (B4 E + (n + 3)), .ref (B4 E + (n + 4)), .int (Int32.ofInt (1)), .int (Int32.ofInt (540)), .int (Int32.ofInt (1020))])) ([.inl (ca3 E 0, 24, .inl (fun _ => 0)), .inl (ca3 E 0, 24, .inl (fun _ => 0)), .inl (ca3 E 0, 24, .inl (fun _ => 0)), .inl (ca3 E 0, 24, .inl (fun _ => 0)), it4 E 8 (i) (Int32.ofInt 20)])) (n + ([.inl (ca3 E 0, 24, .inl (fun _ => 0)), .inl (ca3 E 0, 24, .inl (fun _ => 0)), .inl (ca3 E 0, 24, .inl (fun _ => 0)), .inl (ca3 E 0, 24, .inl (fun _ => 0)), it4 E 8 (i) (Int32.ofInt 20)] : List va_E).length) := by
  intro m
  induction m with
  | zero =>
    intro i hi
    obtain rfl : i = 8 := by omega
    refine n4_iload_n 0 dX6_init_65 rfl rfl ?_
    refine n4_bipush dX6_init_66 (by decide) ?_
    refine n4_icmp_ge (tgt := 85) dX6_init_68 rfl (by omega) (by omega) (fun h9 => ?_) (fun h9 => by exfalso; omega)
    exact n4_return dX6_init_85 (by decide) (by decide) ⟨rfl, rfl⟩
  | succ m ih =>
    intro i hi
    refine n4_iload_n 0 dX6_init_65 rfl rfl ?_
    refine n4_bipush dX6_init_66 (by decide) ?_
    refine n4_icmp_ge (tgt := 85) dX6_init_68 rfl (by omega) (by omega) (fun h9 => by exfalso; omega) (fun h9 => ?_)
    refine n4_aload_n 1 dX6_init_71 rfl rfl ?_
    refine i4_get (v := .ref (B4 E + (n + 4))) hk dX6_init_72 fdX6_24 rfl ?_
    refine n4_iload_n 0 dX6_init_75 rfl rfl ?_
    refine n4_bipush dX6_init_76 (by decide) ?_
    refine i4_iast (a := 4) (N := 8) hk dX6_init_78 rfl (by omega) ?_
    refine i4_list (L' := [.inl (ca3 E 0, 24, .inl (fun _ => 0)), .inl (ca3 E 0, 24, .inl (fun _ => 0)), .inl (ca3 E 0, 24, .inl (fun _ => 0)), .inl (ca3 E 0, 24, .inl (fun _ => 0)), it4 E 8 (i + 1) (Int32.ofInt 20)]) (congrArg (fun x : va_E => ([.inl (ca3 E 0, 24, .inl (fun _ => 0)), .inl (ca3 E 0, 24, .inl (fun _ => 0)), .inl (ca3 E 0, 24, .inl (fun _ => 0)), .inl (ca3 E 0, 24, .inl (fun _ => 0)), x] : List va_E)) (it4_up (E := E) (N := 8) (i := i) (x := (Int32.ofInt 20)) (q := (i : Int)) (by omega))) ?_
    refine n4_iinc (lv' := [(1, .int (Int32.ofInt ((i + 1 : Nat) : Int))), (0, .ref (B4 E + k))]) 0 dX6_init_79 rfl (by decide) rfl ?_
    refine n4_goto (tgt := 65) dX6_init_82 rfl ?_
    exact ih (i + 1) (by omega)
theorem k4X6 {E : E3} : K4 E YX6_init 5 104 [] (.inr (6, zX6)) (fun k n => wX6 E k n) (fun k n => LX6_4 E k n) := by
  refine k4_in (lv := []) (by decide +kernel) rfl (fun k => rfl) (fun k => (show 1 ≤ 2 by decide)) fun c n k hk => ?_
  refine n4_aload_n 0 dX6_init_0 rfl rfl ?_
  refine n4_obj dX6_init_1 (by decide) nlX6_3 oi4 oc4 (by decide) ?_
  refine n4_aload_n 0 dX6_init_4 rfl rfl ?_
  refine n4_bipush dX6_init_5 (by decide) ?_
  refine i4_newi (N := 24) (len := 0) hk rfl dX6_init_7 (by decide) (by decide) (by decide) ?_
  refine i4_put hk dX6_init_9 fdX6_11 rfl rfl rfl (show 1 < 9 by decide) ?_
  refine n4_aload_n 0 dX6_init_12 rfl rfl ?_
  refine n4_bipush dX6_init_13 (by decide) ?_
  refine i4_newi (N := 24) (len := 1) hk rfl dX6_init_15 (by decide) (by decide) (by decide) ?_
  refine i4_put hk dX6_init_17 fdX6_15 rfl rfl rfl (show 2 < 9 by decide) ?_
  refine n4_aload_n 0 dX6_init_20 rfl rfl ?_
  refine n4_bipush dX6_init_21 (by decide) ?_
  refine i4_newi (N := 24) (len := 2) hk rfl dX6_init_23 (by decide) (by decide) (by decide) ?_
  refine i4_put hk dX6_init_25 fdX6_18 rfl rfl rfl (show 3 < 9 by decide) ?_
  refine n4_aload_n 0 dX6_init_28 rfl rfl ?_
  refine n4_bipush dX6_init_29 (by decide) ?_
  refine i4_newi (N := 24) (len := 3) hk rfl dX6_init_31 (by decide) (by decide) (by decide) ?_
  refine i4_put hk dX6_init_33 fdX6_21 rfl rfl rfl (show 4 < 9 by decide) ?_
  refine n4_aload_n 0 dX6_init_36 rfl rfl ?_
  refine n4_bipush dX6_init_37 (by decide) ?_
  refine i4_newi (N := 8) (len := 4) hk rfl dX6_init_39 (by decide) (by decide) (by decide) ?_
  refine i4_put hk dX6_init_41 fdX6_24 rfl rfl rfl (show 5 < 9 by decide) ?_
  refine n4_aload_n 0 dX6_init_44 rfl rfl ?_
  refine n4_iconst dX6_init_45 ?_
  refine i4_put hk dX6_init_46 fdX6_27 rfl rfl rfl (show 6 < 9 by decide) ?_
  refine n4_aload_n 0 dX6_init_49 rfl rfl ?_
  refine n4_sipush dX6_init_50 (by decide) ?_
  refine i4_put hk dX6_init_53 fdX6_31 rfl rfl rfl (show 7 < 9 by decide) ?_
  refine n4_aload_n 0 dX6_init_56 rfl rfl ?_
  refine n4_sipush dX6_init_57 (by decide) ?_
  refine i4_put hk dX6_init_60 fdX6_34 rfl rfl rfl (show 8 < 9 by decide) ?_
  refine n4_iconst dX6_init_63 ?_
  refine n4_istore_n (lv' := [(1, .int (Int32.ofInt (0))), (0, .ref (B4 E + k))]) dX6_init_64 rfl (by decide) rfl ?_
  refine n4_cnt (uc' := 5) (us' := 104) (by decide) (by decide) ?_
  refine i4_list (L' := [.inl (ca3 E 0, 24, .inl (fun _ => 0)), .inl (ca3 E 0, 24, .inl (fun _ => 0)), .inl (ca3 E 0, 24, .inl (fun _ => 0)), .inl (ca3 E 0, 24, .inl (fun _ => 0)), it4 E 8 (0) (Int32.ofInt 20)]) (by rw [it4_0]; rfl) ?_
  exact lpX6_65 hk 8 0 rfl
theorem lenX6 {E : E3} {k n : Nat} : (LX6_4 E k n).length = 5 := rfl
