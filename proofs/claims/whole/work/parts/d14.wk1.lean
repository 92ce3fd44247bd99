/-! THE CONSTRUCTORS without a loop -/
def wX8 (E : E3) (k n : Nat) : va_E := .inr (8, [.int 0, .int 0, .int 0, .int 0, .int 0, .int 0, .int 0])
def LX8_4 (E : E3) (k n : Nat) : List va_E := []
theorem k4X8 {E : E3} : K4 E YX8_init 0 0 [] (.inr (8, zX8)) (fun k n => wX8 E k n) (fun k n => LX8_4 E k n) := by
  refine k4_in (lv := []) (by decide +kernel) rfl (fun k => rfl) (fun k => (show 1 ≤ 1 by decide)) fun c n k hk => ?_
  refine n4_aload_n 0 dX8_init_0 rfl rfl ?_
  refine n4_obj dX8_init_1 (by decide) nlX8_3 oi4 oc4 (by decide) ?_
  exact n4_return dX8_init_4 (by decide) (by decide) ⟨rfl, rfl⟩
theorem lenX8 {E : E3} {k n : Nat} : (LX8_4 E k n).length = 0 := rfl
def wX9 (E : E3) (k n : Nat) : va_E := .inr (9, [.int (Int32.ofInt (-1)), .int 0, .ref (B4 E + (n + 0))])
def LX9_4 (E : E3) (k n : Nat) : List va_E := [.inl (ca3 E 0, 40, .inl (fun _ => 0))]
theorem k4X9 {E : E3} : K4 E YX9_init 1 40 [] (.inr (9, zX9)) (fun k n => wX9 E k n) (fun k n => LX9_4 E k n) := by
  refine k4_in (lv := []) (by decide +kernel) rfl (fun k => rfl) (fun k => (show 1 ≤ 1 by decide)) fun c n k hk => ?_
  refine n4_aload_n 0 dX9_init_0 rfl rfl ?_
  refine n4_obj dX9_init_1 (by decide) nlX9_3 oi4 oc4 (by decide) ?_
  refine n4_aload_n 0 dX9_init_4 rfl rfl ?_
  refine n4_iconst dX9_init_5 ?_
  refine i4_put hk dX9_init_6 fdX9_9 rfl rfl rfl (show 0 < 3 by decide) ?_
  refine n4_aload_n 0 dX9_init_9 rfl rfl ?_
  refine n4_bipush dX9_init_10 (by decide) ?_
  refine i4_newi (N := 40) (len := 0) hk rfl dX9_init_12 (by decide) (by decide) (by decide) ?_
  refine i4_put hk dX9_init_14 fdX9_15 rfl rfl rfl (show 2 < 3 by decide) ?_
  exact n4_return dX9_init_17 (by decide) (by decide) ⟨rfl, rfl⟩
theorem lenX9 {E : E3} {k n : Nat} : (LX9_4 E k n).length = 1 := rfl
def wX1 (E : E3) (k n : Nat) : va_E := .inr (1, [.int 0, .int (Int32.ofInt (-1))])
def LX1_4 (E : E3) (k n : Nat) : List va_E := []
theorem k4X1 {E : E3} : K4 E YX1_init 0 0 [] (.inr (1, zX1)) (fun k n => wX1 E k n) (fun k n => LX1_4 E k n) := by
  refine k4_in (lv := []) (by decide +kernel) rfl (fun k => rfl) (fun k => (show 1 ≤ 1 by decide)) fun c n k hk => ?_
  refine n4_aload_n 0 dX1_init_0 rfl rfl ?_
  refine n4_obj dX1_init_1 (by decide) nlX1_3 oi4 oc4 (by decide) ?_
  refine n4_aload_n 0 dX1_init_4 rfl rfl ?_
  refine n4_iconst dX1_init_5 ?_
  refine i4_put hk dX1_init_6 fdX1_9 rfl rfl rfl (show 1 < 2 by decide) ?_
  exact n4_return dX1_init_9 (by decide) (by decide) ⟨rfl, rfl⟩
theorem lenX1 {E : E3} {k n : Nat} : (LX1_4 E k n).length = 0 := rfl
def wX3 (E : E3) (k n : Nat) : va_E := .inr (3, [.int 0, .int 0, .int 0, .int 0, .ref (B4 E + (n + 0)), .int 0, .int 0, .int 0, .int 0, .int 0, .int 0])
def LX3_4 (E : E3) (k n : Nat) : List va_E := [.inl (ca3 E 0, 20, .inl (fun _ => 0))]
theorem k4X3 {E : E3} : K4 E YX3_init 1 20 [] (.inr (3, zX3)) (fun k n => wX3 E k n) (fun k n => LX3_4 E k n) := by
  refine k4_in (lv := []) (by decide +kernel) rfl (fun k => rfl) (fun k => (show 1 ≤ 1 by decide)) fun c n k hk => ?_
  refine n4_aload_n 0 dX3_init_0 rfl rfl ?_
  refine n4_obj dX3_init_1 (by decide) nlX3_3 oi4 oc4 (by decide) ?_
  refine n4_aload_n 0 dX3_init_4 rfl rfl ?_
  refine n4_bipush dX3_init_5 (by decide) ?_
  refine i4_newi (N := 20) (len := 0) hk rfl dX3_init_7 (by decide) (by decide) (by decide) ?_
  refine i4_put hk dX3_init_9 fdX3_9 rfl rfl rfl (show 4 < 11 by decide) ?_
  exact n4_return dX3_init_12 (by decide) (by decide) ⟨rfl, rfl⟩
theorem lenX3 {E : E3} {k n : Nat} : (LX3_4 E k n).length = 1 := rfl
def wX4 (E : E3) (k n : Nat) : va_E := .inr (4, [.int 0, .int 0, .ref (B4 E + (n + 0)), .int 0, .int 0, .ref (B4 E + (n + 1)), .ref (B4 E + (n + 2)), .ref (B4 E + (n + 3)), .ref (B4 E + (n + 4)), .ref (B4 E + (n + 5)), .int (Int32.ofInt (-1))])
def LX4_4 (E : E3) (k n : Nat) : List va_E := [.inl (ca3 E 0, 200, .inl (fun _ => 0)), .inl (ca3 E 0, 50, .inl (fun _ => 0)), .inl (ca3 E 0, 50, .inl (fun _ => 0)), .inl (ca3 E 0, 50, .inl (fun _ => 0)), .inl (ca3 E 0, 24, .inl (fun _ => 0)), .inl (ca3 E 0, 24, .inl (fun _ => 0))]
theorem k4X4 {E : E3} : K4 E YX4_init 6 398 [] (.inr (4, zX4)) (fun k n => wX4 E k n) (fun k n => LX4_4 E k n) := by
  refine k4_in (lv := []) (by decide +kernel) rfl (fun k => rfl) (fun k => (show 1 ≤ 1 by decide)) fun c n k hk => ?_
  refine n4_aload_n 0 dX4_init_0 rfl rfl ?_
  refine n4_obj dX4_init_1 (by decide) nlX4_3 oi4 oc4 (by decide) ?_
  refine n4_aload_n 0 dX4_init_4 rfl rfl ?_
  refine n4_sipush dX4_init_5 (by decide) ?_
  refine i4_newi (N := 200) (len := 0) hk rfl dX4_init_8 (by decide) (by decide) (by decide) ?_
  refine i4_put hk dX4_init_10 fdX4_11 rfl rfl rfl (show 2 < 11 by decide) ?_
  refine n4_aload_n 0 dX4_init_13 rfl rfl ?_
  refine n4_bipush dX4_init_14 (by decide) ?_
  refine i4_newi (N := 50) (len := 1) hk rfl dX4_init_16 (by decide) (by decide) (by decide) ?_
  refine i4_put hk dX4_init_18 fdX4_15 rfl rfl rfl (show 5 < 11 by decide) ?_
  refine n4_aload_n 0 dX4_init_21 rfl rfl ?_
  refine n4_bipush dX4_init_22 (by decide) ?_
  refine i4_newi (N := 50) (len := 2) hk rfl dX4_init_24 (by decide) (by decide) (by decide) ?_
  refine i4_put hk dX4_init_26 fdX4_18 rfl rfl rfl (show 6 < 11 by decide) ?_
  refine n4_aload_n 0 dX4_init_29 rfl rfl ?_
  refine n4_bipush dX4_init_30 (by decide) ?_
  refine i4_newi (N := 50) (len := 3) hk rfl dX4_init_32 (by decide) (by decide) (by decide) ?_
  refine i4_put hk dX4_init_34 fdX4_21 rfl rfl rfl (show 7 < 11 by decide) ?_
  refine n4_aload_n 0 dX4_init_37 rfl rfl ?_
  refine n4_bipush dX4_init_38 (by decide) ?_
  refine i4_newi (N := 24) (len := 4) hk rfl dX4_init_40 (by decide) (by decide) (by decide) ?_
  refine i4_put hk dX4_init_42 fdX4_24 rfl rfl rfl (show 8 < 11 by decide) ?_
  refine n4_aload_n 0 dX4_init_45 rfl rfl ?_
  refine n4_bipush dX4_init_46 (by decide) ?_
  refine i4_newi (N := 24) (len := 5) hk rfl dX4_init_48 (by decide) (by decide) (by decide) ?_
  refine i4_put hk dX4_init_50 fdX4_27 rfl rfl rfl (show 9 < 11 by decide) ?_
  refine n4_aload_n 0 dX4_init_53 rfl rfl ?_
  refine n4_iconst dX4_init_54 ?_
  refine i4_put hk dX4_init_55 fdX4_30 rfl rfl rfl (show 10 < 11 by decide) ?_
  exact n4_return dX4_init_58 (by decide) (by decide) ⟨rfl, rfl⟩
theorem lenX4 {E : E3} {k n : Nat} : (LX4_4 E k n).length = 6 := rfl
def wX5 (E : E3) (a1 a2 a3 : Nat) (k n : Nat) : va_E := .inr (5, [.ref a1, .ref a2, .ref a3, .ref (B4 E + (n + 0)), .ref (B4 E + (n + 7))])
def LX5_4 (E : E3) (a1 a2 a3 : Nat) (k n : Nat) : List va_E := [.inl (ca3 E 5, 6, .inr (.inr (.inr (.inr (fun j => if j < 6 then some (B4 E + (n + 0) + 1 + j) else none))))), .inl (ca3 E 0, 13, .inl (fun _ => 0)), .inl (ca3 E 0, 13, .inl (fun _ => 0)), .inl (ca3 E 0, 13, .inl (fun _ => 0)), .inl (ca3 E 0, 13, .inl (fun _ => 0)), .inl (ca3 E 0, 13, .inl (fun _ => 0)), .inl (ca3 E 0, 13, .inl (fun _ => 0)), .inl (ca3 E 5, 6, .inr (.inr (.inr (.inr (fun j => if j < 6 then some (B4 E + (n + 7) + 1 + j) else none))))), .inl (ca3 E 0, 13, .inl (fun _ => 0)), .inl (ca3 E 0, 13, .inl (fun _ => 0)), .inl (ca3 E 0, 13, .inl (fun _ => 0)), .inl (ca3 E 0, 13, .inl (fun _ => 0)), .inl (ca3 E 0, 13, .inl (fun _ => 0)), .inl (ca3 E 0, 13, .inl (fun _ => 0))]
theorem k4X5 {E : E3} (a1 a2 a3 : Nat) : K4 E YX5_init 14 168 [.ref a1, .ref a2, .ref a3] (.inr (5, zX5)) (fun k n => wX5 E a1 a2 a3 k n) (fun k n => LX5_4 E a1 a2 a3 k n) := by
  refine k4_in (lv := [(1, .ref a1), (2, .ref a2), (3, .ref a3)]) (by decide +kernel) rfl (fun k => rfl) (fun k => (show 4 ≤ 4 by decide)) fun c n k hk => ?_
  refine n4_aload_n 0 dX5_init_0 rfl rfl ?_
  refine n4_obj dX5_init_1 (by decide) nlX5_3 oi4 oc4 (by decide) ?_
  refine n4_aload_n 0 dX5_init_4 rfl rfl ?_
  refine n4_bipush dX5_init_5 (by decide) ?_
  refine n4_bipush dX5_init_7 (by decide) ?_
  refine i4_multi (N := 6) (M := 13) (len := 0) hk rfl dX5_init_9 clX5_11 (by decide) (by decide) (by decide) (by decide) ?_
  refine i4_put hk dX5_init_13 fdX5_13 rfl rfl rfl (show 3 < 5 by decide) ?_
  refine n4_aload_n 0 dX5_init_16 rfl rfl ?_
  refine n4_bipush dX5_init_17 (by decide) ?_
  refine n4_bipush dX5_init_19 (by decide) ?_
  refine i4_multi (N := 6) (M := 13) (len := 7) hk rfl dX5_init_21 clX5_11 (by decide) (by decide) (by decide) (by decide) ?_
  refine i4_put hk dX5_init_25 fdX5_16 rfl rfl rfl (show 4 < 5 by decide) ?_
  refine n4_aload_n 0 dX5_init_28 rfl rfl ?_
  refine n4_aload_n 1 dX5_init_29 rfl rfl ?_
  refine i4_put hk dX5_init_30 fdX5_19 rfl rfl rfl (show 0 < 5 by decide) ?_
  refine n4_aload_n 0 dX5_init_33 rfl rfl ?_
  refine n4_aload_n 2 dX5_init_34 rfl rfl ?_
  refine i4_put hk dX5_init_35 fdX5_23 rfl rfl rfl (show 1 < 5 by decide) ?_
  refine n4_aload_n 0 dX5_init_38 rfl rfl ?_
  refine n4_aload_n 3 dX5_init_39 rfl rfl ?_
  refine i4_put hk dX5_init_40 fdX5_27 rfl rfl rfl (show 2 < 5 by decide) ?_
  exact n4_return dX5_init_43 (by decide) (by decide) ⟨rfl, rfl⟩
theorem lenX5 {E : E3} (a1 a2 a3 : Nat) {k n : Nat} : (LX5_4 E a1 a2 a3 k n).length = 14 := rfl
def wX7 (E : E3) (a1 a2 : Nat) (k n : Nat) : va_E := .inr (7, [.int 0, .ref a1, .ref a2, .ref (B4 E + (n + 0)), .ref (B4 E + (n + 1)), .ref (B4 E + (n + 2)), .ref (B4 E + (n + 3)), .ref (B4 E + (n + 4))])
def LX7_4 (E : E3) (a1 a2 : Nat) (k n : Nat) : List va_E := [.inl (ca3 E 0, 30, .inl (fun _ => 0)), .inl (ca3 E 0, 30, .inl (fun _ => 0)), .inl (ca3 E 0, 30, .inl (fun _ => 0)), .inl (ca3 E 0, 30, .inl (fun _ => 0)), .inl (ca3 E 0, 6, .inl (fun _ => 0))]
theorem k4X7 {E : E3} (a1 a2 : Nat) : K4 E YX7_init 5 126 [.ref a1, .ref a2] (.inr (7, zX7)) (fun k n => wX7 E a1 a2 k n) (fun k n => LX7_4 E a1 a2 k n) := by
  refine k4_in (lv := [(1, .ref a1), (2, .ref a2)]) (by decide +kernel) rfl (fun k => rfl) (fun k => (show 3 ≤ 3 by decide)) fun c n k hk => ?_
  refine n4_aload_n 0 dX7_init_0 rfl rfl ?_
  refine n4_obj dX7_init_1 (by decide) nlX7_3 oi4 oc4 (by decide) ?_
  refine n4_aload_n 0 dX7_init_4 rfl rfl ?_
  refine n4_bipush dX7_init_5 (by decide) ?_
  refine i4_newi (N := 30) (len := 0) hk rfl dX7_init_7 (by decide) (by decide) (by decide) ?_
  refine i4_put hk dX7_init_9 fdX7_11 rfl rfl rfl (show 3 < 8 by decide) ?_
  refine n4_aload_n 0 dX7_init_12 rfl rfl ?_
  refine n4_bipush dX7_init_13 (by decide) ?_
  refine i4_newi (N := 30) (len := 1) hk rfl dX7_init_15 (by decide) (by decide) (by decide) ?_
  refine i4_put hk dX7_init_17 fdX7_15 rfl rfl rfl (show 4 < 8 by decide) ?_
  refine n4_aload_n 0 dX7_init_20 rfl rfl ?_
  refine n4_bipush dX7_init_21 (by decide) ?_
  refine i4_newi (N := 30) (len := 2) hk rfl dX7_init_23 (by decide) (by decide) (by decide) ?_
  refine i4_put hk dX7_init_25 fdX7_18 rfl rfl rfl (show 5 < 8 by decide) ?_
  refine n4_aload_n 0 dX7_init_28 rfl rfl ?_
  refine n4_bipush dX7_init_29 (by decide) ?_
  refine i4_newi (N := 30) (len := 3) hk rfl dX7_init_31 (by decide) (by decide) (by decide) ?_
  refine i4_put hk dX7_init_33 fdX7_21 rfl rfl rfl (show 6 < 8 by decide) ?_
  refine n4_aload_n 0 dX7_init_36 rfl rfl ?_
  refine n4_bipush dX7_init_37 (by decide) ?_
  refine i4_newi (N := 6) (len := 4) hk rfl dX7_init_39 (by decide) (by decide) (by decide) ?_
  refine i4_put hk dX7_init_41 fdX7_24 rfl rfl rfl (show 7 < 8 by decide) ?_
  refine n4_aload_n 0 dX7_init_44 rfl rfl ?_
  refine n4_aload_n 1 dX7_init_45 rfl rfl ?_
  refine i4_put hk dX7_init_46 fdX7_27 rfl rfl rfl (show 1 < 8 by decide) ?_
  refine n4_aload_n 0 dX7_init_49 rfl rfl ?_
  refine n4_aload_n 2 dX7_init_50 rfl rfl ?_
  refine i4_put hk dX7_init_51 fdX7_31 rfl rfl rfl (show 2 < 8 by decide) ?_
  exact n4_return dX7_init_54 (by decide) (by decide) ⟨rfl, rfl⟩
theorem lenX7 {E : E3} (a1 a2 : Nat) {k n : Nat} : (LX7_4 E a1 a2 k n).length = 5 := rfl
def wX10 (E : E3) (a1 a2 a3 a4 : Nat) (k n : Nat) : va_E := .inr (10, [.int 0, .ref a1, .ref a2, .ref a3, .ref a4, .ref (B4 E + (n + 0)), .ref (B4 E + (n + 1)), .ref (B4 E + (n + 2)), .ref (B4 E + (n + 3)), .int 0, .int 0, .int 0])
def LX10_4 (E : E3) (a1 a2 a3 a4 : Nat) (k n : Nat) : List va_E := [.inl (ca3 E 1, 8, .inl (fun _ => 0)), .inl (ca3 E 0, 8, .inl (fun _ => 0)), .inl (ca3 E 0, 8, .inl (fun _ => 0)), .inl (ca3 E 0, 6, .inl (fun _ => 0))]
theorem k4X10 {E : E3} (a1 a2 a3 a4 : Nat) : K4 E YX10_init 4 30 [.ref a1, .ref a2, .ref a3, .ref a4] (.inr (10, zX10)) (fun k n => wX10 E a1 a2 a3 a4 k n) (fun k n => LX10_4 E a1 a2 a3 a4 k n) := by
  refine k4_in (lv := [(1, .ref a1), (2, .ref a2), (3, .ref a3), (4, .ref a4)]) (by decide +kernel) rfl (fun k => rfl) (fun k => (show 5 ≤ 5 by decide)) fun c n k hk => ?_
  refine n4_aload_n 0 dX10_init_0 rfl rfl ?_
  refine n4_obj dX10_init_1 (by decide) nlX10_3 oi4 oc4 (by decide) ?_
  refine n4_aload_n 0 dX10_init_4 rfl rfl ?_
  refine n4_bipush dX10_init_5 (by decide) ?_
  refine i4_newb (N := 8) (len := 0) hk rfl dX10_init_7 (by decide) (by decide) (by decide) ?_
  refine i4_put hk dX10_init_9 fdX10_11 rfl rfl rfl (show 5 < 12 by decide) ?_
  refine n4_aload_n 0 dX10_init_12 rfl rfl ?_
  refine n4_bipush dX10_init_13 (by decide) ?_
  refine i4_newi (N := 8) (len := 1) hk rfl dX10_init_15 (by decide) (by decide) (by decide) ?_
  refine i4_put hk dX10_init_17 fdX10_15 rfl rfl rfl (show 6 < 12 by decide) ?_
  refine n4_aload_n 0 dX10_init_20 rfl rfl ?_
  refine n4_bipush dX10_init_21 (by decide) ?_
  refine i4_newi (N := 8) (len := 2) hk rfl dX10_init_23 (by decide) (by decide) (by decide) ?_
  refine i4_put hk dX10_init_25 fdX10_19 rfl rfl rfl (show 7 < 12 by decide) ?_
  refine n4_aload_n 0 dX10_init_28 rfl rfl ?_
  refine n4_bipush dX10_init_29 (by decide) ?_
  refine i4_newi (N := 6) (len := 3) hk rfl dX10_init_31 (by decide) (by decide) (by decide) ?_
  refine i4_put hk dX10_init_33 fdX10_22 rfl rfl rfl (show 8 < 12 by decide) ?_
  refine n4_aload_n 0 dX10_init_36 rfl rfl ?_
  refine n4_aload_n 1 dX10_init_37 rfl rfl ?_
  refine i4_put hk dX10_init_38 fdX10_25 rfl rfl rfl (show 1 < 12 by decide) ?_
  refine n4_aload_n 0 dX10_init_41 rfl rfl ?_
  refine n4_aload_n 2 dX10_init_42 rfl rfl ?_
  refine i4_put hk dX10_init_43 fdX10_29 rfl rfl rfl (show 2 < 12 by decide) ?_
  refine n4_aload_n 0 dX10_init_46 rfl rfl ?_
  refine n4_aload_n 3 dX10_init_47 rfl rfl ?_
  refine i4_put hk dX10_init_48 fdX10_33 rfl rfl rfl (show 3 < 12 by decide) ?_
  refine n4_aload_n 0 dX10_init_51 rfl rfl ?_
  refine n4_aload 4 dX10_init_52 rfl ?_
  refine i4_put hk dX10_init_54 fdX10_37 rfl rfl rfl (show 4 < 12 by decide) ?_
  exact n4_return dX10_init_57 (by decide) (by decide) ⟨rfl, rfl⟩
theorem lenX10 {E : E3} (a1 a2 a3 a4 : Nat) {k n : Nat} : (LX10_4 E a1 a2 a3 a4 k n).length = 4 := rfl
