section
variable {l : Launch} {D : va_G} {ca : Nat → ClassId} {B b L : Nat} {xs : Nat → Int32}
theorem rg4_0 : ro4 (E0 l D ca B b L xs) 0 0 := by
  refine ⟨0, _, by decide, rfl, rfl, ?_⟩
  exact sm4_of rfl
theorem rg4_1 : ro4 (E0 l D ca B b L xs) 1 0 := by
  refine ⟨216, _, by decide, rfl, sgX11 (i := 0) rfl, ?_⟩
  show sm4 _ (.inl (ca 4, 4, .inr (.inr (.inr (.inr (fun j : Nat => some (ad0 b B 42 j)))))))
  refine sm4_q fun j hj => (if_pos hj).trans (congrArg some ?_)
  show B + _ = B + (217 + 2 * j)
  omega
theorem rg4_2 : ro4 (E0 l D ca B b L xs) 2 0 := by
  refine ⟨1, _, by decide, rfl, sgX1 (i := 0) rfl, ?_⟩
  exact sm4_of rfl
theorem rg4_3 : ro4 (E0 l D ca B b L xs) 3 0 := by
  refine ⟨2, _, by decide, rfl, sgX4 (i := 0) rfl, ?_⟩
  exact sm4_of rfl
theorem rg4_4 : ro4 (E0 l D ca B b L xs) 4 0 := by
  refine ⟨3, _, by decide, rfl, sgX4 (i := 1) rfl, ?_⟩
  show sm4 _ (.inl (ca 0, 200, .inl (fun j : Nat => Int32.ofInt (M0 4 0 j))))
  exact sm4_i fun j hj => rfl
theorem rg4_5 : ro4 (E0 l D ca B b L xs) 5 0 := by
  refine ⟨4, _, by decide, rfl, sgX4 (i := 2) rfl, ?_⟩
  show sm4 _ (.inl (ca 0, 50, .inl (fun j : Nat => Int32.ofInt (M0 5 0 j))))
  exact sm4_i fun j hj => rfl
theorem rg4_6 : ro4 (E0 l D ca B b L xs) 6 0 := by
  refine ⟨5, _, by decide, rfl, sgX4 (i := 3) rfl, ?_⟩
  show sm4 _ (.inl (ca 0, 50, .inl (fun j : Nat => Int32.ofInt (M0 6 0 j))))
  exact sm4_i fun j hj => rfl
theorem rg4_7 : ro4 (E0 l D ca B b L xs) 7 0 := by
  refine ⟨6, _, by decide, rfl, sgX4 (i := 4) rfl, ?_⟩
  show sm4 _ (.inl (ca 0, 50, .inl (fun j : Nat => Int32.ofInt (M0 7 0 j))))
  exact sm4_i fun j hj => rfl
theorem rg4_8 : ro4 (E0 l D ca B b L xs) 8 0 := by
  refine ⟨7, _, by decide, rfl, sgX4 (i := 5) rfl, ?_⟩
  show sm4 _ (.inl (ca 0, 24, .inl (fun j : Nat => Int32.ofInt (M0 8 0 j))))
  exact sm4_i fun j hj => rfl
theorem rg4_9 : ro4 (E0 l D ca B b L xs) 9 0 := by
  refine ⟨8, _, by decide, rfl, sgX4 (i := 6) rfl, ?_⟩
  show sm4 _ (.inl (ca 0, 24, .inl (fun j : Nat => Int32.ofInt (M0 9 0 j))))
  exact sm4_i fun j hj => rfl
theorem rg4_10 : ro4 (E0 l D ca B b L xs) 10 0 := by
  refine ⟨9, _, by decide, rfl, sgX0 (i := 0) rfl, ?_⟩
  exact sm4_of rfl
theorem rg4_11 : ro4 (E0 l D ca B b L xs) 11 0 := by
  refine ⟨10, _, by decide, rfl, sgX0 (i := 1) rfl, ?_⟩
  show sm4 _ (.inl (ca 2, 48, .inr (.inr (.inr (.inr (fun j : Nat => some (ad0 b B 13 j)))))))
  refine sm4_q fun j hj => (if_pos hj).trans (congrArg some ?_)
  show B + _ = B + (12 + 1 * j)
  omega
theorem rg4_12 : ro4 (E0 l D ca B b L xs) 12 0 := by
  refine ⟨11, _, by decide, rfl, sgX0 (i := 2) rfl, ?_⟩
  show sm4 _ (.inl (ca 0, 6, .inl (fun j : Nat => Int32.ofInt (M0 12 0 j))))
  exact sm4_i fun j hj => rfl
theorem rg4_13 {i : Nat} (hi : i < 48) : ro4 (E0 l D ca B b L xs) 13 i := by
  refine ⟨1 + (8 + (3 + (1 * i + 0))), _, by omega, (show B + (12 + 1 * i) = B + (1 + (8 + (3 + (1 * i + 0)))) by omega), sgX0 (i := 3 + (1 * i + 0)) (cons3_4 (tl4_at (f := fnX0 (E0 l D ca B b L xs) (1 + (8 + 1))) (d := 1) (fun _ => rfl) 48 i 0 hi (by decide))), ?_⟩
  refine sm4_of ?_
  rfl
theorem rg4_14 : ro4 (E0 l D ca B b L xs) 14 0 := by
  refine ⟨60, _, by decide, rfl, sgX2 (i := 0) rfl, ?_⟩
  exact sm4_of rfl
theorem rg4_15 : ro4 (E0 l D ca B b L xs) 15 0 := by
  refine ⟨61, _, by decide, rfl, sgX2 (i := 1) rfl, ?_⟩
  show sm4 _ (.inl (ca 3, 60, .inr (.inr (.inr (.inr (fun j : Nat => some (ad0 b B 18 j)))))))
  refine sm4_q fun j hj => (if_pos hj).trans (congrArg some ?_)
  show B + _ = B + (64 + 2 * j)
  omega
theorem rg4_16 : ro4 (E0 l D ca B b L xs) 16 0 := by
  refine ⟨62, _, by decide, rfl, sgX2 (i := 2) rfl, ?_⟩
  show sm4 _ (.inl (ca 0, 4, .inl (fun j : Nat => Int32.ofInt (M0 16 0 j))))
  exact sm4_i fun j hj => if_pos hj
theorem rg4_17 : ro4 (E0 l D ca B b L xs) 17 0 := by
  refine ⟨63, _, by decide, rfl, sgX2 (i := 3) rfl, ?_⟩
  show sm4 _ (.inl (ca 0, 400, .inl (fun j : Nat => Int32.ofInt (M0 17 0 j))))
  exact sm4_i fun j hj => rfl
theorem rg4_18 {i : Nat} (hi : i < 60) : ro4 (E0 l D ca B b L xs) 18 i := by
  refine ⟨1 + (59 + (4 + (2 * i + 0))), _, by omega, (show B + (64 + 2 * i) = B + (1 + (59 + (4 + (2 * i + 0)))) by omega), sgX2 (i := 4 + (2 * i + 0)) (cons4_4 (tl4_at (f := fnX2 (E0 l D ca B b L xs) (1 + (59 + 1))) (d := 2) (fun _ => rfl) 60 i 0 hi (by decide))), ?_⟩
  refine sm4_of ?_
  have e : B + (((1 + (59 + 1)) + (3 + 2 * i + 1)) + 0) = B + (65 + 2 * i) := by omega
  show (.inr (3, [.int 0, .int 0, .int 0, .int 0, .ref (B + (((1 + (59 + 1)) + (3 + 2 * i + 1)) + 0)), .int 0, .int 0, .int 0, .int 0, .int 0, .int 0]) : va_E) = .inr (3, [.int 0, .int 0, .int 0, .int 0, .ref (B + (65 + 2 * i)), .int 0, .int 0, .int 0, .int 0, .int 0, .int 0])
  rw [e]
theorem rg4_19 {i : Nat} (hi : i < 60) : ro4 (E0 l D ca B b L xs) 19 i := by
  refine ⟨1 + (59 + (4 + (2 * i + 1))), _, by omega, (show B + (65 + 2 * i) = B + (1 + (59 + (4 + (2 * i + 1)))) by omega), sgX2 (i := 4 + (2 * i + 1)) (cons4_4 (tl4_at (f := fnX2 (E0 l D ca B b L xs) (1 + (59 + 1))) (d := 2) (fun _ => rfl) 60 i 1 hi (by decide))), ?_⟩
  show sm4 _ (.inl (ca 0, 20, .inl (fun j : Nat => Int32.ofInt (M0 19 i j))))
  exact sm4_i fun j hj => rfl
theorem rg4_20 : ro4 (E0 l D ca B b L xs) 20 0 := by
  refine ⟨184, _, by decide, rfl, sgX6 (i := 0) rfl, ?_⟩
  exact sm4_of rfl
theorem rg4_21 : ro4 (E0 l D ca B b L xs) 21 0 := by
  refine ⟨185, _, by decide, rfl, sgX6 (i := 1) rfl, ?_⟩
  show sm4 _ (.inl (ca 0, 24, .inl (fun j : Nat => Int32.ofInt (M0 21 0 j))))
  exact sm4_i fun j hj => rfl
theorem rg4_22 : ro4 (E0 l D ca B b L xs) 22 0 := by
  refine ⟨186, _, by decide, rfl, sgX6 (i := 2) rfl, ?_⟩
  show sm4 _ (.inl (ca 0, 24, .inl (fun j : Nat => Int32.ofInt (M0 22 0 j))))
  exact sm4_i fun j hj => rfl
theorem rg4_23 : ro4 (E0 l D ca B b L xs) 23 0 := by
  refine ⟨187, _, by decide, rfl, sgX6 (i := 3) rfl, ?_⟩
  show sm4 _ (.inl (ca 0, 24, .inl (fun j : Nat => Int32.ofInt (M0 23 0 j))))
  exact sm4_i fun j hj => rfl
theorem rg4_24 : ro4 (E0 l D ca B b L xs) 24 0 := by
  refine ⟨188, _, by decide, rfl, sgX6 (i := 4) rfl, ?_⟩
  show sm4 _ (.inl (ca 0, 24, .inl (fun j : Nat => Int32.ofInt (M0 24 0 j))))
  exact sm4_i fun j hj => rfl
theorem rg4_25 : ro4 (E0 l D ca B b L xs) 25 0 := by
  refine ⟨189, _, by decide, rfl, sgX6 (i := 5) rfl, ?_⟩
  show sm4 _ (.inl (ca 0, 8, .inl (fun j : Nat => Int32.ofInt (M0 25 0 j))))
  exact sm4_i fun j hj => if_pos hj
theorem rg4_26 : ro4 (E0 l D ca B b L xs) 26 0 := by
  refine ⟨190, _, by decide, rfl, sgX5 (i := 0) rfl, ?_⟩
  exact sm4_of rfl
theorem rg4_27 : ro4 (E0 l D ca B b L xs) 27 0 := by
  refine ⟨191, _, by decide, rfl, sgX5 (i := 1) rfl, ?_⟩
  show sm4 _ (.inl (ca 5, 6, .inr (.inr (.inr (.inr (fun j : Nat => some (ad0 b B 28 j)))))))
  refine sm4_q fun j hj => (if_pos hj).trans (congrArg some ?_)
  show B + _ + 1 + j = B + (192 + 1 * j)
  omega
theorem rg4_28 {i : Nat} (hi : i < 6) : ro4 (E0 l D ca B b L xs) 28 i := by
  have hl : (CC4 (E0 l D ca B b L xs))[1 + (189 + (2 + i))]? = some (.inl (ca 0, 13, .inl (fun _ => 0))) := by
    refine sgX5 (i := 2 + i) ?_
    rcases (show i = 0 ∨ i = 1 ∨ i = 2 ∨ i = 3 ∨ i = 4 ∨ i = 5 by omega) with rfl | rfl | rfl | rfl | rfl | rfl <;> rfl
  refine ⟨1 + (189 + (2 + i)), _, by omega, (show B + (192 + 1 * i) = B + (1 + (189 + (2 + i))) by omega), hl, ?_⟩
  show sm4 _ (.inl (ca 0, 13, .inl (fun j : Nat => Int32.ofInt (M0 28 i j))))
  exact sm4_i fun j hj => rfl
theorem rg4_29 : ro4 (E0 l D ca B b L xs) 29 0 := by
  refine ⟨198, _, by decide, rfl, sgX5 (i := 8) rfl, ?_⟩
  show sm4 _ (.inl (ca 5, 6, .inr (.inr (.inr (.inr (fun j : Nat => some (ad0 b B 30 j)))))))
  refine sm4_q fun j hj => (if_pos hj).trans (congrArg some ?_)
  show B + _ + 1 + j = B + (199 + 1 * j)
  omega
theorem rg4_30 {i : Nat} (hi : i < 6) : ro4 (E0 l D ca B b L xs) 30 i := by
  have hl : (CC4 (E0 l D ca B b L xs))[1 + (189 + (9 + i))]? = some (.inl (ca 0, 13, .inl (fun _ => 0))) := by
    refine sgX5 (i := 9 + i) ?_
    rcases (show i = 0 ∨ i = 1 ∨ i = 2 ∨ i = 3 ∨ i = 4 ∨ i = 5 by omega) with rfl | rfl | rfl | rfl | rfl | rfl <;> rfl
  refine ⟨1 + (189 + (9 + i)), _, by omega, (show B + (199 + 1 * i) = B + (1 + (189 + (9 + i))) by omega), hl, ?_⟩
  show sm4 _ (.inl (ca 0, 13, .inl (fun j : Nat => Int32.ofInt (M0 30 i j))))
  exact sm4_i fun j hj => rfl
theorem rg4_31 : ro4 (E0 l D ca B b L xs) 31 0 := by
  refine ⟨205, _, by decide, rfl, sgX10 (i := 0) rfl, ?_⟩
  exact sm4_of rfl
theorem rg4_32 : ro4 (E0 l D ca B b L xs) 32 0 := by
  refine ⟨206, _, by decide, rfl, sgX10 (i := 1) rfl, ?_⟩
  show sm4 _ (.inl (ca 1, 8, .inl (fun j : Nat => Int32.ofInt (M0 32 0 j))))
  exact sm4_i fun j hj => rfl
theorem rg4_33 : ro4 (E0 l D ca B b L xs) 33 0 := by
  refine ⟨207, _, by decide, rfl, sgX10 (i := 2) rfl, ?_⟩
  show sm4 _ (.inl (ca 0, 8, .inl (fun j : Nat => Int32.ofInt (M0 33 0 j))))
  exact sm4_i fun j hj => rfl
theorem rg4_34 : ro4 (E0 l D ca B b L xs) 34 0 := by
  refine ⟨208, _, by decide, rfl, sgX10 (i := 3) rfl, ?_⟩
  show sm4 _ (.inl (ca 0, 8, .inl (fun j : Nat => Int32.ofInt (M0 34 0 j))))
  exact sm4_i fun j hj => rfl
theorem rg4_35 : ro4 (E0 l D ca B b L xs) 35 0 := by
  refine ⟨209, _, by decide, rfl, sgX10 (i := 4) rfl, ?_⟩
  show sm4 _ (.inl (ca 0, 6, .inl (fun j : Nat => Int32.ofInt (M0 35 0 j))))
  exact sm4_i fun j hj => rfl
theorem rg4_36 : ro4 (E0 l D ca B b L xs) 36 0 := by
  refine ⟨210, _, by decide, rfl, sgX7 (i := 0) rfl, ?_⟩
  exact sm4_of rfl
theorem rg4_37 : ro4 (E0 l D ca B b L xs) 37 0 := by
  refine ⟨211, _, by decide, rfl, sgX7 (i := 1) rfl, ?_⟩
  show sm4 _ (.inl (ca 0, 30, .inl (fun j : Nat => Int32.ofInt (M0 37 0 j))))
  exact sm4_i fun j hj => rfl
theorem rg4_38 : ro4 (E0 l D ca B b L xs) 38 0 := by
  refine ⟨212, _, by decide, rfl, sgX7 (i := 2) rfl, ?_⟩
  show sm4 _ (.inl (ca 0, 30, .inl (fun j : Nat => Int32.ofInt (M0 38 0 j))))
  exact sm4_i fun j hj => rfl
theorem rg4_39 : ro4 (E0 l D ca B b L xs) 39 0 := by
  refine ⟨213, _, by decide, rfl, sgX7 (i := 3) rfl, ?_⟩
  show sm4 _ (.inl (ca 0, 30, .inl (fun j : Nat => Int32.ofInt (M0 39 0 j))))
  exact sm4_i fun j hj => rfl
theorem rg4_40 : ro4 (E0 l D ca B b L xs) 40 0 := by
  refine ⟨214, _, by decide, rfl, sgX7 (i := 4) rfl, ?_⟩
  show sm4 _ (.inl (ca 0, 30, .inl (fun j : Nat => Int32.ofInt (M0 40 0 j))))
  exact sm4_i fun j hj => rfl
theorem rg4_41 : ro4 (E0 l D ca B b L xs) 41 0 := by
  refine ⟨215, _, by decide, rfl, sgX7 (i := 5) rfl, ?_⟩
  show sm4 _ (.inl (ca 0, 6, .inl (fun j : Nat => Int32.ofInt (M0 41 0 j))))
  exact sm4_i fun j hj => rfl
theorem rg4_42 {i : Nat} (hi : i < 4) : ro4 (E0 l D ca B b L xs) 42 i := by
  refine ⟨1 + (215 + (1 + (2 * i + 0))), _, by omega, (show B + (217 + 2 * i) = B + (1 + (215 + (1 + (2 * i + 0)))) by omega), sgX11 (i := 1 + (2 * i + 0)) (cons1_4 (tl4_at (f := fnX11 (E0 l D ca B b L xs) 1) (d := 2) (fun _ => rfl) 4 i 0 hi (by decide))), ?_⟩
  refine sm4_of ?_
  have e : B + ((1 + (216 + 2 * i + 1)) + 0) = B + (218 + 2 * i) := by omega
  show (.inr (9, [.int (Int32.ofInt (-1)), .int 0, .ref (B + ((1 + (216 + 2 * i + 1)) + 0))]) : va_E) = .inr (9, [.int (Int32.ofInt (-1)), .int 0, .ref (B + (218 + 2 * i))])
  rw [e]
theorem rg4_43 {i : Nat} (hi : i < 4) : ro4 (E0 l D ca B b L xs) 43 i := by
  refine ⟨1 + (215 + (1 + (2 * i + 1))), _, by omega, (show B + (218 + 2 * i) = B + (1 + (215 + (1 + (2 * i + 1)))) by omega), sgX11 (i := 1 + (2 * i + 1)) (cons1_4 (tl4_at (f := fnX11 (E0 l D ca B b L xs) 1) (d := 2) (fun _ => rfl) 4 i 1 hi (by decide))), ?_⟩
  show sm4 _ (.inl (ca 0, 40, .inl (fun j : Nat => Int32.ofInt (M0 43 i j))))
  exact sm4_i fun j hj => rfl
theorem rg4_44 : ro4 (E0 l D ca B b L xs) 44 0 := by
  refine ⟨225, _, by decide, rfl, sgX12 (i := 0) rfl, ?_⟩
  exact sm4_of rfl
theorem rg4_45 : ro4 (E0 l D ca B b L xs) 45 0 := by
  refine ⟨226, _, by decide, rfl, sgX12 (i := 1) rfl, ?_⟩
  show sm4 _ (.inl (ca 0, 48, .inl (fun j : Nat => Int32.ofInt (M0 45 0 j))))
  exact sm4_i fun j hj => rfl
theorem rg4_46 : ro4 (E0 l D ca B b L xs) 46 0 := by
  refine ⟨227, _, by decide, rfl, sgX12 (i := 2) rfl, ?_⟩
  show sm4 _ (.inl (ca 0, 48, .inl (fun j : Nat => Int32.ofInt (M0 46 0 j))))
  exact sm4_i fun j hj => rfl
theorem rg4_47 : ro4 (E0 l D ca B b L xs) 47 0 := by
  refine ⟨228, _, by decide, rfl, sgX12 (i := 3) rfl, ?_⟩
  show sm4 _ (.inl (ca 0, 48, .inl (fun j : Nat => Int32.ofInt (M0 47 0 j))))
  exact sm4_i fun j hj => rfl
theorem rg4_48 : ro4 (E0 l D ca B b L xs) 48 0 := by
  refine ⟨229, _, by decide, rfl, sgX12 (i := 4) rfl, ?_⟩
  show sm4 _ (.inl (ca 0, 48, .inl (fun j : Nat => Int32.ofInt (M0 48 0 j))))
  exact sm4_i fun j hj => rfl
theorem rg4_49 : ro4 (E0 l D ca B b L xs) 49 0 := by
  refine ⟨230, _, by decide, rfl, sgX12 (i := 5) rfl, ?_⟩
  show sm4 _ (.inl (ca 0, 48, .inl (fun j : Nat => Int32.ofInt (M0 49 0 j))))
  exact sm4_i fun j hj => rfl
theorem rg4_50 : ro4 (E0 l D ca B b L xs) 50 0 := by
  refine ⟨231, _, by decide, rfl, sgX12 (i := 6) rfl, ?_⟩
  show sm4 _ (.inl (ca 0, 48, .inl (fun j : Nat => Int32.ofInt (M0 50 0 j))))
  exact sm4_i fun j hj => rfl
theorem rg4_51 : ro4 (E0 l D ca B b L xs) 51 0 := by
  refine ⟨232, _, by decide, rfl, sgX12 (i := 7) rfl, ?_⟩
  show sm4 _ (.inl (ca 0, 48, .inl (fun j : Nat => Int32.ofInt (M0 51 0 j))))
  exact sm4_i fun j hj => rfl
theorem rg4_52 : ro4 (E0 l D ca B b L xs) 52 0 := by
  refine ⟨233, _, by decide, rfl, sgX12 (i := 8) rfl, ?_⟩
  show sm4 _ (.inl (ca 0, 200, .inl (fun j : Nat => Int32.ofInt (M0 52 0 j))))
  exact sm4_i fun j hj => rfl
theorem rg4_53 : ro4 (E0 l D ca B b L xs) 53 0 := by
  refine ⟨234, _, by decide, rfl, sgX12 (i := 9) rfl, ?_⟩
  show sm4 _ (.inl (ca 0, 60, .inl (fun j : Nat => Int32.ofInt (M0 53 0 j))))
  exact sm4_i fun j hj => rfl
theorem rg4_54 : ro4 (E0 l D ca B b L xs) 54 0 := by
  refine ⟨235, _, by decide, rfl, sgX12 (i := 10) rfl, ?_⟩
  show sm4 _ (.inl (ca 0, 60, .inl (fun j : Nat => Int32.ofInt (M0 54 0 j))))
  exact sm4_i fun j hj => rfl
theorem rg4_55 : ro4 (E0 l D ca B b L xs) 55 0 := by
  refine ⟨236, _, by decide, rfl, sgX12 (i := 11) rfl, ?_⟩
  show sm4 _ (.inl (ca 0, 60, .inl (fun j : Nat => Int32.ofInt (M0 55 0 j))))
  exact sm4_i fun j hj => rfl
theorem rg4_56 : ro4 (E0 l D ca B b L xs) 56 0 := by
  refine ⟨237, _, by decide, rfl, sgX12 (i := 12) rfl, ?_⟩
  show sm4 _ (.inl (ca 0, 60, .inl (fun j : Nat => Int32.ofInt (M0 56 0 j))))
  exact sm4_i fun j hj => rfl
theorem rg4_57 : ro4 (E0 l D ca B b L xs) 57 0 := by
  refine ⟨238, _, by decide, rfl, sgX12 (i := 13) rfl, ?_⟩
  show sm4 _ (.inl (ca 0, 60, .inl (fun j : Nat => Int32.ofInt (M0 57 0 j))))
  exact sm4_i fun j hj => rfl
theorem rg4_58 : ro4 (E0 l D ca B b L xs) 58 0 := by
  refine ⟨239, _, by decide, rfl, sgX12 (i := 14) rfl, ?_⟩
  show sm4 _ (.inl (ca 0, 60, .inl (fun j : Nat => Int32.ofInt (M0 58 0 j))))
  exact sm4_i fun j hj => rfl
theorem rg4_59 : ro4 (E0 l D ca B b L xs) 59 0 := by
  refine ⟨240, _, by decide, rfl, sgX12 (i := 15) rfl, ?_⟩
  show sm4 _ (.inl (ca 0, 1200, .inl (fun j : Nat => Int32.ofInt (M0 59 0 j))))
  exact sm4_i fun j hj => rfl
theorem rg4_60 : ro4 (E0 l D ca B b L xs) 60 0 := by
  refine ⟨241, _, by decide, rfl, sgX12 (i := 16) rfl, ?_⟩
  show sm4 _ (.inl (ca 0, 60, .inl (fun j : Nat => Int32.ofInt (M0 60 0 j))))
  exact sm4_i fun j hj => rfl
theorem rg4_61 : ro4 (E0 l D ca B b L xs) 61 0 := by
  refine ⟨242, _, by decide, rfl, sgX12 (i := 17) rfl, ?_⟩
  show sm4 _ (.inl (ca 0, 60, .inl (fun j : Nat => Int32.ofInt (M0 61 0 j))))
  exact sm4_i fun j hj => rfl
theorem rg4_62 : ro4 (E0 l D ca B b L xs) 62 0 := by
  refine ⟨243, _, by decide, rfl, sgX12 (i := 18) rfl, ?_⟩
  show sm4 _ (.inl (ca 0, 60, .inl (fun j : Nat => Int32.ofInt (M0 62 0 j))))
  exact sm4_i fun j hj => rfl
theorem rg4_63 : ro4 (E0 l D ca B b L xs) 63 0 := by
  refine ⟨244, _, by decide, rfl, sgX12 (i := 19) rfl, ?_⟩
  show sm4 _ (.inl (ca 0, 60, .inl (fun j : Nat => Int32.ofInt (M0 63 0 j))))
  exact sm4_i fun j hj => rfl
theorem rg4_64 : ro4 (E0 l D ca B b L xs) 64 0 := by
  refine ⟨245, _, by decide, rfl, sgX12 (i := 20) rfl, ?_⟩
  show sm4 _ (.inl (ca 0, 8, .inl (fun j : Nat => Int32.ofInt (M0 64 0 j))))
  exact sm4_i fun j hj => if_pos hj
theorem rg4_65 : ro4 (E0 l D ca B b L xs) 65 0 := by
  refine ⟨246, _, by decide, rfl, sgX12 (i := 21) rfl, ?_⟩
  show sm4 _ (.inl (ca 0, 24, .inl (fun j : Nat => Int32.ofInt (M0 65 0 j))))
  exact sm4_i fun j hj => rfl
theorem rg4_66 : ro4 (E0 l D ca B b L xs) 66 0 := by
  refine ⟨247, _, by decide, rfl, sgX12 (i := 22) rfl, ?_⟩
  show sm4 _ (.inl (ca 0, 24, .inl (fun j : Nat => Int32.ofInt (M0 66 0 j))))
  exact sm4_i fun j hj => rfl
theorem rg4_67 : ro4 (E0 l D ca B b L xs) 67 0 := by
  refine ⟨248, _, by decide, rfl, sgX12 (i := 23) rfl, ?_⟩
  show sm4 _ (.inl (ca 0, 24, .inl (fun j : Nat => Int32.ofInt (M0 67 0 j))))
  exact sm4_i fun j hj => rfl
theorem rg4_68 : ro4 (E0 l D ca B b L xs) 68 0 := by
  refine ⟨249, _, by decide, rfl, sgX12 (i := 24) rfl, ?_⟩
  show sm4 _ (.inl (ca 0, 78, .inl (fun j : Nat => Int32.ofInt (M0 68 0 j))))
  exact sm4_i fun j hj => rfl
theorem rg4_69 : ro4 (E0 l D ca B b L xs) 69 0 := by
  refine ⟨250, _, by decide, rfl, sgX12 (i := 25) rfl, ?_⟩
  show sm4 _ (.inl (ca 0, 6, .inl (fun j : Nat => Int32.ofInt (M0 69 0 j))))
  exact sm4_i fun j hj => rfl
theorem rg4_70 : ro4 (E0 l D ca B b L xs) 70 0 := by
  refine ⟨251, _, by decide, rfl, sgX12 (i := 26) rfl, ?_⟩
  show sm4 _ (.inl (ca 0, 6, .inl (fun j : Nat => Int32.ofInt (M0 70 0 j))))
  exact sm4_i fun j hj => rfl
theorem rg4_71 : ro4 (E0 l D ca B b L xs) 71 0 := by
  refine ⟨252, _, by decide, rfl, sgX12 (i := 27) rfl, ?_⟩
  show sm4 _ (.inl (ca 0, 120, .inl (fun j : Nat => Int32.ofInt (M0 71 0 j))))
  exact sm4_i fun j hj => rfl
theorem rg4_72 : ro4 (E0 l D ca B b L xs) 72 0 := by
  refine ⟨253, _, by decide, rfl, sgX12 (i := 28) rfl, ?_⟩
  show sm4 _ (.inl (ca 0, 6, .inl (fun j : Nat => Int32.ofInt (M0 72 0 j))))
  exact sm4_i fun j hj => rfl
theorem rg4_73 : ro4 (E0 l D ca B b L xs) 73 0 := by
  refine ⟨254, _, by decide, rfl, sgX12 (i := 29) rfl, ?_⟩
  show sm4 _ (.inl (ca 1, 48, .inl (fun j : Nat => Int32.ofInt (M0 73 0 j))))
  exact sm4_i fun j hj => rfl
theorem rg4_74 : ro4 (E0 l D ca B b L xs) 74 0 := by
  refine ⟨255, _, by decide, rfl, sgX12 (i := 30) rfl, ?_⟩
  show sm4 _ (.inl (ca 0, 4, .inl (fun j : Nat => Int32.ofInt (M0 74 0 j))))
  exact sm4_i fun j hj => if_pos hj
theorem rg4_75 : ro4 (E0 l D ca B b L xs) 75 0 := by
  refine ⟨256, _, by decide, rfl, sgX12 (i := 31) rfl, ?_⟩
  show sm4 _ (.inl (ca 1, 8, .inl (fun j : Nat => Int32.ofInt (M0 75 0 j))))
  exact sm4_i fun j hj => rfl
theorem rg4_76 : ro4 (E0 l D ca B b L xs) 76 0 := by
  refine ⟨257, _, by decide, rfl, sgX12 (i := 32) rfl, ?_⟩
  show sm4 _ (.inl (ca 0, 8, .inl (fun j : Nat => Int32.ofInt (M0 76 0 j))))
  exact sm4_i fun j hj => rfl
theorem rg4_77 : ro4 (E0 l D ca B b L xs) 77 0 := by
  refine ⟨258, _, by decide, rfl, sgX12 (i := 33) rfl, ?_⟩
  show sm4 _ (.inl (ca 0, 8, .inl (fun j : Nat => Int32.ofInt (M0 77 0 j))))
  exact sm4_i fun j hj => rfl
theorem rg4_78 : ro4 (E0 l D ca B b L xs) 78 0 := by
  refine ⟨259, _, by decide, rfl, sgX12 (i := 34) rfl, ?_⟩
  show sm4 _ (.inl (ca 0, 48, .inl (fun j : Nat => Int32.ofInt (M0 78 0 j))))
  exact sm4_i fun j hj => rfl
theorem rg4_79 : ro4 (E0 l D ca B b L xs) 79 0 := by
  refine ⟨260, _, by decide, rfl, sgX12 (i := 35) rfl, ?_⟩
  show sm4 _ (.inl (ca 1, 48, .inl (fun j : Nat => Int32.ofInt (M0 79 0 j))))
  exact sm4_i fun j hj => rfl
theorem rg4_80 : ro4 (E0 l D ca B b L xs) 80 0 := by
  refine ⟨261, _, by decide, rfl, sgX12 (i := 36) rfl, ?_⟩
  show sm4 _ (.inl (ca 1, 4, .inl (fun j : Nat => Int32.ofInt (M0 80 0 j))))
  exact sm4_i fun j hj => rfl
theorem rg4_81 : ro4 (E0 l D ca B b L xs) 81 0 := by
  refine ⟨262, _, by decide, rfl, sgX12 (i := 37) rfl, ?_⟩
  show sm4 _ (.inl (ca 0, 4, .inl (fun j : Nat => Int32.ofInt (M0 81 0 j))))
  exact sm4_i fun j hj => rfl
theorem rg4_82 : ro4 (E0 l D ca B b L xs) 82 0 := by
  refine ⟨263, _, by decide, rfl, sgX12 (i := 38) rfl, ?_⟩
  show sm4 _ (.inl (ca 0, 4, .inl (fun j : Nat => Int32.ofInt (M0 82 0 j))))
  exact sm4_i fun j hj => rfl
theorem rg4_83 : ro4 (E0 l D ca B b L xs) 83 0 := by
  refine ⟨264, _, by decide, rfl, sgX12 (i := 39) rfl, ?_⟩
  show sm4 _ (.inl (ca 0, 160, .inl (fun j : Nat => Int32.ofInt (M0 83 0 j))))
  exact sm4_i fun j hj => rfl
theorem rg4_84 : ro4 (E0 l D ca B b L xs) 84 0 := by
  refine ⟨265, _, by decide, rfl, sgX12 (i := 40) rfl, ?_⟩
  show sm4 _ (.inl (ca 0, 40, .inl (fun j : Nat => Int32.ofInt (M0 84 0 j))))
  exact sm4_i fun j hj => rfl
end
