theorem rg4_all {l : Launch} {D : va_G} {ca : Nat → ClassId} {B b L : Nat} {xs : Nat → Int32} {r i : Nat} (hr : r < 85) (hi : i < (rt3 r).1) : ro4 (E0 l D ca B b L xs) r i := by
  match r, hr, hi with
  | 0, _, hi =>
    have h : i < 1 := hi
    obtain rfl : i = 0 := by omega
    exact rg4_0
  | 1, _, hi =>
    have h : i < 1 := hi
    obtain rfl : i = 0 := by omega
    exact rg4_1
  | 2, _, hi =>
    have h : i < 1 := hi
    obtain rfl : i = 0 := by omega
    exact rg4_2
  | 3, _, hi =>
    have h : i < 1 := hi
    obtain rfl : i = 0 := by omega
    exact rg4_3
  | 4, _, hi =>
    have h : i < 1 := hi
    obtain rfl : i = 0 := by omega
    exact rg4_4
  | 5, _, hi =>
    have h : i < 1 := hi
    obtain rfl : i = 0 := by omega
    exact rg4_5
  | 6, _, hi =>
    have h : i < 1 := hi
    obtain rfl : i = 0 := by omega
    exact rg4_6
  | 7, _, hi =>
    have h : i < 1 := hi
    obtain rfl : i = 0 := by omega
    exact rg4_7
  | 8, _, hi =>
    have h : i < 1 := hi
    obtain rfl : i = 0 := by omega
    exact rg4_8
  | 9, _, hi =>
    have h : i < 1 := hi
    obtain rfl : i = 0 := by omega
    exact rg4_9
  | 10, _, hi =>
    have h : i < 1 := hi
    obtain rfl : i = 0 := by omega
    exact rg4_10
  | 11, _, hi =>
    have h : i < 1 := hi
    obtain rfl : i = 0 := by omega
    exact rg4_11
  | 12, _, hi =>
    have h : i < 1 := hi
    obtain rfl : i = 0 := by omega
    exact rg4_12
  | 13, _, hi => exact rg4_13 hi
  | 14, _, hi =>
    have h : i < 1 := hi
    obtain rfl : i = 0 := by omega
    exact rg4_14
  | 15, _, hi =>
    have h : i < 1 := hi
    obtain rfl : i = 0 := by omega
    exact rg4_15
  | 16, _, hi =>
    have h : i < 1 := hi
    obtain rfl : i = 0 := by omega
    exact rg4_16
  | 17, _, hi =>
    have h : i < 1 := hi
    obtain rfl : i = 0 := by omega
    exact rg4_17
  | 18, _, hi => exact rg4_18 hi
  | 19, _, hi => exact rg4_19 hi
  | 20, _, hi =>
    have h : i < 1 := hi
    obtain rfl : i = 0 := by omega
    exact rg4_20
  | 21, _, hi =>
    have h : i < 1 := hi
    obtain rfl : i = 0 := by omega
    exact rg4_21
  | 22, _, hi =>
    have h : i < 1 := hi
    obtain rfl : i = 0 := by omega
    exact rg4_22
  | 23, _, hi =>
    have h : i < 1 := hi
    obtain rfl : i = 0 := by omega
    exact rg4_23
  | 24, _, hi =>
    have h : i < 1 := hi
    obtain rfl : i = 0 := by omega
    exact rg4_24
  | 25, _, hi =>
    have h : i < 1 := hi
    obtain rfl : i = 0 := by omega
    exact rg4_25
  | 26, _, hi =>
    have h : i < 1 := hi
    obtain rfl : i = 0 := by omega
    exact rg4_26
  | 27, _, hi =>
    have h : i < 1 := hi
    obtain rfl : i = 0 := by omega
    exact rg4_27
  | 28, _, hi => exact rg4_28 hi
  | 29, _, hi =>
    have h : i < 1 := hi
    obtain rfl : i = 0 := by omega
    exact rg4_29
  | 30, _, hi => exact rg4_30 hi
  | 31, _, hi =>
    have h : i < 1 := hi
    obtain rfl : i = 0 := by omega
    exact rg4_31
  | 32, _, hi =>
    have h : i < 1 := hi
    obtain rfl : i = 0 := by omega
    exact rg4_32
  | 33, _, hi =>
    have h : i < 1 := hi
    obtain rfl : i = 0 := by omega
    exact rg4_33
  | 34, _, hi =>
    have h : i < 1 := hi
    obtain rfl : i = 0 := by omega
    exact rg4_34
  | 35, _, hi =>
    have h : i < 1 := hi
    obtain rfl : i = 0 := by omega
    exact rg4_35
  | 36, _, hi =>
    have h : i < 1 := hi
    obtain rfl : i = 0 := by omega
    exact rg4_36
  | 37, _, hi =>
    have h : i < 1 := hi
    obtain rfl : i = 0 := by omega
    exact rg4_37
  | 38, _, hi =>
    have h : i < 1 := hi
    obtain rfl : i = 0 := by omega
    exact rg4_38
  | 39, _, hi =>
    have h : i < 1 := hi
    obtain rfl : i = 0 := by omega
    exact rg4_39
  | 40, _, hi =>
    have h : i < 1 := hi
    obtain rfl : i = 0 := by omega
    exact rg4_40
  | 41, _, hi =>
    have h : i < 1 := hi
    obtain rfl : i = 0 := by omega
    exact rg4_41
  | 42, _, hi => exact rg4_42 hi
  | 43, _, hi => exact rg4_43 hi
  | 44, _, hi =>
    have h : i < 1 := hi
    obtain rfl : i = 0 := by omega
    exact rg4_44
  | 45, _, hi =>
    have h : i < 1 := hi
    obtain rfl : i = 0 := by omega
    exact rg4_45
  | 46, _, hi =>
    have h : i < 1 := hi
    obtain rfl : i = 0 := by omega
    exact rg4_46
  | 47, _, hi =>
    have h : i < 1 := hi
    obtain rfl : i = 0 := by omega
    exact rg4_47
  | 48, _, hi =>
    have h : i < 1 := hi
    obtain rfl : i = 0 := by omega
    exact rg4_48
  | 49, _, hi =>
    have h : i < 1 := hi
    obtain rfl : i = 0 := by omega
    exact rg4_49
  | 50, _, hi =>
    have h : i < 1 := hi
    obtain rfl : i = 0 := by omega
    exact rg4_50
  | 51, _, hi =>
    have h : i < 1 := hi
    obtain rfl : i = 0 := by omega
    exact rg4_51
  | 52, _, hi =>
    have h : i < 1 := hi
    obtain rfl : i = 0 := by omega
    exact rg4_52
  | 53, _, hi =>
    have h : i < 1 := hi
    obtain rfl : i = 0 := by omega
    exact rg4_53
  | 54, _, hi =>
    have h : i < 1 := hi
    obtain rfl : i = 0 := by omega
    exact rg4_54
  | 55, _, hi =>
    have h : i < 1 := hi
    obtain rfl : i = 0 := by omega
    exact rg4_55
  | 56, _, hi =>
    have h : i < 1 := hi
    obtain rfl : i = 0 := by omega
    exact rg4_56
  | 57, _, hi =>
    have h : i < 1 := hi
    obtain rfl : i = 0 := by omega
    exact rg4_57
  | 58, _, hi =>
    have h : i < 1 := hi
    obtain rfl : i = 0 := by omega
    exact rg4_58
  | 59, _, hi =>
    have h : i < 1 := hi
    obtain rfl : i = 0 := by omega
    exact rg4_59
  | 60, _, hi =>
    have h : i < 1 := hi
    obtain rfl : i = 0 := by omega
    exact rg4_60
  | 61, _, hi =>
    have h : i < 1 := hi
    obtain rfl : i = 0 := by omega
    exact rg4_61
  | 62, _, hi =>
    have h : i < 1 := hi
    obtain rfl : i = 0 := by omega
    exact rg4_62
  | 63, _, hi =>
    have h : i < 1 := hi
    obtain rfl : i = 0 := by omega
    exact rg4_63
  | 64, _, hi =>
    have h : i < 1 := hi
    obtain rfl : i = 0 := by omega
    exact rg4_64
  | 65, _, hi =>
    have h : i < 1 := hi
    obtain rfl : i = 0 := by omega
    exact rg4_65
  | 66, _, hi =>
    have h : i < 1 := hi
    obtain rfl : i = 0 := by omega
    exact rg4_66
  | 67, _, hi =>
    have h : i < 1 := hi
    obtain rfl : i = 0 := by omega
    exact rg4_67
  | 68, _, hi =>
    have h : i < 1 := hi
    obtain rfl : i = 0 := by omega
    exact rg4_68
  | 69, _, hi =>
    have h : i < 1 := hi
    obtain rfl : i = 0 := by omega
    exact rg4_69
  | 70, _, hi =>
    have h : i < 1 := hi
    obtain rfl : i = 0 := by omega
    exact rg4_70
  | 71, _, hi =>
    have h : i < 1 := hi
    obtain rfl : i = 0 := by omega
    exact rg4_71
  | 72, _, hi =>
    have h : i < 1 := hi
    obtain rfl : i = 0 := by omega
    exact rg4_72
  | 73, _, hi =>
    have h : i < 1 := hi
    obtain rfl : i = 0 := by omega
    exact rg4_73
  | 74, _, hi =>
    have h : i < 1 := hi
    obtain rfl : i = 0 := by omega
    exact rg4_74
  | 75, _, hi =>
    have h : i < 1 := hi
    obtain rfl : i = 0 := by omega
    exact rg4_75
  | 76, _, hi =>
    have h : i < 1 := hi
    obtain rfl : i = 0 := by omega
    exact rg4_76
  | 77, _, hi =>
    have h : i < 1 := hi
    obtain rfl : i = 0 := by omega
    exact rg4_77
  | 78, _, hi =>
    have h : i < 1 := hi
    obtain rfl : i = 0 := by omega
    exact rg4_78
  | 79, _, hi =>
    have h : i < 1 := hi
    obtain rfl : i = 0 := by omega
    exact rg4_79
  | 80, _, hi =>
    have h : i < 1 := hi
    obtain rfl : i = 0 := by omega
    exact rg4_80
  | 81, _, hi =>
    have h : i < 1 := hi
    obtain rfl : i = 0 := by omega
    exact rg4_81
  | 82, _, hi =>
    have h : i < 1 := hi
    obtain rfl : i = 0 := by omega
    exact rg4_82
  | 83, _, hi =>
    have h : i < 1 := hi
    obtain rfl : i = 0 := by omega
    exact rg4_83
  | 84, _, hi =>
    have h : i < 1 := hi
    obtain rfl : i = 0 := by omega
    exact rg4_84
  | r + 85, hr, _ => omega
theorem flat3_lt {q : Nat × Nat} (h : q ∈ flat3) : q.1 < 85 ∧ q.2 < (rt3 q.1).1 := by
  unfold flat3 at h
  obtain ⟨r, hr, h2⟩ := List.mem_flatMap.mp h
  obtain ⟨i, hi, rfl⟩ := List.mem_map.mp h2
  exact ⟨List.mem_range.mp hr, List.mem_range.mp hi⟩
section
variable {l : Launch} {D : va_G} {ca : Nat → ClassId} {B b L : Nat} {xs : Nat → Int32}
theorem start_P {H : Heap} (hP : At4 (E0 l D ca B b L xs) (cc4 (E0 l D ca B b L xs)) 266 H) : va_P (D3 (E0 l D ca B b L xs)) vwCl (wl3 (E0 l D ca B b L xs) M0) H := by
  intro k q hq
  unfold wl3 at hq
  rw [List.getElem?_map] at hq
  cases hf : flat3[k]? with
  | none => rw [hf] at hq; cases hq
  | some p =>
    rw [hf] at hq
    cases hq
    have h1 := flat3_lt (List.mem_of_getElem? hf)
    exact ro4_at (rg4_all h1.1 h1.2) hP D rfl
theorem off4_nodup : (flat3.map fun q => (OT4.getD q.1 (0, 0)).1 + (OT4.getD q.1 (0, 0)).2 * q.2).Nodup := by decide +kernel
theorem ad0_off {q : Nat × Nat} (h : q ∈ flat3) : ad0 b B q.1 q.2 = B + ((OT4.getD q.1 (0, 0)).1 + (OT4.getD q.1 (0, 0)).2 * q.2) := by
  have h1 := (flat3_lt h).1
  unfold ad0
  rw [if_neg (by omega), if_neg (by omega)]
theorem start_ok : ok3 (E0 l D ca B b L xs) := by
  refine ⟨fun i j p q hp hq e => ?_, fun q hq => ?_⟩
  · have e1 : ad0 b B p.1 p.2 = ad0 b B q.1 q.2 := e
    rw [ad0_off (List.mem_of_getElem? hp), ad0_off (List.mem_of_getElem? hq)] at e1
    have e2 := Nat.add_left_cancel e1
    refine (List.getElem?_inj ?_ off4_nodup).mp ?_
    · rw [List.length_map]
      exact (List.getElem?_eq_some_iff.mp hp).1
    · rw [List.getElem?_map, List.getElem?_map, hp, hq]
      exact congrArg some e2
  · show B ≤ ad0 b B q.1 q.2
    rw [ad0_off hq]
    exact Nat.le_add_right _ _
theorem start_ok4 : ok4 (E0 l D ca B b L xs) := fun q h => h
end
theorem start_RM : RM3 M0 := by
  intro r i j
  unfold M0
  split <;> (repeat' split) <;> omega
theorem start_inv : Inv M0 := by
  refine ⟨⟨⟨⟨rfl, rfl, ⟨by decide, by decide⟩, ⟨by decide, by decide⟩, rfl⟩, ⟨rfl, ⟨by decide, by decide⟩, fun k _ _ => rfl⟩, ⟨rfl, ⟨by decide, by decide⟩, fun p h0 h1 => ?_⟩, ⟨rfl, ⟨by decide, by decide⟩, fun f h0 h1 => ?_⟩, fun c _ _ => ⟨rfl, (show (-1 : Int) ≤ -1 by decide), (show (-1 : Int) ≤ 399 by decide)⟩, ?_, ⟨rfl, ⟨by decide, by decide⟩, fun k h0 h1 => ?_⟩, ⟨rfl, ⟨by decide, by decide⟩, fun k h0 h1 => ?_⟩, fun s _ _ => Or.inl ⟨rfl, rfl⟩⟩, fun f h0 h1 => ?_⟩, ?_, ?_⟩
  · refine ⟨⟨rfl, rfl, rfl, rfl, rfl, rfl⟩, fun _ => rfl, fun h => ?_, (show (0 : Int) ≤ 0 ∧ (0 : Int) ≤ 5 by decide), (show (0 : Int) ≤ 0 ∧ (0 : Int) ≤ 1 by decide), (show (0 : Int) ≤ 0 ∧ (0 : Int) ≤ 20 by decide), (show (0 : Int) ≤ 0 ∧ (0 : Int) ≤ 9 by decide), ?_, ?_, (show (0 : Int) ≤ 0 ∧ (0 : Int) ≤ 9 by decide)⟩
    · have h9 : (3 : Int) ≤ 0 := h
      omega
    · refine ⟨(show (-1 : Int) ≤ 0 by decide), (show (0 : Int) < 48 by decide), fun h => ?_⟩
      have h9 : p < 0 := h
      omega
    · exact ⟨(show (0 : Int) ≤ 0 by decide), (show (0 : Int) ≤ 4 by decide), fun _ => rfl⟩
  · have h9 : f < 0 := h1
    omega
  · refine ⟨⟨rfl, rfl, rfl, rfl⟩, fun _ _ _ => rfl, ⟨by decide, by decide, by decide, by decide, fun _ _ _ => (show (1 : Int) ≤ 20 ∧ (20 : Int) ≤ 120 by decide), fun k h0 h1 => ?_⟩, fun i j h0 h1 => ?_, fun i h0 h1 => ?_, fun _ => 0, ⟨fun i h0 h1 => ?_, fun i j h0 h1 h2 => ?_, fun j h0 h1 => ?_⟩, fun i h0 h1 => ?_⟩
    · have h9 : k < 0 := h1
      omega
    · have h9 : i < 0 := h1
      omega
    · have h9 : i < 0 := h1
      omega
    · have h9 : i < 0 := h1
      omega
    · have h9 : j < 0 := h2
      omega
    · have h9 : j < 0 := h1
      omega
    · have h9 : i < 0 := h1
      omega
  · have h9 : k < 0 := h1
    omega
  · have h9 : k < 0 := h1
    omega
  · have h9 : f < 0 := h1
    omega
  · have e0 : lwF 0 (M0 4 0) = 0 := by decide +kernel
    have e1 : LL3 M0 = [] := by
      show lwL 0 (M0 4 0) = []
      unfold lwL
      rw [e0]
      rfl
    refine ⟨by decide, e0.symm, by rw [e1]; rfl, ?_, Or.inl rfl⟩
    rw [e1]
    intro k h0 h1
    have h9 : k < 0 := h1
    omega
  · exact ⟨by decide, Or.inl rfl⟩
