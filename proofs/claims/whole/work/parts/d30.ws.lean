theorem inst4 {ci : Nat} {q : vw_C} (h : vwCl[ci]? = some q) : Cond.instantiable q.1 q.2.2 ∈ gt3 := by
  match ci, h with
  | 0, h => cases h; exact isX0
  | 1, h => cases h; exact isX1
  | 2, h => cases h; exact isX2
  | 3, h => cases h; exact isX3
  | 4, h => cases h; exact isX4
  | 5, h => cases h; exact isX5
  | 6, h => cases h; exact isX6
  | 7, h => cases h; exact isX7
  | 8, h => cases h; exact isX8
  | 9, h => cases h; exact isX9
  | 10, h => cases h; exact isX10
  | 11, h => cases h; exact isX11
  | 12, h => cases h; exact isX12
  | n + 13, h => simp [vwCl] at h
theorem nl3_in : ∀ w ∈ nl3, w ∈ lw_tbl := by decide +kernel
theorem nl3_tb : ∀ w ∈ nl3, w.onTables = true := by decide +kernel
theorem nl4_in : ∀ w ∈ nl4, w ∈ lw_tbl := by decide +kernel
theorem nl4_tb : ∀ w ∈ nl4, w.onTables = true := by decide +kernel
theorem ao_in : ∀ C ∈ ([RX8, RX3, RX9] : List String), Cond.arrayOver (.object C) ∈ lw_tbl := by decide +kernel
theorem aa_in : Cond.arrayOver (.array .int) ∈ lw_tbl := by decide +kernel
theorem arr_of {s : State} {cA comp : ClassId} {k : Class} {ty : FieldType} (h1 : s.vm.classes[cA]? = some k) (h2 : k.kind = .array comp ty) : ArrOfT s cA ty := fun n z => ⟨fun q h => (by cases h), k, h1, comp, h2⟩
def fL4 (E : E3) : Fn4 := fun p e R s m args below meth cd Z => fin3 E YL (fun v _ => v = some (vI 1)) p e R s m args below meth cd 266 6858 Z ∧ (va_X (b3 E) (L3 E) (xs3 E) s s.heap ∧ b3 E < s.heap.size ∧ ¬ A3 E (b3 E)) ∧ nst3 s ∧ ok3 E
theorem lawLeaf {l : Launch} {D : va_G} {ca : Nat → ClassId} {B b L : Nat} {xs : Nat → Int32} (hL : L ≤ 3072) : N4 (E0 l D ca B b L xs) YL 266 6858 (fL4 (E0 l D ca B b L xs)) 266 6858 18 [(3, .int (Int32.ofInt 0)), (2, .ref (B4 (E0 l D ca B b L xs) + 225)), (1, .ref (B4 (E0 l D ca B b L xs) + 0)), (0, .ref (ad3 (E0 l D ca B b L xs) 99 0))] [] (cc4 (E0 l D ca B b L xs)) 266 := by
  intro p e R s m args below meth cd Z H locs ls hA hP hS hl
  obtain ⟨f1, f2, f3, f4⟩ := hA.2.2.2.2.2.2.2.2.2.2.2
  have hL' : ((L3 (E0 l D ca B b L xs) : Nat) : Int) ≤ 3072 := by
    show (L : Int) ≤ 3072
    omega
  have G := lawLoop (E := E0 l D ca B b L xs) (Q := fun v _ => v = some (vI 1)) rfl hL' (fun K _ => rfl) 3072 0 M0 (Int.le_refl 0) (by show (L : Int) - 0 ≤ _; omega) (by decide) start_inv
  exact G p e R s m args below meth cd 266 6858 Z H locs ls ⟨hA.1, hA.2.1, hA.2.2.1, hA.2.2.2.1, hA.2.2.2.2.1, hA.2.2.2.2.2.1, hA.2.2.2.2.2.2.1, f2, f3, f4, f1⟩ start_RM (start_P hP) hS (lv_sub hl [3, 2, 1, 0] rfl)
theorem known4 {s : State} {args : Array Value} (hts : ∀ w ∈ gt3, w.before args s = true) : ∃ (D : va_G), ∀ (ci : Nat) (q : vw_C), vwCl[ci]? = some q → u_Kn s q.1 q.2.1 q.2.2 (D.1 ci) (D.2 ci) := by
  have h : ∀ ci : Nat, ∃ y : ClassId × (Nat → Nat), ∀ q : vw_C, vwCl[ci]? = some q → u_Kn s q.1 q.2.1 q.2.2 y.1 y.2 := by
    intro ci
    cases hq : vwCl[ci]? with
    | none => exact ⟨(0, fun _ => 0), fun q h => by cases h⟩
    | some q =>
      obtain ⟨cC, iS, hK⟩ := u_known (C := q.1) (T := q.2.1) (N := q.2.2) hts (in3 hq) (hts _ (inst4 hq))
      exact ⟨(cC, iS), fun q' h => by cases h; exact hK⟩
  obtain ⟨f, hf⟩ := Classical.skolem.mp h
  exact ⟨(fun k => (f k).1, fun k => (f k).2), fun ci q hq => hf ci q hq⟩
theorem types4 {s : State} {args : Array Value} (hts : ∀ w ∈ lw_tbl, w.before args s = true) : ∃ ca : Nat → ClassId, ∀ (k : Nat) (q : ClassId × FieldType), ([(ca 0, .int), (ca 1, .boolean), (ca 2, .object RX8), (ca 3, .object RX3), (ca 4, .object RX9), (ca 5, .array .int)] : List (ClassId × FieldType))[k]? = some q → ArrOfT s q.1 q.2 ∧ va_RA s q.1 q.2 := by
  have hg : ∀ w ∈ gt3, w ∈ lw_tbl := fun w hw => (List.mem_filter.mp hw).1
  obtain ⟨c0, k0, p0, a0, b0, d0⟩ := Cond.arrayClass_spec (hts _ (hg _ ai4))
  obtain ⟨c1, k1, p1, a1, b1, d1⟩ := Cond.arrayClass_spec (hts _ (hg _ ab4))
  obtain ⟨p2, c2, k2, a2, -, b2, d2, e2⟩ := Cond.arrayOver_spec (hts _ (ao_in RX8 (by decide)))
  obtain ⟨p3, c3, k3, a3, -, b3, d3, e3⟩ := Cond.arrayOver_spec (hts _ (ao_in RX3 (by decide)))
  obtain ⟨p4, c4, k4, a4, -, b4, d4, e4⟩ := Cond.arrayOver_spec (hts _ (ao_in RX9 (by decide)))
  obtain ⟨p5, c5, k5, a5, -, b5, d5, e5⟩ := arrayOverA_spec (hts _ aa_in)
  refine ⟨fun k => [c0, c1, c2, c3, c4, c5].getD k 0, fun k q hq => ?_⟩
  match k, hq with
  | 0, hq => cases hq; exact ⟨arr_of b0 d0, a0⟩
  | 1, hq => cases hq; exact ⟨arr_of b1 d1, a1⟩
  | 2, hq => cases hq; exact ⟨arr_of b2 d2, k2, p2, b2, d2, a2, e2⟩
  | 3, hq => cases hq; exact ⟨arr_of b3 d3, k3, p3, b3, d3, a3, e3⟩
  | 4, hq => cases hq; exact ⟨arr_of b4 d4, k4, p4, b4, d4, a4, e4⟩
  | 5, hq => cases hq; exact ⟨arr_of b5 d5, e5⟩
  | n + 6, hq => cases hq
