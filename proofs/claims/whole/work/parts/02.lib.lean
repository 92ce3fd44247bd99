/-! ABSTRACT VALUES, MEMORY, WORLDS -/
abbrev V3 : Type := Int ⊕ (Int64 ⊕ (Nat × Int))
abbrev M3 : Type := Nat → Int → Int → Int
abbrev K3 : Type := Nat × Nat × Nat × Nat × List Nat
/-- launch; field slots; addresses; array classes; what may be written; the script's address, length, ints -/
abbrev E3 : Type := Launch × va_G × (Nat → Nat → Nat) × (Nat → ClassId) × (Nat → Prop) × Nat × Nat × (Nat → Int32)
/-- a method: name, code, locals, answer, height -/
abbrev Y3 : Type := MethodName × ByteArray × Nat × Option FieldType × Nat
abbrev vI (x : Int) : V3 := Sum.inl x
abbrev vL (x : Int64) : V3 := Sum.inr (Sum.inl x)
abbrev vR (r : Nat) (i : Int) : V3 := Sum.inr (Sum.inr (r, i))
abbrev ad3 (E : E3) : Nat → Nat → Nat := E.2.2.1
abbrev ca3 (E : E3) : Nat → ClassId := E.2.2.2.1
abbrev A3 (E : E3) : Nat → Prop := E.2.2.2.2.1
def cv3 (ad : Nat → Nat → Nat) (v : V3) : Value := match v with
  | .inl x => .int (Int32.ofInt x)
  | .inr (.inl y) => .long y
  | .inr (.inr q) => .ref (ad q.1 q.2.toNat)
def ct3 (v : V3) : Nat := match v with
  | .inr (.inl _) => 2
  | _ => 1
theorem cv3_cat (ad : Nat → Nat → Nat) (v : V3) : (cv3 ad v).category = ct3 v := by
  rcases v with x | y | q <;> rfl
def up3 (M : M3) (r : Nat) (i j v : Int) : M3 := fun r' i' j' => if r' = r ∧ i' = i ∧ j' = j then v else M r' i' j'
abbrev rg3 (x : Int) : Prop := -2147483648 ≤ x ∧ x ≤ 2147483647
def RM3 (M : M3) : Prop := ∀ (r : Nat) (i j : Int), -2147483648 ≤ M r i j ∧ M r i j ≤ 2147483647
theorem RM3.up {M : M3} (h : RM3 M) {r : Nat} {i j v : Int} (hv : -2147483648 ≤ v ∧ v ≤ 2147483647) : RM3 (up3 M r i j v) := by
  intro r' i' j'
  unfold up3
  by_cases hc : r' = r ∧ i' = i ∧ j' = j
  · rw [if_pos hc]; exact hv
  · rw [if_neg hc]; exact h r' i' j'
def fv3 (ad : Nat → Nat → Nat) (M : M3) (r i : Nat) : Nat → List Nat → List Value
  | _, [] => []
  | j, c :: cs => (if c < 2 then Value.int (Int32.ofInt (M r i j)) else Value.ref (ad ((c - 2) / 2) (if (c - 2) % 2 = 0 then 0 else i))) :: fv3 ad M r i (j + 1) cs
theorem fv3_at (ad : Nat → Nat → Nat) (M : M3) (r i : Nat) : ∀ (cs : List Nat) (j0 j c : Nat), cs[j]? = some c → (fv3 ad M r i j0 cs)[j]? = some (if c < 2 then Value.int (Int32.ofInt (M r i ((j0 + j : Nat) : Int))) else Value.ref (ad ((c - 2) / 2) (if (c - 2) % 2 = 0 then 0 else i)))
  | [], _, _, _, h => by simp at h
  | c :: cs, j0, 0, c', h => by
    cases h
    rfl
  | c :: cs, j0, j + 1, c', h => by
    have h1 : cs[j]? = some c' := h
    have h2 := fv3_at ad M r i cs (j0 + 1) j c' h1
    rw [show j0 + 1 + j = j0 + (j + 1) by omega] at h2
    exact h2
theorem fv3_len (ad : Nat → Nat → Nat) (M : M3) (r i : Nat) : ∀ (cs : List Nat) (j0 : Nat), (fv3 ad M r i j0 cs).length = cs.length
  | [], _ => rfl
  | _ :: cs, j0 => by
    show (fv3 ad M r i (j0 + 1) cs).length + 1 = cs.length + 1
    rw [fv3_len ad M r i cs (j0 + 1)]
theorem fv3_set (ad : Nat → Nat → Nat) (M : M3) (r i : Nat) (x : Int) : ∀ (cs : List Nat) (j0 j c : Nat), cs[j]? = some c → c < 2 → fv3 ad (up3 M r i ((j0 + j : Nat) : Int) x) r i j0 cs = (fv3 ad M r i j0 cs).set j (Value.int (Int32.ofInt x))
  | [], _, _, _, h, _ => by simp at h
  | c :: cs, j0, 0, c', h, hc => by
    cases h
    show _ :: fv3 ad _ r i (j0 + 1) cs = _ :: fv3 ad M r i (j0 + 1) cs
    congr 1
    · rw [if_pos hc]
      simp [up3]
    · have key : ∀ (l : List Nat) (k : Nat), j0 < k → fv3 ad (up3 M r i ((j0 : Nat) : Int) x) r i k l = fv3 ad M r i k l := by
        intro l
        induction l with
        | nil => intro k _; rfl
        | cons a l ih =>
          intro k hk
          show _ :: _ = _ :: _
          rw [ih (k + 1) (by omega)]
          have : ¬ ((k : Int) = (j0 : Int)) := by omega
          simp [up3, this]
      exact key cs (j0 + 1) (by omega)
  | c :: cs, j0, j + 1, c', h, hc => by
    have h1 : cs[j]? = some c' := h
    have h2 := fv3_set ad M r i x cs (j0 + 1) j c' h1 hc
    rw [show j0 + 1 + j = j0 + (j + 1) by omega] at h2
    show _ :: fv3 ad _ r i (j0 + 1) cs = _ :: (fv3 ad M r i (j0 + 1) cs).set j _
    rw [h2]
    have : ¬ ((j0 : Int) = ((j0 + (j + 1) : Nat) : Int)) := by omega
    simp only [up3, this, and_false, if_false]
theorem fv3_ne (ad : Nat → Nat → Nat) (M : M3) {r i r' i' : Nat} {jz x : Int} (h : ¬ (r' = r ∧ i' = i)) : ∀ (cs : List Nat) (j0 : Nat), fv3 ad (up3 M r i jz x) r' i' j0 cs = fv3 ad M r' i' j0 cs
  | [], _ => rfl
  | c :: cs, j0 => by
    show _ :: fv3 ad _ r' i' (j0 + 1) cs = _ :: fv3 ad _ r' i' (j0 + 1) cs
    rw [fv3_ne ad M h cs (j0 + 1)]
    have : ¬ (r' = r ∧ (i' : Int) = (i : Int) ∧ (j0 : Int) = jz) := fun q => h ⟨q.1, by omega⟩
    simp [up3, this]
def el3 (E : E3) (k : K3) (M : M3) (r i : Nat) : va_E := match k.2.1 with
  | 0 => .inl (ca3 E 0, k.2.2.1, .inl (fun j => Int32.ofInt (M r i j)))
  | 1 => .inl (ca3 E 1, k.2.2.1, .inl (fun j => Int32.ofInt (M r i j)))
  | 2 => .inl (ca3 E (k.2.2.2.2.headD 0), k.2.2.1, .inr (.inr (.inr (.inr (fun j => some (ad3 E k.2.2.2.1 j))))))
  | _ => .inr (k.2.2.1, fv3 (ad3 E) M r i 0 k.2.2.2.2)
def rt3 (r : Nat) : K3 := RT3.getD r (0, 0, 0, 0, [])
def flat3 : List (Nat × Nat) := (List.range RT3.length).flatMap fun r => (List.range (rt3 r).1).map fun i => (r, i)
theorem rt3_of {r : Nat} {k : K3} (h : RT3[r]? = some k) : rt3 r = k := by
  unfold rt3
  rw [List.getD_eq_getElem?_getD, h]
  rfl
theorem flat3_mem {r i : Nat} {k : K3} (h : RT3[r]? = some k) (hi : i < k.1) : (r, i) ∈ flat3 := by
  unfold flat3
  refine List.mem_flatMap.mpr ⟨r, List.mem_range.mpr (List.getElem?_eq_some_iff.mp h).1, List.mem_map.mpr ⟨i, List.mem_range.mpr ?_, rfl⟩⟩
  rw [rt3_of h]
  exact hi
def wl3 (E : E3) (M : M3) : va_W := flat3.map fun q => (ad3 E q.1 q.2, el3 E (rt3 q.1) M q.1 q.2)
theorem wl3_at (E : E3) (M : M3) {r i : Nat} {k : K3} (h : RT3[r]? = some k) (hi : i < k.1) : ∃ q0 : Nat, flat3[q0]? = some (r, i) ∧ (wl3 E M)[q0]? = some (ad3 E r i, el3 E k M r i) := by
  obtain ⟨q0, hq⟩ := List.getElem?_of_mem (flat3_mem h hi)
  refine ⟨q0, hq, ?_⟩
  unfold wl3
  rw [List.getElem?_map, hq]
  show some (ad3 E r i, el3 E (rt3 r) M r i) = _
  rw [rt3_of h]
/-- the addresses are apart, and may be written -/
def ok3 (E : E3) : Prop := (∀ (i j : Nat) (p q : Nat × Nat), flat3[i]? = some p → flat3[j]? = some q → ad3 E p.1 p.2 = ad3 E q.1 q.2 → i = j) ∧ ∀ q ∈ flat3, A3 E (ad3 E q.1 q.2)
theorem ok3.D {E : E3} (h : ok3 E) (M : M3) : va_D (A3 E) (wl3 E M) := by
  have key : ∀ (i : Nat) (p : Nat × va_E), (wl3 E M)[i]? = some p → ∃ q, flat3[i]? = some q ∧ p.1 = ad3 E q.1 q.2 := by
    intro i p hp
    unfold wl3 at hp
    rw [List.getElem?_map] at hp
    cases hq : flat3[i]? with
    | none => rw [hq] at hp; cases hp
    | some q => rw [hq] at hp; cases hp; exact ⟨q, rfl, rfl⟩
  refine ⟨fun i j p q hp hq e => ?_, fun i p hp => ?_⟩
  · obtain ⟨p', h1, e1⟩ := key i p hp
    obtain ⟨q', h2, e2⟩ := key j q hq
    exact h.1 i j p' q' h1 h2 (by rw [← e1, ← e2]; exact e)
  · obtain ⟨p', h1, e1⟩ := key i p hp
    rw [e1]
    exact h.2 _ (List.mem_of_getElem? h1)
/-- one cell written: the world of the new memory -/
theorem wl3_up {E : E3} (h : ok3 E) {M M' : M3} {H1 : Heap} {D : va_G} {q0 r i : Nat} {k : K3} (hr : RT3[r]? = some k) (hq : flat3[q0]? = some (r, i)) {x : Nat × va_E} (hx : x = (ad3 E r i, el3 E k M' r i))
    (hne : ∀ (r' i' : Nat), ¬ (r' = r ∧ i' = i) → el3 E (rt3 r') M' r' i' = el3 E (rt3 r') M r' i') (hP : va_P D vwCl ((wl3 E M).set q0 x) H1) : va_P D vwCl (wl3 E M') H1 := by
  intro a q ha
  unfold wl3 at ha
  rw [List.getElem?_map] at ha
  cases hf : flat3[a]? with
  | none => rw [hf] at ha; cases ha
  | some p =>
    rw [hf] at ha
    cases ha
    by_cases e : a = q0
    · subst e
      rw [hq] at hf
      cases hf
      refine hP a _ ?_
      have hl : a < (wl3 E M).length := by
        unfold wl3
        rw [List.length_map]
        exact (List.getElem?_eq_some_iff.mp hq).1
      rw [List.getElem?_set_self hl, hx]
      show some (_, _) = some (_, el3 E (rt3 r) M' r i)
      rw [rt3_of hr]
    · refine hP a _ ?_
      rw [List.getElem?_set_ne (Ne.symm e)]
      unfold wl3
      rw [List.getElem?_map, hf]
      show some (_, _) = some (_, _)
      congr 2
      refine (hne p.1 p.2 fun hc => e ?_).symm
      refine h.1 a q0 p (r, i) hf hq ?_
      rw [hc.1, hc.2]
theorem el3_ne {E : E3} {k : K3} {M : M3} {r i r' i' : Nat} {jz x : Int} (h : ¬ (r' = r ∧ i' = i)) : el3 E k (up3 M r i jz x) r' i' = el3 E k M r' i' := by
  have hf : ∀ j : Nat, up3 M r i jz x r' i' j = M r' i' j := fun j => by
    have : ¬ (r' = r ∧ (i' : Int) = (i : Int) ∧ (j : Int) = jz) := fun q => h ⟨q.1, by omega⟩
    simp [up3, this]
  unfold el3
  simp only [hf]
  rw [fv3_ne (ad3 E) M h]
