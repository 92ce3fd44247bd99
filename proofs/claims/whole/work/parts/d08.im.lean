theorem ai4 : Cond.arrayClass .int ∈ gt3 := mem3 164 (by decide +kernel) rfl
theorem ab4 : Cond.arrayClass .boolean ∈ gt3 := mem3 410 (by decide +kernel) rfl
/-! THE CONSTRUCTORS' IMAGE: this cell, what was before, and the cells made since -/
def df4 : va_E := .inl (0, 0, .inl fun _ => 0)
def im4 (c : Im4) (n k : Nat) (v : va_E) (L : List va_E) : Im4 := fun j => if j = k then v else if j < n then c j else (L[j - n]?).getD df4
def tl4 (f : Nat → List va_E) : Nat → List va_E
  | 0 => []
  | i + 1 => tl4 f i ++ f i
theorem tl4_len {f : Nat → List va_E} {d : Nat} (h : ∀ i, (f i).length = d) : ∀ i : Nat, (tl4 f i).length = d * i
  | 0 => rfl
  | i + 1 => by
    show (tl4 f i ++ f i).length = _
    rw [List.length_append, tl4_len h i, h i, Nat.mul_succ]
theorem tl4_at {f : Nat → List va_E} {d : Nat} (h : ∀ i, (f i).length = d) : ∀ (N i r : Nat), i < N → r < d → (tl4 f N)[d * i + r]? = (f i)[r]?
  | 0, i, r, hi, _ => absurd hi (Nat.not_lt_zero i)
  | N + 1, i, r, hi, hr => by
    show (tl4 f N ++ f N)[d * i + r]? = _
    by_cases e : i = N
    · subst e
      rw [List.getElem?_append_right (by rw [tl4_len h]; omega), tl4_len h]
      congr 1
      omega
    · have h1 : d * (i + 1) ≤ d * N := Nat.mul_le_mul_left d (by omega)
      rw [List.getElem?_append_left (by rw [tl4_len h]; rw [Nat.mul_succ] at h1; omega)]
      exact tl4_at h N i r (by omega) hr
section IM
variable {c : Im4} {n k i : Nat} {v v' x : va_E} {L : List va_E}
theorem im4_k : im4 c n k v L k = v := if_pos rfl
theorem im4_old {j : Nat} (h : j < n) (hk : j ≠ k) : im4 c n k v L j = c j := (if_neg hk).trans (if_pos h)
theorem im4_at (hk : k < n) (h : L[i]? = some x) : im4 c n k v L (n + i) = x := by
  unfold im4
  rw [if_neg (by omega), if_neg (by omega), Nat.add_sub_cancel_left, h]
  rfl
theorem im4_put : up4 (im4 c n k v L) k v' = im4 c n k v' L := by
  funext j
  unfold up4 im4
  by_cases e : j = k
  · rw [if_pos e, if_pos e]
  · rw [if_neg e, if_neg e, if_neg e]
theorem im4_set (hk : k < n) (h : i < L.length) : up4 (im4 c n k v L) (n + i) x = im4 c n k v (L.set i x) := by
  funext j
  unfold up4 im4
  by_cases e : j = k
  · rw [if_pos e, if_pos e, if_neg (by omega)]
  · rw [if_neg e, if_neg e]
    by_cases e2 : j < n
    · rw [if_pos e2, if_pos e2, if_neg (by omega)]
    · rw [if_neg e2, if_neg e2]
      by_cases e3 : j = n + i
      · rw [if_pos e3, e3, Nat.add_sub_cancel_left, List.getElem?_set_self h]
        rfl
      · rw [if_neg e3, List.getElem?_set_ne (by omega)]
theorem im4_app (hk : k < n) : up4 (im4 c n k v L) (n + L.length) x = im4 c n k v (L ++ [x]) := by
  funext j
  unfold up4 im4
  by_cases e : j = k
  · rw [if_pos e, if_pos e, if_neg (by omega)]
  · rw [if_neg e, if_neg e]
    by_cases e2 : j < n
    · rw [if_pos e2, if_pos e2, if_neg (by omega)]
    · rw [if_neg e2, if_neg e2]
      by_cases e3 : j = n + L.length
      · rw [if_pos e3, e3, Nat.add_sub_cancel_left, List.getElem?_append_right (Nat.le_refl _), Nat.sub_self]
        rfl
      · rw [if_neg e3]
        by_cases e4 : j < n + L.length
        · rw [List.getElem?_append_left (by omega)]
        · rw [List.getElem?_append_right (by omega), List.getElem?_eq_none (l := L) (by omega), List.getElem?_eq_none (by show 1 ≤ _; omega)]
theorem im4_call {w : va_E} {L' : List va_E} (hk : k < n) : im4 (im4 c n k v (L ++ [w])) (n + (L ++ [w]).length) (n + L.length) v' L' = im4 c n k v (L ++ v' :: L') := by
  funext j
  have hl : (L ++ [w]).length = L.length + 1 := by rw [List.length_append]; rfl
  unfold im4
  rw [hl]
  by_cases e : j = k
  · rw [if_pos e, if_neg (by omega), if_pos (by omega)]
    exact (if_pos e).symm
  · rw [if_neg e]
    by_cases e3 : j = n + L.length
    · rw [if_pos e3, e3, if_neg (by omega), if_neg (by omega), Nat.add_sub_cancel_left, List.getElem?_append_right (Nat.le_refl _), Nat.sub_self]
      rfl
    · rw [if_neg e3]
      by_cases e4 : j < n + (L.length + 1)
      · rw [if_pos e4, if_neg e]
        by_cases e5 : j < n
        · rw [if_pos e5, if_pos e5]
        · rw [if_neg e5, if_neg e5, List.getElem?_append_left (by omega), List.getElem?_append_left (by omega)]
      · rw [if_neg e4, if_neg e, if_neg (by omega), List.getElem?_append_right (by omega)]
        have e6 : j - n - L.length = (j - (n + (L.length + 1))) + 1 := by omega
        rw [e6]
        rfl
end IM
section N4I
variable {E : E3} {Y Y2 : Y3} {mc ms mc2 ms2 uc us pc n k : Nat} {F : Fn4} {lv lv' : List (Nat × Value)} {st as : List Value} {c : Im4} {v0 : va_E} {L : List va_E}
theorem i4_put {idx ci j N : Nat} {ty : FieldType} {v : Value} {fs : List Value} (hk : k < n) (hd : decode Y.2.1 pc = .ok (.putfield idx, 3)) (hF : fd4 Y.1.cls idx ci j N ty) (hi : Y.1.name = "<init>") (hn : narrow ty v = v) (hf : fits ty v = true) (hl0 : j < fs.length) (kk : N4 E Y mc ms F uc us (pc + 3) lv st (im4 c n k (.inr (ci, fs.set j v)) L) (n + L.length)) : N4 E Y mc ms F uc us pc lv (v :: .ref (B4 E + k) :: st) (im4 c n k (.inr (ci, fs)) L) (n + L.length) := by
  refine n4_put hd hF hi hn hf (Nat.lt_of_lt_of_le hk (Nat.le_add_right _ _)) im4_k hl0 ?_
  rw [im4_put]
  exact kk
theorem i4_get {idx ci j N : Nat} {ty : FieldType} {v : Value} {fs : List Value} (hk : k < n) (hd : decode Y.2.1 pc = .ok (.getfield idx, 3)) (hF : fd4 Y.1.cls idx ci j N ty) (hv : fs[j]? = some v) (kk : N4 E Y mc ms F uc us (pc + 3) lv (v :: st) (im4 c n k (.inr (ci, fs)) L) (n + L.length)) : N4 E Y mc ms F uc us pc lv (.ref (B4 E + k) :: st) (im4 c n k (.inr (ci, fs)) L) (n + L.length) :=
  n4_get hd hF (Nat.lt_of_lt_of_le hk (Nat.le_add_right _ _)) im4_k hv kk
theorem i4_more {x : va_E} (hk : k < n) {P : Im4 → Nat → Prop} (h : P (im4 c n k v0 (L ++ [x])) (n + (L ++ [x]).length)) : P (up4 (im4 c n k v0 L) (n + L.length) x) (n + L.length + 1) := by
  rw [im4_app hk]
  have e : n + (L ++ [x]).length = n + L.length + 1 := by rw [List.length_append]; rfl
  rw [e] at h
  exact h
theorem i4_new {idx ci N : Nat} {C : String} {T : u_T} {fs : List Value} {len : Nat} (hk : k < n) (hlen : L.length = len) (hd : decode Y.2.1 pc = .ok (.new idx, 3)) (hC : vwCl[ci]? = some (C, T, N)) (h1 : Cond.classLink Y.1.cls idx C ∈ gt3) (h2 : Cond.instantiable C N ∈ gt3) (h3 : Cond.initialized C ∈ gt3) (hfs : ∀ j, j < N → defaultValue (ty3 ci j) = vp_V fs j) (hm : uc + 1 ≤ mc) (hs : us + N ≤ ms) (kk : N4 E Y mc ms F (uc + 1) (us + N) (pc + 3) lv (.ref (B4 E + (n + len)) :: st) (im4 c n k v0 (L ++ [.inr (ci, fs)])) (n + (L ++ [(.inr (ci, fs) : va_E)]).length)) : N4 E Y mc ms F uc us pc lv st (im4 c n k v0 L) (n + L.length) := by
  subst hlen
  exact n4_new hd hC h1 h2 h3 hfs hm hs (i4_more (P := fun c' n' => N4 E Y mc ms F (uc + 1) (us + N) (pc + 3) lv (.ref (B4 E + (n + L.length)) :: st) c' n') hk kk)
theorem i4_newi {N : Nat} {x : Int} {len : Nat} (hk : k < n) (hlen : L.length = len) (hd : decode Y.2.1 pc = .ok (.newarray .int, 2)) (hx : 0 ≤ x ∧ x < 2000 ∧ x.toNat = N) (hm : uc + 1 ≤ mc) (hs : us + N ≤ ms) (kk : N4 E Y mc ms F (uc + 1) (us + N) (pc + 2) lv (.ref (B4 E + (n + len)) :: st) (im4 c n k v0 (L ++ [.inl (ca3 E 0, N, .inl (fun _ => 0))])) (n + (L ++ [(.inl (ca3 E 0, N, .inl (fun _ => 0)) : va_E)]).length)) : N4 E Y mc ms F uc us pc lv (.int (Int32.ofInt x) :: st) (im4 c n k v0 L) (n + L.length) := by
  subst hlen
  exact n4_newa (t0 := 0) hd ai4 rfl (fun s cA h hf => Option.some.inj (hf.symm.trans h)) (fun cA => rfl) ⟨hx.1, by omega, hx.2.2⟩ (by show N * 4 ≤ _; omega) hm hs (i4_more (P := fun c' n' => N4 E Y mc ms F (uc + 1) (us + N) (pc + 2) lv (.ref (B4 E + (n + L.length)) :: st) c' n') hk kk)
theorem i4_newb {N : Nat} {x : Int} {len : Nat} (hk : k < n) (hlen : L.length = len) (hd : decode Y.2.1 pc = .ok (.newarray .boolean, 2)) (hx : 0 ≤ x ∧ x < 2000 ∧ x.toNat = N) (hm : uc + 1 ≤ mc) (hs : us + N ≤ ms) (kk : N4 E Y mc ms F (uc + 1) (us + N) (pc + 2) lv (.ref (B4 E + (n + len)) :: st) (im4 c n k v0 (L ++ [.inl (ca3 E 1, N, .inl (fun _ => 0))])) (n + (L ++ [(.inl (ca3 E 1, N, .inl (fun _ => 0)) : va_E)]).length)) : N4 E Y mc ms F uc us pc lv (.int (Int32.ofInt x) :: st) (im4 c n k v0 L) (n + L.length) := by
  subst hlen
  exact n4_newa (t0 := 1) hd ab4 rfl (fun s cA h hf => Option.some.inj (hf.symm.trans h)) (fun cA => rfl) ⟨hx.1, by omega, hx.2.2⟩ (by show N * 1 ≤ _; omega) hm hs (i4_more (P := fun c' n' => N4 E Y mc ms F (uc + 1) (us + N) (pc + 2) lv (.ref (B4 E + (n + L.length)) :: st) c' n') hk kk)
theorem i4_newq {idx t0 N : Nat} {C : String} {x : Int} {len : Nat} (hk : k < n) (hlen : L.length = len) (hd : decode Y.2.1 pc = .ok (.anewarray idx, 3)) (h1 : Cond.classLink Y.1.cls idx C ∈ gt3) (h2 : C ∈ ([RX8, RX3, RX9] : List String)) (ht : (tys3 E)[t0]? = some (ca3 E t0, .object C)) (hx : 0 ≤ x ∧ x < 2000 ∧ x.toNat = N) (hm : uc + 1 ≤ mc) (hs : us + N ≤ ms) (kk : N4 E Y mc ms F (uc + 1) (us + N) (pc + 3) lv (.ref (B4 E + (n + len)) :: st) (im4 c n k v0 (L ++ [.inl (ca3 E t0, N, .inr (.inr (.inr (.inr (fun _ => none)))))])) (n + (L ++ [(.inl (ca3 E t0, N, .inr (.inr (.inr (.inr (fun _ => none))))) : va_E)]).length)) : N4 E Y mc ms F uc us pc lv (.int (Int32.ofInt x) :: st) (im4 c n k v0 L) (n + L.length) := by
  subst hlen
  exact n4_newq hd h1 h2 ht ⟨hx.1, by omega, hx.2.2⟩ (by omega) hm hs (i4_more (P := fun c' n' => N4 E Y mc ms F (uc + 1) (us + N) (pc + 3) lv (.ref (B4 E + (n + L.length)) :: st) c' n') hk kk)
theorem i4_iast {a N : Nat} {f : Nat → Int32} {i : Int} {x : Int32} (hk : k < n) (hd : decode Y.2.1 pc = .ok (.iastore, 1)) (hL : L[a]? = some (.inl (ca3 E 0, N, .inl f))) (hi : 0 ≤ i ∧ i < (N : Int) ∧ N < 2147483648) (kk : N4 E Y mc ms F uc us (pc + 1) lv st (im4 c n k v0 (L.set a (.inl (ca3 E 0, N, .inl (upd f i.toNat x))))) (n + (L.set a (.inl (ca3 E 0, N, .inl (upd f i.toNat x)) : va_E)).length)) : N4 E Y mc ms F uc us pc lv (.int x :: .int (Int32.ofInt i) :: .ref (B4 E + (n + a)) :: st) (im4 c n k v0 L) (n + L.length) := by
  have ha : a < L.length := (List.getElem?_eq_some_iff.mp hL).1
  refine n4_iast (t0 := 0) hd rfl (Nat.add_lt_add_left ha n) (im4_at hk hL) hi ?_
  rw [im4_set hk ha]
  rw [List.length_set] at kk
  exact kk
theorem i4_aast {t0 a b N ci : Nat} {r : vw_C} {vs : List Value} {f : Nat → Option Nat} {i : Int} (hk : k < n) (hd : decode Y.2.1 pc = .ok (.aastore, 1)) (hr : vwCl[ci]? = some r) (ht : (tys3 E)[t0]? = some (ca3 E t0, .object r.1)) (hL : L[a]? = some (.inl (ca3 E t0, N, .inr (.inr (.inr (.inr f)))))) (hL2 : L[b]? = some (.inr (ci, vs))) (hi : 0 ≤ i ∧ i < (N : Int) ∧ N < 2147483648) (kk : N4 E Y mc ms F uc us (pc + 1) lv st (im4 c n k v0 (L.set a (.inl (ca3 E t0, N, .inr (.inr (.inr (.inr (va_up f i.toNat (some (B4 E + (n + b))))))))))) (n + (L.set a (.inl (ca3 E t0, N, .inr (.inr (.inr (.inr (va_up f i.toNat (some (B4 E + (n + b))))))))  : va_E)).length)) : N4 E Y mc ms F uc us pc lv (.ref (B4 E + (n + b)) :: .int (Int32.ofInt i) :: .ref (B4 E + (n + a)) :: st) (im4 c n k v0 L) (n + L.length) := by
  have ha : a < L.length := (List.getElem?_eq_some_iff.mp hL).1
  have hb : b < L.length := (List.getElem?_eq_some_iff.mp hL2).1
  refine n4_aast hd hr ht (Nat.add_lt_add_left ha n) (im4_at hk hL) (Nat.add_lt_add_left hb n) (im4_at hk hL2) hi ?_
  rw [im4_set hk ha]
  rw [List.length_set] at kk
  exact kk
theorem i4_multi {idx N M : Nat} {k1 k2 : Int} {len : Nat} (hk : k < n) (hlen : L.length = len) (hd : decode Y.2.1 pc = .ok (.multianewarray idx 2, 4)) (h1 : Cond.classLink Y.1.cls idx "[[I" ∈ gt3) (hk1 : 0 ≤ k1 ∧ k1 < 1000 ∧ k1.toNat = N) (hk2 : 0 ≤ k2 ∧ k2 < 1000 ∧ k2.toNat = M) (hm : uc + 1 + N ≤ mc) (hs : us + N + N * M ≤ ms) (kk : N4 E Y mc ms F (uc + 1 + N) (us + N + N * M) (pc + 4) lv (.ref (B4 E + (n + len)) :: st) (im4 c n k v0 (L ++ (.inl (ca3 E 5, N, .inr (.inr (.inr (.inr (fun j => if j < N then some (B4 E + (n + len) + 1 + j) else none)))))) :: List.replicate N (.inl (ca3 E 0, M, .inl (fun _ => 0))))) (n + (L ++ ((.inl (ca3 E 5, N, .inr (.inr (.inr (.inr (fun j => if j < N then some (B4 E + (n + len) + 1 + j) else none)))))) : va_E) :: List.replicate N (.inl (ca3 E 0, M, .inl (fun _ => 0)))).length)) : N4 E Y mc ms F uc us pc lv (.int (Int32.ofInt k2) :: .int (Int32.ofInt k1) :: st) (im4 c n k v0 L) (n + L.length) := by
  subst hlen
  have ec : n + (L ++ (((.inl (ca3 E 5, N, .inr (.inr (.inr (.inr (fun j => if j < N then some (B4 E + (n + L.length) + 1 + j) else none)))))) : va_E) :: List.replicate N (.inl (ca3 E 0, M, .inl (fun _ => 0))))).length = n + L.length + 1 + N := by
    rw [List.length_append, List.length_cons, List.length_replicate]
    omega
  rw [ec] at kk
  refine n4_multi hd h1 hk1 hk2 hm hs fun c' q1 q2 q3 => n4_agree (fun j hj => ?_) kk
  rcases Nat.lt_trichotomy j (n + L.length) with h | h | h
  · rw [q1 j h]
    unfold im4
    by_cases e : j = k
    · rw [if_pos e, if_pos e]
    · rw [if_neg e, if_neg e]
      by_cases e2 : j < n
      · rw [if_pos e2, if_pos e2]
      · rw [if_neg e2, if_neg e2, List.getElem?_append_left (by omega)]
  · rw [h, q2, im4_at hk (by rw [List.getElem?_append_right (Nat.le_refl _), Nat.sub_self]; rfl)]
  · have h9 := q3 (j - (n + L.length) - 1) (by omega)
    have e1 : n + L.length + 1 + (j - (n + L.length) - 1) = n + (L.length + (1 + (j - (n + L.length) - 1))) := by omega
    rw [e1] at h9
    have e2 : n + (L.length + (1 + (j - (n + L.length) - 1))) = j := by omega
    rw [e2] at h9
    rw [h9]
    have h8 := im4_at (c := c) (n := n) (k := k) (v := v0) (L := L ++ (.inl (ca3 E 5, N, .inr (.inr (.inr (.inr (fun j => if j < N then some (B4 E + (n + L.length) + 1 + j) else none)))))) :: List.replicate N (.inl (ca3 E 0, M, .inl (fun _ => 0)))) (i := L.length + ((j - (n + L.length) - 1) + 1)) (x := .inl (ca3 E 0, M, .inl (fun _ => 0))) hk (by
      rw [List.getElem?_append_right (Nat.le_add_right _ _), Nat.add_sub_cancel_left, List.getElem?_cons_succ, List.getElem?_replicate, if_pos (by omega)])
    have e3 : n + (L.length + ((j - (n + L.length) - 1) + 1)) = j := by omega
    rw [e3] at h8
    exact h8.symm
/-- a constructor's contract -/
def K4 (E : E3) (Y : Y3) (mc ms : Nat) (as : List Value) (w : va_E) (wf : Nat → Nat → va_E) (Lf : Nat → Nat → List va_E) : Prop := ∀ (c : Im4) (n k : Nat), k < n → c k = w → C4 E Y mc ms (.ref (B4 E + k) :: as) c n (fun c' n' => c' = im4 c n k (wf k n) (Lf k n) ∧ n' = n + (Lf k n).length)
theorem k4_in {w : va_E} {wf : Nat → Nat → va_E} {Lf : Nat → Nat → List va_E} (hy : plainName Y.1.cls = true) (hr0 : Y.2.2.2.1 = none) (hla : ∀ k : Nat, lv_args 0 (.ref (B4 E + k) :: as) = (0, .ref (B4 E + k)) :: lv) (hlen : ∀ k : Nat, (lg_sl (.ref (B4 E + k) :: as)).length ≤ Y.2.2.1) (h : ∀ (c : Im4) (n k : Nat), k < n → N4 E Y mc ms (fin4 E Y mc ms (fun c' n' => c' = im4 c n k (wf k n) (Lf k n) ∧ n' = n + (Lf k n).length)) 0 0 0 ((0, .ref (B4 E + k)) :: lv) [] (im4 c n k w []) (n + ([] : List va_E).length)) : K4 E Y mc ms as w wf Lf := by
  intro c n k hk hc
  refine c4_in hy hr0 (hla k) (hlen k) (n4_agree (c' := im4 c n k w []) (fun j hj => ?_) (h c n k hk))
  by_cases e : j = k
  · rw [e, im4_k, hc]
  · rw [im4_old hj e]
theorem i4_list {L' : List va_E} (h : L = L') (kk : N4 E Y mc ms F uc us pc lv st (im4 c n k v0 L') (n + L'.length)) : N4 E Y mc ms F uc us pc lv st (im4 c n k v0 L) (n + L.length) := by
  subst h
  exact kk
theorem i4_call {idx a len : Nat} {w : va_E} {wf : Nat → Nat → va_E} {Lf : Nat → Nat → List va_E} (hk : k < n) (hlen : L.length = len) (hd : decode Y.2.1 pc = .ok (.invokespecial idx, 3)) (hK : K4 E Y2 mc2 ms2 as w wf Lf) (hm : my4 Y2 a) (hl2 : Cond.methodLink Y.1.cls idx Y2.1 ∈ gt3 ∨ Cond.methodLinkNest Y.1.cls idx Y2.1 RX11 ∈ nl4) (hh : Y2.2.2.2.2 < Y.2.2.2.2) (hs : (st.map fun v => v.category).sum ≤ 8) (hn : as.length = a) (hc : uc + mc2 ≤ mc) (hsl : us + ms2 ≤ ms) (kk : N4 E Y mc ms F (uc + mc2) (us + ms2) (pc + 3) lv st (im4 c n k v0 (L ++ wf (n + len) (n + (len + 1)) :: Lf (n + len) (n + (len + 1)))) (n + (L ++ wf (n + len) (n + (len + 1)) :: Lf (n + len) (n + (len + 1))).length)) : N4 E Y mc ms F uc us pc lv (as.reverse ++ .ref (B4 E + (n + len)) :: st) (im4 c n k v0 (L ++ [w])) (n + (L ++ [w]).length) := by
  subst hlen
  have hl : (L ++ [w]).length = L.length + 1 := by rw [List.length_append]; rfl
  rw [← hl] at kk
  have h1 : n + L.length < n + (L ++ [w]).length := by rw [hl]; omega
  have h2 : im4 c n k v0 (L ++ [w]) (n + L.length) = w := im4_at hk (by rw [List.getElem?_append_right (Nat.le_refl _), Nat.sub_self]; rfl)
  have h3 : C4 E Y2 mc2 ms2 (.ref (B4 E + (n + L.length)) :: as) (im4 c n k v0 (L ++ [w])) (n + (L ++ [w]).length) (fun c' n' => N4 E Y mc ms F (uc + mc2) (us + ms2) (pc + 3) lv st c' n') := c4_mono (hK _ _ _ h1 h2) fun c' n' hq => by
    obtain ⟨rfl, rfl⟩ := hq
    rw [im4_call hk]
    have e : n + (L ++ [w]).length + (Lf (n + L.length) (n + (L ++ [w]).length)).length = n + (L ++ wf (n + L.length) (n + (L ++ [w]).length) :: Lf (n + L.length) (n + (L ++ [w]).length)).length := by
      generalize Lf (n + L.length) (n + (L ++ [w]).length) = X1
      generalize wf (n + L.length) (n + (L ++ [w]).length) = X2
      rw [hl, List.length_append, List.length_cons]
      omega
    rw [e]
    exact kk
  rcases hl2 with hl2 | hl2
  · exact n4_call hd hm hl2 hh hs hn hc hsl h3
  · exact n4_callN hd hm hl2 hh hs hn hc hsl h3
end N4I
