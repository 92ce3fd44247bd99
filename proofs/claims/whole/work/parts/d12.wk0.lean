/-! THE CONSTRUCTORS: rows filled in a loop -/
def rw4 (E : E3) (t N n base d i : Nat) : va_E := .inl (ca3 E t, N, .inr (.inr (.inr (.inr (fun j => if j < i then some (B4 E + (n + (base + d * j))) else none)))))
theorem rw4_0 {E : E3} {t N n base d : Nat} : rw4 E t N n base d 0 = .inl (ca3 E t, N, .inr (.inr (.inr (.inr (fun _ => none))))) := by
  have e : (fun j : Nat => if j < 0 then some (B4 E + (n + (base + d * j))) else none) = fun _ => none := funext fun j => if_neg (Nat.not_lt_zero j)
  unfold rw4
  rw [e]
theorem rw4_up {E : E3} {t N n base d i b : Nat} (hb : b = base + d * i) : (.inl (ca3 E t, N, .inr (.inr (.inr (.inr (va_up (fun j => if j < i then some (B4 E + (n + (base + d * j))) else none) (Int.toNat (i : Int)) (some (B4 E + (n + b)))))))) : va_E) = rw4 E t N n base d (i + 1) := by
  subst hb
  unfold rw4
  congr 7
  funext j
  unfold va_up
  by_cases e : j = i
  · subst e
    simp
  · by_cases e2 : j < i
    · simp [e, e2, Nat.lt_succ_of_lt e2]
    · have e3 : ¬ j < i + 1 := by omega
      simp [e, e2, e3]
def it4 (E : E3) (N i : Nat) (x : Int32) : va_E := .inl (ca3 E 0, N, .inl (fun j => if j < i then x else 0))
theorem it4_0 {E : E3} {N : Nat} {x : Int32} : it4 E N 0 x = .inl (ca3 E 0, N, .inl (fun _ => 0)) := by
  have e : (fun j : Nat => if j < 0 then x else 0) = fun _ => 0 := funext fun j => if_neg (Nat.not_lt_zero j)
  unfold it4
  rw [e]
theorem it4_up {E : E3} {N i : Nat} {x : Int32} {q : Int} (hq : q.toNat = i) : (.inl (ca3 E 0, N, .inl (upd (fun j => if j < i then x else 0) q.toNat x)) : va_E) = it4 E N (i + 1) x := by
  rw [hq]
  unfold it4
  congr 4
  funext j
  unfold upd
  by_cases e : j = i
  · subst e
    simp
  · by_cases e2 : j < i
    · simp [e, e2, Nat.lt_succ_of_lt e2]
    · have e3 : ¬ j < i + 1 := by omega
      simp [e, e2, e3]
theorem sh4_at {P T S : List va_E} {x : va_E} {a : Nat} (h : P.length = a) : ((P ++ x :: T) ++ S)[a]? = some x := by
  subst h
  rw [List.append_assoc, List.getElem?_append_right (Nat.le_refl _), Nat.sub_self]
  rfl
theorem sh4_set {P T S : List va_E} {x y : va_E} {a : Nat} (h : P.length = a) : ((P ++ x :: T) ++ S).set a y = P ++ (y :: (T ++ S)) := by
  subst h
  rw [List.append_assoc, List.set_append_right _ _ (Nat.le_refl _), Nat.sub_self]
  rfl
theorem last4 {L S : List va_E} {x : va_E} {b : Nat} (h : L.length = b) : (L ++ x :: S)[b]? = some x := by
  subst h
  rw [List.getElem?_append_right (Nat.le_refl _), Nat.sub_self]
  rfl
theorem n4_cnt {E : E3} {Y : Y3} {mc ms uc us uc' us' pc n : Nat} {F : Fn4} {lv : List (Nat × Value)} {st : List Value} {c : Im4} (h1 : uc = uc') (h2 : us = us') (kk : N4 E Y mc ms F uc' us' pc lv st c n) : N4 E Y mc ms F uc us pc lv st c n := by
  subst h1
  subst h2
  exact kk
