/-! THE START: where each cell lies, what each holds -/
def OT4 : List (Nat × Nat) := [(0, 0), (216, 0), (1, 0), (2, 0), (3, 0), (4, 0), (5, 0), (6, 0), (7, 0), (8, 0), (9, 0), (10, 0), (11, 0), (12, 1), (60, 0), (61, 0), (62, 0), (63, 0), (64, 2), (65, 2), (184, 0), (185, 0), (186, 0), (187, 0), (188, 0), (189, 0), (190, 0), (191, 0), (192, 1), (198, 0), (199, 1), (205, 0), (206, 0), (207, 0), (208, 0), (209, 0), (210, 0), (211, 0), (212, 0), (213, 0), (214, 0), (215, 0), (217, 2), (218, 2), (225, 0), (226, 0), (227, 0), (228, 0), (229, 0), (230, 0), (231, 0), (232, 0), (233, 0), (234, 0), (235, 0), (236, 0), (237, 0), (238, 0), (239, 0), (240, 0), (241, 0), (242, 0), (243, 0), (244, 0), (245, 0), (246, 0), (247, 0), (248, 0), (249, 0), (250, 0), (251, 0), (252, 0), (253, 0), (254, 0), (255, 0), (256, 0), (257, 0), (258, 0), (259, 0), (260, 0), (261, 0), (262, 0), (263, 0), (264, 0), (265, 0)]
def ad0 (b B r i : Nat) : Nat := if r = 99 then b else if r = 98 then B else B + ((OT4.getD r (0, 0)).1 + (OT4.getD r (0, 0)).2 * i)
abbrev E0 (l : Launch) (D : va_G) (ca : Nat → ClassId) (B b L : Nat) (xs : Nat → Int32) : E3 := (l, D, ad0 b B, ca, fun q => B ≤ q, b, L, xs)
def M0 : M3 := fun r _ j => match r with
  | 2 => if j = 1 then -1 else 0
  | 3 => if j = 10 then -1 else 0
  | 16 => -1
  | 20 => if j = 6 then 1 else if j = 7 then 540 else if j = 8 then 1020 else 0
  | 25 => 20
  | 42 => if j = 0 then -1 else 0
  | 44 => if j = 27 then -1 else if j = 29 then 1 else if j = 30 then 540 else if j = 31 then 1020 else 0
  | 64 => 20
  | 74 => -1
  | _ => 0
def sm4 (x y : va_E) : Prop := ∀ (D : va_G) (cl : List vw_C) (q : Nat) (H : Heap), va_at D cl (q, x) H → va_at D cl (q, y) H
theorem sm4_of {x y : va_E} (h : x = y) : sm4 x y := by
  subst h
  exact fun D cl q H h => h
theorem arrV_cong {c : ClassId} {n : Nat} {f g : Nat → Value} (h : ∀ j, j < n → f j = g j) : arrV c n f = arrV c n g := by
  unfold arrV
  congr 1
  apply Array.ext
  · simp
  · intro i h1 h2
    have h3 : i < n := by simpa using h1
    simp [h i h3]
theorem sm4_i {c : ClassId} {n : Nat} {f g : Nat → Int32} (h : ∀ j, j < n → f j = g j) : sm4 (.inl (c, n, .inl f)) (.inl (c, n, .inl g)) := by
  intro D cl q H hH
  have e : vp_cell c (n, .inl f) = vp_cell c (n, .inl g) := by
    rw [vp_cell_i, vp_cell_i]
    exact arrV_cong fun j hj => by rw [h j hj]
  show H[q]? = some (vp_cell c (n, .inl g))
  rw [← e]
  exact hH
theorem sm4_q {c : ClassId} {n : Nat} {f g : Nat → Option Nat} (h : ∀ j, j < n → f j = g j) : sm4 (.inl (c, n, .inr (.inr (.inr (.inr f))))) (.inl (c, n, .inr (.inr (.inr (.inr g))))) := by
  intro D cl q H hH
  have e : vp_cell c (n, .inr (.inr (.inr (.inr f)))) = vp_cell c (n, .inr (.inr (.inr (.inr g)))) := by
    rw [vp_cell_q, vp_cell_q]
    exact arrV_cong fun j hj => by rw [h j hj]
  show H[q]? = some (vp_cell c (n, .inr (.inr (.inr (.inr g)))))
  rw [← e]
  exact hH
theorem gl4 {A C : List va_E} {i : Nat} {x : va_E} (h : A[i]? = some x) : (A ++ C)[i]? = some x := by
  rw [List.getElem?_append_left (List.getElem?_eq_some_iff.mp h).1]
  exact h
theorem gr4 {A C : List va_E} {a i : Nat} {x : va_E} (hA : A.length = a) (h : C[i]? = some x) : (A ++ C)[a + i]? = some x := by
  subst hA
  rw [List.getElem?_append_right (Nat.le_add_right _ _), Nat.add_sub_cancel_left]
  exact h
/-- the cell of a region -/
def ro4 (E : E3) (r i : Nat) : Prop := ∃ (k : Nat) (x : va_E), k < 266 ∧ ad3 E r i = B4 E + k ∧ (CC4 E)[k]? = some x ∧ sm4 x (el3 E (rt3 r) M0 r i)
theorem ro4_at {E : E3} {r i : Nat} {H : Heap} (h : ro4 E r i) (hP : At4 E (cc4 E) 266 H) (D : va_G) (hD : D = D3 E) : va_at D vwCl (ad3 E r i, el3 E (rt3 r) M0 r i) H := by
  subst hD
  obtain ⟨k, x, h1, h2, h3, h4⟩ := h
  rw [h2]
  refine h4 _ _ _ _ ?_
  have h5 := hP.1 k h1
  have e : cc4 E k = x := by
    unfold cc4
    rw [h3]
    rfl
  rw [e] at h5
  exact h5
section
variable {E : E3} {i : Nat} {x : va_E}
theorem sgX1 (h : (wX1 E (1 + 0) (1 + (0 + 1)) :: LX1_4 E (1 + 0) (1 + (0 + 1)))[i]? = some x) : (CC4 E)[1 + (0 + i)]? = some x := gr4 (A := [wX11 E 0 1]) rfl (gl4 (gl4 (gl4 (gl4 (gl4 (gl4 (gl4 (gl4 (gl4 (gr4 (A := []) rfl h))))))))))
theorem sgX4 (h : (wX4 E (1 + 1) (1 + (1 + 1)) :: LX4_4 E (1 + 1) (1 + (1 + 1)))[i]? = some x) : (CC4 E)[1 + (1 + i)]? = some x := gr4 (A := [wX11 E 0 1]) rfl (gl4 (gl4 (gl4 (gl4 (gl4 (gl4 (gl4 (gl4 (gr4 len11_1 h)))))))))
theorem sgX0 (h : (wX0 E (1 + 8) (1 + (8 + 1)) :: LX0_4 E (1 + 8) (1 + (8 + 1)))[i]? = some x) : (CC4 E)[1 + (8 + i)]? = some x := gr4 (A := [wX11 E 0 1]) rfl (gl4 (gl4 (gl4 (gl4 (gl4 (gl4 (gl4 (gr4 len11_2 h))))))))
theorem sgX2 (h : (wX2 E (B4 E + (1 + 1)) (B4 E + (1 + 8)) (B4 E + (1 + 0)) (1 + 59) (1 + (59 + 1)) :: LX2_4 E (B4 E + (1 + 1)) (B4 E + (1 + 8)) (B4 E + (1 + 0)) (1 + 59) (1 + (59 + 1)))[i]? = some x) : (CC4 E)[1 + (59 + i)]? = some x := gr4 (A := [wX11 E 0 1]) rfl (gl4 (gl4 (gl4 (gl4 (gl4 (gl4 (gr4 len11_3 h)))))))
theorem sgX6 (h : (wX6 E (1 + 183) (1 + (183 + 1)) :: LX6_4 E (1 + 183) (1 + (183 + 1)))[i]? = some x) : (CC4 E)[1 + (183 + i)]? = some x := gr4 (A := [wX11 E 0 1]) rfl (gl4 (gl4 (gl4 (gl4 (gl4 (gr4 len11_4 h))))))
theorem sgX5 (h : (wX5 E (B4 E + (1 + 1)) (B4 E + (1 + 8)) (B4 E + (1 + 0)) (1 + 189) (1 + (189 + 1)) :: LX5_4 E (B4 E + (1 + 1)) (B4 E + (1 + 8)) (B4 E + (1 + 0)) (1 + 189) (1 + (189 + 1)))[i]? = some x) : (CC4 E)[1 + (189 + i)]? = some x := gr4 (A := [wX11 E 0 1]) rfl (gl4 (gl4 (gl4 (gl4 (gr4 len11_5 h)))))
theorem sgX10 (h : (wX10 E (B4 E + (1 + 1)) (B4 E + (1 + 8)) (B4 E + (1 + 0)) (B4 E + (1 + 189)) (1 + 204) (1 + (204 + 1)) :: LX10_4 E (B4 E + (1 + 1)) (B4 E + (1 + 8)) (B4 E + (1 + 0)) (B4 E + (1 + 189)) (1 + 204) (1 + (204 + 1)))[i]? = some x) : (CC4 E)[1 + (204 + i)]? = some x := gr4 (A := [wX11 E 0 1]) rfl (gl4 (gl4 (gl4 (gr4 len11_6 h))))
theorem sgX7 (h : (wX7 E (B4 E + (1 + 8)) (B4 E + (1 + 0)) (1 + 209) (1 + (209 + 1)) :: LX7_4 E (B4 E + (1 + 8)) (B4 E + (1 + 0)) (1 + 209) (1 + (209 + 1)))[i]? = some x) : (CC4 E)[1 + (209 + i)]? = some x := gr4 (A := [wX11 E 0 1]) rfl (gl4 (gl4 (gr4 len11_7 h)))
theorem sgX11 (h : (rw4 E 4 4 1 216 2 4 :: tl4 (fnX11 E 1) 4)[i]? = some x) : (CC4 E)[1 + (215 + i)]? = some x := gr4 (A := [wX11 E 0 1]) rfl (gl4 (gr4 len11_8 h))
theorem sgX12 (h : (wX12 E 225 226 :: LX12_4 E 225 226)[i]? = some x) : (CC4 E)[1 + (224 + i)]? = some x := gr4 (A := [wX11 E 0 1]) rfl (gr4 (lenX11 (k := 0)) h)
theorem cons1_4 {a : va_E} {T : List va_E} (h : T[i]? = some x) : (a :: T)[1 + i]? = some x := by
  rw [Nat.add_comm]
  exact h
theorem cons3_4 {a b c : va_E} {T : List va_E} (h : T[i]? = some x) : (a :: ([] ++ (b :: c :: T)))[3 + i]? = some x := by
  rw [Nat.add_comm]
  exact h
theorem cons4_4 {a b c d : va_E} {T : List va_E} (h : T[i]? = some x) : (a :: (b :: c :: d :: T))[4 + i]? = some x := by
  rw [Nat.add_comm]
  exact h
end
section
variable {l : Launch} {D : va_G} {ca : Nat → ClassId} {B b L : Nat} {xs : Nat → Int32}
end
