/-! WHAT IS READ OUT OF THE LAWS CHANGES MEMORY ONLY WHERE IT IS KEPT -/
abbrev Em (M N : M3) : Prop := (∀ q : Nat, q ∉ ([44, 53, 54, 55] : List Nat) → N q = M q) ∧ (∀ j : Int, j ∉ ([11, 12, 13, 17] : List Int) → N 44 0 j = M 44 0 j)
abbrev Ec (M N : M3) : Prop := (∀ q : Nat, q ∉ ([3, 8, 9] : List Nat) → N q = M q) ∧ (∀ j : Int, j ∉ ([10] : List Int) → N 3 0 j = M 3 0 j)
theorem Em.rf {M : M3} : Em M M := ⟨fun _ _ => rfl, fun _ _ => rfl⟩
theorem Em.tr {M N K : M3} (h : Em M N) (h2 : Em N K) : Em M K := ⟨fr_tr h.1 h2.1, fun j hj => (h2.2 j hj).trans (h.2 j hj)⟩
theorem Ec.rf {M : M3} : Ec M M := ⟨fun _ _ => rfl, fun _ _ => rfl⟩
theorem Ec.tr {M N K : M3} (h : Ec M N) (h2 : Ec N K) : Ec M K := ⟨fr_tr h.1 h2.1, fun j hj => (h2.2 j hj).trans (h.2 j hj)⟩
theorem Em.L {M N : M3} (h : Em M N) : LM3 N = LM3 M := LM3_eq (h.1 52 (by decide)) (h.2 9 (by decide))
theorem Ec.L {M N : M3} (h : Ec M N) : LL3 N = LL3 M := LL3_eq (h.1 4 (by decide)) (h.2 0 (by decide))
theorem eX4_saidOf {E : E3} {Q : Q3} {M0 M : M3} {x1 x2 : Int} (e : Ec M0 M) (h : LwC M ∧ (0 ≤ x1 ∧ x1 < 24) ∧ 0 ≤ x2 ∧ x2 ≤ 399) (k : ∀ (N : M3), RM3 N → Ec M N → LwC N → Q (some (vI (sSd (LL3 M0) x1 x2))) N) : C3 E YX4_saidOf [vR 3 0, vI x1, vI x2] M Q :=
  kX4_saidOf h (fun N a b c d => by rw [e.L]; exact k N a ⟨b, c⟩ d)
theorem eX4_partFor {E : E3} {Q : Q3} {M0 M : M3} {x1 x2 : Int} (e : Ec M0 M) (h : LwC M ∧ (0 ≤ x1 ∧ x1 < 24) ∧ 0 ≤ x2 ∧ x2 ≤ 399) (k : ∀ (N : M3), RM3 N → Ec M N → LwC N → Q (some (vI (sPt (LL3 M0) x1 x2))) N) : C3 E YX4_partFor [vR 3 0, vI x1, vI x2] M Q :=
  kX4_partFor h (fun N a b c d => by rw [e.L]; exact k N a ⟨b, c⟩ d)
theorem eX4_rightAnswers {E : E3} {Q : Q3} {M0 M : M3} {x1 : Int} (e : Ec M0 M) (h : LwC M ∧ 0 ≤ x1 ∧ x1 ≤ 399) (k : ∀ (N : M3), RM3 N → Ec M N → LwC N → Q (some (vI (sRm (LL3 M0) x1))) N) : C3 E YX4_rightAnswers [vR 3 0, vI x1] M Q :=
  kX4_rightAnswers h (fun N a b c d => by rw [e.L]; exact k N a ⟨b, c⟩ d)
theorem eX12_partOf {E : E3} {Q : Q3} {M0 M : M3} {x1 x2 : Int} (e : Em M0 M) (h : RdC M ∧ (0 ≤ x1 ∧ x1 < 24) ∧ 0 ≤ x2 ∧ x2 ≤ 399) (k : ∀ (N : M3), RM3 N → Em M N → RdC N → Q (some (vI (sPt (LM3 M0) x1 x2))) N) : C3 E YX12_partOf [vR 44 0, vI x1, vI x2] M Q :=
  kX12_partOf h (fun N a b c d => by rw [e.L]; exact k N a ⟨b, c⟩ d.1)
theorem eX12_rightOf {E : E3} {Q : Q3} {M0 M : M3} {x1 x2 : Int} (e : Em M0 M) (h : RdC M ∧ (0 ≤ x1 ∧ x1 < 20) ∧ 0 ≤ x2 ∧ x2 ≤ 399) (k : ∀ (N : M3), RM3 N → Em M N → RdC N → Q (some (vI (sSd (LM3 M0) x1 x2))) N) : C3 E YX12_rightOf [vR 44 0, vI x1, vI x2] M Q :=
  kX12_rightOf h (fun N a b c d => by rw [e.L]; exact k N a ⟨b, c⟩ d)
theorem eX12_lawOf {E : E3} {Q : Q3} {M0 M : M3} {x1 x2 : Int} (e : Em M0 M) (h : RdC M ∧ (0 ≤ x1 ∧ x1 < 4) ∧ 0 ≤ x2 ∧ x2 ≤ 399) (k : ∀ (N : M3), RM3 N → Em M N → RdC N → Q (some (vI (sSd (LM3 M0) (20 + x1) x2))) N) : C3 E YX12_lawOf [vR 44 0, vI x1, vI x2] M Q :=
  kX12_lawOf h (fun N a b c d => by rw [e.L]; exact k N a ⟨b, c⟩ d)
theorem eX12_rightMany {E : E3} {Q : Q3} {M0 M : M3} (e : Em M0 M) (h : RdC M ∧ 0 ≤ M0 44 0 0 ∧ M0 44 0 0 ≤ 399) (k : ∀ (N : M3), RM3 N → Em M N → RdC N → Q (some (vI (sRm (LM3 M0) (M0 44 0 0)))) N) : C3 E YX12_rightMany [vR 44 0] M Q :=
  kX12_rightMany ⟨h.1, by rw [e.2 0 (by decide)]; exact h.2⟩ (fun N a b c d => by rw [e.L, e.2 0 (by decide)]; exact k N a ⟨b, c⟩ d)
abbrev alw3 (l : List (Int × Int × Int)) (s d : Int) : Prop := and3 (shr3 (sSd l 21 d) s) 1 = 1
def okF (M : M3) (f : Int) : Prop := (0 ≤ f ∧ f < 60) ∧ (0 ≤ M 57 0 f ∧ M 57 0 f ≤ 399) ∧ (0 ≤ M 56 0 f ∧ M 56 0 f < 48)
def okR (M : M3) (f : Int) : Prop := okF M f ∧ (0 ≤ mNow M ∧ mNow M ≤ 399) ∧ (M 62 0 f = 0 ∨ M 62 0 f = 1 ∨ M 62 0 f = 2) ∧ (0 < M 62 0 f → (0 ≤ M 60 0 f ∧ M 60 0 f ≤ 399) ∧ (-1 ≤ M 63 0 f ∧ M 63 0 f ≤ 4))
def mRights (M : M3) (f : Int) : Int := cn3 20 fun q => decide (M 59 0 (20 * f + q) ≠ -1 ∧ M 59 0 (20 * f + q) = sSd (LM3 M) q (M 57 0 f))
theorem mNow_e {M N : M3} (h : Em M N) : mNow N = mNow M := by unfold mNow; rw [h.2 0 (by decide), h.2 27 (by decide)]
theorem okF_e {M N : M3} {f : Int} (h : Em M N) (o : okF M f) : okF N f := by unfold okF at o ⊢; rw [h.1 57 (by decide), h.1 56 (by decide)]; exact o
theorem okR_e {M N : M3} {f : Int} (h : Em M N) (o : okR M f) : okR N f := by
  unfold okR at o ⊢
  rw [h.1 62 (by decide), h.1 60 (by decide), h.1 63 (by decide), mNow_e h]
  exact ⟨okF_e h o.1, o.2⟩
theorem mHow_e {M N : M3} (h : Em M N) (f : Int) : mHow N f = mHow M f := by unfold mHow; rw [h.1 57 (by decide), h.1 62 (by decide), h.1 60 (by decide), mNow_e h]
theorem mRights_e {M N : M3} (h : Em M N) (f : Int) : mRights N f = mRights M f := by unfold mRights; rw [h.1 59 (by decide), h.1 57 (by decide), h.L]
theorem mRights_rg (M : M3) (f : Int) : 0 ≤ mRights M f ∧ mRights M f ≤ 20 := cn3_rg (by decide) _
theorem mRights_r32 (M : M3) (f : Int) : -2147483648 ≤ mRights M f ∧ mRights M f ≤ 2147483647 := by
  have := mRights_rg M f
  omega
abbrev mByT (M : M3) (f : Int) : Prop := alw3 (LM3 M) (M 46 0 (M 56 0 f)) (M 57 0 f) ∧ sSd (LM3 M) 22 (M 57 0 f) ≤ M 58 0 f ∧ sSd (LM3 M) 20 (M 57 0 f) ≤ mRights M f
def mEnd (M : M3) (f : Int) : Int := if 0 < mHow M f then M 60 0 f else mNow M
abbrev mLate (M : M3) (f : Int) : Prop := sSd (LM3 M) 23 (mEnd M f) < mEnd M f - M 57 0 f
theorem mEnd_e {M N : M3} (h : Em M N) (f : Int) : mEnd N f = mEnd M f := by unfold mEnd; rw [mHow_e h, h.1 60 (by decide), mNow_e h]
def mTrue (M : M3) (f : Int) : Int := or3 (or3 (or3 (if alw3 (LM3 M) (M 46 0 (M 56 0 f)) (M 57 0 f) then 0 else 1) (if M 58 0 f < sSd (LM3 M) 22 (M 57 0 f) then 2 else 0)) (if mRights M f < sSd (LM3 M) 20 (M 57 0 f) then 4 else 0)) (if mLate M f then 8 else 0)
theorem mTrue_e {M N : M3} (h : Em M N) (f : Int) : mTrue N f = mTrue M f := by
  unfold mTrue
  simp only [mLate, h.1 58 (by decide), h.1 57 (by decide), h.1 56 (by decide), h.1 46 (by decide), mEnd_e h, mRights_e h, h.L]
abbrev mPtd (M : M3) (f : Int) : Prop := 0 < mHow M f ∧ ((mHow M f = 1 ∧ ¬ mByT M f) ∨ (mHow M f ≠ 1 ∧ mByT M f))
abbrev mFls (M : M3) (f : Int) : Prop := mHow M f = 2 ∧ and3 (shr3 (mTrue M f) (M 63 0 f)) 1 = 0
