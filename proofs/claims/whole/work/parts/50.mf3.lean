theorem kX12_trueReasons {E : E3} {Q : Q3} {M : M3} {x1 : Int} (h : RdC M ∧ okR M x1) (k : ∀ (N : M3), RM3 N → Em M N → RdC N → Q (some (vI (mTrue M x1))) N) : C3 E YX12_trueReasons [vR 44 0, vI x1] M Q := by
  obtain ⟨hR, ho⟩ := h
  have ho0 := ho
  obtain ⟨⟨o1, o2, o3⟩, o4, o5, o6⟩ := ho
  have s1 := hR.sd 22 (M 57 0 x1)
  have s2 := hR.sd 20 (M 57 0 x1)
  have s3 := mRights_rg M x1
  refine sX12_trueReasons ?_
  refine ⟨?_, ?_, ?_, ?_⟩
  · first | omega | exact ⟨hR, by omega⟩ | exact ⟨hp1, by omega, by omega⟩ | exact ⟨hp2, ho0.1⟩ | exact ⟨hp3, by omega, by omega⟩ | exact ⟨hp4, ho0⟩
  · first | omega | exact ⟨hR, by omega⟩ | exact ⟨hp1, by omega, by omega⟩ | exact ⟨hp2, ho0.1⟩ | exact ⟨hp3, by omega, by omega⟩ | exact ⟨hp4, ho0⟩
  · first | omega | exact ⟨hR, by omega⟩ | exact ⟨hp1, by omega, by omega⟩ | exact ⟨hp2, ho0.1⟩ | exact ⟨hp3, by omega, by omega⟩ | exact ⟨hp4, ho0⟩
  intro N1 hN1 he1 hp1
  refine ⟨fun c1 => ?_, fun c1 => ?_⟩
  · refine ⟨?_, ?_⟩
    · first | omega | exact ⟨hR, by omega⟩ | exact ⟨hp1, by omega, by omega⟩ | exact ⟨hp2, ho0.1⟩ | exact ⟨hp3, by omega, by omega⟩ | exact ⟨hp4, ho0⟩
    intro N2 hN2 he2 hp2
    refine ⟨?_, ?_⟩
    · first | omega | exact ⟨hR, by omega⟩ | exact ⟨hp1, by omega, by omega⟩ | exact ⟨hp2, ho0.1⟩ | exact ⟨hp3, by omega, by omega⟩ | exact ⟨hp4, ho0⟩
    refine ⟨fun c2 => ?_, fun c2 => ?_⟩
    · refine ⟨?_, ?_⟩
      · first | omega | exact ⟨hR, by omega⟩ | exact ⟨hp1, by omega, by omega⟩ | exact ⟨hp2, ho0.1⟩ | exact ⟨hp3, by omega, by omega⟩ | exact ⟨hp4, ho0⟩
      intro N3 hN3 he3 hp3
      refine ⟨?_, ?_⟩
      · first | omega | exact ⟨hR, by omega⟩ | exact ⟨hp1, by omega, by omega⟩ | exact ⟨hp2, ho0.1⟩ | exact ⟨hp3, by omega, by omega⟩ | exact ⟨hp4, ho0⟩
      intro N4 hN4 he4 hp4
      refine ⟨?_, ?_⟩
      · first | omega | exact ⟨hR, by omega⟩ | exact ⟨hp1, by omega, by omega⟩ | exact ⟨hp2, ho0.1⟩ | exact ⟨hp3, by omega, by omega⟩ | exact ⟨hp4, ho0⟩
      refine ⟨fun c3 => ?_, fun c3 => ?_⟩
      · refine ⟨?_, ?_⟩
        · first | omega | exact ⟨hR, by omega⟩ | exact ⟨hp1, by omega, by omega⟩ | exact ⟨hp2, ho0.1⟩ | exact ⟨hp3, by omega, by omega⟩ | exact ⟨hp4, ho0⟩
        intro N5 hN5 he5 hp5
        refine ⟨fun c4 => ?_, fun c4 => ?_⟩
        · have k1 := k N5 hN5 (Em.tr (Em.tr (Em.tr (Em.tr (Em.tr Em.rf he1) he2) he3) he4) he5) hp5
          unfold mTrue at k1
          first
            | rw [if_pos (show alw3 (LM3 M) (M 46 0 (M 56 0 x1)) (M 57 0 x1) by assumption)] at k1
            | rw [if_neg (show ¬ alw3 (LM3 M) (M 46 0 (M 56 0 x1)) (M 57 0 x1) by assumption)] at k1
          first
            | rw [if_pos (show M 58 0 x1 < sSd (LM3 M) 22 (M 57 0 x1) by assumption)] at k1
            | rw [if_neg (show ¬ M 58 0 x1 < sSd (LM3 M) 22 (M 57 0 x1) by omega)] at k1
          first
            | rw [if_pos (show mRights M x1 < sSd (LM3 M) 20 (M 57 0 x1) by assumption)] at k1
            | rw [if_neg (show ¬ mRights M x1 < sSd (LM3 M) 20 (M 57 0 x1) by omega)] at k1
          first
            | rw [if_pos (show mLate M x1 by assumption)] at k1
            | rw [if_neg (show ¬ mLate M x1 by assumption)] at k1
          exact k1
        · have k1 := k N5 hN5 (Em.tr (Em.tr (Em.tr (Em.tr (Em.tr Em.rf he1) he2) he3) he4) he5) hp5
          unfold mTrue at k1
          first
            | rw [if_pos (show alw3 (LM3 M) (M 46 0 (M 56 0 x1)) (M 57 0 x1) by assumption)] at k1
            | rw [if_neg (show ¬ alw3 (LM3 M) (M 46 0 (M 56 0 x1)) (M 57 0 x1) by assumption)] at k1
          first
            | rw [if_pos (show M 58 0 x1 < sSd (LM3 M) 22 (M 57 0 x1) by assumption)] at k1
            | rw [if_neg (show ¬ M 58 0 x1 < sSd (LM3 M) 22 (M 57 0 x1) by omega)] at k1
          first
            | rw [if_pos (show mRights M x1 < sSd (LM3 M) 20 (M 57 0 x1) by assumption)] at k1
            | rw [if_neg (show ¬ mRights M x1 < sSd (LM3 M) 20 (M 57 0 x1) by omega)] at k1
          first
            | rw [if_pos (show mLate M x1 by assumption)] at k1
            | rw [if_neg (show ¬ mLate M x1 by assumption)] at k1
          exact k1
      · refine ⟨?_, ?_⟩
        · first | omega | exact ⟨hR, by omega⟩ | exact ⟨hp1, by omega, by omega⟩ | exact ⟨hp2, ho0.1⟩ | exact ⟨hp3, by omega, by omega⟩ | exact ⟨hp4, ho0⟩
        intro N5 hN5 he5 hp5
        refine ⟨fun c4 => ?_, fun c4 => ?_⟩
        · have k1 := k N5 hN5 (Em.tr (Em.tr (Em.tr (Em.tr (Em.tr Em.rf he1) he2) he3) he4) he5) hp5
          unfold mTrue at k1
          first
            | rw [if_pos (show alw3 (LM3 M) (M 46 0 (M 56 0 x1)) (M 57 0 x1) by assumption)] at k1
            | rw [if_neg (show ¬ alw3 (LM3 M) (M 46 0 (M 56 0 x1)) (M 57 0 x1) by assumption)] at k1
          first
            | rw [if_pos (show M 58 0 x1 < sSd (LM3 M) 22 (M 57 0 x1) by assumption)] at k1
            | rw [if_neg (show ¬ M 58 0 x1 < sSd (LM3 M) 22 (M 57 0 x1) by omega)] at k1
          first
            | rw [if_pos (show mRights M x1 < sSd (LM3 M) 20 (M 57 0 x1) by assumption)] at k1
            | rw [if_neg (show ¬ mRights M x1 < sSd (LM3 M) 20 (M 57 0 x1) by omega)] at k1
          first
            | rw [if_pos (show mLate M x1 by assumption)] at k1
            | rw [if_neg (show ¬ mLate M x1 by assumption)] at k1
          exact k1
        · have k1 := k N5 hN5 (Em.tr (Em.tr (Em.tr (Em.tr (Em.tr Em.rf he1) he2) he3) he4) he5) hp5
          unfold mTrue at k1
          first
            | rw [if_pos (show alw3 (LM3 M) (M 46 0 (M 56 0 x1)) (M 57 0 x1) by assumption)] at k1
            | rw [if_neg (show ¬ alw3 (LM3 M) (M 46 0 (M 56 0 x1)) (M 57 0 x1) by assumption)] at k1
          first
            | rw [if_pos (show M 58 0 x1 < sSd (LM3 M) 22 (M 57 0 x1) by assumption)] at k1
            | rw [if_neg (show ¬ M 58 0 x1 < sSd (LM3 M) 22 (M 57 0 x1) by omega)] at k1
          first
            | rw [if_pos (show mRights M x1 < sSd (LM3 M) 20 (M 57 0 x1) by assumption)] at k1
            | rw [if_neg (show ¬ mRights M x1 < sSd (LM3 M) 20 (M 57 0 x1) by omega)] at k1
          first
            | rw [if_pos (show mLate M x1 by assumption)] at k1
            | rw [if_neg (show ¬ mLate M x1 by assumption)] at k1
          exact k1
    · refine ⟨?_, ?_⟩
      · first | omega | exact ⟨hR, by omega⟩ | exact ⟨hp1, by omega, by omega⟩ | exact ⟨hp2, ho0.1⟩ | exact ⟨hp3, by omega, by omega⟩ | exact ⟨hp4, ho0⟩
      intro N3 hN3 he3 hp3
      refine ⟨?_, ?_⟩
      · first | omega | exact ⟨hR, by omega⟩ | exact ⟨hp1, by omega, by omega⟩ | exact ⟨hp2, ho0.1⟩ | exact ⟨hp3, by omega, by omega⟩ | exact ⟨hp4, ho0⟩
      intro N4 hN4 he4 hp4
      refine ⟨?_, ?_⟩
      · first | omega | exact ⟨hR, by omega⟩ | exact ⟨hp1, by omega, by omega⟩ | exact ⟨hp2, ho0.1⟩ | exact ⟨hp3, by omega, by omega⟩ | exact ⟨hp4, ho0⟩
      refine ⟨fun c3 => ?_, fun c3 => ?_⟩
      · refine ⟨?_, ?_⟩
        · first | omega | exact ⟨hR, by omega⟩ | exact ⟨hp1, by omega, by omega⟩ | exact ⟨hp2, ho0.1⟩ | exact ⟨hp3, by omega, by omega⟩ | exact ⟨hp4, ho0⟩
        intro N5 hN5 he5 hp5
        refine ⟨fun c4 => ?_, fun c4 => ?_⟩
        · have k1 := k N5 hN5 (Em.tr (Em.tr (Em.tr (Em.tr (Em.tr Em.rf he1) he2) he3) he4) he5) hp5
          unfold mTrue at k1
          first
            | rw [if_pos (show alw3 (LM3 M) (M 46 0 (M 56 0 x1)) (M 57 0 x1) by assumption)] at k1
            | rw [if_neg (show ¬ alw3 (LM3 M) (M 46 0 (M 56 0 x1)) (M 57 0 x1) by assumption)] at k1
          first
            | rw [if_pos (show M 58 0 x1 < sSd (LM3 M) 22 (M 57 0 x1) by assumption)] at k1
            | rw [if_neg (show ¬ M 58 0 x1 < sSd (LM3 M) 22 (M 57 0 x1) by omega)] at k1
          first
            | rw [if_pos (show mRights M x1 < sSd (LM3 M) 20 (M 57 0 x1) by assumption)] at k1
            | rw [if_neg (show ¬ mRights M x1 < sSd (LM3 M) 20 (M 57 0 x1) by omega)] at k1
          first
            | rw [if_pos (show mLate M x1 by assumption)] at k1
            | rw [if_neg (show ¬ mLate M x1 by assumption)] at k1
          exact k1
        · have k1 := k N5 hN5 (Em.tr (Em.tr (Em.tr (Em.tr (Em.tr Em.rf he1) he2) he3) he4) he5) hp5
          unfold mTrue at k1
          first
            | rw [if_pos (show alw3 (LM3 M) (M 46 0 (M 56 0 x1)) (M 57 0 x1) by assumption)] at k1
            | rw [if_neg (show ¬ alw3 (LM3 M) (M 46 0 (M 56 0 x1)) (M 57 0 x1) by assumption)] at k1
          first
            | rw [if_pos (show M 58 0 x1 < sSd (LM3 M) 22 (M 57 0 x1) by assumption)] at k1
            | rw [if_neg (show ¬ M 58 0 x1 < sSd (LM3 M) 22 (M 57 0 x1) by omega)] at k1
          first
            | rw [if_pos (show mRights M x1 < sSd (LM3 M) 20 (M 57 0 x1) by assumption)] at k1
            | rw [if_neg (show ¬ mRights M x1 < sSd (LM3 M) 20 (M 57 0 x1) by omega)] at k1
          first
            | rw [if_pos (show mLate M x1 by assumption)] at k1
            | rw [if_neg (show ¬ mLate M x1 by assumption)] at k1
          exact k1
      · refine ⟨?_, ?_⟩
        · first | omega | exact ⟨hR, by omega⟩ | exact ⟨hp1, by omega, by omega⟩ | exact ⟨hp2, ho0.1⟩ | exact ⟨hp3, by omega, by omega⟩ | exact ⟨hp4, ho0⟩
        intro N5 hN5 he5 hp5
        refine ⟨fun c4 => ?_, fun c4 => ?_⟩
        · have k1 := k N5 hN5 (Em.tr (Em.tr (Em.tr (Em.tr (Em.tr Em.rf he1) he2) he3) he4) he5) hp5
          unfold mTrue at k1
          first
            | rw [if_pos (show alw3 (LM3 M) (M 46 0 (M 56 0 x1)) (M 57 0 x1) by assumption)] at k1
            | rw [if_neg (show ¬ alw3 (LM3 M) (M 46 0 (M 56 0 x1)) (M 57 0 x1) by assumption)] at k1
          first
            | rw [if_pos (show M 58 0 x1 < sSd (LM3 M) 22 (M 57 0 x1) by assumption)] at k1
            | rw [if_neg (show ¬ M 58 0 x1 < sSd (LM3 M) 22 (M 57 0 x1) by omega)] at k1
          first
            | rw [if_pos (show mRights M x1 < sSd (LM3 M) 20 (M 57 0 x1) by assumption)] at k1
            | rw [if_neg (show ¬ mRights M x1 < sSd (LM3 M) 20 (M 57 0 x1) by omega)] at k1
          first
            | rw [if_pos (show mLate M x1 by assumption)] at k1
            | rw [if_neg (show ¬ mLate M x1 by assumption)] at k1
          exact k1
        · have k1 := k N5 hN5 (Em.tr (Em.tr (Em.tr (Em.tr (Em.tr Em.rf he1) he2) he3) he4) he5) hp5
          unfold mTrue at k1
          first
            | rw [if_pos (show alw3 (LM3 M) (M 46 0 (M 56 0 x1)) (M 57 0 x1) by assumption)] at k1
            | rw [if_neg (show ¬ alw3 (LM3 M) (M 46 0 (M 56 0 x1)) (M 57 0 x1) by assumption)] at k1
          first
            | rw [if_pos (show M 58 0 x1 < sSd (LM3 M) 22 (M 57 0 x1) by assumption)] at k1
            | rw [if_neg (show ¬ M 58 0 x1 < sSd (LM3 M) 22 (M 57 0 x1) by omega)] at k1
          first
            | rw [if_pos (show mRights M x1 < sSd (LM3 M) 20 (M 57 0 x1) by assumption)] at k1
            | rw [if_neg (show ¬ mRights M x1 < sSd (LM3 M) 20 (M 57 0 x1) by omega)] at k1
          first
            | rw [if_pos (show mLate M x1 by assumption)] at k1
            | rw [if_neg (show ¬ mLate M x1 by assumption)] at k1
          exact k1
  · refine ⟨?_, ?_⟩
    · first | omega | exact ⟨hR, by omega⟩ | exact ⟨hp1, by omega, by omega⟩ | exact ⟨hp2, ho0.1⟩ | exact ⟨hp3, by omega, by omega⟩ | exact ⟨hp4, ho0⟩
    intro N2 hN2 he2 hp2
    refine ⟨?_, ?_⟩
    · first | omega | exact ⟨hR, by omega⟩ | exact ⟨hp1, by omega, by omega⟩ | exact ⟨hp2, ho0.1⟩ | exact ⟨hp3, by omega, by omega⟩ | exact ⟨hp4, ho0⟩
    refine ⟨fun c2 => ?_, fun c2 => ?_⟩
    · refine ⟨?_, ?_⟩
      · first | omega | exact ⟨hR, by omega⟩ | exact ⟨hp1, by omega, by omega⟩ | exact ⟨hp2, ho0.1⟩ | exact ⟨hp3, by omega, by omega⟩ | exact ⟨hp4, ho0⟩
      intro N3 hN3 he3 hp3
      refine ⟨?_, ?_⟩
      · first | omega | exact ⟨hR, by omega⟩ | exact ⟨hp1, by omega, by omega⟩ | exact ⟨hp2, ho0.1⟩ | exact ⟨hp3, by omega, by omega⟩ | exact ⟨hp4, ho0⟩
      intro N4 hN4 he4 hp4
      refine ⟨?_, ?_⟩
      · first | omega | exact ⟨hR, by omega⟩ | exact ⟨hp1, by omega, by omega⟩ | exact ⟨hp2, ho0.1⟩ | exact ⟨hp3, by omega, by omega⟩ | exact ⟨hp4, ho0⟩
      refine ⟨fun c3 => ?_, fun c3 => ?_⟩
      · refine ⟨?_, ?_⟩
        · first | omega | exact ⟨hR, by omega⟩ | exact ⟨hp1, by omega, by omega⟩ | exact ⟨hp2, ho0.1⟩ | exact ⟨hp3, by omega, by omega⟩ | exact ⟨hp4, ho0⟩
        intro N5 hN5 he5 hp5
        refine ⟨fun c4 => ?_, fun c4 => ?_⟩
        · have k1 := k N5 hN5 (Em.tr (Em.tr (Em.tr (Em.tr (Em.tr Em.rf he1) he2) he3) he4) he5) hp5
          unfold mTrue at k1
          first
            | rw [if_pos (show alw3 (LM3 M) (M 46 0 (M 56 0 x1)) (M 57 0 x1) by assumption)] at k1
            | rw [if_neg (show ¬ alw3 (LM3 M) (M 46 0 (M 56 0 x1)) (M 57 0 x1) by assumption)] at k1
          first
            | rw [if_pos (show M 58 0 x1 < sSd (LM3 M) 22 (M 57 0 x1) by assumption)] at k1
            | rw [if_neg (show ¬ M 58 0 x1 < sSd (LM3 M) 22 (M 57 0 x1) by omega)] at k1
          first
            | rw [if_pos (show mRights M x1 < sSd (LM3 M) 20 (M 57 0 x1) by assumption)] at k1
            | rw [if_neg (show ¬ mRights M x1 < sSd (LM3 M) 20 (M 57 0 x1) by omega)] at k1
          first
            | rw [if_pos (show mLate M x1 by assumption)] at k1
            | rw [if_neg (show ¬ mLate M x1 by assumption)] at k1
          exact k1
        · have k1 := k N5 hN5 (Em.tr (Em.tr (Em.tr (Em.tr (Em.tr Em.rf he1) he2) he3) he4) he5) hp5
          unfold mTrue at k1
          first
            | rw [if_pos (show alw3 (LM3 M) (M 46 0 (M 56 0 x1)) (M 57 0 x1) by assumption)] at k1
            | rw [if_neg (show ¬ alw3 (LM3 M) (M 46 0 (M 56 0 x1)) (M 57 0 x1) by assumption)] at k1
          first
            | rw [if_pos (show M 58 0 x1 < sSd (LM3 M) 22 (M 57 0 x1) by assumption)] at k1
            | rw [if_neg (show ¬ M 58 0 x1 < sSd (LM3 M) 22 (M 57 0 x1) by omega)] at k1
          first
            | rw [if_pos (show mRights M x1 < sSd (LM3 M) 20 (M 57 0 x1) by assumption)] at k1
            | rw [if_neg (show ¬ mRights M x1 < sSd (LM3 M) 20 (M 57 0 x1) by omega)] at k1
          first
            | rw [if_pos (show mLate M x1 by assumption)] at k1
            | rw [if_neg (show ¬ mLate M x1 by assumption)] at k1
          exact k1
      · refine ⟨?_, ?_⟩
        · first | omega | exact ⟨hR, by omega⟩ | exact ⟨hp1, by omega, by omega⟩ | exact ⟨hp2, ho0.1⟩ | exact ⟨hp3, by omega, by omega⟩ | exact ⟨hp4, ho0⟩
        intro N5 hN5 he5 hp5
        refine ⟨fun c4 => ?_, fun c4 => ?_⟩
        · have k1 := k N5 hN5 (Em.tr (Em.tr (Em.tr (Em.tr (Em.tr Em.rf he1) he2) he3) he4) he5) hp5
          unfold mTrue at k1
          first
            | rw [if_pos (show alw3 (LM3 M) (M 46 0 (M 56 0 x1)) (M 57 0 x1) by assumption)] at k1
            | rw [if_neg (show ¬ alw3 (LM3 M) (M 46 0 (M 56 0 x1)) (M 57 0 x1) by assumption)] at k1
          first
            | rw [if_pos (show M 58 0 x1 < sSd (LM3 M) 22 (M 57 0 x1) by assumption)] at k1
            | rw [if_neg (show ¬ M 58 0 x1 < sSd (LM3 M) 22 (M 57 0 x1) by omega)] at k1
          first
            | rw [if_pos (show mRights M x1 < sSd (LM3 M) 20 (M 57 0 x1) by assumption)] at k1
            | rw [if_neg (show ¬ mRights M x1 < sSd (LM3 M) 20 (M 57 0 x1) by omega)] at k1
          first
            | rw [if_pos (show mLate M x1 by assumption)] at k1
            | rw [if_neg (show ¬ mLate M x1 by assumption)] at k1
          exact k1
        · have k1 := k N5 hN5 (Em.tr (Em.tr (Em.tr (Em.tr (Em.tr Em.rf he1) he2) he3) he4) he5) hp5
          unfold mTrue at k1
          first
            | rw [if_pos (show alw3 (LM3 M) (M 46 0 (M 56 0 x1)) (M 57 0 x1) by assumption)] at k1
            | rw [if_neg (show ¬ alw3 (LM3 M) (M 46 0 (M 56 0 x1)) (M 57 0 x1) by assumption)] at k1
          first
            | rw [if_pos (show M 58 0 x1 < sSd (LM3 M) 22 (M 57 0 x1) by assumption)] at k1
            | rw [if_neg (show ¬ M 58 0 x1 < sSd (LM3 M) 22 (M 57 0 x1) by omega)] at k1
          first
            | rw [if_pos (show mRights M x1 < sSd (LM3 M) 20 (M 57 0 x1) by assumption)] at k1
            | rw [if_neg (show ¬ mRights M x1 < sSd (LM3 M) 20 (M 57 0 x1) by omega)] at k1
          first
            | rw [if_pos (show mLate M x1 by assumption)] at k1
            | rw [if_neg (show ¬ mLate M x1 by assumption)] at k1
          exact k1
    · refine ⟨?_, ?_⟩
      · first | omega | exact ⟨hR, by omega⟩ | exact ⟨hp1, by omega, by omega⟩ | exact ⟨hp2, ho0.1⟩ | exact ⟨hp3, by omega, by omega⟩ | exact ⟨hp4, ho0⟩
      intro N3 hN3 he3 hp3
      refine ⟨?_, ?_⟩
      · first | omega | exact ⟨hR, by omega⟩ | exact ⟨hp1, by omega, by omega⟩ | exact ⟨hp2, ho0.1⟩ | exact ⟨hp3, by omega, by omega⟩ | exact ⟨hp4, ho0⟩
      intro N4 hN4 he4 hp4
      refine ⟨?_, ?_⟩
      · first | omega | exact ⟨hR, by omega⟩ | exact ⟨hp1, by omega, by omega⟩ | exact ⟨hp2, ho0.1⟩ | exact ⟨hp3, by omega, by omega⟩ | exact ⟨hp4, ho0⟩
      refine ⟨fun c3 => ?_, fun c3 => ?_⟩
      · refine ⟨?_, ?_⟩
        · first | omega | exact ⟨hR, by omega⟩ | exact ⟨hp1, by omega, by omega⟩ | exact ⟨hp2, ho0.1⟩ | exact ⟨hp3, by omega, by omega⟩ | exact ⟨hp4, ho0⟩
        intro N5 hN5 he5 hp5
        refine ⟨fun c4 => ?_, fun c4 => ?_⟩
        · have k1 := k N5 hN5 (Em.tr (Em.tr (Em.tr (Em.tr (Em.tr Em.rf he1) he2) he3) he4) he5) hp5
          unfold mTrue at k1
          first
            | rw [if_pos (show alw3 (LM3 M) (M 46 0 (M 56 0 x1)) (M 57 0 x1) by assumption)] at k1
            | rw [if_neg (show ¬ alw3 (LM3 M) (M 46 0 (M 56 0 x1)) (M 57 0 x1) by assumption)] at k1
          first
            | rw [if_pos (show M 58 0 x1 < sSd (LM3 M) 22 (M 57 0 x1) by assumption)] at k1
            | rw [if_neg (show ¬ M 58 0 x1 < sSd (LM3 M) 22 (M 57 0 x1) by omega)] at k1
          first
            | rw [if_pos (show mRights M x1 < sSd (LM3 M) 20 (M 57 0 x1) by assumption)] at k1
            | rw [if_neg (show ¬ mRights M x1 < sSd (LM3 M) 20 (M 57 0 x1) by omega)] at k1
          first
            | rw [if_pos (show mLate M x1 by assumption)] at k1
            | rw [if_neg (show ¬ mLate M x1 by assumption)] at k1
          exact k1
        · have k1 := k N5 hN5 (Em.tr (Em.tr (Em.tr (Em.tr (Em.tr Em.rf he1) he2) he3) he4) he5) hp5
          unfold mTrue at k1
          first
            | rw [if_pos (show alw3 (LM3 M) (M 46 0 (M 56 0 x1)) (M 57 0 x1) by assumption)] at k1
            | rw [if_neg (show ¬ alw3 (LM3 M) (M 46 0 (M 56 0 x1)) (M 57 0 x1) by assumption)] at k1
          first
            | rw [if_pos (show M 58 0 x1 < sSd (LM3 M) 22 (M 57 0 x1) by assumption)] at k1
            | rw [if_neg (show ¬ M 58 0 x1 < sSd (LM3 M) 22 (M 57 0 x1) by omega)] at k1
          first
            | rw [if_pos (show mRights M x1 < sSd (LM3 M) 20 (M 57 0 x1) by assumption)] at k1
            | rw [if_neg (show ¬ mRights M x1 < sSd (LM3 M) 20 (M 57 0 x1) by omega)] at k1
          first
            | rw [if_pos (show mLate M x1 by assumption)] at k1
            | rw [if_neg (show ¬ mLate M x1 by assumption)] at k1
          exact k1
      · refine ⟨?_, ?_⟩
        · first | omega | exact ⟨hR, by omega⟩ | exact ⟨hp1, by omega, by omega⟩ | exact ⟨hp2, ho0.1⟩ | exact ⟨hp3, by omega, by omega⟩ | exact ⟨hp4, ho0⟩
        intro N5 hN5 he5 hp5
        refine ⟨fun c4 => ?_, fun c4 => ?_⟩
        · have k1 := k N5 hN5 (Em.tr (Em.tr (Em.tr (Em.tr (Em.tr Em.rf he1) he2) he3) he4) he5) hp5
          unfold mTrue at k1
          first
            | rw [if_pos (show alw3 (LM3 M) (M 46 0 (M 56 0 x1)) (M 57 0 x1) by assumption)] at k1
            | rw [if_neg (show ¬ alw3 (LM3 M) (M 46 0 (M 56 0 x1)) (M 57 0 x1) by assumption)] at k1
          first
            | rw [if_pos (show M 58 0 x1 < sSd (LM3 M) 22 (M 57 0 x1) by assumption)] at k1
            | rw [if_neg (show ¬ M 58 0 x1 < sSd (LM3 M) 22 (M 57 0 x1) by omega)] at k1
          first
            | rw [if_pos (show mRights M x1 < sSd (LM3 M) 20 (M 57 0 x1) by assumption)] at k1
            | rw [if_neg (show ¬ mRights M x1 < sSd (LM3 M) 20 (M 57 0 x1) by omega)] at k1
          first
            | rw [if_pos (show mLate M x1 by assumption)] at k1
            | rw [if_neg (show ¬ mLate M x1 by assumption)] at k1
          exact k1
        · have k1 := k N5 hN5 (Em.tr (Em.tr (Em.tr (Em.tr (Em.tr Em.rf he1) he2) he3) he4) he5) hp5
          unfold mTrue at k1
          first
            | rw [if_pos (show alw3 (LM3 M) (M 46 0 (M 56 0 x1)) (M 57 0 x1) by assumption)] at k1
            | rw [if_neg (show ¬ alw3 (LM3 M) (M 46 0 (M 56 0 x1)) (M 57 0 x1) by assumption)] at k1
          first
            | rw [if_pos (show M 58 0 x1 < sSd (LM3 M) 22 (M 57 0 x1) by assumption)] at k1
            | rw [if_neg (show ¬ M 58 0 x1 < sSd (LM3 M) 22 (M 57 0 x1) by omega)] at k1
          first
            | rw [if_pos (show mRights M x1 < sSd (LM3 M) 20 (M 57 0 x1) by assumption)] at k1
            | rw [if_neg (show ¬ mRights M x1 < sSd (LM3 M) 20 (M 57 0 x1) by omega)] at k1
          first
            | rw [if_pos (show mLate M x1 by assumption)] at k1
            | rw [if_neg (show ¬ mLate M x1 by assumption)] at k1
          exact k1
theorem eX12_trueReasons {E : E3} {Q : Q3} {M0 M : M3} {x1 : Int} (e : Em M0 M) (h : RdC M ∧ okR M0 x1) (k : ∀ (N : M3), RM3 N → Em M N → RdC N → Q (some (vI (mTrue M0 x1))) N) : C3 E YX12_trueReasons [vR 44 0, vI x1] M Q :=
  kX12_trueReasons ⟨h.1, okR_e e h.2⟩ (fun N a b d => by rw [mTrue_e e]; exact k N a b d)
theorem bo3_of {P Q : Prop} [Decidable P] [Decidable Q] (h : P ↔ Q) : bo3 P = bo3 Q := by
  unfold bo3
  simp only [h]
theorem mByT_e {M N : M3} (e : Em M N) (f : Int) : mByT N f ↔ mByT M f := by simp only [mByT, alw3, e.L, mRights_e e, e.1 46 (by decide), e.1 56 (by decide), e.1 57 (by decide), e.1 58 (by decide)]
theorem mPtd_e {M N : M3} (e : Em M N) (f : Int) : mPtd N f ↔ mPtd M f := by
  have q := mByT_e e f
  unfold mPtd
  rw [mHow_e e]
  simp only [q]
theorem mFls_e {M N : M3} (e : Em M N) (f : Int) : mFls N f ↔ mFls M f := by
  unfold mFls
  rw [mHow_e e, mTrue_e e, e.1 63 (by decide)]
theorem kX12_isParted {E : E3} {Q : Q3} {M : M3} {x1 : Int} (h : RdC M ∧ okR M x1) (k : ∀ (N : M3), RM3 N → Em M N → RdC N → Q (some (vI (bo3 (mPtd M x1)))) N) : C3 E YX12_isParted [vR 44 0, vI x1] M Q := by
  refine c3_rm fun hM => ?_
  obtain ⟨hR, ho⟩ := h
  have ho0 := ho
  obtain ⟨⟨o1, o2, o3⟩, o4, o5, o6⟩ := ho
  have hc := mHow_c M x1
  refine sX12_isParted ?_
  refine ⟨?_, ?_⟩
  · first | omega | exact ⟨hR, ho0.1⟩
  refine ⟨fun c1 => ?_, fun c1 => ?_⟩
  · first
      | (have k1 := k M hM Em.rf hR
         rw [bo3_f (fun z => by have := z.1; omega)] at k1
         exact k1)
      | (have k1 := k M hM Em.rf h.1
         by_cases q : mByT M x1
         · first
             | (rw [bo3_t (show mPtd M x1 from ⟨by omega, Or.inr ⟨by omega, q⟩⟩)] at k1; first | exact k1 | (rw [bo3_t q] at *; omega))
             | (rw [bo3_f (show ¬ mPtd M x1 from fun z => by rcases z.2 with z | z; exact z.2 q; omega)] at k1; first | exact k1 | (rw [bo3_t q] at *; omega))
         · first
             | (rw [bo3_t (show mPtd M x1 from ⟨by omega, Or.inl ⟨by omega, q⟩⟩)] at k1; first | exact k1 | (rw [bo3_f q] at *; omega))
             | (rw [bo3_f (show ¬ mPtd M x1 from fun z => by rcases z.2 with z | z; omega; exact q z.2)] at k1; first | exact k1 | (rw [bo3_f q] at *; omega)))
  · refine ⟨fun c2 => ?_, fun c2 => ?_⟩
    · refine ⟨?_, ?_⟩
      · first | omega | exact ⟨hR, ho0.1⟩
      intro N1 hN1 he1 hp1
      refine ⟨fun c3 => ?_, fun c3 => ?_⟩
      · first
          | (have k1 := k M hM Em.rf hR
             rw [bo3_f (fun z => by have := z.1; omega)] at k1
             exact k1)
          | (have k1 := k N1 hN1 (Em.tr Em.rf he1) hp1
             by_cases q : mByT M x1
             · first
                 | (rw [bo3_t (show mPtd M x1 from ⟨by omega, Or.inr ⟨by omega, q⟩⟩)] at k1; first | exact k1 | (rw [bo3_t q] at *; omega))
                 | (rw [bo3_f (show ¬ mPtd M x1 from fun z => by rcases z.2 with z | z; exact z.2 q; omega)] at k1; first | exact k1 | (rw [bo3_t q] at *; omega))
             · first
                 | (rw [bo3_t (show mPtd M x1 from ⟨by omega, Or.inl ⟨by omega, q⟩⟩)] at k1; first | exact k1 | (rw [bo3_f q] at *; omega))
                 | (rw [bo3_f (show ¬ mPtd M x1 from fun z => by rcases z.2 with z | z; omega; exact q z.2)] at k1; first | exact k1 | (rw [bo3_f q] at *; omega)))
      · first
          | (have k1 := k M hM Em.rf hR
             rw [bo3_f (fun z => by have := z.1; omega)] at k1
             exact k1)
          | (have k1 := k N1 hN1 (Em.tr Em.rf he1) hp1
             by_cases q : mByT M x1
             · first
                 | (rw [bo3_t (show mPtd M x1 from ⟨by omega, Or.inr ⟨by omega, q⟩⟩)] at k1; first | exact k1 | (rw [bo3_t q] at *; omega))
                 | (rw [bo3_f (show ¬ mPtd M x1 from fun z => by rcases z.2 with z | z; exact z.2 q; omega)] at k1; first | exact k1 | (rw [bo3_t q] at *; omega))
             · first
                 | (rw [bo3_t (show mPtd M x1 from ⟨by omega, Or.inl ⟨by omega, q⟩⟩)] at k1; first | exact k1 | (rw [bo3_f q] at *; omega))
                 | (rw [bo3_f (show ¬ mPtd M x1 from fun z => by rcases z.2 with z | z; omega; exact q z.2)] at k1; first | exact k1 | (rw [bo3_f q] at *; omega)))
    · refine ⟨?_, ?_⟩
      · first | omega | exact ⟨hR, ho0.1⟩
      intro N1 hN1 he1 hp1
      refine ⟨fun c3 => ?_, fun c3 => ?_⟩
      · first
          | (have k1 := k M hM Em.rf hR
             rw [bo3_f (fun z => by have := z.1; omega)] at k1
             exact k1)
          | (have k1 := k N1 hN1 (Em.tr Em.rf he1) hp1
             by_cases q : mByT M x1
             · first
                 | (rw [bo3_t (show mPtd M x1 from ⟨by omega, Or.inr ⟨by omega, q⟩⟩)] at k1; first | exact k1 | (rw [bo3_t q] at *; omega))
                 | (rw [bo3_f (show ¬ mPtd M x1 from fun z => by rcases z.2 with z | z; exact z.2 q; omega)] at k1; first | exact k1 | (rw [bo3_t q] at *; omega))
             · first
                 | (rw [bo3_t (show mPtd M x1 from ⟨by omega, Or.inl ⟨by omega, q⟩⟩)] at k1; first | exact k1 | (rw [bo3_f q] at *; omega))
                 | (rw [bo3_f (show ¬ mPtd M x1 from fun z => by rcases z.2 with z | z; omega; exact q z.2)] at k1; first | exact k1 | (rw [bo3_f q] at *; omega)))
      · first
          | (have k1 := k M hM Em.rf hR
             rw [bo3_f (fun z => by have := z.1; omega)] at k1
             exact k1)
          | (have k1 := k N1 hN1 (Em.tr Em.rf he1) hp1
             by_cases q : mByT M x1
             · first
                 | (rw [bo3_t (show mPtd M x1 from ⟨by omega, Or.inr ⟨by omega, q⟩⟩)] at k1; first | exact k1 | (rw [bo3_t q] at *; omega))
                 | (rw [bo3_f (show ¬ mPtd M x1 from fun z => by rcases z.2 with z | z; exact z.2 q; omega)] at k1; first | exact k1 | (rw [bo3_t q] at *; omega))
             · first
                 | (rw [bo3_t (show mPtd M x1 from ⟨by omega, Or.inl ⟨by omega, q⟩⟩)] at k1; first | exact k1 | (rw [bo3_f q] at *; omega))
                 | (rw [bo3_f (show ¬ mPtd M x1 from fun z => by rcases z.2 with z | z; omega; exact q z.2)] at k1; first | exact k1 | (rw [bo3_f q] at *; omega)))
theorem eX12_isParted {E : E3} {Q : Q3} {M0 M : M3} {x1 : Int} (e : Em M0 M) (h : RdC M ∧ okR M0 x1) (k : ∀ (N : M3), RM3 N → Em M N → RdC N → Q (some (vI (bo3 (mPtd M0 x1)))) N) : C3 E YX12_isParted [vR 44 0, vI x1] M Q :=
  kX12_isParted ⟨h.1, okR_e e h.2⟩ (fun N a b d => by rw [bo3_of (mPtd_e e x1)]; exact k N a b d)
