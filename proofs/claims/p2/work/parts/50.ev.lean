theorem jrun_u {S O : Type} (g : S → Option (O ⊕ S)) (s : S) : jrun g jfuel s = jstep (jrun g 999999999) (g s) := rfl
theorem zno164e : (zno 16 4) = False := eq_false (by decide)
theorem zno164 : ¬ zno 16 4 := by decide
abbrev Rg (i : Int) (n : Int) : Prop := 0 ≤ i ∧ i ≤ n
theorem hasC {i : Int} (z : ¬ zout i) : zf_X5_hasCorner 4 i = some (decide (Rg i 3)) := by
  unfold zf_X5_hasCorner
  rw [if_neg z]
  by_cases h : i < 0
  · rw [if_pos h, decide_eq_false (by unfold Rg; omega)]
  · rw [if_neg h, if_neg (by decide)]
    by_cases q : ((4 : Nat) : Int) ≤ i
    · rw [if_pos q, decide_eq_false (by unfold Rg; omega)]
    · rw [if_neg q, decide_eq_true (by unfold Rg; omega)]
theorem areC {i j : Int} (zi : ¬ zout i) (zj : ¬ zout j) : zf_X10_areCorners 16 4 i j = some (decide (Rg i 3) && decide (Rg j 3)) := by
  unfold zf_X10_areCorners
  rw [if_neg zno164, hasC zi, hasC zj]
  simp only [Option.bind_some]
  by_cases h : Rg i 3 <;> by_cases q : Rg j 3 <;> simp [h, q]
theorem y_in {v lo hi : Int} (zv : ¬ zout v) (zl : ¬ zout lo) (zh : ¬ zout hi) : zf_X11_in v lo hi = some (decide (lo ≤ v ∧ v ≤ hi)) := by
  unfold zf_X11_in
  rw [if_neg zv, if_neg zl]
  by_cases h : v < lo
  · rw [if_pos h, decide_eq_false (by omega)]
  · rw [if_neg h, if_neg zh]
    by_cases q : hi < v
    · rw [if_pos q, decide_eq_false (by omega)]
    · rw [if_neg q, decide_eq_true (by omega)]
theorem yC {i : Int} (z : ¬ zout i) : zf_X11_isCorner 4 i = some (decide (Rg i 3)) := by
  unfold zf_X11_isCorner
  rw [y_in z (by decide) (by decide)]
  rfl
theorem x_step {i : Int} (z : ¬ zout i) : zf_X10_isStep i = some (decide (Rg i 999)) := by
  unfold zf_X10_isStep
  rw [if_neg z]
  by_cases h : i < 0
  · rw [if_pos h, decide_eq_false (by unfold Rg; omega)]
  · rw [if_neg h]
    by_cases q : (999 : Int) < i
    · rw [if_pos q, decide_eq_false (by unfold Rg; omega)]
    · rw [if_neg q, decide_eq_true (by unfold Rg; omega)]
theorem x_val {i : Int} (z : ¬ zout i) : zf_X10_isValue i = some (decide (Rg i 9999)) := by
  unfold zf_X10_isValue
  rw [if_neg z]
  by_cases h : i < 0
  · rw [if_pos h, decide_eq_false (by unfold Rg; omega)]
  · rw [if_neg h]
    by_cases q : (9999 : Int) < i
    · rw [if_pos q, decide_eq_false (by unfold Rg; omega)]
    · rw [if_neg q, decide_eq_true (by unfold Rg; omega)]
theorem x_tell {i : Int} (z : ¬ zout i) : zf_X7_canTell 0 i = some (decide (Rg i 999)) := by
  unfold zf_X7_canTell
  rw [if_neg z, if_neg (by decide)]
  by_cases h : i < 0
  · rw [if_pos h, decide_eq_false (by unfold Rg; omega)]
  · rw [if_neg h]
    by_cases q : (999 : Int) < i
    · rw [if_pos q, decide_eq_false (by unfold Rg; omega)]
    · rw [if_neg q, decide_eq_true (by unfold Rg; omega)]
theorem x_place {i : Int} (z : ¬ zout i) : zf_X2_hasPlace 1 i = some (decide (Rg i 0)) := by
  unfold zf_X2_hasPlace
  rw [if_neg z]
  by_cases h : i < 0
  · rw [if_pos h, decide_eq_false (by unfold Rg; omega)]
  · rw [if_neg h, if_neg (by decide)]
    by_cases q : (1 : Int) ≤ i
    · rw [if_pos q, decide_eq_false (by unfold Rg; omega)]
    · rw [if_neg q, decide_eq_true (by unfold Rg; omega)]
theorem ylf4 : zf_X11_listFor 2 4 2 4 0xffffffff00000001ffffffff000000000000000000000000000000000000000000000000ffffffff00000000ffffffff0000000000000000000000000000000000000000000000000000000000000001ffffffff00000000ffffffff000000000000000000000000000000000000000000000000ffffffff00000000ffffffff00000000 0x100000000 0x300000002 0x20000000000000001 4 = some (2, 4, 2, 4, 0xffffffff00000001ffffffff000000000000000000000000000000000000000000000000ffffffff00000000ffffffff0000000000000000000000000000000000000000000000000000000000000001ffffffff00000000ffffffff000000000000000000000000000000000000000000000000ffffffff00000000ffffffff00000000, 0x100000000, 0x300000002, 0x20000000000000001) := rfl
theorem pg84 : pg8 4 = 2 := rfl
set_option maxRecDepth 20000 in
theorem ev_11 (i : Int) (zi : ¬ zout i) : ∃ o1 o2, zf_X10_fewest 16 4 1 0 0 0 0 0 i = some o1 ∧ zf_X11_fewest 4 2 4 2 4 1 0 0 0 0xffffffff00000001ffffffff000000000000000000000000000000000000000000000000ffffffff00000000ffffffff0000000000000000000000000000000000000000000000000000000000000001ffffffff00000000ffffffff000000000000000000000000000000000000000000000000ffffffff00000000ffffffff00000000 0x100000000 0x300000002 0x20000000000000001 0 0 0 i = some o2 ∧ (o1.1) = (o2.1) := by
  unfold zout at *
  by_cases c0 : i < 0
  · simp (disch := omega) only [zf_X10_fewest, zf_X11_fewest, zg_X11_fewest, zg_X11_fewest_0, zf_X10_areCorners, zf_X5_hasCorner, zf_X10_isStep, zf_X10_isValue, zf_X7_canTell, zf_X7_wasSeenBefore, zf_X7_has, zf_X2_hasPlace, zf_X8_size, zf_X8_shorten, zf_X5_corners, zf_X5_hasCut, zf_X4_onWay, zf_X1_faultKind, zf_X1_faultPlace, zf_X7_size, zf_X7_rights, zf_X2_size, zf_X5_cutCount, zf_X11_in, zf_X11_isCorner, jrun_u, jstep, zno164e, zout, or_self, ylf4, pg84, ↓if_pos, ↓if_neg, if_pos, if_neg, Option.bind_some, Bool.true_eq_false, ↓reduceIte]
    first | exact ⟨_, _, rfl, rfl, rfl⟩ | done
  by_cases c1 : 1 < i
  · simp (disch := omega) only [zf_X10_fewest, zf_X11_fewest, zg_X11_fewest, zg_X11_fewest_0, zf_X10_areCorners, zf_X5_hasCorner, zf_X10_isStep, zf_X10_isValue, zf_X7_canTell, zf_X7_wasSeenBefore, zf_X7_has, zf_X2_hasPlace, zf_X8_size, zf_X8_shorten, zf_X5_corners, zf_X5_hasCut, zf_X4_onWay, zf_X1_faultKind, zf_X1_faultPlace, zf_X7_size, zf_X7_rights, zf_X2_size, zf_X5_cutCount, zf_X11_in, zf_X11_isCorner, jrun_u, jstep, zno164e, zout, or_self, ylf4, pg84, ↓if_pos, ↓if_neg, if_pos, if_neg, Option.bind_some, Bool.true_eq_false, ↓reduceIte]
    first | exact ⟨_, _, rfl, rfl, rfl⟩ | done
  have hi9 : i = 0 ∨ i = 1 := by omega
  rcases hi9 with rfl | rfl <;> exact ⟨_, _, rfl, rfl, rfl⟩
set_option maxRecDepth 20000 in
theorem ev_19 (i : Int) (j : Int) (k : Int) (zi : ¬ zout i) (zj : ¬ zout j) (zk : ¬ zout k) : ∃ o1 o2, zf_X10_crossed 16 4 1 0 0 i j k = some o1 ∧ zf_X11_crossed 4 2 4 1 0 0xffffffff00000001ffffffff000000000000000000000000000000000000000000000000ffffffff00000000ffffffff0000000000000000000000000000000000000000000000000000000000000001ffffffff00000000ffffffff000000000000000000000000000000000000000000000000ffffffff00000000ffffffff00000000 0x100000000 0x300000002 0 0 i j k = some o2 ∧ (o1.1) = (o2.1) := by
  unfold zout at *
  by_cases c0 : i < 0
  · simp (disch := omega) only [zf_X10_crossed, zf_X11_crossed, zf_X10_areCorners, zf_X5_hasCorner, zf_X10_isStep, zf_X10_isValue, zf_X7_canTell, zf_X7_wasSeenBefore, zf_X7_has, zf_X2_hasPlace, zf_X8_size, zf_X8_shorten, zf_X5_corners, zf_X5_hasCut, zf_X4_onWay, zf_X1_faultKind, zf_X1_faultPlace, zf_X7_size, zf_X7_rights, zf_X2_size, zf_X5_cutCount, zf_X11_in, zf_X11_isCorner, jrun_u, jstep, zno164e, zout, or_self, ↓if_pos, ↓if_neg, if_pos, if_neg, Option.bind_some, Bool.true_eq_false, ↓reduceIte]
    first | exact ⟨_, _, rfl, rfl, rfl⟩ | done
  by_cases c1 : 3 < i
  · simp (disch := omega) only [zf_X10_crossed, zf_X11_crossed, zf_X10_areCorners, zf_X5_hasCorner, zf_X10_isStep, zf_X10_isValue, zf_X7_canTell, zf_X7_wasSeenBefore, zf_X7_has, zf_X2_hasPlace, zf_X8_size, zf_X8_shorten, zf_X5_corners, zf_X5_hasCut, zf_X4_onWay, zf_X1_faultKind, zf_X1_faultPlace, zf_X7_size, zf_X7_rights, zf_X2_size, zf_X5_cutCount, zf_X11_in, zf_X11_isCorner, jrun_u, jstep, zno164e, zout, or_self, ↓if_pos, ↓if_neg, if_pos, if_neg, Option.bind_some, Bool.true_eq_false, ↓reduceIte]
    first | exact ⟨_, _, rfl, rfl, rfl⟩ | done
  by_cases c2 : j < 0
  · simp (disch := omega) only [zf_X10_crossed, zf_X11_crossed, zf_X10_areCorners, zf_X5_hasCorner, zf_X10_isStep, zf_X10_isValue, zf_X7_canTell, zf_X7_wasSeenBefore, zf_X7_has, zf_X2_hasPlace, zf_X8_size, zf_X8_shorten, zf_X5_corners, zf_X5_hasCut, zf_X4_onWay, zf_X1_faultKind, zf_X1_faultPlace, zf_X7_size, zf_X7_rights, zf_X2_size, zf_X5_cutCount, zf_X11_in, zf_X11_isCorner, jrun_u, jstep, zno164e, zout, or_self, ↓if_pos, ↓if_neg, if_pos, if_neg, Option.bind_some, Bool.true_eq_false, ↓reduceIte]
    first | exact ⟨_, _, rfl, rfl, rfl⟩ | done
  by_cases c3 : 3 < j
  · simp (disch := omega) only [zf_X10_crossed, zf_X11_crossed, zf_X10_areCorners, zf_X5_hasCorner, zf_X10_isStep, zf_X10_isValue, zf_X7_canTell, zf_X7_wasSeenBefore, zf_X7_has, zf_X2_hasPlace, zf_X8_size, zf_X8_shorten, zf_X5_corners, zf_X5_hasCut, zf_X4_onWay, zf_X1_faultKind, zf_X1_faultPlace, zf_X7_size, zf_X7_rights, zf_X2_size, zf_X5_cutCount, zf_X11_in, zf_X11_isCorner, jrun_u, jstep, zno164e, zout, or_self, ↓if_pos, ↓if_neg, if_pos, if_neg, Option.bind_some, Bool.true_eq_false, ↓reduceIte]
    first | exact ⟨_, _, rfl, rfl, rfl⟩ | done
  have hi9 : i = 0 ∨ i = 1 ∨ i = 2 ∨ i = 3 := by omega
  have hj9 : j = 0 ∨ j = 1 ∨ j = 2 ∨ j = 3 := by omega
  rcases hi9 with rfl | rfl | rfl | rfl <;> rcases hj9 with rfl | rfl | rfl | rfl
  · simp (disch := omega) only [zf_X10_crossed, zf_X11_crossed, zf_X10_areCorners, zf_X5_hasCorner, zf_X10_isStep, zf_X10_isValue, zf_X7_canTell, zf_X7_wasSeenBefore, zf_X7_has, zf_X2_hasPlace, zf_X8_size, zf_X8_shorten, zf_X5_corners, zf_X5_hasCut, zf_X4_onWay, zf_X1_faultKind, zf_X1_faultPlace, zf_X7_size, zf_X7_rights, zf_X2_size, zf_X5_cutCount, zf_X11_in, zf_X11_isCorner, jrun_u, jstep, zno164e, zout, or_self, ↓if_pos, ↓if_neg, if_pos, if_neg, Option.bind_some, Bool.true_eq_false, ↓reduceIte]
    first | exact ⟨_, _, rfl, rfl, rfl⟩ | done
  · have ga9 : zf_X0_gather 16 0 0 4 1 0 1 = some (0, 0) := rfl
    have ya9 : zf_X11_cross 4 2 4 1 0 0xffffffff00000001ffffffff000000000000000000000000000000000000000000000000ffffffff00000000ffffffff0000000000000000000000000000000000000000000000000000000000000001ffffffff00000000ffffffff000000000000000000000000000000000000000000000000ffffffff00000000ffffffff00000000 0x100000000 0x300000002 0 0 0 1 = some (2, 4, 0, 0xffffffff00000001ffffffff000000000000000000000000000000000000000000000000ffffffff00000000ffffffff0000000000000000000000000000000000000000000000000000000000000001ffffffff00000000ffffffff000000000000000000000000000000000000000000000000ffffffff00000000ffffffff00000000, 0x100000000, 0x300000002, 0, 0) := rfl
    by_cases kz : k = 0
    · subst kz
      exact ⟨_, _, rfl, rfl, rfl⟩
    by_cases k0 : k = -1
    · simp (disch := omega) only [zf_X10_crossed, zf_X11_crossed, zf_X10_areCorners, zf_X5_hasCorner, zf_X10_isStep, zf_X10_isValue, zf_X7_canTell, zf_X7_wasSeenBefore, zf_X7_has, zf_X2_hasPlace, zf_X8_size, zf_X8_shorten, zf_X5_corners, zf_X5_hasCut, zf_X4_onWay, zf_X1_faultKind, zf_X1_faultPlace, zf_X7_size, zf_X7_rights, zf_X2_size, zf_X5_cutCount, zf_X11_in, zf_X11_isCorner, jrun_u, jstep, zno164e, zout, or_self, ga9, ya9, zf_X0_size, zf_X0_pairAt, zf_X0_sharedWithNext, ↓if_pos, ↓if_neg, if_pos, if_neg, Option.bind_some, Bool.true_eq_false, ↓reduceIte]
      first | exact ⟨_, _, rfl, rfl, rfl⟩ | done
    by_cases k1 : k < 0
    · simp (disch := omega) only [zf_X10_crossed, zf_X11_crossed, zf_X10_areCorners, zf_X5_hasCorner, zf_X10_isStep, zf_X10_isValue, zf_X7_canTell, zf_X7_wasSeenBefore, zf_X7_has, zf_X2_hasPlace, zf_X8_size, zf_X8_shorten, zf_X5_corners, zf_X5_hasCut, zf_X4_onWay, zf_X1_faultKind, zf_X1_faultPlace, zf_X7_size, zf_X7_rights, zf_X2_size, zf_X5_cutCount, zf_X11_in, zf_X11_isCorner, jrun_u, jstep, zno164e, zout, or_self, ga9, ya9, zf_X0_size, zf_X0_pairAt, zf_X0_sharedWithNext, ↓if_pos, ↓if_neg, if_pos, if_neg, Option.bind_some, Bool.true_eq_false, ↓reduceIte]
      first | exact ⟨_, _, rfl, rfl, rfl⟩ | done
    simp (disch := omega) only [zf_X10_crossed, zf_X11_crossed, zf_X10_areCorners, zf_X5_hasCorner, zf_X10_isStep, zf_X10_isValue, zf_X7_canTell, zf_X7_wasSeenBefore, zf_X7_has, zf_X2_hasPlace, zf_X8_size, zf_X8_shorten, zf_X5_corners, zf_X5_hasCut, zf_X4_onWay, zf_X1_faultKind, zf_X1_faultPlace, zf_X7_size, zf_X7_rights, zf_X2_size, zf_X5_cutCount, zf_X11_in, zf_X11_isCorner, jrun_u, jstep, zno164e, zout, or_self, ga9, ya9, zf_X0_size, zf_X0_pairAt, zf_X0_sharedWithNext, ↓if_pos, ↓if_neg, if_pos, if_neg, Option.bind_some, Bool.true_eq_false, ↓reduceIte]
    first | exact ⟨_, _, rfl, rfl, rfl⟩ | done
  · have ga9 : zf_X0_gather 16 0 0 4 1 0 2 = some (0, 0) := rfl
    have ya9 : zf_X11_cross 4 2 4 1 0 0xffffffff00000001ffffffff000000000000000000000000000000000000000000000000ffffffff00000000ffffffff0000000000000000000000000000000000000000000000000000000000000001ffffffff00000000ffffffff000000000000000000000000000000000000000000000000ffffffff00000000ffffffff00000000 0x100000000 0x300000002 0 0 0 2 = some (2, 4, 0, 0xffffffff00000001ffffffff000000000000000000000000000000000000000000000000ffffffff00000000ffffffff0000000000000000000000000000000000000000000000000000000000000001ffffffff00000000ffffffff000000000000000000000000000000000000000000000000ffffffff00000000ffffffff00000000, 0x100000000, 0x300000002, 0, 0) := rfl
    by_cases kz : k = 0
    · subst kz
      exact ⟨_, _, rfl, rfl, rfl⟩
    by_cases k0 : k = -1
    · simp (disch := omega) only [zf_X10_crossed, zf_X11_crossed, zf_X10_areCorners, zf_X5_hasCorner, zf_X10_isStep, zf_X10_isValue, zf_X7_canTell, zf_X7_wasSeenBefore, zf_X7_has, zf_X2_hasPlace, zf_X8_size, zf_X8_shorten, zf_X5_corners, zf_X5_hasCut, zf_X4_onWay, zf_X1_faultKind, zf_X1_faultPlace, zf_X7_size, zf_X7_rights, zf_X2_size, zf_X5_cutCount, zf_X11_in, zf_X11_isCorner, jrun_u, jstep, zno164e, zout, or_self, ga9, ya9, zf_X0_size, zf_X0_pairAt, zf_X0_sharedWithNext, ↓if_pos, ↓if_neg, if_pos, if_neg, Option.bind_some, Bool.true_eq_false, ↓reduceIte]
      first | exact ⟨_, _, rfl, rfl, rfl⟩ | done
    by_cases k1 : k < 0
    · simp (disch := omega) only [zf_X10_crossed, zf_X11_crossed, zf_X10_areCorners, zf_X5_hasCorner, zf_X10_isStep, zf_X10_isValue, zf_X7_canTell, zf_X7_wasSeenBefore, zf_X7_has, zf_X2_hasPlace, zf_X8_size, zf_X8_shorten, zf_X5_corners, zf_X5_hasCut, zf_X4_onWay, zf_X1_faultKind, zf_X1_faultPlace, zf_X7_size, zf_X7_rights, zf_X2_size, zf_X5_cutCount, zf_X11_in, zf_X11_isCorner, jrun_u, jstep, zno164e, zout, or_self, ga9, ya9, zf_X0_size, zf_X0_pairAt, zf_X0_sharedWithNext, ↓if_pos, ↓if_neg, if_pos, if_neg, Option.bind_some, Bool.true_eq_false, ↓reduceIte]
      first | exact ⟨_, _, rfl, rfl, rfl⟩ | done
    simp (disch := omega) only [zf_X10_crossed, zf_X11_crossed, zf_X10_areCorners, zf_X5_hasCorner, zf_X10_isStep, zf_X10_isValue, zf_X7_canTell, zf_X7_wasSeenBefore, zf_X7_has, zf_X2_hasPlace, zf_X8_size, zf_X8_shorten, zf_X5_corners, zf_X5_hasCut, zf_X4_onWay, zf_X1_faultKind, zf_X1_faultPlace, zf_X7_size, zf_X7_rights, zf_X2_size, zf_X5_cutCount, zf_X11_in, zf_X11_isCorner, jrun_u, jstep, zno164e, zout, or_self, ga9, ya9, zf_X0_size, zf_X0_pairAt, zf_X0_sharedWithNext, ↓if_pos, ↓if_neg, if_pos, if_neg, Option.bind_some, Bool.true_eq_false, ↓reduceIte]
    first | exact ⟨_, _, rfl, rfl, rfl⟩ | done
  · have ga9 : zf_X0_gather 16 0 0 4 1 0 3 = some (0, 0) := rfl
    have ya9 : zf_X11_cross 4 2 4 1 0 0xffffffff00000001ffffffff000000000000000000000000000000000000000000000000ffffffff00000000ffffffff0000000000000000000000000000000000000000000000000000000000000001ffffffff00000000ffffffff000000000000000000000000000000000000000000000000ffffffff00000000ffffffff00000000 0x100000000 0x300000002 0 0 0 3 = some (2, 4, 0, 0xffffffff00000001ffffffff000000000000000000000000000000000000000000000000ffffffff00000000ffffffff0000000000000000000000000000000000000000000000000000000000000001ffffffff00000000ffffffff000000000000000000000000000000000000000000000000ffffffff00000000ffffffff00000000, 0x100000000, 0x300000002, 0, 0) := rfl
    by_cases kz : k = 0
    · subst kz
      exact ⟨_, _, rfl, rfl, rfl⟩
    by_cases k0 : k = -1
    · simp (disch := omega) only [zf_X10_crossed, zf_X11_crossed, zf_X10_areCorners, zf_X5_hasCorner, zf_X10_isStep, zf_X10_isValue, zf_X7_canTell, zf_X7_wasSeenBefore, zf_X7_has, zf_X2_hasPlace, zf_X8_size, zf_X8_shorten, zf_X5_corners, zf_X5_hasCut, zf_X4_onWay, zf_X1_faultKind, zf_X1_faultPlace, zf_X7_size, zf_X7_rights, zf_X2_size, zf_X5_cutCount, zf_X11_in, zf_X11_isCorner, jrun_u, jstep, zno164e, zout, or_self, ga9, ya9, zf_X0_size, zf_X0_pairAt, zf_X0_sharedWithNext, ↓if_pos, ↓if_neg, if_pos, if_neg, Option.bind_some, Bool.true_eq_false, ↓reduceIte]
      first | exact ⟨_, _, rfl, rfl, rfl⟩ | done
    by_cases k1 : k < 0
    · simp (disch := omega) only [zf_X10_crossed, zf_X11_crossed, zf_X10_areCorners, zf_X5_hasCorner, zf_X10_isStep, zf_X10_isValue, zf_X7_canTell, zf_X7_wasSeenBefore, zf_X7_has, zf_X2_hasPlace, zf_X8_size, zf_X8_shorten, zf_X5_corners, zf_X5_hasCut, zf_X4_onWay, zf_X1_faultKind, zf_X1_faultPlace, zf_X7_size, zf_X7_rights, zf_X2_size, zf_X5_cutCount, zf_X11_in, zf_X11_isCorner, jrun_u, jstep, zno164e, zout, or_self, ga9, ya9, zf_X0_size, zf_X0_pairAt, zf_X0_sharedWithNext, ↓if_pos, ↓if_neg, if_pos, if_neg, Option.bind_some, Bool.true_eq_false, ↓reduceIte]
      first | exact ⟨_, _, rfl, rfl, rfl⟩ | done
    simp (disch := omega) only [zf_X10_crossed, zf_X11_crossed, zf_X10_areCorners, zf_X5_hasCorner, zf_X10_isStep, zf_X10_isValue, zf_X7_canTell, zf_X7_wasSeenBefore, zf_X7_has, zf_X2_hasPlace, zf_X8_size, zf_X8_shorten, zf_X5_corners, zf_X5_hasCut, zf_X4_onWay, zf_X1_faultKind, zf_X1_faultPlace, zf_X7_size, zf_X7_rights, zf_X2_size, zf_X5_cutCount, zf_X11_in, zf_X11_isCorner, jrun_u, jstep, zno164e, zout, or_self, ga9, ya9, zf_X0_size, zf_X0_pairAt, zf_X0_sharedWithNext, ↓if_pos, ↓if_neg, if_pos, if_neg, Option.bind_some, Bool.true_eq_false, ↓reduceIte]
    first | exact ⟨_, _, rfl, rfl, rfl⟩ | done
  · have ga9 : zf_X0_gather 16 0 0 4 1 1 0 = some (0, 0) := rfl
    have ya9 : zf_X11_cross 4 2 4 1 0 0xffffffff00000001ffffffff000000000000000000000000000000000000000000000000ffffffff00000000ffffffff0000000000000000000000000000000000000000000000000000000000000001ffffffff00000000ffffffff000000000000000000000000000000000000000000000000ffffffff00000000ffffffff00000000 0x100000000 0x300000002 0 0 1 0 = some (2, 4, 0, 0xffffffff00000001ffffffff000000000000000000000000000000000000000000000000ffffffff00000000ffffffff0000000000000000000000000000000000000000000000000000000000000001ffffffff00000000ffffffff000000000000000000000000000000000000000000000000ffffffff00000000ffffffff00000000, 0x100000000, 0x300000002, 0, 0) := rfl
    by_cases kz : k = 0
    · subst kz
      exact ⟨_, _, rfl, rfl, rfl⟩
    by_cases k0 : k = -1
    · simp (disch := omega) only [zf_X10_crossed, zf_X11_crossed, zf_X10_areCorners, zf_X5_hasCorner, zf_X10_isStep, zf_X10_isValue, zf_X7_canTell, zf_X7_wasSeenBefore, zf_X7_has, zf_X2_hasPlace, zf_X8_size, zf_X8_shorten, zf_X5_corners, zf_X5_hasCut, zf_X4_onWay, zf_X1_faultKind, zf_X1_faultPlace, zf_X7_size, zf_X7_rights, zf_X2_size, zf_X5_cutCount, zf_X11_in, zf_X11_isCorner, jrun_u, jstep, zno164e, zout, or_self, ga9, ya9, zf_X0_size, zf_X0_pairAt, zf_X0_sharedWithNext, ↓if_pos, ↓if_neg, if_pos, if_neg, Option.bind_some, Bool.true_eq_false, ↓reduceIte]
      first | exact ⟨_, _, rfl, rfl, rfl⟩ | done
    by_cases k1 : k < 0
    · simp (disch := omega) only [zf_X10_crossed, zf_X11_crossed, zf_X10_areCorners, zf_X5_hasCorner, zf_X10_isStep, zf_X10_isValue, zf_X7_canTell, zf_X7_wasSeenBefore, zf_X7_has, zf_X2_hasPlace, zf_X8_size, zf_X8_shorten, zf_X5_corners, zf_X5_hasCut, zf_X4_onWay, zf_X1_faultKind, zf_X1_faultPlace, zf_X7_size, zf_X7_rights, zf_X2_size, zf_X5_cutCount, zf_X11_in, zf_X11_isCorner, jrun_u, jstep, zno164e, zout, or_self, ga9, ya9, zf_X0_size, zf_X0_pairAt, zf_X0_sharedWithNext, ↓if_pos, ↓if_neg, if_pos, if_neg, Option.bind_some, Bool.true_eq_false, ↓reduceIte]
      first | exact ⟨_, _, rfl, rfl, rfl⟩ | done
    simp (disch := omega) only [zf_X10_crossed, zf_X11_crossed, zf_X10_areCorners, zf_X5_hasCorner, zf_X10_isStep, zf_X10_isValue, zf_X7_canTell, zf_X7_wasSeenBefore, zf_X7_has, zf_X2_hasPlace, zf_X8_size, zf_X8_shorten, zf_X5_corners, zf_X5_hasCut, zf_X4_onWay, zf_X1_faultKind, zf_X1_faultPlace, zf_X7_size, zf_X7_rights, zf_X2_size, zf_X5_cutCount, zf_X11_in, zf_X11_isCorner, jrun_u, jstep, zno164e, zout, or_self, ga9, ya9, zf_X0_size, zf_X0_pairAt, zf_X0_sharedWithNext, ↓if_pos, ↓if_neg, if_pos, if_neg, Option.bind_some, Bool.true_eq_false, ↓reduceIte]
    first | exact ⟨_, _, rfl, rfl, rfl⟩ | done
  · simp (disch := omega) only [zf_X10_crossed, zf_X11_crossed, zf_X10_areCorners, zf_X5_hasCorner, zf_X10_isStep, zf_X10_isValue, zf_X7_canTell, zf_X7_wasSeenBefore, zf_X7_has, zf_X2_hasPlace, zf_X8_size, zf_X8_shorten, zf_X5_corners, zf_X5_hasCut, zf_X4_onWay, zf_X1_faultKind, zf_X1_faultPlace, zf_X7_size, zf_X7_rights, zf_X2_size, zf_X5_cutCount, zf_X11_in, zf_X11_isCorner, jrun_u, jstep, zno164e, zout, or_self, ↓if_pos, ↓if_neg, if_pos, if_neg, Option.bind_some, Bool.true_eq_false, ↓reduceIte]
    first | exact ⟨_, _, rfl, rfl, rfl⟩ | done
  · have ga9 : zf_X0_gather 16 0 0 4 1 1 2 = some (0, 0) := rfl
    have ya9 : zf_X11_cross 4 2 4 1 0 0xffffffff00000001ffffffff000000000000000000000000000000000000000000000000ffffffff00000000ffffffff0000000000000000000000000000000000000000000000000000000000000001ffffffff00000000ffffffff000000000000000000000000000000000000000000000000ffffffff00000000ffffffff00000000 0x100000000 0x300000002 0 0 1 2 = some (2, 4, 0, 0xffffffff00000001ffffffff000000000000000000000000000000000000000000000000ffffffff00000000ffffffff0000000000000000000000000000000000000000000000000000000000000001ffffffff00000000ffffffff000000000000000000000000000000000000000000000000ffffffff00000000ffffffff00000000, 0x100000000, 0x300000002, 0, 0) := rfl
    by_cases kz : k = 0
    · subst kz
      exact ⟨_, _, rfl, rfl, rfl⟩
    by_cases k0 : k = -1
    · simp (disch := omega) only [zf_X10_crossed, zf_X11_crossed, zf_X10_areCorners, zf_X5_hasCorner, zf_X10_isStep, zf_X10_isValue, zf_X7_canTell, zf_X7_wasSeenBefore, zf_X7_has, zf_X2_hasPlace, zf_X8_size, zf_X8_shorten, zf_X5_corners, zf_X5_hasCut, zf_X4_onWay, zf_X1_faultKind, zf_X1_faultPlace, zf_X7_size, zf_X7_rights, zf_X2_size, zf_X5_cutCount, zf_X11_in, zf_X11_isCorner, jrun_u, jstep, zno164e, zout, or_self, ga9, ya9, zf_X0_size, zf_X0_pairAt, zf_X0_sharedWithNext, ↓if_pos, ↓if_neg, if_pos, if_neg, Option.bind_some, Bool.true_eq_false, ↓reduceIte]
      first | exact ⟨_, _, rfl, rfl, rfl⟩ | done
    by_cases k1 : k < 0
    · simp (disch := omega) only [zf_X10_crossed, zf_X11_crossed, zf_X10_areCorners, zf_X5_hasCorner, zf_X10_isStep, zf_X10_isValue, zf_X7_canTell, zf_X7_wasSeenBefore, zf_X7_has, zf_X2_hasPlace, zf_X8_size, zf_X8_shorten, zf_X5_corners, zf_X5_hasCut, zf_X4_onWay, zf_X1_faultKind, zf_X1_faultPlace, zf_X7_size, zf_X7_rights, zf_X2_size, zf_X5_cutCount, zf_X11_in, zf_X11_isCorner, jrun_u, jstep, zno164e, zout, or_self, ga9, ya9, zf_X0_size, zf_X0_pairAt, zf_X0_sharedWithNext, ↓if_pos, ↓if_neg, if_pos, if_neg, Option.bind_some, Bool.true_eq_false, ↓reduceIte]
      first | exact ⟨_, _, rfl, rfl, rfl⟩ | done
    simp (disch := omega) only [zf_X10_crossed, zf_X11_crossed, zf_X10_areCorners, zf_X5_hasCorner, zf_X10_isStep, zf_X10_isValue, zf_X7_canTell, zf_X7_wasSeenBefore, zf_X7_has, zf_X2_hasPlace, zf_X8_size, zf_X8_shorten, zf_X5_corners, zf_X5_hasCut, zf_X4_onWay, zf_X1_faultKind, zf_X1_faultPlace, zf_X7_size, zf_X7_rights, zf_X2_size, zf_X5_cutCount, zf_X11_in, zf_X11_isCorner, jrun_u, jstep, zno164e, zout, or_self, ga9, ya9, zf_X0_size, zf_X0_pairAt, zf_X0_sharedWithNext, ↓if_pos, ↓if_neg, if_pos, if_neg, Option.bind_some, Bool.true_eq_false, ↓reduceIte]
    first | exact ⟨_, _, rfl, rfl, rfl⟩ | done
  · have ga9 : zf_X0_gather 16 0 0 4 1 1 3 = some (1, 0) := rfl
    have ya9 : zf_X11_cross 4 2 4 1 0 0xffffffff00000001ffffffff000000000000000000000000000000000000000000000000ffffffff00000000ffffffff0000000000000000000000000000000000000000000000000000000000000001ffffffff00000000ffffffff000000000000000000000000000000000000000000000000ffffffff00000000ffffffff00000000 0x100000000 0x300000002 0 0 1 3 = some (2, 4, 1, 0xffffffff00000001ffffffff000000000000000000000000000000000000000000000000ffffffff00000000ffffffff0000000000000000000000000000000000000000000000000000000000000001ffffffff00000000ffffffff000000000000000000000000000000000000000000000000ffffffff00000000ffffffff00000000, 0x100000000, 0x300000002, 0, 2) := rfl
    by_cases kz : k = 0
    · subst kz
      exact ⟨_, _, rfl, rfl, rfl⟩
    by_cases k0 : k = -1
    · simp (disch := omega) only [zf_X10_crossed, zf_X11_crossed, zf_X10_areCorners, zf_X5_hasCorner, zf_X10_isStep, zf_X10_isValue, zf_X7_canTell, zf_X7_wasSeenBefore, zf_X7_has, zf_X2_hasPlace, zf_X8_size, zf_X8_shorten, zf_X5_corners, zf_X5_hasCut, zf_X4_onWay, zf_X1_faultKind, zf_X1_faultPlace, zf_X7_size, zf_X7_rights, zf_X2_size, zf_X5_cutCount, zf_X11_in, zf_X11_isCorner, jrun_u, jstep, zno164e, zout, or_self, ga9, ya9, zf_X0_size, zf_X0_pairAt, zf_X0_sharedWithNext, ↓if_pos, ↓if_neg, if_pos, if_neg, Option.bind_some, Bool.true_eq_false, ↓reduceIte]
      first | exact ⟨_, _, rfl, rfl, rfl⟩ | done
    by_cases k1 : k < 0
    · simp (disch := omega) only [zf_X10_crossed, zf_X11_crossed, zf_X10_areCorners, zf_X5_hasCorner, zf_X10_isStep, zf_X10_isValue, zf_X7_canTell, zf_X7_wasSeenBefore, zf_X7_has, zf_X2_hasPlace, zf_X8_size, zf_X8_shorten, zf_X5_corners, zf_X5_hasCut, zf_X4_onWay, zf_X1_faultKind, zf_X1_faultPlace, zf_X7_size, zf_X7_rights, zf_X2_size, zf_X5_cutCount, zf_X11_in, zf_X11_isCorner, jrun_u, jstep, zno164e, zout, or_self, ga9, ya9, zf_X0_size, zf_X0_pairAt, zf_X0_sharedWithNext, ↓if_pos, ↓if_neg, if_pos, if_neg, Option.bind_some, Bool.true_eq_false, ↓reduceIte]
      first | exact ⟨_, _, rfl, rfl, rfl⟩ | done
    simp (disch := omega) only [zf_X10_crossed, zf_X11_crossed, zf_X10_areCorners, zf_X5_hasCorner, zf_X10_isStep, zf_X10_isValue, zf_X7_canTell, zf_X7_wasSeenBefore, zf_X7_has, zf_X2_hasPlace, zf_X8_size, zf_X8_shorten, zf_X5_corners, zf_X5_hasCut, zf_X4_onWay, zf_X1_faultKind, zf_X1_faultPlace, zf_X7_size, zf_X7_rights, zf_X2_size, zf_X5_cutCount, zf_X11_in, zf_X11_isCorner, jrun_u, jstep, zno164e, zout, or_self, ga9, ya9, zf_X0_size, zf_X0_pairAt, zf_X0_sharedWithNext, ↓if_pos, ↓if_neg, if_pos, if_neg, Option.bind_some, Bool.true_eq_false, ↓reduceIte]
    first | exact ⟨_, _, rfl, rfl, rfl⟩ | done
  · have ga9 : zf_X0_gather 16 0 0 4 1 2 0 = some (0, 0) := rfl
    have ya9 : zf_X11_cross 4 2 4 1 0 0xffffffff00000001ffffffff000000000000000000000000000000000000000000000000ffffffff00000000ffffffff0000000000000000000000000000000000000000000000000000000000000001ffffffff00000000ffffffff000000000000000000000000000000000000000000000000ffffffff00000000ffffffff00000000 0x100000000 0x300000002 0 0 2 0 = some (2, 4, 0, 0xffffffff00000001ffffffff000000000000000000000000000000000000000000000000ffffffff00000000ffffffff0000000000000000000000000000000000000000000000000000000000000001ffffffff00000000ffffffff000000000000000000000000000000000000000000000000ffffffff00000000ffffffff00000000, 0x100000000, 0x300000002, 0, 0) := rfl
    by_cases kz : k = 0
    · subst kz
      exact ⟨_, _, rfl, rfl, rfl⟩
    by_cases k0 : k = -1
    · simp (disch := omega) only [zf_X10_crossed, zf_X11_crossed, zf_X10_areCorners, zf_X5_hasCorner, zf_X10_isStep, zf_X10_isValue, zf_X7_canTell, zf_X7_wasSeenBefore, zf_X7_has, zf_X2_hasPlace, zf_X8_size, zf_X8_shorten, zf_X5_corners, zf_X5_hasCut, zf_X4_onWay, zf_X1_faultKind, zf_X1_faultPlace, zf_X7_size, zf_X7_rights, zf_X2_size, zf_X5_cutCount, zf_X11_in, zf_X11_isCorner, jrun_u, jstep, zno164e, zout, or_self, ga9, ya9, zf_X0_size, zf_X0_pairAt, zf_X0_sharedWithNext, ↓if_pos, ↓if_neg, if_pos, if_neg, Option.bind_some, Bool.true_eq_false, ↓reduceIte]
      first | exact ⟨_, _, rfl, rfl, rfl⟩ | done
    by_cases k1 : k < 0
    · simp (disch := omega) only [zf_X10_crossed, zf_X11_crossed, zf_X10_areCorners, zf_X5_hasCorner, zf_X10_isStep, zf_X10_isValue, zf_X7_canTell, zf_X7_wasSeenBefore, zf_X7_has, zf_X2_hasPlace, zf_X8_size, zf_X8_shorten, zf_X5_corners, zf_X5_hasCut, zf_X4_onWay, zf_X1_faultKind, zf_X1_faultPlace, zf_X7_size, zf_X7_rights, zf_X2_size, zf_X5_cutCount, zf_X11_in, zf_X11_isCorner, jrun_u, jstep, zno164e, zout, or_self, ga9, ya9, zf_X0_size, zf_X0_pairAt, zf_X0_sharedWithNext, ↓if_pos, ↓if_neg, if_pos, if_neg, Option.bind_some, Bool.true_eq_false, ↓reduceIte]
      first | exact ⟨_, _, rfl, rfl, rfl⟩ | done
    simp (disch := omega) only [zf_X10_crossed, zf_X11_crossed, zf_X10_areCorners, zf_X5_hasCorner, zf_X10_isStep, zf_X10_isValue, zf_X7_canTell, zf_X7_wasSeenBefore, zf_X7_has, zf_X2_hasPlace, zf_X8_size, zf_X8_shorten, zf_X5_corners, zf_X5_hasCut, zf_X4_onWay, zf_X1_faultKind, zf_X1_faultPlace, zf_X7_size, zf_X7_rights, zf_X2_size, zf_X5_cutCount, zf_X11_in, zf_X11_isCorner, jrun_u, jstep, zno164e, zout, or_self, ga9, ya9, zf_X0_size, zf_X0_pairAt, zf_X0_sharedWithNext, ↓if_pos, ↓if_neg, if_pos, if_neg, Option.bind_some, Bool.true_eq_false, ↓reduceIte]
    first | exact ⟨_, _, rfl, rfl, rfl⟩ | done
  · have ga9 : zf_X0_gather 16 0 0 4 1 2 1 = some (0, 0) := rfl
    have ya9 : zf_X11_cross 4 2 4 1 0 0xffffffff00000001ffffffff000000000000000000000000000000000000000000000000ffffffff00000000ffffffff0000000000000000000000000000000000000000000000000000000000000001ffffffff00000000ffffffff000000000000000000000000000000000000000000000000ffffffff00000000ffffffff00000000 0x100000000 0x300000002 0 0 2 1 = some (2, 4, 0, 0xffffffff00000001ffffffff000000000000000000000000000000000000000000000000ffffffff00000000ffffffff0000000000000000000000000000000000000000000000000000000000000001ffffffff00000000ffffffff000000000000000000000000000000000000000000000000ffffffff00000000ffffffff00000000, 0x100000000, 0x300000002, 0, 0) := rfl
    by_cases kz : k = 0
    · subst kz
      exact ⟨_, _, rfl, rfl, rfl⟩
    by_cases k0 : k = -1
    · simp (disch := omega) only [zf_X10_crossed, zf_X11_crossed, zf_X10_areCorners, zf_X5_hasCorner, zf_X10_isStep, zf_X10_isValue, zf_X7_canTell, zf_X7_wasSeenBefore, zf_X7_has, zf_X2_hasPlace, zf_X8_size, zf_X8_shorten, zf_X5_corners, zf_X5_hasCut, zf_X4_onWay, zf_X1_faultKind, zf_X1_faultPlace, zf_X7_size, zf_X7_rights, zf_X2_size, zf_X5_cutCount, zf_X11_in, zf_X11_isCorner, jrun_u, jstep, zno164e, zout, or_self, ga9, ya9, zf_X0_size, zf_X0_pairAt, zf_X0_sharedWithNext, ↓if_pos, ↓if_neg, if_pos, if_neg, Option.bind_some, Bool.true_eq_false, ↓reduceIte]
      first | exact ⟨_, _, rfl, rfl, rfl⟩ | done
    by_cases k1 : k < 0
    · simp (disch := omega) only [zf_X10_crossed, zf_X11_crossed, zf_X10_areCorners, zf_X5_hasCorner, zf_X10_isStep, zf_X10_isValue, zf_X7_canTell, zf_X7_wasSeenBefore, zf_X7_has, zf_X2_hasPlace, zf_X8_size, zf_X8_shorten, zf_X5_corners, zf_X5_hasCut, zf_X4_onWay, zf_X1_faultKind, zf_X1_faultPlace, zf_X7_size, zf_X7_rights, zf_X2_size, zf_X5_cutCount, zf_X11_in, zf_X11_isCorner, jrun_u, jstep, zno164e, zout, or_self, ga9, ya9, zf_X0_size, zf_X0_pairAt, zf_X0_sharedWithNext, ↓if_pos, ↓if_neg, if_pos, if_neg, Option.bind_some, Bool.true_eq_false, ↓reduceIte]
      first | exact ⟨_, _, rfl, rfl, rfl⟩ | done
    simp (disch := omega) only [zf_X10_crossed, zf_X11_crossed, zf_X10_areCorners, zf_X5_hasCorner, zf_X10_isStep, zf_X10_isValue, zf_X7_canTell, zf_X7_wasSeenBefore, zf_X7_has, zf_X2_hasPlace, zf_X8_size, zf_X8_shorten, zf_X5_corners, zf_X5_hasCut, zf_X4_onWay, zf_X1_faultKind, zf_X1_faultPlace, zf_X7_size, zf_X7_rights, zf_X2_size, zf_X5_cutCount, zf_X11_in, zf_X11_isCorner, jrun_u, jstep, zno164e, zout, or_self, ga9, ya9, zf_X0_size, zf_X0_pairAt, zf_X0_sharedWithNext, ↓if_pos, ↓if_neg, if_pos, if_neg, Option.bind_some, Bool.true_eq_false, ↓reduceIte]
    first | exact ⟨_, _, rfl, rfl, rfl⟩ | done
  · simp (disch := omega) only [zf_X10_crossed, zf_X11_crossed, zf_X10_areCorners, zf_X5_hasCorner, zf_X10_isStep, zf_X10_isValue, zf_X7_canTell, zf_X7_wasSeenBefore, zf_X7_has, zf_X2_hasPlace, zf_X8_size, zf_X8_shorten, zf_X5_corners, zf_X5_hasCut, zf_X4_onWay, zf_X1_faultKind, zf_X1_faultPlace, zf_X7_size, zf_X7_rights, zf_X2_size, zf_X5_cutCount, zf_X11_in, zf_X11_isCorner, jrun_u, jstep, zno164e, zout, or_self, ↓if_pos, ↓if_neg, if_pos, if_neg, Option.bind_some, Bool.true_eq_false, ↓reduceIte]
    first | exact ⟨_, _, rfl, rfl, rfl⟩ | done
  · have ga9 : zf_X0_gather 16 0 0 4 1 2 3 = some (0, 0) := rfl
    have ya9 : zf_X11_cross 4 2 4 1 0 0xffffffff00000001ffffffff000000000000000000000000000000000000000000000000ffffffff00000000ffffffff0000000000000000000000000000000000000000000000000000000000000001ffffffff00000000ffffffff000000000000000000000000000000000000000000000000ffffffff00000000ffffffff00000000 0x100000000 0x300000002 0 0 2 3 = some (2, 4, 0, 0xffffffff00000001ffffffff000000000000000000000000000000000000000000000000ffffffff00000000ffffffff0000000000000000000000000000000000000000000000000000000000000001ffffffff00000000ffffffff000000000000000000000000000000000000000000000000ffffffff00000000ffffffff00000000, 0x100000000, 0x300000002, 0, 0) := rfl
    by_cases kz : k = 0
    · subst kz
      exact ⟨_, _, rfl, rfl, rfl⟩
    by_cases k0 : k = -1
    · simp (disch := omega) only [zf_X10_crossed, zf_X11_crossed, zf_X10_areCorners, zf_X5_hasCorner, zf_X10_isStep, zf_X10_isValue, zf_X7_canTell, zf_X7_wasSeenBefore, zf_X7_has, zf_X2_hasPlace, zf_X8_size, zf_X8_shorten, zf_X5_corners, zf_X5_hasCut, zf_X4_onWay, zf_X1_faultKind, zf_X1_faultPlace, zf_X7_size, zf_X7_rights, zf_X2_size, zf_X5_cutCount, zf_X11_in, zf_X11_isCorner, jrun_u, jstep, zno164e, zout, or_self, ga9, ya9, zf_X0_size, zf_X0_pairAt, zf_X0_sharedWithNext, ↓if_pos, ↓if_neg, if_pos, if_neg, Option.bind_some, Bool.true_eq_false, ↓reduceIte]
      first | exact ⟨_, _, rfl, rfl, rfl⟩ | done
    by_cases k1 : k < 0
    · simp (disch := omega) only [zf_X10_crossed, zf_X11_crossed, zf_X10_areCorners, zf_X5_hasCorner, zf_X10_isStep, zf_X10_isValue, zf_X7_canTell, zf_X7_wasSeenBefore, zf_X7_has, zf_X2_hasPlace, zf_X8_size, zf_X8_shorten, zf_X5_corners, zf_X5_hasCut, zf_X4_onWay, zf_X1_faultKind, zf_X1_faultPlace, zf_X7_size, zf_X7_rights, zf_X2_size, zf_X5_cutCount, zf_X11_in, zf_X11_isCorner, jrun_u, jstep, zno164e, zout, or_self, ga9, ya9, zf_X0_size, zf_X0_pairAt, zf_X0_sharedWithNext, ↓if_pos, ↓if_neg, if_pos, if_neg, Option.bind_some, Bool.true_eq_false, ↓reduceIte]
      first | exact ⟨_, _, rfl, rfl, rfl⟩ | done
    simp (disch := omega) only [zf_X10_crossed, zf_X11_crossed, zf_X10_areCorners, zf_X5_hasCorner, zf_X10_isStep, zf_X10_isValue, zf_X7_canTell, zf_X7_wasSeenBefore, zf_X7_has, zf_X2_hasPlace, zf_X8_size, zf_X8_shorten, zf_X5_corners, zf_X5_hasCut, zf_X4_onWay, zf_X1_faultKind, zf_X1_faultPlace, zf_X7_size, zf_X7_rights, zf_X2_size, zf_X5_cutCount, zf_X11_in, zf_X11_isCorner, jrun_u, jstep, zno164e, zout, or_self, ga9, ya9, zf_X0_size, zf_X0_pairAt, zf_X0_sharedWithNext, ↓if_pos, ↓if_neg, if_pos, if_neg, Option.bind_some, Bool.true_eq_false, ↓reduceIte]
    first | exact ⟨_, _, rfl, rfl, rfl⟩ | done
  · have ga9 : zf_X0_gather 16 0 0 4 1 3 0 = some (0, 0) := rfl
    have ya9 : zf_X11_cross 4 2 4 1 0 0xffffffff00000001ffffffff000000000000000000000000000000000000000000000000ffffffff00000000ffffffff0000000000000000000000000000000000000000000000000000000000000001ffffffff00000000ffffffff000000000000000000000000000000000000000000000000ffffffff00000000ffffffff00000000 0x100000000 0x300000002 0 0 3 0 = some (2, 4, 0, 0xffffffff00000001ffffffff000000000000000000000000000000000000000000000000ffffffff00000000ffffffff0000000000000000000000000000000000000000000000000000000000000001ffffffff00000000ffffffff000000000000000000000000000000000000000000000000ffffffff00000000ffffffff00000000, 0x100000000, 0x300000002, 0, 0) := rfl
    by_cases kz : k = 0
    · subst kz
      exact ⟨_, _, rfl, rfl, rfl⟩
    by_cases k0 : k = -1
    · simp (disch := omega) only [zf_X10_crossed, zf_X11_crossed, zf_X10_areCorners, zf_X5_hasCorner, zf_X10_isStep, zf_X10_isValue, zf_X7_canTell, zf_X7_wasSeenBefore, zf_X7_has, zf_X2_hasPlace, zf_X8_size, zf_X8_shorten, zf_X5_corners, zf_X5_hasCut, zf_X4_onWay, zf_X1_faultKind, zf_X1_faultPlace, zf_X7_size, zf_X7_rights, zf_X2_size, zf_X5_cutCount, zf_X11_in, zf_X11_isCorner, jrun_u, jstep, zno164e, zout, or_self, ga9, ya9, zf_X0_size, zf_X0_pairAt, zf_X0_sharedWithNext, ↓if_pos, ↓if_neg, if_pos, if_neg, Option.bind_some, Bool.true_eq_false, ↓reduceIte]
      first | exact ⟨_, _, rfl, rfl, rfl⟩ | done
    by_cases k1 : k < 0
    · simp (disch := omega) only [zf_X10_crossed, zf_X11_crossed, zf_X10_areCorners, zf_X5_hasCorner, zf_X10_isStep, zf_X10_isValue, zf_X7_canTell, zf_X7_wasSeenBefore, zf_X7_has, zf_X2_hasPlace, zf_X8_size, zf_X8_shorten, zf_X5_corners, zf_X5_hasCut, zf_X4_onWay, zf_X1_faultKind, zf_X1_faultPlace, zf_X7_size, zf_X7_rights, zf_X2_size, zf_X5_cutCount, zf_X11_in, zf_X11_isCorner, jrun_u, jstep, zno164e, zout, or_self, ga9, ya9, zf_X0_size, zf_X0_pairAt, zf_X0_sharedWithNext, ↓if_pos, ↓if_neg, if_pos, if_neg, Option.bind_some, Bool.true_eq_false, ↓reduceIte]
      first | exact ⟨_, _, rfl, rfl, rfl⟩ | done
    simp (disch := omega) only [zf_X10_crossed, zf_X11_crossed, zf_X10_areCorners, zf_X5_hasCorner, zf_X10_isStep, zf_X10_isValue, zf_X7_canTell, zf_X7_wasSeenBefore, zf_X7_has, zf_X2_hasPlace, zf_X8_size, zf_X8_shorten, zf_X5_corners, zf_X5_hasCut, zf_X4_onWay, zf_X1_faultKind, zf_X1_faultPlace, zf_X7_size, zf_X7_rights, zf_X2_size, zf_X5_cutCount, zf_X11_in, zf_X11_isCorner, jrun_u, jstep, zno164e, zout, or_self, ga9, ya9, zf_X0_size, zf_X0_pairAt, zf_X0_sharedWithNext, ↓if_pos, ↓if_neg, if_pos, if_neg, Option.bind_some, Bool.true_eq_false, ↓reduceIte]
    first | exact ⟨_, _, rfl, rfl, rfl⟩ | done
  · have ga9 : zf_X0_gather 16 0 0 4 1 3 1 = some (1, 0) := rfl
    have ya9 : zf_X11_cross 4 2 4 1 0 0xffffffff00000001ffffffff000000000000000000000000000000000000000000000000ffffffff00000000ffffffff0000000000000000000000000000000000000000000000000000000000000001ffffffff00000000ffffffff000000000000000000000000000000000000000000000000ffffffff00000000ffffffff00000000 0x100000000 0x300000002 0 0 3 1 = some (2, 4, 1, 0xffffffff00000001ffffffff000000000000000000000000000000000000000000000000ffffffff00000000ffffffff0000000000000000000000000000000000000000000000000000000000000001ffffffff00000000ffffffff000000000000000000000000000000000000000000000000ffffffff00000000ffffffff00000000, 0x100000000, 0x300000002, 0, 2) := rfl
    by_cases kz : k = 0
    · subst kz
      exact ⟨_, _, rfl, rfl, rfl⟩
    by_cases k0 : k = -1
    · simp (disch := omega) only [zf_X10_crossed, zf_X11_crossed, zf_X10_areCorners, zf_X5_hasCorner, zf_X10_isStep, zf_X10_isValue, zf_X7_canTell, zf_X7_wasSeenBefore, zf_X7_has, zf_X2_hasPlace, zf_X8_size, zf_X8_shorten, zf_X5_corners, zf_X5_hasCut, zf_X4_onWay, zf_X1_faultKind, zf_X1_faultPlace, zf_X7_size, zf_X7_rights, zf_X2_size, zf_X5_cutCount, zf_X11_in, zf_X11_isCorner, jrun_u, jstep, zno164e, zout, or_self, ga9, ya9, zf_X0_size, zf_X0_pairAt, zf_X0_sharedWithNext, ↓if_pos, ↓if_neg, if_pos, if_neg, Option.bind_some, Bool.true_eq_false, ↓reduceIte]
      first | exact ⟨_, _, rfl, rfl, rfl⟩ | done
    by_cases k1 : k < 0
    · simp (disch := omega) only [zf_X10_crossed, zf_X11_crossed, zf_X10_areCorners, zf_X5_hasCorner, zf_X10_isStep, zf_X10_isValue, zf_X7_canTell, zf_X7_wasSeenBefore, zf_X7_has, zf_X2_hasPlace, zf_X8_size, zf_X8_shorten, zf_X5_corners, zf_X5_hasCut, zf_X4_onWay, zf_X1_faultKind, zf_X1_faultPlace, zf_X7_size, zf_X7_rights, zf_X2_size, zf_X5_cutCount, zf_X11_in, zf_X11_isCorner, jrun_u, jstep, zno164e, zout, or_self, ga9, ya9, zf_X0_size, zf_X0_pairAt, zf_X0_sharedWithNext, ↓if_pos, ↓if_neg, if_pos, if_neg, Option.bind_some, Bool.true_eq_false, ↓reduceIte]
      first | exact ⟨_, _, rfl, rfl, rfl⟩ | done
    simp (disch := omega) only [zf_X10_crossed, zf_X11_crossed, zf_X10_areCorners, zf_X5_hasCorner, zf_X10_isStep, zf_X10_isValue, zf_X7_canTell, zf_X7_wasSeenBefore, zf_X7_has, zf_X2_hasPlace, zf_X8_size, zf_X8_shorten, zf_X5_corners, zf_X5_hasCut, zf_X4_onWay, zf_X1_faultKind, zf_X1_faultPlace, zf_X7_size, zf_X7_rights, zf_X2_size, zf_X5_cutCount, zf_X11_in, zf_X11_isCorner, jrun_u, jstep, zno164e, zout, or_self, ga9, ya9, zf_X0_size, zf_X0_pairAt, zf_X0_sharedWithNext, ↓if_pos, ↓if_neg, if_pos, if_neg, Option.bind_some, Bool.true_eq_false, ↓reduceIte]
    first | exact ⟨_, _, rfl, rfl, rfl⟩ | done
  · have ga9 : zf_X0_gather 16 0 0 4 1 3 2 = some (0, 0) := rfl
    have ya9 : zf_X11_cross 4 2 4 1 0 0xffffffff00000001ffffffff000000000000000000000000000000000000000000000000ffffffff00000000ffffffff0000000000000000000000000000000000000000000000000000000000000001ffffffff00000000ffffffff000000000000000000000000000000000000000000000000ffffffff00000000ffffffff00000000 0x100000000 0x300000002 0 0 3 2 = some (2, 4, 0, 0xffffffff00000001ffffffff000000000000000000000000000000000000000000000000ffffffff00000000ffffffff0000000000000000000000000000000000000000000000000000000000000001ffffffff00000000ffffffff000000000000000000000000000000000000000000000000ffffffff00000000ffffffff00000000, 0x100000000, 0x300000002, 0, 0) := rfl
    by_cases kz : k = 0
    · subst kz
      exact ⟨_, _, rfl, rfl, rfl⟩
    by_cases k0 : k = -1
    · simp (disch := omega) only [zf_X10_crossed, zf_X11_crossed, zf_X10_areCorners, zf_X5_hasCorner, zf_X10_isStep, zf_X10_isValue, zf_X7_canTell, zf_X7_wasSeenBefore, zf_X7_has, zf_X2_hasPlace, zf_X8_size, zf_X8_shorten, zf_X5_corners, zf_X5_hasCut, zf_X4_onWay, zf_X1_faultKind, zf_X1_faultPlace, zf_X7_size, zf_X7_rights, zf_X2_size, zf_X5_cutCount, zf_X11_in, zf_X11_isCorner, jrun_u, jstep, zno164e, zout, or_self, ga9, ya9, zf_X0_size, zf_X0_pairAt, zf_X0_sharedWithNext, ↓if_pos, ↓if_neg, if_pos, if_neg, Option.bind_some, Bool.true_eq_false, ↓reduceIte]
      first | exact ⟨_, _, rfl, rfl, rfl⟩ | done
    by_cases k1 : k < 0
    · simp (disch := omega) only [zf_X10_crossed, zf_X11_crossed, zf_X10_areCorners, zf_X5_hasCorner, zf_X10_isStep, zf_X10_isValue, zf_X7_canTell, zf_X7_wasSeenBefore, zf_X7_has, zf_X2_hasPlace, zf_X8_size, zf_X8_shorten, zf_X5_corners, zf_X5_hasCut, zf_X4_onWay, zf_X1_faultKind, zf_X1_faultPlace, zf_X7_size, zf_X7_rights, zf_X2_size, zf_X5_cutCount, zf_X11_in, zf_X11_isCorner, jrun_u, jstep, zno164e, zout, or_self, ga9, ya9, zf_X0_size, zf_X0_pairAt, zf_X0_sharedWithNext, ↓if_pos, ↓if_neg, if_pos, if_neg, Option.bind_some, Bool.true_eq_false, ↓reduceIte]
      first | exact ⟨_, _, rfl, rfl, rfl⟩ | done
    simp (disch := omega) only [zf_X10_crossed, zf_X11_crossed, zf_X10_areCorners, zf_X5_hasCorner, zf_X10_isStep, zf_X10_isValue, zf_X7_canTell, zf_X7_wasSeenBefore, zf_X7_has, zf_X2_hasPlace, zf_X8_size, zf_X8_shorten, zf_X5_corners, zf_X5_hasCut, zf_X4_onWay, zf_X1_faultKind, zf_X1_faultPlace, zf_X7_size, zf_X7_rights, zf_X2_size, zf_X5_cutCount, zf_X11_in, zf_X11_isCorner, jrun_u, jstep, zno164e, zout, or_self, ga9, ya9, zf_X0_size, zf_X0_pairAt, zf_X0_sharedWithNext, ↓if_pos, ↓if_neg, if_pos, if_neg, Option.bind_some, Bool.true_eq_false, ↓reduceIte]
    first | exact ⟨_, _, rfl, rfl, rfl⟩ | done
  · simp (disch := omega) only [zf_X10_crossed, zf_X11_crossed, zf_X10_areCorners, zf_X5_hasCorner, zf_X10_isStep, zf_X10_isValue, zf_X7_canTell, zf_X7_wasSeenBefore, zf_X7_has, zf_X2_hasPlace, zf_X8_size, zf_X8_shorten, zf_X5_corners, zf_X5_hasCut, zf_X4_onWay, zf_X1_faultKind, zf_X1_faultPlace, zf_X7_size, zf_X7_rights, zf_X2_size, zf_X5_cutCount, zf_X11_in, zf_X11_isCorner, jrun_u, jstep, zno164e, zout, or_self, ↓if_pos, ↓if_neg, if_pos, if_neg, Option.bind_some, Bool.true_eq_false, ↓reduceIte]
    first | exact ⟨_, _, rfl, rfl, rfl⟩ | done
set_option maxRecDepth 20000 in
theorem ev_20 (i : Int) (j : Int) (k : Int) (zi : ¬ zout i) (zj : ¬ zout j) (zk : ¬ zout k) : ∃ o1 o2, zf_X10_side 16 4 1 0 0 i j k = some o1 ∧ zf_X11_side 4 2 4 1 0 0xffffffff00000001ffffffff000000000000000000000000000000000000000000000000ffffffff00000000ffffffff0000000000000000000000000000000000000000000000000000000000000001ffffffff00000000ffffffff000000000000000000000000000000000000000000000000ffffffff00000000ffffffff00000000 0x100000000 0x300000002 0 0 i j k = some o2 ∧ (o1.1) = (o2.1) := by
  unfold zout at *
  by_cases c0 : i < 0
  · simp (disch := omega) only [zf_X10_side, zf_X11_side, zg_X11_side, zg_X11_side_0, zf_X10_areCorners, zf_X5_hasCorner, zf_X10_isStep, zf_X10_isValue, zf_X7_canTell, zf_X7_wasSeenBefore, zf_X7_has, zf_X2_hasPlace, zf_X8_size, zf_X8_shorten, zf_X5_corners, zf_X5_hasCut, zf_X4_onWay, zf_X1_faultKind, zf_X1_faultPlace, zf_X7_size, zf_X7_rights, zf_X2_size, zf_X5_cutCount, zf_X11_in, zf_X11_isCorner, jrun_u, jstep, zno164e, zout, or_self, ↓if_pos, ↓if_neg, if_pos, if_neg, Option.bind_some, Bool.true_eq_false, ↓reduceIte]
    first | exact ⟨_, _, rfl, rfl, rfl⟩ | done
  by_cases c1 : 3 < i
  · simp (disch := omega) only [zf_X10_side, zf_X11_side, zg_X11_side, zg_X11_side_0, zf_X10_areCorners, zf_X5_hasCorner, zf_X10_isStep, zf_X10_isValue, zf_X7_canTell, zf_X7_wasSeenBefore, zf_X7_has, zf_X2_hasPlace, zf_X8_size, zf_X8_shorten, zf_X5_corners, zf_X5_hasCut, zf_X4_onWay, zf_X1_faultKind, zf_X1_faultPlace, zf_X7_size, zf_X7_rights, zf_X2_size, zf_X5_cutCount, zf_X11_in, zf_X11_isCorner, jrun_u, jstep, zno164e, zout, or_self, ↓if_pos, ↓if_neg, if_pos, if_neg, Option.bind_some, Bool.true_eq_false, ↓reduceIte]
    first | exact ⟨_, _, rfl, rfl, rfl⟩ | done
  by_cases c2 : j < 0
  · simp (disch := omega) only [zf_X10_side, zf_X11_side, zg_X11_side, zg_X11_side_0, zf_X10_areCorners, zf_X5_hasCorner, zf_X10_isStep, zf_X10_isValue, zf_X7_canTell, zf_X7_wasSeenBefore, zf_X7_has, zf_X2_hasPlace, zf_X8_size, zf_X8_shorten, zf_X5_corners, zf_X5_hasCut, zf_X4_onWay, zf_X1_faultKind, zf_X1_faultPlace, zf_X7_size, zf_X7_rights, zf_X2_size, zf_X5_cutCount, zf_X11_in, zf_X11_isCorner, jrun_u, jstep, zno164e, zout, or_self, ↓if_pos, ↓if_neg, if_pos, if_neg, Option.bind_some, Bool.true_eq_false, ↓reduceIte]
    first | exact ⟨_, _, rfl, rfl, rfl⟩ | done
  by_cases c3 : 3 < j
  · simp (disch := omega) only [zf_X10_side, zf_X11_side, zg_X11_side, zg_X11_side_0, zf_X10_areCorners, zf_X5_hasCorner, zf_X10_isStep, zf_X10_isValue, zf_X7_canTell, zf_X7_wasSeenBefore, zf_X7_has, zf_X2_hasPlace, zf_X8_size, zf_X8_shorten, zf_X5_corners, zf_X5_hasCut, zf_X4_onWay, zf_X1_faultKind, zf_X1_faultPlace, zf_X7_size, zf_X7_rights, zf_X2_size, zf_X5_cutCount, zf_X11_in, zf_X11_isCorner, jrun_u, jstep, zno164e, zout, or_self, ↓if_pos, ↓if_neg, if_pos, if_neg, Option.bind_some, Bool.true_eq_false, ↓reduceIte]
    first | exact ⟨_, _, rfl, rfl, rfl⟩ | done
  have hi9 : i = 0 ∨ i = 1 ∨ i = 2 ∨ i = 3 := by omega
  have hj9 : j = 0 ∨ j = 1 ∨ j = 2 ∨ j = 3 := by omega
  rcases hi9 with rfl | rfl | rfl | rfl <;> rcases hj9 with rfl | rfl | rfl | rfl
  · simp (disch := omega) only [zf_X10_side, zf_X11_side, zg_X11_side, zg_X11_side_0, zf_X10_areCorners, zf_X5_hasCorner, zf_X10_isStep, zf_X10_isValue, zf_X7_canTell, zf_X7_wasSeenBefore, zf_X7_has, zf_X2_hasPlace, zf_X8_size, zf_X8_shorten, zf_X5_corners, zf_X5_hasCut, zf_X4_onWay, zf_X1_faultKind, zf_X1_faultPlace, zf_X7_size, zf_X7_rights, zf_X2_size, zf_X5_cutCount, zf_X11_in, zf_X11_isCorner, jrun_u, jstep, zno164e, zout, or_self, ↓if_pos, ↓if_neg, if_pos, if_neg, Option.bind_some, Bool.true_eq_false, ↓reduceIte]
    first | exact ⟨_, _, rfl, rfl, rfl⟩ | done
  · have ga9 : zf_X0_gather 16 0 0 4 1 0 1 = some (0, 0) := rfl
    have ya9 : zf_X11_cross 4 2 4 1 0 0xffffffff00000001ffffffff000000000000000000000000000000000000000000000000ffffffff00000000ffffffff0000000000000000000000000000000000000000000000000000000000000001ffffffff00000000ffffffff000000000000000000000000000000000000000000000000ffffffff00000000ffffffff00000000 0x100000000 0x300000002 0 0 0 1 = some (2, 4, 0, 0xffffffff00000001ffffffff000000000000000000000000000000000000000000000000ffffffff00000000ffffffff0000000000000000000000000000000000000000000000000000000000000001ffffffff00000000ffffffff000000000000000000000000000000000000000000000000ffffffff00000000ffffffff00000000, 0x100000000, 0x300000002, 0, 0) := rfl
    by_cases k0 : k < 0
    · simp (disch := omega) only [zf_X10_side, zf_X11_side, zg_X11_side, zg_X11_side_0, zf_X10_areCorners, zf_X5_hasCorner, zf_X10_isStep, zf_X10_isValue, zf_X7_canTell, zf_X7_wasSeenBefore, zf_X7_has, zf_X2_hasPlace, zf_X8_size, zf_X8_shorten, zf_X5_corners, zf_X5_hasCut, zf_X4_onWay, zf_X1_faultKind, zf_X1_faultPlace, zf_X7_size, zf_X7_rights, zf_X2_size, zf_X5_cutCount, zf_X11_in, zf_X11_isCorner, jrun_u, jstep, zno164e, zout, or_self, ga9, ya9, zf_X0_size, zf_X0_pairAt, zf_X0_sharedWithNext, ↓if_pos, ↓if_neg, if_pos, if_neg, Option.bind_some, Bool.true_eq_false, ↓reduceIte]
      first | exact ⟨_, _, rfl, rfl, rfl⟩ | done
    simp (disch := omega) only [zf_X10_side, zf_X11_side, zg_X11_side, zg_X11_side_0, zf_X10_areCorners, zf_X5_hasCorner, zf_X10_isStep, zf_X10_isValue, zf_X7_canTell, zf_X7_wasSeenBefore, zf_X7_has, zf_X2_hasPlace, zf_X8_size, zf_X8_shorten, zf_X5_corners, zf_X5_hasCut, zf_X4_onWay, zf_X1_faultKind, zf_X1_faultPlace, zf_X7_size, zf_X7_rights, zf_X2_size, zf_X5_cutCount, zf_X11_in, zf_X11_isCorner, jrun_u, jstep, zno164e, zout, or_self, ga9, ya9, zf_X0_size, zf_X0_pairAt, zf_X0_sharedWithNext, ↓if_pos, ↓if_neg, if_pos, if_neg, Option.bind_some, Bool.true_eq_false, ↓reduceIte]
    first | exact ⟨_, _, rfl, rfl, rfl⟩ | done
  · have ga9 : zf_X0_gather 16 0 0 4 1 0 2 = some (0, 0) := rfl
    have ya9 : zf_X11_cross 4 2 4 1 0 0xffffffff00000001ffffffff000000000000000000000000000000000000000000000000ffffffff00000000ffffffff0000000000000000000000000000000000000000000000000000000000000001ffffffff00000000ffffffff000000000000000000000000000000000000000000000000ffffffff00000000ffffffff00000000 0x100000000 0x300000002 0 0 0 2 = some (2, 4, 0, 0xffffffff00000001ffffffff000000000000000000000000000000000000000000000000ffffffff00000000ffffffff0000000000000000000000000000000000000000000000000000000000000001ffffffff00000000ffffffff000000000000000000000000000000000000000000000000ffffffff00000000ffffffff00000000, 0x100000000, 0x300000002, 0, 0) := rfl
    by_cases k0 : k < 0
    · simp (disch := omega) only [zf_X10_side, zf_X11_side, zg_X11_side, zg_X11_side_0, zf_X10_areCorners, zf_X5_hasCorner, zf_X10_isStep, zf_X10_isValue, zf_X7_canTell, zf_X7_wasSeenBefore, zf_X7_has, zf_X2_hasPlace, zf_X8_size, zf_X8_shorten, zf_X5_corners, zf_X5_hasCut, zf_X4_onWay, zf_X1_faultKind, zf_X1_faultPlace, zf_X7_size, zf_X7_rights, zf_X2_size, zf_X5_cutCount, zf_X11_in, zf_X11_isCorner, jrun_u, jstep, zno164e, zout, or_self, ga9, ya9, zf_X0_size, zf_X0_pairAt, zf_X0_sharedWithNext, ↓if_pos, ↓if_neg, if_pos, if_neg, Option.bind_some, Bool.true_eq_false, ↓reduceIte]
      first | exact ⟨_, _, rfl, rfl, rfl⟩ | done
    simp (disch := omega) only [zf_X10_side, zf_X11_side, zg_X11_side, zg_X11_side_0, zf_X10_areCorners, zf_X5_hasCorner, zf_X10_isStep, zf_X10_isValue, zf_X7_canTell, zf_X7_wasSeenBefore, zf_X7_has, zf_X2_hasPlace, zf_X8_size, zf_X8_shorten, zf_X5_corners, zf_X5_hasCut, zf_X4_onWay, zf_X1_faultKind, zf_X1_faultPlace, zf_X7_size, zf_X7_rights, zf_X2_size, zf_X5_cutCount, zf_X11_in, zf_X11_isCorner, jrun_u, jstep, zno164e, zout, or_self, ga9, ya9, zf_X0_size, zf_X0_pairAt, zf_X0_sharedWithNext, ↓if_pos, ↓if_neg, if_pos, if_neg, Option.bind_some, Bool.true_eq_false, ↓reduceIte]
    first | exact ⟨_, _, rfl, rfl, rfl⟩ | done
  · have ga9 : zf_X0_gather 16 0 0 4 1 0 3 = some (0, 0) := rfl
    have ya9 : zf_X11_cross 4 2 4 1 0 0xffffffff00000001ffffffff000000000000000000000000000000000000000000000000ffffffff00000000ffffffff0000000000000000000000000000000000000000000000000000000000000001ffffffff00000000ffffffff000000000000000000000000000000000000000000000000ffffffff00000000ffffffff00000000 0x100000000 0x300000002 0 0 0 3 = some (2, 4, 0, 0xffffffff00000001ffffffff000000000000000000000000000000000000000000000000ffffffff00000000ffffffff0000000000000000000000000000000000000000000000000000000000000001ffffffff00000000ffffffff000000000000000000000000000000000000000000000000ffffffff00000000ffffffff00000000, 0x100000000, 0x300000002, 0, 0) := rfl
    by_cases k0 : k < 0
    · simp (disch := omega) only [zf_X10_side, zf_X11_side, zg_X11_side, zg_X11_side_0, zf_X10_areCorners, zf_X5_hasCorner, zf_X10_isStep, zf_X10_isValue, zf_X7_canTell, zf_X7_wasSeenBefore, zf_X7_has, zf_X2_hasPlace, zf_X8_size, zf_X8_shorten, zf_X5_corners, zf_X5_hasCut, zf_X4_onWay, zf_X1_faultKind, zf_X1_faultPlace, zf_X7_size, zf_X7_rights, zf_X2_size, zf_X5_cutCount, zf_X11_in, zf_X11_isCorner, jrun_u, jstep, zno164e, zout, or_self, ga9, ya9, zf_X0_size, zf_X0_pairAt, zf_X0_sharedWithNext, ↓if_pos, ↓if_neg, if_pos, if_neg, Option.bind_some, Bool.true_eq_false, ↓reduceIte]
      first | exact ⟨_, _, rfl, rfl, rfl⟩ | done
    simp (disch := omega) only [zf_X10_side, zf_X11_side, zg_X11_side, zg_X11_side_0, zf_X10_areCorners, zf_X5_hasCorner, zf_X10_isStep, zf_X10_isValue, zf_X7_canTell, zf_X7_wasSeenBefore, zf_X7_has, zf_X2_hasPlace, zf_X8_size, zf_X8_shorten, zf_X5_corners, zf_X5_hasCut, zf_X4_onWay, zf_X1_faultKind, zf_X1_faultPlace, zf_X7_size, zf_X7_rights, zf_X2_size, zf_X5_cutCount, zf_X11_in, zf_X11_isCorner, jrun_u, jstep, zno164e, zout, or_self, ga9, ya9, zf_X0_size, zf_X0_pairAt, zf_X0_sharedWithNext, ↓if_pos, ↓if_neg, if_pos, if_neg, Option.bind_some, Bool.true_eq_false, ↓reduceIte]
    first | exact ⟨_, _, rfl, rfl, rfl⟩ | done
  · have ga9 : zf_X0_gather 16 0 0 4 1 1 0 = some (0, 0) := rfl
    have ya9 : zf_X11_cross 4 2 4 1 0 0xffffffff00000001ffffffff000000000000000000000000000000000000000000000000ffffffff00000000ffffffff0000000000000000000000000000000000000000000000000000000000000001ffffffff00000000ffffffff000000000000000000000000000000000000000000000000ffffffff00000000ffffffff00000000 0x100000000 0x300000002 0 0 1 0 = some (2, 4, 0, 0xffffffff00000001ffffffff000000000000000000000000000000000000000000000000ffffffff00000000ffffffff0000000000000000000000000000000000000000000000000000000000000001ffffffff00000000ffffffff000000000000000000000000000000000000000000000000ffffffff00000000ffffffff00000000, 0x100000000, 0x300000002, 0, 0) := rfl
    by_cases k0 : k < 0
    · simp (disch := omega) only [zf_X10_side, zf_X11_side, zg_X11_side, zg_X11_side_0, zf_X10_areCorners, zf_X5_hasCorner, zf_X10_isStep, zf_X10_isValue, zf_X7_canTell, zf_X7_wasSeenBefore, zf_X7_has, zf_X2_hasPlace, zf_X8_size, zf_X8_shorten, zf_X5_corners, zf_X5_hasCut, zf_X4_onWay, zf_X1_faultKind, zf_X1_faultPlace, zf_X7_size, zf_X7_rights, zf_X2_size, zf_X5_cutCount, zf_X11_in, zf_X11_isCorner, jrun_u, jstep, zno164e, zout, or_self, ga9, ya9, zf_X0_size, zf_X0_pairAt, zf_X0_sharedWithNext, ↓if_pos, ↓if_neg, if_pos, if_neg, Option.bind_some, Bool.true_eq_false, ↓reduceIte]
      first | exact ⟨_, _, rfl, rfl, rfl⟩ | done
    simp (disch := omega) only [zf_X10_side, zf_X11_side, zg_X11_side, zg_X11_side_0, zf_X10_areCorners, zf_X5_hasCorner, zf_X10_isStep, zf_X10_isValue, zf_X7_canTell, zf_X7_wasSeenBefore, zf_X7_has, zf_X2_hasPlace, zf_X8_size, zf_X8_shorten, zf_X5_corners, zf_X5_hasCut, zf_X4_onWay, zf_X1_faultKind, zf_X1_faultPlace, zf_X7_size, zf_X7_rights, zf_X2_size, zf_X5_cutCount, zf_X11_in, zf_X11_isCorner, jrun_u, jstep, zno164e, zout, or_self, ga9, ya9, zf_X0_size, zf_X0_pairAt, zf_X0_sharedWithNext, ↓if_pos, ↓if_neg, if_pos, if_neg, Option.bind_some, Bool.true_eq_false, ↓reduceIte]
    first | exact ⟨_, _, rfl, rfl, rfl⟩ | done
  · simp (disch := omega) only [zf_X10_side, zf_X11_side, zg_X11_side, zg_X11_side_0, zf_X10_areCorners, zf_X5_hasCorner, zf_X10_isStep, zf_X10_isValue, zf_X7_canTell, zf_X7_wasSeenBefore, zf_X7_has, zf_X2_hasPlace, zf_X8_size, zf_X8_shorten, zf_X5_corners, zf_X5_hasCut, zf_X4_onWay, zf_X1_faultKind, zf_X1_faultPlace, zf_X7_size, zf_X7_rights, zf_X2_size, zf_X5_cutCount, zf_X11_in, zf_X11_isCorner, jrun_u, jstep, zno164e, zout, or_self, ↓if_pos, ↓if_neg, if_pos, if_neg, Option.bind_some, Bool.true_eq_false, ↓reduceIte]
    first | exact ⟨_, _, rfl, rfl, rfl⟩ | done
  · have ga9 : zf_X0_gather 16 0 0 4 1 1 2 = some (0, 0) := rfl
    have ya9 : zf_X11_cross 4 2 4 1 0 0xffffffff00000001ffffffff000000000000000000000000000000000000000000000000ffffffff00000000ffffffff0000000000000000000000000000000000000000000000000000000000000001ffffffff00000000ffffffff000000000000000000000000000000000000000000000000ffffffff00000000ffffffff00000000 0x100000000 0x300000002 0 0 1 2 = some (2, 4, 0, 0xffffffff00000001ffffffff000000000000000000000000000000000000000000000000ffffffff00000000ffffffff0000000000000000000000000000000000000000000000000000000000000001ffffffff00000000ffffffff000000000000000000000000000000000000000000000000ffffffff00000000ffffffff00000000, 0x100000000, 0x300000002, 0, 0) := rfl
    by_cases k0 : k < 0
    · simp (disch := omega) only [zf_X10_side, zf_X11_side, zg_X11_side, zg_X11_side_0, zf_X10_areCorners, zf_X5_hasCorner, zf_X10_isStep, zf_X10_isValue, zf_X7_canTell, zf_X7_wasSeenBefore, zf_X7_has, zf_X2_hasPlace, zf_X8_size, zf_X8_shorten, zf_X5_corners, zf_X5_hasCut, zf_X4_onWay, zf_X1_faultKind, zf_X1_faultPlace, zf_X7_size, zf_X7_rights, zf_X2_size, zf_X5_cutCount, zf_X11_in, zf_X11_isCorner, jrun_u, jstep, zno164e, zout, or_self, ga9, ya9, zf_X0_size, zf_X0_pairAt, zf_X0_sharedWithNext, ↓if_pos, ↓if_neg, if_pos, if_neg, Option.bind_some, Bool.true_eq_false, ↓reduceIte]
      first | exact ⟨_, _, rfl, rfl, rfl⟩ | done
    simp (disch := omega) only [zf_X10_side, zf_X11_side, zg_X11_side, zg_X11_side_0, zf_X10_areCorners, zf_X5_hasCorner, zf_X10_isStep, zf_X10_isValue, zf_X7_canTell, zf_X7_wasSeenBefore, zf_X7_has, zf_X2_hasPlace, zf_X8_size, zf_X8_shorten, zf_X5_corners, zf_X5_hasCut, zf_X4_onWay, zf_X1_faultKind, zf_X1_faultPlace, zf_X7_size, zf_X7_rights, zf_X2_size, zf_X5_cutCount, zf_X11_in, zf_X11_isCorner, jrun_u, jstep, zno164e, zout, or_self, ga9, ya9, zf_X0_size, zf_X0_pairAt, zf_X0_sharedWithNext, ↓if_pos, ↓if_neg, if_pos, if_neg, Option.bind_some, Bool.true_eq_false, ↓reduceIte]
    first | exact ⟨_, _, rfl, rfl, rfl⟩ | done
  · have ga9 : zf_X0_gather 16 0 0 4 1 1 3 = some (1, 0) := rfl
    have ya9 : zf_X11_cross 4 2 4 1 0 0xffffffff00000001ffffffff000000000000000000000000000000000000000000000000ffffffff00000000ffffffff0000000000000000000000000000000000000000000000000000000000000001ffffffff00000000ffffffff000000000000000000000000000000000000000000000000ffffffff00000000ffffffff00000000 0x100000000 0x300000002 0 0 1 3 = some (2, 4, 1, 0xffffffff00000001ffffffff000000000000000000000000000000000000000000000000ffffffff00000000ffffffff0000000000000000000000000000000000000000000000000000000000000001ffffffff00000000ffffffff000000000000000000000000000000000000000000000000ffffffff00000000ffffffff00000000, 0x100000000, 0x300000002, 0, 2) := rfl
    by_cases k0 : k < 0
    · simp (disch := omega) only [zf_X10_side, zf_X11_side, zg_X11_side, zg_X11_side_0, zf_X10_areCorners, zf_X5_hasCorner, zf_X10_isStep, zf_X10_isValue, zf_X7_canTell, zf_X7_wasSeenBefore, zf_X7_has, zf_X2_hasPlace, zf_X8_size, zf_X8_shorten, zf_X5_corners, zf_X5_hasCut, zf_X4_onWay, zf_X1_faultKind, zf_X1_faultPlace, zf_X7_size, zf_X7_rights, zf_X2_size, zf_X5_cutCount, zf_X11_in, zf_X11_isCorner, jrun_u, jstep, zno164e, zout, or_self, ga9, ya9, zf_X0_size, zf_X0_pairAt, zf_X0_sharedWithNext, ↓if_pos, ↓if_neg, if_pos, if_neg, Option.bind_some, Bool.true_eq_false, ↓reduceIte]
      first | exact ⟨_, _, rfl, rfl, rfl⟩ | done
    simp (disch := omega) only [zf_X10_side, zf_X11_side, zg_X11_side, zg_X11_side_0, zf_X10_areCorners, zf_X5_hasCorner, zf_X10_isStep, zf_X10_isValue, zf_X7_canTell, zf_X7_wasSeenBefore, zf_X7_has, zf_X2_hasPlace, zf_X8_size, zf_X8_shorten, zf_X5_corners, zf_X5_hasCut, zf_X4_onWay, zf_X1_faultKind, zf_X1_faultPlace, zf_X7_size, zf_X7_rights, zf_X2_size, zf_X5_cutCount, zf_X11_in, zf_X11_isCorner, jrun_u, jstep, zno164e, zout, or_self, ga9, ya9, zf_X0_size, zf_X0_pairAt, zf_X0_sharedWithNext, ↓if_pos, ↓if_neg, if_pos, if_neg, Option.bind_some, Bool.true_eq_false, ↓reduceIte]
    first | exact ⟨_, _, rfl, rfl, rfl⟩ | done
  · have ga9 : zf_X0_gather 16 0 0 4 1 2 0 = some (0, 0) := rfl
    have ya9 : zf_X11_cross 4 2 4 1 0 0xffffffff00000001ffffffff000000000000000000000000000000000000000000000000ffffffff00000000ffffffff0000000000000000000000000000000000000000000000000000000000000001ffffffff00000000ffffffff000000000000000000000000000000000000000000000000ffffffff00000000ffffffff00000000 0x100000000 0x300000002 0 0 2 0 = some (2, 4, 0, 0xffffffff00000001ffffffff000000000000000000000000000000000000000000000000ffffffff00000000ffffffff0000000000000000000000000000000000000000000000000000000000000001ffffffff00000000ffffffff000000000000000000000000000000000000000000000000ffffffff00000000ffffffff00000000, 0x100000000, 0x300000002, 0, 0) := rfl
    by_cases k0 : k < 0
    · simp (disch := omega) only [zf_X10_side, zf_X11_side, zg_X11_side, zg_X11_side_0, zf_X10_areCorners, zf_X5_hasCorner, zf_X10_isStep, zf_X10_isValue, zf_X7_canTell, zf_X7_wasSeenBefore, zf_X7_has, zf_X2_hasPlace, zf_X8_size, zf_X8_shorten, zf_X5_corners, zf_X5_hasCut, zf_X4_onWay, zf_X1_faultKind, zf_X1_faultPlace, zf_X7_size, zf_X7_rights, zf_X2_size, zf_X5_cutCount, zf_X11_in, zf_X11_isCorner, jrun_u, jstep, zno164e, zout, or_self, ga9, ya9, zf_X0_size, zf_X0_pairAt, zf_X0_sharedWithNext, ↓if_pos, ↓if_neg, if_pos, if_neg, Option.bind_some, Bool.true_eq_false, ↓reduceIte]
      first | exact ⟨_, _, rfl, rfl, rfl⟩ | done
    simp (disch := omega) only [zf_X10_side, zf_X11_side, zg_X11_side, zg_X11_side_0, zf_X10_areCorners, zf_X5_hasCorner, zf_X10_isStep, zf_X10_isValue, zf_X7_canTell, zf_X7_wasSeenBefore, zf_X7_has, zf_X2_hasPlace, zf_X8_size, zf_X8_shorten, zf_X5_corners, zf_X5_hasCut, zf_X4_onWay, zf_X1_faultKind, zf_X1_faultPlace, zf_X7_size, zf_X7_rights, zf_X2_size, zf_X5_cutCount, zf_X11_in, zf_X11_isCorner, jrun_u, jstep, zno164e, zout, or_self, ga9, ya9, zf_X0_size, zf_X0_pairAt, zf_X0_sharedWithNext, ↓if_pos, ↓if_neg, if_pos, if_neg, Option.bind_some, Bool.true_eq_false, ↓reduceIte]
    first | exact ⟨_, _, rfl, rfl, rfl⟩ | done
  · have ga9 : zf_X0_gather 16 0 0 4 1 2 1 = some (0, 0) := rfl
    have ya9 : zf_X11_cross 4 2 4 1 0 0xffffffff00000001ffffffff000000000000000000000000000000000000000000000000ffffffff00000000ffffffff0000000000000000000000000000000000000000000000000000000000000001ffffffff00000000ffffffff000000000000000000000000000000000000000000000000ffffffff00000000ffffffff00000000 0x100000000 0x300000002 0 0 2 1 = some (2, 4, 0, 0xffffffff00000001ffffffff000000000000000000000000000000000000000000000000ffffffff00000000ffffffff0000000000000000000000000000000000000000000000000000000000000001ffffffff00000000ffffffff000000000000000000000000000000000000000000000000ffffffff00000000ffffffff00000000, 0x100000000, 0x300000002, 0, 0) := rfl
    by_cases k0 : k < 0
    · simp (disch := omega) only [zf_X10_side, zf_X11_side, zg_X11_side, zg_X11_side_0, zf_X10_areCorners, zf_X5_hasCorner, zf_X10_isStep, zf_X10_isValue, zf_X7_canTell, zf_X7_wasSeenBefore, zf_X7_has, zf_X2_hasPlace, zf_X8_size, zf_X8_shorten, zf_X5_corners, zf_X5_hasCut, zf_X4_onWay, zf_X1_faultKind, zf_X1_faultPlace, zf_X7_size, zf_X7_rights, zf_X2_size, zf_X5_cutCount, zf_X11_in, zf_X11_isCorner, jrun_u, jstep, zno164e, zout, or_self, ga9, ya9, zf_X0_size, zf_X0_pairAt, zf_X0_sharedWithNext, ↓if_pos, ↓if_neg, if_pos, if_neg, Option.bind_some, Bool.true_eq_false, ↓reduceIte]
      first | exact ⟨_, _, rfl, rfl, rfl⟩ | done
    simp (disch := omega) only [zf_X10_side, zf_X11_side, zg_X11_side, zg_X11_side_0, zf_X10_areCorners, zf_X5_hasCorner, zf_X10_isStep, zf_X10_isValue, zf_X7_canTell, zf_X7_wasSeenBefore, zf_X7_has, zf_X2_hasPlace, zf_X8_size, zf_X8_shorten, zf_X5_corners, zf_X5_hasCut, zf_X4_onWay, zf_X1_faultKind, zf_X1_faultPlace, zf_X7_size, zf_X7_rights, zf_X2_size, zf_X5_cutCount, zf_X11_in, zf_X11_isCorner, jrun_u, jstep, zno164e, zout, or_self, ga9, ya9, zf_X0_size, zf_X0_pairAt, zf_X0_sharedWithNext, ↓if_pos, ↓if_neg, if_pos, if_neg, Option.bind_some, Bool.true_eq_false, ↓reduceIte]
    first | exact ⟨_, _, rfl, rfl, rfl⟩ | done
  · simp (disch := omega) only [zf_X10_side, zf_X11_side, zg_X11_side, zg_X11_side_0, zf_X10_areCorners, zf_X5_hasCorner, zf_X10_isStep, zf_X10_isValue, zf_X7_canTell, zf_X7_wasSeenBefore, zf_X7_has, zf_X2_hasPlace, zf_X8_size, zf_X8_shorten, zf_X5_corners, zf_X5_hasCut, zf_X4_onWay, zf_X1_faultKind, zf_X1_faultPlace, zf_X7_size, zf_X7_rights, zf_X2_size, zf_X5_cutCount, zf_X11_in, zf_X11_isCorner, jrun_u, jstep, zno164e, zout, or_self, ↓if_pos, ↓if_neg, if_pos, if_neg, Option.bind_some, Bool.true_eq_false, ↓reduceIte]
    first | exact ⟨_, _, rfl, rfl, rfl⟩ | done
  · have ga9 : zf_X0_gather 16 0 0 4 1 2 3 = some (0, 0) := rfl
    have ya9 : zf_X11_cross 4 2 4 1 0 0xffffffff00000001ffffffff000000000000000000000000000000000000000000000000ffffffff00000000ffffffff0000000000000000000000000000000000000000000000000000000000000001ffffffff00000000ffffffff000000000000000000000000000000000000000000000000ffffffff00000000ffffffff00000000 0x100000000 0x300000002 0 0 2 3 = some (2, 4, 0, 0xffffffff00000001ffffffff000000000000000000000000000000000000000000000000ffffffff00000000ffffffff0000000000000000000000000000000000000000000000000000000000000001ffffffff00000000ffffffff000000000000000000000000000000000000000000000000ffffffff00000000ffffffff00000000, 0x100000000, 0x300000002, 0, 0) := rfl
    by_cases k0 : k < 0
    · simp (disch := omega) only [zf_X10_side, zf_X11_side, zg_X11_side, zg_X11_side_0, zf_X10_areCorners, zf_X5_hasCorner, zf_X10_isStep, zf_X10_isValue, zf_X7_canTell, zf_X7_wasSeenBefore, zf_X7_has, zf_X2_hasPlace, zf_X8_size, zf_X8_shorten, zf_X5_corners, zf_X5_hasCut, zf_X4_onWay, zf_X1_faultKind, zf_X1_faultPlace, zf_X7_size, zf_X7_rights, zf_X2_size, zf_X5_cutCount, zf_X11_in, zf_X11_isCorner, jrun_u, jstep, zno164e, zout, or_self, ga9, ya9, zf_X0_size, zf_X0_pairAt, zf_X0_sharedWithNext, ↓if_pos, ↓if_neg, if_pos, if_neg, Option.bind_some, Bool.true_eq_false, ↓reduceIte]
      first | exact ⟨_, _, rfl, rfl, rfl⟩ | done
    simp (disch := omega) only [zf_X10_side, zf_X11_side, zg_X11_side, zg_X11_side_0, zf_X10_areCorners, zf_X5_hasCorner, zf_X10_isStep, zf_X10_isValue, zf_X7_canTell, zf_X7_wasSeenBefore, zf_X7_has, zf_X2_hasPlace, zf_X8_size, zf_X8_shorten, zf_X5_corners, zf_X5_hasCut, zf_X4_onWay, zf_X1_faultKind, zf_X1_faultPlace, zf_X7_size, zf_X7_rights, zf_X2_size, zf_X5_cutCount, zf_X11_in, zf_X11_isCorner, jrun_u, jstep, zno164e, zout, or_self, ga9, ya9, zf_X0_size, zf_X0_pairAt, zf_X0_sharedWithNext, ↓if_pos, ↓if_neg, if_pos, if_neg, Option.bind_some, Bool.true_eq_false, ↓reduceIte]
    first | exact ⟨_, _, rfl, rfl, rfl⟩ | done
  · have ga9 : zf_X0_gather 16 0 0 4 1 3 0 = some (0, 0) := rfl
    have ya9 : zf_X11_cross 4 2 4 1 0 0xffffffff00000001ffffffff000000000000000000000000000000000000000000000000ffffffff00000000ffffffff0000000000000000000000000000000000000000000000000000000000000001ffffffff00000000ffffffff000000000000000000000000000000000000000000000000ffffffff00000000ffffffff00000000 0x100000000 0x300000002 0 0 3 0 = some (2, 4, 0, 0xffffffff00000001ffffffff000000000000000000000000000000000000000000000000ffffffff00000000ffffffff0000000000000000000000000000000000000000000000000000000000000001ffffffff00000000ffffffff000000000000000000000000000000000000000000000000ffffffff00000000ffffffff00000000, 0x100000000, 0x300000002, 0, 0) := rfl
    by_cases k0 : k < 0
    · simp (disch := omega) only [zf_X10_side, zf_X11_side, zg_X11_side, zg_X11_side_0, zf_X10_areCorners, zf_X5_hasCorner, zf_X10_isStep, zf_X10_isValue, zf_X7_canTell, zf_X7_wasSeenBefore, zf_X7_has, zf_X2_hasPlace, zf_X8_size, zf_X8_shorten, zf_X5_corners, zf_X5_hasCut, zf_X4_onWay, zf_X1_faultKind, zf_X1_faultPlace, zf_X7_size, zf_X7_rights, zf_X2_size, zf_X5_cutCount, zf_X11_in, zf_X11_isCorner, jrun_u, jstep, zno164e, zout, or_self, ga9, ya9, zf_X0_size, zf_X0_pairAt, zf_X0_sharedWithNext, ↓if_pos, ↓if_neg, if_pos, if_neg, Option.bind_some, Bool.true_eq_false, ↓reduceIte]
      first | exact ⟨_, _, rfl, rfl, rfl⟩ | done
    simp (disch := omega) only [zf_X10_side, zf_X11_side, zg_X11_side, zg_X11_side_0, zf_X10_areCorners, zf_X5_hasCorner, zf_X10_isStep, zf_X10_isValue, zf_X7_canTell, zf_X7_wasSeenBefore, zf_X7_has, zf_X2_hasPlace, zf_X8_size, zf_X8_shorten, zf_X5_corners, zf_X5_hasCut, zf_X4_onWay, zf_X1_faultKind, zf_X1_faultPlace, zf_X7_size, zf_X7_rights, zf_X2_size, zf_X5_cutCount, zf_X11_in, zf_X11_isCorner, jrun_u, jstep, zno164e, zout, or_self, ga9, ya9, zf_X0_size, zf_X0_pairAt, zf_X0_sharedWithNext, ↓if_pos, ↓if_neg, if_pos, if_neg, Option.bind_some, Bool.true_eq_false, ↓reduceIte]
    first | exact ⟨_, _, rfl, rfl, rfl⟩ | done
  · have ga9 : zf_X0_gather 16 0 0 4 1 3 1 = some (1, 0) := rfl
    have ya9 : zf_X11_cross 4 2 4 1 0 0xffffffff00000001ffffffff000000000000000000000000000000000000000000000000ffffffff00000000ffffffff0000000000000000000000000000000000000000000000000000000000000001ffffffff00000000ffffffff000000000000000000000000000000000000000000000000ffffffff00000000ffffffff00000000 0x100000000 0x300000002 0 0 3 1 = some (2, 4, 1, 0xffffffff00000001ffffffff000000000000000000000000000000000000000000000000ffffffff00000000ffffffff0000000000000000000000000000000000000000000000000000000000000001ffffffff00000000ffffffff000000000000000000000000000000000000000000000000ffffffff00000000ffffffff00000000, 0x100000000, 0x300000002, 0, 2) := rfl
    by_cases k0 : k < 0
    · simp (disch := omega) only [zf_X10_side, zf_X11_side, zg_X11_side, zg_X11_side_0, zf_X10_areCorners, zf_X5_hasCorner, zf_X10_isStep, zf_X10_isValue, zf_X7_canTell, zf_X7_wasSeenBefore, zf_X7_has, zf_X2_hasPlace, zf_X8_size, zf_X8_shorten, zf_X5_corners, zf_X5_hasCut, zf_X4_onWay, zf_X1_faultKind, zf_X1_faultPlace, zf_X7_size, zf_X7_rights, zf_X2_size, zf_X5_cutCount, zf_X11_in, zf_X11_isCorner, jrun_u, jstep, zno164e, zout, or_self, ga9, ya9, zf_X0_size, zf_X0_pairAt, zf_X0_sharedWithNext, ↓if_pos, ↓if_neg, if_pos, if_neg, Option.bind_some, Bool.true_eq_false, ↓reduceIte]
      first | exact ⟨_, _, rfl, rfl, rfl⟩ | done
    simp (disch := omega) only [zf_X10_side, zf_X11_side, zg_X11_side, zg_X11_side_0, zf_X10_areCorners, zf_X5_hasCorner, zf_X10_isStep, zf_X10_isValue, zf_X7_canTell, zf_X7_wasSeenBefore, zf_X7_has, zf_X2_hasPlace, zf_X8_size, zf_X8_shorten, zf_X5_corners, zf_X5_hasCut, zf_X4_onWay, zf_X1_faultKind, zf_X1_faultPlace, zf_X7_size, zf_X7_rights, zf_X2_size, zf_X5_cutCount, zf_X11_in, zf_X11_isCorner, jrun_u, jstep, zno164e, zout, or_self, ga9, ya9, zf_X0_size, zf_X0_pairAt, zf_X0_sharedWithNext, ↓if_pos, ↓if_neg, if_pos, if_neg, Option.bind_some, Bool.true_eq_false, ↓reduceIte]
    first | exact ⟨_, _, rfl, rfl, rfl⟩ | done
  · have ga9 : zf_X0_gather 16 0 0 4 1 3 2 = some (0, 0) := rfl
    have ya9 : zf_X11_cross 4 2 4 1 0 0xffffffff00000001ffffffff000000000000000000000000000000000000000000000000ffffffff00000000ffffffff0000000000000000000000000000000000000000000000000000000000000001ffffffff00000000ffffffff000000000000000000000000000000000000000000000000ffffffff00000000ffffffff00000000 0x100000000 0x300000002 0 0 3 2 = some (2, 4, 0, 0xffffffff00000001ffffffff000000000000000000000000000000000000000000000000ffffffff00000000ffffffff0000000000000000000000000000000000000000000000000000000000000001ffffffff00000000ffffffff000000000000000000000000000000000000000000000000ffffffff00000000ffffffff00000000, 0x100000000, 0x300000002, 0, 0) := rfl
    by_cases k0 : k < 0
    · simp (disch := omega) only [zf_X10_side, zf_X11_side, zg_X11_side, zg_X11_side_0, zf_X10_areCorners, zf_X5_hasCorner, zf_X10_isStep, zf_X10_isValue, zf_X7_canTell, zf_X7_wasSeenBefore, zf_X7_has, zf_X2_hasPlace, zf_X8_size, zf_X8_shorten, zf_X5_corners, zf_X5_hasCut, zf_X4_onWay, zf_X1_faultKind, zf_X1_faultPlace, zf_X7_size, zf_X7_rights, zf_X2_size, zf_X5_cutCount, zf_X11_in, zf_X11_isCorner, jrun_u, jstep, zno164e, zout, or_self, ga9, ya9, zf_X0_size, zf_X0_pairAt, zf_X0_sharedWithNext, ↓if_pos, ↓if_neg, if_pos, if_neg, Option.bind_some, Bool.true_eq_false, ↓reduceIte]
      first | exact ⟨_, _, rfl, rfl, rfl⟩ | done
    simp (disch := omega) only [zf_X10_side, zf_X11_side, zg_X11_side, zg_X11_side_0, zf_X10_areCorners, zf_X5_hasCorner, zf_X10_isStep, zf_X10_isValue, zf_X7_canTell, zf_X7_wasSeenBefore, zf_X7_has, zf_X2_hasPlace, zf_X8_size, zf_X8_shorten, zf_X5_corners, zf_X5_hasCut, zf_X4_onWay, zf_X1_faultKind, zf_X1_faultPlace, zf_X7_size, zf_X7_rights, zf_X2_size, zf_X5_cutCount, zf_X11_in, zf_X11_isCorner, jrun_u, jstep, zno164e, zout, or_self, ga9, ya9, zf_X0_size, zf_X0_pairAt, zf_X0_sharedWithNext, ↓if_pos, ↓if_neg, if_pos, if_neg, Option.bind_some, Bool.true_eq_false, ↓reduceIte]
    first | exact ⟨_, _, rfl, rfl, rfl⟩ | done
  · simp (disch := omega) only [zf_X10_side, zf_X11_side, zg_X11_side, zg_X11_side_0, zf_X10_areCorners, zf_X5_hasCorner, zf_X10_isStep, zf_X10_isValue, zf_X7_canTell, zf_X7_wasSeenBefore, zf_X7_has, zf_X2_hasPlace, zf_X8_size, zf_X8_shorten, zf_X5_corners, zf_X5_hasCut, zf_X4_onWay, zf_X1_faultKind, zf_X1_faultPlace, zf_X7_size, zf_X7_rights, zf_X2_size, zf_X5_cutCount, zf_X11_in, zf_X11_isCorner, jrun_u, jstep, zno164e, zout, or_self, ↓if_pos, ↓if_neg, if_pos, if_neg, Option.bind_some, Bool.true_eq_false, ↓reduceIte]
    first | exact ⟨_, _, rfl, rfl, rfl⟩ | done
