theorem jrun_u {S O : Type} (g : S → Option (O ⊕ S)) (s : S) : jrun g jfuel s = jstep (jrun g 999999999) (g s) := rfl
theorem zno164 : ¬ zno 16 4 := by decide
abbrev Rg (i : Int) (n : Int) : Prop := 0 ≤ i ∧ i ≤ n
theorem hasC {i : Int} (z : ¬ zout i) : zf_X5_hasCorner 4 i = some (decide (Rg i 3)) := by
  unfold zf_X5_hasCorner
  rw [if_neg z]
  by_cases h : i < 0
  · rw [if_pos h, decide_eq_false (by unfold Rg; omega)]
  · rw [if_neg h, if_neg (by decide)]
    by_cases q : ((4 : Nat) : Int) ≤ i
    · rw [if_pos q, decide_eq_false (by unfold Rg; omega)]
    · rw [if_neg q, decide_eq_true (by unfold Rg; omega)]
theorem areC {i j : Int} (zi : ¬ zout i) (zj : ¬ zout j) : zf_X10_areCorners 16 4 i j = some (decide (Rg i 3) && decide (Rg j 3)) := by
  unfold zf_X10_areCorners
  rw [if_neg zno164, hasC zi, hasC zj]
  simp only [Option.bind_some]
  by_cases h : Rg i 3 <;> by_cases q : Rg j 3 <;> simp [h, q]
theorem y_in {v lo hi : Int} (zv : ¬ zout v) (zl : ¬ zout lo) (zh : ¬ zout hi) : zf_X11_in v lo hi = some (decide (lo ≤ v ∧ v ≤ hi)) := by
  unfold zf_X11_in
  rw [if_neg zv, if_neg zl]
  by_cases h : v < lo
  · rw [if_pos h, decide_eq_false (by omega)]
  · rw [if_neg h, if_neg zh]
    by_cases q : hi < v
    · rw [if_pos q, decide_eq_false (by omega)]
    · rw [if_neg q, decide_eq_true (by omega)]
theorem yC {i : Int} (z : ¬ zout i) : zf_X11_isCorner 4 i = some (decide (Rg i 3)) := by
  unfold zf_X11_isCorner
  rw [y_in z (by decide) (by decide)]
  rfl
theorem x_step {i : Int} (z : ¬ zout i) : zf_X10_isStep i = some (decide (Rg i 999)) := by
  unfold zf_X10_isStep
  rw [if_neg z]
  by_cases h : i < 0
  · rw [if_pos h, decide_eq_false (by unfold Rg; omega)]
  · rw [if_neg h]
    by_cases q : (999 : Int) < i
    · rw [if_pos q, decide_eq_false (by unfold Rg; omega)]
    · rw [if_neg q, decide_eq_true (by unfold Rg; omega)]
theorem x_val {i : Int} (z : ¬ zout i) : zf_X10_isValue i = some (decide (Rg i 9999)) := by
  unfold zf_X10_isValue
  rw [if_neg z]
  by_cases h : i < 0
  · rw [if_pos h, decide_eq_false (by unfold Rg; omega)]
  · rw [if_neg h]
    by_cases q : (9999 : Int) < i
    · rw [if_pos q, decide_eq_false (by unfold Rg; omega)]
    · rw [if_neg q, decide_eq_true (by unfold Rg; omega)]
theorem x_tell {i : Int} (z : ¬ zout i) : zf_X7_canTell 0 i = some (decide (Rg i 999)) := by
  unfold zf_X7_canTell
  rw [if_neg z, if_neg (by decide)]
  by_cases h : i < 0
  · rw [if_pos h, decide_eq_false (by unfold Rg; omega)]
  · rw [if_neg h]
    by_cases q : (999 : Int) < i
    · rw [if_pos q, decide_eq_false (by unfold Rg; omega)]
    · rw [if_neg q, decide_eq_true (by unfold Rg; omega)]
theorem x_place {i : Int} (z : ¬ zout i) : zf_X2_hasPlace 1 i = some (decide (Rg i 0)) := by
  unfold zf_X2_hasPlace
  rw [if_neg z]
  by_cases h : i < 0
  · rw [if_pos h, decide_eq_false (by unfold Rg; omega)]
  · rw [if_neg h, if_neg (by decide)]
    by_cases q : (1 : Int) ≤ i
    · rw [if_pos q, decide_eq_false (by unfold Rg; omega)]
    · rw [if_neg q, decide_eq_true (by unfold Rg; omega)]
set_option maxRecDepth 20000 in
theorem ev_1 (i : Int) (zi : ¬ zout i) : ∃ o1 o2, zf_X10_end 16 0 i = some o1 ∧ zf_X11_end 0 i = some o2 ∧ (o1.1) = (o2.1) := by
  unfold zout at *
  by_cases cib : i < 0
  · simp (disch := omega) only [zf_X10_end, zf_X11_end, zf_X10_areCorners, zf_X5_hasCorner, zf_X10_isStep, zf_X10_isValue, zf_X7_canTell, zf_X7_wasSeenBefore, zf_X7_has, zf_X2_hasPlace, zf_X8_size, zf_X8_shorten, zf_X5_corners, zf_X5_hasCut, zf_X4_onWay, zf_X1_faultKind, zf_X1_faultPlace, zf_X7_size, zf_X7_rights, zf_X2_size, zf_X5_cutCount, zf_X11_in, zf_X11_isCorner, jrun_u, jstep, ↓if_pos, ↓if_neg, Option.bind_some, Bool.true_eq_false, ↓reduceIte]
    first | exact ⟨_, _, rfl, rfl, rfl⟩ | done
  by_cases cia : 0 < i
  · simp (disch := omega) only [zf_X10_end, zf_X11_end, zf_X10_areCorners, zf_X5_hasCorner, zf_X10_isStep, zf_X10_isValue, zf_X7_canTell, zf_X7_wasSeenBefore, zf_X7_has, zf_X2_hasPlace, zf_X8_size, zf_X8_shorten, zf_X5_corners, zf_X5_hasCut, zf_X4_onWay, zf_X1_faultKind, zf_X1_faultPlace, zf_X7_size, zf_X7_rights, zf_X2_size, zf_X5_cutCount, zf_X11_in, zf_X11_isCorner, jrun_u, jstep, ↓if_pos, ↓if_neg, Option.bind_some, Bool.true_eq_false, ↓reduceIte]
    first | exact ⟨_, _, rfl, rfl, rfl⟩ | done
  have hi9 : i = 0 := by omega
  rcases hi9 with rfl <;> exact ⟨_, _, rfl, rfl, rfl⟩
set_option maxRecDepth 20000 in
theorem ev_3 (i : Int) (zi : ¬ zout i) : ∃ o1 o2, zf_X10_fault 16 0 (-1) i = some o1 ∧ zf_X11_fault 0 (-1) i = some o2 ∧ o1 = o2 := by
  unfold zout at *
  by_cases cib : i < 0
  · simp (disch := omega) only [zf_X10_fault, zf_X11_fault, zf_X10_areCorners, zf_X5_hasCorner, zf_X10_isStep, zf_X10_isValue, zf_X7_canTell, zf_X7_wasSeenBefore, zf_X7_has, zf_X2_hasPlace, zf_X8_size, zf_X8_shorten, zf_X5_corners, zf_X5_hasCut, zf_X4_onWay, zf_X1_faultKind, zf_X1_faultPlace, zf_X7_size, zf_X7_rights, zf_X2_size, zf_X5_cutCount, zf_X11_in, zf_X11_isCorner, jrun_u, jstep, ↓if_pos, ↓if_neg, Option.bind_some, Bool.true_eq_false, ↓reduceIte]
    first | exact ⟨_, _, rfl, rfl, rfl⟩ | done
  by_cases cia : 1 < i
  · simp (disch := omega) only [zf_X10_fault, zf_X11_fault, zf_X10_areCorners, zf_X5_hasCorner, zf_X10_isStep, zf_X10_isValue, zf_X7_canTell, zf_X7_wasSeenBefore, zf_X7_has, zf_X2_hasPlace, zf_X8_size, zf_X8_shorten, zf_X5_corners, zf_X5_hasCut, zf_X4_onWay, zf_X1_faultKind, zf_X1_faultPlace, zf_X7_size, zf_X7_rights, zf_X2_size, zf_X5_cutCount, zf_X11_in, zf_X11_isCorner, jrun_u, jstep, ↓if_pos, ↓if_neg, Option.bind_some, Bool.true_eq_false, ↓reduceIte]
    first | exact ⟨_, _, rfl, rfl, rfl⟩ | done
  have hi9 : i = 0 ∨ i = 1 := by omega
  rcases hi9 with rfl | rfl <;> exact ⟨_, _, rfl, rfl, rfl⟩
set_option maxRecDepth 20000 in
theorem ev_5 (i : Int) (zi : ¬ zout i) : ∃ o1 o2, zf_X10_told 16 4 1 1 i = some o1 ∧ zf_X11_told 4 2 4 2 4 1 1 0xffffffff00000001ffffffff000000000000000000000000000000000000000000000000ffffffff00000000ffffffff0000000000000000000000000000000000000000000000000000000000000001ffffffff00000000ffffffff000000000000000000000000000000000000000000000000ffffffff00000000ffffffff00000000 0x100000000 0x300000002 0x20000000000000001 i = some o2 ∧ o1 = (o2.1) := by
  unfold zout at *
  by_cases cib : i < 0
  · simp (disch := omega) only [zf_X10_told, zf_X11_told, zf_X10_areCorners, zf_X5_hasCorner, zf_X10_isStep, zf_X10_isValue, zf_X7_canTell, zf_X7_wasSeenBefore, zf_X7_has, zf_X2_hasPlace, zf_X8_size, zf_X8_shorten, zf_X5_corners, zf_X5_hasCut, zf_X4_onWay, zf_X1_faultKind, zf_X1_faultPlace, zf_X7_size, zf_X7_rights, zf_X2_size, zf_X5_cutCount, zf_X11_in, zf_X11_isCorner, jrun_u, jstep, ↓if_pos, ↓if_neg, Option.bind_some, Bool.true_eq_false, ↓reduceIte]
    first | exact ⟨_, _, rfl, rfl, rfl⟩ | done
  by_cases cia : 3 < i
  · simp (disch := omega) only [zf_X10_told, zf_X11_told, zf_X10_areCorners, zf_X5_hasCorner, zf_X10_isStep, zf_X10_isValue, zf_X7_canTell, zf_X7_wasSeenBefore, zf_X7_has, zf_X2_hasPlace, zf_X8_size, zf_X8_shorten, zf_X5_corners, zf_X5_hasCut, zf_X4_onWay, zf_X1_faultKind, zf_X1_faultPlace, zf_X7_size, zf_X7_rights, zf_X2_size, zf_X5_cutCount, zf_X11_in, zf_X11_isCorner, jrun_u, jstep, ↓if_pos, ↓if_neg, Option.bind_some, Bool.true_eq_false, ↓reduceIte]
    first | exact ⟨_, _, rfl, rfl, rfl⟩ | done
  have hi9 : i = 0 ∨ i = 1 ∨ i = 2 ∨ i = 3 := by omega
  rcases hi9 with rfl | rfl | rfl | rfl <;> exact ⟨_, _, rfl, rfl, rfl⟩
set_option maxRecDepth 20000 in
theorem ev_6 (i : Int) (j : Int) (zi : ¬ zout i) (zj : ¬ zout j) : ∃ o1 o2, zf_X10_triangle 16 4 1 0 0 i j = some o1 ∧ zf_X11_triangle 4 2 4 1 0xffffffff00000001ffffffff000000000000000000000000000000000000000000000000ffffffff00000000ffffffff0000000000000000000000000000000000000000000000000000000000000001ffffffff00000000ffffffff000000000000000000000000000000000000000000000000ffffffff00000000ffffffff00000000 0x100000000 0x300000002 0 0 0 i j = some o2 ∧ (o1.1) = (o2.1) := by
  unfold zout at *
  by_cases cib : i < 0
  · simp (disch := omega) only [zf_X10_triangle, zf_X11_triangle, zf_X10_areCorners, zf_X5_hasCorner, zf_X10_isStep, zf_X10_isValue, zf_X7_canTell, zf_X7_wasSeenBefore, zf_X7_has, zf_X2_hasPlace, zf_X8_size, zf_X8_shorten, zf_X5_corners, zf_X5_hasCut, zf_X4_onWay, zf_X1_faultKind, zf_X1_faultPlace, zf_X7_size, zf_X7_rights, zf_X2_size, zf_X5_cutCount, zf_X11_in, zf_X11_isCorner, jrun_u, jstep, ↓if_pos, ↓if_neg, Option.bind_some, Bool.true_eq_false, ↓reduceIte]
    first | exact ⟨_, _, rfl, rfl, rfl⟩ | done
  by_cases cia : 1 < i
  · simp (disch := omega) only [zf_X10_triangle, zf_X11_triangle, zf_X10_areCorners, zf_X5_hasCorner, zf_X10_isStep, zf_X10_isValue, zf_X7_canTell, zf_X7_wasSeenBefore, zf_X7_has, zf_X2_hasPlace, zf_X8_size, zf_X8_shorten, zf_X5_corners, zf_X5_hasCut, zf_X4_onWay, zf_X1_faultKind, zf_X1_faultPlace, zf_X7_size, zf_X7_rights, zf_X2_size, zf_X5_cutCount, zf_X11_in, zf_X11_isCorner, jrun_u, jstep, ↓if_pos, ↓if_neg, Option.bind_some, Bool.true_eq_false, ↓reduceIte]
    first | exact ⟨_, _, rfl, rfl, rfl⟩ | done
  by_cases cjb : j < 0
  · simp (disch := omega) only [zf_X10_triangle, zf_X11_triangle, zf_X10_areCorners, zf_X5_hasCorner, zf_X10_isStep, zf_X10_isValue, zf_X7_canTell, zf_X7_wasSeenBefore, zf_X7_has, zf_X2_hasPlace, zf_X8_size, zf_X8_shorten, zf_X5_corners, zf_X5_hasCut, zf_X4_onWay, zf_X1_faultKind, zf_X1_faultPlace, zf_X7_size, zf_X7_rights, zf_X2_size, zf_X5_cutCount, zf_X11_in, zf_X11_isCorner, jrun_u, jstep, ↓if_pos, ↓if_neg, Option.bind_some, Bool.true_eq_false, ↓reduceIte]
    first | exact ⟨_, _, rfl, rfl, rfl⟩ | done
  by_cases cja : 2 < j
  · simp (disch := omega) only [zf_X10_triangle, zf_X11_triangle, zf_X10_areCorners, zf_X5_hasCorner, zf_X10_isStep, zf_X10_isValue, zf_X7_canTell, zf_X7_wasSeenBefore, zf_X7_has, zf_X2_hasPlace, zf_X8_size, zf_X8_shorten, zf_X5_corners, zf_X5_hasCut, zf_X4_onWay, zf_X1_faultKind, zf_X1_faultPlace, zf_X7_size, zf_X7_rights, zf_X2_size, zf_X5_cutCount, zf_X11_in, zf_X11_isCorner, jrun_u, jstep, ↓if_pos, ↓if_neg, Option.bind_some, Bool.true_eq_false, ↓reduceIte]
    first | exact ⟨_, _, rfl, rfl, rfl⟩ | done
  have hi9 : i = 0 ∨ i = 1 := by omega
  have hj9 : j = 0 ∨ j = 1 ∨ j = 2 := by omega
  rcases hi9 with rfl | rfl <;> rcases hj9 with rfl | rfl | rfl <;> exact ⟨_, _, rfl, rfl, rfl⟩
set_option maxRecDepth 20000 in
theorem ev_7 (i : Int) (j : Int) (zi : ¬ zout i) (zj : ¬ zout j) : ∃ o1 o2, zf_X10_entry 16 4 1 i j = some o1 ∧ zf_X11_entry 4 2 4 1 0xffffffff00000001ffffffff000000000000000000000000000000000000000000000000ffffffff00000000ffffffff0000000000000000000000000000000000000000000000000000000000000001ffffffff00000000ffffffff000000000000000000000000000000000000000000000000ffffffff00000000ffffffff00000000 0x100000000 0x300000002 0 0 0 0 i j = some o2 ∧ o1 = (o2.1) := by
  unfold zout at *
  by_cases cib : i < 0
  · simp (disch := omega) only [zf_X10_entry, zf_X11_entry, zf_X10_areCorners, zf_X5_hasCorner, zf_X10_isStep, zf_X10_isValue, zf_X7_canTell, zf_X7_wasSeenBefore, zf_X7_has, zf_X2_hasPlace, zf_X8_size, zf_X8_shorten, zf_X5_corners, zf_X5_hasCut, zf_X4_onWay, zf_X1_faultKind, zf_X1_faultPlace, zf_X7_size, zf_X7_rights, zf_X2_size, zf_X5_cutCount, zf_X11_in, zf_X11_isCorner, jrun_u, jstep, ↓if_pos, ↓if_neg, Option.bind_some, Bool.true_eq_false, ↓reduceIte]
    first | exact ⟨_, _, rfl, rfl, rfl⟩ | done
  by_cases cia : 3 < i
  · simp (disch := omega) only [zf_X10_entry, zf_X11_entry, zf_X10_areCorners, zf_X5_hasCorner, zf_X10_isStep, zf_X10_isValue, zf_X7_canTell, zf_X7_wasSeenBefore, zf_X7_has, zf_X2_hasPlace, zf_X8_size, zf_X8_shorten, zf_X5_corners, zf_X5_hasCut, zf_X4_onWay, zf_X1_faultKind, zf_X1_faultPlace, zf_X7_size, zf_X7_rights, zf_X2_size, zf_X5_cutCount, zf_X11_in, zf_X11_isCorner, jrun_u, jstep, ↓if_pos, ↓if_neg, Option.bind_some, Bool.true_eq_false, ↓reduceIte]
    first | exact ⟨_, _, rfl, rfl, rfl⟩ | done
  by_cases cjb : j < 0
  · simp (disch := omega) only [zf_X10_entry, zf_X11_entry, zf_X10_areCorners, zf_X5_hasCorner, zf_X10_isStep, zf_X10_isValue, zf_X7_canTell, zf_X7_wasSeenBefore, zf_X7_has, zf_X2_hasPlace, zf_X8_size, zf_X8_shorten, zf_X5_corners, zf_X5_hasCut, zf_X4_onWay, zf_X1_faultKind, zf_X1_faultPlace, zf_X7_size, zf_X7_rights, zf_X2_size, zf_X5_cutCount, zf_X11_in, zf_X11_isCorner, jrun_u, jstep, ↓if_pos, ↓if_neg, Option.bind_some, Bool.true_eq_false, ↓reduceIte]
    first | exact ⟨_, _, rfl, rfl, rfl⟩ | done
  by_cases cja : 3 < j
  · simp (disch := omega) only [zf_X10_entry, zf_X11_entry, zf_X10_areCorners, zf_X5_hasCorner, zf_X10_isStep, zf_X10_isValue, zf_X7_canTell, zf_X7_wasSeenBefore, zf_X7_has, zf_X2_hasPlace, zf_X8_size, zf_X8_shorten, zf_X5_corners, zf_X5_hasCut, zf_X4_onWay, zf_X1_faultKind, zf_X1_faultPlace, zf_X7_size, zf_X7_rights, zf_X2_size, zf_X5_cutCount, zf_X11_in, zf_X11_isCorner, jrun_u, jstep, ↓if_pos, ↓if_neg, Option.bind_some, Bool.true_eq_false, ↓reduceIte]
    first | exact ⟨_, _, rfl, rfl, rfl⟩ | done
  have hi9 : i = 0 ∨ i = 1 ∨ i = 2 ∨ i = 3 := by omega
  have hj9 : j = 0 ∨ j = 1 ∨ j = 2 ∨ j = 3 := by omega
  rcases hi9 with rfl | rfl | rfl | rfl <;> rcases hj9 with rfl | rfl | rfl | rfl <;> exact ⟨_, _, rfl, rfl, rfl⟩
set_option maxRecDepth 20000 in
theorem ev_8 (i : Int) (zi : ¬ zout i) : ∃ o1 o2, zf_X10_row 16 4 1 i = some o1 ∧ zf_X11_row 4 2 4 1 0xffffffff00000001ffffffff000000000000000000000000000000000000000000000000ffffffff00000000ffffffff0000000000000000000000000000000000000000000000000000000000000001ffffffff00000000ffffffff000000000000000000000000000000000000000000000000ffffffff00000000ffffffff00000000 0x100000000 0x300000002 i = some o2 ∧ o1 = (o2.1) := by
  unfold zout at *
  by_cases cib : i < 0
  · simp (disch := omega) only [zf_X10_row, zf_X11_row, zf_X10_areCorners, zf_X5_hasCorner, zf_X10_isStep, zf_X10_isValue, zf_X7_canTell, zf_X7_wasSeenBefore, zf_X7_has, zf_X2_hasPlace, zf_X8_size, zf_X8_shorten, zf_X5_corners, zf_X5_hasCut, zf_X4_onWay, zf_X1_faultKind, zf_X1_faultPlace, zf_X7_size, zf_X7_rights, zf_X2_size, zf_X5_cutCount, zf_X11_in, zf_X11_isCorner, jrun_u, jstep, ↓if_pos, ↓if_neg, Option.bind_some, Bool.true_eq_false, ↓reduceIte]
    first | exact ⟨_, _, rfl, rfl, rfl⟩ | done
  by_cases cia : 3 < i
  · simp (disch := omega) only [zf_X10_row, zf_X11_row, zf_X10_areCorners, zf_X5_hasCorner, zf_X10_isStep, zf_X10_isValue, zf_X7_canTell, zf_X7_wasSeenBefore, zf_X7_has, zf_X2_hasPlace, zf_X8_size, zf_X8_shorten, zf_X5_corners, zf_X5_hasCut, zf_X4_onWay, zf_X1_faultKind, zf_X1_faultPlace, zf_X7_size, zf_X7_rights, zf_X2_size, zf_X5_cutCount, zf_X11_in, zf_X11_isCorner, jrun_u, jstep, ↓if_pos, ↓if_neg, Option.bind_some, Bool.true_eq_false, ↓reduceIte]
    first | exact ⟨_, _, rfl, rfl, rfl⟩ | done
  have hi9 : i = 0 ∨ i = 1 ∨ i = 2 ∨ i = 3 := by omega
  rcases hi9 with rfl | rfl | rfl | rfl <;> exact ⟨_, _, rfl, rfl, rfl⟩
set_option maxRecDepth 20000 in
theorem ev_10 (i : Int) (j : Int) (zi : ¬ zout i) (zj : ¬ zout j) : ∃ o1 o2, zf_X10_flip 16 4 1 i j = some o1 ∧ zf_X11_flip 4 2 4 1 0 0 0xffffffff00000001ffffffff000000000000000000000000000000000000000000000000ffffffff00000000ffffffff0000000000000000000000000000000000000000000000000000000000000001ffffffff00000000ffffffff000000000000000000000000000000000000000000000000ffffffff00000000ffffffff00000000 0x100000000 0x300000002 i j = some o2 ∧ (o1.1) = (o2.1) := by
  unfold zout at *
  by_cases cib : i < 0
  · simp (disch := omega) only [zf_X10_flip, zf_X11_flip, zf_X10_areCorners, zf_X5_hasCorner, zf_X10_isStep, zf_X10_isValue, zf_X7_canTell, zf_X7_wasSeenBefore, zf_X7_has, zf_X2_hasPlace, zf_X8_size, zf_X8_shorten, zf_X5_corners, zf_X5_hasCut, zf_X4_onWay, zf_X1_faultKind, zf_X1_faultPlace, zf_X7_size, zf_X7_rights, zf_X2_size, zf_X5_cutCount, zf_X11_in, zf_X11_isCorner, jrun_u, jstep, ↓if_pos, ↓if_neg, Option.bind_some, Bool.true_eq_false, ↓reduceIte]
    first | exact ⟨_, _, rfl, rfl, rfl⟩ | done
  by_cases cia : 3 < i
  · simp (disch := omega) only [zf_X10_flip, zf_X11_flip, zf_X10_areCorners, zf_X5_hasCorner, zf_X10_isStep, zf_X10_isValue, zf_X7_canTell, zf_X7_wasSeenBefore, zf_X7_has, zf_X2_hasPlace, zf_X8_size, zf_X8_shorten, zf_X5_corners, zf_X5_hasCut, zf_X4_onWay, zf_X1_faultKind, zf_X1_faultPlace, zf_X7_size, zf_X7_rights, zf_X2_size, zf_X5_cutCount, zf_X11_in, zf_X11_isCorner, jrun_u, jstep, ↓if_pos, ↓if_neg, Option.bind_some, Bool.true_eq_false, ↓reduceIte]
    first | exact ⟨_, _, rfl, rfl, rfl⟩ | done
  by_cases cjb : j < 0
  · simp (disch := omega) only [zf_X10_flip, zf_X11_flip, zf_X10_areCorners, zf_X5_hasCorner, zf_X10_isStep, zf_X10_isValue, zf_X7_canTell, zf_X7_wasSeenBefore, zf_X7_has, zf_X2_hasPlace, zf_X8_size, zf_X8_shorten, zf_X5_corners, zf_X5_hasCut, zf_X4_onWay, zf_X1_faultKind, zf_X1_faultPlace, zf_X7_size, zf_X7_rights, zf_X2_size, zf_X5_cutCount, zf_X11_in, zf_X11_isCorner, jrun_u, jstep, ↓if_pos, ↓if_neg, Option.bind_some, Bool.true_eq_false, ↓reduceIte]
    first | exact ⟨_, _, rfl, rfl, rfl⟩ | done
  by_cases cja : 3 < j
  · simp (disch := omega) only [zf_X10_flip, zf_X11_flip, zf_X10_areCorners, zf_X5_hasCorner, zf_X10_isStep, zf_X10_isValue, zf_X7_canTell, zf_X7_wasSeenBefore, zf_X7_has, zf_X2_hasPlace, zf_X8_size, zf_X8_shorten, zf_X5_corners, zf_X5_hasCut, zf_X4_onWay, zf_X1_faultKind, zf_X1_faultPlace, zf_X7_size, zf_X7_rights, zf_X2_size, zf_X5_cutCount, zf_X11_in, zf_X11_isCorner, jrun_u, jstep, ↓if_pos, ↓if_neg, Option.bind_some, Bool.true_eq_false, ↓reduceIte]
    first | exact ⟨_, _, rfl, rfl, rfl⟩ | done
  have hi9 : i = 0 ∨ i = 1 ∨ i = 2 ∨ i = 3 := by omega
  have hj9 : j = 0 ∨ j = 1 ∨ j = 2 ∨ j = 3 := by omega
  rcases hi9 with rfl | rfl | rfl | rfl <;> rcases hj9 with rfl | rfl | rfl | rfl <;> exact ⟨_, _, rfl, rfl, rfl⟩
set_option maxRecDepth 20000 in
theorem ev_11 (i : Int) (zi : ¬ zout i) : ∃ o1 o2, zf_X10_fewest 16 4 1 0 0 0 0 0 i = some o1 ∧ zf_X11_fewest 4 2 4 2 4 1 0 0 0 0xffffffff00000001ffffffff000000000000000000000000000000000000000000000000ffffffff00000000ffffffff0000000000000000000000000000000000000000000000000000000000000001ffffffff00000000ffffffff000000000000000000000000000000000000000000000000ffffffff00000000ffffffff00000000 0x100000000 0x300000002 0x20000000000000001 0 0 0 i = some o2 ∧ (o1.1) = (o2.1) := by
  unfold zout at *
  by_cases cib : i < 0
  · simp (disch := omega) only [zf_X10_fewest, zf_X11_fewest, zg_X11_fewest, zg_X11_fewest_0, zf_X10_areCorners, zf_X5_hasCorner, zf_X10_isStep, zf_X10_isValue, zf_X7_canTell, zf_X7_wasSeenBefore, zf_X7_has, zf_X2_hasPlace, zf_X8_size, zf_X8_shorten, zf_X5_corners, zf_X5_hasCut, zf_X4_onWay, zf_X1_faultKind, zf_X1_faultPlace, zf_X7_size, zf_X7_rights, zf_X2_size, zf_X5_cutCount, zf_X11_in, zf_X11_isCorner, jrun_u, jstep, ↓if_pos, ↓if_neg, Option.bind_some, Bool.true_eq_false, ↓reduceIte]
    first | exact ⟨_, _, rfl, rfl, rfl⟩ | done
  by_cases cia : 1 < i
  · simp (disch := omega) only [zf_X10_fewest, zf_X11_fewest, zg_X11_fewest, zg_X11_fewest_0, zf_X10_areCorners, zf_X5_hasCorner, zf_X10_isStep, zf_X10_isValue, zf_X7_canTell, zf_X7_wasSeenBefore, zf_X7_has, zf_X2_hasPlace, zf_X8_size, zf_X8_shorten, zf_X5_corners, zf_X5_hasCut, zf_X4_onWay, zf_X1_faultKind, zf_X1_faultPlace, zf_X7_size, zf_X7_rights, zf_X2_size, zf_X5_cutCount, zf_X11_in, zf_X11_isCorner, jrun_u, jstep, ↓if_pos, ↓if_neg, Option.bind_some, Bool.true_eq_false, ↓reduceIte]
    first | exact ⟨_, _, rfl, rfl, rfl⟩ | done
  have hi9 : i = 0 ∨ i = 1 := by omega
  rcases hi9 with rfl | rfl <;> exact ⟨_, _, rfl, rfl, rfl⟩
set_option maxRecDepth 20000 in
theorem ev_13 (i : Int) (zi : ¬ zout i) : ∃ o1 o2, zf_X10_farthest 16 4 1 0 0 0 i = some o1 ∧ zf_X11_farthest 4 2 4 2 4 1 0 0 0xffffffff00000001ffffffff000000000000000000000000000000000000000000000000ffffffff00000000ffffffff0000000000000000000000000000000000000000000000000000000000000001ffffffff00000000ffffffff000000000000000000000000000000000000000000000000ffffffff00000000ffffffff00000000 0x100000000 0x300000002 0x20000000000000001 0 0 i = some o2 ∧ (o1.1) = (o2.1) := by
  unfold zout at *
  by_cases cib : i < 0
  · simp (disch := omega) only [zf_X10_farthest, zf_X11_farthest, zg_X10_farthest, zg_X10_farthest_0, zg_X11_farthest, zg_X11_farthest_0, zf_X10_areCorners, zf_X5_hasCorner, zf_X10_isStep, zf_X10_isValue, zf_X7_canTell, zf_X7_wasSeenBefore, zf_X7_has, zf_X2_hasPlace, zf_X8_size, zf_X8_shorten, zf_X5_corners, zf_X5_hasCut, zf_X4_onWay, zf_X1_faultKind, zf_X1_faultPlace, zf_X7_size, zf_X7_rights, zf_X2_size, zf_X5_cutCount, zf_X11_in, zf_X11_isCorner, jrun_u, jstep, ↓if_pos, ↓if_neg, Option.bind_some, Bool.true_eq_false, ↓reduceIte]
    first | exact ⟨_, _, rfl, rfl, rfl⟩ | done
  by_cases cia : 1 < i
  · simp (disch := omega) only [zf_X10_farthest, zf_X11_farthest, zg_X10_farthest, zg_X10_farthest_0, zg_X11_farthest, zg_X11_farthest_0, zf_X10_areCorners, zf_X5_hasCorner, zf_X10_isStep, zf_X10_isValue, zf_X7_canTell, zf_X7_wasSeenBefore, zf_X7_has, zf_X2_hasPlace, zf_X8_size, zf_X8_shorten, zf_X5_corners, zf_X5_hasCut, zf_X4_onWay, zf_X1_faultKind, zf_X1_faultPlace, zf_X7_size, zf_X7_rights, zf_X2_size, zf_X5_cutCount, zf_X11_in, zf_X11_isCorner, jrun_u, jstep, ↓if_pos, ↓if_neg, Option.bind_some, Bool.true_eq_false, ↓reduceIte]
    first | exact ⟨_, _, rfl, rfl, rfl⟩ | done
  have hi9 : i = 0 ∨ i = 1 := by omega
  rcases hi9 with rfl | rfl <;> exact ⟨_, _, rfl, rfl, rfl⟩
set_option maxRecDepth 20000 in
theorem ev_25 (i : Int) (zi : ¬ zout i) : ∃ o1 o2, zf_X10_of 16 1 1 i = some o1 ∧ zf_X11_of 1 1 i = some o2 ∧ o1 = o2 := by
  unfold zout at *
  by_cases cib : i < 0
  · simp (disch := omega) only [zf_X10_of, zf_X11_of, zf_X10_areCorners, zf_X5_hasCorner, zf_X10_isStep, zf_X10_isValue, zf_X7_canTell, zf_X7_wasSeenBefore, zf_X7_has, zf_X2_hasPlace, zf_X8_size, zf_X8_shorten, zf_X5_corners, zf_X5_hasCut, zf_X4_onWay, zf_X1_faultKind, zf_X1_faultPlace, zf_X7_size, zf_X7_rights, zf_X2_size, zf_X5_cutCount, zf_X11_in, zf_X11_isCorner, jrun_u, jstep, ↓if_pos, ↓if_neg, Option.bind_some, Bool.true_eq_false, ↓reduceIte]
    first | exact ⟨_, _, rfl, rfl, rfl⟩ | done
  by_cases cia : 0 < i
  · simp (disch := omega) only [zf_X10_of, zf_X11_of, zf_X10_areCorners, zf_X5_hasCorner, zf_X10_isStep, zf_X10_isValue, zf_X7_canTell, zf_X7_wasSeenBefore, zf_X7_has, zf_X2_hasPlace, zf_X8_size, zf_X8_shorten, zf_X5_corners, zf_X5_hasCut, zf_X4_onWay, zf_X1_faultKind, zf_X1_faultPlace, zf_X7_size, zf_X7_rights, zf_X2_size, zf_X5_cutCount, zf_X11_in, zf_X11_isCorner, jrun_u, jstep, ↓if_pos, ↓if_neg, Option.bind_some, Bool.true_eq_false, ↓reduceIte]
    first | exact ⟨_, _, rfl, rfl, rfl⟩ | done
  have hi9 : i = 0 := by omega
  rcases hi9 with rfl <;> exact ⟨_, _, rfl, rfl, rfl⟩
set_option maxRecDepth 20000 in
theorem ev_26 (i : Int) (j : Int) (zi : ¬ zout i) (zj : ¬ zout j) : ∃ o1 o2, zf_X10_along 16 1 1 i j = some o1 ∧ zf_X11_along 1 1 i j = some o2 ∧ o1 = o2 := by
  unfold zout at *
  by_cases cib : i < 0
  · simp (disch := omega) only [zf_X10_along, zf_X11_along, zf_X10_areCorners, zf_X5_hasCorner, zf_X10_isStep, zf_X10_isValue, zf_X7_canTell, zf_X7_wasSeenBefore, zf_X7_has, zf_X2_hasPlace, zf_X8_size, zf_X8_shorten, zf_X5_corners, zf_X5_hasCut, zf_X4_onWay, zf_X1_faultKind, zf_X1_faultPlace, zf_X7_size, zf_X7_rights, zf_X2_size, zf_X5_cutCount, zf_X11_in, zf_X11_isCorner, jrun_u, jstep, ↓if_pos, ↓if_neg, Option.bind_some, Bool.true_eq_false, ↓reduceIte]
    first | exact ⟨_, _, rfl, rfl, rfl⟩ | done
  by_cases cia : 0 < i
  · simp (disch := omega) only [zf_X10_along, zf_X11_along, zf_X10_areCorners, zf_X5_hasCorner, zf_X10_isStep, zf_X10_isValue, zf_X7_canTell, zf_X7_wasSeenBefore, zf_X7_has, zf_X2_hasPlace, zf_X8_size, zf_X8_shorten, zf_X5_corners, zf_X5_hasCut, zf_X4_onWay, zf_X1_faultKind, zf_X1_faultPlace, zf_X7_size, zf_X7_rights, zf_X2_size, zf_X5_cutCount, zf_X11_in, zf_X11_isCorner, jrun_u, jstep, ↓if_pos, ↓if_neg, Option.bind_some, Bool.true_eq_false, ↓reduceIte]
    first | exact ⟨_, _, rfl, rfl, rfl⟩ | done
  by_cases cjb : j < 0
  · simp (disch := omega) only [zf_X10_along, zf_X11_along, zf_X10_areCorners, zf_X5_hasCorner, zf_X10_isStep, zf_X10_isValue, zf_X7_canTell, zf_X7_wasSeenBefore, zf_X7_has, zf_X2_hasPlace, zf_X8_size, zf_X8_shorten, zf_X5_corners, zf_X5_hasCut, zf_X4_onWay, zf_X1_faultKind, zf_X1_faultPlace, zf_X7_size, zf_X7_rights, zf_X2_size, zf_X5_cutCount, zf_X11_in, zf_X11_isCorner, jrun_u, jstep, ↓if_pos, ↓if_neg, Option.bind_some, Bool.true_eq_false, ↓reduceIte]
    first | exact ⟨_, _, rfl, rfl, rfl⟩ | done
  by_cases cja : 12 < j
  · simp (disch := omega) only [zf_X10_along, zf_X11_along, zf_X10_areCorners, zf_X5_hasCorner, zf_X10_isStep, zf_X10_isValue, zf_X7_canTell, zf_X7_wasSeenBefore, zf_X7_has, zf_X2_hasPlace, zf_X8_size, zf_X8_shorten, zf_X5_corners, zf_X5_hasCut, zf_X4_onWay, zf_X1_faultKind, zf_X1_faultPlace, zf_X7_size, zf_X7_rights, zf_X2_size, zf_X5_cutCount, zf_X11_in, zf_X11_isCorner, jrun_u, jstep, ↓if_pos, ↓if_neg, Option.bind_some, Bool.true_eq_false, ↓reduceIte]
    first | exact ⟨_, _, rfl, rfl, rfl⟩ | done
  have hi9 : i = 0 := by omega
  have hj9 : j = 0 ∨ j = 1 ∨ j = 2 ∨ j = 3 ∨ j = 4 ∨ j = 5 ∨ j = 6 ∨ j = 7 ∨ j = 8 ∨ j = 9 ∨ j = 10 ∨ j = 11 ∨ j = 12 := by omega
  rcases hi9 with rfl <;> rcases hj9 with rfl | rfl | rfl | rfl | rfl | rfl | rfl | rfl | rfl | rfl | rfl | rfl | rfl <;> exact ⟨_, _, rfl, rfl, rfl⟩
set_option maxRecDepth 20000 in
theorem ev_27 (i : Int) (zi : ¬ zout i) : ∃ o1 o2, zf_X10_breaks 16 1 1 i = some o1 ∧ zf_X11_breaks 1 1 i = some o2 ∧ o1 = o2 := by
  unfold zout at *
  by_cases cib : i < 0
  · simp (disch := omega) only [zf_X10_breaks, zf_X11_breaks, zg_X11_breaks, zg_X11_breaks_0, zf_X10_areCorners, zf_X5_hasCorner, zf_X10_isStep, zf_X10_isValue, zf_X7_canTell, zf_X7_wasSeenBefore, zf_X7_has, zf_X2_hasPlace, zf_X8_size, zf_X8_shorten, zf_X5_corners, zf_X5_hasCut, zf_X4_onWay, zf_X1_faultKind, zf_X1_faultPlace, zf_X7_size, zf_X7_rights, zf_X2_size, zf_X5_cutCount, zf_X11_in, zf_X11_isCorner, jrun_u, jstep, ↓if_pos, ↓if_neg, Option.bind_some, Bool.true_eq_false, ↓reduceIte]
    first | exact ⟨_, _, rfl, rfl, rfl⟩ | done
  by_cases cia : 2 < i
  · simp (disch := omega) only [zf_X10_breaks, zf_X11_breaks, zg_X11_breaks, zg_X11_breaks_0, zf_X10_areCorners, zf_X5_hasCorner, zf_X10_isStep, zf_X10_isValue, zf_X7_canTell, zf_X7_wasSeenBefore, zf_X7_has, zf_X2_hasPlace, zf_X8_size, zf_X8_shorten, zf_X5_corners, zf_X5_hasCut, zf_X4_onWay, zf_X1_faultKind, zf_X1_faultPlace, zf_X7_size, zf_X7_rights, zf_X2_size, zf_X5_cutCount, zf_X11_in, zf_X11_isCorner, jrun_u, jstep, ↓if_pos, ↓if_neg, Option.bind_some, Bool.true_eq_false, ↓reduceIte]
    first | exact ⟨_, _, rfl, rfl, rfl⟩ | done
  have hi9 : i = 0 ∨ i = 1 ∨ i = 2 := by omega
  rcases hi9 with rfl | rfl | rfl <;> exact ⟨_, _, rfl, rfl, rfl⟩
set_option maxRecDepth 20000 in
theorem ev_29 (i : Int) (zi : ¬ zout i) : ∃ o1 o2, zf_X10_glue 16 1 1 i = some o1 ∧ zf_X11_glue 1 1 i = some o2 ∧ (o1.1) = (o2.1) := by
  unfold zout at *
  by_cases cib : i < 0
  · simp (disch := omega) only [zf_X10_glue, zf_X11_glue, zg_X11_glue, zg_X11_glue_0, zf_X10_areCorners, zf_X5_hasCorner, zf_X10_isStep, zf_X10_isValue, zf_X7_canTell, zf_X7_wasSeenBefore, zf_X7_has, zf_X2_hasPlace, zf_X8_size, zf_X8_shorten, zf_X5_corners, zf_X5_hasCut, zf_X4_onWay, zf_X1_faultKind, zf_X1_faultPlace, zf_X7_size, zf_X7_rights, zf_X2_size, zf_X5_cutCount, zf_X11_in, zf_X11_isCorner, jrun_u, jstep, ↓if_pos, ↓if_neg, Option.bind_some, Bool.true_eq_false, ↓reduceIte]
    first | exact ⟨_, _, rfl, rfl, rfl⟩ | done
  by_cases cia : 0 < i
  · simp (disch := omega) only [zf_X10_glue, zf_X11_glue, zg_X11_glue, zg_X11_glue_0, zf_X10_areCorners, zf_X5_hasCorner, zf_X10_isStep, zf_X10_isValue, zf_X7_canTell, zf_X7_wasSeenBefore, zf_X7_has, zf_X2_hasPlace, zf_X8_size, zf_X8_shorten, zf_X5_corners, zf_X5_hasCut, zf_X4_onWay, zf_X1_faultKind, zf_X1_faultPlace, zf_X7_size, zf_X7_rights, zf_X2_size, zf_X5_cutCount, zf_X11_in, zf_X11_isCorner, jrun_u, jstep, ↓if_pos, ↓if_neg, Option.bind_some, Bool.true_eq_false, ↓reduceIte]
    first | exact ⟨_, _, rfl, rfl, rfl⟩ | done
  have hi9 : i = 0 := by omega
  rcases hi9 with rfl <;> exact ⟨_, _, rfl, rfl, rfl⟩
set_option maxRecDepth 20000 in
theorem ev_30 (i : Int) (zi : ¬ zout i) : ∃ o1 o2, zf_X10_cutOff 16 1 1 i = some o1 ∧ zf_X11_cutOff 1 1 i = some o2 ∧ (o1.1) = (o2.1) := by
  unfold zout at *
  by_cases cib : i < 0
  · simp (disch := omega) only [zf_X10_cutOff, zf_X11_cutOff, zf_X10_areCorners, zf_X5_hasCorner, zf_X10_isStep, zf_X10_isValue, zf_X7_canTell, zf_X7_wasSeenBefore, zf_X7_has, zf_X2_hasPlace, zf_X8_size, zf_X8_shorten, zf_X5_corners, zf_X5_hasCut, zf_X4_onWay, zf_X1_faultKind, zf_X1_faultPlace, zf_X7_size, zf_X7_rights, zf_X2_size, zf_X5_cutCount, zf_X11_in, zf_X11_isCorner, jrun_u, jstep, ↓if_pos, ↓if_neg, Option.bind_some, Bool.true_eq_false, ↓reduceIte]
    first | exact ⟨_, _, rfl, rfl, rfl⟩ | done
  by_cases cia : 0 < i
  · simp (disch := omega) only [zf_X10_cutOff, zf_X11_cutOff, zf_X10_areCorners, zf_X5_hasCorner, zf_X10_isStep, zf_X10_isValue, zf_X7_canTell, zf_X7_wasSeenBefore, zf_X7_has, zf_X2_hasPlace, zf_X8_size, zf_X8_shorten, zf_X5_corners, zf_X5_hasCut, zf_X4_onWay, zf_X1_faultKind, zf_X1_faultPlace, zf_X7_size, zf_X7_rights, zf_X2_size, zf_X5_cutCount, zf_X11_in, zf_X11_isCorner, jrun_u, jstep, ↓if_pos, ↓if_neg, Option.bind_some, Bool.true_eq_false, ↓reduceIte]
    first | exact ⟨_, _, rfl, rfl, rfl⟩ | done
  have hi9 : i = 0 := by omega
  rcases hi9 with rfl <;> exact ⟨_, _, rfl, rfl, rfl⟩
set_option maxRecDepth 20000 in
theorem ev_37 (i : Int) (zi : ¬ zout i) : ∃ o1 o2, zf_X10_count 16 0 0 0 i = some o1 ∧ zf_X11_count 0 0 0 i = some o2 ∧ o1 = o2 := by
  unfold zout at *
  by_cases cib : i < 0
  · simp (disch := omega) only [zf_X10_count, zf_X11_count, zf_X10_areCorners, zf_X5_hasCorner, zf_X10_isStep, zf_X10_isValue, zf_X7_canTell, zf_X7_wasSeenBefore, zf_X7_has, zf_X2_hasPlace, zf_X8_size, zf_X8_shorten, zf_X5_corners, zf_X5_hasCut, zf_X4_onWay, zf_X1_faultKind, zf_X1_faultPlace, zf_X7_size, zf_X7_rights, zf_X2_size, zf_X5_cutCount, zf_X11_in, zf_X11_isCorner, jrun_u, jstep, ↓if_pos, ↓if_neg, Option.bind_some, Bool.true_eq_false, ↓reduceIte]
    first | exact ⟨_, _, rfl, rfl, rfl⟩ | done
  by_cases cia : 2 < i
  · simp (disch := omega) only [zf_X10_count, zf_X11_count, zf_X10_areCorners, zf_X5_hasCorner, zf_X10_isStep, zf_X10_isValue, zf_X7_canTell, zf_X7_wasSeenBefore, zf_X7_has, zf_X2_hasPlace, zf_X8_size, zf_X8_shorten, zf_X5_corners, zf_X5_hasCut, zf_X4_onWay, zf_X1_faultKind, zf_X1_faultPlace, zf_X7_size, zf_X7_rights, zf_X2_size, zf_X5_cutCount, zf_X11_in, zf_X11_isCorner, jrun_u, jstep, ↓if_pos, ↓if_neg, Option.bind_some, Bool.true_eq_false, ↓reduceIte]
    first | exact ⟨_, _, rfl, rfl, rfl⟩ | done
  have hi9 : i = 0 ∨ i = 1 ∨ i = 2 := by omega
  rcases hi9 with rfl | rfl | rfl <;> exact ⟨_, _, rfl, rfl, rfl⟩
