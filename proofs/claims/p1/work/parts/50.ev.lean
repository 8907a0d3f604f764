theorem jrun_u {S O : Type} (g : S → Option (O ⊕ S)) (s : S) : jrun g jfuel s = jstep (jrun g 999999999) (g s) := rfl
theorem zno164e : (zno 16 4) = False := eq_false (by decide)
theorem zno164 : ¬ zno 16 4 := by decide
abbrev Rg (i : Int) (n : Int) : Prop := 0 ≤ i ∧ i ≤ n
theorem hasC {i : Int} (z : ¬ zout i) : zf_X5_hasCorner 4 i = some (decide (Rg i 3)) := by
  unfold zf_X5_hasCorner
  rw [if_neg z]
  by_cases h : i < 0
  · rw [if_pos h, decide_eq_false (by unfold Rg; omega)]
  · rw [if_neg h, if_neg (by decide)]
    by_cases q : ((4 : Nat) : Int) ≤ i
    · rw [if_pos q, decide_eq_false (by unfold Rg; omega)]
    · rw [if_neg q, decide_eq_true (by unfold Rg; omega)]
theorem areC {i j : Int} (zi : ¬ zout i) (zj : ¬ zout j) : zf_X10_areCorners 16 4 i j = some (decide (Rg i 3) && decide (Rg j 3)) := by
  unfold zf_X10_areCorners
  rw [if_neg zno164, hasC zi, hasC zj]
  simp only [Option.bind_some]
  by_cases h : Rg i 3 <;> by_cases q : Rg j 3 <;> simp [h, q]
theorem y_in {v lo hi : Int} (zv : ¬ zout v) (zl : ¬ zout lo) (zh : ¬ zout hi) : zf_X11_in v lo hi = some (decide (lo ≤ v ∧ v ≤ hi)) := by
  unfold zf_X11_in
  rw [if_neg zv, if_neg zl]
  by_cases h : v < lo
  · rw [if_pos h, decide_eq_false (by omega)]
  · rw [if_neg h, if_neg zh]
    by_cases q : hi < v
    · rw [if_pos q, decide_eq_false (by omega)]
    · rw [if_neg q, decide_eq_true (by omega)]
theorem yC {i : Int} (z : ¬ zout i) : zf_X11_isCorner 4 i = some (decide (Rg i 3)) := by
  unfold zf_X11_isCorner
  rw [y_in z (by decide) (by decide)]
  rfl
theorem x_step {i : Int} (z : ¬ zout i) : zf_X10_isStep i = some (decide (Rg i 999)) := by
  unfold zf_X10_isStep
  rw [if_neg z]
  by_cases h : i < 0
  · rw [if_pos h, decide_eq_false (by unfold Rg; omega)]
  · rw [if_neg h]
    by_cases q : (999 : Int) < i
    · rw [if_pos q, decide_eq_false (by unfold Rg; omega)]
    · rw [if_neg q, decide_eq_true (by unfold Rg; omega)]
theorem x_val {i : Int} (z : ¬ zout i) : zf_X10_isValue i = some (decide (Rg i 9999)) := by
  unfold zf_X10_isValue
  rw [if_neg z]
  by_cases h : i < 0
  · rw [if_pos h, decide_eq_false (by unfold Rg; omega)]
  · rw [if_neg h]
    by_cases q : (9999 : Int) < i
    · rw [if_pos q, decide_eq_false (by unfold Rg; omega)]
    · rw [if_neg q, decide_eq_true (by unfold Rg; omega)]
theorem x_tell {i : Int} (z : ¬ zout i) : zf_X7_canTell 0 i = some (decide (Rg i 999)) := by
  unfold zf_X7_canTell
  rw [if_neg z, if_neg (by decide)]
  by_cases h : i < 0
  · rw [if_pos h, decide_eq_false (by unfold Rg; omega)]
  · rw [if_neg h]
    by_cases q : (999 : Int) < i
    · rw [if_pos q, decide_eq_false (by unfold Rg; omega)]
    · rw [if_neg q, decide_eq_true (by unfold Rg; omega)]
theorem x_place {i : Int} (z : ¬ zout i) : zf_X2_hasPlace 1 i = some (decide (Rg i 0)) := by
  unfold zf_X2_hasPlace
  rw [if_neg z]
  by_cases h : i < 0
  · rw [if_pos h, decide_eq_false (by unfold Rg; omega)]
  · rw [if_neg h, if_neg (by decide)]
    by_cases q : (1 : Int) ≤ i
    · rw [if_pos q, decide_eq_false (by unfold Rg; omega)]
    · rw [if_neg q, decide_eq_true (by unfold Rg; omega)]
theorem ylf4 : zf_X11_listFor 2 4 2 4 0xffffffff00000001ffffffff000000000000000000000000000000000000000000000000ffffffff00000000ffffffff0000000000000000000000000000000000000000000000000000000000000001ffffffff00000000ffffffff000000000000000000000000000000000000000000000000ffffffff00000000ffffffff00000000 0x100000000 0x300000002 0x20000000000000001 4 = some (2, 4, 2, 4, 0xffffffff00000001ffffffff000000000000000000000000000000000000000000000000ffffffff00000000ffffffff0000000000000000000000000000000000000000000000000000000000000001ffffffff00000000ffffffff000000000000000000000000000000000000000000000000ffffffff00000000ffffffff00000000, 0x100000000, 0x300000002, 0x20000000000000001) := rfl
theorem pg84 : pg8 4 = 2 := rfl
set_option maxRecDepth 20000 in
theorem ev_0 (a : Int) (b : Int) (c : Int) (d : Int) (e : Int) (za : ¬ zout a) (zb : ¬ zout b) (zc : ¬ zout c) (zd : ¬ zout d) (ze : ¬ zout e) : ∃ o1 o2, zf_X10_feed 16 0 0 a b c d e = some o1 ∧ zf_X11_feed 0 0 a b c d e = some o2 ∧ (o1.1) = (o2.1) := by
  exact ⟨_, _, rfl, rfl, rfl⟩
set_option maxRecDepth 20000 in
theorem ev_1 (i : Int) (zi : ¬ zout i) : ∃ o1 o2, zf_X10_end 16 0 i = some o1 ∧ zf_X11_end 0 i = some o2 ∧ (o1.1) = (o2.1) := by
  unfold zout at *
  by_cases cib : i < 0
  · simp (disch := omega) only [zf_X10_end, zf_X11_end, zf_X10_areCorners, zf_X5_hasCorner, zf_X10_isStep, zf_X10_isValue, zf_X7_canTell, zf_X7_wasSeenBefore, zf_X7_has, zf_X2_hasPlace, zf_X8_size, zf_X8_shorten, zf_X5_corners, zf_X5_hasCut, zf_X4_onWay, zf_X1_faultKind, zf_X1_faultPlace, zf_X7_size, zf_X7_rights, zf_X2_size, zf_X5_cutCount, zf_X11_in, zf_X11_isCorner, jrun_u, jstep, zno164e, zout, or_self, ↓if_pos, ↓if_neg, if_pos, if_neg, Option.bind_some, Bool.true_eq_false, ↓reduceIte]
    first | exact ⟨_, _, rfl, rfl, rfl⟩ | done
  by_cases cia : 0 < i
  · simp (disch := omega) only [zf_X10_end, zf_X11_end, zf_X10_areCorners, zf_X5_hasCorner, zf_X10_isStep, zf_X10_isValue, zf_X7_canTell, zf_X7_wasSeenBefore, zf_X7_has, zf_X2_hasPlace, zf_X8_size, zf_X8_shorten, zf_X5_corners, zf_X5_hasCut, zf_X4_onWay, zf_X1_faultKind, zf_X1_faultPlace, zf_X7_size, zf_X7_rights, zf_X2_size, zf_X5_cutCount, zf_X11_in, zf_X11_isCorner, jrun_u, jstep, zno164e, zout, or_self, ↓if_pos, ↓if_neg, if_pos, if_neg, Option.bind_some, Bool.true_eq_false, ↓reduceIte]
    first | exact ⟨_, _, rfl, rfl, rfl⟩ | done
  have hi9 : i = 0 := by omega
  rcases hi9 with rfl <;> exact ⟨_, _, rfl, rfl, rfl⟩
set_option maxRecDepth 20000 in
theorem ev_2   : ∃ o1 o2, zf_X10_cut 16 0 0 0 0 0 0 0 (-1) 0 0 0 0 = some o1 ∧ zf_X11_cut 0 0 0 0 0 0 0 (-1) 0 4 2 4 2 4 1 0 0 0 0 0 0 0xffffffff00000001ffffffff000000000000000000000000000000000000000000000000ffffffff00000000ffffffff0000000000000000000000000000000000000000000000000000000000000001ffffffff00000000ffffffff000000000000000000000000000000000000000000000000ffffffff00000000ffffffff00000000 0x100000000 0x300000002 0x20000000000000001 = some o2 ∧ (o1.1) = (o2.1) := by
  exact ⟨_, _, rfl, rfl, rfl⟩
set_option maxRecDepth 20000 in
theorem ev_3 (i : Int) (zi : ¬ zout i) : ∃ o1 o2, zf_X10_fault 16 0 (-1) i = some o1 ∧ zf_X11_fault 0 (-1) i = some o2 ∧ o1 = o2 := by
  unfold zout at *
  by_cases cib : i < 0
  · simp (disch := omega) only [zf_X10_fault, zf_X11_fault, zf_X10_areCorners, zf_X5_hasCorner, zf_X10_isStep, zf_X10_isValue, zf_X7_canTell, zf_X7_wasSeenBefore, zf_X7_has, zf_X2_hasPlace, zf_X8_size, zf_X8_shorten, zf_X5_corners, zf_X5_hasCut, zf_X4_onWay, zf_X1_faultKind, zf_X1_faultPlace, zf_X7_size, zf_X7_rights, zf_X2_size, zf_X5_cutCount, zf_X11_in, zf_X11_isCorner, jrun_u, jstep, zno164e, zout, or_self, ↓if_pos, ↓if_neg, if_pos, if_neg, Option.bind_some, Bool.true_eq_false, ↓reduceIte]
    first | exact ⟨_, _, rfl, rfl, rfl⟩ | done
  by_cases cia : 1 < i
  · simp (disch := omega) only [zf_X10_fault, zf_X11_fault, zf_X10_areCorners, zf_X5_hasCorner, zf_X10_isStep, zf_X10_isValue, zf_X7_canTell, zf_X7_wasSeenBefore, zf_X7_has, zf_X2_hasPlace, zf_X8_size, zf_X8_shorten, zf_X5_corners, zf_X5_hasCut, zf_X4_onWay, zf_X1_faultKind, zf_X1_faultPlace, zf_X7_size, zf_X7_rights, zf_X2_size, zf_X5_cutCount, zf_X11_in, zf_X11_isCorner, jrun_u, jstep, zno164e, zout, or_self, ↓if_pos, ↓if_neg, if_pos, if_neg, Option.bind_some, Bool.true_eq_false, ↓reduceIte]
    first | exact ⟨_, _, rfl, rfl, rfl⟩ | done
  have hi9 : i = 0 ∨ i = 1 := by omega
  rcases hi9 with rfl | rfl <;> exact ⟨_, _, rfl, rfl, rfl⟩
set_option maxRecDepth 20000 in
theorem ev_5 (i : Int) (zi : ¬ zout i) : ∃ o1 o2, zf_X10_told 16 4 1 1 i = some o1 ∧ zf_X11_told 4 2 4 2 4 1 1 0xffffffff00000001ffffffff000000000000000000000000000000000000000000000000ffffffff00000000ffffffff0000000000000000000000000000000000000000000000000000000000000001ffffffff00000000ffffffff000000000000000000000000000000000000000000000000ffffffff00000000ffffffff00000000 0x100000000 0x300000002 0x20000000000000001 i = some o2 ∧ o1 = (o2.1) := by
  unfold zout at *
  by_cases cib : i < 0
  · simp (disch := omega) only [zf_X10_told, zf_X11_told, zf_X10_areCorners, zf_X5_hasCorner, zf_X10_isStep, zf_X10_isValue, zf_X7_canTell, zf_X7_wasSeenBefore, zf_X7_has, zf_X2_hasPlace, zf_X8_size, zf_X8_shorten, zf_X5_corners, zf_X5_hasCut, zf_X4_onWay, zf_X1_faultKind, zf_X1_faultPlace, zf_X7_size, zf_X7_rights, zf_X2_size, zf_X5_cutCount, zf_X11_in, zf_X11_isCorner, jrun_u, jstep, zno164e, zout, or_self, ↓if_pos, ↓if_neg, if_pos, if_neg, Option.bind_some, Bool.true_eq_false, ↓reduceIte]
    first | exact ⟨_, _, rfl, rfl, rfl⟩ | done
  by_cases cia : 3 < i
  · simp (disch := omega) only [zf_X10_told, zf_X11_told, zf_X10_areCorners, zf_X5_hasCorner, zf_X10_isStep, zf_X10_isValue, zf_X7_canTell, zf_X7_wasSeenBefore, zf_X7_has, zf_X2_hasPlace, zf_X8_size, zf_X8_shorten, zf_X5_corners, zf_X5_hasCut, zf_X4_onWay, zf_X1_faultKind, zf_X1_faultPlace, zf_X7_size, zf_X7_rights, zf_X2_size, zf_X5_cutCount, zf_X11_in, zf_X11_isCorner, jrun_u, jstep, zno164e, zout, or_self, ↓if_pos, ↓if_neg, if_pos, if_neg, Option.bind_some, Bool.true_eq_false, ↓reduceIte]
    first | exact ⟨_, _, rfl, rfl, rfl⟩ | done
  have hi9 : i = 0 ∨ i = 1 ∨ i = 2 ∨ i = 3 := by omega
  rcases hi9 with rfl | rfl | rfl | rfl <;> exact ⟨_, _, rfl, rfl, rfl⟩
set_option maxRecDepth 20000 in
theorem ev_6 (i : Int) (j : Int) (zi : ¬ zout i) (zj : ¬ zout j) : ∃ o1 o2, zf_X10_triangle 16 4 1 0 0 i j = some o1 ∧ zf_X11_triangle 4 2 4 1 0xffffffff00000001ffffffff000000000000000000000000000000000000000000000000ffffffff00000000ffffffff0000000000000000000000000000000000000000000000000000000000000001ffffffff00000000ffffffff000000000000000000000000000000000000000000000000ffffffff00000000ffffffff00000000 0x100000000 0x300000002 0 0 0 i j = some o2 ∧ (o1.1) = (o2.1) := by
  unfold zout at *
  by_cases cib : i < 0
  · simp (disch := omega) only [zf_X10_triangle, zf_X11_triangle, zf_X10_areCorners, zf_X5_hasCorner, zf_X10_isStep, zf_X10_isValue, zf_X7_canTell, zf_X7_wasSeenBefore, zf_X7_has, zf_X2_hasPlace, zf_X8_size, zf_X8_shorten, zf_X5_corners, zf_X5_hasCut, zf_X4_onWay, zf_X1_faultKind, zf_X1_faultPlace, zf_X7_size, zf_X7_rights, zf_X2_size, zf_X5_cutCount, zf_X11_in, zf_X11_isCorner, jrun_u, jstep, zno164e, zout, or_self, ↓if_pos, ↓if_neg, if_pos, if_neg, Option.bind_some, Bool.true_eq_false, ↓reduceIte]
    first | exact ⟨_, _, rfl, rfl, rfl⟩ | done
  by_cases cia : 1 < i
  · simp (disch := omega) only [zf_X10_triangle, zf_X11_triangle, zf_X10_areCorners, zf_X5_hasCorner, zf_X10_isStep, zf_X10_isValue, zf_X7_canTell, zf_X7_wasSeenBefore, zf_X7_has, zf_X2_hasPlace, zf_X8_size, zf_X8_shorten, zf_X5_corners, zf_X5_hasCut, zf_X4_onWay, zf_X1_faultKind, zf_X1_faultPlace, zf_X7_size, zf_X7_rights, zf_X2_size, zf_X5_cutCount, zf_X11_in, zf_X11_isCorner, jrun_u, jstep, zno164e, zout, or_self, ↓if_pos, ↓if_neg, if_pos, if_neg, Option.bind_some, Bool.true_eq_false, ↓reduceIte]
    first | exact ⟨_, _, rfl, rfl, rfl⟩ | done
  by_cases cjb : j < 0
  · simp (disch := omega) only [zf_X10_triangle, zf_X11_triangle, zf_X10_areCorners, zf_X5_hasCorner, zf_X10_isStep, zf_X10_isValue, zf_X7_canTell, zf_X7_wasSeenBefore, zf_X7_has, zf_X2_hasPlace, zf_X8_size, zf_X8_shorten, zf_X5_corners, zf_X5_hasCut, zf_X4_onWay, zf_X1_faultKind, zf_X1_faultPlace, zf_X7_size, zf_X7_rights, zf_X2_size, zf_X5_cutCount, zf_X11_in, zf_X11_isCorner, jrun_u, jstep, zno164e, zout, or_self, ↓if_pos, ↓if_neg, if_pos, if_neg, Option.bind_some, Bool.true_eq_false, ↓reduceIte]
    first | exact ⟨_, _, rfl, rfl, rfl⟩ | done
  by_cases cja : 2 < j
  · simp (disch := omega) only [zf_X10_triangle, zf_X11_triangle, zf_X10_areCorners, zf_X5_hasCorner, zf_X10_isStep, zf_X10_isValue, zf_X7_canTell, zf_X7_wasSeenBefore, zf_X7_has, zf_X2_hasPlace, zf_X8_size, zf_X8_shorten, zf_X5_corners, zf_X5_hasCut, zf_X4_onWay, zf_X1_faultKind, zf_X1_faultPlace, zf_X7_size, zf_X7_rights, zf_X2_size, zf_X5_cutCount, zf_X11_in, zf_X11_isCorner, jrun_u, jstep, zno164e, zout, or_self, ↓if_pos, ↓if_neg, if_pos, if_neg, Option.bind_some, Bool.true_eq_false, ↓reduceIte]
    first | exact ⟨_, _, rfl, rfl, rfl⟩ | done
  have hi9 : i = 0 ∨ i = 1 := by omega
  have hj9 : j = 0 ∨ j = 1 ∨ j = 2 := by omega
  rcases hi9 with rfl | rfl <;> rcases hj9 with rfl | rfl | rfl <;> exact ⟨_, _, rfl, rfl, rfl⟩
set_option maxRecDepth 20000 in
theorem ev_7 (i : Int) (j : Int) (zi : ¬ zout i) (zj : ¬ zout j) : ∃ o1 o2, zf_X10_entry 16 4 1 i j = some o1 ∧ zf_X11_entry 4 2 4 1 0xffffffff00000001ffffffff000000000000000000000000000000000000000000000000ffffffff00000000ffffffff0000000000000000000000000000000000000000000000000000000000000001ffffffff00000000ffffffff000000000000000000000000000000000000000000000000ffffffff00000000ffffffff00000000 0x100000000 0x300000002 0 0 0 0 i j = some o2 ∧ o1 = (o2.1) := by
  unfold zout at *
  by_cases cib : i < 0
  · simp (disch := omega) only [zf_X10_entry, zf_X11_entry, zf_X10_areCorners, zf_X5_hasCorner, zf_X10_isStep, zf_X10_isValue, zf_X7_canTell, zf_X7_wasSeenBefore, zf_X7_has, zf_X2_hasPlace, zf_X8_size, zf_X8_shorten, zf_X5_corners, zf_X5_hasCut, zf_X4_onWay, zf_X1_faultKind, zf_X1_faultPlace, zf_X7_size, zf_X7_rights, zf_X2_size, zf_X5_cutCount, zf_X11_in, zf_X11_isCorner, jrun_u, jstep, zno164e, zout, or_self, ↓if_pos, ↓if_neg, if_pos, if_neg, Option.bind_some, Bool.true_eq_false, ↓reduceIte]
    first | exact ⟨_, _, rfl, rfl, rfl⟩ | done
  by_cases cia : 3 < i
  · simp (disch := omega) only [zf_X10_entry, zf_X11_entry, zf_X10_areCorners, zf_X5_hasCorner, zf_X10_isStep, zf_X10_isValue, zf_X7_canTell, zf_X7_wasSeenBefore, zf_X7_has, zf_X2_hasPlace, zf_X8_size, zf_X8_shorten, zf_X5_corners, zf_X5_hasCut, zf_X4_onWay, zf_X1_faultKind, zf_X1_faultPlace, zf_X7_size, zf_X7_rights, zf_X2_size, zf_X5_cutCount, zf_X11_in, zf_X11_isCorner, jrun_u, jstep, zno164e, zout, or_self, ↓if_pos, ↓if_neg, if_pos, if_neg, Option.bind_some, Bool.true_eq_false, ↓reduceIte]
    first | exact ⟨_, _, rfl, rfl, rfl⟩ | done
  by_cases cjb : j < 0
  · simp (disch := omega) only [zf_X10_entry, zf_X11_entry, zf_X10_areCorners, zf_X5_hasCorner, zf_X10_isStep, zf_X10_isValue, zf_X7_canTell, zf_X7_wasSeenBefore, zf_X7_has, zf_X2_hasPlace, zf_X8_size, zf_X8_shorten, zf_X5_corners, zf_X5_hasCut, zf_X4_onWay, zf_X1_faultKind, zf_X1_faultPlace, zf_X7_size, zf_X7_rights, zf_X2_size, zf_X5_cutCount, zf_X11_in, zf_X11_isCorner, jrun_u, jstep, zno164e, zout, or_self, ↓if_pos, ↓if_neg, if_pos, if_neg, Option.bind_some, Bool.true_eq_false, ↓reduceIte]
    first | exact ⟨_, _, rfl, rfl, rfl⟩ | done
  by_cases cja : 3 < j
  · simp (disch := omega) only [zf_X10_entry, zf_X11_entry, zf_X10_areCorners, zf_X5_hasCorner, zf_X10_isStep, zf_X10_isValue, zf_X7_canTell, zf_X7_wasSeenBefore, zf_X7_has, zf_X2_hasPlace, zf_X8_size, zf_X8_shorten, zf_X5_corners, zf_X5_hasCut, zf_X4_onWay, zf_X1_faultKind, zf_X1_faultPlace, zf_X7_size, zf_X7_rights, zf_X2_size, zf_X5_cutCount, zf_X11_in, zf_X11_isCorner, jrun_u, jstep, zno164e, zout, or_self, ↓if_pos, ↓if_neg, if_pos, if_neg, Option.bind_some, Bool.true_eq_false, ↓reduceIte]
    first | exact ⟨_, _, rfl, rfl, rfl⟩ | done
  have hi9 : i = 0 ∨ i = 1 ∨ i = 2 ∨ i = 3 := by omega
  have hj9 : j = 0 ∨ j = 1 ∨ j = 2 ∨ j = 3 := by omega
  rcases hi9 with rfl | rfl | rfl | rfl <;> rcases hj9 with rfl | rfl | rfl | rfl <;> exact ⟨_, _, rfl, rfl, rfl⟩
set_option maxRecDepth 20000 in
theorem ev_8 (i : Int) (zi : ¬ zout i) : ∃ o1 o2, zf_X10_row 16 4 1 i = some o1 ∧ zf_X11_row 4 2 4 1 0xffffffff00000001ffffffff000000000000000000000000000000000000000000000000ffffffff00000000ffffffff0000000000000000000000000000000000000000000000000000000000000001ffffffff00000000ffffffff000000000000000000000000000000000000000000000000ffffffff00000000ffffffff00000000 0x100000000 0x300000002 i = some o2 ∧ o1 = (o2.1) := by
  unfold zout at *
  by_cases cib : i < 0
  · simp (disch := omega) only [zf_X10_row, zf_X11_row, zf_X10_areCorners, zf_X5_hasCorner, zf_X10_isStep, zf_X10_isValue, zf_X7_canTell, zf_X7_wasSeenBefore, zf_X7_has, zf_X2_hasPlace, zf_X8_size, zf_X8_shorten, zf_X5_corners, zf_X5_hasCut, zf_X4_onWay, zf_X1_faultKind, zf_X1_faultPlace, zf_X7_size, zf_X7_rights, zf_X2_size, zf_X5_cutCount, zf_X11_in, zf_X11_isCorner, jrun_u, jstep, zno164e, zout, or_self, ↓if_pos, ↓if_neg, if_pos, if_neg, Option.bind_some, Bool.true_eq_false, ↓reduceIte]
    first | exact ⟨_, _, rfl, rfl, rfl⟩ | done
  by_cases cia : 3 < i
  · simp (disch := omega) only [zf_X10_row, zf_X11_row, zf_X10_areCorners, zf_X5_hasCorner, zf_X10_isStep, zf_X10_isValue, zf_X7_canTell, zf_X7_wasSeenBefore, zf_X7_has, zf_X2_hasPlace, zf_X8_size, zf_X8_shorten, zf_X5_corners, zf_X5_hasCut, zf_X4_onWay, zf_X1_faultKind, zf_X1_faultPlace, zf_X7_size, zf_X7_rights, zf_X2_size, zf_X5_cutCount, zf_X11_in, zf_X11_isCorner, jrun_u, jstep, zno164e, zout, or_self, ↓if_pos, ↓if_neg, if_pos, if_neg, Option.bind_some, Bool.true_eq_false, ↓reduceIte]
    first | exact ⟨_, _, rfl, rfl, rfl⟩ | done
  have hi9 : i = 0 ∨ i = 1 ∨ i = 2 ∨ i = 3 := by omega
  rcases hi9 with rfl | rfl | rfl | rfl <;> exact ⟨_, _, rfl, rfl, rfl⟩
set_option maxRecDepth 20000 in
theorem ev_10 (i : Int) (j : Int) (zi : ¬ zout i) (zj : ¬ zout j) : ∃ o1 o2, zf_X10_flip 16 4 1 i j = some o1 ∧ zf_X11_flip 4 2 4 1 0 0 0xffffffff00000001ffffffff000000000000000000000000000000000000000000000000ffffffff00000000ffffffff0000000000000000000000000000000000000000000000000000000000000001ffffffff00000000ffffffff000000000000000000000000000000000000000000000000ffffffff00000000ffffffff00000000 0x100000000 0x300000002 i j = some o2 ∧ (o1.1) = (o2.1) := by
  unfold zout at *
  by_cases cib : i < 0
  · simp (disch := omega) only [zf_X10_flip, zf_X11_flip, zf_X10_areCorners, zf_X5_hasCorner, zf_X10_isStep, zf_X10_isValue, zf_X7_canTell, zf_X7_wasSeenBefore, zf_X7_has, zf_X2_hasPlace, zf_X8_size, zf_X8_shorten, zf_X5_corners, zf_X5_hasCut, zf_X4_onWay, zf_X1_faultKind, zf_X1_faultPlace, zf_X7_size, zf_X7_rights, zf_X2_size, zf_X5_cutCount, zf_X11_in, zf_X11_isCorner, jrun_u, jstep, zno164e, zout, or_self, ↓if_pos, ↓if_neg, if_pos, if_neg, Option.bind_some, Bool.true_eq_false, ↓reduceIte]
    first | exact ⟨_, _, rfl, rfl, rfl⟩ | done
  by_cases cia : 3 < i
  · simp (disch := omega) only [zf_X10_flip, zf_X11_flip, zf_X10_areCorners, zf_X5_hasCorner, zf_X10_isStep, zf_X10_isValue, zf_X7_canTell, zf_X7_wasSeenBefore, zf_X7_has, zf_X2_hasPlace, zf_X8_size, zf_X8_shorten, zf_X5_corners, zf_X5_hasCut, zf_X4_onWay, zf_X1_faultKind, zf_X1_faultPlace, zf_X7_size, zf_X7_rights, zf_X2_size, zf_X5_cutCount, zf_X11_in, zf_X11_isCorner, jrun_u, jstep, zno164e, zout, or_self, ↓if_pos, ↓if_neg, if_pos, if_neg, Option.bind_some, Bool.true_eq_false, ↓reduceIte]
    first | exact ⟨_, _, rfl, rfl, rfl⟩ | done
  by_cases cjb : j < 0
  · simp (disch := omega) only [zf_X10_flip, zf_X11_flip, zf_X10_areCorners, zf_X5_hasCorner, zf_X10_isStep, zf_X10_isValue, zf_X7_canTell, zf_X7_wasSeenBefore, zf_X7_has, zf_X2_hasPlace, zf_X8_size, zf_X8_shorten, zf_X5_corners, zf_X5_hasCut, zf_X4_onWay, zf_X1_faultKind, zf_X1_faultPlace, zf_X7_size, zf_X7_rights, zf_X2_size, zf_X5_cutCount, zf_X11_in, zf_X11_isCorner, jrun_u, jstep, zno164e, zout, or_self, ↓if_pos, ↓if_neg, if_pos, if_neg, Option.bind_some, Bool.true_eq_false, ↓reduceIte]
    first | exact ⟨_, _, rfl, rfl, rfl⟩ | done
  by_cases cja : 3 < j
  · simp (disch := omega) only [zf_X10_flip, zf_X11_flip, zf_X10_areCorners, zf_X5_hasCorner, zf_X10_isStep, zf_X10_isValue, zf_X7_canTell, zf_X7_wasSeenBefore, zf_X7_has, zf_X2_hasPlace, zf_X8_size, zf_X8_shorten, zf_X5_corners, zf_X5_hasCut, zf_X4_onWay, zf_X1_faultKind, zf_X1_faultPlace, zf_X7_size, zf_X7_rights, zf_X2_size, zf_X5_cutCount, zf_X11_in, zf_X11_isCorner, jrun_u, jstep, zno164e, zout, or_self, ↓if_pos, ↓if_neg, if_pos, if_neg, Option.bind_some, Bool.true_eq_false, ↓reduceIte]
    first | exact ⟨_, _, rfl, rfl, rfl⟩ | done
  have hi9 : i = 0 ∨ i = 1 ∨ i = 2 ∨ i = 3 := by omega
  have hj9 : j = 0 ∨ j = 1 ∨ j = 2 ∨ j = 3 := by omega
  rcases hi9 with rfl | rfl | rfl | rfl <;> rcases hj9 with rfl | rfl | rfl | rfl <;> exact ⟨_, _, rfl, rfl, rfl⟩
set_option maxRecDepth 20000 in
theorem ev_11 (i : Int) (zi : ¬ zout i) : ∃ o1 o2, zf_X10_fewest 16 4 1 0 0 0 0 0 i = some o1 ∧ zf_X11_fewest 4 2 4 2 4 1 0 0 0 0xffffffff00000001ffffffff000000000000000000000000000000000000000000000000ffffffff00000000ffffffff0000000000000000000000000000000000000000000000000000000000000001ffffffff00000000ffffffff000000000000000000000000000000000000000000000000ffffffff00000000ffffffff00000000 0x100000000 0x300000002 0x20000000000000001 0 0 0 i = some o2 ∧ (o1.1) = (o2.1) := by
  unfold zout at *
  by_cases c0 : i < 0
  · simp (disch := omega) only [zf_X10_fewest, zf_X11_fewest, zg_X11_fewest, zg_X11_fewest_0, zf_X10_areCorners, zf_X5_hasCorner, zf_X10_isStep, zf_X10_isValue, zf_X7_canTell, zf_X7_wasSeenBefore, zf_X7_has, zf_X2_hasPlace, zf_X8_size, zf_X8_shorten, zf_X5_corners, zf_X5_hasCut, zf_X4_onWay, zf_X1_faultKind, zf_X1_faultPlace, zf_X7_size, zf_X7_rights, zf_X2_size, zf_X5_cutCount, zf_X11_in, zf_X11_isCorner, jrun_u, jstep, zno164e, zout, or_self, ylf4, pg84, ↓if_pos, ↓if_neg, if_pos, if_neg, Option.bind_some, Bool.true_eq_false, ↓reduceIte]
    first | exact ⟨_, _, rfl, rfl, rfl⟩ | done
  by_cases ca : 1 < i
  · have hx : zf_X10_fewest 16 4 1 0 0 0 0 0 i = some ((-2), 0, 0, 0, 0, 0) := by
      unfold zf_X10_fewest zf_X5_hasCut
      rw [if_neg zno164, if_neg (by unfold zout; omega), if_neg (by omega), if_neg (by decide), if_pos (by rw [pg84]; omega)]
      rfl
    simp (disch := omega) only [hx, zf_X11_fewest, zg_X11_fewest, zg_X11_fewest_0, zf_X10_areCorners, zf_X5_hasCorner, zf_X10_isStep, zf_X10_isValue, zf_X7_canTell, zf_X7_wasSeenBefore, zf_X7_has, zf_X2_hasPlace, zf_X8_size, zf_X8_shorten, zf_X5_corners, zf_X5_hasCut, zf_X4_onWay, zf_X1_faultKind, zf_X1_faultPlace, zf_X7_size, zf_X7_rights, zf_X2_size, zf_X5_cutCount, zf_X11_in, zf_X11_isCorner, jrun_u, jstep, zno164e, zout, or_self, ylf4, ↓if_pos, ↓if_neg, if_pos, if_neg, Option.bind_some, Bool.true_eq_false, ↓reduceIte]
    exact ⟨_, _, rfl, rfl, rfl⟩
  have hi9 : i = 0 ∨ i = 1 := by omega
  rcases hi9 with rfl | rfl <;> exact ⟨_, _, rfl, rfl, rfl⟩
set_option maxRecDepth 20000 in
theorem ev_12 (i : Int) (zi : ¬ zout i) : ∃ o1 o2, zf_X10_passed 16 0 0 i = some o1 ∧ zf_X11_passed 0 0 i = some o2 ∧ o1 = o2 := by
  unfold zout at *
  by_cases c0 : i < 0
  · simp (disch := omega) only [zf_X10_passed, zf_X11_passed, zf_X10_areCorners, zf_X5_hasCorner, zf_X10_isStep, zf_X10_isValue, zf_X7_canTell, zf_X7_wasSeenBefore, zf_X7_has, zf_X2_hasPlace, zf_X8_size, zf_X8_shorten, zf_X5_corners, zf_X5_hasCut, zf_X4_onWay, zf_X1_faultKind, zf_X1_faultPlace, zf_X7_size, zf_X7_rights, zf_X2_size, zf_X5_cutCount, zf_X11_in, zf_X11_isCorner, jrun_u, jstep, zno164e, zout, or_self, ↓if_pos, ↓if_neg, if_pos, if_neg, Option.bind_some, Bool.true_eq_false, ↓reduceIte]
    first | exact ⟨_, _, rfl, rfl, rfl⟩ | done
  simp (disch := omega) only [zf_X10_passed, zf_X11_passed, zf_X10_areCorners, zf_X5_hasCorner, zf_X10_isStep, zf_X10_isValue, zf_X7_canTell, zf_X7_wasSeenBefore, zf_X7_has, zf_X2_hasPlace, zf_X8_size, zf_X8_shorten, zf_X5_corners, zf_X5_hasCut, zf_X4_onWay, zf_X1_faultKind, zf_X1_faultPlace, zf_X7_size, zf_X7_rights, zf_X2_size, zf_X5_cutCount, zf_X11_in, zf_X11_isCorner, jrun_u, jstep, zno164e, zout, or_self, ↓if_pos, ↓if_neg, if_pos, if_neg, Option.bind_some, Bool.true_eq_false, ↓reduceIte]
  first | exact ⟨_, _, rfl, rfl, rfl⟩ | done
set_option maxRecDepth 20000 in
theorem ev_13 (i : Int) (zi : ¬ zout i) : ∃ o1 o2, zf_X10_farthest 16 4 1 0 0 0 i = some o1 ∧ zf_X11_farthest 4 2 4 2 4 1 0 0 0xffffffff00000001ffffffff000000000000000000000000000000000000000000000000ffffffff00000000ffffffff0000000000000000000000000000000000000000000000000000000000000001ffffffff00000000ffffffff000000000000000000000000000000000000000000000000ffffffff00000000ffffffff00000000 0x100000000 0x300000002 0x20000000000000001 0 0 i = some o2 ∧ (o1.1) = (o2.1) := by
  unfold zout at *
  by_cases cib : i < 0
  · simp (disch := omega) only [zf_X10_farthest, zf_X11_farthest, zg_X10_farthest, zg_X10_farthest_0, zg_X11_farthest, zg_X11_farthest_0, zf_X10_areCorners, zf_X5_hasCorner, zf_X10_isStep, zf_X10_isValue, zf_X7_canTell, zf_X7_wasSeenBefore, zf_X7_has, zf_X2_hasPlace, zf_X8_size, zf_X8_shorten, zf_X5_corners, zf_X5_hasCut, zf_X4_onWay, zf_X1_faultKind, zf_X1_faultPlace, zf_X7_size, zf_X7_rights, zf_X2_size, zf_X5_cutCount, zf_X11_in, zf_X11_isCorner, jrun_u, jstep, zno164e, zout, or_self, ↓if_pos, ↓if_neg, if_pos, if_neg, Option.bind_some, Bool.true_eq_false, ↓reduceIte]
    first | exact ⟨_, _, rfl, rfl, rfl⟩ | done
  by_cases cia : 1 < i
  · simp (disch := omega) only [zf_X10_farthest, zf_X11_farthest, zg_X10_farthest, zg_X10_farthest_0, zg_X11_farthest, zg_X11_farthest_0, zf_X10_areCorners, zf_X5_hasCorner, zf_X10_isStep, zf_X10_isValue, zf_X7_canTell, zf_X7_wasSeenBefore, zf_X7_has, zf_X2_hasPlace, zf_X8_size, zf_X8_shorten, zf_X5_corners, zf_X5_hasCut, zf_X4_onWay, zf_X1_faultKind, zf_X1_faultPlace, zf_X7_size, zf_X7_rights, zf_X2_size, zf_X5_cutCount, zf_X11_in, zf_X11_isCorner, jrun_u, jstep, zno164e, zout, or_self, ↓if_pos, ↓if_neg, if_pos, if_neg, Option.bind_some, Bool.true_eq_false, ↓reduceIte]
    first | exact ⟨_, _, rfl, rfl, rfl⟩ | done
  have hi9 : i = 0 ∨ i = 1 := by omega
  rcases hi9 with rfl | rfl <;> exact ⟨_, _, rfl, rfl, rfl⟩
set_option maxRecDepth 20000 in
theorem ev_14 (b : Bool) : ∃ o1 o2, zf_X10_least 16 4 1 b = some o1 ∧ zf_X11_least 4 2 4 2 4 1 0xffffffff00000001ffffffff000000000000000000000000000000000000000000000000ffffffff00000000ffffffff0000000000000000000000000000000000000000000000000000000000000001ffffffff00000000ffffffff000000000000000000000000000000000000000000000000ffffffff00000000ffffffff00000000 0x100000000 0x300000002 0x20000000000000001 b = some o2 ∧ o1 = (o2.1) := by
  cases b <;> exact ⟨_, _, rfl, rfl, rfl⟩
set_option maxRecDepth 20000 in
theorem ev_16   : ∃ o1 o2, zf_X10_read 16 4 1 0 0 0 0 0 0 0 = some o1 ∧ zf_X11_read 0 0 0 0 0 0 0 4 2 4 2 4 1 0 0 0xffffffff00000001ffffffff000000000000000000000000000000000000000000000000ffffffff00000000ffffffff0000000000000000000000000000000000000000000000000000000000000001ffffffff00000000ffffffff000000000000000000000000000000000000000000000000ffffffff00000000ffffffff00000000 0x100000000 0x300000002 0x20000000000000001 0 = some o2 ∧ (o1.1) = (o2.1) := by
  exact ⟨_, _, rfl, rfl, rfl⟩
set_option maxRecDepth 20000 in
theorem ev_17   : ∃ o1 o2, zf_X10_mend 16 4 (-1) 0 0 0 0 0 0 0 = some o1 ∧ zf_X11_mend 0 0 0 0 0 0 0 4 2 4 2 4 0 (-1) 0 0xffffffff00000001ffffffff000000000000000000000000000000000000000000000000ffffffff00000000ffffffff0000000000000000000000000000000000000000000000000000000000000001ffffffff00000000ffffffff000000000000000000000000000000000000000000000000ffffffff00000000ffffffff00000000 0x100000000 0x300000002 0x20000000000000001 0 = some o2 ∧ (o1.1) = (o2.1) := by
  exact ⟨_, _, rfl, rfl, rfl⟩
set_option maxRecDepth 20000 in
theorem ev_18   : ∃ o1 o2, zf_X10_mended 16 (-1) = some o1 ∧ zf_X11_mended (-1) = some o2 ∧ o1 = o2 := by
  exact ⟨_, _, rfl, rfl, rfl⟩
set_option maxRecDepth 20000 in
theorem ev_19 (i : Int) (j : Int) (k : Int) (zi : ¬ zout i) (zj : ¬ zout j) (zk : ¬ zout k) : ∃ o1 o2, zf_X10_crossed 16 4 1 0 0 i j k = some o1 ∧ zf_X11_crossed 4 2 4 1 0 0xffffffff00000001ffffffff000000000000000000000000000000000000000000000000ffffffff00000000ffffffff0000000000000000000000000000000000000000000000000000000000000001ffffffff00000000ffffffff000000000000000000000000000000000000000000000000ffffffff00000000ffffffff00000000 0x100000000 0x300000002 0 0 i j k = some o2 ∧ (o1.1) = (o2.1) := by
  unfold zout at *
  by_cases c0 : i < 0
  · simp (disch := omega) only [zf_X10_crossed, zf_X11_crossed, zf_X10_areCorners, zf_X5_hasCorner, zf_X10_isStep, zf_X10_isValue, zf_X7_canTell, zf_X7_wasSeenBefore, zf_X7_has, zf_X2_hasPlace, zf_X8_size, zf_X8_shorten, zf_X5_corners, zf_X5_hasCut, zf_X4_onWay, zf_X1_faultKind, zf_X1_faultPlace, zf_X7_size, zf_X7_rights, zf_X2_size, zf_X5_cutCount, zf_X11_in, zf_X11_isCorner, jrun_u, jstep, zno164e, zout, or_self, ↓if_pos, ↓if_neg, if_pos, if_neg, Option.bind_some, Bool.true_eq_false, ↓reduceIte]
    first | exact ⟨_, _, rfl, rfl, rfl⟩ | done
  by_cases c1 : 3 < i
  · simp (disch := omega) only [zf_X10_crossed, zf_X11_crossed, zf_X10_areCorners, zf_X5_hasCorner, zf_X10_isStep, zf_X10_isValue, zf_X7_canTell, zf_X7_wasSeenBefore, zf_X7_has, zf_X2_hasPlace, zf_X8_size, zf_X8_shorten, zf_X5_corners, zf_X5_hasCut, zf_X4_onWay, zf_X1_faultKind, zf_X1_faultPlace, zf_X7_size, zf_X7_rights, zf_X2_size, zf_X5_cutCount, zf_X11_in, zf_X11_isCorner, jrun_u, jstep, zno164e, zout, or_self, ↓if_pos, ↓if_neg, if_pos, if_neg, Option.bind_some, Bool.true_eq_false, ↓reduceIte]
    first | exact ⟨_, _, rfl, rfl, rfl⟩ | done
  by_cases c2 : j < 0
  · simp (disch := omega) only [zf_X10_crossed, zf_X11_crossed, zf_X10_areCorners, zf_X5_hasCorner, zf_X10_isStep, zf_X10_isValue, zf_X7_canTell, zf_X7_wasSeenBefore, zf_X7_has, zf_X2_hasPlace, zf_X8_size, zf_X8_shorten, zf_X5_corners, zf_X5_hasCut, zf_X4_onWay, zf_X1_faultKind, zf_X1_faultPlace, zf_X7_size, zf_X7_rights, zf_X2_size, zf_X5_cutCount, zf_X11_in, zf_X11_isCorner, jrun_u, jstep, zno164e, zout, or_self, ↓if_pos, ↓if_neg, if_pos, if_neg, Option.bind_some, Bool.true_eq_false, ↓reduceIte]
    first | exact ⟨_, _, rfl, rfl, rfl⟩ | done
  by_cases c3 : 3 < j
  · simp (disch := omega) only [zf_X10_crossed, zf_X11_crossed, zf_X10_areCorners, zf_X5_hasCorner, zf_X10_isStep, zf_X10_isValue, zf_X7_canTell, zf_X7_wasSeenBefore, zf_X7_has, zf_X2_hasPlace, zf_X8_size, zf_X8_shorten, zf_X5_corners, zf_X5_hasCut, zf_X4_onWay, zf_X1_faultKind, zf_X1_faultPlace, zf_X7_size, zf_X7_rights, zf_X2_size, zf_X5_cutCount, zf_X11_in, zf_X11_isCorner, jrun_u, jstep, zno164e, zout, or_self, ↓if_pos, ↓if_neg, if_pos, if_neg, Option.bind_some, Bool.true_eq_false, ↓reduceIte]
    first | exact ⟨_, _, rfl, rfl, rfl⟩ | done
  have hi9 : i = 0 ∨ i = 1 ∨ i = 2 ∨ i = 3 := by omega
  have hj9 : j = 0 ∨ j = 1 ∨ j = 2 ∨ j = 3 := by omega
  rcases hi9 with rfl | rfl | rfl | rfl <;> rcases hj9 with rfl | rfl | rfl | rfl
  · simp (disch := omega) only [zf_X10_crossed, zf_X11_crossed, zf_X10_areCorners, zf_X5_hasCorner, zf_X10_isStep, zf_X10_isValue, zf_X7_canTell, zf_X7_wasSeenBefore, zf_X7_has, zf_X2_hasPlace, zf_X8_size, zf_X8_shorten, zf_X5_corners, zf_X5_hasCut, zf_X4_onWay, zf_X1_faultKind, zf_X1_faultPlace, zf_X7_size, zf_X7_rights, zf_X2_size, zf_X5_cutCount, zf_X11_in, zf_X11_isCorner, jrun_u, jstep, zno164e, zout, or_self, ↓if_pos, ↓if_neg, if_pos, if_neg, Option.bind_some, Bool.true_eq_false, ↓reduceIte]
    first | exact ⟨_, _, rfl, rfl, rfl⟩ | done
  · have ga9 : zf_X0_gather 16 0 0 4 1 0 1 = some (0, 0) := rfl
    have ya9 : zf_X11_cross 4 2 4 1 0 0xffffffff00000001ffffffff000000000000000000000000000000000000000000000000ffffffff00000000ffffffff0000000000000000000000000000000000000000000000000000000000000001ffffffff00000000ffffffff000000000000000000000000000000000000000000000000ffffffff00000000ffffffff00000000 0x100000000 0x300000002 0 0 0 1 = some (2, 4, 0, 0xffffffff00000001ffffffff000000000000000000000000000000000000000000000000ffffffff00000000ffffffff0000000000000000000000000000000000000000000000000000000000000001ffffffff00000000ffffffff000000000000000000000000000000000000000000000000ffffffff00000000ffffffff00000000, 0x100000000, 0x300000002, 0, 0) := rfl
    by_cases kz : k = 0
    · subst kz
      exact ⟨_, _, rfl, rfl, rfl⟩
    by_cases k0 : k = -1
    · simp (disch := omega) only [zf_X10_crossed, zf_X11_crossed, zf_X10_areCorners, zf_X5_hasCorner, zf_X10_isStep, zf_X10_isValue, zf_X7_canTell, zf_X7_wasSeenBefore, zf_X7_has, zf_X2_hasPlace, zf_X8_size, zf_X8_shorten, zf_X5_corners, zf_X5_hasCut, zf_X4_onWay, zf_X1_faultKind, zf_X1_faultPlace, zf_X7_size, zf_X7_rights, zf_X2_size, zf_X5_cutCount, zf_X11_in, zf_X11_isCorner, jrun_u, jstep, zno164e, zout, or_self, ga9, ya9, zf_X0_size, zf_X0_pairAt, zf_X0_sharedWithNext, ↓if_pos, ↓if_neg, if_pos, if_neg, Option.bind_some, Bool.true_eq_false, ↓reduceIte]
      first | exact ⟨_, _, rfl, rfl, rfl⟩ | done
    by_cases k1 : k < 0
    · simp (disch := omega) only [zf_X10_crossed, zf_X11_crossed, zf_X10_areCorners, zf_X5_hasCorner, zf_X10_isStep, zf_X10_isValue, zf_X7_canTell, zf_X7_wasSeenBefore, zf_X7_has, zf_X2_hasPlace, zf_X8_size, zf_X8_shorten, zf_X5_corners, zf_X5_hasCut, zf_X4_onWay, zf_X1_faultKind, zf_X1_faultPlace, zf_X7_size, zf_X7_rights, zf_X2_size, zf_X5_cutCount, zf_X11_in, zf_X11_isCorner, jrun_u, jstep, zno164e, zout, or_self, ga9, ya9, zf_X0_size, zf_X0_pairAt, zf_X0_sharedWithNext, ↓if_pos, ↓if_neg, if_pos, if_neg, Option.bind_some, Bool.true_eq_false, ↓reduceIte]
      first | exact ⟨_, _, rfl, rfl, rfl⟩ | done
    simp (disch := omega) only [zf_X10_crossed, zf_X11_crossed, zf_X10_areCorners, zf_X5_hasCorner, zf_X10_isStep, zf_X10_isValue, zf_X7_canTell, zf_X7_wasSeenBefore, zf_X7_has, zf_X2_hasPlace, zf_X8_size, zf_X8_shorten, zf_X5_corners, zf_X5_hasCut, zf_X4_onWay, zf_X1_faultKind, zf_X1_faultPlace, zf_X7_size, zf_X7_rights, zf_X2_size, zf_X5_cutCount, zf_X11_in, zf_X11_isCorner, jrun_u, jstep, zno164e, zout, or_self, ga9, ya9, zf_X0_size, zf_X0_pairAt, zf_X0_sharedWithNext, ↓if_pos, ↓if_neg, if_pos, if_neg, Option.bind_some, Bool.true_eq_false, ↓reduceIte]
    first | exact ⟨_, _, rfl, rfl, rfl⟩ | done
  · have ga9 : zf_X0_gather 16 0 0 4 1 0 2 = some (0, 0) := rfl
    have ya9 : zf_X11_cross 4 2 4 1 0 0xffffffff00000001ffffffff000000000000000000000000000000000000000000000000ffffffff00000000ffffffff0000000000000000000000000000000000000000000000000000000000000001ffffffff00000000ffffffff000000000000000000000000000000000000000000000000ffffffff00000000ffffffff00000000 0x100000000 0x300000002 0 0 0 2 = some (2, 4, 0, 0xffffffff00000001ffffffff000000000000000000000000000000000000000000000000ffffffff00000000ffffffff0000000000000000000000000000000000000000000000000000000000000001ffffffff00000000ffffffff000000000000000000000000000000000000000000000000ffffffff00000000ffffffff00000000, 0x100000000, 0x300000002, 0, 0) := rfl
    by_cases kz : k = 0
    · subst kz
      exact ⟨_, _, rfl, rfl, rfl⟩
    by_cases k0 : k = -1
    · simp (disch := omega) only [zf_X10_crossed, zf_X11_crossed, zf_X10_areCorners, zf_X5_hasCorner, zf_X10_isStep, zf_X10_isValue, zf_X7_canTell, zf_X7_wasSeenBefore, zf_X7_has, zf_X2_hasPlace, zf_X8_size, zf_X8_shorten, zf_X5_corners, zf_X5_hasCut, zf_X4_onWay, zf_X1_faultKind, zf_X1_faultPlace, zf_X7_size, zf_X7_rights, zf_X2_size, zf_X5_cutCount, zf_X11_in, zf_X11_isCorner, jrun_u, jstep, zno164e, zout, or_self, ga9, ya9, zf_X0_size, zf_X0_pairAt, zf_X0_sharedWithNext, ↓if_pos, ↓if_neg, if_pos, if_neg, Option.bind_some, Bool.true_eq_false, ↓reduceIte]
      first | exact ⟨_, _, rfl, rfl, rfl⟩ | done
    by_cases k1 : k < 0
    · simp (disch := omega) only [zf_X10_crossed, zf_X11_crossed, zf_X10_areCorners, zf_X5_hasCorner, zf_X10_isStep, zf_X10_isValue, zf_X7_canTell, zf_X7_wasSeenBefore, zf_X7_has, zf_X2_hasPlace, zf_X8_size, zf_X8_shorten, zf_X5_corners, zf_X5_hasCut, zf_X4_onWay, zf_X1_faultKind, zf_X1_faultPlace, zf_X7_size, zf_X7_rights, zf_X2_size, zf_X5_cutCount, zf_X11_in, zf_X11_isCorner, jrun_u, jstep, zno164e, zout, or_self, ga9, ya9, zf_X0_size, zf_X0_pairAt, zf_X0_sharedWithNext, ↓if_pos, ↓if_neg, if_pos, if_neg, Option.bind_some, Bool.true_eq_false, ↓reduceIte]
      first | exact ⟨_, _, rfl, rfl, rfl⟩ | done
    simp (disch := omega) only [zf_X10_crossed, zf_X11_crossed, zf_X10_areCorners, zf_X5_hasCorner, zf_X10_isStep, zf_X10_isValue, zf_X7_canTell, zf_X7_wasSeenBefore, zf_X7_has, zf_X2_hasPlace, zf_X8_size, zf_X8_shorten, zf_X5_corners, zf_X5_hasCut, zf_X4_onWay, zf_X1_faultKind, zf_X1_faultPlace, zf_X7_size, zf_X7_rights, zf_X2_size, zf_X5_cutCount, zf_X11_in, zf_X11_isCorner, jrun_u, jstep, zno164e, zout, or_self, ga9, ya9, zf_X0_size, zf_X0_pairAt, zf_X0_sharedWithNext, ↓if_pos, ↓if_neg, if_pos, if_neg, Option.bind_some, Bool.true_eq_false, ↓reduceIte]
    first | exact ⟨_, _, rfl, rfl, rfl⟩ | done
  · have ga9 : zf_X0_gather 16 0 0 4 1 0 3 = some (0, 0) := rfl
    have ya9 : zf_X11_cross 4 2 4 1 0 0xffffffff00000001ffffffff000000000000000000000000000000000000000000000000ffffffff00000000ffffffff0000000000000000000000000000000000000000000000000000000000000001ffffffff00000000ffffffff000000000000000000000000000000000000000000000000ffffffff00000000ffffffff00000000 0x100000000 0x300000002 0 0 0 3 = some (2, 4, 0, 0xffffffff00000001ffffffff000000000000000000000000000000000000000000000000ffffffff00000000ffffffff0000000000000000000000000000000000000000000000000000000000000001ffffffff00000000ffffffff000000000000000000000000000000000000000000000000ffffffff00000000ffffffff00000000, 0x100000000, 0x300000002, 0, 0) := rfl
    by_cases kz : k = 0
    · subst kz
      exact ⟨_, _, rfl, rfl, rfl⟩
    by_cases k0 : k = -1
    · simp (disch := omega) only [zf_X10_crossed, zf_X11_crossed, zf_X10_areCorners, zf_X5_hasCorner, zf_X10_isStep, zf_X10_isValue, zf_X7_canTell, zf_X7_wasSeenBefore, zf_X7_has, zf_X2_hasPlace, zf_X8_size, zf_X8_shorten, zf_X5_corners, zf_X5_hasCut, zf_X4_onWay, zf_X1_faultKind, zf_X1_faultPlace, zf_X7_size, zf_X7_rights, zf_X2_size, zf_X5_cutCount, zf_X11_in, zf_X11_isCorner, jrun_u, jstep, zno164e, zout, or_self, ga9, ya9, zf_X0_size, zf_X0_pairAt, zf_X0_sharedWithNext, ↓if_pos, ↓if_neg, if_pos, if_neg, Option.bind_some, Bool.true_eq_false, ↓reduceIte]
      first | exact ⟨_, _, rfl, rfl, rfl⟩ | done
    by_cases k1 : k < 0
    · simp (disch := omega) only [zf_X10_crossed, zf_X11_crossed, zf_X10_areCorners, zf_X5_hasCorner, zf_X10_isStep, zf_X10_isValue, zf_X7_canTell, zf_X7_wasSeenBefore, zf_X7_has, zf_X2_hasPlace, zf_X8_size, zf_X8_shorten, zf_X5_corners, zf_X5_hasCut, zf_X4_onWay, zf_X1_faultKind, zf_X1_faultPlace, zf_X7_size, zf_X7_rights, zf_X2_size, zf_X5_cutCount, zf_X11_in, zf_X11_isCorner, jrun_u, jstep, zno164e, zout, or_self, ga9, ya9, zf_X0_size, zf_X0_pairAt, zf_X0_sharedWithNext, ↓if_pos, ↓if_neg, if_pos, if_neg, Option.bind_some, Bool.true_eq_false, ↓reduceIte]
      first | exact ⟨_, _, rfl, rfl, rfl⟩ | done
    simp (disch := omega) only [zf_X10_crossed, zf_X11_crossed, zf_X10_areCorners, zf_X5_hasCorner, zf_X10_isStep, zf_X10_isValue, zf_X7_canTell, zf_X7_wasSeenBefore, zf_X7_has, zf_X2_hasPlace, zf_X8_size, zf_X8_shorten, zf_X5_corners, zf_X5_hasCut, zf_X4_onWay, zf_X1_faultKind, zf_X1_faultPlace, zf_X7_size, zf_X7_rights, zf_X2_size, zf_X5_cutCount, zf_X11_in, zf_X11_isCorner, jrun_u, jstep, zno164e, zout, or_self, ga9, ya9, zf_X0_size, zf_X0_pairAt, zf_X0_sharedWithNext, ↓if_pos, ↓if_neg, if_pos, if_neg, Option.bind_some, Bool.true_eq_false, ↓reduceIte]
    first | exact ⟨_, _, rfl, rfl, rfl⟩ | done
  · have ga9 : zf_X0_gather 16 0 0 4 1 1 0 = some (0, 0) := rfl
    have ya9 : zf_X11_cross 4 2 4 1 0 0xffffffff00000001ffffffff000000000000000000000000000000000000000000000000ffffffff00000000ffffffff0000000000000000000000000000000000000000000000000000000000000001ffffffff00000000ffffffff000000000000000000000000000000000000000000000000ffffffff00000000ffffffff00000000 0x100000000 0x300000002 0 0 1 0 = some (2, 4, 0, 0xffffffff00000001ffffffff000000000000000000000000000000000000000000000000ffffffff00000000ffffffff0000000000000000000000000000000000000000000000000000000000000001ffffffff00000000ffffffff000000000000000000000000000000000000000000000000ffffffff00000000ffffffff00000000, 0x100000000, 0x300000002, 0, 0) := rfl
    by_cases kz : k = 0
    · subst kz
      exact ⟨_, _, rfl, rfl, rfl⟩
    by_cases k0 : k = -1
    · simp (disch := omega) only [zf_X10_crossed, zf_X11_crossed, zf_X10_areCorners, zf_X5_hasCorner, zf_X10_isStep, zf_X10_isValue, zf_X7_canTell, zf_X7_wasSeenBefore, zf_X7_has, zf_X2_hasPlace, zf_X8_size, zf_X8_shorten, zf_X5_corners, zf_X5_hasCut, zf_X4_onWay, zf_X1_faultKind, zf_X1_faultPlace, zf_X7_size, zf_X7_rights, zf_X2_size, zf_X5_cutCount, zf_X11_in, zf_X11_isCorner, jrun_u, jstep, zno164e, zout, or_self, ga9, ya9, zf_X0_size, zf_X0_pairAt, zf_X0_sharedWithNext, ↓if_pos, ↓if_neg, if_pos, if_neg, Option.bind_some, Bool.true_eq_false, ↓reduceIte]
      first | exact ⟨_, _, rfl, rfl, rfl⟩ | done
    by_cases k1 : k < 0
    · simp (disch := omega) only [zf_X10_crossed, zf_X11_crossed, zf_X10_areCorners, zf_X5_hasCorner, zf_X10_isStep, zf_X10_isValue, zf_X7_canTell, zf_X7_wasSeenBefore, zf_X7_has, zf_X2_hasPlace, zf_X8_size, zf_X8_shorten, zf_X5_corners, zf_X5_hasCut, zf_X4_onWay, zf_X1_faultKind, zf_X1_faultPlace, zf_X7_size, zf_X7_rights, zf_X2_size, zf_X5_cutCount, zf_X11_in, zf_X11_isCorner, jrun_u, jstep, zno164e, zout, or_self, ga9, ya9, zf_X0_size, zf_X0_pairAt, zf_X0_sharedWithNext, ↓if_pos, ↓if_neg, if_pos, if_neg, Option.bind_some, Bool.true_eq_false, ↓reduceIte]
      first | exact ⟨_, _, rfl, rfl, rfl⟩ | done
    simp (disch := omega) only [zf_X10_crossed, zf_X11_crossed, zf_X10_areCorners, zf_X5_hasCorner, zf_X10_isStep, zf_X10_isValue, zf_X7_canTell, zf_X7_wasSeenBefore, zf_X7_has, zf_X2_hasPlace, zf_X8_size, zf_X8_shorten, zf_X5_corners, zf_X5_hasCut, zf_X4_onWay, zf_X1_faultKind, zf_X1_faultPlace, zf_X7_size, zf_X7_rights, zf_X2_size, zf_X5_cutCount, zf_X11_in, zf_X11_isCorner, jrun_u, jstep, zno164e, zout, or_self, ga9, ya9, zf_X0_size, zf_X0_pairAt, zf_X0_sharedWithNext, ↓if_pos, ↓if_neg, if_pos, if_neg, Option.bind_some, Bool.true_eq_false, ↓reduceIte]
    first | exact ⟨_, _, rfl, rfl, rfl⟩ | done
  · simp (disch := omega) only [zf_X10_crossed, zf_X11_crossed, zf_X10_areCorners, zf_X5_hasCorner, zf_X10_isStep, zf_X10_isValue, zf_X7_canTell, zf_X7_wasSeenBefore, zf_X7_has, zf_X2_hasPlace, zf_X8_size, zf_X8_shorten, zf_X5_corners, zf_X5_hasCut, zf_X4_onWay, zf_X1_faultKind, zf_X1_faultPlace, zf_X7_size, zf_X7_rights, zf_X2_size, zf_X5_cutCount, zf_X11_in, zf_X11_isCorner, jrun_u, jstep, zno164e, zout, or_self, ↓if_pos, ↓if_neg, if_pos, if_neg, Option.bind_some, Bool.true_eq_false, ↓reduceIte]
    first | exact ⟨_, _, rfl, rfl, rfl⟩ | done
  · have ga9 : zf_X0_gather 16 0 0 4 1 1 2 = some (0, 0) := rfl
    have ya9 : zf_X11_cross 4 2 4 1 0 0xffffffff00000001ffffffff000000000000000000000000000000000000000000000000ffffffff00000000ffffffff0000000000000000000000000000000000000000000000000000000000000001ffffffff00000000ffffffff000000000000000000000000000000000000000000000000ffffffff00000000ffffffff00000000 0x100000000 0x300000002 0 0 1 2 = some (2, 4, 0, 0xffffffff00000001ffffffff000000000000000000000000000000000000000000000000ffffffff00000000ffffffff0000000000000000000000000000000000000000000000000000000000000001ffffffff00000000ffffffff000000000000000000000000000000000000000000000000ffffffff00000000ffffffff00000000, 0x100000000, 0x300000002, 0, 0) := rfl
    by_cases kz : k = 0
    · subst kz
      exact ⟨_, _, rfl, rfl, rfl⟩
    by_cases k0 : k = -1
    · simp (disch := omega) only [zf_X10_crossed, zf_X11_crossed, zf_X10_areCorners, zf_X5_hasCorner, zf_X10_isStep, zf_X10_isValue, zf_X7_canTell, zf_X7_wasSeenBefore, zf_X7_has, zf_X2_hasPlace, zf_X8_size, zf_X8_shorten, zf_X5_corners, zf_X5_hasCut, zf_X4_onWay, zf_X1_faultKind, zf_X1_faultPlace, zf_X7_size, zf_X7_rights, zf_X2_size, zf_X5_cutCount, zf_X11_in, zf_X11_isCorner, jrun_u, jstep, zno164e, zout, or_self, ga9, ya9, zf_X0_size, zf_X0_pairAt, zf_X0_sharedWithNext, ↓if_pos, ↓if_neg, if_pos, if_neg, Option.bind_some, Bool.true_eq_false, ↓reduceIte]
      first | exact ⟨_, _, rfl, rfl, rfl⟩ | done
    by_cases k1 : k < 0
    · simp (disch := omega) only [zf_X10_crossed, zf_X11_crossed, zf_X10_areCorners, zf_X5_hasCorner, zf_X10_isStep, zf_X10_isValue, zf_X7_canTell, zf_X7_wasSeenBefore, zf_X7_has, zf_X2_hasPlace, zf_X8_size, zf_X8_shorten, zf_X5_corners, zf_X5_hasCut, zf_X4_onWay, zf_X1_faultKind, zf_X1_faultPlace, zf_X7_size, zf_X7_rights, zf_X2_size, zf_X5_cutCount, zf_X11_in, zf_X11_isCorner, jrun_u, jstep, zno164e, zout, or_self, ga9, ya9, zf_X0_size, zf_X0_pairAt, zf_X0_sharedWithNext, ↓if_pos, ↓if_neg, if_pos, if_neg, Option.bind_some, Bool.true_eq_false, ↓reduceIte]
      first | exact ⟨_, _, rfl, rfl, rfl⟩ | done
    simp (disch := omega) only [zf_X10_crossed, zf_X11_crossed, zf_X10_areCorners, zf_X5_hasCorner, zf_X10_isStep, zf_X10_isValue, zf_X7_canTell, zf_X7_wasSeenBefore, zf_X7_has, zf_X2_hasPlace, zf_X8_size, zf_X8_shorten, zf_X5_corners, zf_X5_hasCut, zf_X4_onWay, zf_X1_faultKind, zf_X1_faultPlace, zf_X7_size, zf_X7_rights, zf_X2_size, zf_X5_cutCount, zf_X11_in, zf_X11_isCorner, jrun_u, jstep, zno164e, zout, or_self, ga9, ya9, zf_X0_size, zf_X0_pairAt, zf_X0_sharedWithNext, ↓if_pos, ↓if_neg, if_pos, if_neg, Option.bind_some, Bool.true_eq_false, ↓reduceIte]
    first | exact ⟨_, _, rfl, rfl, rfl⟩ | done
  · have ga9 : zf_X0_gather 16 0 0 4 1 1 3 = some (1, 0) := rfl
    have ya9 : zf_X11_cross 4 2 4 1 0 0xffffffff00000001ffffffff000000000000000000000000000000000000000000000000ffffffff00000000ffffffff0000000000000000000000000000000000000000000000000000000000000001ffffffff00000000ffffffff000000000000000000000000000000000000000000000000ffffffff00000000ffffffff00000000 0x100000000 0x300000002 0 0 1 3 = some (2, 4, 1, 0xffffffff00000001ffffffff000000000000000000000000000000000000000000000000ffffffff00000000ffffffff0000000000000000000000000000000000000000000000000000000000000001ffffffff00000000ffffffff000000000000000000000000000000000000000000000000ffffffff00000000ffffffff00000000, 0x100000000, 0x300000002, 0, 2) := rfl
    by_cases kz : k = 0
    · subst kz
      exact ⟨_, _, rfl, rfl, rfl⟩
    by_cases k0 : k = -1
    · simp (disch := omega) only [zf_X10_crossed, zf_X11_crossed, zf_X10_areCorners, zf_X5_hasCorner, zf_X10_isStep, zf_X10_isValue, zf_X7_canTell, zf_X7_wasSeenBefore, zf_X7_has, zf_X2_hasPlace, zf_X8_size, zf_X8_shorten, zf_X5_corners, zf_X5_hasCut, zf_X4_onWay, zf_X1_faultKind, zf_X1_faultPlace, zf_X7_size, zf_X7_rights, zf_X2_size, zf_X5_cutCount, zf_X11_in, zf_X11_isCorner, jrun_u, jstep, zno164e, zout, or_self, ga9, ya9, zf_X0_size, zf_X0_pairAt, zf_X0_sharedWithNext, ↓if_pos, ↓if_neg, if_pos, if_neg, Option.bind_some, Bool.true_eq_false, ↓reduceIte]
      first | exact ⟨_, _, rfl, rfl, rfl⟩ | done
    by_cases k1 : k < 0
    · simp (disch := omega) only [zf_X10_crossed, zf_X11_crossed, zf_X10_areCorners, zf_X5_hasCorner, zf_X10_isStep, zf_X10_isValue, zf_X7_canTell, zf_X7_wasSeenBefore, zf_X7_has, zf_X2_hasPlace, zf_X8_size, zf_X8_shorten, zf_X5_corners, zf_X5_hasCut, zf_X4_onWay, zf_X1_faultKind, zf_X1_faultPlace, zf_X7_size, zf_X7_rights, zf_X2_size, zf_X5_cutCount, zf_X11_in, zf_X11_isCorner, jrun_u, jstep, zno164e, zout, or_self, ga9, ya9, zf_X0_size, zf_X0_pairAt, zf_X0_sharedWithNext, ↓if_pos, ↓if_neg, if_pos, if_neg, Option.bind_some, Bool.true_eq_false, ↓reduceIte]
      first | exact ⟨_, _, rfl, rfl, rfl⟩ | done
    simp (disch := omega) only [zf_X10_crossed, zf_X11_crossed, zf_X10_areCorners, zf_X5_hasCorner, zf_X10_isStep, zf_X10_isValue, zf_X7_canTell, zf_X7_wasSeenBefore, zf_X7_has, zf_X2_hasPlace, zf_X8_size, zf_X8_shorten, zf_X5_corners, zf_X5_hasCut, zf_X4_onWay, zf_X1_faultKind, zf_X1_faultPlace, zf_X7_size, zf_X7_rights, zf_X2_size, zf_X5_cutCount, zf_X11_in, zf_X11_isCorner, jrun_u, jstep, zno164e, zout, or_self, ga9, ya9, zf_X0_size, zf_X0_pairAt, zf_X0_sharedWithNext, ↓if_pos, ↓if_neg, if_pos, if_neg, Option.bind_some, Bool.true_eq_false, ↓reduceIte]
    first | exact ⟨_, _, rfl, rfl, rfl⟩ | done
  · have ga9 : zf_X0_gather 16 0 0 4 1 2 0 = some (0, 0) := rfl
    have ya9 : zf_X11_cross 4 2 4 1 0 0xffffffff00000001ffffffff000000000000000000000000000000000000000000000000ffffffff00000000ffffffff0000000000000000000000000000000000000000000000000000000000000001ffffffff00000000ffffffff000000000000000000000000000000000000000000000000ffffffff00000000ffffffff00000000 0x100000000 0x300000002 0 0 2 0 = some (2, 4, 0, 0xffffffff00000001ffffffff000000000000000000000000000000000000000000000000ffffffff00000000ffffffff0000000000000000000000000000000000000000000000000000000000000001ffffffff00000000ffffffff000000000000000000000000000000000000000000000000ffffffff00000000ffffffff00000000, 0x100000000, 0x300000002, 0, 0) := rfl
    by_cases kz : k = 0
    · subst kz
      exact ⟨_, _, rfl, rfl, rfl⟩
    by_cases k0 : k = -1
    · simp (disch := omega) only [zf_X10_crossed, zf_X11_crossed, zf_X10_areCorners, zf_X5_hasCorner, zf_X10_isStep, zf_X10_isValue, zf_X7_canTell, zf_X7_wasSeenBefore, zf_X7_has, zf_X2_hasPlace, zf_X8_size, zf_X8_shorten, zf_X5_corners, zf_X5_hasCut, zf_X4_onWay, zf_X1_faultKind, zf_X1_faultPlace, zf_X7_size, zf_X7_rights, zf_X2_size, zf_X5_cutCount, zf_X11_in, zf_X11_isCorner, jrun_u, jstep, zno164e, zout, or_self, ga9, ya9, zf_X0_size, zf_X0_pairAt, zf_X0_sharedWithNext, ↓if_pos, ↓if_neg, if_pos, if_neg, Option.bind_some, Bool.true_eq_false, ↓reduceIte]
      first | exact ⟨_, _, rfl, rfl, rfl⟩ | done
    by_cases k1 : k < 0
    · simp (disch := omega) only [zf_X10_crossed, zf_X11_crossed, zf_X10_areCorners, zf_X5_hasCorner, zf_X10_isStep, zf_X10_isValue, zf_X7_canTell, zf_X7_wasSeenBefore, zf_X7_has, zf_X2_hasPlace, zf_X8_size, zf_X8_shorten, zf_X5_corners, zf_X5_hasCut, zf_X4_onWay, zf_X1_faultKind, zf_X1_faultPlace, zf_X7_size, zf_X7_rights, zf_X2_size, zf_X5_cutCount, zf_X11_in, zf_X11_isCorner, jrun_u, jstep, zno164e, zout, or_self, ga9, ya9, zf_X0_size, zf_X0_pairAt, zf_X0_sharedWithNext, ↓if_pos, ↓if_neg, if_pos, if_neg, Option.bind_some, Bool.true_eq_false, ↓reduceIte]
      first | exact ⟨_, _, rfl, rfl, rfl⟩ | done
    simp (disch := omega) only [zf_X10_crossed, zf_X11_crossed, zf_X10_areCorners, zf_X5_hasCorner, zf_X10_isStep, zf_X10_isValue, zf_X7_canTell, zf_X7_wasSeenBefore, zf_X7_has, zf_X2_hasPlace, zf_X8_size, zf_X8_shorten, zf_X5_corners, zf_X5_hasCut, zf_X4_onWay, zf_X1_faultKind, zf_X1_faultPlace, zf_X7_size, zf_X7_rights, zf_X2_size, zf_X5_cutCount, zf_X11_in, zf_X11_isCorner, jrun_u, jstep, zno164e, zout, or_self, ga9, ya9, zf_X0_size, zf_X0_pairAt, zf_X0_sharedWithNext, ↓if_pos, ↓if_neg, if_pos, if_neg, Option.bind_some, Bool.true_eq_false, ↓reduceIte]
    first | exact ⟨_, _, rfl, rfl, rfl⟩ | done
  · have ga9 : zf_X0_gather 16 0 0 4 1 2 1 = some (0, 0) := rfl
    have ya9 : zf_X11_cross 4 2 4 1 0 0xffffffff00000001ffffffff000000000000000000000000000000000000000000000000ffffffff00000000ffffffff0000000000000000000000000000000000000000000000000000000000000001ffffffff00000000ffffffff000000000000000000000000000000000000000000000000ffffffff00000000ffffffff00000000 0x100000000 0x300000002 0 0 2 1 = some (2, 4, 0, 0xffffffff00000001ffffffff000000000000000000000000000000000000000000000000ffffffff00000000ffffffff0000000000000000000000000000000000000000000000000000000000000001ffffffff00000000ffffffff000000000000000000000000000000000000000000000000ffffffff00000000ffffffff00000000, 0x100000000, 0x300000002, 0, 0) := rfl
    by_cases kz : k = 0
    · subst kz
      exact ⟨_, _, rfl, rfl, rfl⟩
    by_cases k0 : k = -1
    · simp (disch := omega) only [zf_X10_crossed, zf_X11_crossed, zf_X10_areCorners, zf_X5_hasCorner, zf_X10_isStep, zf_X10_isValue, zf_X7_canTell, zf_X7_wasSeenBefore, zf_X7_has, zf_X2_hasPlace, zf_X8_size, zf_X8_shorten, zf_X5_corners, zf_X5_hasCut, zf_X4_onWay, zf_X1_faultKind, zf_X1_faultPlace, zf_X7_size, zf_X7_rights, zf_X2_size, zf_X5_cutCount, zf_X11_in, zf_X11_isCorner, jrun_u, jstep, zno164e, zout, or_self, ga9, ya9, zf_X0_size, zf_X0_pairAt, zf_X0_sharedWithNext, ↓if_pos, ↓if_neg, if_pos, if_neg, Option.bind_some, Bool.true_eq_false, ↓reduceIte]
      first | exact ⟨_, _, rfl, rfl, rfl⟩ | done
    by_cases k1 : k < 0
    · simp (disch := omega) only [zf_X10_crossed, zf_X11_crossed, zf_X10_areCorners, zf_X5_hasCorner, zf_X10_isStep, zf_X10_isValue, zf_X7_canTell, zf_X7_wasSeenBefore, zf_X7_has, zf_X2_hasPlace, zf_X8_size, zf_X8_shorten, zf_X5_corners, zf_X5_hasCut, zf_X4_onWay, zf_X1_faultKind, zf_X1_faultPlace, zf_X7_size, zf_X7_rights, zf_X2_size, zf_X5_cutCount, zf_X11_in, zf_X11_isCorner, jrun_u, jstep, zno164e, zout, or_self, ga9, ya9, zf_X0_size, zf_X0_pairAt, zf_X0_sharedWithNext, ↓if_pos, ↓if_neg, if_pos, if_neg, Option.bind_some, Bool.true_eq_false, ↓reduceIte]
      first | exact ⟨_, _, rfl, rfl, rfl⟩ | done
    simp (disch := omega) only [zf_X10_crossed, zf_X11_crossed, zf_X10_areCorners, zf_X5_hasCorner, zf_X10_isStep, zf_X10_isValue, zf_X7_canTell, zf_X7_wasSeenBefore, zf_X7_has, zf_X2_hasPlace, zf_X8_size, zf_X8_shorten, zf_X5_corners, zf_X5_hasCut, zf_X4_onWay, zf_X1_faultKind, zf_X1_faultPlace, zf_X7_size, zf_X7_rights, zf_X2_size, zf_X5_cutCount, zf_X11_in, zf_X11_isCorner, jrun_u, jstep, zno164e, zout, or_self, ga9, ya9, zf_X0_size, zf_X0_pairAt, zf_X0_sharedWithNext, ↓if_pos, ↓if_neg, if_pos, if_neg, Option.bind_some, Bool.true_eq_false, ↓reduceIte]
    first | exact ⟨_, _, rfl, rfl, rfl⟩ | done
  · simp (disch := omega) only [zf_X10_crossed, zf_X11_crossed, zf_X10_areCorners, zf_X5_hasCorner, zf_X10_isStep, zf_X10_isValue, zf_X7_canTell, zf_X7_wasSeenBefore, zf_X7_has, zf_X2_hasPlace, zf_X8_size, zf_X8_shorten, zf_X5_corners, zf_X5_hasCut, zf_X4_onWay, zf_X1_faultKind, zf_X1_faultPlace, zf_X7_size, zf_X7_rights, zf_X2_size, zf_X5_cutCount, zf_X11_in, zf_X11_isCorner, jrun_u, jstep, zno164e, zout, or_self, ↓if_pos, ↓if_neg, if_pos, if_neg, Option.bind_some, Bool.true_eq_false, ↓reduceIte]
    first | exact ⟨_, _, rfl, rfl, rfl⟩ | done
  · have ga9 : zf_X0_gather 16 0 0 4 1 2 3 = some (0, 0) := rfl
    have ya9 : zf_X11_cross 4 2 4 1 0 0xffffffff00000001ffffffff000000000000000000000000000000000000000000000000ffffffff00000000ffffffff0000000000000000000000000000000000000000000000000000000000000001ffffffff00000000ffffffff000000000000000000000000000000000000000000000000ffffffff00000000ffffffff00000000 0x100000000 0x300000002 0 0 2 3 = some (2, 4, 0, 0xffffffff00000001ffffffff000000000000000000000000000000000000000000000000ffffffff00000000ffffffff0000000000000000000000000000000000000000000000000000000000000001ffffffff00000000ffffffff000000000000000000000000000000000000000000000000ffffffff00000000ffffffff00000000, 0x100000000, 0x300000002, 0, 0) := rfl
    by_cases kz : k = 0
    · subst kz
      exact ⟨_, _, rfl, rfl, rfl⟩
    by_cases k0 : k = -1
    · simp (disch := omega) only [zf_X10_crossed, zf_X11_crossed, zf_X10_areCorners, zf_X5_hasCorner, zf_X10_isStep, zf_X10_isValue, zf_X7_canTell, zf_X7_wasSeenBefore, zf_X7_has, zf_X2_hasPlace, zf_X8_size, zf_X8_shorten, zf_X5_corners, zf_X5_hasCut, zf_X4_onWay, zf_X1_faultKind, zf_X1_faultPlace, zf_X7_size, zf_X7_rights, zf_X2_size, zf_X5_cutCount, zf_X11_in, zf_X11_isCorner, jrun_u, jstep, zno164e, zout, or_self, ga9, ya9, zf_X0_size, zf_X0_pairAt, zf_X0_sharedWithNext, ↓if_pos, ↓if_neg, if_pos, if_neg, Option.bind_some, Bool.true_eq_false, ↓reduceIte]
      first | exact ⟨_, _, rfl, rfl, rfl⟩ | done
    by_cases k1 : k < 0
    · simp (disch := omega) only [zf_X10_crossed, zf_X11_crossed, zf_X10_areCorners, zf_X5_hasCorner, zf_X10_isStep, zf_X10_isValue, zf_X7_canTell, zf_X7_wasSeenBefore, zf_X7_has, zf_X2_hasPlace, zf_X8_size, zf_X8_shorten, zf_X5_corners, zf_X5_hasCut, zf_X4_onWay, zf_X1_faultKind, zf_X1_faultPlace, zf_X7_size, zf_X7_rights, zf_X2_size, zf_X5_cutCount, zf_X11_in, zf_X11_isCorner, jrun_u, jstep, zno164e, zout, or_self, ga9, ya9, zf_X0_size, zf_X0_pairAt, zf_X0_sharedWithNext, ↓if_pos, ↓if_neg, if_pos, if_neg, Option.bind_some, Bool.true_eq_false, ↓reduceIte]
      first | exact ⟨_, _, rfl, rfl, rfl⟩ | done
    simp (disch := omega) only [zf_X10_crossed, zf_X11_crossed, zf_X10_areCorners, zf_X5_hasCorner, zf_X10_isStep, zf_X10_isValue, zf_X7_canTell, zf_X7_wasSeenBefore, zf_X7_has, zf_X2_hasPlace, zf_X8_size, zf_X8_shorten, zf_X5_corners, zf_X5_hasCut, zf_X4_onWay, zf_X1_faultKind, zf_X1_faultPlace, zf_X7_size, zf_X7_rights, zf_X2_size, zf_X5_cutCount, zf_X11_in, zf_X11_isCorner, jrun_u, jstep, zno164e, zout, or_self, ga9, ya9, zf_X0_size, zf_X0_pairAt, zf_X0_sharedWithNext, ↓if_pos, ↓if_neg, if_pos, if_neg, Option.bind_some, Bool.true_eq_false, ↓reduceIte]
    first | exact ⟨_, _, rfl, rfl, rfl⟩ | done
  · have ga9 : zf_X0_gather 16 0 0 4 1 3 0 = some (0, 0) := rfl
    have ya9 : zf_X11_cross 4 2 4 1 0 0xffffffff00000001ffffffff000000000000000000000000000000000000000000000000ffffffff00000000ffffffff0000000000000000000000000000000000000000000000000000000000000001ffffffff00000000ffffffff000000000000000000000000000000000000000000000000ffffffff00000000ffffffff00000000 0x100000000 0x300000002 0 0 3 0 = some (2, 4, 0, 0xffffffff00000001ffffffff000000000000000000000000000000000000000000000000ffffffff00000000ffffffff0000000000000000000000000000000000000000000000000000000000000001ffffffff00000000ffffffff000000000000000000000000000000000000000000000000ffffffff00000000ffffffff00000000, 0x100000000, 0x300000002, 0, 0) := rfl
    by_cases kz : k = 0
    · subst kz
      exact ⟨_, _, rfl, rfl, rfl⟩
    by_cases k0 : k = -1
    · simp (disch := omega) only [zf_X10_crossed, zf_X11_crossed, zf_X10_areCorners, zf_X5_hasCorner, zf_X10_isStep, zf_X10_isValue, zf_X7_canTell, zf_X7_wasSeenBefore, zf_X7_has, zf_X2_hasPlace, zf_X8_size, zf_X8_shorten, zf_X5_corners, zf_X5_hasCut, zf_X4_onWay, zf_X1_faultKind, zf_X1_faultPlace, zf_X7_size, zf_X7_rights, zf_X2_size, zf_X5_cutCount, zf_X11_in, zf_X11_isCorner, jrun_u, jstep, zno164e, zout, or_self, ga9, ya9, zf_X0_size, zf_X0_pairAt, zf_X0_sharedWithNext, ↓if_pos, ↓if_neg, if_pos, if_neg, Option.bind_some, Bool.true_eq_false, ↓reduceIte]
      first | exact ⟨_, _, rfl, rfl, rfl⟩ | done
    by_cases k1 : k < 0
    · simp (disch := omega) only [zf_X10_crossed, zf_X11_crossed, zf_X10_areCorners, zf_X5_hasCorner, zf_X10_isStep, zf_X10_isValue, zf_X7_canTell, zf_X7_wasSeenBefore, zf_X7_has, zf_X2_hasPlace, zf_X8_size, zf_X8_shorten, zf_X5_corners, zf_X5_hasCut, zf_X4_onWay, zf_X1_faultKind, zf_X1_faultPlace, zf_X7_size, zf_X7_rights, zf_X2_size, zf_X5_cutCount, zf_X11_in, zf_X11_isCorner, jrun_u, jstep, zno164e, zout, or_self, ga9, ya9, zf_X0_size, zf_X0_pairAt, zf_X0_sharedWithNext, ↓if_pos, ↓if_neg, if_pos, if_neg, Option.bind_some, Bool.true_eq_false, ↓reduceIte]
      first | exact ⟨_, _, rfl, rfl, rfl⟩ | done
    simp (disch := omega) only [zf_X10_crossed, zf_X11_crossed, zf_X10_areCorners, zf_X5_hasCorner, zf_X10_isStep, zf_X10_isValue, zf_X7_canTell, zf_X7_wasSeenBefore, zf_X7_has, zf_X2_hasPlace, zf_X8_size, zf_X8_shorten, zf_X5_corners, zf_X5_hasCut, zf_X4_onWay, zf_X1_faultKind, zf_X1_faultPlace, zf_X7_size, zf_X7_rights, zf_X2_size, zf_X5_cutCount, zf_X11_in, zf_X11_isCorner, jrun_u, jstep, zno164e, zout, or_self, ga9, ya9, zf_X0_size, zf_X0_pairAt, zf_X0_sharedWithNext, ↓if_pos, ↓if_neg, if_pos, if_neg, Option.bind_some, Bool.true_eq_false, ↓reduceIte]
    first | exact ⟨_, _, rfl, rfl, rfl⟩ | done
  · have ga9 : zf_X0_gather 16 0 0 4 1 3 1 = some (1, 0) := rfl
    have ya9 : zf_X11_cross 4 2 4 1 0 0xffffffff00000001ffffffff000000000000000000000000000000000000000000000000ffffffff00000000ffffffff0000000000000000000000000000000000000000000000000000000000000001ffffffff00000000ffffffff000000000000000000000000000000000000000000000000ffffffff00000000ffffffff00000000 0x100000000 0x300000002 0 0 3 1 = some (2, 4, 1, 0xffffffff00000001ffffffff000000000000000000000000000000000000000000000000ffffffff00000000ffffffff0000000000000000000000000000000000000000000000000000000000000001ffffffff00000000ffffffff000000000000000000000000000000000000000000000000ffffffff00000000ffffffff00000000, 0x100000000, 0x300000002, 0, 2) := rfl
    by_cases kz : k = 0
    · subst kz
      exact ⟨_, _, rfl, rfl, rfl⟩
    by_cases k0 : k = -1
    · simp (disch := omega) only [zf_X10_crossed, zf_X11_crossed, zf_X10_areCorners, zf_X5_hasCorner, zf_X10_isStep, zf_X10_isValue, zf_X7_canTell, zf_X7_wasSeenBefore, zf_X7_has, zf_X2_hasPlace, zf_X8_size, zf_X8_shorten, zf_X5_corners, zf_X5_hasCut, zf_X4_onWay, zf_X1_faultKind, zf_X1_faultPlace, zf_X7_size, zf_X7_rights, zf_X2_size, zf_X5_cutCount, zf_X11_in, zf_X11_isCorner, jrun_u, jstep, zno164e, zout, or_self, ga9, ya9, zf_X0_size, zf_X0_pairAt, zf_X0_sharedWithNext, ↓if_pos, ↓if_neg, if_pos, if_neg, Option.bind_some, Bool.true_eq_false, ↓reduceIte]
      first | exact ⟨_, _, rfl, rfl, rfl⟩ | done
    by_cases k1 : k < 0
    · simp (disch := omega) only [zf_X10_crossed, zf_X11_crossed, zf_X10_areCorners, zf_X5_hasCorner, zf_X10_isStep, zf_X10_isValue, zf_X7_canTell, zf_X7_wasSeenBefore, zf_X7_has, zf_X2_hasPlace, zf_X8_size, zf_X8_shorten, zf_X5_corners, zf_X5_hasCut, zf_X4_onWay, zf_X1_faultKind, zf_X1_faultPlace, zf_X7_size, zf_X7_rights, zf_X2_size, zf_X5_cutCount, zf_X11_in, zf_X11_isCorner, jrun_u, jstep, zno164e, zout, or_self, ga9, ya9, zf_X0_size, zf_X0_pairAt, zf_X0_sharedWithNext, ↓if_pos, ↓if_neg, if_pos, if_neg, Option.bind_some, Bool.true_eq_false, ↓reduceIte]
      first | exact ⟨_, _, rfl, rfl, rfl⟩ | done
    simp (disch := omega) only [zf_X10_crossed, zf_X11_crossed, zf_X10_areCorners, zf_X5_hasCorner, zf_X10_isStep, zf_X10_isValue, zf_X7_canTell, zf_X7_wasSeenBefore, zf_X7_has, zf_X2_hasPlace, zf_X8_size, zf_X8_shorten, zf_X5_corners, zf_X5_hasCut, zf_X4_onWay, zf_X1_faultKind, zf_X1_faultPlace, zf_X7_size, zf_X7_rights, zf_X2_size, zf_X5_cutCount, zf_X11_in, zf_X11_isCorner, jrun_u, jstep, zno164e, zout, or_self, ga9, ya9, zf_X0_size, zf_X0_pairAt, zf_X0_sharedWithNext, ↓if_pos, ↓if_neg, if_pos, if_neg, Option.bind_some, Bool.true_eq_false, ↓reduceIte]
    first | exact ⟨_, _, rfl, rfl, rfl⟩ | done
  · have ga9 : zf_X0_gather 16 0 0 4 1 3 2 = some (0, 0) := rfl
    have ya9 : zf_X11_cross 4 2 4 1 0 0xffffffff00000001ffffffff000000000000000000000000000000000000000000000000ffffffff00000000ffffffff0000000000000000000000000000000000000000000000000000000000000001ffffffff00000000ffffffff000000000000000000000000000000000000000000000000ffffffff00000000ffffffff00000000 0x100000000 0x300000002 0 0 3 2 = some (2, 4, 0, 0xffffffff00000001ffffffff000000000000000000000000000000000000000000000000ffffffff00000000ffffffff0000000000000000000000000000000000000000000000000000000000000001ffffffff00000000ffffffff000000000000000000000000000000000000000000000000ffffffff00000000ffffffff00000000, 0x100000000, 0x300000002, 0, 0) := rfl
    by_cases kz : k = 0
    · subst kz
      exact ⟨_, _, rfl, rfl, rfl⟩
    by_cases k0 : k = -1
    · simp (disch := omega) only [zf_X10_crossed, zf_X11_crossed, zf_X10_areCorners, zf_X5_hasCorner, zf_X10_isStep, zf_X10_isValue, zf_X7_canTell, zf_X7_wasSeenBefore, zf_X7_has, zf_X2_hasPlace, zf_X8_size, zf_X8_shorten, zf_X5_corners, zf_X5_hasCut, zf_X4_onWay, zf_X1_faultKind, zf_X1_faultPlace, zf_X7_size, zf_X7_rights, zf_X2_size, zf_X5_cutCount, zf_X11_in, zf_X11_isCorner, jrun_u, jstep, zno164e, zout, or_self, ga9, ya9, zf_X0_size, zf_X0_pairAt, zf_X0_sharedWithNext, ↓if_pos, ↓if_neg, if_pos, if_neg, Option.bind_some, Bool.true_eq_false, ↓reduceIte]
      first | exact ⟨_, _, rfl, rfl, rfl⟩ | done
    by_cases k1 : k < 0
    · simp (disch := omega) only [zf_X10_crossed, zf_X11_crossed, zf_X10_areCorners, zf_X5_hasCorner, zf_X10_isStep, zf_X10_isValue, zf_X7_canTell, zf_X7_wasSeenBefore, zf_X7_has, zf_X2_hasPlace, zf_X8_size, zf_X8_shorten, zf_X5_corners, zf_X5_hasCut, zf_X4_onWay, zf_X1_faultKind, zf_X1_faultPlace, zf_X7_size, zf_X7_rights, zf_X2_size, zf_X5_cutCount, zf_X11_in, zf_X11_isCorner, jrun_u, jstep, zno164e, zout, or_self, ga9, ya9, zf_X0_size, zf_X0_pairAt, zf_X0_sharedWithNext, ↓if_pos, ↓if_neg, if_pos, if_neg, Option.bind_some, Bool.true_eq_false, ↓reduceIte]
      first | exact ⟨_, _, rfl, rfl, rfl⟩ | done
    simp (disch := omega) only [zf_X10_crossed, zf_X11_crossed, zf_X10_areCorners, zf_X5_hasCorner, zf_X10_isStep, zf_X10_isValue, zf_X7_canTell, zf_X7_wasSeenBefore, zf_X7_has, zf_X2_hasPlace, zf_X8_size, zf_X8_shorten, zf_X5_corners, zf_X5_hasCut, zf_X4_onWay, zf_X1_faultKind, zf_X1_faultPlace, zf_X7_size, zf_X7_rights, zf_X2_size, zf_X5_cutCount, zf_X11_in, zf_X11_isCorner, jrun_u, jstep, zno164e, zout, or_self, ga9, ya9, zf_X0_size, zf_X0_pairAt, zf_X0_sharedWithNext, ↓if_pos, ↓if_neg, if_pos, if_neg, Option.bind_some, Bool.true_eq_false, ↓reduceIte]
    first | exact ⟨_, _, rfl, rfl, rfl⟩ | done
  · simp (disch := omega) only [zf_X10_crossed, zf_X11_crossed, zf_X10_areCorners, zf_X5_hasCorner, zf_X10_isStep, zf_X10_isValue, zf_X7_canTell, zf_X7_wasSeenBefore, zf_X7_has, zf_X2_hasPlace, zf_X8_size, zf_X8_shorten, zf_X5_corners, zf_X5_hasCut, zf_X4_onWay, zf_X1_faultKind, zf_X1_faultPlace, zf_X7_size, zf_X7_rights, zf_X2_size, zf_X5_cutCount, zf_X11_in, zf_X11_isCorner, jrun_u, jstep, zno164e, zout, or_self, ↓if_pos, ↓if_neg, if_pos, if_neg, Option.bind_some, Bool.true_eq_false, ↓reduceIte]
    first | exact ⟨_, _, rfl, rfl, rfl⟩ | done
set_option maxRecDepth 20000 in
theorem ev_20 (i : Int) (j : Int) (k : Int) (zi : ¬ zout i) (zj : ¬ zout j) (zk : ¬ zout k) : ∃ o1 o2, zf_X10_side 16 4 1 0 0 i j k = some o1 ∧ zf_X11_side 4 2 4 1 0 0xffffffff00000001ffffffff000000000000000000000000000000000000000000000000ffffffff00000000ffffffff0000000000000000000000000000000000000000000000000000000000000001ffffffff00000000ffffffff000000000000000000000000000000000000000000000000ffffffff00000000ffffffff00000000 0x100000000 0x300000002 0 0 i j k = some o2 ∧ (o1.1) = (o2.1) := by
  unfold zout at *
  by_cases c0 : i < 0
  · have hx : zf_X10_side 16 4 1 0 0 i j k = some (-2, 0, 0) := by
      unfold zf_X10_side
      rw [areC (by unfold zout; omega) (by unfold zout; omega)]
      simp only [Option.bind_some]
      rw [if_pos (by rw [Bool.and_eq_false_iff]; left; exact decide_eq_false (by unfold Rg; omega))]
    have hy : zf_X11_side 4 2 4 1 0 0xffffffff00000001ffffffff000000000000000000000000000000000000000000000000ffffffff00000000ffffffff0000000000000000000000000000000000000000000000000000000000000001ffffffff00000000ffffffff000000000000000000000000000000000000000000000000ffffffff00000000ffffffff00000000 0x100000000 0x300000002 0 0 i j k = some ((-2), 2, 4, 0, 0xffffffff00000001ffffffff000000000000000000000000000000000000000000000000ffffffff00000000ffffffff0000000000000000000000000000000000000000000000000000000000000001ffffffff00000000ffffffff000000000000000000000000000000000000000000000000ffffffff00000000ffffffff00000000, 0x100000000, 0x300000002, 0, 0) := by
      unfold zf_X11_side
      rw [jrun_u]
      simp only [zg_X11_side, ↓reduceIte]
      unfold zg_X11_side_0
      rw [yC (by unfold zout; omega)]
      simp only [Option.bind_some]
      rw [if_pos (decide_eq_false (by unfold Rg; omega))]
      rfl
    exact ⟨_, _, hx, hy, rfl⟩
  by_cases c1 : 3 < i
  · have hx : zf_X10_side 16 4 1 0 0 i j k = some (-2, 0, 0) := by
      unfold zf_X10_side
      rw [areC (by unfold zout; omega) (by unfold zout; omega)]
      simp only [Option.bind_some]
      rw [if_pos (by rw [Bool.and_eq_false_iff]; left; exact decide_eq_false (by unfold Rg; omega))]
    have hy : zf_X11_side 4 2 4 1 0 0xffffffff00000001ffffffff000000000000000000000000000000000000000000000000ffffffff00000000ffffffff0000000000000000000000000000000000000000000000000000000000000001ffffffff00000000ffffffff000000000000000000000000000000000000000000000000ffffffff00000000ffffffff00000000 0x100000000 0x300000002 0 0 i j k = some ((-2), 2, 4, 0, 0xffffffff00000001ffffffff000000000000000000000000000000000000000000000000ffffffff00000000ffffffff0000000000000000000000000000000000000000000000000000000000000001ffffffff00000000ffffffff000000000000000000000000000000000000000000000000ffffffff00000000ffffffff00000000, 0x100000000, 0x300000002, 0, 0) := by
      unfold zf_X11_side
      rw [jrun_u]
      simp only [zg_X11_side, ↓reduceIte]
      unfold zg_X11_side_0
      rw [yC (by unfold zout; omega)]
      simp only [Option.bind_some]
      rw [if_pos (decide_eq_false (by unfold Rg; omega))]
      rfl
    exact ⟨_, _, hx, hy, rfl⟩
  by_cases c2 : j < 0
  · have hx : zf_X10_side 16 4 1 0 0 i j k = some (-2, 0, 0) := by
      unfold zf_X10_side
      rw [areC (by unfold zout; omega) (by unfold zout; omega)]
      simp only [Option.bind_some]
      rw [if_pos (by rw [Bool.and_eq_false_iff]; right; exact decide_eq_false (by unfold Rg; omega))]
    have hy : zf_X11_side 4 2 4 1 0 0xffffffff00000001ffffffff000000000000000000000000000000000000000000000000ffffffff00000000ffffffff0000000000000000000000000000000000000000000000000000000000000001ffffffff00000000ffffffff000000000000000000000000000000000000000000000000ffffffff00000000ffffffff00000000 0x100000000 0x300000002 0 0 i j k = some ((-2), 2, 4, 0, 0xffffffff00000001ffffffff000000000000000000000000000000000000000000000000ffffffff00000000ffffffff0000000000000000000000000000000000000000000000000000000000000001ffffffff00000000ffffffff000000000000000000000000000000000000000000000000ffffffff00000000ffffffff00000000, 0x100000000, 0x300000002, 0, 0) := by
      unfold zf_X11_side
      rw [jrun_u]
      simp only [zg_X11_side, ↓reduceIte]
      unfold zg_X11_side_0
      rw [yC (by unfold zout; omega)]
      simp only [Option.bind_some]
      rw [if_neg (by rw [decide_eq_true (show Rg i 3 by unfold Rg; omega)]; decide), yC (by unfold zout; omega)]
      simp only [Option.bind_some]
      rw [if_pos (decide_eq_false (by unfold Rg; omega))]
      rfl
    exact ⟨_, _, hx, hy, rfl⟩
  by_cases c3 : 3 < j
  · have hx : zf_X10_side 16 4 1 0 0 i j k = some (-2, 0, 0) := by
      unfold zf_X10_side
      rw [areC (by unfold zout; omega) (by unfold zout; omega)]
      simp only [Option.bind_some]
      rw [if_pos (by rw [Bool.and_eq_false_iff]; right; exact decide_eq_false (by unfold Rg; omega))]
    have hy : zf_X11_side 4 2 4 1 0 0xffffffff00000001ffffffff000000000000000000000000000000000000000000000000ffffffff00000000ffffffff0000000000000000000000000000000000000000000000000000000000000001ffffffff00000000ffffffff000000000000000000000000000000000000000000000000ffffffff00000000ffffffff00000000 0x100000000 0x300000002 0 0 i j k = some ((-2), 2, 4, 0, 0xffffffff00000001ffffffff000000000000000000000000000000000000000000000000ffffffff00000000ffffffff0000000000000000000000000000000000000000000000000000000000000001ffffffff00000000ffffffff000000000000000000000000000000000000000000000000ffffffff00000000ffffffff00000000, 0x100000000, 0x300000002, 0, 0) := by
      unfold zf_X11_side
      rw [jrun_u]
      simp only [zg_X11_side, ↓reduceIte]
      unfold zg_X11_side_0
      rw [yC (by unfold zout; omega)]
      simp only [Option.bind_some]
      rw [if_neg (by rw [decide_eq_true (show Rg i 3 by unfold Rg; omega)]; decide), yC (by unfold zout; omega)]
      simp only [Option.bind_some]
      rw [if_pos (decide_eq_false (by unfold Rg; omega))]
      rfl
    exact ⟨_, _, hx, hy, rfl⟩
  have hi9 : i = 0 ∨ i = 1 ∨ i = 2 ∨ i = 3 := by omega
  have hj9 : j = 0 ∨ j = 1 ∨ j = 2 ∨ j = 3 := by omega
  rcases hi9 with rfl | rfl | rfl | rfl <;> rcases hj9 with rfl | rfl | rfl | rfl
  · exact ⟨_, _, rfl, rfl, rfl⟩
  · have hs : zf_X0_sharedWithNext 16 0 0 4 k = some (-1) := by
      unfold zf_X0_sharedWithNext
      rw [if_neg (by unfold zout; omega)]
      by_cases q : k < 0
      · rw [if_pos q]
      · rw [if_neg q, if_neg (by decide)]
        first | rw [if_pos (by omega)] | rw [if_neg (by omega)]
    have hx : zf_X10_side 16 4 1 0 0 0 1 k = some (-1, 0, 0) := by
      unfold zf_X10_side
      rw [show zf_X10_areCorners 16 4 0 1 = some true from rfl]
      simp only [Option.bind_some, Bool.true_eq_false, ↓reduceIte]
      rw [if_neg (by decide), if_neg (by decide), if_neg (by decide), if_neg zno164, show zf_X0_gather 16 0 0 4 1 0 1 = some (0, 0) from rfl]
      simp only [Option.bind_some]
      rw [hs]
      rfl
    have hi9 : zf_X11_in k 0 (0 - 2) = some false := by
      rw [y_in (by unfold zout; omega) (by decide) (by decide)]
      rw [decide_eq_false (by omega)]
    have hy : zf_X11_side 4 2 4 1 0 0xffffffff00000001ffffffff000000000000000000000000000000000000000000000000ffffffff00000000ffffffff0000000000000000000000000000000000000000000000000000000000000001ffffffff00000000ffffffff000000000000000000000000000000000000000000000000ffffffff00000000ffffffff00000000 0x100000000 0x300000002 0 0 0 1 k = some ((-1), 2, 4, 0, 0xffffffff00000001ffffffff000000000000000000000000000000000000000000000000ffffffff00000000ffffffff0000000000000000000000000000000000000000000000000000000000000001ffffffff00000000ffffffff000000000000000000000000000000000000000000000000ffffffff00000000ffffffff00000000, 0x100000000, 0x300000002, 0, 0) := by
      unfold zf_X11_side
      rw [jrun_u]
      simp only [zg_X11_side, ↓reduceIte]
      unfold zg_X11_side_0
      rw [show zf_X11_isCorner 4 0 = some true from rfl]
      simp only [Option.bind_some, Bool.true_eq_false, ↓reduceIte]
      rw [show zf_X11_isCorner 4 1 = some true from rfl]
      simp only [Option.bind_some, Bool.true_eq_false, ↓reduceIte]
      rw [if_neg (by decide), if_neg (by decide), if_neg (by decide), show zf_X11_cross 4 2 4 1 0 0xffffffff00000001ffffffff000000000000000000000000000000000000000000000000ffffffff00000000ffffffff0000000000000000000000000000000000000000000000000000000000000001ffffffff00000000ffffffff000000000000000000000000000000000000000000000000ffffffff00000000ffffffff00000000 0x100000000 0x300000002 0 0 0 1 = some (2, 4, 0, 0xffffffff00000001ffffffff000000000000000000000000000000000000000000000000ffffffff00000000ffffffff0000000000000000000000000000000000000000000000000000000000000001ffffffff00000000ffffffff000000000000000000000000000000000000000000000000ffffffff00000000ffffffff00000000, 0x100000000, 0x300000002, 0, 0) from rfl]
      simp only [Option.bind_some]
      rw [hi9]
      rfl
    exact ⟨_, _, hx, hy, rfl⟩
  · have hs : zf_X0_sharedWithNext 16 0 0 4 k = some (-1) := by
      unfold zf_X0_sharedWithNext
      rw [if_neg (by unfold zout; omega)]
      by_cases q : k < 0
      · rw [if_pos q]
      · rw [if_neg q, if_neg (by decide)]
        first | rw [if_pos (by omega)] | rw [if_neg (by omega)]
    have hx : zf_X10_side 16 4 1 0 0 0 2 k = some (-1, 0, 0) := by
      unfold zf_X10_side
      rw [show zf_X10_areCorners 16 4 0 2 = some true from rfl]
      simp only [Option.bind_some, Bool.true_eq_false, ↓reduceIte]
      rw [if_neg (by decide), if_neg (by decide), if_neg (by decide), if_neg zno164, show zf_X0_gather 16 0 0 4 1 0 2 = some (0, 0) from rfl]
      simp only [Option.bind_some]
      rw [hs]
      rfl
    have hi9 : zf_X11_in k 0 (0 - 2) = some false := by
      rw [y_in (by unfold zout; omega) (by decide) (by decide)]
      rw [decide_eq_false (by omega)]
    have hy : zf_X11_side 4 2 4 1 0 0xffffffff00000001ffffffff000000000000000000000000000000000000000000000000ffffffff00000000ffffffff0000000000000000000000000000000000000000000000000000000000000001ffffffff00000000ffffffff000000000000000000000000000000000000000000000000ffffffff00000000ffffffff00000000 0x100000000 0x300000002 0 0 0 2 k = some ((-1), 2, 4, 0, 0xffffffff00000001ffffffff000000000000000000000000000000000000000000000000ffffffff00000000ffffffff0000000000000000000000000000000000000000000000000000000000000001ffffffff00000000ffffffff000000000000000000000000000000000000000000000000ffffffff00000000ffffffff00000000, 0x100000000, 0x300000002, 0, 0) := by
      unfold zf_X11_side
      rw [jrun_u]
      simp only [zg_X11_side, ↓reduceIte]
      unfold zg_X11_side_0
      rw [show zf_X11_isCorner 4 0 = some true from rfl]
      simp only [Option.bind_some, Bool.true_eq_false, ↓reduceIte]
      rw [show zf_X11_isCorner 4 2 = some true from rfl]
      simp only [Option.bind_some, Bool.true_eq_false, ↓reduceIte]
      rw [if_neg (by decide), if_neg (by decide), if_neg (by decide), show zf_X11_cross 4 2 4 1 0 0xffffffff00000001ffffffff000000000000000000000000000000000000000000000000ffffffff00000000ffffffff0000000000000000000000000000000000000000000000000000000000000001ffffffff00000000ffffffff000000000000000000000000000000000000000000000000ffffffff00000000ffffffff00000000 0x100000000 0x300000002 0 0 0 2 = some (2, 4, 0, 0xffffffff00000001ffffffff000000000000000000000000000000000000000000000000ffffffff00000000ffffffff0000000000000000000000000000000000000000000000000000000000000001ffffffff00000000ffffffff000000000000000000000000000000000000000000000000ffffffff00000000ffffffff00000000, 0x100000000, 0x300000002, 0, 0) from rfl]
      simp only [Option.bind_some]
      rw [hi9]
      rfl
    exact ⟨_, _, hx, hy, rfl⟩
  · have hs : zf_X0_sharedWithNext 16 0 0 4 k = some (-1) := by
      unfold zf_X0_sharedWithNext
      rw [if_neg (by unfold zout; omega)]
      by_cases q : k < 0
      · rw [if_pos q]
      · rw [if_neg q, if_neg (by decide)]
        first | rw [if_pos (by omega)] | rw [if_neg (by omega)]
    have hx : zf_X10_side 16 4 1 0 0 0 3 k = some (-1, 0, 0) := by
      unfold zf_X10_side
      rw [show zf_X10_areCorners 16 4 0 3 = some true from rfl]
      simp only [Option.bind_some, Bool.true_eq_false, ↓reduceIte]
      rw [if_neg (by decide), if_neg (by decide), if_neg (by decide), if_neg zno164, show zf_X0_gather 16 0 0 4 1 0 3 = some (0, 0) from rfl]
      simp only [Option.bind_some]
      rw [hs]
      rfl
    have hi9 : zf_X11_in k 0 (0 - 2) = some false := by
      rw [y_in (by unfold zout; omega) (by decide) (by decide)]
      rw [decide_eq_false (by omega)]
    have hy : zf_X11_side 4 2 4 1 0 0xffffffff00000001ffffffff000000000000000000000000000000000000000000000000ffffffff00000000ffffffff0000000000000000000000000000000000000000000000000000000000000001ffffffff00000000ffffffff000000000000000000000000000000000000000000000000ffffffff00000000ffffffff00000000 0x100000000 0x300000002 0 0 0 3 k = some ((-1), 2, 4, 0, 0xffffffff00000001ffffffff000000000000000000000000000000000000000000000000ffffffff00000000ffffffff0000000000000000000000000000000000000000000000000000000000000001ffffffff00000000ffffffff000000000000000000000000000000000000000000000000ffffffff00000000ffffffff00000000, 0x100000000, 0x300000002, 0, 0) := by
      unfold zf_X11_side
      rw [jrun_u]
      simp only [zg_X11_side, ↓reduceIte]
      unfold zg_X11_side_0
      rw [show zf_X11_isCorner 4 0 = some true from rfl]
      simp only [Option.bind_some, Bool.true_eq_false, ↓reduceIte]
      rw [show zf_X11_isCorner 4 3 = some true from rfl]
      simp only [Option.bind_some, Bool.true_eq_false, ↓reduceIte]
      rw [if_neg (by decide), if_neg (by decide), if_neg (by decide), show zf_X11_cross 4 2 4 1 0 0xffffffff00000001ffffffff000000000000000000000000000000000000000000000000ffffffff00000000ffffffff0000000000000000000000000000000000000000000000000000000000000001ffffffff00000000ffffffff000000000000000000000000000000000000000000000000ffffffff00000000ffffffff00000000 0x100000000 0x300000002 0 0 0 3 = some (2, 4, 0, 0xffffffff00000001ffffffff000000000000000000000000000000000000000000000000ffffffff00000000ffffffff0000000000000000000000000000000000000000000000000000000000000001ffffffff00000000ffffffff000000000000000000000000000000000000000000000000ffffffff00000000ffffffff00000000, 0x100000000, 0x300000002, 0, 0) from rfl]
      simp only [Option.bind_some]
      rw [hi9]
      rfl
    exact ⟨_, _, hx, hy, rfl⟩
  · have hs : zf_X0_sharedWithNext 16 0 0 4 k = some (-1) := by
      unfold zf_X0_sharedWithNext
      rw [if_neg (by unfold zout; omega)]
      by_cases q : k < 0
      · rw [if_pos q]
      · rw [if_neg q, if_neg (by decide)]
        first | rw [if_pos (by omega)] | rw [if_neg (by omega)]
    have hx : zf_X10_side 16 4 1 0 0 1 0 k = some (-1, 0, 0) := by
      unfold zf_X10_side
      rw [show zf_X10_areCorners 16 4 1 0 = some true from rfl]
      simp only [Option.bind_some, Bool.true_eq_false, ↓reduceIte]
      rw [if_neg (by decide), if_neg (by decide), if_neg (by decide), if_neg zno164, show zf_X0_gather 16 0 0 4 1 1 0 = some (0, 0) from rfl]
      simp only [Option.bind_some]
      rw [hs]
      rfl
    have hi9 : zf_X11_in k 0 (0 - 2) = some false := by
      rw [y_in (by unfold zout; omega) (by decide) (by decide)]
      rw [decide_eq_false (by omega)]
    have hy : zf_X11_side 4 2 4 1 0 0xffffffff00000001ffffffff000000000000000000000000000000000000000000000000ffffffff00000000ffffffff0000000000000000000000000000000000000000000000000000000000000001ffffffff00000000ffffffff000000000000000000000000000000000000000000000000ffffffff00000000ffffffff00000000 0x100000000 0x300000002 0 0 1 0 k = some ((-1), 2, 4, 0, 0xffffffff00000001ffffffff000000000000000000000000000000000000000000000000ffffffff00000000ffffffff0000000000000000000000000000000000000000000000000000000000000001ffffffff00000000ffffffff000000000000000000000000000000000000000000000000ffffffff00000000ffffffff00000000, 0x100000000, 0x300000002, 0, 0) := by
      unfold zf_X11_side
      rw [jrun_u]
      simp only [zg_X11_side, ↓reduceIte]
      unfold zg_X11_side_0
      rw [show zf_X11_isCorner 4 1 = some true from rfl]
      simp only [Option.bind_some, Bool.true_eq_false, ↓reduceIte]
      rw [show zf_X11_isCorner 4 0 = some true from rfl]
      simp only [Option.bind_some, Bool.true_eq_false, ↓reduceIte]
      rw [if_neg (by decide), if_neg (by decide), if_neg (by decide), show zf_X11_cross 4 2 4 1 0 0xffffffff00000001ffffffff000000000000000000000000000000000000000000000000ffffffff00000000ffffffff0000000000000000000000000000000000000000000000000000000000000001ffffffff00000000ffffffff000000000000000000000000000000000000000000000000ffffffff00000000ffffffff00000000 0x100000000 0x300000002 0 0 1 0 = some (2, 4, 0, 0xffffffff00000001ffffffff000000000000000000000000000000000000000000000000ffffffff00000000ffffffff0000000000000000000000000000000000000000000000000000000000000001ffffffff00000000ffffffff000000000000000000000000000000000000000000000000ffffffff00000000ffffffff00000000, 0x100000000, 0x300000002, 0, 0) from rfl]
      simp only [Option.bind_some]
      rw [hi9]
      rfl
    exact ⟨_, _, hx, hy, rfl⟩
  · exact ⟨_, _, rfl, rfl, rfl⟩
  · have hs : zf_X0_sharedWithNext 16 0 0 4 k = some (-1) := by
      unfold zf_X0_sharedWithNext
      rw [if_neg (by unfold zout; omega)]
      by_cases q : k < 0
      · rw [if_pos q]
      · rw [if_neg q, if_neg (by decide)]
        first | rw [if_pos (by omega)] | rw [if_neg (by omega)]
    have hx : zf_X10_side 16 4 1 0 0 1 2 k = some (-1, 0, 0) := by
      unfold zf_X10_side
      rw [show zf_X10_areCorners 16 4 1 2 = some true from rfl]
      simp only [Option.bind_some, Bool.true_eq_false, ↓reduceIte]
      rw [if_neg (by decide), if_neg (by decide), if_neg (by decide), if_neg zno164, show zf_X0_gather 16 0 0 4 1 1 2 = some (0, 0) from rfl]
      simp only [Option.bind_some]
      rw [hs]
      rfl
    have hi9 : zf_X11_in k 0 (0 - 2) = some false := by
      rw [y_in (by unfold zout; omega) (by decide) (by decide)]
      rw [decide_eq_false (by omega)]
    have hy : zf_X11_side 4 2 4 1 0 0xffffffff00000001ffffffff000000000000000000000000000000000000000000000000ffffffff00000000ffffffff0000000000000000000000000000000000000000000000000000000000000001ffffffff00000000ffffffff000000000000000000000000000000000000000000000000ffffffff00000000ffffffff00000000 0x100000000 0x300000002 0 0 1 2 k = some ((-1), 2, 4, 0, 0xffffffff00000001ffffffff000000000000000000000000000000000000000000000000ffffffff00000000ffffffff0000000000000000000000000000000000000000000000000000000000000001ffffffff00000000ffffffff000000000000000000000000000000000000000000000000ffffffff00000000ffffffff00000000, 0x100000000, 0x300000002, 0, 0) := by
      unfold zf_X11_side
      rw [jrun_u]
      simp only [zg_X11_side, ↓reduceIte]
      unfold zg_X11_side_0
      rw [show zf_X11_isCorner 4 1 = some true from rfl]
      simp only [Option.bind_some, Bool.true_eq_false, ↓reduceIte]
      rw [show zf_X11_isCorner 4 2 = some true from rfl]
      simp only [Option.bind_some, Bool.true_eq_false, ↓reduceIte]
      rw [if_neg (by decide), if_neg (by decide), if_neg (by decide), show zf_X11_cross 4 2 4 1 0 0xffffffff00000001ffffffff000000000000000000000000000000000000000000000000ffffffff00000000ffffffff0000000000000000000000000000000000000000000000000000000000000001ffffffff00000000ffffffff000000000000000000000000000000000000000000000000ffffffff00000000ffffffff00000000 0x100000000 0x300000002 0 0 1 2 = some (2, 4, 0, 0xffffffff00000001ffffffff000000000000000000000000000000000000000000000000ffffffff00000000ffffffff0000000000000000000000000000000000000000000000000000000000000001ffffffff00000000ffffffff000000000000000000000000000000000000000000000000ffffffff00000000ffffffff00000000, 0x100000000, 0x300000002, 0, 0) from rfl]
      simp only [Option.bind_some]
      rw [hi9]
      rfl
    exact ⟨_, _, hx, hy, rfl⟩
  · have hs : zf_X0_sharedWithNext 16 1 0 4 k = some (-1) := by
      unfold zf_X0_sharedWithNext
      rw [if_neg (by unfold zout; omega)]
      by_cases q : k < 0
      · rw [if_pos q]
      · rw [if_neg q, if_neg (by decide)]
        first | rw [if_pos (by omega)] | rw [if_neg (by omega)]
    have hx : zf_X10_side 16 4 1 0 0 1 3 k = some (-1, 1, 0) := by
      unfold zf_X10_side
      rw [show zf_X10_areCorners 16 4 1 3 = some true from rfl]
      simp only [Option.bind_some, Bool.true_eq_false, ↓reduceIte]
      rw [if_neg (by decide), if_neg (by decide), if_neg (by decide), if_neg zno164, show zf_X0_gather 16 0 0 4 1 1 3 = some (1, 0) from rfl]
      simp only [Option.bind_some]
      rw [hs]
      rfl
    have hi9 : zf_X11_in k 0 (1 - 2) = some false := by
      rw [y_in (by unfold zout; omega) (by decide) (by decide)]
      rw [decide_eq_false (by omega)]
    have hy : zf_X11_side 4 2 4 1 0 0xffffffff00000001ffffffff000000000000000000000000000000000000000000000000ffffffff00000000ffffffff0000000000000000000000000000000000000000000000000000000000000001ffffffff00000000ffffffff000000000000000000000000000000000000000000000000ffffffff00000000ffffffff00000000 0x100000000 0x300000002 0 0 1 3 k = some ((-1), 2, 4, 1, 0xffffffff00000001ffffffff000000000000000000000000000000000000000000000000ffffffff00000000ffffffff0000000000000000000000000000000000000000000000000000000000000001ffffffff00000000ffffffff000000000000000000000000000000000000000000000000ffffffff00000000ffffffff00000000, 0x100000000, 0x300000002, 0, 2) := by
      unfold zf_X11_side
      rw [jrun_u]
      simp only [zg_X11_side, ↓reduceIte]
      unfold zg_X11_side_0
      rw [show zf_X11_isCorner 4 1 = some true from rfl]
      simp only [Option.bind_some, Bool.true_eq_false, ↓reduceIte]
      rw [show zf_X11_isCorner 4 3 = some true from rfl]
      simp only [Option.bind_some, Bool.true_eq_false, ↓reduceIte]
      rw [if_neg (by decide), if_neg (by decide), if_neg (by decide), show zf_X11_cross 4 2 4 1 0 0xffffffff00000001ffffffff000000000000000000000000000000000000000000000000ffffffff00000000ffffffff0000000000000000000000000000000000000000000000000000000000000001ffffffff00000000ffffffff000000000000000000000000000000000000000000000000ffffffff00000000ffffffff00000000 0x100000000 0x300000002 0 0 1 3 = some (2, 4, 1, 0xffffffff00000001ffffffff000000000000000000000000000000000000000000000000ffffffff00000000ffffffff0000000000000000000000000000000000000000000000000000000000000001ffffffff00000000ffffffff000000000000000000000000000000000000000000000000ffffffff00000000ffffffff00000000, 0x100000000, 0x300000002, 0, 2) from rfl]
      simp only [Option.bind_some]
      rw [hi9]
      rfl
    exact ⟨_, _, hx, hy, rfl⟩
  · have hs : zf_X0_sharedWithNext 16 0 0 4 k = some (-1) := by
      unfold zf_X0_sharedWithNext
      rw [if_neg (by unfold zout; omega)]
      by_cases q : k < 0
      · rw [if_pos q]
      · rw [if_neg q, if_neg (by decide)]
        first | rw [if_pos (by omega)] | rw [if_neg (by omega)]
    have hx : zf_X10_side 16 4 1 0 0 2 0 k = some (-1, 0, 0) := by
      unfold zf_X10_side
      rw [show zf_X10_areCorners 16 4 2 0 = some true from rfl]
      simp only [Option.bind_some, Bool.true_eq_false, ↓reduceIte]
      rw [if_neg (by decide), if_neg (by decide), if_neg (by decide), if_neg zno164, show zf_X0_gather 16 0 0 4 1 2 0 = some (0, 0) from rfl]
      simp only [Option.bind_some]
      rw [hs]
      rfl
    have hi9 : zf_X11_in k 0 (0 - 2) = some false := by
      rw [y_in (by unfold zout; omega) (by decide) (by decide)]
      rw [decide_eq_false (by omega)]
    have hy : zf_X11_side 4 2 4 1 0 0xffffffff00000001ffffffff000000000000000000000000000000000000000000000000ffffffff00000000ffffffff0000000000000000000000000000000000000000000000000000000000000001ffffffff00000000ffffffff000000000000000000000000000000000000000000000000ffffffff00000000ffffffff00000000 0x100000000 0x300000002 0 0 2 0 k = some ((-1), 2, 4, 0, 0xffffffff00000001ffffffff000000000000000000000000000000000000000000000000ffffffff00000000ffffffff0000000000000000000000000000000000000000000000000000000000000001ffffffff00000000ffffffff000000000000000000000000000000000000000000000000ffffffff00000000ffffffff00000000, 0x100000000, 0x300000002, 0, 0) := by
      unfold zf_X11_side
      rw [jrun_u]
      simp only [zg_X11_side, ↓reduceIte]
      unfold zg_X11_side_0
      rw [show zf_X11_isCorner 4 2 = some true from rfl]
      simp only [Option.bind_some, Bool.true_eq_false, ↓reduceIte]
      rw [show zf_X11_isCorner 4 0 = some true from rfl]
      simp only [Option.bind_some, Bool.true_eq_false, ↓reduceIte]
      rw [if_neg (by decide), if_neg (by decide), if_neg (by decide), show zf_X11_cross 4 2 4 1 0 0xffffffff00000001ffffffff000000000000000000000000000000000000000000000000ffffffff00000000ffffffff0000000000000000000000000000000000000000000000000000000000000001ffffffff00000000ffffffff000000000000000000000000000000000000000000000000ffffffff00000000ffffffff00000000 0x100000000 0x300000002 0 0 2 0 = some (2, 4, 0, 0xffffffff00000001ffffffff000000000000000000000000000000000000000000000000ffffffff00000000ffffffff0000000000000000000000000000000000000000000000000000000000000001ffffffff00000000ffffffff000000000000000000000000000000000000000000000000ffffffff00000000ffffffff00000000, 0x100000000, 0x300000002, 0, 0) from rfl]
      simp only [Option.bind_some]
      rw [hi9]
      rfl
    exact ⟨_, _, hx, hy, rfl⟩
  · have hs : zf_X0_sharedWithNext 16 0 0 4 k = some (-1) := by
      unfold zf_X0_sharedWithNext
      rw [if_neg (by unfold zout; omega)]
      by_cases q : k < 0
      · rw [if_pos q]
      · rw [if_neg q, if_neg (by decide)]
        first | rw [if_pos (by omega)] | rw [if_neg (by omega)]
    have hx : zf_X10_side 16 4 1 0 0 2 1 k = some (-1, 0, 0) := by
      unfold zf_X10_side
      rw [show zf_X10_areCorners 16 4 2 1 = some true from rfl]
      simp only [Option.bind_some, Bool.true_eq_false, ↓reduceIte]
      rw [if_neg (by decide), if_neg (by decide), if_neg (by decide), if_neg zno164, show zf_X0_gather 16 0 0 4 1 2 1 = some (0, 0) from rfl]
      simp only [Option.bind_some]
      rw [hs]
      rfl
    have hi9 : zf_X11_in k 0 (0 - 2) = some false := by
      rw [y_in (by unfold zout; omega) (by decide) (by decide)]
      rw [decide_eq_false (by omega)]
    have hy : zf_X11_side 4 2 4 1 0 0xffffffff00000001ffffffff000000000000000000000000000000000000000000000000ffffffff00000000ffffffff0000000000000000000000000000000000000000000000000000000000000001ffffffff00000000ffffffff000000000000000000000000000000000000000000000000ffffffff00000000ffffffff00000000 0x100000000 0x300000002 0 0 2 1 k = some ((-1), 2, 4, 0, 0xffffffff00000001ffffffff000000000000000000000000000000000000000000000000ffffffff00000000ffffffff0000000000000000000000000000000000000000000000000000000000000001ffffffff00000000ffffffff000000000000000000000000000000000000000000000000ffffffff00000000ffffffff00000000, 0x100000000, 0x300000002, 0, 0) := by
      unfold zf_X11_side
      rw [jrun_u]
      simp only [zg_X11_side, ↓reduceIte]
      unfold zg_X11_side_0
      rw [show zf_X11_isCorner 4 2 = some true from rfl]
      simp only [Option.bind_some, Bool.true_eq_false, ↓reduceIte]
      rw [show zf_X11_isCorner 4 1 = some true from rfl]
      simp only [Option.bind_some, Bool.true_eq_false, ↓reduceIte]
      rw [if_neg (by decide), if_neg (by decide), if_neg (by decide), show zf_X11_cross 4 2 4 1 0 0xffffffff00000001ffffffff000000000000000000000000000000000000000000000000ffffffff00000000ffffffff0000000000000000000000000000000000000000000000000000000000000001ffffffff00000000ffffffff000000000000000000000000000000000000000000000000ffffffff00000000ffffffff00000000 0x100000000 0x300000002 0 0 2 1 = some (2, 4, 0, 0xffffffff00000001ffffffff000000000000000000000000000000000000000000000000ffffffff00000000ffffffff0000000000000000000000000000000000000000000000000000000000000001ffffffff00000000ffffffff000000000000000000000000000000000000000000000000ffffffff00000000ffffffff00000000, 0x100000000, 0x300000002, 0, 0) from rfl]
      simp only [Option.bind_some]
      rw [hi9]
      rfl
    exact ⟨_, _, hx, hy, rfl⟩
  · exact ⟨_, _, rfl, rfl, rfl⟩
  · have hs : zf_X0_sharedWithNext 16 0 0 4 k = some (-1) := by
      unfold zf_X0_sharedWithNext
      rw [if_neg (by unfold zout; omega)]
      by_cases q : k < 0
      · rw [if_pos q]
      · rw [if_neg q, if_neg (by decide)]
        first | rw [if_pos (by omega)] | rw [if_neg (by omega)]
    have hx : zf_X10_side 16 4 1 0 0 2 3 k = some (-1, 0, 0) := by
      unfold zf_X10_side
      rw [show zf_X10_areCorners 16 4 2 3 = some true from rfl]
      simp only [Option.bind_some, Bool.true_eq_false, ↓reduceIte]
      rw [if_neg (by decide), if_neg (by decide), if_neg (by decide), if_neg zno164, show zf_X0_gather 16 0 0 4 1 2 3 = some (0, 0) from rfl]
      simp only [Option.bind_some]
      rw [hs]
      rfl
    have hi9 : zf_X11_in k 0 (0 - 2) = some false := by
      rw [y_in (by unfold zout; omega) (by decide) (by decide)]
      rw [decide_eq_false (by omega)]
    have hy : zf_X11_side 4 2 4 1 0 0xffffffff00000001ffffffff000000000000000000000000000000000000000000000000ffffffff00000000ffffffff0000000000000000000000000000000000000000000000000000000000000001ffffffff00000000ffffffff000000000000000000000000000000000000000000000000ffffffff00000000ffffffff00000000 0x100000000 0x300000002 0 0 2 3 k = some ((-1), 2, 4, 0, 0xffffffff00000001ffffffff000000000000000000000000000000000000000000000000ffffffff00000000ffffffff0000000000000000000000000000000000000000000000000000000000000001ffffffff00000000ffffffff000000000000000000000000000000000000000000000000ffffffff00000000ffffffff00000000, 0x100000000, 0x300000002, 0, 0) := by
      unfold zf_X11_side
      rw [jrun_u]
      simp only [zg_X11_side, ↓reduceIte]
      unfold zg_X11_side_0
      rw [show zf_X11_isCorner 4 2 = some true from rfl]
      simp only [Option.bind_some, Bool.true_eq_false, ↓reduceIte]
      rw [show zf_X11_isCorner 4 3 = some true from rfl]
      simp only [Option.bind_some, Bool.true_eq_false, ↓reduceIte]
      rw [if_neg (by decide), if_neg (by decide), if_neg (by decide), show zf_X11_cross 4 2 4 1 0 0xffffffff00000001ffffffff000000000000000000000000000000000000000000000000ffffffff00000000ffffffff0000000000000000000000000000000000000000000000000000000000000001ffffffff00000000ffffffff000000000000000000000000000000000000000000000000ffffffff00000000ffffffff00000000 0x100000000 0x300000002 0 0 2 3 = some (2, 4, 0, 0xffffffff00000001ffffffff000000000000000000000000000000000000000000000000ffffffff00000000ffffffff0000000000000000000000000000000000000000000000000000000000000001ffffffff00000000ffffffff000000000000000000000000000000000000000000000000ffffffff00000000ffffffff00000000, 0x100000000, 0x300000002, 0, 0) from rfl]
      simp only [Option.bind_some]
      rw [hi9]
      rfl
    exact ⟨_, _, hx, hy, rfl⟩
  · have hs : zf_X0_sharedWithNext 16 0 0 4 k = some (-1) := by
      unfold zf_X0_sharedWithNext
      rw [if_neg (by unfold zout; omega)]
      by_cases q : k < 0
      · rw [if_pos q]
      · rw [if_neg q, if_neg (by decide)]
        first | rw [if_pos (by omega)] | rw [if_neg (by omega)]
    have hx : zf_X10_side 16 4 1 0 0 3 0 k = some (-1, 0, 0) := by
      unfold zf_X10_side
      rw [show zf_X10_areCorners 16 4 3 0 = some true from rfl]
      simp only [Option.bind_some, Bool.true_eq_false, ↓reduceIte]
      rw [if_neg (by decide), if_neg (by decide), if_neg (by decide), if_neg zno164, show zf_X0_gather 16 0 0 4 1 3 0 = some (0, 0) from rfl]
      simp only [Option.bind_some]
      rw [hs]
      rfl
    have hi9 : zf_X11_in k 0 (0 - 2) = some false := by
      rw [y_in (by unfold zout; omega) (by decide) (by decide)]
      rw [decide_eq_false (by omega)]
    have hy : zf_X11_side 4 2 4 1 0 0xffffffff00000001ffffffff000000000000000000000000000000000000000000000000ffffffff00000000ffffffff0000000000000000000000000000000000000000000000000000000000000001ffffffff00000000ffffffff000000000000000000000000000000000000000000000000ffffffff00000000ffffffff00000000 0x100000000 0x300000002 0 0 3 0 k = some ((-1), 2, 4, 0, 0xffffffff00000001ffffffff000000000000000000000000000000000000000000000000ffffffff00000000ffffffff0000000000000000000000000000000000000000000000000000000000000001ffffffff00000000ffffffff000000000000000000000000000000000000000000000000ffffffff00000000ffffffff00000000, 0x100000000, 0x300000002, 0, 0) := by
      unfold zf_X11_side
      rw [jrun_u]
      simp only [zg_X11_side, ↓reduceIte]
      unfold zg_X11_side_0
      rw [show zf_X11_isCorner 4 3 = some true from rfl]
      simp only [Option.bind_some, Bool.true_eq_false, ↓reduceIte]
      rw [show zf_X11_isCorner 4 0 = some true from rfl]
      simp only [Option.bind_some, Bool.true_eq_false, ↓reduceIte]
      rw [if_neg (by decide), if_neg (by decide), if_neg (by decide), show zf_X11_cross 4 2 4 1 0 0xffffffff00000001ffffffff000000000000000000000000000000000000000000000000ffffffff00000000ffffffff0000000000000000000000000000000000000000000000000000000000000001ffffffff00000000ffffffff000000000000000000000000000000000000000000000000ffffffff00000000ffffffff00000000 0x100000000 0x300000002 0 0 3 0 = some (2, 4, 0, 0xffffffff00000001ffffffff000000000000000000000000000000000000000000000000ffffffff00000000ffffffff0000000000000000000000000000000000000000000000000000000000000001ffffffff00000000ffffffff000000000000000000000000000000000000000000000000ffffffff00000000ffffffff00000000, 0x100000000, 0x300000002, 0, 0) from rfl]
      simp only [Option.bind_some]
      rw [hi9]
      rfl
    exact ⟨_, _, hx, hy, rfl⟩
  · have hs : zf_X0_sharedWithNext 16 1 0 4 k = some (-1) := by
      unfold zf_X0_sharedWithNext
      rw [if_neg (by unfold zout; omega)]
      by_cases q : k < 0
      · rw [if_pos q]
      · rw [if_neg q, if_neg (by decide)]
        first | rw [if_pos (by omega)] | rw [if_neg (by omega)]
    have hx : zf_X10_side 16 4 1 0 0 3 1 k = some (-1, 1, 0) := by
      unfold zf_X10_side
      rw [show zf_X10_areCorners 16 4 3 1 = some true from rfl]
      simp only [Option.bind_some, Bool.true_eq_false, ↓reduceIte]
      rw [if_neg (by decide), if_neg (by decide), if_neg (by decide), if_neg zno164, show zf_X0_gather 16 0 0 4 1 3 1 = some (1, 0) from rfl]
      simp only [Option.bind_some]
      rw [hs]
      rfl
    have hi9 : zf_X11_in k 0 (1 - 2) = some false := by
      rw [y_in (by unfold zout; omega) (by decide) (by decide)]
      rw [decide_eq_false (by omega)]
    have hy : zf_X11_side 4 2 4 1 0 0xffffffff00000001ffffffff000000000000000000000000000000000000000000000000ffffffff00000000ffffffff0000000000000000000000000000000000000000000000000000000000000001ffffffff00000000ffffffff000000000000000000000000000000000000000000000000ffffffff00000000ffffffff00000000 0x100000000 0x300000002 0 0 3 1 k = some ((-1), 2, 4, 1, 0xffffffff00000001ffffffff000000000000000000000000000000000000000000000000ffffffff00000000ffffffff0000000000000000000000000000000000000000000000000000000000000001ffffffff00000000ffffffff000000000000000000000000000000000000000000000000ffffffff00000000ffffffff00000000, 0x100000000, 0x300000002, 0, 2) := by
      unfold zf_X11_side
      rw [jrun_u]
      simp only [zg_X11_side, ↓reduceIte]
      unfold zg_X11_side_0
      rw [show zf_X11_isCorner 4 3 = some true from rfl]
      simp only [Option.bind_some, Bool.true_eq_false, ↓reduceIte]
      rw [show zf_X11_isCorner 4 1 = some true from rfl]
      simp only [Option.bind_some, Bool.true_eq_false, ↓reduceIte]
      rw [if_neg (by decide), if_neg (by decide), if_neg (by decide), show zf_X11_cross 4 2 4 1 0 0xffffffff00000001ffffffff000000000000000000000000000000000000000000000000ffffffff00000000ffffffff0000000000000000000000000000000000000000000000000000000000000001ffffffff00000000ffffffff000000000000000000000000000000000000000000000000ffffffff00000000ffffffff00000000 0x100000000 0x300000002 0 0 3 1 = some (2, 4, 1, 0xffffffff00000001ffffffff000000000000000000000000000000000000000000000000ffffffff00000000ffffffff0000000000000000000000000000000000000000000000000000000000000001ffffffff00000000ffffffff000000000000000000000000000000000000000000000000ffffffff00000000ffffffff00000000, 0x100000000, 0x300000002, 0, 2) from rfl]
      simp only [Option.bind_some]
      rw [hi9]
      rfl
    exact ⟨_, _, hx, hy, rfl⟩
  · have hs : zf_X0_sharedWithNext 16 0 0 4 k = some (-1) := by
      unfold zf_X0_sharedWithNext
      rw [if_neg (by unfold zout; omega)]
      by_cases q : k < 0
      · rw [if_pos q]
      · rw [if_neg q, if_neg (by decide)]
        first | rw [if_pos (by omega)] | rw [if_neg (by omega)]
    have hx : zf_X10_side 16 4 1 0 0 3 2 k = some (-1, 0, 0) := by
      unfold zf_X10_side
      rw [show zf_X10_areCorners 16 4 3 2 = some true from rfl]
      simp only [Option.bind_some, Bool.true_eq_false, ↓reduceIte]
      rw [if_neg (by decide), if_neg (by decide), if_neg (by decide), if_neg zno164, show zf_X0_gather 16 0 0 4 1 3 2 = some (0, 0) from rfl]
      simp only [Option.bind_some]
      rw [hs]
      rfl
    have hi9 : zf_X11_in k 0 (0 - 2) = some false := by
      rw [y_in (by unfold zout; omega) (by decide) (by decide)]
      rw [decide_eq_false (by omega)]
    have hy : zf_X11_side 4 2 4 1 0 0xffffffff00000001ffffffff000000000000000000000000000000000000000000000000ffffffff00000000ffffffff0000000000000000000000000000000000000000000000000000000000000001ffffffff00000000ffffffff000000000000000000000000000000000000000000000000ffffffff00000000ffffffff00000000 0x100000000 0x300000002 0 0 3 2 k = some ((-1), 2, 4, 0, 0xffffffff00000001ffffffff000000000000000000000000000000000000000000000000ffffffff00000000ffffffff0000000000000000000000000000000000000000000000000000000000000001ffffffff00000000ffffffff000000000000000000000000000000000000000000000000ffffffff00000000ffffffff00000000, 0x100000000, 0x300000002, 0, 0) := by
      unfold zf_X11_side
      rw [jrun_u]
      simp only [zg_X11_side, ↓reduceIte]
      unfold zg_X11_side_0
      rw [show zf_X11_isCorner 4 3 = some true from rfl]
      simp only [Option.bind_some, Bool.true_eq_false, ↓reduceIte]
      rw [show zf_X11_isCorner 4 2 = some true from rfl]
      simp only [Option.bind_some, Bool.true_eq_false, ↓reduceIte]
      rw [if_neg (by decide), if_neg (by decide), if_neg (by decide), show zf_X11_cross 4 2 4 1 0 0xffffffff00000001ffffffff000000000000000000000000000000000000000000000000ffffffff00000000ffffffff0000000000000000000000000000000000000000000000000000000000000001ffffffff00000000ffffffff000000000000000000000000000000000000000000000000ffffffff00000000ffffffff00000000 0x100000000 0x300000002 0 0 3 2 = some (2, 4, 0, 0xffffffff00000001ffffffff000000000000000000000000000000000000000000000000ffffffff00000000ffffffff0000000000000000000000000000000000000000000000000000000000000001ffffffff00000000ffffffff000000000000000000000000000000000000000000000000ffffffff00000000ffffffff00000000, 0x100000000, 0x300000002, 0, 0) from rfl]
      simp only [Option.bind_some]
      rw [hi9]
      rfl
    exact ⟨_, _, hx, hy, rfl⟩
  · exact ⟨_, _, rfl, rfl, rfl⟩
set_option maxRecDepth 20000 in
theorem ev_23   : ∃ o1 o2, zf_X10_period 16 0 0 0 0 0 0 1 1 0 = some o1 ∧ zf_X11_period 0 0 0 0 0 0 0 0 1 0 0 1 = some o2 ∧ (o1.1) = (o2.1) := by
  exact ⟨_, _, rfl, rfl, rfl⟩
set_option maxRecDepth 20000 in
theorem ev_24   : ∃ o1 o2, zf_X10_ofCut 16 4 1 1 1 0 = some o1 ∧ zf_X11_ofCut 4 2 4 1 1 0xffffffff00000001ffffffff000000000000000000000000000000000000000000000000ffffffff00000000ffffffff0000000000000000000000000000000000000000000000000000000000000001ffffffff00000000ffffffff000000000000000000000000000000000000000000000000ffffffff00000000ffffffff00000000 0x100000000 0x300000002 1 = some o2 ∧ (o1.1) = (o2.1) := by
  exact ⟨_, _, rfl, rfl, rfl⟩
set_option maxRecDepth 20000 in
theorem ev_25 (i : Int) (zi : ¬ zout i) : ∃ o1 o2, zf_X10_of 16 1 1 i = some o1 ∧ zf_X11_of 1 1 i = some o2 ∧ o1 = o2 := by
  unfold zout at *
  by_cases cib : i < 0
  · simp (disch := omega) only [zf_X10_of, zf_X11_of, zf_X10_areCorners, zf_X5_hasCorner, zf_X10_isStep, zf_X10_isValue, zf_X7_canTell, zf_X7_wasSeenBefore, zf_X7_has, zf_X2_hasPlace, zf_X8_size, zf_X8_shorten, zf_X5_corners, zf_X5_hasCut, zf_X4_onWay, zf_X1_faultKind, zf_X1_faultPlace, zf_X7_size, zf_X7_rights, zf_X2_size, zf_X5_cutCount, zf_X11_in, zf_X11_isCorner, jrun_u, jstep, zno164e, zout, or_self, ↓if_pos, ↓if_neg, if_pos, if_neg, Option.bind_some, Bool.true_eq_false, ↓reduceIte]
    first | exact ⟨_, _, rfl, rfl, rfl⟩ | done
  by_cases cia : 0 < i
  · simp (disch := omega) only [zf_X10_of, zf_X11_of, zf_X10_areCorners, zf_X5_hasCorner, zf_X10_isStep, zf_X10_isValue, zf_X7_canTell, zf_X7_wasSeenBefore, zf_X7_has, zf_X2_hasPlace, zf_X8_size, zf_X8_shorten, zf_X5_corners, zf_X5_hasCut, zf_X4_onWay, zf_X1_faultKind, zf_X1_faultPlace, zf_X7_size, zf_X7_rights, zf_X2_size, zf_X5_cutCount, zf_X11_in, zf_X11_isCorner, jrun_u, jstep, zno164e, zout, or_self, ↓if_pos, ↓if_neg, if_pos, if_neg, Option.bind_some, Bool.true_eq_false, ↓reduceIte]
    first | exact ⟨_, _, rfl, rfl, rfl⟩ | done
  have hi9 : i = 0 := by omega
  rcases hi9 with rfl <;> exact ⟨_, _, rfl, rfl, rfl⟩
set_option maxRecDepth 20000 in
theorem ev_26 (i : Int) (j : Int) (zi : ¬ zout i) (zj : ¬ zout j) : ∃ o1 o2, zf_X10_along 16 1 1 i j = some o1 ∧ zf_X11_along 1 1 i j = some o2 ∧ o1 = o2 := by
  unfold zout at *
  by_cases cib : i < 0
  · simp (disch := omega) only [zf_X10_along, zf_X11_along, zf_X10_areCorners, zf_X5_hasCorner, zf_X10_isStep, zf_X10_isValue, zf_X7_canTell, zf_X7_wasSeenBefore, zf_X7_has, zf_X2_hasPlace, zf_X8_size, zf_X8_shorten, zf_X5_corners, zf_X5_hasCut, zf_X4_onWay, zf_X1_faultKind, zf_X1_faultPlace, zf_X7_size, zf_X7_rights, zf_X2_size, zf_X5_cutCount, zf_X11_in, zf_X11_isCorner, jrun_u, jstep, zno164e, zout, or_self, ↓if_pos, ↓if_neg, if_pos, if_neg, Option.bind_some, Bool.true_eq_false, ↓reduceIte]
    first | exact ⟨_, _, rfl, rfl, rfl⟩ | done
  by_cases cia : 0 < i
  · simp (disch := omega) only [zf_X10_along, zf_X11_along, zf_X10_areCorners, zf_X5_hasCorner, zf_X10_isStep, zf_X10_isValue, zf_X7_canTell, zf_X7_wasSeenBefore, zf_X7_has, zf_X2_hasPlace, zf_X8_size, zf_X8_shorten, zf_X5_corners, zf_X5_hasCut, zf_X4_onWay, zf_X1_faultKind, zf_X1_faultPlace, zf_X7_size, zf_X7_rights, zf_X2_size, zf_X5_cutCount, zf_X11_in, zf_X11_isCorner, jrun_u, jstep, zno164e, zout, or_self, ↓if_pos, ↓if_neg, if_pos, if_neg, Option.bind_some, Bool.true_eq_false, ↓reduceIte]
    first | exact ⟨_, _, rfl, rfl, rfl⟩ | done
  by_cases cjb : j < 0
  · simp (disch := omega) only [zf_X10_along, zf_X11_along, zf_X10_areCorners, zf_X5_hasCorner, zf_X10_isStep, zf_X10_isValue, zf_X7_canTell, zf_X7_wasSeenBefore, zf_X7_has, zf_X2_hasPlace, zf_X8_size, zf_X8_shorten, zf_X5_corners, zf_X5_hasCut, zf_X4_onWay, zf_X1_faultKind, zf_X1_faultPlace, zf_X7_size, zf_X7_rights, zf_X2_size, zf_X5_cutCount, zf_X11_in, zf_X11_isCorner, jrun_u, jstep, zno164e, zout, or_self, ↓if_pos, ↓if_neg, if_pos, if_neg, Option.bind_some, Bool.true_eq_false, ↓reduceIte]
    first | exact ⟨_, _, rfl, rfl, rfl⟩ | done
  by_cases cja : 12 < j
  · simp (disch := omega) only [zf_X10_along, zf_X11_along, zf_X10_areCorners, zf_X5_hasCorner, zf_X10_isStep, zf_X10_isValue, zf_X7_canTell, zf_X7_wasSeenBefore, zf_X7_has, zf_X2_hasPlace, zf_X8_size, zf_X8_shorten, zf_X5_corners, zf_X5_hasCut, zf_X4_onWay, zf_X1_faultKind, zf_X1_faultPlace, zf_X7_size, zf_X7_rights, zf_X2_size, zf_X5_cutCount, zf_X11_in, zf_X11_isCorner, jrun_u, jstep, zno164e, zout, or_self, ↓if_pos, ↓if_neg, if_pos, if_neg, Option.bind_some, Bool.true_eq_false, ↓reduceIte]
    first | exact ⟨_, _, rfl, rfl, rfl⟩ | done
  have hi9 : i = 0 := by omega
  have hj9 : j = 0 ∨ j = 1 ∨ j = 2 ∨ j = 3 ∨ j = 4 ∨ j = 5 ∨ j = 6 ∨ j = 7 ∨ j = 8 ∨ j = 9 ∨ j = 10 ∨ j = 11 ∨ j = 12 := by omega
  rcases hi9 with rfl <;> rcases hj9 with rfl | rfl | rfl | rfl | rfl | rfl | rfl | rfl | rfl | rfl | rfl | rfl | rfl <;> exact ⟨_, _, rfl, rfl, rfl⟩
set_option maxRecDepth 20000 in
theorem ev_27 (i : Int) (zi : ¬ zout i) : ∃ o1 o2, zf_X10_breaks 16 1 1 i = some o1 ∧ zf_X11_breaks 1 1 i = some o2 ∧ o1 = o2 := by
  unfold zout at *
  by_cases cib : i < 0
  · simp (disch := omega) only [zf_X10_breaks, zf_X11_breaks, zg_X11_breaks, zg_X11_breaks_0, zf_X10_areCorners, zf_X5_hasCorner, zf_X10_isStep, zf_X10_isValue, zf_X7_canTell, zf_X7_wasSeenBefore, zf_X7_has, zf_X2_hasPlace, zf_X8_size, zf_X8_shorten, zf_X5_corners, zf_X5_hasCut, zf_X4_onWay, zf_X1_faultKind, zf_X1_faultPlace, zf_X7_size, zf_X7_rights, zf_X2_size, zf_X5_cutCount, zf_X11_in, zf_X11_isCorner, jrun_u, jstep, zno164e, zout, or_self, ↓if_pos, ↓if_neg, if_pos, if_neg, Option.bind_some, Bool.true_eq_false, ↓reduceIte]
    first | exact ⟨_, _, rfl, rfl, rfl⟩ | done
  by_cases cia : 2 < i
  · simp (disch := omega) only [zf_X10_breaks, zf_X11_breaks, zg_X11_breaks, zg_X11_breaks_0, zf_X10_areCorners, zf_X5_hasCorner, zf_X10_isStep, zf_X10_isValue, zf_X7_canTell, zf_X7_wasSeenBefore, zf_X7_has, zf_X2_hasPlace, zf_X8_size, zf_X8_shorten, zf_X5_corners, zf_X5_hasCut, zf_X4_onWay, zf_X1_faultKind, zf_X1_faultPlace, zf_X7_size, zf_X7_rights, zf_X2_size, zf_X5_cutCount, zf_X11_in, zf_X11_isCorner, jrun_u, jstep, zno164e, zout, or_self, ↓if_pos, ↓if_neg, if_pos, if_neg, Option.bind_some, Bool.true_eq_false, ↓reduceIte]
    first | exact ⟨_, _, rfl, rfl, rfl⟩ | done
  have hi9 : i = 0 ∨ i = 1 ∨ i = 2 := by omega
  rcases hi9 with rfl | rfl | rfl <;> exact ⟨_, _, rfl, rfl, rfl⟩
set_option maxRecDepth 20000 in
theorem ev_28   : ∃ o1 o2, zf_X10_growth 16 1 1 = some o1 ∧ zf_X11_growth 1 1 = some o2 ∧ o1 = o2 := by
  exact ⟨_, _, rfl, rfl, rfl⟩
set_option maxRecDepth 20000 in
theorem ev_29 (i : Int) (zi : ¬ zout i) : ∃ o1 o2, zf_X10_glue 16 1 1 i = some o1 ∧ zf_X11_glue 1 1 i = some o2 ∧ (o1.1) = (o2.1) := by
  unfold zout at *
  by_cases cib : i < 0
  · simp (disch := omega) only [zf_X10_glue, zf_X11_glue, zg_X11_glue, zg_X11_glue_0, zf_X10_areCorners, zf_X5_hasCorner, zf_X10_isStep, zf_X10_isValue, zf_X7_canTell, zf_X7_wasSeenBefore, zf_X7_has, zf_X2_hasPlace, zf_X8_size, zf_X8_shorten, zf_X5_corners, zf_X5_hasCut, zf_X4_onWay, zf_X1_faultKind, zf_X1_faultPlace, zf_X7_size, zf_X7_rights, zf_X2_size, zf_X5_cutCount, zf_X11_in, zf_X11_isCorner, jrun_u, jstep, zno164e, zout, or_self, ↓if_pos, ↓if_neg, if_pos, if_neg, Option.bind_some, Bool.true_eq_false, ↓reduceIte]
    first | exact ⟨_, _, rfl, rfl, rfl⟩ | done
  by_cases cia : 0 < i
  · simp (disch := omega) only [zf_X10_glue, zf_X11_glue, zg_X11_glue, zg_X11_glue_0, zf_X10_areCorners, zf_X5_hasCorner, zf_X10_isStep, zf_X10_isValue, zf_X7_canTell, zf_X7_wasSeenBefore, zf_X7_has, zf_X2_hasPlace, zf_X8_size, zf_X8_shorten, zf_X5_corners, zf_X5_hasCut, zf_X4_onWay, zf_X1_faultKind, zf_X1_faultPlace, zf_X7_size, zf_X7_rights, zf_X2_size, zf_X5_cutCount, zf_X11_in, zf_X11_isCorner, jrun_u, jstep, zno164e, zout, or_self, ↓if_pos, ↓if_neg, if_pos, if_neg, Option.bind_some, Bool.true_eq_false, ↓reduceIte]
    first | exact ⟨_, _, rfl, rfl, rfl⟩ | done
  have hi9 : i = 0 := by omega
  rcases hi9 with rfl <;> exact ⟨_, _, rfl, rfl, rfl⟩
set_option maxRecDepth 20000 in
theorem ev_30 (i : Int) (zi : ¬ zout i) : ∃ o1 o2, zf_X10_cutOff 16 1 1 i = some o1 ∧ zf_X11_cutOff 1 1 i = some o2 ∧ (o1.1) = (o2.1) := by
  unfold zout at *
  by_cases cib : i < 0
  · simp (disch := omega) only [zf_X10_cutOff, zf_X11_cutOff, zf_X10_areCorners, zf_X5_hasCorner, zf_X10_isStep, zf_X10_isValue, zf_X7_canTell, zf_X7_wasSeenBefore, zf_X7_has, zf_X2_hasPlace, zf_X8_size, zf_X8_shorten, zf_X5_corners, zf_X5_hasCut, zf_X4_onWay, zf_X1_faultKind, zf_X1_faultPlace, zf_X7_size, zf_X7_rights, zf_X2_size, zf_X5_cutCount, zf_X11_in, zf_X11_isCorner, jrun_u, jstep, zno164e, zout, or_self, ↓if_pos, ↓if_neg, if_pos, if_neg, Option.bind_some, Bool.true_eq_false, ↓reduceIte]
    first | exact ⟨_, _, rfl, rfl, rfl⟩ | done
  by_cases cia : 0 < i
  · simp (disch := omega) only [zf_X10_cutOff, zf_X11_cutOff, zf_X10_areCorners, zf_X5_hasCorner, zf_X10_isStep, zf_X10_isValue, zf_X7_canTell, zf_X7_wasSeenBefore, zf_X7_has, zf_X2_hasPlace, zf_X8_size, zf_X8_shorten, zf_X5_corners, zf_X5_hasCut, zf_X4_onWay, zf_X1_faultKind, zf_X1_faultPlace, zf_X7_size, zf_X7_rights, zf_X2_size, zf_X5_cutCount, zf_X11_in, zf_X11_isCorner, jrun_u, jstep, zno164e, zout, or_self, ↓if_pos, ↓if_neg, if_pos, if_neg, Option.bind_some, Bool.true_eq_false, ↓reduceIte]
    first | exact ⟨_, _, rfl, rfl, rfl⟩ | done
  have hi9 : i = 0 := by omega
  rcases hi9 with rfl <;> exact ⟨_, _, rfl, rfl, rfl⟩
set_option maxRecDepth 20000 in
theorem ev_31   : ∃ o1 o2, zf_X10_core 16 1 1 = some o1 ∧ zf_X11_core 1 1 = some o2 ∧ (o1.1) = (o2.1) := by
  exact ⟨_, _, rfl, rfl, rfl⟩
set_option maxRecDepth 20000 in
theorem ev_32 (a : Int) (i : Int) (j : Int) (v : Int) (za : ¬ zout a) (zi : ¬ zout i) (zj : ¬ zout j) (zv : ¬ zout v) : ∃ o1 o2, zf_X10_see 16 4 0 0 0 0 0 0 0 a i j v = some o1 ∧ zf_X11_see 4 0 0 0 0 0 0 a i j v = some o2 ∧ (o1.1) = (o2.1) := by
  unfold zout at *
  by_cases c0 : a < 0
  · simp (disch := omega) only [zf_X10_see, zf_X11_see, zf_X10_areCorners, zf_X5_hasCorner, zf_X10_isStep, zf_X10_isValue, zf_X7_canTell, zf_X7_wasSeenBefore, zf_X7_has, zf_X2_hasPlace, zf_X8_size, zf_X8_shorten, zf_X5_corners, zf_X5_hasCut, zf_X4_onWay, zf_X1_faultKind, zf_X1_faultPlace, zf_X7_size, zf_X7_rights, zf_X2_size, zf_X5_cutCount, zf_X11_in, zf_X11_isCorner, jrun_u, jstep, zno164e, zout, or_self, zf_X7_add, ↓if_pos, ↓if_neg, if_pos, if_neg, Option.bind_some, Bool.true_eq_false, ↓reduceIte]
    first | exact ⟨_, _, rfl, rfl, rfl⟩ | done
  by_cases c1 : 999 < a
  · simp (disch := omega) only [zf_X10_see, zf_X11_see, zf_X10_areCorners, zf_X5_hasCorner, zf_X10_isStep, zf_X10_isValue, zf_X7_canTell, zf_X7_wasSeenBefore, zf_X7_has, zf_X2_hasPlace, zf_X8_size, zf_X8_shorten, zf_X5_corners, zf_X5_hasCut, zf_X4_onWay, zf_X1_faultKind, zf_X1_faultPlace, zf_X7_size, zf_X7_rights, zf_X2_size, zf_X5_cutCount, zf_X11_in, zf_X11_isCorner, jrun_u, jstep, zno164e, zout, or_self, zf_X7_add, ↓if_pos, ↓if_neg, if_pos, if_neg, Option.bind_some, Bool.true_eq_false, ↓reduceIte]
    first | exact ⟨_, _, rfl, rfl, rfl⟩ | done
  by_cases c2 : i < 0
  · simp (disch := omega) only [zf_X10_see, zf_X11_see, zf_X10_areCorners, zf_X5_hasCorner, zf_X10_isStep, zf_X10_isValue, zf_X7_canTell, zf_X7_wasSeenBefore, zf_X7_has, zf_X2_hasPlace, zf_X8_size, zf_X8_shorten, zf_X5_corners, zf_X5_hasCut, zf_X4_onWay, zf_X1_faultKind, zf_X1_faultPlace, zf_X7_size, zf_X7_rights, zf_X2_size, zf_X5_cutCount, zf_X11_in, zf_X11_isCorner, jrun_u, jstep, zno164e, zout, or_self, zf_X7_add, ↓if_pos, ↓if_neg, if_pos, if_neg, Option.bind_some, Bool.true_eq_false, ↓reduceIte]
    first | exact ⟨_, _, rfl, rfl, rfl⟩ | done
  by_cases c3 : 3 < i
  · simp (disch := omega) only [zf_X10_see, zf_X11_see, zf_X10_areCorners, zf_X5_hasCorner, zf_X10_isStep, zf_X10_isValue, zf_X7_canTell, zf_X7_wasSeenBefore, zf_X7_has, zf_X2_hasPlace, zf_X8_size, zf_X8_shorten, zf_X5_corners, zf_X5_hasCut, zf_X4_onWay, zf_X1_faultKind, zf_X1_faultPlace, zf_X7_size, zf_X7_rights, zf_X2_size, zf_X5_cutCount, zf_X11_in, zf_X11_isCorner, jrun_u, jstep, zno164e, zout, or_self, zf_X7_add, ↓if_pos, ↓if_neg, if_pos, if_neg, Option.bind_some, Bool.true_eq_false, ↓reduceIte]
    first | exact ⟨_, _, rfl, rfl, rfl⟩ | done
  by_cases c4 : j < 0
  · simp (disch := omega) only [zf_X10_see, zf_X11_see, zf_X10_areCorners, zf_X5_hasCorner, zf_X10_isStep, zf_X10_isValue, zf_X7_canTell, zf_X7_wasSeenBefore, zf_X7_has, zf_X2_hasPlace, zf_X8_size, zf_X8_shorten, zf_X5_corners, zf_X5_hasCut, zf_X4_onWay, zf_X1_faultKind, zf_X1_faultPlace, zf_X7_size, zf_X7_rights, zf_X2_size, zf_X5_cutCount, zf_X11_in, zf_X11_isCorner, jrun_u, jstep, zno164e, zout, or_self, zf_X7_add, ↓if_pos, ↓if_neg, if_pos, if_neg, Option.bind_some, Bool.true_eq_false, ↓reduceIte]
    first | exact ⟨_, _, rfl, rfl, rfl⟩ | done
  by_cases c5 : 3 < j
  · simp (disch := omega) only [zf_X10_see, zf_X11_see, zf_X10_areCorners, zf_X5_hasCorner, zf_X10_isStep, zf_X10_isValue, zf_X7_canTell, zf_X7_wasSeenBefore, zf_X7_has, zf_X2_hasPlace, zf_X8_size, zf_X8_shorten, zf_X5_corners, zf_X5_hasCut, zf_X4_onWay, zf_X1_faultKind, zf_X1_faultPlace, zf_X7_size, zf_X7_rights, zf_X2_size, zf_X5_cutCount, zf_X11_in, zf_X11_isCorner, jrun_u, jstep, zno164e, zout, or_self, zf_X7_add, ↓if_pos, ↓if_neg, if_pos, if_neg, Option.bind_some, Bool.true_eq_false, ↓reduceIte]
    first | exact ⟨_, _, rfl, rfl, rfl⟩ | done
  by_cases c6 : i = j
  · simp (disch := omega) only [zf_X10_see, zf_X11_see, zf_X10_areCorners, zf_X5_hasCorner, zf_X10_isStep, zf_X10_isValue, zf_X7_canTell, zf_X7_wasSeenBefore, zf_X7_has, zf_X2_hasPlace, zf_X8_size, zf_X8_shorten, zf_X5_corners, zf_X5_hasCut, zf_X4_onWay, zf_X1_faultKind, zf_X1_faultPlace, zf_X7_size, zf_X7_rights, zf_X2_size, zf_X5_cutCount, zf_X11_in, zf_X11_isCorner, jrun_u, jstep, zno164e, zout, or_self, zf_X7_add, ↓if_pos, ↓if_neg, if_pos, if_neg, Option.bind_some, Bool.true_eq_false, ↓reduceIte]
    first | exact ⟨_, _, rfl, rfl, rfl⟩ | done
  by_cases c7 : v < 0
  · simp (disch := omega) only [zf_X10_see, zf_X11_see, zf_X10_areCorners, zf_X5_hasCorner, zf_X10_isStep, zf_X10_isValue, zf_X7_canTell, zf_X7_wasSeenBefore, zf_X7_has, zf_X2_hasPlace, zf_X8_size, zf_X8_shorten, zf_X5_corners, zf_X5_hasCut, zf_X4_onWay, zf_X1_faultKind, zf_X1_faultPlace, zf_X7_size, zf_X7_rights, zf_X2_size, zf_X5_cutCount, zf_X11_in, zf_X11_isCorner, jrun_u, jstep, zno164e, zout, or_self, zf_X7_add, ↓if_pos, ↓if_neg, if_pos, if_neg, Option.bind_some, Bool.true_eq_false, ↓reduceIte]
    first | exact ⟨_, _, rfl, rfl, rfl⟩ | done
  by_cases c8 : 9999 < v
  · simp (disch := omega) only [zf_X10_see, zf_X11_see, zf_X10_areCorners, zf_X5_hasCorner, zf_X10_isStep, zf_X10_isValue, zf_X7_canTell, zf_X7_wasSeenBefore, zf_X7_has, zf_X2_hasPlace, zf_X8_size, zf_X8_shorten, zf_X5_corners, zf_X5_hasCut, zf_X4_onWay, zf_X1_faultKind, zf_X1_faultPlace, zf_X7_size, zf_X7_rights, zf_X2_size, zf_X5_cutCount, zf_X11_in, zf_X11_isCorner, jrun_u, jstep, zno164e, zout, or_self, zf_X7_add, ↓if_pos, ↓if_neg, if_pos, if_neg, Option.bind_some, Bool.true_eq_false, ↓reduceIte]
    first | exact ⟨_, _, rfl, rfl, rfl⟩ | done
  simp (disch := omega) only [zf_X10_see, zf_X11_see, zf_X10_areCorners, zf_X5_hasCorner, zf_X10_isStep, zf_X10_isValue, zf_X7_canTell, zf_X7_wasSeenBefore, zf_X7_has, zf_X2_hasPlace, zf_X8_size, zf_X8_shorten, zf_X5_corners, zf_X5_hasCut, zf_X4_onWay, zf_X1_faultKind, zf_X1_faultPlace, zf_X7_size, zf_X7_rights, zf_X2_size, zf_X5_cutCount, zf_X11_in, zf_X11_isCorner, jrun_u, jstep, zno164e, zout, or_self, zf_X7_add, ↓if_pos, ↓if_neg, if_pos, if_neg, Option.bind_some, Bool.true_eq_false, ↓reduceIte]
  first | exact ⟨_, _, rfl, rfl, rfl⟩ | done
set_option maxRecDepth 20000 in
theorem ev_33 (i : Int) (j : Int) (v : Int) (zi : ¬ zout i) (zj : ¬ zout j) (zv : ¬ zout v) : ∃ o1 o2, zf_X10_right 16 0 0 0 0 0 0 0 0 i j v = some o1 ∧ zf_X11_right 0 0 0 0 0 0 i j v = some o2 ∧ (o1.1) = (o2.1) := by
  unfold zout at *
  by_cases c0 : i < 0
  · simp (disch := omega) only [zf_X10_right, zf_X11_right, zg_X11_right, zg_X11_right_0, zf_X10_areCorners, zf_X5_hasCorner, zf_X10_isStep, zf_X10_isValue, zf_X7_canTell, zf_X7_wasSeenBefore, zf_X7_has, zf_X2_hasPlace, zf_X8_size, zf_X8_shorten, zf_X5_corners, zf_X5_hasCut, zf_X4_onWay, zf_X1_faultKind, zf_X1_faultPlace, zf_X7_size, zf_X7_rights, zf_X2_size, zf_X5_cutCount, zf_X11_in, zf_X11_isCorner, jrun_u, jstep, zno164e, zout, or_self, ↓if_pos, ↓if_neg, if_pos, if_neg, Option.bind_some, Bool.true_eq_false, ↓reduceIte]
    first | exact ⟨_, _, rfl, rfl, rfl⟩ | done
  by_cases c1 : 999 < i
  · simp (disch := omega) only [zf_X10_right, zf_X11_right, zg_X11_right, zg_X11_right_0, zf_X10_areCorners, zf_X5_hasCorner, zf_X10_isStep, zf_X10_isValue, zf_X7_canTell, zf_X7_wasSeenBefore, zf_X7_has, zf_X2_hasPlace, zf_X8_size, zf_X8_shorten, zf_X5_corners, zf_X5_hasCut, zf_X4_onWay, zf_X1_faultKind, zf_X1_faultPlace, zf_X7_size, zf_X7_rights, zf_X2_size, zf_X5_cutCount, zf_X11_in, zf_X11_isCorner, jrun_u, jstep, zno164e, zout, or_self, ↓if_pos, ↓if_neg, if_pos, if_neg, Option.bind_some, Bool.true_eq_false, ↓reduceIte]
    first | exact ⟨_, _, rfl, rfl, rfl⟩ | done
  by_cases c2 : j < 0
  · simp (disch := omega) only [zf_X10_right, zf_X11_right, zg_X11_right, zg_X11_right_0, zf_X10_areCorners, zf_X5_hasCorner, zf_X10_isStep, zf_X10_isValue, zf_X7_canTell, zf_X7_wasSeenBefore, zf_X7_has, zf_X2_hasPlace, zf_X8_size, zf_X8_shorten, zf_X5_corners, zf_X5_hasCut, zf_X4_onWay, zf_X1_faultKind, zf_X1_faultPlace, zf_X7_size, zf_X7_rights, zf_X2_size, zf_X5_cutCount, zf_X11_in, zf_X11_isCorner, jrun_u, jstep, zno164e, zout, or_self, ↓if_pos, ↓if_neg, if_pos, if_neg, Option.bind_some, Bool.true_eq_false, ↓reduceIte]
    first | exact ⟨_, _, rfl, rfl, rfl⟩ | done
  simp (disch := omega) only [zf_X10_right, zf_X11_right, zg_X11_right, zg_X11_right_0, zf_X10_areCorners, zf_X5_hasCorner, zf_X10_isStep, zf_X10_isValue, zf_X7_canTell, zf_X7_wasSeenBefore, zf_X7_has, zf_X2_hasPlace, zf_X8_size, zf_X8_shorten, zf_X5_corners, zf_X5_hasCut, zf_X4_onWay, zf_X1_faultKind, zf_X1_faultPlace, zf_X7_size, zf_X7_rights, zf_X2_size, zf_X5_cutCount, zf_X11_in, zf_X11_isCorner, jrun_u, jstep, zno164e, zout, or_self, ↓if_pos, ↓if_neg, if_pos, if_neg, Option.bind_some, Bool.true_eq_false, ↓reduceIte]
  first | exact ⟨_, _, rfl, rfl, rfl⟩ | done
set_option maxRecDepth 20000 in
theorem ev_34 (a : Int) (i : Int) (za : ¬ zout a) (zi : ¬ zout i) : ∃ o1 o2, zf_X10_fit 16 4 0 0 0 0 0 0 0 0 0 0 0 0 a i = some o1 ∧ zf_X11_fit 4 2 4 2 4 0 0 0xffffffff00000001ffffffff000000000000000000000000000000000000000000000000ffffffff00000000ffffffff0000000000000000000000000000000000000000000000000000000000000001ffffffff00000000ffffffff000000000000000000000000000000000000000000000000ffffffff00000000ffffffff00000000 0x100000000 0x300000002 0x20000000000000001 0 0 0 0 0 0 0 0 0 0 0 0 a i = some o2 ∧ (o1.1) = (o2.1) := by
  unfold zout at *
  by_cases c0 : a < 0
  · simp (disch := omega) only [zf_X10_fit, zf_X11_fit, zg_X11_fit, zg_X11_fit_0, zf_X10_areCorners, zf_X5_hasCorner, zf_X10_isStep, zf_X10_isValue, zf_X7_canTell, zf_X7_wasSeenBefore, zf_X7_has, zf_X2_hasPlace, zf_X8_size, zf_X8_shorten, zf_X5_corners, zf_X5_hasCut, zf_X4_onWay, zf_X1_faultKind, zf_X1_faultPlace, zf_X7_size, zf_X7_rights, zf_X2_size, zf_X5_cutCount, zf_X11_in, zf_X11_isCorner, jrun_u, jstep, zno164e, zout, or_self, ↓if_pos, ↓if_neg, if_pos, if_neg, Option.bind_some, Bool.true_eq_false, ↓reduceIte]
    first | exact ⟨_, _, rfl, rfl, rfl⟩ | done
  by_cases c1 : 999 < a
  · simp (disch := omega) only [zf_X10_fit, zf_X11_fit, zg_X11_fit, zg_X11_fit_0, zf_X10_areCorners, zf_X5_hasCorner, zf_X10_isStep, zf_X10_isValue, zf_X7_canTell, zf_X7_wasSeenBefore, zf_X7_has, zf_X2_hasPlace, zf_X8_size, zf_X8_shorten, zf_X5_corners, zf_X5_hasCut, zf_X4_onWay, zf_X1_faultKind, zf_X1_faultPlace, zf_X7_size, zf_X7_rights, zf_X2_size, zf_X5_cutCount, zf_X11_in, zf_X11_isCorner, jrun_u, jstep, zno164e, zout, or_self, ↓if_pos, ↓if_neg, if_pos, if_neg, Option.bind_some, Bool.true_eq_false, ↓reduceIte]
    first | exact ⟨_, _, rfl, rfl, rfl⟩ | done
  by_cases c2 : i < 0
  · simp (disch := omega) only [zf_X10_fit, zf_X11_fit, zg_X11_fit, zg_X11_fit_0, zf_X10_areCorners, zf_X5_hasCorner, zf_X10_isStep, zf_X10_isValue, zf_X7_canTell, zf_X7_wasSeenBefore, zf_X7_has, zf_X2_hasPlace, zf_X8_size, zf_X8_shorten, zf_X5_corners, zf_X5_hasCut, zf_X4_onWay, zf_X1_faultKind, zf_X1_faultPlace, zf_X7_size, zf_X7_rights, zf_X2_size, zf_X5_cutCount, zf_X11_in, zf_X11_isCorner, jrun_u, jstep, zno164e, zout, or_self, ↓if_pos, ↓if_neg, if_pos, if_neg, Option.bind_some, Bool.true_eq_false, ↓reduceIte]
    first | exact ⟨_, _, rfl, rfl, rfl⟩ | done
  by_cases c3 : 1 < i
  · simp (disch := omega) only [zf_X10_fit, zf_X11_fit, zg_X11_fit, zg_X11_fit_0, zf_X10_areCorners, zf_X5_hasCorner, zf_X10_isStep, zf_X10_isValue, zf_X7_canTell, zf_X7_wasSeenBefore, zf_X7_has, zf_X2_hasPlace, zf_X8_size, zf_X8_shorten, zf_X5_corners, zf_X5_hasCut, zf_X4_onWay, zf_X1_faultKind, zf_X1_faultPlace, zf_X7_size, zf_X7_rights, zf_X2_size, zf_X5_cutCount, zf_X11_in, zf_X11_isCorner, jrun_u, jstep, zno164e, zout, or_self, ↓if_pos, ↓if_neg, if_pos, if_neg, Option.bind_some, Bool.true_eq_false, ↓reduceIte]
    first | exact ⟨_, _, rfl, rfl, rfl⟩ | done
  have hi9 : i = 0 ∨ i = 1 := by omega
  rcases hi9 with rfl | rfl
  · simp (disch := omega) only [zf_X10_fit, zf_X11_fit, zg_X11_fit, zg_X11_fit_0, zf_X10_areCorners, zf_X5_hasCorner, zf_X10_isStep, zf_X10_isValue, zf_X7_canTell, zf_X7_wasSeenBefore, zf_X7_has, zf_X2_hasPlace, zf_X8_size, zf_X8_shorten, zf_X5_corners, zf_X5_hasCut, zf_X4_onWay, zf_X1_faultKind, zf_X1_faultPlace, zf_X7_size, zf_X7_rights, zf_X2_size, zf_X5_cutCount, zf_X11_in, zf_X11_isCorner, jrun_u, jstep, zno164e, zout, or_self, ↓if_pos, ↓if_neg, if_pos, if_neg, Option.bind_some, Bool.true_eq_false, ↓reduceIte]
    first | exact ⟨_, _, rfl, rfl, rfl⟩ | done
  · simp (disch := omega) only [zf_X10_fit, zf_X11_fit, zg_X11_fit, zg_X11_fit_0, zf_X10_areCorners, zf_X5_hasCorner, zf_X10_isStep, zf_X10_isValue, zf_X7_canTell, zf_X7_wasSeenBefore, zf_X7_has, zf_X2_hasPlace, zf_X8_size, zf_X8_shorten, zf_X5_corners, zf_X5_hasCut, zf_X4_onWay, zf_X1_faultKind, zf_X1_faultPlace, zf_X7_size, zf_X7_rights, zf_X2_size, zf_X5_cutCount, zf_X11_in, zf_X11_isCorner, jrun_u, jstep, zno164e, zout, or_self, ↓if_pos, ↓if_neg, if_pos, if_neg, Option.bind_some, Bool.true_eq_false, ↓reduceIte]
    first | exact ⟨_, _, rfl, rfl, rfl⟩ | done
set_option maxRecDepth 20000 in
theorem ev_35 (i : Int) (j : Int) (a : Int) (zi : ¬ zout i) (zj : ¬ zout j) (za : ¬ zout a) : ∃ o1 o2, zf_X10_surely 16 4 0 0 0 0 0 0 0 0 0 0 0 0 i j a = some o1 ∧ zf_X11_surely 4 2 4 2 4 0 0 0xffffffff00000001ffffffff000000000000000000000000000000000000000000000000ffffffff00000000ffffffff0000000000000000000000000000000000000000000000000000000000000001ffffffff00000000ffffffff000000000000000000000000000000000000000000000000ffffffff00000000ffffffff00000000 0x100000000 0x300000002 0x20000000000000001 0 0 0 0 0 0 0 0 0 0 0 0 i j a = some o2 ∧ (o1.1) = (o2.1) := by
  unfold zout at *
  by_cases c0 : i < 0
  · by_cases q5 : a < 0
    · simp (disch := omega) only [zf_X10_surely, zf_X11_surely, zg_X11_surely, zg_X11_surely_0, zf_X10_areCorners, zf_X5_hasCorner, zf_X10_isStep, zf_X10_isValue, zf_X7_canTell, zf_X7_wasSeenBefore, zf_X7_has, zf_X2_hasPlace, zf_X8_size, zf_X8_shorten, zf_X5_corners, zf_X5_hasCut, zf_X4_onWay, zf_X1_faultKind, zf_X1_faultPlace, zf_X7_size, zf_X7_rights, zf_X2_size, zf_X5_cutCount, zf_X11_in, zf_X11_isCorner, jrun_u, jstep, zno164e, zout, or_self, ↓if_pos, ↓if_neg, if_pos, if_neg, Option.bind_some, Bool.true_eq_false, ↓reduceIte]
      first | exact ⟨_, _, rfl, rfl, rfl⟩ | done
    by_cases q7 : 999 < a
    · simp (disch := omega) only [zf_X10_surely, zf_X11_surely, zg_X11_surely, zg_X11_surely_0, zf_X10_areCorners, zf_X5_hasCorner, zf_X10_isStep, zf_X10_isValue, zf_X7_canTell, zf_X7_wasSeenBefore, zf_X7_has, zf_X2_hasPlace, zf_X8_size, zf_X8_shorten, zf_X5_corners, zf_X5_hasCut, zf_X4_onWay, zf_X1_faultKind, zf_X1_faultPlace, zf_X7_size, zf_X7_rights, zf_X2_size, zf_X5_cutCount, zf_X11_in, zf_X11_isCorner, jrun_u, jstep, zno164e, zout, or_self, ↓if_pos, ↓if_neg, if_pos, if_neg, Option.bind_some, Bool.true_eq_false, ↓reduceIte]
      first | exact ⟨_, _, rfl, rfl, rfl⟩ | done
    simp (disch := omega) only [zf_X10_surely, zf_X11_surely, zg_X11_surely, zg_X11_surely_0, zf_X10_areCorners, zf_X5_hasCorner, zf_X10_isStep, zf_X10_isValue, zf_X7_canTell, zf_X7_wasSeenBefore, zf_X7_has, zf_X2_hasPlace, zf_X8_size, zf_X8_shorten, zf_X5_corners, zf_X5_hasCut, zf_X4_onWay, zf_X1_faultKind, zf_X1_faultPlace, zf_X7_size, zf_X7_rights, zf_X2_size, zf_X5_cutCount, zf_X11_in, zf_X11_isCorner, jrun_u, jstep, zno164e, zout, or_self, ↓if_pos, ↓if_neg, if_pos, if_neg, Option.bind_some, Bool.true_eq_false, ↓reduceIte]
    first | exact ⟨_, _, rfl, rfl, rfl⟩ | done
  by_cases c1 : 3 < i
  · by_cases q5 : a < 0
    · simp (disch := omega) only [zf_X10_surely, zf_X11_surely, zg_X11_surely, zg_X11_surely_0, zf_X10_areCorners, zf_X5_hasCorner, zf_X10_isStep, zf_X10_isValue, zf_X7_canTell, zf_X7_wasSeenBefore, zf_X7_has, zf_X2_hasPlace, zf_X8_size, zf_X8_shorten, zf_X5_corners, zf_X5_hasCut, zf_X4_onWay, zf_X1_faultKind, zf_X1_faultPlace, zf_X7_size, zf_X7_rights, zf_X2_size, zf_X5_cutCount, zf_X11_in, zf_X11_isCorner, jrun_u, jstep, zno164e, zout, or_self, ↓if_pos, ↓if_neg, if_pos, if_neg, Option.bind_some, Bool.true_eq_false, ↓reduceIte]
      first | exact ⟨_, _, rfl, rfl, rfl⟩ | done
    by_cases q7 : 999 < a
    · simp (disch := omega) only [zf_X10_surely, zf_X11_surely, zg_X11_surely, zg_X11_surely_0, zf_X10_areCorners, zf_X5_hasCorner, zf_X10_isStep, zf_X10_isValue, zf_X7_canTell, zf_X7_wasSeenBefore, zf_X7_has, zf_X2_hasPlace, zf_X8_size, zf_X8_shorten, zf_X5_corners, zf_X5_hasCut, zf_X4_onWay, zf_X1_faultKind, zf_X1_faultPlace, zf_X7_size, zf_X7_rights, zf_X2_size, zf_X5_cutCount, zf_X11_in, zf_X11_isCorner, jrun_u, jstep, zno164e, zout, or_self, ↓if_pos, ↓if_neg, if_pos, if_neg, Option.bind_some, Bool.true_eq_false, ↓reduceIte]
      first | exact ⟨_, _, rfl, rfl, rfl⟩ | done
    simp (disch := omega) only [zf_X10_surely, zf_X11_surely, zg_X11_surely, zg_X11_surely_0, zf_X10_areCorners, zf_X5_hasCorner, zf_X10_isStep, zf_X10_isValue, zf_X7_canTell, zf_X7_wasSeenBefore, zf_X7_has, zf_X2_hasPlace, zf_X8_size, zf_X8_shorten, zf_X5_corners, zf_X5_hasCut, zf_X4_onWay, zf_X1_faultKind, zf_X1_faultPlace, zf_X7_size, zf_X7_rights, zf_X2_size, zf_X5_cutCount, zf_X11_in, zf_X11_isCorner, jrun_u, jstep, zno164e, zout, or_self, ↓if_pos, ↓if_neg, if_pos, if_neg, Option.bind_some, Bool.true_eq_false, ↓reduceIte]
    first | exact ⟨_, _, rfl, rfl, rfl⟩ | done
  by_cases c2 : j < 0
  · by_cases q5 : a < 0
    · simp (disch := omega) only [zf_X10_surely, zf_X11_surely, zg_X11_surely, zg_X11_surely_0, zf_X10_areCorners, zf_X5_hasCorner, zf_X10_isStep, zf_X10_isValue, zf_X7_canTell, zf_X7_wasSeenBefore, zf_X7_has, zf_X2_hasPlace, zf_X8_size, zf_X8_shorten, zf_X5_corners, zf_X5_hasCut, zf_X4_onWay, zf_X1_faultKind, zf_X1_faultPlace, zf_X7_size, zf_X7_rights, zf_X2_size, zf_X5_cutCount, zf_X11_in, zf_X11_isCorner, jrun_u, jstep, zno164e, zout, or_self, ↓if_pos, ↓if_neg, if_pos, if_neg, Option.bind_some, Bool.true_eq_false, ↓reduceIte]
      first | exact ⟨_, _, rfl, rfl, rfl⟩ | done
    by_cases q7 : 999 < a
    · simp (disch := omega) only [zf_X10_surely, zf_X11_surely, zg_X11_surely, zg_X11_surely_0, zf_X10_areCorners, zf_X5_hasCorner, zf_X10_isStep, zf_X10_isValue, zf_X7_canTell, zf_X7_wasSeenBefore, zf_X7_has, zf_X2_hasPlace, zf_X8_size, zf_X8_shorten, zf_X5_corners, zf_X5_hasCut, zf_X4_onWay, zf_X1_faultKind, zf_X1_faultPlace, zf_X7_size, zf_X7_rights, zf_X2_size, zf_X5_cutCount, zf_X11_in, zf_X11_isCorner, jrun_u, jstep, zno164e, zout, or_self, ↓if_pos, ↓if_neg, if_pos, if_neg, Option.bind_some, Bool.true_eq_false, ↓reduceIte]
      first | exact ⟨_, _, rfl, rfl, rfl⟩ | done
    simp (disch := omega) only [zf_X10_surely, zf_X11_surely, zg_X11_surely, zg_X11_surely_0, zf_X10_areCorners, zf_X5_hasCorner, zf_X10_isStep, zf_X10_isValue, zf_X7_canTell, zf_X7_wasSeenBefore, zf_X7_has, zf_X2_hasPlace, zf_X8_size, zf_X8_shorten, zf_X5_corners, zf_X5_hasCut, zf_X4_onWay, zf_X1_faultKind, zf_X1_faultPlace, zf_X7_size, zf_X7_rights, zf_X2_size, zf_X5_cutCount, zf_X11_in, zf_X11_isCorner, jrun_u, jstep, zno164e, zout, or_self, ↓if_pos, ↓if_neg, if_pos, if_neg, Option.bind_some, Bool.true_eq_false, ↓reduceIte]
    first | exact ⟨_, _, rfl, rfl, rfl⟩ | done
  by_cases c3 : 3 < j
  · by_cases q5 : a < 0
    · simp (disch := omega) only [zf_X10_surely, zf_X11_surely, zg_X11_surely, zg_X11_surely_0, zf_X10_areCorners, zf_X5_hasCorner, zf_X10_isStep, zf_X10_isValue, zf_X7_canTell, zf_X7_wasSeenBefore, zf_X7_has, zf_X2_hasPlace, zf_X8_size, zf_X8_shorten, zf_X5_corners, zf_X5_hasCut, zf_X4_onWay, zf_X1_faultKind, zf_X1_faultPlace, zf_X7_size, zf_X7_rights, zf_X2_size, zf_X5_cutCount, zf_X11_in, zf_X11_isCorner, jrun_u, jstep, zno164e, zout, or_self, ↓if_pos, ↓if_neg, if_pos, if_neg, Option.bind_some, Bool.true_eq_false, ↓reduceIte]
      first | exact ⟨_, _, rfl, rfl, rfl⟩ | done
    by_cases q7 : 999 < a
    · simp (disch := omega) only [zf_X10_surely, zf_X11_surely, zg_X11_surely, zg_X11_surely_0, zf_X10_areCorners, zf_X5_hasCorner, zf_X10_isStep, zf_X10_isValue, zf_X7_canTell, zf_X7_wasSeenBefore, zf_X7_has, zf_X2_hasPlace, zf_X8_size, zf_X8_shorten, zf_X5_corners, zf_X5_hasCut, zf_X4_onWay, zf_X1_faultKind, zf_X1_faultPlace, zf_X7_size, zf_X7_rights, zf_X2_size, zf_X5_cutCount, zf_X11_in, zf_X11_isCorner, jrun_u, jstep, zno164e, zout, or_self, ↓if_pos, ↓if_neg, if_pos, if_neg, Option.bind_some, Bool.true_eq_false, ↓reduceIte]
      first | exact ⟨_, _, rfl, rfl, rfl⟩ | done
    simp (disch := omega) only [zf_X10_surely, zf_X11_surely, zg_X11_surely, zg_X11_surely_0, zf_X10_areCorners, zf_X5_hasCorner, zf_X10_isStep, zf_X10_isValue, zf_X7_canTell, zf_X7_wasSeenBefore, zf_X7_has, zf_X2_hasPlace, zf_X8_size, zf_X8_shorten, zf_X5_corners, zf_X5_hasCut, zf_X4_onWay, zf_X1_faultKind, zf_X1_faultPlace, zf_X7_size, zf_X7_rights, zf_X2_size, zf_X5_cutCount, zf_X11_in, zf_X11_isCorner, jrun_u, jstep, zno164e, zout, or_self, ↓if_pos, ↓if_neg, if_pos, if_neg, Option.bind_some, Bool.true_eq_false, ↓reduceIte]
    first | exact ⟨_, _, rfl, rfl, rfl⟩ | done
  have hi9 : i = 0 ∨ i = 1 ∨ i = 2 ∨ i = 3 := by omega
  have hj9 : j = 0 ∨ j = 1 ∨ j = 2 ∨ j = 3 := by omega
  rcases hi9 with rfl | rfl | rfl | rfl <;> rcases hj9 with rfl | rfl | rfl | rfl
  · by_cases q5 : a < 0
    · simp (disch := omega) only [zf_X10_surely, zf_X11_surely, zg_X11_surely, zg_X11_surely_0, zf_X10_areCorners, zf_X5_hasCorner, zf_X10_isStep, zf_X10_isValue, zf_X7_canTell, zf_X7_wasSeenBefore, zf_X7_has, zf_X2_hasPlace, zf_X8_size, zf_X8_shorten, zf_X5_corners, zf_X5_hasCut, zf_X4_onWay, zf_X1_faultKind, zf_X1_faultPlace, zf_X7_size, zf_X7_rights, zf_X2_size, zf_X5_cutCount, zf_X11_in, zf_X11_isCorner, jrun_u, jstep, zno164e, zout, or_self, zf_X5_lineOf, ↓if_pos, ↓if_neg, if_pos, if_neg, Option.bind_some, Bool.true_eq_false, ↓reduceIte]
      first | exact ⟨_, _, rfl, rfl, rfl⟩ | done
    by_cases q7 : 999 < a
    · simp (disch := omega) only [zf_X10_surely, zf_X11_surely, zg_X11_surely, zg_X11_surely_0, zf_X10_areCorners, zf_X5_hasCorner, zf_X10_isStep, zf_X10_isValue, zf_X7_canTell, zf_X7_wasSeenBefore, zf_X7_has, zf_X2_hasPlace, zf_X8_size, zf_X8_shorten, zf_X5_corners, zf_X5_hasCut, zf_X4_onWay, zf_X1_faultKind, zf_X1_faultPlace, zf_X7_size, zf_X7_rights, zf_X2_size, zf_X5_cutCount, zf_X11_in, zf_X11_isCorner, jrun_u, jstep, zno164e, zout, or_self, zf_X5_lineOf, ↓if_pos, ↓if_neg, if_pos, if_neg, Option.bind_some, Bool.true_eq_false, ↓reduceIte]
      first | exact ⟨_, _, rfl, rfl, rfl⟩ | done
    simp (disch := omega) only [zf_X10_surely, zf_X11_surely, zg_X11_surely, zg_X11_surely_0, zf_X10_areCorners, zf_X5_hasCorner, zf_X10_isStep, zf_X10_isValue, zf_X7_canTell, zf_X7_wasSeenBefore, zf_X7_has, zf_X2_hasPlace, zf_X8_size, zf_X8_shorten, zf_X5_corners, zf_X5_hasCut, zf_X4_onWay, zf_X1_faultKind, zf_X1_faultPlace, zf_X7_size, zf_X7_rights, zf_X2_size, zf_X5_cutCount, zf_X11_in, zf_X11_isCorner, jrun_u, jstep, zno164e, zout, or_self, zf_X5_lineOf, ↓if_pos, ↓if_neg, if_pos, if_neg, Option.bind_some, Bool.true_eq_false, ↓reduceIte]
    first | exact ⟨_, _, rfl, rfl, rfl⟩ | done
  · by_cases q5 : a < 0
    · simp (disch := omega) only [zf_X10_surely, zf_X11_surely, zg_X11_surely, zg_X11_surely_0, zf_X10_areCorners, zf_X5_hasCorner, zf_X10_isStep, zf_X10_isValue, zf_X7_canTell, zf_X7_wasSeenBefore, zf_X7_has, zf_X2_hasPlace, zf_X8_size, zf_X8_shorten, zf_X5_corners, zf_X5_hasCut, zf_X4_onWay, zf_X1_faultKind, zf_X1_faultPlace, zf_X7_size, zf_X7_rights, zf_X2_size, zf_X5_cutCount, zf_X11_in, zf_X11_isCorner, jrun_u, jstep, zno164e, zout, or_self, zf_X5_lineOf, ↓if_pos, ↓if_neg, if_pos, if_neg, Option.bind_some, Bool.true_eq_false, ↓reduceIte]
      first | exact ⟨_, _, rfl, rfl, rfl⟩ | done
    by_cases q7 : 999 < a
    · simp (disch := omega) only [zf_X10_surely, zf_X11_surely, zg_X11_surely, zg_X11_surely_0, zf_X10_areCorners, zf_X5_hasCorner, zf_X10_isStep, zf_X10_isValue, zf_X7_canTell, zf_X7_wasSeenBefore, zf_X7_has, zf_X2_hasPlace, zf_X8_size, zf_X8_shorten, zf_X5_corners, zf_X5_hasCut, zf_X4_onWay, zf_X1_faultKind, zf_X1_faultPlace, zf_X7_size, zf_X7_rights, zf_X2_size, zf_X5_cutCount, zf_X11_in, zf_X11_isCorner, jrun_u, jstep, zno164e, zout, or_self, zf_X5_lineOf, ↓if_pos, ↓if_neg, if_pos, if_neg, Option.bind_some, Bool.true_eq_false, ↓reduceIte]
      first | exact ⟨_, _, rfl, rfl, rfl⟩ | done
    simp (disch := omega) only [zf_X10_surely, zf_X11_surely, zg_X11_surely, zg_X11_surely_0, zf_X10_areCorners, zf_X5_hasCorner, zf_X10_isStep, zf_X10_isValue, zf_X7_canTell, zf_X7_wasSeenBefore, zf_X7_has, zf_X2_hasPlace, zf_X8_size, zf_X8_shorten, zf_X5_corners, zf_X5_hasCut, zf_X4_onWay, zf_X1_faultKind, zf_X1_faultPlace, zf_X7_size, zf_X7_rights, zf_X2_size, zf_X5_cutCount, zf_X11_in, zf_X11_isCorner, jrun_u, jstep, zno164e, zout, or_self, zf_X5_lineOf, ↓if_pos, ↓if_neg, if_pos, if_neg, Option.bind_some, Bool.true_eq_false, ↓reduceIte]
    first | exact ⟨_, _, rfl, rfl, rfl⟩ | done
  · by_cases q5 : a < 0
    · simp (disch := omega) only [zf_X10_surely, zf_X11_surely, zg_X11_surely, zg_X11_surely_0, zf_X10_areCorners, zf_X5_hasCorner, zf_X10_isStep, zf_X10_isValue, zf_X7_canTell, zf_X7_wasSeenBefore, zf_X7_has, zf_X2_hasPlace, zf_X8_size, zf_X8_shorten, zf_X5_corners, zf_X5_hasCut, zf_X4_onWay, zf_X1_faultKind, zf_X1_faultPlace, zf_X7_size, zf_X7_rights, zf_X2_size, zf_X5_cutCount, zf_X11_in, zf_X11_isCorner, jrun_u, jstep, zno164e, zout, or_self, zf_X5_lineOf, ↓if_pos, ↓if_neg, if_pos, if_neg, Option.bind_some, Bool.true_eq_false, ↓reduceIte]
      first | exact ⟨_, _, rfl, rfl, rfl⟩ | done
    by_cases q7 : 999 < a
    · simp (disch := omega) only [zf_X10_surely, zf_X11_surely, zg_X11_surely, zg_X11_surely_0, zf_X10_areCorners, zf_X5_hasCorner, zf_X10_isStep, zf_X10_isValue, zf_X7_canTell, zf_X7_wasSeenBefore, zf_X7_has, zf_X2_hasPlace, zf_X8_size, zf_X8_shorten, zf_X5_corners, zf_X5_hasCut, zf_X4_onWay, zf_X1_faultKind, zf_X1_faultPlace, zf_X7_size, zf_X7_rights, zf_X2_size, zf_X5_cutCount, zf_X11_in, zf_X11_isCorner, jrun_u, jstep, zno164e, zout, or_self, zf_X5_lineOf, ↓if_pos, ↓if_neg, if_pos, if_neg, Option.bind_some, Bool.true_eq_false, ↓reduceIte]
      first | exact ⟨_, _, rfl, rfl, rfl⟩ | done
    simp (disch := omega) only [zf_X10_surely, zf_X11_surely, zg_X11_surely, zg_X11_surely_0, zf_X10_areCorners, zf_X5_hasCorner, zf_X10_isStep, zf_X10_isValue, zf_X7_canTell, zf_X7_wasSeenBefore, zf_X7_has, zf_X2_hasPlace, zf_X8_size, zf_X8_shorten, zf_X5_corners, zf_X5_hasCut, zf_X4_onWay, zf_X1_faultKind, zf_X1_faultPlace, zf_X7_size, zf_X7_rights, zf_X2_size, zf_X5_cutCount, zf_X11_in, zf_X11_isCorner, jrun_u, jstep, zno164e, zout, or_self, zf_X5_lineOf, ↓if_pos, ↓if_neg, if_pos, if_neg, Option.bind_some, Bool.true_eq_false, ↓reduceIte]
    first | exact ⟨_, _, rfl, rfl, rfl⟩ | done
  · by_cases q5 : a < 0
    · simp (disch := omega) only [zf_X10_surely, zf_X11_surely, zg_X11_surely, zg_X11_surely_0, zf_X10_areCorners, zf_X5_hasCorner, zf_X10_isStep, zf_X10_isValue, zf_X7_canTell, zf_X7_wasSeenBefore, zf_X7_has, zf_X2_hasPlace, zf_X8_size, zf_X8_shorten, zf_X5_corners, zf_X5_hasCut, zf_X4_onWay, zf_X1_faultKind, zf_X1_faultPlace, zf_X7_size, zf_X7_rights, zf_X2_size, zf_X5_cutCount, zf_X11_in, zf_X11_isCorner, jrun_u, jstep, zno164e, zout, or_self, zf_X5_lineOf, ↓if_pos, ↓if_neg, if_pos, if_neg, Option.bind_some, Bool.true_eq_false, ↓reduceIte]
      first | exact ⟨_, _, rfl, rfl, rfl⟩ | done
    by_cases q7 : 999 < a
    · simp (disch := omega) only [zf_X10_surely, zf_X11_surely, zg_X11_surely, zg_X11_surely_0, zf_X10_areCorners, zf_X5_hasCorner, zf_X10_isStep, zf_X10_isValue, zf_X7_canTell, zf_X7_wasSeenBefore, zf_X7_has, zf_X2_hasPlace, zf_X8_size, zf_X8_shorten, zf_X5_corners, zf_X5_hasCut, zf_X4_onWay, zf_X1_faultKind, zf_X1_faultPlace, zf_X7_size, zf_X7_rights, zf_X2_size, zf_X5_cutCount, zf_X11_in, zf_X11_isCorner, jrun_u, jstep, zno164e, zout, or_self, zf_X5_lineOf, ↓if_pos, ↓if_neg, if_pos, if_neg, Option.bind_some, Bool.true_eq_false, ↓reduceIte]
      first | exact ⟨_, _, rfl, rfl, rfl⟩ | done
    simp (disch := omega) only [zf_X10_surely, zf_X11_surely, zg_X11_surely, zg_X11_surely_0, zf_X10_areCorners, zf_X5_hasCorner, zf_X10_isStep, zf_X10_isValue, zf_X7_canTell, zf_X7_wasSeenBefore, zf_X7_has, zf_X2_hasPlace, zf_X8_size, zf_X8_shorten, zf_X5_corners, zf_X5_hasCut, zf_X4_onWay, zf_X1_faultKind, zf_X1_faultPlace, zf_X7_size, zf_X7_rights, zf_X2_size, zf_X5_cutCount, zf_X11_in, zf_X11_isCorner, jrun_u, jstep, zno164e, zout, or_self, zf_X5_lineOf, ↓if_pos, ↓if_neg, if_pos, if_neg, Option.bind_some, Bool.true_eq_false, ↓reduceIte]
    first | exact ⟨_, _, rfl, rfl, rfl⟩ | done
  · by_cases q5 : a < 0
    · simp (disch := omega) only [zf_X10_surely, zf_X11_surely, zg_X11_surely, zg_X11_surely_0, zf_X10_areCorners, zf_X5_hasCorner, zf_X10_isStep, zf_X10_isValue, zf_X7_canTell, zf_X7_wasSeenBefore, zf_X7_has, zf_X2_hasPlace, zf_X8_size, zf_X8_shorten, zf_X5_corners, zf_X5_hasCut, zf_X4_onWay, zf_X1_faultKind, zf_X1_faultPlace, zf_X7_size, zf_X7_rights, zf_X2_size, zf_X5_cutCount, zf_X11_in, zf_X11_isCorner, jrun_u, jstep, zno164e, zout, or_self, zf_X5_lineOf, ↓if_pos, ↓if_neg, if_pos, if_neg, Option.bind_some, Bool.true_eq_false, ↓reduceIte]
      first | exact ⟨_, _, rfl, rfl, rfl⟩ | done
    by_cases q7 : 999 < a
    · simp (disch := omega) only [zf_X10_surely, zf_X11_surely, zg_X11_surely, zg_X11_surely_0, zf_X10_areCorners, zf_X5_hasCorner, zf_X10_isStep, zf_X10_isValue, zf_X7_canTell, zf_X7_wasSeenBefore, zf_X7_has, zf_X2_hasPlace, zf_X8_size, zf_X8_shorten, zf_X5_corners, zf_X5_hasCut, zf_X4_onWay, zf_X1_faultKind, zf_X1_faultPlace, zf_X7_size, zf_X7_rights, zf_X2_size, zf_X5_cutCount, zf_X11_in, zf_X11_isCorner, jrun_u, jstep, zno164e, zout, or_self, zf_X5_lineOf, ↓if_pos, ↓if_neg, if_pos, if_neg, Option.bind_some, Bool.true_eq_false, ↓reduceIte]
      first | exact ⟨_, _, rfl, rfl, rfl⟩ | done
    simp (disch := omega) only [zf_X10_surely, zf_X11_surely, zg_X11_surely, zg_X11_surely_0, zf_X10_areCorners, zf_X5_hasCorner, zf_X10_isStep, zf_X10_isValue, zf_X7_canTell, zf_X7_wasSeenBefore, zf_X7_has, zf_X2_hasPlace, zf_X8_size, zf_X8_shorten, zf_X5_corners, zf_X5_hasCut, zf_X4_onWay, zf_X1_faultKind, zf_X1_faultPlace, zf_X7_size, zf_X7_rights, zf_X2_size, zf_X5_cutCount, zf_X11_in, zf_X11_isCorner, jrun_u, jstep, zno164e, zout, or_self, zf_X5_lineOf, ↓if_pos, ↓if_neg, if_pos, if_neg, Option.bind_some, Bool.true_eq_false, ↓reduceIte]
    first | exact ⟨_, _, rfl, rfl, rfl⟩ | done
  · by_cases q5 : a < 0
    · simp (disch := omega) only [zf_X10_surely, zf_X11_surely, zg_X11_surely, zg_X11_surely_0, zf_X10_areCorners, zf_X5_hasCorner, zf_X10_isStep, zf_X10_isValue, zf_X7_canTell, zf_X7_wasSeenBefore, zf_X7_has, zf_X2_hasPlace, zf_X8_size, zf_X8_shorten, zf_X5_corners, zf_X5_hasCut, zf_X4_onWay, zf_X1_faultKind, zf_X1_faultPlace, zf_X7_size, zf_X7_rights, zf_X2_size, zf_X5_cutCount, zf_X11_in, zf_X11_isCorner, jrun_u, jstep, zno164e, zout, or_self, zf_X5_lineOf, ↓if_pos, ↓if_neg, if_pos, if_neg, Option.bind_some, Bool.true_eq_false, ↓reduceIte]
      first | exact ⟨_, _, rfl, rfl, rfl⟩ | done
    by_cases q7 : 999 < a
    · simp (disch := omega) only [zf_X10_surely, zf_X11_surely, zg_X11_surely, zg_X11_surely_0, zf_X10_areCorners, zf_X5_hasCorner, zf_X10_isStep, zf_X10_isValue, zf_X7_canTell, zf_X7_wasSeenBefore, zf_X7_has, zf_X2_hasPlace, zf_X8_size, zf_X8_shorten, zf_X5_corners, zf_X5_hasCut, zf_X4_onWay, zf_X1_faultKind, zf_X1_faultPlace, zf_X7_size, zf_X7_rights, zf_X2_size, zf_X5_cutCount, zf_X11_in, zf_X11_isCorner, jrun_u, jstep, zno164e, zout, or_self, zf_X5_lineOf, ↓if_pos, ↓if_neg, if_pos, if_neg, Option.bind_some, Bool.true_eq_false, ↓reduceIte]
      first | exact ⟨_, _, rfl, rfl, rfl⟩ | done
    simp (disch := omega) only [zf_X10_surely, zf_X11_surely, zg_X11_surely, zg_X11_surely_0, zf_X10_areCorners, zf_X5_hasCorner, zf_X10_isStep, zf_X10_isValue, zf_X7_canTell, zf_X7_wasSeenBefore, zf_X7_has, zf_X2_hasPlace, zf_X8_size, zf_X8_shorten, zf_X5_corners, zf_X5_hasCut, zf_X4_onWay, zf_X1_faultKind, zf_X1_faultPlace, zf_X7_size, zf_X7_rights, zf_X2_size, zf_X5_cutCount, zf_X11_in, zf_X11_isCorner, jrun_u, jstep, zno164e, zout, or_self, zf_X5_lineOf, ↓if_pos, ↓if_neg, if_pos, if_neg, Option.bind_some, Bool.true_eq_false, ↓reduceIte]
    first | exact ⟨_, _, rfl, rfl, rfl⟩ | done
  · by_cases q5 : a < 0
    · simp (disch := omega) only [zf_X10_surely, zf_X11_surely, zg_X11_surely, zg_X11_surely_0, zf_X10_areCorners, zf_X5_hasCorner, zf_X10_isStep, zf_X10_isValue, zf_X7_canTell, zf_X7_wasSeenBefore, zf_X7_has, zf_X2_hasPlace, zf_X8_size, zf_X8_shorten, zf_X5_corners, zf_X5_hasCut, zf_X4_onWay, zf_X1_faultKind, zf_X1_faultPlace, zf_X7_size, zf_X7_rights, zf_X2_size, zf_X5_cutCount, zf_X11_in, zf_X11_isCorner, jrun_u, jstep, zno164e, zout, or_self, zf_X5_lineOf, ↓if_pos, ↓if_neg, if_pos, if_neg, Option.bind_some, Bool.true_eq_false, ↓reduceIte]
      first | exact ⟨_, _, rfl, rfl, rfl⟩ | done
    by_cases q7 : 999 < a
    · simp (disch := omega) only [zf_X10_surely, zf_X11_surely, zg_X11_surely, zg_X11_surely_0, zf_X10_areCorners, zf_X5_hasCorner, zf_X10_isStep, zf_X10_isValue, zf_X7_canTell, zf_X7_wasSeenBefore, zf_X7_has, zf_X2_hasPlace, zf_X8_size, zf_X8_shorten, zf_X5_corners, zf_X5_hasCut, zf_X4_onWay, zf_X1_faultKind, zf_X1_faultPlace, zf_X7_size, zf_X7_rights, zf_X2_size, zf_X5_cutCount, zf_X11_in, zf_X11_isCorner, jrun_u, jstep, zno164e, zout, or_self, zf_X5_lineOf, ↓if_pos, ↓if_neg, if_pos, if_neg, Option.bind_some, Bool.true_eq_false, ↓reduceIte]
      first | exact ⟨_, _, rfl, rfl, rfl⟩ | done
    simp (disch := omega) only [zf_X10_surely, zf_X11_surely, zg_X11_surely, zg_X11_surely_0, zf_X10_areCorners, zf_X5_hasCorner, zf_X10_isStep, zf_X10_isValue, zf_X7_canTell, zf_X7_wasSeenBefore, zf_X7_has, zf_X2_hasPlace, zf_X8_size, zf_X8_shorten, zf_X5_corners, zf_X5_hasCut, zf_X4_onWay, zf_X1_faultKind, zf_X1_faultPlace, zf_X7_size, zf_X7_rights, zf_X2_size, zf_X5_cutCount, zf_X11_in, zf_X11_isCorner, jrun_u, jstep, zno164e, zout, or_self, zf_X5_lineOf, ↓if_pos, ↓if_neg, if_pos, if_neg, Option.bind_some, Bool.true_eq_false, ↓reduceIte]
    first | exact ⟨_, _, rfl, rfl, rfl⟩ | done
  · by_cases q5 : a < 0
    · simp (disch := omega) only [zf_X10_surely, zf_X11_surely, zg_X11_surely, zg_X11_surely_0, zf_X10_areCorners, zf_X5_hasCorner, zf_X10_isStep, zf_X10_isValue, zf_X7_canTell, zf_X7_wasSeenBefore, zf_X7_has, zf_X2_hasPlace, zf_X8_size, zf_X8_shorten, zf_X5_corners, zf_X5_hasCut, zf_X4_onWay, zf_X1_faultKind, zf_X1_faultPlace, zf_X7_size, zf_X7_rights, zf_X2_size, zf_X5_cutCount, zf_X11_in, zf_X11_isCorner, jrun_u, jstep, zno164e, zout, or_self, zf_X5_lineOf, ↓if_pos, ↓if_neg, if_pos, if_neg, Option.bind_some, Bool.true_eq_false, ↓reduceIte]
      first | exact ⟨_, _, rfl, rfl, rfl⟩ | done
    by_cases q7 : 999 < a
    · simp (disch := omega) only [zf_X10_surely, zf_X11_surely, zg_X11_surely, zg_X11_surely_0, zf_X10_areCorners, zf_X5_hasCorner, zf_X10_isStep, zf_X10_isValue, zf_X7_canTell, zf_X7_wasSeenBefore, zf_X7_has, zf_X2_hasPlace, zf_X8_size, zf_X8_shorten, zf_X5_corners, zf_X5_hasCut, zf_X4_onWay, zf_X1_faultKind, zf_X1_faultPlace, zf_X7_size, zf_X7_rights, zf_X2_size, zf_X5_cutCount, zf_X11_in, zf_X11_isCorner, jrun_u, jstep, zno164e, zout, or_self, zf_X5_lineOf, ↓if_pos, ↓if_neg, if_pos, if_neg, Option.bind_some, Bool.true_eq_false, ↓reduceIte]
      first | exact ⟨_, _, rfl, rfl, rfl⟩ | done
    simp (disch := omega) only [zf_X10_surely, zf_X11_surely, zg_X11_surely, zg_X11_surely_0, zf_X10_areCorners, zf_X5_hasCorner, zf_X10_isStep, zf_X10_isValue, zf_X7_canTell, zf_X7_wasSeenBefore, zf_X7_has, zf_X2_hasPlace, zf_X8_size, zf_X8_shorten, zf_X5_corners, zf_X5_hasCut, zf_X4_onWay, zf_X1_faultKind, zf_X1_faultPlace, zf_X7_size, zf_X7_rights, zf_X2_size, zf_X5_cutCount, zf_X11_in, zf_X11_isCorner, jrun_u, jstep, zno164e, zout, or_self, zf_X5_lineOf, ↓if_pos, ↓if_neg, if_pos, if_neg, Option.bind_some, Bool.true_eq_false, ↓reduceIte]
    first | exact ⟨_, _, rfl, rfl, rfl⟩ | done
  · by_cases q5 : a < 0
    · simp (disch := omega) only [zf_X10_surely, zf_X11_surely, zg_X11_surely, zg_X11_surely_0, zf_X10_areCorners, zf_X5_hasCorner, zf_X10_isStep, zf_X10_isValue, zf_X7_canTell, zf_X7_wasSeenBefore, zf_X7_has, zf_X2_hasPlace, zf_X8_size, zf_X8_shorten, zf_X5_corners, zf_X5_hasCut, zf_X4_onWay, zf_X1_faultKind, zf_X1_faultPlace, zf_X7_size, zf_X7_rights, zf_X2_size, zf_X5_cutCount, zf_X11_in, zf_X11_isCorner, jrun_u, jstep, zno164e, zout, or_self, zf_X5_lineOf, ↓if_pos, ↓if_neg, if_pos, if_neg, Option.bind_some, Bool.true_eq_false, ↓reduceIte]
      first | exact ⟨_, _, rfl, rfl, rfl⟩ | done
    by_cases q7 : 999 < a
    · simp (disch := omega) only [zf_X10_surely, zf_X11_surely, zg_X11_surely, zg_X11_surely_0, zf_X10_areCorners, zf_X5_hasCorner, zf_X10_isStep, zf_X10_isValue, zf_X7_canTell, zf_X7_wasSeenBefore, zf_X7_has, zf_X2_hasPlace, zf_X8_size, zf_X8_shorten, zf_X5_corners, zf_X5_hasCut, zf_X4_onWay, zf_X1_faultKind, zf_X1_faultPlace, zf_X7_size, zf_X7_rights, zf_X2_size, zf_X5_cutCount, zf_X11_in, zf_X11_isCorner, jrun_u, jstep, zno164e, zout, or_self, zf_X5_lineOf, ↓if_pos, ↓if_neg, if_pos, if_neg, Option.bind_some, Bool.true_eq_false, ↓reduceIte]
      first | exact ⟨_, _, rfl, rfl, rfl⟩ | done
    simp (disch := omega) only [zf_X10_surely, zf_X11_surely, zg_X11_surely, zg_X11_surely_0, zf_X10_areCorners, zf_X5_hasCorner, zf_X10_isStep, zf_X10_isValue, zf_X7_canTell, zf_X7_wasSeenBefore, zf_X7_has, zf_X2_hasPlace, zf_X8_size, zf_X8_shorten, zf_X5_corners, zf_X5_hasCut, zf_X4_onWay, zf_X1_faultKind, zf_X1_faultPlace, zf_X7_size, zf_X7_rights, zf_X2_size, zf_X5_cutCount, zf_X11_in, zf_X11_isCorner, jrun_u, jstep, zno164e, zout, or_self, zf_X5_lineOf, ↓if_pos, ↓if_neg, if_pos, if_neg, Option.bind_some, Bool.true_eq_false, ↓reduceIte]
    first | exact ⟨_, _, rfl, rfl, rfl⟩ | done
  · by_cases q5 : a < 0
    · simp (disch := omega) only [zf_X10_surely, zf_X11_surely, zg_X11_surely, zg_X11_surely_0, zf_X10_areCorners, zf_X5_hasCorner, zf_X10_isStep, zf_X10_isValue, zf_X7_canTell, zf_X7_wasSeenBefore, zf_X7_has, zf_X2_hasPlace, zf_X8_size, zf_X8_shorten, zf_X5_corners, zf_X5_hasCut, zf_X4_onWay, zf_X1_faultKind, zf_X1_faultPlace, zf_X7_size, zf_X7_rights, zf_X2_size, zf_X5_cutCount, zf_X11_in, zf_X11_isCorner, jrun_u, jstep, zno164e, zout, or_self, zf_X5_lineOf, ↓if_pos, ↓if_neg, if_pos, if_neg, Option.bind_some, Bool.true_eq_false, ↓reduceIte]
      first | exact ⟨_, _, rfl, rfl, rfl⟩ | done
    by_cases q7 : 999 < a
    · simp (disch := omega) only [zf_X10_surely, zf_X11_surely, zg_X11_surely, zg_X11_surely_0, zf_X10_areCorners, zf_X5_hasCorner, zf_X10_isStep, zf_X10_isValue, zf_X7_canTell, zf_X7_wasSeenBefore, zf_X7_has, zf_X2_hasPlace, zf_X8_size, zf_X8_shorten, zf_X5_corners, zf_X5_hasCut, zf_X4_onWay, zf_X1_faultKind, zf_X1_faultPlace, zf_X7_size, zf_X7_rights, zf_X2_size, zf_X5_cutCount, zf_X11_in, zf_X11_isCorner, jrun_u, jstep, zno164e, zout, or_self, zf_X5_lineOf, ↓if_pos, ↓if_neg, if_pos, if_neg, Option.bind_some, Bool.true_eq_false, ↓reduceIte]
      first | exact ⟨_, _, rfl, rfl, rfl⟩ | done
    simp (disch := omega) only [zf_X10_surely, zf_X11_surely, zg_X11_surely, zg_X11_surely_0, zf_X10_areCorners, zf_X5_hasCorner, zf_X10_isStep, zf_X10_isValue, zf_X7_canTell, zf_X7_wasSeenBefore, zf_X7_has, zf_X2_hasPlace, zf_X8_size, zf_X8_shorten, zf_X5_corners, zf_X5_hasCut, zf_X4_onWay, zf_X1_faultKind, zf_X1_faultPlace, zf_X7_size, zf_X7_rights, zf_X2_size, zf_X5_cutCount, zf_X11_in, zf_X11_isCorner, jrun_u, jstep, zno164e, zout, or_self, zf_X5_lineOf, ↓if_pos, ↓if_neg, if_pos, if_neg, Option.bind_some, Bool.true_eq_false, ↓reduceIte]
    first | exact ⟨_, _, rfl, rfl, rfl⟩ | done
  · by_cases q5 : a < 0
    · simp (disch := omega) only [zf_X10_surely, zf_X11_surely, zg_X11_surely, zg_X11_surely_0, zf_X10_areCorners, zf_X5_hasCorner, zf_X10_isStep, zf_X10_isValue, zf_X7_canTell, zf_X7_wasSeenBefore, zf_X7_has, zf_X2_hasPlace, zf_X8_size, zf_X8_shorten, zf_X5_corners, zf_X5_hasCut, zf_X4_onWay, zf_X1_faultKind, zf_X1_faultPlace, zf_X7_size, zf_X7_rights, zf_X2_size, zf_X5_cutCount, zf_X11_in, zf_X11_isCorner, jrun_u, jstep, zno164e, zout, or_self, zf_X5_lineOf, ↓if_pos, ↓if_neg, if_pos, if_neg, Option.bind_some, Bool.true_eq_false, ↓reduceIte]
      first | exact ⟨_, _, rfl, rfl, rfl⟩ | done
    by_cases q7 : 999 < a
    · simp (disch := omega) only [zf_X10_surely, zf_X11_surely, zg_X11_surely, zg_X11_surely_0, zf_X10_areCorners, zf_X5_hasCorner, zf_X10_isStep, zf_X10_isValue, zf_X7_canTell, zf_X7_wasSeenBefore, zf_X7_has, zf_X2_hasPlace, zf_X8_size, zf_X8_shorten, zf_X5_corners, zf_X5_hasCut, zf_X4_onWay, zf_X1_faultKind, zf_X1_faultPlace, zf_X7_size, zf_X7_rights, zf_X2_size, zf_X5_cutCount, zf_X11_in, zf_X11_isCorner, jrun_u, jstep, zno164e, zout, or_self, zf_X5_lineOf, ↓if_pos, ↓if_neg, if_pos, if_neg, Option.bind_some, Bool.true_eq_false, ↓reduceIte]
      first | exact ⟨_, _, rfl, rfl, rfl⟩ | done
    simp (disch := omega) only [zf_X10_surely, zf_X11_surely, zg_X11_surely, zg_X11_surely_0, zf_X10_areCorners, zf_X5_hasCorner, zf_X10_isStep, zf_X10_isValue, zf_X7_canTell, zf_X7_wasSeenBefore, zf_X7_has, zf_X2_hasPlace, zf_X8_size, zf_X8_shorten, zf_X5_corners, zf_X5_hasCut, zf_X4_onWay, zf_X1_faultKind, zf_X1_faultPlace, zf_X7_size, zf_X7_rights, zf_X2_size, zf_X5_cutCount, zf_X11_in, zf_X11_isCorner, jrun_u, jstep, zno164e, zout, or_self, zf_X5_lineOf, ↓if_pos, ↓if_neg, if_pos, if_neg, Option.bind_some, Bool.true_eq_false, ↓reduceIte]
    first | exact ⟨_, _, rfl, rfl, rfl⟩ | done
  · by_cases q5 : a < 0
    · simp (disch := omega) only [zf_X10_surely, zf_X11_surely, zg_X11_surely, zg_X11_surely_0, zf_X10_areCorners, zf_X5_hasCorner, zf_X10_isStep, zf_X10_isValue, zf_X7_canTell, zf_X7_wasSeenBefore, zf_X7_has, zf_X2_hasPlace, zf_X8_size, zf_X8_shorten, zf_X5_corners, zf_X5_hasCut, zf_X4_onWay, zf_X1_faultKind, zf_X1_faultPlace, zf_X7_size, zf_X7_rights, zf_X2_size, zf_X5_cutCount, zf_X11_in, zf_X11_isCorner, jrun_u, jstep, zno164e, zout, or_self, zf_X5_lineOf, ↓if_pos, ↓if_neg, if_pos, if_neg, Option.bind_some, Bool.true_eq_false, ↓reduceIte]
      first | exact ⟨_, _, rfl, rfl, rfl⟩ | done
    by_cases q7 : 999 < a
    · simp (disch := omega) only [zf_X10_surely, zf_X11_surely, zg_X11_surely, zg_X11_surely_0, zf_X10_areCorners, zf_X5_hasCorner, zf_X10_isStep, zf_X10_isValue, zf_X7_canTell, zf_X7_wasSeenBefore, zf_X7_has, zf_X2_hasPlace, zf_X8_size, zf_X8_shorten, zf_X5_corners, zf_X5_hasCut, zf_X4_onWay, zf_X1_faultKind, zf_X1_faultPlace, zf_X7_size, zf_X7_rights, zf_X2_size, zf_X5_cutCount, zf_X11_in, zf_X11_isCorner, jrun_u, jstep, zno164e, zout, or_self, zf_X5_lineOf, ↓if_pos, ↓if_neg, if_pos, if_neg, Option.bind_some, Bool.true_eq_false, ↓reduceIte]
      first | exact ⟨_, _, rfl, rfl, rfl⟩ | done
    simp (disch := omega) only [zf_X10_surely, zf_X11_surely, zg_X11_surely, zg_X11_surely_0, zf_X10_areCorners, zf_X5_hasCorner, zf_X10_isStep, zf_X10_isValue, zf_X7_canTell, zf_X7_wasSeenBefore, zf_X7_has, zf_X2_hasPlace, zf_X8_size, zf_X8_shorten, zf_X5_corners, zf_X5_hasCut, zf_X4_onWay, zf_X1_faultKind, zf_X1_faultPlace, zf_X7_size, zf_X7_rights, zf_X2_size, zf_X5_cutCount, zf_X11_in, zf_X11_isCorner, jrun_u, jstep, zno164e, zout, or_self, zf_X5_lineOf, ↓if_pos, ↓if_neg, if_pos, if_neg, Option.bind_some, Bool.true_eq_false, ↓reduceIte]
    first | exact ⟨_, _, rfl, rfl, rfl⟩ | done
  · by_cases q5 : a < 0
    · simp (disch := omega) only [zf_X10_surely, zf_X11_surely, zg_X11_surely, zg_X11_surely_0, zf_X10_areCorners, zf_X5_hasCorner, zf_X10_isStep, zf_X10_isValue, zf_X7_canTell, zf_X7_wasSeenBefore, zf_X7_has, zf_X2_hasPlace, zf_X8_size, zf_X8_shorten, zf_X5_corners, zf_X5_hasCut, zf_X4_onWay, zf_X1_faultKind, zf_X1_faultPlace, zf_X7_size, zf_X7_rights, zf_X2_size, zf_X5_cutCount, zf_X11_in, zf_X11_isCorner, jrun_u, jstep, zno164e, zout, or_self, zf_X5_lineOf, ↓if_pos, ↓if_neg, if_pos, if_neg, Option.bind_some, Bool.true_eq_false, ↓reduceIte]
      first | exact ⟨_, _, rfl, rfl, rfl⟩ | done
    by_cases q7 : 999 < a
    · simp (disch := omega) only [zf_X10_surely, zf_X11_surely, zg_X11_surely, zg_X11_surely_0, zf_X10_areCorners, zf_X5_hasCorner, zf_X10_isStep, zf_X10_isValue, zf_X7_canTell, zf_X7_wasSeenBefore, zf_X7_has, zf_X2_hasPlace, zf_X8_size, zf_X8_shorten, zf_X5_corners, zf_X5_hasCut, zf_X4_onWay, zf_X1_faultKind, zf_X1_faultPlace, zf_X7_size, zf_X7_rights, zf_X2_size, zf_X5_cutCount, zf_X11_in, zf_X11_isCorner, jrun_u, jstep, zno164e, zout, or_self, zf_X5_lineOf, ↓if_pos, ↓if_neg, if_pos, if_neg, Option.bind_some, Bool.true_eq_false, ↓reduceIte]
      first | exact ⟨_, _, rfl, rfl, rfl⟩ | done
    simp (disch := omega) only [zf_X10_surely, zf_X11_surely, zg_X11_surely, zg_X11_surely_0, zf_X10_areCorners, zf_X5_hasCorner, zf_X10_isStep, zf_X10_isValue, zf_X7_canTell, zf_X7_wasSeenBefore, zf_X7_has, zf_X2_hasPlace, zf_X8_size, zf_X8_shorten, zf_X5_corners, zf_X5_hasCut, zf_X4_onWay, zf_X1_faultKind, zf_X1_faultPlace, zf_X7_size, zf_X7_rights, zf_X2_size, zf_X5_cutCount, zf_X11_in, zf_X11_isCorner, jrun_u, jstep, zno164e, zout, or_self, zf_X5_lineOf, ↓if_pos, ↓if_neg, if_pos, if_neg, Option.bind_some, Bool.true_eq_false, ↓reduceIte]
    first | exact ⟨_, _, rfl, rfl, rfl⟩ | done
  · by_cases q5 : a < 0
    · simp (disch := omega) only [zf_X10_surely, zf_X11_surely, zg_X11_surely, zg_X11_surely_0, zf_X10_areCorners, zf_X5_hasCorner, zf_X10_isStep, zf_X10_isValue, zf_X7_canTell, zf_X7_wasSeenBefore, zf_X7_has, zf_X2_hasPlace, zf_X8_size, zf_X8_shorten, zf_X5_corners, zf_X5_hasCut, zf_X4_onWay, zf_X1_faultKind, zf_X1_faultPlace, zf_X7_size, zf_X7_rights, zf_X2_size, zf_X5_cutCount, zf_X11_in, zf_X11_isCorner, jrun_u, jstep, zno164e, zout, or_self, zf_X5_lineOf, ↓if_pos, ↓if_neg, if_pos, if_neg, Option.bind_some, Bool.true_eq_false, ↓reduceIte]
      first | exact ⟨_, _, rfl, rfl, rfl⟩ | done
    by_cases q7 : 999 < a
    · simp (disch := omega) only [zf_X10_surely, zf_X11_surely, zg_X11_surely, zg_X11_surely_0, zf_X10_areCorners, zf_X5_hasCorner, zf_X10_isStep, zf_X10_isValue, zf_X7_canTell, zf_X7_wasSeenBefore, zf_X7_has, zf_X2_hasPlace, zf_X8_size, zf_X8_shorten, zf_X5_corners, zf_X5_hasCut, zf_X4_onWay, zf_X1_faultKind, zf_X1_faultPlace, zf_X7_size, zf_X7_rights, zf_X2_size, zf_X5_cutCount, zf_X11_in, zf_X11_isCorner, jrun_u, jstep, zno164e, zout, or_self, zf_X5_lineOf, ↓if_pos, ↓if_neg, if_pos, if_neg, Option.bind_some, Bool.true_eq_false, ↓reduceIte]
      first | exact ⟨_, _, rfl, rfl, rfl⟩ | done
    simp (disch := omega) only [zf_X10_surely, zf_X11_surely, zg_X11_surely, zg_X11_surely_0, zf_X10_areCorners, zf_X5_hasCorner, zf_X10_isStep, zf_X10_isValue, zf_X7_canTell, zf_X7_wasSeenBefore, zf_X7_has, zf_X2_hasPlace, zf_X8_size, zf_X8_shorten, zf_X5_corners, zf_X5_hasCut, zf_X4_onWay, zf_X1_faultKind, zf_X1_faultPlace, zf_X7_size, zf_X7_rights, zf_X2_size, zf_X5_cutCount, zf_X11_in, zf_X11_isCorner, jrun_u, jstep, zno164e, zout, or_self, zf_X5_lineOf, ↓if_pos, ↓if_neg, if_pos, if_neg, Option.bind_some, Bool.true_eq_false, ↓reduceIte]
    first | exact ⟨_, _, rfl, rfl, rfl⟩ | done
  · by_cases q5 : a < 0
    · simp (disch := omega) only [zf_X10_surely, zf_X11_surely, zg_X11_surely, zg_X11_surely_0, zf_X10_areCorners, zf_X5_hasCorner, zf_X10_isStep, zf_X10_isValue, zf_X7_canTell, zf_X7_wasSeenBefore, zf_X7_has, zf_X2_hasPlace, zf_X8_size, zf_X8_shorten, zf_X5_corners, zf_X5_hasCut, zf_X4_onWay, zf_X1_faultKind, zf_X1_faultPlace, zf_X7_size, zf_X7_rights, zf_X2_size, zf_X5_cutCount, zf_X11_in, zf_X11_isCorner, jrun_u, jstep, zno164e, zout, or_self, zf_X5_lineOf, ↓if_pos, ↓if_neg, if_pos, if_neg, Option.bind_some, Bool.true_eq_false, ↓reduceIte]
      first | exact ⟨_, _, rfl, rfl, rfl⟩ | done
    by_cases q7 : 999 < a
    · simp (disch := omega) only [zf_X10_surely, zf_X11_surely, zg_X11_surely, zg_X11_surely_0, zf_X10_areCorners, zf_X5_hasCorner, zf_X10_isStep, zf_X10_isValue, zf_X7_canTell, zf_X7_wasSeenBefore, zf_X7_has, zf_X2_hasPlace, zf_X8_size, zf_X8_shorten, zf_X5_corners, zf_X5_hasCut, zf_X4_onWay, zf_X1_faultKind, zf_X1_faultPlace, zf_X7_size, zf_X7_rights, zf_X2_size, zf_X5_cutCount, zf_X11_in, zf_X11_isCorner, jrun_u, jstep, zno164e, zout, or_self, zf_X5_lineOf, ↓if_pos, ↓if_neg, if_pos, if_neg, Option.bind_some, Bool.true_eq_false, ↓reduceIte]
      first | exact ⟨_, _, rfl, rfl, rfl⟩ | done
    simp (disch := omega) only [zf_X10_surely, zf_X11_surely, zg_X11_surely, zg_X11_surely_0, zf_X10_areCorners, zf_X5_hasCorner, zf_X10_isStep, zf_X10_isValue, zf_X7_canTell, zf_X7_wasSeenBefore, zf_X7_has, zf_X2_hasPlace, zf_X8_size, zf_X8_shorten, zf_X5_corners, zf_X5_hasCut, zf_X4_onWay, zf_X1_faultKind, zf_X1_faultPlace, zf_X7_size, zf_X7_rights, zf_X2_size, zf_X5_cutCount, zf_X11_in, zf_X11_isCorner, jrun_u, jstep, zno164e, zout, or_self, zf_X5_lineOf, ↓if_pos, ↓if_neg, if_pos, if_neg, Option.bind_some, Bool.true_eq_false, ↓reduceIte]
    first | exact ⟨_, _, rfl, rfl, rfl⟩ | done
  · by_cases q5 : a < 0
    · simp (disch := omega) only [zf_X10_surely, zf_X11_surely, zg_X11_surely, zg_X11_surely_0, zf_X10_areCorners, zf_X5_hasCorner, zf_X10_isStep, zf_X10_isValue, zf_X7_canTell, zf_X7_wasSeenBefore, zf_X7_has, zf_X2_hasPlace, zf_X8_size, zf_X8_shorten, zf_X5_corners, zf_X5_hasCut, zf_X4_onWay, zf_X1_faultKind, zf_X1_faultPlace, zf_X7_size, zf_X7_rights, zf_X2_size, zf_X5_cutCount, zf_X11_in, zf_X11_isCorner, jrun_u, jstep, zno164e, zout, or_self, zf_X5_lineOf, ↓if_pos, ↓if_neg, if_pos, if_neg, Option.bind_some, Bool.true_eq_false, ↓reduceIte]
      first | exact ⟨_, _, rfl, rfl, rfl⟩ | done
    by_cases q7 : 999 < a
    · simp (disch := omega) only [zf_X10_surely, zf_X11_surely, zg_X11_surely, zg_X11_surely_0, zf_X10_areCorners, zf_X5_hasCorner, zf_X10_isStep, zf_X10_isValue, zf_X7_canTell, zf_X7_wasSeenBefore, zf_X7_has, zf_X2_hasPlace, zf_X8_size, zf_X8_shorten, zf_X5_corners, zf_X5_hasCut, zf_X4_onWay, zf_X1_faultKind, zf_X1_faultPlace, zf_X7_size, zf_X7_rights, zf_X2_size, zf_X5_cutCount, zf_X11_in, zf_X11_isCorner, jrun_u, jstep, zno164e, zout, or_self, zf_X5_lineOf, ↓if_pos, ↓if_neg, if_pos, if_neg, Option.bind_some, Bool.true_eq_false, ↓reduceIte]
      first | exact ⟨_, _, rfl, rfl, rfl⟩ | done
    simp (disch := omega) only [zf_X10_surely, zf_X11_surely, zg_X11_surely, zg_X11_surely_0, zf_X10_areCorners, zf_X5_hasCorner, zf_X10_isStep, zf_X10_isValue, zf_X7_canTell, zf_X7_wasSeenBefore, zf_X7_has, zf_X2_hasPlace, zf_X8_size, zf_X8_shorten, zf_X5_corners, zf_X5_hasCut, zf_X4_onWay, zf_X1_faultKind, zf_X1_faultPlace, zf_X7_size, zf_X7_rights, zf_X2_size, zf_X5_cutCount, zf_X11_in, zf_X11_isCorner, jrun_u, jstep, zno164e, zout, or_self, zf_X5_lineOf, ↓if_pos, ↓if_neg, if_pos, if_neg, Option.bind_some, Bool.true_eq_false, ↓reduceIte]
    first | exact ⟨_, _, rfl, rfl, rfl⟩ | done
set_option maxRecDepth 20000 in
theorem ev_37 (i : Int) (zi : ¬ zout i) : ∃ o1 o2, zf_X10_count 16 0 0 0 i = some o1 ∧ zf_X11_count 0 0 0 i = some o2 ∧ o1 = o2 := by
  unfold zout at *
  by_cases cib : i < 0
  · simp (disch := omega) only [zf_X10_count, zf_X11_count, zf_X10_areCorners, zf_X5_hasCorner, zf_X10_isStep, zf_X10_isValue, zf_X7_canTell, zf_X7_wasSeenBefore, zf_X7_has, zf_X2_hasPlace, zf_X8_size, zf_X8_shorten, zf_X5_corners, zf_X5_hasCut, zf_X4_onWay, zf_X1_faultKind, zf_X1_faultPlace, zf_X7_size, zf_X7_rights, zf_X2_size, zf_X5_cutCount, zf_X11_in, zf_X11_isCorner, jrun_u, jstep, zno164e, zout, or_self, ↓if_pos, ↓if_neg, if_pos, if_neg, Option.bind_some, Bool.true_eq_false, ↓reduceIte]
    first | exact ⟨_, _, rfl, rfl, rfl⟩ | done
  by_cases cia : 2 < i
  · simp (disch := omega) only [zf_X10_count, zf_X11_count, zf_X10_areCorners, zf_X5_hasCorner, zf_X10_isStep, zf_X10_isValue, zf_X7_canTell, zf_X7_wasSeenBefore, zf_X7_has, zf_X2_hasPlace, zf_X8_size, zf_X8_shorten, zf_X5_corners, zf_X5_hasCut, zf_X4_onWay, zf_X1_faultKind, zf_X1_faultPlace, zf_X7_size, zf_X7_rights, zf_X2_size, zf_X5_cutCount, zf_X11_in, zf_X11_isCorner, jrun_u, jstep, zno164e, zout, or_self, ↓if_pos, ↓if_neg, if_pos, if_neg, Option.bind_some, Bool.true_eq_false, ↓reduceIte]
    first | exact ⟨_, _, rfl, rfl, rfl⟩ | done
  have hi9 : i = 0 ∨ i = 1 ∨ i = 2 := by omega
  rcases hi9 with rfl | rfl | rfl <;> exact ⟨_, _, rfl, rfl, rfl⟩
