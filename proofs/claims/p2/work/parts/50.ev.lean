theorem jrun_u {S O : Type} (g : S → Option (O ⊕ S)) (s : S) : jrun g jfuel s = jstep (jrun g 999999999) (g s) := rfl
theorem zno164e : (zno 16 4) = False := eq_false (by decide)
theorem zno164 : ¬ zno 16 4 := by decide
abbrev Rg (i : Int) (n : Int) : Prop := 0 ≤ i ∧ i ≤ n
theorem hasC {i : Int} (z : ¬ zout i) : zf_X5_hasCorner 4 i = some (decide (Rg i 3)) := by
  unfold zf_X5_hasCorner
  rw [if_neg z]
  by_cases h : i < 0
  · rw [if_pos h, decide_eq_false (by unfold Rg; omega)]
  · rw [if_neg h, if_neg (by decide)]
    by_cases q : ((4 : Nat) : Int) ≤ i
    · rw [if_pos q, decide_eq_false (by unfold Rg; omega)]
    · rw [if_neg q, decide_eq_true (by unfold Rg; omega)]
theorem areC {i j : Int} (zi : ¬ zout i) (zj : ¬ zout j) : zf_X10_areCorners 16 4 i j = some (decide (Rg i 3) && decide (Rg j 3)) := by
  unfold zf_X10_areCorners
  rw [if_neg zno164, hasC zi, hasC zj]
  simp only [Option.bind_some]
  by_cases h : Rg i 3 <;> by_cases q : Rg j 3 <;> simp [h, q]
theorem y_in {v lo hi : Int} (zv : ¬ zout v) (zl : ¬ zout lo) (zh : ¬ zout hi) : zf_X11_in v lo hi = some (decide (lo ≤ v ∧ v ≤ hi)) := by
  unfold zf_X11_in
  rw [if_neg zv, if_neg zl]
  by_cases h : v < lo
  · rw [if_pos h, decide_eq_false (by omega)]
  · rw [if_neg h, if_neg zh]
    by_cases q : hi < v
    · rw [if_pos q, decide_eq_false (by omega)]
    · rw [if_neg q, decide_eq_true (by omega)]
theorem yC {i : Int} (z : ¬ zout i) : zf_X11_isCorner 4 i = some (decide (Rg i 3)) := by
  unfold zf_X11_isCorner
  rw [y_in z (by decide) (by decide)]
  rfl
theorem x_step {i : Int} (z : ¬ zout i) : zf_X10_isStep i = some (decide (Rg i 999)) := by
  unfold zf_X10_isStep
  rw [if_neg z]
  by_cases h : i < 0
  · rw [if_pos h, decide_eq_false (by unfold Rg; omega)]
  · rw [if_neg h]
    by_cases q : (999 : Int) < i
    · rw [if_pos q, decide_eq_false (by unfold Rg; omega)]
    · rw [if_neg q, decide_eq_true (by unfold Rg; omega)]
theorem x_val {i : Int} (z : ¬ zout i) : zf_X10_isValue i = some (decide (Rg i 9999)) := by
  unfold zf_X10_isValue
  rw [if_neg z]
  by_cases h : i < 0
  · rw [if_pos h, decide_eq_false (by unfold Rg; omega)]
  · rw [if_neg h]
    by_cases q : (9999 : Int) < i
    · rw [if_pos q, decide_eq_false (by unfold Rg; omega)]
    · rw [if_neg q, decide_eq_true (by unfold Rg; omega)]
theorem x_tell {i : Int} (z : ¬ zout i) : zf_X7_canTell 0 i = some (decide (Rg i 999)) := by
  unfold zf_X7_canTell
  rw [if_neg z, if_neg (by decide)]
  by_cases h : i < 0
  · rw [if_pos h, decide_eq_false (by unfold Rg; omega)]
  · rw [if_neg h]
    by_cases q : (999 : Int) < i
    · rw [if_pos q, decide_eq_false (by unfold Rg; omega)]
    · rw [if_neg q, decide_eq_true (by unfold Rg; omega)]
theorem x_place {i : Int} (z : ¬ zout i) : zf_X2_hasPlace 1 i = some (decide (Rg i 0)) := by
  unfold zf_X2_hasPlace
  rw [if_neg z]
  by_cases h : i < 0
  · rw [if_pos h, decide_eq_false (by unfold Rg; omega)]
  · rw [if_neg h, if_neg (by decide)]
    by_cases q : (1 : Int) ≤ i
    · rw [if_pos q, decide_eq_false (by unfold Rg; omega)]
    · rw [if_neg q, decide_eq_true (by unfold Rg; omega)]
theorem ylf4 : zf_X11_listFor 2 4 2 4 0xffffffff00000001ffffffff000000000000000000000000000000000000000000000000ffffffff00000000ffffffff0000000000000000000000000000000000000000000000000000000000000001ffffffff00000000ffffffff000000000000000000000000000000000000000000000000ffffffff00000000ffffffff00000000 0x100000000 0x300000002 0x20000000000000001 4 = some (2, 4, 2, 4, 0xffffffff00000001ffffffff000000000000000000000000000000000000000000000000ffffffff00000000ffffffff0000000000000000000000000000000000000000000000000000000000000001ffffffff00000000ffffffff000000000000000000000000000000000000000000000000ffffffff00000000ffffffff00000000, 0x100000000, 0x300000002, 0x20000000000000001) := rfl
theorem pg84 : pg8 4 = 2 := rfl
set_option maxRecDepth 1000000 in
set_option maxHeartbeats 4000000 in
theorem ev_36 (a : Int) (za : ¬ zout a) : ∃ o1 o2, zf_X10_ask 16 4 0 0 0 0 0 0 0 0 0 0 0 0 0 a = some o1 ∧ zf_X11_ask 4 2 4 2 4 0 0 0xffffffff00000001ffffffff000000000000000000000000000000000000000000000000ffffffff00000000ffffffff0000000000000000000000000000000000000000000000000000000000000001ffffffff00000000ffffffff000000000000000000000000000000000000000000000000ffffffff00000000ffffffff00000000 0x100000000 0x300000002 0x20000000000000001 0 0 0 0 0 0 0 0 0 0 0 0 0 a = some o2 ∧ (o1.1) = (o2.1) := by
  unfold zout at *
  by_cases c0 : a < 0
  · simp (disch := omega) only [zf_X10_ask, zf_X11_ask, zg_X11_ask, zg_X11_ask_0, zf_X10_areCorners, zf_X5_hasCorner, zf_X10_isStep, zf_X10_isValue, zf_X7_canTell, zf_X7_wasSeenBefore, zf_X7_has, zf_X2_hasPlace, zf_X8_size, zf_X8_shorten, zf_X5_corners, zf_X5_hasCut, zf_X4_onWay, zf_X1_faultKind, zf_X1_faultPlace, zf_X7_size, zf_X7_rights, zf_X2_size, zf_X5_cutCount, zf_X11_in, zf_X11_isCorner, jrun_u, jstep, zno164e, zout, or_self, ↓if_pos, ↓if_neg, if_pos, if_neg, Option.bind_some, Bool.true_eq_false, ↓reduceIte]
    first | exact ⟨_, _, rfl, rfl, rfl⟩ | done
  by_cases c1 : 999 < a
  · simp (disch := omega) only [zf_X10_ask, zf_X11_ask, zg_X11_ask, zg_X11_ask_0, zf_X10_areCorners, zf_X5_hasCorner, zf_X10_isStep, zf_X10_isValue, zf_X7_canTell, zf_X7_wasSeenBefore, zf_X7_has, zf_X2_hasPlace, zf_X8_size, zf_X8_shorten, zf_X5_corners, zf_X5_hasCut, zf_X4_onWay, zf_X1_faultKind, zf_X1_faultPlace, zf_X7_size, zf_X7_rights, zf_X2_size, zf_X5_cutCount, zf_X11_in, zf_X11_isCorner, jrun_u, jstep, zno164e, zout, or_self, ↓if_pos, ↓if_neg, if_pos, if_neg, Option.bind_some, Bool.true_eq_false, ↓reduceIte]
    first | exact ⟨_, _, rfl, rfl, rfl⟩ | done
  simp (disch := omega) only [zf_X10_ask, zf_X11_ask, zg_X11_ask, zg_X11_ask_0, zf_X10_areCorners, zf_X5_hasCorner, zf_X10_isStep, zf_X10_isValue, zf_X7_canTell, zf_X7_wasSeenBefore, zf_X7_has, zf_X2_hasPlace, zf_X8_size, zf_X8_shorten, zf_X5_corners, zf_X5_hasCut, zf_X4_onWay, zf_X1_faultKind, zf_X1_faultPlace, zf_X7_size, zf_X7_rights, zf_X2_size, zf_X5_cutCount, zf_X11_in, zf_X11_isCorner, jrun_u, jstep, zno164e, zout, or_self, ↓if_pos, ↓if_neg, if_pos, if_neg, Option.bind_some, Bool.true_eq_false, ↓reduceIte]
  first | exact ⟨_, _, rfl, rfl, rfl⟩ | done
