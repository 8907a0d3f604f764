theorem jrun_u {S O : Type} (g : S → Option (O ⊕ S)) (s : S) : jrun g jfuel s = jstep (jrun g 999999999) (g s) := rfl
theorem zno164e : (zno 16 4) = False := eq_false (by decide)
theorem zno164 : ¬ zno 16 4 := by decide
abbrev Rg (i : Int) (n : Int) : Prop := 0 ≤ i ∧ i ≤ n
theorem hasC {i : Int} (z : ¬ zout i) : zf_X5_hasCorner 4 i = some (decide (Rg i 3)) := by
  unfold zf_X5_hasCorner
  rw [if_neg z]
  by_cases h : i < 0
  · rw [if_pos h, decide_eq_false (by unfold Rg; omega)]
  · rw [if_neg h, if_neg (by decide)]
    by_cases q : ((4 : Nat) : Int) ≤ i
    · rw [if_pos q, decide_eq_false (by unfold Rg; omega)]
    · rw [if_neg q, decide_eq_true (by unfold Rg; omega)]
theorem areC {i j : Int} (zi : ¬ zout i) (zj : ¬ zout j) : zf_X10_areCorners 16 4 i j = some (decide (Rg i 3) && decide (Rg j 3)) := by
  unfold zf_X10_areCorners
  rw [if_neg zno164, hasC zi, hasC zj]
  simp only [Option.bind_some]
  by_cases h : Rg i 3 <;> by_cases q : Rg j 3 <;> simp [h, q]
theorem y_in {v lo hi : Int} (zv : ¬ zout v) (zl : ¬ zout lo) (zh : ¬ zout hi) : zf_X11_in v lo hi = some (decide (lo ≤ v ∧ v ≤ hi)) := by
  unfold zf_X11_in
  rw [if_neg zv, if_neg zl]
  by_cases h : v < lo
  · rw [if_pos h, decide_eq_false (by omega)]
  · rw [if_neg h, if_neg zh]
    by_cases q : hi < v
    · rw [if_pos q, decide_eq_false (by omega)]
    · rw [if_neg q, decide_eq_true (by omega)]
theorem yC {i : Int} (z : ¬ zout i) : zf_X11_isCorner 4 i = some (decide (Rg i 3)) := by
  unfold zf_X11_isCorner
  rw [y_in z (by decide) (by decide)]
  rfl
theorem x_step {i : Int} (z : ¬ zout i) : zf_X10_isStep i = some (decide (Rg i 999)) := by
  unfold zf_X10_isStep
  rw [if_neg z]
  by_cases h : i < 0
  · rw [if_pos h, decide_eq_false (by unfold Rg; omega)]
  · rw [if_neg h]
    by_cases q : (999 : Int) < i
    · rw [if_pos q, decide_eq_false (by unfold Rg; omega)]
    · rw [if_neg q, decide_eq_true (by unfold Rg; omega)]
theorem x_val {i : Int} (z : ¬ zout i) : zf_X10_isValue i = some (decide (Rg i 9999)) := by
  unfold zf_X10_isValue
  rw [if_neg z]
  by_cases h : i < 0
  · rw [if_pos h, decide_eq_false (by unfold Rg; omega)]
  · rw [if_neg h]
    by_cases q : (9999 : Int) < i
    · rw [if_pos q, decide_eq_false (by unfold Rg; omega)]
    · rw [if_neg q, decide_eq_true (by unfold Rg; omega)]
theorem x_tell {i : Int} (z : ¬ zout i) : zf_X7_canTell 0 i = some (decide (Rg i 999)) := by
  unfold zf_X7_canTell
  rw [if_neg z, if_neg (by decide)]
  by_cases h : i < 0
  · rw [if_pos h, decide_eq_false (by unfold Rg; omega)]
  · rw [if_neg h]
    by_cases q : (999 : Int) < i
    · rw [if_pos q, decide_eq_false (by unfold Rg; omega)]
    · rw [if_neg q, decide_eq_true (by unfold Rg; omega)]
theorem x_place {i : Int} (z : ¬ zout i) : zf_X2_hasPlace 1 i = some (decide (Rg i 0)) := by
  unfold zf_X2_hasPlace
  rw [if_neg z]
  by_cases h : i < 0
  · rw [if_pos h, decide_eq_false (by unfold Rg; omega)]
  · rw [if_neg h, if_neg (by decide)]
    by_cases q : (1 : Int) ≤ i
    · rw [if_pos q, decide_eq_false (by unfold Rg; omega)]
    · rw [if_neg q, decide_eq_true (by unfold Rg; omega)]
theorem ylf4 : zf_X11_listFor 2 4 2 4 0xffffffff00000001ffffffff000000000000000000000000000000000000000000000000ffffffff00000000ffffffff0000000000000000000000000000000000000000000000000000000000000001ffffffff00000000ffffffff000000000000000000000000000000000000000000000000ffffffff00000000ffffffff00000000 0x100000000 0x300000002 0x20000000000000001 4 = some (2, 4, 2, 4, 0xffffffff00000001ffffffff000000000000000000000000000000000000000000000000ffffffff00000000ffffffff0000000000000000000000000000000000000000000000000000000000000001ffffffff00000000ffffffff000000000000000000000000000000000000000000000000ffffffff00000000ffffffff00000000, 0x100000000, 0x300000002, 0x20000000000000001) := rfl
theorem pg84 : pg8 4 = 2 := rfl
set_option maxRecDepth 20000 in
theorem ev_20 (i : Int) (j : Int) (k : Int) (zi : ¬ zout i) (zj : ¬ zout j) (zk : ¬ zout k) : ∃ o1 o2, zf_X10_side 16 4 1 0 0 i j k = some o1 ∧ zf_X11_side 4 2 4 1 0 0xffffffff00000001ffffffff000000000000000000000000000000000000000000000000ffffffff00000000ffffffff0000000000000000000000000000000000000000000000000000000000000001ffffffff00000000ffffffff000000000000000000000000000000000000000000000000ffffffff00000000ffffffff00000000 0x100000000 0x300000002 0 0 i j k = some o2 ∧ (o1.1) = (o2.1) := by
  unfold zout at *
  by_cases c0 : i < 0
  · have hx : zf_X10_side 16 4 1 0 0 i j k = some (-2, 0, 0) := by
      unfold zf_X10_side
      rw [areC (by unfold zout; omega) (by unfold zout; omega)]
      simp only [Option.bind_some]
      rw [if_pos (by rw [Bool.and_eq_false_iff]; left; exact decide_eq_false (by unfold Rg; omega))]
    have hy : zf_X11_side 4 2 4 1 0 0xffffffff00000001ffffffff000000000000000000000000000000000000000000000000ffffffff00000000ffffffff0000000000000000000000000000000000000000000000000000000000000001ffffffff00000000ffffffff000000000000000000000000000000000000000000000000ffffffff00000000ffffffff00000000 0x100000000 0x300000002 0 0 i j k = some ((-2), 2, 4, 0, 0xffffffff00000001ffffffff000000000000000000000000000000000000000000000000ffffffff00000000ffffffff0000000000000000000000000000000000000000000000000000000000000001ffffffff00000000ffffffff000000000000000000000000000000000000000000000000ffffffff00000000ffffffff00000000, 0x100000000, 0x300000002, 0, 0) := by
      unfold zf_X11_side
      rw [jrun_u]
      simp only [zg_X11_side, ↓reduceIte]
      unfold zg_X11_side_0
      rw [yC (by unfold zout; omega)]
      simp only [Option.bind_some]
      rw [if_pos (decide_eq_false (by unfold Rg; omega))]
      rfl
    exact ⟨_, _, hx, hy, rfl⟩
  by_cases c1 : 3 < i
  · have hx : zf_X10_side 16 4 1 0 0 i j k = some (-2, 0, 0) := by
      unfold zf_X10_side
      rw [areC (by unfold zout; omega) (by unfold zout; omega)]
      simp only [Option.bind_some]
      rw [if_pos (by rw [Bool.and_eq_false_iff]; left; exact decide_eq_false (by unfold Rg; omega))]
    have hy : zf_X11_side 4 2 4 1 0 0xffffffff00000001ffffffff000000000000000000000000000000000000000000000000ffffffff00000000ffffffff0000000000000000000000000000000000000000000000000000000000000001ffffffff00000000ffffffff000000000000000000000000000000000000000000000000ffffffff00000000ffffffff00000000 0x100000000 0x300000002 0 0 i j k = some ((-2), 2, 4, 0, 0xffffffff00000001ffffffff000000000000000000000000000000000000000000000000ffffffff00000000ffffffff0000000000000000000000000000000000000000000000000000000000000001ffffffff00000000ffffffff000000000000000000000000000000000000000000000000ffffffff00000000ffffffff00000000, 0x100000000, 0x300000002, 0, 0) := by
      unfold zf_X11_side
      rw [jrun_u]
      simp only [zg_X11_side, ↓reduceIte]
      unfold zg_X11_side_0
      rw [yC (by unfold zout; omega)]
      simp only [Option.bind_some]
      rw [if_pos (decide_eq_false (by unfold Rg; omega))]
      rfl
    exact ⟨_, _, hx, hy, rfl⟩
  by_cases c2 : j < 0
  · have hx : zf_X10_side 16 4 1 0 0 i j k = some (-2, 0, 0) := by
      unfold zf_X10_side
      rw [areC (by unfold zout; omega) (by unfold zout; omega)]
      simp only [Option.bind_some]
      rw [if_pos (by rw [Bool.and_eq_false_iff]; right; exact decide_eq_false (by unfold Rg; omega))]
    have hy : zf_X11_side 4 2 4 1 0 0xffffffff00000001ffffffff000000000000000000000000000000000000000000000000ffffffff00000000ffffffff0000000000000000000000000000000000000000000000000000000000000001ffffffff00000000ffffffff000000000000000000000000000000000000000000000000ffffffff00000000ffffffff00000000 0x100000000 0x300000002 0 0 i j k = some ((-2), 2, 4, 0, 0xffffffff00000001ffffffff000000000000000000000000000000000000000000000000ffffffff00000000ffffffff0000000000000000000000000000000000000000000000000000000000000001ffffffff00000000ffffffff000000000000000000000000000000000000000000000000ffffffff00000000ffffffff00000000, 0x100000000, 0x300000002, 0, 0) := by
      unfold zf_X11_side
      rw [jrun_u]
      simp only [zg_X11_side, ↓reduceIte]
      unfold zg_X11_side_0
      rw [yC (by unfold zout; omega)]
      simp only [Option.bind_some]
      rw [if_neg (by rw [decide_eq_true (show Rg i 3 by unfold Rg; omega)]; decide), yC (by unfold zout; omega)]
      simp only [Option.bind_some]
      rw [if_pos (decide_eq_false (by unfold Rg; omega))]
      rfl
    exact ⟨_, _, hx, hy, rfl⟩
  by_cases c3 : 3 < j
  · have hx : zf_X10_side 16 4 1 0 0 i j k = some (-2, 0, 0) := by
      unfold zf_X10_side
      rw [areC (by unfold zout; omega) (by unfold zout; omega)]
      simp only [Option.bind_some]
      rw [if_pos (by rw [Bool.and_eq_false_iff]; right; exact decide_eq_false (by unfold Rg; omega))]
    have hy : zf_X11_side 4 2 4 1 0 0xffffffff00000001ffffffff000000000000000000000000000000000000000000000000ffffffff00000000ffffffff0000000000000000000000000000000000000000000000000000000000000001ffffffff00000000ffffffff000000000000000000000000000000000000000000000000ffffffff00000000ffffffff00000000 0x100000000 0x300000002 0 0 i j k = some ((-2), 2, 4, 0, 0xffffffff00000001ffffffff000000000000000000000000000000000000000000000000ffffffff00000000ffffffff0000000000000000000000000000000000000000000000000000000000000001ffffffff00000000ffffffff000000000000000000000000000000000000000000000000ffffffff00000000ffffffff00000000, 0x100000000, 0x300000002, 0, 0) := by
      unfold zf_X11_side
      rw [jrun_u]
      simp only [zg_X11_side, ↓reduceIte]
      unfold zg_X11_side_0
      rw [yC (by unfold zout; omega)]
      simp only [Option.bind_some]
      rw [if_neg (by rw [decide_eq_true (show Rg i 3 by unfold Rg; omega)]; decide), yC (by unfold zout; omega)]
      simp only [Option.bind_some]
      rw [if_pos (decide_eq_false (by unfold Rg; omega))]
      rfl
    exact ⟨_, _, hx, hy, rfl⟩
  have hi9 : i = 0 ∨ i = 1 ∨ i = 2 ∨ i = 3 := by omega
  have hj9 : j = 0 ∨ j = 1 ∨ j = 2 ∨ j = 3 := by omega
  rcases hi9 with rfl | rfl | rfl | rfl <;> rcases hj9 with rfl | rfl | rfl | rfl
  · exact ⟨_, _, rfl, rfl, rfl⟩
  · have hs : zf_X0_sharedWithNext 16 0 0 4 k = some (-1) := by
      unfold zf_X0_sharedWithNext
      rw [if_neg (by unfold zout; omega)]
      by_cases q : k < 0
      · rw [if_pos q]
      · rw [if_neg q, if_neg (by decide)]
        first | rw [if_pos (by omega)] | rw [if_neg (by omega)]
    have hx : zf_X10_side 16 4 1 0 0 0 1 k = some (-1, 0, 0) := by
      unfold zf_X10_side
      rw [show zf_X10_areCorners 16 4 0 1 = some true from rfl]
      simp only [Option.bind_some, Bool.true_eq_false, ↓reduceIte]
      rw [if_neg (by decide), if_neg (by decide), if_neg (by decide), if_neg zno164, show zf_X0_gather 16 0 0 4 1 0 1 = some (0, 0) from rfl]
      simp only [Option.bind_some]
      rw [hs]
      rfl
    have hi9 : zf_X11_in k 0 (0 - 2) = some false := by
      rw [y_in (by unfold zout; omega) (by decide) (by decide)]
      rw [decide_eq_false (by omega)]
    have hy : zf_X11_side 4 2 4 1 0 0xffffffff00000001ffffffff000000000000000000000000000000000000000000000000ffffffff00000000ffffffff0000000000000000000000000000000000000000000000000000000000000001ffffffff00000000ffffffff000000000000000000000000000000000000000000000000ffffffff00000000ffffffff00000000 0x100000000 0x300000002 0 0 0 1 k = some ((-1), 2, 4, 0, 0xffffffff00000001ffffffff000000000000000000000000000000000000000000000000ffffffff00000000ffffffff0000000000000000000000000000000000000000000000000000000000000001ffffffff00000000ffffffff000000000000000000000000000000000000000000000000ffffffff00000000ffffffff00000000, 0x100000000, 0x300000002, 0, 0) := by
      unfold zf_X11_side
      rw [jrun_u]
      simp only [zg_X11_side, ↓reduceIte]
      unfold zg_X11_side_0
      rw [show zf_X11_isCorner 4 0 = some true from rfl]
      simp only [Option.bind_some, Bool.true_eq_false, ↓reduceIte]
      rw [show zf_X11_isCorner 4 1 = some true from rfl]
      simp only [Option.bind_some, Bool.true_eq_false, ↓reduceIte]
      rw [if_neg (by decide), if_neg (by decide), if_neg (by decide), show zf_X11_cross 4 2 4 1 0 0xffffffff00000001ffffffff000000000000000000000000000000000000000000000000ffffffff00000000ffffffff0000000000000000000000000000000000000000000000000000000000000001ffffffff00000000ffffffff000000000000000000000000000000000000000000000000ffffffff00000000ffffffff00000000 0x100000000 0x300000002 0 0 0 1 = some (2, 4, 0, 0xffffffff00000001ffffffff000000000000000000000000000000000000000000000000ffffffff00000000ffffffff0000000000000000000000000000000000000000000000000000000000000001ffffffff00000000ffffffff000000000000000000000000000000000000000000000000ffffffff00000000ffffffff00000000, 0x100000000, 0x300000002, 0, 0) from rfl]
      simp only [Option.bind_some]
      rw [hi9]
      rfl
    exact ⟨_, _, hx, hy, rfl⟩
  · have hs : zf_X0_sharedWithNext 16 0 0 4 k = some (-1) := by
      unfold zf_X0_sharedWithNext
      rw [if_neg (by unfold zout; omega)]
      by_cases q : k < 0
      · rw [if_pos q]
      · rw [if_neg q, if_neg (by decide)]
        first | rw [if_pos (by omega)] | rw [if_neg (by omega)]
    have hx : zf_X10_side 16 4 1 0 0 0 2 k = some (-1, 0, 0) := by
      unfold zf_X10_side
      rw [show zf_X10_areCorners 16 4 0 2 = some true from rfl]
      simp only [Option.bind_some, Bool.true_eq_false, ↓reduceIte]
      rw [if_neg (by decide), if_neg (by decide), if_neg (by decide), if_neg zno164, show zf_X0_gather 16 0 0 4 1 0 2 = some (0, 0) from rfl]
      simp only [Option.bind_some]
      rw [hs]
      rfl
    have hi9 : zf_X11_in k 0 (0 - 2) = some false := by
      rw [y_in (by unfold zout; omega) (by decide) (by decide)]
      rw [decide_eq_false (by omega)]
    have hy : zf_X11_side 4 2 4 1 0 0xffffffff00000001ffffffff000000000000000000000000000000000000000000000000ffffffff00000000ffffffff0000000000000000000000000000000000000000000000000000000000000001ffffffff00000000ffffffff000000000000000000000000000000000000000000000000ffffffff00000000ffffffff00000000 0x100000000 0x300000002 0 0 0 2 k = some ((-1), 2, 4, 0, 0xffffffff00000001ffffffff000000000000000000000000000000000000000000000000ffffffff00000000ffffffff0000000000000000000000000000000000000000000000000000000000000001ffffffff00000000ffffffff000000000000000000000000000000000000000000000000ffffffff00000000ffffffff00000000, 0x100000000, 0x300000002, 0, 0) := by
      unfold zf_X11_side
      rw [jrun_u]
      simp only [zg_X11_side, ↓reduceIte]
      unfold zg_X11_side_0
      rw [show zf_X11_isCorner 4 0 = some true from rfl]
      simp only [Option.bind_some, Bool.true_eq_false, ↓reduceIte]
      rw [show zf_X11_isCorner 4 2 = some true from rfl]
      simp only [Option.bind_some, Bool.true_eq_false, ↓reduceIte]
      rw [if_neg (by decide), if_neg (by decide), if_neg (by decide), show zf_X11_cross 4 2 4 1 0 0xffffffff00000001ffffffff000000000000000000000000000000000000000000000000ffffffff00000000ffffffff0000000000000000000000000000000000000000000000000000000000000001ffffffff00000000ffffffff000000000000000000000000000000000000000000000000ffffffff00000000ffffffff00000000 0x100000000 0x300000002 0 0 0 2 = some (2, 4, 0, 0xffffffff00000001ffffffff000000000000000000000000000000000000000000000000ffffffff00000000ffffffff0000000000000000000000000000000000000000000000000000000000000001ffffffff00000000ffffffff000000000000000000000000000000000000000000000000ffffffff00000000ffffffff00000000, 0x100000000, 0x300000002, 0, 0) from rfl]
      simp only [Option.bind_some]
      rw [hi9]
      rfl
    exact ⟨_, _, hx, hy, rfl⟩
  · have hs : zf_X0_sharedWithNext 16 0 0 4 k = some (-1) := by
      unfold zf_X0_sharedWithNext
      rw [if_neg (by unfold zout; omega)]
      by_cases q : k < 0
      · rw [if_pos q]
      · rw [if_neg q, if_neg (by decide)]
        first | rw [if_pos (by omega)] | rw [if_neg (by omega)]
    have hx : zf_X10_side 16 4 1 0 0 0 3 k = some (-1, 0, 0) := by
      unfold zf_X10_side
      rw [show zf_X10_areCorners 16 4 0 3 = some true from rfl]
      simp only [Option.bind_some, Bool.true_eq_false, ↓reduceIte]
      rw [if_neg (by decide), if_neg (by decide), if_neg (by decide), if_neg zno164, show zf_X0_gather 16 0 0 4 1 0 3 = some (0, 0) from rfl]
      simp only [Option.bind_some]
      rw [hs]
      rfl
    have hi9 : zf_X11_in k 0 (0 - 2) = some false := by
      rw [y_in (by unfold zout; omega) (by decide) (by decide)]
      rw [decide_eq_false (by omega)]
    have hy : zf_X11_side 4 2 4 1 0 0xffffffff00000001ffffffff000000000000000000000000000000000000000000000000ffffffff00000000ffffffff0000000000000000000000000000000000000000000000000000000000000001ffffffff00000000ffffffff000000000000000000000000000000000000000000000000ffffffff00000000ffffffff00000000 0x100000000 0x300000002 0 0 0 3 k = some ((-1), 2, 4, 0, 0xffffffff00000001ffffffff000000000000000000000000000000000000000000000000ffffffff00000000ffffffff0000000000000000000000000000000000000000000000000000000000000001ffffffff00000000ffffffff000000000000000000000000000000000000000000000000ffffffff00000000ffffffff00000000, 0x100000000, 0x300000002, 0, 0) := by
      unfold zf_X11_side
      rw [jrun_u]
      simp only [zg_X11_side, ↓reduceIte]
      unfold zg_X11_side_0
      rw [show zf_X11_isCorner 4 0 = some true from rfl]
      simp only [Option.bind_some, Bool.true_eq_false, ↓reduceIte]
      rw [show zf_X11_isCorner 4 3 = some true from rfl]
      simp only [Option.bind_some, Bool.true_eq_false, ↓reduceIte]
      rw [if_neg (by decide), if_neg (by decide), if_neg (by decide), show zf_X11_cross 4 2 4 1 0 0xffffffff00000001ffffffff000000000000000000000000000000000000000000000000ffffffff00000000ffffffff0000000000000000000000000000000000000000000000000000000000000001ffffffff00000000ffffffff000000000000000000000000000000000000000000000000ffffffff00000000ffffffff00000000 0x100000000 0x300000002 0 0 0 3 = some (2, 4, 0, 0xffffffff00000001ffffffff000000000000000000000000000000000000000000000000ffffffff00000000ffffffff0000000000000000000000000000000000000000000000000000000000000001ffffffff00000000ffffffff000000000000000000000000000000000000000000000000ffffffff00000000ffffffff00000000, 0x100000000, 0x300000002, 0, 0) from rfl]
      simp only [Option.bind_some]
      rw [hi9]
      rfl
    exact ⟨_, _, hx, hy, rfl⟩
  · have hs : zf_X0_sharedWithNext 16 0 0 4 k = some (-1) := by
      unfold zf_X0_sharedWithNext
      rw [if_neg (by unfold zout; omega)]
      by_cases q : k < 0
      · rw [if_pos q]
      · rw [if_neg q, if_neg (by decide)]
        first | rw [if_pos (by omega)] | rw [if_neg (by omega)]
    have hx : zf_X10_side 16 4 1 0 0 1 0 k = some (-1, 0, 0) := by
      unfold zf_X10_side
      rw [show zf_X10_areCorners 16 4 1 0 = some true from rfl]
      simp only [Option.bind_some, Bool.true_eq_false, ↓reduceIte]
      rw [if_neg (by decide), if_neg (by decide), if_neg (by decide), if_neg zno164, show zf_X0_gather 16 0 0 4 1 1 0 = some (0, 0) from rfl]
      simp only [Option.bind_some]
      rw [hs]
      rfl
    have hi9 : zf_X11_in k 0 (0 - 2) = some false := by
      rw [y_in (by unfold zout; omega) (by decide) (by decide)]
      rw [decide_eq_false (by omega)]
    have hy : zf_X11_side 4 2 4 1 0 0xffffffff00000001ffffffff000000000000000000000000000000000000000000000000ffffffff00000000ffffffff0000000000000000000000000000000000000000000000000000000000000001ffffffff00000000ffffffff000000000000000000000000000000000000000000000000ffffffff00000000ffffffff00000000 0x100000000 0x300000002 0 0 1 0 k = some ((-1), 2, 4, 0, 0xffffffff00000001ffffffff000000000000000000000000000000000000000000000000ffffffff00000000ffffffff0000000000000000000000000000000000000000000000000000000000000001ffffffff00000000ffffffff000000000000000000000000000000000000000000000000ffffffff00000000ffffffff00000000, 0x100000000, 0x300000002, 0, 0) := by
      unfold zf_X11_side
      rw [jrun_u]
      simp only [zg_X11_side, ↓reduceIte]
      unfold zg_X11_side_0
      rw [show zf_X11_isCorner 4 1 = some true from rfl]
      simp only [Option.bind_some, Bool.true_eq_false, ↓reduceIte]
      rw [show zf_X11_isCorner 4 0 = some true from rfl]
      simp only [Option.bind_some, Bool.true_eq_false, ↓reduceIte]
      rw [if_neg (by decide), if_neg (by decide), if_neg (by decide), show zf_X11_cross 4 2 4 1 0 0xffffffff00000001ffffffff000000000000000000000000000000000000000000000000ffffffff00000000ffffffff0000000000000000000000000000000000000000000000000000000000000001ffffffff00000000ffffffff000000000000000000000000000000000000000000000000ffffffff00000000ffffffff00000000 0x100000000 0x300000002 0 0 1 0 = some (2, 4, 0, 0xffffffff00000001ffffffff000000000000000000000000000000000000000000000000ffffffff00000000ffffffff0000000000000000000000000000000000000000000000000000000000000001ffffffff00000000ffffffff000000000000000000000000000000000000000000000000ffffffff00000000ffffffff00000000, 0x100000000, 0x300000002, 0, 0) from rfl]
      simp only [Option.bind_some]
      rw [hi9]
      rfl
    exact ⟨_, _, hx, hy, rfl⟩
  · exact ⟨_, _, rfl, rfl, rfl⟩
  · have hs : zf_X0_sharedWithNext 16 0 0 4 k = some (-1) := by
      unfold zf_X0_sharedWithNext
      rw [if_neg (by unfold zout; omega)]
      by_cases q : k < 0
      · rw [if_pos q]
      · rw [if_neg q, if_neg (by decide)]
        first | rw [if_pos (by omega)] | rw [if_neg (by omega)]
    have hx : zf_X10_side 16 4 1 0 0 1 2 k = some (-1, 0, 0) := by
      unfold zf_X10_side
      rw [show zf_X10_areCorners 16 4 1 2 = some true from rfl]
      simp only [Option.bind_some, Bool.true_eq_false, ↓reduceIte]
      rw [if_neg (by decide), if_neg (by decide), if_neg (by decide), if_neg zno164, show zf_X0_gather 16 0 0 4 1 1 2 = some (0, 0) from rfl]
      simp only [Option.bind_some]
      rw [hs]
      rfl
    have hi9 : zf_X11_in k 0 (0 - 2) = some false := by
      rw [y_in (by unfold zout; omega) (by decide) (by decide)]
      rw [decide_eq_false (by omega)]
    have hy : zf_X11_side 4 2 4 1 0 0xffffffff00000001ffffffff000000000000000000000000000000000000000000000000ffffffff00000000ffffffff0000000000000000000000000000000000000000000000000000000000000001ffffffff00000000ffffffff000000000000000000000000000000000000000000000000ffffffff00000000ffffffff00000000 0x100000000 0x300000002 0 0 1 2 k = some ((-1), 2, 4, 0, 0xffffffff00000001ffffffff000000000000000000000000000000000000000000000000ffffffff00000000ffffffff0000000000000000000000000000000000000000000000000000000000000001ffffffff00000000ffffffff000000000000000000000000000000000000000000000000ffffffff00000000ffffffff00000000, 0x100000000, 0x300000002, 0, 0) := by
      unfold zf_X11_side
      rw [jrun_u]
      simp only [zg_X11_side, ↓reduceIte]
      unfold zg_X11_side_0
      rw [show zf_X11_isCorner 4 1 = some true from rfl]
      simp only [Option.bind_some, Bool.true_eq_false, ↓reduceIte]
      rw [show zf_X11_isCorner 4 2 = some true from rfl]
      simp only [Option.bind_some, Bool.true_eq_false, ↓reduceIte]
      rw [if_neg (by decide), if_neg (by decide), if_neg (by decide), show zf_X11_cross 4 2 4 1 0 0xffffffff00000001ffffffff000000000000000000000000000000000000000000000000ffffffff00000000ffffffff0000000000000000000000000000000000000000000000000000000000000001ffffffff00000000ffffffff000000000000000000000000000000000000000000000000ffffffff00000000ffffffff00000000 0x100000000 0x300000002 0 0 1 2 = some (2, 4, 0, 0xffffffff00000001ffffffff000000000000000000000000000000000000000000000000ffffffff00000000ffffffff0000000000000000000000000000000000000000000000000000000000000001ffffffff00000000ffffffff000000000000000000000000000000000000000000000000ffffffff00000000ffffffff00000000, 0x100000000, 0x300000002, 0, 0) from rfl]
      simp only [Option.bind_some]
      rw [hi9]
      rfl
    exact ⟨_, _, hx, hy, rfl⟩
  · have hs : zf_X0_sharedWithNext 16 1 0 4 k = some (-1) := by
      unfold zf_X0_sharedWithNext
      rw [if_neg (by unfold zout; omega)]
      by_cases q : k < 0
      · rw [if_pos q]
      · rw [if_neg q, if_neg (by decide)]
        first | rw [if_pos (by omega)] | rw [if_neg (by omega)]
    have hx : zf_X10_side 16 4 1 0 0 1 3 k = some (-1, 1, 0) := by
      unfold zf_X10_side
      rw [show zf_X10_areCorners 16 4 1 3 = some true from rfl]
      simp only [Option.bind_some, Bool.true_eq_false, ↓reduceIte]
      rw [if_neg (by decide), if_neg (by decide), if_neg (by decide), if_neg zno164, show zf_X0_gather 16 0 0 4 1 1 3 = some (1, 0) from rfl]
      simp only [Option.bind_some]
      rw [hs]
      rfl
    have hi9 : zf_X11_in k 0 (1 - 2) = some false := by
      rw [y_in (by unfold zout; omega) (by decide) (by decide)]
      rw [decide_eq_false (by omega)]
    have hy : zf_X11_side 4 2 4 1 0 0xffffffff00000001ffffffff000000000000000000000000000000000000000000000000ffffffff00000000ffffffff0000000000000000000000000000000000000000000000000000000000000001ffffffff00000000ffffffff000000000000000000000000000000000000000000000000ffffffff00000000ffffffff00000000 0x100000000 0x300000002 0 0 1 3 k = some ((-1), 2, 4, 1, 0xffffffff00000001ffffffff000000000000000000000000000000000000000000000000ffffffff00000000ffffffff0000000000000000000000000000000000000000000000000000000000000001ffffffff00000000ffffffff000000000000000000000000000000000000000000000000ffffffff00000000ffffffff00000000, 0x100000000, 0x300000002, 0, 2) := by
      unfold zf_X11_side
      rw [jrun_u]
      simp only [zg_X11_side, ↓reduceIte]
      unfold zg_X11_side_0
      rw [show zf_X11_isCorner 4 1 = some true from rfl]
      simp only [Option.bind_some, Bool.true_eq_false, ↓reduceIte]
      rw [show zf_X11_isCorner 4 3 = some true from rfl]
      simp only [Option.bind_some, Bool.true_eq_false, ↓reduceIte]
      rw [if_neg (by decide), if_neg (by decide), if_neg (by decide), show zf_X11_cross 4 2 4 1 0 0xffffffff00000001ffffffff000000000000000000000000000000000000000000000000ffffffff00000000ffffffff0000000000000000000000000000000000000000000000000000000000000001ffffffff00000000ffffffff000000000000000000000000000000000000000000000000ffffffff00000000ffffffff00000000 0x100000000 0x300000002 0 0 1 3 = some (2, 4, 1, 0xffffffff00000001ffffffff000000000000000000000000000000000000000000000000ffffffff00000000ffffffff0000000000000000000000000000000000000000000000000000000000000001ffffffff00000000ffffffff000000000000000000000000000000000000000000000000ffffffff00000000ffffffff00000000, 0x100000000, 0x300000002, 0, 2) from rfl]
      simp only [Option.bind_some]
      rw [hi9]
      rfl
    exact ⟨_, _, hx, hy, rfl⟩
  · have hs : zf_X0_sharedWithNext 16 0 0 4 k = some (-1) := by
      unfold zf_X0_sharedWithNext
      rw [if_neg (by unfold zout; omega)]
      by_cases q : k < 0
      · rw [if_pos q]
      · rw [if_neg q, if_neg (by decide)]
        first | rw [if_pos (by omega)] | rw [if_neg (by omega)]
    have hx : zf_X10_side 16 4 1 0 0 2 0 k = some (-1, 0, 0) := by
      unfold zf_X10_side
      rw [show zf_X10_areCorners 16 4 2 0 = some true from rfl]
      simp only [Option.bind_some, Bool.true_eq_false, ↓reduceIte]
      rw [if_neg (by decide), if_neg (by decide), if_neg (by decide), if_neg zno164, show zf_X0_gather 16 0 0 4 1 2 0 = some (0, 0) from rfl]
      simp only [Option.bind_some]
      rw [hs]
      rfl
    have hi9 : zf_X11_in k 0 (0 - 2) = some false := by
      rw [y_in (by unfold zout; omega) (by decide) (by decide)]
      rw [decide_eq_false (by omega)]
    have hy : zf_X11_side 4 2 4 1 0 0xffffffff00000001ffffffff000000000000000000000000000000000000000000000000ffffffff00000000ffffffff0000000000000000000000000000000000000000000000000000000000000001ffffffff00000000ffffffff000000000000000000000000000000000000000000000000ffffffff00000000ffffffff00000000 0x100000000 0x300000002 0 0 2 0 k = some ((-1), 2, 4, 0, 0xffffffff00000001ffffffff000000000000000000000000000000000000000000000000ffffffff00000000ffffffff0000000000000000000000000000000000000000000000000000000000000001ffffffff00000000ffffffff000000000000000000000000000000000000000000000000ffffffff00000000ffffffff00000000, 0x100000000, 0x300000002, 0, 0) := by
      unfold zf_X11_side
      rw [jrun_u]
      simp only [zg_X11_side, ↓reduceIte]
      unfold zg_X11_side_0
      rw [show zf_X11_isCorner 4 2 = some true from rfl]
      simp only [Option.bind_some, Bool.true_eq_false, ↓reduceIte]
      rw [show zf_X11_isCorner 4 0 = some true from rfl]
      simp only [Option.bind_some, Bool.true_eq_false, ↓reduceIte]
      rw [if_neg (by decide), if_neg (by decide), if_neg (by decide), show zf_X11_cross 4 2 4 1 0 0xffffffff00000001ffffffff000000000000000000000000000000000000000000000000ffffffff00000000ffffffff0000000000000000000000000000000000000000000000000000000000000001ffffffff00000000ffffffff000000000000000000000000000000000000000000000000ffffffff00000000ffffffff00000000 0x100000000 0x300000002 0 0 2 0 = some (2, 4, 0, 0xffffffff00000001ffffffff000000000000000000000000000000000000000000000000ffffffff00000000ffffffff0000000000000000000000000000000000000000000000000000000000000001ffffffff00000000ffffffff000000000000000000000000000000000000000000000000ffffffff00000000ffffffff00000000, 0x100000000, 0x300000002, 0, 0) from rfl]
      simp only [Option.bind_some]
      rw [hi9]
      rfl
    exact ⟨_, _, hx, hy, rfl⟩
  · have hs : zf_X0_sharedWithNext 16 0 0 4 k = some (-1) := by
      unfold zf_X0_sharedWithNext
      rw [if_neg (by unfold zout; omega)]
      by_cases q : k < 0
      · rw [if_pos q]
      · rw [if_neg q, if_neg (by decide)]
        first | rw [if_pos (by omega)] | rw [if_neg (by omega)]
    have hx : zf_X10_side 16 4 1 0 0 2 1 k = some (-1, 0, 0) := by
      unfold zf_X10_side
      rw [show zf_X10_areCorners 16 4 2 1 = some true from rfl]
      simp only [Option.bind_some, Bool.true_eq_false, ↓reduceIte]
      rw [if_neg (by decide), if_neg (by decide), if_neg (by decide), if_neg zno164, show zf_X0_gather 16 0 0 4 1 2 1 = some (0, 0) from rfl]
      simp only [Option.bind_some]
      rw [hs]
      rfl
    have hi9 : zf_X11_in k 0 (0 - 2) = some false := by
      rw [y_in (by unfold zout; omega) (by decide) (by decide)]
      rw [decide_eq_false (by omega)]
    have hy : zf_X11_side 4 2 4 1 0 0xffffffff00000001ffffffff000000000000000000000000000000000000000000000000ffffffff00000000ffffffff0000000000000000000000000000000000000000000000000000000000000001ffffffff00000000ffffffff000000000000000000000000000000000000000000000000ffffffff00000000ffffffff00000000 0x100000000 0x300000002 0 0 2 1 k = some ((-1), 2, 4, 0, 0xffffffff00000001ffffffff000000000000000000000000000000000000000000000000ffffffff00000000ffffffff0000000000000000000000000000000000000000000000000000000000000001ffffffff00000000ffffffff000000000000000000000000000000000000000000000000ffffffff00000000ffffffff00000000, 0x100000000, 0x300000002, 0, 0) := by
      unfold zf_X11_side
      rw [jrun_u]
      simp only [zg_X11_side, ↓reduceIte]
      unfold zg_X11_side_0
      rw [show zf_X11_isCorner 4 2 = some true from rfl]
      simp only [Option.bind_some, Bool.true_eq_false, ↓reduceIte]
      rw [show zf_X11_isCorner 4 1 = some true from rfl]
      simp only [Option.bind_some, Bool.true_eq_false, ↓reduceIte]
      rw [if_neg (by decide), if_neg (by decide), if_neg (by decide), show zf_X11_cross 4 2 4 1 0 0xffffffff00000001ffffffff000000000000000000000000000000000000000000000000ffffffff00000000ffffffff0000000000000000000000000000000000000000000000000000000000000001ffffffff00000000ffffffff000000000000000000000000000000000000000000000000ffffffff00000000ffffffff00000000 0x100000000 0x300000002 0 0 2 1 = some (2, 4, 0, 0xffffffff00000001ffffffff000000000000000000000000000000000000000000000000ffffffff00000000ffffffff0000000000000000000000000000000000000000000000000000000000000001ffffffff00000000ffffffff000000000000000000000000000000000000000000000000ffffffff00000000ffffffff00000000, 0x100000000, 0x300000002, 0, 0) from rfl]
      simp only [Option.bind_some]
      rw [hi9]
      rfl
    exact ⟨_, _, hx, hy, rfl⟩
  · exact ⟨_, _, rfl, rfl, rfl⟩
  · have hs : zf_X0_sharedWithNext 16 0 0 4 k = some (-1) := by
      unfold zf_X0_sharedWithNext
      rw [if_neg (by unfold zout; omega)]
      by_cases q : k < 0
      · rw [if_pos q]
      · rw [if_neg q, if_neg (by decide)]
        first | rw [if_pos (by omega)] | rw [if_neg (by omega)]
    have hx : zf_X10_side 16 4 1 0 0 2 3 k = some (-1, 0, 0) := by
      unfold zf_X10_side
      rw [show zf_X10_areCorners 16 4 2 3 = some true from rfl]
      simp only [Option.bind_some, Bool.true_eq_false, ↓reduceIte]
      rw [if_neg (by decide), if_neg (by decide), if_neg (by decide), if_neg zno164, show zf_X0_gather 16 0 0 4 1 2 3 = some (0, 0) from rfl]
      simp only [Option.bind_some]
      rw [hs]
      rfl
    have hi9 : zf_X11_in k 0 (0 - 2) = some false := by
      rw [y_in (by unfold zout; omega) (by decide) (by decide)]
      rw [decide_eq_false (by omega)]
    have hy : zf_X11_side 4 2 4 1 0 0xffffffff00000001ffffffff000000000000000000000000000000000000000000000000ffffffff00000000ffffffff0000000000000000000000000000000000000000000000000000000000000001ffffffff00000000ffffffff000000000000000000000000000000000000000000000000ffffffff00000000ffffffff00000000 0x100000000 0x300000002 0 0 2 3 k = some ((-1), 2, 4, 0, 0xffffffff00000001ffffffff000000000000000000000000000000000000000000000000ffffffff00000000ffffffff0000000000000000000000000000000000000000000000000000000000000001ffffffff00000000ffffffff000000000000000000000000000000000000000000000000ffffffff00000000ffffffff00000000, 0x100000000, 0x300000002, 0, 0) := by
      unfold zf_X11_side
      rw [jrun_u]
      simp only [zg_X11_side, ↓reduceIte]
      unfold zg_X11_side_0
      rw [show zf_X11_isCorner 4 2 = some true from rfl]
      simp only [Option.bind_some, Bool.true_eq_false, ↓reduceIte]
      rw [show zf_X11_isCorner 4 3 = some true from rfl]
      simp only [Option.bind_some, Bool.true_eq_false, ↓reduceIte]
      rw [if_neg (by decide), if_neg (by decide), if_neg (by decide), show zf_X11_cross 4 2 4 1 0 0xffffffff00000001ffffffff000000000000000000000000000000000000000000000000ffffffff00000000ffffffff0000000000000000000000000000000000000000000000000000000000000001ffffffff00000000ffffffff000000000000000000000000000000000000000000000000ffffffff00000000ffffffff00000000 0x100000000 0x300000002 0 0 2 3 = some (2, 4, 0, 0xffffffff00000001ffffffff000000000000000000000000000000000000000000000000ffffffff00000000ffffffff0000000000000000000000000000000000000000000000000000000000000001ffffffff00000000ffffffff000000000000000000000000000000000000000000000000ffffffff00000000ffffffff00000000, 0x100000000, 0x300000002, 0, 0) from rfl]
      simp only [Option.bind_some]
      rw [hi9]
      rfl
    exact ⟨_, _, hx, hy, rfl⟩
  · have hs : zf_X0_sharedWithNext 16 0 0 4 k = some (-1) := by
      unfold zf_X0_sharedWithNext
      rw [if_neg (by unfold zout; omega)]
      by_cases q : k < 0
      · rw [if_pos q]
      · rw [if_neg q, if_neg (by decide)]
        first | rw [if_pos (by omega)] | rw [if_neg (by omega)]
    have hx : zf_X10_side 16 4 1 0 0 3 0 k = some (-1, 0, 0) := by
      unfold zf_X10_side
      rw [show zf_X10_areCorners 16 4 3 0 = some true from rfl]
      simp only [Option.bind_some, Bool.true_eq_false, ↓reduceIte]
      rw [if_neg (by decide), if_neg (by decide), if_neg (by decide), if_neg zno164, show zf_X0_gather 16 0 0 4 1 3 0 = some (0, 0) from rfl]
      simp only [Option.bind_some]
      rw [hs]
      rfl
    have hi9 : zf_X11_in k 0 (0 - 2) = some false := by
      rw [y_in (by unfold zout; omega) (by decide) (by decide)]
      rw [decide_eq_false (by omega)]
    have hy : zf_X11_side 4 2 4 1 0 0xffffffff00000001ffffffff000000000000000000000000000000000000000000000000ffffffff00000000ffffffff0000000000000000000000000000000000000000000000000000000000000001ffffffff00000000ffffffff000000000000000000000000000000000000000000000000ffffffff00000000ffffffff00000000 0x100000000 0x300000002 0 0 3 0 k = some ((-1), 2, 4, 0, 0xffffffff00000001ffffffff000000000000000000000000000000000000000000000000ffffffff00000000ffffffff0000000000000000000000000000000000000000000000000000000000000001ffffffff00000000ffffffff000000000000000000000000000000000000000000000000ffffffff00000000ffffffff00000000, 0x100000000, 0x300000002, 0, 0) := by
      unfold zf_X11_side
      rw [jrun_u]
      simp only [zg_X11_side, ↓reduceIte]
      unfold zg_X11_side_0
      rw [show zf_X11_isCorner 4 3 = some true from rfl]
      simp only [Option.bind_some, Bool.true_eq_false, ↓reduceIte]
      rw [show zf_X11_isCorner 4 0 = some true from rfl]
      simp only [Option.bind_some, Bool.true_eq_false, ↓reduceIte]
      rw [if_neg (by decide), if_neg (by decide), if_neg (by decide), show zf_X11_cross 4 2 4 1 0 0xffffffff00000001ffffffff000000000000000000000000000000000000000000000000ffffffff00000000ffffffff0000000000000000000000000000000000000000000000000000000000000001ffffffff00000000ffffffff000000000000000000000000000000000000000000000000ffffffff00000000ffffffff00000000 0x100000000 0x300000002 0 0 3 0 = some (2, 4, 0, 0xffffffff00000001ffffffff000000000000000000000000000000000000000000000000ffffffff00000000ffffffff0000000000000000000000000000000000000000000000000000000000000001ffffffff00000000ffffffff000000000000000000000000000000000000000000000000ffffffff00000000ffffffff00000000, 0x100000000, 0x300000002, 0, 0) from rfl]
      simp only [Option.bind_some]
      rw [hi9]
      rfl
    exact ⟨_, _, hx, hy, rfl⟩
  · have hs : zf_X0_sharedWithNext 16 1 0 4 k = some (-1) := by
      unfold zf_X0_sharedWithNext
      rw [if_neg (by unfold zout; omega)]
      by_cases q : k < 0
      · rw [if_pos q]
      · rw [if_neg q, if_neg (by decide)]
        first | rw [if_pos (by omega)] | rw [if_neg (by omega)]
    have hx : zf_X10_side 16 4 1 0 0 3 1 k = some (-1, 1, 0) := by
      unfold zf_X10_side
      rw [show zf_X10_areCorners 16 4 3 1 = some true from rfl]
      simp only [Option.bind_some, Bool.true_eq_false, ↓reduceIte]
      rw [if_neg (by decide), if_neg (by decide), if_neg (by decide), if_neg zno164, show zf_X0_gather 16 0 0 4 1 3 1 = some (1, 0) from rfl]
      simp only [Option.bind_some]
      rw [hs]
      rfl
    have hi9 : zf_X11_in k 0 (1 - 2) = some false := by
      rw [y_in (by unfold zout; omega) (by decide) (by decide)]
      rw [decide_eq_false (by omega)]
    have hy : zf_X11_side 4 2 4 1 0 0xffffffff00000001ffffffff000000000000000000000000000000000000000000000000ffffffff00000000ffffffff0000000000000000000000000000000000000000000000000000000000000001ffffffff00000000ffffffff000000000000000000000000000000000000000000000000ffffffff00000000ffffffff00000000 0x100000000 0x300000002 0 0 3 1 k = some ((-1), 2, 4, 1, 0xffffffff00000001ffffffff000000000000000000000000000000000000000000000000ffffffff00000000ffffffff0000000000000000000000000000000000000000000000000000000000000001ffffffff00000000ffffffff000000000000000000000000000000000000000000000000ffffffff00000000ffffffff00000000, 0x100000000, 0x300000002, 0, 2) := by
      unfold zf_X11_side
      rw [jrun_u]
      simp only [zg_X11_side, ↓reduceIte]
      unfold zg_X11_side_0
      rw [show zf_X11_isCorner 4 3 = some true from rfl]
      simp only [Option.bind_some, Bool.true_eq_false, ↓reduceIte]
      rw [show zf_X11_isCorner 4 1 = some true from rfl]
      simp only [Option.bind_some, Bool.true_eq_false, ↓reduceIte]
      rw [if_neg (by decide), if_neg (by decide), if_neg (by decide), show zf_X11_cross 4 2 4 1 0 0xffffffff00000001ffffffff000000000000000000000000000000000000000000000000ffffffff00000000ffffffff0000000000000000000000000000000000000000000000000000000000000001ffffffff00000000ffffffff000000000000000000000000000000000000000000000000ffffffff00000000ffffffff00000000 0x100000000 0x300000002 0 0 3 1 = some (2, 4, 1, 0xffffffff00000001ffffffff000000000000000000000000000000000000000000000000ffffffff00000000ffffffff0000000000000000000000000000000000000000000000000000000000000001ffffffff00000000ffffffff000000000000000000000000000000000000000000000000ffffffff00000000ffffffff00000000, 0x100000000, 0x300000002, 0, 2) from rfl]
      simp only [Option.bind_some]
      rw [hi9]
      rfl
    exact ⟨_, _, hx, hy, rfl⟩
  · have hs : zf_X0_sharedWithNext 16 0 0 4 k = some (-1) := by
      unfold zf_X0_sharedWithNext
      rw [if_neg (by unfold zout; omega)]
      by_cases q : k < 0
      · rw [if_pos q]
      · rw [if_neg q, if_neg (by decide)]
        first | rw [if_pos (by omega)] | rw [if_neg (by omega)]
    have hx : zf_X10_side 16 4 1 0 0 3 2 k = some (-1, 0, 0) := by
      unfold zf_X10_side
      rw [show zf_X10_areCorners 16 4 3 2 = some true from rfl]
      simp only [Option.bind_some, Bool.true_eq_false, ↓reduceIte]
      rw [if_neg (by decide), if_neg (by decide), if_neg (by decide), if_neg zno164, show zf_X0_gather 16 0 0 4 1 3 2 = some (0, 0) from rfl]
      simp only [Option.bind_some]
      rw [hs]
      rfl
    have hi9 : zf_X11_in k 0 (0 - 2) = some false := by
      rw [y_in (by unfold zout; omega) (by decide) (by decide)]
      rw [decide_eq_false (by omega)]
    have hy : zf_X11_side 4 2 4 1 0 0xffffffff00000001ffffffff000000000000000000000000000000000000000000000000ffffffff00000000ffffffff0000000000000000000000000000000000000000000000000000000000000001ffffffff00000000ffffffff000000000000000000000000000000000000000000000000ffffffff00000000ffffffff00000000 0x100000000 0x300000002 0 0 3 2 k = some ((-1), 2, 4, 0, 0xffffffff00000001ffffffff000000000000000000000000000000000000000000000000ffffffff00000000ffffffff0000000000000000000000000000000000000000000000000000000000000001ffffffff00000000ffffffff000000000000000000000000000000000000000000000000ffffffff00000000ffffffff00000000, 0x100000000, 0x300000002, 0, 0) := by
      unfold zf_X11_side
      rw [jrun_u]
      simp only [zg_X11_side, ↓reduceIte]
      unfold zg_X11_side_0
      rw [show zf_X11_isCorner 4 3 = some true from rfl]
      simp only [Option.bind_some, Bool.true_eq_false, ↓reduceIte]
      rw [show zf_X11_isCorner 4 2 = some true from rfl]
      simp only [Option.bind_some, Bool.true_eq_false, ↓reduceIte]
      rw [if_neg (by decide), if_neg (by decide), if_neg (by decide), show zf_X11_cross 4 2 4 1 0 0xffffffff00000001ffffffff000000000000000000000000000000000000000000000000ffffffff00000000ffffffff0000000000000000000000000000000000000000000000000000000000000001ffffffff00000000ffffffff000000000000000000000000000000000000000000000000ffffffff00000000ffffffff00000000 0x100000000 0x300000002 0 0 3 2 = some (2, 4, 0, 0xffffffff00000001ffffffff000000000000000000000000000000000000000000000000ffffffff00000000ffffffff0000000000000000000000000000000000000000000000000000000000000001ffffffff00000000ffffffff000000000000000000000000000000000000000000000000ffffffff00000000ffffffff00000000, 0x100000000, 0x300000002, 0, 0) from rfl]
      simp only [Option.bind_some]
      rw [hi9]
      rfl
    exact ⟨_, _, hx, hy, rfl⟩
  · exact ⟨_, _, rfl, rfl, rfl⟩
