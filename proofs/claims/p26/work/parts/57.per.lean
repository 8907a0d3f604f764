/-! rows without an end: both sides hold the same array -/
theorem jrun_congr {S O : Type} {g g' : S → Option (O ⊕ S)} (Inv : S → Prop) (h : ∀ s, Inv s → g s = g' s) (hk : ∀ s s', Inv s → g s = some (.inr s') → Inv s') : ∀ (n : Nat) (s : S), Inv s → jrun g n s = jrun g' n s := by
  intro n
  induction n with
  | zero => intro s _; rfl
  | succ n ih =>
    intro s hs
    rw [jrun_s, jrun_s, ← h s hs]
    cases e : g s with
    | none => rfl
    | some r =>
      cases r with
      | inl o => rfl
      | inr s' => exact ih s' (hk s s' hs e)
theorem xor_pos {i s : Int} (hi : 0 ≤ i) (hi' : i ≤ 1000) (hs : 0 ≤ s) (hs' : s ≤ 1000) : 0 ≤ zxor i s := by
  unfold zxor
  have h1 : zu i < 2 ^ 10 := by unfold zu; omega
  have h2 : zu s < 2 ^ 10 := by unfold zu; omega
  have h := Nat.xor_lt_two_pow h1 h2
  unfold zs
  rw [if_pos (by omega)]
  omega
theorem wrap_e {s i : Int} (s1 : 1 ≤ s) (s10 : s ≤ 10) (i0 : 0 ≤ i) (i9 : i ≤ 1000) : zf_X2_wrapped s i = some (Int.tmod i s) := by
  unfold zf_X2_wrapped
  rw [if_neg (by unfold zout; omega), if_neg (by omega)]
  unfold zf_J9_floorMod_7cf53
  rw [if_neg (by unfold zout; omega), if_neg (by unfold zout; omega), if_neg (by omega), if_pos (xor_pos i0 i9 (by omega) (by omega))]
  rfl
theorem wrap_m {s : Int} (s1 : 2 ≤ s) (s10 : s ≤ 10) : zf_X2_wrapped s (-1) = some (s - 1) := by
  obtain ⟨o, ho, -, -, -, -, h⟩ := ok_X2_wrapped s (-1) (by omega) s10 (by decide) (by decide)
  rw [ho, h rfl]
theorem at_e {s i : Int} {P : Nat} (s1 : 1 ≤ s) (s10 : s ≤ 10) (i0 : 0 ≤ i) (i9 : i ≤ 1000) : zf_X2_at s P i = some (zget P (Int.toNat (Int.tmod i s))) := by
  have r := rtmod i0 (show 0 < s by omega)
  unfold zf_X2_at
  rw [wrap_e s1 s10 i0 i9]
  simp only [Option.bind_some]
  rw [if_neg (by omega)]
theorem in_e {v a b : Int} (hv : ¬ zout v) (ha : ¬ zout a) (hb : ¬ zout b) : zf_X11_in v a b = some (decide (a ≤ v ∧ v ≤ b)) := by
  unfold zf_X11_in
  rw [if_neg hv, if_neg ha]
  by_cases c : v < a
  · rw [if_pos c, decide_eq_false (by omega)]
  · rw [if_neg c, if_neg hb]
    by_cases d : b < v
    · rw [if_pos d, decide_eq_false (by omega)]
    · rw [if_neg d, decide_eq_true (by omega)]
theorem place_e {s i : Int} (hs : ¬ zout s) (hi : ¬ zout i) : zf_X2_hasPlace s i = some (decide (0 ≤ i ∧ i ≤ s - 1)) := by
  unfold zf_X2_hasPlace
  rw [if_neg hi]
  by_cases c : i < 0
  · rw [if_pos c, decide_eq_false (by omega)]
  · rw [if_neg c, if_neg hs]
    by_cases d : s ≤ i
    · rw [if_pos d, decide_eq_false (by omega)]
    · rw [if_neg d, decide_eq_true (by omega)]
/-- of -/
theorem eq_of (mk : Nat) {s i : Int} {P : Nat} (s1 : 1 ≤ s) (s10 : s ≤ 10) (hi : ¬ zout i) : zf_X10_of mk s P i = zf_X11_of s P i := by
  unfold zf_X10_of zf_X11_of
  rw [place_e (by unfold zout; omega) hi, in_e hi (by decide) (by unfold zout; omega)]
  simp only [Option.bind_some]
  by_cases c : 0 ≤ i ∧ i ≤ s - 1
  · rw [decide_eq_true c, if_neg (by decide), if_neg (by decide), at_e s1 s10 (by omega) (by omega), if_neg (by omega), Int.tmod_eq_of_lt (by omega) (by omega)]
    rfl
  · rw [decide_eq_false c, if_pos rfl, if_pos rfl]
/-- entries along a row -/
theorem eq_ent {s : Int} {P : Nat} (s1 : 1 ≤ s) (s10 : s ≤ 10) (hP : ∀ k : Nat, k < 10 → 0 ≤ zget P k ∧ zget P k ≤ 20) {i len : Int} (i0 : 0 ≤ i) (i9 : i ≤ 100) (l0 : 0 ≤ len) (l9 : len ≤ 12) : zf_X2_entryAt s P i len = zf_X11_alongOf s P i len := by
  unfold zf_X2_entryAt zf_X11_alongOf
  refine jrun_congr (fun (st : zS_X2_entryAt) => match st with | (lab, a, l, i3, i5, i7) => a = i ∧ l = len ∧ (lab = 0 ∨ (lab = 14 ∧ 1 ≤ i7 ∧ i7 ≤ 100 ∧ 0 < l))) ?_ ?_ jfuel _ ⟨rfl, rfl, Or.inl rfl⟩
  · intro st h
    obtain ⟨lab, a, l, i3, i5, i7⟩ := st
    obtain ⟨rfl, rfl, h⟩ := h
    rcases h with rfl | ⟨rfl, h1, h2, h3⟩
    · show zg_X2_entryAt_0 s P a l i3 i5 i7 = zg_X11_alongOf_0 s P a l i3 i5 i7
      unfold zg_X2_entryAt_0 zg_X11_alongOf_0
      have zl : ¬ zout l := by unfold zout; omega
      rw [if_neg zl, if_neg zl]
      by_cases c : l = 0
      · rw [if_neg (by omega), if_pos c]
      · rw [if_pos (by omega), if_neg c]
    · show zg_X2_entryAt_14 s P a l i3 i5 i7 = zg_X11_alongOf_14 s P a l i3 i5 i7
      unfold zg_X2_entryAt_14 zg_X11_alongOf_14
      have r := rtmod (show 0 ≤ a + i7 by omega) (show 0 < s by omega)
      have hp := hP (Int.toNat (Int.tmod (a + i7) s)) (by omega)
      rw [if_neg (by unfold zout; omega), if_neg (by unfold zout; omega), if_neg (show ¬ zout i7 by unfold zout; omega), if_neg (show ¬ zout l by unfold zout; omega)]
      by_cases c : l ≤ i7
      · rw [if_pos c, if_pos c]
      · rw [if_neg c, if_neg (by omega), if_neg c, at_e s1 s10 (by omega) (by omega), if_neg (by unfold zout; omega), if_neg (by unfold zout; omega), if_neg (by omega), if_neg (by omega)]
        simp only [Option.bind_some]
        rw [if_neg (by unfold zout; omega)]
  · intro st st' h e
    obtain ⟨lab, a, l, i3, i5, i7⟩ := st
    obtain ⟨rfl, rfl, h⟩ := h
    rcases h with rfl | ⟨rfl, h1, h2, h3⟩
    · replace e : zg_X2_entryAt_0 s P a l i3 i5 i7 = some (.inr st') := e
      unfold zg_X2_entryAt_0 at e
      rw [if_neg (by unfold zout; omega)] at e
      by_cases c : 0 < l
      · rw [if_pos c] at e
        cases e
        exact ⟨rfl, rfl, Or.inr ⟨rfl, by show (1 : Int) ≤ 1; decide, by show (1 : Int) ≤ 100; decide, c⟩⟩
      · rw [if_neg c] at e
        cases e
    · replace e : zg_X2_entryAt_14 s P a l i3 i5 i7 = some (.inr st') := e
      unfold zg_X2_entryAt_14 at e
      have r := rtmod (show 0 ≤ a + i7 by omega) (show 0 < s by omega)
      have hp := hP (Int.toNat (Int.tmod (a + i7) s)) (by omega)
      rw [if_neg (show ¬ zout i7 by unfold zout; omega), if_neg (show ¬ zout l by unfold zout; omega)] at e
      by_cases c : l ≤ i7
      · rw [if_pos c] at e
        cases e
      · rw [if_neg c, if_neg (by omega), at_e s1 s10 (by omega) (by omega)] at e
        simp only [Option.bind_some] at e
        rw [if_neg (by unfold zout; omega)] at e
        cases e
        exact ⟨rfl, rfl, Or.inr ⟨rfl, by show 1 ≤ i7 + 1; omega, by show i7 + 1 ≤ 100; omega, h3⟩⟩
/-- along -/
theorem eq_along (mk : Nat) {s i len : Int} {P : Nat} (s1 : 1 ≤ s) (s10 : s ≤ 10) (hP : ∀ k : Nat, k < 10 → 0 ≤ zget P k ∧ zget P k ≤ 20) (hi : ¬ zout i) (hl : ¬ zout len) : zf_X10_along mk s P i len = zf_X11_along s P i len := by
  unfold zf_X10_along zf_X11_along
  rw [place_e (by unfold zout; omega) hi, in_e hi (by decide) (by unfold zout; omega), in_e hl (by decide) (by decide)]
  simp only [Option.bind_some]
  by_cases c : 0 ≤ i ∧ i ≤ s - 1
  · rw [decide_eq_true c, if_neg (show ¬ true = false by decide), if_neg (show ¬ true = false by decide), if_neg hl]
    by_cases d : 0 ≤ len ∧ len ≤ 12
    · rw [decide_eq_true d, if_neg (by omega), if_pos (by omega), if_neg (by decide), eq_ent s1 s10 hP (by omega) (by omega) (by omega) (by omega)]
    · rw [decide_eq_false d, if_pos rfl]
      by_cases e : len < 0
      · rw [if_pos e]
      · rw [if_neg e, if_neg (by omega)]
  · rw [decide_eq_false c, if_pos rfl, if_pos rfl]
theorem ent0 (s : Int) (P : Nat) (i : Int) : zf_X2_entryAt s P i 0 = some 0 := jrun_le (n := 1) rfl (by decide)
theorem aln0 (s : Int) (P : Nat) (i : Int) : zf_X11_alongOf s P i 0 = some 0 := jrun_le (n := 1) rfl (by decide)
/-- growth -/
theorem eq_growth (mk : Nat) {s : Int} {P : Nat} (s1 : 1 ≤ s) (s10 : s ≤ 10) (hP : ∀ k : Nat, k < 10 → 0 ≤ zget P k ∧ zget P k ≤ 20) (hP' : ∀ k : Nat, k < 11 → 0 ≤ zget P k ∧ zget P k ≤ 20) : zf_X10_growth mk s P = zf_X11_growth s P := by
  unfold zf_X10_growth zf_X11_growth zf_X2_growthOfRound
  rw [eq_ent s1 s10 hP (Int.le_refl 0) (by decide) (by omega) (by omega)]
  obtain ⟨o, ho, -⟩ := ok_X11_alongOf s P 0 (s + 1) s1 s10 hP' (Int.le_refl 0) (by decide) (by omega) (by omega)
  rw [ho]
  simp only [Option.bind_some]
  rw [if_neg (by unfold zout; omega), if_neg (by omega)]
  by_cases c : s = 1
  · subst c
    rw [show (1 : Int) - 1 = 0 by decide, show Int.tmod 1 1 = 0 by decide, ent0, aln0]
    rfl
  · rw [Int.tmod_eq_of_lt (by decide) (by omega), eq_ent s1 s10 hP (by decide) (by decide) (by omega) (by omega)]
    cases zf_X11_alongOf s P 1 (s - 1) <;> rfl
