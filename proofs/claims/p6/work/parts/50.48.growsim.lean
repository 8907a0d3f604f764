theorem agL_push {A B : Nat} {i v : Int} (h : ∀ k : Nat, (k : Int) < i → zgetL A k = zgetL B k) (h0 : 0 ≤ i) : ∀ k : Nat, (k : Int) < i + 1 → zgetL (zsetL A (Int.toNat i) v) k = zgetL (zsetL B (Int.toNat i) v) k := by
  intro k hk
  rw [zgetL_set, zgetL_set]
  by_cases e : k = Int.toNat i
  · rw [if_pos e, if_pos e]
  · rw [if_neg e, if_neg e]; exact h k (by omega)
set_option maxRecDepth 20000 in
set_option maxHeartbeats 4000000 in
theorem gs_0 (rec : Int → Int → Nat → Nat → Nat → Int → Int → Int → Int → Option (Int × Nat)) {ln : Int} {ls gr ls0 gr0 : Nat} (hL : ∀ t : Nat, (t : Int) < ln → zget ls t = zget ls0 t ∧ zget gr t = zget gr0 t) (hrec : ∀ (lm : Int) (li li0 : Nat) (a b c e : Int) (lm' : Int) (l0' : Nat), rec ln lm ls0 gr0 li0 a b c e = some (lm', l0') → 0 ≤ lm → 0 ≤ e → (∀ k : Nat, (k : Int) < lm → zgetL li k = zgetL li0 k) → ∃ l', rec ln lm ls gr li a b c e = some (lm', l') ∧ lm ≤ lm' ∧ (∀ k : Nat, (k : Int) < lm' → zgetL l' k = zgetL l0' k)) (i1 i2 i4 i5 i6 i7 i8 lm : Int) (li li0 : Nat) (g0 : 0 ≤ i5) (hm : 0 ≤ lm) (hA : (∀ k : Nat, (k : Int) < lm → zgetL li k = zgetL li0 k)) (x0 : zO_X11_grow ⊕ zS_X11_grow) (h : zg_X11_grow_0 rec ln ls0 gr0 i1 i2 i4 i5 i6 i7 i8 lm li0 = some x0) : (∃ (m1 : Int) (l1 l2 : Nat), x0 = .inl (m1, l2) ∧ zg_X11_grow_0 rec ln ls gr i1 i2 i4 i5 i6 i7 i8 lm li = some (.inl (m1, l1)) ∧ lm ≤ m1 ∧ (∀ k : Nat, (k : Int) < m1 → zgetL l1 k = zgetL l2 k)) ∨ (∃ (lab : Nat) (j1 j2 j4 j5 j6 j7 j8 m1 : Int) (l1 l2 : Nat), x0 = .inr (lab, j1, j2, j4, j5, j6, j7, j8, m1, l2) ∧ zg_X11_grow_0 rec ln ls gr i1 i2 i4 i5 i6 i7 i8 lm li = some (.inr (lab, j1, j2, j4, j5, j6, j7, j8, m1, l1)) ∧ lm ≤ m1 ∧ (∀ k : Nat, (k : Int) < m1 → zgetL l1 k = zgetL l2 k) ∧ ((lab = 0 ∧ 0 ≤ j5) ∨ (lab = 33 ∧ 0 ≤ j6) ∨ (lab = 48 ∧ (0 ≤ j6 ∧ j6 < ln) ∧ 0 ≤ j8) ∨ (lab = 119 ∧ 0 ≤ j6))) := by
  have h : Go (fun y => y = x0) (zg_X11_grow_0 rec ln ls0 gr0 i1 i2 i4 i5 i6 i7 i8 lm li0) := ⟨x0, h, rfl⟩
  unfold zg_X11_grow_0 at h ⊢
  obtain ⟨c1, h⟩ := Go_n h
  rw [if_neg c1]
  obtain ⟨c2, h⟩ := Go_n h
  rw [if_neg c2]
  by_cases c3 : i4 = (i1 - (3 : Int))
  · have h := Go_t c3 h
    rw [if_pos c3]
    obtain ⟨c4, h⟩ := Go_n h
    rw [if_neg c4]
    have h := Go_s h
    have h : _ = x0 := h
    subst h
    exact Or.inl ⟨_, _, _, rfl, rfl, by omega, agL_push hA hm⟩
  · have h := Go_f c3 h
    rw [if_neg c3]
    have h := Go_s h
    have h : _ = x0 := h
    subst h
    exact Or.inr ⟨_, _, _, _, _, _, _, _, _, _, _, rfl, rfl, by omega, hA, Or.inr (Or.inl ⟨rfl, by omega⟩)⟩
set_option maxRecDepth 20000 in
set_option maxHeartbeats 4000000 in
theorem gs_33 (rec : Int → Int → Nat → Nat → Nat → Int → Int → Int → Int → Option (Int × Nat)) {ln : Int} {ls gr ls0 gr0 : Nat} (hL : ∀ t : Nat, (t : Int) < ln → zget ls t = zget ls0 t ∧ zget gr t = zget gr0 t) (hrec : ∀ (lm : Int) (li li0 : Nat) (a b c e : Int) (lm' : Int) (l0' : Nat), rec ln lm ls0 gr0 li0 a b c e = some (lm', l0') → 0 ≤ lm → 0 ≤ e → (∀ k : Nat, (k : Int) < lm → zgetL li k = zgetL li0 k) → ∃ l', rec ln lm ls gr li a b c e = some (lm', l') ∧ lm ≤ lm' ∧ (∀ k : Nat, (k : Int) < lm' → zgetL l' k = zgetL l0' k)) (i1 i2 i4 i5 i6 i7 i8 lm : Int) (li li0 : Nat) (g0 : 0 ≤ i6) (hm : 0 ≤ lm) (hA : (∀ k : Nat, (k : Int) < lm → zgetL li k = zgetL li0 k)) (x0 : zO_X11_grow ⊕ zS_X11_grow) (h : zg_X11_grow_33 rec ln ls0 gr0 i1 i2 i4 i5 i6 i7 i8 lm li0 = some x0) : (∃ (m1 : Int) (l1 l2 : Nat), x0 = .inl (m1, l2) ∧ zg_X11_grow_33 rec ln ls gr i1 i2 i4 i5 i6 i7 i8 lm li = some (.inl (m1, l1)) ∧ lm ≤ m1 ∧ (∀ k : Nat, (k : Int) < m1 → zgetL l1 k = zgetL l2 k)) ∨ (∃ (lab : Nat) (j1 j2 j4 j5 j6 j7 j8 m1 : Int) (l1 l2 : Nat), x0 = .inr (lab, j1, j2, j4, j5, j6, j7, j8, m1, l2) ∧ zg_X11_grow_33 rec ln ls gr i1 i2 i4 i5 i6 i7 i8 lm li = some (.inr (lab, j1, j2, j4, j5, j6, j7, j8, m1, l1)) ∧ lm ≤ m1 ∧ (∀ k : Nat, (k : Int) < m1 → zgetL l1 k = zgetL l2 k) ∧ ((lab = 0 ∧ 0 ≤ j5) ∨ (lab = 33 ∧ 0 ≤ j6) ∨ (lab = 48 ∧ (0 ≤ j6 ∧ j6 < ln) ∧ 0 ≤ j8) ∨ (lab = 119 ∧ 0 ≤ j6))) := by
  have h : Go (fun y => y = x0) (zg_X11_grow_33 rec ln ls0 gr0 i1 i2 i4 i5 i6 i7 i8 lm li0) := ⟨x0, h, rfl⟩
  unfold zg_X11_grow_33 at h ⊢
  obtain ⟨c1, h⟩ := Go_n h
  rw [if_neg c1]
  obtain ⟨c2, h⟩ := Go_n h
  rw [if_neg c2]
  by_cases c3 : ln ≤ i6
  · have h := Go_t c3 h
    rw [if_pos c3]
    have h := Go_s h
    have h : _ = x0 := h
    subst h
    exact Or.inl ⟨_, _, _, rfl, rfl, by omega, hA⟩
  · have h := Go_f c3 h
    rw [if_neg c3]
    have h := Go_s h
    have h : _ = x0 := h
    subst h
    exact Or.inr ⟨_, _, _, _, _, _, _, _, _, _, _, rfl, rfl, by omega, hA, Or.inr (Or.inr (Or.inl ⟨rfl, by omega, by omega⟩))⟩
set_option maxRecDepth 20000 in
set_option maxHeartbeats 4000000 in
theorem gs_48 (rec : Int → Int → Nat → Nat → Nat → Int → Int → Int → Int → Option (Int × Nat)) {ln : Int} {ls gr ls0 gr0 : Nat} (hL : ∀ t : Nat, (t : Int) < ln → zget ls t = zget ls0 t ∧ zget gr t = zget gr0 t) (hrec : ∀ (lm : Int) (li li0 : Nat) (a b c e : Int) (lm' : Int) (l0' : Nat), rec ln lm ls0 gr0 li0 a b c e = some (lm', l0') → 0 ≤ lm → 0 ≤ e → (∀ k : Nat, (k : Int) < lm → zgetL li k = zgetL li0 k) → ∃ l', rec ln lm ls gr li a b c e = some (lm', l') ∧ lm ≤ lm' ∧ (∀ k : Nat, (k : Int) < lm' → zgetL l' k = zgetL l0' k)) (i1 i2 i4 i5 i6 i7 i8 lm : Int) (li li0 : Nat) (g0 : 0 ≤ i6 ∧ i6 < ln) (g1 : 0 ≤ i8) (hm : 0 ≤ lm) (hA : (∀ k : Nat, (k : Int) < lm → zgetL li k = zgetL li0 k)) (x0 : zO_X11_grow ⊕ zS_X11_grow) (h : zg_X11_grow_48 rec ln ls0 gr0 i1 i2 i4 i5 i6 i7 i8 lm li0 = some x0) : (∃ (m1 : Int) (l1 l2 : Nat), x0 = .inl (m1, l2) ∧ zg_X11_grow_48 rec ln ls gr i1 i2 i4 i5 i6 i7 i8 lm li = some (.inl (m1, l1)) ∧ lm ≤ m1 ∧ (∀ k : Nat, (k : Int) < m1 → zgetL l1 k = zgetL l2 k)) ∨ (∃ (lab : Nat) (j1 j2 j4 j5 j6 j7 j8 m1 : Int) (l1 l2 : Nat), x0 = .inr (lab, j1, j2, j4, j5, j6, j7, j8, m1, l2) ∧ zg_X11_grow_48 rec ln ls gr i1 i2 i4 i5 i6 i7 i8 lm li = some (.inr (lab, j1, j2, j4, j5, j6, j7, j8, m1, l1)) ∧ lm ≤ m1 ∧ (∀ k : Nat, (k : Int) < m1 → zgetL l1 k = zgetL l2 k) ∧ ((lab = 0 ∧ 0 ≤ j5) ∨ (lab = 33 ∧ 0 ≤ j6) ∨ (lab = 48 ∧ (0 ≤ j6 ∧ j6 < ln) ∧ 0 ≤ j8) ∨ (lab = 119 ∧ 0 ≤ j6))) := by
  have h : Go (fun y => y = x0) (zg_X11_grow_48 rec ln ls0 gr0 i1 i2 i4 i5 i6 i7 i8 lm li0) := ⟨x0, h, rfl⟩
  unfold zg_X11_grow_48 at h ⊢
  obtain ⟨c1, h⟩ := Go_n h
  rw [if_neg c1]
  obtain ⟨c2, h⟩ := Go_n h
  rw [if_neg c2]
  by_cases c3 : i6 ≤ i8
  · have h := Go_t c3 h
    rw [if_pos c3]
    have h := Go_s h
    have h : _ = x0 := h
    subst h
    exact Or.inr ⟨_, _, _, _, _, _, _, _, _, _, _, rfl, rfl, by omega, hA, Or.inr (Or.inr (Or.inr ⟨rfl, by omega⟩))⟩
  · have h := Go_f c3 h
    rw [if_neg c3]
    obtain ⟨c4, h⟩ := Go_n h
    rw [if_neg c4]
    by_cases c5 : i7 = 0
    · have h := Go_t c5 h
      rw [if_pos c5]
      have h := Go_s h
      have h : _ = x0 := h
      subst h
      exact Or.inr ⟨_, _, _, _, _, _, _, _, _, _, _, rfl, rfl, by omega, hA, Or.inr (Or.inr (Or.inr ⟨rfl, by omega⟩))⟩
    · have h := Go_f c5 h
      rw [if_neg c5]
      by_cases c6 : (zandL (zshrL i2 i8) (1 : Int)) = (0 : Int)
      · have h := Go_t c6 h
        rw [if_pos c6]
        have h := Go_s h
        have h : _ = x0 := h
        subst h
        exact Or.inr ⟨_, _, _, _, _, _, _, _, _, _, _, rfl, rfl, by omega, hA, Or.inr (Or.inr (Or.inl ⟨rfl, by omega, by omega⟩))⟩
      · have h := Go_f c6 h
        rw [if_neg c6]
        obtain ⟨c7, h⟩ := Go_n h
        rw [if_neg c7]
        obtain ⟨c8, h⟩ := Go_n h
        rw [if_neg c8]
        obtain ⟨t1, t2⟩ := hL (Int.toNat i6) (by omega)
        obtain ⟨t3, t4⟩ := hL (Int.toNat i8) (by omega)
        obtain ⟨o13, e9, h⟩ := Go_b h
        rw [t1, t2, t3, t4, e9]
        simp only [Option.bind_some]
        by_cases c10 : o13 = false
        · have h := Go_t c10 h
          rw [if_pos c10]
          have h := Go_s h
          have h : _ = x0 := h
          subst h
          exact Or.inr ⟨_, _, _, _, _, _, _, _, _, _, _, rfl, rfl, by omega, hA, Or.inr (Or.inr (Or.inl ⟨rfl, by omega, by omega⟩))⟩
        · have h := Go_f c10 h
          rw [if_neg c10]
          have h := Go_s h
          have h : _ = x0 := h
          subst h
          exact Or.inr ⟨_, _, _, _, _, _, _, _, _, _, _, rfl, rfl, by omega, hA, Or.inr (Or.inr (Or.inl ⟨rfl, by omega, by omega⟩))⟩
set_option maxRecDepth 20000 in
set_option maxHeartbeats 4000000 in
theorem gs_119 (rec : Int → Int → Nat → Nat → Nat → Int → Int → Int → Int → Option (Int × Nat)) {ln : Int} {ls gr ls0 gr0 : Nat} (hL : ∀ t : Nat, (t : Int) < ln → zget ls t = zget ls0 t ∧ zget gr t = zget gr0 t) (hrec : ∀ (lm : Int) (li li0 : Nat) (a b c e : Int) (lm' : Int) (l0' : Nat), rec ln lm ls0 gr0 li0 a b c e = some (lm', l0') → 0 ≤ lm → 0 ≤ e → (∀ k : Nat, (k : Int) < lm → zgetL li k = zgetL li0 k) → ∃ l', rec ln lm ls gr li a b c e = some (lm', l') ∧ lm ≤ lm' ∧ (∀ k : Nat, (k : Int) < lm' → zgetL l' k = zgetL l0' k)) (i1 i2 i4 i5 i6 i7 i8 lm : Int) (li li0 : Nat) (g0 : 0 ≤ i6) (hm : 0 ≤ lm) (hA : (∀ k : Nat, (k : Int) < lm → zgetL li k = zgetL li0 k)) (x0 : zO_X11_grow ⊕ zS_X11_grow) (h : zg_X11_grow_119 rec ln ls0 gr0 i1 i2 i4 i5 i6 i7 i8 lm li0 = some x0) : (∃ (m1 : Int) (l1 l2 : Nat), x0 = .inl (m1, l2) ∧ zg_X11_grow_119 rec ln ls gr i1 i2 i4 i5 i6 i7 i8 lm li = some (.inl (m1, l1)) ∧ lm ≤ m1 ∧ (∀ k : Nat, (k : Int) < m1 → zgetL l1 k = zgetL l2 k)) ∨ (∃ (lab : Nat) (j1 j2 j4 j5 j6 j7 j8 m1 : Int) (l1 l2 : Nat), x0 = .inr (lab, j1, j2, j4, j5, j6, j7, j8, m1, l2) ∧ zg_X11_grow_119 rec ln ls gr i1 i2 i4 i5 i6 i7 i8 lm li = some (.inr (lab, j1, j2, j4, j5, j6, j7, j8, m1, l1)) ∧ lm ≤ m1 ∧ (∀ k : Nat, (k : Int) < m1 → zgetL l1 k = zgetL l2 k) ∧ ((lab = 0 ∧ 0 ≤ j5) ∨ (lab = 33 ∧ 0 ≤ j6) ∨ (lab = 48 ∧ (0 ≤ j6 ∧ j6 < ln) ∧ 0 ≤ j8) ∨ (lab = 119 ∧ 0 ≤ j6))) := by
  have h : Go (fun y => y = x0) (zg_X11_grow_119 rec ln ls0 gr0 i1 i2 i4 i5 i6 i7 i8 lm li0) := ⟨x0, h, rfl⟩
  unfold zg_X11_grow_119 at h ⊢
  obtain ⟨c1, h⟩ := Go_n h
  rw [if_neg c1]
  by_cases c2 : i7 = 0
  · have h := Go_t c2 h
    rw [if_pos c2]
    have h := Go_s h
    have h : _ = x0 := h
    subst h
    exact Or.inr ⟨_, _, _, _, _, _, _, _, _, _, _, rfl, rfl, by omega, hA, Or.inr (Or.inl ⟨rfl, by omega⟩)⟩
  · have h := Go_f c2 h
    rw [if_neg c2]
    obtain ⟨⟨lm9, l9⟩, e3, h⟩ := Go_b h
    obtain ⟨l8, r1, r2, r3⟩ := hrec _ li li0 _ _ _ _ _ _ e3 hm (by omega) hA
    rw [r1]
    simp only [Option.bind_some]
    have h := Go_s h
    have h : _ = x0 := h
    subst h
    exact Or.inr ⟨_, _, _, _, _, _, _, _, _, _, _, rfl, rfl, r2, r3, Or.inr (Or.inl ⟨rfl, by omega⟩)⟩
set_option maxRecDepth 20000 in
set_option maxHeartbeats 4000000 in
theorem gs_run (rec : Int → Int → Nat → Nat → Nat → Int → Int → Int → Int → Option (Int × Nat)) {ln : Int} {ls gr ls0 gr0 : Nat} (hL : ∀ t : Nat, (t : Int) < ln → zget ls t = zget ls0 t ∧ zget gr t = zget gr0 t) (hrec : ∀ (lm : Int) (li li0 : Nat) (a b c e : Int) (lm' : Int) (l0' : Nat), rec ln lm ls0 gr0 li0 a b c e = some (lm', l0') → 0 ≤ lm → 0 ≤ e → (∀ k : Nat, (k : Int) < lm → zgetL li k = zgetL li0 k) → ∃ l', rec ln lm ls gr li a b c e = some (lm', l') ∧ lm ≤ lm' ∧ (∀ k : Nat, (k : Int) < lm' → zgetL l' k = zgetL l0' k)) : ∀ (n lab : Nat) (i1 i2 i4 i5 i6 i7 i8 lm : Int) (li li0 : Nat) (lm' : Int) (l0' : Nat), ((lab = 0 ∧ 0 ≤ i5) ∨ (lab = 33 ∧ 0 ≤ i6) ∨ (lab = 48 ∧ (0 ≤ i6 ∧ i6 < ln) ∧ 0 ≤ i8) ∨ (lab = 119 ∧ 0 ≤ i6)) → 0 ≤ lm → (∀ k : Nat, (k : Int) < lm → zgetL li k = zgetL li0 k) → jrun (zg_X11_grow rec ln ls0 gr0) n (lab, i1, i2, i4, i5, i6, i7, i8, lm, li0) = some (lm', l0') → ∃ l', jrun (zg_X11_grow rec ln ls gr) n (lab, i1, i2, i4, i5, i6, i7, i8, lm, li) = some (lm', l') ∧ lm ≤ lm' ∧ (∀ k : Nat, (k : Int) < lm' → zgetL l' k = zgetL l0' k) := by
  intro n
  induction n with
  | zero => intro lab i1 i2 i4 i5 i6 i7 i8 lm li li0 lm' l0' _ _ _ h; rw [jrun_0] at h; cases h
  | succ n ih =>
    intro lab i1 i2 i4 i5 i6 i7 i8 lm li li0 lm' l0' hR hm hA h
    rw [jrun_s] at h
    rcases hR with ⟨rfl, g0⟩ | ⟨rfl, g0⟩ | ⟨rfl, g0, g1⟩ | ⟨rfl, g0⟩
    · cases hg : zg_X11_grow rec ln ls0 gr0 (0, i1, i2, i4, i5, i6, i7, i8, lm, li0) with
      | none => rw [hg] at h; cases h
      | some x0 =>
        rw [hg] at h
        rcases gs_0 rec hL hrec i1 i2 i4 i5 i6 i7 i8 lm li li0 g0 hm hA x0 hg with ⟨m1, l1, l2, e1, e2, e3, e4⟩ | ⟨lab', j1, j2, j4, j5, j6, j7, j8, m1, l1, l2, e1, e2, e3, e4, e5⟩
        · rw [e1] at h
          have h : some (m1, l2) = some (lm', l0') := h
          cases h
          have e2 : zg_X11_grow rec ln ls gr (0, i1, i2, i4, i5, i6, i7, i8, lm, li) = _ := e2
          exact ⟨l1, by rw [jrun_s, e2]; rfl, e3, e4⟩
        · rw [e1] at h
          obtain ⟨l', f1, f2, f3⟩ := ih lab' j1 j2 j4 j5 j6 j7 j8 m1 l1 l2 lm' l0' e5 (by omega) e4 h
          have e2 : zg_X11_grow rec ln ls gr (0, i1, i2, i4, i5, i6, i7, i8, lm, li) = _ := e2
          exact ⟨l', by rw [jrun_s, e2]; exact f1, by omega, f3⟩
    · cases hg : zg_X11_grow rec ln ls0 gr0 (33, i1, i2, i4, i5, i6, i7, i8, lm, li0) with
      | none => rw [hg] at h; cases h
      | some x0 =>
        rw [hg] at h
        rcases gs_33 rec hL hrec i1 i2 i4 i5 i6 i7 i8 lm li li0 g0 hm hA x0 hg with ⟨m1, l1, l2, e1, e2, e3, e4⟩ | ⟨lab', j1, j2, j4, j5, j6, j7, j8, m1, l1, l2, e1, e2, e3, e4, e5⟩
        · rw [e1] at h
          have h : some (m1, l2) = some (lm', l0') := h
          cases h
          have e2 : zg_X11_grow rec ln ls gr (33, i1, i2, i4, i5, i6, i7, i8, lm, li) = _ := e2
          exact ⟨l1, by rw [jrun_s, e2]; rfl, e3, e4⟩
        · rw [e1] at h
          obtain ⟨l', f1, f2, f3⟩ := ih lab' j1 j2 j4 j5 j6 j7 j8 m1 l1 l2 lm' l0' e5 (by omega) e4 h
          have e2 : zg_X11_grow rec ln ls gr (33, i1, i2, i4, i5, i6, i7, i8, lm, li) = _ := e2
          exact ⟨l', by rw [jrun_s, e2]; exact f1, by omega, f3⟩
    · cases hg : zg_X11_grow rec ln ls0 gr0 (48, i1, i2, i4, i5, i6, i7, i8, lm, li0) with
      | none => rw [hg] at h; cases h
      | some x0 =>
        rw [hg] at h
        rcases gs_48 rec hL hrec i1 i2 i4 i5 i6 i7 i8 lm li li0 g0 g1 hm hA x0 hg with ⟨m1, l1, l2, e1, e2, e3, e4⟩ | ⟨lab', j1, j2, j4, j5, j6, j7, j8, m1, l1, l2, e1, e2, e3, e4, e5⟩
        · rw [e1] at h
          have h : some (m1, l2) = some (lm', l0') := h
          cases h
          have e2 : zg_X11_grow rec ln ls gr (48, i1, i2, i4, i5, i6, i7, i8, lm, li) = _ := e2
          exact ⟨l1, by rw [jrun_s, e2]; rfl, e3, e4⟩
        · rw [e1] at h
          obtain ⟨l', f1, f2, f3⟩ := ih lab' j1 j2 j4 j5 j6 j7 j8 m1 l1 l2 lm' l0' e5 (by omega) e4 h
          have e2 : zg_X11_grow rec ln ls gr (48, i1, i2, i4, i5, i6, i7, i8, lm, li) = _ := e2
          exact ⟨l', by rw [jrun_s, e2]; exact f1, by omega, f3⟩
    · cases hg : zg_X11_grow rec ln ls0 gr0 (119, i1, i2, i4, i5, i6, i7, i8, lm, li0) with
      | none => rw [hg] at h; cases h
      | some x0 =>
        rw [hg] at h
        rcases gs_119 rec hL hrec i1 i2 i4 i5 i6 i7 i8 lm li li0 g0 hm hA x0 hg with ⟨m1, l1, l2, e1, e2, e3, e4⟩ | ⟨lab', j1, j2, j4, j5, j6, j7, j8, m1, l1, l2, e1, e2, e3, e4, e5⟩
        · rw [e1] at h
          have h : some (m1, l2) = some (lm', l0') := h
          cases h
          have e2 : zg_X11_grow rec ln ls gr (119, i1, i2, i4, i5, i6, i7, i8, lm, li) = _ := e2
          exact ⟨l1, by rw [jrun_s, e2]; rfl, e3, e4⟩
        · rw [e1] at h
          obtain ⟨l', f1, f2, f3⟩ := ih lab' j1 j2 j4 j5 j6 j7 j8 m1 l1 l2 lm' l0' e5 (by omega) e4 h
          have e2 : zg_X11_grow rec ln ls gr (119, i1, i2, i4, i5, i6, i7, i8, lm, li) = _ := e2
          exact ⟨l', by rw [jrun_s, e2]; exact f1, by omega, f3⟩
theorem grow_sim {ln : Int} {ls gr ls0 gr0 : Nat} (hL : ∀ t : Nat, (t : Int) < ln → zget ls t = zget ls0 t ∧ zget gr t = zget gr0 t) : ∀ d : Nat, ∀ (lm : Int) (li li0 : Nat) (a b c e : Int) (lm' : Int) (l0' : Nat), zf_X11_grow d ln lm ls0 gr0 li0 a b c e = some (lm', l0') → 0 ≤ lm → 0 ≤ e → (∀ k : Nat, (k : Int) < lm → zgetL li k = zgetL li0 k) → ∃ l', zf_X11_grow d ln lm ls gr li a b c e = some (lm', l') ∧ lm ≤ lm' ∧ (∀ k : Nat, (k : Int) < lm' → zgetL l' k = zgetL l0' k) := by
  intro d
  induction d with
  | zero => intro lm li li0 a b c e lm' l0' h _ _ _; have h : (none : Option (Int × Nat)) = some (lm', l0') := h; cases h
  | succ d ih => intro lm li li0 a b c e lm' l0' h hm he hA; exact gs_run (zf_X11_grow d) hL ih jfuel 0 a b c e 0 0 0 lm li li0 lm' l0' (Or.inl ⟨rfl, he⟩) hm hA h
