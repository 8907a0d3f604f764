theorem agL_set {A B p : Nat} {n v : Int} (h : ∀ k : Nat, (k : Int) < n → zgetL A k = zgetL B k) : ∀ k : Nat, (k : Int) < n → zgetL (zsetL A p v) k = zgetL (zsetL B p v) k := by
  intro k hk
  rw [zgetL_set, zgetL_set]
  by_cases e : k = p
  · rw [if_pos e, if_pos e]
  · rw [if_neg e, if_neg e]; exact h k hk
set_option maxRecDepth 20000 in
set_option maxHeartbeats 4000000 in
theorem so_34 {ln lf lc ln0 lf0 lc0 lm : Int} {nf ls gr nf0 ls0 gr0 : Nat} (i1 i2 i3 i5 : Int) (li li0 : Nat) (g0 : 0 ≤ i2) (hA : (∀ k : Nat, (k : Int) < lm → zgetL li k = zgetL li0 k)) (x0 : zO_X11_listFor ⊕ zS_X11_listFor) (h : zg_X11_listFor_34 i1 i2 i3 i5 ln0 lf0 lm lc0 nf0 ls0 gr0 li0 = some x0) : (∃ (l1 l2 : Nat), x0 = .inl (ln0, lf0, lm, lc0, nf0, ls0, gr0, l2) ∧ zg_X11_listFor_34 i1 i2 i3 i5 ln lf lm lc nf ls gr li = some (.inl (ln, lf, lm, lc, nf, ls, gr, l1)) ∧ (∀ k : Nat, (k : Int) < lm → zgetL l1 k = zgetL l2 k)) ∨ (∃ (lab : Nat) (j1 j2 j3 j5 : Int) (l1 l2 : Nat), x0 = .inr (lab, j1, j2, j3, j5, ln0, lf0, lm, lc0, nf0, ls0, gr0, l2) ∧ zg_X11_listFor_34 i1 i2 i3 i5 ln lf lm lc nf ls gr li = some (.inr (lab, j1, j2, j3, j5, ln, lf, lm, lc, nf, ls, gr, l1)) ∧ (∀ k : Nat, (k : Int) < lm → zgetL l1 k = zgetL l2 k) ∧ ((lab = 34 ∧ 0 ≤ j2) ∨ (lab = 52 ∧ (0 ≤ j5 ∧ j5 ≤ j2 ∧ j2 < lm)))) := by
  have h : Go (fun y => y = x0) (zg_X11_listFor_34 i1 i2 i3 i5 ln0 lf0 lm lc0 nf0 ls0 gr0 li0) := ⟨x0, h, rfl⟩
  unfold zg_X11_listFor_34 at h ⊢
  obtain ⟨c1, h⟩ := Go_n h
  rw [if_neg c1]
  obtain ⟨c2, h⟩ := Go_n h
  rw [if_neg c2]
  by_cases c3 : lm ≤ i2
  · have h := Go_t c3 h
    rw [if_pos c3]
    have h := Go_s h
    have h : _ = x0 := h
    subst h
    exact Or.inl ⟨_, _, rfl, rfl, hA⟩
  · have h := Go_f c3 h
    rw [if_neg c3]
    obtain ⟨c4, h⟩ := Go_n h
    rw [if_neg c4]
    rw [hA (Int.toNat i2) (by omega)]
    have h := Go_s h
    have h : _ = x0 := h
    subst h
    exact Or.inr ⟨_, _, _, _, _, _, _, rfl, rfl, hA, Or.inr ⟨rfl, by omega⟩⟩
set_option maxRecDepth 20000 in
set_option maxHeartbeats 4000000 in
theorem so_52 {ln lf lc ln0 lf0 lc0 lm : Int} {nf ls gr nf0 ls0 gr0 : Nat} (i1 i2 i3 i5 : Int) (li li0 : Nat) (g0 : 0 ≤ i5 ∧ i5 ≤ i2 ∧ i2 < lm) (hA : (∀ k : Nat, (k : Int) < lm → zgetL li k = zgetL li0 k)) (x0 : zO_X11_listFor ⊕ zS_X11_listFor) (h : zg_X11_listFor_52 i1 i2 i3 i5 ln0 lf0 lm lc0 nf0 ls0 gr0 li0 = some x0) : (∃ (l1 l2 : Nat), x0 = .inl (ln0, lf0, lm, lc0, nf0, ls0, gr0, l2) ∧ zg_X11_listFor_52 i1 i2 i3 i5 ln lf lm lc nf ls gr li = some (.inl (ln, lf, lm, lc, nf, ls, gr, l1)) ∧ (∀ k : Nat, (k : Int) < lm → zgetL l1 k = zgetL l2 k)) ∨ (∃ (lab : Nat) (j1 j2 j3 j5 : Int) (l1 l2 : Nat), x0 = .inr (lab, j1, j2, j3, j5, ln0, lf0, lm, lc0, nf0, ls0, gr0, l2) ∧ zg_X11_listFor_52 i1 i2 i3 i5 ln lf lm lc nf ls gr li = some (.inr (lab, j1, j2, j3, j5, ln, lf, lm, lc, nf, ls, gr, l1)) ∧ (∀ k : Nat, (k : Int) < lm → zgetL l1 k = zgetL l2 k) ∧ ((lab = 34 ∧ 0 ≤ j2) ∨ (lab = 52 ∧ (0 ≤ j5 ∧ j5 ≤ j2 ∧ j2 < lm)))) := by
  have h : Go (fun y => y = x0) (zg_X11_listFor_52 i1 i2 i3 i5 ln0 lf0 lm lc0 nf0 ls0 gr0 li0) := ⟨x0, h, rfl⟩
  unfold zg_X11_listFor_52 at h ⊢
  obtain ⟨c1, h⟩ := Go_n h
  rw [if_neg c1]
  by_cases c2 : i5 ≤ 0
  · have h := Go_t c2 h
    rw [if_pos c2]
    obtain ⟨c3, h⟩ := Go_n h
    rw [if_neg c3]
    have h := Go_s h
    have h : _ = x0 := h
    subst h
    exact Or.inr ⟨_, _, _, _, _, _, _, rfl, rfl, agL_set hA, Or.inl ⟨rfl, by omega⟩⟩
  · have h := Go_f c2 h
    rw [if_neg c2]
    obtain ⟨c4, h⟩ := Go_n h
    rw [if_neg c4]
    obtain ⟨c5, h⟩ := Go_n h
    rw [if_neg c5]
    rw [hA (Int.toNat (i5 - (1 : Int))) (by omega)]
    by_cases c6 : (zgetL li0 (Int.toNat (i5 - (1 : Int)))) ≤ i3
    · have h := Go_t c6 h
      rw [if_pos c6]
      obtain ⟨c7, h⟩ := Go_n h
      rw [if_neg c7]
      have h := Go_s h
      have h : _ = x0 := h
      subst h
      exact Or.inr ⟨_, _, _, _, _, _, _, rfl, rfl, agL_set hA, Or.inl ⟨rfl, by omega⟩⟩
    · have h := Go_f c6 h
      rw [if_neg c6]
      obtain ⟨c8, h⟩ := Go_n h
      rw [if_neg c8]
      have h := Go_s h
      have h : _ = x0 := h
      subst h
      exact Or.inr ⟨_, _, _, _, _, _, _, rfl, rfl, agL_set hA, Or.inr ⟨rfl, by omega⟩⟩
set_option maxRecDepth 20000 in
set_option maxHeartbeats 4000000 in
theorem so_run {ln lf lc ln0 lf0 lc0 lm : Int} {nf ls gr nf0 ls0 gr0 : Nat} : ∀ (n lab : Nat) (i1 i2 i3 i5 : Int) (li li0 : Nat) (o0 : zO_X11_listFor), ((lab = 34 ∧ 0 ≤ i2) ∨ (lab = 52 ∧ (0 ≤ i5 ∧ i5 ≤ i2 ∧ i2 < lm))) → (∀ k : Nat, (k : Int) < lm → zgetL li k = zgetL li0 k) → jrun zg_X11_listFor n (lab, i1, i2, i3, i5, ln0, lf0, lm, lc0, nf0, ls0, gr0, li0) = some o0 → ∃ l', jrun zg_X11_listFor n (lab, i1, i2, i3, i5, ln, lf, lm, lc, nf, ls, gr, li) = some (ln, lf, lm, lc, nf, ls, gr, l') ∧ (∀ k : Nat, (k : Int) < lm → zgetL l' k = zgetL o0.2.2.2.2.2.2.2 k) := by
  intro n
  induction n with
  | zero => intro lab i1 i2 i3 i5 li li0 o0 _ _ h; rw [jrun_0] at h; cases h
  | succ n ih =>
    intro lab i1 i2 i3 i5 li li0 o0 hR hA h
    rw [jrun_s] at h
    rcases hR with ⟨rfl, g0⟩ | ⟨rfl, g0⟩
    · cases hg : zg_X11_listFor (34, i1, i2, i3, i5, ln0, lf0, lm, lc0, nf0, ls0, gr0, li0) with
      | none => rw [hg] at h; cases h
      | some x0 =>
        rw [hg] at h
        rcases so_34 (ln := ln) (lf := lf) (lc := lc) (nf := nf) (ls := ls) (gr := gr) i1 i2 i3 i5 li li0 g0 hA x0 hg with ⟨l1, l2, e1, e2, e4⟩ | ⟨lab', j1, j2, j3, j5, l1, l2, e1, e2, e4, e5⟩
        · rw [e1] at h
          have h : some (ln0, lf0, lm, lc0, nf0, ls0, gr0, l2) = some o0 := h
          cases h
          have e2 : zg_X11_listFor (34, i1, i2, i3, i5, ln, lf, lm, lc, nf, ls, gr, li) = _ := e2
          exact ⟨l1, by rw [jrun_s, e2]; rfl, e4⟩
        · rw [e1] at h
          obtain ⟨l', f1, f3⟩ := ih lab' j1 j2 j3 j5 l1 l2 o0 e5 e4 h
          have e2 : zg_X11_listFor (34, i1, i2, i3, i5, ln, lf, lm, lc, nf, ls, gr, li) = _ := e2
          exact ⟨l', by rw [jrun_s, e2]; exact f1, f3⟩
    · cases hg : zg_X11_listFor (52, i1, i2, i3, i5, ln0, lf0, lm, lc0, nf0, ls0, gr0, li0) with
      | none => rw [hg] at h; cases h
      | some x0 =>
        rw [hg] at h
        rcases so_52 (ln := ln) (lf := lf) (lc := lc) (nf := nf) (ls := ls) (gr := gr) i1 i2 i3 i5 li li0 g0 hA x0 hg with ⟨l1, l2, e1, e2, e4⟩ | ⟨lab', j1, j2, j3, j5, l1, l2, e1, e2, e4, e5⟩
        · rw [e1] at h
          have h : some (ln0, lf0, lm, lc0, nf0, ls0, gr0, l2) = some o0 := h
          cases h
          have e2 : zg_X11_listFor (52, i1, i2, i3, i5, ln, lf, lm, lc, nf, ls, gr, li) = _ := e2
          exact ⟨l1, by rw [jrun_s, e2]; rfl, e4⟩
        · rw [e1] at h
          obtain ⟨l', f1, f3⟩ := ih lab' j1 j2 j3 j5 l1 l2 o0 e5 e4 h
          have e2 : zg_X11_listFor (52, i1, i2, i3, i5, ln, lf, lm, lc, nf, ls, gr, li) = _ := e2
          exact ⟨l', by rw [jrun_s, e2]; exact f1, f3⟩
