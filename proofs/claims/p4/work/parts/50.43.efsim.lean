theorem ag_push {A B : Nat} {i v : Int} (h : ∀ k : Nat, (k : Int) < i → zget A k = zget B k) (h0 : 0 ≤ i) : ∀ k : Nat, (k : Int) < i + 1 → zget (zset A (Int.toNat i) v) k = zget (zset B (Int.toNat i) v) k := by
  intro k hk
  rw [zget_set, zget_set]
  by_cases e : k = Int.toNat i
  · rw [if_pos e, if_pos e]
  · rw [if_neg e, if_neg e]; exact h k (by omega)
theorem ag_set {A B p : Nat} {n v : Int} (h : ∀ k : Nat, (k : Int) < n → zget A k = zget B k) : ∀ k : Nat, (k : Int) < n → zget (zset A p v) k = zget (zset B p v) k := by
  intro k hk
  rw [zget_set, zget_set]
  by_cases e : k = p
  · rw [if_pos e, if_pos e]
  · rw [if_neg e, if_neg e]; exact h k hk
set_option maxRecDepth 20000 in
set_option maxHeartbeats 4000000 in
theorem ef_s9 {m : Nat} (h4 : 4 ≤ m) (h9 : m ≤ 9) {ln lf ln0 lf0 : Int} {nf ls gr tA tB tC nf0 ls0 gr0 tA0 tB0 tC0 : Nat} (hN : LN m nf m 0) (hN0 : LN m nf0 m 0) (hT : ∀ t : Nat, (t : Int) < (m : Int) - 2 → zget tA t = zget tA0 t ∧ zget tB t = zget tB0 t ∧ zget tC t = zget tC0 t) (hV : ∀ t : Nat, (t : Int) < (m : Int) - 2 → (0 ≤ zget tA0 t ∧ zget tA0 t < (m : Int)) ∧ (0 ≤ zget tB0 t ∧ zget tB0 t < (m : Int)) ∧ (0 ≤ zget tC0 t ∧ zget tC0 t < (m : Int))) (i2 i4 i5 i6 : Int) (fr fr0 : Nat) (h0 : 0 ≤ i5) (h1 : i5 ≤ (m : Int)) (h2 : 0 ≤ i4) (h3 : i4 < (m : Int)) (hA : (∀ k : Nat, (k : Int) < i5 → zget fr k = zget fr0 k)) (x0 : zO_X11_entriesFrom ⊕ zS_X11_entriesFrom) (h : zg_X11_entriesFrom_9 (m : Int) i2 i4 i5 i6 ln0 lf0 nf0 ls0 gr0 tA0 tB0 tC0 fr0 = some x0) : ∃ (lab : Nat) (j2 j4 j5 j6 : Int) (fr1 fr2 : Nat), x0 = .inr (lab, (m : Int), j2, j4, j5, j6, ln0, lf0, nf0, ls0, gr0, tA0, tB0, tC0, fr2) ∧ zg_X11_entriesFrom_9 (m : Int) i2 i4 i5 i6 ln lf nf ls gr tA tB tC fr = some (.inr (lab, (m : Int), j2, j4, j5, j6, ln, lf, nf, ls, gr, tA, tB, tC, fr1)) ∧ ((lab = 9 ∧ (0 ≤ j5 ∧ j5 ≤ (m : Int) ∧ 0 ≤ j4 ∧ j4 < (m : Int)) ∧ (∀ k : Nat, (k : Int) < j5 → zget fr1 k = zget fr2 k)) ∨ (lab = 60 ∧ (∀ k : Nat, (k : Int) < (m : Int) → zget fr1 k = zget fr2 k)) ∨ (lab = 71 ∧ 0 ≤ j6 ∧ (∀ k : Nat, (k : Int) < (m : Int) → zget fr1 k = zget fr2 k))) := by
  have h : Go (fun y => y = x0) (zg_X11_entriesFrom_9 (m : Int) i2 i4 i5 i6 ln0 lf0 nf0 ls0 gr0 tA0 tB0 tC0 fr0) := ⟨x0, h, rfl⟩
  unfold zg_X11_entriesFrom_9 at h ⊢
  obtain ⟨c1, h⟩ := Go_n h
  rw [if_neg c1]
  obtain ⟨c2, h⟩ := Go_n h
  rw [if_neg c2]
  by_cases c3 : (m : Int) ≤ i5
  · have h := Go_t c3 h
    rw [if_pos c3]
    have h := Go_s h
    have h : _ = x0 := h
    subst h
    exact ⟨_, _, _, _, _, _, _, rfl, rfl, Or.inr (Or.inl ⟨rfl, fun k hk => hA k (by omega)⟩)⟩
  · have h := Go_f c3 h
    rw [if_neg c3]
    obtain ⟨c4, h⟩ := Go_n h
    rw [if_neg c4]
    by_cases c5 : i5 = i4
    · have h := Go_t c5 h
      rw [if_pos c5]
      obtain ⟨c6, h⟩ := Go_n h
      rw [if_neg c6]
      have h := Go_s h
      have h : _ = x0 := h
      subst h
      exact ⟨_, _, _, _, _, _, _, rfl, rfl, Or.inl ⟨rfl, ⟨by omega, by omega, by omega, by omega⟩, ag_push hA (by omega)⟩⟩
    · have h := Go_f c5 h
      rw [if_neg c5]
      obtain ⟨o5, e7, h⟩ := Go_b h
      rw [near_eq h4 h9 hN0 i2 (by omega) (by omega) (by omega) (by omega)] at e7
      have e7 : nearB m i2 i4.toNat i5.toNat = o5 := Option.some.inj e7
      rw [near_eq h4 h9 hN i2 (by omega) (by omega) (by omega) (by omega), e7]
      simp only [Option.bind_some]
      by_cases c8 : o5 = false
      · have h := Go_t c8 h
        rw [if_pos c8]
        obtain ⟨c9, h⟩ := Go_n h
        rw [if_neg c9]
        have h := Go_s h
        have h : _ = x0 := h
        subst h
        exact ⟨_, _, _, _, _, _, _, rfl, rfl, Or.inl ⟨rfl, ⟨by omega, by omega, by omega, by omega⟩, ag_push hA (by omega)⟩⟩
      · have h := Go_f c8 h
        rw [if_neg c8]
        obtain ⟨c10, h⟩ := Go_n h
        rw [if_neg c10]
        have h := Go_s h
        have h : _ = x0 := h
        subst h
        exact ⟨_, _, _, _, _, _, _, rfl, rfl, Or.inl ⟨rfl, ⟨by omega, by omega, by omega, by omega⟩, ag_push hA (by omega)⟩⟩
set_option maxRecDepth 20000 in
set_option maxHeartbeats 4000000 in
theorem ef_s71 {m : Nat} (h4 : 4 ≤ m) (h9 : m ≤ 9) {ln lf ln0 lf0 : Int} {nf ls gr tA tB tC nf0 ls0 gr0 tA0 tB0 tC0 : Nat} (hN : LN m nf m 0) (hN0 : LN m nf0 m 0) (hT : ∀ t : Nat, (t : Int) < (m : Int) - 2 → zget tA t = zget tA0 t ∧ zget tB t = zget tB0 t ∧ zget tC t = zget tC0 t) (hV : ∀ t : Nat, (t : Int) < (m : Int) - 2 → (0 ≤ zget tA0 t ∧ zget tA0 t < (m : Int)) ∧ (0 ≤ zget tB0 t ∧ zget tB0 t < (m : Int)) ∧ (0 ≤ zget tC0 t ∧ zget tC0 t < (m : Int))) (i2 i4 i5 i6 : Int) (fr fr0 : Nat) (h0 : 0 ≤ i6) (hA : (∀ k : Nat, (k : Int) < (m : Int) → zget fr k = zget fr0 k)) (x0 : zO_X11_entriesFrom ⊕ zS_X11_entriesFrom) (h : zg_X11_entriesFrom_71 (m : Int) i2 i4 i5 i6 ln0 lf0 nf0 ls0 gr0 tA0 tB0 tC0 fr0 = some x0) : ∃ (lab : Nat) (j2 j4 j5 j6 : Int) (fr1 fr2 : Nat), x0 = .inr (lab, (m : Int), j2, j4, j5, j6, ln0, lf0, nf0, ls0, gr0, tA0, tB0, tC0, fr2) ∧ zg_X11_entriesFrom_71 (m : Int) i2 i4 i5 i6 ln lf nf ls gr tA tB tC fr = some (.inr (lab, (m : Int), j2, j4, j5, j6, ln, lf, nf, ls, gr, tA, tB, tC, fr1)) ∧ ((lab = 9 ∧ (0 ≤ j5 ∧ j5 ≤ (m : Int) ∧ 0 ≤ j4 ∧ j4 < (m : Int)) ∧ (∀ k : Nat, (k : Int) < j5 → zget fr1 k = zget fr2 k)) ∨ (lab = 60 ∧ (∀ k : Nat, (k : Int) < (m : Int) → zget fr1 k = zget fr2 k)) ∨ (lab = 71 ∧ 0 ≤ j6 ∧ (∀ k : Nat, (k : Int) < (m : Int) → zget fr1 k = zget fr2 k))) := by
  have h : Go (fun y => y = x0) (zg_X11_entriesFrom_71 (m : Int) i2 i4 i5 i6 ln0 lf0 nf0 ls0 gr0 tA0 tB0 tC0 fr0) := ⟨x0, h, rfl⟩
  unfold zg_X11_entriesFrom_71 at h ⊢
  obtain ⟨g1, h⟩ := Go_n h
  obtain ⟨g2, h⟩ := Go_n h
  rw [if_neg g1, if_neg g2]
  by_cases g3 : ((m : Int) - (2 : Int)) ≤ i6
  · have h := Go_t g3 h
    rw [if_pos g3]
    have h := Go_s h
    have h : _ = x0 := h
    subst h
    exact ⟨_, _, _, _, _, _, _, rfl, rfl, Or.inr (Or.inl ⟨rfl, hA⟩)⟩
  · have h := Go_f g3 h
    rw [if_neg g3]
    obtain ⟨t1, t2, t3⟩ := hT (Int.toNat i6) (by omega)
    obtain ⟨w1, w2, w3⟩ := hV (Int.toNat i6) (by omega)
    rw [t1, t2, t3, hA (Int.toNat (zget tA0 (Int.toNat i6))) (by omega), hA (Int.toNat (zget tB0 (Int.toNat i6))) (by omega), hA (Int.toNat (zget tC0 (Int.toNat i6))) (by omega)]
    obtain ⟨c1, h⟩ := Go_n h
    rw [if_neg c1]
    obtain ⟨c2, h⟩ := Go_n h
    rw [if_neg c2]
    by_cases c3 : 0 ≤ (zget fr0 (Int.toNat (zget tA0 (Int.toNat i6))))
    · have h := Go_t c3 h
      rw [if_pos c3]
      obtain ⟨c4, h⟩ := Go_n h
      rw [if_neg c4]
      by_cases c5 : 0 ≤ (zget fr0 (Int.toNat (zget tB0 (Int.toNat i6))))
      · have h := Go_t c5 h
        rw [if_pos c5]
        obtain ⟨c6, h⟩ := Go_n h
        rw [if_neg c6]
        by_cases c7 : 0 ≤ (zget fr0 (Int.toNat (zget tC0 (Int.toNat i6))))
        · have h := Go_t c7 h
          rw [if_pos c7]
          obtain ⟨c8, h⟩ := Go_n h
          rw [if_neg c8]
          have c9 : ¬ ((((0 : Int) + (0 : Int)) + (0 : Int)) = (1 : Int)) := by decide
          have h := Go_f c9 h
          rw [if_neg c9]
          have h := Go_s h
          have h : _ = x0 := h
          subst h
          exact ⟨_, _, _, _, _, _, _, rfl, rfl, Or.inr (Or.inr ⟨rfl, by omega, hA⟩)⟩
        · have h := Go_f c7 h
          rw [if_neg c7]
          obtain ⟨c10, h⟩ := Go_n h
          rw [if_neg c10]
          have c11 : ((((0 : Int) + (0 : Int)) + (1 : Int)) = (1 : Int)) := by decide
          have h := Go_t c11 h
          rw [if_pos c11]
          have h := Go_t c3 h
          rw [if_pos c3]
          have h := Go_t c5 h
          rw [if_pos c5]
          have h := Go_s h
          have h : _ = x0 := h
          subst h
          exact ⟨_, _, _, _, _, _, _, rfl, rfl, Or.inr (Or.inr ⟨rfl, by omega, ag_set hA⟩)⟩
      · have h := Go_f c5 h
        rw [if_neg c5]
        obtain ⟨c12, h⟩ := Go_n h
        rw [if_neg c12]
        by_cases c13 : 0 ≤ (zget fr0 (Int.toNat (zget tC0 (Int.toNat i6))))
        · have h := Go_t c13 h
          rw [if_pos c13]
          obtain ⟨c14, h⟩ := Go_n h
          rw [if_neg c14]
          have c15 : ((((0 : Int) + (1 : Int)) + (0 : Int)) = (1 : Int)) := by decide
          have h := Go_t c15 h
          rw [if_pos c15]
          have h := Go_t c3 h
          rw [if_pos c3]
          have h := Go_f c5 h
          rw [if_neg c5]
          have h := Go_s h
          have h : _ = x0 := h
          subst h
          exact ⟨_, _, _, _, _, _, _, rfl, rfl, Or.inr (Or.inr ⟨rfl, by omega, ag_set hA⟩)⟩
        · have h := Go_f c13 h
          rw [if_neg c13]
          obtain ⟨c16, h⟩ := Go_n h
          rw [if_neg c16]
          have c17 : ¬ ((((0 : Int) + (1 : Int)) + (1 : Int)) = (1 : Int)) := by decide
          have h := Go_f c17 h
          rw [if_neg c17]
          have h := Go_s h
          have h : _ = x0 := h
          subst h
          exact ⟨_, _, _, _, _, _, _, rfl, rfl, Or.inr (Or.inr ⟨rfl, by omega, hA⟩)⟩
    · have h := Go_f c3 h
      rw [if_neg c3]
      obtain ⟨c18, h⟩ := Go_n h
      rw [if_neg c18]
      by_cases c19 : 0 ≤ (zget fr0 (Int.toNat (zget tB0 (Int.toNat i6))))
      · have h := Go_t c19 h
        rw [if_pos c19]
        obtain ⟨c20, h⟩ := Go_n h
        rw [if_neg c20]
        by_cases c21 : 0 ≤ (zget fr0 (Int.toNat (zget tC0 (Int.toNat i6))))
        · have h := Go_t c21 h
          rw [if_pos c21]
          obtain ⟨c22, h⟩ := Go_n h
          rw [if_neg c22]
          have c23 : ((((1 : Int) + (0 : Int)) + (0 : Int)) = (1 : Int)) := by decide
          have h := Go_t c23 h
          rw [if_pos c23]
          have h := Go_f c3 h
          rw [if_neg c3]
          have h := Go_s h
          have h : _ = x0 := h
          subst h
          exact ⟨_, _, _, _, _, _, _, rfl, rfl, Or.inr (Or.inr ⟨rfl, by omega, ag_set hA⟩)⟩
        · have h := Go_f c21 h
          rw [if_neg c21]
          obtain ⟨c24, h⟩ := Go_n h
          rw [if_neg c24]
          have c25 : ¬ ((((1 : Int) + (0 : Int)) + (1 : Int)) = (1 : Int)) := by decide
          have h := Go_f c25 h
          rw [if_neg c25]
          have h := Go_s h
          have h : _ = x0 := h
          subst h
          exact ⟨_, _, _, _, _, _, _, rfl, rfl, Or.inr (Or.inr ⟨rfl, by omega, hA⟩)⟩
      · have h := Go_f c19 h
        rw [if_neg c19]
        obtain ⟨c26, h⟩ := Go_n h
        rw [if_neg c26]
        by_cases c27 : 0 ≤ (zget fr0 (Int.toNat (zget tC0 (Int.toNat i6))))
        · have h := Go_t c27 h
          rw [if_pos c27]
          obtain ⟨c28, h⟩ := Go_n h
          rw [if_neg c28]
          have c29 : ¬ ((((1 : Int) + (1 : Int)) + (0 : Int)) = (1 : Int)) := by decide
          have h := Go_f c29 h
          rw [if_neg c29]
          have h := Go_s h
          have h : _ = x0 := h
          subst h
          exact ⟨_, _, _, _, _, _, _, rfl, rfl, Or.inr (Or.inr ⟨rfl, by omega, hA⟩)⟩
        · have h := Go_f c27 h
          rw [if_neg c27]
          obtain ⟨c30, h⟩ := Go_n h
          rw [if_neg c30]
          have c31 : ¬ ((((1 : Int) + (1 : Int)) + (1 : Int)) = (1 : Int)) := by decide
          have h := Go_f c31 h
          rw [if_neg c31]
          have h := Go_s h
          have h : _ = x0 := h
          subst h
          exact ⟨_, _, _, _, _, _, _, rfl, rfl, Or.inr (Or.inr ⟨rfl, by omega, hA⟩)⟩
