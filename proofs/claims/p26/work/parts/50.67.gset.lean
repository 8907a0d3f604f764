/-! the text of a cut: what has been read -/
def GS (c cut n : Int) : Prop := 4 ≤ c ∧ c ≤ 9 ∧ ∃ T : Nat, cut = (T : Int) ∧ T < 2 ^ lnN c.toNat ∧ good c.toNat T ∧ (pop T (lnN c.toNat) : Int) = n
def GX (c cut n i j k : Int) : Prop := 4 ≤ c ∧ c ≤ 9 ∧ 0 ≤ zget (pg3 c.toNat) (9 * i.toNat + j.toNat) ∧ ∃ T : Nat, cut = (T : Int) ∧ T < 2 ^ lnN c.toNat ∧ good c.toNat T ∧ (pop T (lnN c.toNat) : Int) = n ∧ T.testBit (zget (pg3 c.toNat) (9 * i.toNat + j.toNat)).toNat = false ∧ ∀ b : Nat, (b : Int) < k → T.testBit b = true → (crM c.toNat (zget (pg3 c.toNat) (9 * i.toNat + j.toNat)).toNat).testBit b = false
theorem pop_0 : ∀ k : Nat, pop 0 k = 0 := by
  intro k
  induction k with
  | zero => rfl
  | succ k ih => rw [pop_f (Nat.zero_testBit k), ih]
theorem GS_0 {c : Int} (h4 : 4 ≤ c) (h9 : c ≤ 9) : GS c 0 0 := ⟨h4, h9, 0, rfl, Nat.two_pow_pos _, (fun a b _ _ h => by rw [Nat.zero_testBit] at h; cases h), by rw [pop_0]; rfl⟩
theorem GS_cut {c cut n : Int} (h : GS c cut n) (hn : n = c - 3) : CU c cut := by
  obtain ⟨h4, h9, T, rfl, h1, h2, h3⟩ := h
  exact ⟨h4, h9, good_cut (by omega) (by omega) h1 h2 (by omega)⟩
theorem GS_n {c cut n : Int} (h : GS c cut n) : 0 ≤ n ∧ n ≤ 27 := by
  obtain ⟨h4, h9, T, rfl, h1, h2, h3⟩ := h
  have r7 := rpg7 (n := c.toNat) (by omega) (by omega)
  have : ∀ k : Nat, pop T k ≤ k := by
    intro k
    induction k with
    | zero => exact Nat.le_refl _
    | succ k ih =>
      cases e : T.testBit k with
      | true => rw [pop_t e]; omega
      | false => rw [pop_f e]; omega
  have := this (lnN c.toNat)
  unfold lnN at *
  omega
theorem lnN_e {c : Int} (h4 : 4 ≤ c) (h9 : c ≤ 9) : (lnN c.toNat : Int) = pg7 c.toNat := by
  have r7 := rpg7 (n := c.toNat) (by omega) (by omega)
  unfold lnN; omega
theorem pg3_lt_tab : ∀ m : Nat, 4 ≤ m → m ≤ 9 → allF (fun k => decide (zget (pg3 m) k < pg7 m)) 0 81 = true := pg_cases (by decide +kernel) (by decide +kernel) (by decide +kernel) (by decide +kernel) (by decide +kernel) (by decide +kernel)
theorem nf_at {c : Int} {nf : Nat} (h : LNk c nf) {i j : Int} (hi : 0 ≤ i) (hi' : i < c) (hj : 0 ≤ j) (hj' : j < c) (hn : ¬ i = j) : zget nf (Int.toNat ((10 : Int) * i + j)) = zget (pg3 c.toNat) (9 * i.toNat + j.toNat) := by
  have h4 := h.1
  have h9 := h.2.1
  rw [show Int.toNat ((10 : Int) * i + j) = 10 * i.toNat + j.toNat by omega]
  exact LN_get h.2.2 (by omega) (by omega) (by omega)
theorem GX_init {c cut n i j : Int} {nf : Nat} (h : GS c cut n) (hp : ¬ i = j ∧ 0 ≤ zget (pg3 c.toNat) (9 * i.toNat + j.toNat)) (hL : LNk c nf) (hi : 0 ≤ i) (hi' : i < c) (hj : 0 ≤ j) (hj' : j < c) (hb : ¬ zandL (zshrL cut (zget nf (Int.toNat ((10 : Int) * i + j)))) 1 = 1) : GX c cut n i j 0 := by
  obtain ⟨h4, h9, T, rfl, h1, h2, h3⟩ := h
  have l2 := lnN_2 (m := c.toNat) (by omega) (by omega)
  have r3 := rpg3 (n := c.toNat) (by omega) (by omega) (9 * i.toNat + j.toNat) (by omega)
  rw [nf_at hL hi hi' hj hj' hp.1, show zget (pg3 c.toNat) (9 * i.toNat + j.toNat) = (((zget (pg3 c.toNat) (9 * i.toNat + j.toNat)).toNat : Nat) : Int) by omega, bitL (by omega) (by omega)] at hb
  refine ⟨h4, h9, hp.2, T, rfl, h1, h2, h3, ?_, fun b hb => by omega⟩
  cases e : T.testBit (zget (pg3 c.toNat) (9 * i.toNat + j.toNat)).toNat with
  | false => rfl
  | true => rw [if_pos e] at hb; exact absurd rfl hb
theorem GX_skip {c cut n i j k ln : Int} {nf ls gr : Nat} (h : GX c cut n i j k) (hT : TL c ln nf ls gr) (h0 : 0 ≤ k) (hk : ¬ ln ≤ k) (hb : ¬ zandL (zshrL cut k) 1 = 1) : GX c cut n i j (k + (1 : Int)) := by
  obtain ⟨h4, h9, hp, T, rfl, h1, h2, h3, h5, h6⟩ := h
  have l2 := lnN_2 (m := c.toNat) (by omega) (by omega)
  have gn := TL_n hT
  refine ⟨h4, h9, hp, T, rfl, h1, h2, h3, h5, fun b hb' hbt => ?_⟩
  by_cases e : (b : Int) = k
  · subst e
    rw [bitL (by omega) (by omega), if_pos hbt] at hb
    exact absurd rfl hb
  · exact h6 b (by omega) hbt
noncomputable def crK (m i j k : Nat) : Bool := match decide (i < m ∧ j < m ∧ 0 ≤ zget (pg3 m) (9 * i + j) ∧ (k : Int) < pg7 m) with
  | false => true
  | true => match zf_X11_isCross (m : Int) (i : Int) (j : Int) (zget (pg1 m) k) (zget (pg2 m) k) with
    | none => false
    | some b => decide (b = (crM m (zget (pg3 m) (9 * i + j)).toNat).testBit k)
theorem cr_tab : ∀ m : Nat, 4 ≤ m → m ≤ 9 → allF (fun i => allF (fun j => allF (fun k => crK m i j k) 0 27) 0 9) 0 9 = true := pg_cases (by decide +kernel) (by decide +kernel) (by decide +kernel) (by decide +kernel) (by decide +kernel) (by decide +kernel)
theorem cr_ok {m i j k : Nat} (h4 : 4 ≤ m) (h9 : m ≤ 9) (hi : i < m) (hj : j < m) (hp : 0 ≤ zget (pg3 m) (9 * i + j)) (hk : (k : Int) < pg7 m) : zf_X11_isCross (m : Int) (i : Int) (j : Int) (zget (pg1 m) k) (zget (pg2 m) k) = some ((crM m (zget (pg3 m) (9 * i + j)).toNat).testBit k) := by
  have r7 := rpg7 h4 h9
  have t := allF_at (allF_at (allF_at (cr_tab m h4 h9) (m := i) (by omega)) (m := j) (by omega)) (m := k) (by omega)
  replace t : crK m i j k = true := t
  unfold crK at t
  rw [decide_eq_true ⟨hi, hj, hp, hk⟩] at t
  revert t
  simp only []
  cases zf_X11_isCross (m : Int) (i : Int) (j : Int) (zget (pg1 m) k) (zget (pg2 m) k) with
  | none => intro t; cases t
  | some b => intro t; rw [of_decide_eq_true t]
theorem GX_no {c cut n i j k ln : Int} {nf ls gr : Nat} {b : Bool} (h : GX c cut n i j k) (hT : TL c ln nf ls gr) (h0 : 0 ≤ k) (hk : ¬ ln ≤ k) (hi : 0 ≤ i) (hi' : i < c) (hj : 0 ≤ j) (hj' : j < c) (hz : zf_X11_isCross c i j (zget ls (Int.toNat k)) (zget gr (Int.toNat k)) = some b) (hb : b = false) : GX c cut n i j (k + (1 : Int)) := by
  obtain ⟨h4, h9, hp, T, rfl, h1, h2, h3, h5, h6⟩ := h
  have gn := hT.2.2.1
  subst hb
  have e := cr_ok (m := c.toNat) (i := i.toNat) (j := j.toNat) (k := k.toNat) (by omega) (by omega) (by omega) (by omega) hp (by omega)
  rw [show ((c.toNat : Nat) : Int) = c by omega, show ((i.toNat : Nat) : Int) = i by omega, show ((j.toNat : Nat) : Int) = j by omega, ← (hT.2.2.2.2 k.toNat (by omega)).1, ← (hT.2.2.2.2 k.toNat (by omega)).2, hz] at e
  refine ⟨h4, h9, hp, T, rfl, h1, h2, h3, h5, fun b hb' hbt => ?_⟩
  by_cases e' : (b : Int) = k
  · rw [show b = k.toNat by omega]; exact (Option.some.inj e).symm
  · exact h6 b (by omega) hbt
theorem GX_end {c cut n i j k ln : Int} {nf ls gr : Nat} (h : GX c cut n i j k) (hT : TL c ln nf ls gr) (hk : ln ≤ k) (hi : 0 ≤ i) (hi' : i < c) (hj : 0 ≤ j) (hj' : j < c) (hn : ¬ i = j) : GS c (zorL cut (zshlL (1 : Int) (zget nf (Int.toNat ((10 : Int) * i + j))))) (n + (1 : Int)) := by
  obtain ⟨h4, h9, hp, T, rfl, h1, h2, h3, h5, h6⟩ := h
  have gn := hT.2.2.1
  have l2 := lnN_2 (m := c.toNat) (by omega) (by omega)
  have le := lnN_e h4 h9
  have r3 := rpg3 (n := c.toNat) (by omega) (by omega) (9 * i.toNat + j.toNat) (by omega)
  have r7 := of_decide_eq_true (allF_at (pg3_lt_tab c.toNat (by omega) (by omega)) (m := 9 * i.toNat + j.toNat) (by omega))
  rw [nf_at (TL_ln hT) hi hi' hj hj' hn, show zget (pg3 c.toNat) (9 * i.toNat + j.toNat) = (((zget (pg3 c.toNat) (9 * i.toNat + j.toNat)).toNat : Nat) : Int) by omega, orL (by omega) (by omega)]
  refine ⟨h4, h9, _, rfl, ?_, ?_, ?_⟩
  · exact Nat.or_lt_two_pow h1 (Nat.pow_lt_pow_right (by decide) (by omega))
  · exact good_add (by omega) (by omega) h2 (by omega) (fun b hb hbt => h6 b (by omega) hbt)
  · rw [pop_add h5 _ (by omega)]; omega
