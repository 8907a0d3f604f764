theorem tk4 (k : Nat) (hk : k < 2) : (trK 4 (zget (pg6 4) k) (sl (trA 4) k) (sl (trB 4) k) (sl (trC 4) k) 729).1 = true := by
  by_cases h0 : k < 2
  · have q := allF_ok _ tk4_0 (k - 0) (by omega)
    rw [show 0 + (k - 0) = k by omega] at q
    exact q
  omega
theorem ek4 (k : Nat) (hk : k < 2) : allF (fun i => entK 4 k i) 0 4 = true := by
  by_cases h0 : k < 2
  · have q := allF_ok _ ek4_0 (k - 0) (by omega)
    rw [show 0 + (k - 0) = k by omega] at q
    exact q
  omega
theorem tk5 (k : Nat) (hk : k < 5) : (trK 5 (zget (pg6 5) k) (sl (trA 5) k) (sl (trB 5) k) (sl (trC 5) k) 729).1 = true := by
  by_cases h0 : k < 5
  · have q := allF_ok _ tk5_0 (k - 0) (by omega)
    rw [show 0 + (k - 0) = k by omega] at q
    exact q
  omega
theorem ek5 (k : Nat) (hk : k < 5) : allF (fun i => entK 5 k i) 0 5 = true := by
  by_cases h0 : k < 5
  · have q := allF_ok _ ek5_0 (k - 0) (by omega)
    rw [show 0 + (k - 0) = k by omega] at q
    exact q
  omega
theorem tk6 (k : Nat) (hk : k < 14) : (trK 6 (zget (pg6 6) k) (sl (trA 6) k) (sl (trB 6) k) (sl (trC 6) k) 729).1 = true := by
  by_cases h0 : k < 14
  · have q := allF_ok _ tk6_0 (k - 0) (by omega)
    rw [show 0 + (k - 0) = k by omega] at q
    exact q
  omega
theorem ek6 (k : Nat) (hk : k < 14) : allF (fun i => entK 6 k i) 0 6 = true := by
  by_cases h0 : k < 14
  · have q := allF_ok _ ek6_0 (k - 0) (by omega)
    rw [show 0 + (k - 0) = k by omega] at q
    exact q
  omega
theorem tk7 (k : Nat) (hk : k < 42) : (trK 7 (zget (pg6 7) k) (sl (trA 7) k) (sl (trB 7) k) (sl (trC 7) k) 729).1 = true := by
  by_cases h0 : k < 42
  · have q := allF_ok _ tk7_0 (k - 0) (by omega)
    rw [show 0 + (k - 0) = k by omega] at q
    exact q
  omega
theorem ek7 (k : Nat) (hk : k < 42) : allF (fun i => entK 7 k i) 0 7 = true := by
  by_cases h0 : k < 42
  · have q := allF_ok _ ek7_0 (k - 0) (by omega)
    rw [show 0 + (k - 0) = k by omega] at q
    exact q
  omega
theorem tk8 (k : Nat) (hk : k < 132) : (trK 8 (zget (pg6 8) k) (sl (trA 8) k) (sl (trB 8) k) (sl (trC 8) k) 729).1 = true := by
  by_cases h0 : k < 60
  · have q := allF_ok _ tk8_0 (k - 0) (by omega)
    rw [show 0 + (k - 0) = k by omega] at q
    exact q
  by_cases h1 : k < 120
  · have q := allF_ok _ tk8_1 (k - 60) (by omega)
    rw [show 60 + (k - 60) = k by omega] at q
    exact q
  by_cases h2 : k < 132
  · have q := allF_ok _ tk8_2 (k - 120) (by omega)
    rw [show 120 + (k - 120) = k by omega] at q
    exact q
  omega
theorem ek8 (k : Nat) (hk : k < 132) : allF (fun i => entK 8 k i) 0 8 = true := by
  by_cases h0 : k < 60
  · have q := allF_ok _ ek8_0 (k - 0) (by omega)
    rw [show 0 + (k - 0) = k by omega] at q
    exact q
  by_cases h1 : k < 120
  · have q := allF_ok _ ek8_1 (k - 60) (by omega)
    rw [show 60 + (k - 60) = k by omega] at q
    exact q
  by_cases h2 : k < 132
  · have q := allF_ok _ ek8_2 (k - 120) (by omega)
    rw [show 120 + (k - 120) = k by omega] at q
    exact q
  omega
theorem tk9 (k : Nat) (hk : k < 429) : (trK 9 (zget (pg6 9) k) (sl (trA 9) k) (sl (trB 9) k) (sl (trC 9) k) 729).1 = true := by
  by_cases h0 : k < 30
  · have q := allF_ok _ tk9_0 (k - 0) (by omega)
    rw [show 0 + (k - 0) = k by omega] at q
    exact q
  by_cases h1 : k < 60
  · have q := allF_ok _ tk9_1 (k - 30) (by omega)
    rw [show 30 + (k - 30) = k by omega] at q
    exact q
  by_cases h2 : k < 90
  · have q := allF_ok _ tk9_2 (k - 60) (by omega)
    rw [show 60 + (k - 60) = k by omega] at q
    exact q
  by_cases h3 : k < 120
  · have q := allF_ok _ tk9_3 (k - 90) (by omega)
    rw [show 90 + (k - 90) = k by omega] at q
    exact q
  by_cases h4 : k < 150
  · have q := allF_ok _ tk9_4 (k - 120) (by omega)
    rw [show 120 + (k - 120) = k by omega] at q
    exact q
  by_cases h5 : k < 180
  · have q := allF_ok _ tk9_5 (k - 150) (by omega)
    rw [show 150 + (k - 150) = k by omega] at q
    exact q
  by_cases h6 : k < 210
  · have q := allF_ok _ tk9_6 (k - 180) (by omega)
    rw [show 180 + (k - 180) = k by omega] at q
    exact q
  by_cases h7 : k < 240
  · have q := allF_ok _ tk9_7 (k - 210) (by omega)
    rw [show 210 + (k - 210) = k by omega] at q
    exact q
  by_cases h8 : k < 270
  · have q := allF_ok _ tk9_8 (k - 240) (by omega)
    rw [show 240 + (k - 240) = k by omega] at q
    exact q
  by_cases h9 : k < 300
  · have q := allF_ok _ tk9_9 (k - 270) (by omega)
    rw [show 270 + (k - 270) = k by omega] at q
    exact q
  by_cases h10 : k < 330
  · have q := allF_ok _ tk9_10 (k - 300) (by omega)
    rw [show 300 + (k - 300) = k by omega] at q
    exact q
  by_cases h11 : k < 360
  · have q := allF_ok _ tk9_11 (k - 330) (by omega)
    rw [show 330 + (k - 330) = k by omega] at q
    exact q
  by_cases h12 : k < 390
  · have q := allF_ok _ tk9_12 (k - 360) (by omega)
    rw [show 360 + (k - 360) = k by omega] at q
    exact q
  by_cases h13 : k < 420
  · have q := allF_ok _ tk9_13 (k - 390) (by omega)
    rw [show 390 + (k - 390) = k by omega] at q
    exact q
  by_cases h14 : k < 429
  · have q := allF_ok _ tk9_14 (k - 420) (by omega)
    rw [show 420 + (k - 420) = k by omega] at q
    exact q
  omega
theorem ek9 (k : Nat) (hk : k < 429) : allF (fun i => entK 9 k i) 0 9 = true := by
  by_cases h0 : k < 30
  · have q := allF_ok _ ek9_0 (k - 0) (by omega)
    rw [show 0 + (k - 0) = k by omega] at q
    exact q
  by_cases h1 : k < 60
  · have q := allF_ok _ ek9_1 (k - 30) (by omega)
    rw [show 30 + (k - 30) = k by omega] at q
    exact q
  by_cases h2 : k < 90
  · have q := allF_ok _ ek9_2 (k - 60) (by omega)
    rw [show 60 + (k - 60) = k by omega] at q
    exact q
  by_cases h3 : k < 120
  · have q := allF_ok _ ek9_3 (k - 90) (by omega)
    rw [show 90 + (k - 90) = k by omega] at q
    exact q
  by_cases h4 : k < 150
  · have q := allF_ok _ ek9_4 (k - 120) (by omega)
    rw [show 120 + (k - 120) = k by omega] at q
    exact q
  by_cases h5 : k < 180
  · have q := allF_ok _ ek9_5 (k - 150) (by omega)
    rw [show 150 + (k - 150) = k by omega] at q
    exact q
  by_cases h6 : k < 210
  · have q := allF_ok _ ek9_6 (k - 180) (by omega)
    rw [show 180 + (k - 180) = k by omega] at q
    exact q
  by_cases h7 : k < 240
  · have q := allF_ok _ ek9_7 (k - 210) (by omega)
    rw [show 210 + (k - 210) = k by omega] at q
    exact q
  by_cases h8 : k < 270
  · have q := allF_ok _ ek9_8 (k - 240) (by omega)
    rw [show 240 + (k - 240) = k by omega] at q
    exact q
  by_cases h9 : k < 300
  · have q := allF_ok _ ek9_9 (k - 270) (by omega)
    rw [show 270 + (k - 270) = k by omega] at q
    exact q
  by_cases h10 : k < 330
  · have q := allF_ok _ ek9_10 (k - 300) (by omega)
    rw [show 300 + (k - 300) = k by omega] at q
    exact q
  by_cases h11 : k < 360
  · have q := allF_ok _ ek9_11 (k - 330) (by omega)
    rw [show 330 + (k - 330) = k by omega] at q
    exact q
  by_cases h12 : k < 390
  · have q := allF_ok _ ek9_12 (k - 360) (by omega)
    rw [show 360 + (k - 360) = k by omega] at q
    exact q
  by_cases h13 : k < 420
  · have q := allF_ok _ ek9_13 (k - 390) (by omega)
    rw [show 390 + (k - 390) = k by omega] at q
    exact q
  by_cases h14 : k < 429
  · have q := allF_ok _ ek9_14 (k - 420) (by omega)
    rw [show 420 + (k - 420) = k by omega] at q
    exact q
  omega
theorem tk_all (m k : Nat) (h4 : 4 ≤ m) (h9 : m ≤ 9) (hk : (k : Int) < pg8 m) : (trK m (zget (pg6 m) k) (sl (trA m) k) (sl (trB m) k) (sl (trC m) k) 729).1 = true := by
  have h : m = 4 ∨ m = 5 ∨ m = 6 ∨ m = 7 ∨ m = 8 ∨ m = 9 := by omega
  rcases h with rfl | rfl | rfl | rfl | rfl | rfl
  · exact tk4 k (by rw [show pg8 4 = 2 by decide] at hk; omega)
  · exact tk5 k (by rw [show pg8 5 = 5 by decide] at hk; omega)
  · exact tk6 k (by rw [show pg8 6 = 14 by decide] at hk; omega)
  · exact tk7 k (by rw [show pg8 7 = 42 by decide] at hk; omega)
  · exact tk8 k (by rw [show pg8 8 = 132 by decide] at hk; omega)
  · exact tk9 k (by rw [show pg8 9 = 429 by decide] at hk; omega)
theorem ek_all (m k : Nat) (h4 : 4 ≤ m) (h9 : m ≤ 9) (hk : (k : Int) < pg8 m) : allF (fun i => entK m k i) 0 m = true := by
  have h : m = 4 ∨ m = 5 ∨ m = 6 ∨ m = 7 ∨ m = 8 ∨ m = 9 := by omega
  rcases h with rfl | rfl | rfl | rfl | rfl | rfl
  · exact ek4 k (by rw [show pg8 4 = 2 by decide] at hk; omega)
  · exact ek5 k (by rw [show pg8 5 = 5 by decide] at hk; omega)
  · exact ek6 k (by rw [show pg8 6 = 14 by decide] at hk; omega)
  · exact ek7 k (by rw [show pg8 7 = 42 by decide] at hk; omega)
  · exact ek8 k (by rw [show pg8 8 = 132 by decide] at hk; omega)
  · exact ek9 k (by rw [show pg8 9 = 429 by decide] at hk; omega)
theorem jstep_r {S O : Type} (f : S → Option O) (t : S) : jstep f (some (.inr t)) = f t := rfl
theorem jrun_u {S O : Type} (g : S → Option (O ⊕ S)) (s : S) : jrun g jfuel s = jstep (jrun g 999999999) (g s) := rfl
theorem ef_gen {a b n cut i a1 b1 : Int} {c d e tA tB tC fr c1 d1 e1 A1 B1 C1 : Nat} (h : zf_X11_trianglesOf a b c d e tA tB tC n cut = some (a1, b1, c1, d1, e1, A1, B1, C1)) : zf_X11_entriesFrom a b c d e tA tB tC fr n cut i = jrun zg_X11_entriesFrom 999999999 (9, n, cut, i, 0, 0, a1, b1, c1, d1, e1, A1, B1, C1, fr) := by
  unfold zf_X11_entriesFrom
  rw [jrun_u]
  have hg : zg_X11_entriesFrom (0, n, cut, i, 0, 0, a, b, c, d, e, tA, tB, tC, fr) = some (.inr (9, n, cut, i, 0, 0, a1, b1, c1, d1, e1, A1, B1, C1, fr)) := by
    show zg_X11_entriesFrom_0 n cut i 0 0 a b c d e tA tB tC fr = _
    unfold zg_X11_entriesFrom_0
    rw [h]
    rfl
  rw [hg]
  exact jstep_r _ _
/-- the reference's entries are the class's -/
theorem ok_ent (m : Nat) (h4 : 4 ≤ m) (h9 : m ≤ 9) (c : Int) (hc : isCut m c) (i : Int) (hi0 : 0 ≤ i) (hi : i < (m : Int)) (ln lf : Int) (nf ls gr tA tB tC fr : Nat) (hf1 : -2147483648 ≤ lf) (hf2 : lf ≤ 2147483647) (h : lf = (m : Int) → LT m ln nf ls gr) : Go (fun o => o.2.1 = (m : Int) ∧ LT m o.1 o.2.2.1 o.2.2.2.1 o.2.2.2.2.1 ∧ TAI m c o.2.2.2.2.2.1 o.2.2.2.2.2.2.1 o.2.2.2.2.2.2.2.1 729 ∧ ∀ j : Nat, j < m → ∃ r, zf_X5_entryOf m c i (j : Int) = some r ∧ zget o.2.2.2.2.2.2.2.2 j = r ∧ 0 ≤ r ∧ r ≤ 21) (zf_X11_entriesFrom ln lf nf ls gr tA tB tC fr (m : Int) c i) := by
  have ht := tcn_cut h4 h9 hc
  obtain ⟨⟨a1, b1, c1, d1, e1, A1, B1, C1⟩, ho, q1, q2, q3⟩ := ok_tri m h4 h9 c (by omega) ln lf nf ls gr tA tB tC hf1 hf2 h
  have q1 : b1 = (m : Int) := q1
  have q2 : LT m a1 c1 d1 e1 := q2
  have q3 : TAI m c A1 B1 C1 729 := q3
  rw [ef_gen ho]
  obtain ⟨k, hk, rfl⟩ := hc
  have t0 := (trK_ok 729).2 (tk_all m k h4 h9 hk)
  have e0 : entK m k i.toNat = true := allF_at (ek_all m k h4 h9 hk) (by omega)
  unfold entK at e0
  rw [show ((i.toNat : Nat) : Int) = i by omega] at e0
  revert e0
  cases hr : jrun zg_X11_entriesFrom 999999999 (9, (m : Int), zget (pg6 m) k, i, 0, 0, 0, (m : Int), nfC m, 0, 0, sl (trA m) k, sl (trB m) k, sl (trC m) k, 0) with
  | none => intro e0; cases e0
  | some o0 =>
    intro e0
    obtain ⟨fr1, x1, x2⟩ := ef_run h4 h9 q2.2.1 (nfC_LN h4 h9) (fun t hlt => (TAI_two q3 t0 (by omega)).1) (fun t hlt => (TAI_two q3 t0 (by omega)).2) 999999999 9 (zget (pg6 m) k) i 0 0 fr 0 o0 (Or.inl ⟨rfl, by omega, fun k hk => absurd hk (by omega)⟩) hr
    refine ⟨_, x1, q1, q2, q3, fun j hj => ?_⟩
    have y := allF_at e0 hj
    revert y
    cases hz : zf_X5_entryOf m (zget (pg6 m) k) i (j : Int) with
    | none => intro y; simp only [hz] at y; cases y
    | some r =>
      intro y
      simp only [hz] at y
      have d := of_decide_eq_true y
      exact ⟨r, rfl, (x2 j (by omega)).trans d.1, d.2⟩
