set_option maxRecDepth 20000 in
theorem ok_X2_size (t_size : Int)  : Go (fun o => (o) = t_size) (zf_X2_size t_size) := by
  unfold zf_X2_size
  exact Go_i (show (t_size) = t_size from (by first | assumption | omega))
set_option maxRecDepth 20000 in
theorem ok_X2_hasPlace (t_size : Int) (i1 : Int) (p0 : 1 ≤ t_size) (p1 : t_size ≤ 10) (p2 : -2147483648 ≤ i1) (p3 : i1 ≤ 2147483647) : Go (fun o => ((o) = true → 0 ≤ i1 ∧ i1 < t_size) ∧ ((o) = false → ¬ (0 ≤ i1 ∧ i1 < t_size))) (zf_X2_hasPlace t_size i1) := by
  unfold zf_X2_hasPlace
  refine Go_chk (by unfold zout; omega) ?_
  refine Go_ite (fun c1 => ?_) (fun c1 => ?_)
  · exact Go_i (show ((false) = true → 0 ≤ i1 ∧ i1 < t_size) ∧ ((false) = false → ¬ (0 ≤ i1 ∧ i1 < t_size)) from ⟨(by intro h; first | exact True.intro | omega | (exact absurd h (by decide))), (by intro h; first | exact True.intro | omega | (exact absurd h (by decide)))⟩)
  · refine Go_chk (by unfold zout; omega) ?_
    refine Go_ite (fun c2 => ?_) (fun c2 => ?_)
    · exact Go_i (show ((false) = true → 0 ≤ i1 ∧ i1 < t_size) ∧ ((false) = false → ¬ (0 ≤ i1 ∧ i1 < t_size)) from ⟨(by intro h; first | exact True.intro | omega | (exact absurd h (by decide))), (by intro h; first | exact True.intro | omega | (exact absurd h (by decide)))⟩)
    · exact Go_i (show ((true) = true → 0 ≤ i1 ∧ i1 < t_size) ∧ ((true) = false → ¬ (0 ≤ i1 ∧ i1 < t_size)) from ⟨(by intro h; first | exact True.intro | omega | (exact absurd h (by decide))), (by intro h; first | exact True.intro | omega | (exact absurd h (by decide)))⟩)
set_option maxRecDepth 20000 in
theorem ok_X2_accepts (q1_c : Nat) (i2 : Int) (p0 : -2147483648 ≤ i2) (p1 : i2 ≤ 2147483647) : Go (fun o => ((o) = true → 1 ≤ i2 ∧ i2 ≤ 10 ∧ (∀ k : Nat, (k : Int) < i2 → 0 ≤ zget q1_c k ∧ zget q1_c k ≤ 20)) ∧ ((o) = false → True)) (zf_X2_accepts q1_c i2) := by
  unfold zf_X2_accepts
  refine jok (fun (s : zS_X2_accepts) => match s with | (lab, i2', i3') => (lab = 0 ∧ -2147483648 ≤ i2' ∧ i2' ≤ 2147483647 ∧ i2' = i2) ∨ (lab = 21 ∧ 1 ≤ i2' ∧ i2' ≤ 10 ∧ i2' = i2 ∧ (0 ≤ i3' ∧ i3' ≤ i2') ∧ (∀ k : Nat, (k : Int) < i3' → 0 ≤ zget q1_c k ∧ zget q1_c k ≤ 20))) (fun (s : zS_X2_accepts) => match s with | (lab, i2', i3') => if lab = 0 then 30 else if lab = 21 then (20 - i3').toNat else 0) (fun (o : zO_X2_accepts) => ((o) = true → 1 ≤ i2 ∧ i2 ≤ 10 ∧ (∀ k : Nat, (k : Int) < i2 → 0 ≤ zget q1_c k ∧ zget q1_c k ≤ 20)) ∧ ((o) = false → True)) ?_ _ ?_ ?_
  · intro s hI
    obtain ⟨lab, i2', i3'⟩ := s
    have hI : (lab = 0 ∧ -2147483648 ≤ i2' ∧ i2' ≤ 2147483647 ∧ i2' = i2) ∨ (lab = 21 ∧ 1 ≤ i2' ∧ i2' ≤ 10 ∧ i2' = i2 ∧ (0 ≤ i3' ∧ i3' ≤ i2') ∧ (∀ k : Nat, (k : Int) < i3' → 0 ≤ zget q1_c k ∧ zget q1_c k ≤ 20)) := hI
    rcases hI with ⟨rfl, v0_0, v0_1, v0_2⟩ | ⟨rfl, v21_0, v21_1, v21_2, v21_3, v21_4⟩
    · show Go _ (zg_X2_accepts_0 q1_c i2' i3')
      unfold zg_X2_accepts_0
      refine Go_chk (by unfold zout; omega) ?_
      refine Go_ite (fun c1 => ?_) (fun c1 => ?_)
      · exact Go_i (show ((false) = true → 1 ≤ i2 ∧ i2 ≤ 10 ∧ (∀ k : Nat, (k : Int) < i2 → 0 ≤ zget q1_c k ∧ zget q1_c k ≤ 20)) ∧ ((false) = false → True) from ⟨(by intro h; first | (exact absurd h (by decide)) | exact ⟨by omega, by omega, fun k hk => by have e := v21_4 k (by omega); omega⟩), (by intro h; exact True.intro)⟩)
      · refine Go_ite (fun c2 => ?_) (fun c2 => ?_)
        · exact Go_i (show ((false) = true → 1 ≤ i2 ∧ i2 ≤ 10 ∧ (∀ k : Nat, (k : Int) < i2 → 0 ≤ zget q1_c k ∧ zget q1_c k ≤ 20)) ∧ ((false) = false → True) from ⟨(by intro h; first | (exact absurd h (by decide)) | exact ⟨by omega, by omega, fun k hk => by have e := v21_4 k (by omega); omega⟩), (by intro h; exact True.intro)⟩)
        · refine Go_ite (fun c3 => ?_) (fun c3 => ?_)
          · exact Go_i (show (((21 : Nat) = 0 ∧ -2147483648 ≤ (i2') ∧ (i2') ≤ 2147483647 ∧ (i2') = i2) ∨ ((21 : Nat) = 21 ∧ 1 ≤ (i2') ∧ (i2') ≤ 10 ∧ (i2') = i2 ∧ (0 ≤ ((0 : Int)) ∧ ((0 : Int)) ≤ (i2')) ∧ (∀ k : Nat, (k : Int) < ((0 : Int)) → 0 ≤ zget q1_c k ∧ zget q1_c k ≤ 20))) ∧ (20 - ((0 : Int))).toNat < 30 from ⟨Or.inr (⟨rfl, (by first | assumption | omega), (by first | assumption | omega), (by first | assumption | omega), (by first | assumption | omega), (by first | (intro k hk; omega) | exact all_next v21_4 (by omega) (by omega) (by omega))⟩), by omega⟩)
          · exact Go_i (show ((false) = true → 1 ≤ i2 ∧ i2 ≤ 10 ∧ (∀ k : Nat, (k : Int) < i2 → 0 ≤ zget q1_c k ∧ zget q1_c k ≤ 20)) ∧ ((false) = false → True) from ⟨(by intro h; first | (exact absurd h (by decide)) | exact ⟨by omega, by omega, fun k hk => by have e := v21_4 k (by omega); omega⟩), (by intro h; exact True.intro)⟩)
    · show Go _ (zg_X2_accepts_21 q1_c i2' i3')
      unfold zg_X2_accepts_21
      refine Go_chk (by unfold zout; omega) ?_
      refine Go_chk (by unfold zout; omega) ?_
      refine Go_ite (fun c4 => ?_) (fun c4 => ?_)
      · exact Go_i (show ((true) = true → 1 ≤ i2 ∧ i2 ≤ 10 ∧ (∀ k : Nat, (k : Int) < i2 → 0 ≤ zget q1_c k ∧ zget q1_c k ≤ 20)) ∧ ((true) = false → True) from ⟨(by intro h; first | (exact absurd h (by decide)) | exact ⟨by omega, by omega, fun k hk => by have e := v21_4 k (by omega); omega⟩), (by intro h; exact True.intro)⟩)
      · refine Go_chk (by omega) ?_
        have a5 := rget q1_c (Int.toNat i3')
        refine Go_ite (fun c6 => ?_) (fun c6 => ?_)
        · exact Go_i (show ((false) = true → 1 ≤ i2 ∧ i2 ≤ 10 ∧ (∀ k : Nat, (k : Int) < i2 → 0 ≤ zget q1_c k ∧ zget q1_c k ≤ 20)) ∧ ((false) = false → True) from ⟨(by intro h; first | (exact absurd h (by decide)) | exact ⟨by omega, by omega, fun k hk => by have e := v21_4 k (by omega); omega⟩), (by intro h; exact True.intro)⟩)
        · refine Go_ite (fun c7 => ?_) (fun c7 => ?_)
          · exact Go_i (show (((21 : Nat) = 0 ∧ -2147483648 ≤ (i2') ∧ (i2') ≤ 2147483647 ∧ (i2') = i2) ∨ ((21 : Nat) = 21 ∧ 1 ≤ (i2') ∧ (i2') ≤ 10 ∧ (i2') = i2 ∧ (0 ≤ ((i3' + (1 : Int))) ∧ ((i3' + (1 : Int))) ≤ (i2')) ∧ (∀ k : Nat, (k : Int) < ((i3' + (1 : Int))) → 0 ≤ zget q1_c k ∧ zget q1_c k ≤ 20))) ∧ (20 - ((i3' + (1 : Int)))).toNat < (20 - i3').toNat from ⟨Or.inr (⟨rfl, (by first | assumption | omega), (by first | assumption | omega), (by first | assumption | omega), (by first | assumption | omega), (by first | (intro k hk; omega) | exact all_next v21_4 (by omega) (by omega) (by omega))⟩), by omega⟩)
          · exact Go_i (show ((false) = true → 1 ≤ i2 ∧ i2 ≤ 10 ∧ (∀ k : Nat, (k : Int) < i2 → 0 ≤ zget q1_c k ∧ zget q1_c k ≤ 20)) ∧ ((false) = false → True) from ⟨(by intro h; first | (exact absurd h (by decide)) | exact ⟨by omega, by omega, fun k hk => by have e := v21_4 k (by omega); omega⟩), (by intro h; exact True.intro)⟩)
  · exact (show ((0 : Nat) = 0 ∧ -2147483648 ≤ i2 ∧ i2 ≤ 2147483647 ∧ i2 = i2) ∨ ((0 : Nat) = 21 ∧ 1 ≤ i2 ∧ i2 ≤ 10 ∧ i2 = i2 ∧ (0 ≤ 0 ∧ 0 ≤ i2) ∧ (∀ k : Nat, (k : Int) < 0 → 0 ≤ zget q1_c k ∧ zget q1_c k ≤ 20)) from Or.inl (⟨rfl, (by first | assumption | omega), (by first | assumption | omega), (by first | assumption | omega)⟩))
  · show 30 < jfuel
    unfold jfuel
    omega
set_option maxRecDepth 20000 in
theorem ok_X2_become (t_size : Int) (t_numbers : Nat) (q1_c : Nat) (i2 : Int) (p0 : 1 ≤ i2) (p1 : i2 ≤ 10) (p2 : (∀ k : Nat, (k : Int) < i2 → 0 ≤ zget q1_c k ∧ zget q1_c k ≤ 20)) (p3 : (∀ k : Nat, k < 10 → 0 ≤ zget t_numbers k ∧ zget t_numbers k ≤ 20)) : Go (fun o => (o.1) = i2 ∧ (o.2.1) = i2 ∧ (∀ k : Nat, k < 10 → 0 ≤ zget (o.2.2) k ∧ zget (o.2.2) k ≤ 20)) (zf_X2_become t_size t_numbers q1_c i2) := by
  unfold zf_X2_become
  refine jok (fun (s : zS_X2_become) => match s with | (lab, i2', i3', t_size', t_numbers') => (lab = 0 ∧ i2' = i2 ∧ (∀ k : Nat, k < 10 → 0 ≤ zget t_numbers' k ∧ zget t_numbers' k ≤ 20)) ∨ (lab = 12 ∧ t_size' = i2 ∧ 0 ≤ i3' ∧ i3' ≤ i2 ∧ (∀ k : Nat, k < 10 → 0 ≤ zget t_numbers' k ∧ zget t_numbers' k ≤ 20))) (fun (s : zS_X2_become) => match s with | (lab, i2', i3', t_size', t_numbers') => if lab = 0 then 30 else if lab = 12 then (20 - i3').toNat else 0) (fun (o : zO_X2_become) => (o.1) = i2 ∧ (o.2.1) = i2 ∧ (∀ k : Nat, k < 10 → 0 ≤ zget (o.2.2) k ∧ zget (o.2.2) k ≤ 20)) ?_ _ ?_ ?_
  · intro s hI
    obtain ⟨lab, i2', i3', t_size', t_numbers'⟩ := s
    have hI : (lab = 0 ∧ i2' = i2 ∧ (∀ k : Nat, k < 10 → 0 ≤ zget t_numbers' k ∧ zget t_numbers' k ≤ 20)) ∨ (lab = 12 ∧ t_size' = i2 ∧ 0 ≤ i3' ∧ i3' ≤ i2 ∧ (∀ k : Nat, k < 10 → 0 ≤ zget t_numbers' k ∧ zget t_numbers' k ≤ 20)) := hI
    rcases hI with ⟨rfl, v0_0, v0_1⟩ | ⟨rfl, v12_0, v12_1, v12_2, v12_3⟩
    · show Go _ (zg_X2_become_0 q1_c i2' i3' t_size' t_numbers')
      unfold zg_X2_become_0
      refine Go_chk (by unfold zout; omega) ?_
      have a1 := rmin i2' (10 : Int)
      exact Go_i (show (((12 : Nat) = 0 ∧ (i2') = i2 ∧ (∀ k : Nat, k < 10 → 0 ≤ zget (t_numbers') k ∧ zget (t_numbers') k ≤ 20)) ∨ ((12 : Nat) = 12 ∧ ((zmin i2' (10 : Int))) = i2 ∧ 0 ≤ ((0 : Int)) ∧ ((0 : Int)) ≤ i2 ∧ (∀ k : Nat, k < 10 → 0 ≤ zget (t_numbers') k ∧ zget (t_numbers') k ≤ 20))) ∧ (20 - ((0 : Int))).toNat < 30 from ⟨Or.inr (⟨rfl, (by first | assumption | omega), (by first | assumption | omega), (by first | assumption | omega), (by first | assumption | exact all_w (by assumption) (by omega) | (refine all_setw ?_ (Int.le_refl _) ?_ ?_ (by omega) (by omega) <;> first | assumption | omega) | exact all_setw (by assumption) (by omega) (by omega) (by omega) (by omega) (by omega))⟩), by omega⟩)
    · show Go _ (zg_X2_become_12 q1_c i2' i3' t_size' t_numbers')
      unfold zg_X2_become_12
      refine Go_chk (by unfold zout; omega) ?_
      refine Go_chk (by unfold zout; omega) ?_
      refine Go_ite (fun c2 => ?_) (fun c2 => ?_)
      · exact Go_i (show (t_size') = i2 ∧ (t_size') = i2 ∧ (∀ k : Nat, k < 10 → 0 ≤ zget (t_numbers') k ∧ zget (t_numbers') k ≤ 20) from ⟨(by first | assumption | omega), (by first | assumption | omega), (by first | assumption | exact all_w (by assumption) (by omega) | (refine all_setw ?_ (Int.le_refl _) ?_ ?_ (by omega) (by omega) <;> first | assumption | omega) | exact all_setw (by assumption) (by omega) (by omega) (by omega) (by omega) (by omega))⟩)
      · refine Go_ite (fun c3 => ?_) (fun c3 => ?_)
        · exact Go_i (show (t_size') = i2 ∧ (t_size') = i2 ∧ (∀ k : Nat, k < 10 → 0 ≤ zget (t_numbers') k ∧ zget (t_numbers') k ≤ 20) from ⟨(by first | assumption | omega), (by first | assumption | omega), (by first | assumption | exact all_w (by assumption) (by omega) | (refine all_setw ?_ (Int.le_refl _) ?_ ?_ (by omega) (by omega) <;> first | assumption | omega) | exact all_setw (by assumption) (by omega) (by omega) (by omega) (by omega) (by omega))⟩)
        · refine Go_chk (by omega) ?_
          have a4 := rget q1_c (Int.toNat i3')
          have a5 := p2 (Int.toNat i3') (by omega)
          exact Go_i (show (((12 : Nat) = 0 ∧ (0) = i2 ∧ (∀ k : Nat, k < 10 → 0 ≤ zget ((zset t_numbers' (Int.toNat i3') (zget q1_c (Int.toNat i3')))) k ∧ zget ((zset t_numbers' (Int.toNat i3') (zget q1_c (Int.toNat i3')))) k ≤ 20)) ∨ ((12 : Nat) = 12 ∧ (t_size') = i2 ∧ 0 ≤ ((i3' + (1 : Int))) ∧ ((i3' + (1 : Int))) ≤ i2 ∧ (∀ k : Nat, k < 10 → 0 ≤ zget ((zset t_numbers' (Int.toNat i3') (zget q1_c (Int.toNat i3')))) k ∧ zget ((zset t_numbers' (Int.toNat i3') (zget q1_c (Int.toNat i3')))) k ≤ 20))) ∧ (20 - ((i3' + (1 : Int)))).toNat < (20 - i3').toNat from ⟨Or.inr (⟨rfl, (by first | assumption | omega), (by first | assumption | omega), (by first | assumption | omega), (by first | assumption | exact all_w (by assumption) (by omega) | (refine all_setw ?_ (Int.le_refl _) ?_ ?_ (by omega) (by omega) <;> first | assumption | omega) | exact all_setw (by assumption) (by omega) (by omega) (by omega) (by omega) (by omega))⟩), by omega⟩)
  · exact (show ((0 : Nat) = 0 ∧ i2 = i2 ∧ (∀ k : Nat, k < 10 → 0 ≤ zget t_numbers k ∧ zget t_numbers k ≤ 20)) ∨ ((0 : Nat) = 12 ∧ t_size = i2 ∧ 0 ≤ 0 ∧ 0 ≤ i2 ∧ (∀ k : Nat, k < 10 → 0 ≤ zget t_numbers k ∧ zget t_numbers k ≤ 20)) from Or.inl (⟨rfl, (by first | assumption | omega), (by first | assumption | exact all_w (by assumption) (by omega) | (refine all_setw ?_ (Int.le_refl _) ?_ ?_ (by omega) (by omega) <;> first | assumption | omega) | exact all_setw (by assumption) (by omega) (by omega) (by omega) (by omega) (by omega))⟩))
  · show 30 < jfuel
    unfold jfuel
    omega
set_option maxRecDepth 20000 in
theorem ok_X2_wrapped (t_size : Int) (i1 : Int) (p0 : 1 ≤ t_size) (p1 : t_size ≤ 10) (p2 : -2147483648 ≤ i1) (p3 : i1 ≤ 2147483647) : Go (fun o => 0 ≤ (o) ∧ (o) < t_size ∧ ((0 ≤ i1 ∧ i1 < t_size) → (o) = i1) ∧ (i1 = t_size → (o) = 0) ∧ (i1 = -1 → (o) = t_size - 1)) (zf_X2_wrapped t_size i1) := by
  unfold zf_X2_wrapped
  refine Go_chk (by unfold zout; omega) ?_
  refine Go_ite (fun c1 => ?_) (fun c1 => ?_)
  · exact Go_i (show 0 ≤ ((0 : Int)) ∧ ((0 : Int)) < t_size ∧ ((0 ≤ i1 ∧ i1 < t_size) → ((0 : Int)) = i1) ∧ (i1 = t_size → ((0 : Int)) = 0) ∧ (i1 = -1 → ((0 : Int)) = t_size - 1) from ⟨(by first | assumption | omega), (by first | assumption | omega), (by intro h; first | exact True.intro | omega | (exact absurd h (by decide))), (by intro h; first | exact True.intro | omega | (exact absurd h (by decide))), (by intro h; first | exact True.intro | omega | (exact absurd h (by decide)))⟩)
  · refine Go_bindP (ok_J9_floorMod_7cf53 i1 t_size (by first | assumption | omega) (by first | assumption | omega) (by first | assumption | omega) (by first | assumption | omega)) (fun o2 q2 => ?_)
    obtain ⟨q2_0, q2_1, q2_2, q2_3, q2_4⟩ := q2
    exact Go_i (show 0 ≤ (o2) ∧ (o2) < t_size ∧ ((0 ≤ i1 ∧ i1 < t_size) → (o2) = i1) ∧ (i1 = t_size → (o2) = 0) ∧ (i1 = -1 → (o2) = t_size - 1) from ⟨(by first | assumption | omega), (by first | assumption | omega), (by intro h; first | exact True.intro | omega | (exact absurd h (by decide))), (by intro h; first | exact True.intro | omega | (exact absurd h (by decide))), (by intro h; first | exact True.intro | omega | (exact absurd h (by decide)))⟩)
set_option maxRecDepth 20000 in
theorem ok_X2_at (t_size : Int) (t_numbers : Nat) (i1 : Int) (p0 : 1 ≤ t_size) (p1 : t_size ≤ 10) (p2 : (∀ k : Nat, k < 10 → 0 ≤ zget t_numbers k ∧ zget t_numbers k ≤ 20)) (p3 : -2147483648 ≤ i1) (p4 : i1 ≤ 2147483647) : Go (fun o => 0 ≤ (o) ∧ (o) ≤ 20 ∧ ((0 ≤ i1 ∧ i1 < t_size) → (o) = zget t_numbers (Int.toNat i1)) ∧ (i1 = t_size → (o) = zget t_numbers 0) ∧ (i1 = -1 → (o) = zget t_numbers (Int.toNat (t_size - 1)))) (zf_X2_at t_size t_numbers i1) := by
  unfold zf_X2_at
  refine Go_bindP (ok_X2_wrapped t_size i1 (by first | assumption | omega) (by first | assumption | omega) (by first | assumption | omega) (by first | assumption | omega)) (fun o1 q1 => ?_)
  obtain ⟨q1_0, q1_1, q1_2, q1_3, q1_4⟩ := q1
  refine Go_chk (by omega) ?_
  have a2 := rget t_numbers (Int.toNat o1)
  have a3 := p2 (Int.toNat o1) (by omega)
  exact Go_i (show 0 ≤ ((zget t_numbers (Int.toNat o1))) ∧ ((zget t_numbers (Int.toNat o1))) ≤ 20 ∧ ((0 ≤ i1 ∧ i1 < t_size) → ((zget t_numbers (Int.toNat o1))) = zget t_numbers (Int.toNat i1)) ∧ (i1 = t_size → ((zget t_numbers (Int.toNat o1))) = zget t_numbers 0) ∧ (i1 = -1 → ((zget t_numbers (Int.toNat o1))) = zget t_numbers (Int.toNat (t_size - 1))) from ⟨(by first | assumption | omega), (by first | assumption | omega), (by intro h; first | rw [show o1 = i1 by omega] | rw [show Int.toNat o1 = 0 by omega] | rw [show o1 = t_size - 1 by omega]), (by intro h; first | rw [show o1 = i1 by omega] | rw [show Int.toNat o1 = 0 by omega] | rw [show o1 = t_size - 1 by omega]), (by intro h; first | rw [show o1 = i1 by omega] | rw [show Int.toNat o1 = 0 by omega] | rw [show o1 = t_size - 1 by omega])⟩)
set_option maxRecDepth 20000 in
theorem ok_X2_entryAt (t_size : Int) (t_numbers : Nat) (i1 : Int) (i2 : Int) (p0 : 1 ≤ t_size) (p1 : t_size ≤ 10) (p2 : (∀ k : Nat, k < 10 → 0 ≤ zget t_numbers k ∧ zget t_numbers k ≤ 20)) (p3 : 0 ≤ i1) (p4 : i1 ≤ 20) (p5 : -2147483648 ≤ i2) (p6 : i2 ≤ 2147483647) : Go (fun o => -154472377739119461 ≤ (o) ∧ (o) ≤ 154472377739119461) (zf_X2_entryAt t_size t_numbers i1 i2) := by
  unfold zf_X2_entryAt
  refine jok (fun (s : zS_X2_entryAt) => match s with | (lab, i1', i2', i3', i5', i7') => (lab = 0 ∧ 0 ≤ i1' ∧ i1' ≤ 20 ∧ -2147483648 ≤ i2' ∧ i2' ≤ 2147483647) ∨ (lab = 14 ∧ 0 ≤ i1' ∧ i1' ≤ 20 ∧ -2147483648 ≤ i2' ∧ i2' ≤ 2147483647 ∧ 1 ≤ i7' ∧ i7' ≤ 12 ∧ -(eL i7') ≤ i5' ∧ i5' ≤ eL i7' ∧ -(eL i7') ≤ i3' ∧ i3' ≤ eL i7' ∧ (1 ≤ eL i7' ∧ eL i7' ≤ 154472377739119461))) (fun (s : zS_X2_entryAt) => match s with | (lab, i1', i2', i3', i5', i7') => if lab = 0 then 30 else if lab = 14 then (20 - i7').toNat else 0) (fun (o : zO_X2_entryAt) => -154472377739119461 ≤ (o) ∧ (o) ≤ 154472377739119461) ?_ _ ?_ ?_
  · intro s hI
    obtain ⟨lab, i1', i2', i3', i5', i7'⟩ := s
    have hI : (lab = 0 ∧ 0 ≤ i1' ∧ i1' ≤ 20 ∧ -2147483648 ≤ i2' ∧ i2' ≤ 2147483647) ∨ (lab = 14 ∧ 0 ≤ i1' ∧ i1' ≤ 20 ∧ -2147483648 ≤ i2' ∧ i2' ≤ 2147483647 ∧ 1 ≤ i7' ∧ i7' ≤ 12 ∧ -(eL i7') ≤ i5' ∧ i5' ≤ eL i7' ∧ -(eL i7') ≤ i3' ∧ i3' ≤ eL i7' ∧ (1 ≤ eL i7' ∧ eL i7' ≤ 154472377739119461)) := hI
    rcases hI with ⟨rfl, v0_0, v0_1, v0_2, v0_3⟩ | ⟨rfl, v14_0, v14_1, v14_2, v14_3, v14_4, v14_5, v14_6, v14_7, v14_8, v14_9, v14_10⟩
    · show Go _ (zg_X2_entryAt_0 t_size t_numbers i1' i2' i3' i5' i7')
      unfold zg_X2_entryAt_0
      refine Go_chk (by unfold zout; omega) ?_
      refine Go_ite (fun c1 => ?_) (fun c1 => ?_)
      · exact Go_i (show (((14 : Nat) = 0 ∧ 0 ≤ (i1') ∧ (i1') ≤ 20 ∧ -2147483648 ≤ (i2') ∧ (i2') ≤ 2147483647) ∨ ((14 : Nat) = 14 ∧ 0 ≤ (i1') ∧ (i1') ≤ 20 ∧ -2147483648 ≤ (i2') ∧ (i2') ≤ 2147483647 ∧ 1 ≤ ((1 : Int)) ∧ ((1 : Int)) ≤ 12 ∧ -(eL ((1 : Int))) ≤ ((1 : Int)) ∧ ((1 : Int)) ≤ eL ((1 : Int)) ∧ -(eL ((1 : Int))) ≤ ((0 : Int)) ∧ ((0 : Int)) ≤ eL ((1 : Int)) ∧ (1 ≤ eL ((1 : Int)) ∧ eL ((1 : Int)) ≤ 154472377739119461))) ∧ (20 - ((1 : Int))).toNat < 30 from ⟨Or.inr (⟨rfl, (by first | assumption | omega), (by first | assumption | omega), (by first | assumption | omega), (by first | assumption | omega), (by first | assumption | omega), (by first | assumption | omega), (by have z1 := eL_b (t := 1) (by decide) (by decide); first | omega | decide), (by have z1 := eL_b (t := 1) (by decide) (by decide); first | omega | decide), (by have z1 := eL_b (t := 1) (by decide) (by decide); first | omega | decide), (by have z1 := eL_b (t := 1) (by decide) (by decide); first | omega | decide), (by exact eL_b (by omega) (by omega))⟩), by omega⟩)
      · exact Go_i (show -154472377739119461 ≤ ((0 : Int)) ∧ ((0 : Int)) ≤ 154472377739119461 from ⟨(by first | assumption | omega), (by first | assumption | omega)⟩)
    · show Go _ (zg_X2_entryAt_14 t_size t_numbers i1' i2' i3' i5' i7')
      unfold zg_X2_entryAt_14
      refine Go_chk (by unfold zout; omega) ?_
      refine Go_chk (by unfold zout; omega) ?_
      refine Go_ite (fun c2 => ?_) (fun c2 => ?_)
      · exact Go_i (show -154472377739119461 ≤ (i5') ∧ (i5') ≤ 154472377739119461 from ⟨(by first | assumption | omega), (by first | assumption | omega)⟩)
      · refine Go_ite (fun c3 => ?_) (fun c3 => ?_)
        · exact Go_i (show -154472377739119461 ≤ (i5') ∧ (i5') ≤ 154472377739119461 from ⟨(by first | assumption | omega), (by first | assumption | omega)⟩)
        · refine Go_bindP (ok_X2_at t_size t_numbers (i1' + i7') (by first | assumption | omega) (by first | assumption | omega) (by first | assumption | exact all_w (by assumption) (by omega) | (refine all_setw ?_ (Int.le_refl _) ?_ ?_ (by omega) (by omega) <;> first | assumption | omega) | exact all_setw (by assumption) (by omega) (by omega) (by omega) (by omega) (by omega)) (by first | assumption | omega) (by first | assumption | omega)) (fun o5 q4 => ?_)
          obtain ⟨q4_0, q4_1, q4_2, q4_3, q4_4⟩ := q4
          refine Go_chk (by unfold zout; omega) ?_
          have m1 := mulb (a := o5) (x := i5') (B := eL i7') (M := 20) (by omega) (by omega) (by omega) (by omega)
          have m2 := eL_s (t := i7') (by omega)
          exact Go_i (show (((14 : Nat) = 0 ∧ 0 ≤ (i1') ∧ (i1') ≤ 20 ∧ -2147483648 ≤ (i2') ∧ (i2') ≤ 2147483647) ∨ ((14 : Nat) = 14 ∧ 0 ≤ (i1') ∧ (i1') ≤ 20 ∧ -2147483648 ≤ (i2') ∧ (i2') ≤ 2147483647 ∧ 1 ≤ ((i7' + (1 : Int))) ∧ ((i7' + (1 : Int))) ≤ 12 ∧ -(eL ((i7' + (1 : Int)))) ≤ (((o5 * i5') - i3')) ∧ (((o5 * i5') - i3')) ≤ eL ((i7' + (1 : Int))) ∧ -(eL ((i7' + (1 : Int)))) ≤ (i5') ∧ (i5') ≤ eL ((i7' + (1 : Int))) ∧ (1 ≤ eL ((i7' + (1 : Int))) ∧ eL ((i7' + (1 : Int))) ≤ 154472377739119461))) ∧ (20 - ((i7' + (1 : Int)))).toNat < (20 - i7').toNat from ⟨Or.inr (⟨rfl, (by first | assumption | omega), (by first | assumption | omega), (by first | assumption | omega), (by first | assumption | omega), (by first | assumption | omega), (by first | assumption | omega), (by first | assumption | omega), (by first | assumption | omega), (by first | assumption | omega), (by first | assumption | omega), (by exact eL_b (by omega) (by omega))⟩), by omega⟩)
  · exact (show ((0 : Nat) = 0 ∧ 0 ≤ i1 ∧ i1 ≤ 20 ∧ -2147483648 ≤ i2 ∧ i2 ≤ 2147483647) ∨ ((0 : Nat) = 14 ∧ 0 ≤ i1 ∧ i1 ≤ 20 ∧ -2147483648 ≤ i2 ∧ i2 ≤ 2147483647 ∧ 1 ≤ 0 ∧ 0 ≤ 12 ∧ -(eL 0) ≤ 0 ∧ 0 ≤ eL 0 ∧ -(eL 0) ≤ 0 ∧ 0 ≤ eL 0 ∧ (1 ≤ eL 0 ∧ eL 0 ≤ 154472377739119461)) from Or.inl (⟨rfl, (by first | assumption | omega), (by first | assumption | omega), (by first | assumption | omega), (by first | assumption | omega)⟩))
  · show 30 < jfuel
    unfold jfuel
    omega
set_option maxRecDepth 20000 in
theorem ok_X2_breakPlace (t_size : Int) (t_numbers : Nat) (i1 : Int) (p0 : 1 ≤ t_size) (p1 : t_size ≤ 10) (p2 : (∀ k : Nat, k < 10 → 0 ≤ zget t_numbers k ∧ zget t_numbers k ≤ 20)) (p3 : -2147483648 ≤ i1) (p4 : i1 ≤ 2147483647) : Go (fun o => -1 ≤ (o) ∧ (o) < t_size) (zf_X2_breakPlace t_size t_numbers i1) := by
  unfold zf_X2_breakPlace
  refine jok (fun (s : zS_X2_breakPlace) => match s with | (lab, i1', i2') => (lab = 0 ∧ -2147483648 ≤ i1' ∧ i1' ≤ 2147483647) ∨ (lab = 2 ∧ -2147483648 ≤ i1' ∧ i1' ≤ 2147483647 ∧ 0 ≤ i2' ∧ i2' ≤ t_size)) (fun (s : zS_X2_breakPlace) => match s with | (lab, i1', i2') => if lab = 0 then 30 else if lab = 2 then (20 - i2').toNat else 0) (fun (o : zO_X2_breakPlace) => -1 ≤ (o) ∧ (o) < t_size) ?_ _ ?_ ?_
  · intro s hI
    obtain ⟨lab, i1', i2'⟩ := s
    have hI : (lab = 0 ∧ -2147483648 ≤ i1' ∧ i1' ≤ 2147483647) ∨ (lab = 2 ∧ -2147483648 ≤ i1' ∧ i1' ≤ 2147483647 ∧ 0 ≤ i2' ∧ i2' ≤ t_size) := hI
    rcases hI with ⟨rfl, v0_0, v0_1⟩ | ⟨rfl, v2_0, v2_1, v2_2, v2_3⟩
    · show Go _ (zg_X2_breakPlace_0 t_size t_numbers i1' i2')
      unfold zg_X2_breakPlace_0
      exact Go_i (show (((2 : Nat) = 0 ∧ -2147483648 ≤ (i1') ∧ (i1') ≤ 2147483647) ∨ ((2 : Nat) = 2 ∧ -2147483648 ≤ (i1') ∧ (i1') ≤ 2147483647 ∧ 0 ≤ ((0 : Int)) ∧ ((0 : Int)) ≤ t_size)) ∧ (20 - ((0 : Int))).toNat < 30 from ⟨Or.inr (⟨rfl, (by first | assumption | omega), (by first | assumption | omega), (by first | assumption | omega), (by first | assumption | omega)⟩), by omega⟩)
    · show Go _ (zg_X2_breakPlace_2 t_size t_numbers i1' i2')
      unfold zg_X2_breakPlace_2
      refine Go_chk (by unfold zout; omega) ?_
      refine Go_chk (by unfold zout; omega) ?_
      refine Go_ite (fun c1 => ?_) (fun c1 => ?_)
      · exact Go_i (show -1 ≤ ((-1 : Int)) ∧ ((-1 : Int)) < t_size from ⟨(by first | assumption | omega), (by first | assumption | omega)⟩)
      · refine Go_bindP (ok_X2_entryAt t_size t_numbers i2' i1' (by first | assumption | omega) (by first | assumption | omega) (by first | assumption | exact all_w (by assumption) (by omega) | (refine all_setw ?_ (Int.le_refl _) ?_ ?_ (by omega) (by omega) <;> first | assumption | omega) | exact all_setw (by assumption) (by omega) (by omega) (by omega) (by omega) (by omega)) (by first | assumption | omega) (by first | assumption | omega) (by first | assumption | omega) (by first | assumption | omega)) (fun o3 q2 => ?_)
        obtain ⟨q2_0, q2_1⟩ := q2
        refine Go_chk (by unfold zoutL; omega) ?_
        refine Go_ite (fun c3 => ?_) (fun c3 => ?_)
        · exact Go_i (show (((2 : Nat) = 0 ∧ -2147483648 ≤ (i1') ∧ (i1') ≤ 2147483647) ∨ ((2 : Nat) = 2 ∧ -2147483648 ≤ (i1') ∧ (i1') ≤ 2147483647 ∧ 0 ≤ ((i2' + (1 : Int))) ∧ ((i2' + (1 : Int))) ≤ t_size)) ∧ (20 - ((i2' + (1 : Int)))).toNat < (20 - i2').toNat from ⟨Or.inr (⟨rfl, (by first | assumption | omega), (by first | assumption | omega), (by first | assumption | omega), (by first | assumption | omega)⟩), by omega⟩)
        · exact Go_i (show -1 ≤ (i2') ∧ (i2') < t_size from ⟨(by first | assumption | omega), (by first | assumption | omega)⟩)
  · exact (show ((0 : Nat) = 0 ∧ -2147483648 ≤ i1 ∧ i1 ≤ 2147483647) ∨ ((0 : Nat) = 2 ∧ -2147483648 ≤ i1 ∧ i1 ≤ 2147483647 ∧ 0 ≤ 0 ∧ 0 ≤ t_size) from Or.inl (⟨rfl, (by first | assumption | omega), (by first | assumption | omega)⟩))
  · show 30 < jfuel
    unfold jfuel
    omega
set_option maxRecDepth 20000 in
theorem ok_X2_breakLength (t_size : Int) (t_numbers : Nat) (p0 : 1 ≤ t_size) (p1 : t_size ≤ 10) (p2 : (∀ k : Nat, k < 10 → 0 ≤ zget t_numbers k ∧ zget t_numbers k ≤ 20)) : Go (fun o => -1 ≤ (o) ∧ (o) ≤ 12) (zf_X2_breakLength t_size t_numbers) := by
  unfold zf_X2_breakLength
  refine jok (fun (s : zS_X2_breakLength) => match s with | (lab, i1') => (lab = 0) ∨ (lab = 2 ∧ 2 ≤ i1' ∧ i1' ≤ 13)) (fun (s : zS_X2_breakLength) => match s with | (lab, i1') => if lab = 0 then 30 else if lab = 2 then (20 - i1').toNat else 0) (fun (o : zO_X2_breakLength) => -1 ≤ (o) ∧ (o) ≤ 12) ?_ _ ?_ ?_
  · intro s hI
    obtain ⟨lab, i1'⟩ := s
    have hI : (lab = 0) ∨ (lab = 2 ∧ 2 ≤ i1' ∧ i1' ≤ 13) := hI
    rcases hI with rfl | ⟨rfl, v2_0, v2_1⟩
    · show Go _ (zg_X2_breakLength_0 t_size t_numbers i1')
      unfold zg_X2_breakLength_0
      exact Go_i (show (((2 : Nat) = 0) ∨ ((2 : Nat) = 2 ∧ 2 ≤ ((2 : Int)) ∧ ((2 : Int)) ≤ 13)) ∧ (20 - ((2 : Int))).toNat < 30 from ⟨Or.inr (⟨rfl, (by first | assumption | omega), (by first | assumption | omega)⟩), by omega⟩)
    · show Go _ (zg_X2_breakLength_2 t_size t_numbers i1')
      unfold zg_X2_breakLength_2
      refine Go_chk (by unfold zout; omega) ?_
      refine Go_ite (fun c1 => ?_) (fun c1 => ?_)
      · exact Go_i (show -1 ≤ ((-1 : Int)) ∧ ((-1 : Int)) ≤ 12 from ⟨(by first | assumption | omega), (by first | assumption | omega)⟩)
      · refine Go_bindP (ok_X2_breakPlace t_size t_numbers i1' (by first | assumption | omega) (by first | assumption | omega) (by first | assumption | exact all_w (by assumption) (by omega) | (refine all_setw ?_ (Int.le_refl _) ?_ ?_ (by omega) (by omega) <;> first | assumption | omega) | exact all_setw (by assumption) (by omega) (by omega) (by omega) (by omega) (by omega)) (by first | assumption | omega) (by first | assumption | omega)) (fun o2 q2 => ?_)
        obtain ⟨q2_0, q2_1⟩ := q2
        refine Go_chk (by unfold zout; omega) ?_
        refine Go_ite (fun c3 => ?_) (fun c3 => ?_)
        · exact Go_i (show (((2 : Nat) = 0) ∨ ((2 : Nat) = 2 ∧ 2 ≤ ((i1' + (1 : Int))) ∧ ((i1' + (1 : Int))) ≤ 13)) ∧ (20 - ((i1' + (1 : Int)))).toNat < (20 - i1').toNat from ⟨Or.inr (⟨rfl, (by first | assumption | omega), (by first | assumption | omega)⟩), by omega⟩)
        · exact Go_i (show -1 ≤ (i1') ∧ (i1') ≤ 12 from ⟨(by first | assumption | omega), (by first | assumption | omega)⟩)
  · exact (show ((0 : Nat) = 0) ∨ ((0 : Nat) = 2 ∧ 2 ≤ 0 ∧ 0 ≤ 13) from Or.inl (rfl))
  · show 30 < jfuel
    unfold jfuel
    omega
set_option maxRecDepth 20000 in
theorem ok_X2_allAre (t_size : Int) (t_numbers : Nat) (i1 : Int) (i2 : Int) (p0 : 1 ≤ t_size) (p1 : t_size ≤ 10) (p2 : (∀ k : Nat, k < 10 → 0 ≤ zget t_numbers k ∧ zget t_numbers k ≤ 20)) (p3 : -2147483648 ≤ i1) (p4 : i1 ≤ 2147483647) (p5 : -1 ≤ i2) (p6 : i2 ≤ 0) : Go (fun o => True) (zf_X2_allAre t_size t_numbers i1 i2) := by
  unfold zf_X2_allAre
  refine jok (fun (s : zS_X2_allAre) => match s with | (lab, i1', i2', i4') => (lab = 0 ∧ -2147483648 ≤ i1' ∧ i1' ≤ 2147483647 ∧ -1 ≤ i2' ∧ i2' ≤ 0) ∨ (lab = 3 ∧ -2147483648 ≤ i1' ∧ i1' ≤ 2147483647 ∧ -1 ≤ i2' ∧ i2' ≤ 0 ∧ 0 ≤ i4' ∧ i4' ≤ t_size)) (fun (s : zS_X2_allAre) => match s with | (lab, i1', i2', i4') => if lab = 0 then 30 else if lab = 3 then (20 - i4').toNat else 0) (fun (o : zO_X2_allAre) => True) ?_ _ ?_ ?_
  · intro s hI
    obtain ⟨lab, i1', i2', i4'⟩ := s
    have hI : (lab = 0 ∧ -2147483648 ≤ i1' ∧ i1' ≤ 2147483647 ∧ -1 ≤ i2' ∧ i2' ≤ 0) ∨ (lab = 3 ∧ -2147483648 ≤ i1' ∧ i1' ≤ 2147483647 ∧ -1 ≤ i2' ∧ i2' ≤ 0 ∧ 0 ≤ i4' ∧ i4' ≤ t_size) := hI
    rcases hI with ⟨rfl, v0_0, v0_1, v0_2, v0_3⟩ | ⟨rfl, v3_0, v3_1, v3_2, v3_3, v3_4, v3_5⟩
    · show Go _ (zg_X2_allAre_0 t_size t_numbers i1' i2' i4')
      unfold zg_X2_allAre_0
      exact Go_i (show (((3 : Nat) = 0 ∧ -2147483648 ≤ (i1') ∧ (i1') ≤ 2147483647 ∧ -1 ≤ (i2') ∧ (i2') ≤ 0) ∨ ((3 : Nat) = 3 ∧ -2147483648 ≤ (i1') ∧ (i1') ≤ 2147483647 ∧ -1 ≤ (i2') ∧ (i2') ≤ 0 ∧ 0 ≤ ((0 : Int)) ∧ ((0 : Int)) ≤ t_size)) ∧ (20 - ((0 : Int))).toNat < 30 from ⟨Or.inr (⟨rfl, (by first | assumption | omega), (by first | assumption | omega), (by first | assumption | omega), (by first | assumption | omega), (by first | assumption | omega), (by first | assumption | omega)⟩), by omega⟩)
    · show Go _ (zg_X2_allAre_3 t_size t_numbers i1' i2' i4')
      unfold zg_X2_allAre_3
      refine Go_chk (by unfold zout; omega) ?_
      refine Go_chk (by unfold zout; omega) ?_
      refine Go_ite (fun c1 => ?_) (fun c1 => ?_)
      · exact Go_i (show True from trivial)
      · refine Go_bindP (ok_X2_entryAt t_size t_numbers i4' i1' (by first | assumption | omega) (by first | assumption | omega) (by first | assumption | exact all_w (by assumption) (by omega) | (refine all_setw ?_ (Int.le_refl _) ?_ ?_ (by omega) (by omega) <;> first | assumption | omega) | exact all_setw (by assumption) (by omega) (by omega) (by omega) (by omega) (by omega)) (by first | assumption | omega) (by first | assumption | omega) (by first | assumption | omega) (by first | assumption | omega)) (fun o3 q2 => ?_)
        obtain ⟨q2_0, q2_1⟩ := q2
        refine Go_chk (by unfold zoutL; omega) ?_
        refine Go_chk (by unfold zoutL; omega) ?_
        refine Go_ite (fun c3 => ?_) (fun c3 => ?_)
        · exact Go_i (show (((3 : Nat) = 0 ∧ -2147483648 ≤ (i1') ∧ (i1') ≤ 2147483647 ∧ -1 ≤ (i2') ∧ (i2') ≤ 0) ∨ ((3 : Nat) = 3 ∧ -2147483648 ≤ (i1') ∧ (i1') ≤ 2147483647 ∧ -1 ≤ (i2') ∧ (i2') ≤ 0 ∧ 0 ≤ ((i4' + (1 : Int))) ∧ ((i4' + (1 : Int))) ≤ t_size)) ∧ (20 - ((i4' + (1 : Int)))).toNat < (20 - i4').toNat from ⟨Or.inr (⟨rfl, (by first | assumption | omega), (by first | assumption | omega), (by first | assumption | omega), (by first | assumption | omega), (by first | assumption | omega), (by first | assumption | omega)⟩), by omega⟩)
        · exact Go_i (show True from trivial)
  · exact (show ((0 : Nat) = 0 ∧ -2147483648 ≤ i1 ∧ i1 ≤ 2147483647 ∧ -1 ≤ i2 ∧ i2 ≤ 0) ∨ ((0 : Nat) = 3 ∧ -2147483648 ≤ i1 ∧ i1 ≤ 2147483647 ∧ -1 ≤ i2 ∧ i2 ≤ 0 ∧ 0 ≤ 0 ∧ 0 ≤ t_size) from Or.inl (⟨rfl, (by first | assumption | omega), (by first | assumption | omega), (by first | assumption | omega), (by first | assumption | omega)⟩))
  · show 30 < jfuel
    unfold jfuel
    omega
set_option maxRecDepth 20000 in
theorem ok_X2_comesBack (t_size : Int) (t_numbers : Nat) (i1 : Int) (p0 : 1 ≤ t_size) (p1 : t_size ≤ 10) (p2 : (∀ k : Nat, k < 10 → 0 ≤ zget t_numbers k ∧ zget t_numbers k ≤ 20)) (p3 : 0 ≤ i1) (p4 : i1 ≤ 12) : Go (fun o => True) (zf_X2_comesBack t_size t_numbers i1) := by
  unfold zf_X2_comesBack
  refine Go_bindP (ok_X2_allAre t_size t_numbers i1 (0 : Int) (by first | assumption | omega) (by first | assumption | omega) (by first | assumption | exact all_w (by assumption) (by omega) | (refine all_setw ?_ (Int.le_refl _) ?_ ?_ (by omega) (by omega) <;> first | assumption | omega) | exact all_setw (by assumption) (by omega) (by omega) (by omega) (by omega) (by omega)) (by first | assumption | omega) (by first | assumption | omega) (by first | assumption | omega) (by first | assumption | omega)) (fun o1 q1 => ?_)
  refine Go_ite (fun c2 => ?_) (fun c2 => ?_)
  · exact Go_i (show True from trivial)
  · refine Go_chk (by unfold zout; omega) ?_
    refine Go_ite (fun c3 => ?_) (fun c3 => ?_)
    · exact Go_i (show True from trivial)
    · refine Go_bindP (ok_X2_allAre t_size t_numbers (i1 + (1 : Int)) (-1 : Int) (by first | assumption | omega) (by first | assumption | omega) (by first | assumption | exact all_w (by assumption) (by omega) | (refine all_setw ?_ (Int.le_refl _) ?_ ?_ (by omega) (by omega) <;> first | assumption | omega) | exact all_setw (by assumption) (by omega) (by omega) (by omega) (by omega) (by omega)) (by first | assumption | omega) (by first | assumption | omega) (by first | assumption | omega) (by first | assumption | omega)) (fun o3 q4 => ?_)
      refine Go_ite (fun c5 => ?_) (fun c5 => ?_)
      · exact Go_i (show True from trivial)
      · exact Go_i (show True from trivial)
set_option maxRecDepth 20000 in
theorem ok_X2_growthOfRound (t_size : Int) (t_numbers : Nat) (p0 : 1 ≤ t_size) (p1 : t_size ≤ 10) (p2 : (∀ k : Nat, k < 10 → 0 ≤ zget t_numbers k ∧ zget t_numbers k ≤ 20)) : Go (fun o => True) (zf_X2_growthOfRound t_size t_numbers) := by
  unfold zf_X2_growthOfRound
  refine Go_bindP (ok_X2_entryAt t_size t_numbers (0 : Int) (t_size + (1 : Int)) (by first | assumption | omega) (by first | assumption | omega) (by first | assumption | exact all_w (by assumption) (by omega) | (refine all_setw ?_ (Int.le_refl _) ?_ ?_ (by omega) (by omega) <;> first | assumption | omega) | exact all_setw (by assumption) (by omega) (by omega) (by omega) (by omega) (by omega)) (by first | assumption | omega) (by first | assumption | omega) (by first | assumption | omega) (by first | assumption | omega)) (fun o1 q1 => ?_)
  obtain ⟨q1_0, q1_1⟩ := q1
  refine Go_bindP (ok_X2_entryAt t_size t_numbers (1 : Int) (t_size - (1 : Int)) (by first | assumption | omega) (by first | assumption | omega) (by first | assumption | exact all_w (by assumption) (by omega) | (refine all_setw ?_ (Int.le_refl _) ?_ ?_ (by omega) (by omega) <;> first | assumption | omega) | exact all_setw (by assumption) (by omega) (by omega) (by omega) (by omega) (by omega)) (by first | assumption | omega) (by first | assumption | omega) (by first | assumption | omega) (by first | assumption | omega)) (fun o2 q2 => ?_)
  obtain ⟨q2_0, q2_1⟩ := q2
  exact Go_i (show True from trivial)
set_option maxRecDepth 20000 in
theorem ok_X2_canGlue (t_size : Int) (t_numbers : Nat) (i1 : Int) (p0 : 1 ≤ t_size) (p1 : t_size ≤ 10) (p2 : (∀ k : Nat, k < 10 → 0 ≤ zget t_numbers k ∧ zget t_numbers k ≤ 20)) (p3 : 0 ≤ i1) (p4 : i1 < t_size) : Go (fun o => ((o) = true → t_size < 10 ∧ zget t_numbers (Int.toNat i1) ≤ 19 ∧ (t_size = 1 → zget t_numbers 0 ≤ 18) ∧ (i1 + 1 < t_size → zget t_numbers (Int.toNat (i1 + 1)) ≤ 19) ∧ (i1 + 1 = t_size → zget t_numbers 0 ≤ 19)) ∧ ((o) = false → True)) (zf_X2_canGlue t_size t_numbers i1) := by
  unfold zf_X2_canGlue
  refine Go_chk (by unfold zout; omega) ?_
  refine Go_ite (fun c1 => ?_) (fun c1 => ?_)
  · refine Go_ite (fun c2 => ?_) (fun c2 => ?_)
    · refine Go_bindP (ok_X2_at t_size t_numbers i1 (by first | assumption | omega) (by first | assumption | omega) (by first | assumption | exact all_w (by assumption) (by omega) | (refine all_setw ?_ (Int.le_refl _) ?_ ?_ (by omega) (by omega) <;> first | assumption | omega) | exact all_setw (by assumption) (by omega) (by omega) (by omega) (by omega) (by omega)) (by first | assumption | omega) (by first | assumption | omega)) (fun o8 q3 => ?_)
      obtain ⟨q3_0, q3_1, q3_2, q3_3, q3_4⟩ := q3
      refine Go_chk (by unfold zout; omega) ?_
      refine Go_ite (fun c4 => ?_) (fun c4 => ?_)
      · exact Go_i (show ((false) = true → t_size < 10 ∧ zget t_numbers (Int.toNat i1) ≤ 19 ∧ (t_size = 1 → zget t_numbers 0 ≤ 18) ∧ (i1 + 1 < t_size → zget t_numbers (Int.toNat (i1 + 1)) ≤ 19) ∧ (i1 + 1 = t_size → zget t_numbers 0 ≤ 19)) ∧ ((false) = false → True) from ⟨(by intro h; first | exact True.intro | (exact absurd h (by decide)) | (refine ⟨by omega, by omega, ?_, ?_, ?_⟩ <;> intro h2 <;> first | omega | (have e1 : i1 = 0 := by omega) <;> subst e1 <;> simp_all <;> omega)), (by intro h; first | exact True.intro | (exact absurd h (by decide)) | (refine ⟨by omega, by omega, ?_, ?_, ?_⟩ <;> intro h2 <;> first | omega | (have e1 : i1 = 0 := by omega) <;> subst e1 <;> simp_all <;> omega))⟩)
      · refine Go_bindP (ok_X2_at t_size t_numbers (i1 + (1 : Int)) (by first | assumption | omega) (by first | assumption | omega) (by first | assumption | exact all_w (by assumption) (by omega) | (refine all_setw ?_ (Int.le_refl _) ?_ ?_ (by omega) (by omega) <;> first | assumption | omega) | exact all_setw (by assumption) (by omega) (by omega) (by omega) (by omega) (by omega)) (by first | assumption | omega) (by first | assumption | omega)) (fun o10 q5 => ?_)
        obtain ⟨q5_0, q5_1, q5_2, q5_3, q5_4⟩ := q5
        refine Go_chk (by unfold zout; omega) ?_
        refine Go_ite (fun c6 => ?_) (fun c6 => ?_)
        · exact Go_i (show ((false) = true → t_size < 10 ∧ zget t_numbers (Int.toNat i1) ≤ 19 ∧ (t_size = 1 → zget t_numbers 0 ≤ 18) ∧ (i1 + 1 < t_size → zget t_numbers (Int.toNat (i1 + 1)) ≤ 19) ∧ (i1 + 1 = t_size → zget t_numbers 0 ≤ 19)) ∧ ((false) = false → True) from ⟨(by intro h; first | exact True.intro | (exact absurd h (by decide)) | (refine ⟨by omega, by omega, ?_, ?_, ?_⟩ <;> intro h2 <;> first | omega | (have e1 : i1 = 0 := by omega) <;> subst e1 <;> simp_all <;> omega)), (by intro h; first | exact True.intro | (exact absurd h (by decide)) | (refine ⟨by omega, by omega, ?_, ?_, ?_⟩ <;> intro h2 <;> first | omega | (have e1 : i1 = 0 := by omega) <;> subst e1 <;> simp_all <;> omega))⟩)
        · exact Go_i (show ((true) = true → t_size < 10 ∧ zget t_numbers (Int.toNat i1) ≤ 19 ∧ (t_size = 1 → zget t_numbers 0 ≤ 18) ∧ (i1 + 1 < t_size → zget t_numbers (Int.toNat (i1 + 1)) ≤ 19) ∧ (i1 + 1 = t_size → zget t_numbers 0 ≤ 19)) ∧ ((true) = false → True) from ⟨(by intro h; first | exact True.intro | (exact absurd h (by decide)) | (refine ⟨by omega, by omega, ?_, ?_, ?_⟩ <;> intro h2 <;> first | omega | (have e1 : i1 = 0 := by omega) <;> subst e1 <;> simp_all <;> omega)), (by intro h; first | exact True.intro | (exact absurd h (by decide)) | (refine ⟨by omega, by omega, ?_, ?_, ?_⟩ <;> intro h2 <;> first | omega | (have e1 : i1 = 0 := by omega) <;> subst e1 <;> simp_all <;> omega))⟩)
    · refine Go_bindP (ok_X2_at t_size t_numbers i1 (by first | assumption | omega) (by first | assumption | omega) (by first | assumption | exact all_w (by assumption) (by omega) | (refine all_setw ?_ (Int.le_refl _) ?_ ?_ (by omega) (by omega) <;> first | assumption | omega) | exact all_setw (by assumption) (by omega) (by omega) (by omega) (by omega) (by omega)) (by first | assumption | omega) (by first | assumption | omega)) (fun o2 q7 => ?_)
      obtain ⟨q7_0, q7_1, q7_2, q7_3, q7_4⟩ := q7
      refine Go_chk (by unfold zout; omega) ?_
      refine Go_ite (fun c8 => ?_) (fun c8 => ?_)
      · exact Go_i (show ((false) = true → t_size < 10 ∧ zget t_numbers (Int.toNat i1) ≤ 19 ∧ (t_size = 1 → zget t_numbers 0 ≤ 18) ∧ (i1 + 1 < t_size → zget t_numbers (Int.toNat (i1 + 1)) ≤ 19) ∧ (i1 + 1 = t_size → zget t_numbers 0 ≤ 19)) ∧ ((false) = false → True) from ⟨(by intro h; first | exact True.intro | (exact absurd h (by decide)) | (refine ⟨by omega, by omega, ?_, ?_, ?_⟩ <;> intro h2 <;> first | omega | (have e1 : i1 = 0 := by omega) <;> subst e1 <;> simp_all <;> omega)), (by intro h; first | exact True.intro | (exact absurd h (by decide)) | (refine ⟨by omega, by omega, ?_, ?_, ?_⟩ <;> intro h2 <;> first | omega | (have e1 : i1 = 0 := by omega) <;> subst e1 <;> simp_all <;> omega))⟩)
      · refine Go_bindP (ok_X2_at t_size t_numbers (i1 + (1 : Int)) (by first | assumption | omega) (by first | assumption | omega) (by first | assumption | exact all_w (by assumption) (by omega) | (refine all_setw ?_ (Int.le_refl _) ?_ ?_ (by omega) (by omega) <;> first | assumption | omega) | exact all_setw (by assumption) (by omega) (by omega) (by omega) (by omega) (by omega)) (by first | assumption | omega) (by first | assumption | omega)) (fun o4 q9 => ?_)
        obtain ⟨q9_0, q9_1, q9_2, q9_3, q9_4⟩ := q9
        refine Go_chk (by unfold zout; omega) ?_
        refine Go_ite (fun c10 => ?_) (fun c10 => ?_)
        · exact Go_i (show ((false) = true → t_size < 10 ∧ zget t_numbers (Int.toNat i1) ≤ 19 ∧ (t_size = 1 → zget t_numbers 0 ≤ 18) ∧ (i1 + 1 < t_size → zget t_numbers (Int.toNat (i1 + 1)) ≤ 19) ∧ (i1 + 1 = t_size → zget t_numbers 0 ≤ 19)) ∧ ((false) = false → True) from ⟨(by intro h; first | exact True.intro | (exact absurd h (by decide)) | (refine ⟨by omega, by omega, ?_, ?_, ?_⟩ <;> intro h2 <;> first | omega | (have e1 : i1 = 0 := by omega) <;> subst e1 <;> simp_all <;> omega)), (by intro h; first | exact True.intro | (exact absurd h (by decide)) | (refine ⟨by omega, by omega, ?_, ?_, ?_⟩ <;> intro h2 <;> first | omega | (have e1 : i1 = 0 := by omega) <;> subst e1 <;> simp_all <;> omega))⟩)
        · exact Go_i (show ((true) = true → t_size < 10 ∧ zget t_numbers (Int.toNat i1) ≤ 19 ∧ (t_size = 1 → zget t_numbers 0 ≤ 18) ∧ (i1 + 1 < t_size → zget t_numbers (Int.toNat (i1 + 1)) ≤ 19) ∧ (i1 + 1 = t_size → zget t_numbers 0 ≤ 19)) ∧ ((true) = false → True) from ⟨(by intro h; first | exact True.intro | (exact absurd h (by decide)) | (refine ⟨by omega, by omega, ?_, ?_, ?_⟩ <;> intro h2 <;> first | omega | (have e1 : i1 = 0 := by omega) <;> subst e1 <;> simp_all <;> omega)), (by intro h; first | exact True.intro | (exact absurd h (by decide)) | (refine ⟨by omega, by omega, ?_, ?_, ?_⟩ <;> intro h2 <;> first | omega | (have e1 : i1 = 0 := by omega) <;> subst e1 <;> simp_all <;> omega))⟩)
  · exact Go_i (show ((false) = true → t_size < 10 ∧ zget t_numbers (Int.toNat i1) ≤ 19 ∧ (t_size = 1 → zget t_numbers 0 ≤ 18) ∧ (i1 + 1 < t_size → zget t_numbers (Int.toNat (i1 + 1)) ≤ 19) ∧ (i1 + 1 = t_size → zget t_numbers 0 ≤ 19)) ∧ ((false) = false → True) from ⟨(by intro h; first | exact True.intro | (exact absurd h (by decide)) | (refine ⟨by omega, by omega, ?_, ?_, ?_⟩ <;> intro h2 <;> first | omega | (have e1 : i1 = 0 := by omega) <;> subst e1 <;> simp_all <;> omega)), (by intro h; first | exact True.intro | (exact absurd h (by decide)) | (refine ⟨by omega, by omega, ?_, ?_, ?_⟩ <;> intro h2 <;> first | omega | (have e1 : i1 = 0 := by omega) <;> subst e1 <;> simp_all <;> omega))⟩)
set_option maxRecDepth 20000 in
theorem ok_X2_glueBehind (t_size : Int) (t_numbers : Nat) (i1 : Int) (p0 : 1 ≤ t_size) (p1 : t_size ≤ 10) (p2 : (∀ k : Nat, k < 10 → 0 ≤ zget t_numbers k ∧ zget t_numbers k ≤ 20)) (p3 : -2147483648 ≤ i1) (p4 : i1 ≤ 2147483647) : Go (fun o => 1 ≤ (o.2.1) ∧ (o.2.1) ≤ 10 ∧ (∀ k : Nat, k < 10 → 0 ≤ zget (o.2.2) k ∧ zget (o.2.2) k ≤ 20) ∧ (o.1) = (o.2.1)) (zf_X2_glueBehind t_size t_numbers i1) := by
  unfold zf_X2_glueBehind
  refine jok (fun (s : zS_X2_glueBehind) => match s with | (lab, i1', i2', t_size', t_numbers') => (lab = 0 ∧ 1 ≤ t_size' ∧ t_size' ≤ 10 ∧ (∀ k : Nat, k < 10 → 0 ≤ zget t_numbers' k ∧ zget t_numbers' k ≤ 20) ∧ -2147483648 ≤ i1' ∧ i1' ≤ 2147483647) ∨ (lab = 52 ∧ 1 ≤ t_size' ∧ t_size' ≤ 9 ∧ (∀ k : Nat, k < 10 → 0 ≤ zget t_numbers' k ∧ zget t_numbers' k ≤ 20) ∧ 0 ≤ i1' ∧ i1' < t_size' ∧ i1' < i2' ∧ i2' ≤ t_size')) (fun (s : zS_X2_glueBehind) => match s with | (lab, i1', i2', t_size', t_numbers') => if lab = 0 then 50 else if lab = 52 then (i2').toNat else 0) (fun (o : zO_X2_glueBehind) => 1 ≤ (o.2.1) ∧ (o.2.1) ≤ 10 ∧ (∀ k : Nat, k < 10 → 0 ≤ zget (o.2.2) k ∧ zget (o.2.2) k ≤ 20) ∧ (o.1) = (o.2.1)) ?_ _ ?_ ?_
  · intro s hI
    obtain ⟨lab, i1', i2', t_size', t_numbers'⟩ := s
    have hI : (lab = 0 ∧ 1 ≤ t_size' ∧ t_size' ≤ 10 ∧ (∀ k : Nat, k < 10 → 0 ≤ zget t_numbers' k ∧ zget t_numbers' k ≤ 20) ∧ -2147483648 ≤ i1' ∧ i1' ≤ 2147483647) ∨ (lab = 52 ∧ 1 ≤ t_size' ∧ t_size' ≤ 9 ∧ (∀ k : Nat, k < 10 → 0 ≤ zget t_numbers' k ∧ zget t_numbers' k ≤ 20) ∧ 0 ≤ i1' ∧ i1' < t_size' ∧ i1' < i2' ∧ i2' ≤ t_size') := hI
    rcases hI with ⟨rfl, v0_0, v0_1, v0_2, v0_3, v0_4⟩ | ⟨rfl, v52_0, v52_1, v52_2, v52_3, v52_4, v52_5, v52_6⟩
    · show Go _ (zg_X2_glueBehind_0 i1' i2' t_size' t_numbers')
      unfold zg_X2_glueBehind_0
      refine Go_bindP (ok_X2_hasPlace t_size' i1' (by first | assumption | omega) (by first | assumption | omega) (by first | assumption | omega) (by first | assumption | omega)) (fun o1 q1 => ?_)
      obtain ⟨q1_0, q1_1⟩ := q1
      refine Go_ite (fun c2 => ?_) (fun c2 => ?_)
      · have dc2 := q1_1 c2
        exact Go_i (show 1 ≤ (t_size') ∧ (t_size') ≤ 10 ∧ (∀ k : Nat, k < 10 → 0 ≤ zget (t_numbers') k ∧ zget (t_numbers') k ≤ 20) ∧ (t_size') = (t_size') from ⟨(by first | assumption | omega), (by first | assumption | omega), (by first | assumption | exact all_w (by assumption) (by omega) | (refine all_setw ?_ (Int.le_refl _) ?_ ?_ (by omega) (by omega) <;> first | assumption | omega) | exact all_setw (by assumption) (by omega) (by omega) (by omega) (by omega) (by omega)), (by first | assumption | omega)⟩)
      · have dc2 := q1_0 (bnf c2)
        refine Go_bindP (ok_X2_canGlue t_size' t_numbers' i1' (by first | assumption | omega) (by first | assumption | omega) (by first | assumption | exact all_w (by assumption) (by omega) | (refine all_setw ?_ (Int.le_refl _) ?_ ?_ (by omega) (by omega) <;> first | assumption | omega) | exact all_setw (by assumption) (by omega) (by omega) (by omega) (by omega) (by omega)) (by first | assumption | omega) (by first | assumption | omega)) (fun o2 q3 => ?_)
        obtain ⟨q3_0, q3_1⟩ := q3
        refine Go_ite (fun c4 => ?_) (fun c4 => ?_)
        · have dc4 := q3_1 c4
          exact Go_i (show 1 ≤ (t_size') ∧ (t_size') ≤ 10 ∧ (∀ k : Nat, k < 10 → 0 ≤ zget (t_numbers') k ∧ zget (t_numbers') k ≤ 20) ∧ (t_size') = (t_size') from ⟨(by first | assumption | omega), (by first | assumption | omega), (by first | assumption | exact all_w (by assumption) (by omega) | (refine all_setw ?_ (Int.le_refl _) ?_ ?_ (by omega) (by omega) <;> first | assumption | omega) | exact all_setw (by assumption) (by omega) (by omega) (by omega) (by omega) (by omega)), (by first | assumption | omega)⟩)
        · have dc4 := q3_0 (bnf c4)
          refine Go_chk (by omega) ?_
          refine Go_bindP (ok_X2_wrapped t_size' (i1' + (1 : Int)) (by first | assumption | omega) (by first | assumption | omega) (by first | assumption | omega) (by first | assumption | omega)) (fun o4 q5 => ?_)
          obtain ⟨q5_0, q5_1, q5_2, q5_3, q5_4⟩ := q5
          refine Go_chk (by omega) ?_
          have g1 := v0_2 (Int.toNat i1') (by omega)
          have g2 : 0 ≤ zget t_numbers' (Int.toNat o4) ∧ zget t_numbers' (Int.toNat o4) ≤ 19 := by
            have g3 := v0_2 (Int.toNat o4) (by omega)
            by_cases z : i1' + 1 = t_size'
            · rw [show Int.toNat o4 = 0 by omega] at g3 ⊢; omega
            · rw [show o4 = i1' + 1 by omega] at g3 ⊢; omega
          have g4 : t_size' = 1 → zget t_numbers' (Int.toNat i1') ≤ 18 := by
            intro z
            rw [show Int.toNat i1' = 0 by omega]; omega
          have a6 := rget t_numbers' (Int.toNat i1')
          have a7 := rget (zset t_numbers' (Int.toNat i1') ((zget t_numbers' (Int.toNat i1')) + (1 : Int))) (Int.toNat o4)
          have a8 := zget_set_c t_numbers' (Int.toNat i1') (Int.toNat o4) (v := ((zget t_numbers' (Int.toNat i1')) + (1 : Int))) (by unfold zout; omega)
          exact Go_i (show (((52 : Nat) = 0 ∧ 1 ≤ (t_size') ∧ (t_size') ≤ 10 ∧ (∀ k : Nat, k < 10 → 0 ≤ zget ((zset (zset t_numbers' (Int.toNat i1') ((zget t_numbers' (Int.toNat i1')) + (1 : Int))) (Int.toNat o4) ((zget (zset t_numbers' (Int.toNat i1') ((zget t_numbers' (Int.toNat i1')) + (1 : Int))) (Int.toNat o4)) + (1 : Int)))) k ∧ zget ((zset (zset t_numbers' (Int.toNat i1') ((zget t_numbers' (Int.toNat i1')) + (1 : Int))) (Int.toNat o4) ((zget (zset t_numbers' (Int.toNat i1') ((zget t_numbers' (Int.toNat i1')) + (1 : Int))) (Int.toNat o4)) + (1 : Int)))) k ≤ 20) ∧ -2147483648 ≤ (i1') ∧ (i1') ≤ 2147483647) ∨ ((52 : Nat) = 52 ∧ 1 ≤ (t_size') ∧ (t_size') ≤ 9 ∧ (∀ k : Nat, k < 10 → 0 ≤ zget ((zset (zset t_numbers' (Int.toNat i1') ((zget t_numbers' (Int.toNat i1')) + (1 : Int))) (Int.toNat o4) ((zget (zset t_numbers' (Int.toNat i1') ((zget t_numbers' (Int.toNat i1')) + (1 : Int))) (Int.toNat o4)) + (1 : Int)))) k ∧ zget ((zset (zset t_numbers' (Int.toNat i1') ((zget t_numbers' (Int.toNat i1')) + (1 : Int))) (Int.toNat o4) ((zget (zset t_numbers' (Int.toNat i1') ((zget t_numbers' (Int.toNat i1')) + (1 : Int))) (Int.toNat o4)) + (1 : Int)))) k ≤ 20) ∧ 0 ≤ (i1') ∧ (i1') < (t_size') ∧ (i1') < (t_size') ∧ (t_size') ≤ (t_size'))) ∧ ((t_size')).toNat < 50 from ⟨Or.inr (⟨rfl, (by first | assumption | omega), (by first | assumption | omega), (by refine all_setw (hi := 20) ?_ (Int.le_refl _) ?_ ?_ (by omega) (by omega) <;> first | omega | (refine all_setw (hi := 20) ?_ (Int.le_refl _) ?_ ?_ (by omega) (by omega) <;> first | omega | assumption)), (by first | assumption | omega), (by first | assumption | omega), (by first | assumption | omega), (by first | assumption | omega)⟩), by omega⟩)
    · show Go _ (zg_X2_glueBehind_52 i1' i2' t_size' t_numbers')
      unfold zg_X2_glueBehind_52
      refine Go_chk (by unfold zout; omega) ?_
      refine Go_chk (by unfold zout; omega) ?_
      refine Go_ite (fun c9 => ?_) (fun c9 => ?_)
      · refine Go_chk (by omega) ?_
        exact Go_i (show 1 ≤ ((t_size' + (1 : Int))) ∧ ((t_size' + (1 : Int))) ≤ 10 ∧ (∀ k : Nat, k < 10 → 0 ≤ zget ((zset t_numbers' (Int.toNat (i1' + (1 : Int))) (1 : Int))) k ∧ zget ((zset t_numbers' (Int.toNat (i1' + (1 : Int))) (1 : Int))) k ≤ 20) ∧ ((t_size' + (1 : Int))) = ((t_size' + (1 : Int))) from ⟨(by first | assumption | omega), (by first | assumption | omega), (by first | assumption | exact all_w (by assumption) (by omega) | (refine all_setw ?_ (Int.le_refl _) ?_ ?_ (by omega) (by omega) <;> first | assumption | omega) | exact all_setw (by assumption) (by omega) (by omega) (by omega) (by omega) (by omega)), (by first | assumption | omega)⟩)
      · refine Go_chk (by omega) ?_
        refine Go_chk (by omega) ?_
        have g1 := v52_2 (Int.toNat (i2' - (1 : Int))) (by omega)
        have a10 := rget t_numbers' (Int.toNat (i2' - (1 : Int)))
        exact Go_i (show (((52 : Nat) = 0 ∧ 1 ≤ (t_size') ∧ (t_size') ≤ 10 ∧ (∀ k : Nat, k < 10 → 0 ≤ zget ((zset t_numbers' (Int.toNat i2') (zget t_numbers' (Int.toNat (i2' - (1 : Int)))))) k ∧ zget ((zset t_numbers' (Int.toNat i2') (zget t_numbers' (Int.toNat (i2' - (1 : Int)))))) k ≤ 20) ∧ -2147483648 ≤ (i1') ∧ (i1') ≤ 2147483647) ∨ ((52 : Nat) = 52 ∧ 1 ≤ (t_size') ∧ (t_size') ≤ 9 ∧ (∀ k : Nat, k < 10 → 0 ≤ zget ((zset t_numbers' (Int.toNat i2') (zget t_numbers' (Int.toNat (i2' - (1 : Int)))))) k ∧ zget ((zset t_numbers' (Int.toNat i2') (zget t_numbers' (Int.toNat (i2' - (1 : Int)))))) k ≤ 20) ∧ 0 ≤ (i1') ∧ (i1') < (t_size') ∧ (i1') < ((i2' + (-1 : Int))) ∧ ((i2' + (-1 : Int))) ≤ (t_size'))) ∧ (((i2' + (-1 : Int)))).toNat < (i2').toNat from ⟨Or.inr (⟨rfl, (by first | assumption | omega), (by first | assumption | omega), (by first | assumption | exact all_w (by assumption) (by omega) | (refine all_setw ?_ (Int.le_refl _) ?_ ?_ (by omega) (by omega) <;> first | assumption | omega) | exact all_setw (by assumption) (by omega) (by omega) (by omega) (by omega) (by omega)), (by first | assumption | omega), (by first | assumption | omega), (by first | assumption | omega), (by first | assumption | omega)⟩), by omega⟩)
  · exact (show ((0 : Nat) = 0 ∧ 1 ≤ t_size ∧ t_size ≤ 10 ∧ (∀ k : Nat, k < 10 → 0 ≤ zget t_numbers k ∧ zget t_numbers k ≤ 20) ∧ -2147483648 ≤ i1 ∧ i1 ≤ 2147483647) ∨ ((0 : Nat) = 52 ∧ 1 ≤ t_size ∧ t_size ≤ 9 ∧ (∀ k : Nat, k < 10 → 0 ≤ zget t_numbers k ∧ zget t_numbers k ≤ 20) ∧ 0 ≤ i1 ∧ i1 < t_size ∧ i1 < 0 ∧ 0 ≤ t_size) from Or.inl (⟨rfl, (by first | assumption | omega), (by first | assumption | omega), (by first | assumption | exact all_w (by assumption) (by omega) | (refine all_setw ?_ (Int.le_refl _) ?_ ?_ (by omega) (by omega) <;> first | assumption | omega) | exact all_setw (by assumption) (by omega) (by omega) (by omega) (by omega) (by omega)), (by first | assumption | omega), (by first | assumption | omega)⟩))
  · show 50 < jfuel
    unfold jfuel
    omega
set_option maxRecDepth 20000 in
theorem ok_X2_canLose (t_size : Int) (t_numbers : Nat) (i1 : Int) (p0 : 1 ≤ t_size) (p1 : t_size ≤ 10) (p2 : (∀ k : Nat, k < 10 → 0 ≤ zget t_numbers k ∧ zget t_numbers k ≤ 20)) (p3 : 0 ≤ i1) (p4 : i1 < t_size) : Go (fun o => ((o) = true → 3 ≤ t_size ∧ (1 ≤ i1 → 2 ≤ zget t_numbers (Int.toNat (i1 - 1))) ∧ (i1 = 0 → 2 ≤ zget t_numbers (Int.toNat (t_size - 1))) ∧ (i1 + 1 < t_size → 2 ≤ zget t_numbers (Int.toNat (i1 + 1))) ∧ (i1 + 1 = t_size → 2 ≤ zget t_numbers 0)) ∧ ((o) = false → True)) (zf_X2_canLose t_size t_numbers i1) := by
  unfold zf_X2_canLose
  refine Go_chk (by unfold zout; omega) ?_
  refine Go_ite (fun c1 => ?_) (fun c1 => ?_)
  · exact Go_i (show ((false) = true → 3 ≤ t_size ∧ (1 ≤ i1 → 2 ≤ zget t_numbers (Int.toNat (i1 - 1))) ∧ (i1 = 0 → 2 ≤ zget t_numbers (Int.toNat (t_size - 1))) ∧ (i1 + 1 < t_size → 2 ≤ zget t_numbers (Int.toNat (i1 + 1))) ∧ (i1 + 1 = t_size → 2 ≤ zget t_numbers 0)) ∧ ((false) = false → True) from ⟨(by intro h; first | exact True.intro | (exact absurd h (by decide)) | (refine ⟨by omega, ?_, ?_, ?_, ?_⟩ <;> intro h2 <;> omega)), (by intro h; first | exact True.intro | (exact absurd h (by decide)) | (refine ⟨by omega, ?_, ?_, ?_, ?_⟩ <;> intro h2 <;> omega))⟩)
  · refine Go_bindP (ok_X2_at t_size t_numbers i1 (by first | assumption | omega) (by first | assumption | omega) (by first | assumption | exact all_w (by assumption) (by omega) | (refine all_setw ?_ (Int.le_refl _) ?_ ?_ (by omega) (by omega) <;> first | assumption | omega) | exact all_setw (by assumption) (by omega) (by omega) (by omega) (by omega) (by omega)) (by first | assumption | omega) (by first | assumption | omega)) (fun o2 q2 => ?_)
    obtain ⟨q2_0, q2_1, q2_2, q2_3, q2_4⟩ := q2
    refine Go_chk (by unfold zout; omega) ?_
    refine Go_ite (fun c3 => ?_) (fun c3 => ?_)
    · refine Go_bindP (ok_X2_at t_size t_numbers (i1 - (1 : Int)) (by first | assumption | omega) (by first | assumption | omega) (by first | assumption | exact all_w (by assumption) (by omega) | (refine all_setw ?_ (Int.le_refl _) ?_ ?_ (by omega) (by omega) <;> first | assumption | omega) | exact all_setw (by assumption) (by omega) (by omega) (by omega) (by omega) (by omega)) (by first | assumption | omega) (by first | assumption | omega)) (fun o4 q4 => ?_)
      obtain ⟨q4_0, q4_1, q4_2, q4_3, q4_4⟩ := q4
      refine Go_chk (by unfold zout; omega) ?_
      refine Go_ite (fun c5 => ?_) (fun c5 => ?_)
      · exact Go_i (show ((false) = true → 3 ≤ t_size ∧ (1 ≤ i1 → 2 ≤ zget t_numbers (Int.toNat (i1 - 1))) ∧ (i1 = 0 → 2 ≤ zget t_numbers (Int.toNat (t_size - 1))) ∧ (i1 + 1 < t_size → 2 ≤ zget t_numbers (Int.toNat (i1 + 1))) ∧ (i1 + 1 = t_size → 2 ≤ zget t_numbers 0)) ∧ ((false) = false → True) from ⟨(by intro h; first | exact True.intro | (exact absurd h (by decide)) | (refine ⟨by omega, ?_, ?_, ?_, ?_⟩ <;> intro h2 <;> omega)), (by intro h; first | exact True.intro | (exact absurd h (by decide)) | (refine ⟨by omega, ?_, ?_, ?_, ?_⟩ <;> intro h2 <;> omega))⟩)
      · refine Go_bindP (ok_X2_at t_size t_numbers (i1 + (1 : Int)) (by first | assumption | omega) (by first | assumption | omega) (by first | assumption | exact all_w (by assumption) (by omega) | (refine all_setw ?_ (Int.le_refl _) ?_ ?_ (by omega) (by omega) <;> first | assumption | omega) | exact all_setw (by assumption) (by omega) (by omega) (by omega) (by omega) (by omega)) (by first | assumption | omega) (by first | assumption | omega)) (fun o6 q6 => ?_)
        obtain ⟨q6_0, q6_1, q6_2, q6_3, q6_4⟩ := q6
        refine Go_chk (by unfold zout; omega) ?_
        refine Go_ite (fun c7 => ?_) (fun c7 => ?_)
        · exact Go_i (show ((false) = true → 3 ≤ t_size ∧ (1 ≤ i1 → 2 ≤ zget t_numbers (Int.toNat (i1 - 1))) ∧ (i1 = 0 → 2 ≤ zget t_numbers (Int.toNat (t_size - 1))) ∧ (i1 + 1 < t_size → 2 ≤ zget t_numbers (Int.toNat (i1 + 1))) ∧ (i1 + 1 = t_size → 2 ≤ zget t_numbers 0)) ∧ ((false) = false → True) from ⟨(by intro h; first | exact True.intro | (exact absurd h (by decide)) | (refine ⟨by omega, ?_, ?_, ?_, ?_⟩ <;> intro h2 <;> omega)), (by intro h; first | exact True.intro | (exact absurd h (by decide)) | (refine ⟨by omega, ?_, ?_, ?_, ?_⟩ <;> intro h2 <;> omega))⟩)
        · exact Go_i (show ((true) = true → 3 ≤ t_size ∧ (1 ≤ i1 → 2 ≤ zget t_numbers (Int.toNat (i1 - 1))) ∧ (i1 = 0 → 2 ≤ zget t_numbers (Int.toNat (t_size - 1))) ∧ (i1 + 1 < t_size → 2 ≤ zget t_numbers (Int.toNat (i1 + 1))) ∧ (i1 + 1 = t_size → 2 ≤ zget t_numbers 0)) ∧ ((true) = false → True) from ⟨(by intro h; first | exact True.intro | (exact absurd h (by decide)) | (refine ⟨by omega, ?_, ?_, ?_, ?_⟩ <;> intro h2 <;> omega)), (by intro h; first | exact True.intro | (exact absurd h (by decide)) | (refine ⟨by omega, ?_, ?_, ?_, ?_⟩ <;> intro h2 <;> omega))⟩)
    · exact Go_i (show ((false) = true → 3 ≤ t_size ∧ (1 ≤ i1 → 2 ≤ zget t_numbers (Int.toNat (i1 - 1))) ∧ (i1 = 0 → 2 ≤ zget t_numbers (Int.toNat (t_size - 1))) ∧ (i1 + 1 < t_size → 2 ≤ zget t_numbers (Int.toNat (i1 + 1))) ∧ (i1 + 1 = t_size → 2 ≤ zget t_numbers 0)) ∧ ((false) = false → True) from ⟨(by intro h; first | exact True.intro | (exact absurd h (by decide)) | (refine ⟨by omega, ?_, ?_, ?_, ?_⟩ <;> intro h2 <;> omega)), (by intro h; first | exact True.intro | (exact absurd h (by decide)) | (refine ⟨by omega, ?_, ?_, ?_, ?_⟩ <;> intro h2 <;> omega))⟩)
set_option maxRecDepth 20000 in
theorem ok_X2_lose (t_size : Int) (t_numbers : Nat) (i1 : Int) (p0 : 1 ≤ t_size) (p1 : t_size ≤ 10) (p2 : (∀ k : Nat, k < 10 → 0 ≤ zget t_numbers k ∧ zget t_numbers k ≤ 20)) (p3 : -2147483648 ≤ i1) (p4 : i1 ≤ 2147483647) : Go (fun o => 1 ≤ (o.2.1) ∧ (o.2.1) ≤ 10 ∧ (∀ k : Nat, k < 10 → 0 ≤ zget (o.2.2) k ∧ zget (o.2.2) k ≤ 20) ∧ (o.1) = (o.2.1)) (zf_X2_lose t_size t_numbers i1) := by
  unfold zf_X2_lose
  refine jok (fun (s : zS_X2_lose) => match s with | (lab, i1', i2', t_size', t_numbers') => (lab = 0 ∧ 1 ≤ t_size' ∧ t_size' ≤ 10 ∧ (∀ k : Nat, k < 10 → 0 ≤ zget t_numbers' k ∧ zget t_numbers' k ≤ 20) ∧ -2147483648 ≤ i1' ∧ i1' ≤ 2147483647) ∨ (lab = 55 ∧ 3 ≤ t_size' ∧ t_size' ≤ 10 ∧ (∀ k : Nat, k < 10 → 0 ≤ zget t_numbers' k ∧ zget t_numbers' k ≤ 20) ∧ 0 ≤ i2' ∧ i2' < t_size')) (fun (s : zS_X2_lose) => match s with | (lab, i1', i2', t_size', t_numbers') => if lab = 0 then 50 else if lab = 55 then (20 - i2').toNat else 0) (fun (o : zO_X2_lose) => 1 ≤ (o.2.1) ∧ (o.2.1) ≤ 10 ∧ (∀ k : Nat, k < 10 → 0 ≤ zget (o.2.2) k ∧ zget (o.2.2) k ≤ 20) ∧ (o.1) = (o.2.1)) ?_ _ ?_ ?_
  · intro s hI
    obtain ⟨lab, i1', i2', t_size', t_numbers'⟩ := s
    have hI : (lab = 0 ∧ 1 ≤ t_size' ∧ t_size' ≤ 10 ∧ (∀ k : Nat, k < 10 → 0 ≤ zget t_numbers' k ∧ zget t_numbers' k ≤ 20) ∧ -2147483648 ≤ i1' ∧ i1' ≤ 2147483647) ∨ (lab = 55 ∧ 3 ≤ t_size' ∧ t_size' ≤ 10 ∧ (∀ k : Nat, k < 10 → 0 ≤ zget t_numbers' k ∧ zget t_numbers' k ≤ 20) ∧ 0 ≤ i2' ∧ i2' < t_size') := hI
    rcases hI with ⟨rfl, v0_0, v0_1, v0_2, v0_3, v0_4⟩ | ⟨rfl, v55_0, v55_1, v55_2, v55_3, v55_4⟩
    · show Go _ (zg_X2_lose_0 i1' i2' t_size' t_numbers')
      unfold zg_X2_lose_0
      refine Go_bindP (ok_X2_hasPlace t_size' i1' (by first | assumption | omega) (by first | assumption | omega) (by first | assumption | omega) (by first | assumption | omega)) (fun o1 q1 => ?_)
      obtain ⟨q1_0, q1_1⟩ := q1
      refine Go_ite (fun c2 => ?_) (fun c2 => ?_)
      · have dc2 := q1_1 c2
        exact Go_i (show 1 ≤ (t_size') ∧ (t_size') ≤ 10 ∧ (∀ k : Nat, k < 10 → 0 ≤ zget (t_numbers') k ∧ zget (t_numbers') k ≤ 20) ∧ (t_size') = (t_size') from ⟨(by first | assumption | omega), (by first | assumption | omega), (by first | assumption | exact all_w (by assumption) (by omega) | (refine all_setw ?_ (Int.le_refl _) ?_ ?_ (by omega) (by omega) <;> first | assumption | omega) | exact all_setw (by assumption) (by omega) (by omega) (by omega) (by omega) (by omega)), (by first | assumption | omega)⟩)
      · have dc2 := q1_0 (bnf c2)
        refine Go_bindP (ok_X2_canLose t_size' t_numbers' i1' (by first | assumption | omega) (by first | assumption | omega) (by first | assumption | exact all_w (by assumption) (by omega) | (refine all_setw ?_ (Int.le_refl _) ?_ ?_ (by omega) (by omega) <;> first | assumption | omega) | exact all_setw (by assumption) (by omega) (by omega) (by omega) (by omega) (by omega)) (by first | assumption | omega) (by first | assumption | omega)) (fun o2 q3 => ?_)
        obtain ⟨q3_0, q3_1⟩ := q3
        refine Go_ite (fun c4 => ?_) (fun c4 => ?_)
        · have dc4 := q3_1 c4
          exact Go_i (show 1 ≤ (t_size') ∧ (t_size') ≤ 10 ∧ (∀ k : Nat, k < 10 → 0 ≤ zget (t_numbers') k ∧ zget (t_numbers') k ≤ 20) ∧ (t_size') = (t_size') from ⟨(by first | assumption | omega), (by first | assumption | omega), (by first | assumption | exact all_w (by assumption) (by omega) | (refine all_setw ?_ (Int.le_refl _) ?_ ?_ (by omega) (by omega) <;> first | assumption | omega) | exact all_setw (by assumption) (by omega) (by omega) (by omega) (by omega) (by omega)), (by first | assumption | omega)⟩)
        · have dc4 := q3_0 (bnf c4)
          refine Go_bindP (ok_X2_wrapped t_size' (i1' - (1 : Int)) (by first | assumption | omega) (by first | assumption | omega) (by first | assumption | omega) (by first | assumption | omega)) (fun o3 q5 => ?_)
          obtain ⟨q5_0, q5_1, q5_2, q5_3, q5_4⟩ := q5
          refine Go_chk (by omega) ?_
          refine Go_bindP (ok_X2_wrapped t_size' (i1' + (1 : Int)) (by first | assumption | omega) (by first | assumption | omega) (by first | assumption | omega) (by first | assumption | omega)) (fun o5 q6 => ?_)
          obtain ⟨q6_0, q6_1, q6_2, q6_3, q6_4⟩ := q6
          refine Go_chk (by omega) ?_
          have g2 : 2 ≤ zget t_numbers' (Int.toNat o3) ∧ zget t_numbers' (Int.toNat o3) ≤ 20 := by
            have g3 := v0_2 (Int.toNat o3) (by omega)
            by_cases z : i1' = 0
            · rw [show o3 = t_size' - 1 by omega] at g3 ⊢; omega
            · rw [show o3 = i1' - 1 by omega] at g3 ⊢; omega
          have g4 : 2 ≤ zget t_numbers' (Int.toNat o5) ∧ zget t_numbers' (Int.toNat o5) ≤ 20 := by
            have g3 := v0_2 (Int.toNat o5) (by omega)
            by_cases z : i1' + 1 = t_size'
            · rw [show Int.toNat o5 = 0 by omega] at g3 ⊢; omega
            · rw [show o5 = i1' + 1 by omega] at g3 ⊢; omega
          have a7 := rget t_numbers' (Int.toNat o3)
          have a8 := rget (zset t_numbers' (Int.toNat o3) ((zget t_numbers' (Int.toNat o3)) - (1 : Int))) (Int.toNat o5)
          have a9 := zget_set_c t_numbers' (Int.toNat o3) (Int.toNat o5) (v := ((zget t_numbers' (Int.toNat o3)) - (1 : Int))) (by unfold zout; omega)
          exact Go_i (show (((55 : Nat) = 0 ∧ 1 ≤ (t_size') ∧ (t_size') ≤ 10 ∧ (∀ k : Nat, k < 10 → 0 ≤ zget ((zset (zset t_numbers' (Int.toNat o3) ((zget t_numbers' (Int.toNat o3)) - (1 : Int))) (Int.toNat o5) ((zget (zset t_numbers' (Int.toNat o3) ((zget t_numbers' (Int.toNat o3)) - (1 : Int))) (Int.toNat o5)) - (1 : Int)))) k ∧ zget ((zset (zset t_numbers' (Int.toNat o3) ((zget t_numbers' (Int.toNat o3)) - (1 : Int))) (Int.toNat o5) ((zget (zset t_numbers' (Int.toNat o3) ((zget t_numbers' (Int.toNat o3)) - (1 : Int))) (Int.toNat o5)) - (1 : Int)))) k ≤ 20) ∧ -2147483648 ≤ (i1') ∧ (i1') ≤ 2147483647) ∨ ((55 : Nat) = 55 ∧ 3 ≤ (t_size') ∧ (t_size') ≤ 10 ∧ (∀ k : Nat, k < 10 → 0 ≤ zget ((zset (zset t_numbers' (Int.toNat o3) ((zget t_numbers' (Int.toNat o3)) - (1 : Int))) (Int.toNat o5) ((zget (zset t_numbers' (Int.toNat o3) ((zget t_numbers' (Int.toNat o3)) - (1 : Int))) (Int.toNat o5)) - (1 : Int)))) k ∧ zget ((zset (zset t_numbers' (Int.toNat o3) ((zget t_numbers' (Int.toNat o3)) - (1 : Int))) (Int.toNat o5) ((zget (zset t_numbers' (Int.toNat o3) ((zget t_numbers' (Int.toNat o3)) - (1 : Int))) (Int.toNat o5)) - (1 : Int)))) k ≤ 20) ∧ 0 ≤ (i1') ∧ (i1') < (t_size'))) ∧ (20 - (i1')).toNat < 50 from ⟨Or.inr (⟨rfl, (by first | assumption | omega), (by first | assumption | omega), (by refine all_setw (hi := 20) ?_ (Int.le_refl _) ?_ ?_ (by omega) (by omega) <;> first | omega | (refine all_setw (hi := 20) ?_ (Int.le_refl _) ?_ ?_ (by omega) (by omega) <;> first | omega | assumption)), (by first | assumption | omega), (by first | assumption | omega)⟩), by omega⟩)
    · show Go _ (zg_X2_lose_55 i1' i2' t_size' t_numbers')
      unfold zg_X2_lose_55
      refine Go_chk (by unfold zout; omega) ?_
      refine Go_chk (by unfold zout; omega) ?_
      refine Go_ite (fun c10 => ?_) (fun c10 => ?_)
      · exact Go_i (show 1 ≤ ((t_size' - (1 : Int))) ∧ ((t_size' - (1 : Int))) ≤ 10 ∧ (∀ k : Nat, k < 10 → 0 ≤ zget (t_numbers') k ∧ zget (t_numbers') k ≤ 20) ∧ ((t_size' - (1 : Int))) = ((t_size' - (1 : Int))) from ⟨(by first | assumption | omega), (by first | assumption | omega), (by first | assumption | exact all_w (by assumption) (by omega) | (refine all_setw ?_ (Int.le_refl _) ?_ ?_ (by omega) (by omega) <;> first | assumption | omega) | exact all_setw (by assumption) (by omega) (by omega) (by omega) (by omega) (by omega)), (by first | assumption | omega)⟩)
      · refine Go_chk (by omega) ?_
        refine Go_chk (by omega) ?_
        have g1 := v55_2 (Int.toNat (i2' + (1 : Int))) (by omega)
        have a11 := rget t_numbers' (Int.toNat (i2' + (1 : Int)))
        exact Go_i (show (((55 : Nat) = 0 ∧ 1 ≤ (t_size') ∧ (t_size') ≤ 10 ∧ (∀ k : Nat, k < 10 → 0 ≤ zget ((zset t_numbers' (Int.toNat i2') (zget t_numbers' (Int.toNat (i2' + (1 : Int)))))) k ∧ zget ((zset t_numbers' (Int.toNat i2') (zget t_numbers' (Int.toNat (i2' + (1 : Int)))))) k ≤ 20) ∧ -2147483648 ≤ (0) ∧ (0) ≤ 2147483647) ∨ ((55 : Nat) = 55 ∧ 3 ≤ (t_size') ∧ (t_size') ≤ 10 ∧ (∀ k : Nat, k < 10 → 0 ≤ zget ((zset t_numbers' (Int.toNat i2') (zget t_numbers' (Int.toNat (i2' + (1 : Int)))))) k ∧ zget ((zset t_numbers' (Int.toNat i2') (zget t_numbers' (Int.toNat (i2' + (1 : Int)))))) k ≤ 20) ∧ 0 ≤ ((i2' + (1 : Int))) ∧ ((i2' + (1 : Int))) < (t_size'))) ∧ (20 - ((i2' + (1 : Int)))).toNat < (20 - i2').toNat from ⟨Or.inr (⟨rfl, (by first | assumption | omega), (by first | assumption | omega), (by first | assumption | exact all_w (by assumption) (by omega) | (refine all_setw ?_ (Int.le_refl _) ?_ ?_ (by omega) (by omega) <;> first | assumption | omega) | exact all_setw (by assumption) (by omega) (by omega) (by omega) (by omega) (by omega)), (by first | assumption | omega), (by first | assumption | omega)⟩), by omega⟩)
  · exact (show ((0 : Nat) = 0 ∧ 1 ≤ t_size ∧ t_size ≤ 10 ∧ (∀ k : Nat, k < 10 → 0 ≤ zget t_numbers k ∧ zget t_numbers k ≤ 20) ∧ -2147483648 ≤ i1 ∧ i1 ≤ 2147483647) ∨ ((0 : Nat) = 55 ∧ 3 ≤ t_size ∧ t_size ≤ 10 ∧ (∀ k : Nat, k < 10 → 0 ≤ zget t_numbers k ∧ zget t_numbers k ≤ 20) ∧ 0 ≤ 0 ∧ 0 < t_size) from Or.inl (⟨rfl, (by first | assumption | omega), (by first | assumption | omega), (by first | assumption | exact all_w (by assumption) (by omega) | (refine all_setw ?_ (Int.le_refl _) ?_ ?_ (by omega) (by omega) <;> first | assumption | omega) | exact all_setw (by assumption) (by omega) (by omega) (by omega) (by omega) (by omega)), (by first | assumption | omega), (by first | assumption | omega)⟩))
  · show 50 < jfuel
    unfold jfuel
    omega
set_option maxRecDepth 20000 in
theorem ok_X2_firstOne (t_size : Int) (t_numbers : Nat) (p0 : 1 ≤ t_size) (p1 : t_size ≤ 10) (p2 : (∀ k : Nat, k < 10 → 0 ≤ zget t_numbers k ∧ zget t_numbers k ≤ 20)) : Go (fun o => -1 ≤ (o) ∧ (o) < t_size) (zf_X2_firstOne t_size t_numbers) := by
  unfold zf_X2_firstOne
  refine jok (fun (s : zS_X2_firstOne) => match s with | (lab, i1') => (lab = 0) ∨ (lab = 2 ∧ 0 ≤ i1' ∧ i1' ≤ t_size)) (fun (s : zS_X2_firstOne) => match s with | (lab, i1') => if lab = 0 then 30 else if lab = 2 then (20 - i1').toNat else 0) (fun (o : zO_X2_firstOne) => -1 ≤ (o) ∧ (o) < t_size) ?_ _ ?_ ?_
  · intro s hI
    obtain ⟨lab, i1'⟩ := s
    have hI : (lab = 0) ∨ (lab = 2 ∧ 0 ≤ i1' ∧ i1' ≤ t_size) := hI
    rcases hI with rfl | ⟨rfl, v2_0, v2_1⟩
    · show Go _ (zg_X2_firstOne_0 t_size t_numbers i1')
      unfold zg_X2_firstOne_0
      exact Go_i (show (((2 : Nat) = 0) ∨ ((2 : Nat) = 2 ∧ 0 ≤ ((0 : Int)) ∧ ((0 : Int)) ≤ t_size)) ∧ (20 - ((0 : Int))).toNat < 30 from ⟨Or.inr (⟨rfl, (by first | assumption | omega), (by first | assumption | omega)⟩), by omega⟩)
    · show Go _ (zg_X2_firstOne_2 t_size t_numbers i1')
      unfold zg_X2_firstOne_2
      refine Go_chk (by unfold zout; omega) ?_
      refine Go_chk (by unfold zout; omega) ?_
      refine Go_ite (fun c1 => ?_) (fun c1 => ?_)
      · exact Go_i (show -1 ≤ ((-1 : Int)) ∧ ((-1 : Int)) < t_size from ⟨(by first | assumption | omega), (by first | assumption | omega)⟩)
      · refine Go_chk (by omega) ?_
        have a2 := rget t_numbers (Int.toNat i1')
        refine Go_ite (fun c3 => ?_) (fun c3 => ?_)
        · exact Go_i (show -1 ≤ (i1') ∧ (i1') < t_size from ⟨(by first | assumption | omega), (by first | assumption | omega)⟩)
        · exact Go_i (show (((2 : Nat) = 0) ∨ ((2 : Nat) = 2 ∧ 0 ≤ ((i1' + (1 : Int))) ∧ ((i1' + (1 : Int))) ≤ t_size)) ∧ (20 - ((i1' + (1 : Int)))).toNat < (20 - i1').toNat from ⟨Or.inr (⟨rfl, (by first | assumption | omega), (by first | assumption | omega)⟩), by omega⟩)
  · exact (show ((0 : Nat) = 0) ∨ ((0 : Nat) = 2 ∧ 0 ≤ 0 ∧ 0 ≤ t_size) from Or.inl (rfl))
  · show 30 < jfuel
    unfold jfuel
    omega
set_option maxRecDepth 20000 in
theorem ok_X2_loseAll (t_size : Int) (t_numbers : Nat) (p0 : 1 ≤ t_size) (p1 : t_size ≤ 10) (p2 : (∀ k : Nat, k < 10 → 0 ≤ zget t_numbers k ∧ zget t_numbers k ≤ 20)) : Go (fun o => 0 ≤ (o.1) ∧ (o.1) ≤ 10 ∧ 1 ≤ (o.2.1) ∧ (o.2.1) ≤ 10 ∧ (∀ k : Nat, k < 10 → 0 ≤ zget (o.2.2) k ∧ zget (o.2.2) k ≤ 20)) (zf_X2_loseAll t_size t_numbers) := by
  unfold zf_X2_loseAll
  refine jok (fun (s : zS_X2_loseAll) => match s with | (lab, i1', i2', t_size', t_numbers') => (lab = 0 ∧ 1 ≤ t_size' ∧ t_size' ≤ 10 ∧ (∀ k : Nat, k < 10 → 0 ≤ zget t_numbers' k ∧ zget t_numbers' k ≤ 20)) ∨ (lab = 4 ∧ 1 ≤ t_size' ∧ t_size' ≤ 10 ∧ (∀ k : Nat, k < 10 → 0 ≤ zget t_numbers' k ∧ zget t_numbers' k ≤ 20) ∧ 0 ≤ i1' ∧ i1' ≤ i2' ∧ 0 ≤ i2' ∧ i2' ≤ 10)) (fun (s : zS_X2_loseAll) => match s with | (lab, i1', i2', t_size', t_numbers') => if lab = 0 then 50 else if lab = 4 then (20 - i2').toNat else 0) (fun (o : zO_X2_loseAll) => 0 ≤ (o.1) ∧ (o.1) ≤ 10 ∧ 1 ≤ (o.2.1) ∧ (o.2.1) ≤ 10 ∧ (∀ k : Nat, k < 10 → 0 ≤ zget (o.2.2) k ∧ zget (o.2.2) k ≤ 20)) ?_ _ ?_ ?_
  · intro s hI
    obtain ⟨lab, i1', i2', t_size', t_numbers'⟩ := s
    have hI : (lab = 0 ∧ 1 ≤ t_size' ∧ t_size' ≤ 10 ∧ (∀ k : Nat, k < 10 → 0 ≤ zget t_numbers' k ∧ zget t_numbers' k ≤ 20)) ∨ (lab = 4 ∧ 1 ≤ t_size' ∧ t_size' ≤ 10 ∧ (∀ k : Nat, k < 10 → 0 ≤ zget t_numbers' k ∧ zget t_numbers' k ≤ 20) ∧ 0 ≤ i1' ∧ i1' ≤ i2' ∧ 0 ≤ i2' ∧ i2' ≤ 10) := hI
    rcases hI with ⟨rfl, v0_0, v0_1, v0_2⟩ | ⟨rfl, v4_0, v4_1, v4_2, v4_3, v4_4, v4_5, v4_6⟩
    · show Go _ (zg_X2_loseAll_0 i1' i2' t_size' t_numbers')
      unfold zg_X2_loseAll_0
      exact Go_i (show (((4 : Nat) = 0 ∧ 1 ≤ (t_size') ∧ (t_size') ≤ 10 ∧ (∀ k : Nat, k < 10 → 0 ≤ zget (t_numbers') k ∧ zget (t_numbers') k ≤ 20)) ∨ ((4 : Nat) = 4 ∧ 1 ≤ (t_size') ∧ (t_size') ≤ 10 ∧ (∀ k : Nat, k < 10 → 0 ≤ zget (t_numbers') k ∧ zget (t_numbers') k ≤ 20) ∧ 0 ≤ ((0 : Int)) ∧ ((0 : Int)) ≤ ((0 : Int)) ∧ 0 ≤ ((0 : Int)) ∧ ((0 : Int)) ≤ 10)) ∧ (20 - ((0 : Int))).toNat < 50 from ⟨Or.inr (⟨rfl, (by first | assumption | omega), (by first | assumption | omega), (by first | assumption | exact all_w (by assumption) (by omega) | (refine all_setw ?_ (Int.le_refl _) ?_ ?_ (by omega) (by omega) <;> first | assumption | omega) | exact all_setw (by assumption) (by omega) (by omega) (by omega) (by omega) (by omega)), (by first | assumption | omega), (by first | assumption | omega), (by first | assumption | omega), (by first | assumption | omega)⟩), by omega⟩)
    · show Go _ (zg_X2_loseAll_4 i1' i2' t_size' t_numbers')
      unfold zg_X2_loseAll_4
      refine Go_chk (by unfold zout; omega) ?_
      refine Go_ite (fun c1 => ?_) (fun c1 => ?_)
      · exact Go_i (show 0 ≤ (i1') ∧ (i1') ≤ 10 ∧ 1 ≤ (t_size') ∧ (t_size') ≤ 10 ∧ (∀ k : Nat, k < 10 → 0 ≤ zget (t_numbers') k ∧ zget (t_numbers') k ≤ 20) from ⟨(by first | assumption | omega), (by first | assumption | omega), (by first | assumption | omega), (by first | assumption | omega), (by first | assumption | exact all_w (by assumption) (by omega) | (refine all_setw ?_ (Int.le_refl _) ?_ ?_ (by omega) (by omega) <;> first | assumption | omega) | exact all_setw (by assumption) (by omega) (by omega) (by omega) (by omega) (by omega))⟩)
      · refine Go_bindP (ok_X2_firstOne t_size' t_numbers' (by first | assumption | omega) (by first | assumption | omega) (by first | assumption | exact all_w (by assumption) (by omega) | (refine all_setw ?_ (Int.le_refl _) ?_ ?_ (by omega) (by omega) <;> first | assumption | omega) | exact all_setw (by assumption) (by omega) (by omega) (by omega) (by omega) (by omega))) (fun o2 q2 => ?_)
        obtain ⟨q2_0, q2_1⟩ := q2
        refine Go_chk (by unfold zout; omega) ?_
        refine Go_ite (fun c3 => ?_) (fun c3 => ?_)
        · exact Go_i (show 0 ≤ (i1') ∧ (i1') ≤ 10 ∧ 1 ≤ (t_size') ∧ (t_size') ≤ 10 ∧ (∀ k : Nat, k < 10 → 0 ≤ zget (t_numbers') k ∧ zget (t_numbers') k ≤ 20) from ⟨(by first | assumption | omega), (by first | assumption | omega), (by first | assumption | omega), (by first | assumption | omega), (by first | assumption | exact all_w (by assumption) (by omega) | (refine all_setw ?_ (Int.le_refl _) ?_ ?_ (by omega) (by omega) <;> first | assumption | omega) | exact all_setw (by assumption) (by omega) (by omega) (by omega) (by omega) (by omega))⟩)
        · refine Go_bindP (ok_X2_canLose t_size' t_numbers' o2 (by first | assumption | omega) (by first | assumption | omega) (by first | assumption | exact all_w (by assumption) (by omega) | (refine all_setw ?_ (Int.le_refl _) ?_ ?_ (by omega) (by omega) <;> first | assumption | omega) | exact all_setw (by assumption) (by omega) (by omega) (by omega) (by omega) (by omega)) (by first | assumption | omega) (by first | assumption | omega)) (fun o4 q4 => ?_)
          obtain ⟨q4_0, q4_1⟩ := q4
          refine Go_ite (fun c5 => ?_) (fun c5 => ?_)
          · have dc5 := q4_1 c5
            exact Go_i (show 0 ≤ (i1') ∧ (i1') ≤ 10 ∧ 1 ≤ (t_size') ∧ (t_size') ≤ 10 ∧ (∀ k : Nat, k < 10 → 0 ≤ zget (t_numbers') k ∧ zget (t_numbers') k ≤ 20) from ⟨(by first | assumption | omega), (by first | assumption | omega), (by first | assumption | omega), (by first | assumption | omega), (by first | assumption | exact all_w (by assumption) (by omega) | (refine all_setw ?_ (Int.le_refl _) ?_ ?_ (by omega) (by omega) <;> first | assumption | omega) | exact all_setw (by assumption) (by omega) (by omega) (by omega) (by omega) (by omega))⟩)
          · have dc5 := q4_0 (bnf c5)
            refine Go_bindP (ok_X2_lose t_size' t_numbers' o2 (by first | assumption | omega) (by first | assumption | omega) (by first | assumption | exact all_w (by assumption) (by omega) | (refine all_setw ?_ (Int.le_refl _) ?_ ?_ (by omega) (by omega) <;> first | assumption | omega) | exact all_setw (by assumption) (by omega) (by omega) (by omega) (by omega) (by omega)) (by first | assumption | omega) (by first | assumption | omega)) (fun o5 q6 => ?_)
            obtain ⟨q6_0, q6_1, q6_2, q6_3⟩ := q6
            exact Go_i (show (((4 : Nat) = 0 ∧ 1 ≤ ((o5.2.1)) ∧ ((o5.2.1)) ≤ 10 ∧ (∀ k : Nat, k < 10 → 0 ≤ zget ((o5.2.2)) k ∧ zget ((o5.2.2)) k ≤ 20)) ∨ ((4 : Nat) = 4 ∧ 1 ≤ ((o5.2.1)) ∧ ((o5.2.1)) ≤ 10 ∧ (∀ k : Nat, k < 10 → 0 ≤ zget ((o5.2.2)) k ∧ zget ((o5.2.2)) k ≤ 20) ∧ 0 ≤ ((i1' + (1 : Int))) ∧ ((i1' + (1 : Int))) ≤ ((i2' + (1 : Int))) ∧ 0 ≤ ((i2' + (1 : Int))) ∧ ((i2' + (1 : Int))) ≤ 10)) ∧ (20 - ((i2' + (1 : Int)))).toNat < (20 - i2').toNat from ⟨Or.inr (⟨rfl, (by first | assumption | omega), (by first | assumption | omega), (by first | assumption | exact all_w (by assumption) (by omega) | (refine all_setw ?_ (Int.le_refl _) ?_ ?_ (by omega) (by omega) <;> first | assumption | omega) | exact all_setw (by assumption) (by omega) (by omega) (by omega) (by omega) (by omega)), (by first | assumption | omega), (by first | assumption | omega), (by first | assumption | omega), (by first | assumption | omega)⟩), by omega⟩)
  · exact (show ((0 : Nat) = 0 ∧ 1 ≤ t_size ∧ t_size ≤ 10 ∧ (∀ k : Nat, k < 10 → 0 ≤ zget t_numbers k ∧ zget t_numbers k ≤ 20)) ∨ ((0 : Nat) = 4 ∧ 1 ≤ t_size ∧ t_size ≤ 10 ∧ (∀ k : Nat, k < 10 → 0 ≤ zget t_numbers k ∧ zget t_numbers k ≤ 20) ∧ 0 ≤ 0 ∧ 0 ≤ 0 ∧ 0 ≤ 0 ∧ 0 ≤ 10) from Or.inl (⟨rfl, (by first | assumption | omega), (by first | assumption | omega), (by first | assumption | exact all_w (by assumption) (by omega) | (refine all_setw ?_ (Int.le_refl _) ?_ ?_ (by omega) (by omega) <;> first | assumption | omega) | exact all_setw (by assumption) (by omega) (by omega) (by omega) (by omega) (by omega))⟩))
  · show 50 < jfuel
    unfold jfuel
    omega
