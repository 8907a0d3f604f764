section
set_option maxRecDepth 20000 in
theorem ok_X7_size (t_size : Int)  : Go (fun o => (o) = t_size) (zf_X7_size t_size) := by
  unfold zf_X7_size
  exact Go_i (show (t_size) = t_size from (by first | assumption | omega))
set_option maxRecDepth 20000 in
theorem ok_X7_rights (t_rights : Int)  : Go (fun o => (o) = t_rights) (zf_X7_rights t_rights) := by
  unfold zf_X7_rights
  exact Go_i (show (t_rights) = t_rights from (by first | assumption | omega))
set_option maxRecDepth 20000 in
theorem ok_X7_has (t_size : Int) (i1 : Int) (p0 : 0 ≤ t_size) (p1 : t_size ≤ 20) (p2 : -2147483648 ≤ i1) (p3 : i1 ≤ 2147483647) : Go (fun o => ((o) = true → 0 ≤ i1 ∧ i1 < t_size) ∧ ((o) = false → ¬ (0 ≤ i1 ∧ i1 < t_size))) (zf_X7_has t_size i1) := by
  unfold zf_X7_has
  refine Go_chk (by unfold zout; omega) ?_
  refine Go_ite (fun c1 => ?_) (fun c1 => ?_)
  · exact Go_i (show ((false) = true → 0 ≤ i1 ∧ i1 < t_size) ∧ ((false) = false → ¬ (0 ≤ i1 ∧ i1 < t_size)) from ⟨(by intro h; first | exact True.intro | omega | (exact absurd h (by decide))), (by intro h; first | exact True.intro | omega | (exact absurd h (by decide)))⟩)
  · refine Go_chk (by unfold zout; omega) ?_
    refine Go_ite (fun c2 => ?_) (fun c2 => ?_)
    · exact Go_i (show ((false) = true → 0 ≤ i1 ∧ i1 < t_size) ∧ ((false) = false → ¬ (0 ≤ i1 ∧ i1 < t_size)) from ⟨(by intro h; first | exact True.intro | omega | (exact absurd h (by decide))), (by intro h; first | exact True.intro | omega | (exact absurd h (by decide)))⟩)
    · exact Go_i (show ((true) = true → 0 ≤ i1 ∧ i1 < t_size) ∧ ((true) = false → ¬ (0 ≤ i1 ∧ i1 < t_size)) from ⟨(by intro h; first | exact True.intro | omega | (exact absurd h (by decide))), (by intro h; first | exact True.intro | omega | (exact absurd h (by decide)))⟩)
set_option maxRecDepth 20000 in
theorem ok_X7_wasSeenBefore (t_size : Int) (t_seenStep : Nat) (i1 : Int) (i2 : Int) (p0 : 0 ≤ t_size) (p1 : t_size ≤ 20) (p2 : -2147483648 ≤ i1) (p3 : i1 ≤ 2147483647) (p4 : -2147483648 ≤ i2) (p5 : i2 ≤ 2147483647) : Go (fun o => ((o) = true → 0 ≤ i2 ∧ i2 < t_size) ∧ ((o) = false → True)) (zf_X7_wasSeenBefore t_size t_seenStep i1 i2) := by
  unfold zf_X7_wasSeenBefore
  refine Go_bindP (ok_X7_has t_size i2 (by first | assumption | omega) (by first | assumption | omega) (by first | assumption | omega) (by first | assumption | omega)) (fun o1 q1 => ?_)
  obtain ⟨q1_0, q1_1⟩ := q1
  refine Go_ite (fun c2 => ?_) (fun c2 => ?_)
  · have dc2 := q1_1 c2
    exact Go_i (show ((false) = true → 0 ≤ i2 ∧ i2 < t_size) ∧ ((false) = false → True) from ⟨(by intro h; first | exact True.intro | omega | (exact absurd h (by decide))), (by intro h; first | exact True.intro | omega | (exact absurd h (by decide)))⟩)
  · have dc2 := q1_0 (bnf c2)
    refine Go_chk (by omega) ?_
    refine Go_chk (by unfold zout; omega) ?_
    have a3 := rget t_seenStep (Int.toNat i2)
    refine Go_ite (fun c4 => ?_) (fun c4 => ?_)
    · exact Go_i (show ((false) = true → 0 ≤ i2 ∧ i2 < t_size) ∧ ((false) = false → True) from ⟨(by intro h; first | exact True.intro | omega | (exact absurd h (by decide))), (by intro h; first | exact True.intro | omega | (exact absurd h (by decide)))⟩)
    · exact Go_i (show ((true) = true → 0 ≤ i2 ∧ i2 < t_size) ∧ ((true) = false → True) from ⟨(by intro h; first | exact True.intro | omega | (exact absurd h (by decide))), (by intro h; first | exact True.intro | omega | (exact absurd h (by decide)))⟩)
set_option maxRecDepth 20000 in
theorem ok_X7_canTell (t_latest : Int) (i1 : Int) (p0 : 0 ≤ t_latest) (p1 : t_latest ≤ 999) (p2 : -2147483648 ≤ i1) (p3 : i1 ≤ 2147483647) : Go (fun o => ((o) = true → t_latest ≤ i1 ∧ i1 ≤ 999) ∧ ((o) = false → ¬ (t_latest ≤ i1 ∧ i1 ≤ 999))) (zf_X7_canTell t_latest i1) := by
  unfold zf_X7_canTell
  refine Go_chk (by unfold zout; omega) ?_
  refine Go_chk (by unfold zout; omega) ?_
  refine Go_ite (fun c1 => ?_) (fun c1 => ?_)
  · exact Go_i (show ((false) = true → t_latest ≤ i1 ∧ i1 ≤ 999) ∧ ((false) = false → ¬ (t_latest ≤ i1 ∧ i1 ≤ 999)) from ⟨(by intro h; first | exact True.intro | omega | (exact absurd h (by decide))), (by intro h; first | exact True.intro | omega | (exact absurd h (by decide)))⟩)
  · refine Go_ite (fun c2 => ?_) (fun c2 => ?_)
    · exact Go_i (show ((false) = true → t_latest ≤ i1 ∧ i1 ≤ 999) ∧ ((false) = false → ¬ (t_latest ≤ i1 ∧ i1 ≤ 999)) from ⟨(by intro h; first | exact True.intro | omega | (exact absurd h (by decide))), (by intro h; first | exact True.intro | omega | (exact absurd h (by decide)))⟩)
    · exact Go_i (show ((true) = true → t_latest ≤ i1 ∧ i1 ≤ 999) ∧ ((true) = false → ¬ (t_latest ≤ i1 ∧ i1 ≤ 999)) from ⟨(by intro h; first | exact True.intro | omega | (exact absurd h (by decide))), (by intro h; first | exact True.intro | omega | (exact absurd h (by decide)))⟩)
set_option maxRecDepth 20000 in
theorem ok_X7_forget (t_size : Int) (t_rights : Int) (t_latest : Int)  : Go (fun o => (o.1) = 0 ∧ (o.2.1) = 0 ∧ (o.2.2) = 0) (zf_X7_forget t_size t_rights t_latest) := by
  unfold zf_X7_forget
  exact Go_i (show ((0 : Int)) = 0 ∧ ((0 : Int)) = 0 ∧ ((0 : Int)) = 0 from ⟨(by first | assumption | omega), (by first | assumption | omega), (by first | assumption | omega)⟩)
set_option maxRecDepth 20000 in
theorem ok_X7_add (t_size : Int) (t_latest : Int) (t_seenStep : Nat) (t_seenFrom : Nat) (t_seenTo : Nat) (t_seenValue : Nat) (t_timesRight : Nat) (i1 : Int) (i2 : Int) (i3 : Int) (i4 : Int) (p0 : 0 ≤ t_size) (p1 : t_size ≤ 20) : Go (fun o => 0 ≤ (o.2.1) ∧ (o.2.1) ≤ 20 ∧ ((o.1) = -3 → (o.2.1) = t_size ∧ (o.2.2.1) = t_latest ∧ (o.2.2.2.2.1) = t_seenFrom ∧ (o.2.2.2.2.2.1) = t_seenTo) ∧ (¬ (o.1) = -3 → (o.2.1) = t_size + 1 ∧ (o.2.2.1) = i1 ∧ (o.2.2.2.2.1) = zset t_seenFrom (Int.toNat t_size) i2 ∧ (o.2.2.2.2.2.1) = zset t_seenTo (Int.toNat t_size) i3)) (zf_X7_add t_size t_latest t_seenStep t_seenFrom t_seenTo t_seenValue t_timesRight i1 i2 i3 i4) := by
  unfold zf_X7_add
  refine Go_chk (by unfold zout; omega) ?_
  refine Go_ite (fun c1 => ?_) (fun c1 => ?_)
  · refine Go_chk (by omega) ?_
    exact Go_i (show 0 ≤ ((t_size + (1 : Int))) ∧ ((t_size + (1 : Int))) ≤ 20 ∧ ((((t_size + (1 : Int)) - (1 : Int))) = -3 → ((t_size + (1 : Int))) = t_size ∧ (i1) = t_latest ∧ ((zset t_seenFrom (Int.toNat t_size) i2)) = t_seenFrom ∧ ((zset t_seenTo (Int.toNat t_size) i3)) = t_seenTo) ∧ (¬ (((t_size + (1 : Int)) - (1 : Int))) = -3 → ((t_size + (1 : Int))) = t_size + 1 ∧ (i1) = i1 ∧ ((zset t_seenFrom (Int.toNat t_size) i2)) = zset t_seenFrom (Int.toNat t_size) i2 ∧ ((zset t_seenTo (Int.toNat t_size) i3)) = zset t_seenTo (Int.toNat t_size) i3) from ⟨(by first | assumption | omega), (by first | assumption | omega), (by intro h; first | (exfalso; omega) | exact ⟨by omega, rfl, rfl, rfl⟩), (by intro h; first | (exfalso; omega) | exact ⟨by omega, rfl, rfl, rfl⟩)⟩)
  · exact Go_i (show 0 ≤ (t_size) ∧ (t_size) ≤ 20 ∧ (((-3 : Int)) = -3 → (t_size) = t_size ∧ (t_latest) = t_latest ∧ (t_seenFrom) = t_seenFrom ∧ (t_seenTo) = t_seenTo) ∧ (¬ ((-3 : Int)) = -3 → (t_size) = t_size + 1 ∧ (t_latest) = i1 ∧ (t_seenFrom) = zset t_seenFrom (Int.toNat t_size) i2 ∧ (t_seenTo) = zset t_seenTo (Int.toNat t_size) i3) from ⟨(by first | assumption | omega), (by first | assumption | omega), (by intro h; first | (exfalso; omega) | exact ⟨by omega, rfl, rfl, rfl⟩), (by intro h; first | (exfalso; omega) | exact ⟨by omega, rfl, rfl, rfl⟩)⟩)
set_option maxRecDepth 20000 in
theorem ok_X7_putRight (t_size : Int) (t_rights : Int) (t_latest : Int) (t_timesRight : Nat) (t_rightStep : Nat) (t_rightOf : Nat) (t_rightValue : Nat) (i1 : Int) (i2 : Int) (i3 : Int) (p0 : 0 ≤ t_size) (p1 : t_size ≤ 20) (p2 : 0 ≤ t_rights) (p3 : t_rights ≤ 20) (p4 : -2147483648 ≤ i2) (p5 : i2 ≤ 2147483647) : Go (fun o => 0 ≤ (o.2.1) ∧ (o.2.1) ≤ 20 ∧ ((o.2.2.1) = t_latest ∨ (o.2.2.1) = i1)) (zf_X7_putRight t_size t_rights t_latest t_timesRight t_rightStep t_rightOf t_rightValue i1 i2 i3) := by
  unfold zf_X7_putRight
  refine Go_chk (by unfold zout; omega) ?_
  refine Go_ite (fun c1 => ?_) (fun c1 => ?_)
  · exact Go_i (show 0 ≤ (t_rights) ∧ (t_rights) ≤ 20 ∧ ((t_latest) = t_latest ∨ (t_latest) = i1) from ⟨(by first | assumption | omega), (by first | assumption | omega), (by first | assumption | omega)⟩)
  · refine Go_bindP (ok_X7_has t_size i2 (by first | assumption | omega) (by first | assumption | omega) (by first | assumption | omega) (by first | assumption | omega)) (fun o2 q2 => ?_)
    obtain ⟨q2_0, q2_1⟩ := q2
    refine Go_ite (fun c3 => ?_) (fun c3 => ?_)
    · have dc3 := q2_1 c3
      exact Go_i (show 0 ≤ (t_rights) ∧ (t_rights) ≤ 20 ∧ ((t_latest) = t_latest ∨ (t_latest) = i1) from ⟨(by first | assumption | omega), (by first | assumption | omega), (by first | assumption | omega)⟩)
    · have dc3 := q2_0 (bnf c3)
      refine Go_chk (by omega) ?_
      refine Go_chk (by omega) ?_
      have a4 := rget t_timesRight (Int.toNat i2)
      have a5 := rget (zset t_timesRight (Int.toNat i2) ((zget t_timesRight (Int.toNat i2)) + (1 : Int))) (Int.toNat i2)
      exact Go_i (show 0 ≤ ((t_rights + (1 : Int))) ∧ ((t_rights + (1 : Int))) ≤ 20 ∧ ((i1) = t_latest ∨ (i1) = i1) from ⟨(by first | assumption | omega), (by first | assumption | omega), (by first | assumption | omega)⟩)
set_option maxRecDepth 20000 in
theorem ok_X7_recall (t_size : Int) (t_rights : Int) (t_seenStep : Nat) (t_seenValue : Nat) (t_rightStep : Nat) (t_rightOf : Nat) (t_rightValue : Nat) (t_knownValue : Nat) (i1 : Int) (p0 : 0 ≤ t_size) (p1 : t_size ≤ 20) (p2 : 0 ≤ t_rights) (p3 : t_rights ≤ 20) (p4 : -2147483648 ≤ i1) (p5 : i1 ≤ 2147483647) : Go (fun o => True) (zf_X7_recall t_size t_rights t_seenStep t_seenValue t_rightStep t_rightOf t_rightValue t_knownValue i1) := by
  unfold zf_X7_recall
  refine jok (fun (s : zS_X7_recall) => match s with | (lab, i1', i2', t_knownValue') => (lab = 0 ∧ -2147483648 ≤ i1' ∧ i1' ≤ 2147483647) ∨ (lab = 2 ∧ -2147483648 ≤ i1' ∧ i1' ≤ 2147483647 ∧ 0 ≤ i2' ∧ i2' ≤ t_size) ∨ (lab = 44 ∧ -2147483648 ≤ i1' ∧ i1' ≤ 2147483647 ∧ 0 ≤ i2' ∧ i2' ≤ t_rights)) (fun (s : zS_X7_recall) => match s with | (lab, i1', i2', t_knownValue') => if lab = 0 then 100 else if lab = 2 then (60 - i2').toNat else if lab = 44 then (30 - i2').toNat else 0) (fun (o : zO_X7_recall) => True) ?_ _ ?_ ?_
  · intro s hI
    obtain ⟨lab, i1', i2', t_knownValue'⟩ := s
    have hI : (lab = 0 ∧ -2147483648 ≤ i1' ∧ i1' ≤ 2147483647) ∨ (lab = 2 ∧ -2147483648 ≤ i1' ∧ i1' ≤ 2147483647 ∧ 0 ≤ i2' ∧ i2' ≤ t_size) ∨ (lab = 44 ∧ -2147483648 ≤ i1' ∧ i1' ≤ 2147483647 ∧ 0 ≤ i2' ∧ i2' ≤ t_rights) := hI
    rcases hI with ⟨rfl, v0_0, v0_1⟩ | ⟨rfl, v2_0, v2_1, v2_2, v2_3⟩ | ⟨rfl, v44_0, v44_1, v44_2, v44_3⟩
    · show Go _ (zg_X7_recall_0 t_size t_rights t_seenStep t_seenValue t_rightStep t_rightOf t_rightValue i1' i2' t_knownValue')
      unfold zg_X7_recall_0
      exact Go_i (show (((2 : Nat) = 0 ∧ -2147483648 ≤ (i1') ∧ (i1') ≤ 2147483647) ∨ ((2 : Nat) = 2 ∧ -2147483648 ≤ (i1') ∧ (i1') ≤ 2147483647 ∧ 0 ≤ ((0 : Int)) ∧ ((0 : Int)) ≤ t_size) ∨ ((2 : Nat) = 44 ∧ -2147483648 ≤ (i1') ∧ (i1') ≤ 2147483647 ∧ 0 ≤ ((0 : Int)) ∧ ((0 : Int)) ≤ t_rights)) ∧ (60 - ((0 : Int))).toNat < 100 from ⟨Or.inr (Or.inl (⟨rfl, (by first | assumption | omega), (by first | assumption | omega), (by first | assumption | omega), (by first | assumption | omega)⟩)), by omega⟩)
    · show Go _ (zg_X7_recall_2 t_size t_rights t_seenStep t_seenValue t_rightStep t_rightOf t_rightValue i1' i2' t_knownValue')
      unfold zg_X7_recall_2
      refine Go_chk (by unfold zout; omega) ?_
      refine Go_chk (by unfold zout; omega) ?_
      refine Go_ite (fun c1 => ?_) (fun c1 => ?_)
      · exact Go_i (show (((44 : Nat) = 0 ∧ -2147483648 ≤ (i1') ∧ (i1') ≤ 2147483647) ∨ ((44 : Nat) = 2 ∧ -2147483648 ≤ (i1') ∧ (i1') ≤ 2147483647 ∧ 0 ≤ ((0 : Int)) ∧ ((0 : Int)) ≤ t_size) ∨ ((44 : Nat) = 44 ∧ -2147483648 ≤ (i1') ∧ (i1') ≤ 2147483647 ∧ 0 ≤ ((0 : Int)) ∧ ((0 : Int)) ≤ t_rights)) ∧ (30 - ((0 : Int))).toNat < (60 - i2').toNat from ⟨Or.inr (Or.inr (⟨rfl, (by first | assumption | omega), (by first | assumption | omega), (by first | assumption | omega), (by first | assumption | omega)⟩)), by omega⟩)
      · refine Go_chk (by omega) ?_
        refine Go_chk (by unfold zout; omega) ?_
        have a2 := rget t_seenStep (Int.toNat i2')
        refine Go_ite (fun c3 => ?_) (fun c3 => ?_)
        · exact Go_i (show (((2 : Nat) = 0 ∧ -2147483648 ≤ (i1') ∧ (i1') ≤ 2147483647) ∨ ((2 : Nat) = 2 ∧ -2147483648 ≤ (i1') ∧ (i1') ≤ 2147483647 ∧ 0 ≤ ((i2' + (1 : Int))) ∧ ((i2' + (1 : Int))) ≤ t_size) ∨ ((2 : Nat) = 44 ∧ -2147483648 ≤ (i1') ∧ (i1') ≤ 2147483647 ∧ 0 ≤ ((i2' + (1 : Int))) ∧ ((i2' + (1 : Int))) ≤ t_rights)) ∧ (60 - ((i2' + (1 : Int)))).toNat < (60 - i2').toNat from ⟨Or.inr (Or.inl (⟨rfl, (by first | assumption | omega), (by first | assumption | omega), (by first | assumption | omega), (by first | assumption | omega)⟩)), by omega⟩)
        · have a4 := rget t_seenValue (Int.toNat i2')
          exact Go_i (show (((2 : Nat) = 0 ∧ -2147483648 ≤ (i1') ∧ (i1') ≤ 2147483647) ∨ ((2 : Nat) = 2 ∧ -2147483648 ≤ (i1') ∧ (i1') ≤ 2147483647 ∧ 0 ≤ ((i2' + (1 : Int))) ∧ ((i2' + (1 : Int))) ≤ t_size) ∨ ((2 : Nat) = 44 ∧ -2147483648 ≤ (i1') ∧ (i1') ≤ 2147483647 ∧ 0 ≤ ((i2' + (1 : Int))) ∧ ((i2' + (1 : Int))) ≤ t_rights)) ∧ (60 - ((i2' + (1 : Int)))).toNat < (60 - i2').toNat from ⟨Or.inr (Or.inl (⟨rfl, (by first | assumption | omega), (by first | assumption | omega), (by first | assumption | omega), (by first | assumption | omega)⟩)), by omega⟩)
    · show Go _ (zg_X7_recall_44 t_size t_rights t_seenStep t_seenValue t_rightStep t_rightOf t_rightValue i1' i2' t_knownValue')
      unfold zg_X7_recall_44
      refine Go_chk (by unfold zout; omega) ?_
      refine Go_chk (by unfold zout; omega) ?_
      refine Go_ite (fun c5 => ?_) (fun c5 => ?_)
      · exact Go_i (show True from trivial)
      · refine Go_chk (by omega) ?_
        refine Go_chk (by unfold zout; omega) ?_
        have a6 := rget t_rightStep (Int.toNat i2')
        refine Go_ite (fun c7 => ?_) (fun c7 => ?_)
        · exact Go_i (show (((44 : Nat) = 0 ∧ -2147483648 ≤ (i1') ∧ (i1') ≤ 2147483647) ∨ ((44 : Nat) = 2 ∧ -2147483648 ≤ (i1') ∧ (i1') ≤ 2147483647 ∧ 0 ≤ ((i2' + (1 : Int))) ∧ ((i2' + (1 : Int))) ≤ t_size) ∨ ((44 : Nat) = 44 ∧ -2147483648 ≤ (i1') ∧ (i1') ≤ 2147483647 ∧ 0 ≤ ((i2' + (1 : Int))) ∧ ((i2' + (1 : Int))) ≤ t_rights)) ∧ (30 - ((i2' + (1 : Int)))).toNat < (30 - i2').toNat from ⟨Or.inr (Or.inr (⟨rfl, (by first | assumption | omega), (by first | assumption | omega), (by first | assumption | omega), (by first | assumption | omega)⟩)), by omega⟩)
        · have a8 := rget t_rightOf (Int.toNat i2')
          refine Go_bindP (ok_X7_has t_size (zget t_rightOf (Int.toNat i2')) (by first | assumption | omega) (by first | assumption | omega) (by first | assumption | omega) (by first | assumption | omega)) (fun o11 q9 => ?_)
          obtain ⟨q9_0, q9_1⟩ := q9
          refine Go_ite (fun c10 => ?_) (fun c10 => ?_)
          · have dc10 := q9_1 c10
            exact Go_i (show (((44 : Nat) = 0 ∧ -2147483648 ≤ (i1') ∧ (i1') ≤ 2147483647) ∨ ((44 : Nat) = 2 ∧ -2147483648 ≤ (i1') ∧ (i1') ≤ 2147483647 ∧ 0 ≤ ((i2' + (1 : Int))) ∧ ((i2' + (1 : Int))) ≤ t_size) ∨ ((44 : Nat) = 44 ∧ -2147483648 ≤ (i1') ∧ (i1') ≤ 2147483647 ∧ 0 ≤ ((i2' + (1 : Int))) ∧ ((i2' + (1 : Int))) ≤ t_rights)) ∧ (30 - ((i2' + (1 : Int)))).toNat < (30 - i2').toNat from ⟨Or.inr (Or.inr (⟨rfl, (by first | assumption | omega), (by first | assumption | omega), (by first | assumption | omega), (by first | assumption | omega)⟩)), by omega⟩)
          · have dc10 := q9_0 (bnf c10)
            refine Go_chk (by omega) ?_
            have a11 := rget t_rightValue (Int.toNat i2')
            exact Go_i (show (((44 : Nat) = 0 ∧ -2147483648 ≤ (i1') ∧ (i1') ≤ 2147483647) ∨ ((44 : Nat) = 2 ∧ -2147483648 ≤ (i1') ∧ (i1') ≤ 2147483647 ∧ 0 ≤ ((i2' + (1 : Int))) ∧ ((i2' + (1 : Int))) ≤ t_size) ∨ ((44 : Nat) = 44 ∧ -2147483648 ≤ (i1') ∧ (i1') ≤ 2147483647 ∧ 0 ≤ ((i2' + (1 : Int))) ∧ ((i2' + (1 : Int))) ≤ t_rights)) ∧ (30 - ((i2' + (1 : Int)))).toNat < (30 - i2').toNat from ⟨Or.inr (Or.inr (⟨rfl, (by first | assumption | omega), (by first | assumption | omega), (by first | assumption | omega), (by first | assumption | omega)⟩)), by omega⟩)
  · exact (show ((0 : Nat) = 0 ∧ -2147483648 ≤ i1 ∧ i1 ≤ 2147483647) ∨ ((0 : Nat) = 2 ∧ -2147483648 ≤ i1 ∧ i1 ≤ 2147483647 ∧ 0 ≤ 0 ∧ 0 ≤ t_size) ∨ ((0 : Nat) = 44 ∧ -2147483648 ≤ i1 ∧ i1 ≤ 2147483647 ∧ 0 ≤ 0 ∧ 0 ≤ t_rights) from Or.inl (⟨rfl, (by first | assumption | omega), (by first | assumption | omega)⟩))
  · show 100 < jfuel
    unfold jfuel
    omega
set_option maxRecDepth 20000 in
theorem ok_X7_agreeWith (mk : Nat) (t_size : Int) (t_seenFrom : Nat) (t_seenTo : Nat) (t_knownValue : Nat) (n1 : Nat) (i2 : Int) (p0 : ¬ zno mk n1) (p1 : 0 ≤ t_size) (p2 : t_size ≤ 20) (p3 : isCut n1 i2) (p4 : (∀ k : Nat, (k : Int) < t_size → 0 ≤ zget t_seenFrom k ∧ zget t_seenFrom k < (n1 : Int))) (p5 : (∀ k : Nat, (k : Int) < t_size → 0 ≤ zget t_seenTo k ∧ zget t_seenTo k < (n1 : Int))) : Go (fun o => True) (zf_X7_agreeWith mk t_size t_seenFrom t_seenTo t_knownValue n1 i2) := by
  unfold zf_X7_agreeWith
  have grn1 := zno_rng p0
  have g7n1 := rpg7 (n := n1) (by omega) (by omega)
  have g8n1 := rpg8 (n := n1) (by omega) (by omega)
  refine jok (fun (s : zS_X7_agreeWith) => match s with | (lab, i2', i3') => (lab = 0 ∧ isCut n1 i2') ∨ (lab = 2 ∧ isCut n1 i2' ∧ 0 ≤ i3' ∧ i3' ≤ t_size)) (fun (s : zS_X7_agreeWith) => match s with | (lab, i2', i3') => if lab = 0 then 50 else if lab = 2 then (30 - i3').toNat else 0) (fun (o : zO_X7_agreeWith) => True) ?_ _ ?_ ?_
  · intro s hI
    obtain ⟨lab, i2', i3'⟩ := s
    have hI : (lab = 0 ∧ isCut n1 i2') ∨ (lab = 2 ∧ isCut n1 i2' ∧ 0 ≤ i3' ∧ i3' ≤ t_size) := hI
    rcases hI with ⟨rfl, v0_0⟩ | ⟨rfl, v2_0, v2_1, v2_2⟩
    · show Go _ (zg_X7_agreeWith_0 mk t_size t_seenFrom t_seenTo t_knownValue n1 i2' i3')
      unfold zg_X7_agreeWith_0
      exact Go_i (show (((2 : Nat) = 0 ∧ isCut n1 (i2')) ∨ ((2 : Nat) = 2 ∧ isCut n1 (i2') ∧ 0 ≤ ((0 : Int)) ∧ ((0 : Int)) ≤ t_size)) ∧ (30 - ((0 : Int))).toNat < 50 from ⟨Or.inr (⟨rfl, (by first | assumption | exact isCut_at (by omega) (by omega)), (by first | assumption | omega), (by first | assumption | omega)⟩), by omega⟩)
    · show Go _ (zg_X7_agreeWith_2 mk t_size t_seenFrom t_seenTo t_knownValue n1 i2' i3')
      unfold zg_X7_agreeWith_2
      refine Go_chk (by unfold zout; omega) ?_
      refine Go_chk (by unfold zout; omega) ?_
      refine Go_ite (fun c1 => ?_) (fun c1 => ?_)
      · exact Go_i (show True from trivial)
      · refine Go_chk (by omega) ?_
        have a2 := rget t_knownValue (Int.toNat i3')
        refine Go_ite (fun c3 => ?_) (fun c3 => ?_)
        · refine Go_ite (fun c4 => ?_) (fun c4 => ?_)
          · exact Go_i (show (((2 : Nat) = 0 ∧ isCut n1 (i2')) ∨ ((2 : Nat) = 2 ∧ isCut n1 (i2') ∧ 0 ≤ ((i3' + (1 : Int))) ∧ ((i3' + (1 : Int))) ≤ t_size)) ∧ (30 - ((i3' + (1 : Int)))).toNat < (30 - i3').toNat from ⟨Or.inr (⟨rfl, (by first | assumption | exact isCut_at (by omega) (by omega)), (by first | assumption | omega), (by first | assumption | omega)⟩), by omega⟩)
          · refine Go_chk (by assumption) ?_
            have a5 := rget t_seenTo (Int.toNat i3')
            have a6 := p5 (Int.toNat i3') (by omega)
            have a7 := rget t_seenFrom (Int.toNat i3')
            have a8 := p4 (Int.toNat i3') (by omega)
            refine Go_bindP (ok_X5_entryOf n1 i2' (zget t_seenFrom (Int.toNat i3')) (zget t_seenTo (Int.toNat i3')) (by first | assumption | omega) (by first | assumption | omega) (by first | assumption | exact isCut_at (by omega) (by omega)) (by first | assumption | omega) (by first | assumption | omega) (by first | assumption | omega) (by first | assumption | omega)) (fun o5 q9 => ?_)
            obtain ⟨q9_0, q9_1⟩ := q9
            refine Go_chk (by unfold zout; omega) ?_
            refine Go_ite (fun c10 => ?_) (fun c10 => ?_)
            · exact Go_i (show (((2 : Nat) = 0 ∧ isCut n1 (i2')) ∨ ((2 : Nat) = 2 ∧ isCut n1 (i2') ∧ 0 ≤ ((i3' + (1 : Int))) ∧ ((i3' + (1 : Int))) ≤ t_size)) ∧ (30 - ((i3' + (1 : Int)))).toNat < (30 - i3').toNat from ⟨Or.inr (⟨rfl, (by first | assumption | exact isCut_at (by omega) (by omega)), (by first | assumption | omega), (by first | assumption | omega)⟩), by omega⟩)
            · exact Go_i (show True from trivial)
        · refine Go_ite (fun c11 => ?_) (fun c11 => ?_)
          · exact Go_i (show (((2 : Nat) = 0 ∧ isCut n1 (i2')) ∨ ((2 : Nat) = 2 ∧ isCut n1 (i2') ∧ 0 ≤ ((i3' + (1 : Int))) ∧ ((i3' + (1 : Int))) ≤ t_size)) ∧ (30 - ((i3' + (1 : Int)))).toNat < (30 - i3').toNat from ⟨Or.inr (⟨rfl, (by first | assumption | exact isCut_at (by omega) (by omega)), (by first | assumption | omega), (by first | assumption | omega)⟩), by omega⟩)
          · refine Go_chk (by assumption) ?_
            have a12 := rget t_seenTo (Int.toNat i3')
            have a13 := p5 (Int.toNat i3') (by omega)
            have a14 := rget t_seenFrom (Int.toNat i3')
            have a15 := p4 (Int.toNat i3') (by omega)
            refine Go_bindP (ok_X5_entryOf n1 i2' (zget t_seenFrom (Int.toNat i3')) (zget t_seenTo (Int.toNat i3')) (by first | assumption | omega) (by first | assumption | omega) (by first | assumption | exact isCut_at (by omega) (by omega)) (by first | assumption | omega) (by first | assumption | omega) (by first | assumption | omega) (by first | assumption | omega)) (fun o10 q16 => ?_)
            obtain ⟨q16_0, q16_1⟩ := q16
            refine Go_chk (by unfold zout; omega) ?_
            refine Go_ite (fun c17 => ?_) (fun c17 => ?_)
            · exact Go_i (show (((2 : Nat) = 0 ∧ isCut n1 (i2')) ∨ ((2 : Nat) = 2 ∧ isCut n1 (i2') ∧ 0 ≤ ((i3' + (1 : Int))) ∧ ((i3' + (1 : Int))) ≤ t_size)) ∧ (30 - ((i3' + (1 : Int)))).toNat < (30 - i3').toNat from ⟨Or.inr (⟨rfl, (by first | assumption | exact isCut_at (by omega) (by omega)), (by first | assumption | omega), (by first | assumption | omega)⟩), by omega⟩)
            · exact Go_i (show True from trivial)
  · exact (show ((0 : Nat) = 0 ∧ isCut n1 i2) ∨ ((0 : Nat) = 2 ∧ isCut n1 i2 ∧ 0 ≤ 0 ∧ 0 ≤ t_size) from Or.inl (⟨rfl, (by first | assumption | exact isCut_at (by omega) (by omega))⟩))
  · show 50 < jfuel
    unfold jfuel
    omega
set_option maxRecDepth 20000 in
theorem ok_X0_size (t_size : Int)  : Go (fun o => (o) = t_size) (zf_X0_size t_size) := by
  unfold zf_X0_size
  exact Go_i (show (t_size) = t_size from (by first | assumption | omega))
set_option maxRecDepth 20000 in
theorem ok_X0_spanFrom (mk : Nat) (n0 : Nat) (i1 : Int) (i2 : Int) (p0 : ¬ zno mk n0) (p1 : -1 ≤ i1) (p2 : i1 ≤ 8) (p3 : -2147483648 ≤ i2) (p4 : i2 ≤ 2147483647) : Go (fun o => 0 ≤ (o) ∧ (o) ≤ 18) (zf_X0_spanFrom mk n0 i1 i2) := by
  unfold zf_X0_spanFrom
  have grn0 := zno_rng p0
  have g7n0 := rpg7 (n := n0) (by omega) (by omega)
  have g8n0 := rpg8 (n := n0) (by omega) (by omega)
  refine Go_chk (by assumption) ?_
  refine Go_bindP (ok_X5_lesserOf n0 i2 (by first | assumption | omega) (by first | assumption | omega) (by first | assumption | omega) (by first | assumption | omega)) (fun o2 q1 => ?_)
  obtain ⟨q1_0, q1_1, q1_2⟩ := q1
  refine Go_bindP (ok_X5_ahead n0 i1 o2 (by first | assumption | omega) (by first | assumption | omega) (by first | assumption | omega) (by first | assumption | omega) (by first | assumption | omega) (by first | assumption | omega)) (fun o3 q2 => ?_)
  obtain ⟨q2_0, q2_1⟩ := q2
  refine Go_bindP (ok_X5_greaterOf n0 i2 (by first | assumption | omega) (by first | assumption | omega) (by first | assumption | omega) (by first | assumption | omega)) (fun o4 q3 => ?_)
  obtain ⟨q3_0, q3_1, q3_2⟩ := q3
  refine Go_bindP (ok_X5_ahead n0 i1 o4 (by first | assumption | omega) (by first | assumption | omega) (by first | assumption | omega) (by first | assumption | omega) (by first | assumption | omega) (by first | assumption | omega)) (fun o5 q4 => ?_)
  obtain ⟨q4_0, q4_1⟩ := q4
  refine Go_chk (by unfold zout; omega) ?_
  have a5 := rabs (o3 - o5)
  exact Go_i (show 0 ≤ ((zabs (o3 - o5))) ∧ ((zabs (o3 - o5))) ≤ 18 from ⟨(by first | assumption | omega), (by first | assumption | omega)⟩)
set_option maxRecDepth 20000 in
theorem ok_X0_gather (mk : Nat) (t_size : Int) (t_lines : Nat) (n1 : Nat) (i2 : Int) (i3 : Int) (i4 : Int) (p0 : ¬ zno mk n1) (p1 : 0 ≤ i3) (p2 : i3 < (n1 : Int)) (p3 : 0 ≤ i4) (p4 : i4 < (n1 : Int)) : Go (fun o => 0 ≤ (o.1) ∧ (o.1) ≤ 27) (zf_X0_gather mk t_size t_lines n1 i2 i3 i4) := by
  unfold zf_X0_gather
  have grn1 := zno_rng p0
  have g7n1 := rpg7 (n := n1) (by omega) (by omega)
  have g8n1 := rpg8 (n := n1) (by omega) (by omega)
  refine jok (fun (s : zS_X0_gather) => match s with | (lab, i2', i3', i4', i5', i6', i7', t_size', t_lines') => (lab = 0 ∧ 0 ≤ i3' ∧ i3' < (n1 : Int) ∧ 0 ≤ i4' ∧ i4' < (n1 : Int)) ∨ (lab = 28 ∧ 0 ≤ i3' ∧ i3' < (n1 : Int) ∧ 0 ≤ i6' ∧ i6' ≤ 8 ∧ 0 ≤ t_size' ∧ t_size' ≤ 27) ∨ (lab = 36 ∧ 0 ≤ i3' ∧ i3' < (n1 : Int) ∧ 1 ≤ i6' ∧ i6' ≤ 8 ∧ 0 ≤ i7' ∧ i7' ≤ pg7 n1 ∧ 0 ≤ t_size' ∧ t_size' ≤ 27)) (fun (s : zS_X0_gather) => match s with | (lab, i2', i3', i4', i5', i6', i7', t_size', t_lines') => if lab = 0 then 10000 else if lab = 28 then (100 * i6' + 50).toNat else if lab = 36 then (100 * i6' + 30 - i7').toNat else 0) (fun (o : zO_X0_gather) => 0 ≤ (o.1) ∧ (o.1) ≤ 27) ?_ _ ?_ ?_
  · intro s hI
    obtain ⟨lab, i2', i3', i4', i5', i6', i7', t_size', t_lines'⟩ := s
    have hI : (lab = 0 ∧ 0 ≤ i3' ∧ i3' < (n1 : Int) ∧ 0 ≤ i4' ∧ i4' < (n1 : Int)) ∨ (lab = 28 ∧ 0 ≤ i3' ∧ i3' < (n1 : Int) ∧ 0 ≤ i6' ∧ i6' ≤ 8 ∧ 0 ≤ t_size' ∧ t_size' ≤ 27) ∨ (lab = 36 ∧ 0 ≤ i3' ∧ i3' < (n1 : Int) ∧ 1 ≤ i6' ∧ i6' ≤ 8 ∧ 0 ≤ i7' ∧ i7' ≤ pg7 n1 ∧ 0 ≤ t_size' ∧ t_size' ≤ 27) := hI
    rcases hI with ⟨rfl, v0_0, v0_1, v0_2, v0_3⟩ | ⟨rfl, v28_0, v28_1, v28_2, v28_3, v28_4, v28_5⟩ | ⟨rfl, v36_0, v36_1, v36_2, v36_3, v36_4, v36_5, v36_6, v36_7⟩
    · show Go _ (zg_X0_gather_0 mk n1 i2' i3' i4' i5' i6' i7' t_size' t_lines')
      unfold zg_X0_gather_0
      refine Go_chk (by assumption) ?_
      refine Go_bindP (ok_X5_lineOf n1 i3' i4' (by first | assumption | omega) (by first | assumption | omega) (by first | assumption | omega) (by first | assumption | omega) (by first | assumption | omega) (by first | assumption | omega)) (fun o2 q1 => ?_)
      obtain ⟨q1_0, q1_1⟩ := q1
      refine Go_bindP (ok_X5_crossersOf n1 o2 (by first | assumption | omega) (by first | assumption | omega) (by first | assumption | omega) (by first | assumption | omega)) (fun o3 q2 => ?_)
      obtain ⟨q2_0, q2_1⟩ := q2
      refine Go_bindP (ok_X5_corners n1 ) (fun o4 q3 => ?_)
      have a4 := rand o3 i2'
      exact Go_i (show (((28 : Nat) = 0 ∧ 0 ≤ (i3') ∧ (i3') < (n1 : Int) ∧ 0 ≤ (i4') ∧ (i4') < (n1 : Int)) ∨ ((28 : Nat) = 28 ∧ 0 ≤ (i3') ∧ (i3') < (n1 : Int) ∧ 0 ≤ ((o4 - (1 : Int))) ∧ ((o4 - (1 : Int))) ≤ 8 ∧ 0 ≤ ((0 : Int)) ∧ ((0 : Int)) ≤ 27) ∨ ((28 : Nat) = 36 ∧ 0 ≤ (i3') ∧ (i3') < (n1 : Int) ∧ 1 ≤ ((o4 - (1 : Int))) ∧ ((o4 - (1 : Int))) ≤ 8 ∧ 0 ≤ (0) ∧ (0) ≤ pg7 n1 ∧ 0 ≤ ((0 : Int)) ∧ ((0 : Int)) ≤ 27)) ∧ (100 * ((o4 - (1 : Int))) + 50).toNat < 10000 from ⟨Or.inr (Or.inl (⟨rfl, (by first | assumption | omega), (by first | assumption | omega), (by first | assumption | omega), (by first | assumption | omega), (by first | assumption | omega), (by first | assumption | omega)⟩)), by omega⟩)
    · show Go _ (zg_X0_gather_28 mk n1 i2' i3' i4' i5' i6' i7' t_size' t_lines')
      unfold zg_X0_gather_28
      refine Go_chk (by unfold zout; omega) ?_
      refine Go_ite (fun c5 => ?_) (fun c5 => ?_)
      · exact Go_i (show 0 ≤ (t_size') ∧ (t_size') ≤ 27 from ⟨(by first | assumption | omega), (by first | assumption | omega)⟩)
      · exact Go_i (show (((36 : Nat) = 0 ∧ 0 ≤ (i3') ∧ (i3') < (n1 : Int) ∧ 0 ≤ (0) ∧ (0) < (n1 : Int)) ∨ ((36 : Nat) = 28 ∧ 0 ≤ (i3') ∧ (i3') < (n1 : Int) ∧ 0 ≤ (i6') ∧ (i6') ≤ 8 ∧ 0 ≤ (t_size') ∧ (t_size') ≤ 27) ∨ ((36 : Nat) = 36 ∧ 0 ≤ (i3') ∧ (i3') < (n1 : Int) ∧ 1 ≤ (i6') ∧ (i6') ≤ 8 ∧ 0 ≤ ((0 : Int)) ∧ ((0 : Int)) ≤ pg7 n1 ∧ 0 ≤ (t_size') ∧ (t_size') ≤ 27)) ∧ (100 * (i6') + 30 - ((0 : Int))).toNat < (100 * i6' + 50).toNat from ⟨Or.inr (Or.inr (⟨rfl, (by first | assumption | omega), (by first | assumption | omega), (by first | assumption | omega), (by first | assumption | omega), (by first | assumption | omega), (by first | assumption | omega), (by first | assumption | omega), (by first | assumption | omega)⟩)), by omega⟩)
    · show Go _ (zg_X0_gather_36 mk n1 i2' i3' i4' i5' i6' i7' t_size' t_lines')
      unfold zg_X0_gather_36
      refine Go_chk (by assumption) ?_
      refine Go_bindP (ok_X5_lineCount n1 (by first | assumption | omega) (by first | assumption | omega)) (fun o8 q6 => ?_)
      obtain ⟨q6_0, q6_1, q6_2⟩ := q6
      refine Go_chk (by unfold zout; omega) ?_
      refine Go_chk (by unfold zout; omega) ?_
      refine Go_ite (fun c7 => ?_) (fun c7 => ?_)
      · exact Go_i (show (((28 : Nat) = 0 ∧ 0 ≤ (i3') ∧ (i3') < (n1 : Int) ∧ 0 ≤ (0) ∧ (0) < (n1 : Int)) ∨ ((28 : Nat) = 28 ∧ 0 ≤ (i3') ∧ (i3') < (n1 : Int) ∧ 0 ≤ ((i6' + (-1 : Int))) ∧ ((i6' + (-1 : Int))) ≤ 8 ∧ 0 ≤ (t_size') ∧ (t_size') ≤ 27) ∨ ((28 : Nat) = 36 ∧ 0 ≤ (i3') ∧ (i3') < (n1 : Int) ∧ 1 ≤ ((i6' + (-1 : Int))) ∧ ((i6' + (-1 : Int))) ≤ 8 ∧ 0 ≤ (i7') ∧ (i7') ≤ pg7 n1 ∧ 0 ≤ (t_size') ∧ (t_size') ≤ 27)) ∧ (100 * ((i6' + (-1 : Int))) + 50).toNat < (100 * i6' + 30 - i7').toNat from ⟨Or.inr (Or.inl (⟨rfl, (by first | assumption | omega), (by first | assumption | omega), (by first | assumption | omega), (by first | assumption | omega), (by first | assumption | omega), (by first | assumption | omega)⟩)), by omega⟩)
      · refine Go_bindP (ok_X5_has n1 i5' i7' (by first | assumption | omega) (by first | assumption | omega) (by first | assumption | omega) (by first | assumption | omega)) (fun o11 q8 => ?_)
        obtain ⟨q8_0, q8_1⟩ := q8
        refine Go_ite (fun c9 => ?_) (fun c9 => ?_)
        · have dc9 := q8_1 c9
          exact Go_i (show (((36 : Nat) = 0 ∧ 0 ≤ (i3') ∧ (i3') < (n1 : Int) ∧ 0 ≤ (0) ∧ (0) < (n1 : Int)) ∨ ((36 : Nat) = 28 ∧ 0 ≤ (i3') ∧ (i3') < (n1 : Int) ∧ 0 ≤ (i6') ∧ (i6') ≤ 8 ∧ 0 ≤ (t_size') ∧ (t_size') ≤ 27) ∨ ((36 : Nat) = 36 ∧ 0 ≤ (i3') ∧ (i3') < (n1 : Int) ∧ 1 ≤ (i6') ∧ (i6') ≤ 8 ∧ 0 ≤ ((i7' + (1 : Int))) ∧ ((i7' + (1 : Int))) ≤ pg7 n1 ∧ 0 ≤ (t_size') ∧ (t_size') ≤ 27)) ∧ (100 * (i6') + 30 - ((i7' + (1 : Int)))).toNat < (100 * i6' + 30 - i7').toNat from ⟨Or.inr (Or.inr (⟨rfl, (by first | assumption | omega), (by first | assumption | omega), (by first | assumption | omega), (by first | assumption | omega), (by first | assumption | omega), (by first | assumption | omega), (by first | assumption | omega), (by first | assumption | omega)⟩)), by omega⟩)
        · have dc9 := q8_0 (bnf c9)
          refine Go_bindP (ok_X0_spanFrom mk n1 i3' i7' (by first | assumption | omega) (by first | assumption | omega) (by first | assumption | omega) (by first | assumption | omega) (by first | assumption | omega)) (fun o12 q10 => ?_)
          obtain ⟨q10_0, q10_1⟩ := q10
          refine Go_chk (by unfold zout; omega) ?_
          refine Go_chk (by unfold zout; omega) ?_
          refine Go_ite (fun c11 => ?_) (fun c11 => ?_)
          · refine Go_chk (by unfold zout; omega) ?_
            refine Go_ite (fun c12 => ?_) (fun c12 => ?_)
            · exact Go_i (show (((36 : Nat) = 0 ∧ 0 ≤ (i3') ∧ (i3') < (n1 : Int) ∧ 0 ≤ (0) ∧ (0) < (n1 : Int)) ∨ ((36 : Nat) = 28 ∧ 0 ≤ (i3') ∧ (i3') < (n1 : Int) ∧ 0 ≤ (i6') ∧ (i6') ≤ 8 ∧ 0 ≤ (t_size') ∧ (t_size') ≤ 27) ∨ ((36 : Nat) = 36 ∧ 0 ≤ (i3') ∧ (i3') < (n1 : Int) ∧ 1 ≤ (i6') ∧ (i6') ≤ 8 ∧ 0 ≤ ((i7' + (1 : Int))) ∧ ((i7' + (1 : Int))) ≤ pg7 n1 ∧ 0 ≤ (t_size') ∧ (t_size') ≤ 27)) ∧ (100 * (i6') + 30 - ((i7' + (1 : Int)))).toNat < (100 * i6' + 30 - i7').toNat from ⟨Or.inr (Or.inr (⟨rfl, (by first | assumption | omega), (by first | assumption | omega), (by first | assumption | omega), (by first | assumption | omega), (by first | assumption | omega), (by first | assumption | omega), (by first | assumption | omega), (by first | assumption | omega)⟩)), by omega⟩)
            · refine Go_chk (by omega) ?_
              exact Go_i (show (((36 : Nat) = 0 ∧ 0 ≤ (i3') ∧ (i3') < (n1 : Int) ∧ 0 ≤ (0) ∧ (0) < (n1 : Int)) ∨ ((36 : Nat) = 28 ∧ 0 ≤ (i3') ∧ (i3') < (n1 : Int) ∧ 0 ≤ (i6') ∧ (i6') ≤ 8 ∧ 0 ≤ ((t_size' + (1 : Int))) ∧ ((t_size' + (1 : Int))) ≤ 27) ∨ ((36 : Nat) = 36 ∧ 0 ≤ (i3') ∧ (i3') < (n1 : Int) ∧ 1 ≤ (i6') ∧ (i6') ≤ 8 ∧ 0 ≤ ((i7' + (1 : Int))) ∧ ((i7' + (1 : Int))) ≤ pg7 n1 ∧ 0 ≤ ((t_size' + (1 : Int))) ∧ ((t_size' + (1 : Int))) ≤ 27)) ∧ (100 * (i6') + 30 - ((i7' + (1 : Int)))).toNat < (100 * i6' + 30 - i7').toNat from ⟨Or.inr (Or.inr (⟨rfl, (by first | assumption | omega), (by first | assumption | omega), (by first | assumption | omega), (by first | assumption | omega), (by first | assumption | omega), (by first | assumption | omega), (by first | assumption | omega), (by first | assumption | omega)⟩)), by omega⟩)
          · exact Go_i (show (((36 : Nat) = 0 ∧ 0 ≤ (i3') ∧ (i3') < (n1 : Int) ∧ 0 ≤ (0) ∧ (0) < (n1 : Int)) ∨ ((36 : Nat) = 28 ∧ 0 ≤ (i3') ∧ (i3') < (n1 : Int) ∧ 0 ≤ (i6') ∧ (i6') ≤ 8 ∧ 0 ≤ (t_size') ∧ (t_size') ≤ 27) ∨ ((36 : Nat) = 36 ∧ 0 ≤ (i3') ∧ (i3') < (n1 : Int) ∧ 1 ≤ (i6') ∧ (i6') ≤ 8 ∧ 0 ≤ ((i7' + (1 : Int))) ∧ ((i7' + (1 : Int))) ≤ pg7 n1 ∧ 0 ≤ (t_size') ∧ (t_size') ≤ 27)) ∧ (100 * (i6') + 30 - ((i7' + (1 : Int)))).toNat < (100 * i6' + 30 - i7').toNat from ⟨Or.inr (Or.inr (⟨rfl, (by first | assumption | omega), (by first | assumption | omega), (by first | assumption | omega), (by first | assumption | omega), (by first | assumption | omega), (by first | assumption | omega), (by first | assumption | omega), (by first | assumption | omega)⟩)), by omega⟩)
  · exact (show ((0 : Nat) = 0 ∧ 0 ≤ i3 ∧ i3 < (n1 : Int) ∧ 0 ≤ i4 ∧ i4 < (n1 : Int)) ∨ ((0 : Nat) = 28 ∧ 0 ≤ i3 ∧ i3 < (n1 : Int) ∧ 0 ≤ 0 ∧ 0 ≤ 8 ∧ 0 ≤ t_size ∧ t_size ≤ 27) ∨ ((0 : Nat) = 36 ∧ 0 ≤ i3 ∧ i3 < (n1 : Int) ∧ 1 ≤ 0 ∧ 0 ≤ 8 ∧ 0 ≤ 0 ∧ 0 ≤ pg7 n1 ∧ 0 ≤ t_size ∧ t_size ≤ 27) from Or.inl (⟨rfl, (by first | assumption | omega), (by first | assumption | omega), (by first | assumption | omega), (by first | assumption | omega)⟩))
  · show 10000 < jfuel
    unfold jfuel
    omega
set_option maxRecDepth 20000 in
theorem ok_X0_pairAt (mk : Nat) (t_size : Int) (t_lines : Nat) (n1 : Nat) (i2 : Int) (p0 : ¬ zno mk n1) (p1 : 0 ≤ t_size) (p2 : t_size ≤ 27) (p3 : -2147483648 ≤ i2) (p4 : i2 ≤ 2147483647) : Go (fun o => -1 ≤ (o) ∧ (o) ≤ 200) (zf_X0_pairAt mk t_size t_lines n1 i2) := by
  unfold zf_X0_pairAt
  have grn1 := zno_rng p0
  have g7n1 := rpg7 (n := n1) (by omega) (by omega)
  have g8n1 := rpg8 (n := n1) (by omega) (by omega)
  refine Go_chk (by unfold zout; omega) ?_
  refine Go_ite (fun c1 => ?_) (fun c1 => ?_)
  · exact Go_i (show -1 ≤ ((-1 : Int)) ∧ ((-1 : Int)) ≤ 200 from ⟨(by first | assumption | omega), (by first | assumption | omega)⟩)
  · refine Go_chk (by unfold zout; omega) ?_
    refine Go_ite (fun c2 => ?_) (fun c2 => ?_)
    · refine Go_chk (by omega) ?_
      refine Go_chk (by assumption) ?_
      have a3 := rget t_lines (Int.toNat i2)
      refine Go_bindP (ok_X5_pairOf n1 (zget t_lines (Int.toNat i2)) (by first | assumption | omega) (by first | assumption | omega) (by first | assumption | omega) (by first | assumption | omega)) (fun o5 q4 => ?_)
      obtain ⟨q4_0, q4_1⟩ := q4
      exact Go_i (show -1 ≤ (o5) ∧ (o5) ≤ 200 from ⟨(by first | assumption | omega), (by first | assumption | omega)⟩)
    · exact Go_i (show -1 ≤ ((-1 : Int)) ∧ ((-1 : Int)) ≤ 200 from ⟨(by first | assumption | omega), (by first | assumption | omega)⟩)
set_option maxRecDepth 20000 in
theorem ok_X0_sharedWithNext (mk : Nat) (t_size : Int) (t_lines : Nat) (n1 : Nat) (i2 : Int) (p0 : ¬ zno mk n1) (p1 : 0 ≤ t_size) (p2 : t_size ≤ 27) (p3 : -2147483648 ≤ i2) (p4 : i2 ≤ 2147483647) : Go (fun o => -1 ≤ (o) ∧ (o) ≤ 8) (zf_X0_sharedWithNext mk t_size t_lines n1 i2) := by
  unfold zf_X0_sharedWithNext
  have grn1 := zno_rng p0
  have g7n1 := rpg7 (n := n1) (by omega) (by omega)
  have g8n1 := rpg8 (n := n1) (by omega) (by omega)
  refine Go_chk (by unfold zout; omega) ?_
  refine Go_ite (fun c1 => ?_) (fun c1 => ?_)
  · exact Go_i (show -1 ≤ ((-1 : Int)) ∧ ((-1 : Int)) ≤ 8 from ⟨(by first | assumption | omega), (by first | assumption | omega)⟩)
  · refine Go_chk (by unfold zout; omega) ?_
    refine Go_ite (fun c2 => ?_) (fun c2 => ?_)
    · refine Go_chk (by omega) ?_
      refine Go_chk (by assumption) ?_
      have a3 := rget t_lines (Int.toNat i2)
      refine Go_bindP (ok_X5_lesserOf n1 (zget t_lines (Int.toNat i2)) (by first | assumption | omega) (by first | assumption | omega) (by first | assumption | omega) (by first | assumption | omega)) (fun o5 q4 => ?_)
      obtain ⟨q4_0, q4_1, q4_2⟩ := q4
      refine Go_chk (by omega) ?_
      have a5 := rget t_lines (Int.toNat (i2 + (1 : Int)))
      refine Go_bindP (ok_X5_lesserOf n1 (zget t_lines (Int.toNat (i2 + (1 : Int)))) (by first | assumption | omega) (by first | assumption | omega) (by first | assumption | omega) (by first | assumption | omega)) (fun o7 q6 => ?_)
      obtain ⟨q6_0, q6_1, q6_2⟩ := q6
      refine Go_bindP (ok_X5_greaterOf n1 (zget t_lines (Int.toNat (i2 + (1 : Int)))) (by first | assumption | omega) (by first | assumption | omega) (by first | assumption | omega) (by first | assumption | omega)) (fun o8 q7 => ?_)
      obtain ⟨q7_0, q7_1, q7_2⟩ := q7
      refine Go_chk (by unfold zout; omega) ?_
      refine Go_chk (by unfold zout; omega) ?_
      refine Go_ite (fun c8 => ?_) (fun c8 => ?_)
      · exact Go_i (show -1 ≤ (o5) ∧ (o5) ≤ 8 from ⟨(by first | assumption | omega), (by first | assumption | omega)⟩)
      · refine Go_chk (by unfold zout; omega) ?_
        refine Go_ite (fun c9 => ?_) (fun c9 => ?_)
        · exact Go_i (show -1 ≤ (o5) ∧ (o5) ≤ 8 from ⟨(by first | assumption | omega), (by first | assumption | omega)⟩)
        · refine Go_bindP (ok_X5_greaterOf n1 (zget t_lines (Int.toNat i2)) (by first | assumption | omega) (by first | assumption | omega) (by first | assumption | omega) (by first | assumption | omega)) (fun o12 q10 => ?_)
          obtain ⟨q10_0, q10_1, q10_2⟩ := q10
          exact Go_i (show -1 ≤ (o12) ∧ (o12) ≤ 8 from ⟨(by first | assumption | omega), (by first | assumption | omega)⟩)
    · exact Go_i (show -1 ≤ ((-1 : Int)) ∧ ((-1 : Int)) ≤ 8 from ⟨(by first | assumption | omega), (by first | assumption | omega)⟩)
set_option maxRecDepth 20000 in
theorem ok_X4_comeTo (t_queued : Int) (t_steps : Nat) (t_queue : Nat) (i1 : Int) (i2 : Int) (p0 : 0 ≤ t_queued) (p1 : t_queued ≤ 429) (p2 : (∀ k : Nat, k < 429 → -1 ≤ zget t_steps k ∧ zget t_steps k ≤ t_queued)) (p3 : -2147483648 ≤ i1) (p4 : i1 ≤ 2147483647) (p5 : -1 ≤ i2) (p6 : i2 ≤ t_queued + 1) : Go (fun o => 0 ≤ (o.1) ∧ (o.1) ≤ 429 ∧ (∀ k : Nat, k < 429 → -1 ≤ zget (o.2.1) k ∧ zget (o.2.1) k ≤ (o.1)) ∧ t_queued ≤ (o.1)) (zf_X4_comeTo t_queued t_steps t_queue i1 i2) := by
  unfold zf_X4_comeTo
  refine Go_chk (by unfold zout; omega) ?_
  refine Go_ite (fun c1 => ?_) (fun c1 => ?_)
  · exact Go_i (show 0 ≤ (t_queued) ∧ (t_queued) ≤ 429 ∧ (∀ k : Nat, k < 429 → -1 ≤ zget (t_steps) k ∧ zget (t_steps) k ≤ (t_queued)) ∧ t_queued ≤ (t_queued) from ⟨(by first | assumption | omega), (by first | assumption | omega), (by first | assumption | exact all_w (by assumption) (by omega) | (refine all_setw ?_ (Int.le_refl _) ?_ ?_ (by omega) (by omega) <;> first | assumption | omega) | exact all_setw (by assumption) (by omega) (by omega) (by omega) (by omega) (by omega)), (by first | assumption | omega)⟩)
  · refine Go_ite (fun c2 => ?_) (fun c2 => ?_)
    · exact Go_i (show 0 ≤ (t_queued) ∧ (t_queued) ≤ 429 ∧ (∀ k : Nat, k < 429 → -1 ≤ zget (t_steps) k ∧ zget (t_steps) k ≤ (t_queued)) ∧ t_queued ≤ (t_queued) from ⟨(by first | assumption | omega), (by first | assumption | omega), (by first | assumption | exact all_w (by assumption) (by omega) | (refine all_setw ?_ (Int.le_refl _) ?_ ?_ (by omega) (by omega) <;> first | assumption | omega) | exact all_setw (by assumption) (by omega) (by omega) (by omega) (by omega) (by omega)), (by first | assumption | omega)⟩)
    · refine Go_chk (by omega) ?_
      have a3 := rget t_steps (Int.toNat i1)
      refine Go_ite (fun c4 => ?_) (fun c4 => ?_)
      · refine Go_chk (by unfold zout; omega) ?_
        refine Go_ite (fun c5 => ?_) (fun c5 => ?_)
        · exact Go_i (show 0 ≤ (t_queued) ∧ (t_queued) ≤ 429 ∧ (∀ k : Nat, k < 429 → -1 ≤ zget (t_steps) k ∧ zget (t_steps) k ≤ (t_queued)) ∧ t_queued ≤ (t_queued) from ⟨(by first | assumption | omega), (by first | assumption | omega), (by first | assumption | exact all_w (by assumption) (by omega) | (refine all_setw ?_ (Int.le_refl _) ?_ ?_ (by omega) (by omega) <;> first | assumption | omega) | exact all_setw (by assumption) (by omega) (by omega) (by omega) (by omega) (by omega)), (by first | assumption | omega)⟩)
        · refine Go_chk (by omega) ?_
          exact Go_i (show 0 ≤ ((t_queued + (1 : Int))) ∧ ((t_queued + (1 : Int))) ≤ 429 ∧ (∀ k : Nat, k < 429 → -1 ≤ zget ((zset t_steps (Int.toNat i1) i2)) k ∧ zget ((zset t_steps (Int.toNat i1) i2)) k ≤ ((t_queued + (1 : Int)))) ∧ t_queued ≤ ((t_queued + (1 : Int))) from ⟨(by first | assumption | omega), (by first | assumption | omega), (by first | assumption | exact all_w (by assumption) (by omega) | (refine all_setw ?_ (Int.le_refl _) ?_ ?_ (by omega) (by omega) <;> first | assumption | omega) | exact all_setw (by assumption) (by omega) (by omega) (by omega) (by omega) (by omega)), (by first | assumption | omega)⟩)
      · exact Go_i (show 0 ≤ (t_queued) ∧ (t_queued) ≤ 429 ∧ (∀ k : Nat, k < 429 → -1 ≤ zget (t_steps) k ∧ zget (t_steps) k ≤ (t_queued)) ∧ t_queued ≤ (t_queued) from ⟨(by first | assumption | omega), (by first | assumption | omega), (by first | assumption | exact all_w (by assumption) (by omega) | (refine all_setw ?_ (Int.le_refl _) ?_ ?_ (by omega) (by omega) <;> first | assumption | omega) | exact all_setw (by assumption) (by omega) (by omega) (by omega) (by omega) (by omega)), (by first | assumption | omega)⟩)
set_option maxRecDepth 20000 in
theorem ok_X4_stepsTo (t_steps : Nat) (i1 : Int) (p0 : -2147483648 ≤ i1) (p1 : i1 ≤ 2147483647) : Go (fun o => (∀ b : Int, -1 ≤ b → (∀ k : Nat, k < 429 → -1 ≤ zget t_steps k ∧ zget t_steps k ≤ b) → -1 ≤ (o) ∧ (o) ≤ b)) (zf_X4_stepsTo t_steps i1) := by
  unfold zf_X4_stepsTo
  refine Go_chk (by unfold zout; omega) ?_
  refine Go_ite (fun c1 => ?_) (fun c1 => ?_)
  · exact Go_i (show (∀ b : Int, -1 ≤ b → (∀ k : Nat, k < 429 → -1 ≤ zget t_steps k ∧ zget t_steps k ≤ b) → -1 ≤ ((-1 : Int)) ∧ ((-1 : Int)) ≤ b) from (by intro b hb hs; first | exact hs _ (by omega) | omega))
  · refine Go_ite (fun c2 => ?_) (fun c2 => ?_)
    · exact Go_i (show (∀ b : Int, -1 ≤ b → (∀ k : Nat, k < 429 → -1 ≤ zget t_steps k ∧ zget t_steps k ≤ b) → -1 ≤ ((-1 : Int)) ∧ ((-1 : Int)) ≤ b) from (by intro b hb hs; first | exact hs _ (by omega) | omega))
    · refine Go_chk (by omega) ?_
      have a3 := rget t_steps (Int.toNat i1)
      exact Go_i (show (∀ b : Int, -1 ≤ b → (∀ k : Nat, k < 429 → -1 ≤ zget t_steps k ∧ zget t_steps k ≤ b) → -1 ≤ ((zget t_steps (Int.toNat i1))) ∧ ((zget t_steps (Int.toNat i1))) ≤ b) from (by intro b hb hs; first | exact hs _ (by omega) | omega))
set_option maxRecDepth 20000 in
theorem ok_X4_measure (mk : Nat) (t_queued : Int) (t_steps : Nat) (t_queue : Nat) (n1 : Nat) (i2 : Int) (p0 : ¬ zno mk n1) (p1 : -2147483648 ≤ i2) (p2 : i2 ≤ 2147483647) : Go (fun o => 0 ≤ (o.1) ∧ (o.1) ≤ 429 ∧ (∀ k : Nat, k < 429 → -1 ≤ zget (o.2.1) k ∧ zget (o.2.1) k ≤ 429)) (zf_X4_measure mk t_queued t_steps t_queue n1 i2) := by
  unfold zf_X4_measure
  have grn1 := zno_rng p0
  have g7n1 := rpg7 (n := n1) (by omega) (by omega)
  have g8n1 := rpg8 (n := n1) (by omega) (by omega)
  refine jok (fun (s : zS_X4_measure) => match s with | (lab, i2', i3', i4', i5', t_queued', t_steps', t_queue') => (lab = 0 ∧ -2147483648 ≤ i2' ∧ i2' ≤ 2147483647) ∨ (lab = 2 ∧ -2147483648 ≤ i2' ∧ i2' ≤ 2147483647 ∧ 0 ≤ i3' ∧ i3' ≤ 429 ∧ (∀ k : Nat, (k : Int) < i3' → zget t_steps' k = -1)) ∨ (lab = 35 ∧ 0 ≤ i3' ∧ i3' ≤ 429 ∧ 0 ≤ t_queued' ∧ t_queued' ≤ 429 ∧ (∀ k : Nat, k < 429 → -1 ≤ zget t_steps' k ∧ zget t_steps' k ≤ t_queued')) ∨ (lab = 65 ∧ 0 ≤ i3' ∧ i3' ≤ 428 ∧ 0 ≤ i5' ∧ i5' ≤ pg7 n1 ∧ 0 ≤ t_queued' ∧ t_queued' ≤ 429 ∧ (∀ k : Nat, k < 429 → -1 ≤ zget t_steps' k ∧ zget t_steps' k ≤ t_queued'))) (fun (s : zS_X4_measure) => match s with | (lab, i2', i3', i4', i5', t_queued', t_steps', t_queue') => if lab = 0 then 100000 else if lab = 2 then (90000 - i3').toNat else if lab = 35 then (50 * (430 - i3') + 40).toNat else if lab = 65 then (50 * (430 - i3') + 30 - i5').toNat else 0) (fun (o : zO_X4_measure) => 0 ≤ (o.1) ∧ (o.1) ≤ 429 ∧ (∀ k : Nat, k < 429 → -1 ≤ zget (o.2.1) k ∧ zget (o.2.1) k ≤ 429)) ?_ _ ?_ ?_
  · intro s hI
    obtain ⟨lab, i2', i3', i4', i5', t_queued', t_steps', t_queue'⟩ := s
    have hI : (lab = 0 ∧ -2147483648 ≤ i2' ∧ i2' ≤ 2147483647) ∨ (lab = 2 ∧ -2147483648 ≤ i2' ∧ i2' ≤ 2147483647 ∧ 0 ≤ i3' ∧ i3' ≤ 429 ∧ (∀ k : Nat, (k : Int) < i3' → zget t_steps' k = -1)) ∨ (lab = 35 ∧ 0 ≤ i3' ∧ i3' ≤ 429 ∧ 0 ≤ t_queued' ∧ t_queued' ≤ 429 ∧ (∀ k : Nat, k < 429 → -1 ≤ zget t_steps' k ∧ zget t_steps' k ≤ t_queued')) ∨ (lab = 65 ∧ 0 ≤ i3' ∧ i3' ≤ 428 ∧ 0 ≤ i5' ∧ i5' ≤ pg7 n1 ∧ 0 ≤ t_queued' ∧ t_queued' ≤ 429 ∧ (∀ k : Nat, k < 429 → -1 ≤ zget t_steps' k ∧ zget t_steps' k ≤ t_queued')) := hI
    rcases hI with ⟨rfl, v0_0, v0_1⟩ | ⟨rfl, v2_0, v2_1, v2_2, v2_3, v2_4⟩ | ⟨rfl, v35_0, v35_1, v35_2, v35_3, v35_4⟩ | ⟨rfl, v65_0, v65_1, v65_2, v65_3, v65_4, v65_5, v65_6⟩
    · show Go _ (zg_X4_measure_0 mk n1 i2' i3' i4' i5' t_queued' t_steps' t_queue')
      unfold zg_X4_measure_0
      exact Go_i (show (((2 : Nat) = 0 ∧ -2147483648 ≤ (i2') ∧ (i2') ≤ 2147483647) ∨ ((2 : Nat) = 2 ∧ -2147483648 ≤ (i2') ∧ (i2') ≤ 2147483647 ∧ 0 ≤ ((0 : Int)) ∧ ((0 : Int)) ≤ 429 ∧ (∀ k : Nat, (k : Int) < ((0 : Int)) → zget (t_steps') k = -1)) ∨ ((2 : Nat) = 35 ∧ 0 ≤ ((0 : Int)) ∧ ((0 : Int)) ≤ 429 ∧ 0 ≤ (t_queued') ∧ (t_queued') ≤ 429 ∧ (∀ k : Nat, k < 429 → -1 ≤ zget (t_steps') k ∧ zget (t_steps') k ≤ (t_queued'))) ∨ ((2 : Nat) = 65 ∧ 0 ≤ ((0 : Int)) ∧ ((0 : Int)) ≤ 428 ∧ 0 ≤ (0) ∧ (0) ≤ pg7 n1 ∧ 0 ≤ (t_queued') ∧ (t_queued') ≤ 429 ∧ (∀ k : Nat, k < 429 → -1 ≤ zget (t_steps') k ∧ zget (t_steps') k ≤ (t_queued')))) ∧ (90000 - ((0 : Int))).toNat < 100000 from ⟨Or.inr (Or.inl (⟨rfl, (by first | assumption | omega), (by first | assumption | omega), (by first | assumption | omega), (by first | assumption | omega), (by first | (intro k hk; omega) | exact all_m1 (by assumption) (by omega))⟩)), by omega⟩)
    · show Go _ (zg_X4_measure_2 mk n1 i2' i3' i4' i5' t_queued' t_steps' t_queue')
      unfold zg_X4_measure_2
      refine Go_chk (by unfold zout; omega) ?_
      refine Go_ite (fun c1 => ?_) (fun c1 => ?_)
      · refine Go_bindP (ok_X4_comeTo (0 : Int) t_steps' t_queue' i2' (0 : Int) (by first | assumption | omega) (by first | assumption | omega) (by intro k hk; have e := v2_4 k (by omega); omega) (by first | assumption | omega) (by first | assumption | omega) (by first | assumption | omega) (by first | assumption | omega)) (fun o2 q2 => ?_)
        obtain ⟨q2_0, q2_1, q2_2, q2_3⟩ := q2
        exact Go_i (show (((35 : Nat) = 0 ∧ -2147483648 ≤ (i2') ∧ (i2') ≤ 2147483647) ∨ ((35 : Nat) = 2 ∧ -2147483648 ≤ (i2') ∧ (i2') ≤ 2147483647 ∧ 0 ≤ ((0 : Int)) ∧ ((0 : Int)) ≤ 429 ∧ (∀ k : Nat, (k : Int) < ((0 : Int)) → zget ((o2.2.1)) k = -1)) ∨ ((35 : Nat) = 35 ∧ 0 ≤ ((0 : Int)) ∧ ((0 : Int)) ≤ 429 ∧ 0 ≤ ((o2.1)) ∧ ((o2.1)) ≤ 429 ∧ (∀ k : Nat, k < 429 → -1 ≤ zget ((o2.2.1)) k ∧ zget ((o2.2.1)) k ≤ ((o2.1)))) ∨ ((35 : Nat) = 65 ∧ 0 ≤ ((0 : Int)) ∧ ((0 : Int)) ≤ 428 ∧ 0 ≤ (0) ∧ (0) ≤ pg7 n1 ∧ 0 ≤ ((o2.1)) ∧ ((o2.1)) ≤ 429 ∧ (∀ k : Nat, k < 429 → -1 ≤ zget ((o2.2.1)) k ∧ zget ((o2.2.1)) k ≤ ((o2.1))))) ∧ (50 * (430 - ((0 : Int))) + 40).toNat < (90000 - i3').toNat from ⟨Or.inr (Or.inr (Or.inl (⟨rfl, (by first | assumption | omega), (by first | assumption | omega), (by first | assumption | omega), (by first | assumption | omega), (by first | assumption | exact all_w (by assumption) (by omega) | (refine all_setw ?_ (Int.le_refl _) ?_ ?_ (by omega) (by omega) <;> first | assumption | omega) | exact all_setw (by assumption) (by omega) (by omega) (by omega) (by omega) (by omega))⟩))), by omega⟩)
      · refine Go_chk (by omega) ?_
        exact Go_i (show (((2 : Nat) = 0 ∧ -2147483648 ≤ (i2') ∧ (i2') ≤ 2147483647) ∨ ((2 : Nat) = 2 ∧ -2147483648 ≤ (i2') ∧ (i2') ≤ 2147483647 ∧ 0 ≤ ((i3' + (1 : Int))) ∧ ((i3' + (1 : Int))) ≤ 429 ∧ (∀ k : Nat, (k : Int) < ((i3' + (1 : Int))) → zget ((zset t_steps' (Int.toNat i3') (-1 : Int))) k = -1)) ∨ ((2 : Nat) = 35 ∧ 0 ≤ ((i3' + (1 : Int))) ∧ ((i3' + (1 : Int))) ≤ 429 ∧ 0 ≤ (t_queued') ∧ (t_queued') ≤ 429 ∧ (∀ k : Nat, k < 429 → -1 ≤ zget ((zset t_steps' (Int.toNat i3') (-1 : Int))) k ∧ zget ((zset t_steps' (Int.toNat i3') (-1 : Int))) k ≤ (t_queued'))) ∨ ((2 : Nat) = 65 ∧ 0 ≤ ((i3' + (1 : Int))) ∧ ((i3' + (1 : Int))) ≤ 428 ∧ 0 ≤ (0) ∧ (0) ≤ pg7 n1 ∧ 0 ≤ (t_queued') ∧ (t_queued') ≤ 429 ∧ (∀ k : Nat, k < 429 → -1 ≤ zget ((zset t_steps' (Int.toNat i3') (-1 : Int))) k ∧ zget ((zset t_steps' (Int.toNat i3') (-1 : Int))) k ≤ (t_queued')))) ∧ (90000 - ((i3' + (1 : Int)))).toNat < (90000 - i3').toNat from ⟨Or.inr (Or.inl (⟨rfl, (by first | assumption | omega), (by first | assumption | omega), (by first | assumption | omega), (by first | assumption | omega), (by first | (intro k hk; omega) | exact all_m1 (by assumption) (by omega))⟩)), by omega⟩)
    · show Go _ (zg_X4_measure_35 mk n1 i2' i3' i4' i5' t_queued' t_steps' t_queue')
      unfold zg_X4_measure_35
      refine Go_chk (by unfold zout; omega) ?_
      refine Go_chk (by unfold zout; omega) ?_
      refine Go_ite (fun c3 => ?_) (fun c3 => ?_)
      · exact Go_i (show 0 ≤ (t_queued') ∧ (t_queued') ≤ 429 ∧ (∀ k : Nat, k < 429 → -1 ≤ zget (t_steps') k ∧ zget (t_steps') k ≤ 429) from ⟨(by first | assumption | omega), (by first | assumption | omega), (by first | assumption | exact all_w (by assumption) (by omega) | (refine all_setw ?_ (Int.le_refl _) ?_ ?_ (by omega) (by omega) <;> first | assumption | omega) | exact all_setw (by assumption) (by omega) (by omega) (by omega) (by omega) (by omega))⟩)
      · refine Go_ite (fun c4 => ?_) (fun c4 => ?_)
        · exact Go_i (show 0 ≤ (t_queued') ∧ (t_queued') ≤ 429 ∧ (∀ k : Nat, k < 429 → -1 ≤ zget (t_steps') k ∧ zget (t_steps') k ≤ 429) from ⟨(by first | assumption | omega), (by first | assumption | omega), (by first | assumption | exact all_w (by assumption) (by omega) | (refine all_setw ?_ (Int.le_refl _) ?_ ?_ (by omega) (by omega) <;> first | assumption | omega) | exact all_setw (by assumption) (by omega) (by omega) (by omega) (by omega) (by omega))⟩)
        · refine Go_chk (by omega) ?_
          refine Go_chk (by assumption) ?_
          have a5 := rget t_queue' (Int.toNat i3')
          refine Go_bindP (ok_X5_cutAt n1 (zget t_queue' (Int.toNat i3')) (by first | assumption | omega) (by first | assumption | omega) (by first | assumption | omega) (by first | assumption | omega)) (fun o9 q6 => ?_)
          obtain ⟨q6_0, q6_1, q6_2⟩ := q6
          exact Go_i (show (((65 : Nat) = 0 ∧ -2147483648 ≤ (0) ∧ (0) ≤ 2147483647) ∨ ((65 : Nat) = 2 ∧ -2147483648 ≤ (0) ∧ (0) ≤ 2147483647 ∧ 0 ≤ (i3') ∧ (i3') ≤ 429 ∧ (∀ k : Nat, (k : Int) < (i3') → zget (t_steps') k = -1)) ∨ ((65 : Nat) = 35 ∧ 0 ≤ (i3') ∧ (i3') ≤ 429 ∧ 0 ≤ (t_queued') ∧ (t_queued') ≤ 429 ∧ (∀ k : Nat, k < 429 → -1 ≤ zget (t_steps') k ∧ zget (t_steps') k ≤ (t_queued'))) ∨ ((65 : Nat) = 65 ∧ 0 ≤ (i3') ∧ (i3') ≤ 428 ∧ 0 ≤ ((0 : Int)) ∧ ((0 : Int)) ≤ pg7 n1 ∧ 0 ≤ (t_queued') ∧ (t_queued') ≤ 429 ∧ (∀ k : Nat, k < 429 → -1 ≤ zget (t_steps') k ∧ zget (t_steps') k ≤ (t_queued')))) ∧ (50 * (430 - (i3')) + 30 - ((0 : Int))).toNat < (50 * (430 - i3') + 40).toNat from ⟨Or.inr (Or.inr (Or.inr (⟨rfl, (by first | assumption | omega), (by first | assumption | omega), (by first | assumption | omega), (by first | assumption | omega), (by first | assumption | omega), (by first | assumption | omega), (by first | assumption | exact all_w (by assumption) (by omega) | (refine all_setw ?_ (Int.le_refl _) ?_ ?_ (by omega) (by omega) <;> first | assumption | omega) | exact all_setw (by assumption) (by omega) (by omega) (by omega) (by omega) (by omega))⟩))), by omega⟩)
    · show Go _ (zg_X4_measure_65 mk n1 i2' i3' i4' i5' t_queued' t_steps' t_queue')
      unfold zg_X4_measure_65
      refine Go_chk (by assumption) ?_
      refine Go_bindP (ok_X5_lineCount n1 (by first | assumption | omega) (by first | assumption | omega)) (fun o13 q7 => ?_)
      obtain ⟨q7_0, q7_1, q7_2⟩ := q7
      refine Go_chk (by unfold zout; omega) ?_
      refine Go_chk (by unfold zout; omega) ?_
      refine Go_ite (fun c8 => ?_) (fun c8 => ?_)
      · exact Go_i (show (((35 : Nat) = 0 ∧ -2147483648 ≤ (0) ∧ (0) ≤ 2147483647) ∨ ((35 : Nat) = 2 ∧ -2147483648 ≤ (0) ∧ (0) ≤ 2147483647 ∧ 0 ≤ ((i3' + (1 : Int))) ∧ ((i3' + (1 : Int))) ≤ 429 ∧ (∀ k : Nat, (k : Int) < ((i3' + (1 : Int))) → zget (t_steps') k = -1)) ∨ ((35 : Nat) = 35 ∧ 0 ≤ ((i3' + (1 : Int))) ∧ ((i3' + (1 : Int))) ≤ 429 ∧ 0 ≤ (t_queued') ∧ (t_queued') ≤ 429 ∧ (∀ k : Nat, k < 429 → -1 ≤ zget (t_steps') k ∧ zget (t_steps') k ≤ (t_queued'))) ∨ ((35 : Nat) = 65 ∧ 0 ≤ ((i3' + (1 : Int))) ∧ ((i3' + (1 : Int))) ≤ 428 ∧ 0 ≤ (i5') ∧ (i5') ≤ pg7 n1 ∧ 0 ≤ (t_queued') ∧ (t_queued') ≤ 429 ∧ (∀ k : Nat, k < 429 → -1 ≤ zget (t_steps') k ∧ zget (t_steps') k ≤ (t_queued')))) ∧ (50 * (430 - ((i3' + (1 : Int)))) + 40).toNat < (50 * (430 - i3') + 30 - i5').toNat from ⟨Or.inr (Or.inr (Or.inl (⟨rfl, (by first | assumption | omega), (by first | assumption | omega), (by first | assumption | omega), (by first | assumption | omega), (by first | assumption | exact all_w (by assumption) (by omega) | (refine all_setw ?_ (Int.le_refl _) ?_ ?_ (by omega) (by omega) <;> first | assumption | omega) | exact all_setw (by assumption) (by omega) (by omega) (by omega) (by omega) (by omega))⟩))), by omega⟩)
      · refine Go_bindP (ok_X5_neighbourWith n1 i4' i5' (by first | assumption | omega) (by first | assumption | omega) (by first | assumption | omega) (by first | assumption | omega)) (fun o16 q9 => ?_)
        obtain ⟨q9_0, q9_1⟩ := q9
        refine Go_chk (by omega) ?_
        have a10 := rget t_queue' (Int.toNat i3')
        refine Go_bindP (ok_X4_stepsTo t_steps' (zget t_queue' (Int.toNat i3')) (by first | assumption | omega) (by first | assumption | omega)) (fun o18 q11 => ?_)
        have sq11 := q11 t_queued' (by omega) (by assumption)
        refine Go_bindP (ok_X4_comeTo t_queued' t_steps' t_queue' o16 (o18 + (1 : Int)) (by first | assumption | omega) (by first | assumption | omega) (by first | assumption | exact all_w (by assumption) (by omega) | (refine all_setw ?_ (Int.le_refl _) ?_ ?_ (by omega) (by omega) <;> first | assumption | omega) | exact all_setw (by assumption) (by omega) (by omega) (by omega) (by omega) (by omega)) (by first | assumption | omega) (by first | assumption | omega) (by first | assumption | omega) (by first | assumption | omega)) (fun o19 q12 => ?_)
        obtain ⟨q12_0, q12_1, q12_2, q12_3⟩ := q12
        exact Go_i (show (((65 : Nat) = 0 ∧ -2147483648 ≤ (0) ∧ (0) ≤ 2147483647) ∨ ((65 : Nat) = 2 ∧ -2147483648 ≤ (0) ∧ (0) ≤ 2147483647 ∧ 0 ≤ (i3') ∧ (i3') ≤ 429 ∧ (∀ k : Nat, (k : Int) < (i3') → zget ((o19.2.1)) k = -1)) ∨ ((65 : Nat) = 35 ∧ 0 ≤ (i3') ∧ (i3') ≤ 429 ∧ 0 ≤ ((o19.1)) ∧ ((o19.1)) ≤ 429 ∧ (∀ k : Nat, k < 429 → -1 ≤ zget ((o19.2.1)) k ∧ zget ((o19.2.1)) k ≤ ((o19.1)))) ∨ ((65 : Nat) = 65 ∧ 0 ≤ (i3') ∧ (i3') ≤ 428 ∧ 0 ≤ ((i5' + (1 : Int))) ∧ ((i5' + (1 : Int))) ≤ pg7 n1 ∧ 0 ≤ ((o19.1)) ∧ ((o19.1)) ≤ 429 ∧ (∀ k : Nat, k < 429 → -1 ≤ zget ((o19.2.1)) k ∧ zget ((o19.2.1)) k ≤ ((o19.1))))) ∧ (50 * (430 - (i3')) + 30 - ((i5' + (1 : Int)))).toNat < (50 * (430 - i3') + 30 - i5').toNat from ⟨Or.inr (Or.inr (Or.inr (⟨rfl, (by first | assumption | omega), (by first | assumption | omega), (by first | assumption | omega), (by first | assumption | omega), (by first | assumption | omega), (by first | assumption | omega), (by first | assumption | exact all_w (by assumption) (by omega) | (refine all_setw ?_ (Int.le_refl _) ?_ ?_ (by omega) (by omega) <;> first | assumption | omega) | exact all_setw (by assumption) (by omega) (by omega) (by omega) (by omega) (by omega))⟩))), by omega⟩)
  · exact (show ((0 : Nat) = 0 ∧ -2147483648 ≤ i2 ∧ i2 ≤ 2147483647) ∨ ((0 : Nat) = 2 ∧ -2147483648 ≤ i2 ∧ i2 ≤ 2147483647 ∧ 0 ≤ 0 ∧ 0 ≤ 429 ∧ (∀ k : Nat, (k : Int) < 0 → zget t_steps k = -1)) ∨ ((0 : Nat) = 35 ∧ 0 ≤ 0 ∧ 0 ≤ 429 ∧ 0 ≤ t_queued ∧ t_queued ≤ 429 ∧ (∀ k : Nat, k < 429 → -1 ≤ zget t_steps k ∧ zget t_steps k ≤ t_queued)) ∨ ((0 : Nat) = 65 ∧ 0 ≤ 0 ∧ 0 ≤ 428 ∧ 0 ≤ 0 ∧ 0 ≤ pg7 n1 ∧ 0 ≤ t_queued ∧ t_queued ≤ 429 ∧ (∀ k : Nat, k < 429 → -1 ≤ zget t_steps k ∧ zget t_steps k ≤ t_queued)) from Or.inl (⟨rfl, (by first | assumption | omega), (by first | assumption | omega)⟩))
  · show 100000 < jfuel
    unfold jfuel
    omega
set_option maxRecDepth 20000 in
theorem ok_X4_mostSteps (mk : Nat) (t_steps : Nat) (n1 : Nat) (p0 : ¬ zno mk n1) (p1 : (∀ k : Nat, k < 429 → -1 ≤ zget t_steps k ∧ zget t_steps k ≤ 429)) : Go (fun o => 0 ≤ (o) ∧ (o) ≤ 429) (zf_X4_mostSteps mk t_steps n1) := by
  unfold zf_X4_mostSteps
  have grn1 := zno_rng p0
  have g7n1 := rpg7 (n := n1) (by omega) (by omega)
  have g8n1 := rpg8 (n := n1) (by omega) (by omega)
  refine jok (fun (s : zS_X4_mostSteps) => match s with | (lab, i2', i3') => (lab = 0) ∨ (lab = 4 ∧ 0 ≤ i2' ∧ i2' ≤ 429 ∧ 0 ≤ i3' ∧ i3' ≤ pg8 n1)) (fun (s : zS_X4_mostSteps) => match s with | (lab, i2', i3') => if lab = 0 then 500 else if lab = 4 then (440 - i3').toNat else 0) (fun (o : zO_X4_mostSteps) => 0 ≤ (o) ∧ (o) ≤ 429) ?_ _ ?_ ?_
  · intro s hI
    obtain ⟨lab, i2', i3'⟩ := s
    have hI : (lab = 0) ∨ (lab = 4 ∧ 0 ≤ i2' ∧ i2' ≤ 429 ∧ 0 ≤ i3' ∧ i3' ≤ pg8 n1) := hI
    rcases hI with rfl | ⟨rfl, v4_0, v4_1, v4_2, v4_3⟩
    · show Go _ (zg_X4_mostSteps_0 mk t_steps n1 i2' i3')
      unfold zg_X4_mostSteps_0
      exact Go_i (show (((4 : Nat) = 0) ∨ ((4 : Nat) = 4 ∧ 0 ≤ ((0 : Int)) ∧ ((0 : Int)) ≤ 429 ∧ 0 ≤ ((0 : Int)) ∧ ((0 : Int)) ≤ pg8 n1)) ∧ (440 - ((0 : Int))).toNat < 500 from ⟨Or.inr (⟨rfl, (by first | assumption | omega), (by first | assumption | omega), (by first | assumption | omega), (by first | assumption | omega)⟩), by omega⟩)
    · show Go _ (zg_X4_mostSteps_4 mk t_steps n1 i2' i3')
      unfold zg_X4_mostSteps_4
      refine Go_chk (by assumption) ?_
      refine Go_bindP (ok_X5_cutCount n1 (by first | assumption | omega) (by first | assumption | omega)) (fun o2 q1 => ?_)
      obtain ⟨q1_0, q1_1, q1_2⟩ := q1
      refine Go_chk (by unfold zout; omega) ?_
      refine Go_chk (by unfold zout; omega) ?_
      refine Go_ite (fun c2 => ?_) (fun c2 => ?_)
      · exact Go_i (show 0 ≤ (i2') ∧ (i2') ≤ 429 from ⟨(by first | assumption | omega), (by first | assumption | omega)⟩)
      · refine Go_bindP (ok_X4_stepsTo t_steps i3' (by first | assumption | omega) (by first | assumption | omega)) (fun o5 q3 => ?_)
        have sq3 := q3 429 (by omega) p1
        refine Go_chk (by unfold zout; omega) ?_
        refine Go_chk (by unfold zout; omega) ?_
        have a4 := rmax i2' o5
        exact Go_i (show (((4 : Nat) = 0) ∨ ((4 : Nat) = 4 ∧ 0 ≤ ((zmax i2' o5)) ∧ ((zmax i2' o5)) ≤ 429 ∧ 0 ≤ ((i3' + (1 : Int))) ∧ ((i3' + (1 : Int))) ≤ pg8 n1)) ∧ (440 - ((i3' + (1 : Int)))).toNat < (440 - i3').toNat from ⟨Or.inr (⟨rfl, (by first | assumption | omega), (by first | assumption | omega), (by first | assumption | omega), (by first | assumption | omega)⟩), by omega⟩)
  · exact (show ((0 : Nat) = 0) ∨ ((0 : Nat) = 4 ∧ 0 ≤ 0 ∧ 0 ≤ 429 ∧ 0 ≤ 0 ∧ 0 ≤ pg8 n1) from Or.inl (rfl))
  · show 500 < jfuel
    unfold jfuel
    omega
set_option maxRecDepth 20000 in
theorem ok_X4_howManyAt (mk : Nat) (t_steps : Nat) (n1 : Nat) (i2 : Int) (p0 : ¬ zno mk n1) (p1 : (∀ k : Nat, k < 429 → -1 ≤ zget t_steps k ∧ zget t_steps k ≤ 429)) (p2 : -2147483648 ≤ i2) (p3 : i2 ≤ 2147483647) : Go (fun o => 0 ≤ (o) ∧ (o) ≤ 429) (zf_X4_howManyAt mk t_steps n1 i2) := by
  unfold zf_X4_howManyAt
  have grn1 := zno_rng p0
  have g7n1 := rpg7 (n := n1) (by omega) (by omega)
  have g8n1 := rpg8 (n := n1) (by omega) (by omega)
  refine jok (fun (s : zS_X4_howManyAt) => match s with | (lab, i2', i3', i4') => (lab = 0 ∧ -2147483648 ≤ i2' ∧ i2' ≤ 2147483647) ∨ (lab = 5 ∧ -2147483648 ≤ i2' ∧ i2' ≤ 2147483647 ∧ 0 ≤ i3' ∧ i3' ≤ i4' ∧ i4' ≤ pg8 n1)) (fun (s : zS_X4_howManyAt) => match s with | (lab, i2', i3', i4') => if lab = 0 then 500 else if lab = 5 then (440 - i4').toNat else 0) (fun (o : zO_X4_howManyAt) => 0 ≤ (o) ∧ (o) ≤ 429) ?_ _ ?_ ?_
  · intro s hI
    obtain ⟨lab, i2', i3', i4'⟩ := s
    have hI : (lab = 0 ∧ -2147483648 ≤ i2' ∧ i2' ≤ 2147483647) ∨ (lab = 5 ∧ -2147483648 ≤ i2' ∧ i2' ≤ 2147483647 ∧ 0 ≤ i3' ∧ i3' ≤ i4' ∧ i4' ≤ pg8 n1) := hI
    rcases hI with ⟨rfl, v0_0, v0_1⟩ | ⟨rfl, v5_0, v5_1, v5_2, v5_3, v5_4⟩
    · show Go _ (zg_X4_howManyAt_0 mk t_steps n1 i2' i3' i4')
      unfold zg_X4_howManyAt_0
      exact Go_i (show (((5 : Nat) = 0 ∧ -2147483648 ≤ (i2') ∧ (i2') ≤ 2147483647) ∨ ((5 : Nat) = 5 ∧ -2147483648 ≤ (i2') ∧ (i2') ≤ 2147483647 ∧ 0 ≤ ((0 : Int)) ∧ ((0 : Int)) ≤ ((0 : Int)) ∧ ((0 : Int)) ≤ pg8 n1)) ∧ (440 - ((0 : Int))).toNat < 500 from ⟨Or.inr (⟨rfl, (by first | assumption | omega), (by first | assumption | omega), (by first | assumption | omega), (by first | assumption | omega), (by first | assumption | omega)⟩), by omega⟩)
    · show Go _ (zg_X4_howManyAt_5 mk t_steps n1 i2' i3' i4')
      unfold zg_X4_howManyAt_5
      refine Go_chk (by assumption) ?_
      refine Go_bindP (ok_X5_cutCount n1 (by first | assumption | omega) (by first | assumption | omega)) (fun o2 q1 => ?_)
      obtain ⟨q1_0, q1_1, q1_2⟩ := q1
      refine Go_chk (by unfold zout; omega) ?_
      refine Go_chk (by unfold zout; omega) ?_
      refine Go_ite (fun c2 => ?_) (fun c2 => ?_)
      · exact Go_i (show 0 ≤ (i3') ∧ (i3') ≤ 429 from ⟨(by first | assumption | omega), (by first | assumption | omega)⟩)
      · refine Go_bindP (ok_X4_stepsTo t_steps i4' (by first | assumption | omega) (by first | assumption | omega)) (fun o5 q3 => ?_)
        have sq3 := q3 429 (by omega) p1
        refine Go_chk (by unfold zout; omega) ?_
        refine Go_chk (by unfold zout; omega) ?_
        refine Go_ite (fun c4 => ?_) (fun c4 => ?_)
        · exact Go_i (show (((5 : Nat) = 0 ∧ -2147483648 ≤ (i2') ∧ (i2') ≤ 2147483647) ∨ ((5 : Nat) = 5 ∧ -2147483648 ≤ (i2') ∧ (i2') ≤ 2147483647 ∧ 0 ≤ ((i3' + (1 : Int))) ∧ ((i3' + (1 : Int))) ≤ ((i4' + (1 : Int))) ∧ ((i4' + (1 : Int))) ≤ pg8 n1)) ∧ (440 - ((i4' + (1 : Int)))).toNat < (440 - i4').toNat from ⟨Or.inr (⟨rfl, (by first | assumption | omega), (by first | assumption | omega), (by first | assumption | omega), (by first | assumption | omega), (by first | assumption | omega)⟩), by omega⟩)
        · exact Go_i (show (((5 : Nat) = 0 ∧ -2147483648 ≤ (i2') ∧ (i2') ≤ 2147483647) ∨ ((5 : Nat) = 5 ∧ -2147483648 ≤ (i2') ∧ (i2') ≤ 2147483647 ∧ 0 ≤ (i3') ∧ (i3') ≤ ((i4' + (1 : Int))) ∧ ((i4' + (1 : Int))) ≤ pg8 n1)) ∧ (440 - ((i4' + (1 : Int)))).toNat < (440 - i4').toNat from ⟨Or.inr (⟨rfl, (by first | assumption | omega), (by first | assumption | omega), (by first | assumption | omega), (by first | assumption | omega), (by first | assumption | omega)⟩), by omega⟩)
  · exact (show ((0 : Nat) = 0 ∧ -2147483648 ≤ i2 ∧ i2 ≤ 2147483647) ∨ ((0 : Nat) = 5 ∧ -2147483648 ≤ i2 ∧ i2 ≤ 2147483647 ∧ 0 ≤ 0 ∧ 0 ≤ 0 ∧ 0 ≤ pg8 n1) from Or.inl (⟨rfl, (by first | assumption | omega), (by first | assumption | omega)⟩))
  · show 500 < jfuel
    unfold jfuel
    omega
set_option maxRecDepth 20000 in
theorem ok_X4_leastNearer (mk : Nat) (t_steps : Nat) (n1 : Nat) (i2 : Int) (p0 : ¬ zno mk n1) (p1 : (∀ k : Nat, k < 429 → -1 ≤ zget t_steps k ∧ zget t_steps k ≤ 429)) (p2 : -2147483648 ≤ i2) (p3 : i2 ≤ 2147483647) : Go (fun o => -1 ≤ (o) ∧ (o) < 429) (zf_X4_leastNearer mk t_steps n1 i2) := by
  unfold zf_X4_leastNearer
  have grn1 := zno_rng p0
  have g7n1 := rpg7 (n := n1) (by omega) (by omega)
  have g8n1 := rpg8 (n := n1) (by omega) (by omega)
  refine jok (fun (s : zS_X4_leastNearer) => match s with | (lab, i2', i3', i4', i5', i6') => (lab = 0 ∧ -2147483648 ≤ i2' ∧ i2' ≤ 2147483647) ∨ (lab = 12 ∧ -2147483648 ≤ i2' ∧ i2' ≤ 2147483647 ∧ -1 ≤ i4' ∧ i4' < 429 ∧ 0 ≤ i5' ∧ i5' ≤ pg7 n1) ∨ (lab = 56 ∧ -2147483648 ≤ i2' ∧ i2' ≤ 2147483647 ∧ -1 ≤ i4' ∧ i4' < 429 ∧ 0 ≤ i5' ∧ i5' < pg7 n1 ∧ -1 ≤ i6' ∧ i6' < 429)) (fun (s : zS_X4_leastNearer) => match s with | (lab, i2', i3', i4', i5', i6') => if lab = 0 then 500 else if lab = 12 then (200 - 2 * i5').toNat else if lab = 56 then (199 - 2 * i5').toNat else 0) (fun (o : zO_X4_leastNearer) => -1 ≤ (o) ∧ (o) < 429) ?_ _ ?_ ?_
  · intro s hI
    obtain ⟨lab, i2', i3', i4', i5', i6'⟩ := s
    have hI : (lab = 0 ∧ -2147483648 ≤ i2' ∧ i2' ≤ 2147483647) ∨ (lab = 12 ∧ -2147483648 ≤ i2' ∧ i2' ≤ 2147483647 ∧ -1 ≤ i4' ∧ i4' < 429 ∧ 0 ≤ i5' ∧ i5' ≤ pg7 n1) ∨ (lab = 56 ∧ -2147483648 ≤ i2' ∧ i2' ≤ 2147483647 ∧ -1 ≤ i4' ∧ i4' < 429 ∧ 0 ≤ i5' ∧ i5' < pg7 n1 ∧ -1 ≤ i6' ∧ i6' < 429) := hI
    rcases hI with ⟨rfl, v0_0, v0_1⟩ | ⟨rfl, v12_0, v12_1, v12_2, v12_3, v12_4, v12_5⟩ | ⟨rfl, v56_0, v56_1, v56_2, v56_3, v56_4, v56_5, v56_6, v56_7⟩
    · show Go _ (zg_X4_leastNearer_0 mk t_steps n1 i2' i3' i4' i5' i6')
      unfold zg_X4_leastNearer_0
      refine Go_chk (by assumption) ?_
      refine Go_bindP (ok_X5_cutAt n1 i2' (by first | assumption | omega) (by first | assumption | omega) (by first | assumption | omega) (by first | assumption | omega)) (fun o2 q1 => ?_)
      obtain ⟨q1_0, q1_1, q1_2⟩ := q1
      exact Go_i (show (((12 : Nat) = 0 ∧ -2147483648 ≤ (i2') ∧ (i2') ≤ 2147483647) ∨ ((12 : Nat) = 12 ∧ -2147483648 ≤ (i2') ∧ (i2') ≤ 2147483647 ∧ -1 ≤ ((-1 : Int)) ∧ ((-1 : Int)) < 429 ∧ 0 ≤ ((0 : Int)) ∧ ((0 : Int)) ≤ pg7 n1) ∨ ((12 : Nat) = 56 ∧ -2147483648 ≤ (i2') ∧ (i2') ≤ 2147483647 ∧ -1 ≤ ((-1 : Int)) ∧ ((-1 : Int)) < 429 ∧ 0 ≤ ((0 : Int)) ∧ ((0 : Int)) < pg7 n1 ∧ -1 ≤ (0) ∧ (0) < 429)) ∧ (200 - 2 * ((0 : Int))).toNat < 500 from ⟨Or.inr (Or.inl (⟨rfl, (by first | assumption | omega), (by first | assumption | omega), (by first | assumption | omega), (by first | assumption | omega), (by first | assumption | omega), (by first | assumption | omega)⟩)), by omega⟩)
    · show Go _ (zg_X4_leastNearer_12 mk t_steps n1 i2' i3' i4' i5' i6')
      unfold zg_X4_leastNearer_12
      refine Go_chk (by assumption) ?_
      refine Go_bindP (ok_X5_lineCount n1 (by first | assumption | omega) (by first | assumption | omega)) (fun o4 q2 => ?_)
      obtain ⟨q2_0, q2_1, q2_2⟩ := q2
      refine Go_chk (by unfold zout; omega) ?_
      refine Go_chk (by unfold zout; omega) ?_
      refine Go_ite (fun c3 => ?_) (fun c3 => ?_)
      · exact Go_i (show -1 ≤ (i4') ∧ (i4') < 429 from ⟨(by first | assumption | omega), (by first | assumption | omega)⟩)
      · refine Go_bindP (ok_X5_neighbourWith n1 i3' i5' (by first | assumption | omega) (by first | assumption | omega) (by first | assumption | omega) (by first | assumption | omega)) (fun o7 q4 => ?_)
        obtain ⟨q4_0, q4_1⟩ := q4
        refine Go_chk (by unfold zout; omega) ?_
        refine Go_ite (fun c5 => ?_) (fun c5 => ?_)
        · exact Go_i (show (((56 : Nat) = 0 ∧ -2147483648 ≤ (i2') ∧ (i2') ≤ 2147483647) ∨ ((56 : Nat) = 12 ∧ -2147483648 ≤ (i2') ∧ (i2') ≤ 2147483647 ∧ -1 ≤ (i4') ∧ (i4') < 429 ∧ 0 ≤ (i5') ∧ (i5') ≤ pg7 n1) ∨ ((56 : Nat) = 56 ∧ -2147483648 ≤ (i2') ∧ (i2') ≤ 2147483647 ∧ -1 ≤ (i4') ∧ (i4') < 429 ∧ 0 ≤ (i5') ∧ (i5') < pg7 n1 ∧ -1 ≤ (o7) ∧ (o7) < 429)) ∧ (199 - 2 * (i5')).toNat < (200 - 2 * i5').toNat from ⟨Or.inr (Or.inr (⟨rfl, (by first | assumption | omega), (by first | assumption | omega), (by first | assumption | omega), (by first | assumption | omega), (by first | assumption | omega), (by first | assumption | omega), (by first | assumption | omega), (by first | assumption | omega)⟩)), by omega⟩)
        · refine Go_bindP (ok_X4_stepsTo t_steps o7 (by first | assumption | omega) (by first | assumption | omega)) (fun o9 q6 => ?_)
          have sq6 := q6 429 (by omega) p1
          refine Go_bindP (ok_X4_stepsTo t_steps i2' (by first | assumption | omega) (by first | assumption | omega)) (fun o10 q7 => ?_)
          have sq7 := q7 429 (by omega) p1
          refine Go_chk (by unfold zout; omega) ?_
          refine Go_chk (by unfold zout; omega) ?_
          refine Go_ite (fun c8 => ?_) (fun c8 => ?_)
          · refine Go_ite (fun c9 => ?_) (fun c9 => ?_)
            · exact Go_i (show (((12 : Nat) = 0 ∧ -2147483648 ≤ (i2') ∧ (i2') ≤ 2147483647) ∨ ((12 : Nat) = 12 ∧ -2147483648 ≤ (i2') ∧ (i2') ≤ 2147483647 ∧ -1 ≤ (i4') ∧ (i4') < 429 ∧ 0 ≤ ((i5' + (1 : Int))) ∧ ((i5' + (1 : Int))) ≤ pg7 n1) ∨ ((12 : Nat) = 56 ∧ -2147483648 ≤ (i2') ∧ (i2') ≤ 2147483647 ∧ -1 ≤ (i4') ∧ (i4') < 429 ∧ 0 ≤ ((i5' + (1 : Int))) ∧ ((i5' + (1 : Int))) < pg7 n1 ∧ -1 ≤ (o7) ∧ (o7) < 429)) ∧ (200 - 2 * ((i5' + (1 : Int)))).toNat < (200 - 2 * i5').toNat from ⟨Or.inr (Or.inl (⟨rfl, (by first | assumption | omega), (by first | assumption | omega), (by first | assumption | omega), (by first | assumption | omega), (by first | assumption | omega), (by first | assumption | omega)⟩)), by omega⟩)
            · refine Go_chk (by unfold zout; omega) ?_
              refine Go_ite (fun c10 => ?_) (fun c10 => ?_)
              · exact Go_i (show (((12 : Nat) = 0 ∧ -2147483648 ≤ (i2') ∧ (i2') ≤ 2147483647) ∨ ((12 : Nat) = 12 ∧ -2147483648 ≤ (i2') ∧ (i2') ≤ 2147483647 ∧ -1 ≤ (o7) ∧ (o7) < 429 ∧ 0 ≤ ((i5' + (1 : Int))) ∧ ((i5' + (1 : Int))) ≤ pg7 n1) ∨ ((12 : Nat) = 56 ∧ -2147483648 ≤ (i2') ∧ (i2') ≤ 2147483647 ∧ -1 ≤ (o7) ∧ (o7) < 429 ∧ 0 ≤ ((i5' + (1 : Int))) ∧ ((i5' + (1 : Int))) < pg7 n1 ∧ -1 ≤ (o7) ∧ (o7) < 429)) ∧ (200 - 2 * ((i5' + (1 : Int)))).toNat < (200 - 2 * i5').toNat from ⟨Or.inr (Or.inl (⟨rfl, (by first | assumption | omega), (by first | assumption | omega), (by first | assumption | omega), (by first | assumption | omega), (by first | assumption | omega), (by first | assumption | omega)⟩)), by omega⟩)
              · refine Go_ite (fun c11 => ?_) (fun c11 => ?_)
                · exact Go_i (show (((12 : Nat) = 0 ∧ -2147483648 ≤ (i2') ∧ (i2') ≤ 2147483647) ∨ ((12 : Nat) = 12 ∧ -2147483648 ≤ (i2') ∧ (i2') ≤ 2147483647 ∧ -1 ≤ (i4') ∧ (i4') < 429 ∧ 0 ≤ ((i5' + (1 : Int))) ∧ ((i5' + (1 : Int))) ≤ pg7 n1) ∨ ((12 : Nat) = 56 ∧ -2147483648 ≤ (i2') ∧ (i2') ≤ 2147483647 ∧ -1 ≤ (i4') ∧ (i4') < 429 ∧ 0 ≤ ((i5' + (1 : Int))) ∧ ((i5' + (1 : Int))) < pg7 n1 ∧ -1 ≤ (o7) ∧ (o7) < 429)) ∧ (200 - 2 * ((i5' + (1 : Int)))).toNat < (200 - 2 * i5').toNat from ⟨Or.inr (Or.inl (⟨rfl, (by first | assumption | omega), (by first | assumption | omega), (by first | assumption | omega), (by first | assumption | omega), (by first | assumption | omega), (by first | assumption | omega)⟩)), by omega⟩)
                · exact Go_i (show (((12 : Nat) = 0 ∧ -2147483648 ≤ (i2') ∧ (i2') ≤ 2147483647) ∨ ((12 : Nat) = 12 ∧ -2147483648 ≤ (i2') ∧ (i2') ≤ 2147483647 ∧ -1 ≤ (o7) ∧ (o7) < 429 ∧ 0 ≤ ((i5' + (1 : Int))) ∧ ((i5' + (1 : Int))) ≤ pg7 n1) ∨ ((12 : Nat) = 56 ∧ -2147483648 ≤ (i2') ∧ (i2') ≤ 2147483647 ∧ -1 ≤ (o7) ∧ (o7) < 429 ∧ 0 ≤ ((i5' + (1 : Int))) ∧ ((i5' + (1 : Int))) < pg7 n1 ∧ -1 ≤ (o7) ∧ (o7) < 429)) ∧ (200 - 2 * ((i5' + (1 : Int)))).toNat < (200 - 2 * i5').toNat from ⟨Or.inr (Or.inl (⟨rfl, (by first | assumption | omega), (by first | assumption | omega), (by first | assumption | omega), (by first | assumption | omega), (by first | assumption | omega), (by first | assumption | omega)⟩)), by omega⟩)
          · exact Go_i (show (((56 : Nat) = 0 ∧ -2147483648 ≤ (i2') ∧ (i2') ≤ 2147483647) ∨ ((56 : Nat) = 12 ∧ -2147483648 ≤ (i2') ∧ (i2') ≤ 2147483647 ∧ -1 ≤ (i4') ∧ (i4') < 429 ∧ 0 ≤ (i5') ∧ (i5') ≤ pg7 n1) ∨ ((56 : Nat) = 56 ∧ -2147483648 ≤ (i2') ∧ (i2') ≤ 2147483647 ∧ -1 ≤ (i4') ∧ (i4') < 429 ∧ 0 ≤ (i5') ∧ (i5') < pg7 n1 ∧ -1 ≤ (o7) ∧ (o7) < 429)) ∧ (199 - 2 * (i5')).toNat < (200 - 2 * i5').toNat from ⟨Or.inr (Or.inr (⟨rfl, (by first | assumption | omega), (by first | assumption | omega), (by first | assumption | omega), (by first | assumption | omega), (by first | assumption | omega), (by first | assumption | omega), (by first | assumption | omega), (by first | assumption | omega)⟩)), by omega⟩)
    · show Go _ (zg_X4_leastNearer_56 mk t_steps n1 i2' i3' i4' i5' i6')
      unfold zg_X4_leastNearer_56
      refine Go_ite (fun c12 => ?_) (fun c12 => ?_)
      · exact Go_i (show (((12 : Nat) = 0 ∧ -2147483648 ≤ (i2') ∧ (i2') ≤ 2147483647) ∨ ((12 : Nat) = 12 ∧ -2147483648 ≤ (i2') ∧ (i2') ≤ 2147483647 ∧ -1 ≤ (i4') ∧ (i4') < 429 ∧ 0 ≤ ((i5' + (1 : Int))) ∧ ((i5' + (1 : Int))) ≤ pg7 n1) ∨ ((12 : Nat) = 56 ∧ -2147483648 ≤ (i2') ∧ (i2') ≤ 2147483647 ∧ -1 ≤ (i4') ∧ (i4') < 429 ∧ 0 ≤ ((i5' + (1 : Int))) ∧ ((i5' + (1 : Int))) < pg7 n1 ∧ -1 ≤ (i6') ∧ (i6') < 429)) ∧ (200 - 2 * ((i5' + (1 : Int)))).toNat < (199 - 2 * i5').toNat from ⟨Or.inr (Or.inl (⟨rfl, (by first | assumption | omega), (by first | assumption | omega), (by first | assumption | omega), (by first | assumption | omega), (by first | assumption | omega), (by first | assumption | omega)⟩)), by omega⟩)
      · refine Go_chk (by unfold zout; omega) ?_
        refine Go_ite (fun c13 => ?_) (fun c13 => ?_)
        · exact Go_i (show (((12 : Nat) = 0 ∧ -2147483648 ≤ (i2') ∧ (i2') ≤ 2147483647) ∨ ((12 : Nat) = 12 ∧ -2147483648 ≤ (i2') ∧ (i2') ≤ 2147483647 ∧ -1 ≤ (i6') ∧ (i6') < 429 ∧ 0 ≤ ((i5' + (1 : Int))) ∧ ((i5' + (1 : Int))) ≤ pg7 n1) ∨ ((12 : Nat) = 56 ∧ -2147483648 ≤ (i2') ∧ (i2') ≤ 2147483647 ∧ -1 ≤ (i6') ∧ (i6') < 429 ∧ 0 ≤ ((i5' + (1 : Int))) ∧ ((i5' + (1 : Int))) < pg7 n1 ∧ -1 ≤ (i6') ∧ (i6') < 429)) ∧ (200 - 2 * ((i5' + (1 : Int)))).toNat < (199 - 2 * i5').toNat from ⟨Or.inr (Or.inl (⟨rfl, (by first | assumption | omega), (by first | assumption | omega), (by first | assumption | omega), (by first | assumption | omega), (by first | assumption | omega), (by first | assumption | omega)⟩)), by omega⟩)
        · refine Go_chk (by unfold zout; omega) ?_
          refine Go_ite (fun c14 => ?_) (fun c14 => ?_)
          · exact Go_i (show (((12 : Nat) = 0 ∧ -2147483648 ≤ (i2') ∧ (i2') ≤ 2147483647) ∨ ((12 : Nat) = 12 ∧ -2147483648 ≤ (i2') ∧ (i2') ≤ 2147483647 ∧ -1 ≤ (i4') ∧ (i4') < 429 ∧ 0 ≤ ((i5' + (1 : Int))) ∧ ((i5' + (1 : Int))) ≤ pg7 n1) ∨ ((12 : Nat) = 56 ∧ -2147483648 ≤ (i2') ∧ (i2') ≤ 2147483647 ∧ -1 ≤ (i4') ∧ (i4') < 429 ∧ 0 ≤ ((i5' + (1 : Int))) ∧ ((i5' + (1 : Int))) < pg7 n1 ∧ -1 ≤ (i6') ∧ (i6') < 429)) ∧ (200 - 2 * ((i5' + (1 : Int)))).toNat < (199 - 2 * i5').toNat from ⟨Or.inr (Or.inl (⟨rfl, (by first | assumption | omega), (by first | assumption | omega), (by first | assumption | omega), (by first | assumption | omega), (by first | assumption | omega), (by first | assumption | omega)⟩)), by omega⟩)
          · exact Go_i (show (((12 : Nat) = 0 ∧ -2147483648 ≤ (i2') ∧ (i2') ≤ 2147483647) ∨ ((12 : Nat) = 12 ∧ -2147483648 ≤ (i2') ∧ (i2') ≤ 2147483647 ∧ -1 ≤ (i6') ∧ (i6') < 429 ∧ 0 ≤ ((i5' + (1 : Int))) ∧ ((i5' + (1 : Int))) ≤ pg7 n1) ∨ ((12 : Nat) = 56 ∧ -2147483648 ≤ (i2') ∧ (i2') ≤ 2147483647 ∧ -1 ≤ (i6') ∧ (i6') < 429 ∧ 0 ≤ ((i5' + (1 : Int))) ∧ ((i5' + (1 : Int))) < pg7 n1 ∧ -1 ≤ (i6') ∧ (i6') < 429)) ∧ (200 - 2 * ((i5' + (1 : Int)))).toNat < (199 - 2 * i5').toNat from ⟨Or.inr (Or.inl (⟨rfl, (by first | assumption | omega), (by first | assumption | omega), (by first | assumption | omega), (by first | assumption | omega), (by first | assumption | omega), (by first | assumption | omega)⟩)), by omega⟩)
  · exact (show ((0 : Nat) = 0 ∧ -2147483648 ≤ i2 ∧ i2 ≤ 2147483647) ∨ ((0 : Nat) = 12 ∧ -2147483648 ≤ i2 ∧ i2 ≤ 2147483647 ∧ -1 ≤ 0 ∧ 0 < 429 ∧ 0 ≤ 0 ∧ 0 ≤ pg7 n1) ∨ ((0 : Nat) = 56 ∧ -2147483648 ≤ i2 ∧ i2 ≤ 2147483647 ∧ -1 ≤ 0 ∧ 0 < 429 ∧ 0 ≤ 0 ∧ 0 < pg7 n1 ∧ -1 ≤ 0 ∧ 0 < 429) from Or.inl (⟨rfl, (by first | assumption | omega), (by first | assumption | omega)⟩))
  · show 500 < jfuel
    unfold jfuel
    omega
set_option maxRecDepth 20000 in
theorem ok_X4_layWay (mk : Nat) (t_wayLength : Int) (t_queued : Int) (t_steps : Nat) (t_queue : Nat) (t_way : Nat) (n1 : Nat) (i2 : Int) (i3 : Int) (p0 : ¬ zno mk n1) (p1 : -2147483648 ≤ i2) (p2 : i2 ≤ 2147483647) (p3 : -2147483648 ≤ i3) (p4 : i3 ≤ 2147483647) : Go (fun o => -1 ≤ (o.1) ∧ (o.1) ≤ 429 ∧ 0 ≤ (o.2.1) ∧ (o.2.1) ≤ 429) (zf_X4_layWay mk t_wayLength t_queued t_steps t_queue t_way n1 i2 i3) := by
  unfold zf_X4_layWay
  have grn1 := zno_rng p0
  have g7n1 := rpg7 (n := n1) (by omega) (by omega)
  have g8n1 := rpg8 (n := n1) (by omega) (by omega)
  refine jok (fun (s : zS_X4_layWay) => match s with | (lab, i2', i3', i4', i5', i6', t_wayLength', t_queued', t_steps', t_queue', t_way') => (lab = 0 ∧ -2147483648 ≤ i2' ∧ i2' ≤ 2147483647 ∧ -2147483648 ≤ i3' ∧ i3' ≤ 2147483647) ∨ (lab = 24 ∧ -1 ≤ i4' ∧ i4' ≤ 429 ∧ -2147483648 ≤ i5' ∧ i5' ≤ 2147483647 ∧ 0 ≤ i6' ∧ i6' ≤ 429 ∧ t_wayLength' = i6' ∧ (∀ k : Nat, k < 429 → -1 ≤ zget t_steps' k ∧ zget t_steps' k ≤ 429))) (fun (s : zS_X4_layWay) => match s with | (lab, i2', i3', i4', i5', i6', t_wayLength', t_queued', t_steps', t_queue', t_way') => if lab = 0 then 1000 else if lab = 24 then (440 - i6').toNat else 0) (fun (o : zO_X4_layWay) => -1 ≤ (o.1) ∧ (o.1) ≤ 429 ∧ 0 ≤ (o.2.1) ∧ (o.2.1) ≤ 429) ?_ _ ?_ ?_
  · intro s hI
    obtain ⟨lab, i2', i3', i4', i5', i6', t_wayLength', t_queued', t_steps', t_queue', t_way'⟩ := s
    have hI : (lab = 0 ∧ -2147483648 ≤ i2' ∧ i2' ≤ 2147483647 ∧ -2147483648 ≤ i3' ∧ i3' ≤ 2147483647) ∨ (lab = 24 ∧ -1 ≤ i4' ∧ i4' ≤ 429 ∧ -2147483648 ≤ i5' ∧ i5' ≤ 2147483647 ∧ 0 ≤ i6' ∧ i6' ≤ 429 ∧ t_wayLength' = i6' ∧ (∀ k : Nat, k < 429 → -1 ≤ zget t_steps' k ∧ zget t_steps' k ≤ 429)) := hI
    rcases hI with ⟨rfl, v0_0, v0_1, v0_2, v0_3⟩ | ⟨rfl, v24_0, v24_1, v24_2, v24_3, v24_4, v24_5, v24_6, v24_7⟩
    · show Go _ (zg_X4_layWay_0 mk n1 i2' i3' i4' i5' i6' t_wayLength' t_queued' t_steps' t_queue' t_way')
      unfold zg_X4_layWay_0
      refine Go_bindP (ok_X4_measure mk t_queued' t_steps' t_queue' n1 i3' (by first | assumption | omega) (by first | assumption | omega) (by first | assumption | omega)) (fun o1 q1 => ?_)
      obtain ⟨q1_0, q1_1, q1_2⟩ := q1
      refine Go_bindP (ok_X4_stepsTo (o1.2.1) i2' (by first | assumption | omega) (by first | assumption | omega)) (fun o2 q2 => ?_)
      have sq2 := q2 429 (by omega) (by assumption)
      exact Go_i (show (((24 : Nat) = 0 ∧ -2147483648 ≤ (i2') ∧ (i2') ≤ 2147483647 ∧ -2147483648 ≤ (i3') ∧ (i3') ≤ 2147483647) ∨ ((24 : Nat) = 24 ∧ -1 ≤ (o2) ∧ (o2) ≤ 429 ∧ -2147483648 ≤ (i2') ∧ (i2') ≤ 2147483647 ∧ 0 ≤ ((0 : Int)) ∧ ((0 : Int)) ≤ 429 ∧ ((0 : Int)) = ((0 : Int)) ∧ (∀ k : Nat, k < 429 → -1 ≤ zget ((o1.2.1)) k ∧ zget ((o1.2.1)) k ≤ 429))) ∧ (440 - ((0 : Int))).toNat < 1000 from ⟨Or.inr (⟨rfl, (by first | assumption | omega), (by first | assumption | omega), (by first | assumption | omega), (by first | assumption | omega), (by first | assumption | omega), (by first | assumption | omega), (by first | assumption | omega), (by first | assumption | exact all_w (by assumption) (by omega) | (refine all_setw ?_ (Int.le_refl _) ?_ ?_ (by omega) (by omega) <;> first | assumption | omega) | exact all_setw (by assumption) (by omega) (by omega) (by omega) (by omega) (by omega))⟩), by omega⟩)
    · show Go _ (zg_X4_layWay_24 mk n1 i2' i3' i4' i5' i6' t_wayLength' t_queued' t_steps' t_queue' t_way')
      unfold zg_X4_layWay_24
      refine Go_chk (by unfold zout; omega) ?_
      refine Go_chk (by unfold zout; omega) ?_
      refine Go_ite (fun c3 => ?_) (fun c3 => ?_)
      · exact Go_i (show -1 ≤ (i4') ∧ (i4') ≤ 429 ∧ 0 ≤ (t_wayLength') ∧ (t_wayLength') ≤ 429 from ⟨(by first | assumption | omega), (by first | assumption | omega), (by first | assumption | omega), (by first | assumption | omega)⟩)
      · refine Go_ite (fun c4 => ?_) (fun c4 => ?_)
        · exact Go_i (show -1 ≤ (i4') ∧ (i4') ≤ 429 ∧ 0 ≤ (t_wayLength') ∧ (t_wayLength') ≤ 429 from ⟨(by first | assumption | omega), (by first | assumption | omega), (by first | assumption | omega), (by first | assumption | omega)⟩)
        · refine Go_chk (by omega) ?_
          refine Go_bindP (ok_X4_leastNearer mk t_steps' n1 i5' (by first | assumption | omega) (by first | assumption | exact all_w (by assumption) (by omega) | (refine all_setw ?_ (Int.le_refl _) ?_ ?_ (by omega) (by omega) <;> first | assumption | omega) | exact all_setw (by assumption) (by omega) (by omega) (by omega) (by omega) (by omega)) (by first | assumption | omega) (by first | assumption | omega)) (fun o6 q5 => ?_)
          obtain ⟨q5_0, q5_1⟩ := q5
          exact Go_i (show (((24 : Nat) = 0 ∧ -2147483648 ≤ (0) ∧ (0) ≤ 2147483647 ∧ -2147483648 ≤ (0) ∧ (0) ≤ 2147483647) ∨ ((24 : Nat) = 24 ∧ -1 ≤ (i4') ∧ (i4') ≤ 429 ∧ -2147483648 ≤ (o6) ∧ (o6) ≤ 2147483647 ∧ 0 ≤ ((i6' + (1 : Int))) ∧ ((i6' + (1 : Int))) ≤ 429 ∧ ((t_wayLength' + (1 : Int))) = ((i6' + (1 : Int))) ∧ (∀ k : Nat, k < 429 → -1 ≤ zget (t_steps') k ∧ zget (t_steps') k ≤ 429))) ∧ (440 - ((i6' + (1 : Int)))).toNat < (440 - i6').toNat from ⟨Or.inr (⟨rfl, (by first | assumption | omega), (by first | assumption | omega), (by first | assumption | omega), (by first | assumption | omega), (by first | assumption | omega), (by first | assumption | omega), (by first | assumption | omega), (by first | assumption | exact all_w (by assumption) (by omega) | (refine all_setw ?_ (Int.le_refl _) ?_ ?_ (by omega) (by omega) <;> first | assumption | omega) | exact all_setw (by assumption) (by omega) (by omega) (by omega) (by omega) (by omega))⟩), by omega⟩)
  · exact (show ((0 : Nat) = 0 ∧ -2147483648 ≤ i2 ∧ i2 ≤ 2147483647 ∧ -2147483648 ≤ i3 ∧ i3 ≤ 2147483647) ∨ ((0 : Nat) = 24 ∧ -1 ≤ 0 ∧ 0 ≤ 429 ∧ -2147483648 ≤ 0 ∧ 0 ≤ 2147483647 ∧ 0 ≤ 0 ∧ 0 ≤ 429 ∧ t_wayLength = 0 ∧ (∀ k : Nat, k < 429 → -1 ≤ zget t_steps k ∧ zget t_steps k ≤ 429)) from Or.inl (⟨rfl, (by first | assumption | omega), (by first | assumption | omega), (by first | assumption | omega), (by first | assumption | omega)⟩))
  · show 1000 < jfuel
    unfold jfuel
    omega
set_option maxRecDepth 20000 in
theorem ok_X4_onWay (t_wayLength : Int) (t_way : Nat) (i1 : Int) (p0 : 0 ≤ t_wayLength) (p1 : t_wayLength ≤ 429) (p2 : -2147483648 ≤ i1) (p3 : i1 ≤ 2147483647) : Go (fun o => -2147483648 ≤ (o) ∧ (o) ≤ 2147483647) (zf_X4_onWay t_wayLength t_way i1) := by
  unfold zf_X4_onWay
  refine Go_chk (by unfold zout; omega) ?_
  refine Go_ite (fun c1 => ?_) (fun c1 => ?_)
  · exact Go_i (show -2147483648 ≤ ((-1 : Int)) ∧ ((-1 : Int)) ≤ 2147483647 from ⟨(by first | assumption | omega), (by first | assumption | omega)⟩)
  · refine Go_chk (by unfold zout; omega) ?_
    refine Go_ite (fun c2 => ?_) (fun c2 => ?_)
    · exact Go_i (show -2147483648 ≤ ((-1 : Int)) ∧ ((-1 : Int)) ≤ 2147483647 from ⟨(by first | assumption | omega), (by first | assumption | omega)⟩)
    · refine Go_chk (by omega) ?_
      have a3 := rget t_way (Int.toNat i1)
      exact Go_i (show -2147483648 ≤ ((zget t_way (Int.toNat i1))) ∧ ((zget t_way (Int.toNat i1))) ≤ 2147483647 from ⟨(by first | assumption | omega), (by first | assumption | omega)⟩)
end

section
set_option maxRecDepth 20000 in
theorem ok_X9_gatherOn (mk : Nat) (t_count : Int) (t_cornersOf : Nat) (n1 : Nat) (i2 : Int) (i3 : Int) (i4 : Int) (p0 : ¬ zno mk n1) (p1 : 0 ≤ t_count) (p2 : t_count ≤ 7) (p3 : 0 ≤ i3) (p4 : i3 < (n1 : Int)) (p5 : 0 ≤ i4) (p6 : i4 < (n1 : Int)) : Go (fun o => 0 ≤ (o.1) ∧ (o.1) ≤ 7) (zf_X9_gatherOn mk t_count t_cornersOf n1 i2 i3 i4) := by
  unfold zf_X9_gatherOn
  have grn1 := zno_rng p0
  have g7n1 := rpg7 (n := n1) (by omega) (by omega)
  have g8n1 := rpg8 (n := n1) (by omega) (by omega)
  refine jok (fun (s : zS_X9_gatherOn) => match s with | (lab, i2', i3', i4', i5', t_count', t_cornersOf') => (lab = 0 ∧ 0 ≤ t_count' ∧ t_count' ≤ 7 ∧ 0 ≤ i3' ∧ i3' < (n1 : Int) ∧ 0 ≤ i4' ∧ i4' < (n1 : Int)) ∨ (lab = 6 ∧ 0 ≤ t_count' ∧ t_count' ≤ 7 ∧ 0 ≤ i3' ∧ i3' < (n1 : Int) ∧ 0 ≤ i4' ∧ i4' < (n1 : Int) ∧ 0 ≤ i5' ∧ i5' ≤ (n1 : Int)) ∨ (lab = 42 ∧ 0 ≤ t_count' ∧ t_count' ≤ 7 ∧ 0 ≤ i3' ∧ i3' < (n1 : Int) ∧ 0 ≤ i4' ∧ i4' < (n1 : Int) ∧ 0 ≤ i5' ∧ i5' < (n1 : Int))) (fun (s : zS_X9_gatherOn) => match s with | (lab, i2', i3', i4', i5', t_count', t_cornersOf') => if lab = 0 then 100 else if lab = 6 then (60 - 2 * i5').toNat else if lab = 42 then (59 - 2 * i5').toNat else 0) (fun (o : zO_X9_gatherOn) => 0 ≤ (o.1) ∧ (o.1) ≤ 7) ?_ _ ?_ ?_
  · intro s hI
    obtain ⟨lab, i2', i3', i4', i5', t_count', t_cornersOf'⟩ := s
    have hI : (lab = 0 ∧ 0 ≤ t_count' ∧ t_count' ≤ 7 ∧ 0 ≤ i3' ∧ i3' < (n1 : Int) ∧ 0 ≤ i4' ∧ i4' < (n1 : Int)) ∨ (lab = 6 ∧ 0 ≤ t_count' ∧ t_count' ≤ 7 ∧ 0 ≤ i3' ∧ i3' < (n1 : Int) ∧ 0 ≤ i4' ∧ i4' < (n1 : Int) ∧ 0 ≤ i5' ∧ i5' ≤ (n1 : Int)) ∨ (lab = 42 ∧ 0 ≤ t_count' ∧ t_count' ≤ 7 ∧ 0 ≤ i3' ∧ i3' < (n1 : Int) ∧ 0 ≤ i4' ∧ i4' < (n1 : Int) ∧ 0 ≤ i5' ∧ i5' < (n1 : Int)) := hI
    rcases hI with ⟨rfl, v0_0, v0_1, v0_2, v0_3, v0_4, v0_5⟩ | ⟨rfl, v6_0, v6_1, v6_2, v6_3, v6_4, v6_5, v6_6, v6_7⟩ | ⟨rfl, v42_0, v42_1, v42_2, v42_3, v42_4, v42_5, v42_6, v42_7⟩
    · show Go _ (zg_X9_gatherOn_0 mk n1 i2' i3' i4' i5' t_count' t_cornersOf')
      unfold zg_X9_gatherOn_0
      exact Go_i (show (((6 : Nat) = 0 ∧ 0 ≤ (t_count') ∧ (t_count') ≤ 7 ∧ 0 ≤ (i3') ∧ (i3') < (n1 : Int) ∧ 0 ≤ (i4') ∧ (i4') < (n1 : Int)) ∨ ((6 : Nat) = 6 ∧ 0 ≤ (t_count') ∧ (t_count') ≤ 7 ∧ 0 ≤ (i3') ∧ (i3') < (n1 : Int) ∧ 0 ≤ (i4') ∧ (i4') < (n1 : Int) ∧ 0 ≤ ((i4' + (1 : Int))) ∧ ((i4' + (1 : Int))) ≤ (n1 : Int)) ∨ ((6 : Nat) = 42 ∧ 0 ≤ (t_count') ∧ (t_count') ≤ 7 ∧ 0 ≤ (i3') ∧ (i3') < (n1 : Int) ∧ 0 ≤ (i4') ∧ (i4') < (n1 : Int) ∧ 0 ≤ ((i4' + (1 : Int))) ∧ ((i4' + (1 : Int))) < (n1 : Int))) ∧ (60 - 2 * ((i4' + (1 : Int)))).toNat < 100 from ⟨Or.inr (Or.inl (⟨rfl, (by first | assumption | omega), (by first | assumption | omega), (by first | assumption | omega), (by first | assumption | omega), (by first | assumption | omega), (by first | assumption | omega), (by first | assumption | omega), (by first | assumption | omega)⟩)), by omega⟩)
    · show Go _ (zg_X9_gatherOn_6 mk n1 i2' i3' i4' i5' t_count' t_cornersOf')
      unfold zg_X9_gatherOn_6
      refine Go_chk (by assumption) ?_
      refine Go_bindP (ok_X5_corners n1 ) (fun o2 q1 => ?_)
      refine Go_chk (by unfold zout; omega) ?_
      refine Go_chk (by unfold zout; omega) ?_
      refine Go_ite (fun c2 => ?_) (fun c2 => ?_)
      · exact Go_i (show 0 ≤ (t_count') ∧ (t_count') ≤ 7 from ⟨(by first | assumption | omega), (by first | assumption | omega)⟩)
      · refine Go_bindP (ok_X5_areJoined n1 i2' i3' i5' (by first | assumption | omega) (by first | assumption | omega) (by first | assumption | omega) (by first | assumption | omega) (by first | assumption | omega) (by first | assumption | omega)) (fun o5 q3 => ?_)
        refine Go_ite (fun c4 => ?_) (fun c4 => ?_)
        · exact Go_i (show (((42 : Nat) = 0 ∧ 0 ≤ (t_count') ∧ (t_count') ≤ 7 ∧ 0 ≤ (i3') ∧ (i3') < (n1 : Int) ∧ 0 ≤ (i4') ∧ (i4') < (n1 : Int)) ∨ ((42 : Nat) = 6 ∧ 0 ≤ (t_count') ∧ (t_count') ≤ 7 ∧ 0 ≤ (i3') ∧ (i3') < (n1 : Int) ∧ 0 ≤ (i4') ∧ (i4') < (n1 : Int) ∧ 0 ≤ (i5') ∧ (i5') ≤ (n1 : Int)) ∨ ((42 : Nat) = 42 ∧ 0 ≤ (t_count') ∧ (t_count') ≤ 7 ∧ 0 ≤ (i3') ∧ (i3') < (n1 : Int) ∧ 0 ≤ (i4') ∧ (i4') < (n1 : Int) ∧ 0 ≤ (i5') ∧ (i5') < (n1 : Int))) ∧ (59 - 2 * (i5')).toNat < (60 - 2 * i5').toNat from ⟨Or.inr (Or.inr (⟨rfl, (by first | assumption | omega), (by first | assumption | omega), (by first | assumption | omega), (by first | assumption | omega), (by first | assumption | omega), (by first | assumption | omega), (by first | assumption | omega), (by first | assumption | omega)⟩)), by omega⟩)
        · refine Go_bindP (ok_X5_areJoined n1 i2' i4' i5' (by first | assumption | omega) (by first | assumption | omega) (by first | assumption | omega) (by first | assumption | omega) (by first | assumption | omega) (by first | assumption | omega)) (fun o6 q5 => ?_)
          refine Go_ite (fun c6 => ?_) (fun c6 => ?_)
          · exact Go_i (show (((42 : Nat) = 0 ∧ 0 ≤ (t_count') ∧ (t_count') ≤ 7 ∧ 0 ≤ (i3') ∧ (i3') < (n1 : Int) ∧ 0 ≤ (i4') ∧ (i4') < (n1 : Int)) ∨ ((42 : Nat) = 6 ∧ 0 ≤ (t_count') ∧ (t_count') ≤ 7 ∧ 0 ≤ (i3') ∧ (i3') < (n1 : Int) ∧ 0 ≤ (i4') ∧ (i4') < (n1 : Int) ∧ 0 ≤ (i5') ∧ (i5') ≤ (n1 : Int)) ∨ ((42 : Nat) = 42 ∧ 0 ≤ (t_count') ∧ (t_count') ≤ 7 ∧ 0 ≤ (i3') ∧ (i3') < (n1 : Int) ∧ 0 ≤ (i4') ∧ (i4') < (n1 : Int) ∧ 0 ≤ (i5') ∧ (i5') < (n1 : Int))) ∧ (59 - 2 * (i5')).toNat < (60 - 2 * i5').toNat from ⟨Or.inr (Or.inr (⟨rfl, (by first | assumption | omega), (by first | assumption | omega), (by first | assumption | omega), (by first | assumption | omega), (by first | assumption | omega), (by first | assumption | omega), (by first | assumption | omega), (by first | assumption | omega)⟩)), by omega⟩)
          · refine Go_ite (fun c7 => ?_) (fun c7 => ?_)
            · exact Go_i (show (((6 : Nat) = 0 ∧ 0 ≤ (t_count') ∧ (t_count') ≤ 7 ∧ 0 ≤ (i3') ∧ (i3') < (n1 : Int) ∧ 0 ≤ (i4') ∧ (i4') < (n1 : Int)) ∨ ((6 : Nat) = 6 ∧ 0 ≤ (t_count') ∧ (t_count') ≤ 7 ∧ 0 ≤ (i3') ∧ (i3') < (n1 : Int) ∧ 0 ≤ (i4') ∧ (i4') < (n1 : Int) ∧ 0 ≤ ((i5' + (1 : Int))) ∧ ((i5' + (1 : Int))) ≤ (n1 : Int)) ∨ ((6 : Nat) = 42 ∧ 0 ≤ (t_count') ∧ (t_count') ≤ 7 ∧ 0 ≤ (i3') ∧ (i3') < (n1 : Int) ∧ 0 ≤ (i4') ∧ (i4') < (n1 : Int) ∧ 0 ≤ ((i5' + (1 : Int))) ∧ ((i5' + (1 : Int))) < (n1 : Int))) ∧ (60 - 2 * ((i5' + (1 : Int)))).toNat < (60 - 2 * i5').toNat from ⟨Or.inr (Or.inl (⟨rfl, (by first | assumption | omega), (by first | assumption | omega), (by first | assumption | omega), (by first | assumption | omega), (by first | assumption | omega), (by first | assumption | omega), (by first | assumption | omega), (by first | assumption | omega)⟩)), by omega⟩)
            · refine Go_chk (by unfold zout; omega) ?_
              refine Go_ite (fun c8 => ?_) (fun c8 => ?_)
              · exact Go_i (show (((6 : Nat) = 0 ∧ 0 ≤ (t_count') ∧ (t_count') ≤ 7 ∧ 0 ≤ (i3') ∧ (i3') < (n1 : Int) ∧ 0 ≤ (i4') ∧ (i4') < (n1 : Int)) ∨ ((6 : Nat) = 6 ∧ 0 ≤ (t_count') ∧ (t_count') ≤ 7 ∧ 0 ≤ (i3') ∧ (i3') < (n1 : Int) ∧ 0 ≤ (i4') ∧ (i4') < (n1 : Int) ∧ 0 ≤ ((i5' + (1 : Int))) ∧ ((i5' + (1 : Int))) ≤ (n1 : Int)) ∨ ((6 : Nat) = 42 ∧ 0 ≤ (t_count') ∧ (t_count') ≤ 7 ∧ 0 ≤ (i3') ∧ (i3') < (n1 : Int) ∧ 0 ≤ (i4') ∧ (i4') < (n1 : Int) ∧ 0 ≤ ((i5' + (1 : Int))) ∧ ((i5' + (1 : Int))) < (n1 : Int))) ∧ (60 - 2 * ((i5' + (1 : Int)))).toNat < (60 - 2 * i5').toNat from ⟨Or.inr (Or.inl (⟨rfl, (by first | assumption | omega), (by first | assumption | omega), (by first | assumption | omega), (by first | assumption | omega), (by first | assumption | omega), (by first | assumption | omega), (by first | assumption | omega), (by first | assumption | omega)⟩)), by omega⟩)
              · refine Go_chk (by omega) ?_
                refine Go_chk (by omega) ?_
                refine Go_chk (by omega) ?_
                exact Go_i (show (((6 : Nat) = 0 ∧ 0 ≤ ((t_count' + (1 : Int))) ∧ ((t_count' + (1 : Int))) ≤ 7 ∧ 0 ≤ (i3') ∧ (i3') < (n1 : Int) ∧ 0 ≤ (i4') ∧ (i4') < (n1 : Int)) ∨ ((6 : Nat) = 6 ∧ 0 ≤ ((t_count' + (1 : Int))) ∧ ((t_count' + (1 : Int))) ≤ 7 ∧ 0 ≤ (i3') ∧ (i3') < (n1 : Int) ∧ 0 ≤ (i4') ∧ (i4') < (n1 : Int) ∧ 0 ≤ ((i5' + (1 : Int))) ∧ ((i5' + (1 : Int))) ≤ (n1 : Int)) ∨ ((6 : Nat) = 42 ∧ 0 ≤ ((t_count' + (1 : Int))) ∧ ((t_count' + (1 : Int))) ≤ 7 ∧ 0 ≤ (i3') ∧ (i3') < (n1 : Int) ∧ 0 ≤ (i4') ∧ (i4') < (n1 : Int) ∧ 0 ≤ ((i5' + (1 : Int))) ∧ ((i5' + (1 : Int))) < (n1 : Int))) ∧ (60 - 2 * ((i5' + (1 : Int)))).toNat < (60 - 2 * i5').toNat from ⟨Or.inr (Or.inl (⟨rfl, (by first | assumption | omega), (by first | assumption | omega), (by first | assumption | omega), (by first | assumption | omega), (by first | assumption | omega), (by first | assumption | omega), (by first | assumption | omega), (by first | assumption | omega)⟩)), by omega⟩)
    · show Go _ (zg_X9_gatherOn_42 mk n1 i2' i3' i4' i5' t_count' t_cornersOf')
      unfold zg_X9_gatherOn_42
      refine Go_ite (fun c9 => ?_) (fun c9 => ?_)
      · exact Go_i (show (((6 : Nat) = 0 ∧ 0 ≤ (t_count') ∧ (t_count') ≤ 7 ∧ 0 ≤ (i3') ∧ (i3') < (n1 : Int) ∧ 0 ≤ (i4') ∧ (i4') < (n1 : Int)) ∨ ((6 : Nat) = 6 ∧ 0 ≤ (t_count') ∧ (t_count') ≤ 7 ∧ 0 ≤ (i3') ∧ (i3') < (n1 : Int) ∧ 0 ≤ (i4') ∧ (i4') < (n1 : Int) ∧ 0 ≤ ((i5' + (1 : Int))) ∧ ((i5' + (1 : Int))) ≤ (n1 : Int)) ∨ ((6 : Nat) = 42 ∧ 0 ≤ (t_count') ∧ (t_count') ≤ 7 ∧ 0 ≤ (i3') ∧ (i3') < (n1 : Int) ∧ 0 ≤ (i4') ∧ (i4') < (n1 : Int) ∧ 0 ≤ ((i5' + (1 : Int))) ∧ ((i5' + (1 : Int))) < (n1 : Int))) ∧ (60 - 2 * ((i5' + (1 : Int)))).toNat < (59 - 2 * i5').toNat from ⟨Or.inr (Or.inl (⟨rfl, (by first | assumption | omega), (by first | assumption | omega), (by first | assumption | omega), (by first | assumption | omega), (by first | assumption | omega), (by first | assumption | omega), (by first | assumption | omega), (by first | assumption | omega)⟩)), by omega⟩)
      · refine Go_chk (by unfold zout; omega) ?_
        refine Go_ite (fun c10 => ?_) (fun c10 => ?_)
        · exact Go_i (show (((6 : Nat) = 0 ∧ 0 ≤ (t_count') ∧ (t_count') ≤ 7 ∧ 0 ≤ (i3') ∧ (i3') < (n1 : Int) ∧ 0 ≤ (i4') ∧ (i4') < (n1 : Int)) ∨ ((6 : Nat) = 6 ∧ 0 ≤ (t_count') ∧ (t_count') ≤ 7 ∧ 0 ≤ (i3') ∧ (i3') < (n1 : Int) ∧ 0 ≤ (i4') ∧ (i4') < (n1 : Int) ∧ 0 ≤ ((i5' + (1 : Int))) ∧ ((i5' + (1 : Int))) ≤ (n1 : Int)) ∨ ((6 : Nat) = 42 ∧ 0 ≤ (t_count') ∧ (t_count') ≤ 7 ∧ 0 ≤ (i3') ∧ (i3') < (n1 : Int) ∧ 0 ≤ (i4') ∧ (i4') < (n1 : Int) ∧ 0 ≤ ((i5' + (1 : Int))) ∧ ((i5' + (1 : Int))) < (n1 : Int))) ∧ (60 - 2 * ((i5' + (1 : Int)))).toNat < (59 - 2 * i5').toNat from ⟨Or.inr (Or.inl (⟨rfl, (by first | assumption | omega), (by first | assumption | omega), (by first | assumption | omega), (by first | assumption | omega), (by first | assumption | omega), (by first | assumption | omega), (by first | assumption | omega), (by first | assumption | omega)⟩)), by omega⟩)
        · refine Go_chk (by omega) ?_
          refine Go_chk (by omega) ?_
          refine Go_chk (by omega) ?_
          exact Go_i (show (((6 : Nat) = 0 ∧ 0 ≤ ((t_count' + (1 : Int))) ∧ ((t_count' + (1 : Int))) ≤ 7 ∧ 0 ≤ (i3') ∧ (i3') < (n1 : Int) ∧ 0 ≤ (i4') ∧ (i4') < (n1 : Int)) ∨ ((6 : Nat) = 6 ∧ 0 ≤ ((t_count' + (1 : Int))) ∧ ((t_count' + (1 : Int))) ≤ 7 ∧ 0 ≤ (i3') ∧ (i3') < (n1 : Int) ∧ 0 ≤ (i4') ∧ (i4') < (n1 : Int) ∧ 0 ≤ ((i5' + (1 : Int))) ∧ ((i5' + (1 : Int))) ≤ (n1 : Int)) ∨ ((6 : Nat) = 42 ∧ 0 ≤ ((t_count' + (1 : Int))) ∧ ((t_count' + (1 : Int))) ≤ 7 ∧ 0 ≤ (i3') ∧ (i3') < (n1 : Int) ∧ 0 ≤ (i4') ∧ (i4') < (n1 : Int) ∧ 0 ≤ ((i5' + (1 : Int))) ∧ ((i5' + (1 : Int))) < (n1 : Int))) ∧ (60 - 2 * ((i5' + (1 : Int)))).toNat < (59 - 2 * i5').toNat from ⟨Or.inr (Or.inl (⟨rfl, (by first | assumption | omega), (by first | assumption | omega), (by first | assumption | omega), (by first | assumption | omega), (by first | assumption | omega), (by first | assumption | omega), (by first | assumption | omega), (by first | assumption | omega)⟩)), by omega⟩)
  · exact (show ((0 : Nat) = 0 ∧ 0 ≤ t_count ∧ t_count ≤ 7 ∧ 0 ≤ i3 ∧ i3 < (n1 : Int) ∧ 0 ≤ i4 ∧ i4 < (n1 : Int)) ∨ ((0 : Nat) = 6 ∧ 0 ≤ t_count ∧ t_count ≤ 7 ∧ 0 ≤ i3 ∧ i3 < (n1 : Int) ∧ 0 ≤ i4 ∧ i4 < (n1 : Int) ∧ 0 ≤ 0 ∧ 0 ≤ (n1 : Int)) ∨ ((0 : Nat) = 42 ∧ 0 ≤ t_count ∧ t_count ≤ 7 ∧ 0 ≤ i3 ∧ i3 < (n1 : Int) ∧ 0 ≤ i4 ∧ i4 < (n1 : Int) ∧ 0 ≤ 0 ∧ 0 < (n1 : Int)) from Or.inl (⟨rfl, (by first | assumption | omega), (by first | assumption | omega), (by first | assumption | omega), (by first | assumption | omega), (by first | assumption | omega), (by first | assumption | omega)⟩))
  · show 100 < jfuel
    unfold jfuel
    omega
set_option maxRecDepth 20000 in
theorem ok_X9_gather (mk : Nat) (t_count : Int) (t_cornersOf : Nat) (n1 : Nat) (i2 : Int) (p0 : ¬ zno mk n1) : Go (fun o => 0 ≤ (o.1) ∧ (o.1) ≤ 7) (zf_X9_gather mk t_count t_cornersOf n1 i2) := by
  unfold zf_X9_gather
  have grn1 := zno_rng p0
  have g7n1 := rpg7 (n := n1) (by omega) (by omega)
  have g8n1 := rpg8 (n := n1) (by omega) (by omega)
  refine jok (fun (s : zS_X9_gather) => match s with | (lab, i2', i3', i4', t_count', t_cornersOf') => (lab = 0) ∨ (lab = 7 ∧ 0 ≤ t_count' ∧ t_count' ≤ 7 ∧ 0 ≤ i3' ∧ i3' ≤ (n1 : Int)) ∨ (lab = 20 ∧ 0 ≤ t_count' ∧ t_count' ≤ 7 ∧ 0 ≤ i3' ∧ i3' < (n1 : Int) ∧ 0 ≤ i4' ∧ i4' ≤ (n1 : Int))) (fun (s : zS_X9_gather) => match s with | (lab, i2', i3', i4', t_count', t_cornersOf') => if lab = 0 then 10000 else if lab = 7 then (40 * (20 - i3') + 39).toNat else if lab = 20 then (40 * (20 - i3') + 20 - i4').toNat else 0) (fun (o : zO_X9_gather) => 0 ≤ (o.1) ∧ (o.1) ≤ 7) ?_ _ ?_ ?_
  · intro s hI
    obtain ⟨lab, i2', i3', i4', t_count', t_cornersOf'⟩ := s
    have hI : (lab = 0) ∨ (lab = 7 ∧ 0 ≤ t_count' ∧ t_count' ≤ 7 ∧ 0 ≤ i3' ∧ i3' ≤ (n1 : Int)) ∨ (lab = 20 ∧ 0 ≤ t_count' ∧ t_count' ≤ 7 ∧ 0 ≤ i3' ∧ i3' < (n1 : Int) ∧ 0 ≤ i4' ∧ i4' ≤ (n1 : Int)) := hI
    rcases hI with rfl | ⟨rfl, v7_0, v7_1, v7_2, v7_3⟩ | ⟨rfl, v20_0, v20_1, v20_2, v20_3, v20_4, v20_5⟩
    · show Go _ (zg_X9_gather_0 mk n1 i2' i3' i4' t_count' t_cornersOf')
      unfold zg_X9_gather_0
      exact Go_i (show (((7 : Nat) = 0) ∨ ((7 : Nat) = 7 ∧ 0 ≤ ((0 : Int)) ∧ ((0 : Int)) ≤ 7 ∧ 0 ≤ ((0 : Int)) ∧ ((0 : Int)) ≤ (n1 : Int)) ∨ ((7 : Nat) = 20 ∧ 0 ≤ ((0 : Int)) ∧ ((0 : Int)) ≤ 7 ∧ 0 ≤ ((0 : Int)) ∧ ((0 : Int)) < (n1 : Int) ∧ 0 ≤ (0) ∧ (0) ≤ (n1 : Int))) ∧ (40 * (20 - ((0 : Int))) + 39).toNat < 10000 from ⟨Or.inr (Or.inl (⟨rfl, (by first | assumption | omega), (by first | assumption | omega), (by first | assumption | omega), (by first | assumption | omega)⟩)), by omega⟩)
    · show Go _ (zg_X9_gather_7 mk n1 i2' i3' i4' t_count' t_cornersOf')
      unfold zg_X9_gather_7
      refine Go_chk (by assumption) ?_
      refine Go_bindP (ok_X5_corners n1 ) (fun o2 q1 => ?_)
      refine Go_chk (by unfold zout; omega) ?_
      refine Go_chk (by unfold zout; omega) ?_
      refine Go_ite (fun c2 => ?_) (fun c2 => ?_)
      · exact Go_i (show 0 ≤ (t_count') ∧ (t_count') ≤ 7 from ⟨(by first | assumption | omega), (by first | assumption | omega)⟩)
      · exact Go_i (show (((20 : Nat) = 0) ∨ ((20 : Nat) = 7 ∧ 0 ≤ (t_count') ∧ (t_count') ≤ 7 ∧ 0 ≤ (i3') ∧ (i3') ≤ (n1 : Int)) ∨ ((20 : Nat) = 20 ∧ 0 ≤ (t_count') ∧ (t_count') ≤ 7 ∧ 0 ≤ (i3') ∧ (i3') < (n1 : Int) ∧ 0 ≤ ((i3' + (1 : Int))) ∧ ((i3' + (1 : Int))) ≤ (n1 : Int))) ∧ (40 * (20 - (i3')) + 20 - ((i3' + (1 : Int)))).toNat < (40 * (20 - i3') + 39).toNat from ⟨Or.inr (Or.inr (⟨rfl, (by first | assumption | omega), (by first | assumption | omega), (by first | assumption | omega), (by first | assumption | omega), (by first | assumption | omega), (by first | assumption | omega)⟩)), by omega⟩)
    · show Go _ (zg_X9_gather_20 mk n1 i2' i3' i4' t_count' t_cornersOf')
      unfold zg_X9_gather_20
      refine Go_chk (by assumption) ?_
      refine Go_bindP (ok_X5_corners n1 ) (fun o7 q3 => ?_)
      refine Go_chk (by unfold zout; omega) ?_
      refine Go_chk (by unfold zout; omega) ?_
      refine Go_ite (fun c4 => ?_) (fun c4 => ?_)
      · exact Go_i (show (((7 : Nat) = 0) ∨ ((7 : Nat) = 7 ∧ 0 ≤ (t_count') ∧ (t_count') ≤ 7 ∧ 0 ≤ ((i3' + (1 : Int))) ∧ ((i3' + (1 : Int))) ≤ (n1 : Int)) ∨ ((7 : Nat) = 20 ∧ 0 ≤ (t_count') ∧ (t_count') ≤ 7 ∧ 0 ≤ ((i3' + (1 : Int))) ∧ ((i3' + (1 : Int))) < (n1 : Int) ∧ 0 ≤ (i4') ∧ (i4') ≤ (n1 : Int))) ∧ (40 * (20 - ((i3' + (1 : Int)))) + 39).toNat < (40 * (20 - i3') + 20 - i4').toNat from ⟨Or.inr (Or.inl (⟨rfl, (by first | assumption | omega), (by first | assumption | omega), (by first | assumption | omega), (by first | assumption | omega)⟩)), by omega⟩)
      · refine Go_bindP (ok_X5_areJoined n1 i2' i3' i4' (by first | assumption | omega) (by first | assumption | omega) (by first | assumption | omega) (by first | assumption | omega) (by first | assumption | omega) (by first | assumption | omega)) (fun o10 q5 => ?_)
        refine Go_ite (fun c6 => ?_) (fun c6 => ?_)
        · exact Go_i (show (((20 : Nat) = 0) ∨ ((20 : Nat) = 7 ∧ 0 ≤ (t_count') ∧ (t_count') ≤ 7 ∧ 0 ≤ (i3') ∧ (i3') ≤ (n1 : Int)) ∨ ((20 : Nat) = 20 ∧ 0 ≤ (t_count') ∧ (t_count') ≤ 7 ∧ 0 ≤ (i3') ∧ (i3') < (n1 : Int) ∧ 0 ≤ ((i4' + (1 : Int))) ∧ ((i4' + (1 : Int))) ≤ (n1 : Int))) ∧ (40 * (20 - (i3')) + 20 - ((i4' + (1 : Int)))).toNat < (40 * (20 - i3') + 20 - i4').toNat from ⟨Or.inr (Or.inr (⟨rfl, (by first | assumption | omega), (by first | assumption | omega), (by first | assumption | omega), (by first | assumption | omega), (by first | assumption | omega), (by first | assumption | omega)⟩)), by omega⟩)
        · refine Go_bindP (ok_X9_gatherOn mk t_count' t_cornersOf' n1 i2' i3' i4' (by first | assumption | omega) (by first | assumption | omega) (by first | assumption | omega) (by first | assumption | omega) (by first | assumption | omega) (by first | assumption | omega) (by first | assumption | omega)) (fun o11 q7 => ?_)
          obtain ⟨q7_0, q7_1⟩ := q7
          exact Go_i (show (((20 : Nat) = 0) ∨ ((20 : Nat) = 7 ∧ 0 ≤ ((o11.1)) ∧ ((o11.1)) ≤ 7 ∧ 0 ≤ (i3') ∧ (i3') ≤ (n1 : Int)) ∨ ((20 : Nat) = 20 ∧ 0 ≤ ((o11.1)) ∧ ((o11.1)) ≤ 7 ∧ 0 ≤ (i3') ∧ (i3') < (n1 : Int) ∧ 0 ≤ ((i4' + (1 : Int))) ∧ ((i4' + (1 : Int))) ≤ (n1 : Int))) ∧ (40 * (20 - (i3')) + 20 - ((i4' + (1 : Int)))).toNat < (40 * (20 - i3') + 20 - i4').toNat from ⟨Or.inr (Or.inr (⟨rfl, (by first | assumption | omega), (by first | assumption | omega), (by first | assumption | omega), (by first | assumption | omega), (by first | assumption | omega), (by first | assumption | omega)⟩)), by omega⟩)
  · exact (show ((0 : Nat) = 0) ∨ ((0 : Nat) = 7 ∧ 0 ≤ t_count ∧ t_count ≤ 7 ∧ 0 ≤ 0 ∧ 0 ≤ (n1 : Int)) ∨ ((0 : Nat) = 20 ∧ 0 ≤ t_count ∧ t_count ≤ 7 ∧ 0 ≤ 0 ∧ 0 < (n1 : Int) ∧ 0 ≤ 0 ∧ 0 ≤ (n1 : Int)) from Or.inl (rfl))
  · show 10000 < jfuel
    unfold jfuel
    omega
set_option maxRecDepth 20000 in
theorem ok_X9_cornerOf (mk : Nat) (t_count : Int) (t_cornersOf : Nat) (i1 : Int) (i2 : Int) (p0 : 0 ≤ t_count) (p1 : t_count ≤ 7) (p2 : -2147483648 ≤ i1) (p3 : i1 ≤ 2147483647) (p4 : -2147483648 ≤ i2) (p5 : i2 ≤ 2147483647) : Go (fun o => -2147483648 ≤ (o) ∧ (o) ≤ 2147483647) (zf_X9_cornerOf mk t_count t_cornersOf i1 i2) := by
  unfold zf_X9_cornerOf
  refine Go_chk (by unfold zout; omega) ?_
  refine Go_ite (fun c1 => ?_) (fun c1 => ?_)
  · exact Go_i (show -2147483648 ≤ ((-1 : Int)) ∧ ((-1 : Int)) ≤ 2147483647 from ⟨(by first | assumption | omega), (by first | assumption | omega)⟩)
  · refine Go_chk (by unfold zout; omega) ?_
    refine Go_ite (fun c2 => ?_) (fun c2 => ?_)
    · exact Go_i (show -2147483648 ≤ ((-1 : Int)) ∧ ((-1 : Int)) ≤ 2147483647 from ⟨(by first | assumption | omega), (by first | assumption | omega)⟩)
    · refine Go_chk (by unfold zout; omega) ?_
      refine Go_ite (fun c3 => ?_) (fun c3 => ?_)
      · exact Go_i (show -2147483648 ≤ ((-1 : Int)) ∧ ((-1 : Int)) ≤ 2147483647 from ⟨(by first | assumption | omega), (by first | assumption | omega)⟩)
      · refine Go_ite (fun c4 => ?_) (fun c4 => ?_)
        · refine Go_chk (by omega) ?_
          have a5 := rget t_cornersOf (Int.toNat (((3 : Int) * i1) + i2))
          exact Go_i (show -2147483648 ≤ ((zget t_cornersOf (Int.toNat (((3 : Int) * i1) + i2)))) ∧ ((zget t_cornersOf (Int.toNat (((3 : Int) * i1) + i2)))) ≤ 2147483647 from ⟨(by first | assumption | omega), (by first | assumption | omega)⟩)
        · exact Go_i (show -2147483648 ≤ ((-1 : Int)) ∧ ((-1 : Int)) ≤ 2147483647 from ⟨(by first | assumption | omega), (by first | assumption | omega)⟩)
set_option maxRecDepth 20000 in
theorem ok_X9_touches (mk : Nat) (t_count : Int) (t_cornersOf : Nat) (i1 : Int) (i2 : Int) (p0 : 0 ≤ t_count) (p1 : t_count ≤ 7) (p2 : -2147483648 ≤ i1) (p3 : i1 ≤ 2147483647) (p4 : -2147483648 ≤ i2) (p5 : i2 ≤ 2147483647) : Go (fun o => True) (zf_X9_touches mk t_count t_cornersOf i1 i2) := by
  unfold zf_X9_touches
  refine Go_bindP (ok_X9_cornerOf mk t_count t_cornersOf i1 (0 : Int) (by first | assumption | omega) (by first | assumption | omega) (by first | assumption | omega) (by first | assumption | omega) (by first | assumption | omega) (by first | assumption | omega)) (fun o1 q1 => ?_)
  obtain ⟨q1_0, q1_1⟩ := q1
  refine Go_chk (by unfold zout; omega) ?_
  refine Go_chk (by unfold zout; omega) ?_
  refine Go_ite (fun c2 => ?_) (fun c2 => ?_)
  · exact Go_i (show True from trivial)
  · refine Go_bindP (ok_X9_cornerOf mk t_count t_cornersOf i1 (1 : Int) (by first | assumption | omega) (by first | assumption | omega) (by first | assumption | omega) (by first | assumption | omega) (by first | assumption | omega) (by first | assumption | omega)) (fun o4 q3 => ?_)
    obtain ⟨q3_0, q3_1⟩ := q3
    refine Go_chk (by unfold zout; omega) ?_
    refine Go_ite (fun c4 => ?_) (fun c4 => ?_)
    · exact Go_i (show True from trivial)
    · refine Go_bindP (ok_X9_cornerOf mk t_count t_cornersOf i1 (2 : Int) (by first | assumption | omega) (by first | assumption | omega) (by first | assumption | omega) (by first | assumption | omega) (by first | assumption | omega) (by first | assumption | omega)) (fun o6 q5 => ?_)
      obtain ⟨q5_0, q5_1⟩ := q5
      refine Go_chk (by unfold zout; omega) ?_
      refine Go_ite (fun c6 => ?_) (fun c6 => ?_)
      · exact Go_i (show True from trivial)
      · exact Go_i (show True from trivial)
set_option maxRecDepth 20000 in
theorem ok_X9_choose : ∀ (d : Nat) (mk : Nat) (t_count : Int) (t_polygon : Nat) (t_from : Int) (t_length : Int) (t_waysAhead : Int) (t_cornersOf : Nat) (t_chosen : Nat) (i1 : Int) (i2 : Int) (p0 : ¬ zno mk t_polygon) (p1 : 0 ≤ t_count) (p2 : t_count ≤ 7) (p3 : 0 ≤ t_from) (p4 : t_from ≤ 8) (p5 : -20 ≤ t_length) (p6 : t_length ≤ 8) (p7 : 0 ≤ i1) (p8 : i1 ≤ 7) (p9 : 9 - i1 ≤ (d : Int)) (p10 : 0 ≤ t_waysAhead) (p11 : t_waysAhead ≤ 2147483647), Go (fun (o : zO_X9_choose) => ((o.1) = true → True) ∧ ((o.1) = false → 0 ≤ (o.2.1) ∧ (o.2.1) ≤ t_waysAhead)) (zf_X9_choose d mk t_count t_polygon t_from t_length t_waysAhead t_cornersOf t_chosen i1 i2) := by
  intro d
  induction d with
  | zero => intro mk t_count t_polygon t_from t_length t_waysAhead t_cornersOf t_chosen i1 i2 p0 p1 p2 p3 p4 p5 p6 p7 p8 p9 p10 p11; exfalso; omega
  | succ d ih =>
    intro mk t_count t_polygon t_from t_length t_waysAhead t_cornersOf t_chosen i1 i2 p0 p1 p2 p3 p4 p5 p6 p7 p8 p9 p10 p11
    show Go _ (jrun (zg_X9_choose (zf_X9_choose d) mk t_count t_polygon t_from t_length t_cornersOf) jfuel (0, i1, i2, 0, 0, t_waysAhead, t_chosen))
    have grt_polygon := zno_rng p0
    have g7t_polygon := rpg7 (n := t_polygon) (by omega) (by omega)
    have g8t_polygon := rpg8 (n := t_polygon) (by omega) (by omega)
    refine jok (fun (s : zS_X9_choose) => match s with | (lab, i1', i2', i3', i4', t_waysAhead', t_chosen') => (lab = 0 ∧ 0 ≤ i1' ∧ i1' ≤ 7 ∧ i1' = i1 ∧ 0 ≤ t_waysAhead' ∧ t_waysAhead' ≤ t_waysAhead) ∨ (lab = 70 ∧ 0 ≤ i1' ∧ i1' < 7 ∧ i1' = i1 ∧ 0 ≤ i4' ∧ i4' ≤ t_count ∧ -2147483648 ≤ i3' ∧ i3' ≤ 2147483647 ∧ 0 ≤ t_waysAhead' ∧ t_waysAhead' ≤ t_waysAhead)) (fun (s : zS_X9_choose) => match s with | (lab, i1', i2', i3', i4', t_waysAhead', t_chosen') => if lab = 0 then 100 else if lab = 70 then (20 - i4').toNat else 0) (fun (o : zO_X9_choose) => ((o.1) = true → True) ∧ ((o.1) = false → 0 ≤ (o.2.1) ∧ (o.2.1) ≤ t_waysAhead)) ?_ _ ?_ ?_
    · intro s hI
      obtain ⟨lab, i1', i2', i3', i4', t_waysAhead', t_chosen'⟩ := s
      have hI : (lab = 0 ∧ 0 ≤ i1' ∧ i1' ≤ 7 ∧ i1' = i1 ∧ 0 ≤ t_waysAhead' ∧ t_waysAhead' ≤ t_waysAhead) ∨ (lab = 70 ∧ 0 ≤ i1' ∧ i1' < 7 ∧ i1' = i1 ∧ 0 ≤ i4' ∧ i4' ≤ t_count ∧ -2147483648 ≤ i3' ∧ i3' ≤ 2147483647 ∧ 0 ≤ t_waysAhead' ∧ t_waysAhead' ≤ t_waysAhead) := hI
      rcases hI with ⟨rfl, v0_0, v0_1, v0_2, v0_3, v0_4⟩ | ⟨rfl, v70_0, v70_1, v70_2, v70_3, v70_4, v70_5, v70_6, v70_7, v70_8⟩
      · show Go _ (zg_X9_choose_0 (zf_X9_choose d) mk t_count t_polygon t_from t_length t_cornersOf i1' i2' i3' i4' t_waysAhead' t_chosen')
        unfold zg_X9_choose_0
        refine Go_chk (by unfold zout; omega) ?_
        refine Go_chk (by unfold zout; omega) ?_
        refine Go_ite (fun c1 => ?_) (fun c1 => ?_)
        · refine Go_chk (by unfold zout; omega) ?_
          refine Go_ite (fun c2 => ?_) (fun c2 => ?_)
          · exact Go_i (show ((false) = true → True) ∧ ((false) = false → 0 ≤ ((t_waysAhead' - (1 : Int))) ∧ ((t_waysAhead' - (1 : Int))) ≤ t_waysAhead) from ⟨(by intro h; first | exact True.intro | omega | (exact absurd h (by decide))), (by intro h; first | exact True.intro | omega | (exact absurd h (by decide)))⟩)
          · exact Go_i (show ((true) = true → True) ∧ ((true) = false → 0 ≤ ((t_waysAhead' - (1 : Int))) ∧ ((t_waysAhead' - (1 : Int))) ≤ t_waysAhead) from ⟨(by intro h; first | exact True.intro | omega | (exact absurd h (by decide))), (by intro h; first | exact True.intro | omega | (exact absurd h (by decide)))⟩)
        · refine Go_ite (fun c3 => ?_) (fun c3 => ?_)
          · refine Go_chk (by assumption) ?_
            refine Go_bindP (ok_X5_corners t_polygon ) (fun o6 q4 => ?_)
            refine Go_chk (by unfold zout; omega) ?_
            refine Go_chk (by unfold zout; omega) ?_
            refine Go_ite (fun c5 => ?_) (fun c5 => ?_)
            · exact Go_i (show (((70 : Nat) = 0 ∧ 0 ≤ (i1') ∧ (i1') ≤ 7 ∧ (i1') = i1 ∧ 0 ≤ (t_waysAhead') ∧ (t_waysAhead') ≤ t_waysAhead) ∨ ((70 : Nat) = 70 ∧ 0 ≤ (i1') ∧ (i1') < 7 ∧ (i1') = i1 ∧ 0 ≤ ((0 : Int)) ∧ ((0 : Int)) ≤ t_count ∧ -2147483648 ≤ (((t_from + (1 : Int)) + i1')) ∧ (((t_from + (1 : Int)) + i1')) ≤ 2147483647 ∧ 0 ≤ (t_waysAhead') ∧ (t_waysAhead') ≤ t_waysAhead)) ∧ (20 - ((0 : Int))).toNat < 100 from ⟨Or.inr (⟨rfl, (by first | assumption | omega), (by first | assumption | omega), (by first | assumption | omega), (by first | assumption | omega), (by first | assumption | omega), (by first | assumption | omega), (by first | assumption | omega), (by first | assumption | omega), (by first | assumption | omega)⟩), by omega⟩)
            · refine Go_bindP (ok_X5_corners t_polygon ) (fun o9 q6 => ?_)
              exact Go_i (show (((70 : Nat) = 0 ∧ 0 ≤ (i1') ∧ (i1') ≤ 7 ∧ (i1') = i1 ∧ 0 ≤ (t_waysAhead') ∧ (t_waysAhead') ≤ t_waysAhead) ∨ ((70 : Nat) = 70 ∧ 0 ≤ (i1') ∧ (i1') < 7 ∧ (i1') = i1 ∧ 0 ≤ ((0 : Int)) ∧ ((0 : Int)) ≤ t_count ∧ -2147483648 ≤ ((((t_from + (1 : Int)) + i1') - o9)) ∧ ((((t_from + (1 : Int)) + i1') - o9)) ≤ 2147483647 ∧ 0 ≤ (t_waysAhead') ∧ (t_waysAhead') ≤ t_waysAhead)) ∧ (20 - ((0 : Int))).toNat < 100 from ⟨Or.inr (⟨rfl, (by first | assumption | omega), (by first | assumption | omega), (by first | assumption | omega), (by first | assumption | omega), (by first | assumption | omega), (by first | assumption | omega), (by first | assumption | omega), (by first | assumption | omega), (by first | assumption | omega)⟩), by omega⟩)
          · refine Go_chk (by unfold zout; omega) ?_
            refine Go_ite (fun c7 => ?_) (fun c7 => ?_)
            · exact Go_i (show ((false) = true → True) ∧ ((false) = false → 0 ≤ ((t_waysAhead' - (1 : Int))) ∧ ((t_waysAhead' - (1 : Int))) ≤ t_waysAhead) from ⟨(by intro h; first | exact True.intro | omega | (exact absurd h (by decide))), (by intro h; first | exact True.intro | omega | (exact absurd h (by decide)))⟩)
            · exact Go_i (show ((true) = true → True) ∧ ((true) = false → 0 ≤ ((t_waysAhead' - (1 : Int))) ∧ ((t_waysAhead' - (1 : Int))) ≤ t_waysAhead) from ⟨(by intro h; first | exact True.intro | omega | (exact absurd h (by decide))), (by intro h; first | exact True.intro | omega | (exact absurd h (by decide)))⟩)
      · show Go _ (zg_X9_choose_70 (zf_X9_choose d) mk t_count t_polygon t_from t_length t_cornersOf i1' i2' i3' i4' t_waysAhead' t_chosen')
        unfold zg_X9_choose_70
        refine Go_chk (by unfold zout; omega) ?_
        refine Go_chk (by unfold zout; omega) ?_
        refine Go_ite (fun c8 => ?_) (fun c8 => ?_)
        · exact Go_i (show ((false) = true → True) ∧ ((false) = false → 0 ≤ (t_waysAhead') ∧ (t_waysAhead') ≤ t_waysAhead) from ⟨(by intro h; first | exact True.intro | omega | (exact absurd h (by decide))), (by intro h; first | exact True.intro | omega | (exact absurd h (by decide)))⟩)
        · have a9 := rshr i2' i4'
          have a10 := rand (zshr i2' i4') (1 : Int)
          refine Go_ite (fun c11 => ?_) (fun c11 => ?_)
          · refine Go_bindP (ok_X9_touches mk t_count t_cornersOf i4' i3' (by first | assumption | omega) (by first | assumption | omega) (by first | assumption | omega) (by first | assumption | omega) (by first | assumption | omega) (by first | assumption | omega)) (fun o17 q12 => ?_)
            refine Go_ite (fun c13 => ?_) (fun c13 => ?_)
            · exact Go_i (show (((70 : Nat) = 0 ∧ 0 ≤ (i1') ∧ (i1') ≤ 7 ∧ (i1') = i1 ∧ 0 ≤ (t_waysAhead') ∧ (t_waysAhead') ≤ t_waysAhead) ∨ ((70 : Nat) = 70 ∧ 0 ≤ (i1') ∧ (i1') < 7 ∧ (i1') = i1 ∧ 0 ≤ ((i4' + (1 : Int))) ∧ ((i4' + (1 : Int))) ≤ t_count ∧ -2147483648 ≤ (i3') ∧ (i3') ≤ 2147483647 ∧ 0 ≤ (t_waysAhead') ∧ (t_waysAhead') ≤ t_waysAhead)) ∧ (20 - ((i4' + (1 : Int)))).toNat < (20 - i4').toNat from ⟨Or.inr (⟨rfl, (by first | assumption | omega), (by first | assumption | omega), (by first | assumption | omega), (by first | assumption | omega), (by first | assumption | omega), (by first | assumption | omega), (by first | assumption | omega), (by first | assumption | omega), (by first | assumption | omega)⟩), by omega⟩)
            · refine Go_chk (by omega) ?_
              have a14 := rshl (1 : Int) i4'
              have a15 := ror i2' (zshl (1 : Int) i4')
              refine Go_bindP (ih mk t_count t_polygon t_from t_length t_waysAhead' t_cornersOf (zset t_chosen' (Int.toNat i1') i4') (i1' + (1 : Int)) (zor i2' (zshl (1 : Int) i4')) (by first | assumption | omega) (by first | assumption | omega) (by first | assumption | omega) (by first | assumption | omega) (by first | assumption | omega) (by first | assumption | omega) (by first | assumption | omega) (by first | assumption | omega) (by first | assumption | omega) (by first | assumption | omega) (by first | assumption | omega) (by first | assumption | omega)) (fun o19 q16 => ?_)
              obtain ⟨q16_0, q16_1⟩ := q16
              refine Go_ite (fun c17 => ?_) (fun c17 => ?_)
              · have dc17 := q16_1 c17
                exact Go_i (show (((70 : Nat) = 0 ∧ 0 ≤ (i1') ∧ (i1') ≤ 7 ∧ (i1') = i1 ∧ 0 ≤ ((o19.2.1)) ∧ ((o19.2.1)) ≤ t_waysAhead) ∨ ((70 : Nat) = 70 ∧ 0 ≤ (i1') ∧ (i1') < 7 ∧ (i1') = i1 ∧ 0 ≤ ((i4' + (1 : Int))) ∧ ((i4' + (1 : Int))) ≤ t_count ∧ -2147483648 ≤ (i3') ∧ (i3') ≤ 2147483647 ∧ 0 ≤ ((o19.2.1)) ∧ ((o19.2.1)) ≤ t_waysAhead)) ∧ (20 - ((i4' + (1 : Int)))).toNat < (20 - i4').toNat from ⟨Or.inr (⟨rfl, (by first | assumption | omega), (by first | assumption | omega), (by first | assumption | omega), (by first | assumption | omega), (by first | assumption | omega), (by first | assumption | omega), (by first | assumption | omega), (by first | assumption | omega), (by first | assumption | omega)⟩), by omega⟩)
              · have dc17 := q16_0 (bnf c17)
                exact Go_i (show ((true) = true → True) ∧ ((true) = false → 0 ≤ ((o19.2.1)) ∧ ((o19.2.1)) ≤ t_waysAhead) from ⟨(by intro h; first | exact True.intro | omega | (exact absurd h (by decide))), (by intro h; first | exact True.intro | omega | (exact absurd h (by decide)))⟩)
          · exact Go_i (show (((70 : Nat) = 0 ∧ 0 ≤ (i1') ∧ (i1') ≤ 7 ∧ (i1') = i1 ∧ 0 ≤ (t_waysAhead') ∧ (t_waysAhead') ≤ t_waysAhead) ∨ ((70 : Nat) = 70 ∧ 0 ≤ (i1') ∧ (i1') < 7 ∧ (i1') = i1 ∧ 0 ≤ ((i4' + (1 : Int))) ∧ ((i4' + (1 : Int))) ≤ t_count ∧ -2147483648 ≤ (i3') ∧ (i3') ≤ 2147483647 ∧ 0 ≤ (t_waysAhead') ∧ (t_waysAhead') ≤ t_waysAhead)) ∧ (20 - ((i4' + (1 : Int)))).toNat < (20 - i4').toNat from ⟨Or.inr (⟨rfl, (by first | assumption | omega), (by first | assumption | omega), (by first | assumption | omega), (by first | assumption | omega), (by first | assumption | omega), (by first | assumption | omega), (by first | assumption | omega), (by first | assumption | omega), (by first | assumption | omega)⟩), by omega⟩)
    · exact (show ((0 : Nat) = 0 ∧ 0 ≤ i1 ∧ i1 ≤ 7 ∧ i1 = i1 ∧ 0 ≤ t_waysAhead ∧ t_waysAhead ≤ t_waysAhead) ∨ ((0 : Nat) = 70 ∧ 0 ≤ i1 ∧ i1 < 7 ∧ i1 = i1 ∧ 0 ≤ 0 ∧ 0 ≤ t_count ∧ -2147483648 ≤ 0 ∧ 0 ≤ 2147483647 ∧ 0 ≤ t_waysAhead ∧ t_waysAhead ≤ t_waysAhead) from Or.inl (⟨rfl, (by first | assumption | omega), (by first | assumption | omega), (by first | assumption | omega), (by first | assumption | omega), (by first | assumption | omega)⟩))
    · show 100 < jfuel
      unfold jfuel
      omega
set_option maxRecDepth 20000 in
theorem ok_X9_onWay (mk : Nat) (t_count : Int) (t_polygon : Nat) (t_from : Int) (t_length : Int) (t_waysAhead : Int) (t_cornersOf : Nat) (t_chosen : Nat) (n1 : Nat) (i2 : Int) (i3 : Int) (i4 : Int) (i5 : Int) (p0 : ¬ zno mk n1) (p1 : 0 ≤ t_count) (p2 : t_count ≤ 7) (p3 : 0 ≤ i2) (p4 : i2 < (n1 : Int)) (p5 : 0 ≤ i3) (p6 : i3 < (n1 : Int)) (p7 : 0 ≤ i4) (p8 : i4 ≤ 2147483647) (p9 : -2147483648 ≤ i5) (p10 : i5 ≤ 2147483647) : Go (fun o => -2147483648 ≤ (o.1) ∧ (o.1) ≤ 2147483647 ∧ (o.2.1) = n1) (zf_X9_onWay mk t_count t_polygon t_from t_length t_waysAhead t_cornersOf t_chosen n1 i2 i3 i4 i5) := by
  unfold zf_X9_onWay
  have grn1 := zno_rng p0
  have g7n1 := rpg7 (n := n1) (by omega) (by omega)
  have g8n1 := rpg8 (n := n1) (by omega) (by omega)
  refine Go_chk (by assumption) ?_
  refine Go_bindP (ok_X5_ahead n1 i2 i3 (by first | assumption | omega) (by first | assumption | omega) (by first | assumption | omega) (by first | assumption | omega) (by first | assumption | omega) (by first | assumption | omega)) (fun o2 q1 => ?_)
  obtain ⟨q1_0, q1_1⟩ := q1
  refine Go_chk (by unfold zout; omega) ?_
  refine Go_ite (fun c2 => ?_) (fun c2 => ?_)
  · exact Go_i (show -2147483648 ≤ ((-1 : Int)) ∧ ((-1 : Int)) ≤ 2147483647 ∧ (n1) = n1 from ⟨(by first | assumption | omega), (by first | assumption | omega), (by first | assumption | omega)⟩)
  · refine Go_chk (by unfold zout; omega) ?_
    refine Go_ite (fun c3 => ?_) (fun c3 => ?_)
    · exact Go_i (show -2147483648 ≤ ((-1 : Int)) ∧ ((-1 : Int)) ≤ 2147483647 ∧ (n1) = n1 from ⟨(by first | assumption | omega), (by first | assumption | omega), (by first | assumption | omega)⟩)
    · refine Go_ite (fun c4 => ?_) (fun c4 => ?_)
      · refine Go_bindP (ok_X9_choose 10 mk t_count n1 i2 (o2 - (1 : Int)) i4 t_cornersOf t_chosen (0 : Int) (0 : Int) (by first | assumption | omega) (by first | assumption | omega) (by first | assumption | omega) (by first | assumption | omega) (by first | assumption | omega) (by first | assumption | omega) (by first | assumption | omega) (by first | assumption | omega) (by first | assumption | omega) (by first | assumption | omega) (by first | assumption | omega) (by first | assumption | omega)) (fun o5 q5 => ?_)
        obtain ⟨q5_0, q5_1⟩ := q5
        refine Go_ite (fun c6 => ?_) (fun c6 => ?_)
        · have dc6 := q5_1 c6
          exact Go_i (show -2147483648 ≤ ((-2 : Int)) ∧ ((-2 : Int)) ≤ 2147483647 ∧ (n1) = n1 from ⟨(by first | assumption | omega), (by first | assumption | omega), (by first | assumption | omega)⟩)
        · have dc6 := q5_0 (bnf c6)
          refine Go_chk (by omega) ?_
          have a7 := rget (o5.2.2) (Int.toNat i5)
          exact Go_i (show -2147483648 ≤ ((zget (o5.2.2) (Int.toNat i5))) ∧ ((zget (o5.2.2) (Int.toNat i5))) ≤ 2147483647 ∧ (n1) = n1 from ⟨(by first | assumption | omega), (by first | assumption | omega), (by first | assumption | omega)⟩)
      · exact Go_i (show -2147483648 ≤ ((-1 : Int)) ∧ ((-1 : Int)) ≤ 2147483647 ∧ (n1) = n1 from ⟨(by first | assumption | omega), (by first | assumption | omega), (by first | assumption | omega)⟩)
set_option maxRecDepth 20000 in
theorem ok_X3_size (t_size : Int)  : Go (fun o => (o) = t_size) (zf_X3_size t_size) := by
  unfold zf_X3_size
  exact Go_i (show (t_size) = t_size from (by first | assumption | omega))
set_option maxRecDepth 20000 in
theorem ok_X3_gather (mk : Nat) (t_size : Int) (t_numbers : Nat) (q2_size : Int) (q2_rights : Int) (q2_seenStep : Nat) (q2_seenFrom : Nat) (q2_seenTo : Nat) (q2_seenValue : Nat) (q2_rightStep : Nat) (q2_rightOf : Nat) (q2_rightValue : Nat) (q2_knownValue : Nat) (n1 : Nat) (i3 : Int) (p0 : ¬ zno mk n1) (p1 : 0 ≤ q2_size) (p2 : q2_size ≤ 20) (p3 : 0 ≤ q2_rights) (p4 : q2_rights ≤ 20) (p5 : (∀ k : Nat, (k : Int) < q2_size → 0 ≤ zget q2_seenFrom k ∧ zget q2_seenFrom k < (n1 : Int))) (p6 : (∀ k : Nat, (k : Int) < q2_size → 0 ≤ zget q2_seenTo k ∧ zget q2_seenTo k < (n1 : Int))) (p7 : -2147483648 ≤ i3) (p8 : i3 ≤ 2147483647) : Go (fun o => 0 ≤ (o.1) ∧ (o.1) ≤ 429 ∧ (∀ k : Nat, (k : Int) < (o.1) → 0 ≤ zget (o.2.1) k ∧ zget (o.2.1) k < pg8 n1)) (zf_X3_gather mk t_size t_numbers q2_size q2_rights q2_seenStep q2_seenFrom q2_seenTo q2_seenValue q2_rightStep q2_rightOf q2_rightValue q2_knownValue n1 i3) := by
  unfold zf_X3_gather
  have grn1 := zno_rng p0
  have g7n1 := rpg7 (n := n1) (by omega) (by omega)
  have g8n1 := rpg8 (n := n1) (by omega) (by omega)
  refine jok (fun (s : zS_X3_gather) => match s with | (lab, i3', i4', t_size', t_numbers', q2_knownValue') => (lab = 0 ∧ -2147483648 ≤ i3' ∧ i3' ≤ 2147483647) ∨ (lab = 13 ∧ 0 ≤ i4' ∧ i4' ≤ pg8 n1 ∧ 0 ≤ t_size' ∧ t_size' ≤ i4' ∧ (∀ k : Nat, (k : Int) < t_size' → 0 ≤ zget t_numbers' k ∧ zget t_numbers' k < pg8 n1))) (fun (s : zS_X3_gather) => match s with | (lab, i3', i4', t_size', t_numbers', q2_knownValue') => if lab = 0 then 1000 else if lab = 13 then (440 - i4').toNat else 0) (fun (o : zO_X3_gather) => 0 ≤ (o.1) ∧ (o.1) ≤ 429 ∧ (∀ k : Nat, (k : Int) < (o.1) → 0 ≤ zget (o.2.1) k ∧ zget (o.2.1) k < pg8 n1)) ?_ _ ?_ ?_
  · intro s hI
    obtain ⟨lab, i3', i4', t_size', t_numbers', q2_knownValue'⟩ := s
    have hI : (lab = 0 ∧ -2147483648 ≤ i3' ∧ i3' ≤ 2147483647) ∨ (lab = 13 ∧ 0 ≤ i4' ∧ i4' ≤ pg8 n1 ∧ 0 ≤ t_size' ∧ t_size' ≤ i4' ∧ (∀ k : Nat, (k : Int) < t_size' → 0 ≤ zget t_numbers' k ∧ zget t_numbers' k < pg8 n1)) := hI
    rcases hI with ⟨rfl, v0_0, v0_1⟩ | ⟨rfl, v13_0, v13_1, v13_2, v13_3, v13_4⟩
    · show Go _ (zg_X3_gather_0 mk q2_size q2_rights q2_seenStep q2_seenFrom q2_seenTo q2_seenValue q2_rightStep q2_rightOf q2_rightValue n1 i3' i4' t_size' t_numbers' q2_knownValue')
      unfold zg_X3_gather_0
      refine Go_bindP (ok_X7_recall q2_size q2_rights q2_seenStep q2_seenValue q2_rightStep q2_rightOf q2_rightValue q2_knownValue' i3' (by first | assumption | omega) (by first | assumption | omega) (by first | assumption | omega) (by first | assumption | omega) (by first | assumption | omega) (by first | assumption | omega)) (fun o1 q1 => ?_)
      exact Go_i (show (((13 : Nat) = 0 ∧ -2147483648 ≤ (i3') ∧ (i3') ≤ 2147483647) ∨ ((13 : Nat) = 13 ∧ 0 ≤ ((0 : Int)) ∧ ((0 : Int)) ≤ pg8 n1 ∧ 0 ≤ ((0 : Int)) ∧ ((0 : Int)) ≤ ((0 : Int)) ∧ (∀ k : Nat, (k : Int) < ((0 : Int)) → 0 ≤ zget (t_numbers') k ∧ zget (t_numbers') k < pg8 n1))) ∧ (440 - ((0 : Int))).toNat < 1000 from ⟨Or.inr (⟨rfl, (by first | assumption | omega), (by first | assumption | omega), (by first | assumption | omega), (by first | assumption | omega), (by first | assumption | (intro k hk; omega) | exact all_push (by assumption) (by omega) (by omega) (by omega) (by omega) (by omega))⟩), by omega⟩)
    · show Go _ (zg_X3_gather_13 mk q2_size q2_rights q2_seenStep q2_seenFrom q2_seenTo q2_seenValue q2_rightStep q2_rightOf q2_rightValue n1 i3' i4' t_size' t_numbers' q2_knownValue')
      unfold zg_X3_gather_13
      refine Go_chk (by assumption) ?_
      refine Go_bindP (ok_X5_cutCount n1 (by first | assumption | omega) (by first | assumption | omega)) (fun o3 q2 => ?_)
      obtain ⟨q2_0, q2_1, q2_2⟩ := q2
      refine Go_chk (by unfold zout; omega) ?_
      refine Go_chk (by unfold zout; omega) ?_
      refine Go_ite (fun c3 => ?_) (fun c3 => ?_)
      · exact Go_i (show 0 ≤ (t_size') ∧ (t_size') ≤ 429 ∧ (∀ k : Nat, (k : Int) < (t_size') → 0 ≤ zget (t_numbers') k ∧ zget (t_numbers') k < pg8 n1) from ⟨(by first | assumption | omega), (by first | assumption | omega), (by first | assumption | (intro k hk; omega) | exact all_push (by assumption) (by omega) (by omega) (by omega) (by omega) (by omega))⟩)
      · refine Go_ite (fun c4 => ?_) (fun c4 => ?_)
        · exact Go_i (show 0 ≤ (t_size') ∧ (t_size') ≤ 429 ∧ (∀ k : Nat, (k : Int) < (t_size') → 0 ≤ zget (t_numbers') k ∧ zget (t_numbers') k < pg8 n1) from ⟨(by first | assumption | omega), (by first | assumption | omega), (by first | assumption | (intro k hk; omega) | exact all_push (by assumption) (by omega) (by omega) (by omega) (by omega) (by omega))⟩)
        · refine Go_bindP (ok_X5_cutAt n1 i4' (by first | assumption | omega) (by first | assumption | omega) (by first | assumption | omega) (by first | assumption | omega)) (fun o6 q5 => ?_)
          obtain ⟨q5_0, q5_1, q5_2⟩ := q5
          refine Go_bindP (ok_X7_agreeWith mk q2_size q2_seenFrom q2_seenTo q2_knownValue' n1 o6 (by first | assumption | omega) (by first | assumption | omega) (by first | assumption | omega) (q5_2 ⟨by omega, by omega⟩) (by first | assumption | exact all_w (by assumption) (by omega) | (refine all_setw ?_ (Int.le_refl _) ?_ ?_ (by omega) (by omega) <;> first | assumption | omega) | exact all_setw (by assumption) (by omega) (by omega) (by omega) (by omega) (by omega)) (by first | assumption | exact all_w (by assumption) (by omega) | (refine all_setw ?_ (Int.le_refl _) ?_ ?_ (by omega) (by omega) <;> first | assumption | omega) | exact all_setw (by assumption) (by omega) (by omega) (by omega) (by omega) (by omega))) (fun o7 q6 => ?_)
          refine Go_ite (fun c7 => ?_) (fun c7 => ?_)
          · exact Go_i (show (((13 : Nat) = 0 ∧ -2147483648 ≤ (0) ∧ (0) ≤ 2147483647) ∨ ((13 : Nat) = 13 ∧ 0 ≤ ((i4' + (1 : Int))) ∧ ((i4' + (1 : Int))) ≤ pg8 n1 ∧ 0 ≤ (t_size') ∧ (t_size') ≤ ((i4' + (1 : Int))) ∧ (∀ k : Nat, (k : Int) < (t_size') → 0 ≤ zget (t_numbers') k ∧ zget (t_numbers') k < pg8 n1))) ∧ (440 - ((i4' + (1 : Int)))).toNat < (440 - i4').toNat from ⟨Or.inr (⟨rfl, (by first | assumption | omega), (by first | assumption | omega), (by first | assumption | omega), (by first | assumption | omega), (by first | assumption | (intro k hk; omega) | exact all_push (by assumption) (by omega) (by omega) (by omega) (by omega) (by omega))⟩), by omega⟩)
          · refine Go_chk (by omega) ?_
            exact Go_i (show (((13 : Nat) = 0 ∧ -2147483648 ≤ (0) ∧ (0) ≤ 2147483647) ∨ ((13 : Nat) = 13 ∧ 0 ≤ ((i4' + (1 : Int))) ∧ ((i4' + (1 : Int))) ≤ pg8 n1 ∧ 0 ≤ ((t_size' + (1 : Int))) ∧ ((t_size' + (1 : Int))) ≤ ((i4' + (1 : Int))) ∧ (∀ k : Nat, (k : Int) < ((t_size' + (1 : Int))) → 0 ≤ zget ((zset t_numbers' (Int.toNat t_size') i4')) k ∧ zget ((zset t_numbers' (Int.toNat t_size') i4')) k < pg8 n1))) ∧ (440 - ((i4' + (1 : Int)))).toNat < (440 - i4').toNat from ⟨Or.inr (⟨rfl, (by first | assumption | omega), (by first | assumption | omega), (by first | assumption | omega), (by first | assumption | omega), (by first | assumption | (intro k hk; omega) | exact all_push (by assumption) (by omega) (by omega) (by omega) (by omega) (by omega))⟩), by omega⟩)
  · exact (show ((0 : Nat) = 0 ∧ -2147483648 ≤ i3 ∧ i3 ≤ 2147483647) ∨ ((0 : Nat) = 13 ∧ 0 ≤ 0 ∧ 0 ≤ pg8 n1 ∧ 0 ≤ t_size ∧ t_size ≤ 0 ∧ (∀ k : Nat, (k : Int) < t_size → 0 ≤ zget t_numbers k ∧ zget t_numbers k < pg8 n1)) from Or.inl (⟨rfl, (by first | assumption | omega), (by first | assumption | omega)⟩))
  · show 1000 < jfuel
    unfold jfuel
    omega
set_option maxRecDepth 20000 in
theorem ok_X3_leastNumber (t_size : Int) (t_numbers : Nat) (p0 : 0 ≤ t_size) (p1 : t_size ≤ 429) : Go (fun o => -2147483648 ≤ (o) ∧ (o) ≤ 2147483647) (zf_X3_leastNumber t_size t_numbers) := by
  unfold zf_X3_leastNumber
  refine Go_chk (by unfold zout; omega) ?_
  refine Go_ite (fun c1 => ?_) (fun c1 => ?_)
  · exact Go_i (show -2147483648 ≤ ((-1 : Int)) ∧ ((-1 : Int)) ≤ 2147483647 from ⟨(by first | assumption | omega), (by first | assumption | omega)⟩)
  · have a2 := rget t_numbers (Int.toNat (0 : Int))
    exact Go_i (show -2147483648 ≤ ((zget t_numbers (Int.toNat (0 : Int)))) ∧ ((zget t_numbers (Int.toNat (0 : Int)))) ≤ 2147483647 from ⟨(by first | assumption | omega), (by first | assumption | omega)⟩)
set_option maxRecDepth 20000 in
theorem ok_X3_howSure (mk : Nat) (t_size : Int) (t_numbers : Nat) (n1 : Nat) (i2 : Int) (p0 : ¬ zno mk n1) (p1 : 0 ≤ t_size) (p2 : t_size ≤ 429) (p3 : (∀ k : Nat, (k : Int) < t_size → 0 ≤ zget t_numbers k ∧ zget t_numbers k < pg8 n1)) (p4 : -2147483648 ≤ i2) (p5 : i2 ≤ 2147483647) : Go (fun o => -1 ≤ (o) ∧ (o) ≤ 2) (zf_X3_howSure mk t_size t_numbers n1 i2) := by
  unfold zf_X3_howSure
  have grn1 := zno_rng p0
  have g7n1 := rpg7 (n := n1) (by omega) (by omega)
  have g8n1 := rpg8 (n := n1) (by omega) (by omega)
  refine jok (fun (s : zS_X3_howSure) => match s with | (lab, i2', i3', i4') => (lab = 0 ∧ -2147483648 ≤ i2' ∧ i2' ≤ 2147483647) ∨ (lab = 5 ∧ -2147483648 ≤ i2' ∧ i2' ≤ 2147483647 ∧ 0 ≤ i3' ∧ i3' ≤ i4' ∧ i4' ≤ t_size)) (fun (s : zS_X3_howSure) => match s with | (lab, i2', i3', i4') => if lab = 0 then 1000 else if lab = 5 then (440 - i4').toNat else 0) (fun (o : zO_X3_howSure) => -1 ≤ (o) ∧ (o) ≤ 2) ?_ _ ?_ ?_
  · intro s hI
    obtain ⟨lab, i2', i3', i4'⟩ := s
    have hI : (lab = 0 ∧ -2147483648 ≤ i2' ∧ i2' ≤ 2147483647) ∨ (lab = 5 ∧ -2147483648 ≤ i2' ∧ i2' ≤ 2147483647 ∧ 0 ≤ i3' ∧ i3' ≤ i4' ∧ i4' ≤ t_size) := hI
    rcases hI with ⟨rfl, v0_0, v0_1⟩ | ⟨rfl, v5_0, v5_1, v5_2, v5_3, v5_4⟩
    · show Go _ (zg_X3_howSure_0 mk t_size t_numbers n1 i2' i3' i4')
      unfold zg_X3_howSure_0
      exact Go_i (show (((5 : Nat) = 0 ∧ -2147483648 ≤ (i2') ∧ (i2') ≤ 2147483647) ∨ ((5 : Nat) = 5 ∧ -2147483648 ≤ (i2') ∧ (i2') ≤ 2147483647 ∧ 0 ≤ ((0 : Int)) ∧ ((0 : Int)) ≤ ((0 : Int)) ∧ ((0 : Int)) ≤ t_size)) ∧ (440 - ((0 : Int))).toNat < 1000 from ⟨Or.inr (⟨rfl, (by first | assumption | omega), (by first | assumption | omega), (by first | assumption | omega), (by first | assumption | omega), (by first | assumption | omega)⟩), by omega⟩)
    · show Go _ (zg_X3_howSure_5 mk t_size t_numbers n1 i2' i3' i4')
      unfold zg_X3_howSure_5
      refine Go_chk (by unfold zout; omega) ?_
      refine Go_chk (by unfold zout; omega) ?_
      refine Go_ite (fun c1 => ?_) (fun c1 => ?_)
      · refine Go_ite (fun c2 => ?_) (fun c2 => ?_)
        · exact Go_i (show -1 ≤ ((-1 : Int)) ∧ ((-1 : Int)) ≤ 2 from ⟨(by first | assumption | omega), (by first | assumption | omega)⟩)
        · refine Go_chk (by unfold zout; omega) ?_
          refine Go_ite (fun c3 => ?_) (fun c3 => ?_)
          · exact Go_i (show -1 ≤ ((1 : Int)) ∧ ((1 : Int)) ≤ 2 from ⟨(by first | assumption | omega), (by first | assumption | omega)⟩)
          · refine Go_ite (fun c4 => ?_) (fun c4 => ?_)
            · exact Go_i (show -1 ≤ ((0 : Int)) ∧ ((0 : Int)) ≤ 2 from ⟨(by first | assumption | omega), (by first | assumption | omega)⟩)
            · exact Go_i (show -1 ≤ ((2 : Int)) ∧ ((2 : Int)) ≤ 2 from ⟨(by first | assumption | omega), (by first | assumption | omega)⟩)
      · refine Go_chk (by omega) ?_
        refine Go_chk (by assumption) ?_
        have a5 := rget t_numbers (Int.toNat i4')
        refine Go_bindP (ok_X5_cutAt n1 (zget t_numbers (Int.toNat i4')) (by first | assumption | omega) (by first | assumption | omega) (by first | assumption | omega) (by first | assumption | omega)) (fun o9 q6 => ?_)
        obtain ⟨q6_0, q6_1, q6_2⟩ := q6
        refine Go_bindP (ok_X5_has n1 o9 i2' (by first | assumption | omega) (by first | assumption | omega) (by first | assumption | omega) (by first | assumption | omega)) (fun o10 q7 => ?_)
        obtain ⟨q7_0, q7_1⟩ := q7
        refine Go_ite (fun c8 => ?_) (fun c8 => ?_)
        · have dc8 := q7_1 c8
          exact Go_i (show (((5 : Nat) = 0 ∧ -2147483648 ≤ (i2') ∧ (i2') ≤ 2147483647) ∨ ((5 : Nat) = 5 ∧ -2147483648 ≤ (i2') ∧ (i2') ≤ 2147483647 ∧ 0 ≤ (i3') ∧ (i3') ≤ ((i4' + (1 : Int))) ∧ ((i4' + (1 : Int))) ≤ t_size)) ∧ (440 - ((i4' + (1 : Int)))).toNat < (440 - i4').toNat from ⟨Or.inr (⟨rfl, (by first | assumption | omega), (by first | assumption | omega), (by first | assumption | omega), (by first | assumption | omega), (by first | assumption | omega)⟩), by omega⟩)
        · have dc8 := q7_0 (bnf c8)
          exact Go_i (show (((5 : Nat) = 0 ∧ -2147483648 ≤ (i2') ∧ (i2') ≤ 2147483647) ∨ ((5 : Nat) = 5 ∧ -2147483648 ≤ (i2') ∧ (i2') ≤ 2147483647 ∧ 0 ≤ ((i3' + (1 : Int))) ∧ ((i3' + (1 : Int))) ≤ ((i4' + (1 : Int))) ∧ ((i4' + (1 : Int))) ≤ t_size)) ∧ (440 - ((i4' + (1 : Int)))).toNat < (440 - i4').toNat from ⟨Or.inr (⟨rfl, (by first | assumption | omega), (by first | assumption | omega), (by first | assumption | omega), (by first | assumption | omega), (by first | assumption | omega)⟩), by omega⟩)
  · exact (show ((0 : Nat) = 0 ∧ -2147483648 ≤ i2 ∧ i2 ≤ 2147483647) ∨ ((0 : Nat) = 5 ∧ -2147483648 ≤ i2 ∧ i2 ≤ 2147483647 ∧ 0 ≤ 0 ∧ 0 ≤ 0 ∧ 0 ≤ t_size) from Or.inl (⟨rfl, (by first | assumption | omega), (by first | assumption | omega)⟩))
  · show 1000 < jfuel
    unfold jfuel
    omega
set_option maxRecDepth 20000 in
theorem ok_X3_mostAgreeing (mk : Nat) (t_size : Int) (t_numbers : Nat) (t_tally : Nat) (n1 : Nat) (i2 : Int) (i3 : Int) (p0 : ¬ zno mk n1) (p1 : 0 ≤ t_size) (p2 : t_size ≤ 429) (p3 : (∀ k : Nat, (k : Int) < t_size → 0 ≤ zget t_numbers k ∧ zget t_numbers k < pg8 n1)) (p4 : 0 ≤ i2) (p5 : i2 < (n1 : Int)) (p6 : 0 ≤ i3) (p7 : i3 < (n1 : Int)) : Go (fun o => -2147483648 ≤ (o.1) ∧ (o.1) ≤ 2147483647) (zf_X3_mostAgreeing mk t_size t_numbers t_tally n1 i2 i3) := by
  unfold zf_X3_mostAgreeing
  have grn1 := zno_rng p0
  have g7n1 := rpg7 (n := n1) (by omega) (by omega)
  have g8n1 := rpg8 (n := n1) (by omega) (by omega)
  refine jok (fun (s : zS_X3_mostAgreeing) => match s with | (lab, i2', i3', i4', i5', t_tally') => (lab = 0 ∧ 0 ≤ i2' ∧ i2' < (n1 : Int) ∧ 0 ≤ i3' ∧ i3' < (n1 : Int)) ∨ (lab = 3 ∧ 0 ≤ i2' ∧ i2' < (n1 : Int) ∧ 0 ≤ i3' ∧ i3' < (n1 : Int) ∧ 0 ≤ i4' ∧ i4' ≤ 22) ∨ (lab = 30 ∧ 0 ≤ i2' ∧ i2' < (n1 : Int) ∧ 0 ≤ i3' ∧ i3' < (n1 : Int) ∧ -2147483648 ≤ i4' ∧ i4' ≤ 2147483647 ∧ 0 ≤ i5' ∧ i5' ≤ t_size)) (fun (s : zS_X3_mostAgreeing) => match s with | (lab, i2', i3', i4', i5', t_tally') => if lab = 0 then 1000 else if lab = 3 then (900 - i4').toNat else if lab = 30 then (440 - i5').toNat else 0) (fun (o : zO_X3_mostAgreeing) => -2147483648 ≤ (o.1) ∧ (o.1) ≤ 2147483647) ?_ _ ?_ ?_
  · intro s hI
    obtain ⟨lab, i2', i3', i4', i5', t_tally'⟩ := s
    have hI : (lab = 0 ∧ 0 ≤ i2' ∧ i2' < (n1 : Int) ∧ 0 ≤ i3' ∧ i3' < (n1 : Int)) ∨ (lab = 3 ∧ 0 ≤ i2' ∧ i2' < (n1 : Int) ∧ 0 ≤ i3' ∧ i3' < (n1 : Int) ∧ 0 ≤ i4' ∧ i4' ≤ 22) ∨ (lab = 30 ∧ 0 ≤ i2' ∧ i2' < (n1 : Int) ∧ 0 ≤ i3' ∧ i3' < (n1 : Int) ∧ -2147483648 ≤ i4' ∧ i4' ≤ 2147483647 ∧ 0 ≤ i5' ∧ i5' ≤ t_size) := hI
    rcases hI with ⟨rfl, v0_0, v0_1, v0_2, v0_3⟩ | ⟨rfl, v3_0, v3_1, v3_2, v3_3, v3_4, v3_5⟩ | ⟨rfl, v30_0, v30_1, v30_2, v30_3, v30_4, v30_5, v30_6, v30_7⟩
    · show Go _ (zg_X3_mostAgreeing_0 mk t_size t_numbers n1 i2' i3' i4' i5' t_tally')
      unfold zg_X3_mostAgreeing_0
      exact Go_i (show (((3 : Nat) = 0 ∧ 0 ≤ (i2') ∧ (i2') < (n1 : Int) ∧ 0 ≤ (i3') ∧ (i3') < (n1 : Int)) ∨ ((3 : Nat) = 3 ∧ 0 ≤ (i2') ∧ (i2') < (n1 : Int) ∧ 0 ≤ (i3') ∧ (i3') < (n1 : Int) ∧ 0 ≤ ((0 : Int)) ∧ ((0 : Int)) ≤ 22) ∨ ((3 : Nat) = 30 ∧ 0 ≤ (i2') ∧ (i2') < (n1 : Int) ∧ 0 ≤ (i3') ∧ (i3') < (n1 : Int) ∧ -2147483648 ≤ ((0 : Int)) ∧ ((0 : Int)) ≤ 2147483647 ∧ 0 ≤ (0) ∧ (0) ≤ t_size)) ∧ (900 - ((0 : Int))).toNat < 1000 from ⟨Or.inr (Or.inl (⟨rfl, (by first | assumption | omega), (by first | assumption | omega), (by first | assumption | omega), (by first | assumption | omega), (by first | assumption | omega), (by first | assumption | omega)⟩)), by omega⟩)
    · show Go _ (zg_X3_mostAgreeing_3 mk t_size t_numbers n1 i2' i3' i4' i5' t_tally')
      unfold zg_X3_mostAgreeing_3
      refine Go_chk (by unfold zout; omega) ?_
      refine Go_ite (fun c1 => ?_) (fun c1 => ?_)
      · exact Go_i (show (((30 : Nat) = 0 ∧ 0 ≤ (i2') ∧ (i2') < (n1 : Int) ∧ 0 ≤ (i3') ∧ (i3') < (n1 : Int)) ∨ ((30 : Nat) = 3 ∧ 0 ≤ (i2') ∧ (i2') < (n1 : Int) ∧ 0 ≤ (i3') ∧ (i3') < (n1 : Int) ∧ 0 ≤ ((0 : Int)) ∧ ((0 : Int)) ≤ 22) ∨ ((30 : Nat) = 30 ∧ 0 ≤ (i2') ∧ (i2') < (n1 : Int) ∧ 0 ≤ (i3') ∧ (i3') < (n1 : Int) ∧ -2147483648 ≤ ((0 : Int)) ∧ ((0 : Int)) ≤ 2147483647 ∧ 0 ≤ ((0 : Int)) ∧ ((0 : Int)) ≤ t_size)) ∧ (440 - ((0 : Int))).toNat < (900 - i4').toNat from ⟨Or.inr (Or.inr (⟨rfl, (by first | assumption | omega), (by first | assumption | omega), (by first | assumption | omega), (by first | assumption | omega), (by first | assumption | omega), (by first | assumption | omega), (by first | assumption | omega), (by first | assumption | omega)⟩)), by omega⟩)
      · refine Go_chk (by omega) ?_
        exact Go_i (show (((3 : Nat) = 0 ∧ 0 ≤ (i2') ∧ (i2') < (n1 : Int) ∧ 0 ≤ (i3') ∧ (i3') < (n1 : Int)) ∨ ((3 : Nat) = 3 ∧ 0 ≤ (i2') ∧ (i2') < (n1 : Int) ∧ 0 ≤ (i3') ∧ (i3') < (n1 : Int) ∧ 0 ≤ ((i4' + (1 : Int))) ∧ ((i4' + (1 : Int))) ≤ 22) ∨ ((3 : Nat) = 30 ∧ 0 ≤ (i2') ∧ (i2') < (n1 : Int) ∧ 0 ≤ (i3') ∧ (i3') < (n1 : Int) ∧ -2147483648 ≤ ((i4' + (1 : Int))) ∧ ((i4' + (1 : Int))) ≤ 2147483647 ∧ 0 ≤ (0) ∧ (0) ≤ t_size)) ∧ (900 - ((i4' + (1 : Int)))).toNat < (900 - i4').toNat from ⟨Or.inr (Or.inl (⟨rfl, (by first | assumption | omega), (by first | assumption | omega), (by first | assumption | omega), (by first | assumption | omega), (by first | assumption | omega), (by first | assumption | omega)⟩)), by omega⟩)
    · show Go _ (zg_X3_mostAgreeing_30 mk t_size t_numbers n1 i2' i3' i4' i5' t_tally')
      unfold zg_X3_mostAgreeing_30
      refine Go_chk (by unfold zout; omega) ?_
      refine Go_chk (by unfold zout; omega) ?_
      refine Go_ite (fun c2 => ?_) (fun c2 => ?_)
      · exact Go_i (show -2147483648 ≤ (i4') ∧ (i4') ≤ 2147483647 from ⟨(by first | assumption | omega), (by first | assumption | omega)⟩)
      · refine Go_chk (by omega) ?_
        refine Go_chk (by assumption) ?_
        have a3 := rget t_numbers (Int.toNat i5')
        have a4 := p3 (Int.toNat i5') (by omega)
        refine Go_bindP (ok_X5_cutAt n1 (zget t_numbers (Int.toNat i5')) (by first | assumption | omega) (by first | assumption | omega) (by first | assumption | omega) (by first | assumption | omega)) (fun o8 q5 => ?_)
        obtain ⟨q5_0, q5_1, q5_2⟩ := q5
        refine Go_bindP (ok_X5_entryOf n1 o8 i2' i3' (by first | assumption | omega) (by first | assumption | omega) (q5_2 ⟨by omega, by omega⟩) (by first | assumption | omega) (by first | assumption | omega) (by first | assumption | omega) (by first | assumption | omega)) (fun o9 q6 => ?_)
        obtain ⟨q6_0, q6_1⟩ := q6
        refine Go_chk (by unfold zout; omega) ?_
        refine Go_ite (fun c7 => ?_) (fun c7 => ?_)
        · exact Go_i (show (((30 : Nat) = 0 ∧ 0 ≤ (i2') ∧ (i2') < (n1 : Int) ∧ 0 ≤ (i3') ∧ (i3') < (n1 : Int)) ∨ ((30 : Nat) = 3 ∧ 0 ≤ (i2') ∧ (i2') < (n1 : Int) ∧ 0 ≤ (i3') ∧ (i3') < (n1 : Int) ∧ 0 ≤ (i4') ∧ (i4') ≤ 22) ∨ ((30 : Nat) = 30 ∧ 0 ≤ (i2') ∧ (i2') < (n1 : Int) ∧ 0 ≤ (i3') ∧ (i3') < (n1 : Int) ∧ -2147483648 ≤ (i4') ∧ (i4') ≤ 2147483647 ∧ 0 ≤ ((i5' + (1 : Int))) ∧ ((i5' + (1 : Int))) ≤ t_size)) ∧ (440 - ((i5' + (1 : Int)))).toNat < (440 - i5').toNat from ⟨Or.inr (Or.inr (⟨rfl, (by first | assumption | omega), (by first | assumption | omega), (by first | assumption | omega), (by first | assumption | omega), (by first | assumption | omega), (by first | assumption | omega), (by first | assumption | omega), (by first | assumption | omega)⟩)), by omega⟩)
        · refine Go_ite (fun c8 => ?_) (fun c8 => ?_)
          · exact Go_i (show (((30 : Nat) = 0 ∧ 0 ≤ (i2') ∧ (i2') < (n1 : Int) ∧ 0 ≤ (i3') ∧ (i3') < (n1 : Int)) ∨ ((30 : Nat) = 3 ∧ 0 ≤ (i2') ∧ (i2') < (n1 : Int) ∧ 0 ≤ (i3') ∧ (i3') < (n1 : Int) ∧ 0 ≤ (i4') ∧ (i4') ≤ 22) ∨ ((30 : Nat) = 30 ∧ 0 ≤ (i2') ∧ (i2') < (n1 : Int) ∧ 0 ≤ (i3') ∧ (i3') < (n1 : Int) ∧ -2147483648 ≤ (i4') ∧ (i4') ≤ 2147483647 ∧ 0 ≤ ((i5' + (1 : Int))) ∧ ((i5' + (1 : Int))) ≤ t_size)) ∧ (440 - ((i5' + (1 : Int)))).toNat < (440 - i5').toNat from ⟨Or.inr (Or.inr (⟨rfl, (by first | assumption | omega), (by first | assumption | omega), (by first | assumption | omega), (by first | assumption | omega), (by first | assumption | omega), (by first | assumption | omega), (by first | assumption | omega), (by first | assumption | omega)⟩)), by omega⟩)
          · refine Go_chk (by omega) ?_
            refine Go_chk (by unfold zout; omega) ?_
            have a9 := rget t_tally' (Int.toNat o9)
            have a10 := rget (zset t_tally' (Int.toNat o9) ((zget t_tally' (Int.toNat o9)) + (1 : Int))) (Int.toNat o9)
            have a11 := rmax i4' (zget (zset t_tally' (Int.toNat o9) ((zget t_tally' (Int.toNat o9)) + (1 : Int))) (Int.toNat o9))
            exact Go_i (show (((30 : Nat) = 0 ∧ 0 ≤ (i2') ∧ (i2') < (n1 : Int) ∧ 0 ≤ (i3') ∧ (i3') < (n1 : Int)) ∨ ((30 : Nat) = 3 ∧ 0 ≤ (i2') ∧ (i2') < (n1 : Int) ∧ 0 ≤ (i3') ∧ (i3') < (n1 : Int) ∧ 0 ≤ ((zmax i4' (zget (zset t_tally' (Int.toNat o9) ((zget t_tally' (Int.toNat o9)) + (1 : Int))) (Int.toNat o9)))) ∧ ((zmax i4' (zget (zset t_tally' (Int.toNat o9) ((zget t_tally' (Int.toNat o9)) + (1 : Int))) (Int.toNat o9)))) ≤ 22) ∨ ((30 : Nat) = 30 ∧ 0 ≤ (i2') ∧ (i2') < (n1 : Int) ∧ 0 ≤ (i3') ∧ (i3') < (n1 : Int) ∧ -2147483648 ≤ ((zmax i4' (zget (zset t_tally' (Int.toNat o9) ((zget t_tally' (Int.toNat o9)) + (1 : Int))) (Int.toNat o9)))) ∧ ((zmax i4' (zget (zset t_tally' (Int.toNat o9) ((zget t_tally' (Int.toNat o9)) + (1 : Int))) (Int.toNat o9)))) ≤ 2147483647 ∧ 0 ≤ ((i5' + (1 : Int))) ∧ ((i5' + (1 : Int))) ≤ t_size)) ∧ (440 - ((i5' + (1 : Int)))).toNat < (440 - i5').toNat from ⟨Or.inr (Or.inr (⟨rfl, (by first | assumption | omega), (by first | assumption | omega), (by first | assumption | omega), (by first | assumption | omega), (by first | assumption | omega), (by first | assumption | omega), (by first | assumption | omega), (by first | assumption | omega)⟩)), by omega⟩)
  · exact (show ((0 : Nat) = 0 ∧ 0 ≤ i2 ∧ i2 < (n1 : Int) ∧ 0 ≤ i3 ∧ i3 < (n1 : Int)) ∨ ((0 : Nat) = 3 ∧ 0 ≤ i2 ∧ i2 < (n1 : Int) ∧ 0 ≤ i3 ∧ i3 < (n1 : Int) ∧ 0 ≤ 0 ∧ 0 ≤ 22) ∨ ((0 : Nat) = 30 ∧ 0 ≤ i2 ∧ i2 < (n1 : Int) ∧ 0 ≤ i3 ∧ i3 < (n1 : Int) ∧ -2147483648 ≤ 0 ∧ 0 ≤ 2147483647 ∧ 0 ≤ 0 ∧ 0 ≤ t_size) from Or.inl (⟨rfl, (by first | assumption | omega), (by first | assumption | omega), (by first | assumption | omega), (by first | assumption | omega)⟩))
  · show 1000 < jfuel
    unfold jfuel
    omega
set_option maxRecDepth 20000 in
theorem ok_X3_bestQuestion (mk : Nat) (t_size : Int) (t_numbers : Nat) (t_tally : Nat) (n1 : Nat) (p0 : ¬ zno mk n1) (p1 : 0 ≤ t_size) (p2 : t_size ≤ 429) (p3 : (∀ k : Nat, (k : Int) < t_size → 0 ≤ zget t_numbers k ∧ zget t_numbers k < pg8 n1)) : Go (fun o => -2147483648 ≤ (o.1) ∧ (o.1) ≤ 2147483647) (zf_X3_bestQuestion mk t_size t_numbers t_tally n1) := by
  unfold zf_X3_bestQuestion
  have grn1 := zno_rng p0
  have g7n1 := rpg7 (n := n1) (by omega) (by omega)
  have g8n1 := rpg8 (n := n1) (by omega) (by omega)
  refine jok (fun (s : zS_X3_bestQuestion) => match s with | (lab, i2', i3', i4', t_tally') => (lab = 0) ∨ (lab = 10 ∧ -2147483648 ≤ i2' ∧ i2' ≤ 2147483647 ∧ -2147483648 ≤ i3' ∧ i3' ≤ 2147483647 ∧ 0 ≤ i4' ∧ i4' ≤ pg7 n1)) (fun (s : zS_X3_bestQuestion) => match s with | (lab, i2', i3', i4', t_tally') => if lab = 0 then 1000 else if lab = 10 then (440 - i4').toNat else 0) (fun (o : zO_X3_bestQuestion) => -2147483648 ≤ (o.1) ∧ (o.1) ≤ 2147483647) ?_ _ ?_ ?_
  · intro s hI
    obtain ⟨lab, i2', i3', i4', t_tally'⟩ := s
    have hI : (lab = 0) ∨ (lab = 10 ∧ -2147483648 ≤ i2' ∧ i2' ≤ 2147483647 ∧ -2147483648 ≤ i3' ∧ i3' ≤ 2147483647 ∧ 0 ≤ i4' ∧ i4' ≤ pg7 n1) := hI
    rcases hI with rfl | ⟨rfl, v10_0, v10_1, v10_2, v10_3, v10_4, v10_5⟩
    · show Go _ (zg_X3_bestQuestion_0 mk t_size t_numbers n1 i2' i3' i4' t_tally')
      unfold zg_X3_bestQuestion_0
      exact Go_i (show (((10 : Nat) = 0) ∨ ((10 : Nat) = 10 ∧ -2147483648 ≤ ((-1 : Int)) ∧ ((-1 : Int)) ≤ 2147483647 ∧ -2147483648 ≤ (t_size) ∧ (t_size) ≤ 2147483647 ∧ 0 ≤ ((0 : Int)) ∧ ((0 : Int)) ≤ pg7 n1)) ∧ (440 - ((0 : Int))).toNat < 1000 from ⟨Or.inr (⟨rfl, (by first | assumption | omega), (by first | assumption | omega), (by first | assumption | omega), (by first | assumption | omega), (by first | assumption | omega), (by first | assumption | omega)⟩), by omega⟩)
    · show Go _ (zg_X3_bestQuestion_10 mk t_size t_numbers n1 i2' i3' i4' t_tally')
      unfold zg_X3_bestQuestion_10
      refine Go_chk (by assumption) ?_
      refine Go_bindP (ok_X5_lineCount n1 (by first | assumption | omega) (by first | assumption | omega)) (fun o2 q1 => ?_)
      obtain ⟨q1_0, q1_1, q1_2⟩ := q1
      refine Go_chk (by unfold zout; omega) ?_
      refine Go_chk (by unfold zout; omega) ?_
      refine Go_ite (fun c2 => ?_) (fun c2 => ?_)
      · exact Go_i (show -2147483648 ≤ (i2') ∧ (i2') ≤ 2147483647 from ⟨(by first | assumption | omega), (by first | assumption | omega)⟩)
      · refine Go_bindP (ok_X5_lesserOf n1 i4' (by first | assumption | omega) (by first | assumption | omega) (by first | assumption | omega) (by first | assumption | omega)) (fun o5 q3 => ?_)
        obtain ⟨q3_0, q3_1, q3_2⟩ := q3
        refine Go_bindP (ok_X5_greaterOf n1 i4' (by first | assumption | omega) (by first | assumption | omega) (by first | assumption | omega) (by first | assumption | omega)) (fun o6 q4 => ?_)
        obtain ⟨q4_0, q4_1, q4_2⟩ := q4
        refine Go_bindP (ok_X3_mostAgreeing mk t_size t_numbers t_tally' n1 o5 o6 (by first | assumption | omega) (by first | assumption | omega) (by first | assumption | omega) (by first | assumption | exact all_w (by assumption) (by omega) | (refine all_setw ?_ (Int.le_refl _) ?_ ?_ (by omega) (by omega) <;> first | assumption | omega) | exact all_setw (by assumption) (by omega) (by omega) (by omega) (by omega) (by omega)) (by first | assumption | omega) (by first | assumption | omega) (by first | assumption | omega) (by first | assumption | omega)) (fun o7 q5 => ?_)
        obtain ⟨q5_0, q5_1⟩ := q5
        refine Go_chk (by unfold zout; omega) ?_
        refine Go_chk (by unfold zout; omega) ?_
        refine Go_ite (fun c6 => ?_) (fun c6 => ?_)
        · exact Go_i (show (((10 : Nat) = 0) ∨ ((10 : Nat) = 10 ∧ -2147483648 ≤ (i2') ∧ (i2') ≤ 2147483647 ∧ -2147483648 ≤ (i3') ∧ (i3') ≤ 2147483647 ∧ 0 ≤ ((i4' + (1 : Int))) ∧ ((i4' + (1 : Int))) ≤ pg7 n1)) ∧ (440 - ((i4' + (1 : Int)))).toNat < (440 - i4').toNat from ⟨Or.inr (⟨rfl, (by first | assumption | omega), (by first | assumption | omega), (by first | assumption | omega), (by first | assumption | omega), (by first | assumption | omega), (by first | assumption | omega)⟩), by omega⟩)
        · refine Go_bindP (ok_X5_pairOf n1 i4' (by first | assumption | omega) (by first | assumption | omega) (by first | assumption | omega) (by first | assumption | omega)) (fun o10 q7 => ?_)
          obtain ⟨q7_0, q7_1⟩ := q7
          exact Go_i (show (((10 : Nat) = 0) ∨ ((10 : Nat) = 10 ∧ -2147483648 ≤ (o10) ∧ (o10) ≤ 2147483647 ∧ -2147483648 ≤ ((o7.1)) ∧ ((o7.1)) ≤ 2147483647 ∧ 0 ≤ ((i4' + (1 : Int))) ∧ ((i4' + (1 : Int))) ≤ pg7 n1)) ∧ (440 - ((i4' + (1 : Int)))).toNat < (440 - i4').toNat from ⟨Or.inr (⟨rfl, (by first | assumption | omega), (by first | assumption | omega), (by first | assumption | omega), (by first | assumption | omega), (by first | assumption | omega), (by first | assumption | omega)⟩), by omega⟩)
  · exact (show ((0 : Nat) = 0) ∨ ((0 : Nat) = 10 ∧ -2147483648 ≤ 0 ∧ 0 ≤ 2147483647 ∧ -2147483648 ≤ 0 ∧ 0 ≤ 2147483647 ∧ 0 ≤ 0 ∧ 0 ≤ pg7 n1) from Or.inl (rfl))
  · show 1000 < jfuel
    unfold jfuel
    omega
end

section
set_option maxRecDepth 20000 in
theorem ok_X2_size (t_size : Int)  : Go (fun o => (o) = t_size) (zf_X2_size t_size) := by
  unfold zf_X2_size
  exact Go_i (show (t_size) = t_size from (by first | assumption | omega))
set_option maxRecDepth 20000 in
theorem ok_X2_hasPlace (t_size : Int) (i1 : Int) (p0 : 1 ≤ t_size) (p1 : t_size ≤ 10) (p2 : -2147483648 ≤ i1) (p3 : i1 ≤ 2147483647) : Go (fun o => ((o) = true → 0 ≤ i1 ∧ i1 < t_size) ∧ ((o) = false → ¬ (0 ≤ i1 ∧ i1 < t_size))) (zf_X2_hasPlace t_size i1) := by
  unfold zf_X2_hasPlace
  refine Go_chk (by unfold zout; omega) ?_
  refine Go_ite (fun c1 => ?_) (fun c1 => ?_)
  · exact Go_i (show ((false) = true → 0 ≤ i1 ∧ i1 < t_size) ∧ ((false) = false → ¬ (0 ≤ i1 ∧ i1 < t_size)) from ⟨(by intro h; first | exact True.intro | omega | (exact absurd h (by decide))), (by intro h; first | exact True.intro | omega | (exact absurd h (by decide)))⟩)
  · refine Go_chk (by unfold zout; omega) ?_
    refine Go_ite (fun c2 => ?_) (fun c2 => ?_)
    · exact Go_i (show ((false) = true → 0 ≤ i1 ∧ i1 < t_size) ∧ ((false) = false → ¬ (0 ≤ i1 ∧ i1 < t_size)) from ⟨(by intro h; first | exact True.intro | omega | (exact absurd h (by decide))), (by intro h; first | exact True.intro | omega | (exact absurd h (by decide)))⟩)
    · exact Go_i (show ((true) = true → 0 ≤ i1 ∧ i1 < t_size) ∧ ((true) = false → ¬ (0 ≤ i1 ∧ i1 < t_size)) from ⟨(by intro h; first | exact True.intro | omega | (exact absurd h (by decide))), (by intro h; first | exact True.intro | omega | (exact absurd h (by decide)))⟩)
set_option maxRecDepth 20000 in
theorem ok_X2_accepts (q1_c : Nat) (i2 : Int) (p0 : -2147483648 ≤ i2) (p1 : i2 ≤ 2147483647) : Go (fun o => ((o) = true → 1 ≤ i2 ∧ i2 ≤ 10 ∧ (∀ k : Nat, (k : Int) < i2 → 0 ≤ zget q1_c k ∧ zget q1_c k ≤ 20)) ∧ ((o) = false → True)) (zf_X2_accepts q1_c i2) := by
  unfold zf_X2_accepts
  refine jok (fun (s : zS_X2_accepts) => match s with | (lab, i2', i3') => (lab = 0 ∧ -2147483648 ≤ i2' ∧ i2' ≤ 2147483647 ∧ i2' = i2) ∨ (lab = 21 ∧ 1 ≤ i2' ∧ i2' ≤ 10 ∧ i2' = i2 ∧ (0 ≤ i3' ∧ i3' ≤ i2') ∧ (∀ k : Nat, (k : Int) < i3' → 0 ≤ zget q1_c k ∧ zget q1_c k ≤ 20))) (fun (s : zS_X2_accepts) => match s with | (lab, i2', i3') => if lab = 0 then 30 else if lab = 21 then (20 - i3').toNat else 0) (fun (o : zO_X2_accepts) => ((o) = true → 1 ≤ i2 ∧ i2 ≤ 10 ∧ (∀ k : Nat, (k : Int) < i2 → 0 ≤ zget q1_c k ∧ zget q1_c k ≤ 20)) ∧ ((o) = false → True)) ?_ _ ?_ ?_
  · intro s hI
    obtain ⟨lab, i2', i3'⟩ := s
    have hI : (lab = 0 ∧ -2147483648 ≤ i2' ∧ i2' ≤ 2147483647 ∧ i2' = i2) ∨ (lab = 21 ∧ 1 ≤ i2' ∧ i2' ≤ 10 ∧ i2' = i2 ∧ (0 ≤ i3' ∧ i3' ≤ i2') ∧ (∀ k : Nat, (k : Int) < i3' → 0 ≤ zget q1_c k ∧ zget q1_c k ≤ 20)) := hI
    rcases hI with ⟨rfl, v0_0, v0_1, v0_2⟩ | ⟨rfl, v21_0, v21_1, v21_2, v21_3, v21_4⟩
    · show Go _ (zg_X2_accepts_0 q1_c i2' i3')
      unfold zg_X2_accepts_0
      refine Go_chk (by unfold zout; omega) ?_
      refine Go_ite (fun c1 => ?_) (fun c1 => ?_)
      · exact Go_i (show ((false) = true → 1 ≤ i2 ∧ i2 ≤ 10 ∧ (∀ k : Nat, (k : Int) < i2 → 0 ≤ zget q1_c k ∧ zget q1_c k ≤ 20)) ∧ ((false) = false → True) from ⟨(by intro h; first | (exact absurd h (by decide)) | exact ⟨by omega, by omega, fun k hk => by have e := v21_4 k (by omega); omega⟩), (by intro h; exact True.intro)⟩)
      · refine Go_ite (fun c2 => ?_) (fun c2 => ?_)
        · exact Go_i (show ((false) = true → 1 ≤ i2 ∧ i2 ≤ 10 ∧ (∀ k : Nat, (k : Int) < i2 → 0 ≤ zget q1_c k ∧ zget q1_c k ≤ 20)) ∧ ((false) = false → True) from ⟨(by intro h; first | (exact absurd h (by decide)) | exact ⟨by omega, by omega, fun k hk => by have e := v21_4 k (by omega); omega⟩), (by intro h; exact True.intro)⟩)
        · refine Go_ite (fun c3 => ?_) (fun c3 => ?_)
          · exact Go_i (show (((21 : Nat) = 0 ∧ -2147483648 ≤ (i2') ∧ (i2') ≤ 2147483647 ∧ (i2') = i2) ∨ ((21 : Nat) = 21 ∧ 1 ≤ (i2') ∧ (i2') ≤ 10 ∧ (i2') = i2 ∧ (0 ≤ ((0 : Int)) ∧ ((0 : Int)) ≤ (i2')) ∧ (∀ k : Nat, (k : Int) < ((0 : Int)) → 0 ≤ zget q1_c k ∧ zget q1_c k ≤ 20))) ∧ (20 - ((0 : Int))).toNat < 30 from ⟨Or.inr (⟨rfl, (by first | assumption | omega), (by first | assumption | omega), (by first | assumption | omega), (by first | assumption | omega), (by first | (intro k hk; omega) | exact all_next v21_4 (by omega) (by omega) (by omega))⟩), by omega⟩)
          · exact Go_i (show ((false) = true → 1 ≤ i2 ∧ i2 ≤ 10 ∧ (∀ k : Nat, (k : Int) < i2 → 0 ≤ zget q1_c k ∧ zget q1_c k ≤ 20)) ∧ ((false) = false → True) from ⟨(by intro h; first | (exact absurd h (by decide)) | exact ⟨by omega, by omega, fun k hk => by have e := v21_4 k (by omega); omega⟩), (by intro h; exact True.intro)⟩)
    · show Go _ (zg_X2_accepts_21 q1_c i2' i3')
      unfold zg_X2_accepts_21
      refine Go_chk (by unfold zout; omega) ?_
      refine Go_chk (by unfold zout; omega) ?_
      refine Go_ite (fun c4 => ?_) (fun c4 => ?_)
      · exact Go_i (show ((true) = true → 1 ≤ i2 ∧ i2 ≤ 10 ∧ (∀ k : Nat, (k : Int) < i2 → 0 ≤ zget q1_c k ∧ zget q1_c k ≤ 20)) ∧ ((true) = false → True) from ⟨(by intro h; first | (exact absurd h (by decide)) | exact ⟨by omega, by omega, fun k hk => by have e := v21_4 k (by omega); omega⟩), (by intro h; exact True.intro)⟩)
      · refine Go_chk (by omega) ?_
        have a5 := rget q1_c (Int.toNat i3')
        refine Go_ite (fun c6 => ?_) (fun c6 => ?_)
        · exact Go_i (show ((false) = true → 1 ≤ i2 ∧ i2 ≤ 10 ∧ (∀ k : Nat, (k : Int) < i2 → 0 ≤ zget q1_c k ∧ zget q1_c k ≤ 20)) ∧ ((false) = false → True) from ⟨(by intro h; first | (exact absurd h (by decide)) | exact ⟨by omega, by omega, fun k hk => by have e := v21_4 k (by omega); omega⟩), (by intro h; exact True.intro)⟩)
        · refine Go_ite (fun c7 => ?_) (fun c7 => ?_)
          · exact Go_i (show (((21 : Nat) = 0 ∧ -2147483648 ≤ (i2') ∧ (i2') ≤ 2147483647 ∧ (i2') = i2) ∨ ((21 : Nat) = 21 ∧ 1 ≤ (i2') ∧ (i2') ≤ 10 ∧ (i2') = i2 ∧ (0 ≤ ((i3' + (1 : Int))) ∧ ((i3' + (1 : Int))) ≤ (i2')) ∧ (∀ k : Nat, (k : Int) < ((i3' + (1 : Int))) → 0 ≤ zget q1_c k ∧ zget q1_c k ≤ 20))) ∧ (20 - ((i3' + (1 : Int)))).toNat < (20 - i3').toNat from ⟨Or.inr (⟨rfl, (by first | assumption | omega), (by first | assumption | omega), (by first | assumption | omega), (by first | assumption | omega), (by first | (intro k hk; omega) | exact all_next v21_4 (by omega) (by omega) (by omega))⟩), by omega⟩)
          · exact Go_i (show ((false) = true → 1 ≤ i2 ∧ i2 ≤ 10 ∧ (∀ k : Nat, (k : Int) < i2 → 0 ≤ zget q1_c k ∧ zget q1_c k ≤ 20)) ∧ ((false) = false → True) from ⟨(by intro h; first | (exact absurd h (by decide)) | exact ⟨by omega, by omega, fun k hk => by have e := v21_4 k (by omega); omega⟩), (by intro h; exact True.intro)⟩)
  · exact (show ((0 : Nat) = 0 ∧ -2147483648 ≤ i2 ∧ i2 ≤ 2147483647 ∧ i2 = i2) ∨ ((0 : Nat) = 21 ∧ 1 ≤ i2 ∧ i2 ≤ 10 ∧ i2 = i2 ∧ (0 ≤ 0 ∧ 0 ≤ i2) ∧ (∀ k : Nat, (k : Int) < 0 → 0 ≤ zget q1_c k ∧ zget q1_c k ≤ 20)) from Or.inl (⟨rfl, (by first | assumption | omega), (by first | assumption | omega), (by first | assumption | omega)⟩))
  · show 30 < jfuel
    unfold jfuel
    omega
set_option maxRecDepth 20000 in
theorem ok_X2_become (t_size : Int) (t_numbers : Nat) (q1_c : Nat) (i2 : Int) (p0 : 1 ≤ i2) (p1 : i2 ≤ 10) (p2 : (∀ k : Nat, (k : Int) < i2 → 0 ≤ zget q1_c k ∧ zget q1_c k ≤ 20)) (p3 : (∀ k : Nat, k < 10 → 0 ≤ zget t_numbers k ∧ zget t_numbers k ≤ 20)) : Go (fun o => (o.1) = i2 ∧ (o.2.1) = i2 ∧ (∀ k : Nat, k < 10 → 0 ≤ zget (o.2.2) k ∧ zget (o.2.2) k ≤ 20)) (zf_X2_become t_size t_numbers q1_c i2) := by
  unfold zf_X2_become
  refine jok (fun (s : zS_X2_become) => match s with | (lab, i2', i3', t_size', t_numbers') => (lab = 0 ∧ i2' = i2 ∧ (∀ k : Nat, k < 10 → 0 ≤ zget t_numbers' k ∧ zget t_numbers' k ≤ 20)) ∨ (lab = 12 ∧ t_size' = i2 ∧ 0 ≤ i3' ∧ i3' ≤ i2 ∧ (∀ k : Nat, k < 10 → 0 ≤ zget t_numbers' k ∧ zget t_numbers' k ≤ 20))) (fun (s : zS_X2_become) => match s with | (lab, i2', i3', t_size', t_numbers') => if lab = 0 then 30 else if lab = 12 then (20 - i3').toNat else 0) (fun (o : zO_X2_become) => (o.1) = i2 ∧ (o.2.1) = i2 ∧ (∀ k : Nat, k < 10 → 0 ≤ zget (o.2.2) k ∧ zget (o.2.2) k ≤ 20)) ?_ _ ?_ ?_
  · intro s hI
    obtain ⟨lab, i2', i3', t_size', t_numbers'⟩ := s
    have hI : (lab = 0 ∧ i2' = i2 ∧ (∀ k : Nat, k < 10 → 0 ≤ zget t_numbers' k ∧ zget t_numbers' k ≤ 20)) ∨ (lab = 12 ∧ t_size' = i2 ∧ 0 ≤ i3' ∧ i3' ≤ i2 ∧ (∀ k : Nat, k < 10 → 0 ≤ zget t_numbers' k ∧ zget t_numbers' k ≤ 20)) := hI
    rcases hI with ⟨rfl, v0_0, v0_1⟩ | ⟨rfl, v12_0, v12_1, v12_2, v12_3⟩
    · show Go _ (zg_X2_become_0 q1_c i2' i3' t_size' t_numbers')
      unfold zg_X2_become_0
      refine Go_chk (by unfold zout; omega) ?_
      have a1 := rmin i2' (10 : Int)
      exact Go_i (show (((12 : Nat) = 0 ∧ (i2') = i2 ∧ (∀ k : Nat, k < 10 → 0 ≤ zget (t_numbers') k ∧ zget (t_numbers') k ≤ 20)) ∨ ((12 : Nat) = 12 ∧ ((zmin i2' (10 : Int))) = i2 ∧ 0 ≤ ((0 : Int)) ∧ ((0 : Int)) ≤ i2 ∧ (∀ k : Nat, k < 10 → 0 ≤ zget (t_numbers') k ∧ zget (t_numbers') k ≤ 20))) ∧ (20 - ((0 : Int))).toNat < 30 from ⟨Or.inr (⟨rfl, (by first | assumption | omega), (by first | assumption | omega), (by first | assumption | omega), (by first | assumption | exact all_w (by assumption) (by omega) | (refine all_setw ?_ (Int.le_refl _) ?_ ?_ (by omega) (by omega) <;> first | assumption | omega) | exact all_setw (by assumption) (by omega) (by omega) (by omega) (by omega) (by omega))⟩), by omega⟩)
    · show Go _ (zg_X2_become_12 q1_c i2' i3' t_size' t_numbers')
      unfold zg_X2_become_12
      refine Go_chk (by unfold zout; omega) ?_
      refine Go_chk (by unfold zout; omega) ?_
      refine Go_ite (fun c2 => ?_) (fun c2 => ?_)
      · exact Go_i (show (t_size') = i2 ∧ (t_size') = i2 ∧ (∀ k : Nat, k < 10 → 0 ≤ zget (t_numbers') k ∧ zget (t_numbers') k ≤ 20) from ⟨(by first | assumption | omega), (by first | assumption | omega), (by first | assumption | exact all_w (by assumption) (by omega) | (refine all_setw ?_ (Int.le_refl _) ?_ ?_ (by omega) (by omega) <;> first | assumption | omega) | exact all_setw (by assumption) (by omega) (by omega) (by omega) (by omega) (by omega))⟩)
      · refine Go_ite (fun c3 => ?_) (fun c3 => ?_)
        · exact Go_i (show (t_size') = i2 ∧ (t_size') = i2 ∧ (∀ k : Nat, k < 10 → 0 ≤ zget (t_numbers') k ∧ zget (t_numbers') k ≤ 20) from ⟨(by first | assumption | omega), (by first | assumption | omega), (by first | assumption | exact all_w (by assumption) (by omega) | (refine all_setw ?_ (Int.le_refl _) ?_ ?_ (by omega) (by omega) <;> first | assumption | omega) | exact all_setw (by assumption) (by omega) (by omega) (by omega) (by omega) (by omega))⟩)
        · refine Go_chk (by omega) ?_
          have a4 := rget q1_c (Int.toNat i3')
          have a5 := p2 (Int.toNat i3') (by omega)
          exact Go_i (show (((12 : Nat) = 0 ∧ (0) = i2 ∧ (∀ k : Nat, k < 10 → 0 ≤ zget ((zset t_numbers' (Int.toNat i3') (zget q1_c (Int.toNat i3')))) k ∧ zget ((zset t_numbers' (Int.toNat i3') (zget q1_c (Int.toNat i3')))) k ≤ 20)) ∨ ((12 : Nat) = 12 ∧ (t_size') = i2 ∧ 0 ≤ ((i3' + (1 : Int))) ∧ ((i3' + (1 : Int))) ≤ i2 ∧ (∀ k : Nat, k < 10 → 0 ≤ zget ((zset t_numbers' (Int.toNat i3') (zget q1_c (Int.toNat i3')))) k ∧ zget ((zset t_numbers' (Int.toNat i3') (zget q1_c (Int.toNat i3')))) k ≤ 20))) ∧ (20 - ((i3' + (1 : Int)))).toNat < (20 - i3').toNat from ⟨Or.inr (⟨rfl, (by first | assumption | omega), (by first | assumption | omega), (by first | assumption | omega), (by first | assumption | exact all_w (by assumption) (by omega) | (refine all_setw ?_ (Int.le_refl _) ?_ ?_ (by omega) (by omega) <;> first | assumption | omega) | exact all_setw (by assumption) (by omega) (by omega) (by omega) (by omega) (by omega))⟩), by omega⟩)
  · exact (show ((0 : Nat) = 0 ∧ i2 = i2 ∧ (∀ k : Nat, k < 10 → 0 ≤ zget t_numbers k ∧ zget t_numbers k ≤ 20)) ∨ ((0 : Nat) = 12 ∧ t_size = i2 ∧ 0 ≤ 0 ∧ 0 ≤ i2 ∧ (∀ k : Nat, k < 10 → 0 ≤ zget t_numbers k ∧ zget t_numbers k ≤ 20)) from Or.inl (⟨rfl, (by first | assumption | omega), (by first | assumption | exact all_w (by assumption) (by omega) | (refine all_setw ?_ (Int.le_refl _) ?_ ?_ (by omega) (by omega) <;> first | assumption | omega) | exact all_setw (by assumption) (by omega) (by omega) (by omega) (by omega) (by omega))⟩))
  · show 30 < jfuel
    unfold jfuel
    omega
set_option maxRecDepth 20000 in
theorem ok_X2_wrapped (t_size : Int) (i1 : Int) (p0 : 1 ≤ t_size) (p1 : t_size ≤ 10) (p2 : -2147483648 ≤ i1) (p3 : i1 ≤ 2147483647) : Go (fun o => 0 ≤ (o) ∧ (o) < t_size ∧ ((0 ≤ i1 ∧ i1 < t_size) → (o) = i1) ∧ (i1 = t_size → (o) = 0) ∧ (i1 = -1 → (o) = t_size - 1)) (zf_X2_wrapped t_size i1) := by
  unfold zf_X2_wrapped
  refine Go_chk (by unfold zout; omega) ?_
  refine Go_ite (fun c1 => ?_) (fun c1 => ?_)
  · exact Go_i (show 0 ≤ ((0 : Int)) ∧ ((0 : Int)) < t_size ∧ ((0 ≤ i1 ∧ i1 < t_size) → ((0 : Int)) = i1) ∧ (i1 = t_size → ((0 : Int)) = 0) ∧ (i1 = -1 → ((0 : Int)) = t_size - 1) from ⟨(by first | assumption | omega), (by first | assumption | omega), (by intro h; first | exact True.intro | omega | (exact absurd h (by decide))), (by intro h; first | exact True.intro | omega | (exact absurd h (by decide))), (by intro h; first | exact True.intro | omega | (exact absurd h (by decide)))⟩)
  · refine Go_bindP (ok_J9_floorMod_7cf53 i1 t_size (by first | assumption | omega) (by first | assumption | omega) (by first | assumption | omega) (by first | assumption | omega)) (fun o2 q2 => ?_)
    obtain ⟨q2_0, q2_1, q2_2, q2_3, q2_4⟩ := q2
    exact Go_i (show 0 ≤ (o2) ∧ (o2) < t_size ∧ ((0 ≤ i1 ∧ i1 < t_size) → (o2) = i1) ∧ (i1 = t_size → (o2) = 0) ∧ (i1 = -1 → (o2) = t_size - 1) from ⟨(by first | assumption | omega), (by first | assumption | omega), (by intro h; first | exact True.intro | omega | (exact absurd h (by decide))), (by intro h; first | exact True.intro | omega | (exact absurd h (by decide))), (by intro h; first | exact True.intro | omega | (exact absurd h (by decide)))⟩)
set_option maxRecDepth 20000 in
theorem ok_X2_at (t_size : Int) (t_numbers : Nat) (i1 : Int) (p0 : 1 ≤ t_size) (p1 : t_size ≤ 10) (p2 : (∀ k : Nat, k < 10 → 0 ≤ zget t_numbers k ∧ zget t_numbers k ≤ 20)) (p3 : -2147483648 ≤ i1) (p4 : i1 ≤ 2147483647) : Go (fun o => 0 ≤ (o) ∧ (o) ≤ 20 ∧ ((0 ≤ i1 ∧ i1 < t_size) → (o) = zget t_numbers (Int.toNat i1)) ∧ (i1 = t_size → (o) = zget t_numbers 0) ∧ (i1 = -1 → (o) = zget t_numbers (Int.toNat (t_size - 1)))) (zf_X2_at t_size t_numbers i1) := by
  unfold zf_X2_at
  refine Go_bindP (ok_X2_wrapped t_size i1 (by first | assumption | omega) (by first | assumption | omega) (by first | assumption | omega) (by first | assumption | omega)) (fun o1 q1 => ?_)
  obtain ⟨q1_0, q1_1, q1_2, q1_3, q1_4⟩ := q1
  refine Go_chk (by omega) ?_
  have a2 := rget t_numbers (Int.toNat o1)
  have a3 := p2 (Int.toNat o1) (by omega)
  exact Go_i (show 0 ≤ ((zget t_numbers (Int.toNat o1))) ∧ ((zget t_numbers (Int.toNat o1))) ≤ 20 ∧ ((0 ≤ i1 ∧ i1 < t_size) → ((zget t_numbers (Int.toNat o1))) = zget t_numbers (Int.toNat i1)) ∧ (i1 = t_size → ((zget t_numbers (Int.toNat o1))) = zget t_numbers 0) ∧ (i1 = -1 → ((zget t_numbers (Int.toNat o1))) = zget t_numbers (Int.toNat (t_size - 1))) from ⟨(by first | assumption | omega), (by first | assumption | omega), (by intro h; first | rw [show o1 = i1 by omega] | rw [show Int.toNat o1 = 0 by omega] | rw [show o1 = t_size - 1 by omega]), (by intro h; first | rw [show o1 = i1 by omega] | rw [show Int.toNat o1 = 0 by omega] | rw [show o1 = t_size - 1 by omega]), (by intro h; first | rw [show o1 = i1 by omega] | rw [show Int.toNat o1 = 0 by omega] | rw [show o1 = t_size - 1 by omega])⟩)
set_option maxRecDepth 20000 in
theorem ok_X2_entryAt (t_size : Int) (t_numbers : Nat) (i1 : Int) (i2 : Int) (p0 : 1 ≤ t_size) (p1 : t_size ≤ 10) (p2 : (∀ k : Nat, k < 10 → 0 ≤ zget t_numbers k ∧ zget t_numbers k ≤ 20)) (p3 : 0 ≤ i1) (p4 : i1 ≤ 20) (p5 : -2147483648 ≤ i2) (p6 : i2 ≤ 2147483647) : Go (fun o => -154472377739119461 ≤ (o) ∧ (o) ≤ 154472377739119461) (zf_X2_entryAt t_size t_numbers i1 i2) := by
  unfold zf_X2_entryAt
  refine jok (fun (s : zS_X2_entryAt) => match s with | (lab, i1', i2', i3', i5', i7') => (lab = 0 ∧ 0 ≤ i1' ∧ i1' ≤ 20 ∧ -2147483648 ≤ i2' ∧ i2' ≤ 2147483647) ∨ (lab = 14 ∧ 0 ≤ i1' ∧ i1' ≤ 20 ∧ -2147483648 ≤ i2' ∧ i2' ≤ 2147483647 ∧ 1 ≤ i7' ∧ i7' ≤ 12 ∧ -(eL i7') ≤ i5' ∧ i5' ≤ eL i7' ∧ -(eL i7') ≤ i3' ∧ i3' ≤ eL i7' ∧ (1 ≤ eL i7' ∧ eL i7' ≤ 154472377739119461))) (fun (s : zS_X2_entryAt) => match s with | (lab, i1', i2', i3', i5', i7') => if lab = 0 then 30 else if lab = 14 then (20 - i7').toNat else 0) (fun (o : zO_X2_entryAt) => -154472377739119461 ≤ (o) ∧ (o) ≤ 154472377739119461) ?_ _ ?_ ?_
  · intro s hI
    obtain ⟨lab, i1', i2', i3', i5', i7'⟩ := s
    have hI : (lab = 0 ∧ 0 ≤ i1' ∧ i1' ≤ 20 ∧ -2147483648 ≤ i2' ∧ i2' ≤ 2147483647) ∨ (lab = 14 ∧ 0 ≤ i1' ∧ i1' ≤ 20 ∧ -2147483648 ≤ i2' ∧ i2' ≤ 2147483647 ∧ 1 ≤ i7' ∧ i7' ≤ 12 ∧ -(eL i7') ≤ i5' ∧ i5' ≤ eL i7' ∧ -(eL i7') ≤ i3' ∧ i3' ≤ eL i7' ∧ (1 ≤ eL i7' ∧ eL i7' ≤ 154472377739119461)) := hI
    rcases hI with ⟨rfl, v0_0, v0_1, v0_2, v0_3⟩ | ⟨rfl, v14_0, v14_1, v14_2, v14_3, v14_4, v14_5, v14_6, v14_7, v14_8, v14_9, v14_10⟩
    · show Go _ (zg_X2_entryAt_0 t_size t_numbers i1' i2' i3' i5' i7')
      unfold zg_X2_entryAt_0
      refine Go_chk (by unfold zout; omega) ?_
      refine Go_ite (fun c1 => ?_) (fun c1 => ?_)
      · exact Go_i (show (((14 : Nat) = 0 ∧ 0 ≤ (i1') ∧ (i1') ≤ 20 ∧ -2147483648 ≤ (i2') ∧ (i2') ≤ 2147483647) ∨ ((14 : Nat) = 14 ∧ 0 ≤ (i1') ∧ (i1') ≤ 20 ∧ -2147483648 ≤ (i2') ∧ (i2') ≤ 2147483647 ∧ 1 ≤ ((1 : Int)) ∧ ((1 : Int)) ≤ 12 ∧ -(eL ((1 : Int))) ≤ ((1 : Int)) ∧ ((1 : Int)) ≤ eL ((1 : Int)) ∧ -(eL ((1 : Int))) ≤ ((0 : Int)) ∧ ((0 : Int)) ≤ eL ((1 : Int)) ∧ (1 ≤ eL ((1 : Int)) ∧ eL ((1 : Int)) ≤ 154472377739119461))) ∧ (20 - ((1 : Int))).toNat < 30 from ⟨Or.inr (⟨rfl, (by first | assumption | omega), (by first | assumption | omega), (by first | assumption | omega), (by first | assumption | omega), (by first | assumption | omega), (by first | assumption | omega), (by have z1 := eL_b (t := 1) (by decide) (by decide); first | omega | decide), (by have z1 := eL_b (t := 1) (by decide) (by decide); first | omega | decide), (by have z1 := eL_b (t := 1) (by decide) (by decide); first | omega | decide), (by have z1 := eL_b (t := 1) (by decide) (by decide); first | omega | decide), (by exact eL_b (by omega) (by omega))⟩), by omega⟩)
      · exact Go_i (show -154472377739119461 ≤ ((0 : Int)) ∧ ((0 : Int)) ≤ 154472377739119461 from ⟨(by first | assumption | omega), (by first | assumption | omega)⟩)
    · show Go _ (zg_X2_entryAt_14 t_size t_numbers i1' i2' i3' i5' i7')
      unfold zg_X2_entryAt_14
      refine Go_chk (by unfold zout; omega) ?_
      refine Go_chk (by unfold zout; omega) ?_
      refine Go_ite (fun c2 => ?_) (fun c2 => ?_)
      · exact Go_i (show -154472377739119461 ≤ (i5') ∧ (i5') ≤ 154472377739119461 from ⟨(by first | assumption | omega), (by first | assumption | omega)⟩)
      · refine Go_ite (fun c3 => ?_) (fun c3 => ?_)
        · exact Go_i (show -154472377739119461 ≤ (i5') ∧ (i5') ≤ 154472377739119461 from ⟨(by first | assumption | omega), (by first | assumption | omega)⟩)
        · refine Go_bindP (ok_X2_at t_size t_numbers (i1' + i7') (by first | assumption | omega) (by first | assumption | omega) (by first | assumption | exact all_w (by assumption) (by omega) | (refine all_setw ?_ (Int.le_refl _) ?_ ?_ (by omega) (by omega) <;> first | assumption | omega) | exact all_setw (by assumption) (by omega) (by omega) (by omega) (by omega) (by omega)) (by first | assumption | omega) (by first | assumption | omega)) (fun o5 q4 => ?_)
          obtain ⟨q4_0, q4_1, q4_2, q4_3, q4_4⟩ := q4
          refine Go_chk (by unfold zout; omega) ?_
          have m1 := mulb (a := o5) (x := i5') (B := eL i7') (M := 20) (by omega) (by omega) (by omega) (by omega)
          have m2 := eL_s (t := i7') (by omega)
          exact Go_i (show (((14 : Nat) = 0 ∧ 0 ≤ (i1') ∧ (i1') ≤ 20 ∧ -2147483648 ≤ (i2') ∧ (i2') ≤ 2147483647) ∨ ((14 : Nat) = 14 ∧ 0 ≤ (i1') ∧ (i1') ≤ 20 ∧ -2147483648 ≤ (i2') ∧ (i2') ≤ 2147483647 ∧ 1 ≤ ((i7' + (1 : Int))) ∧ ((i7' + (1 : Int))) ≤ 12 ∧ -(eL ((i7' + (1 : Int)))) ≤ (((o5 * i5') - i3')) ∧ (((o5 * i5') - i3')) ≤ eL ((i7' + (1 : Int))) ∧ -(eL ((i7' + (1 : Int)))) ≤ (i5') ∧ (i5') ≤ eL ((i7' + (1 : Int))) ∧ (1 ≤ eL ((i7' + (1 : Int))) ∧ eL ((i7' + (1 : Int))) ≤ 154472377739119461))) ∧ (20 - ((i7' + (1 : Int)))).toNat < (20 - i7').toNat from ⟨Or.inr (⟨rfl, (by first | assumption | omega), (by first | assumption | omega), (by first | assumption | omega), (by first | assumption | omega), (by first | assumption | omega), (by first | assumption | omega), (by first | assumption | omega), (by first | assumption | omega), (by first | assumption | omega), (by first | assumption | omega), (by exact eL_b (by omega) (by omega))⟩), by omega⟩)
  · exact (show ((0 : Nat) = 0 ∧ 0 ≤ i1 ∧ i1 ≤ 20 ∧ -2147483648 ≤ i2 ∧ i2 ≤ 2147483647) ∨ ((0 : Nat) = 14 ∧ 0 ≤ i1 ∧ i1 ≤ 20 ∧ -2147483648 ≤ i2 ∧ i2 ≤ 2147483647 ∧ 1 ≤ 0 ∧ 0 ≤ 12 ∧ -(eL 0) ≤ 0 ∧ 0 ≤ eL 0 ∧ -(eL 0) ≤ 0 ∧ 0 ≤ eL 0 ∧ (1 ≤ eL 0 ∧ eL 0 ≤ 154472377739119461)) from Or.inl (⟨rfl, (by first | assumption | omega), (by first | assumption | omega), (by first | assumption | omega), (by first | assumption | omega)⟩))
  · show 30 < jfuel
    unfold jfuel
    omega
set_option maxRecDepth 20000 in
theorem ok_X2_breakPlace (t_size : Int) (t_numbers : Nat) (i1 : Int) (p0 : 1 ≤ t_size) (p1 : t_size ≤ 10) (p2 : (∀ k : Nat, k < 10 → 0 ≤ zget t_numbers k ∧ zget t_numbers k ≤ 20)) (p3 : -2147483648 ≤ i1) (p4 : i1 ≤ 2147483647) : Go (fun o => -1 ≤ (o) ∧ (o) < t_size) (zf_X2_breakPlace t_size t_numbers i1) := by
  unfold zf_X2_breakPlace
  refine jok (fun (s : zS_X2_breakPlace) => match s with | (lab, i1', i2') => (lab = 0 ∧ -2147483648 ≤ i1' ∧ i1' ≤ 2147483647) ∨ (lab = 2 ∧ -2147483648 ≤ i1' ∧ i1' ≤ 2147483647 ∧ 0 ≤ i2' ∧ i2' ≤ t_size)) (fun (s : zS_X2_breakPlace) => match s with | (lab, i1', i2') => if lab = 0 then 30 else if lab = 2 then (20 - i2').toNat else 0) (fun (o : zO_X2_breakPlace) => -1 ≤ (o) ∧ (o) < t_size) ?_ _ ?_ ?_
  · intro s hI
    obtain ⟨lab, i1', i2'⟩ := s
    have hI : (lab = 0 ∧ -2147483648 ≤ i1' ∧ i1' ≤ 2147483647) ∨ (lab = 2 ∧ -2147483648 ≤ i1' ∧ i1' ≤ 2147483647 ∧ 0 ≤ i2' ∧ i2' ≤ t_size) := hI
    rcases hI with ⟨rfl, v0_0, v0_1⟩ | ⟨rfl, v2_0, v2_1, v2_2, v2_3⟩
    · show Go _ (zg_X2_breakPlace_0 t_size t_numbers i1' i2')
      unfold zg_X2_breakPlace_0
      exact Go_i (show (((2 : Nat) = 0 ∧ -2147483648 ≤ (i1') ∧ (i1') ≤ 2147483647) ∨ ((2 : Nat) = 2 ∧ -2147483648 ≤ (i1') ∧ (i1') ≤ 2147483647 ∧ 0 ≤ ((0 : Int)) ∧ ((0 : Int)) ≤ t_size)) ∧ (20 - ((0 : Int))).toNat < 30 from ⟨Or.inr (⟨rfl, (by first | assumption | omega), (by first | assumption | omega), (by first | assumption | omega), (by first | assumption | omega)⟩), by omega⟩)
    · show Go _ (zg_X2_breakPlace_2 t_size t_numbers i1' i2')
      unfold zg_X2_breakPlace_2
      refine Go_chk (by unfold zout; omega) ?_
      refine Go_chk (by unfold zout; omega) ?_
      refine Go_ite (fun c1 => ?_) (fun c1 => ?_)
      · exact Go_i (show -1 ≤ ((-1 : Int)) ∧ ((-1 : Int)) < t_size from ⟨(by first | assumption | omega), (by first | assumption | omega)⟩)
      · refine Go_bindP (ok_X2_entryAt t_size t_numbers i2' i1' (by first | assumption | omega) (by first | assumption | omega) (by first | assumption | exact all_w (by assumption) (by omega) | (refine all_setw ?_ (Int.le_refl _) ?_ ?_ (by omega) (by omega) <;> first | assumption | omega) | exact all_setw (by assumption) (by omega) (by omega) (by omega) (by omega) (by omega)) (by first | assumption | omega) (by first | assumption | omega) (by first | assumption | omega) (by first | assumption | omega)) (fun o3 q2 => ?_)
        obtain ⟨q2_0, q2_1⟩ := q2
        refine Go_chk (by unfold zoutL; omega) ?_
        refine Go_ite (fun c3 => ?_) (fun c3 => ?_)
        · exact Go_i (show (((2 : Nat) = 0 ∧ -2147483648 ≤ (i1') ∧ (i1') ≤ 2147483647) ∨ ((2 : Nat) = 2 ∧ -2147483648 ≤ (i1') ∧ (i1') ≤ 2147483647 ∧ 0 ≤ ((i2' + (1 : Int))) ∧ ((i2' + (1 : Int))) ≤ t_size)) ∧ (20 - ((i2' + (1 : Int)))).toNat < (20 - i2').toNat from ⟨Or.inr (⟨rfl, (by first | assumption | omega), (by first | assumption | omega), (by first | assumption | omega), (by first | assumption | omega)⟩), by omega⟩)
        · exact Go_i (show -1 ≤ (i2') ∧ (i2') < t_size from ⟨(by first | assumption | omega), (by first | assumption | omega)⟩)
  · exact (show ((0 : Nat) = 0 ∧ -2147483648 ≤ i1 ∧ i1 ≤ 2147483647) ∨ ((0 : Nat) = 2 ∧ -2147483648 ≤ i1 ∧ i1 ≤ 2147483647 ∧ 0 ≤ 0 ∧ 0 ≤ t_size) from Or.inl (⟨rfl, (by first | assumption | omega), (by first | assumption | omega)⟩))
  · show 30 < jfuel
    unfold jfuel
    omega
set_option maxRecDepth 20000 in
theorem ok_X2_breakLength (t_size : Int) (t_numbers : Nat) (p0 : 1 ≤ t_size) (p1 : t_size ≤ 10) (p2 : (∀ k : Nat, k < 10 → 0 ≤ zget t_numbers k ∧ zget t_numbers k ≤ 20)) : Go (fun o => -1 ≤ (o) ∧ (o) ≤ 12) (zf_X2_breakLength t_size t_numbers) := by
  unfold zf_X2_breakLength
  refine jok (fun (s : zS_X2_breakLength) => match s with | (lab, i1') => (lab = 0) ∨ (lab = 2 ∧ 2 ≤ i1' ∧ i1' ≤ 13)) (fun (s : zS_X2_breakLength) => match s with | (lab, i1') => if lab = 0 then 30 else if lab = 2 then (20 - i1').toNat else 0) (fun (o : zO_X2_breakLength) => -1 ≤ (o) ∧ (o) ≤ 12) ?_ _ ?_ ?_
  · intro s hI
    obtain ⟨lab, i1'⟩ := s
    have hI : (lab = 0) ∨ (lab = 2 ∧ 2 ≤ i1' ∧ i1' ≤ 13) := hI
    rcases hI with rfl | ⟨rfl, v2_0, v2_1⟩
    · show Go _ (zg_X2_breakLength_0 t_size t_numbers i1')
      unfold zg_X2_breakLength_0
      exact Go_i (show (((2 : Nat) = 0) ∨ ((2 : Nat) = 2 ∧ 2 ≤ ((2 : Int)) ∧ ((2 : Int)) ≤ 13)) ∧ (20 - ((2 : Int))).toNat < 30 from ⟨Or.inr (⟨rfl, (by first | assumption | omega), (by first | assumption | omega)⟩), by omega⟩)
    · show Go _ (zg_X2_breakLength_2 t_size t_numbers i1')
      unfold zg_X2_breakLength_2
      refine Go_chk (by unfold zout; omega) ?_
      refine Go_ite (fun c1 => ?_) (fun c1 => ?_)
      · exact Go_i (show -1 ≤ ((-1 : Int)) ∧ ((-1 : Int)) ≤ 12 from ⟨(by first | assumption | omega), (by first | assumption | omega)⟩)
      · refine Go_bindP (ok_X2_breakPlace t_size t_numbers i1' (by first | assumption | omega) (by first | assumption | omega) (by first | assumption | exact all_w (by assumption) (by omega) | (refine all_setw ?_ (Int.le_refl _) ?_ ?_ (by omega) (by omega) <;> first | assumption | omega) | exact all_setw (by assumption) (by omega) (by omega) (by omega) (by omega) (by omega)) (by first | assumption | omega) (by first | assumption | omega)) (fun o2 q2 => ?_)
        obtain ⟨q2_0, q2_1⟩ := q2
        refine Go_chk (by unfold zout; omega) ?_
        refine Go_ite (fun c3 => ?_) (fun c3 => ?_)
        · exact Go_i (show (((2 : Nat) = 0) ∨ ((2 : Nat) = 2 ∧ 2 ≤ ((i1' + (1 : Int))) ∧ ((i1' + (1 : Int))) ≤ 13)) ∧ (20 - ((i1' + (1 : Int)))).toNat < (20 - i1').toNat from ⟨Or.inr (⟨rfl, (by first | assumption | omega), (by first | assumption | omega)⟩), by omega⟩)
        · exact Go_i (show -1 ≤ (i1') ∧ (i1') ≤ 12 from ⟨(by first | assumption | omega), (by first | assumption | omega)⟩)
  · exact (show ((0 : Nat) = 0) ∨ ((0 : Nat) = 2 ∧ 2 ≤ 0 ∧ 0 ≤ 13) from Or.inl (rfl))
  · show 30 < jfuel
    unfold jfuel
    omega
set_option maxRecDepth 20000 in
theorem ok_X2_allAre (t_size : Int) (t_numbers : Nat) (i1 : Int) (i2 : Int) (p0 : 1 ≤ t_size) (p1 : t_size ≤ 10) (p2 : (∀ k : Nat, k < 10 → 0 ≤ zget t_numbers k ∧ zget t_numbers k ≤ 20)) (p3 : -2147483648 ≤ i1) (p4 : i1 ≤ 2147483647) (p5 : -1 ≤ i2) (p6 : i2 ≤ 0) : Go (fun o => True) (zf_X2_allAre t_size t_numbers i1 i2) := by
  unfold zf_X2_allAre
  refine jok (fun (s : zS_X2_allAre) => match s with | (lab, i1', i2', i4') => (lab = 0 ∧ -2147483648 ≤ i1' ∧ i1' ≤ 2147483647 ∧ -1 ≤ i2' ∧ i2' ≤ 0) ∨ (lab = 3 ∧ -2147483648 ≤ i1' ∧ i1' ≤ 2147483647 ∧ -1 ≤ i2' ∧ i2' ≤ 0 ∧ 0 ≤ i4' ∧ i4' ≤ t_size)) (fun (s : zS_X2_allAre) => match s with | (lab, i1', i2', i4') => if lab = 0 then 30 else if lab = 3 then (20 - i4').toNat else 0) (fun (o : zO_X2_allAre) => True) ?_ _ ?_ ?_
  · intro s hI
    obtain ⟨lab, i1', i2', i4'⟩ := s
    have hI : (lab = 0 ∧ -2147483648 ≤ i1' ∧ i1' ≤ 2147483647 ∧ -1 ≤ i2' ∧ i2' ≤ 0) ∨ (lab = 3 ∧ -2147483648 ≤ i1' ∧ i1' ≤ 2147483647 ∧ -1 ≤ i2' ∧ i2' ≤ 0 ∧ 0 ≤ i4' ∧ i4' ≤ t_size) := hI
    rcases hI with ⟨rfl, v0_0, v0_1, v0_2, v0_3⟩ | ⟨rfl, v3_0, v3_1, v3_2, v3_3, v3_4, v3_5⟩
    · show Go _ (zg_X2_allAre_0 t_size t_numbers i1' i2' i4')
      unfold zg_X2_allAre_0
      exact Go_i (show (((3 : Nat) = 0 ∧ -2147483648 ≤ (i1') ∧ (i1') ≤ 2147483647 ∧ -1 ≤ (i2') ∧ (i2') ≤ 0) ∨ ((3 : Nat) = 3 ∧ -2147483648 ≤ (i1') ∧ (i1') ≤ 2147483647 ∧ -1 ≤ (i2') ∧ (i2') ≤ 0 ∧ 0 ≤ ((0 : Int)) ∧ ((0 : Int)) ≤ t_size)) ∧ (20 - ((0 : Int))).toNat < 30 from ⟨Or.inr (⟨rfl, (by first | assumption | omega), (by first | assumption | omega), (by first | assumption | omega), (by first | assumption | omega), (by first | assumption | omega), (by first | assumption | omega)⟩), by omega⟩)
    · show Go _ (zg_X2_allAre_3 t_size t_numbers i1' i2' i4')
      unfold zg_X2_allAre_3
      refine Go_chk (by unfold zout; omega) ?_
      refine Go_chk (by unfold zout; omega) ?_
      refine Go_ite (fun c1 => ?_) (fun c1 => ?_)
      · exact Go_i (show True from trivial)
      · refine Go_bindP (ok_X2_entryAt t_size t_numbers i4' i1' (by first | assumption | omega) (by first | assumption | omega) (by first | assumption | exact all_w (by assumption) (by omega) | (refine all_setw ?_ (Int.le_refl _) ?_ ?_ (by omega) (by omega) <;> first | assumption | omega) | exact all_setw (by assumption) (by omega) (by omega) (by omega) (by omega) (by omega)) (by first | assumption | omega) (by first | assumption | omega) (by first | assumption | omega) (by first | assumption | omega)) (fun o3 q2 => ?_)
        obtain ⟨q2_0, q2_1⟩ := q2
        refine Go_chk (by unfold zoutL; omega) ?_
        refine Go_chk (by unfold zoutL; omega) ?_
        refine Go_ite (fun c3 => ?_) (fun c3 => ?_)
        · exact Go_i (show (((3 : Nat) = 0 ∧ -2147483648 ≤ (i1') ∧ (i1') ≤ 2147483647 ∧ -1 ≤ (i2') ∧ (i2') ≤ 0) ∨ ((3 : Nat) = 3 ∧ -2147483648 ≤ (i1') ∧ (i1') ≤ 2147483647 ∧ -1 ≤ (i2') ∧ (i2') ≤ 0 ∧ 0 ≤ ((i4' + (1 : Int))) ∧ ((i4' + (1 : Int))) ≤ t_size)) ∧ (20 - ((i4' + (1 : Int)))).toNat < (20 - i4').toNat from ⟨Or.inr (⟨rfl, (by first | assumption | omega), (by first | assumption | omega), (by first | assumption | omega), (by first | assumption | omega), (by first | assumption | omega), (by first | assumption | omega)⟩), by omega⟩)
        · exact Go_i (show True from trivial)
  · exact (show ((0 : Nat) = 0 ∧ -2147483648 ≤ i1 ∧ i1 ≤ 2147483647 ∧ -1 ≤ i2 ∧ i2 ≤ 0) ∨ ((0 : Nat) = 3 ∧ -2147483648 ≤ i1 ∧ i1 ≤ 2147483647 ∧ -1 ≤ i2 ∧ i2 ≤ 0 ∧ 0 ≤ 0 ∧ 0 ≤ t_size) from Or.inl (⟨rfl, (by first | assumption | omega), (by first | assumption | omega), (by first | assumption | omega), (by first | assumption | omega)⟩))
  · show 30 < jfuel
    unfold jfuel
    omega
set_option maxRecDepth 20000 in
theorem ok_X2_comesBack (t_size : Int) (t_numbers : Nat) (i1 : Int) (p0 : 1 ≤ t_size) (p1 : t_size ≤ 10) (p2 : (∀ k : Nat, k < 10 → 0 ≤ zget t_numbers k ∧ zget t_numbers k ≤ 20)) (p3 : 0 ≤ i1) (p4 : i1 ≤ 12) : Go (fun o => True) (zf_X2_comesBack t_size t_numbers i1) := by
  unfold zf_X2_comesBack
  refine Go_bindP (ok_X2_allAre t_size t_numbers i1 (0 : Int) (by first | assumption | omega) (by first | assumption | omega) (by first | assumption | exact all_w (by assumption) (by omega) | (refine all_setw ?_ (Int.le_refl _) ?_ ?_ (by omega) (by omega) <;> first | assumption | omega) | exact all_setw (by assumption) (by omega) (by omega) (by omega) (by omega) (by omega)) (by first | assumption | omega) (by first | assumption | omega) (by first | assumption | omega) (by first | assumption | omega)) (fun o1 q1 => ?_)
  refine Go_ite (fun c2 => ?_) (fun c2 => ?_)
  · exact Go_i (show True from trivial)
  · refine Go_chk (by unfold zout; omega) ?_
    refine Go_ite (fun c3 => ?_) (fun c3 => ?_)
    · exact Go_i (show True from trivial)
    · refine Go_bindP (ok_X2_allAre t_size t_numbers (i1 + (1 : Int)) (-1 : Int) (by first | assumption | omega) (by first | assumption | omega) (by first | assumption | exact all_w (by assumption) (by omega) | (refine all_setw ?_ (Int.le_refl _) ?_ ?_ (by omega) (by omega) <;> first | assumption | omega) | exact all_setw (by assumption) (by omega) (by omega) (by omega) (by omega) (by omega)) (by first | assumption | omega) (by first | assumption | omega) (by first | assumption | omega) (by first | assumption | omega)) (fun o3 q4 => ?_)
      refine Go_ite (fun c5 => ?_) (fun c5 => ?_)
      · exact Go_i (show True from trivial)
      · exact Go_i (show True from trivial)
set_option maxRecDepth 20000 in
theorem ok_X2_growthOfRound (t_size : Int) (t_numbers : Nat) (p0 : 1 ≤ t_size) (p1 : t_size ≤ 10) (p2 : (∀ k : Nat, k < 10 → 0 ≤ zget t_numbers k ∧ zget t_numbers k ≤ 20)) : Go (fun o => True) (zf_X2_growthOfRound t_size t_numbers) := by
  unfold zf_X2_growthOfRound
  refine Go_bindP (ok_X2_entryAt t_size t_numbers (0 : Int) (t_size + (1 : Int)) (by first | assumption | omega) (by first | assumption | omega) (by first | assumption | exact all_w (by assumption) (by omega) | (refine all_setw ?_ (Int.le_refl _) ?_ ?_ (by omega) (by omega) <;> first | assumption | omega) | exact all_setw (by assumption) (by omega) (by omega) (by omega) (by omega) (by omega)) (by first | assumption | omega) (by first | assumption | omega) (by first | assumption | omega) (by first | assumption | omega)) (fun o1 q1 => ?_)
  obtain ⟨q1_0, q1_1⟩ := q1
  refine Go_bindP (ok_X2_entryAt t_size t_numbers (1 : Int) (t_size - (1 : Int)) (by first | assumption | omega) (by first | assumption | omega) (by first | assumption | exact all_w (by assumption) (by omega) | (refine all_setw ?_ (Int.le_refl _) ?_ ?_ (by omega) (by omega) <;> first | assumption | omega) | exact all_setw (by assumption) (by omega) (by omega) (by omega) (by omega) (by omega)) (by first | assumption | omega) (by first | assumption | omega) (by first | assumption | omega) (by first | assumption | omega)) (fun o2 q2 => ?_)
  obtain ⟨q2_0, q2_1⟩ := q2
  exact Go_i (show True from trivial)
set_option maxRecDepth 20000 in
theorem ok_X2_canGlue (t_size : Int) (t_numbers : Nat) (i1 : Int) (p0 : 1 ≤ t_size) (p1 : t_size ≤ 10) (p2 : (∀ k : Nat, k < 10 → 0 ≤ zget t_numbers k ∧ zget t_numbers k ≤ 20)) (p3 : 0 ≤ i1) (p4 : i1 < t_size) : Go (fun o => ((o) = true → t_size < 10 ∧ zget t_numbers (Int.toNat i1) ≤ 19 ∧ (t_size = 1 → zget t_numbers 0 ≤ 18) ∧ (i1 + 1 < t_size → zget t_numbers (Int.toNat (i1 + 1)) ≤ 19) ∧ (i1 + 1 = t_size → zget t_numbers 0 ≤ 19)) ∧ ((o) = false → True)) (zf_X2_canGlue t_size t_numbers i1) := by
  unfold zf_X2_canGlue
  refine Go_chk (by unfold zout; omega) ?_
  refine Go_ite (fun c1 => ?_) (fun c1 => ?_)
  · refine Go_ite (fun c2 => ?_) (fun c2 => ?_)
    · refine Go_bindP (ok_X2_at t_size t_numbers i1 (by first | assumption | omega) (by first | assumption | omega) (by first | assumption | exact all_w (by assumption) (by omega) | (refine all_setw ?_ (Int.le_refl _) ?_ ?_ (by omega) (by omega) <;> first | assumption | omega) | exact all_setw (by assumption) (by omega) (by omega) (by omega) (by omega) (by omega)) (by first | assumption | omega) (by first | assumption | omega)) (fun o8 q3 => ?_)
      obtain ⟨q3_0, q3_1, q3_2, q3_3, q3_4⟩ := q3
      refine Go_chk (by unfold zout; omega) ?_
      refine Go_ite (fun c4 => ?_) (fun c4 => ?_)
      · exact Go_i (show ((false) = true → t_size < 10 ∧ zget t_numbers (Int.toNat i1) ≤ 19 ∧ (t_size = 1 → zget t_numbers 0 ≤ 18) ∧ (i1 + 1 < t_size → zget t_numbers (Int.toNat (i1 + 1)) ≤ 19) ∧ (i1 + 1 = t_size → zget t_numbers 0 ≤ 19)) ∧ ((false) = false → True) from ⟨(by intro h; first | exact True.intro | (exact absurd h (by decide)) | (refine ⟨by omega, by omega, ?_, ?_, ?_⟩ <;> intro h2 <;> first | omega | (have e1 : i1 = 0 := by omega) <;> subst e1 <;> simp_all <;> omega)), (by intro h; first | exact True.intro | (exact absurd h (by decide)) | (refine ⟨by omega, by omega, ?_, ?_, ?_⟩ <;> intro h2 <;> first | omega | (have e1 : i1 = 0 := by omega) <;> subst e1 <;> simp_all <;> omega))⟩)
      · refine Go_bindP (ok_X2_at t_size t_numbers (i1 + (1 : Int)) (by first | assumption | omega) (by first | assumption | omega) (by first | assumption | exact all_w (by assumption) (by omega) | (refine all_setw ?_ (Int.le_refl _) ?_ ?_ (by omega) (by omega) <;> first | assumption | omega) | exact all_setw (by assumption) (by omega) (by omega) (by omega) (by omega) (by omega)) (by first | assumption | omega) (by first | assumption | omega)) (fun o10 q5 => ?_)
        obtain ⟨q5_0, q5_1, q5_2, q5_3, q5_4⟩ := q5
        refine Go_chk (by unfold zout; omega) ?_
        refine Go_ite (fun c6 => ?_) (fun c6 => ?_)
        · exact Go_i (show ((false) = true → t_size < 10 ∧ zget t_numbers (Int.toNat i1) ≤ 19 ∧ (t_size = 1 → zget t_numbers 0 ≤ 18) ∧ (i1 + 1 < t_size → zget t_numbers (Int.toNat (i1 + 1)) ≤ 19) ∧ (i1 + 1 = t_size → zget t_numbers 0 ≤ 19)) ∧ ((false) = false → True) from ⟨(by intro h; first | exact True.intro | (exact absurd h (by decide)) | (refine ⟨by omega, by omega, ?_, ?_, ?_⟩ <;> intro h2 <;> first | omega | (have e1 : i1 = 0 := by omega) <;> subst e1 <;> simp_all <;> omega)), (by intro h; first | exact True.intro | (exact absurd h (by decide)) | (refine ⟨by omega, by omega, ?_, ?_, ?_⟩ <;> intro h2 <;> first | omega | (have e1 : i1 = 0 := by omega) <;> subst e1 <;> simp_all <;> omega))⟩)
        · exact Go_i (show ((true) = true → t_size < 10 ∧ zget t_numbers (Int.toNat i1) ≤ 19 ∧ (t_size = 1 → zget t_numbers 0 ≤ 18) ∧ (i1 + 1 < t_size → zget t_numbers (Int.toNat (i1 + 1)) ≤ 19) ∧ (i1 + 1 = t_size → zget t_numbers 0 ≤ 19)) ∧ ((true) = false → True) from ⟨(by intro h; first | exact True.intro | (exact absurd h (by decide)) | (refine ⟨by omega, by omega, ?_, ?_, ?_⟩ <;> intro h2 <;> first | omega | (have e1 : i1 = 0 := by omega) <;> subst e1 <;> simp_all <;> omega)), (by intro h; first | exact True.intro | (exact absurd h (by decide)) | (refine ⟨by omega, by omega, ?_, ?_, ?_⟩ <;> intro h2 <;> first | omega | (have e1 : i1 = 0 := by omega) <;> subst e1 <;> simp_all <;> omega))⟩)
    · refine Go_bindP (ok_X2_at t_size t_numbers i1 (by first | assumption | omega) (by first | assumption | omega) (by first | assumption | exact all_w (by assumption) (by omega) | (refine all_setw ?_ (Int.le_refl _) ?_ ?_ (by omega) (by omega) <;> first | assumption | omega) | exact all_setw (by assumption) (by omega) (by omega) (by omega) (by omega) (by omega)) (by first | assumption | omega) (by first | assumption | omega)) (fun o2 q7 => ?_)
      obtain ⟨q7_0, q7_1, q7_2, q7_3, q7_4⟩ := q7
      refine Go_chk (by unfold zout; omega) ?_
      refine Go_ite (fun c8 => ?_) (fun c8 => ?_)
      · exact Go_i (show ((false) = true → t_size < 10 ∧ zget t_numbers (Int.toNat i1) ≤ 19 ∧ (t_size = 1 → zget t_numbers 0 ≤ 18) ∧ (i1 + 1 < t_size → zget t_numbers (Int.toNat (i1 + 1)) ≤ 19) ∧ (i1 + 1 = t_size → zget t_numbers 0 ≤ 19)) ∧ ((false) = false → True) from ⟨(by intro h; first | exact True.intro | (exact absurd h (by decide)) | (refine ⟨by omega, by omega, ?_, ?_, ?_⟩ <;> intro h2 <;> first | omega | (have e1 : i1 = 0 := by omega) <;> subst e1 <;> simp_all <;> omega)), (by intro h; first | exact True.intro | (exact absurd h (by decide)) | (refine ⟨by omega, by omega, ?_, ?_, ?_⟩ <;> intro h2 <;> first | omega | (have e1 : i1 = 0 := by omega) <;> subst e1 <;> simp_all <;> omega))⟩)
      · refine Go_bindP (ok_X2_at t_size t_numbers (i1 + (1 : Int)) (by first | assumption | omega) (by first | assumption | omega) (by first | assumption | exact all_w (by assumption) (by omega) | (refine all_setw ?_ (Int.le_refl _) ?_ ?_ (by omega) (by omega) <;> first | assumption | omega) | exact all_setw (by assumption) (by omega) (by omega) (by omega) (by omega) (by omega)) (by first | assumption | omega) (by first | assumption | omega)) (fun o4 q9 => ?_)
        obtain ⟨q9_0, q9_1, q9_2, q9_3, q9_4⟩ := q9
        refine Go_chk (by unfold zout; omega) ?_
        refine Go_ite (fun c10 => ?_) (fun c10 => ?_)
        · exact Go_i (show ((false) = true → t_size < 10 ∧ zget t_numbers (Int.toNat i1) ≤ 19 ∧ (t_size = 1 → zget t_numbers 0 ≤ 18) ∧ (i1 + 1 < t_size → zget t_numbers (Int.toNat (i1 + 1)) ≤ 19) ∧ (i1 + 1 = t_size → zget t_numbers 0 ≤ 19)) ∧ ((false) = false → True) from ⟨(by intro h; first | exact True.intro | (exact absurd h (by decide)) | (refine ⟨by omega, by omega, ?_, ?_, ?_⟩ <;> intro h2 <;> first | omega | (have e1 : i1 = 0 := by omega) <;> subst e1 <;> simp_all <;> omega)), (by intro h; first | exact True.intro | (exact absurd h (by decide)) | (refine ⟨by omega, by omega, ?_, ?_, ?_⟩ <;> intro h2 <;> first | omega | (have e1 : i1 = 0 := by omega) <;> subst e1 <;> simp_all <;> omega))⟩)
        · exact Go_i (show ((true) = true → t_size < 10 ∧ zget t_numbers (Int.toNat i1) ≤ 19 ∧ (t_size = 1 → zget t_numbers 0 ≤ 18) ∧ (i1 + 1 < t_size → zget t_numbers (Int.toNat (i1 + 1)) ≤ 19) ∧ (i1 + 1 = t_size → zget t_numbers 0 ≤ 19)) ∧ ((true) = false → True) from ⟨(by intro h; first | exact True.intro | (exact absurd h (by decide)) | (refine ⟨by omega, by omega, ?_, ?_, ?_⟩ <;> intro h2 <;> first | omega | (have e1 : i1 = 0 := by omega) <;> subst e1 <;> simp_all <;> omega)), (by intro h; first | exact True.intro | (exact absurd h (by decide)) | (refine ⟨by omega, by omega, ?_, ?_, ?_⟩ <;> intro h2 <;> first | omega | (have e1 : i1 = 0 := by omega) <;> subst e1 <;> simp_all <;> omega))⟩)
  · exact Go_i (show ((false) = true → t_size < 10 ∧ zget t_numbers (Int.toNat i1) ≤ 19 ∧ (t_size = 1 → zget t_numbers 0 ≤ 18) ∧ (i1 + 1 < t_size → zget t_numbers (Int.toNat (i1 + 1)) ≤ 19) ∧ (i1 + 1 = t_size → zget t_numbers 0 ≤ 19)) ∧ ((false) = false → True) from ⟨(by intro h; first | exact True.intro | (exact absurd h (by decide)) | (refine ⟨by omega, by omega, ?_, ?_, ?_⟩ <;> intro h2 <;> first | omega | (have e1 : i1 = 0 := by omega) <;> subst e1 <;> simp_all <;> omega)), (by intro h; first | exact True.intro | (exact absurd h (by decide)) | (refine ⟨by omega, by omega, ?_, ?_, ?_⟩ <;> intro h2 <;> first | omega | (have e1 : i1 = 0 := by omega) <;> subst e1 <;> simp_all <;> omega))⟩)
set_option maxRecDepth 20000 in
theorem ok_X2_glueBehind (t_size : Int) (t_numbers : Nat) (i1 : Int) (p0 : 1 ≤ t_size) (p1 : t_size ≤ 10) (p2 : (∀ k : Nat, k < 10 → 0 ≤ zget t_numbers k ∧ zget t_numbers k ≤ 20)) (p3 : -2147483648 ≤ i1) (p4 : i1 ≤ 2147483647) : Go (fun o => 1 ≤ (o.2.1) ∧ (o.2.1) ≤ 10 ∧ (∀ k : Nat, k < 10 → 0 ≤ zget (o.2.2) k ∧ zget (o.2.2) k ≤ 20) ∧ (o.1) = (o.2.1)) (zf_X2_glueBehind t_size t_numbers i1) := by
  unfold zf_X2_glueBehind
  refine jok (fun (s : zS_X2_glueBehind) => match s with | (lab, i1', i2', t_size', t_numbers') => (lab = 0 ∧ 1 ≤ t_size' ∧ t_size' ≤ 10 ∧ (∀ k : Nat, k < 10 → 0 ≤ zget t_numbers' k ∧ zget t_numbers' k ≤ 20) ∧ -2147483648 ≤ i1' ∧ i1' ≤ 2147483647) ∨ (lab = 52 ∧ 1 ≤ t_size' ∧ t_size' ≤ 9 ∧ (∀ k : Nat, k < 10 → 0 ≤ zget t_numbers' k ∧ zget t_numbers' k ≤ 20) ∧ 0 ≤ i1' ∧ i1' < t_size' ∧ i1' < i2' ∧ i2' ≤ t_size')) (fun (s : zS_X2_glueBehind) => match s with | (lab, i1', i2', t_size', t_numbers') => if lab = 0 then 50 else if lab = 52 then (i2').toNat else 0) (fun (o : zO_X2_glueBehind) => 1 ≤ (o.2.1) ∧ (o.2.1) ≤ 10 ∧ (∀ k : Nat, k < 10 → 0 ≤ zget (o.2.2) k ∧ zget (o.2.2) k ≤ 20) ∧ (o.1) = (o.2.1)) ?_ _ ?_ ?_
  · intro s hI
    obtain ⟨lab, i1', i2', t_size', t_numbers'⟩ := s
    have hI : (lab = 0 ∧ 1 ≤ t_size' ∧ t_size' ≤ 10 ∧ (∀ k : Nat, k < 10 → 0 ≤ zget t_numbers' k ∧ zget t_numbers' k ≤ 20) ∧ -2147483648 ≤ i1' ∧ i1' ≤ 2147483647) ∨ (lab = 52 ∧ 1 ≤ t_size' ∧ t_size' ≤ 9 ∧ (∀ k : Nat, k < 10 → 0 ≤ zget t_numbers' k ∧ zget t_numbers' k ≤ 20) ∧ 0 ≤ i1' ∧ i1' < t_size' ∧ i1' < i2' ∧ i2' ≤ t_size') := hI
    rcases hI with ⟨rfl, v0_0, v0_1, v0_2, v0_3, v0_4⟩ | ⟨rfl, v52_0, v52_1, v52_2, v52_3, v52_4, v52_5, v52_6⟩
    · show Go _ (zg_X2_glueBehind_0 i1' i2' t_size' t_numbers')
      unfold zg_X2_glueBehind_0
      refine Go_bindP (ok_X2_hasPlace t_size' i1' (by first | assumption | omega) (by first | assumption | omega) (by first | assumption | omega) (by first | assumption | omega)) (fun o1 q1 => ?_)
      obtain ⟨q1_0, q1_1⟩ := q1
      refine Go_ite (fun c2 => ?_) (fun c2 => ?_)
      · have dc2 := q1_1 c2
        exact Go_i (show 1 ≤ (t_size') ∧ (t_size') ≤ 10 ∧ (∀ k : Nat, k < 10 → 0 ≤ zget (t_numbers') k ∧ zget (t_numbers') k ≤ 20) ∧ (t_size') = (t_size') from ⟨(by first | assumption | omega), (by first | assumption | omega), (by first | assumption | exact all_w (by assumption) (by omega) | (refine all_setw ?_ (Int.le_refl _) ?_ ?_ (by omega) (by omega) <;> first | assumption | omega) | exact all_setw (by assumption) (by omega) (by omega) (by omega) (by omega) (by omega)), (by first | assumption | omega)⟩)
      · have dc2 := q1_0 (bnf c2)
        refine Go_bindP (ok_X2_canGlue t_size' t_numbers' i1' (by first | assumption | omega) (by first | assumption | omega) (by first | assumption | exact all_w (by assumption) (by omega) | (refine all_setw ?_ (Int.le_refl _) ?_ ?_ (by omega) (by omega) <;> first | assumption | omega) | exact all_setw (by assumption) (by omega) (by omega) (by omega) (by omega) (by omega)) (by first | assumption | omega) (by first | assumption | omega)) (fun o2 q3 => ?_)
        obtain ⟨q3_0, q3_1⟩ := q3
        refine Go_ite (fun c4 => ?_) (fun c4 => ?_)
        · have dc4 := q3_1 c4
          exact Go_i (show 1 ≤ (t_size') ∧ (t_size') ≤ 10 ∧ (∀ k : Nat, k < 10 → 0 ≤ zget (t_numbers') k ∧ zget (t_numbers') k ≤ 20) ∧ (t_size') = (t_size') from ⟨(by first | assumption | omega), (by first | assumption | omega), (by first | assumption | exact all_w (by assumption) (by omega) | (refine all_setw ?_ (Int.le_refl _) ?_ ?_ (by omega) (by omega) <;> first | assumption | omega) | exact all_setw (by assumption) (by omega) (by omega) (by omega) (by omega) (by omega)), (by first | assumption | omega)⟩)
        · have dc4 := q3_0 (bnf c4)
          refine Go_chk (by omega) ?_
          refine Go_bindP (ok_X2_wrapped t_size' (i1' + (1 : Int)) (by first | assumption | omega) (by first | assumption | omega) (by first | assumption | omega) (by first | assumption | omega)) (fun o4 q5 => ?_)
          obtain ⟨q5_0, q5_1, q5_2, q5_3, q5_4⟩ := q5
          refine Go_chk (by omega) ?_
          have g1 := v0_2 (Int.toNat i1') (by omega)
          have g2 : 0 ≤ zget t_numbers' (Int.toNat o4) ∧ zget t_numbers' (Int.toNat o4) ≤ 19 := by
            have g3 := v0_2 (Int.toNat o4) (by omega)
            by_cases z : i1' + 1 = t_size'
            · rw [show Int.toNat o4 = 0 by omega] at g3 ⊢; omega
            · rw [show o4 = i1' + 1 by omega] at g3 ⊢; omega
          have g4 : t_size' = 1 → zget t_numbers' (Int.toNat i1') ≤ 18 := by
            intro z
            rw [show Int.toNat i1' = 0 by omega]; omega
          have a6 := rget t_numbers' (Int.toNat i1')
          have a7 := rget (zset t_numbers' (Int.toNat i1') ((zget t_numbers' (Int.toNat i1')) + (1 : Int))) (Int.toNat o4)
          have a8 := zget_set_c t_numbers' (Int.toNat i1') (Int.toNat o4) (v := ((zget t_numbers' (Int.toNat i1')) + (1 : Int))) (by unfold zout; omega)
          exact Go_i (show (((52 : Nat) = 0 ∧ 1 ≤ (t_size') ∧ (t_size') ≤ 10 ∧ (∀ k : Nat, k < 10 → 0 ≤ zget ((zset (zset t_numbers' (Int.toNat i1') ((zget t_numbers' (Int.toNat i1')) + (1 : Int))) (Int.toNat o4) ((zget (zset t_numbers' (Int.toNat i1') ((zget t_numbers' (Int.toNat i1')) + (1 : Int))) (Int.toNat o4)) + (1 : Int)))) k ∧ zget ((zset (zset t_numbers' (Int.toNat i1') ((zget t_numbers' (Int.toNat i1')) + (1 : Int))) (Int.toNat o4) ((zget (zset t_numbers' (Int.toNat i1') ((zget t_numbers' (Int.toNat i1')) + (1 : Int))) (Int.toNat o4)) + (1 : Int)))) k ≤ 20) ∧ -2147483648 ≤ (i1') ∧ (i1') ≤ 2147483647) ∨ ((52 : Nat) = 52 ∧ 1 ≤ (t_size') ∧ (t_size') ≤ 9 ∧ (∀ k : Nat, k < 10 → 0 ≤ zget ((zset (zset t_numbers' (Int.toNat i1') ((zget t_numbers' (Int.toNat i1')) + (1 : Int))) (Int.toNat o4) ((zget (zset t_numbers' (Int.toNat i1') ((zget t_numbers' (Int.toNat i1')) + (1 : Int))) (Int.toNat o4)) + (1 : Int)))) k ∧ zget ((zset (zset t_numbers' (Int.toNat i1') ((zget t_numbers' (Int.toNat i1')) + (1 : Int))) (Int.toNat o4) ((zget (zset t_numbers' (Int.toNat i1') ((zget t_numbers' (Int.toNat i1')) + (1 : Int))) (Int.toNat o4)) + (1 : Int)))) k ≤ 20) ∧ 0 ≤ (i1') ∧ (i1') < (t_size') ∧ (i1') < (t_size') ∧ (t_size') ≤ (t_size'))) ∧ ((t_size')).toNat < 50 from ⟨Or.inr (⟨rfl, (by first | assumption | omega), (by first | assumption | omega), (by refine all_setw (hi := 20) ?_ (Int.le_refl _) ?_ ?_ (by omega) (by omega) <;> first | omega | (refine all_setw (hi := 20) ?_ (Int.le_refl _) ?_ ?_ (by omega) (by omega) <;> first | omega | assumption)), (by first | assumption | omega), (by first | assumption | omega), (by first | assumption | omega), (by first | assumption | omega)⟩), by omega⟩)
    · show Go _ (zg_X2_glueBehind_52 i1' i2' t_size' t_numbers')
      unfold zg_X2_glueBehind_52
      refine Go_chk (by unfold zout; omega) ?_
      refine Go_chk (by unfold zout; omega) ?_
      refine Go_ite (fun c9 => ?_) (fun c9 => ?_)
      · refine Go_chk (by omega) ?_
        exact Go_i (show 1 ≤ ((t_size' + (1 : Int))) ∧ ((t_size' + (1 : Int))) ≤ 10 ∧ (∀ k : Nat, k < 10 → 0 ≤ zget ((zset t_numbers' (Int.toNat (i1' + (1 : Int))) (1 : Int))) k ∧ zget ((zset t_numbers' (Int.toNat (i1' + (1 : Int))) (1 : Int))) k ≤ 20) ∧ ((t_size' + (1 : Int))) = ((t_size' + (1 : Int))) from ⟨(by first | assumption | omega), (by first | assumption | omega), (by first | assumption | exact all_w (by assumption) (by omega) | (refine all_setw ?_ (Int.le_refl _) ?_ ?_ (by omega) (by omega) <;> first | assumption | omega) | exact all_setw (by assumption) (by omega) (by omega) (by omega) (by omega) (by omega)), (by first | assumption | omega)⟩)
      · refine Go_chk (by omega) ?_
        refine Go_chk (by omega) ?_
        have g1 := v52_2 (Int.toNat (i2' - (1 : Int))) (by omega)
        have a10 := rget t_numbers' (Int.toNat (i2' - (1 : Int)))
        exact Go_i (show (((52 : Nat) = 0 ∧ 1 ≤ (t_size') ∧ (t_size') ≤ 10 ∧ (∀ k : Nat, k < 10 → 0 ≤ zget ((zset t_numbers' (Int.toNat i2') (zget t_numbers' (Int.toNat (i2' - (1 : Int)))))) k ∧ zget ((zset t_numbers' (Int.toNat i2') (zget t_numbers' (Int.toNat (i2' - (1 : Int)))))) k ≤ 20) ∧ -2147483648 ≤ (i1') ∧ (i1') ≤ 2147483647) ∨ ((52 : Nat) = 52 ∧ 1 ≤ (t_size') ∧ (t_size') ≤ 9 ∧ (∀ k : Nat, k < 10 → 0 ≤ zget ((zset t_numbers' (Int.toNat i2') (zget t_numbers' (Int.toNat (i2' - (1 : Int)))))) k ∧ zget ((zset t_numbers' (Int.toNat i2') (zget t_numbers' (Int.toNat (i2' - (1 : Int)))))) k ≤ 20) ∧ 0 ≤ (i1') ∧ (i1') < (t_size') ∧ (i1') < ((i2' + (-1 : Int))) ∧ ((i2' + (-1 : Int))) ≤ (t_size'))) ∧ (((i2' + (-1 : Int)))).toNat < (i2').toNat from ⟨Or.inr (⟨rfl, (by first | assumption | omega), (by first | assumption | omega), (by first | assumption | exact all_w (by assumption) (by omega) | (refine all_setw ?_ (Int.le_refl _) ?_ ?_ (by omega) (by omega) <;> first | assumption | omega) | exact all_setw (by assumption) (by omega) (by omega) (by omega) (by omega) (by omega)), (by first | assumption | omega), (by first | assumption | omega), (by first | assumption | omega), (by first | assumption | omega)⟩), by omega⟩)
  · exact (show ((0 : Nat) = 0 ∧ 1 ≤ t_size ∧ t_size ≤ 10 ∧ (∀ k : Nat, k < 10 → 0 ≤ zget t_numbers k ∧ zget t_numbers k ≤ 20) ∧ -2147483648 ≤ i1 ∧ i1 ≤ 2147483647) ∨ ((0 : Nat) = 52 ∧ 1 ≤ t_size ∧ t_size ≤ 9 ∧ (∀ k : Nat, k < 10 → 0 ≤ zget t_numbers k ∧ zget t_numbers k ≤ 20) ∧ 0 ≤ i1 ∧ i1 < t_size ∧ i1 < 0 ∧ 0 ≤ t_size) from Or.inl (⟨rfl, (by first | assumption | omega), (by first | assumption | omega), (by first | assumption | exact all_w (by assumption) (by omega) | (refine all_setw ?_ (Int.le_refl _) ?_ ?_ (by omega) (by omega) <;> first | assumption | omega) | exact all_setw (by assumption) (by omega) (by omega) (by omega) (by omega) (by omega)), (by first | assumption | omega), (by first | assumption | omega)⟩))
  · show 50 < jfuel
    unfold jfuel
    omega
set_option maxRecDepth 20000 in
theorem ok_X2_canLose (t_size : Int) (t_numbers : Nat) (i1 : Int) (p0 : 1 ≤ t_size) (p1 : t_size ≤ 10) (p2 : (∀ k : Nat, k < 10 → 0 ≤ zget t_numbers k ∧ zget t_numbers k ≤ 20)) (p3 : 0 ≤ i1) (p4 : i1 < t_size) : Go (fun o => ((o) = true → 3 ≤ t_size ∧ (1 ≤ i1 → 2 ≤ zget t_numbers (Int.toNat (i1 - 1))) ∧ (i1 = 0 → 2 ≤ zget t_numbers (Int.toNat (t_size - 1))) ∧ (i1 + 1 < t_size → 2 ≤ zget t_numbers (Int.toNat (i1 + 1))) ∧ (i1 + 1 = t_size → 2 ≤ zget t_numbers 0)) ∧ ((o) = false → True)) (zf_X2_canLose t_size t_numbers i1) := by
  unfold zf_X2_canLose
  refine Go_chk (by unfold zout; omega) ?_
  refine Go_ite (fun c1 => ?_) (fun c1 => ?_)
  · exact Go_i (show ((false) = true → 3 ≤ t_size ∧ (1 ≤ i1 → 2 ≤ zget t_numbers (Int.toNat (i1 - 1))) ∧ (i1 = 0 → 2 ≤ zget t_numbers (Int.toNat (t_size - 1))) ∧ (i1 + 1 < t_size → 2 ≤ zget t_numbers (Int.toNat (i1 + 1))) ∧ (i1 + 1 = t_size → 2 ≤ zget t_numbers 0)) ∧ ((false) = false → True) from ⟨(by intro h; first | exact True.intro | (exact absurd h (by decide)) | (refine ⟨by omega, ?_, ?_, ?_, ?_⟩ <;> intro h2 <;> omega)), (by intro h; first | exact True.intro | (exact absurd h (by decide)) | (refine ⟨by omega, ?_, ?_, ?_, ?_⟩ <;> intro h2 <;> omega))⟩)
  · refine Go_bindP (ok_X2_at t_size t_numbers i1 (by first | assumption | omega) (by first | assumption | omega) (by first | assumption | exact all_w (by assumption) (by omega) | (refine all_setw ?_ (Int.le_refl _) ?_ ?_ (by omega) (by omega) <;> first | assumption | omega) | exact all_setw (by assumption) (by omega) (by omega) (by omega) (by omega) (by omega)) (by first | assumption | omega) (by first | assumption | omega)) (fun o2 q2 => ?_)
    obtain ⟨q2_0, q2_1, q2_2, q2_3, q2_4⟩ := q2
    refine Go_chk (by unfold zout; omega) ?_
    refine Go_ite (fun c3 => ?_) (fun c3 => ?_)
    · refine Go_bindP (ok_X2_at t_size t_numbers (i1 - (1 : Int)) (by first | assumption | omega) (by first | assumption | omega) (by first | assumption | exact all_w (by assumption) (by omega) | (refine all_setw ?_ (Int.le_refl _) ?_ ?_ (by omega) (by omega) <;> first | assumption | omega) | exact all_setw (by assumption) (by omega) (by omega) (by omega) (by omega) (by omega)) (by first | assumption | omega) (by first | assumption | omega)) (fun o4 q4 => ?_)
      obtain ⟨q4_0, q4_1, q4_2, q4_3, q4_4⟩ := q4
      refine Go_chk (by unfold zout; omega) ?_
      refine Go_ite (fun c5 => ?_) (fun c5 => ?_)
      · exact Go_i (show ((false) = true → 3 ≤ t_size ∧ (1 ≤ i1 → 2 ≤ zget t_numbers (Int.toNat (i1 - 1))) ∧ (i1 = 0 → 2 ≤ zget t_numbers (Int.toNat (t_size - 1))) ∧ (i1 + 1 < t_size → 2 ≤ zget t_numbers (Int.toNat (i1 + 1))) ∧ (i1 + 1 = t_size → 2 ≤ zget t_numbers 0)) ∧ ((false) = false → True) from ⟨(by intro h; first | exact True.intro | (exact absurd h (by decide)) | (refine ⟨by omega, ?_, ?_, ?_, ?_⟩ <;> intro h2 <;> omega)), (by intro h; first | exact True.intro | (exact absurd h (by decide)) | (refine ⟨by omega, ?_, ?_, ?_, ?_⟩ <;> intro h2 <;> omega))⟩)
      · refine Go_bindP (ok_X2_at t_size t_numbers (i1 + (1 : Int)) (by first | assumption | omega) (by first | assumption | omega) (by first | assumption | exact all_w (by assumption) (by omega) | (refine all_setw ?_ (Int.le_refl _) ?_ ?_ (by omega) (by omega) <;> first | assumption | omega) | exact all_setw (by assumption) (by omega) (by omega) (by omega) (by omega) (by omega)) (by first | assumption | omega) (by first | assumption | omega)) (fun o6 q6 => ?_)
        obtain ⟨q6_0, q6_1, q6_2, q6_3, q6_4⟩ := q6
        refine Go_chk (by unfold zout; omega) ?_
        refine Go_ite (fun c7 => ?_) (fun c7 => ?_)
        · exact Go_i (show ((false) = true → 3 ≤ t_size ∧ (1 ≤ i1 → 2 ≤ zget t_numbers (Int.toNat (i1 - 1))) ∧ (i1 = 0 → 2 ≤ zget t_numbers (Int.toNat (t_size - 1))) ∧ (i1 + 1 < t_size → 2 ≤ zget t_numbers (Int.toNat (i1 + 1))) ∧ (i1 + 1 = t_size → 2 ≤ zget t_numbers 0)) ∧ ((false) = false → True) from ⟨(by intro h; first | exact True.intro | (exact absurd h (by decide)) | (refine ⟨by omega, ?_, ?_, ?_, ?_⟩ <;> intro h2 <;> omega)), (by intro h; first | exact True.intro | (exact absurd h (by decide)) | (refine ⟨by omega, ?_, ?_, ?_, ?_⟩ <;> intro h2 <;> omega))⟩)
        · exact Go_i (show ((true) = true → 3 ≤ t_size ∧ (1 ≤ i1 → 2 ≤ zget t_numbers (Int.toNat (i1 - 1))) ∧ (i1 = 0 → 2 ≤ zget t_numbers (Int.toNat (t_size - 1))) ∧ (i1 + 1 < t_size → 2 ≤ zget t_numbers (Int.toNat (i1 + 1))) ∧ (i1 + 1 = t_size → 2 ≤ zget t_numbers 0)) ∧ ((true) = false → True) from ⟨(by intro h; first | exact True.intro | (exact absurd h (by decide)) | (refine ⟨by omega, ?_, ?_, ?_, ?_⟩ <;> intro h2 <;> omega)), (by intro h; first | exact True.intro | (exact absurd h (by decide)) | (refine ⟨by omega, ?_, ?_, ?_, ?_⟩ <;> intro h2 <;> omega))⟩)
    · exact Go_i (show ((false) = true → 3 ≤ t_size ∧ (1 ≤ i1 → 2 ≤ zget t_numbers (Int.toNat (i1 - 1))) ∧ (i1 = 0 → 2 ≤ zget t_numbers (Int.toNat (t_size - 1))) ∧ (i1 + 1 < t_size → 2 ≤ zget t_numbers (Int.toNat (i1 + 1))) ∧ (i1 + 1 = t_size → 2 ≤ zget t_numbers 0)) ∧ ((false) = false → True) from ⟨(by intro h; first | exact True.intro | (exact absurd h (by decide)) | (refine ⟨by omega, ?_, ?_, ?_, ?_⟩ <;> intro h2 <;> omega)), (by intro h; first | exact True.intro | (exact absurd h (by decide)) | (refine ⟨by omega, ?_, ?_, ?_, ?_⟩ <;> intro h2 <;> omega))⟩)
set_option maxRecDepth 20000 in
theorem ok_X2_lose (t_size : Int) (t_numbers : Nat) (i1 : Int) (p0 : 1 ≤ t_size) (p1 : t_size ≤ 10) (p2 : (∀ k : Nat, k < 10 → 0 ≤ zget t_numbers k ∧ zget t_numbers k ≤ 20)) (p3 : -2147483648 ≤ i1) (p4 : i1 ≤ 2147483647) : Go (fun o => 1 ≤ (o.2.1) ∧ (o.2.1) ≤ 10 ∧ (∀ k : Nat, k < 10 → 0 ≤ zget (o.2.2) k ∧ zget (o.2.2) k ≤ 20) ∧ (o.1) = (o.2.1)) (zf_X2_lose t_size t_numbers i1) := by
  unfold zf_X2_lose
  refine jok (fun (s : zS_X2_lose) => match s with | (lab, i1', i2', t_size', t_numbers') => (lab = 0 ∧ 1 ≤ t_size' ∧ t_size' ≤ 10 ∧ (∀ k : Nat, k < 10 → 0 ≤ zget t_numbers' k ∧ zget t_numbers' k ≤ 20) ∧ -2147483648 ≤ i1' ∧ i1' ≤ 2147483647) ∨ (lab = 55 ∧ 3 ≤ t_size' ∧ t_size' ≤ 10 ∧ (∀ k : Nat, k < 10 → 0 ≤ zget t_numbers' k ∧ zget t_numbers' k ≤ 20) ∧ 0 ≤ i2' ∧ i2' < t_size')) (fun (s : zS_X2_lose) => match s with | (lab, i1', i2', t_size', t_numbers') => if lab = 0 then 50 else if lab = 55 then (20 - i2').toNat else 0) (fun (o : zO_X2_lose) => 1 ≤ (o.2.1) ∧ (o.2.1) ≤ 10 ∧ (∀ k : Nat, k < 10 → 0 ≤ zget (o.2.2) k ∧ zget (o.2.2) k ≤ 20) ∧ (o.1) = (o.2.1)) ?_ _ ?_ ?_
  · intro s hI
    obtain ⟨lab, i1', i2', t_size', t_numbers'⟩ := s
    have hI : (lab = 0 ∧ 1 ≤ t_size' ∧ t_size' ≤ 10 ∧ (∀ k : Nat, k < 10 → 0 ≤ zget t_numbers' k ∧ zget t_numbers' k ≤ 20) ∧ -2147483648 ≤ i1' ∧ i1' ≤ 2147483647) ∨ (lab = 55 ∧ 3 ≤ t_size' ∧ t_size' ≤ 10 ∧ (∀ k : Nat, k < 10 → 0 ≤ zget t_numbers' k ∧ zget t_numbers' k ≤ 20) ∧ 0 ≤ i2' ∧ i2' < t_size') := hI
    rcases hI with ⟨rfl, v0_0, v0_1, v0_2, v0_3, v0_4⟩ | ⟨rfl, v55_0, v55_1, v55_2, v55_3, v55_4⟩
    · show Go _ (zg_X2_lose_0 i1' i2' t_size' t_numbers')
      unfold zg_X2_lose_0
      refine Go_bindP (ok_X2_hasPlace t_size' i1' (by first | assumption | omega) (by first | assumption | omega) (by first | assumption | omega) (by first | assumption | omega)) (fun o1 q1 => ?_)
      obtain ⟨q1_0, q1_1⟩ := q1
      refine Go_ite (fun c2 => ?_) (fun c2 => ?_)
      · have dc2 := q1_1 c2
        exact Go_i (show 1 ≤ (t_size') ∧ (t_size') ≤ 10 ∧ (∀ k : Nat, k < 10 → 0 ≤ zget (t_numbers') k ∧ zget (t_numbers') k ≤ 20) ∧ (t_size') = (t_size') from ⟨(by first | assumption | omega), (by first | assumption | omega), (by first | assumption | exact all_w (by assumption) (by omega) | (refine all_setw ?_ (Int.le_refl _) ?_ ?_ (by omega) (by omega) <;> first | assumption | omega) | exact all_setw (by assumption) (by omega) (by omega) (by omega) (by omega) (by omega)), (by first | assumption | omega)⟩)
      · have dc2 := q1_0 (bnf c2)
        refine Go_bindP (ok_X2_canLose t_size' t_numbers' i1' (by first | assumption | omega) (by first | assumption | omega) (by first | assumption | exact all_w (by assumption) (by omega) | (refine all_setw ?_ (Int.le_refl _) ?_ ?_ (by omega) (by omega) <;> first | assumption | omega) | exact all_setw (by assumption) (by omega) (by omega) (by omega) (by omega) (by omega)) (by first | assumption | omega) (by first | assumption | omega)) (fun o2 q3 => ?_)
        obtain ⟨q3_0, q3_1⟩ := q3
        refine Go_ite (fun c4 => ?_) (fun c4 => ?_)
        · have dc4 := q3_1 c4
          exact Go_i (show 1 ≤ (t_size') ∧ (t_size') ≤ 10 ∧ (∀ k : Nat, k < 10 → 0 ≤ zget (t_numbers') k ∧ zget (t_numbers') k ≤ 20) ∧ (t_size') = (t_size') from ⟨(by first | assumption | omega), (by first | assumption | omega), (by first | assumption | exact all_w (by assumption) (by omega) | (refine all_setw ?_ (Int.le_refl _) ?_ ?_ (by omega) (by omega) <;> first | assumption | omega) | exact all_setw (by assumption) (by omega) (by omega) (by omega) (by omega) (by omega)), (by first | assumption | omega)⟩)
        · have dc4 := q3_0 (bnf c4)
          refine Go_bindP (ok_X2_wrapped t_size' (i1' - (1 : Int)) (by first | assumption | omega) (by first | assumption | omega) (by first | assumption | omega) (by first | assumption | omega)) (fun o3 q5 => ?_)
          obtain ⟨q5_0, q5_1, q5_2, q5_3, q5_4⟩ := q5
          refine Go_chk (by omega) ?_
          refine Go_bindP (ok_X2_wrapped t_size' (i1' + (1 : Int)) (by first | assumption | omega) (by first | assumption | omega) (by first | assumption | omega) (by first | assumption | omega)) (fun o5 q6 => ?_)
          obtain ⟨q6_0, q6_1, q6_2, q6_3, q6_4⟩ := q6
          refine Go_chk (by omega) ?_
          have g2 : 2 ≤ zget t_numbers' (Int.toNat o3) ∧ zget t_numbers' (Int.toNat o3) ≤ 20 := by
            have g3 := v0_2 (Int.toNat o3) (by omega)
            by_cases z : i1' = 0
            · rw [show o3 = t_size' - 1 by omega] at g3 ⊢; omega
            · rw [show o3 = i1' - 1 by omega] at g3 ⊢; omega
          have g4 : 2 ≤ zget t_numbers' (Int.toNat o5) ∧ zget t_numbers' (Int.toNat o5) ≤ 20 := by
            have g3 := v0_2 (Int.toNat o5) (by omega)
            by_cases z : i1' + 1 = t_size'
            · rw [show Int.toNat o5 = 0 by omega] at g3 ⊢; omega
            · rw [show o5 = i1' + 1 by omega] at g3 ⊢; omega
          have a7 := rget t_numbers' (Int.toNat o3)
          have a8 := rget (zset t_numbers' (Int.toNat o3) ((zget t_numbers' (Int.toNat o3)) - (1 : Int))) (Int.toNat o5)
          have a9 := zget_set_c t_numbers' (Int.toNat o3) (Int.toNat o5) (v := ((zget t_numbers' (Int.toNat o3)) - (1 : Int))) (by unfold zout; omega)
          exact Go_i (show (((55 : Nat) = 0 ∧ 1 ≤ (t_size') ∧ (t_size') ≤ 10 ∧ (∀ k : Nat, k < 10 → 0 ≤ zget ((zset (zset t_numbers' (Int.toNat o3) ((zget t_numbers' (Int.toNat o3)) - (1 : Int))) (Int.toNat o5) ((zget (zset t_numbers' (Int.toNat o3) ((zget t_numbers' (Int.toNat o3)) - (1 : Int))) (Int.toNat o5)) - (1 : Int)))) k ∧ zget ((zset (zset t_numbers' (Int.toNat o3) ((zget t_numbers' (Int.toNat o3)) - (1 : Int))) (Int.toNat o5) ((zget (zset t_numbers' (Int.toNat o3) ((zget t_numbers' (Int.toNat o3)) - (1 : Int))) (Int.toNat o5)) - (1 : Int)))) k ≤ 20) ∧ -2147483648 ≤ (i1') ∧ (i1') ≤ 2147483647) ∨ ((55 : Nat) = 55 ∧ 3 ≤ (t_size') ∧ (t_size') ≤ 10 ∧ (∀ k : Nat, k < 10 → 0 ≤ zget ((zset (zset t_numbers' (Int.toNat o3) ((zget t_numbers' (Int.toNat o3)) - (1 : Int))) (Int.toNat o5) ((zget (zset t_numbers' (Int.toNat o3) ((zget t_numbers' (Int.toNat o3)) - (1 : Int))) (Int.toNat o5)) - (1 : Int)))) k ∧ zget ((zset (zset t_numbers' (Int.toNat o3) ((zget t_numbers' (Int.toNat o3)) - (1 : Int))) (Int.toNat o5) ((zget (zset t_numbers' (Int.toNat o3) ((zget t_numbers' (Int.toNat o3)) - (1 : Int))) (Int.toNat o5)) - (1 : Int)))) k ≤ 20) ∧ 0 ≤ (i1') ∧ (i1') < (t_size'))) ∧ (20 - (i1')).toNat < 50 from ⟨Or.inr (⟨rfl, (by first | assumption | omega), (by first | assumption | omega), (by refine all_setw (hi := 20) ?_ (Int.le_refl _) ?_ ?_ (by omega) (by omega) <;> first | omega | (refine all_setw (hi := 20) ?_ (Int.le_refl _) ?_ ?_ (by omega) (by omega) <;> first | omega | assumption)), (by first | assumption | omega), (by first | assumption | omega)⟩), by omega⟩)
    · show Go _ (zg_X2_lose_55 i1' i2' t_size' t_numbers')
      unfold zg_X2_lose_55
      refine Go_chk (by unfold zout; omega) ?_
      refine Go_chk (by unfold zout; omega) ?_
      refine Go_ite (fun c10 => ?_) (fun c10 => ?_)
      · exact Go_i (show 1 ≤ ((t_size' - (1 : Int))) ∧ ((t_size' - (1 : Int))) ≤ 10 ∧ (∀ k : Nat, k < 10 → 0 ≤ zget (t_numbers') k ∧ zget (t_numbers') k ≤ 20) ∧ ((t_size' - (1 : Int))) = ((t_size' - (1 : Int))) from ⟨(by first | assumption | omega), (by first | assumption | omega), (by first | assumption | exact all_w (by assumption) (by omega) | (refine all_setw ?_ (Int.le_refl _) ?_ ?_ (by omega) (by omega) <;> first | assumption | omega) | exact all_setw (by assumption) (by omega) (by omega) (by omega) (by omega) (by omega)), (by first | assumption | omega)⟩)
      · refine Go_chk (by omega) ?_
        refine Go_chk (by omega) ?_
        have g1 := v55_2 (Int.toNat (i2' + (1 : Int))) (by omega)
        have a11 := rget t_numbers' (Int.toNat (i2' + (1 : Int)))
        exact Go_i (show (((55 : Nat) = 0 ∧ 1 ≤ (t_size') ∧ (t_size') ≤ 10 ∧ (∀ k : Nat, k < 10 → 0 ≤ zget ((zset t_numbers' (Int.toNat i2') (zget t_numbers' (Int.toNat (i2' + (1 : Int)))))) k ∧ zget ((zset t_numbers' (Int.toNat i2') (zget t_numbers' (Int.toNat (i2' + (1 : Int)))))) k ≤ 20) ∧ -2147483648 ≤ (0) ∧ (0) ≤ 2147483647) ∨ ((55 : Nat) = 55 ∧ 3 ≤ (t_size') ∧ (t_size') ≤ 10 ∧ (∀ k : Nat, k < 10 → 0 ≤ zget ((zset t_numbers' (Int.toNat i2') (zget t_numbers' (Int.toNat (i2' + (1 : Int)))))) k ∧ zget ((zset t_numbers' (Int.toNat i2') (zget t_numbers' (Int.toNat (i2' + (1 : Int)))))) k ≤ 20) ∧ 0 ≤ ((i2' + (1 : Int))) ∧ ((i2' + (1 : Int))) < (t_size'))) ∧ (20 - ((i2' + (1 : Int)))).toNat < (20 - i2').toNat from ⟨Or.inr (⟨rfl, (by first | assumption | omega), (by first | assumption | omega), (by first | assumption | exact all_w (by assumption) (by omega) | (refine all_setw ?_ (Int.le_refl _) ?_ ?_ (by omega) (by omega) <;> first | assumption | omega) | exact all_setw (by assumption) (by omega) (by omega) (by omega) (by omega) (by omega)), (by first | assumption | omega), (by first | assumption | omega)⟩), by omega⟩)
  · exact (show ((0 : Nat) = 0 ∧ 1 ≤ t_size ∧ t_size ≤ 10 ∧ (∀ k : Nat, k < 10 → 0 ≤ zget t_numbers k ∧ zget t_numbers k ≤ 20) ∧ -2147483648 ≤ i1 ∧ i1 ≤ 2147483647) ∨ ((0 : Nat) = 55 ∧ 3 ≤ t_size ∧ t_size ≤ 10 ∧ (∀ k : Nat, k < 10 → 0 ≤ zget t_numbers k ∧ zget t_numbers k ≤ 20) ∧ 0 ≤ 0 ∧ 0 < t_size) from Or.inl (⟨rfl, (by first | assumption | omega), (by first | assumption | omega), (by first | assumption | exact all_w (by assumption) (by omega) | (refine all_setw ?_ (Int.le_refl _) ?_ ?_ (by omega) (by omega) <;> first | assumption | omega) | exact all_setw (by assumption) (by omega) (by omega) (by omega) (by omega) (by omega)), (by first | assumption | omega), (by first | assumption | omega)⟩))
  · show 50 < jfuel
    unfold jfuel
    omega
set_option maxRecDepth 20000 in
theorem ok_X2_firstOne (t_size : Int) (t_numbers : Nat) (p0 : 1 ≤ t_size) (p1 : t_size ≤ 10) (p2 : (∀ k : Nat, k < 10 → 0 ≤ zget t_numbers k ∧ zget t_numbers k ≤ 20)) : Go (fun o => -1 ≤ (o) ∧ (o) < t_size) (zf_X2_firstOne t_size t_numbers) := by
  unfold zf_X2_firstOne
  refine jok (fun (s : zS_X2_firstOne) => match s with | (lab, i1') => (lab = 0) ∨ (lab = 2 ∧ 0 ≤ i1' ∧ i1' ≤ t_size)) (fun (s : zS_X2_firstOne) => match s with | (lab, i1') => if lab = 0 then 30 else if lab = 2 then (20 - i1').toNat else 0) (fun (o : zO_X2_firstOne) => -1 ≤ (o) ∧ (o) < t_size) ?_ _ ?_ ?_
  · intro s hI
    obtain ⟨lab, i1'⟩ := s
    have hI : (lab = 0) ∨ (lab = 2 ∧ 0 ≤ i1' ∧ i1' ≤ t_size) := hI
    rcases hI with rfl | ⟨rfl, v2_0, v2_1⟩
    · show Go _ (zg_X2_firstOne_0 t_size t_numbers i1')
      unfold zg_X2_firstOne_0
      exact Go_i (show (((2 : Nat) = 0) ∨ ((2 : Nat) = 2 ∧ 0 ≤ ((0 : Int)) ∧ ((0 : Int)) ≤ t_size)) ∧ (20 - ((0 : Int))).toNat < 30 from ⟨Or.inr (⟨rfl, (by first | assumption | omega), (by first | assumption | omega)⟩), by omega⟩)
    · show Go _ (zg_X2_firstOne_2 t_size t_numbers i1')
      unfold zg_X2_firstOne_2
      refine Go_chk (by unfold zout; omega) ?_
      refine Go_chk (by unfold zout; omega) ?_
      refine Go_ite (fun c1 => ?_) (fun c1 => ?_)
      · exact Go_i (show -1 ≤ ((-1 : Int)) ∧ ((-1 : Int)) < t_size from ⟨(by first | assumption | omega), (by first | assumption | omega)⟩)
      · refine Go_chk (by omega) ?_
        have a2 := rget t_numbers (Int.toNat i1')
        refine Go_ite (fun c3 => ?_) (fun c3 => ?_)
        · exact Go_i (show -1 ≤ (i1') ∧ (i1') < t_size from ⟨(by first | assumption | omega), (by first | assumption | omega)⟩)
        · exact Go_i (show (((2 : Nat) = 0) ∨ ((2 : Nat) = 2 ∧ 0 ≤ ((i1' + (1 : Int))) ∧ ((i1' + (1 : Int))) ≤ t_size)) ∧ (20 - ((i1' + (1 : Int)))).toNat < (20 - i1').toNat from ⟨Or.inr (⟨rfl, (by first | assumption | omega), (by first | assumption | omega)⟩), by omega⟩)
  · exact (show ((0 : Nat) = 0) ∨ ((0 : Nat) = 2 ∧ 0 ≤ 0 ∧ 0 ≤ t_size) from Or.inl (rfl))
  · show 30 < jfuel
    unfold jfuel
    omega
set_option maxRecDepth 20000 in
theorem ok_X2_loseAll (t_size : Int) (t_numbers : Nat) (p0 : 1 ≤ t_size) (p1 : t_size ≤ 10) (p2 : (∀ k : Nat, k < 10 → 0 ≤ zget t_numbers k ∧ zget t_numbers k ≤ 20)) : Go (fun o => 0 ≤ (o.1) ∧ (o.1) ≤ 10 ∧ 1 ≤ (o.2.1) ∧ (o.2.1) ≤ 10 ∧ (∀ k : Nat, k < 10 → 0 ≤ zget (o.2.2) k ∧ zget (o.2.2) k ≤ 20)) (zf_X2_loseAll t_size t_numbers) := by
  unfold zf_X2_loseAll
  refine jok (fun (s : zS_X2_loseAll) => match s with | (lab, i1', i2', t_size', t_numbers') => (lab = 0 ∧ 1 ≤ t_size' ∧ t_size' ≤ 10 ∧ (∀ k : Nat, k < 10 → 0 ≤ zget t_numbers' k ∧ zget t_numbers' k ≤ 20)) ∨ (lab = 4 ∧ 1 ≤ t_size' ∧ t_size' ≤ 10 ∧ (∀ k : Nat, k < 10 → 0 ≤ zget t_numbers' k ∧ zget t_numbers' k ≤ 20) ∧ 0 ≤ i1' ∧ i1' ≤ i2' ∧ 0 ≤ i2' ∧ i2' ≤ 10)) (fun (s : zS_X2_loseAll) => match s with | (lab, i1', i2', t_size', t_numbers') => if lab = 0 then 50 else if lab = 4 then (20 - i2').toNat else 0) (fun (o : zO_X2_loseAll) => 0 ≤ (o.1) ∧ (o.1) ≤ 10 ∧ 1 ≤ (o.2.1) ∧ (o.2.1) ≤ 10 ∧ (∀ k : Nat, k < 10 → 0 ≤ zget (o.2.2) k ∧ zget (o.2.2) k ≤ 20)) ?_ _ ?_ ?_
  · intro s hI
    obtain ⟨lab, i1', i2', t_size', t_numbers'⟩ := s
    have hI : (lab = 0 ∧ 1 ≤ t_size' ∧ t_size' ≤ 10 ∧ (∀ k : Nat, k < 10 → 0 ≤ zget t_numbers' k ∧ zget t_numbers' k ≤ 20)) ∨ (lab = 4 ∧ 1 ≤ t_size' ∧ t_size' ≤ 10 ∧ (∀ k : Nat, k < 10 → 0 ≤ zget t_numbers' k ∧ zget t_numbers' k ≤ 20) ∧ 0 ≤ i1' ∧ i1' ≤ i2' ∧ 0 ≤ i2' ∧ i2' ≤ 10) := hI
    rcases hI with ⟨rfl, v0_0, v0_1, v0_2⟩ | ⟨rfl, v4_0, v4_1, v4_2, v4_3, v4_4, v4_5, v4_6⟩
    · show Go _ (zg_X2_loseAll_0 i1' i2' t_size' t_numbers')
      unfold zg_X2_loseAll_0
      exact Go_i (show (((4 : Nat) = 0 ∧ 1 ≤ (t_size') ∧ (t_size') ≤ 10 ∧ (∀ k : Nat, k < 10 → 0 ≤ zget (t_numbers') k ∧ zget (t_numbers') k ≤ 20)) ∨ ((4 : Nat) = 4 ∧ 1 ≤ (t_size') ∧ (t_size') ≤ 10 ∧ (∀ k : Nat, k < 10 → 0 ≤ zget (t_numbers') k ∧ zget (t_numbers') k ≤ 20) ∧ 0 ≤ ((0 : Int)) ∧ ((0 : Int)) ≤ ((0 : Int)) ∧ 0 ≤ ((0 : Int)) ∧ ((0 : Int)) ≤ 10)) ∧ (20 - ((0 : Int))).toNat < 50 from ⟨Or.inr (⟨rfl, (by first | assumption | omega), (by first | assumption | omega), (by first | assumption | exact all_w (by assumption) (by omega) | (refine all_setw ?_ (Int.le_refl _) ?_ ?_ (by omega) (by omega) <;> first | assumption | omega) | exact all_setw (by assumption) (by omega) (by omega) (by omega) (by omega) (by omega)), (by first | assumption | omega), (by first | assumption | omega), (by first | assumption | omega), (by first | assumption | omega)⟩), by omega⟩)
    · show Go _ (zg_X2_loseAll_4 i1' i2' t_size' t_numbers')
      unfold zg_X2_loseAll_4
      refine Go_chk (by unfold zout; omega) ?_
      refine Go_ite (fun c1 => ?_) (fun c1 => ?_)
      · exact Go_i (show 0 ≤ (i1') ∧ (i1') ≤ 10 ∧ 1 ≤ (t_size') ∧ (t_size') ≤ 10 ∧ (∀ k : Nat, k < 10 → 0 ≤ zget (t_numbers') k ∧ zget (t_numbers') k ≤ 20) from ⟨(by first | assumption | omega), (by first | assumption | omega), (by first | assumption | omega), (by first | assumption | omega), (by first | assumption | exact all_w (by assumption) (by omega) | (refine all_setw ?_ (Int.le_refl _) ?_ ?_ (by omega) (by omega) <;> first | assumption | omega) | exact all_setw (by assumption) (by omega) (by omega) (by omega) (by omega) (by omega))⟩)
      · refine Go_bindP (ok_X2_firstOne t_size' t_numbers' (by first | assumption | omega) (by first | assumption | omega) (by first | assumption | exact all_w (by assumption) (by omega) | (refine all_setw ?_ (Int.le_refl _) ?_ ?_ (by omega) (by omega) <;> first | assumption | omega) | exact all_setw (by assumption) (by omega) (by omega) (by omega) (by omega) (by omega))) (fun o2 q2 => ?_)
        obtain ⟨q2_0, q2_1⟩ := q2
        refine Go_chk (by unfold zout; omega) ?_
        refine Go_ite (fun c3 => ?_) (fun c3 => ?_)
        · exact Go_i (show 0 ≤ (i1') ∧ (i1') ≤ 10 ∧ 1 ≤ (t_size') ∧ (t_size') ≤ 10 ∧ (∀ k : Nat, k < 10 → 0 ≤ zget (t_numbers') k ∧ zget (t_numbers') k ≤ 20) from ⟨(by first | assumption | omega), (by first | assumption | omega), (by first | assumption | omega), (by first | assumption | omega), (by first | assumption | exact all_w (by assumption) (by omega) | (refine all_setw ?_ (Int.le_refl _) ?_ ?_ (by omega) (by omega) <;> first | assumption | omega) | exact all_setw (by assumption) (by omega) (by omega) (by omega) (by omega) (by omega))⟩)
        · refine Go_bindP (ok_X2_canLose t_size' t_numbers' o2 (by first | assumption | omega) (by first | assumption | omega) (by first | assumption | exact all_w (by assumption) (by omega) | (refine all_setw ?_ (Int.le_refl _) ?_ ?_ (by omega) (by omega) <;> first | assumption | omega) | exact all_setw (by assumption) (by omega) (by omega) (by omega) (by omega) (by omega)) (by first | assumption | omega) (by first | assumption | omega)) (fun o4 q4 => ?_)
          obtain ⟨q4_0, q4_1⟩ := q4
          refine Go_ite (fun c5 => ?_) (fun c5 => ?_)
          · have dc5 := q4_1 c5
            exact Go_i (show 0 ≤ (i1') ∧ (i1') ≤ 10 ∧ 1 ≤ (t_size') ∧ (t_size') ≤ 10 ∧ (∀ k : Nat, k < 10 → 0 ≤ zget (t_numbers') k ∧ zget (t_numbers') k ≤ 20) from ⟨(by first | assumption | omega), (by first | assumption | omega), (by first | assumption | omega), (by first | assumption | omega), (by first | assumption | exact all_w (by assumption) (by omega) | (refine all_setw ?_ (Int.le_refl _) ?_ ?_ (by omega) (by omega) <;> first | assumption | omega) | exact all_setw (by assumption) (by omega) (by omega) (by omega) (by omega) (by omega))⟩)
          · have dc5 := q4_0 (bnf c5)
            refine Go_bindP (ok_X2_lose t_size' t_numbers' o2 (by first | assumption | omega) (by first | assumption | omega) (by first | assumption | exact all_w (by assumption) (by omega) | (refine all_setw ?_ (Int.le_refl _) ?_ ?_ (by omega) (by omega) <;> first | assumption | omega) | exact all_setw (by assumption) (by omega) (by omega) (by omega) (by omega) (by omega)) (by first | assumption | omega) (by first | assumption | omega)) (fun o5 q6 => ?_)
            obtain ⟨q6_0, q6_1, q6_2, q6_3⟩ := q6
            exact Go_i (show (((4 : Nat) = 0 ∧ 1 ≤ ((o5.2.1)) ∧ ((o5.2.1)) ≤ 10 ∧ (∀ k : Nat, k < 10 → 0 ≤ zget ((o5.2.2)) k ∧ zget ((o5.2.2)) k ≤ 20)) ∨ ((4 : Nat) = 4 ∧ 1 ≤ ((o5.2.1)) ∧ ((o5.2.1)) ≤ 10 ∧ (∀ k : Nat, k < 10 → 0 ≤ zget ((o5.2.2)) k ∧ zget ((o5.2.2)) k ≤ 20) ∧ 0 ≤ ((i1' + (1 : Int))) ∧ ((i1' + (1 : Int))) ≤ ((i2' + (1 : Int))) ∧ 0 ≤ ((i2' + (1 : Int))) ∧ ((i2' + (1 : Int))) ≤ 10)) ∧ (20 - ((i2' + (1 : Int)))).toNat < (20 - i2').toNat from ⟨Or.inr (⟨rfl, (by first | assumption | omega), (by first | assumption | omega), (by first | assumption | exact all_w (by assumption) (by omega) | (refine all_setw ?_ (Int.le_refl _) ?_ ?_ (by omega) (by omega) <;> first | assumption | omega) | exact all_setw (by assumption) (by omega) (by omega) (by omega) (by omega) (by omega)), (by first | assumption | omega), (by first | assumption | omega), (by first | assumption | omega), (by first | assumption | omega)⟩), by omega⟩)
  · exact (show ((0 : Nat) = 0 ∧ 1 ≤ t_size ∧ t_size ≤ 10 ∧ (∀ k : Nat, k < 10 → 0 ≤ zget t_numbers k ∧ zget t_numbers k ≤ 20)) ∨ ((0 : Nat) = 4 ∧ 1 ≤ t_size ∧ t_size ≤ 10 ∧ (∀ k : Nat, k < 10 → 0 ≤ zget t_numbers k ∧ zget t_numbers k ≤ 20) ∧ 0 ≤ 0 ∧ 0 ≤ 0 ∧ 0 ≤ 0 ∧ 0 ≤ 10) from Or.inl (⟨rfl, (by first | assumption | omega), (by first | assumption | omega), (by first | assumption | exact all_w (by assumption) (by omega) | (refine all_setw ?_ (Int.le_refl _) ?_ ?_ (by omega) (by omega) <;> first | assumption | omega) | exact all_setw (by assumption) (by omega) (by omega) (by omega) (by omega) (by omega))⟩))
  · show 50 < jfuel
    unfold jfuel
    omega
end

section
set_option maxRecDepth 20000 in
theorem ok_X1_faultKind (mk : Nat) (t_faultKind : Int)  : Go (fun o => (o) = t_faultKind) (zf_X1_faultKind mk t_faultKind) := by
  unfold zf_X1_faultKind
  exact Go_i (show (t_faultKind) = t_faultKind from (by first | assumption | omega))
set_option maxRecDepth 20000 in
theorem ok_X1_faultPlace (mk : Nat) (t_faultPlace : Int)  : Go (fun o => (o) = t_faultPlace) (zf_X1_faultPlace mk t_faultPlace) := by
  unfold zf_X1_faultPlace
  exact Go_i (show (t_faultPlace) = t_faultPlace from (by first | assumption | omega))
set_option maxRecDepth 20000 in
theorem ok_X1_bits (mk : Nat) (t_bits : Int)  : Go (fun o => (o) = t_bits) (zf_X1_bits mk t_bits) := by
  unfold zf_X1_bits
  exact Go_i (show (t_bits) = t_bits from (by first | assumption | omega))
set_option maxRecDepth 20000 in
theorem ok_X10_feed (mk : Nat) (tape_length : Int) (tape_bytes : Nat) (i1 : Int) (i2 : Int) (i3 : Int) (i4 : Int) (i5 : Int) (p0 : 0 ≤ tape_length) (p1 : tape_length ≤ 300) : Go (fun o => 0 ≤ (o.2.1) ∧ (o.2.1) ≤ 300 ∧ (tape_length ≤ 280 → (o.2.1) = tape_length + 20 ∧ (o.1) = (o.2.1)) ∧ (280 < tape_length → (o.2.1) = tape_length ∧ (o.1) = -3)) (zf_X10_feed mk tape_length tape_bytes i1 i2 i3 i4 i5) := by
  unfold zf_X10_feed
  refine Go_bindP (ok_X8_hasRoomForTwenty tape_length (by first | assumption | omega) (by first | assumption | omega)) (fun o1 q1 => ?_)
  obtain ⟨q1_0, q1_1⟩ := q1
  refine Go_ite (fun c2 => ?_) (fun c2 => ?_)
  · have dc2 := q1_1 c2
    exact Go_i (show 0 ≤ (tape_length) ∧ (tape_length) ≤ 300 ∧ (tape_length ≤ 280 → (tape_length) = tape_length + 20 ∧ ((-3 : Int)) = (tape_length)) ∧ (280 < tape_length → (tape_length) = tape_length ∧ ((-3 : Int)) = -3) from ⟨(by first | assumption | omega), (by first | assumption | omega), (by intro h; first | exact True.intro | omega | (exact absurd h (by decide)) | (refine ⟨?_, ?_⟩ <;> omega)), (by intro h; first | exact True.intro | omega | (exact absurd h (by decide)) | (refine ⟨?_, ?_⟩ <;> omega))⟩)
  · have dc2 := q1_0 (bnf c2)
    refine Go_bindP (ok_X8_append tape_length tape_bytes i1 (by first | assumption | omega) (by first | assumption | omega)) (fun o2 q3 => ?_)
    obtain ⟨q3_0, q3_1, q3_2, q3_3⟩ := q3
    refine Go_bindP (ok_X8_append (o2.1) (o2.2) i2 (by first | assumption | omega) (by first | assumption | omega)) (fun o3 q4 => ?_)
    obtain ⟨q4_0, q4_1, q4_2, q4_3⟩ := q4
    refine Go_bindP (ok_X8_append (o3.1) (o3.2) i3 (by first | assumption | omega) (by first | assumption | omega)) (fun o4 q5 => ?_)
    obtain ⟨q5_0, q5_1, q5_2, q5_3⟩ := q5
    refine Go_bindP (ok_X8_append (o4.1) (o4.2) i4 (by first | assumption | omega) (by first | assumption | omega)) (fun o5 q6 => ?_)
    obtain ⟨q6_0, q6_1, q6_2, q6_3⟩ := q6
    refine Go_bindP (ok_X8_append (o5.1) (o5.2) i5 (by first | assumption | omega) (by first | assumption | omega)) (fun o6 q7 => ?_)
    obtain ⟨q7_0, q7_1, q7_2, q7_3⟩ := q7
    refine Go_bindP (ok_X8_size (o6.1) ) (fun o7 q8 => ?_)
    exact Go_i (show 0 ≤ ((o6.1)) ∧ ((o6.1)) ≤ 300 ∧ (tape_length ≤ 280 → ((o6.1)) = tape_length + 20 ∧ (o7) = ((o6.1))) ∧ (280 < tape_length → ((o6.1)) = tape_length ∧ (o7) = -3) from ⟨(by first | assumption | omega), (by first | assumption | omega), (by intro h; first | exact True.intro | omega | (exact absurd h (by decide)) | (refine ⟨?_, ?_⟩ <;> omega)), (by intro h; first | exact True.intro | omega | (exact absurd h (by decide)) | (refine ⟨?_, ?_⟩ <;> omega))⟩)
set_option maxRecDepth 20000 in
theorem ok_X10_end (mk : Nat) (tape_length : Int) (i1 : Int) (p0 : 0 ≤ tape_length) (p1 : tape_length ≤ 300) (p2 : -2147483648 ≤ i1) (p3 : i1 ≤ 2147483647) : Go (fun o => 0 ≤ (o.2) ∧ (o.2) ≤ 300 ∧ ((0 ≤ i1 ∧ i1 ≤ tape_length) → (o.2) = i1 ∧ (o.1) = i1) ∧ (¬ (0 ≤ i1 ∧ i1 ≤ tape_length) → (o.2) = tape_length ∧ (o.1) = -1)) (zf_X10_end mk tape_length i1) := by
  unfold zf_X10_end
  refine Go_chk (by unfold zout; omega) ?_
  refine Go_ite (fun c1 => ?_) (fun c1 => ?_)
  · exact Go_i (show 0 ≤ (tape_length) ∧ (tape_length) ≤ 300 ∧ ((0 ≤ i1 ∧ i1 ≤ tape_length) → (tape_length) = i1 ∧ ((-1 : Int)) = i1) ∧ (¬ (0 ≤ i1 ∧ i1 ≤ tape_length) → (tape_length) = tape_length ∧ ((-1 : Int)) = -1) from ⟨(by first | assumption | omega), (by first | assumption | omega), (by intro h; first | exact True.intro | omega | (exact absurd h (by decide)) | (refine ⟨?_, ?_⟩ <;> omega)), (by intro h; first | exact True.intro | omega | (exact absurd h (by decide)) | (refine ⟨?_, ?_⟩ <;> omega))⟩)
  · refine Go_bindP (ok_X8_size tape_length ) (fun o2 q2 => ?_)
    refine Go_chk (by unfold zout; omega) ?_
    refine Go_ite (fun c3 => ?_) (fun c3 => ?_)
    · refine Go_bindP (ok_X8_shorten tape_length i1 (by first | assumption | omega) (by first | assumption | omega) (by first | assumption | omega) (by first | assumption | omega)) (fun o4 q4 => ?_)
      obtain ⟨q4_0, q4_1, q4_2⟩ := q4
      exact Go_i (show 0 ≤ (o4) ∧ (o4) ≤ 300 ∧ ((0 ≤ i1 ∧ i1 ≤ tape_length) → (o4) = i1 ∧ (i1) = i1) ∧ (¬ (0 ≤ i1 ∧ i1 ≤ tape_length) → (o4) = tape_length ∧ (i1) = -1) from ⟨(by first | assumption | omega), (by first | assumption | omega), (by intro h; first | exact True.intro | omega | (exact absurd h (by decide)) | (refine ⟨?_, ?_⟩ <;> omega)), (by intro h; first | exact True.intro | omega | (exact absurd h (by decide)) | (refine ⟨?_, ?_⟩ <;> omega))⟩)
    · exact Go_i (show 0 ≤ (tape_length) ∧ (tape_length) ≤ 300 ∧ ((0 ≤ i1 ∧ i1 ≤ tape_length) → (tape_length) = i1 ∧ ((-1 : Int)) = i1) ∧ (¬ (0 ≤ i1 ∧ i1 ≤ tape_length) → (tape_length) = tape_length ∧ ((-1 : Int)) = -1) from ⟨(by first | assumption | omega), (by first | assumption | omega), (by intro h; first | exact True.intro | omega | (exact absurd h (by decide)) | (refine ⟨?_, ?_⟩ <;> omega)), (by intro h; first | exact True.intro | omega | (exact absurd h (by decide)) | (refine ⟨?_, ?_⟩ <;> omega))⟩)
set_option maxRecDepth 20000 in
theorem ok_X10_become (mk : Nat) (t_polygon : Nat) (t_bits : Int) (sightings_size : Int) (sightings_rights : Int) (sightings_latest : Int) (n1 : Nat) (i2 : Int) (p0 : ¬ zno mk n1) (p1 : ¬ zno mk t_polygon) : Go (fun o => (o.1) = n1 ∧ (o.2.1) = i2 ∧ (n1 = t_polygon → (o.2.2.1) = sightings_size ∧ (o.2.2.2.1) = sightings_rights ∧ (o.2.2.2.2) = sightings_latest) ∧ (¬ n1 = t_polygon → (o.2.2.1) = 0 ∧ (o.2.2.2.1) = 0 ∧ (o.2.2.2.2) = 0)) (zf_X10_become mk t_polygon t_bits sightings_size sightings_rights sightings_latest n1 i2) := by
  unfold zf_X10_become
  have grn1 := zno_rng p0
  have g7n1 := rpg7 (n := n1) (by omega) (by omega)
  have g8n1 := rpg8 (n := n1) (by omega) (by omega)
  have grt_polygon := zno_rng p1
  have g7t_polygon := rpg7 (n := t_polygon) (by omega) (by omega)
  have g8t_polygon := rpg8 (n := t_polygon) (by omega) (by omega)
  refine Go_chk (by assumption) ?_
  refine Go_bindP (ok_X5_corners n1 ) (fun o2 q1 => ?_)
  refine Go_chk (by assumption) ?_
  refine Go_bindP (ok_X5_corners t_polygon ) (fun o4 q2 => ?_)
  refine Go_chk (by unfold zout; omega) ?_
  refine Go_chk (by unfold zout; omega) ?_
  refine Go_ite (fun c3 => ?_) (fun c3 => ?_)
  · exact Go_i (show (n1) = n1 ∧ (i2) = i2 ∧ (n1 = t_polygon → (sightings_size) = sightings_size ∧ (sightings_rights) = sightings_rights ∧ (sightings_latest) = sightings_latest) ∧ (¬ n1 = t_polygon → (sightings_size) = 0 ∧ (sightings_rights) = 0 ∧ (sightings_latest) = 0) from ⟨(by first | assumption | omega), (by first | assumption | omega), (by intro h; first | exact True.intro | omega | (exact absurd h (by decide)) | (refine ⟨?_, ?_⟩ <;> omega)), (by intro h; first | exact True.intro | omega | (exact absurd h (by decide)) | (refine ⟨?_, ?_⟩ <;> omega))⟩)
  · refine Go_bindP (ok_X7_forget sightings_size sightings_rights sightings_latest ) (fun o7 q4 => ?_)
    obtain ⟨q4_0, q4_1, q4_2⟩ := q4
    exact Go_i (show (n1) = n1 ∧ (i2) = i2 ∧ (n1 = t_polygon → ((o7.1)) = sightings_size ∧ ((o7.2.1)) = sightings_rights ∧ ((o7.2.2)) = sightings_latest) ∧ (¬ n1 = t_polygon → ((o7.1)) = 0 ∧ ((o7.2.1)) = 0 ∧ ((o7.2.2)) = 0) from ⟨(by first | assumption | omega), (by first | assumption | omega), (by intro h; first | exact True.intro | omega | (exact absurd h (by decide)) | (refine ⟨?_, ?_⟩ <;> omega)), (by intro h; first | exact True.intro | omega | (exact absurd h (by decide)) | (refine ⟨?_, ?_⟩ <;> omega))⟩)
set_option maxRecDepth 20000 in
theorem ok_X10_fault (mk : Nat) (text_faultKind : Int) (text_faultPlace : Int) (i1 : Int) (p0 : -2147483648 ≤ i1) (p1 : i1 ≤ 2147483647) : Go (fun o => True) (zf_X10_fault mk text_faultKind text_faultPlace i1) := by
  unfold zf_X10_fault
  refine Go_chk (by unfold zout; omega) ?_
  refine Go_ite (fun c1 => ?_) (fun c1 => ?_)
  · refine Go_bindP (ok_X1_faultKind mk text_faultKind ) (fun o4 q2 => ?_)
    exact Go_i (show True from trivial)
  · refine Go_ite (fun c3 => ?_) (fun c3 => ?_)
    · refine Go_bindP (ok_X1_faultPlace mk text_faultPlace ) (fun o2 q4 => ?_)
      exact Go_i (show True from trivial)
    · exact Go_i (show True from trivial)
set_option maxRecDepth 20000 in
theorem ok_X10_told (mk : Nat) (t_polygon : Nat) (t_bits : Int) (endless_size : Int) (i1 : Int) (p0 : ¬ zno mk t_polygon) (p1 : -2147483648 ≤ t_bits) (p2 : t_bits ≤ 2147483647) (p3 : -2147483648 ≤ i1) (p4 : i1 ≤ 2147483647) : Go (fun o => True) (zf_X10_told mk t_polygon t_bits endless_size i1) := by
  unfold zf_X10_told
  have grt_polygon := zno_rng p0
  have g7t_polygon := rpg7 (n := t_polygon) (by omega) (by omega)
  have g8t_polygon := rpg8 (n := t_polygon) (by omega) (by omega)
  refine Go_chk (by unfold zout; omega) ?_
  refine Go_ite (fun c1 => ?_) (fun c1 => ?_)
  · refine Go_chk (by assumption) ?_
    refine Go_bindP (ok_X5_corners t_polygon ) (fun o4 q2 => ?_)
    exact Go_i (show True from trivial)
  · refine Go_ite (fun c3 => ?_) (fun c3 => ?_)
    · refine Go_chk (by assumption) ?_
      refine Go_bindP (ok_X5_numberOf t_polygon t_bits (by first | assumption | omega) (by first | assumption | omega) (by first | assumption | omega) (by first | assumption | omega)) (fun o7 q4 => ?_)
      obtain ⟨q4_0, q4_1⟩ := q4
      exact Go_i (show True from trivial)
    · refine Go_ite (fun c5 => ?_) (fun c5 => ?_)
      · refine Go_chk (by assumption) ?_
        refine Go_bindP (ok_X5_cutCount t_polygon (by first | assumption | omega) (by first | assumption | omega)) (fun o10 q6 => ?_)
        obtain ⟨q6_0, q6_1, q6_2⟩ := q6
        exact Go_i (show True from trivial)
      · refine Go_ite (fun c7 => ?_) (fun c7 => ?_)
        · refine Go_bindP (ok_X2_size endless_size ) (fun o12 q8 => ?_)
          exact Go_i (show True from trivial)
        · exact Go_i (show True from trivial)
set_option maxRecDepth 20000 in
theorem ok_X10_triangle (mk : Nat) (t_polygon : Nat) (t_bits : Int) (triangles_count : Int) (triangles_cornersOf : Nat) (i1 : Int) (i2 : Int) (p0 : ¬ zno mk t_polygon) (p1 : -2147483648 ≤ i1) (p2 : i1 ≤ 2147483647) (p3 : -2147483648 ≤ i2) (p4 : i2 ≤ 2147483647) (p5 : 0 ≤ triangles_count) (p6 : triangles_count ≤ 7) : Go (fun o => 0 ≤ (o.2.1) ∧ (o.2.1) ≤ 7) (zf_X10_triangle mk t_polygon t_bits triangles_count triangles_cornersOf i1 i2) := by
  unfold zf_X10_triangle
  have grt_polygon := zno_rng p0
  have g7t_polygon := rpg7 (n := t_polygon) (by omega) (by omega)
  have g8t_polygon := rpg8 (n := t_polygon) (by omega) (by omega)
  refine Go_chk (by unfold zout; omega) ?_
  refine Go_ite (fun c1 => ?_) (fun c1 => ?_)
  · exact Go_i (show 0 ≤ (triangles_count) ∧ (triangles_count) ≤ 7 from ⟨(by first | assumption | omega), (by first | assumption | omega)⟩)
  · refine Go_chk (by assumption) ?_
    refine Go_bindP (ok_X5_corners t_polygon ) (fun o3 q2 => ?_)
    refine Go_chk (by unfold zout; omega) ?_
    refine Go_ite (fun c3 => ?_) (fun c3 => ?_)
    · exact Go_i (show 0 ≤ (triangles_count) ∧ (triangles_count) ≤ 7 from ⟨(by first | assumption | omega), (by first | assumption | omega)⟩)
    · refine Go_chk (by unfold zout; omega) ?_
      refine Go_ite (fun c4 => ?_) (fun c4 => ?_)
      · exact Go_i (show 0 ≤ (triangles_count) ∧ (triangles_count) ≤ 7 from ⟨(by first | assumption | omega), (by first | assumption | omega)⟩)
      · refine Go_ite (fun c5 => ?_) (fun c5 => ?_)
        · refine Go_bindP (ok_X9_gather mk triangles_count triangles_cornersOf t_polygon t_bits (by first | assumption | omega)) (fun o6 q6 => ?_)
          obtain ⟨q6_0, q6_1⟩ := q6
          refine Go_bindP (ok_X9_cornerOf mk (o6.1) (o6.2) i1 i2 (by first | assumption | omega) (by first | assumption | omega) (by first | assumption | omega) (by first | assumption | omega) (by first | assumption | omega) (by first | assumption | omega)) (fun o7 q7 => ?_)
          obtain ⟨q7_0, q7_1⟩ := q7
          exact Go_i (show 0 ≤ ((o6.1)) ∧ ((o6.1)) ≤ 7 from ⟨(by first | assumption | omega), (by first | assumption | omega)⟩)
        · exact Go_i (show 0 ≤ (triangles_count) ∧ (triangles_count) ≤ 7 from ⟨(by first | assumption | omega), (by first | assumption | omega)⟩)
set_option maxRecDepth 20000 in
theorem ok_X10_areCorners (mk : Nat) (t_polygon : Nat) (i1 : Int) (i2 : Int) (p0 : ¬ zno mk t_polygon) (p1 : -2147483648 ≤ i1) (p2 : i1 ≤ 2147483647) (p3 : -2147483648 ≤ i2) (p4 : i2 ≤ 2147483647) : Go (fun o => ((o) = true → 0 ≤ i1 ∧ i1 < (t_polygon : Int) ∧ 0 ≤ i2 ∧ i2 < (t_polygon : Int)) ∧ ((o) = false → ¬ (0 ≤ i1 ∧ i1 < (t_polygon : Int) ∧ 0 ≤ i2 ∧ i2 < (t_polygon : Int)))) (zf_X10_areCorners mk t_polygon i1 i2) := by
  unfold zf_X10_areCorners
  have grt_polygon := zno_rng p0
  have g7t_polygon := rpg7 (n := t_polygon) (by omega) (by omega)
  have g8t_polygon := rpg8 (n := t_polygon) (by omega) (by omega)
  refine Go_chk (by assumption) ?_
  refine Go_bindP (ok_X5_hasCorner t_polygon i1 (by first | assumption | omega) (by first | assumption | omega) (by first | assumption | omega) (by first | assumption | omega)) (fun o2 q1 => ?_)
  obtain ⟨q1_0, q1_1⟩ := q1
  refine Go_ite (fun c2 => ?_) (fun c2 => ?_)
  · have dc2 := q1_1 c2
    exact Go_i (show ((false) = true → 0 ≤ i1 ∧ i1 < (t_polygon : Int) ∧ 0 ≤ i2 ∧ i2 < (t_polygon : Int)) ∧ ((false) = false → ¬ (0 ≤ i1 ∧ i1 < (t_polygon : Int) ∧ 0 ≤ i2 ∧ i2 < (t_polygon : Int))) from ⟨(by intro h; first | exact True.intro | omega | (exact absurd h (by decide))), (by intro h; first | exact True.intro | omega | (exact absurd h (by decide)))⟩)
  · have dc2 := q1_0 (bnf c2)
    refine Go_bindP (ok_X5_hasCorner t_polygon i2 (by first | assumption | omega) (by first | assumption | omega) (by first | assumption | omega) (by first | assumption | omega)) (fun o3 q3 => ?_)
    obtain ⟨q3_0, q3_1⟩ := q3
    refine Go_ite (fun c4 => ?_) (fun c4 => ?_)
    · have dc4 := q3_1 c4
      exact Go_i (show ((false) = true → 0 ≤ i1 ∧ i1 < (t_polygon : Int) ∧ 0 ≤ i2 ∧ i2 < (t_polygon : Int)) ∧ ((false) = false → ¬ (0 ≤ i1 ∧ i1 < (t_polygon : Int) ∧ 0 ≤ i2 ∧ i2 < (t_polygon : Int))) from ⟨(by intro h; first | exact True.intro | omega | (exact absurd h (by decide))), (by intro h; first | exact True.intro | omega | (exact absurd h (by decide)))⟩)
    · have dc4 := q3_0 (bnf c4)
      exact Go_i (show ((true) = true → 0 ≤ i1 ∧ i1 < (t_polygon : Int) ∧ 0 ≤ i2 ∧ i2 < (t_polygon : Int)) ∧ ((true) = false → ¬ (0 ≤ i1 ∧ i1 < (t_polygon : Int) ∧ 0 ≤ i2 ∧ i2 < (t_polygon : Int))) from ⟨(by intro h; first | exact True.intro | omega | (exact absurd h (by decide))), (by intro h; first | exact True.intro | omega | (exact absurd h (by decide)))⟩)
set_option maxRecDepth 20000 in
theorem ok_X10_entry (mk : Nat) (t_polygon : Nat) (t_bits : Int) (i1 : Int) (i2 : Int) (p0 : ¬ zno mk t_polygon) (p1 : isCut t_polygon t_bits) (p2 : -2147483648 ≤ i1) (p3 : i1 ≤ 2147483647) (p4 : -2147483648 ≤ i2) (p5 : i2 ≤ 2147483647) : Go (fun o => True) (zf_X10_entry mk t_polygon t_bits i1 i2) := by
  unfold zf_X10_entry
  have grt_polygon := zno_rng p0
  have g7t_polygon := rpg7 (n := t_polygon) (by omega) (by omega)
  have g8t_polygon := rpg8 (n := t_polygon) (by omega) (by omega)
  refine Go_bindP (ok_X10_areCorners mk t_polygon i1 i2 (by first | assumption | omega) (by first | assumption | omega) (by first | assumption | omega) (by first | assumption | omega) (by first | assumption | omega)) (fun o1 q1 => ?_)
  obtain ⟨q1_0, q1_1⟩ := q1
  refine Go_ite (fun c2 => ?_) (fun c2 => ?_)
  · have dc2 := q1_1 c2
    exact Go_i (show True from trivial)
  · have dc2 := q1_0 (bnf c2)
    refine Go_chk (by assumption) ?_
    refine Go_bindP (ok_X5_entryOf t_polygon t_bits i1 i2 (by first | assumption | omega) (by first | assumption | omega) (by first | assumption | exact isCut_at (by omega) (by omega)) (by first | assumption | omega) (by first | assumption | omega) (by first | assumption | omega) (by first | assumption | omega)) (fun o3 q3 => ?_)
    obtain ⟨q3_0, q3_1⟩ := q3
    exact Go_i (show True from trivial)
set_option maxRecDepth 20000 in
theorem ok_X10_row (mk : Nat) (t_polygon : Nat) (t_bits : Int) (i1 : Int) (p0 : ¬ zno mk t_polygon) (p1 : -2147483648 ≤ i1) (p2 : i1 ≤ 2147483647) : Go (fun o => True) (zf_X10_row mk t_polygon t_bits i1) := by
  unfold zf_X10_row
  have grt_polygon := zno_rng p0
  have g7t_polygon := rpg7 (n := t_polygon) (by omega) (by omega)
  have g8t_polygon := rpg8 (n := t_polygon) (by omega) (by omega)
  refine Go_chk (by assumption) ?_
  refine Go_bindP (ok_X5_hasCorner t_polygon i1 (by first | assumption | omega) (by first | assumption | omega) (by first | assumption | omega) (by first | assumption | omega)) (fun o2 q1 => ?_)
  obtain ⟨q1_0, q1_1⟩ := q1
  refine Go_ite (fun c2 => ?_) (fun c2 => ?_)
  · have dc2 := q1_1 c2
    exact Go_i (show True from trivial)
  · have dc2 := q1_0 (bnf c2)
    refine Go_bindP (ok_X5_trianglesAt t_polygon t_bits i1 (by first | assumption | omega) (by first | assumption | omega) (by first | assumption | omega) (by first | assumption | omega)) (fun o3 q3 => ?_)
    obtain ⟨q3_0, q3_1, q3_2⟩ := q3
    exact Go_i (show True from trivial)
set_option maxRecDepth 20000 in
theorem ok_X10_way (mk : Nat) (t_polygon : Nat) (t_bits : Int) (triangles_count : Int) (triangles_polygon : Nat) (triangles_from : Int) (triangles_length : Int) (triangles_waysAhead : Int) (triangles_cornersOf : Nat) (triangles_chosen : Nat) (i1 : Int) (i2 : Int) (i3 : Int) (i4 : Int) (p0 : ¬ zno mk t_polygon) (p1 : isCut t_polygon t_bits) (p2 : -2147483648 ≤ i1) (p3 : i1 ≤ 2147483647) (p4 : -2147483648 ≤ i2) (p5 : i2 ≤ 2147483647) (p6 : -2147483648 ≤ i3) (p7 : i3 ≤ 2147483647) (p8 : -2147483648 ≤ i4) (p9 : i4 ≤ 2147483647) (p10 : 0 ≤ triangles_count) (p11 : triangles_count ≤ 7) : Go (fun o => 0 ≤ (o.2.1) ∧ (o.2.1) ≤ 7) (zf_X10_way mk t_polygon t_bits triangles_count triangles_polygon triangles_from triangles_length triangles_waysAhead triangles_cornersOf triangles_chosen i1 i2 i3 i4) := by
  unfold zf_X10_way
  have grt_polygon := zno_rng p0
  have g7t_polygon := rpg7 (n := t_polygon) (by omega) (by omega)
  have g8t_polygon := rpg8 (n := t_polygon) (by omega) (by omega)
  refine Go_bindP (ok_X10_areCorners mk t_polygon i1 i2 (by first | assumption | omega) (by first | assumption | omega) (by first | assumption | omega) (by first | assumption | omega) (by first | assumption | omega)) (fun o1 q1 => ?_)
  obtain ⟨q1_0, q1_1⟩ := q1
  refine Go_ite (fun c2 => ?_) (fun c2 => ?_)
  · have dc2 := q1_1 c2
    exact Go_i (show 0 ≤ (triangles_count) ∧ (triangles_count) ≤ 7 from ⟨(by first | assumption | omega), (by first | assumption | omega)⟩)
  · have dc2 := q1_0 (bnf c2)
    refine Go_chk (by assumption) ?_
    refine Go_bindP (ok_X5_hasCorner t_polygon i4 (by first | assumption | omega) (by first | assumption | omega) (by first | assumption | omega) (by first | assumption | omega)) (fun o3 q3 => ?_)
    obtain ⟨q3_0, q3_1⟩ := q3
    refine Go_ite (fun c4 => ?_) (fun c4 => ?_)
    · have dc4 := q3_1 c4
      exact Go_i (show 0 ≤ (triangles_count) ∧ (triangles_count) ≤ 7 from ⟨(by first | assumption | omega), (by first | assumption | omega)⟩)
    · have dc4 := q3_0 (bnf c4)
      refine Go_chk (by unfold zout; omega) ?_
      refine Go_ite (fun c5 => ?_) (fun c5 => ?_)
      · exact Go_i (show 0 ≤ (triangles_count) ∧ (triangles_count) ≤ 7 from ⟨(by first | assumption | omega), (by first | assumption | omega)⟩)
      · refine Go_bindP (ok_X5_entryOf t_polygon t_bits i1 i2 (by first | assumption | omega) (by first | assumption | omega) (by first | assumption | exact isCut_at (by omega) (by omega)) (by first | assumption | omega) (by first | assumption | omega) (by first | assumption | omega) (by first | assumption | omega)) (fun o5 q6 => ?_)
        obtain ⟨q6_0, q6_1⟩ := q6
        refine Go_chk (by unfold zout; omega) ?_
        refine Go_ite (fun c7 => ?_) (fun c7 => ?_)
        · refine Go_bindP (ok_X5_ahead t_polygon i1 i4 (by first | assumption | omega) (by first | assumption | omega) (by first | assumption | omega) (by first | assumption | omega) (by first | assumption | omega) (by first | assumption | omega)) (fun o7 q8 => ?_)
          obtain ⟨q8_0, q8_1⟩ := q8
          refine Go_chk (by unfold zout; omega) ?_
          refine Go_ite (fun c9 => ?_) (fun c9 => ?_)
          · exact Go_i (show 0 ≤ (triangles_count) ∧ (triangles_count) ≤ 7 from ⟨(by first | assumption | omega), (by first | assumption | omega)⟩)
          · refine Go_bindP (ok_X5_ahead t_polygon i1 i2 (by first | assumption | omega) (by first | assumption | omega) (by first | assumption | omega) (by first | assumption | omega) (by first | assumption | omega) (by first | assumption | omega)) (fun o9 q10 => ?_)
            obtain ⟨q10_0, q10_1⟩ := q10
            refine Go_chk (by unfold zout; omega) ?_
            refine Go_ite (fun c11 => ?_) (fun c11 => ?_)
            · refine Go_bindP (ok_X9_gather mk triangles_count triangles_cornersOf t_polygon t_bits (by first | assumption | omega)) (fun o11 q12 => ?_)
              obtain ⟨q12_0, q12_1⟩ := q12
              refine Go_bindP (ok_X9_onWay mk (o11.1) triangles_polygon triangles_from triangles_length triangles_waysAhead (o11.2) triangles_chosen t_polygon i1 i2 i3 (o7 - (1 : Int)) (by first | assumption | omega) (by first | assumption | omega) (by first | assumption | omega) (by first | assumption | omega) (by first | assumption | omega) (by first | assumption | omega) (by first | assumption | omega) (by first | assumption | omega) (by first | assumption | omega) (by first | assumption | omega) (by first | assumption | omega)) (fun o12 q13 => ?_)
              obtain ⟨q13_0, q13_1, q13_2⟩ := q13
              exact Go_i (show 0 ≤ ((o11.1)) ∧ ((o11.1)) ≤ 7 from ⟨(by first | assumption | omega), (by first | assumption | omega)⟩)
            · exact Go_i (show 0 ≤ (triangles_count) ∧ (triangles_count) ≤ 7 from ⟨(by first | assumption | omega), (by first | assumption | omega)⟩)
        · exact Go_i (show 0 ≤ (triangles_count) ∧ (triangles_count) ≤ 7 from ⟨(by first | assumption | omega), (by first | assumption | omega)⟩)
set_option maxRecDepth 20000 in
theorem ok_X10_fewest (mk : Nat) (t_polygon : Nat) (t_bits : Int) (flips_wayLength : Int) (flips_queued : Int) (flips_steps : Nat) (flips_queue : Nat) (flips_way : Nat) (i1 : Int) (p0 : ¬ zno mk t_polygon) (p1 : -2147483648 ≤ t_bits) (p2 : t_bits ≤ 2147483647) (p3 : -2147483648 ≤ i1) (p4 : i1 ≤ 2147483647) (p5 : 0 ≤ flips_wayLength) (p6 : flips_wayLength ≤ 429) : Go (fun o => 0 ≤ (o.2.1) ∧ (o.2.1) ≤ 429) (zf_X10_fewest mk t_polygon t_bits flips_wayLength flips_queued flips_steps flips_queue flips_way i1) := by
  unfold zf_X10_fewest
  have grt_polygon := zno_rng p0
  have g7t_polygon := rpg7 (n := t_polygon) (by omega) (by omega)
  have g8t_polygon := rpg8 (n := t_polygon) (by omega) (by omega)
  refine Go_chk (by assumption) ?_
  refine Go_bindP (ok_X5_hasCut t_polygon i1 (by first | assumption | omega) (by first | assumption | omega) (by first | assumption | omega) (by first | assumption | omega)) (fun o2 q1 => ?_)
  obtain ⟨q1_0, q1_1⟩ := q1
  refine Go_ite (fun c2 => ?_) (fun c2 => ?_)
  · have dc2 := q1_1 c2
    exact Go_i (show 0 ≤ (flips_wayLength) ∧ (flips_wayLength) ≤ 429 from ⟨(by first | assumption | omega), (by first | assumption | omega)⟩)
  · have dc2 := q1_0 (bnf c2)
    refine Go_bindP (ok_X5_numberOf t_polygon t_bits (by first | assumption | omega) (by first | assumption | omega) (by first | assumption | omega) (by first | assumption | omega)) (fun o3 q3 => ?_)
    obtain ⟨q3_0, q3_1⟩ := q3
    refine Go_bindP (ok_X4_layWay mk flips_wayLength flips_queued flips_steps flips_queue flips_way t_polygon o3 i1 (by first | assumption | omega) (by first | assumption | omega) (by first | assumption | omega) (by first | assumption | omega) (by first | assumption | omega)) (fun o4 q4 => ?_)
    obtain ⟨q4_0, q4_1, q4_2, q4_3⟩ := q4
    exact Go_i (show 0 ≤ ((o4.2.1)) ∧ ((o4.2.1)) ≤ 429 from ⟨(by first | assumption | omega), (by first | assumption | omega)⟩)
set_option maxRecDepth 20000 in
theorem ok_X10_passed (mk : Nat) (flips_wayLength : Int) (flips_way : Nat) (i1 : Int) (p0 : 0 ≤ flips_wayLength) (p1 : flips_wayLength ≤ 429) (p2 : -2147483648 ≤ i1) (p3 : i1 ≤ 2147483647) : Go (fun o => True) (zf_X10_passed mk flips_wayLength flips_way i1) := by
  unfold zf_X10_passed
  refine Go_bindP (ok_X4_onWay flips_wayLength flips_way i1 (by first | assumption | omega) (by first | assumption | omega) (by first | assumption | omega) (by first | assumption | omega)) (fun o1 q1 => ?_)
  obtain ⟨q1_0, q1_1⟩ := q1
  exact Go_i (show True from trivial)
set_option maxRecDepth 20000 in
theorem ok_X10_farthest (mk : Nat) (t_polygon : Nat) (t_bits : Int) (flips_queued : Int) (flips_steps : Nat) (flips_queue : Nat) (i1 : Int) (p0 : ¬ zno mk t_polygon) (p1 : -2147483648 ≤ t_bits) (p2 : t_bits ≤ 2147483647) (p3 : -2147483648 ≤ i1) (p4 : i1 ≤ 2147483647) : Go (fun o => True) (zf_X10_farthest mk t_polygon t_bits flips_queued flips_steps flips_queue i1) := by
  unfold zf_X10_farthest
  have grt_polygon := zno_rng p0
  have g7t_polygon := rpg7 (n := t_polygon) (by omega) (by omega)
  have g8t_polygon := rpg8 (n := t_polygon) (by omega) (by omega)
  refine jok (fun (s : zS_X10_farthest) => match s with | (lab, i1', flips_queued', flips_steps', flips_queue') => (lab = 0 ∧ -2147483648 ≤ i1' ∧ i1' ≤ 2147483647) ∨ (lab = 11 ∧ -2147483648 ≤ i1' ∧ i1' ≤ 2147483647)) (fun (s : zS_X10_farthest) => match s with | (lab, i1', flips_queued', flips_steps', flips_queue') => if lab = 0 then 5 else if lab = 11 then 3 else 0) (fun (o : zO_X10_farthest) => True) ?_ _ ?_ ?_
  · intro s hI
    obtain ⟨lab, i1', flips_queued', flips_steps', flips_queue'⟩ := s
    have hI : (lab = 0 ∧ -2147483648 ≤ i1' ∧ i1' ≤ 2147483647) ∨ (lab = 11 ∧ -2147483648 ≤ i1' ∧ i1' ≤ 2147483647) := hI
    rcases hI with ⟨rfl, v0_0, v0_1⟩ | ⟨rfl, v11_0, v11_1⟩
    · show Go _ (zg_X10_farthest_0 mk t_polygon t_bits i1' flips_queued' flips_steps' flips_queue')
      unfold zg_X10_farthest_0
      refine Go_chk (by unfold zout; omega) ?_
      refine Go_ite (fun c1 => ?_) (fun c1 => ?_)
      · exact Go_i (show (((11 : Nat) = 0 ∧ -2147483648 ≤ (i1') ∧ (i1') ≤ 2147483647) ∨ ((11 : Nat) = 11 ∧ -2147483648 ≤ (i1') ∧ (i1') ≤ 2147483647)) ∧ 3 < 5 from ⟨Or.inr (⟨rfl, (by first | assumption | omega), (by first | assumption | omega)⟩), by omega⟩)
      · refine Go_ite (fun c2 => ?_) (fun c2 => ?_)
        · exact Go_i (show (((11 : Nat) = 0 ∧ -2147483648 ≤ (i1') ∧ (i1') ≤ 2147483647) ∨ ((11 : Nat) = 11 ∧ -2147483648 ≤ (i1') ∧ (i1') ≤ 2147483647)) ∧ 3 < 5 from ⟨Or.inr (⟨rfl, (by first | assumption | omega), (by first | assumption | omega)⟩), by omega⟩)
        · exact Go_i (show True from trivial)
    · show Go _ (zg_X10_farthest_11 mk t_polygon t_bits i1' flips_queued' flips_steps' flips_queue')
      unfold zg_X10_farthest_11
      refine Go_chk (by assumption) ?_
      refine Go_bindP (ok_X5_numberOf t_polygon t_bits (by first | assumption | omega) (by first | assumption | omega) (by first | assumption | omega) (by first | assumption | omega)) (fun o5 q3 => ?_)
      obtain ⟨q3_0, q3_1⟩ := q3
      refine Go_bindP (ok_X4_measure mk flips_queued' flips_steps' flips_queue' t_polygon o5 (by first | assumption | omega) (by first | assumption | omega) (by first | assumption | omega)) (fun o6 q4 => ?_)
      obtain ⟨q4_0, q4_1, q4_2⟩ := q4
      refine Go_bindP (ok_X4_mostSteps mk (o6.2.1) t_polygon (by first | assumption | omega) (by first | assumption | exact all_w (by assumption) (by omega) | (refine all_setw ?_ (Int.le_refl _) ?_ ?_ (by omega) (by omega) <;> first | assumption | omega) | exact all_setw (by assumption) (by omega) (by omega) (by omega) (by omega) (by omega))) (fun o7 q5 => ?_)
      obtain ⟨q5_0, q5_1⟩ := q5
      refine Go_chk (by unfold zout; omega) ?_
      refine Go_ite (fun c6 => ?_) (fun c6 => ?_)
      · exact Go_i (show True from trivial)
      · refine Go_bindP (ok_X4_howManyAt mk (o6.2.1) t_polygon o7 (by first | assumption | omega) (by first | assumption | exact all_w (by assumption) (by omega) | (refine all_setw ?_ (Int.le_refl _) ?_ ?_ (by omega) (by omega) <;> first | assumption | omega) | exact all_setw (by assumption) (by omega) (by omega) (by omega) (by omega) (by omega)) (by first | assumption | omega) (by first | assumption | omega)) (fun o9 q7 => ?_)
        obtain ⟨q7_0, q7_1⟩ := q7
        exact Go_i (show True from trivial)
  · exact (show ((0 : Nat) = 0 ∧ -2147483648 ≤ i1 ∧ i1 ≤ 2147483647) ∨ ((0 : Nat) = 11 ∧ -2147483648 ≤ i1 ∧ i1 ≤ 2147483647) from Or.inl (⟨rfl, (by first | assumption | omega), (by first | assumption | omega)⟩))
  · show 5 < jfuel
    unfold jfuel
    omega
set_option maxRecDepth 20000 in
theorem ok_X10_least (mk : Nat) (t_polygon : Nat) (t_bits : Int) (i1 : Bool) (p0 : ¬ zno mk t_polygon) (p1 : -2147483648 ≤ t_bits) (p2 : t_bits ≤ 2147483647) : Go (fun o => True) (zf_X10_least mk t_polygon t_bits i1) := by
  unfold zf_X10_least
  have grt_polygon := zno_rng p0
  have g7t_polygon := rpg7 (n := t_polygon) (by omega) (by omega)
  have g8t_polygon := rpg8 (n := t_polygon) (by omega) (by omega)
  refine Go_chk (by assumption) ?_
  refine Go_bindP (ok_X5_leastAlike t_polygon t_bits i1 (by first | assumption | omega) (by first | assumption | omega) (by first | assumption | omega) (by first | assumption | omega)) (fun o2 q1 => ?_)
  obtain ⟨q1_0, q1_1⟩ := q1
  refine Go_bindP (ok_X5_numberOf t_polygon o2 (by first | assumption | omega) (by first | assumption | omega) (by first | assumption | omega) (by first | assumption | omega)) (fun o3 q2 => ?_)
  obtain ⟨q2_0, q2_1⟩ := q2
  exact Go_i (show True from trivial)
set_option maxRecDepth 20000 in
theorem ok_X10_takeRow (mk : Nat) (t_polygon : Nat) (tape_length : Int) (tape_next : Int) (tape_kind : Int) (tape_place : Int) (tape_value : Int) (tape_bytes : Nat) (t_toldRow : Nat) (p0 : ¬ zno mk t_polygon) (p1 : 0 ≤ tape_length) (p2 : tape_length ≤ 300) (p3 : (∀ k : Nat, k < 10 → 0 ≤ zget t_toldRow k ∧ zget t_toldRow k ≤ 999)) : Go (fun o => (o.2.1) = 0 ∧ (∀ k : Nat, k < 10 → 0 ≤ zget (o.2.2.2.2.2.2) k ∧ zget (o.2.2.2.2.2.2) k ≤ 999)) (zf_X10_takeRow mk t_polygon tape_length tape_next tape_kind tape_place tape_value tape_bytes t_toldRow) := by
  unfold zf_X10_takeRow
  have grt_polygon := zno_rng p0
  have g7t_polygon := rpg7 (n := t_polygon) (by omega) (by omega)
  have g8t_polygon := rpg8 (n := t_polygon) (by omega) (by omega)
  refine Go_bindP (ok_X8_readNumbers tape_length tape_next tape_kind tape_place tape_value tape_bytes t_toldRow (by first | assumption | omega) (by first | assumption | omega) (by first | assumption | exact all_w (by assumption) (by omega) | (refine all_setw ?_ (Int.le_refl _) ?_ ?_ (by omega) (by omega) <;> first | assumption | omega) | exact all_setw (by assumption) (by omega) (by omega) (by omega) (by omega) (by omega))) (fun o1 q1 => ?_)
  obtain ⟨q1_0, q1_1, q1_2⟩ := q1
  refine Go_bindP (ok_X8_shorten tape_length (0 : Int) (by first | assumption | omega) (by first | assumption | omega) (by first | assumption | omega) (by first | assumption | omega)) (fun o2 q2 => ?_)
  obtain ⟨q2_0, q2_1, q2_2⟩ := q2
  refine Go_chk (by assumption) ?_
  refine Go_bindP (ok_X5_corners t_polygon ) (fun o4 q3 => ?_)
  refine Go_chk (by unfold zout; omega) ?_
  refine Go_chk (by unfold zout; omega) ?_
  refine Go_ite (fun c4 => ?_) (fun c4 => ?_)
  · exact Go_i (show (o2) = 0 ∧ (∀ k : Nat, k < 10 → 0 ≤ zget ((o1.2.2.2.2.2)) k ∧ zget ((o1.2.2.2.2.2)) k ≤ 999) from ⟨(by first | assumption | omega), (by first | assumption | exact all_w (by assumption) (by omega) | (refine all_setw ?_ (Int.le_refl _) ?_ ?_ (by omega) (by omega) <;> first | assumption | omega) | exact all_setw (by assumption) (by omega) (by omega) (by omega) (by omega) (by omega))⟩)
  · exact Go_i (show (o2) = 0 ∧ (∀ k : Nat, k < 10 → 0 ≤ zget ((o1.2.2.2.2.2)) k ∧ zget ((o1.2.2.2.2.2)) k ≤ 999) from ⟨(by first | assumption | omega), (by first | assumption | exact all_w (by assumption) (by omega) | (refine all_setw ?_ (Int.le_refl _) ?_ ?_ (by omega) (by omega) <;> first | assumption | omega) | exact all_setw (by assumption) (by omega) (by omega) (by omega) (by omega) (by omega))⟩)
set_option maxRecDepth 20000 in
theorem ok_X10_read (mk : Nat) (t_polygon : Nat) (t_bits : Int) (tape_length : Int) (tape_next : Int) (tape_kind : Int) (tape_place : Int) (tape_value : Int) (tape_bytes : Nat) (t_toldRow : Nat) (p0 : ¬ zno mk t_polygon) (p1 : isCut t_polygon t_bits) (p2 : 0 ≤ tape_length) (p3 : tape_length ≤ 300) (p4 : (∀ k : Nat, k < 10 → 0 ≤ zget t_toldRow k ∧ zget t_toldRow k ≤ 999)) : Go (fun o => isCut t_polygon (o.2.1) ∧ (o.2.2.1) = 0 ∧ (∀ k : Nat, k < 10 → 0 ≤ zget (o.2.2.2.2.2.2.2) k ∧ zget (o.2.2.2.2.2.2.2) k ≤ 999)) (zf_X10_read mk t_polygon t_bits tape_length tape_next tape_kind tape_place tape_value tape_bytes t_toldRow) := by
  unfold zf_X10_read
  have grt_polygon := zno_rng p0
  have g7t_polygon := rpg7 (n := t_polygon) (by omega) (by omega)
  have g8t_polygon := rpg8 (n := t_polygon) (by omega) (by omega)
  refine Go_bindP (ok_X10_takeRow mk t_polygon tape_length tape_next tape_kind tape_place tape_value tape_bytes t_toldRow (by first | assumption | omega) (by first | assumption | omega) (by first | assumption | omega) (by first | assumption | exact all_w (by assumption) (by omega) | (refine all_setw ?_ (Int.le_refl _) ?_ ?_ (by omega) (by omega) <;> first | assumption | omega) | exact all_setw (by assumption) (by omega) (by omega) (by omega) (by omega) (by omega))) (fun o1 q1 => ?_)
  obtain ⟨q1_0, q1_1⟩ := q1
  refine Go_ite (fun c2 => ?_) (fun c2 => ?_)
  · exact Go_i (show isCut t_polygon (t_bits) ∧ ((o1.2.1)) = 0 ∧ (∀ k : Nat, k < 10 → 0 ≤ zget ((o1.2.2.2.2.2.2)) k ∧ zget ((o1.2.2.2.2.2.2)) k ≤ 999) from ⟨(by first | assumption | exact isCut_at (by omega) (by omega)), (by first | assumption | omega), (by first | assumption | exact all_w (by assumption) (by omega) | (refine all_setw ?_ (Int.le_refl _) ?_ ?_ (by omega) (by omega) <;> first | assumption | omega) | exact all_setw (by assumption) (by omega) (by omega) (by omega) (by omega) (by omega))⟩)
  · refine Go_chk (by assumption) ?_
    refine Go_bindP (ok_X5_nearestTo t_polygon (o1.2.2.2.2.2.2) (by first | assumption | omega) (by first | assumption | omega) (by first | assumption | exact all_w (by assumption) (by omega) | (refine all_setw ?_ (Int.le_refl _) ?_ ?_ (by omega) (by omega) <;> first | assumption | omega) | exact all_setw (by assumption) (by omega) (by omega) (by omega) (by omega) (by omega))) (fun o3 q3 => ?_)
    obtain ⟨q3_0, q3_1⟩ := q3
    refine Go_bindP (ok_X5_cutAt t_polygon o3 (by first | assumption | omega) (by first | assumption | omega) (by first | assumption | omega) (by first | assumption | omega)) (fun o4 q4 => ?_)
    obtain ⟨q4_0, q4_1, q4_2⟩ := q4
    refine Go_bindP (ok_X5_differenceFrom t_polygon (o1.2.2.2.2.2.2) o4 (by first | assumption | omega) (by first | assumption | omega) (by first | assumption | exact all_w (by assumption) (by omega) | (refine all_setw ?_ (Int.le_refl _) ?_ ?_ (by omega) (by omega) <;> first | assumption | omega) | exact all_setw (by assumption) (by omega) (by omega) (by omega) (by omega) (by omega))) (fun o5 q5 => ?_)
    obtain ⟨q5_0, q5_1⟩ := q5
    refine Go_chk (by unfold zout; omega) ?_
    refine Go_ite (fun c6 => ?_) (fun c6 => ?_)
    · refine Go_bindP (ok_X5_cutAt t_polygon o3 (by first | assumption | omega) (by first | assumption | omega) (by first | assumption | omega) (by first | assumption | omega)) (fun o7 q7 => ?_)
      obtain ⟨q7_0, q7_1, q7_2⟩ := q7
      exact Go_i (show isCut t_polygon (o7) ∧ ((o1.2.1)) = 0 ∧ (∀ k : Nat, k < 10 → 0 ≤ zget ((o1.2.2.2.2.2.2)) k ∧ zget ((o1.2.2.2.2.2.2)) k ≤ 999) from ⟨(q7_2 ⟨by omega, by omega⟩), (by first | assumption | omega), (by first | assumption | exact all_w (by assumption) (by omega) | (refine all_setw ?_ (Int.le_refl _) ?_ ?_ (by omega) (by omega) <;> first | assumption | omega) | exact all_setw (by assumption) (by omega) (by omega) (by omega) (by omega) (by omega))⟩)
    · exact Go_i (show isCut t_polygon (t_bits) ∧ ((o1.2.1)) = 0 ∧ (∀ k : Nat, k < 10 → 0 ≤ zget ((o1.2.2.2.2.2.2)) k ∧ zget ((o1.2.2.2.2.2.2)) k ≤ 999) from ⟨(by first | assumption | exact isCut_at (by omega) (by omega)), (by first | assumption | omega), (by first | assumption | exact all_w (by assumption) (by omega) | (refine all_setw ?_ (Int.le_refl _) ?_ ?_ (by omega) (by omega) <;> first | assumption | omega) | exact all_setw (by assumption) (by omega) (by omega) (by omega) (by omega) (by omega))⟩)
set_option maxRecDepth 20000 in
theorem ok_X10_mend (mk : Nat) (t_polygon : Nat) (t_mendedNumber : Int) (tape_length : Int) (tape_next : Int) (tape_kind : Int) (tape_place : Int) (tape_value : Int) (tape_bytes : Nat) (t_toldRow : Nat) (p0 : ¬ zno mk t_polygon) (p1 : 0 ≤ tape_length) (p2 : tape_length ≤ 300) (p3 : (∀ k : Nat, k < 10 → 0 ≤ zget t_toldRow k ∧ zget t_toldRow k ≤ 999)) : Go (fun o => (o.2.2.1) = 0 ∧ (∀ k : Nat, k < 10 → 0 ≤ zget (o.2.2.2.2.2.2.2) k ∧ zget (o.2.2.2.2.2.2.2) k ≤ 999)) (zf_X10_mend mk t_polygon t_mendedNumber tape_length tape_next tape_kind tape_place tape_value tape_bytes t_toldRow) := by
  unfold zf_X10_mend
  have grt_polygon := zno_rng p0
  have g7t_polygon := rpg7 (n := t_polygon) (by omega) (by omega)
  have g8t_polygon := rpg8 (n := t_polygon) (by omega) (by omega)
  refine Go_bindP (ok_X10_takeRow mk t_polygon tape_length tape_next tape_kind tape_place tape_value tape_bytes t_toldRow (by first | assumption | omega) (by first | assumption | omega) (by first | assumption | omega) (by first | assumption | exact all_w (by assumption) (by omega) | (refine all_setw ?_ (Int.le_refl _) ?_ ?_ (by omega) (by omega) <;> first | assumption | omega) | exact all_setw (by assumption) (by omega) (by omega) (by omega) (by omega) (by omega))) (fun o1 q1 => ?_)
  obtain ⟨q1_0, q1_1⟩ := q1
  refine Go_ite (fun c2 => ?_) (fun c2 => ?_)
  · exact Go_i (show ((o1.2.1)) = 0 ∧ (∀ k : Nat, k < 10 → 0 ≤ zget ((o1.2.2.2.2.2.2)) k ∧ zget ((o1.2.2.2.2.2.2)) k ≤ 999) from ⟨(by first | assumption | omega), (by first | assumption | exact all_w (by assumption) (by omega) | (refine all_setw ?_ (Int.le_refl _) ?_ ?_ (by omega) (by omega) <;> first | assumption | omega) | exact all_setw (by assumption) (by omega) (by omega) (by omega) (by omega) (by omega))⟩)
  · refine Go_chk (by assumption) ?_
    refine Go_bindP (ok_X5_nearestTo t_polygon (o1.2.2.2.2.2.2) (by first | assumption | omega) (by first | assumption | omega) (by first | assumption | exact all_w (by assumption) (by omega) | (refine all_setw ?_ (Int.le_refl _) ?_ ?_ (by omega) (by omega) <;> first | assumption | omega) | exact all_setw (by assumption) (by omega) (by omega) (by omega) (by omega) (by omega))) (fun o3 q3 => ?_)
    obtain ⟨q3_0, q3_1⟩ := q3
    refine Go_bindP (ok_X5_cutAt t_polygon o3 (by first | assumption | omega) (by first | assumption | omega) (by first | assumption | omega) (by first | assumption | omega)) (fun o4 q4 => ?_)
    obtain ⟨q4_0, q4_1, q4_2⟩ := q4
    refine Go_bindP (ok_X5_differenceFrom t_polygon (o1.2.2.2.2.2.2) o4 (by first | assumption | omega) (by first | assumption | omega) (by first | assumption | exact all_w (by assumption) (by omega) | (refine all_setw ?_ (Int.le_refl _) ?_ ?_ (by omega) (by omega) <;> first | assumption | omega) | exact all_setw (by assumption) (by omega) (by omega) (by omega) (by omega) (by omega))) (fun o5 q5 => ?_)
    obtain ⟨q5_0, q5_1⟩ := q5
    exact Go_i (show ((o1.2.1)) = 0 ∧ (∀ k : Nat, k < 10 → 0 ≤ zget ((o1.2.2.2.2.2.2)) k ∧ zget ((o1.2.2.2.2.2.2)) k ≤ 999) from ⟨(by first | assumption | omega), (by first | assumption | exact all_w (by assumption) (by omega) | (refine all_setw ?_ (Int.le_refl _) ?_ ?_ (by omega) (by omega) <;> first | assumption | omega) | exact all_setw (by assumption) (by omega) (by omega) (by omega) (by omega) (by omega))⟩)
set_option maxRecDepth 20000 in
theorem ok_X10_mended (mk : Nat) (t_mendedNumber : Int)  : Go (fun o => True) (zf_X10_mended mk t_mendedNumber) := by
  unfold zf_X10_mended
  exact Go_i (show True from trivial)
set_option maxRecDepth 20000 in
theorem ok_X10_crossed (mk : Nat) (t_polygon : Nat) (t_bits : Int) (crossedLines_size : Int) (crossedLines_lines : Nat) (i1 : Int) (i2 : Int) (i3 : Int) (p0 : ¬ zno mk t_polygon) (p1 : -2147483648 ≤ i1) (p2 : i1 ≤ 2147483647) (p3 : -2147483648 ≤ i2) (p4 : i2 ≤ 2147483647) (p5 : -2147483648 ≤ i3) (p6 : i3 ≤ 2147483647) (p7 : 0 ≤ crossedLines_size) (p8 : crossedLines_size ≤ 27) : Go (fun o => 0 ≤ (o.2.1) ∧ (o.2.1) ≤ 27) (zf_X10_crossed mk t_polygon t_bits crossedLines_size crossedLines_lines i1 i2 i3) := by
  unfold zf_X10_crossed
  have grt_polygon := zno_rng p0
  have g7t_polygon := rpg7 (n := t_polygon) (by omega) (by omega)
  have g8t_polygon := rpg8 (n := t_polygon) (by omega) (by omega)
  refine Go_bindP (ok_X10_areCorners mk t_polygon i1 i2 (by first | assumption | omega) (by first | assumption | omega) (by first | assumption | omega) (by first | assumption | omega) (by first | assumption | omega)) (fun o1 q1 => ?_)
  obtain ⟨q1_0, q1_1⟩ := q1
  refine Go_ite (fun c2 => ?_) (fun c2 => ?_)
  · have dc2 := q1_1 c2
    exact Go_i (show 0 ≤ (crossedLines_size) ∧ (crossedLines_size) ≤ 27 from ⟨(by first | assumption | omega), (by first | assumption | omega)⟩)
  · have dc2 := q1_0 (bnf c2)
    refine Go_chk (by unfold zout; omega) ?_
    refine Go_chk (by unfold zout; omega) ?_
    refine Go_ite (fun c3 => ?_) (fun c3 => ?_)
    · exact Go_i (show 0 ≤ (crossedLines_size) ∧ (crossedLines_size) ≤ 27 from ⟨(by first | assumption | omega), (by first | assumption | omega)⟩)
    · refine Go_chk (by assumption) ?_
      refine Go_bindP (ok_X0_gather mk crossedLines_size crossedLines_lines t_polygon t_bits i1 i2 (by first | assumption | omega) (by first | assumption | omega) (by first | assumption | omega) (by first | assumption | omega) (by first | assumption | omega)) (fun o5 q4 => ?_)
      obtain ⟨q4_0, q4_1⟩ := q4
      refine Go_chk (by unfold zout; omega) ?_
      refine Go_ite (fun c5 => ?_) (fun c5 => ?_)
      · refine Go_bindP (ok_X0_size (o5.1) ) (fun o8 q6 => ?_)
        exact Go_i (show 0 ≤ ((o5.1)) ∧ ((o5.1)) ≤ 27 from ⟨(by first | assumption | omega), (by first | assumption | omega)⟩)
      · refine Go_bindP (ok_X0_pairAt mk (o5.1) (o5.2) t_polygon i3 (by first | assumption | omega) (by first | assumption | omega) (by first | assumption | omega) (by first | assumption | omega) (by first | assumption | omega)) (fun o7 q7 => ?_)
        obtain ⟨q7_0, q7_1⟩ := q7
        exact Go_i (show 0 ≤ ((o5.1)) ∧ ((o5.1)) ≤ 27 from ⟨(by first | assumption | omega), (by first | assumption | omega)⟩)
set_option maxRecDepth 20000 in
theorem ok_X10_side (mk : Nat) (t_polygon : Nat) (t_bits : Int) (crossedLines_size : Int) (crossedLines_lines : Nat) (i1 : Int) (i2 : Int) (i3 : Int) (p0 : ¬ zno mk t_polygon) (p1 : -2147483648 ≤ i1) (p2 : i1 ≤ 2147483647) (p3 : -2147483648 ≤ i2) (p4 : i2 ≤ 2147483647) (p5 : -2147483648 ≤ i3) (p6 : i3 ≤ 2147483647) (p7 : 0 ≤ crossedLines_size) (p8 : crossedLines_size ≤ 27) : Go (fun o => 0 ≤ (o.2.1) ∧ (o.2.1) ≤ 27) (zf_X10_side mk t_polygon t_bits crossedLines_size crossedLines_lines i1 i2 i3) := by
  unfold zf_X10_side
  have grt_polygon := zno_rng p0
  have g7t_polygon := rpg7 (n := t_polygon) (by omega) (by omega)
  have g8t_polygon := rpg8 (n := t_polygon) (by omega) (by omega)
  refine Go_bindP (ok_X10_areCorners mk t_polygon i1 i2 (by first | assumption | omega) (by first | assumption | omega) (by first | assumption | omega) (by first | assumption | omega) (by first | assumption | omega)) (fun o1 q1 => ?_)
  obtain ⟨q1_0, q1_1⟩ := q1
  refine Go_ite (fun c2 => ?_) (fun c2 => ?_)
  · have dc2 := q1_1 c2
    exact Go_i (show 0 ≤ (crossedLines_size) ∧ (crossedLines_size) ≤ 27 from ⟨(by first | assumption | omega), (by first | assumption | omega)⟩)
  · have dc2 := q1_0 (bnf c2)
    refine Go_chk (by unfold zout; omega) ?_
    refine Go_chk (by unfold zout; omega) ?_
    refine Go_ite (fun c3 => ?_) (fun c3 => ?_)
    · exact Go_i (show 0 ≤ (crossedLines_size) ∧ (crossedLines_size) ≤ 27 from ⟨(by first | assumption | omega), (by first | assumption | omega)⟩)
    · refine Go_chk (by assumption) ?_
      refine Go_bindP (ok_X0_gather mk crossedLines_size crossedLines_lines t_polygon t_bits i1 i2 (by first | assumption | omega) (by first | assumption | omega) (by first | assumption | omega) (by first | assumption | omega) (by first | assumption | omega)) (fun o5 q4 => ?_)
      obtain ⟨q4_0, q4_1⟩ := q4
      refine Go_bindP (ok_X0_sharedWithNext mk (o5.1) (o5.2) t_polygon i3 (by first | assumption | omega) (by first | assumption | omega) (by first | assumption | omega) (by first | assumption | omega) (by first | assumption | omega)) (fun o6 q5 => ?_)
      obtain ⟨q5_0, q5_1⟩ := q5
      refine Go_chk (by unfold zout; omega) ?_
      refine Go_ite (fun c6 => ?_) (fun c6 => ?_)
      · exact Go_i (show 0 ≤ ((o5.1)) ∧ ((o5.1)) ≤ 27 from ⟨(by first | assumption | omega), (by first | assumption | omega)⟩)
      · refine Go_bindP (ok_X5_ahead t_polygon i1 o6 (by first | assumption | omega) (by first | assumption | omega) (by first | assumption | omega) (by first | assumption | omega) (by first | assumption | omega) (by first | assumption | omega)) (fun o8 q7 => ?_)
        obtain ⟨q7_0, q7_1⟩ := q7
        refine Go_bindP (ok_X5_ahead t_polygon i1 i2 (by first | assumption | omega) (by first | assumption | omega) (by first | assumption | omega) (by first | assumption | omega) (by first | assumption | omega) (by first | assumption | omega)) (fun o9 q8 => ?_)
        obtain ⟨q8_0, q8_1⟩ := q8
        refine Go_chk (by unfold zout; omega) ?_
        refine Go_chk (by unfold zout; omega) ?_
        refine Go_ite (fun c9 => ?_) (fun c9 => ?_)
        · exact Go_i (show 0 ≤ ((o5.1)) ∧ ((o5.1)) ≤ 27 from ⟨(by first | assumption | omega), (by first | assumption | omega)⟩)
        · exact Go_i (show 0 ≤ ((o5.1)) ∧ ((o5.1)) ≤ 27 from ⟨(by first | assumption | omega), (by first | assumption | omega)⟩)
set_option maxRecDepth 20000 in
theorem ok_X10_spread (mk : Nat) (t_polygon : Nat) (i1 : Int) (i2 : Int) (i3 : Int) (p0 : ¬ zno mk t_polygon) (p1 : -2147483648 ≤ i1) (p2 : i1 ≤ 2147483647) (p3 : -2147483648 ≤ i2) (p4 : i2 ≤ 2147483647) (p5 : -2147483648 ≤ i3) (p6 : i3 ≤ 2147483647) : Go (fun o => True) (zf_X10_spread mk t_polygon i1 i2 i3) := by
  unfold zf_X10_spread
  have grt_polygon := zno_rng p0
  have g7t_polygon := rpg7 (n := t_polygon) (by omega) (by omega)
  have g8t_polygon := rpg8 (n := t_polygon) (by omega) (by omega)
  refine Go_bindP (ok_X10_areCorners mk t_polygon i1 i2 (by first | assumption | omega) (by first | assumption | omega) (by first | assumption | omega) (by first | assumption | omega) (by first | assumption | omega)) (fun o1 q1 => ?_)
  obtain ⟨q1_0, q1_1⟩ := q1
  refine Go_ite (fun c2 => ?_) (fun c2 => ?_)
  · have dc2 := q1_1 c2
    exact Go_i (show True from trivial)
  · have dc2 := q1_0 (bnf c2)
    refine Go_chk (by assumption) ?_
    refine Go_bindP (ok_X5_countWith t_polygon i1 i2 i3 (by first | assumption | omega) (by first | assumption | omega) (by first | assumption | omega) (by first | assumption | omega) (by first | assumption | omega) (by first | assumption | omega) (by first | assumption | omega) (by first | assumption | omega)) (fun o3 q3 => ?_)
    obtain ⟨q3_0, q3_1⟩ := q3
    exact Go_i (show True from trivial)
set_option maxRecDepth 20000 in
theorem ok_X10_period (mk : Nat) (tape_length : Int) (tape_next : Int) (tape_kind : Int) (tape_place : Int) (tape_value : Int) (tape_bytes : Nat) (endless_size : Int) (endless_numbers : Nat) (t_toldRow : Nat) (p0 : 0 ≤ tape_length) (p1 : tape_length ≤ 300) (p2 : 1 ≤ endless_size) (p3 : endless_size ≤ 10) (p4 : (∀ k : Nat, k < 10 → 0 ≤ zget endless_numbers k ∧ zget endless_numbers k ≤ 20)) (p5 : (∀ k : Nat, k < 10 → 0 ≤ zget t_toldRow k ∧ zget t_toldRow k ≤ 999)) : Go (fun o => (o.2.1) = 0 ∧ 1 ≤ (o.2.2.2.2.2.2.1) ∧ (o.2.2.2.2.2.2.1) ≤ 10 ∧ (∀ k : Nat, k < 10 → 0 ≤ zget (o.2.2.2.2.2.2.2.1) k ∧ zget (o.2.2.2.2.2.2.2.1) k ≤ 20) ∧ (∀ k : Nat, k < 10 → 0 ≤ zget (o.2.2.2.2.2.2.2.2) k ∧ zget (o.2.2.2.2.2.2.2.2) k ≤ 999)) (zf_X10_period mk tape_length tape_next tape_kind tape_place tape_value tape_bytes endless_size endless_numbers t_toldRow) := by
  unfold zf_X10_period
  refine Go_bindP (ok_X8_readNumbers tape_length tape_next tape_kind tape_place tape_value tape_bytes t_toldRow (by first | assumption | omega) (by first | assumption | omega) (by first | assumption | exact all_w (by assumption) (by omega) | (refine all_setw ?_ (Int.le_refl _) ?_ ?_ (by omega) (by omega) <;> first | assumption | omega) | exact all_setw (by assumption) (by omega) (by omega) (by omega) (by omega) (by omega))) (fun o1 q1 => ?_)
  obtain ⟨q1_0, q1_1, q1_2⟩ := q1
  refine Go_bindP (ok_X8_shorten tape_length (0 : Int) (by first | assumption | omega) (by first | assumption | omega) (by first | assumption | omega) (by first | assumption | omega)) (fun o2 q2 => ?_)
  obtain ⟨q2_0, q2_1, q2_2⟩ := q2
  refine Go_bindP (ok_X2_accepts (o1.2.2.2.2.2) (o1.1) (by first | assumption | omega) (by first | assumption | omega)) (fun o3 q3 => ?_)
  obtain ⟨q3_0, q3_1⟩ := q3
  refine Go_ite (fun c4 => ?_) (fun c4 => ?_)
  · have dc4 := q3_1 c4
    exact Go_i (show (o2) = 0 ∧ 1 ≤ (endless_size) ∧ (endless_size) ≤ 10 ∧ (∀ k : Nat, k < 10 → 0 ≤ zget (endless_numbers) k ∧ zget (endless_numbers) k ≤ 20) ∧ (∀ k : Nat, k < 10 → 0 ≤ zget ((o1.2.2.2.2.2)) k ∧ zget ((o1.2.2.2.2.2)) k ≤ 999) from ⟨(by first | assumption | omega), (by first | assumption | omega), (by first | assumption | omega), (by first | assumption | exact all_w (by assumption) (by omega) | (refine all_setw ?_ (Int.le_refl _) ?_ ?_ (by omega) (by omega) <;> first | assumption | omega) | exact all_setw (by assumption) (by omega) (by omega) (by omega) (by omega) (by omega)), (by first | assumption | exact all_w (by assumption) (by omega) | (refine all_setw ?_ (Int.le_refl _) ?_ ?_ (by omega) (by omega) <;> first | assumption | omega) | exact all_setw (by assumption) (by omega) (by omega) (by omega) (by omega) (by omega))⟩)
  · have dc4 := q3_0 (bnf c4)
    obtain ⟨dc4a, dc4b, dc4c⟩ := dc4
    refine Go_bindP (ok_X2_become endless_size endless_numbers (o1.2.2.2.2.2) (o1.1) (by first | assumption | omega) (by first | assumption | omega) (by first | assumption | exact all_w (by assumption) (by omega) | (refine all_setw ?_ (Int.le_refl _) ?_ ?_ (by omega) (by omega) <;> first | assumption | omega) | exact all_setw (by assumption) (by omega) (by omega) (by omega) (by omega) (by omega)) (by first | assumption | exact all_w (by assumption) (by omega) | (refine all_setw ?_ (Int.le_refl _) ?_ ?_ (by omega) (by omega) <;> first | assumption | omega) | exact all_setw (by assumption) (by omega) (by omega) (by omega) (by omega) (by omega))) (fun o4 q5 => ?_)
    obtain ⟨q5_0, q5_1, q5_2⟩ := q5
    exact Go_i (show (o2) = 0 ∧ 1 ≤ ((o4.2.1)) ∧ ((o4.2.1)) ≤ 10 ∧ (∀ k : Nat, k < 10 → 0 ≤ zget ((o4.2.2)) k ∧ zget ((o4.2.2)) k ≤ 20) ∧ (∀ k : Nat, k < 10 → 0 ≤ zget ((o1.2.2.2.2.2)) k ∧ zget ((o1.2.2.2.2.2)) k ≤ 999) from ⟨(by first | assumption | omega), (by first | assumption | omega), (by first | assumption | omega), (by first | assumption | exact all_w (by assumption) (by omega) | (refine all_setw ?_ (Int.le_refl _) ?_ ?_ (by omega) (by omega) <;> first | assumption | omega) | exact all_setw (by assumption) (by omega) (by omega) (by omega) (by omega) (by omega)), (by first | assumption | exact all_w (by assumption) (by omega) | (refine all_setw ?_ (Int.le_refl _) ?_ ?_ (by omega) (by omega) <;> first | assumption | omega) | exact all_setw (by assumption) (by omega) (by omega) (by omega) (by omega) (by omega))⟩)
set_option maxRecDepth 20000 in
theorem ok_X10_ofCut (mk : Nat) (t_polygon : Nat) (t_bits : Int) (endless_size : Int) (endless_numbers : Nat) (t_toldRow : Nat) (p0 : ¬ zno mk t_polygon) (p1 : isCut t_polygon t_bits) (p2 : 1 ≤ endless_size) (p3 : endless_size ≤ 10) (p4 : (∀ k : Nat, k < 10 → 0 ≤ zget endless_numbers k ∧ zget endless_numbers k ≤ 20)) (p5 : (∀ k : Nat, k < 10 → 0 ≤ zget t_toldRow k ∧ zget t_toldRow k ≤ 999)) : Go (fun o => 1 ≤ (o.2.1) ∧ (o.2.1) ≤ 10 ∧ (∀ k : Nat, k < 10 → 0 ≤ zget (o.2.2.1) k ∧ zget (o.2.2.1) k ≤ 20) ∧ (∀ k : Nat, k < 10 → 0 ≤ zget (o.2.2.2) k ∧ zget (o.2.2.2) k ≤ 999)) (zf_X10_ofCut mk t_polygon t_bits endless_size endless_numbers t_toldRow) := by
  unfold zf_X10_ofCut
  have grt_polygon := zno_rng p0
  have g7t_polygon := rpg7 (n := t_polygon) (by omega) (by omega)
  have g8t_polygon := rpg8 (n := t_polygon) (by omega) (by omega)
  refine jok (fun (s : zS_X10_ofCut) => match s with | (lab, i1', endless_size', endless_numbers', t_toldRow') => (lab = 0 ∧ (∀ k : Nat, k < 10 → 0 ≤ zget endless_numbers' k ∧ zget endless_numbers' k ≤ 20) ∧ (∀ k : Nat, k < 10 → 0 ≤ zget t_toldRow' k ∧ zget t_toldRow' k ≤ 999)) ∨ (lab = 2 ∧ (∀ k : Nat, k < 10 → 0 ≤ zget endless_numbers' k ∧ zget endless_numbers' k ≤ 20) ∧ (∀ k : Nat, k < 10 → 0 ≤ zget t_toldRow' k ∧ zget t_toldRow' k ≤ 999) ∧ 0 ≤ i1' ∧ i1' ≤ (t_polygon : Int) ∧ (∀ k : Nat, (k : Int) < i1' → 0 ≤ zget t_toldRow' k ∧ zget t_toldRow' k ≤ 20))) (fun (s : zS_X10_ofCut) => match s with | (lab, i1', endless_size', endless_numbers', t_toldRow') => if lab = 0 then 50 else if lab = 2 then (20 - i1').toNat else 0) (fun (o : zO_X10_ofCut) => 1 ≤ (o.2.1) ∧ (o.2.1) ≤ 10 ∧ (∀ k : Nat, k < 10 → 0 ≤ zget (o.2.2.1) k ∧ zget (o.2.2.1) k ≤ 20) ∧ (∀ k : Nat, k < 10 → 0 ≤ zget (o.2.2.2) k ∧ zget (o.2.2.2) k ≤ 999)) ?_ _ ?_ ?_
  · intro s hI
    obtain ⟨lab, i1', endless_size', endless_numbers', t_toldRow'⟩ := s
    have hI : (lab = 0 ∧ (∀ k : Nat, k < 10 → 0 ≤ zget endless_numbers' k ∧ zget endless_numbers' k ≤ 20) ∧ (∀ k : Nat, k < 10 → 0 ≤ zget t_toldRow' k ∧ zget t_toldRow' k ≤ 999)) ∨ (lab = 2 ∧ (∀ k : Nat, k < 10 → 0 ≤ zget endless_numbers' k ∧ zget endless_numbers' k ≤ 20) ∧ (∀ k : Nat, k < 10 → 0 ≤ zget t_toldRow' k ∧ zget t_toldRow' k ≤ 999) ∧ 0 ≤ i1' ∧ i1' ≤ (t_polygon : Int) ∧ (∀ k : Nat, (k : Int) < i1' → 0 ≤ zget t_toldRow' k ∧ zget t_toldRow' k ≤ 20)) := hI
    rcases hI with ⟨rfl, v0_0, v0_1⟩ | ⟨rfl, v2_0, v2_1, v2_2, v2_3, v2_4⟩
    · show Go _ (zg_X10_ofCut_0 mk t_polygon t_bits i1' endless_size' endless_numbers' t_toldRow')
      unfold zg_X10_ofCut_0
      exact Go_i (show (((2 : Nat) = 0 ∧ (∀ k : Nat, k < 10 → 0 ≤ zget (endless_numbers') k ∧ zget (endless_numbers') k ≤ 20) ∧ (∀ k : Nat, k < 10 → 0 ≤ zget (t_toldRow') k ∧ zget (t_toldRow') k ≤ 999)) ∨ ((2 : Nat) = 2 ∧ (∀ k : Nat, k < 10 → 0 ≤ zget (endless_numbers') k ∧ zget (endless_numbers') k ≤ 20) ∧ (∀ k : Nat, k < 10 → 0 ≤ zget (t_toldRow') k ∧ zget (t_toldRow') k ≤ 999) ∧ 0 ≤ ((0 : Int)) ∧ ((0 : Int)) ≤ (t_polygon : Int) ∧ (∀ k : Nat, (k : Int) < ((0 : Int)) → 0 ≤ zget (t_toldRow') k ∧ zget (t_toldRow') k ≤ 20))) ∧ (20 - ((0 : Int))).toNat < 50 from ⟨Or.inr (⟨rfl, (by first | assumption | exact all_w (by assumption) (by omega) | (refine all_setw ?_ (Int.le_refl _) ?_ ?_ (by omega) (by omega) <;> first | assumption | omega) | exact all_setw (by assumption) (by omega) (by omega) (by omega) (by omega) (by omega)), (by first | assumption | exact all_w (by assumption) (by omega) | (refine all_setw ?_ (Int.le_refl _) ?_ ?_ (by omega) (by omega) <;> first | assumption | omega) | exact all_setw (by assumption) (by omega) (by omega) (by omega) (by omega) (by omega)), (by first | assumption | omega), (by first | assumption | omega), (by first | assumption | (intro k hk; omega) | (intro k hk; exact v2_4 k (by omega)) | exact all_pushl (by assumption) (by omega) (by omega) (by omega) (by omega) (by omega))⟩), by omega⟩)
    · show Go _ (zg_X10_ofCut_2 mk t_polygon t_bits i1' endless_size' endless_numbers' t_toldRow')
      unfold zg_X10_ofCut_2
      refine Go_chk (by assumption) ?_
      refine Go_bindP (ok_X5_corners t_polygon ) (fun o2 q1 => ?_)
      refine Go_chk (by unfold zout; omega) ?_
      refine Go_chk (by unfold zout; omega) ?_
      refine Go_ite (fun c2 => ?_) (fun c2 => ?_)
      · refine Go_bindP (ok_X5_corners t_polygon ) (fun o5 q3 => ?_)
        refine Go_bindP (ok_X2_become endless_size' endless_numbers' t_toldRow' o5 (by first | assumption | omega) (by first | assumption | omega) (by first | assumption | (intro k hk; omega) | (intro k hk; exact v2_4 k (by omega)) | exact all_pushl (by assumption) (by omega) (by omega) (by omega) (by omega) (by omega)) (by first | assumption | exact all_w (by assumption) (by omega) | (refine all_setw ?_ (Int.le_refl _) ?_ ?_ (by omega) (by omega) <;> first | assumption | omega) | exact all_setw (by assumption) (by omega) (by omega) (by omega) (by omega) (by omega))) (fun o6 q4 => ?_)
        obtain ⟨q4_0, q4_1, q4_2⟩ := q4
        exact Go_i (show 1 ≤ ((o6.2.1)) ∧ ((o6.2.1)) ≤ 10 ∧ (∀ k : Nat, k < 10 → 0 ≤ zget ((o6.2.2)) k ∧ zget ((o6.2.2)) k ≤ 20) ∧ (∀ k : Nat, k < 10 → 0 ≤ zget (t_toldRow') k ∧ zget (t_toldRow') k ≤ 999) from ⟨(by first | assumption | omega), (by first | assumption | omega), (by first | assumption | exact all_w (by assumption) (by omega) | (refine all_setw ?_ (Int.le_refl _) ?_ ?_ (by omega) (by omega) <;> first | assumption | omega) | exact all_setw (by assumption) (by omega) (by omega) (by omega) (by omega) (by omega)), (by first | assumption | exact all_w (by assumption) (by omega) | (refine all_setw ?_ (Int.le_refl _) ?_ ?_ (by omega) (by omega) <;> first | assumption | omega) | exact all_setw (by assumption) (by omega) (by omega) (by omega) (by omega) (by omega))⟩)
      · refine Go_bindP (ok_X5_trianglesAt t_polygon t_bits i1' (by first | assumption | omega) (by first | assumption | omega) (by first | assumption | omega) (by first | assumption | omega)) (fun o7 q5 => ?_)
        obtain ⟨q5_0, q5_1, q5_2⟩ := q5
        have sq5 := q5_2 p1
        refine Go_chk (by omega) ?_
        exact Go_i (show (((2 : Nat) = 0 ∧ (∀ k : Nat, k < 10 → 0 ≤ zget (endless_numbers') k ∧ zget (endless_numbers') k ≤ 20) ∧ (∀ k : Nat, k < 10 → 0 ≤ zget ((zset t_toldRow' (Int.toNat i1') o7)) k ∧ zget ((zset t_toldRow' (Int.toNat i1') o7)) k ≤ 999)) ∨ ((2 : Nat) = 2 ∧ (∀ k : Nat, k < 10 → 0 ≤ zget (endless_numbers') k ∧ zget (endless_numbers') k ≤ 20) ∧ (∀ k : Nat, k < 10 → 0 ≤ zget ((zset t_toldRow' (Int.toNat i1') o7)) k ∧ zget ((zset t_toldRow' (Int.toNat i1') o7)) k ≤ 999) ∧ 0 ≤ ((i1' + (1 : Int))) ∧ ((i1' + (1 : Int))) ≤ (t_polygon : Int) ∧ (∀ k : Nat, (k : Int) < ((i1' + (1 : Int))) → 0 ≤ zget ((zset t_toldRow' (Int.toNat i1') o7)) k ∧ zget ((zset t_toldRow' (Int.toNat i1') o7)) k ≤ 20))) ∧ (20 - ((i1' + (1 : Int)))).toNat < (20 - i1').toNat from ⟨Or.inr (⟨rfl, (by first | assumption | exact all_w (by assumption) (by omega) | (refine all_setw ?_ (Int.le_refl _) ?_ ?_ (by omega) (by omega) <;> first | assumption | omega) | exact all_setw (by assumption) (by omega) (by omega) (by omega) (by omega) (by omega)), (by first | assumption | exact all_w (by assumption) (by omega) | (refine all_setw ?_ (Int.le_refl _) ?_ ?_ (by omega) (by omega) <;> first | assumption | omega) | exact all_setw (by assumption) (by omega) (by omega) (by omega) (by omega) (by omega)), (by first | assumption | omega), (by first | assumption | omega), (by first | assumption | (intro k hk; omega) | (intro k hk; exact v2_4 k (by omega)) | exact all_pushl (by assumption) (by omega) (by omega) (by omega) (by omega) (by omega))⟩), by omega⟩)
  · exact (show ((0 : Nat) = 0 ∧ (∀ k : Nat, k < 10 → 0 ≤ zget endless_numbers k ∧ zget endless_numbers k ≤ 20) ∧ (∀ k : Nat, k < 10 → 0 ≤ zget t_toldRow k ∧ zget t_toldRow k ≤ 999)) ∨ ((0 : Nat) = 2 ∧ (∀ k : Nat, k < 10 → 0 ≤ zget endless_numbers k ∧ zget endless_numbers k ≤ 20) ∧ (∀ k : Nat, k < 10 → 0 ≤ zget t_toldRow k ∧ zget t_toldRow k ≤ 999) ∧ 0 ≤ 0 ∧ 0 ≤ (t_polygon : Int) ∧ (∀ k : Nat, (k : Int) < 0 → 0 ≤ zget t_toldRow k ∧ zget t_toldRow k ≤ 20)) from Or.inl (⟨rfl, (by first | assumption | exact all_w (by assumption) (by omega) | (refine all_setw ?_ (Int.le_refl _) ?_ ?_ (by omega) (by omega) <;> first | assumption | omega) | exact all_setw (by assumption) (by omega) (by omega) (by omega) (by omega) (by omega)), (by first | assumption | exact all_w (by assumption) (by omega) | (refine all_setw ?_ (Int.le_refl _) ?_ ?_ (by omega) (by omega) <;> first | assumption | omega) | exact all_setw (by assumption) (by omega) (by omega) (by omega) (by omega) (by omega))⟩))
  · show 50 < jfuel
    unfold jfuel
    omega
set_option maxRecDepth 20000 in
theorem ok_X10_of (mk : Nat) (endless_size : Int) (endless_numbers : Nat) (i1 : Int) (p0 : 1 ≤ endless_size) (p1 : endless_size ≤ 10) (p2 : (∀ k : Nat, k < 10 → 0 ≤ zget endless_numbers k ∧ zget endless_numbers k ≤ 20)) (p3 : -2147483648 ≤ i1) (p4 : i1 ≤ 2147483647) : Go (fun o => True) (zf_X10_of mk endless_size endless_numbers i1) := by
  unfold zf_X10_of
  refine Go_bindP (ok_X2_hasPlace endless_size i1 (by first | assumption | omega) (by first | assumption | omega) (by first | assumption | omega) (by first | assumption | omega)) (fun o1 q1 => ?_)
  obtain ⟨q1_0, q1_1⟩ := q1
  refine Go_ite (fun c2 => ?_) (fun c2 => ?_)
  · have dc2 := q1_1 c2
    exact Go_i (show True from trivial)
  · have dc2 := q1_0 (bnf c2)
    refine Go_bindP (ok_X2_at endless_size endless_numbers i1 (by first | assumption | omega) (by first | assumption | omega) (by first | assumption | exact all_w (by assumption) (by omega) | (refine all_setw ?_ (Int.le_refl _) ?_ ?_ (by omega) (by omega) <;> first | assumption | omega) | exact all_setw (by assumption) (by omega) (by omega) (by omega) (by omega) (by omega)) (by first | assumption | omega) (by first | assumption | omega)) (fun o2 q3 => ?_)
    obtain ⟨q3_0, q3_1, q3_2, q3_3, q3_4⟩ := q3
    exact Go_i (show True from trivial)
set_option maxRecDepth 20000 in
theorem ok_X10_along (mk : Nat) (endless_size : Int) (endless_numbers : Nat) (i1 : Int) (i2 : Int) (p0 : 1 ≤ endless_size) (p1 : endless_size ≤ 10) (p2 : (∀ k : Nat, k < 10 → 0 ≤ zget endless_numbers k ∧ zget endless_numbers k ≤ 20)) (p3 : -2147483648 ≤ i1) (p4 : i1 ≤ 2147483647) (p5 : -2147483648 ≤ i2) (p6 : i2 ≤ 2147483647) : Go (fun o => True) (zf_X10_along mk endless_size endless_numbers i1 i2) := by
  unfold zf_X10_along
  refine Go_bindP (ok_X2_hasPlace endless_size i1 (by first | assumption | omega) (by first | assumption | omega) (by first | assumption | omega) (by first | assumption | omega)) (fun o1 q1 => ?_)
  obtain ⟨q1_0, q1_1⟩ := q1
  refine Go_ite (fun c2 => ?_) (fun c2 => ?_)
  · have dc2 := q1_1 c2
    exact Go_i (show True from trivial)
  · have dc2 := q1_0 (bnf c2)
    refine Go_chk (by unfold zout; omega) ?_
    refine Go_ite (fun c3 => ?_) (fun c3 => ?_)
    · exact Go_i (show True from trivial)
    · refine Go_ite (fun c4 => ?_) (fun c4 => ?_)
      · refine Go_bindP (ok_X2_entryAt endless_size endless_numbers i1 i2 (by first | assumption | omega) (by first | assumption | omega) (by first | assumption | exact all_w (by assumption) (by omega) | (refine all_setw ?_ (Int.le_refl _) ?_ ?_ (by omega) (by omega) <;> first | assumption | omega) | exact all_setw (by assumption) (by omega) (by omega) (by omega) (by omega) (by omega)) (by first | assumption | omega) (by first | assumption | omega) (by first | assumption | omega) (by first | assumption | omega)) (fun o3 q5 => ?_)
        obtain ⟨q5_0, q5_1⟩ := q5
        exact Go_i (show True from trivial)
      · exact Go_i (show True from trivial)
set_option maxRecDepth 20000 in
theorem ok_X10_breaks (mk : Nat) (endless_size : Int) (endless_numbers : Nat) (i1 : Int) (p0 : 1 ≤ endless_size) (p1 : endless_size ≤ 10) (p2 : (∀ k : Nat, k < 10 → 0 ≤ zget endless_numbers k ∧ zget endless_numbers k ≤ 20)) (p3 : -2147483648 ≤ i1) (p4 : i1 ≤ 2147483647) : Go (fun o => True) (zf_X10_breaks mk endless_size endless_numbers i1) := by
  unfold zf_X10_breaks
  refine Go_bindP (ok_X2_breakLength endless_size endless_numbers (by first | assumption | omega) (by first | assumption | omega) (by first | assumption | exact all_w (by assumption) (by omega) | (refine all_setw ?_ (Int.le_refl _) ?_ ?_ (by omega) (by omega) <;> first | assumption | omega) | exact all_setw (by assumption) (by omega) (by omega) (by omega) (by omega) (by omega))) (fun o1 q1 => ?_)
  obtain ⟨q1_0, q1_1⟩ := q1
  refine Go_chk (by unfold zout; omega) ?_
  refine Go_ite (fun c2 => ?_) (fun c2 => ?_)
  · exact Go_i (show True from trivial)
  · refine Go_chk (by unfold zout; omega) ?_
    refine Go_ite (fun c3 => ?_) (fun c3 => ?_)
    · exact Go_i (show True from trivial)
    · refine Go_ite (fun c4 => ?_) (fun c4 => ?_)
      · refine Go_bindP (ok_X2_breakPlace endless_size endless_numbers o1 (by first | assumption | omega) (by first | assumption | omega) (by first | assumption | exact all_w (by assumption) (by omega) | (refine all_setw ?_ (Int.le_refl _) ?_ ?_ (by omega) (by omega) <;> first | assumption | omega) | exact all_setw (by assumption) (by omega) (by omega) (by omega) (by omega) (by omega)) (by first | assumption | omega) (by first | assumption | omega)) (fun o6 q5 => ?_)
        obtain ⟨q5_0, q5_1⟩ := q5
        exact Go_i (show True from trivial)
      · refine Go_ite (fun c6 => ?_) (fun c6 => ?_)
        · refine Go_bindP (ok_X2_comesBack endless_size endless_numbers o1 (by first | assumption | omega) (by first | assumption | omega) (by first | assumption | exact all_w (by assumption) (by omega) | (refine all_setw ?_ (Int.le_refl _) ?_ ?_ (by omega) (by omega) <;> first | assumption | omega) | exact all_setw (by assumption) (by omega) (by omega) (by omega) (by omega) (by omega)) (by first | assumption | omega) (by first | assumption | omega)) (fun o8 q7 => ?_)
          refine Go_ite (fun c8 => ?_) (fun c8 => ?_)
          · exact Go_i (show True from trivial)
          · exact Go_i (show True from trivial)
        · exact Go_i (show True from trivial)
set_option maxRecDepth 20000 in
theorem ok_X10_growth (mk : Nat) (endless_size : Int) (endless_numbers : Nat) (p0 : 1 ≤ endless_size) (p1 : endless_size ≤ 10) (p2 : (∀ k : Nat, k < 10 → 0 ≤ zget endless_numbers k ∧ zget endless_numbers k ≤ 20)) : Go (fun o => True) (zf_X10_growth mk endless_size endless_numbers) := by
  unfold zf_X10_growth
  refine Go_bindP (ok_X2_growthOfRound endless_size endless_numbers (by first | assumption | omega) (by first | assumption | omega) (by first | assumption | exact all_w (by assumption) (by omega) | (refine all_setw ?_ (Int.le_refl _) ?_ ?_ (by omega) (by omega) <;> first | assumption | omega) | exact all_setw (by assumption) (by omega) (by omega) (by omega) (by omega) (by omega))) (fun o1 q1 => ?_)
  exact Go_i (show True from trivial)
set_option maxRecDepth 20000 in
theorem ok_X10_glue (mk : Nat) (endless_size : Int) (endless_numbers : Nat) (i1 : Int) (p0 : 1 ≤ endless_size) (p1 : endless_size ≤ 10) (p2 : (∀ k : Nat, k < 10 → 0 ≤ zget endless_numbers k ∧ zget endless_numbers k ≤ 20)) (p3 : -2147483648 ≤ i1) (p4 : i1 ≤ 2147483647) : Go (fun o => 1 ≤ (o.2.1) ∧ (o.2.1) ≤ 10 ∧ (∀ k : Nat, k < 10 → 0 ≤ zget (o.2.2) k ∧ zget (o.2.2) k ≤ 20)) (zf_X10_glue mk endless_size endless_numbers i1) := by
  unfold zf_X10_glue
  refine Go_bindP (ok_X2_hasPlace endless_size i1 (by first | assumption | omega) (by first | assumption | omega) (by first | assumption | omega) (by first | assumption | omega)) (fun o1 q1 => ?_)
  obtain ⟨q1_0, q1_1⟩ := q1
  refine Go_ite (fun c2 => ?_) (fun c2 => ?_)
  · have dc2 := q1_1 c2
    exact Go_i (show 1 ≤ (endless_size) ∧ (endless_size) ≤ 10 ∧ (∀ k : Nat, k < 10 → 0 ≤ zget (endless_numbers) k ∧ zget (endless_numbers) k ≤ 20) from ⟨(by first | assumption | omega), (by first | assumption | omega), (by first | assumption | exact all_w (by assumption) (by omega) | (refine all_setw ?_ (Int.le_refl _) ?_ ?_ (by omega) (by omega) <;> first | assumption | omega) | exact all_setw (by assumption) (by omega) (by omega) (by omega) (by omega) (by omega))⟩)
  · have dc2 := q1_0 (bnf c2)
    refine Go_bindP (ok_X2_canGlue endless_size endless_numbers i1 (by first | assumption | omega) (by first | assumption | omega) (by first | assumption | exact all_w (by assumption) (by omega) | (refine all_setw ?_ (Int.le_refl _) ?_ ?_ (by omega) (by omega) <;> first | assumption | omega) | exact all_setw (by assumption) (by omega) (by omega) (by omega) (by omega) (by omega)) (by first | assumption | omega) (by first | assumption | omega)) (fun o2 q3 => ?_)
    obtain ⟨q3_0, q3_1⟩ := q3
    refine Go_ite (fun c4 => ?_) (fun c4 => ?_)
    · have dc4 := q3_1 c4
      exact Go_i (show 1 ≤ (endless_size) ∧ (endless_size) ≤ 10 ∧ (∀ k : Nat, k < 10 → 0 ≤ zget (endless_numbers) k ∧ zget (endless_numbers) k ≤ 20) from ⟨(by first | assumption | omega), (by first | assumption | omega), (by first | assumption | exact all_w (by assumption) (by omega) | (refine all_setw ?_ (Int.le_refl _) ?_ ?_ (by omega) (by omega) <;> first | assumption | omega) | exact all_setw (by assumption) (by omega) (by omega) (by omega) (by omega) (by omega))⟩)
    · have dc4 := q3_0 (bnf c4)
      refine Go_bindP (ok_X2_glueBehind endless_size endless_numbers i1 (by first | assumption | omega) (by first | assumption | omega) (by first | assumption | exact all_w (by assumption) (by omega) | (refine all_setw ?_ (Int.le_refl _) ?_ ?_ (by omega) (by omega) <;> first | assumption | omega) | exact all_setw (by assumption) (by omega) (by omega) (by omega) (by omega) (by omega)) (by first | assumption | omega) (by first | assumption | omega)) (fun o3 q5 => ?_)
      obtain ⟨q5_0, q5_1, q5_2, q5_3⟩ := q5
      exact Go_i (show 1 ≤ ((o3.2.1)) ∧ ((o3.2.1)) ≤ 10 ∧ (∀ k : Nat, k < 10 → 0 ≤ zget ((o3.2.2)) k ∧ zget ((o3.2.2)) k ≤ 20) from ⟨(by first | assumption | omega), (by first | assumption | omega), (by first | assumption | exact all_w (by assumption) (by omega) | (refine all_setw ?_ (Int.le_refl _) ?_ ?_ (by omega) (by omega) <;> first | assumption | omega) | exact all_setw (by assumption) (by omega) (by omega) (by omega) (by omega) (by omega))⟩)
set_option maxRecDepth 20000 in
theorem ok_X10_cutOff (mk : Nat) (endless_size : Int) (endless_numbers : Nat) (i1 : Int) (p0 : 1 ≤ endless_size) (p1 : endless_size ≤ 10) (p2 : (∀ k : Nat, k < 10 → 0 ≤ zget endless_numbers k ∧ zget endless_numbers k ≤ 20)) (p3 : -2147483648 ≤ i1) (p4 : i1 ≤ 2147483647) : Go (fun o => 1 ≤ (o.2.1) ∧ (o.2.1) ≤ 10 ∧ (∀ k : Nat, k < 10 → 0 ≤ zget (o.2.2) k ∧ zget (o.2.2) k ≤ 20)) (zf_X10_cutOff mk endless_size endless_numbers i1) := by
  unfold zf_X10_cutOff
  refine Go_bindP (ok_X2_hasPlace endless_size i1 (by first | assumption | omega) (by first | assumption | omega) (by first | assumption | omega) (by first | assumption | omega)) (fun o1 q1 => ?_)
  obtain ⟨q1_0, q1_1⟩ := q1
  refine Go_ite (fun c2 => ?_) (fun c2 => ?_)
  · have dc2 := q1_1 c2
    exact Go_i (show 1 ≤ (endless_size) ∧ (endless_size) ≤ 10 ∧ (∀ k : Nat, k < 10 → 0 ≤ zget (endless_numbers) k ∧ zget (endless_numbers) k ≤ 20) from ⟨(by first | assumption | omega), (by first | assumption | omega), (by first | assumption | exact all_w (by assumption) (by omega) | (refine all_setw ?_ (Int.le_refl _) ?_ ?_ (by omega) (by omega) <;> first | assumption | omega) | exact all_setw (by assumption) (by omega) (by omega) (by omega) (by omega) (by omega))⟩)
  · have dc2 := q1_0 (bnf c2)
    refine Go_bindP (ok_X2_canLose endless_size endless_numbers i1 (by first | assumption | omega) (by first | assumption | omega) (by first | assumption | exact all_w (by assumption) (by omega) | (refine all_setw ?_ (Int.le_refl _) ?_ ?_ (by omega) (by omega) <;> first | assumption | omega) | exact all_setw (by assumption) (by omega) (by omega) (by omega) (by omega) (by omega)) (by first | assumption | omega) (by first | assumption | omega)) (fun o2 q3 => ?_)
    obtain ⟨q3_0, q3_1⟩ := q3
    refine Go_ite (fun c4 => ?_) (fun c4 => ?_)
    · have dc4 := q3_1 c4
      exact Go_i (show 1 ≤ (endless_size) ∧ (endless_size) ≤ 10 ∧ (∀ k : Nat, k < 10 → 0 ≤ zget (endless_numbers) k ∧ zget (endless_numbers) k ≤ 20) from ⟨(by first | assumption | omega), (by first | assumption | omega), (by first | assumption | exact all_w (by assumption) (by omega) | (refine all_setw ?_ (Int.le_refl _) ?_ ?_ (by omega) (by omega) <;> first | assumption | omega) | exact all_setw (by assumption) (by omega) (by omega) (by omega) (by omega) (by omega))⟩)
    · have dc4 := q3_0 (bnf c4)
      refine Go_bindP (ok_X2_lose endless_size endless_numbers i1 (by first | assumption | omega) (by first | assumption | omega) (by first | assumption | exact all_w (by assumption) (by omega) | (refine all_setw ?_ (Int.le_refl _) ?_ ?_ (by omega) (by omega) <;> first | assumption | omega) | exact all_setw (by assumption) (by omega) (by omega) (by omega) (by omega) (by omega)) (by first | assumption | omega) (by first | assumption | omega)) (fun o3 q5 => ?_)
      obtain ⟨q5_0, q5_1, q5_2, q5_3⟩ := q5
      exact Go_i (show 1 ≤ ((o3.2.1)) ∧ ((o3.2.1)) ≤ 10 ∧ (∀ k : Nat, k < 10 → 0 ≤ zget ((o3.2.2)) k ∧ zget ((o3.2.2)) k ≤ 20) from ⟨(by first | assumption | omega), (by first | assumption | omega), (by first | assumption | exact all_w (by assumption) (by omega) | (refine all_setw ?_ (Int.le_refl _) ?_ ?_ (by omega) (by omega) <;> first | assumption | omega) | exact all_setw (by assumption) (by omega) (by omega) (by omega) (by omega) (by omega))⟩)
set_option maxRecDepth 20000 in
theorem ok_X10_core (mk : Nat) (endless_size : Int) (endless_numbers : Nat) (p0 : 1 ≤ endless_size) (p1 : endless_size ≤ 10) (p2 : (∀ k : Nat, k < 10 → 0 ≤ zget endless_numbers k ∧ zget endless_numbers k ≤ 20)) : Go (fun o => 1 ≤ (o.2.1) ∧ (o.2.1) ≤ 10 ∧ (∀ k : Nat, k < 10 → 0 ≤ zget (o.2.2) k ∧ zget (o.2.2) k ≤ 20)) (zf_X10_core mk endless_size endless_numbers) := by
  unfold zf_X10_core
  refine Go_bindP (ok_X2_loseAll endless_size endless_numbers (by first | assumption | omega) (by first | assumption | omega) (by first | assumption | exact all_w (by assumption) (by omega) | (refine all_setw ?_ (Int.le_refl _) ?_ ?_ (by omega) (by omega) <;> first | assumption | omega) | exact all_setw (by assumption) (by omega) (by omega) (by omega) (by omega) (by omega))) (fun o1 q1 => ?_)
  obtain ⟨q1_0, q1_1, q1_2, q1_3, q1_4⟩ := q1
  exact Go_i (show 1 ≤ ((o1.2.1)) ∧ ((o1.2.1)) ≤ 10 ∧ (∀ k : Nat, k < 10 → 0 ≤ zget ((o1.2.2)) k ∧ zget ((o1.2.2)) k ≤ 20) from ⟨(by first | assumption | omega), (by first | assumption | omega), (by first | assumption | exact all_w (by assumption) (by omega) | (refine all_setw ?_ (Int.le_refl _) ?_ ?_ (by omega) (by omega) <;> first | assumption | omega) | exact all_setw (by assumption) (by omega) (by omega) (by omega) (by omega) (by omega))⟩)
set_option maxRecDepth 20000 in
theorem ok_X10_isValue (i0 : Int) (p0 : -2147483648 ≤ i0) (p1 : i0 ≤ 2147483647) : Go (fun o => ((o) = true → 0 ≤ i0 ∧ i0 ≤ 9999) ∧ ((o) = false → ¬ (0 ≤ i0 ∧ i0 ≤ 9999))) (zf_X10_isValue i0) := by
  unfold zf_X10_isValue
  refine Go_chk (by unfold zout; omega) ?_
  refine Go_ite (fun c1 => ?_) (fun c1 => ?_)
  · exact Go_i (show ((false) = true → 0 ≤ i0 ∧ i0 ≤ 9999) ∧ ((false) = false → ¬ (0 ≤ i0 ∧ i0 ≤ 9999)) from ⟨(by intro h; first | exact True.intro | omega | (exact absurd h (by decide))), (by intro h; first | exact True.intro | omega | (exact absurd h (by decide)))⟩)
  · refine Go_ite (fun c2 => ?_) (fun c2 => ?_)
    · exact Go_i (show ((false) = true → 0 ≤ i0 ∧ i0 ≤ 9999) ∧ ((false) = false → ¬ (0 ≤ i0 ∧ i0 ≤ 9999)) from ⟨(by intro h; first | exact True.intro | omega | (exact absurd h (by decide))), (by intro h; first | exact True.intro | omega | (exact absurd h (by decide)))⟩)
    · exact Go_i (show ((true) = true → 0 ≤ i0 ∧ i0 ≤ 9999) ∧ ((true) = false → ¬ (0 ≤ i0 ∧ i0 ≤ 9999)) from ⟨(by intro h; first | exact True.intro | omega | (exact absurd h (by decide))), (by intro h; first | exact True.intro | omega | (exact absurd h (by decide)))⟩)
set_option maxRecDepth 20000 in
theorem ok_X10_see (mk : Nat) (t_polygon : Nat) (sightings_size : Int) (sightings_latest : Int) (sightings_seenStep : Nat) (sightings_seenFrom : Nat) (sightings_seenTo : Nat) (sightings_seenValue : Nat) (sightings_timesRight : Nat) (i1 : Int) (i2 : Int) (i3 : Int) (i4 : Int) (p0 : ¬ zno mk t_polygon) (p1 : 0 ≤ sightings_size) (p2 : sightings_size ≤ 20) (p3 : 0 ≤ sightings_latest) (p4 : sightings_latest ≤ 999) (p5 : (∀ k : Nat, (k : Int) < sightings_size → 0 ≤ zget sightings_seenFrom k ∧ zget sightings_seenFrom k < (t_polygon : Int))) (p6 : (∀ k : Nat, (k : Int) < sightings_size → 0 ≤ zget sightings_seenTo k ∧ zget sightings_seenTo k < (t_polygon : Int))) (p7 : -2147483648 ≤ i1) (p8 : i1 ≤ 2147483647) (p9 : -2147483648 ≤ i2) (p10 : i2 ≤ 2147483647) (p11 : -2147483648 ≤ i3) (p12 : i3 ≤ 2147483647) (p13 : -2147483648 ≤ i4) (p14 : i4 ≤ 2147483647) : Go (fun o => 0 ≤ (o.2.1) ∧ (o.2.1) ≤ 20 ∧ 0 ≤ (o.2.2.1) ∧ (o.2.2.1) ≤ 999 ∧ (∀ k : Nat, (k : Int) < (o.2.1) → 0 ≤ zget (o.2.2.2.2.1) k ∧ zget (o.2.2.2.2.1) k < (t_polygon : Int)) ∧ (∀ k : Nat, (k : Int) < (o.2.1) → 0 ≤ zget (o.2.2.2.2.2.1) k ∧ zget (o.2.2.2.2.2.1) k < (t_polygon : Int))) (zf_X10_see mk t_polygon sightings_size sightings_latest sightings_seenStep sightings_seenFrom sightings_seenTo sightings_seenValue sightings_timesRight i1 i2 i3 i4) := by
  unfold zf_X10_see
  have grt_polygon := zno_rng p0
  have g7t_polygon := rpg7 (n := t_polygon) (by omega) (by omega)
  have g8t_polygon := rpg8 (n := t_polygon) (by omega) (by omega)
  refine Go_bindP (ok_X7_canTell sightings_latest i1 (by first | assumption | omega) (by first | assumption | omega) (by first | assumption | omega) (by first | assumption | omega)) (fun o1 q1 => ?_)
  obtain ⟨q1_0, q1_1⟩ := q1
  refine Go_ite (fun c2 => ?_) (fun c2 => ?_)
  · have dc2 := q1_1 c2
    exact Go_i (show 0 ≤ (sightings_size) ∧ (sightings_size) ≤ 20 ∧ 0 ≤ (sightings_latest) ∧ (sightings_latest) ≤ 999 ∧ (∀ k : Nat, (k : Int) < (sightings_size) → 0 ≤ zget (sightings_seenFrom) k ∧ zget (sightings_seenFrom) k < (t_polygon : Int)) ∧ (∀ k : Nat, (k : Int) < (sightings_size) → 0 ≤ zget (sightings_seenTo) k ∧ zget (sightings_seenTo) k < (t_polygon : Int)) from ⟨(by first | assumption | omega), (by first | assumption | omega), (by first | assumption | omega), (by first | assumption | omega), (by first | assumption | exact all_w (by assumption) (by omega) | (refine all_setw ?_ (Int.le_refl _) ?_ ?_ (by omega) (by omega) <;> first | assumption | omega) | exact all_setw (by assumption) (by omega) (by omega) (by omega) (by omega) (by omega)), (by first | assumption | exact all_w (by assumption) (by omega) | (refine all_setw ?_ (Int.le_refl _) ?_ ?_ (by omega) (by omega) <;> first | assumption | omega) | exact all_setw (by assumption) (by omega) (by omega) (by omega) (by omega) (by omega))⟩)
  · have dc2 := q1_0 (bnf c2)
    refine Go_bindP (ok_X10_areCorners mk t_polygon i2 i3 (by first | assumption | omega) (by first | assumption | omega) (by first | assumption | omega) (by first | assumption | omega) (by first | assumption | omega)) (fun o2 q3 => ?_)
    obtain ⟨q3_0, q3_1⟩ := q3
    refine Go_ite (fun c4 => ?_) (fun c4 => ?_)
    · have dc4 := q3_1 c4
      exact Go_i (show 0 ≤ (sightings_size) ∧ (sightings_size) ≤ 20 ∧ 0 ≤ (sightings_latest) ∧ (sightings_latest) ≤ 999 ∧ (∀ k : Nat, (k : Int) < (sightings_size) → 0 ≤ zget (sightings_seenFrom) k ∧ zget (sightings_seenFrom) k < (t_polygon : Int)) ∧ (∀ k : Nat, (k : Int) < (sightings_size) → 0 ≤ zget (sightings_seenTo) k ∧ zget (sightings_seenTo) k < (t_polygon : Int)) from ⟨(by first | assumption | omega), (by first | assumption | omega), (by first | assumption | omega), (by first | assumption | omega), (by first | assumption | exact all_w (by assumption) (by omega) | (refine all_setw ?_ (Int.le_refl _) ?_ ?_ (by omega) (by omega) <;> first | assumption | omega) | exact all_setw (by assumption) (by omega) (by omega) (by omega) (by omega) (by omega)), (by first | assumption | exact all_w (by assumption) (by omega) | (refine all_setw ?_ (Int.le_refl _) ?_ ?_ (by omega) (by omega) <;> first | assumption | omega) | exact all_setw (by assumption) (by omega) (by omega) (by omega) (by omega) (by omega))⟩)
    · have dc4 := q3_0 (bnf c4)
      refine Go_chk (by unfold zout; omega) ?_
      refine Go_chk (by unfold zout; omega) ?_
      refine Go_ite (fun c5 => ?_) (fun c5 => ?_)
      · exact Go_i (show 0 ≤ (sightings_size) ∧ (sightings_size) ≤ 20 ∧ 0 ≤ (sightings_latest) ∧ (sightings_latest) ≤ 999 ∧ (∀ k : Nat, (k : Int) < (sightings_size) → 0 ≤ zget (sightings_seenFrom) k ∧ zget (sightings_seenFrom) k < (t_polygon : Int)) ∧ (∀ k : Nat, (k : Int) < (sightings_size) → 0 ≤ zget (sightings_seenTo) k ∧ zget (sightings_seenTo) k < (t_polygon : Int)) from ⟨(by first | assumption | omega), (by first | assumption | omega), (by first | assumption | omega), (by first | assumption | omega), (by first | assumption | exact all_w (by assumption) (by omega) | (refine all_setw ?_ (Int.le_refl _) ?_ ?_ (by omega) (by omega) <;> first | assumption | omega) | exact all_setw (by assumption) (by omega) (by omega) (by omega) (by omega) (by omega)), (by first | assumption | exact all_w (by assumption) (by omega) | (refine all_setw ?_ (Int.le_refl _) ?_ ?_ (by omega) (by omega) <;> first | assumption | omega) | exact all_setw (by assumption) (by omega) (by omega) (by omega) (by omega) (by omega))⟩)
      · refine Go_bindP (ok_X10_isValue i4 (by first | assumption | omega) (by first | assumption | omega)) (fun o5 q6 => ?_)
        obtain ⟨q6_0, q6_1⟩ := q6
        refine Go_ite (fun c7 => ?_) (fun c7 => ?_)
        · have dc7 := q6_1 c7
          exact Go_i (show 0 ≤ (sightings_size) ∧ (sightings_size) ≤ 20 ∧ 0 ≤ (sightings_latest) ∧ (sightings_latest) ≤ 999 ∧ (∀ k : Nat, (k : Int) < (sightings_size) → 0 ≤ zget (sightings_seenFrom) k ∧ zget (sightings_seenFrom) k < (t_polygon : Int)) ∧ (∀ k : Nat, (k : Int) < (sightings_size) → 0 ≤ zget (sightings_seenTo) k ∧ zget (sightings_seenTo) k < (t_polygon : Int)) from ⟨(by first | assumption | omega), (by first | assumption | omega), (by first | assumption | omega), (by first | assumption | omega), (by first | assumption | exact all_w (by assumption) (by omega) | (refine all_setw ?_ (Int.le_refl _) ?_ ?_ (by omega) (by omega) <;> first | assumption | omega) | exact all_setw (by assumption) (by omega) (by omega) (by omega) (by omega) (by omega)), (by first | assumption | exact all_w (by assumption) (by omega) | (refine all_setw ?_ (Int.le_refl _) ?_ ?_ (by omega) (by omega) <;> first | assumption | omega) | exact all_setw (by assumption) (by omega) (by omega) (by omega) (by omega) (by omega))⟩)
        · have dc7 := q6_0 (bnf c7)
          refine Go_bindP (ok_X7_add sightings_size sightings_latest sightings_seenStep sightings_seenFrom sightings_seenTo sightings_seenValue sightings_timesRight i1 i2 i3 i4 (by first | assumption | omega) (by first | assumption | omega)) (fun o6 q8 => ?_)
          obtain ⟨q8_0, q8_1, q8_2, q8_3⟩ := q8
          exact Go_i (show 0 ≤ ((o6.2.1)) ∧ ((o6.2.1)) ≤ 20 ∧ 0 ≤ ((o6.2.2.1)) ∧ ((o6.2.2.1)) ≤ 999 ∧ (∀ k : Nat, (k : Int) < ((o6.2.1)) → 0 ≤ zget ((o6.2.2.2.2.1)) k ∧ zget ((o6.2.2.2.2.1)) k < (t_polygon : Int)) ∧ (∀ k : Nat, (k : Int) < ((o6.2.1)) → 0 ≤ zget ((o6.2.2.2.2.2.1)) k ∧ zget ((o6.2.2.2.2.2.1)) k < (t_polygon : Int)) from ⟨(by first | assumption | omega), (by first | assumption | omega), (by first | assumption | omega), (by first | assumption | omega), (by exact (Decidable.em (o6.1 = -3)).elim (fun z => by have e := q8_2 z; rw [e.1, e.2.2.1]; assumption) (fun z => by have e := q8_3 z; rw [e.1, e.2.2.1]; exact all_push (by assumption) (by omega) (by omega) (by omega) (by omega) (by omega))), (by exact (Decidable.em (o6.1 = -3)).elim (fun z => by have e := q8_2 z; rw [e.1, e.2.2.2]; assumption) (fun z => by have e := q8_3 z; rw [e.1, e.2.2.2]; exact all_push (by assumption) (by omega) (by omega) (by omega) (by omega) (by omega)))⟩)
set_option maxRecDepth 20000 in
theorem ok_X10_right (mk : Nat) (sightings_size : Int) (sightings_rights : Int) (sightings_latest : Int) (sightings_seenStep : Nat) (sightings_timesRight : Nat) (sightings_rightStep : Nat) (sightings_rightOf : Nat) (sightings_rightValue : Nat) (i1 : Int) (i2 : Int) (i3 : Int) (p0 : 0 ≤ sightings_size) (p1 : sightings_size ≤ 20) (p2 : 0 ≤ sightings_rights) (p3 : sightings_rights ≤ 20) (p4 : 0 ≤ sightings_latest) (p5 : sightings_latest ≤ 999) (p6 : -2147483648 ≤ i1) (p7 : i1 ≤ 2147483647) (p8 : -2147483648 ≤ i2) (p9 : i2 ≤ 2147483647) (p10 : -2147483648 ≤ i3) (p11 : i3 ≤ 2147483647) : Go (fun o => 0 ≤ (o.2.1) ∧ (o.2.1) ≤ 20 ∧ 0 ≤ (o.2.2.1) ∧ (o.2.2.1) ≤ 999) (zf_X10_right mk sightings_size sightings_rights sightings_latest sightings_seenStep sightings_timesRight sightings_rightStep sightings_rightOf sightings_rightValue i1 i2 i3) := by
  unfold zf_X10_right
  refine Go_bindP (ok_X7_canTell sightings_latest i1 (by first | assumption | omega) (by first | assumption | omega) (by first | assumption | omega) (by first | assumption | omega)) (fun o1 q1 => ?_)
  obtain ⟨q1_0, q1_1⟩ := q1
  refine Go_ite (fun c2 => ?_) (fun c2 => ?_)
  · have dc2 := q1_1 c2
    exact Go_i (show 0 ≤ (sightings_rights) ∧ (sightings_rights) ≤ 20 ∧ 0 ≤ (sightings_latest) ∧ (sightings_latest) ≤ 999 from ⟨(by first | assumption | omega), (by first | assumption | omega), (by first | assumption | omega), (by first | assumption | omega)⟩)
  · have dc2 := q1_0 (bnf c2)
    refine Go_bindP (ok_X7_wasSeenBefore sightings_size sightings_seenStep i1 i2 (by first | assumption | omega) (by first | assumption | omega) (by first | assumption | omega) (by first | assumption | omega) (by first | assumption | omega) (by first | assumption | omega)) (fun o2 q3 => ?_)
    obtain ⟨q3_0, q3_1⟩ := q3
    refine Go_ite (fun c4 => ?_) (fun c4 => ?_)
    · have dc4 := q3_1 c4
      exact Go_i (show 0 ≤ (sightings_rights) ∧ (sightings_rights) ≤ 20 ∧ 0 ≤ (sightings_latest) ∧ (sightings_latest) ≤ 999 from ⟨(by first | assumption | omega), (by first | assumption | omega), (by first | assumption | omega), (by first | assumption | omega)⟩)
    · have dc4 := q3_0 (bnf c4)
      refine Go_bindP (ok_X10_isValue i3 (by first | assumption | omega) (by first | assumption | omega)) (fun o3 q5 => ?_)
      obtain ⟨q5_0, q5_1⟩ := q5
      refine Go_ite (fun c6 => ?_) (fun c6 => ?_)
      · have dc6 := q5_1 c6
        exact Go_i (show 0 ≤ (sightings_rights) ∧ (sightings_rights) ≤ 20 ∧ 0 ≤ (sightings_latest) ∧ (sightings_latest) ≤ 999 from ⟨(by first | assumption | omega), (by first | assumption | omega), (by first | assumption | omega), (by first | assumption | omega)⟩)
      · have dc6 := q5_0 (bnf c6)
        refine Go_bindP (ok_X7_putRight sightings_size sightings_rights sightings_latest sightings_timesRight sightings_rightStep sightings_rightOf sightings_rightValue i1 i2 i3 (by first | assumption | omega) (by first | assumption | omega) (by first | assumption | omega) (by first | assumption | omega) (by first | assumption | omega) (by first | assumption | omega)) (fun o4 q7 => ?_)
        obtain ⟨q7_0, q7_1, q7_2⟩ := q7
        exact Go_i (show 0 ≤ ((o4.2.1)) ∧ ((o4.2.1)) ≤ 20 ∧ 0 ≤ ((o4.2.2.1)) ∧ ((o4.2.2.1)) ≤ 999 from ⟨(by first | assumption | omega), (by first | assumption | omega), (by first | assumption | omega), (by first | assumption | omega)⟩)
set_option maxRecDepth 20000 in
theorem ok_X10_isStep (i0 : Int) (p0 : -2147483648 ≤ i0) (p1 : i0 ≤ 2147483647) : Go (fun o => ((o) = true → 0 ≤ i0 ∧ i0 ≤ 999) ∧ ((o) = false → ¬ (0 ≤ i0 ∧ i0 ≤ 999))) (zf_X10_isStep i0) := by
  unfold zf_X10_isStep
  refine Go_chk (by unfold zout; omega) ?_
  refine Go_ite (fun c1 => ?_) (fun c1 => ?_)
  · exact Go_i (show ((false) = true → 0 ≤ i0 ∧ i0 ≤ 999) ∧ ((false) = false → ¬ (0 ≤ i0 ∧ i0 ≤ 999)) from ⟨(by intro h; first | exact True.intro | omega | (exact absurd h (by decide))), (by intro h; first | exact True.intro | omega | (exact absurd h (by decide)))⟩)
  · refine Go_ite (fun c2 => ?_) (fun c2 => ?_)
    · exact Go_i (show ((false) = true → 0 ≤ i0 ∧ i0 ≤ 999) ∧ ((false) = false → ¬ (0 ≤ i0 ∧ i0 ≤ 999)) from ⟨(by intro h; first | exact True.intro | omega | (exact absurd h (by decide))), (by intro h; first | exact True.intro | omega | (exact absurd h (by decide)))⟩)
    · exact Go_i (show ((true) = true → 0 ≤ i0 ∧ i0 ≤ 999) ∧ ((true) = false → ¬ (0 ≤ i0 ∧ i0 ≤ 999)) from ⟨(by intro h; first | exact True.intro | omega | (exact absurd h (by decide))), (by intro h; first | exact True.intro | omega | (exact absurd h (by decide)))⟩)
set_option maxRecDepth 20000 in
theorem ok_X10_fit (mk : Nat) (t_polygon : Nat) (sightings_size : Int) (sightings_rights : Int) (sightings_seenStep : Nat) (sightings_seenFrom : Nat) (sightings_seenTo : Nat) (sightings_seenValue : Nat) (sightings_rightStep : Nat) (sightings_rightOf : Nat) (sightings_rightValue : Nat) (sightings_knownValue : Nat) (fitting_size : Int) (fitting_numbers : Nat) (i1 : Int) (i2 : Int) (p0 : ¬ zno mk t_polygon) (p1 : 0 ≤ sightings_size) (p2 : sightings_size ≤ 20) (p3 : 0 ≤ sightings_rights) (p4 : sightings_rights ≤ 20) (p5 : (∀ k : Nat, (k : Int) < sightings_size → 0 ≤ zget sightings_seenFrom k ∧ zget sightings_seenFrom k < (t_polygon : Int))) (p6 : (∀ k : Nat, (k : Int) < sightings_size → 0 ≤ zget sightings_seenTo k ∧ zget sightings_seenTo k < (t_polygon : Int))) (p7 : -2147483648 ≤ i1) (p8 : i1 ≤ 2147483647) (p9 : -2147483648 ≤ i2) (p10 : i2 ≤ 2147483647) (p11 : 0 ≤ fitting_size) (p12 : fitting_size ≤ 429) : Go (fun o => 0 ≤ (o.2.2.1) ∧ (o.2.2.1) ≤ 429) (zf_X10_fit mk t_polygon sightings_size sightings_rights sightings_seenStep sightings_seenFrom sightings_seenTo sightings_seenValue sightings_rightStep sightings_rightOf sightings_rightValue sightings_knownValue fitting_size fitting_numbers i1 i2) := by
  unfold zf_X10_fit
  have grt_polygon := zno_rng p0
  have g7t_polygon := rpg7 (n := t_polygon) (by omega) (by omega)
  have g8t_polygon := rpg8 (n := t_polygon) (by omega) (by omega)
  refine Go_bindP (ok_X10_isStep i1 (by first | assumption | omega) (by first | assumption | omega)) (fun o1 q1 => ?_)
  obtain ⟨q1_0, q1_1⟩ := q1
  refine Go_ite (fun c2 => ?_) (fun c2 => ?_)
  · have dc2 := q1_1 c2
    exact Go_i (show 0 ≤ (fitting_size) ∧ (fitting_size) ≤ 429 from ⟨(by first | assumption | omega), (by first | assumption | omega)⟩)
  · have dc2 := q1_0 (bnf c2)
    refine Go_chk (by unfold zout; omega) ?_
    refine Go_ite (fun c3 => ?_) (fun c3 => ?_)
    · exact Go_i (show 0 ≤ (fitting_size) ∧ (fitting_size) ≤ 429 from ⟨(by first | assumption | omega), (by first | assumption | omega)⟩)
    · refine Go_ite (fun c4 => ?_) (fun c4 => ?_)
      · refine Go_chk (by assumption) ?_
        refine Go_bindP (ok_X3_gather mk fitting_size fitting_numbers sightings_size sightings_rights sightings_seenStep sightings_seenFrom sightings_seenTo sightings_seenValue sightings_rightStep sightings_rightOf sightings_rightValue sightings_knownValue t_polygon i1 (by first | assumption | omega) (by first | assumption | omega) (by first | assumption | omega) (by first | assumption | omega) (by first | assumption | omega) (by first | assumption | exact all_w (by assumption) (by omega) | (refine all_setw ?_ (Int.le_refl _) ?_ ?_ (by omega) (by omega) <;> first | assumption | omega) | exact all_setw (by assumption) (by omega) (by omega) (by omega) (by omega) (by omega)) (by first | assumption | exact all_w (by assumption) (by omega) | (refine all_setw ?_ (Int.le_refl _) ?_ ?_ (by omega) (by omega) <;> first | assumption | omega) | exact all_setw (by assumption) (by omega) (by omega) (by omega) (by omega) (by omega)) (by first | assumption | omega) (by first | assumption | omega)) (fun o4 q5 => ?_)
        obtain ⟨q5_0, q5_1, q5_2⟩ := q5
        refine Go_ite (fun c6 => ?_) (fun c6 => ?_)
        · refine Go_bindP (ok_X3_size (o4.1) ) (fun o6 q7 => ?_)
          exact Go_i (show 0 ≤ ((o4.1)) ∧ ((o4.1)) ≤ 429 from ⟨(by first | assumption | omega), (by first | assumption | omega)⟩)
        · refine Go_bindP (ok_X3_leastNumber (o4.1) (o4.2.1) (by first | assumption | omega) (by first | assumption | omega)) (fun o5 q8 => ?_)
          obtain ⟨q8_0, q8_1⟩ := q8
          exact Go_i (show 0 ≤ ((o4.1)) ∧ ((o4.1)) ≤ 429 from ⟨(by first | assumption | omega), (by first | assumption | omega)⟩)
      · exact Go_i (show 0 ≤ (fitting_size) ∧ (fitting_size) ≤ 429 from ⟨(by first | assumption | omega), (by first | assumption | omega)⟩)
set_option maxRecDepth 20000 in
theorem ok_X10_surely (mk : Nat) (t_polygon : Nat) (sightings_size : Int) (sightings_rights : Int) (sightings_seenStep : Nat) (sightings_seenFrom : Nat) (sightings_seenTo : Nat) (sightings_seenValue : Nat) (sightings_rightStep : Nat) (sightings_rightOf : Nat) (sightings_rightValue : Nat) (sightings_knownValue : Nat) (fitting_size : Int) (fitting_numbers : Nat) (i1 : Int) (i2 : Int) (i3 : Int) (p0 : ¬ zno mk t_polygon) (p1 : 0 ≤ sightings_size) (p2 : sightings_size ≤ 20) (p3 : 0 ≤ sightings_rights) (p4 : sightings_rights ≤ 20) (p5 : (∀ k : Nat, (k : Int) < sightings_size → 0 ≤ zget sightings_seenFrom k ∧ zget sightings_seenFrom k < (t_polygon : Int))) (p6 : (∀ k : Nat, (k : Int) < sightings_size → 0 ≤ zget sightings_seenTo k ∧ zget sightings_seenTo k < (t_polygon : Int))) (p7 : -2147483648 ≤ i1) (p8 : i1 ≤ 2147483647) (p9 : -2147483648 ≤ i2) (p10 : i2 ≤ 2147483647) (p11 : -2147483648 ≤ i3) (p12 : i3 ≤ 2147483647) (p13 : 0 ≤ fitting_size) (p14 : fitting_size ≤ 429) : Go (fun o => 0 ≤ (o.2.2.1) ∧ (o.2.2.1) ≤ 429) (zf_X10_surely mk t_polygon sightings_size sightings_rights sightings_seenStep sightings_seenFrom sightings_seenTo sightings_seenValue sightings_rightStep sightings_rightOf sightings_rightValue sightings_knownValue fitting_size fitting_numbers i1 i2 i3) := by
  unfold zf_X10_surely
  have grt_polygon := zno_rng p0
  have g7t_polygon := rpg7 (n := t_polygon) (by omega) (by omega)
  have g8t_polygon := rpg8 (n := t_polygon) (by omega) (by omega)
  refine Go_bindP (ok_X10_isStep i3 (by first | assumption | omega) (by first | assumption | omega)) (fun o1 q1 => ?_)
  obtain ⟨q1_0, q1_1⟩ := q1
  refine Go_ite (fun c2 => ?_) (fun c2 => ?_)
  · have dc2 := q1_1 c2
    exact Go_i (show 0 ≤ (fitting_size) ∧ (fitting_size) ≤ 429 from ⟨(by first | assumption | omega), (by first | assumption | omega)⟩)
  · have dc2 := q1_0 (bnf c2)
    refine Go_bindP (ok_X10_areCorners mk t_polygon i1 i2 (by first | assumption | omega) (by first | assumption | omega) (by first | assumption | omega) (by first | assumption | omega) (by first | assumption | omega)) (fun o2 q3 => ?_)
    obtain ⟨q3_0, q3_1⟩ := q3
    refine Go_ite (fun c4 => ?_) (fun c4 => ?_)
    · have dc4 := q3_1 c4
      exact Go_i (show 0 ≤ (fitting_size) ∧ (fitting_size) ≤ 429 from ⟨(by first | assumption | omega), (by first | assumption | omega)⟩)
    · have dc4 := q3_0 (bnf c4)
      refine Go_chk (by assumption) ?_
      refine Go_bindP (ok_X5_lineOf t_polygon i1 i2 (by first | assumption | omega) (by first | assumption | omega) (by first | assumption | omega) (by first | assumption | omega) (by first | assumption | omega) (by first | assumption | omega)) (fun o4 q5 => ?_)
      obtain ⟨q5_0, q5_1⟩ := q5
      refine Go_chk (by unfold zout; omega) ?_
      refine Go_ite (fun c6 => ?_) (fun c6 => ?_)
      · exact Go_i (show 0 ≤ (fitting_size) ∧ (fitting_size) ≤ 429 from ⟨(by first | assumption | omega), (by first | assumption | omega)⟩)
      · refine Go_bindP (ok_X3_gather mk fitting_size fitting_numbers sightings_size sightings_rights sightings_seenStep sightings_seenFrom sightings_seenTo sightings_seenValue sightings_rightStep sightings_rightOf sightings_rightValue sightings_knownValue t_polygon i3 (by first | assumption | omega) (by first | assumption | omega) (by first | assumption | omega) (by first | assumption | omega) (by first | assumption | omega) (by first | assumption | exact all_w (by assumption) (by omega) | (refine all_setw ?_ (Int.le_refl _) ?_ ?_ (by omega) (by omega) <;> first | assumption | omega) | exact all_setw (by assumption) (by omega) (by omega) (by omega) (by omega) (by omega)) (by first | assumption | exact all_w (by assumption) (by omega) | (refine all_setw ?_ (Int.le_refl _) ?_ ?_ (by omega) (by omega) <;> first | assumption | omega) | exact all_setw (by assumption) (by omega) (by omega) (by omega) (by omega) (by omega)) (by first | assumption | omega) (by first | assumption | omega)) (fun o6 q7 => ?_)
        obtain ⟨q7_0, q7_1, q7_2⟩ := q7
        refine Go_bindP (ok_X5_lineOf t_polygon i1 i2 (by first | assumption | omega) (by first | assumption | omega) (by first | assumption | omega) (by first | assumption | omega) (by first | assumption | omega) (by first | assumption | omega)) (fun o7 q8 => ?_)
        obtain ⟨q8_0, q8_1⟩ := q8
        refine Go_bindP (ok_X3_howSure mk (o6.1) (o6.2.1) t_polygon o7 (by first | assumption | omega) (by first | assumption | omega) (by first | assumption | omega) (by first | assumption | exact all_w (by assumption) (by omega) | (refine all_setw ?_ (Int.le_refl _) ?_ ?_ (by omega) (by omega) <;> first | assumption | omega) | exact all_setw (by assumption) (by omega) (by omega) (by omega) (by omega) (by omega)) (by first | assumption | omega) (by first | assumption | omega)) (fun o8 q9 => ?_)
        obtain ⟨q9_0, q9_1⟩ := q9
        exact Go_i (show 0 ≤ ((o6.1)) ∧ ((o6.1)) ≤ 429 from ⟨(by first | assumption | omega), (by first | assumption | omega)⟩)
set_option maxRecDepth 20000 in
theorem ok_X10_ask (mk : Nat) (t_polygon : Nat) (sightings_size : Int) (sightings_rights : Int) (sightings_seenStep : Nat) (sightings_seenFrom : Nat) (sightings_seenTo : Nat) (sightings_seenValue : Nat) (sightings_rightStep : Nat) (sightings_rightOf : Nat) (sightings_rightValue : Nat) (sightings_knownValue : Nat) (fitting_size : Int) (fitting_numbers : Nat) (fitting_tally : Nat) (i1 : Int) (p0 : ¬ zno mk t_polygon) (p1 : 0 ≤ sightings_size) (p2 : sightings_size ≤ 20) (p3 : 0 ≤ sightings_rights) (p4 : sightings_rights ≤ 20) (p5 : (∀ k : Nat, (k : Int) < sightings_size → 0 ≤ zget sightings_seenFrom k ∧ zget sightings_seenFrom k < (t_polygon : Int))) (p6 : (∀ k : Nat, (k : Int) < sightings_size → 0 ≤ zget sightings_seenTo k ∧ zget sightings_seenTo k < (t_polygon : Int))) (p7 : -2147483648 ≤ i1) (p8 : i1 ≤ 2147483647) (p9 : 0 ≤ fitting_size) (p10 : fitting_size ≤ 429) : Go (fun o => 0 ≤ (o.2.2.1) ∧ (o.2.2.1) ≤ 429) (zf_X10_ask mk t_polygon sightings_size sightings_rights sightings_seenStep sightings_seenFrom sightings_seenTo sightings_seenValue sightings_rightStep sightings_rightOf sightings_rightValue sightings_knownValue fitting_size fitting_numbers fitting_tally i1) := by
  unfold zf_X10_ask
  have grt_polygon := zno_rng p0
  have g7t_polygon := rpg7 (n := t_polygon) (by omega) (by omega)
  have g8t_polygon := rpg8 (n := t_polygon) (by omega) (by omega)
  refine Go_bindP (ok_X10_isStep i1 (by first | assumption | omega) (by first | assumption | omega)) (fun o1 q1 => ?_)
  obtain ⟨q1_0, q1_1⟩ := q1
  refine Go_ite (fun c2 => ?_) (fun c2 => ?_)
  · have dc2 := q1_1 c2
    exact Go_i (show 0 ≤ (fitting_size) ∧ (fitting_size) ≤ 429 from ⟨(by first | assumption | omega), (by first | assumption | omega)⟩)
  · have dc2 := q1_0 (bnf c2)
    refine Go_chk (by assumption) ?_
    refine Go_bindP (ok_X3_gather mk fitting_size fitting_numbers sightings_size sightings_rights sightings_seenStep sightings_seenFrom sightings_seenTo sightings_seenValue sightings_rightStep sightings_rightOf sightings_rightValue sightings_knownValue t_polygon i1 (by first | assumption | omega) (by first | assumption | omega) (by first | assumption | omega) (by first | assumption | omega) (by first | assumption | omega) (by first | assumption | exact all_w (by assumption) (by omega) | (refine all_setw ?_ (Int.le_refl _) ?_ ?_ (by omega) (by omega) <;> first | assumption | omega) | exact all_setw (by assumption) (by omega) (by omega) (by omega) (by omega) (by omega)) (by first | assumption | exact all_w (by assumption) (by omega) | (refine all_setw ?_ (Int.le_refl _) ?_ ?_ (by omega) (by omega) <;> first | assumption | omega) | exact all_setw (by assumption) (by omega) (by omega) (by omega) (by omega) (by omega)) (by first | assumption | omega) (by first | assumption | omega)) (fun o3 q3 => ?_)
    obtain ⟨q3_0, q3_1, q3_2⟩ := q3
    refine Go_bindP (ok_X3_bestQuestion mk (o3.1) (o3.2.1) fitting_tally t_polygon (by first | assumption | omega) (by first | assumption | omega) (by first | assumption | omega) (by first | assumption | exact all_w (by assumption) (by omega) | (refine all_setw ?_ (Int.le_refl _) ?_ ?_ (by omega) (by omega) <;> first | assumption | omega) | exact all_setw (by assumption) (by omega) (by omega) (by omega) (by omega) (by omega))) (fun o4 q4 => ?_)
    obtain ⟨q4_0, q4_1⟩ := q4
    exact Go_i (show 0 ≤ ((o3.1)) ∧ ((o3.1)) ≤ 429 from ⟨(by first | assumption | omega), (by first | assumption | omega)⟩)
set_option maxRecDepth 20000 in
theorem ok_X10_count (mk : Nat) (tape_length : Int) (sightings_size : Int) (sightings_rights : Int) (i1 : Int) (p0 : -2147483648 ≤ i1) (p1 : i1 ≤ 2147483647) : Go (fun o => True) (zf_X10_count mk tape_length sightings_size sightings_rights i1) := by
  unfold zf_X10_count
  refine Go_chk (by unfold zout; omega) ?_
  refine Go_ite (fun c1 => ?_) (fun c1 => ?_)
  · refine Go_bindP (ok_X7_size sightings_size ) (fun o3 q2 => ?_)
    exact Go_i (show True from trivial)
  · refine Go_ite (fun c3 => ?_) (fun c3 => ?_)
    · refine Go_bindP (ok_X7_rights sightings_rights ) (fun o5 q4 => ?_)
      exact Go_i (show True from trivial)
    · refine Go_ite (fun c5 => ?_) (fun c5 => ?_)
      · refine Go_bindP (ok_X8_size tape_length ) (fun o7 q6 => ?_)
        exact Go_i (show True from trivial)
      · exact Go_i (show True from trivial)
end
