set_option maxRecDepth 20000 in
theorem ok_X7_size (t_size : Int)  : Go (fun o => (o) = t_size) (zf_X7_size t_size) := by
  unfold zf_X7_size
  exact Go_i (show (t_size) = t_size from (by first | assumption | omega))
set_option maxRecDepth 20000 in
theorem ok_X7_rights (t_rights : Int)  : Go (fun o => (o) = t_rights) (zf_X7_rights t_rights) := by
  unfold zf_X7_rights
  exact Go_i (show (t_rights) = t_rights from (by first | assumption | omega))
set_option maxRecDepth 20000 in
theorem ok_X7_has (t_size : Int) (i1 : Int) (p0 : 0 ≤ t_size) (p1 : t_size ≤ 20) (p2 : -2147483648 ≤ i1) (p3 : i1 ≤ 2147483647) : Go (fun o => ((o) = true → 0 ≤ i1 ∧ i1 < t_size) ∧ ((o) = false → ¬ (0 ≤ i1 ∧ i1 < t_size))) (zf_X7_has t_size i1) := by
  unfold zf_X7_has
  refine Go_chk (by unfold zout; omega) ?_
  refine Go_ite (fun c1 => ?_) (fun c1 => ?_)
  · exact Go_i (show ((false) = true → 0 ≤ i1 ∧ i1 < t_size) ∧ ((false) = false → ¬ (0 ≤ i1 ∧ i1 < t_size)) from ⟨(by intro h; first | exact True.intro | omega | (exact absurd h (by decide))), (by intro h; first | exact True.intro | omega | (exact absurd h (by decide)))⟩)
  · refine Go_chk (by unfold zout; omega) ?_
    refine Go_ite (fun c2 => ?_) (fun c2 => ?_)
    · exact Go_i (show ((false) = true → 0 ≤ i1 ∧ i1 < t_size) ∧ ((false) = false → ¬ (0 ≤ i1 ∧ i1 < t_size)) from ⟨(by intro h; first | exact True.intro | omega | (exact absurd h (by decide))), (by intro h; first | exact True.intro | omega | (exact absurd h (by decide)))⟩)
    · exact Go_i (show ((true) = true → 0 ≤ i1 ∧ i1 < t_size) ∧ ((true) = false → ¬ (0 ≤ i1 ∧ i1 < t_size)) from ⟨(by intro h; first | exact True.intro | omega | (exact absurd h (by decide))), (by intro h; first | exact True.intro | omega | (exact absurd h (by decide)))⟩)
set_option maxRecDepth 20000 in
theorem ok_X7_wasSeenBefore (t_size : Int) (t_seenStep : Nat) (i1 : Int) (i2 : Int) (p0 : 0 ≤ t_size) (p1 : t_size ≤ 20) (p2 : -2147483648 ≤ i1) (p3 : i1 ≤ 2147483647) (p4 : -2147483648 ≤ i2) (p5 : i2 ≤ 2147483647) : Go (fun o => ((o) = true → 0 ≤ i2 ∧ i2 < t_size) ∧ ((o) = false → True)) (zf_X7_wasSeenBefore t_size t_seenStep i1 i2) := by
  unfold zf_X7_wasSeenBefore
  refine Go_bindP (ok_X7_has t_size i2 (by first | assumption | omega) (by first | assumption | omega) (by first | assumption | omega) (by first | assumption | omega)) (fun o1 q1 => ?_)
  obtain ⟨q1_0, q1_1⟩ := q1
  refine Go_ite (fun c2 => ?_) (fun c2 => ?_)
  · have dc2 := q1_1 c2
    exact Go_i (show ((false) = true → 0 ≤ i2 ∧ i2 < t_size) ∧ ((false) = false → True) from ⟨(by intro h; first | exact True.intro | omega | (exact absurd h (by decide))), (by intro h; first | exact True.intro | omega | (exact absurd h (by decide)))⟩)
  · have dc2 := q1_0 (bnf c2)
    refine Go_chk (by omega) ?_
    refine Go_chk (by unfold zout; omega) ?_
    have a3 := rget t_seenStep (Int.toNat i2)
    refine Go_ite (fun c4 => ?_) (fun c4 => ?_)
    · exact Go_i (show ((false) = true → 0 ≤ i2 ∧ i2 < t_size) ∧ ((false) = false → True) from ⟨(by intro h; first | exact True.intro | omega | (exact absurd h (by decide))), (by intro h; first | exact True.intro | omega | (exact absurd h (by decide)))⟩)
    · exact Go_i (show ((true) = true → 0 ≤ i2 ∧ i2 < t_size) ∧ ((true) = false → True) from ⟨(by intro h; first | exact True.intro | omega | (exact absurd h (by decide))), (by intro h; first | exact True.intro | omega | (exact absurd h (by decide)))⟩)
set_option maxRecDepth 20000 in
theorem ok_X7_canTell (t_latest : Int) (i1 : Int) (p0 : 0 ≤ t_latest) (p1 : t_latest ≤ 999) (p2 : -2147483648 ≤ i1) (p3 : i1 ≤ 2147483647) : Go (fun o => ((o) = true → t_latest ≤ i1 ∧ i1 ≤ 999) ∧ ((o) = false → ¬ (t_latest ≤ i1 ∧ i1 ≤ 999))) (zf_X7_canTell t_latest i1) := by
  unfold zf_X7_canTell
  refine Go_chk (by unfold zout; omega) ?_
  refine Go_chk (by unfold zout; omega) ?_
  refine Go_ite (fun c1 => ?_) (fun c1 => ?_)
  · exact Go_i (show ((false) = true → t_latest ≤ i1 ∧ i1 ≤ 999) ∧ ((false) = false → ¬ (t_latest ≤ i1 ∧ i1 ≤ 999)) from ⟨(by intro h; first | exact True.intro | omega | (exact absurd h (by decide))), (by intro h; first | exact True.intro | omega | (exact absurd h (by decide)))⟩)
  · refine Go_ite (fun c2 => ?_) (fun c2 => ?_)
    · exact Go_i (show ((false) = true → t_latest ≤ i1 ∧ i1 ≤ 999) ∧ ((false) = false → ¬ (t_latest ≤ i1 ∧ i1 ≤ 999)) from ⟨(by intro h; first | exact True.intro | omega | (exact absurd h (by decide))), (by intro h; first | exact True.intro | omega | (exact absurd h (by decide)))⟩)
    · exact Go_i (show ((true) = true → t_latest ≤ i1 ∧ i1 ≤ 999) ∧ ((true) = false → ¬ (t_latest ≤ i1 ∧ i1 ≤ 999)) from ⟨(by intro h; first | exact True.intro | omega | (exact absurd h (by decide))), (by intro h; first | exact True.intro | omega | (exact absurd h (by decide)))⟩)
set_option maxRecDepth 20000 in
theorem ok_X7_forget (t_size : Int) (t_rights : Int) (t_latest : Int)  : Go (fun o => (o.1) = 0 ∧ (o.2.1) = 0 ∧ (o.2.2) = 0) (zf_X7_forget t_size t_rights t_latest) := by
  unfold zf_X7_forget
  exact Go_i (show ((0 : Int)) = 0 ∧ ((0 : Int)) = 0 ∧ ((0 : Int)) = 0 from ⟨(by first | assumption | omega), (by first | assumption | omega), (by first | assumption | omega)⟩)
set_option maxRecDepth 20000 in
theorem ok_X7_add (t_size : Int) (t_latest : Int) (t_seenStep : Nat) (t_seenFrom : Nat) (t_seenTo : Nat) (t_seenValue : Nat) (t_timesRight : Nat) (i1 : Int) (i2 : Int) (i3 : Int) (i4 : Int) (p0 : 0 ≤ t_size) (p1 : t_size ≤ 20) : Go (fun o => 0 ≤ (o.2.1) ∧ (o.2.1) ≤ 20 ∧ ((o.1) = -3 → (o.2.1) = t_size ∧ (o.2.2.1) = t_latest ∧ (o.2.2.2.2.1) = t_seenFrom ∧ (o.2.2.2.2.2.1) = t_seenTo) ∧ (¬ (o.1) = -3 → (o.2.1) = t_size + 1 ∧ (o.2.2.1) = i1 ∧ (o.2.2.2.2.1) = zset t_seenFrom (Int.toNat t_size) i2 ∧ (o.2.2.2.2.2.1) = zset t_seenTo (Int.toNat t_size) i3)) (zf_X7_add t_size t_latest t_seenStep t_seenFrom t_seenTo t_seenValue t_timesRight i1 i2 i3 i4) := by
  unfold zf_X7_add
  refine Go_chk (by unfold zout; omega) ?_
  refine Go_ite (fun c1 => ?_) (fun c1 => ?_)
  · refine Go_chk (by omega) ?_
    exact Go_i (show 0 ≤ ((t_size + (1 : Int))) ∧ ((t_size + (1 : Int))) ≤ 20 ∧ ((((t_size + (1 : Int)) - (1 : Int))) = -3 → ((t_size + (1 : Int))) = t_size ∧ (i1) = t_latest ∧ ((zset t_seenFrom (Int.toNat t_size) i2)) = t_seenFrom ∧ ((zset t_seenTo (Int.toNat t_size) i3)) = t_seenTo) ∧ (¬ (((t_size + (1 : Int)) - (1 : Int))) = -3 → ((t_size + (1 : Int))) = t_size + 1 ∧ (i1) = i1 ∧ ((zset t_seenFrom (Int.toNat t_size) i2)) = zset t_seenFrom (Int.toNat t_size) i2 ∧ ((zset t_seenTo (Int.toNat t_size) i3)) = zset t_seenTo (Int.toNat t_size) i3) from ⟨(by first | assumption | omega), (by first | assumption | omega), (by intro h; first | (exfalso; omega) | exact ⟨by omega, rfl, rfl, rfl⟩), (by intro h; first | (exfalso; omega) | exact ⟨by omega, rfl, rfl, rfl⟩)⟩)
  · exact Go_i (show 0 ≤ (t_size) ∧ (t_size) ≤ 20 ∧ (((-3 : Int)) = -3 → (t_size) = t_size ∧ (t_latest) = t_latest ∧ (t_seenFrom) = t_seenFrom ∧ (t_seenTo) = t_seenTo) ∧ (¬ ((-3 : Int)) = -3 → (t_size) = t_size + 1 ∧ (t_latest) = i1 ∧ (t_seenFrom) = zset t_seenFrom (Int.toNat t_size) i2 ∧ (t_seenTo) = zset t_seenTo (Int.toNat t_size) i3) from ⟨(by first | assumption | omega), (by first | assumption | omega), (by intro h; first | (exfalso; omega) | exact ⟨by omega, rfl, rfl, rfl⟩), (by intro h; first | (exfalso; omega) | exact ⟨by omega, rfl, rfl, rfl⟩)⟩)
set_option maxRecDepth 20000 in
theorem ok_X7_putRight (t_size : Int) (t_rights : Int) (t_latest : Int) (t_timesRight : Nat) (t_rightStep : Nat) (t_rightOf : Nat) (t_rightValue : Nat) (i1 : Int) (i2 : Int) (i3 : Int) (p0 : 0 ≤ t_size) (p1 : t_size ≤ 20) (p2 : 0 ≤ t_rights) (p3 : t_rights ≤ 20) (p4 : -2147483648 ≤ i2) (p5 : i2 ≤ 2147483647) : Go (fun o => 0 ≤ (o.2.1) ∧ (o.2.1) ≤ 20 ∧ ((o.2.2.1) = t_latest ∨ (o.2.2.1) = i1)) (zf_X7_putRight t_size t_rights t_latest t_timesRight t_rightStep t_rightOf t_rightValue i1 i2 i3) := by
  unfold zf_X7_putRight
  refine Go_chk (by unfold zout; omega) ?_
  refine Go_ite (fun c1 => ?_) (fun c1 => ?_)
  · exact Go_i (show 0 ≤ (t_rights) ∧ (t_rights) ≤ 20 ∧ ((t_latest) = t_latest ∨ (t_latest) = i1) from ⟨(by first | assumption | omega), (by first | assumption | omega), (by first | assumption | omega)⟩)
  · refine Go_bindP (ok_X7_has t_size i2 (by first | assumption | omega) (by first | assumption | omega) (by first | assumption | omega) (by first | assumption | omega)) (fun o2 q2 => ?_)
    obtain ⟨q2_0, q2_1⟩ := q2
    refine Go_ite (fun c3 => ?_) (fun c3 => ?_)
    · have dc3 := q2_1 c3
      exact Go_i (show 0 ≤ (t_rights) ∧ (t_rights) ≤ 20 ∧ ((t_latest) = t_latest ∨ (t_latest) = i1) from ⟨(by first | assumption | omega), (by first | assumption | omega), (by first | assumption | omega)⟩)
    · have dc3 := q2_0 (bnf c3)
      refine Go_chk (by omega) ?_
      refine Go_chk (by omega) ?_
      have a4 := rget t_timesRight (Int.toNat i2)
      have a5 := rget (zset t_timesRight (Int.toNat i2) ((zget t_timesRight (Int.toNat i2)) + (1 : Int))) (Int.toNat i2)
      exact Go_i (show 0 ≤ ((t_rights + (1 : Int))) ∧ ((t_rights + (1 : Int))) ≤ 20 ∧ ((i1) = t_latest ∨ (i1) = i1) from ⟨(by first | assumption | omega), (by first | assumption | omega), (by first | assumption | omega)⟩)
set_option maxRecDepth 20000 in
theorem ok_X7_recall (t_size : Int) (t_rights : Int) (t_seenStep : Nat) (t_seenValue : Nat) (t_rightStep : Nat) (t_rightOf : Nat) (t_rightValue : Nat) (t_knownValue : Nat) (i1 : Int) (p0 : 0 ≤ t_size) (p1 : t_size ≤ 20) (p2 : 0 ≤ t_rights) (p3 : t_rights ≤ 20) (p4 : -2147483648 ≤ i1) (p5 : i1 ≤ 2147483647) : Go (fun o => True) (zf_X7_recall t_size t_rights t_seenStep t_seenValue t_rightStep t_rightOf t_rightValue t_knownValue i1) := by
  unfold zf_X7_recall
  refine jok (fun (s : zS_X7_recall) => match s with | (lab, i1', i2', t_knownValue') => (lab = 0 ∧ -2147483648 ≤ i1' ∧ i1' ≤ 2147483647) ∨ (lab = 2 ∧ -2147483648 ≤ i1' ∧ i1' ≤ 2147483647 ∧ 0 ≤ i2' ∧ i2' ≤ t_size) ∨ (lab = 44 ∧ -2147483648 ≤ i1' ∧ i1' ≤ 2147483647 ∧ 0 ≤ i2' ∧ i2' ≤ t_rights)) (fun (s : zS_X7_recall) => match s with | (lab, i1', i2', t_knownValue') => if lab = 0 then 100 else if lab = 2 then (60 - i2').toNat else if lab = 44 then (30 - i2').toNat else 0) (fun (o : zO_X7_recall) => True) ?_ _ ?_ ?_
  · intro s hI
    obtain ⟨lab, i1', i2', t_knownValue'⟩ := s
    have hI : (lab = 0 ∧ -2147483648 ≤ i1' ∧ i1' ≤ 2147483647) ∨ (lab = 2 ∧ -2147483648 ≤ i1' ∧ i1' ≤ 2147483647 ∧ 0 ≤ i2' ∧ i2' ≤ t_size) ∨ (lab = 44 ∧ -2147483648 ≤ i1' ∧ i1' ≤ 2147483647 ∧ 0 ≤ i2' ∧ i2' ≤ t_rights) := hI
    rcases hI with ⟨rfl, v0_0, v0_1⟩ | ⟨rfl, v2_0, v2_1, v2_2, v2_3⟩ | ⟨rfl, v44_0, v44_1, v44_2, v44_3⟩
    · show Go _ (zg_X7_recall_0 t_size t_rights t_seenStep t_seenValue t_rightStep t_rightOf t_rightValue i1' i2' t_knownValue')
      unfold zg_X7_recall_0
      exact Go_i (show (((2 : Nat) = 0 ∧ -2147483648 ≤ (i1') ∧ (i1') ≤ 2147483647) ∨ ((2 : Nat) = 2 ∧ -2147483648 ≤ (i1') ∧ (i1') ≤ 2147483647 ∧ 0 ≤ ((0 : Int)) ∧ ((0 : Int)) ≤ t_size) ∨ ((2 : Nat) = 44 ∧ -2147483648 ≤ (i1') ∧ (i1') ≤ 2147483647 ∧ 0 ≤ ((0 : Int)) ∧ ((0 : Int)) ≤ t_rights)) ∧ (60 - ((0 : Int))).toNat < 100 from ⟨Or.inr (Or.inl (⟨rfl, (by first | assumption | omega), (by first | assumption | omega), (by first | assumption | omega), (by first | assumption | omega)⟩)), by omega⟩)
    · show Go _ (zg_X7_recall_2 t_size t_rights t_seenStep t_seenValue t_rightStep t_rightOf t_rightValue i1' i2' t_knownValue')
      unfold zg_X7_recall_2
      refine Go_chk (by unfold zout; omega) ?_
      refine Go_chk (by unfold zout; omega) ?_
      refine Go_ite (fun c1 => ?_) (fun c1 => ?_)
      · exact Go_i (show (((44 : Nat) = 0 ∧ -2147483648 ≤ (i1') ∧ (i1') ≤ 2147483647) ∨ ((44 : Nat) = 2 ∧ -2147483648 ≤ (i1') ∧ (i1') ≤ 2147483647 ∧ 0 ≤ ((0 : Int)) ∧ ((0 : Int)) ≤ t_size) ∨ ((44 : Nat) = 44 ∧ -2147483648 ≤ (i1') ∧ (i1') ≤ 2147483647 ∧ 0 ≤ ((0 : Int)) ∧ ((0 : Int)) ≤ t_rights)) ∧ (30 - ((0 : Int))).toNat < (60 - i2').toNat from ⟨Or.inr (Or.inr (⟨rfl, (by first | assumption | omega), (by first | assumption | omega), (by first | assumption | omega), (by first | assumption | omega)⟩)), by omega⟩)
      · refine Go_chk (by omega) ?_
        refine Go_chk (by unfold zout; omega) ?_
        have a2 := rget t_seenStep (Int.toNat i2')
        refine Go_ite (fun c3 => ?_) (fun c3 => ?_)
        · exact Go_i (show (((2 : Nat) = 0 ∧ -2147483648 ≤ (i1') ∧ (i1') ≤ 2147483647) ∨ ((2 : Nat) = 2 ∧ -2147483648 ≤ (i1') ∧ (i1') ≤ 2147483647 ∧ 0 ≤ ((i2' + (1 : Int))) ∧ ((i2' + (1 : Int))) ≤ t_size) ∨ ((2 : Nat) = 44 ∧ -2147483648 ≤ (i1') ∧ (i1') ≤ 2147483647 ∧ 0 ≤ ((i2' + (1 : Int))) ∧ ((i2' + (1 : Int))) ≤ t_rights)) ∧ (60 - ((i2' + (1 : Int)))).toNat < (60 - i2').toNat from ⟨Or.inr (Or.inl (⟨rfl, (by first | assumption | omega), (by first | assumption | omega), (by first | assumption | omega), (by first | assumption | omega)⟩)), by omega⟩)
        · have a4 := rget t_seenValue (Int.toNat i2')
          exact Go_i (show (((2 : Nat) = 0 ∧ -2147483648 ≤ (i1') ∧ (i1') ≤ 2147483647) ∨ ((2 : Nat) = 2 ∧ -2147483648 ≤ (i1') ∧ (i1') ≤ 2147483647 ∧ 0 ≤ ((i2' + (1 : Int))) ∧ ((i2' + (1 : Int))) ≤ t_size) ∨ ((2 : Nat) = 44 ∧ -2147483648 ≤ (i1') ∧ (i1') ≤ 2147483647 ∧ 0 ≤ ((i2' + (1 : Int))) ∧ ((i2' + (1 : Int))) ≤ t_rights)) ∧ (60 - ((i2' + (1 : Int)))).toNat < (60 - i2').toNat from ⟨Or.inr (Or.inl (⟨rfl, (by first | assumption | omega), (by first | assumption | omega), (by first | assumption | omega), (by first | assumption | omega)⟩)), by omega⟩)
    · show Go _ (zg_X7_recall_44 t_size t_rights t_seenStep t_seenValue t_rightStep t_rightOf t_rightValue i1' i2' t_knownValue')
      unfold zg_X7_recall_44
      refine Go_chk (by unfold zout; omega) ?_
      refine Go_chk (by unfold zout; omega) ?_
      refine Go_ite (fun c5 => ?_) (fun c5 => ?_)
      · exact Go_i (show True from trivial)
      · refine Go_chk (by omega) ?_
        refine Go_chk (by unfold zout; omega) ?_
        have a6 := rget t_rightStep (Int.toNat i2')
        refine Go_ite (fun c7 => ?_) (fun c7 => ?_)
        · exact Go_i (show (((44 : Nat) = 0 ∧ -2147483648 ≤ (i1') ∧ (i1') ≤ 2147483647) ∨ ((44 : Nat) = 2 ∧ -2147483648 ≤ (i1') ∧ (i1') ≤ 2147483647 ∧ 0 ≤ ((i2' + (1 : Int))) ∧ ((i2' + (1 : Int))) ≤ t_size) ∨ ((44 : Nat) = 44 ∧ -2147483648 ≤ (i1') ∧ (i1') ≤ 2147483647 ∧ 0 ≤ ((i2' + (1 : Int))) ∧ ((i2' + (1 : Int))) ≤ t_rights)) ∧ (30 - ((i2' + (1 : Int)))).toNat < (30 - i2').toNat from ⟨Or.inr (Or.inr (⟨rfl, (by first | assumption | omega), (by first | assumption | omega), (by first | assumption | omega), (by first | assumption | omega)⟩)), by omega⟩)
        · have a8 := rget t_rightOf (Int.toNat i2')
          refine Go_bindP (ok_X7_has t_size (zget t_rightOf (Int.toNat i2')) (by first | assumption | omega) (by first | assumption | omega) (by first | assumption | omega) (by first | assumption | omega)) (fun o11 q9 => ?_)
          obtain ⟨q9_0, q9_1⟩ := q9
          refine Go_ite (fun c10 => ?_) (fun c10 => ?_)
          · have dc10 := q9_1 c10
            exact Go_i (show (((44 : Nat) = 0 ∧ -2147483648 ≤ (i1') ∧ (i1') ≤ 2147483647) ∨ ((44 : Nat) = 2 ∧ -2147483648 ≤ (i1') ∧ (i1') ≤ 2147483647 ∧ 0 ≤ ((i2' + (1 : Int))) ∧ ((i2' + (1 : Int))) ≤ t_size) ∨ ((44 : Nat) = 44 ∧ -2147483648 ≤ (i1') ∧ (i1') ≤ 2147483647 ∧ 0 ≤ ((i2' + (1 : Int))) ∧ ((i2' + (1 : Int))) ≤ t_rights)) ∧ (30 - ((i2' + (1 : Int)))).toNat < (30 - i2').toNat from ⟨Or.inr (Or.inr (⟨rfl, (by first | assumption | omega), (by first | assumption | omega), (by first | assumption | omega), (by first | assumption | omega)⟩)), by omega⟩)
          · have dc10 := q9_0 (bnf c10)
            refine Go_chk (by omega) ?_
            have a11 := rget t_rightValue (Int.toNat i2')
            exact Go_i (show (((44 : Nat) = 0 ∧ -2147483648 ≤ (i1') ∧ (i1') ≤ 2147483647) ∨ ((44 : Nat) = 2 ∧ -2147483648 ≤ (i1') ∧ (i1') ≤ 2147483647 ∧ 0 ≤ ((i2' + (1 : Int))) ∧ ((i2' + (1 : Int))) ≤ t_size) ∨ ((44 : Nat) = 44 ∧ -2147483648 ≤ (i1') ∧ (i1') ≤ 2147483647 ∧ 0 ≤ ((i2' + (1 : Int))) ∧ ((i2' + (1 : Int))) ≤ t_rights)) ∧ (30 - ((i2' + (1 : Int)))).toNat < (30 - i2').toNat from ⟨Or.inr (Or.inr (⟨rfl, (by first | assumption | omega), (by first | assumption | omega), (by first | assumption | omega), (by first | assumption | omega)⟩)), by omega⟩)
  · exact (show ((0 : Nat) = 0 ∧ -2147483648 ≤ i1 ∧ i1 ≤ 2147483647) ∨ ((0 : Nat) = 2 ∧ -2147483648 ≤ i1 ∧ i1 ≤ 2147483647 ∧ 0 ≤ 0 ∧ 0 ≤ t_size) ∨ ((0 : Nat) = 44 ∧ -2147483648 ≤ i1 ∧ i1 ≤ 2147483647 ∧ 0 ≤ 0 ∧ 0 ≤ t_rights) from Or.inl (⟨rfl, (by first | assumption | omega), (by first | assumption | omega)⟩))
  · show 100 < jfuel
    unfold jfuel
    omega
set_option maxRecDepth 20000 in
theorem ok_X7_agreeWith (mk : Nat) (t_size : Int) (t_seenFrom : Nat) (t_seenTo : Nat) (t_knownValue : Nat) (n1 : Nat) (i2 : Int) (p0 : ¬ zno mk n1) (p1 : 0 ≤ t_size) (p2 : t_size ≤ 20) (p3 : isCut n1 i2) (p4 : (∀ k : Nat, (k : Int) < t_size → 0 ≤ zget t_seenFrom k ∧ zget t_seenFrom k < (n1 : Int))) (p5 : (∀ k : Nat, (k : Int) < t_size → 0 ≤ zget t_seenTo k ∧ zget t_seenTo k < (n1 : Int))) : Go (fun o => True) (zf_X7_agreeWith mk t_size t_seenFrom t_seenTo t_knownValue n1 i2) := by
  unfold zf_X7_agreeWith
  have grn1 := zno_rng p0
  have g7n1 := rpg7 (n := n1) (by omega) (by omega)
  have g8n1 := rpg8 (n := n1) (by omega) (by omega)
  refine jok (fun (s : zS_X7_agreeWith) => match s with | (lab, i2', i3') => (lab = 0 ∧ isCut n1 i2') ∨ (lab = 2 ∧ isCut n1 i2' ∧ 0 ≤ i3' ∧ i3' ≤ t_size)) (fun (s : zS_X7_agreeWith) => match s with | (lab, i2', i3') => if lab = 0 then 50 else if lab = 2 then (30 - i3').toNat else 0) (fun (o : zO_X7_agreeWith) => True) ?_ _ ?_ ?_
  · intro s hI
    obtain ⟨lab, i2', i3'⟩ := s
    have hI : (lab = 0 ∧ isCut n1 i2') ∨ (lab = 2 ∧ isCut n1 i2' ∧ 0 ≤ i3' ∧ i3' ≤ t_size) := hI
    rcases hI with ⟨rfl, v0_0⟩ | ⟨rfl, v2_0, v2_1, v2_2⟩
    · show Go _ (zg_X7_agreeWith_0 mk t_size t_seenFrom t_seenTo t_knownValue n1 i2' i3')
      unfold zg_X7_agreeWith_0
      exact Go_i (show (((2 : Nat) = 0 ∧ isCut n1 (i2')) ∨ ((2 : Nat) = 2 ∧ isCut n1 (i2') ∧ 0 ≤ ((0 : Int)) ∧ ((0 : Int)) ≤ t_size)) ∧ (30 - ((0 : Int))).toNat < 50 from ⟨Or.inr (⟨rfl, (by first | assumption | exact isCut_at (by omega) (by omega)), (by first | assumption | omega), (by first | assumption | omega)⟩), by omega⟩)
    · show Go _ (zg_X7_agreeWith_2 mk t_size t_seenFrom t_seenTo t_knownValue n1 i2' i3')
      unfold zg_X7_agreeWith_2
      refine Go_chk (by unfold zout; omega) ?_
      refine Go_chk (by unfold zout; omega) ?_
      refine Go_ite (fun c1 => ?_) (fun c1 => ?_)
      · exact Go_i (show True from trivial)
      · refine Go_chk (by omega) ?_
        have a2 := rget t_knownValue (Int.toNat i3')
        refine Go_ite (fun c3 => ?_) (fun c3 => ?_)
        · refine Go_ite (fun c4 => ?_) (fun c4 => ?_)
          · exact Go_i (show (((2 : Nat) = 0 ∧ isCut n1 (i2')) ∨ ((2 : Nat) = 2 ∧ isCut n1 (i2') ∧ 0 ≤ ((i3' + (1 : Int))) ∧ ((i3' + (1 : Int))) ≤ t_size)) ∧ (30 - ((i3' + (1 : Int)))).toNat < (30 - i3').toNat from ⟨Or.inr (⟨rfl, (by first | assumption | exact isCut_at (by omega) (by omega)), (by first | assumption | omega), (by first | assumption | omega)⟩), by omega⟩)
          · refine Go_chk (by assumption) ?_
            have a5 := rget t_seenTo (Int.toNat i3')
            have a6 := p5 (Int.toNat i3') (by omega)
            have a7 := rget t_seenFrom (Int.toNat i3')
            have a8 := p4 (Int.toNat i3') (by omega)
            refine Go_bindP (ok_X5_entryOf n1 i2' (zget t_seenFrom (Int.toNat i3')) (zget t_seenTo (Int.toNat i3')) (by first | assumption | omega) (by first | assumption | omega) (by first | assumption | exact isCut_at (by omega) (by omega)) (by first | assumption | omega) (by first | assumption | omega) (by first | assumption | omega) (by first | assumption | omega)) (fun o5 q9 => ?_)
            obtain ⟨q9_0, q9_1⟩ := q9
            refine Go_chk (by unfold zout; omega) ?_
            refine Go_ite (fun c10 => ?_) (fun c10 => ?_)
            · exact Go_i (show (((2 : Nat) = 0 ∧ isCut n1 (i2')) ∨ ((2 : Nat) = 2 ∧ isCut n1 (i2') ∧ 0 ≤ ((i3' + (1 : Int))) ∧ ((i3' + (1 : Int))) ≤ t_size)) ∧ (30 - ((i3' + (1 : Int)))).toNat < (30 - i3').toNat from ⟨Or.inr (⟨rfl, (by first | assumption | exact isCut_at (by omega) (by omega)), (by first | assumption | omega), (by first | assumption | omega)⟩), by omega⟩)
            · exact Go_i (show True from trivial)
        · refine Go_ite (fun c11 => ?_) (fun c11 => ?_)
          · exact Go_i (show (((2 : Nat) = 0 ∧ isCut n1 (i2')) ∨ ((2 : Nat) = 2 ∧ isCut n1 (i2') ∧ 0 ≤ ((i3' + (1 : Int))) ∧ ((i3' + (1 : Int))) ≤ t_size)) ∧ (30 - ((i3' + (1 : Int)))).toNat < (30 - i3').toNat from ⟨Or.inr (⟨rfl, (by first | assumption | exact isCut_at (by omega) (by omega)), (by first | assumption | omega), (by first | assumption | omega)⟩), by omega⟩)
          · refine Go_chk (by assumption) ?_
            have a12 := rget t_seenTo (Int.toNat i3')
            have a13 := p5 (Int.toNat i3') (by omega)
            have a14 := rget t_seenFrom (Int.toNat i3')
            have a15 := p4 (Int.toNat i3') (by omega)
            refine Go_bindP (ok_X5_entryOf n1 i2' (zget t_seenFrom (Int.toNat i3')) (zget t_seenTo (Int.toNat i3')) (by first | assumption | omega) (by first | assumption | omega) (by first | assumption | exact isCut_at (by omega) (by omega)) (by first | assumption | omega) (by first | assumption | omega) (by first | assumption | omega) (by first | assumption | omega)) (fun o10 q16 => ?_)
            obtain ⟨q16_0, q16_1⟩ := q16
            refine Go_chk (by unfold zout; omega) ?_
            refine Go_ite (fun c17 => ?_) (fun c17 => ?_)
            · exact Go_i (show (((2 : Nat) = 0 ∧ isCut n1 (i2')) ∨ ((2 : Nat) = 2 ∧ isCut n1 (i2') ∧ 0 ≤ ((i3' + (1 : Int))) ∧ ((i3' + (1 : Int))) ≤ t_size)) ∧ (30 - ((i3' + (1 : Int)))).toNat < (30 - i3').toNat from ⟨Or.inr (⟨rfl, (by first | assumption | exact isCut_at (by omega) (by omega)), (by first | assumption | omega), (by first | assumption | omega)⟩), by omega⟩)
            · exact Go_i (show True from trivial)
  · exact (show ((0 : Nat) = 0 ∧ isCut n1 i2) ∨ ((0 : Nat) = 2 ∧ isCut n1 i2 ∧ 0 ≤ 0 ∧ 0 ≤ t_size) from Or.inl (⟨rfl, (by first | assumption | exact isCut_at (by omega) (by omega))⟩))
  · show 50 < jfuel
    unfold jfuel
    omega
set_option maxRecDepth 20000 in
theorem ok_X0_size (t_size : Int)  : Go (fun o => (o) = t_size) (zf_X0_size t_size) := by
  unfold zf_X0_size
  exact Go_i (show (t_size) = t_size from (by first | assumption | omega))
set_option maxRecDepth 20000 in
theorem ok_X0_spanFrom (mk : Nat) (n0 : Nat) (i1 : Int) (i2 : Int) (p0 : ¬ zno mk n0) (p1 : -1 ≤ i1) (p2 : i1 ≤ 8) (p3 : -2147483648 ≤ i2) (p4 : i2 ≤ 2147483647) : Go (fun o => 0 ≤ (o) ∧ (o) ≤ 18) (zf_X0_spanFrom mk n0 i1 i2) := by
  unfold zf_X0_spanFrom
  have grn0 := zno_rng p0
  have g7n0 := rpg7 (n := n0) (by omega) (by omega)
  have g8n0 := rpg8 (n := n0) (by omega) (by omega)
  refine Go_chk (by assumption) ?_
  refine Go_bindP (ok_X5_lesserOf n0 i2 (by first | assumption | omega) (by first | assumption | omega) (by first | assumption | omega) (by first | assumption | omega)) (fun o2 q1 => ?_)
  obtain ⟨q1_0, q1_1, q1_2⟩ := q1
  refine Go_bindP (ok_X5_ahead n0 i1 o2 (by first | assumption | omega) (by first | assumption | omega) (by first | assumption | omega) (by first | assumption | omega) (by first | assumption | omega) (by first | assumption | omega)) (fun o3 q2 => ?_)
  obtain ⟨q2_0, q2_1⟩ := q2
  refine Go_bindP (ok_X5_greaterOf n0 i2 (by first | assumption | omega) (by first | assumption | omega) (by first | assumption | omega) (by first | assumption | omega)) (fun o4 q3 => ?_)
  obtain ⟨q3_0, q3_1, q3_2⟩ := q3
  refine Go_bindP (ok_X5_ahead n0 i1 o4 (by first | assumption | omega) (by first | assumption | omega) (by first | assumption | omega) (by first | assumption | omega) (by first | assumption | omega) (by first | assumption | omega)) (fun o5 q4 => ?_)
  obtain ⟨q4_0, q4_1⟩ := q4
  refine Go_chk (by unfold zout; omega) ?_
  have a5 := rabs (o3 - o5)
  exact Go_i (show 0 ≤ ((zabs (o3 - o5))) ∧ ((zabs (o3 - o5))) ≤ 18 from ⟨(by first | assumption | omega), (by first | assumption | omega)⟩)
set_option maxRecDepth 20000 in
theorem ok_X0_gather (mk : Nat) (t_size : Int) (t_lines : Nat) (n1 : Nat) (i2 : Int) (i3 : Int) (i4 : Int) (p0 : ¬ zno mk n1) (p1 : 0 ≤ i3) (p2 : i3 < (n1 : Int)) (p3 : 0 ≤ i4) (p4 : i4 < (n1 : Int)) : Go (fun o => 0 ≤ (o.1) ∧ (o.1) ≤ 27) (zf_X0_gather mk t_size t_lines n1 i2 i3 i4) := by
  unfold zf_X0_gather
  have grn1 := zno_rng p0
  have g7n1 := rpg7 (n := n1) (by omega) (by omega)
  have g8n1 := rpg8 (n := n1) (by omega) (by omega)
  refine jok (fun (s : zS_X0_gather) => match s with | (lab, i2', i3', i4', i5', i6', i7', t_size', t_lines') => (lab = 0 ∧ 0 ≤ i3' ∧ i3' < (n1 : Int) ∧ 0 ≤ i4' ∧ i4' < (n1 : Int)) ∨ (lab = 28 ∧ 0 ≤ i3' ∧ i3' < (n1 : Int) ∧ 0 ≤ i6' ∧ i6' ≤ 8 ∧ 0 ≤ t_size' ∧ t_size' ≤ 27) ∨ (lab = 36 ∧ 0 ≤ i3' ∧ i3' < (n1 : Int) ∧ 1 ≤ i6' ∧ i6' ≤ 8 ∧ 0 ≤ i7' ∧ i7' ≤ pg7 n1 ∧ 0 ≤ t_size' ∧ t_size' ≤ 27)) (fun (s : zS_X0_gather) => match s with | (lab, i2', i3', i4', i5', i6', i7', t_size', t_lines') => if lab = 0 then 10000 else if lab = 28 then (100 * i6' + 50).toNat else if lab = 36 then (100 * i6' + 30 - i7').toNat else 0) (fun (o : zO_X0_gather) => 0 ≤ (o.1) ∧ (o.1) ≤ 27) ?_ _ ?_ ?_
  · intro s hI
    obtain ⟨lab, i2', i3', i4', i5', i6', i7', t_size', t_lines'⟩ := s
    have hI : (lab = 0 ∧ 0 ≤ i3' ∧ i3' < (n1 : Int) ∧ 0 ≤ i4' ∧ i4' < (n1 : Int)) ∨ (lab = 28 ∧ 0 ≤ i3' ∧ i3' < (n1 : Int) ∧ 0 ≤ i6' ∧ i6' ≤ 8 ∧ 0 ≤ t_size' ∧ t_size' ≤ 27) ∨ (lab = 36 ∧ 0 ≤ i3' ∧ i3' < (n1 : Int) ∧ 1 ≤ i6' ∧ i6' ≤ 8 ∧ 0 ≤ i7' ∧ i7' ≤ pg7 n1 ∧ 0 ≤ t_size' ∧ t_size' ≤ 27) := hI
    rcases hI with ⟨rfl, v0_0, v0_1, v0_2, v0_3⟩ | ⟨rfl, v28_0, v28_1, v28_2, v28_3, v28_4, v28_5⟩ | ⟨rfl, v36_0, v36_1, v36_2, v36_3, v36_4, v36_5, v36_6, v36_7⟩
    · show Go _ (zg_X0_gather_0 mk n1 i2' i3' i4' i5' i6' i7' t_size' t_lines')
      unfold zg_X0_gather_0
      refine Go_chk (by assumption) ?_
      refine Go_bindP (ok_X5_lineOf n1 i3' i4' (by first | assumption | omega) (by first | assumption | omega) (by first | assumption | omega) (by first | assumption | omega) (by first | assumption | omega) (by first | assumption | omega)) (fun o2 q1 => ?_)
      obtain ⟨q1_0, q1_1⟩ := q1
      refine Go_bindP (ok_X5_crossersOf n1 o2 (by first | assumption | omega) (by first | assumption | omega) (by first | assumption | omega) (by first | assumption | omega)) (fun o3 q2 => ?_)
      obtain ⟨q2_0, q2_1⟩ := q2
      refine Go_bindP (ok_X5_corners n1 ) (fun o4 q3 => ?_)
      have a4 := rand o3 i2'
      exact Go_i (show (((28 : Nat) = 0 ∧ 0 ≤ (i3') ∧ (i3') < (n1 : Int) ∧ 0 ≤ (i4') ∧ (i4') < (n1 : Int)) ∨ ((28 : Nat) = 28 ∧ 0 ≤ (i3') ∧ (i3') < (n1 : Int) ∧ 0 ≤ ((o4 - (1 : Int))) ∧ ((o4 - (1 : Int))) ≤ 8 ∧ 0 ≤ ((0 : Int)) ∧ ((0 : Int)) ≤ 27) ∨ ((28 : Nat) = 36 ∧ 0 ≤ (i3') ∧ (i3') < (n1 : Int) ∧ 1 ≤ ((o4 - (1 : Int))) ∧ ((o4 - (1 : Int))) ≤ 8 ∧ 0 ≤ (0) ∧ (0) ≤ pg7 n1 ∧ 0 ≤ ((0 : Int)) ∧ ((0 : Int)) ≤ 27)) ∧ (100 * ((o4 - (1 : Int))) + 50).toNat < 10000 from ⟨Or.inr (Or.inl (⟨rfl, (by first | assumption | omega), (by first | assumption | omega), (by first | assumption | omega), (by first | assumption | omega), (by first | assumption | omega), (by first | assumption | omega)⟩)), by omega⟩)
    · show Go _ (zg_X0_gather_28 mk n1 i2' i3' i4' i5' i6' i7' t_size' t_lines')
      unfold zg_X0_gather_28
      refine Go_chk (by unfold zout; omega) ?_
      refine Go_ite (fun c5 => ?_) (fun c5 => ?_)
      · exact Go_i (show 0 ≤ (t_size') ∧ (t_size') ≤ 27 from ⟨(by first | assumption | omega), (by first | assumption | omega)⟩)
      · exact Go_i (show (((36 : Nat) = 0 ∧ 0 ≤ (i3') ∧ (i3') < (n1 : Int) ∧ 0 ≤ (0) ∧ (0) < (n1 : Int)) ∨ ((36 : Nat) = 28 ∧ 0 ≤ (i3') ∧ (i3') < (n1 : Int) ∧ 0 ≤ (i6') ∧ (i6') ≤ 8 ∧ 0 ≤ (t_size') ∧ (t_size') ≤ 27) ∨ ((36 : Nat) = 36 ∧ 0 ≤ (i3') ∧ (i3') < (n1 : Int) ∧ 1 ≤ (i6') ∧ (i6') ≤ 8 ∧ 0 ≤ ((0 : Int)) ∧ ((0 : Int)) ≤ pg7 n1 ∧ 0 ≤ (t_size') ∧ (t_size') ≤ 27)) ∧ (100 * (i6') + 30 - ((0 : Int))).toNat < (100 * i6' + 50).toNat from ⟨Or.inr (Or.inr (⟨rfl, (by first | assumption | omega), (by first | assumption | omega), (by first | assumption | omega), (by first | assumption | omega), (by first | assumption | omega), (by first | assumption | omega), (by first | assumption | omega), (by first | assumption | omega)⟩)), by omega⟩)
    · show Go _ (zg_X0_gather_36 mk n1 i2' i3' i4' i5' i6' i7' t_size' t_lines')
      unfold zg_X0_gather_36
      refine Go_chk (by assumption) ?_
      refine Go_bindP (ok_X5_lineCount n1 (by first | assumption | omega) (by first | assumption | omega)) (fun o8 q6 => ?_)
      obtain ⟨q6_0, q6_1, q6_2⟩ := q6
      refine Go_chk (by unfold zout; omega) ?_
      refine Go_chk (by unfold zout; omega) ?_
      refine Go_ite (fun c7 => ?_) (fun c7 => ?_)
      · exact Go_i (show (((28 : Nat) = 0 ∧ 0 ≤ (i3') ∧ (i3') < (n1 : Int) ∧ 0 ≤ (0) ∧ (0) < (n1 : Int)) ∨ ((28 : Nat) = 28 ∧ 0 ≤ (i3') ∧ (i3') < (n1 : Int) ∧ 0 ≤ ((i6' + (-1 : Int))) ∧ ((i6' + (-1 : Int))) ≤ 8 ∧ 0 ≤ (t_size') ∧ (t_size') ≤ 27) ∨ ((28 : Nat) = 36 ∧ 0 ≤ (i3') ∧ (i3') < (n1 : Int) ∧ 1 ≤ ((i6' + (-1 : Int))) ∧ ((i6' + (-1 : Int))) ≤ 8 ∧ 0 ≤ (i7') ∧ (i7') ≤ pg7 n1 ∧ 0 ≤ (t_size') ∧ (t_size') ≤ 27)) ∧ (100 * ((i6' + (-1 : Int))) + 50).toNat < (100 * i6' + 30 - i7').toNat from ⟨Or.inr (Or.inl (⟨rfl, (by first | assumption | omega), (by first | assumption | omega), (by first | assumption | omega), (by first | assumption | omega), (by first | assumption | omega), (by first | assumption | omega)⟩)), by omega⟩)
      · refine Go_bindP (ok_X5_has n1 i5' i7' (by first | assumption | omega) (by first | assumption | omega) (by first | assumption | omega) (by first | assumption | omega)) (fun o11 q8 => ?_)
        obtain ⟨q8_0, q8_1⟩ := q8
        refine Go_ite (fun c9 => ?_) (fun c9 => ?_)
        · have dc9 := q8_1 c9
          exact Go_i (show (((36 : Nat) = 0 ∧ 0 ≤ (i3') ∧ (i3') < (n1 : Int) ∧ 0 ≤ (0) ∧ (0) < (n1 : Int)) ∨ ((36 : Nat) = 28 ∧ 0 ≤ (i3') ∧ (i3') < (n1 : Int) ∧ 0 ≤ (i6') ∧ (i6') ≤ 8 ∧ 0 ≤ (t_size') ∧ (t_size') ≤ 27) ∨ ((36 : Nat) = 36 ∧ 0 ≤ (i3') ∧ (i3') < (n1 : Int) ∧ 1 ≤ (i6') ∧ (i6') ≤ 8 ∧ 0 ≤ ((i7' + (1 : Int))) ∧ ((i7' + (1 : Int))) ≤ pg7 n1 ∧ 0 ≤ (t_size') ∧ (t_size') ≤ 27)) ∧ (100 * (i6') + 30 - ((i7' + (1 : Int)))).toNat < (100 * i6' + 30 - i7').toNat from ⟨Or.inr (Or.inr (⟨rfl, (by first | assumption | omega), (by first | assumption | omega), (by first | assumption | omega), (by first | assumption | omega), (by first | assumption | omega), (by first | assumption | omega), (by first | assumption | omega), (by first | assumption | omega)⟩)), by omega⟩)
        · have dc9 := q8_0 (bnf c9)
          refine Go_bindP (ok_X0_spanFrom mk n1 i3' i7' (by first | assumption | omega) (by first | assumption | omega) (by first | assumption | omega) (by first | assumption | omega) (by first | assumption | omega)) (fun o12 q10 => ?_)
          obtain ⟨q10_0, q10_1⟩ := q10
          refine Go_chk (by unfold zout; omega) ?_
          refine Go_chk (by unfold zout; omega) ?_
          refine Go_ite (fun c11 => ?_) (fun c11 => ?_)
          · refine Go_chk (by unfold zout; omega) ?_
            refine Go_ite (fun c12 => ?_) (fun c12 => ?_)
            · exact Go_i (show (((36 : Nat) = 0 ∧ 0 ≤ (i3') ∧ (i3') < (n1 : Int) ∧ 0 ≤ (0) ∧ (0) < (n1 : Int)) ∨ ((36 : Nat) = 28 ∧ 0 ≤ (i3') ∧ (i3') < (n1 : Int) ∧ 0 ≤ (i6') ∧ (i6') ≤ 8 ∧ 0 ≤ (t_size') ∧ (t_size') ≤ 27) ∨ ((36 : Nat) = 36 ∧ 0 ≤ (i3') ∧ (i3') < (n1 : Int) ∧ 1 ≤ (i6') ∧ (i6') ≤ 8 ∧ 0 ≤ ((i7' + (1 : Int))) ∧ ((i7' + (1 : Int))) ≤ pg7 n1 ∧ 0 ≤ (t_size') ∧ (t_size') ≤ 27)) ∧ (100 * (i6') + 30 - ((i7' + (1 : Int)))).toNat < (100 * i6' + 30 - i7').toNat from ⟨Or.inr (Or.inr (⟨rfl, (by first | assumption | omega), (by first | assumption | omega), (by first | assumption | omega), (by first | assumption | omega), (by first | assumption | omega), (by first | assumption | omega), (by first | assumption | omega), (by first | assumption | omega)⟩)), by omega⟩)
            · refine Go_chk (by omega) ?_
              exact Go_i (show (((36 : Nat) = 0 ∧ 0 ≤ (i3') ∧ (i3') < (n1 : Int) ∧ 0 ≤ (0) ∧ (0) < (n1 : Int)) ∨ ((36 : Nat) = 28 ∧ 0 ≤ (i3') ∧ (i3') < (n1 : Int) ∧ 0 ≤ (i6') ∧ (i6') ≤ 8 ∧ 0 ≤ ((t_size' + (1 : Int))) ∧ ((t_size' + (1 : Int))) ≤ 27) ∨ ((36 : Nat) = 36 ∧ 0 ≤ (i3') ∧ (i3') < (n1 : Int) ∧ 1 ≤ (i6') ∧ (i6') ≤ 8 ∧ 0 ≤ ((i7' + (1 : Int))) ∧ ((i7' + (1 : Int))) ≤ pg7 n1 ∧ 0 ≤ ((t_size' + (1 : Int))) ∧ ((t_size' + (1 : Int))) ≤ 27)) ∧ (100 * (i6') + 30 - ((i7' + (1 : Int)))).toNat < (100 * i6' + 30 - i7').toNat from ⟨Or.inr (Or.inr (⟨rfl, (by first | assumption | omega), (by first | assumption | omega), (by first | assumption | omega), (by first | assumption | omega), (by first | assumption | omega), (by first | assumption | omega), (by first | assumption | omega), (by first | assumption | omega)⟩)), by omega⟩)
          · exact Go_i (show (((36 : Nat) = 0 ∧ 0 ≤ (i3') ∧ (i3') < (n1 : Int) ∧ 0 ≤ (0) ∧ (0) < (n1 : Int)) ∨ ((36 : Nat) = 28 ∧ 0 ≤ (i3') ∧ (i3') < (n1 : Int) ∧ 0 ≤ (i6') ∧ (i6') ≤ 8 ∧ 0 ≤ (t_size') ∧ (t_size') ≤ 27) ∨ ((36 : Nat) = 36 ∧ 0 ≤ (i3') ∧ (i3') < (n1 : Int) ∧ 1 ≤ (i6') ∧ (i6') ≤ 8 ∧ 0 ≤ ((i7' + (1 : Int))) ∧ ((i7' + (1 : Int))) ≤ pg7 n1 ∧ 0 ≤ (t_size') ∧ (t_size') ≤ 27)) ∧ (100 * (i6') + 30 - ((i7' + (1 : Int)))).toNat < (100 * i6' + 30 - i7').toNat from ⟨Or.inr (Or.inr (⟨rfl, (by first | assumption | omega), (by first | assumption | omega), (by first | assumption | omega), (by first | assumption | omega), (by first | assumption | omega), (by first | assumption | omega), (by first | assumption | omega), (by first | assumption | omega)⟩)), by omega⟩)
  · exact (show ((0 : Nat) = 0 ∧ 0 ≤ i3 ∧ i3 < (n1 : Int) ∧ 0 ≤ i4 ∧ i4 < (n1 : Int)) ∨ ((0 : Nat) = 28 ∧ 0 ≤ i3 ∧ i3 < (n1 : Int) ∧ 0 ≤ 0 ∧ 0 ≤ 8 ∧ 0 ≤ t_size ∧ t_size ≤ 27) ∨ ((0 : Nat) = 36 ∧ 0 ≤ i3 ∧ i3 < (n1 : Int) ∧ 1 ≤ 0 ∧ 0 ≤ 8 ∧ 0 ≤ 0 ∧ 0 ≤ pg7 n1 ∧ 0 ≤ t_size ∧ t_size ≤ 27) from Or.inl (⟨rfl, (by first | assumption | omega), (by first | assumption | omega), (by first | assumption | omega), (by first | assumption | omega)⟩))
  · show 10000 < jfuel
    unfold jfuel
    omega
set_option maxRecDepth 20000 in
theorem ok_X0_pairAt (mk : Nat) (t_size : Int) (t_lines : Nat) (n1 : Nat) (i2 : Int) (p0 : ¬ zno mk n1) (p1 : 0 ≤ t_size) (p2 : t_size ≤ 27) (p3 : -2147483648 ≤ i2) (p4 : i2 ≤ 2147483647) : Go (fun o => -1 ≤ (o) ∧ (o) ≤ 200) (zf_X0_pairAt mk t_size t_lines n1 i2) := by
  unfold zf_X0_pairAt
  have grn1 := zno_rng p0
  have g7n1 := rpg7 (n := n1) (by omega) (by omega)
  have g8n1 := rpg8 (n := n1) (by omega) (by omega)
  refine Go_chk (by unfold zout; omega) ?_
  refine Go_ite (fun c1 => ?_) (fun c1 => ?_)
  · exact Go_i (show -1 ≤ ((-1 : Int)) ∧ ((-1 : Int)) ≤ 200 from ⟨(by first | assumption | omega), (by first | assumption | omega)⟩)
  · refine Go_chk (by unfold zout; omega) ?_
    refine Go_ite (fun c2 => ?_) (fun c2 => ?_)
    · refine Go_chk (by omega) ?_
      refine Go_chk (by assumption) ?_
      have a3 := rget t_lines (Int.toNat i2)
      refine Go_bindP (ok_X5_pairOf n1 (zget t_lines (Int.toNat i2)) (by first | assumption | omega) (by first | assumption | omega) (by first | assumption | omega) (by first | assumption | omega)) (fun o5 q4 => ?_)
      obtain ⟨q4_0, q4_1⟩ := q4
      exact Go_i (show -1 ≤ (o5) ∧ (o5) ≤ 200 from ⟨(by first | assumption | omega), (by first | assumption | omega)⟩)
    · exact Go_i (show -1 ≤ ((-1 : Int)) ∧ ((-1 : Int)) ≤ 200 from ⟨(by first | assumption | omega), (by first | assumption | omega)⟩)
set_option maxRecDepth 20000 in
theorem ok_X0_sharedWithNext (mk : Nat) (t_size : Int) (t_lines : Nat) (n1 : Nat) (i2 : Int) (p0 : ¬ zno mk n1) (p1 : 0 ≤ t_size) (p2 : t_size ≤ 27) (p3 : -2147483648 ≤ i2) (p4 : i2 ≤ 2147483647) : Go (fun o => -1 ≤ (o) ∧ (o) ≤ 8) (zf_X0_sharedWithNext mk t_size t_lines n1 i2) := by
  unfold zf_X0_sharedWithNext
  have grn1 := zno_rng p0
  have g7n1 := rpg7 (n := n1) (by omega) (by omega)
  have g8n1 := rpg8 (n := n1) (by omega) (by omega)
  refine Go_chk (by unfold zout; omega) ?_
  refine Go_ite (fun c1 => ?_) (fun c1 => ?_)
  · exact Go_i (show -1 ≤ ((-1 : Int)) ∧ ((-1 : Int)) ≤ 8 from ⟨(by first | assumption | omega), (by first | assumption | omega)⟩)
  · refine Go_chk (by unfold zout; omega) ?_
    refine Go_ite (fun c2 => ?_) (fun c2 => ?_)
    · refine Go_chk (by omega) ?_
      refine Go_chk (by assumption) ?_
      have a3 := rget t_lines (Int.toNat i2)
      refine Go_bindP (ok_X5_lesserOf n1 (zget t_lines (Int.toNat i2)) (by first | assumption | omega) (by first | assumption | omega) (by first | assumption | omega) (by first | assumption | omega)) (fun o5 q4 => ?_)
      obtain ⟨q4_0, q4_1, q4_2⟩ := q4
      refine Go_chk (by omega) ?_
      have a5 := rget t_lines (Int.toNat (i2 + (1 : Int)))
      refine Go_bindP (ok_X5_lesserOf n1 (zget t_lines (Int.toNat (i2 + (1 : Int)))) (by first | assumption | omega) (by first | assumption | omega) (by first | assumption | omega) (by first | assumption | omega)) (fun o7 q6 => ?_)
      obtain ⟨q6_0, q6_1, q6_2⟩ := q6
      refine Go_bindP (ok_X5_greaterOf n1 (zget t_lines (Int.toNat (i2 + (1 : Int)))) (by first | assumption | omega) (by first | assumption | omega) (by first | assumption | omega) (by first | assumption | omega)) (fun o8 q7 => ?_)
      obtain ⟨q7_0, q7_1, q7_2⟩ := q7
      refine Go_chk (by unfold zout; omega) ?_
      refine Go_chk (by unfold zout; omega) ?_
      refine Go_ite (fun c8 => ?_) (fun c8 => ?_)
      · exact Go_i (show -1 ≤ (o5) ∧ (o5) ≤ 8 from ⟨(by first | assumption | omega), (by first | assumption | omega)⟩)
      · refine Go_chk (by unfold zout; omega) ?_
        refine Go_ite (fun c9 => ?_) (fun c9 => ?_)
        · exact Go_i (show -1 ≤ (o5) ∧ (o5) ≤ 8 from ⟨(by first | assumption | omega), (by first | assumption | omega)⟩)
        · refine Go_bindP (ok_X5_greaterOf n1 (zget t_lines (Int.toNat i2)) (by first | assumption | omega) (by first | assumption | omega) (by first | assumption | omega) (by first | assumption | omega)) (fun o12 q10 => ?_)
          obtain ⟨q10_0, q10_1, q10_2⟩ := q10
          exact Go_i (show -1 ≤ (o12) ∧ (o12) ≤ 8 from ⟨(by first | assumption | omega), (by first | assumption | omega)⟩)
    · exact Go_i (show -1 ≤ ((-1 : Int)) ∧ ((-1 : Int)) ≤ 8 from ⟨(by first | assumption | omega), (by first | assumption | omega)⟩)
set_option maxRecDepth 20000 in
theorem ok_X4_comeTo (t_queued : Int) (t_steps : Nat) (t_queue : Nat) (i1 : Int) (i2 : Int) (p0 : 0 ≤ t_queued) (p1 : t_queued ≤ 429) (p2 : (∀ k : Nat, k < 429 → -1 ≤ zget t_steps k ∧ zget t_steps k ≤ t_queued)) (p3 : -2147483648 ≤ i1) (p4 : i1 ≤ 2147483647) (p5 : -1 ≤ i2) (p6 : i2 ≤ t_queued + 1) : Go (fun o => 0 ≤ (o.1) ∧ (o.1) ≤ 429 ∧ (∀ k : Nat, k < 429 → -1 ≤ zget (o.2.1) k ∧ zget (o.2.1) k ≤ (o.1)) ∧ t_queued ≤ (o.1)) (zf_X4_comeTo t_queued t_steps t_queue i1 i2) := by
  unfold zf_X4_comeTo
  refine Go_chk (by unfold zout; omega) ?_
  refine Go_ite (fun c1 => ?_) (fun c1 => ?_)
  · exact Go_i (show 0 ≤ (t_queued) ∧ (t_queued) ≤ 429 ∧ (∀ k : Nat, k < 429 → -1 ≤ zget (t_steps) k ∧ zget (t_steps) k ≤ (t_queued)) ∧ t_queued ≤ (t_queued) from ⟨(by first | assumption | omega), (by first | assumption | omega), (by first | assumption | exact all_w (by assumption) (by omega) | (refine all_setw ?_ (Int.le_refl _) ?_ ?_ (by omega) (by omega) <;> first | assumption | omega) | exact all_setw (by assumption) (by omega) (by omega) (by omega) (by omega) (by omega)), (by first | assumption | omega)⟩)
  · refine Go_ite (fun c2 => ?_) (fun c2 => ?_)
    · exact Go_i (show 0 ≤ (t_queued) ∧ (t_queued) ≤ 429 ∧ (∀ k : Nat, k < 429 → -1 ≤ zget (t_steps) k ∧ zget (t_steps) k ≤ (t_queued)) ∧ t_queued ≤ (t_queued) from ⟨(by first | assumption | omega), (by first | assumption | omega), (by first | assumption | exact all_w (by assumption) (by omega) | (refine all_setw ?_ (Int.le_refl _) ?_ ?_ (by omega) (by omega) <;> first | assumption | omega) | exact all_setw (by assumption) (by omega) (by omega) (by omega) (by omega) (by omega)), (by first | assumption | omega)⟩)
    · refine Go_chk (by omega) ?_
      have a3 := rget t_steps (Int.toNat i1)
      refine Go_ite (fun c4 => ?_) (fun c4 => ?_)
      · refine Go_chk (by unfold zout; omega) ?_
        refine Go_ite (fun c5 => ?_) (fun c5 => ?_)
        · exact Go_i (show 0 ≤ (t_queued) ∧ (t_queued) ≤ 429 ∧ (∀ k : Nat, k < 429 → -1 ≤ zget (t_steps) k ∧ zget (t_steps) k ≤ (t_queued)) ∧ t_queued ≤ (t_queued) from ⟨(by first | assumption | omega), (by first | assumption | omega), (by first | assumption | exact all_w (by assumption) (by omega) | (refine all_setw ?_ (Int.le_refl _) ?_ ?_ (by omega) (by omega) <;> first | assumption | omega) | exact all_setw (by assumption) (by omega) (by omega) (by omega) (by omega) (by omega)), (by first | assumption | omega)⟩)
        · refine Go_chk (by omega) ?_
          exact Go_i (show 0 ≤ ((t_queued + (1 : Int))) ∧ ((t_queued + (1 : Int))) ≤ 429 ∧ (∀ k : Nat, k < 429 → -1 ≤ zget ((zset t_steps (Int.toNat i1) i2)) k ∧ zget ((zset t_steps (Int.toNat i1) i2)) k ≤ ((t_queued + (1 : Int)))) ∧ t_queued ≤ ((t_queued + (1 : Int))) from ⟨(by first | assumption | omega), (by first | assumption | omega), (by first | assumption | exact all_w (by assumption) (by omega) | (refine all_setw ?_ (Int.le_refl _) ?_ ?_ (by omega) (by omega) <;> first | assumption | omega) | exact all_setw (by assumption) (by omega) (by omega) (by omega) (by omega) (by omega)), (by first | assumption | omega)⟩)
      · exact Go_i (show 0 ≤ (t_queued) ∧ (t_queued) ≤ 429 ∧ (∀ k : Nat, k < 429 → -1 ≤ zget (t_steps) k ∧ zget (t_steps) k ≤ (t_queued)) ∧ t_queued ≤ (t_queued) from ⟨(by first | assumption | omega), (by first | assumption | omega), (by first | assumption | exact all_w (by assumption) (by omega) | (refine all_setw ?_ (Int.le_refl _) ?_ ?_ (by omega) (by omega) <;> first | assumption | omega) | exact all_setw (by assumption) (by omega) (by omega) (by omega) (by omega) (by omega)), (by first | assumption | omega)⟩)
set_option maxRecDepth 20000 in
theorem ok_X4_stepsTo (t_steps : Nat) (i1 : Int) (p0 : -2147483648 ≤ i1) (p1 : i1 ≤ 2147483647) : Go (fun o => (∀ b : Int, -1 ≤ b → (∀ k : Nat, k < 429 → -1 ≤ zget t_steps k ∧ zget t_steps k ≤ b) → -1 ≤ (o) ∧ (o) ≤ b)) (zf_X4_stepsTo t_steps i1) := by
  unfold zf_X4_stepsTo
  refine Go_chk (by unfold zout; omega) ?_
  refine Go_ite (fun c1 => ?_) (fun c1 => ?_)
  · exact Go_i (show (∀ b : Int, -1 ≤ b → (∀ k : Nat, k < 429 → -1 ≤ zget t_steps k ∧ zget t_steps k ≤ b) → -1 ≤ ((-1 : Int)) ∧ ((-1 : Int)) ≤ b) from (by intro b hb hs; first | exact hs _ (by omega) | omega))
  · refine Go_ite (fun c2 => ?_) (fun c2 => ?_)
    · exact Go_i (show (∀ b : Int, -1 ≤ b → (∀ k : Nat, k < 429 → -1 ≤ zget t_steps k ∧ zget t_steps k ≤ b) → -1 ≤ ((-1 : Int)) ∧ ((-1 : Int)) ≤ b) from (by intro b hb hs; first | exact hs _ (by omega) | omega))
    · refine Go_chk (by omega) ?_
      have a3 := rget t_steps (Int.toNat i1)
      exact Go_i (show (∀ b : Int, -1 ≤ b → (∀ k : Nat, k < 429 → -1 ≤ zget t_steps k ∧ zget t_steps k ≤ b) → -1 ≤ ((zget t_steps (Int.toNat i1))) ∧ ((zget t_steps (Int.toNat i1))) ≤ b) from (by intro b hb hs; first | exact hs _ (by omega) | omega))
set_option maxRecDepth 20000 in
theorem ok_X4_measure (mk : Nat) (t_queued : Int) (t_steps : Nat) (t_queue : Nat) (n1 : Nat) (i2 : Int) (p0 : ¬ zno mk n1) (p1 : -2147483648 ≤ i2) (p2 : i2 ≤ 2147483647) : Go (fun o => 0 ≤ (o.1) ∧ (o.1) ≤ 429 ∧ (∀ k : Nat, k < 429 → -1 ≤ zget (o.2.1) k ∧ zget (o.2.1) k ≤ 429)) (zf_X4_measure mk t_queued t_steps t_queue n1 i2) := by
  unfold zf_X4_measure
  have grn1 := zno_rng p0
  have g7n1 := rpg7 (n := n1) (by omega) (by omega)
  have g8n1 := rpg8 (n := n1) (by omega) (by omega)
  refine jok (fun (s : zS_X4_measure) => match s with | (lab, i2', i3', i4', i5', t_queued', t_steps', t_queue') => (lab = 0 ∧ -2147483648 ≤ i2' ∧ i2' ≤ 2147483647) ∨ (lab = 2 ∧ -2147483648 ≤ i2' ∧ i2' ≤ 2147483647 ∧ 0 ≤ i3' ∧ i3' ≤ 429 ∧ (∀ k : Nat, (k : Int) < i3' → zget t_steps' k = -1)) ∨ (lab = 35 ∧ 0 ≤ i3' ∧ i3' ≤ 429 ∧ 0 ≤ t_queued' ∧ t_queued' ≤ 429 ∧ (∀ k : Nat, k < 429 → -1 ≤ zget t_steps' k ∧ zget t_steps' k ≤ t_queued')) ∨ (lab = 65 ∧ 0 ≤ i3' ∧ i3' ≤ 428 ∧ 0 ≤ i5' ∧ i5' ≤ pg7 n1 ∧ 0 ≤ t_queued' ∧ t_queued' ≤ 429 ∧ (∀ k : Nat, k < 429 → -1 ≤ zget t_steps' k ∧ zget t_steps' k ≤ t_queued'))) (fun (s : zS_X4_measure) => match s with | (lab, i2', i3', i4', i5', t_queued', t_steps', t_queue') => if lab = 0 then 100000 else if lab = 2 then (90000 - i3').toNat else if lab = 35 then (50 * (430 - i3') + 40).toNat else if lab = 65 then (50 * (430 - i3') + 30 - i5').toNat else 0) (fun (o : zO_X4_measure) => 0 ≤ (o.1) ∧ (o.1) ≤ 429 ∧ (∀ k : Nat, k < 429 → -1 ≤ zget (o.2.1) k ∧ zget (o.2.1) k ≤ 429)) ?_ _ ?_ ?_
  · intro s hI
    obtain ⟨lab, i2', i3', i4', i5', t_queued', t_steps', t_queue'⟩ := s
    have hI : (lab = 0 ∧ -2147483648 ≤ i2' ∧ i2' ≤ 2147483647) ∨ (lab = 2 ∧ -2147483648 ≤ i2' ∧ i2' ≤ 2147483647 ∧ 0 ≤ i3' ∧ i3' ≤ 429 ∧ (∀ k : Nat, (k : Int) < i3' → zget t_steps' k = -1)) ∨ (lab = 35 ∧ 0 ≤ i3' ∧ i3' ≤ 429 ∧ 0 ≤ t_queued' ∧ t_queued' ≤ 429 ∧ (∀ k : Nat, k < 429 → -1 ≤ zget t_steps' k ∧ zget t_steps' k ≤ t_queued')) ∨ (lab = 65 ∧ 0 ≤ i3' ∧ i3' ≤ 428 ∧ 0 ≤ i5' ∧ i5' ≤ pg7 n1 ∧ 0 ≤ t_queued' ∧ t_queued' ≤ 429 ∧ (∀ k : Nat, k < 429 → -1 ≤ zget t_steps' k ∧ zget t_steps' k ≤ t_queued')) := hI
    rcases hI with ⟨rfl, v0_0, v0_1⟩ | ⟨rfl, v2_0, v2_1, v2_2, v2_3, v2_4⟩ | ⟨rfl, v35_0, v35_1, v35_2, v35_3, v35_4⟩ | ⟨rfl, v65_0, v65_1, v65_2, v65_3, v65_4, v65_5, v65_6⟩
    · show Go _ (zg_X4_measure_0 mk n1 i2' i3' i4' i5' t_queued' t_steps' t_queue')
      unfold zg_X4_measure_0
      exact Go_i (show (((2 : Nat) = 0 ∧ -2147483648 ≤ (i2') ∧ (i2') ≤ 2147483647) ∨ ((2 : Nat) = 2 ∧ -2147483648 ≤ (i2') ∧ (i2') ≤ 2147483647 ∧ 0 ≤ ((0 : Int)) ∧ ((0 : Int)) ≤ 429 ∧ (∀ k : Nat, (k : Int) < ((0 : Int)) → zget (t_steps') k = -1)) ∨ ((2 : Nat) = 35 ∧ 0 ≤ ((0 : Int)) ∧ ((0 : Int)) ≤ 429 ∧ 0 ≤ (t_queued') ∧ (t_queued') ≤ 429 ∧ (∀ k : Nat, k < 429 → -1 ≤ zget (t_steps') k ∧ zget (t_steps') k ≤ (t_queued'))) ∨ ((2 : Nat) = 65 ∧ 0 ≤ ((0 : Int)) ∧ ((0 : Int)) ≤ 428 ∧ 0 ≤ (0) ∧ (0) ≤ pg7 n1 ∧ 0 ≤ (t_queued') ∧ (t_queued') ≤ 429 ∧ (∀ k : Nat, k < 429 → -1 ≤ zget (t_steps') k ∧ zget (t_steps') k ≤ (t_queued')))) ∧ (90000 - ((0 : Int))).toNat < 100000 from ⟨Or.inr (Or.inl (⟨rfl, (by first | assumption | omega), (by first | assumption | omega), (by first | assumption | omega), (by first | assumption | omega), (by first | (intro k hk; omega) | exact all_m1 (by assumption) (by omega))⟩)), by omega⟩)
    · show Go _ (zg_X4_measure_2 mk n1 i2' i3' i4' i5' t_queued' t_steps' t_queue')
      unfold zg_X4_measure_2
      refine Go_chk (by unfold zout; omega) ?_
      refine Go_ite (fun c1 => ?_) (fun c1 => ?_)
      · refine Go_bindP (ok_X4_comeTo (0 : Int) t_steps' t_queue' i2' (0 : Int) (by first | assumption | omega) (by first | assumption | omega) (by intro k hk; have e := v2_4 k (by omega); omega) (by first | assumption | omega) (by first | assumption | omega) (by first | assumption | omega) (by first | assumption | omega)) (fun o2 q2 => ?_)
        obtain ⟨q2_0, q2_1, q2_2, q2_3⟩ := q2
        exact Go_i (show (((35 : Nat) = 0 ∧ -2147483648 ≤ (i2') ∧ (i2') ≤ 2147483647) ∨ ((35 : Nat) = 2 ∧ -2147483648 ≤ (i2') ∧ (i2') ≤ 2147483647 ∧ 0 ≤ ((0 : Int)) ∧ ((0 : Int)) ≤ 429 ∧ (∀ k : Nat, (k : Int) < ((0 : Int)) → zget ((o2.2.1)) k = -1)) ∨ ((35 : Nat) = 35 ∧ 0 ≤ ((0 : Int)) ∧ ((0 : Int)) ≤ 429 ∧ 0 ≤ ((o2.1)) ∧ ((o2.1)) ≤ 429 ∧ (∀ k : Nat, k < 429 → -1 ≤ zget ((o2.2.1)) k ∧ zget ((o2.2.1)) k ≤ ((o2.1)))) ∨ ((35 : Nat) = 65 ∧ 0 ≤ ((0 : Int)) ∧ ((0 : Int)) ≤ 428 ∧ 0 ≤ (0) ∧ (0) ≤ pg7 n1 ∧ 0 ≤ ((o2.1)) ∧ ((o2.1)) ≤ 429 ∧ (∀ k : Nat, k < 429 → -1 ≤ zget ((o2.2.1)) k ∧ zget ((o2.2.1)) k ≤ ((o2.1))))) ∧ (50 * (430 - ((0 : Int))) + 40).toNat < (90000 - i3').toNat from ⟨Or.inr (Or.inr (Or.inl (⟨rfl, (by first | assumption | omega), (by first | assumption | omega), (by first | assumption | omega), (by first | assumption | omega), (by first | assumption | exact all_w (by assumption) (by omega) | (refine all_setw ?_ (Int.le_refl _) ?_ ?_ (by omega) (by omega) <;> first | assumption | omega) | exact all_setw (by assumption) (by omega) (by omega) (by omega) (by omega) (by omega))⟩))), by omega⟩)
      · refine Go_chk (by omega) ?_
        exact Go_i (show (((2 : Nat) = 0 ∧ -2147483648 ≤ (i2') ∧ (i2') ≤ 2147483647) ∨ ((2 : Nat) = 2 ∧ -2147483648 ≤ (i2') ∧ (i2') ≤ 2147483647 ∧ 0 ≤ ((i3' + (1 : Int))) ∧ ((i3' + (1 : Int))) ≤ 429 ∧ (∀ k : Nat, (k : Int) < ((i3' + (1 : Int))) → zget ((zset t_steps' (Int.toNat i3') (-1 : Int))) k = -1)) ∨ ((2 : Nat) = 35 ∧ 0 ≤ ((i3' + (1 : Int))) ∧ ((i3' + (1 : Int))) ≤ 429 ∧ 0 ≤ (t_queued') ∧ (t_queued') ≤ 429 ∧ (∀ k : Nat, k < 429 → -1 ≤ zget ((zset t_steps' (Int.toNat i3') (-1 : Int))) k ∧ zget ((zset t_steps' (Int.toNat i3') (-1 : Int))) k ≤ (t_queued'))) ∨ ((2 : Nat) = 65 ∧ 0 ≤ ((i3' + (1 : Int))) ∧ ((i3' + (1 : Int))) ≤ 428 ∧ 0 ≤ (0) ∧ (0) ≤ pg7 n1 ∧ 0 ≤ (t_queued') ∧ (t_queued') ≤ 429 ∧ (∀ k : Nat, k < 429 → -1 ≤ zget ((zset t_steps' (Int.toNat i3') (-1 : Int))) k ∧ zget ((zset t_steps' (Int.toNat i3') (-1 : Int))) k ≤ (t_queued')))) ∧ (90000 - ((i3' + (1 : Int)))).toNat < (90000 - i3').toNat from ⟨Or.inr (Or.inl (⟨rfl, (by first | assumption | omega), (by first | assumption | omega), (by first | assumption | omega), (by first | assumption | omega), (by first | (intro k hk; omega) | exact all_m1 (by assumption) (by omega))⟩)), by omega⟩)
    · show Go _ (zg_X4_measure_35 mk n1 i2' i3' i4' i5' t_queued' t_steps' t_queue')
      unfold zg_X4_measure_35
      refine Go_chk (by unfold zout; omega) ?_
      refine Go_chk (by unfold zout; omega) ?_
      refine Go_ite (fun c3 => ?_) (fun c3 => ?_)
      · exact Go_i (show 0 ≤ (t_queued') ∧ (t_queued') ≤ 429 ∧ (∀ k : Nat, k < 429 → -1 ≤ zget (t_steps') k ∧ zget (t_steps') k ≤ 429) from ⟨(by first | assumption | omega), (by first | assumption | omega), (by first | assumption | exact all_w (by assumption) (by omega) | (refine all_setw ?_ (Int.le_refl _) ?_ ?_ (by omega) (by omega) <;> first | assumption | omega) | exact all_setw (by assumption) (by omega) (by omega) (by omega) (by omega) (by omega))⟩)
      · refine Go_ite (fun c4 => ?_) (fun c4 => ?_)
        · exact Go_i (show 0 ≤ (t_queued') ∧ (t_queued') ≤ 429 ∧ (∀ k : Nat, k < 429 → -1 ≤ zget (t_steps') k ∧ zget (t_steps') k ≤ 429) from ⟨(by first | assumption | omega), (by first | assumption | omega), (by first | assumption | exact all_w (by assumption) (by omega) | (refine all_setw ?_ (Int.le_refl _) ?_ ?_ (by omega) (by omega) <;> first | assumption | omega) | exact all_setw (by assumption) (by omega) (by omega) (by omega) (by omega) (by omega))⟩)
        · refine Go_chk (by omega) ?_
          refine Go_chk (by assumption) ?_
          have a5 := rget t_queue' (Int.toNat i3')
          refine Go_bindP (ok_X5_cutAt n1 (zget t_queue' (Int.toNat i3')) (by first | assumption | omega) (by first | assumption | omega) (by first | assumption | omega) (by first | assumption | omega)) (fun o9 q6 => ?_)
          obtain ⟨q6_0, q6_1, q6_2⟩ := q6
          exact Go_i (show (((65 : Nat) = 0 ∧ -2147483648 ≤ (0) ∧ (0) ≤ 2147483647) ∨ ((65 : Nat) = 2 ∧ -2147483648 ≤ (0) ∧ (0) ≤ 2147483647 ∧ 0 ≤ (i3') ∧ (i3') ≤ 429 ∧ (∀ k : Nat, (k : Int) < (i3') → zget (t_steps') k = -1)) ∨ ((65 : Nat) = 35 ∧ 0 ≤ (i3') ∧ (i3') ≤ 429 ∧ 0 ≤ (t_queued') ∧ (t_queued') ≤ 429 ∧ (∀ k : Nat, k < 429 → -1 ≤ zget (t_steps') k ∧ zget (t_steps') k ≤ (t_queued'))) ∨ ((65 : Nat) = 65 ∧ 0 ≤ (i3') ∧ (i3') ≤ 428 ∧ 0 ≤ ((0 : Int)) ∧ ((0 : Int)) ≤ pg7 n1 ∧ 0 ≤ (t_queued') ∧ (t_queued') ≤ 429 ∧ (∀ k : Nat, k < 429 → -1 ≤ zget (t_steps') k ∧ zget (t_steps') k ≤ (t_queued')))) ∧ (50 * (430 - (i3')) + 30 - ((0 : Int))).toNat < (50 * (430 - i3') + 40).toNat from ⟨Or.inr (Or.inr (Or.inr (⟨rfl, (by first | assumption | omega), (by first | assumption | omega), (by first | assumption | omega), (by first | assumption | omega), (by first | assumption | omega), (by first | assumption | omega), (by first | assumption | exact all_w (by assumption) (by omega) | (refine all_setw ?_ (Int.le_refl _) ?_ ?_ (by omega) (by omega) <;> first | assumption | omega) | exact all_setw (by assumption) (by omega) (by omega) (by omega) (by omega) (by omega))⟩))), by omega⟩)
    · show Go _ (zg_X4_measure_65 mk n1 i2' i3' i4' i5' t_queued' t_steps' t_queue')
      unfold zg_X4_measure_65
      refine Go_chk (by assumption) ?_
      refine Go_bindP (ok_X5_lineCount n1 (by first | assumption | omega) (by first | assumption | omega)) (fun o13 q7 => ?_)
      obtain ⟨q7_0, q7_1, q7_2⟩ := q7
      refine Go_chk (by unfold zout; omega) ?_
      refine Go_chk (by unfold zout; omega) ?_
      refine Go_ite (fun c8 => ?_) (fun c8 => ?_)
      · exact Go_i (show (((35 : Nat) = 0 ∧ -2147483648 ≤ (0) ∧ (0) ≤ 2147483647) ∨ ((35 : Nat) = 2 ∧ -2147483648 ≤ (0) ∧ (0) ≤ 2147483647 ∧ 0 ≤ ((i3' + (1 : Int))) ∧ ((i3' + (1 : Int))) ≤ 429 ∧ (∀ k : Nat, (k : Int) < ((i3' + (1 : Int))) → zget (t_steps') k = -1)) ∨ ((35 : Nat) = 35 ∧ 0 ≤ ((i3' + (1 : Int))) ∧ ((i3' + (1 : Int))) ≤ 429 ∧ 0 ≤ (t_queued') ∧ (t_queued') ≤ 429 ∧ (∀ k : Nat, k < 429 → -1 ≤ zget (t_steps') k ∧ zget (t_steps') k ≤ (t_queued'))) ∨ ((35 : Nat) = 65 ∧ 0 ≤ ((i3' + (1 : Int))) ∧ ((i3' + (1 : Int))) ≤ 428 ∧ 0 ≤ (i5') ∧ (i5') ≤ pg7 n1 ∧ 0 ≤ (t_queued') ∧ (t_queued') ≤ 429 ∧ (∀ k : Nat, k < 429 → -1 ≤ zget (t_steps') k ∧ zget (t_steps') k ≤ (t_queued')))) ∧ (50 * (430 - ((i3' + (1 : Int)))) + 40).toNat < (50 * (430 - i3') + 30 - i5').toNat from ⟨Or.inr (Or.inr (Or.inl (⟨rfl, (by first | assumption | omega), (by first | assumption | omega), (by first | assumption | omega), (by first | assumption | omega), (by first | assumption | exact all_w (by assumption) (by omega) | (refine all_setw ?_ (Int.le_refl _) ?_ ?_ (by omega) (by omega) <;> first | assumption | omega) | exact all_setw (by assumption) (by omega) (by omega) (by omega) (by omega) (by omega))⟩))), by omega⟩)
      · refine Go_bindP (ok_X5_neighbourWith n1 i4' i5' (by first | assumption | omega) (by first | assumption | omega) (by first | assumption | omega) (by first | assumption | omega)) (fun o16 q9 => ?_)
        obtain ⟨q9_0, q9_1⟩ := q9
        refine Go_chk (by omega) ?_
        have a10 := rget t_queue' (Int.toNat i3')
        refine Go_bindP (ok_X4_stepsTo t_steps' (zget t_queue' (Int.toNat i3')) (by first | assumption | omega) (by first | assumption | omega)) (fun o18 q11 => ?_)
        have sq11 := q11 t_queued' (by omega) (by assumption)
        refine Go_bindP (ok_X4_comeTo t_queued' t_steps' t_queue' o16 (o18 + (1 : Int)) (by first | assumption | omega) (by first | assumption | omega) (by first | assumption | exact all_w (by assumption) (by omega) | (refine all_setw ?_ (Int.le_refl _) ?_ ?_ (by omega) (by omega) <;> first | assumption | omega) | exact all_setw (by assumption) (by omega) (by omega) (by omega) (by omega) (by omega)) (by first | assumption | omega) (by first | assumption | omega) (by first | assumption | omega) (by first | assumption | omega)) (fun o19 q12 => ?_)
        obtain ⟨q12_0, q12_1, q12_2, q12_3⟩ := q12
        exact Go_i (show (((65 : Nat) = 0 ∧ -2147483648 ≤ (0) ∧ (0) ≤ 2147483647) ∨ ((65 : Nat) = 2 ∧ -2147483648 ≤ (0) ∧ (0) ≤ 2147483647 ∧ 0 ≤ (i3') ∧ (i3') ≤ 429 ∧ (∀ k : Nat, (k : Int) < (i3') → zget ((o19.2.1)) k = -1)) ∨ ((65 : Nat) = 35 ∧ 0 ≤ (i3') ∧ (i3') ≤ 429 ∧ 0 ≤ ((o19.1)) ∧ ((o19.1)) ≤ 429 ∧ (∀ k : Nat, k < 429 → -1 ≤ zget ((o19.2.1)) k ∧ zget ((o19.2.1)) k ≤ ((o19.1)))) ∨ ((65 : Nat) = 65 ∧ 0 ≤ (i3') ∧ (i3') ≤ 428 ∧ 0 ≤ ((i5' + (1 : Int))) ∧ ((i5' + (1 : Int))) ≤ pg7 n1 ∧ 0 ≤ ((o19.1)) ∧ ((o19.1)) ≤ 429 ∧ (∀ k : Nat, k < 429 → -1 ≤ zget ((o19.2.1)) k ∧ zget ((o19.2.1)) k ≤ ((o19.1))))) ∧ (50 * (430 - (i3')) + 30 - ((i5' + (1 : Int)))).toNat < (50 * (430 - i3') + 30 - i5').toNat from ⟨Or.inr (Or.inr (Or.inr (⟨rfl, (by first | assumption | omega), (by first | assumption | omega), (by first | assumption | omega), (by first | assumption | omega), (by first | assumption | omega), (by first | assumption | omega), (by first | assumption | exact all_w (by assumption) (by omega) | (refine all_setw ?_ (Int.le_refl _) ?_ ?_ (by omega) (by omega) <;> first | assumption | omega) | exact all_setw (by assumption) (by omega) (by omega) (by omega) (by omega) (by omega))⟩))), by omega⟩)
  · exact (show ((0 : Nat) = 0 ∧ -2147483648 ≤ i2 ∧ i2 ≤ 2147483647) ∨ ((0 : Nat) = 2 ∧ -2147483648 ≤ i2 ∧ i2 ≤ 2147483647 ∧ 0 ≤ 0 ∧ 0 ≤ 429 ∧ (∀ k : Nat, (k : Int) < 0 → zget t_steps k = -1)) ∨ ((0 : Nat) = 35 ∧ 0 ≤ 0 ∧ 0 ≤ 429 ∧ 0 ≤ t_queued ∧ t_queued ≤ 429 ∧ (∀ k : Nat, k < 429 → -1 ≤ zget t_steps k ∧ zget t_steps k ≤ t_queued)) ∨ ((0 : Nat) = 65 ∧ 0 ≤ 0 ∧ 0 ≤ 428 ∧ 0 ≤ 0 ∧ 0 ≤ pg7 n1 ∧ 0 ≤ t_queued ∧ t_queued ≤ 429 ∧ (∀ k : Nat, k < 429 → -1 ≤ zget t_steps k ∧ zget t_steps k ≤ t_queued)) from Or.inl (⟨rfl, (by first | assumption | omega), (by first | assumption | omega)⟩))
  · show 100000 < jfuel
    unfold jfuel
    omega
set_option maxRecDepth 20000 in
theorem ok_X4_mostSteps (mk : Nat) (t_steps : Nat) (n1 : Nat) (p0 : ¬ zno mk n1) (p1 : (∀ k : Nat, k < 429 → -1 ≤ zget t_steps k ∧ zget t_steps k ≤ 429)) : Go (fun o => 0 ≤ (o) ∧ (o) ≤ 429) (zf_X4_mostSteps mk t_steps n1) := by
  unfold zf_X4_mostSteps
  have grn1 := zno_rng p0
  have g7n1 := rpg7 (n := n1) (by omega) (by omega)
  have g8n1 := rpg8 (n := n1) (by omega) (by omega)
  refine jok (fun (s : zS_X4_mostSteps) => match s with | (lab, i2', i3') => (lab = 0) ∨ (lab = 4 ∧ 0 ≤ i2' ∧ i2' ≤ 429 ∧ 0 ≤ i3' ∧ i3' ≤ pg8 n1)) (fun (s : zS_X4_mostSteps) => match s with | (lab, i2', i3') => if lab = 0 then 500 else if lab = 4 then (440 - i3').toNat else 0) (fun (o : zO_X4_mostSteps) => 0 ≤ (o) ∧ (o) ≤ 429) ?_ _ ?_ ?_
  · intro s hI
    obtain ⟨lab, i2', i3'⟩ := s
    have hI : (lab = 0) ∨ (lab = 4 ∧ 0 ≤ i2' ∧ i2' ≤ 429 ∧ 0 ≤ i3' ∧ i3' ≤ pg8 n1) := hI
    rcases hI with rfl | ⟨rfl, v4_0, v4_1, v4_2, v4_3⟩
    · show Go _ (zg_X4_mostSteps_0 mk t_steps n1 i2' i3')
      unfold zg_X4_mostSteps_0
      exact Go_i (show (((4 : Nat) = 0) ∨ ((4 : Nat) = 4 ∧ 0 ≤ ((0 : Int)) ∧ ((0 : Int)) ≤ 429 ∧ 0 ≤ ((0 : Int)) ∧ ((0 : Int)) ≤ pg8 n1)) ∧ (440 - ((0 : Int))).toNat < 500 from ⟨Or.inr (⟨rfl, (by first | assumption | omega), (by first | assumption | omega), (by first | assumption | omega), (by first | assumption | omega)⟩), by omega⟩)
    · show Go _ (zg_X4_mostSteps_4 mk t_steps n1 i2' i3')
      unfold zg_X4_mostSteps_4
      refine Go_chk (by assumption) ?_
      refine Go_bindP (ok_X5_cutCount n1 (by first | assumption | omega) (by first | assumption | omega)) (fun o2 q1 => ?_)
      obtain ⟨q1_0, q1_1, q1_2⟩ := q1
      refine Go_chk (by unfold zout; omega) ?_
      refine Go_chk (by unfold zout; omega) ?_
      refine Go_ite (fun c2 => ?_) (fun c2 => ?_)
      · exact Go_i (show 0 ≤ (i2') ∧ (i2') ≤ 429 from ⟨(by first | assumption | omega), (by first | assumption | omega)⟩)
      · refine Go_bindP (ok_X4_stepsTo t_steps i3' (by first | assumption | omega) (by first | assumption | omega)) (fun o5 q3 => ?_)
        have sq3 := q3 429 (by omega) p1
        refine Go_chk (by unfold zout; omega) ?_
        refine Go_chk (by unfold zout; omega) ?_
        have a4 := rmax i2' o5
        exact Go_i (show (((4 : Nat) = 0) ∨ ((4 : Nat) = 4 ∧ 0 ≤ ((zmax i2' o5)) ∧ ((zmax i2' o5)) ≤ 429 ∧ 0 ≤ ((i3' + (1 : Int))) ∧ ((i3' + (1 : Int))) ≤ pg8 n1)) ∧ (440 - ((i3' + (1 : Int)))).toNat < (440 - i3').toNat from ⟨Or.inr (⟨rfl, (by first | assumption | omega), (by first | assumption | omega), (by first | assumption | omega), (by first | assumption | omega)⟩), by omega⟩)
  · exact (show ((0 : Nat) = 0) ∨ ((0 : Nat) = 4 ∧ 0 ≤ 0 ∧ 0 ≤ 429 ∧ 0 ≤ 0 ∧ 0 ≤ pg8 n1) from Or.inl (rfl))
  · show 500 < jfuel
    unfold jfuel
    omega
set_option maxRecDepth 20000 in
theorem ok_X4_howManyAt (mk : Nat) (t_steps : Nat) (n1 : Nat) (i2 : Int) (p0 : ¬ zno mk n1) (p1 : (∀ k : Nat, k < 429 → -1 ≤ zget t_steps k ∧ zget t_steps k ≤ 429)) (p2 : -2147483648 ≤ i2) (p3 : i2 ≤ 2147483647) : Go (fun o => 0 ≤ (o) ∧ (o) ≤ 429) (zf_X4_howManyAt mk t_steps n1 i2) := by
  unfold zf_X4_howManyAt
  have grn1 := zno_rng p0
  have g7n1 := rpg7 (n := n1) (by omega) (by omega)
  have g8n1 := rpg8 (n := n1) (by omega) (by omega)
  refine jok (fun (s : zS_X4_howManyAt) => match s with | (lab, i2', i3', i4') => (lab = 0 ∧ -2147483648 ≤ i2' ∧ i2' ≤ 2147483647) ∨ (lab = 5 ∧ -2147483648 ≤ i2' ∧ i2' ≤ 2147483647 ∧ 0 ≤ i3' ∧ i3' ≤ i4' ∧ i4' ≤ pg8 n1)) (fun (s : zS_X4_howManyAt) => match s with | (lab, i2', i3', i4') => if lab = 0 then 500 else if lab = 5 then (440 - i4').toNat else 0) (fun (o : zO_X4_howManyAt) => 0 ≤ (o) ∧ (o) ≤ 429) ?_ _ ?_ ?_
  · intro s hI
    obtain ⟨lab, i2', i3', i4'⟩ := s
    have hI : (lab = 0 ∧ -2147483648 ≤ i2' ∧ i2' ≤ 2147483647) ∨ (lab = 5 ∧ -2147483648 ≤ i2' ∧ i2' ≤ 2147483647 ∧ 0 ≤ i3' ∧ i3' ≤ i4' ∧ i4' ≤ pg8 n1) := hI
    rcases hI with ⟨rfl, v0_0, v0_1⟩ | ⟨rfl, v5_0, v5_1, v5_2, v5_3, v5_4⟩
    · show Go _ (zg_X4_howManyAt_0 mk t_steps n1 i2' i3' i4')
      unfold zg_X4_howManyAt_0
      exact Go_i (show (((5 : Nat) = 0 ∧ -2147483648 ≤ (i2') ∧ (i2') ≤ 2147483647) ∨ ((5 : Nat) = 5 ∧ -2147483648 ≤ (i2') ∧ (i2') ≤ 2147483647 ∧ 0 ≤ ((0 : Int)) ∧ ((0 : Int)) ≤ ((0 : Int)) ∧ ((0 : Int)) ≤ pg8 n1)) ∧ (440 - ((0 : Int))).toNat < 500 from ⟨Or.inr (⟨rfl, (by first | assumption | omega), (by first | assumption | omega), (by first | assumption | omega), (by first | assumption | omega), (by first | assumption | omega)⟩), by omega⟩)
    · show Go _ (zg_X4_howManyAt_5 mk t_steps n1 i2' i3' i4')
      unfold zg_X4_howManyAt_5
      refine Go_chk (by assumption) ?_
      refine Go_bindP (ok_X5_cutCount n1 (by first | assumption | omega) (by first | assumption | omega)) (fun o2 q1 => ?_)
      obtain ⟨q1_0, q1_1, q1_2⟩ := q1
      refine Go_chk (by unfold zout; omega) ?_
      refine Go_chk (by unfold zout; omega) ?_
      refine Go_ite (fun c2 => ?_) (fun c2 => ?_)
      · exact Go_i (show 0 ≤ (i3') ∧ (i3') ≤ 429 from ⟨(by first | assumption | omega), (by first | assumption | omega)⟩)
      · refine Go_bindP (ok_X4_stepsTo t_steps i4' (by first | assumption | omega) (by first | assumption | omega)) (fun o5 q3 => ?_)
        have sq3 := q3 429 (by omega) p1
        refine Go_chk (by unfold zout; omega) ?_
        refine Go_chk (by unfold zout; omega) ?_
        refine Go_ite (fun c4 => ?_) (fun c4 => ?_)
        · exact Go_i (show (((5 : Nat) = 0 ∧ -2147483648 ≤ (i2') ∧ (i2') ≤ 2147483647) ∨ ((5 : Nat) = 5 ∧ -2147483648 ≤ (i2') ∧ (i2') ≤ 2147483647 ∧ 0 ≤ ((i3' + (1 : Int))) ∧ ((i3' + (1 : Int))) ≤ ((i4' + (1 : Int))) ∧ ((i4' + (1 : Int))) ≤ pg8 n1)) ∧ (440 - ((i4' + (1 : Int)))).toNat < (440 - i4').toNat from ⟨Or.inr (⟨rfl, (by first | assumption | omega), (by first | assumption | omega), (by first | assumption | omega), (by first | assumption | omega), (by first | assumption | omega)⟩), by omega⟩)
        · exact Go_i (show (((5 : Nat) = 0 ∧ -2147483648 ≤ (i2') ∧ (i2') ≤ 2147483647) ∨ ((5 : Nat) = 5 ∧ -2147483648 ≤ (i2') ∧ (i2') ≤ 2147483647 ∧ 0 ≤ (i3') ∧ (i3') ≤ ((i4' + (1 : Int))) ∧ ((i4' + (1 : Int))) ≤ pg8 n1)) ∧ (440 - ((i4' + (1 : Int)))).toNat < (440 - i4').toNat from ⟨Or.inr (⟨rfl, (by first | assumption | omega), (by first | assumption | omega), (by first | assumption | omega), (by first | assumption | omega), (by first | assumption | omega)⟩), by omega⟩)
  · exact (show ((0 : Nat) = 0 ∧ -2147483648 ≤ i2 ∧ i2 ≤ 2147483647) ∨ ((0 : Nat) = 5 ∧ -2147483648 ≤ i2 ∧ i2 ≤ 2147483647 ∧ 0 ≤ 0 ∧ 0 ≤ 0 ∧ 0 ≤ pg8 n1) from Or.inl (⟨rfl, (by first | assumption | omega), (by first | assumption | omega)⟩))
  · show 500 < jfuel
    unfold jfuel
    omega
set_option maxRecDepth 20000 in
theorem ok_X4_leastNearer (mk : Nat) (t_steps : Nat) (n1 : Nat) (i2 : Int) (p0 : ¬ zno mk n1) (p1 : (∀ k : Nat, k < 429 → -1 ≤ zget t_steps k ∧ zget t_steps k ≤ 429)) (p2 : -2147483648 ≤ i2) (p3 : i2 ≤ 2147483647) : Go (fun o => -1 ≤ (o) ∧ (o) < 429) (zf_X4_leastNearer mk t_steps n1 i2) := by
  unfold zf_X4_leastNearer
  have grn1 := zno_rng p0
  have g7n1 := rpg7 (n := n1) (by omega) (by omega)
  have g8n1 := rpg8 (n := n1) (by omega) (by omega)
  refine jok (fun (s : zS_X4_leastNearer) => match s with | (lab, i2', i3', i4', i5', i6') => (lab = 0 ∧ -2147483648 ≤ i2' ∧ i2' ≤ 2147483647) ∨ (lab = 12 ∧ -2147483648 ≤ i2' ∧ i2' ≤ 2147483647 ∧ -1 ≤ i4' ∧ i4' < 429 ∧ 0 ≤ i5' ∧ i5' ≤ pg7 n1) ∨ (lab = 56 ∧ -2147483648 ≤ i2' ∧ i2' ≤ 2147483647 ∧ -1 ≤ i4' ∧ i4' < 429 ∧ 0 ≤ i5' ∧ i5' < pg7 n1 ∧ -1 ≤ i6' ∧ i6' < 429)) (fun (s : zS_X4_leastNearer) => match s with | (lab, i2', i3', i4', i5', i6') => if lab = 0 then 500 else if lab = 12 then (200 - 2 * i5').toNat else if lab = 56 then (199 - 2 * i5').toNat else 0) (fun (o : zO_X4_leastNearer) => -1 ≤ (o) ∧ (o) < 429) ?_ _ ?_ ?_
  · intro s hI
    obtain ⟨lab, i2', i3', i4', i5', i6'⟩ := s
    have hI : (lab = 0 ∧ -2147483648 ≤ i2' ∧ i2' ≤ 2147483647) ∨ (lab = 12 ∧ -2147483648 ≤ i2' ∧ i2' ≤ 2147483647 ∧ -1 ≤ i4' ∧ i4' < 429 ∧ 0 ≤ i5' ∧ i5' ≤ pg7 n1) ∨ (lab = 56 ∧ -2147483648 ≤ i2' ∧ i2' ≤ 2147483647 ∧ -1 ≤ i4' ∧ i4' < 429 ∧ 0 ≤ i5' ∧ i5' < pg7 n1 ∧ -1 ≤ i6' ∧ i6' < 429) := hI
    rcases hI with ⟨rfl, v0_0, v0_1⟩ | ⟨rfl, v12_0, v12_1, v12_2, v12_3, v12_4, v12_5⟩ | ⟨rfl, v56_0, v56_1, v56_2, v56_3, v56_4, v56_5, v56_6, v56_7⟩
    · show Go _ (zg_X4_leastNearer_0 mk t_steps n1 i2' i3' i4' i5' i6')
      unfold zg_X4_leastNearer_0
      refine Go_chk (by assumption) ?_
      refine Go_bindP (ok_X5_cutAt n1 i2' (by first | assumption | omega) (by first | assumption | omega) (by first | assumption | omega) (by first | assumption | omega)) (fun o2 q1 => ?_)
      obtain ⟨q1_0, q1_1, q1_2⟩ := q1
      exact Go_i (show (((12 : Nat) = 0 ∧ -2147483648 ≤ (i2') ∧ (i2') ≤ 2147483647) ∨ ((12 : Nat) = 12 ∧ -2147483648 ≤ (i2') ∧ (i2') ≤ 2147483647 ∧ -1 ≤ ((-1 : Int)) ∧ ((-1 : Int)) < 429 ∧ 0 ≤ ((0 : Int)) ∧ ((0 : Int)) ≤ pg7 n1) ∨ ((12 : Nat) = 56 ∧ -2147483648 ≤ (i2') ∧ (i2') ≤ 2147483647 ∧ -1 ≤ ((-1 : Int)) ∧ ((-1 : Int)) < 429 ∧ 0 ≤ ((0 : Int)) ∧ ((0 : Int)) < pg7 n1 ∧ -1 ≤ (0) ∧ (0) < 429)) ∧ (200 - 2 * ((0 : Int))).toNat < 500 from ⟨Or.inr (Or.inl (⟨rfl, (by first | assumption | omega), (by first | assumption | omega), (by first | assumption | omega), (by first | assumption | omega), (by first | assumption | omega), (by first | assumption | omega)⟩)), by omega⟩)
    · show Go _ (zg_X4_leastNearer_12 mk t_steps n1 i2' i3' i4' i5' i6')
      unfold zg_X4_leastNearer_12
      refine Go_chk (by assumption) ?_
      refine Go_bindP (ok_X5_lineCount n1 (by first | assumption | omega) (by first | assumption | omega)) (fun o4 q2 => ?_)
      obtain ⟨q2_0, q2_1, q2_2⟩ := q2
      refine Go_chk (by unfold zout; omega) ?_
      refine Go_chk (by unfold zout; omega) ?_
      refine Go_ite (fun c3 => ?_) (fun c3 => ?_)
      · exact Go_i (show -1 ≤ (i4') ∧ (i4') < 429 from ⟨(by first | assumption | omega), (by first | assumption | omega)⟩)
      · refine Go_bindP (ok_X5_neighbourWith n1 i3' i5' (by first | assumption | omega) (by first | assumption | omega) (by first | assumption | omega) (by first | assumption | omega)) (fun o7 q4 => ?_)
        obtain ⟨q4_0, q4_1⟩ := q4
        refine Go_chk (by unfold zout; omega) ?_
        refine Go_ite (fun c5 => ?_) (fun c5 => ?_)
        · exact Go_i (show (((56 : Nat) = 0 ∧ -2147483648 ≤ (i2') ∧ (i2') ≤ 2147483647) ∨ ((56 : Nat) = 12 ∧ -2147483648 ≤ (i2') ∧ (i2') ≤ 2147483647 ∧ -1 ≤ (i4') ∧ (i4') < 429 ∧ 0 ≤ (i5') ∧ (i5') ≤ pg7 n1) ∨ ((56 : Nat) = 56 ∧ -2147483648 ≤ (i2') ∧ (i2') ≤ 2147483647 ∧ -1 ≤ (i4') ∧ (i4') < 429 ∧ 0 ≤ (i5') ∧ (i5') < pg7 n1 ∧ -1 ≤ (o7) ∧ (o7) < 429)) ∧ (199 - 2 * (i5')).toNat < (200 - 2 * i5').toNat from ⟨Or.inr (Or.inr (⟨rfl, (by first | assumption | omega), (by first | assumption | omega), (by first | assumption | omega), (by first | assumption | omega), (by first | assumption | omega), (by first | assumption | omega), (by first | assumption | omega), (by first | assumption | omega)⟩)), by omega⟩)
        · refine Go_bindP (ok_X4_stepsTo t_steps o7 (by first | assumption | omega) (by first | assumption | omega)) (fun o9 q6 => ?_)
          have sq6 := q6 429 (by omega) p1
          refine Go_bindP (ok_X4_stepsTo t_steps i2' (by first | assumption | omega) (by first | assumption | omega)) (fun o10 q7 => ?_)
          have sq7 := q7 429 (by omega) p1
          refine Go_chk (by unfold zout; omega) ?_
          refine Go_chk (by unfold zout; omega) ?_
          refine Go_ite (fun c8 => ?_) (fun c8 => ?_)
          · refine Go_ite (fun c9 => ?_) (fun c9 => ?_)
            · exact Go_i (show (((12 : Nat) = 0 ∧ -2147483648 ≤ (i2') ∧ (i2') ≤ 2147483647) ∨ ((12 : Nat) = 12 ∧ -2147483648 ≤ (i2') ∧ (i2') ≤ 2147483647 ∧ -1 ≤ (i4') ∧ (i4') < 429 ∧ 0 ≤ ((i5' + (1 : Int))) ∧ ((i5' + (1 : Int))) ≤ pg7 n1) ∨ ((12 : Nat) = 56 ∧ -2147483648 ≤ (i2') ∧ (i2') ≤ 2147483647 ∧ -1 ≤ (i4') ∧ (i4') < 429 ∧ 0 ≤ ((i5' + (1 : Int))) ∧ ((i5' + (1 : Int))) < pg7 n1 ∧ -1 ≤ (o7) ∧ (o7) < 429)) ∧ (200 - 2 * ((i5' + (1 : Int)))).toNat < (200 - 2 * i5').toNat from ⟨Or.inr (Or.inl (⟨rfl, (by first | assumption | omega), (by first | assumption | omega), (by first | assumption | omega), (by first | assumption | omega), (by first | assumption | omega), (by first | assumption | omega)⟩)), by omega⟩)
            · refine Go_chk (by unfold zout; omega) ?_
              refine Go_ite (fun c10 => ?_) (fun c10 => ?_)
              · exact Go_i (show (((12 : Nat) = 0 ∧ -2147483648 ≤ (i2') ∧ (i2') ≤ 2147483647) ∨ ((12 : Nat) = 12 ∧ -2147483648 ≤ (i2') ∧ (i2') ≤ 2147483647 ∧ -1 ≤ (o7) ∧ (o7) < 429 ∧ 0 ≤ ((i5' + (1 : Int))) ∧ ((i5' + (1 : Int))) ≤ pg7 n1) ∨ ((12 : Nat) = 56 ∧ -2147483648 ≤ (i2') ∧ (i2') ≤ 2147483647 ∧ -1 ≤ (o7) ∧ (o7) < 429 ∧ 0 ≤ ((i5' + (1 : Int))) ∧ ((i5' + (1 : Int))) < pg7 n1 ∧ -1 ≤ (o7) ∧ (o7) < 429)) ∧ (200 - 2 * ((i5' + (1 : Int)))).toNat < (200 - 2 * i5').toNat from ⟨Or.inr (Or.inl (⟨rfl, (by first | assumption | omega), (by first | assumption | omega), (by first | assumption | omega), (by first | assumption | omega), (by first | assumption | omega), (by first | assumption | omega)⟩)), by omega⟩)
              · refine Go_ite (fun c11 => ?_) (fun c11 => ?_)
                · exact Go_i (show (((12 : Nat) = 0 ∧ -2147483648 ≤ (i2') ∧ (i2') ≤ 2147483647) ∨ ((12 : Nat) = 12 ∧ -2147483648 ≤ (i2') ∧ (i2') ≤ 2147483647 ∧ -1 ≤ (i4') ∧ (i4') < 429 ∧ 0 ≤ ((i5' + (1 : Int))) ∧ ((i5' + (1 : Int))) ≤ pg7 n1) ∨ ((12 : Nat) = 56 ∧ -2147483648 ≤ (i2') ∧ (i2') ≤ 2147483647 ∧ -1 ≤ (i4') ∧ (i4') < 429 ∧ 0 ≤ ((i5' + (1 : Int))) ∧ ((i5' + (1 : Int))) < pg7 n1 ∧ -1 ≤ (o7) ∧ (o7) < 429)) ∧ (200 - 2 * ((i5' + (1 : Int)))).toNat < (200 - 2 * i5').toNat from ⟨Or.inr (Or.inl (⟨rfl, (by first | assumption | omega), (by first | assumption | omega), (by first | assumption | omega), (by first | assumption | omega), (by first | assumption | omega), (by first | assumption | omega)⟩)), by omega⟩)
                · exact Go_i (show (((12 : Nat) = 0 ∧ -2147483648 ≤ (i2') ∧ (i2') ≤ 2147483647) ∨ ((12 : Nat) = 12 ∧ -2147483648 ≤ (i2') ∧ (i2') ≤ 2147483647 ∧ -1 ≤ (o7) ∧ (o7) < 429 ∧ 0 ≤ ((i5' + (1 : Int))) ∧ ((i5' + (1 : Int))) ≤ pg7 n1) ∨ ((12 : Nat) = 56 ∧ -2147483648 ≤ (i2') ∧ (i2') ≤ 2147483647 ∧ -1 ≤ (o7) ∧ (o7) < 429 ∧ 0 ≤ ((i5' + (1 : Int))) ∧ ((i5' + (1 : Int))) < pg7 n1 ∧ -1 ≤ (o7) ∧ (o7) < 429)) ∧ (200 - 2 * ((i5' + (1 : Int)))).toNat < (200 - 2 * i5').toNat from ⟨Or.inr (Or.inl (⟨rfl, (by first | assumption | omega), (by first | assumption | omega), (by first | assumption | omega), (by first | assumption | omega), (by first | assumption | omega), (by first | assumption | omega)⟩)), by omega⟩)
          · exact Go_i (show (((56 : Nat) = 0 ∧ -2147483648 ≤ (i2') ∧ (i2') ≤ 2147483647) ∨ ((56 : Nat) = 12 ∧ -2147483648 ≤ (i2') ∧ (i2') ≤ 2147483647 ∧ -1 ≤ (i4') ∧ (i4') < 429 ∧ 0 ≤ (i5') ∧ (i5') ≤ pg7 n1) ∨ ((56 : Nat) = 56 ∧ -2147483648 ≤ (i2') ∧ (i2') ≤ 2147483647 ∧ -1 ≤ (i4') ∧ (i4') < 429 ∧ 0 ≤ (i5') ∧ (i5') < pg7 n1 ∧ -1 ≤ (o7) ∧ (o7) < 429)) ∧ (199 - 2 * (i5')).toNat < (200 - 2 * i5').toNat from ⟨Or.inr (Or.inr (⟨rfl, (by first | assumption | omega), (by first | assumption | omega), (by first | assumption | omega), (by first | assumption | omega), (by first | assumption | omega), (by first | assumption | omega), (by first | assumption | omega), (by first | assumption | omega)⟩)), by omega⟩)
    · show Go _ (zg_X4_leastNearer_56 mk t_steps n1 i2' i3' i4' i5' i6')
      unfold zg_X4_leastNearer_56
      refine Go_ite (fun c12 => ?_) (fun c12 => ?_)
      · exact Go_i (show (((12 : Nat) = 0 ∧ -2147483648 ≤ (i2') ∧ (i2') ≤ 2147483647) ∨ ((12 : Nat) = 12 ∧ -2147483648 ≤ (i2') ∧ (i2') ≤ 2147483647 ∧ -1 ≤ (i4') ∧ (i4') < 429 ∧ 0 ≤ ((i5' + (1 : Int))) ∧ ((i5' + (1 : Int))) ≤ pg7 n1) ∨ ((12 : Nat) = 56 ∧ -2147483648 ≤ (i2') ∧ (i2') ≤ 2147483647 ∧ -1 ≤ (i4') ∧ (i4') < 429 ∧ 0 ≤ ((i5' + (1 : Int))) ∧ ((i5' + (1 : Int))) < pg7 n1 ∧ -1 ≤ (i6') ∧ (i6') < 429)) ∧ (200 - 2 * ((i5' + (1 : Int)))).toNat < (199 - 2 * i5').toNat from ⟨Or.inr (Or.inl (⟨rfl, (by first | assumption | omega), (by first | assumption | omega), (by first | assumption | omega), (by first | assumption | omega), (by first | assumption | omega), (by first | assumption | omega)⟩)), by omega⟩)
      · refine Go_chk (by unfold zout; omega) ?_
        refine Go_ite (fun c13 => ?_) (fun c13 => ?_)
        · exact Go_i (show (((12 : Nat) = 0 ∧ -2147483648 ≤ (i2') ∧ (i2') ≤ 2147483647) ∨ ((12 : Nat) = 12 ∧ -2147483648 ≤ (i2') ∧ (i2') ≤ 2147483647 ∧ -1 ≤ (i6') ∧ (i6') < 429 ∧ 0 ≤ ((i5' + (1 : Int))) ∧ ((i5' + (1 : Int))) ≤ pg7 n1) ∨ ((12 : Nat) = 56 ∧ -2147483648 ≤ (i2') ∧ (i2') ≤ 2147483647 ∧ -1 ≤ (i6') ∧ (i6') < 429 ∧ 0 ≤ ((i5' + (1 : Int))) ∧ ((i5' + (1 : Int))) < pg7 n1 ∧ -1 ≤ (i6') ∧ (i6') < 429)) ∧ (200 - 2 * ((i5' + (1 : Int)))).toNat < (199 - 2 * i5').toNat from ⟨Or.inr (Or.inl (⟨rfl, (by first | assumption | omega), (by first | assumption | omega), (by first | assumption | omega), (by first | assumption | omega), (by first | assumption | omega), (by first | assumption | omega)⟩)), by omega⟩)
        · refine Go_chk (by unfold zout; omega) ?_
          refine Go_ite (fun c14 => ?_) (fun c14 => ?_)
          · exact Go_i (show (((12 : Nat) = 0 ∧ -2147483648 ≤ (i2') ∧ (i2') ≤ 2147483647) ∨ ((12 : Nat) = 12 ∧ -2147483648 ≤ (i2') ∧ (i2') ≤ 2147483647 ∧ -1 ≤ (i4') ∧ (i4') < 429 ∧ 0 ≤ ((i5' + (1 : Int))) ∧ ((i5' + (1 : Int))) ≤ pg7 n1) ∨ ((12 : Nat) = 56 ∧ -2147483648 ≤ (i2') ∧ (i2') ≤ 2147483647 ∧ -1 ≤ (i4') ∧ (i4') < 429 ∧ 0 ≤ ((i5' + (1 : Int))) ∧ ((i5' + (1 : Int))) < pg7 n1 ∧ -1 ≤ (i6') ∧ (i6') < 429)) ∧ (200 - 2 * ((i5' + (1 : Int)))).toNat < (199 - 2 * i5').toNat from ⟨Or.inr (Or.inl (⟨rfl, (by first | assumption | omega), (by first | assumption | omega), (by first | assumption | omega), (by first | assumption | omega), (by first | assumption | omega), (by first | assumption | omega)⟩)), by omega⟩)
          · exact Go_i (show (((12 : Nat) = 0 ∧ -2147483648 ≤ (i2') ∧ (i2') ≤ 2147483647) ∨ ((12 : Nat) = 12 ∧ -2147483648 ≤ (i2') ∧ (i2') ≤ 2147483647 ∧ -1 ≤ (i6') ∧ (i6') < 429 ∧ 0 ≤ ((i5' + (1 : Int))) ∧ ((i5' + (1 : Int))) ≤ pg7 n1) ∨ ((12 : Nat) = 56 ∧ -2147483648 ≤ (i2') ∧ (i2') ≤ 2147483647 ∧ -1 ≤ (i6') ∧ (i6') < 429 ∧ 0 ≤ ((i5' + (1 : Int))) ∧ ((i5' + (1 : Int))) < pg7 n1 ∧ -1 ≤ (i6') ∧ (i6') < 429)) ∧ (200 - 2 * ((i5' + (1 : Int)))).toNat < (199 - 2 * i5').toNat from ⟨Or.inr (Or.inl (⟨rfl, (by first | assumption | omega), (by first | assumption | omega), (by first | assumption | omega), (by first | assumption | omega), (by first | assumption | omega), (by first | assumption | omega)⟩)), by omega⟩)
  · exact (show ((0 : Nat) = 0 ∧ -2147483648 ≤ i2 ∧ i2 ≤ 2147483647) ∨ ((0 : Nat) = 12 ∧ -2147483648 ≤ i2 ∧ i2 ≤ 2147483647 ∧ -1 ≤ 0 ∧ 0 < 429 ∧ 0 ≤ 0 ∧ 0 ≤ pg7 n1) ∨ ((0 : Nat) = 56 ∧ -2147483648 ≤ i2 ∧ i2 ≤ 2147483647 ∧ -1 ≤ 0 ∧ 0 < 429 ∧ 0 ≤ 0 ∧ 0 < pg7 n1 ∧ -1 ≤ 0 ∧ 0 < 429) from Or.inl (⟨rfl, (by first | assumption | omega), (by first | assumption | omega)⟩))
  · show 500 < jfuel
    unfold jfuel
    omega
set_option maxRecDepth 20000 in
theorem ok_X4_layWay (mk : Nat) (t_wayLength : Int) (t_queued : Int) (t_steps : Nat) (t_queue : Nat) (t_way : Nat) (n1 : Nat) (i2 : Int) (i3 : Int) (p0 : ¬ zno mk n1) (p1 : -2147483648 ≤ i2) (p2 : i2 ≤ 2147483647) (p3 : -2147483648 ≤ i3) (p4 : i3 ≤ 2147483647) : Go (fun o => -1 ≤ (o.1) ∧ (o.1) ≤ 429 ∧ 0 ≤ (o.2.1) ∧ (o.2.1) ≤ 429) (zf_X4_layWay mk t_wayLength t_queued t_steps t_queue t_way n1 i2 i3) := by
  unfold zf_X4_layWay
  have grn1 := zno_rng p0
  have g7n1 := rpg7 (n := n1) (by omega) (by omega)
  have g8n1 := rpg8 (n := n1) (by omega) (by omega)
  refine jok (fun (s : zS_X4_layWay) => match s with | (lab, i2', i3', i4', i5', i6', t_wayLength', t_queued', t_steps', t_queue', t_way') => (lab = 0 ∧ -2147483648 ≤ i2' ∧ i2' ≤ 2147483647 ∧ -2147483648 ≤ i3' ∧ i3' ≤ 2147483647) ∨ (lab = 24 ∧ -1 ≤ i4' ∧ i4' ≤ 429 ∧ -2147483648 ≤ i5' ∧ i5' ≤ 2147483647 ∧ 0 ≤ i6' ∧ i6' ≤ 429 ∧ t_wayLength' = i6' ∧ (∀ k : Nat, k < 429 → -1 ≤ zget t_steps' k ∧ zget t_steps' k ≤ 429))) (fun (s : zS_X4_layWay) => match s with | (lab, i2', i3', i4', i5', i6', t_wayLength', t_queued', t_steps', t_queue', t_way') => if lab = 0 then 1000 else if lab = 24 then (440 - i6').toNat else 0) (fun (o : zO_X4_layWay) => -1 ≤ (o.1) ∧ (o.1) ≤ 429 ∧ 0 ≤ (o.2.1) ∧ (o.2.1) ≤ 429) ?_ _ ?_ ?_
  · intro s hI
    obtain ⟨lab, i2', i3', i4', i5', i6', t_wayLength', t_queued', t_steps', t_queue', t_way'⟩ := s
    have hI : (lab = 0 ∧ -2147483648 ≤ i2' ∧ i2' ≤ 2147483647 ∧ -2147483648 ≤ i3' ∧ i3' ≤ 2147483647) ∨ (lab = 24 ∧ -1 ≤ i4' ∧ i4' ≤ 429 ∧ -2147483648 ≤ i5' ∧ i5' ≤ 2147483647 ∧ 0 ≤ i6' ∧ i6' ≤ 429 ∧ t_wayLength' = i6' ∧ (∀ k : Nat, k < 429 → -1 ≤ zget t_steps' k ∧ zget t_steps' k ≤ 429)) := hI
    rcases hI with ⟨rfl, v0_0, v0_1, v0_2, v0_3⟩ | ⟨rfl, v24_0, v24_1, v24_2, v24_3, v24_4, v24_5, v24_6, v24_7⟩
    · show Go _ (zg_X4_layWay_0 mk n1 i2' i3' i4' i5' i6' t_wayLength' t_queued' t_steps' t_queue' t_way')
      unfold zg_X4_layWay_0
      refine Go_bindP (ok_X4_measure mk t_queued' t_steps' t_queue' n1 i3' (by first | assumption | omega) (by first | assumption | omega) (by first | assumption | omega)) (fun o1 q1 => ?_)
      obtain ⟨q1_0, q1_1, q1_2⟩ := q1
      refine Go_bindP (ok_X4_stepsTo (o1.2.1) i2' (by first | assumption | omega) (by first | assumption | omega)) (fun o2 q2 => ?_)
      have sq2 := q2 429 (by omega) (by assumption)
      exact Go_i (show (((24 : Nat) = 0 ∧ -2147483648 ≤ (i2') ∧ (i2') ≤ 2147483647 ∧ -2147483648 ≤ (i3') ∧ (i3') ≤ 2147483647) ∨ ((24 : Nat) = 24 ∧ -1 ≤ (o2) ∧ (o2) ≤ 429 ∧ -2147483648 ≤ (i2') ∧ (i2') ≤ 2147483647 ∧ 0 ≤ ((0 : Int)) ∧ ((0 : Int)) ≤ 429 ∧ ((0 : Int)) = ((0 : Int)) ∧ (∀ k : Nat, k < 429 → -1 ≤ zget ((o1.2.1)) k ∧ zget ((o1.2.1)) k ≤ 429))) ∧ (440 - ((0 : Int))).toNat < 1000 from ⟨Or.inr (⟨rfl, (by first | assumption | omega), (by first | assumption | omega), (by first | assumption | omega), (by first | assumption | omega), (by first | assumption | omega), (by first | assumption | omega), (by first | assumption | omega), (by first | assumption | exact all_w (by assumption) (by omega) | (refine all_setw ?_ (Int.le_refl _) ?_ ?_ (by omega) (by omega) <;> first | assumption | omega) | exact all_setw (by assumption) (by omega) (by omega) (by omega) (by omega) (by omega))⟩), by omega⟩)
    · show Go _ (zg_X4_layWay_24 mk n1 i2' i3' i4' i5' i6' t_wayLength' t_queued' t_steps' t_queue' t_way')
      unfold zg_X4_layWay_24
      refine Go_chk (by unfold zout; omega) ?_
      refine Go_chk (by unfold zout; omega) ?_
      refine Go_ite (fun c3 => ?_) (fun c3 => ?_)
      · exact Go_i (show -1 ≤ (i4') ∧ (i4') ≤ 429 ∧ 0 ≤ (t_wayLength') ∧ (t_wayLength') ≤ 429 from ⟨(by first | assumption | omega), (by first | assumption | omega), (by first | assumption | omega), (by first | assumption | omega)⟩)
      · refine Go_ite (fun c4 => ?_) (fun c4 => ?_)
        · exact Go_i (show -1 ≤ (i4') ∧ (i4') ≤ 429 ∧ 0 ≤ (t_wayLength') ∧ (t_wayLength') ≤ 429 from ⟨(by first | assumption | omega), (by first | assumption | omega), (by first | assumption | omega), (by first | assumption | omega)⟩)
        · refine Go_chk (by omega) ?_
          refine Go_bindP (ok_X4_leastNearer mk t_steps' n1 i5' (by first | assumption | omega) (by first | assumption | exact all_w (by assumption) (by omega) | (refine all_setw ?_ (Int.le_refl _) ?_ ?_ (by omega) (by omega) <;> first | assumption | omega) | exact all_setw (by assumption) (by omega) (by omega) (by omega) (by omega) (by omega)) (by first | assumption | omega) (by first | assumption | omega)) (fun o6 q5 => ?_)
          obtain ⟨q5_0, q5_1⟩ := q5
          exact Go_i (show (((24 : Nat) = 0 ∧ -2147483648 ≤ (0) ∧ (0) ≤ 2147483647 ∧ -2147483648 ≤ (0) ∧ (0) ≤ 2147483647) ∨ ((24 : Nat) = 24 ∧ -1 ≤ (i4') ∧ (i4') ≤ 429 ∧ -2147483648 ≤ (o6) ∧ (o6) ≤ 2147483647 ∧ 0 ≤ ((i6' + (1 : Int))) ∧ ((i6' + (1 : Int))) ≤ 429 ∧ ((t_wayLength' + (1 : Int))) = ((i6' + (1 : Int))) ∧ (∀ k : Nat, k < 429 → -1 ≤ zget (t_steps') k ∧ zget (t_steps') k ≤ 429))) ∧ (440 - ((i6' + (1 : Int)))).toNat < (440 - i6').toNat from ⟨Or.inr (⟨rfl, (by first | assumption | omega), (by first | assumption | omega), (by first | assumption | omega), (by first | assumption | omega), (by first | assumption | omega), (by first | assumption | omega), (by first | assumption | omega), (by first | assumption | exact all_w (by assumption) (by omega) | (refine all_setw ?_ (Int.le_refl _) ?_ ?_ (by omega) (by omega) <;> first | assumption | omega) | exact all_setw (by assumption) (by omega) (by omega) (by omega) (by omega) (by omega))⟩), by omega⟩)
  · exact (show ((0 : Nat) = 0 ∧ -2147483648 ≤ i2 ∧ i2 ≤ 2147483647 ∧ -2147483648 ≤ i3 ∧ i3 ≤ 2147483647) ∨ ((0 : Nat) = 24 ∧ -1 ≤ 0 ∧ 0 ≤ 429 ∧ -2147483648 ≤ 0 ∧ 0 ≤ 2147483647 ∧ 0 ≤ 0 ∧ 0 ≤ 429 ∧ t_wayLength = 0 ∧ (∀ k : Nat, k < 429 → -1 ≤ zget t_steps k ∧ zget t_steps k ≤ 429)) from Or.inl (⟨rfl, (by first | assumption | omega), (by first | assumption | omega), (by first | assumption | omega), (by first | assumption | omega)⟩))
  · show 1000 < jfuel
    unfold jfuel
    omega
set_option maxRecDepth 20000 in
theorem ok_X4_onWay (t_wayLength : Int) (t_way : Nat) (i1 : Int) (p0 : 0 ≤ t_wayLength) (p1 : t_wayLength ≤ 429) (p2 : -2147483648 ≤ i1) (p3 : i1 ≤ 2147483647) : Go (fun o => -2147483648 ≤ (o) ∧ (o) ≤ 2147483647) (zf_X4_onWay t_wayLength t_way i1) := by
  unfold zf_X4_onWay
  refine Go_chk (by unfold zout; omega) ?_
  refine Go_ite (fun c1 => ?_) (fun c1 => ?_)
  · exact Go_i (show -2147483648 ≤ ((-1 : Int)) ∧ ((-1 : Int)) ≤ 2147483647 from ⟨(by first | assumption | omega), (by first | assumption | omega)⟩)
  · refine Go_chk (by unfold zout; omega) ?_
    refine Go_ite (fun c2 => ?_) (fun c2 => ?_)
    · exact Go_i (show -2147483648 ≤ ((-1 : Int)) ∧ ((-1 : Int)) ≤ 2147483647 from ⟨(by first | assumption | omega), (by first | assumption | omega)⟩)
    · refine Go_chk (by omega) ?_
      have a3 := rget t_way (Int.toNat i1)
      exact Go_i (show -2147483648 ≤ ((zget t_way (Int.toNat i1))) ∧ ((zget t_way (Int.toNat i1))) ≤ 2147483647 from ⟨(by first | assumption | omega), (by first | assumption | omega)⟩)
