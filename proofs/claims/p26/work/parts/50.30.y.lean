set_option maxRecDepth 20000 in
theorem ok_X11_isNext (i0 : Int) (i1 : Int) (i2 : Int) (p0 : 4 ≤ i0) (p1 : i0 ≤ 9) (p2 : 0 ≤ i1) (p3 : i1 < i0) (p4 : 0 ≤ i2) (p5 : i2 < i0) : Go (fun o => True) (zf_X11_isNext i0 i1 i2) := by
  unfold zf_X11_isNext
  refine Go_chk (by unfold zout; omega) ?_
  refine Go_chk (by unfold zout; omega) ?_
  refine Go_chk (by omega) ?_
  have a1 := rtmod (a := (i1 + (1 : Int))) (b := i0) (by omega) (by omega)
  refine Go_chk (by unfold zout; omega) ?_
  refine Go_chk (by unfold zout; omega) ?_
  refine Go_ite (fun c2 => ?_) (fun c2 => ?_)
  · exact Go_i (show True from trivial)
  · refine Go_chk (by unfold zout; omega) ?_
    refine Go_chk (by omega) ?_
    have a3 := rtmod (a := (i2 + (1 : Int))) (b := i0) (by omega) (by omega)
    refine Go_chk (by unfold zout; omega) ?_
    refine Go_chk (by unfold zout; omega) ?_
    refine Go_ite (fun c4 => ?_) (fun c4 => ?_)
    · exact Go_i (show True from trivial)
    · exact Go_i (show True from trivial)
set_option maxRecDepth 20000 in
theorem ok_X11_isLine (i0 : Int) (i1 : Int) (i2 : Int) (p0 : 4 ≤ i0) (p1 : i0 ≤ 9) (p2 : 0 ≤ i1) (p3 : i1 < i0) (p4 : 0 ≤ i2) (p5 : i2 < i0) : Go (fun o => ((o) = true → ¬ i1 = i2) ∧ ((o) = false → True)) (zf_X11_isLine i0 i1 i2) := by
  unfold zf_X11_isLine
  refine Go_chk (by unfold zout; omega) ?_
  refine Go_chk (by unfold zout; omega) ?_
  refine Go_ite (fun c1 => ?_) (fun c1 => ?_)
  · exact Go_i (show ((false) = true → ¬ i1 = i2) ∧ ((false) = false → True) from ⟨(by intro h; first | exact True.intro | omega | (exact absurd h (by decide))), (by intro h; first | exact True.intro | omega | (exact absurd h (by decide)))⟩)
  · refine Go_bindP (ok_X11_isNext i0 i1 i2 (by first | assumption | omega) (by first | assumption | omega) (by first | assumption | omega) (by first | assumption | omega) (by first | assumption | omega) (by first | assumption | omega)) (fun o3 q2 => ?_)
    refine Go_ite (fun c3 => ?_) (fun c3 => ?_)
    · exact Go_i (show ((true) = true → ¬ i1 = i2) ∧ ((true) = false → True) from ⟨(by intro h; first | exact True.intro | omega | (exact absurd h (by decide))), (by intro h; first | exact True.intro | omega | (exact absurd h (by decide)))⟩)
    · exact Go_i (show ((false) = true → ¬ i1 = i2) ∧ ((false) = false → True) from ⟨(by intro h; first | exact True.intro | omega | (exact absurd h (by decide))), (by intro h; first | exact True.intro | omega | (exact absurd h (by decide)))⟩)
set_option maxRecDepth 20000 in
theorem ok_X11_isBetween (i0 : Int) (i1 : Int) (i2 : Int) (i3 : Int) (p0 : 4 ≤ i0) (p1 : i0 ≤ 9) (p2 : 0 ≤ i1) (p3 : i1 < i0) (p4 : 0 ≤ i2) (p5 : i2 < i0) (p6 : 0 ≤ i3) (p7 : i3 < i0) : Go (fun o => True) (zf_X11_isBetween i0 i1 i2 i3) := by
  unfold zf_X11_isBetween
  refine Go_chk (by unfold zout; omega) ?_
  refine Go_chk (by unfold zout; omega) ?_
  refine Go_ite (fun c1 => ?_) (fun c1 => ?_)
  · exact Go_i (show True from trivial)
  · refine Go_chk (by unfold zout; omega) ?_
    refine Go_ite (fun c2 => ?_) (fun c2 => ?_)
    · exact Go_i (show True from trivial)
    · refine Go_chk (by unfold zout; omega) ?_
      refine Go_chk (by unfold zout; omega) ?_
      refine Go_chk (by omega) ?_
      refine Go_chk (by unfold zout; omega) ?_
      refine Go_chk (by omega) ?_
      have a3 := rtmod (a := ((i2 - i1) + i0)) (b := i0) (by omega) (by omega)
      refine Go_chk (by unfold zout; omega) ?_
      have a4 := rtmod (a := ((i3 - i1) + i0)) (b := i0) (by omega) (by omega)
      refine Go_chk (by unfold zout; omega) ?_
      refine Go_ite (fun c5 => ?_) (fun c5 => ?_)
      · exact Go_i (show True from trivial)
      · exact Go_i (show True from trivial)
set_option maxRecDepth 20000 in
theorem ok_X11_isCross (i0 : Int) (i1 : Int) (i2 : Int) (i3 : Int) (i4 : Int) (p0 : 4 ≤ i0) (p1 : i0 ≤ 9) (p2 : 0 ≤ i1) (p3 : i1 < i0) (p4 : 0 ≤ i2) (p5 : i2 < i0) (p6 : 0 ≤ i3) (p7 : i3 < i0) (p8 : 0 ≤ i4) (p9 : i4 < i0) : Go (fun o => True) (zf_X11_isCross i0 i1 i2 i3 i4) := by
  unfold zf_X11_isCross
  refine Go_chk (by unfold zout; omega) ?_
  refine Go_chk (by unfold zout; omega) ?_
  refine Go_ite (fun c1 => ?_) (fun c1 => ?_)
  · exact Go_i (show True from trivial)
  · refine Go_chk (by unfold zout; omega) ?_
    refine Go_ite (fun c2 => ?_) (fun c2 => ?_)
    · exact Go_i (show True from trivial)
    · refine Go_chk (by unfold zout; omega) ?_
      refine Go_ite (fun c3 => ?_) (fun c3 => ?_)
      · exact Go_i (show True from trivial)
      · refine Go_ite (fun c4 => ?_) (fun c4 => ?_)
        · exact Go_i (show True from trivial)
        · refine Go_bindP (ok_X11_isBetween i0 i1 i3 i2 (by first | assumption | omega) (by first | assumption | omega) (by first | assumption | omega) (by first | assumption | omega) (by first | assumption | omega) (by first | assumption | omega) (by first | assumption | omega) (by first | assumption | omega)) (fun o5 q5 => ?_)
          refine Go_bindP (ok_X11_isBetween i0 i1 i4 i2 (by first | assumption | omega) (by first | assumption | omega) (by first | assumption | omega) (by first | assumption | omega) (by first | assumption | omega) (by first | assumption | omega) (by first | assumption | omega) (by first | assumption | omega)) (fun o6 q6 => ?_)
          have a7 := rbI o6
          have a8 := rbI o5
          refine Go_ite (fun c9 => ?_) (fun c9 => ?_)
          · exact Go_i (show True from trivial)
          · exact Go_i (show True from trivial)
set_option maxRecDepth 20000 in
theorem ok_X11_in (i0 : Int) (i1 : Int) (i2 : Int) (p0 : -2147483648 ≤ i0) (p1 : i0 ≤ 2147483647) (p2 : -2147483648 ≤ i1) (p3 : i1 ≤ 2147483647) (p4 : -2147483648 ≤ i2) (p5 : i2 ≤ 2147483647) : Go (fun o => ((o) = true → i1 ≤ i0 ∧ i0 ≤ i2) ∧ ((o) = false → ¬ (i1 ≤ i0 ∧ i0 ≤ i2))) (zf_X11_in i0 i1 i2) := by
  unfold zf_X11_in
  refine Go_chk (by unfold zout; omega) ?_
  refine Go_chk (by unfold zout; omega) ?_
  refine Go_ite (fun c1 => ?_) (fun c1 => ?_)
  · exact Go_i (show ((false) = true → i1 ≤ i0 ∧ i0 ≤ i2) ∧ ((false) = false → ¬ (i1 ≤ i0 ∧ i0 ≤ i2)) from ⟨(by intro h; first | exact True.intro | omega | (exact absurd h (by decide))), (by intro h; first | exact True.intro | omega | (exact absurd h (by decide)))⟩)
  · refine Go_chk (by unfold zout; omega) ?_
    refine Go_ite (fun c2 => ?_) (fun c2 => ?_)
    · exact Go_i (show ((false) = true → i1 ≤ i0 ∧ i0 ≤ i2) ∧ ((false) = false → ¬ (i1 ≤ i0 ∧ i0 ≤ i2)) from ⟨(by intro h; first | exact True.intro | omega | (exact absurd h (by decide))), (by intro h; first | exact True.intro | omega | (exact absurd h (by decide)))⟩)
    · exact Go_i (show ((true) = true → i1 ≤ i0 ∧ i0 ≤ i2) ∧ ((true) = false → ¬ (i1 ≤ i0 ∧ i0 ≤ i2)) from ⟨(by intro h; first | exact True.intro | omega | (exact absurd h (by decide))), (by intro h; first | exact True.intro | omega | (exact absurd h (by decide)))⟩)
set_option maxRecDepth 20000 in
theorem ok_X11_feed (t_taped : Int) (t_tape : Nat) (i1 : Int) (i2 : Int) (i3 : Int) (i4 : Int) (i5 : Int) (p0 : 0 ≤ t_taped) (p1 : t_taped ≤ 300) : Go (fun o => 0 ≤ (o.2.1) ∧ (o.2.1) ≤ 300 ∧ (t_taped ≤ 280 → (o.2.1) = t_taped + 20 ∧ (o.1) = (o.2.1)) ∧ (280 < t_taped → (o.2.1) = t_taped ∧ (o.1) = -3)) (zf_X11_feed t_taped t_tape i1 i2 i3 i4 i5) := by
  unfold zf_X11_feed
  refine jok (fun (s : zS_X11_feed) => match s with | (lab, i1', i2', i3', i4', i5', i6', i7', i8', t_taped', t_tape') => (lab = 0 ∧ t_taped' = t_taped) ∨ (lab = 19 ∧ 0 ≤ i6' ∧ i6' ≤ 5 ∧ t_taped ≤ 280 ∧ t_taped' = t_taped + 4 * i6') ∨ (lab = 73 ∧ 0 ≤ i6' ∧ i6' ≤ 4 ∧ t_taped ≤ 280 ∧ -8 ≤ i8' ∧ i8' ≤ 24 ∧ 8 * (t_taped' - t_taped - 4 * i6') + i8' = 24)) (fun (s : zS_X11_feed) => match s with | (lab, i1', i2', i3', i4', i5', i6', i7', i8', t_taped', t_tape') => if lab = 0 then 1000 else if lab = 19 then (100 * (6 - i6') + 60).toNat else if lab = 73 then (100 * (6 - i6') + i8' + 8).toNat else 0) (fun (o : zO_X11_feed) => 0 ≤ (o.2.1) ∧ (o.2.1) ≤ 300 ∧ (t_taped ≤ 280 → (o.2.1) = t_taped + 20 ∧ (o.1) = (o.2.1)) ∧ (280 < t_taped → (o.2.1) = t_taped ∧ (o.1) = -3)) ?_ _ ?_ ?_
  · intro s hI
    obtain ⟨lab, i1', i2', i3', i4', i5', i6', i7', i8', t_taped', t_tape'⟩ := s
    have hI : (lab = 0 ∧ t_taped' = t_taped) ∨ (lab = 19 ∧ 0 ≤ i6' ∧ i6' ≤ 5 ∧ t_taped ≤ 280 ∧ t_taped' = t_taped + 4 * i6') ∨ (lab = 73 ∧ 0 ≤ i6' ∧ i6' ≤ 4 ∧ t_taped ≤ 280 ∧ -8 ≤ i8' ∧ i8' ≤ 24 ∧ 8 * (t_taped' - t_taped - 4 * i6') + i8' = 24) := hI
    rcases hI with ⟨rfl, v0_0⟩ | ⟨rfl, v19_0, v19_1, v19_2, v19_3⟩ | ⟨rfl, v73_0, v73_1, v73_2, v73_3, v73_4, v73_5⟩
    · show Go _ (zg_X11_feed_0 i1' i2' i3' i4' i5' i6' i7' i8' t_taped' t_tape')
      unfold zg_X11_feed_0
      refine Go_chk (by unfold zout; omega) ?_
      refine Go_ite (fun c1 => ?_) (fun c1 => ?_)
      · exact Go_i (show (((19 : Nat) = 0 ∧ (t_taped') = t_taped) ∨ ((19 : Nat) = 19 ∧ 0 ≤ ((0 : Int)) ∧ ((0 : Int)) ≤ 5 ∧ t_taped ≤ 280 ∧ (t_taped') = t_taped + 4 * ((0 : Int))) ∨ ((19 : Nat) = 73 ∧ 0 ≤ ((0 : Int)) ∧ ((0 : Int)) ≤ 4 ∧ t_taped ≤ 280 ∧ -8 ≤ (0) ∧ (0) ≤ 24 ∧ 8 * ((t_taped') - t_taped - 4 * ((0 : Int))) + (0) = 24)) ∧ (100 * (6 - ((0 : Int))) + 60).toNat < 1000 from ⟨Or.inr (Or.inl (⟨rfl, (by first | assumption | omega), (by first | assumption | omega), (by first | assumption | omega), (by first | assumption | omega)⟩)), by omega⟩)
      · exact Go_i (show 0 ≤ (t_taped') ∧ (t_taped') ≤ 300 ∧ (t_taped ≤ 280 → (t_taped') = t_taped + 20 ∧ ((-3 : Int)) = (t_taped')) ∧ (280 < t_taped → (t_taped') = t_taped ∧ ((-3 : Int)) = -3) from ⟨(by first | assumption | omega), (by first | assumption | omega), (by intro h; first | exact True.intro | omega | (refine ⟨?_, ?_⟩ <;> omega)), (by intro h; first | exact True.intro | omega | (refine ⟨?_, ?_⟩ <;> omega))⟩)
    · show Go _ (zg_X11_feed_19 i1' i2' i3' i4' i5' i6' i7' i8' t_taped' t_tape')
      unfold zg_X11_feed_19
      refine Go_chk (by unfold zout; omega) ?_
      refine Go_ite (fun c2 => ?_) (fun c2 => ?_)
      · exact Go_i (show 0 ≤ (t_taped') ∧ (t_taped') ≤ 300 ∧ (t_taped ≤ 280 → (t_taped') = t_taped + 20 ∧ (t_taped') = (t_taped')) ∧ (280 < t_taped → (t_taped') = t_taped ∧ (t_taped') = -3) from ⟨(by first | assumption | omega), (by first | assumption | omega), (by intro h; first | exact True.intro | omega | (refine ⟨?_, ?_⟩ <;> omega)), (by intro h; first | exact True.intro | omega | (refine ⟨?_, ?_⟩ <;> omega))⟩)
      · refine Go_ite (fun c3 => ?_) (fun c3 => ?_)
        · exact Go_i (show (((73 : Nat) = 0 ∧ (t_taped') = t_taped) ∨ ((73 : Nat) = 19 ∧ 0 ≤ (i6') ∧ (i6') ≤ 5 ∧ t_taped ≤ 280 ∧ (t_taped') = t_taped + 4 * (i6')) ∨ ((73 : Nat) = 73 ∧ 0 ≤ (i6') ∧ (i6') ≤ 4 ∧ t_taped ≤ 280 ∧ -8 ≤ ((24 : Int)) ∧ ((24 : Int)) ≤ 24 ∧ 8 * ((t_taped') - t_taped - 4 * (i6')) + ((24 : Int)) = 24)) ∧ (100 * (6 - (i6')) + ((24 : Int)) + 8).toNat < (100 * (6 - i6') + 60).toNat from ⟨Or.inr (Or.inr (⟨rfl, (by first | assumption | omega), (by first | assumption | omega), (by first | assumption | omega), (by first | assumption | omega), (by first | assumption | omega), (by first | assumption | omega)⟩)), by omega⟩)
        · refine Go_ite (fun c4 => ?_) (fun c4 => ?_)
          · exact Go_i (show (((73 : Nat) = 0 ∧ (t_taped') = t_taped) ∨ ((73 : Nat) = 19 ∧ 0 ≤ (i6') ∧ (i6') ≤ 5 ∧ t_taped ≤ 280 ∧ (t_taped') = t_taped + 4 * (i6')) ∨ ((73 : Nat) = 73 ∧ 0 ≤ (i6') ∧ (i6') ≤ 4 ∧ t_taped ≤ 280 ∧ -8 ≤ ((24 : Int)) ∧ ((24 : Int)) ≤ 24 ∧ 8 * ((t_taped') - t_taped - 4 * (i6')) + ((24 : Int)) = 24)) ∧ (100 * (6 - (i6')) + ((24 : Int)) + 8).toNat < (100 * (6 - i6') + 60).toNat from ⟨Or.inr (Or.inr (⟨rfl, (by first | assumption | omega), (by first | assumption | omega), (by first | assumption | omega), (by first | assumption | omega), (by first | assumption | omega), (by first | assumption | omega)⟩)), by omega⟩)
          · refine Go_ite (fun c5 => ?_) (fun c5 => ?_)
            · exact Go_i (show (((73 : Nat) = 0 ∧ (t_taped') = t_taped) ∨ ((73 : Nat) = 19 ∧ 0 ≤ (i6') ∧ (i6') ≤ 5 ∧ t_taped ≤ 280 ∧ (t_taped') = t_taped + 4 * (i6')) ∨ ((73 : Nat) = 73 ∧ 0 ≤ (i6') ∧ (i6') ≤ 4 ∧ t_taped ≤ 280 ∧ -8 ≤ ((24 : Int)) ∧ ((24 : Int)) ≤ 24 ∧ 8 * ((t_taped') - t_taped - 4 * (i6')) + ((24 : Int)) = 24)) ∧ (100 * (6 - (i6')) + ((24 : Int)) + 8).toNat < (100 * (6 - i6') + 60).toNat from ⟨Or.inr (Or.inr (⟨rfl, (by first | assumption | omega), (by first | assumption | omega), (by first | assumption | omega), (by first | assumption | omega), (by first | assumption | omega), (by first | assumption | omega)⟩)), by omega⟩)
            · refine Go_ite (fun c6 => ?_) (fun c6 => ?_)
              · exact Go_i (show (((73 : Nat) = 0 ∧ (t_taped') = t_taped) ∨ ((73 : Nat) = 19 ∧ 0 ≤ (i6') ∧ (i6') ≤ 5 ∧ t_taped ≤ 280 ∧ (t_taped') = t_taped + 4 * (i6')) ∨ ((73 : Nat) = 73 ∧ 0 ≤ (i6') ∧ (i6') ≤ 4 ∧ t_taped ≤ 280 ∧ -8 ≤ ((24 : Int)) ∧ ((24 : Int)) ≤ 24 ∧ 8 * ((t_taped') - t_taped - 4 * (i6')) + ((24 : Int)) = 24)) ∧ (100 * (6 - (i6')) + ((24 : Int)) + 8).toNat < (100 * (6 - i6') + 60).toNat from ⟨Or.inr (Or.inr (⟨rfl, (by first | assumption | omega), (by first | assumption | omega), (by first | assumption | omega), (by first | assumption | omega), (by first | assumption | omega), (by first | assumption | omega)⟩)), by omega⟩)
              · exact Go_i (show (((73 : Nat) = 0 ∧ (t_taped') = t_taped) ∨ ((73 : Nat) = 19 ∧ 0 ≤ (i6') ∧ (i6') ≤ 5 ∧ t_taped ≤ 280 ∧ (t_taped') = t_taped + 4 * (i6')) ∨ ((73 : Nat) = 73 ∧ 0 ≤ (i6') ∧ (i6') ≤ 4 ∧ t_taped ≤ 280 ∧ -8 ≤ ((24 : Int)) ∧ ((24 : Int)) ≤ 24 ∧ 8 * ((t_taped') - t_taped - 4 * (i6')) + ((24 : Int)) = 24)) ∧ (100 * (6 - (i6')) + ((24 : Int)) + 8).toNat < (100 * (6 - i6') + 60).toNat from ⟨Or.inr (Or.inr (⟨rfl, (by first | assumption | omega), (by first | assumption | omega), (by first | assumption | omega), (by first | assumption | omega), (by first | assumption | omega), (by first | assumption | omega)⟩)), by omega⟩)
    · show Go _ (zg_X11_feed_73 i1' i2' i3' i4' i5' i6' i7' i8' t_taped' t_tape')
      unfold zg_X11_feed_73
      refine Go_chk (by unfold zout; omega) ?_
      refine Go_ite (fun c7 => ?_) (fun c7 => ?_)
      · exact Go_i (show (((19 : Nat) = 0 ∧ (t_taped') = t_taped) ∨ ((19 : Nat) = 19 ∧ 0 ≤ ((i6' + (1 : Int))) ∧ ((i6' + (1 : Int))) ≤ 5 ∧ t_taped ≤ 280 ∧ (t_taped') = t_taped + 4 * ((i6' + (1 : Int)))) ∨ ((19 : Nat) = 73 ∧ 0 ≤ ((i6' + (1 : Int))) ∧ ((i6' + (1 : Int))) ≤ 4 ∧ t_taped ≤ 280 ∧ -8 ≤ (i8') ∧ (i8') ≤ 24 ∧ 8 * ((t_taped') - t_taped - 4 * ((i6' + (1 : Int)))) + (i8') = 24)) ∧ (100 * (6 - ((i6' + (1 : Int)))) + 60).toNat < (100 * (6 - i6') + i8' + 8).toNat from ⟨Or.inr (Or.inl (⟨rfl, (by first | assumption | omega), (by first | assumption | omega), (by first | assumption | omega), (by first | assumption | omega)⟩)), by omega⟩)
      · refine Go_chk (by omega) ?_
        have a8 := rshr i7' i8'
        have a9 := rb (zshr i7' i8')
        have a10 := rb (zb (zshr i7' i8'))
        exact Go_i (show (((73 : Nat) = 0 ∧ ((t_taped' + (1 : Int))) = t_taped) ∨ ((73 : Nat) = 19 ∧ 0 ≤ (i6') ∧ (i6') ≤ 5 ∧ t_taped ≤ 280 ∧ ((t_taped' + (1 : Int))) = t_taped + 4 * (i6')) ∨ ((73 : Nat) = 73 ∧ 0 ≤ (i6') ∧ (i6') ≤ 4 ∧ t_taped ≤ 280 ∧ -8 ≤ ((i8' + (-8 : Int))) ∧ ((i8' + (-8 : Int))) ≤ 24 ∧ 8 * (((t_taped' + (1 : Int))) - t_taped - 4 * (i6')) + ((i8' + (-8 : Int))) = 24)) ∧ (100 * (6 - (i6')) + ((i8' + (-8 : Int))) + 8).toNat < (100 * (6 - i6') + i8' + 8).toNat from ⟨Or.inr (Or.inr (⟨rfl, (by first | assumption | omega), (by first | assumption | omega), (by first | assumption | omega), (by first | assumption | omega), (by first | assumption | omega), (by first | assumption | omega)⟩)), by omega⟩)
  · exact (show ((0 : Nat) = 0 ∧ t_taped = t_taped) ∨ ((0 : Nat) = 19 ∧ 0 ≤ 0 ∧ 0 ≤ 5 ∧ t_taped ≤ 280 ∧ t_taped = t_taped + 4 * 0) ∨ ((0 : Nat) = 73 ∧ 0 ≤ 0 ∧ 0 ≤ 4 ∧ t_taped ≤ 280 ∧ -8 ≤ 0 ∧ 0 ≤ 24 ∧ 8 * (t_taped - t_taped - 4 * 0) + 0 = 24) from Or.inl (⟨rfl, (by first | assumption | omega)⟩))
  · show 1000 < jfuel
    unfold jfuel
    omega
set_option maxRecDepth 20000 in
theorem ok_X11_end (t_taped : Int) (i1 : Int) (p0 : 0 ≤ t_taped) (p1 : t_taped ≤ 300) (p2 : -2147483648 ≤ i1) (p3 : i1 ≤ 2147483647) : Go (fun o => 0 ≤ (o.2) ∧ (o.2) ≤ 300 ∧ ((0 ≤ i1 ∧ i1 ≤ t_taped) → (o.2) = i1 ∧ (o.1) = i1) ∧ (¬ (0 ≤ i1 ∧ i1 ≤ t_taped) → (o.2) = t_taped ∧ (o.1) = -1)) (zf_X11_end t_taped i1) := by
  unfold zf_X11_end
  refine Go_chk (by unfold zout; omega) ?_
  refine Go_ite (fun c1 => ?_) (fun c1 => ?_)
  · exact Go_i (show 0 ≤ (t_taped) ∧ (t_taped) ≤ 300 ∧ ((0 ≤ i1 ∧ i1 ≤ t_taped) → (t_taped) = i1 ∧ ((-1 : Int)) = i1) ∧ (¬ (0 ≤ i1 ∧ i1 ≤ t_taped) → (t_taped) = t_taped ∧ ((-1 : Int)) = -1) from ⟨(by first | assumption | omega), (by first | assumption | omega), (by intro h; first | exact True.intro | omega | (refine ⟨?_, ?_⟩ <;> omega)), (by intro h; first | exact True.intro | omega | (refine ⟨?_, ?_⟩ <;> omega))⟩)
  · refine Go_chk (by unfold zout; omega) ?_
    refine Go_ite (fun c2 => ?_) (fun c2 => ?_)
    · exact Go_i (show 0 ≤ (i1) ∧ (i1) ≤ 300 ∧ ((0 ≤ i1 ∧ i1 ≤ t_taped) → (i1) = i1 ∧ (i1) = i1) ∧ (¬ (0 ≤ i1 ∧ i1 ≤ t_taped) → (i1) = t_taped ∧ (i1) = -1) from ⟨(by first | assumption | omega), (by first | assumption | omega), (by intro h; first | exact True.intro | omega | (refine ⟨?_, ?_⟩ <;> omega)), (by intro h; first | exact True.intro | omega | (refine ⟨?_, ?_⟩ <;> omega))⟩)
    · exact Go_i (show 0 ≤ (t_taped) ∧ (t_taped) ≤ 300 ∧ ((0 ≤ i1 ∧ i1 ≤ t_taped) → (t_taped) = i1 ∧ ((-1 : Int)) = i1) ∧ (¬ (0 ≤ i1 ∧ i1 ≤ t_taped) → (t_taped) = t_taped ∧ ((-1 : Int)) = -1) from ⟨(by first | assumption | omega), (by first | assumption | omega), (by intro h; first | exact True.intro | omega | (refine ⟨?_, ?_⟩ <;> omega)), (by intro h; first | exact True.intro | omega | (refine ⟨?_, ?_⟩ <;> omega))⟩)
set_option maxRecDepth 20000 in
theorem ok_X11_byteAt (t_size : Int) (t_tape : Nat) (i1 : Int) (p0 : 0 ≤ t_size) (p1 : t_size ≤ 300) (p2 : 0 ≤ i1) (p3 : i1 ≤ 2147483647) : Go (fun o => -1 ≤ (o) ∧ (o) ≤ 255 ∧ ((o) = -1 → t_size ≤ i1) ∧ (¬ (o) = -1 → i1 < t_size) ∧ (i1 < t_size → (o) = zand (zget t_tape (Int.toNat i1)) 255)) (zf_X11_byteAt t_size t_tape i1) := by
  unfold zf_X11_byteAt
  refine Go_chk (by unfold zout; omega) ?_
  refine Go_chk (by unfold zout; omega) ?_
  refine Go_ite (fun c1 => ?_) (fun c1 => ?_)
  · exact Go_i (show -1 ≤ ((-1 : Int)) ∧ ((-1 : Int)) ≤ 255 ∧ (((-1 : Int)) = -1 → t_size ≤ i1) ∧ (¬ ((-1 : Int)) = -1 → i1 < t_size) ∧ (i1 < t_size → ((-1 : Int)) = zand (zget t_tape (Int.toNat i1)) 255) from ⟨(by first | assumption | omega), (by first | assumption | omega), (by intro h; first | omega | rfl | (exact absurd h (by decide))), (by intro h; first | omega | rfl | (exact absurd h (by decide))), (by intro h; first | omega | rfl | (exact absurd h (by decide)))⟩)
  · refine Go_chk (by omega) ?_
    have a2 := rget t_tape (Int.toNat i1)
    have a3 := rand (zget t_tape (Int.toNat i1)) (255 : Int)
    have a4 := rand_pos (x := (zget t_tape (Int.toNat i1))) (y := (255 : Int)) (by decide) (by decide)
    exact Go_i (show -1 ≤ ((zand (zget t_tape (Int.toNat i1)) (255 : Int))) ∧ ((zand (zget t_tape (Int.toNat i1)) (255 : Int))) ≤ 255 ∧ (((zand (zget t_tape (Int.toNat i1)) (255 : Int))) = -1 → t_size ≤ i1) ∧ (¬ ((zand (zget t_tape (Int.toNat i1)) (255 : Int))) = -1 → i1 < t_size) ∧ (i1 < t_size → ((zand (zget t_tape (Int.toNat i1)) (255 : Int))) = zand (zget t_tape (Int.toNat i1)) 255) from ⟨(by first | assumption | omega), (by first | assumption | omega), (by intro h; first | omega | rfl | (exact absurd h (by decide))), (by intro h; first | omega | rfl | (exact absurd h (by decide))), (by intro h; first | omega | rfl | (exact absurd h (by decide)))⟩)
set_option maxRecDepth 20000 in
theorem ok_X11_isSmall (i0 : Int) (p0 : -2147483648 ≤ i0) (p1 : i0 ≤ 2147483647) : Go (fun o => ((o) = true → 97 ≤ i0 ∧ i0 ≤ 122) ∧ ((o) = false → ¬ (97 ≤ i0 ∧ i0 ≤ 122))) (zf_X11_isSmall i0) := by
  unfold zf_X11_isSmall
  refine Go_chk (by unfold zout; omega) ?_
  refine Go_ite (fun c1 => ?_) (fun c1 => ?_)
  · exact Go_i (show ((false) = true → 97 ≤ i0 ∧ i0 ≤ 122) ∧ ((false) = false → ¬ (97 ≤ i0 ∧ i0 ≤ 122)) from ⟨(by intro h; first | exact True.intro | omega | (exact absurd h (by decide))), (by intro h; first | exact True.intro | omega | (exact absurd h (by decide)))⟩)
  · refine Go_ite (fun c2 => ?_) (fun c2 => ?_)
    · exact Go_i (show ((false) = true → 97 ≤ i0 ∧ i0 ≤ 122) ∧ ((false) = false → ¬ (97 ≤ i0 ∧ i0 ≤ 122)) from ⟨(by intro h; first | exact True.intro | omega | (exact absurd h (by decide))), (by intro h; first | exact True.intro | omega | (exact absurd h (by decide)))⟩)
    · exact Go_i (show ((true) = true → 97 ≤ i0 ∧ i0 ≤ 122) ∧ ((true) = false → ¬ (97 ≤ i0 ∧ i0 ≤ 122)) from ⟨(by intro h; first | exact True.intro | omega | (exact absurd h (by decide))), (by intro h; first | exact True.intro | omega | (exact absurd h (by decide)))⟩)
set_option maxRecDepth 20000 in
theorem ok_X11_isDigit (i0 : Int) (p0 : -2147483648 ≤ i0) (p1 : i0 ≤ 2147483647) : Go (fun o => ((o) = true → 48 ≤ i0 ∧ i0 ≤ 57) ∧ ((o) = false → ¬ (48 ≤ i0 ∧ i0 ≤ 57))) (zf_X11_isDigit i0) := by
  unfold zf_X11_isDigit
  refine Go_chk (by unfold zout; omega) ?_
  refine Go_ite (fun c1 => ?_) (fun c1 => ?_)
  · exact Go_i (show ((false) = true → 48 ≤ i0 ∧ i0 ≤ 57) ∧ ((false) = false → ¬ (48 ≤ i0 ∧ i0 ≤ 57)) from ⟨(by intro h; first | exact True.intro | omega | (exact absurd h (by decide))), (by intro h; first | exact True.intro | omega | (exact absurd h (by decide)))⟩)
  · refine Go_ite (fun c2 => ?_) (fun c2 => ?_)
    · exact Go_i (show ((false) = true → 48 ≤ i0 ∧ i0 ≤ 57) ∧ ((false) = false → ¬ (48 ≤ i0 ∧ i0 ≤ 57)) from ⟨(by intro h; first | exact True.intro | omega | (exact absurd h (by decide))), (by intro h; first | exact True.intro | omega | (exact absurd h (by decide)))⟩)
    · exact Go_i (show ((true) = true → 48 ≤ i0 ∧ i0 ≤ 57) ∧ ((true) = false → ¬ (48 ≤ i0 ∧ i0 ≤ 57)) from ⟨(by intro h; first | exact True.intro | omega | (exact absurd h (by decide))), (by intro h; first | exact True.intro | omega | (exact absurd h (by decide)))⟩)
set_option maxRecDepth 20000 in
theorem ok_X11_scan (t_size : Int) (t_sort : Int) (t_at : Int) (t_end : Int) (t_number : Int) (t_word : Int) (t_tape : Nat) (p0 : 0 ≤ t_size) (p1 : t_size ≤ 300) (p2 : 0 ≤ t_end) (p3 : t_end ≤ t_size) : Go (fun o => 0 ≤ (o.1) ∧ (o.1) ≤ 4 ∧ 0 ≤ (o.2.1) ∧ (o.2.1) ≤ t_size ∧ t_end ≤ (o.2.2.1) ∧ (o.2.2.1) ≤ t_size ∧ ((o.1) = 2 → 0 ≤ (o.2.2.2.1) ∧ (o.2.2.2.1) ≤ 999) ∧ ((o.1) = 1 → 0 ≤ (o.2.2.2.2) ∧ (o.2.2.2.2) ≤ 1099511627775) ∧ (¬ (o.1) = 4 → t_end < (o.2.2.1))) (zf_X11_scan t_size t_sort t_at t_end t_number t_word t_tape) := by
  unfold zf_X11_scan
  refine jok (fun (s : zS_X11_scan) => match s with | (lab, i1', i3', t_sort', t_at', t_end', t_number', t_word') => (lab = 0 ∧ t_end' = t_end) ∨ (lab = 5 ∧ t_end ≤ i1' ∧ i1' ≤ t_size) ∨ (lab = 75 ∧ t_end ≤ i1' ∧ i1' ≤ i3' ∧ i3' ≤ t_size ∧ 0 ≤ t_at' ∧ t_at' ≤ t_size ∧ i1' < t_size ∧ (i3' = i1' → 97 ≤ zand (zget t_tape (Int.toNat i1')) 255 ∧ zand (zget t_tape (Int.toNat i1')) 255 ≤ 122) ∧ (i3' - i1' ≤ 0 → t_word' ≤ 0) ∧ (i3' - i1' ≤ 1 → t_word' ≤ 31) ∧ (i3' - i1' ≤ 2 → t_word' ≤ 1023) ∧ (i3' - i1' ≤ 3 → t_word' ≤ 32767) ∧ (i3' - i1' ≤ 4 → t_word' ≤ 1048575) ∧ (i3' - i1' ≤ 5 → t_word' ≤ 33554431) ∧ (i3' - i1' ≤ 6 → t_word' ≤ 1073741823) ∧ (i3' - i1' ≤ 7 → t_word' ≤ 34359738367) ∧ (i3' - i1' ≤ 8 → t_word' ≤ 1099511627775) ∧ t_word' ≤ 1099511627775 ∧ 0 ≤ t_word') ∨ (lab = 160 ∧ t_end ≤ i1' ∧ i1' + 1 ≤ i3' ∧ i3' ≤ t_size ∧ 0 ≤ t_at' ∧ t_at' ≤ t_size ∧ 0 ≤ t_number' ∧ t_number' ≤ 999 ∧ (i3' - i1' ≤ 1 → t_number' ≤ 9) ∧ (i3' - i1' ≤ 2 → t_number' ≤ 99))) (fun (s : zS_X11_scan) => match s with | (lab, i1', i3', t_sort', t_at', t_end', t_number', t_word') => if lab = 0 then 1000 else if lab = 5 then (500 + t_size - i1').toNat else if lab = 75 then (t_size - i3').toNat else if lab = 160 then (t_size - i3').toNat else 0) (fun (o : zO_X11_scan) => 0 ≤ (o.1) ∧ (o.1) ≤ 4 ∧ 0 ≤ (o.2.1) ∧ (o.2.1) ≤ t_size ∧ t_end ≤ (o.2.2.1) ∧ (o.2.2.1) ≤ t_size ∧ ((o.1) = 2 → 0 ≤ (o.2.2.2.1) ∧ (o.2.2.2.1) ≤ 999) ∧ ((o.1) = 1 → 0 ≤ (o.2.2.2.2) ∧ (o.2.2.2.2) ≤ 1099511627775) ∧ (¬ (o.1) = 4 → t_end < (o.2.2.1))) ?_ _ ?_ ?_
  · intro s hI
    obtain ⟨lab, i1', i3', t_sort', t_at', t_end', t_number', t_word'⟩ := s
    have hI : (lab = 0 ∧ t_end' = t_end) ∨ (lab = 5 ∧ t_end ≤ i1' ∧ i1' ≤ t_size) ∨ (lab = 75 ∧ t_end ≤ i1' ∧ i1' ≤ i3' ∧ i3' ≤ t_size ∧ 0 ≤ t_at' ∧ t_at' ≤ t_size ∧ i1' < t_size ∧ (i3' = i1' → 97 ≤ zand (zget t_tape (Int.toNat i1')) 255 ∧ zand (zget t_tape (Int.toNat i1')) 255 ≤ 122) ∧ (i3' - i1' ≤ 0 → t_word' ≤ 0) ∧ (i3' - i1' ≤ 1 → t_word' ≤ 31) ∧ (i3' - i1' ≤ 2 → t_word' ≤ 1023) ∧ (i3' - i1' ≤ 3 → t_word' ≤ 32767) ∧ (i3' - i1' ≤ 4 → t_word' ≤ 1048575) ∧ (i3' - i1' ≤ 5 → t_word' ≤ 33554431) ∧ (i3' - i1' ≤ 6 → t_word' ≤ 1073741823) ∧ (i3' - i1' ≤ 7 → t_word' ≤ 34359738367) ∧ (i3' - i1' ≤ 8 → t_word' ≤ 1099511627775) ∧ t_word' ≤ 1099511627775 ∧ 0 ≤ t_word') ∨ (lab = 160 ∧ t_end ≤ i1' ∧ i1' + 1 ≤ i3' ∧ i3' ≤ t_size ∧ 0 ≤ t_at' ∧ t_at' ≤ t_size ∧ 0 ≤ t_number' ∧ t_number' ≤ 999 ∧ (i3' - i1' ≤ 1 → t_number' ≤ 9) ∧ (i3' - i1' ≤ 2 → t_number' ≤ 99)) := hI
    rcases hI with ⟨rfl, v0_0⟩ | ⟨rfl, v5_0, v5_1⟩ | ⟨rfl, v75_0, v75_1, v75_2, v75_3, v75_4, v75_5, v75_6, v75_7, v75_8, v75_9, v75_10, v75_11, v75_12, v75_13, v75_14, v75_15, v75_16, v75_17⟩ | ⟨rfl, v160_0, v160_1, v160_2, v160_3, v160_4, v160_5, v160_6, v160_7, v160_8⟩
    · show Go _ (zg_X11_scan_0 t_size t_tape i1' i3' t_sort' t_at' t_end' t_number' t_word')
      unfold zg_X11_scan_0
      exact Go_i (show (((5 : Nat) = 0 ∧ (t_end') = t_end) ∨ ((5 : Nat) = 5 ∧ t_end ≤ (t_end') ∧ (t_end') ≤ t_size) ∨ ((5 : Nat) = 75 ∧ t_end ≤ (t_end') ∧ (t_end') ≤ (0) ∧ (0) ≤ t_size ∧ 0 ≤ (t_at') ∧ (t_at') ≤ t_size ∧ (t_end') < t_size ∧ ((0) = (t_end') → 97 ≤ zand (zget t_tape (Int.toNat (t_end'))) 255 ∧ zand (zget t_tape (Int.toNat (t_end'))) 255 ≤ 122) ∧ ((0) - (t_end') ≤ 0 → (t_word') ≤ 0) ∧ ((0) - (t_end') ≤ 1 → (t_word') ≤ 31) ∧ ((0) - (t_end') ≤ 2 → (t_word') ≤ 1023) ∧ ((0) - (t_end') ≤ 3 → (t_word') ≤ 32767) ∧ ((0) - (t_end') ≤ 4 → (t_word') ≤ 1048575) ∧ ((0) - (t_end') ≤ 5 → (t_word') ≤ 33554431) ∧ ((0) - (t_end') ≤ 6 → (t_word') ≤ 1073741823) ∧ ((0) - (t_end') ≤ 7 → (t_word') ≤ 34359738367) ∧ ((0) - (t_end') ≤ 8 → (t_word') ≤ 1099511627775) ∧ (t_word') ≤ 1099511627775 ∧ 0 ≤ (t_word')) ∨ ((5 : Nat) = 160 ∧ t_end ≤ (t_end') ∧ (t_end') + 1 ≤ (0) ∧ (0) ≤ t_size ∧ 0 ≤ (t_at') ∧ (t_at') ≤ t_size ∧ 0 ≤ (t_number') ∧ (t_number') ≤ 999 ∧ ((0) - (t_end') ≤ 1 → (t_number') ≤ 9) ∧ ((0) - (t_end') ≤ 2 → (t_number') ≤ 99))) ∧ (500 + t_size - (t_end')).toNat < 1000 from ⟨Or.inr (Or.inl (⟨rfl, (by first | assumption | omega), (by first | assumption | omega)⟩)), by omega⟩)
    · show Go _ (zg_X11_scan_5 t_size t_tape i1' i3' t_sort' t_at' t_end' t_number' t_word')
      unfold zg_X11_scan_5
      refine Go_bindP (ok_X11_byteAt t_size t_tape i1' (by first | assumption | omega) (by first | assumption | omega) (by first | assumption | omega) (by first | assumption | omega)) (fun o1 q1 => ?_)
      obtain ⟨q1_0, q1_1, q1_2, q1_3, q1_4⟩ := q1
      refine Go_chk (by unfold zout; omega) ?_
      refine Go_ite (fun c2 => ?_) (fun c2 => ?_)
      · exact Go_i (show (((5 : Nat) = 0 ∧ (t_end') = t_end) ∨ ((5 : Nat) = 5 ∧ t_end ≤ ((i1' + (1 : Int))) ∧ ((i1' + (1 : Int))) ≤ t_size) ∨ ((5 : Nat) = 75 ∧ t_end ≤ ((i1' + (1 : Int))) ∧ ((i1' + (1 : Int))) ≤ (0) ∧ (0) ≤ t_size ∧ 0 ≤ (t_at') ∧ (t_at') ≤ t_size ∧ ((i1' + (1 : Int))) < t_size ∧ ((0) = ((i1' + (1 : Int))) → 97 ≤ zand (zget t_tape (Int.toNat ((i1' + (1 : Int))))) 255 ∧ zand (zget t_tape (Int.toNat ((i1' + (1 : Int))))) 255 ≤ 122) ∧ ((0) - ((i1' + (1 : Int))) ≤ 0 → (t_word') ≤ 0) ∧ ((0) - ((i1' + (1 : Int))) ≤ 1 → (t_word') ≤ 31) ∧ ((0) - ((i1' + (1 : Int))) ≤ 2 → (t_word') ≤ 1023) ∧ ((0) - ((i1' + (1 : Int))) ≤ 3 → (t_word') ≤ 32767) ∧ ((0) - ((i1' + (1 : Int))) ≤ 4 → (t_word') ≤ 1048575) ∧ ((0) - ((i1' + (1 : Int))) ≤ 5 → (t_word') ≤ 33554431) ∧ ((0) - ((i1' + (1 : Int))) ≤ 6 → (t_word') ≤ 1073741823) ∧ ((0) - ((i1' + (1 : Int))) ≤ 7 → (t_word') ≤ 34359738367) ∧ ((0) - ((i1' + (1 : Int))) ≤ 8 → (t_word') ≤ 1099511627775) ∧ (t_word') ≤ 1099511627775 ∧ 0 ≤ (t_word')) ∨ ((5 : Nat) = 160 ∧ t_end ≤ ((i1' + (1 : Int))) ∧ ((i1' + (1 : Int))) + 1 ≤ (0) ∧ (0) ≤ t_size ∧ 0 ≤ (t_at') ∧ (t_at') ≤ t_size ∧ 0 ≤ (t_number') ∧ (t_number') ≤ 999 ∧ ((0) - ((i1' + (1 : Int))) ≤ 1 → (t_number') ≤ 9) ∧ ((0) - ((i1' + (1 : Int))) ≤ 2 → (t_number') ≤ 99))) ∧ (500 + t_size - ((i1' + (1 : Int)))).toNat < (500 + t_size - i1').toNat from ⟨Or.inr (Or.inl (⟨rfl, (by first | assumption | omega), (by first | assumption | omega)⟩)), by omega⟩)
      · refine Go_bindP (ok_X11_byteAt t_size t_tape i1' (by first | assumption | omega) (by first | assumption | omega) (by first | assumption | omega) (by first | assumption | omega)) (fun o3 q3 => ?_)
        obtain ⟨q3_0, q3_1, q3_2, q3_3, q3_4⟩ := q3
        refine Go_chk (by unfold zout; omega) ?_
        refine Go_ite (fun c4 => ?_) (fun c4 => ?_)
        · exact Go_i (show (((5 : Nat) = 0 ∧ (t_end') = t_end) ∨ ((5 : Nat) = 5 ∧ t_end ≤ ((i1' + (1 : Int))) ∧ ((i1' + (1 : Int))) ≤ t_size) ∨ ((5 : Nat) = 75 ∧ t_end ≤ ((i1' + (1 : Int))) ∧ ((i1' + (1 : Int))) ≤ (0) ∧ (0) ≤ t_size ∧ 0 ≤ (t_at') ∧ (t_at') ≤ t_size ∧ ((i1' + (1 : Int))) < t_size ∧ ((0) = ((i1' + (1 : Int))) → 97 ≤ zand (zget t_tape (Int.toNat ((i1' + (1 : Int))))) 255 ∧ zand (zget t_tape (Int.toNat ((i1' + (1 : Int))))) 255 ≤ 122) ∧ ((0) - ((i1' + (1 : Int))) ≤ 0 → (t_word') ≤ 0) ∧ ((0) - ((i1' + (1 : Int))) ≤ 1 → (t_word') ≤ 31) ∧ ((0) - ((i1' + (1 : Int))) ≤ 2 → (t_word') ≤ 1023) ∧ ((0) - ((i1' + (1 : Int))) ≤ 3 → (t_word') ≤ 32767) ∧ ((0) - ((i1' + (1 : Int))) ≤ 4 → (t_word') ≤ 1048575) ∧ ((0) - ((i1' + (1 : Int))) ≤ 5 → (t_word') ≤ 33554431) ∧ ((0) - ((i1' + (1 : Int))) ≤ 6 → (t_word') ≤ 1073741823) ∧ ((0) - ((i1' + (1 : Int))) ≤ 7 → (t_word') ≤ 34359738367) ∧ ((0) - ((i1' + (1 : Int))) ≤ 8 → (t_word') ≤ 1099511627775) ∧ (t_word') ≤ 1099511627775 ∧ 0 ≤ (t_word')) ∨ ((5 : Nat) = 160 ∧ t_end ≤ ((i1' + (1 : Int))) ∧ ((i1' + (1 : Int))) + 1 ≤ (0) ∧ (0) ≤ t_size ∧ 0 ≤ (t_at') ∧ (t_at') ≤ t_size ∧ 0 ≤ (t_number') ∧ (t_number') ≤ 999 ∧ ((0) - ((i1' + (1 : Int))) ≤ 1 → (t_number') ≤ 9) ∧ ((0) - ((i1' + (1 : Int))) ≤ 2 → (t_number') ≤ 99))) ∧ (500 + t_size - ((i1' + (1 : Int)))).toNat < (500 + t_size - i1').toNat from ⟨Or.inr (Or.inl (⟨rfl, (by first | assumption | omega), (by first | assumption | omega)⟩)), by omega⟩)
        · refine Go_bindP (ok_X11_byteAt t_size t_tape i1' (by first | assumption | omega) (by first | assumption | omega) (by first | assumption | omega) (by first | assumption | omega)) (fun o5 q5 => ?_)
          obtain ⟨q5_0, q5_1, q5_2, q5_3, q5_4⟩ := q5
          refine Go_chk (by unfold zout; omega) ?_
          refine Go_ite (fun c6 => ?_) (fun c6 => ?_)
          · exact Go_i (show 0 ≤ ((4 : Int)) ∧ ((4 : Int)) ≤ 4 ∧ 0 ≤ (i1') ∧ (i1') ≤ t_size ∧ t_end ≤ (i1') ∧ (i1') ≤ t_size ∧ (((4 : Int)) = 2 → 0 ≤ (t_number') ∧ (t_number') ≤ 999) ∧ (((4 : Int)) = 1 → 0 ≤ (t_word') ∧ (t_word') ≤ 1099511627775) ∧ (¬ ((4 : Int)) = 4 → t_end < (i1')) from ⟨(by first | assumption | omega), (by first | assumption | omega), (by first | assumption | omega), (by first | assumption | omega), (by first | assumption | omega), (by first | assumption | omega), (by intro h; first | exact True.intro | omega | (exact absurd h (by decide))), (by intro h; first | exact True.intro | omega | (exact absurd h (by decide))), (by intro h; first | exact True.intro | omega | (exact absurd h (by decide)))⟩)
          · refine Go_bindP (ok_X11_isSmall o5 (by first | assumption | omega) (by first | assumption | omega)) (fun o7 q7 => ?_)
            obtain ⟨q7_0, q7_1⟩ := q7
            refine Go_ite (fun c8 => ?_) (fun c8 => ?_)
            · have dc8 := q7_1 c8
              refine Go_bindP (ok_X11_isDigit o5 (by first | assumption | omega) (by first | assumption | omega)) (fun o8 q9 => ?_)
              obtain ⟨q9_0, q9_1⟩ := q9
              refine Go_ite (fun c10 => ?_) (fun c10 => ?_)
              · have dc10 := q9_1 c10
                refine Go_ite (fun c11 => ?_) (fun c11 => ?_)
                · exact Go_i (show 0 ≤ ((3 : Int)) ∧ ((3 : Int)) ≤ 4 ∧ 0 ≤ (i1') ∧ (i1') ≤ t_size ∧ t_end ≤ ((i1' + (1 : Int))) ∧ ((i1' + (1 : Int))) ≤ t_size ∧ (((3 : Int)) = 2 → 0 ≤ (t_number') ∧ (t_number') ≤ 999) ∧ (((3 : Int)) = 1 → 0 ≤ (t_word') ∧ (t_word') ≤ 1099511627775) ∧ (¬ ((3 : Int)) = 4 → t_end < ((i1' + (1 : Int)))) from ⟨(by first | assumption | omega), (by first | assumption | omega), (by first | assumption | omega), (by first | assumption | omega), (by first | assumption | omega), (by first | assumption | omega), (by intro h; first | exact True.intro | omega | (exact absurd h (by decide))), (by intro h; first | exact True.intro | omega | (exact absurd h (by decide))), (by intro h; first | exact True.intro | omega | (exact absurd h (by decide)))⟩)
                · exact Go_i (show 0 ≤ ((0 : Int)) ∧ ((0 : Int)) ≤ 4 ∧ 0 ≤ (i1') ∧ (i1') ≤ t_size ∧ t_end ≤ ((i1' + (1 : Int))) ∧ ((i1' + (1 : Int))) ≤ t_size ∧ (((0 : Int)) = 2 → 0 ≤ (t_number') ∧ (t_number') ≤ 999) ∧ (((0 : Int)) = 1 → 0 ≤ (t_word') ∧ (t_word') ≤ 1099511627775) ∧ (¬ ((0 : Int)) = 4 → t_end < ((i1' + (1 : Int)))) from ⟨(by first | assumption | omega), (by first | assumption | omega), (by first | assumption | omega), (by first | assumption | omega), (by first | assumption | omega), (by first | assumption | omega), (by intro h; first | exact True.intro | omega | (exact absurd h (by decide))), (by intro h; first | exact True.intro | omega | (exact absurd h (by decide))), (by intro h; first | exact True.intro | omega | (exact absurd h (by decide)))⟩)
              · have dc10 := q9_0 (bnf c10)
                exact Go_i (show (((160 : Nat) = 0 ∧ (t_end') = t_end) ∨ ((160 : Nat) = 5 ∧ t_end ≤ (i1') ∧ (i1') ≤ t_size) ∨ ((160 : Nat) = 75 ∧ t_end ≤ (i1') ∧ (i1') ≤ ((i1' + (1 : Int))) ∧ ((i1' + (1 : Int))) ≤ t_size ∧ 0 ≤ (i1') ∧ (i1') ≤ t_size ∧ (i1') < t_size ∧ (((i1' + (1 : Int))) = (i1') → 97 ≤ zand (zget t_tape (Int.toNat (i1'))) 255 ∧ zand (zget t_tape (Int.toNat (i1'))) 255 ≤ 122) ∧ (((i1' + (1 : Int))) - (i1') ≤ 0 → (t_word') ≤ 0) ∧ (((i1' + (1 : Int))) - (i1') ≤ 1 → (t_word') ≤ 31) ∧ (((i1' + (1 : Int))) - (i1') ≤ 2 → (t_word') ≤ 1023) ∧ (((i1' + (1 : Int))) - (i1') ≤ 3 → (t_word') ≤ 32767) ∧ (((i1' + (1 : Int))) - (i1') ≤ 4 → (t_word') ≤ 1048575) ∧ (((i1' + (1 : Int))) - (i1') ≤ 5 → (t_word') ≤ 33554431) ∧ (((i1' + (1 : Int))) - (i1') ≤ 6 → (t_word') ≤ 1073741823) ∧ (((i1' + (1 : Int))) - (i1') ≤ 7 → (t_word') ≤ 34359738367) ∧ (((i1' + (1 : Int))) - (i1') ≤ 8 → (t_word') ≤ 1099511627775) ∧ (t_word') ≤ 1099511627775 ∧ 0 ≤ (t_word')) ∨ ((160 : Nat) = 160 ∧ t_end ≤ (i1') ∧ (i1') + 1 ≤ ((i1' + (1 : Int))) ∧ ((i1' + (1 : Int))) ≤ t_size ∧ 0 ≤ (i1') ∧ (i1') ≤ t_size ∧ 0 ≤ ((o5 - (48 : Int))) ∧ ((o5 - (48 : Int))) ≤ 999 ∧ (((i1' + (1 : Int))) - (i1') ≤ 1 → ((o5 - (48 : Int))) ≤ 9) ∧ (((i1' + (1 : Int))) - (i1') ≤ 2 → ((o5 - (48 : Int))) ≤ 99))) ∧ (t_size - ((i1' + (1 : Int)))).toNat < (500 + t_size - i1').toNat from ⟨Or.inr (Or.inr (Or.inr (⟨rfl, (by first | assumption | omega), (by first | assumption | omega), (by first | assumption | omega), (by first | assumption | omega), (by first | assumption | omega), (by first | assumption | omega), (by first | assumption | omega), (by intro h; first | exact True.intro | omega | (exact absurd h (by decide))), (by intro h; first | exact True.intro | omega | (exact absurd h (by decide)))⟩))), by omega⟩)
            · have dc8 := q7_0 (bnf c8)
              exact Go_i (show (((75 : Nat) = 0 ∧ (t_end') = t_end) ∨ ((75 : Nat) = 5 ∧ t_end ≤ (i1') ∧ (i1') ≤ t_size) ∨ ((75 : Nat) = 75 ∧ t_end ≤ (i1') ∧ (i1') ≤ (i1') ∧ (i1') ≤ t_size ∧ 0 ≤ (i1') ∧ (i1') ≤ t_size ∧ (i1') < t_size ∧ ((i1') = (i1') → 97 ≤ zand (zget t_tape (Int.toNat (i1'))) 255 ∧ zand (zget t_tape (Int.toNat (i1'))) 255 ≤ 122) ∧ ((i1') - (i1') ≤ 0 → ((0 : Int)) ≤ 0) ∧ ((i1') - (i1') ≤ 1 → ((0 : Int)) ≤ 31) ∧ ((i1') - (i1') ≤ 2 → ((0 : Int)) ≤ 1023) ∧ ((i1') - (i1') ≤ 3 → ((0 : Int)) ≤ 32767) ∧ ((i1') - (i1') ≤ 4 → ((0 : Int)) ≤ 1048575) ∧ ((i1') - (i1') ≤ 5 → ((0 : Int)) ≤ 33554431) ∧ ((i1') - (i1') ≤ 6 → ((0 : Int)) ≤ 1073741823) ∧ ((i1') - (i1') ≤ 7 → ((0 : Int)) ≤ 34359738367) ∧ ((i1') - (i1') ≤ 8 → ((0 : Int)) ≤ 1099511627775) ∧ ((0 : Int)) ≤ 1099511627775 ∧ 0 ≤ ((0 : Int))) ∨ ((75 : Nat) = 160 ∧ t_end ≤ (i1') ∧ (i1') + 1 ≤ (i1') ∧ (i1') ≤ t_size ∧ 0 ≤ (i1') ∧ (i1') ≤ t_size ∧ 0 ≤ (t_number') ∧ (t_number') ≤ 999 ∧ ((i1') - (i1') ≤ 1 → (t_number') ≤ 9) ∧ ((i1') - (i1') ≤ 2 → (t_number') ≤ 99))) ∧ (t_size - (i1')).toNat < (500 + t_size - i1').toNat from ⟨Or.inr (Or.inr (Or.inl (⟨rfl, (by first | assumption | omega), (by first | assumption | omega), (by first | assumption | omega), (by first | assumption | omega), (by first | assumption | omega), (by first | assumption | omega), (by intro h; first | exact True.intro | omega | (exact absurd h (by decide))), (by intro h; first | exact True.intro | omega | (exact absurd h (by decide))), (by intro h; first | exact True.intro | omega | (exact absurd h (by decide))), (by intro h; first | exact True.intro | omega | (exact absurd h (by decide))), (by intro h; first | exact True.intro | omega | (exact absurd h (by decide))), (by intro h; first | exact True.intro | omega | (exact absurd h (by decide))), (by intro h; first | exact True.intro | omega | (exact absurd h (by decide))), (by intro h; first | exact True.intro | omega | (exact absurd h (by decide))), (by intro h; first | exact True.intro | omega | (exact absurd h (by decide))), (by intro h; first | exact True.intro | omega | (exact absurd h (by decide))), (by first | assumption | omega), (by first | assumption | omega)⟩))), by omega⟩)
    · show Go _ (zg_X11_scan_75 t_size t_tape i1' i3' t_sort' t_at' t_end' t_number' t_word')
      unfold zg_X11_scan_75
      have e75 : i3' = i1' → zand (zget t_tape (Int.toNat i3')) 255 = zand (zget t_tape (Int.toNat i1')) 255 := fun h => by rw [h]
      refine Go_bindP (ok_X11_byteAt t_size t_tape i3' (by first | assumption | omega) (by first | assumption | omega) (by first | assumption | omega) (by first | assumption | omega)) (fun o15 q12 => ?_)
      obtain ⟨q12_0, q12_1, q12_2, q12_3, q12_4⟩ := q12
      refine Go_bindP (ok_X11_isSmall o15 (by first | assumption | omega) (by first | assumption | omega)) (fun o16 q13 => ?_)
      obtain ⟨q13_0, q13_1⟩ := q13
      refine Go_ite (fun c14 => ?_) (fun c14 => ?_)
      · have dc14 := q13_1 c14
        refine Go_chk (by unfold zout; omega) ?_
        refine Go_ite (fun c15 => ?_) (fun c15 => ?_)
        · exact Go_i (show 0 ≤ ((1 : Int)) ∧ ((1 : Int)) ≤ 4 ∧ 0 ≤ (t_at') ∧ (t_at') ≤ t_size ∧ t_end ≤ (i3') ∧ (i3') ≤ t_size ∧ (((1 : Int)) = 2 → 0 ≤ (t_number') ∧ (t_number') ≤ 999) ∧ (((1 : Int)) = 1 → 0 ≤ (t_word') ∧ (t_word') ≤ 1099511627775) ∧ (¬ ((1 : Int)) = 4 → t_end < (i3')) from ⟨(by first | assumption | omega), (by first | assumption | omega), (by first | assumption | omega), (by first | assumption | omega), (by first | assumption | omega), (by first | assumption | omega), (by intro h; first | exact True.intro | omega | (exact absurd h (by decide))), (by intro h; first | exact True.intro | omega | (exact absurd h (by decide))), (by intro h; first | exact True.intro | omega | (exact absurd h (by decide)))⟩)
        · exact Go_i (show 0 ≤ ((0 : Int)) ∧ ((0 : Int)) ≤ 4 ∧ 0 ≤ (t_at') ∧ (t_at') ≤ t_size ∧ t_end ≤ (i3') ∧ (i3') ≤ t_size ∧ (((0 : Int)) = 2 → 0 ≤ (t_number') ∧ (t_number') ≤ 999) ∧ (((0 : Int)) = 1 → 0 ≤ (t_word') ∧ (t_word') ≤ 1099511627775) ∧ (¬ ((0 : Int)) = 4 → t_end < (i3')) from ⟨(by first | assumption | omega), (by first | assumption | omega), (by first | assumption | omega), (by first | assumption | omega), (by first | assumption | omega), (by first | assumption | omega), (by intro h; first | exact True.intro | omega | (exact absurd h (by decide))), (by intro h; first | exact True.intro | omega | (exact absurd h (by decide))), (by intro h; first | exact True.intro | omega | (exact absurd h (by decide)))⟩)
      · have dc14 := q13_0 (bnf c14)
        refine Go_chk (by unfold zout; omega) ?_
        refine Go_ite (fun c16 => ?_) (fun c16 => ?_)
        · exact Go_i (show (((75 : Nat) = 0 ∧ (t_end') = t_end) ∨ ((75 : Nat) = 5 ∧ t_end ≤ (i1') ∧ (i1') ≤ t_size) ∨ ((75 : Nat) = 75 ∧ t_end ≤ (i1') ∧ (i1') ≤ ((i3' + (1 : Int))) ∧ ((i3' + (1 : Int))) ≤ t_size ∧ 0 ≤ (t_at') ∧ (t_at') ≤ t_size ∧ (i1') < t_size ∧ (((i3' + (1 : Int))) = (i1') → 97 ≤ zand (zget t_tape (Int.toNat (i1'))) 255 ∧ zand (zget t_tape (Int.toNat (i1'))) 255 ≤ 122) ∧ (((i3' + (1 : Int))) - (i1') ≤ 0 → (t_word') ≤ 0) ∧ (((i3' + (1 : Int))) - (i1') ≤ 1 → (t_word') ≤ 31) ∧ (((i3' + (1 : Int))) - (i1') ≤ 2 → (t_word') ≤ 1023) ∧ (((i3' + (1 : Int))) - (i1') ≤ 3 → (t_word') ≤ 32767) ∧ (((i3' + (1 : Int))) - (i1') ≤ 4 → (t_word') ≤ 1048575) ∧ (((i3' + (1 : Int))) - (i1') ≤ 5 → (t_word') ≤ 33554431) ∧ (((i3' + (1 : Int))) - (i1') ≤ 6 → (t_word') ≤ 1073741823) ∧ (((i3' + (1 : Int))) - (i1') ≤ 7 → (t_word') ≤ 34359738367) ∧ (((i3' + (1 : Int))) - (i1') ≤ 8 → (t_word') ≤ 1099511627775) ∧ (t_word') ≤ 1099511627775 ∧ 0 ≤ (t_word')) ∨ ((75 : Nat) = 160 ∧ t_end ≤ (i1') ∧ (i1') + 1 ≤ ((i3' + (1 : Int))) ∧ ((i3' + (1 : Int))) ≤ t_size ∧ 0 ≤ (t_at') ∧ (t_at') ≤ t_size ∧ 0 ≤ (t_number') ∧ (t_number') ≤ 999 ∧ (((i3' + (1 : Int))) - (i1') ≤ 1 → (t_number') ≤ 9) ∧ (((i3' + (1 : Int))) - (i1') ≤ 2 → (t_number') ≤ 99))) ∧ (t_size - ((i3' + (1 : Int)))).toNat < (t_size - i3').toNat from ⟨Or.inr (Or.inr (Or.inl (⟨rfl, (by first | assumption | omega), (by first | assumption | omega), (by first | assumption | omega), (by first | assumption | omega), (by first | assumption | omega), (by first | assumption | omega), (by intro h; first | exact True.intro | omega | (exact absurd h (by decide))), (by intro h; first | exact True.intro | omega | (exact absurd h (by decide))), (by intro h; first | exact True.intro | omega | (exact absurd h (by decide))), (by intro h; first | exact True.intro | omega | (exact absurd h (by decide))), (by intro h; first | exact True.intro | omega | (exact absurd h (by decide))), (by intro h; first | exact True.intro | omega | (exact absurd h (by decide))), (by intro h; first | exact True.intro | omega | (exact absurd h (by decide))), (by intro h; first | exact True.intro | omega | (exact absurd h (by decide))), (by intro h; first | exact True.intro | omega | (exact absurd h (by decide))), (by intro h; first | exact True.intro | omega | (exact absurd h (by decide))), (by first | assumption | omega), (by first | assumption | omega)⟩))), by omega⟩)
        · refine Go_bindP (ok_X11_byteAt t_size t_tape i3' (by first | assumption | omega) (by first | assumption | omega) (by first | assumption | omega) (by first | assumption | omega)) (fun o20 q17 => ?_)
          obtain ⟨q17_0, q17_1, q17_2, q17_3, q17_4⟩ := q17
          refine Go_chk (by unfold zout; omega) ?_
          exact Go_i (show (((75 : Nat) = 0 ∧ (t_end') = t_end) ∨ ((75 : Nat) = 5 ∧ t_end ≤ (i1') ∧ (i1') ≤ t_size) ∨ ((75 : Nat) = 75 ∧ t_end ≤ (i1') ∧ (i1') ≤ ((i3' + (1 : Int))) ∧ ((i3' + (1 : Int))) ≤ t_size ∧ 0 ≤ (t_at') ∧ (t_at') ≤ t_size ∧ (i1') < t_size ∧ (((i3' + (1 : Int))) = (i1') → 97 ≤ zand (zget t_tape (Int.toNat (i1'))) 255 ∧ zand (zget t_tape (Int.toNat (i1'))) 255 ≤ 122) ∧ (((i3' + (1 : Int))) - (i1') ≤ 0 → ((((((32 : Int) * t_word') + o20) - (97 : Int)) + (1 : Int))) ≤ 0) ∧ (((i3' + (1 : Int))) - (i1') ≤ 1 → ((((((32 : Int) * t_word') + o20) - (97 : Int)) + (1 : Int))) ≤ 31) ∧ (((i3' + (1 : Int))) - (i1') ≤ 2 → ((((((32 : Int) * t_word') + o20) - (97 : Int)) + (1 : Int))) ≤ 1023) ∧ (((i3' + (1 : Int))) - (i1') ≤ 3 → ((((((32 : Int) * t_word') + o20) - (97 : Int)) + (1 : Int))) ≤ 32767) ∧ (((i3' + (1 : Int))) - (i1') ≤ 4 → ((((((32 : Int) * t_word') + o20) - (97 : Int)) + (1 : Int))) ≤ 1048575) ∧ (((i3' + (1 : Int))) - (i1') ≤ 5 → ((((((32 : Int) * t_word') + o20) - (97 : Int)) + (1 : Int))) ≤ 33554431) ∧ (((i3' + (1 : Int))) - (i1') ≤ 6 → ((((((32 : Int) * t_word') + o20) - (97 : Int)) + (1 : Int))) ≤ 1073741823) ∧ (((i3' + (1 : Int))) - (i1') ≤ 7 → ((((((32 : Int) * t_word') + o20) - (97 : Int)) + (1 : Int))) ≤ 34359738367) ∧ (((i3' + (1 : Int))) - (i1') ≤ 8 → ((((((32 : Int) * t_word') + o20) - (97 : Int)) + (1 : Int))) ≤ 1099511627775) ∧ ((((((32 : Int) * t_word') + o20) - (97 : Int)) + (1 : Int))) ≤ 1099511627775 ∧ 0 ≤ ((((((32 : Int) * t_word') + o20) - (97 : Int)) + (1 : Int)))) ∨ ((75 : Nat) = 160 ∧ t_end ≤ (i1') ∧ (i1') + 1 ≤ ((i3' + (1 : Int))) ∧ ((i3' + (1 : Int))) ≤ t_size ∧ 0 ≤ (t_at') ∧ (t_at') ≤ t_size ∧ 0 ≤ (t_number') ∧ (t_number') ≤ 999 ∧ (((i3' + (1 : Int))) - (i1') ≤ 1 → (t_number') ≤ 9) ∧ (((i3' + (1 : Int))) - (i1') ≤ 2 → (t_number') ≤ 99))) ∧ (t_size - ((i3' + (1 : Int)))).toNat < (t_size - i3').toNat from ⟨Or.inr (Or.inr (Or.inl (⟨rfl, (by first | assumption | omega), (by first | assumption | omega), (by first | assumption | omega), (by first | assumption | omega), (by first | assumption | omega), (by first | assumption | omega), (by intro h; first | exact True.intro | omega | (exact absurd h (by decide))), (by intro h; first | exact True.intro | omega | (exact absurd h (by decide))), (by intro h; first | exact True.intro | omega | (exact absurd h (by decide))), (by intro h; first | exact True.intro | omega | (exact absurd h (by decide))), (by intro h; first | exact True.intro | omega | (exact absurd h (by decide))), (by intro h; first | exact True.intro | omega | (exact absurd h (by decide))), (by intro h; first | exact True.intro | omega | (exact absurd h (by decide))), (by intro h; first | exact True.intro | omega | (exact absurd h (by decide))), (by intro h; first | exact True.intro | omega | (exact absurd h (by decide))), (by intro h; first | exact True.intro | omega | (exact absurd h (by decide))), (by first | assumption | omega), (by first | assumption | omega)⟩))), by omega⟩)
    · show Go _ (zg_X11_scan_160 t_size t_tape i1' i3' t_sort' t_at' t_end' t_number' t_word')
      unfold zg_X11_scan_160
      refine Go_bindP (ok_X11_byteAt t_size t_tape i3' (by first | assumption | omega) (by first | assumption | omega) (by first | assumption | omega) (by first | assumption | omega)) (fun o24 q18 => ?_)
      obtain ⟨q18_0, q18_1, q18_2, q18_3, q18_4⟩ := q18
      refine Go_bindP (ok_X11_isDigit o24 (by first | assumption | omega) (by first | assumption | omega)) (fun o25 q19 => ?_)
      obtain ⟨q19_0, q19_1⟩ := q19
      refine Go_ite (fun c20 => ?_) (fun c20 => ?_)
      · have dc20 := q19_1 c20
        refine Go_chk (by unfold zout; omega) ?_
        refine Go_ite (fun c21 => ?_) (fun c21 => ?_)
        · exact Go_i (show 0 ≤ ((2 : Int)) ∧ ((2 : Int)) ≤ 4 ∧ 0 ≤ (t_at') ∧ (t_at') ≤ t_size ∧ t_end ≤ (i3') ∧ (i3') ≤ t_size ∧ (((2 : Int)) = 2 → 0 ≤ (t_number') ∧ (t_number') ≤ 999) ∧ (((2 : Int)) = 1 → 0 ≤ (t_word') ∧ (t_word') ≤ 1099511627775) ∧ (¬ ((2 : Int)) = 4 → t_end < (i3')) from ⟨(by first | assumption | omega), (by first | assumption | omega), (by first | assumption | omega), (by first | assumption | omega), (by first | assumption | omega), (by first | assumption | omega), (by intro h; first | exact True.intro | omega | (exact absurd h (by decide))), (by intro h; first | exact True.intro | omega | (exact absurd h (by decide))), (by intro h; first | exact True.intro | omega | (exact absurd h (by decide)))⟩)
        · exact Go_i (show 0 ≤ ((0 : Int)) ∧ ((0 : Int)) ≤ 4 ∧ 0 ≤ (t_at') ∧ (t_at') ≤ t_size ∧ t_end ≤ (i3') ∧ (i3') ≤ t_size ∧ (((0 : Int)) = 2 → 0 ≤ (t_number') ∧ (t_number') ≤ 999) ∧ (((0 : Int)) = 1 → 0 ≤ (t_word') ∧ (t_word') ≤ 1099511627775) ∧ (¬ ((0 : Int)) = 4 → t_end < (i3')) from ⟨(by first | assumption | omega), (by first | assumption | omega), (by first | assumption | omega), (by first | assumption | omega), (by first | assumption | omega), (by first | assumption | omega), (by intro h; first | exact True.intro | omega | (exact absurd h (by decide))), (by intro h; first | exact True.intro | omega | (exact absurd h (by decide))), (by intro h; first | exact True.intro | omega | (exact absurd h (by decide)))⟩)
      · have dc20 := q19_0 (bnf c20)
        refine Go_chk (by unfold zout; omega) ?_
        refine Go_ite (fun c22 => ?_) (fun c22 => ?_)
        · exact Go_i (show (((160 : Nat) = 0 ∧ (t_end') = t_end) ∨ ((160 : Nat) = 5 ∧ t_end ≤ (i1') ∧ (i1') ≤ t_size) ∨ ((160 : Nat) = 75 ∧ t_end ≤ (i1') ∧ (i1') ≤ ((i3' + (1 : Int))) ∧ ((i3' + (1 : Int))) ≤ t_size ∧ 0 ≤ (t_at') ∧ (t_at') ≤ t_size ∧ (i1') < t_size ∧ (((i3' + (1 : Int))) = (i1') → 97 ≤ zand (zget t_tape (Int.toNat (i1'))) 255 ∧ zand (zget t_tape (Int.toNat (i1'))) 255 ≤ 122) ∧ (((i3' + (1 : Int))) - (i1') ≤ 0 → (t_word') ≤ 0) ∧ (((i3' + (1 : Int))) - (i1') ≤ 1 → (t_word') ≤ 31) ∧ (((i3' + (1 : Int))) - (i1') ≤ 2 → (t_word') ≤ 1023) ∧ (((i3' + (1 : Int))) - (i1') ≤ 3 → (t_word') ≤ 32767) ∧ (((i3' + (1 : Int))) - (i1') ≤ 4 → (t_word') ≤ 1048575) ∧ (((i3' + (1 : Int))) - (i1') ≤ 5 → (t_word') ≤ 33554431) ∧ (((i3' + (1 : Int))) - (i1') ≤ 6 → (t_word') ≤ 1073741823) ∧ (((i3' + (1 : Int))) - (i1') ≤ 7 → (t_word') ≤ 34359738367) ∧ (((i3' + (1 : Int))) - (i1') ≤ 8 → (t_word') ≤ 1099511627775) ∧ (t_word') ≤ 1099511627775 ∧ 0 ≤ (t_word')) ∨ ((160 : Nat) = 160 ∧ t_end ≤ (i1') ∧ (i1') + 1 ≤ ((i3' + (1 : Int))) ∧ ((i3' + (1 : Int))) ≤ t_size ∧ 0 ≤ (t_at') ∧ (t_at') ≤ t_size ∧ 0 ≤ (t_number') ∧ (t_number') ≤ 999 ∧ (((i3' + (1 : Int))) - (i1') ≤ 1 → (t_number') ≤ 9) ∧ (((i3' + (1 : Int))) - (i1') ≤ 2 → (t_number') ≤ 99))) ∧ (t_size - ((i3' + (1 : Int)))).toNat < (t_size - i3').toNat from ⟨Or.inr (Or.inr (Or.inr (⟨rfl, (by first | assumption | omega), (by first | assumption | omega), (by first | assumption | omega), (by first | assumption | omega), (by first | assumption | omega), (by first | assumption | omega), (by first | assumption | omega), (by intro h; first | exact True.intro | omega | (exact absurd h (by decide))), (by intro h; first | exact True.intro | omega | (exact absurd h (by decide)))⟩))), by omega⟩)
        · refine Go_bindP (ok_X11_byteAt t_size t_tape i3' (by first | assumption | omega) (by first | assumption | omega) (by first | assumption | omega) (by first | assumption | omega)) (fun o29 q23 => ?_)
          obtain ⟨q23_0, q23_1, q23_2, q23_3, q23_4⟩ := q23
          exact Go_i (show (((160 : Nat) = 0 ∧ (t_end') = t_end) ∨ ((160 : Nat) = 5 ∧ t_end ≤ (i1') ∧ (i1') ≤ t_size) ∨ ((160 : Nat) = 75 ∧ t_end ≤ (i1') ∧ (i1') ≤ ((i3' + (1 : Int))) ∧ ((i3' + (1 : Int))) ≤ t_size ∧ 0 ≤ (t_at') ∧ (t_at') ≤ t_size ∧ (i1') < t_size ∧ (((i3' + (1 : Int))) = (i1') → 97 ≤ zand (zget t_tape (Int.toNat (i1'))) 255 ∧ zand (zget t_tape (Int.toNat (i1'))) 255 ≤ 122) ∧ (((i3' + (1 : Int))) - (i1') ≤ 0 → (t_word') ≤ 0) ∧ (((i3' + (1 : Int))) - (i1') ≤ 1 → (t_word') ≤ 31) ∧ (((i3' + (1 : Int))) - (i1') ≤ 2 → (t_word') ≤ 1023) ∧ (((i3' + (1 : Int))) - (i1') ≤ 3 → (t_word') ≤ 32767) ∧ (((i3' + (1 : Int))) - (i1') ≤ 4 → (t_word') ≤ 1048575) ∧ (((i3' + (1 : Int))) - (i1') ≤ 5 → (t_word') ≤ 33554431) ∧ (((i3' + (1 : Int))) - (i1') ≤ 6 → (t_word') ≤ 1073741823) ∧ (((i3' + (1 : Int))) - (i1') ≤ 7 → (t_word') ≤ 34359738367) ∧ (((i3' + (1 : Int))) - (i1') ≤ 8 → (t_word') ≤ 1099511627775) ∧ (t_word') ≤ 1099511627775 ∧ 0 ≤ (t_word')) ∨ ((160 : Nat) = 160 ∧ t_end ≤ (i1') ∧ (i1') + 1 ≤ ((i3' + (1 : Int))) ∧ ((i3' + (1 : Int))) ≤ t_size ∧ 0 ≤ (t_at') ∧ (t_at') ≤ t_size ∧ 0 ≤ (((((10 : Int) * t_number') + o29) - (48 : Int))) ∧ (((((10 : Int) * t_number') + o29) - (48 : Int))) ≤ 999 ∧ (((i3' + (1 : Int))) - (i1') ≤ 1 → (((((10 : Int) * t_number') + o29) - (48 : Int))) ≤ 9) ∧ (((i3' + (1 : Int))) - (i1') ≤ 2 → (((((10 : Int) * t_number') + o29) - (48 : Int))) ≤ 99))) ∧ (t_size - ((i3' + (1 : Int)))).toNat < (t_size - i3').toNat from ⟨Or.inr (Or.inr (Or.inr (⟨rfl, (by first | assumption | omega), (by first | assumption | omega), (by first | assumption | omega), (by first | assumption | omega), (by first | assumption | omega), (by first | assumption | omega), (by first | assumption | omega), (by intro h; first | exact True.intro | omega | (exact absurd h (by decide))), (by intro h; first | exact True.intro | omega | (exact absurd h (by decide)))⟩))), by omega⟩)
  · exact (show ((0 : Nat) = 0 ∧ t_end = t_end) ∨ ((0 : Nat) = 5 ∧ t_end ≤ 0 ∧ 0 ≤ t_size) ∨ ((0 : Nat) = 75 ∧ t_end ≤ 0 ∧ 0 ≤ 0 ∧ 0 ≤ t_size ∧ 0 ≤ t_at ∧ t_at ≤ t_size ∧ 0 < t_size ∧ (0 = 0 → 97 ≤ zand (zget t_tape (Int.toNat 0)) 255 ∧ zand (zget t_tape (Int.toNat 0)) 255 ≤ 122) ∧ (0 - 0 ≤ 0 → t_word ≤ 0) ∧ (0 - 0 ≤ 1 → t_word ≤ 31) ∧ (0 - 0 ≤ 2 → t_word ≤ 1023) ∧ (0 - 0 ≤ 3 → t_word ≤ 32767) ∧ (0 - 0 ≤ 4 → t_word ≤ 1048575) ∧ (0 - 0 ≤ 5 → t_word ≤ 33554431) ∧ (0 - 0 ≤ 6 → t_word ≤ 1073741823) ∧ (0 - 0 ≤ 7 → t_word ≤ 34359738367) ∧ (0 - 0 ≤ 8 → t_word ≤ 1099511627775) ∧ t_word ≤ 1099511627775 ∧ 0 ≤ t_word) ∨ ((0 : Nat) = 160 ∧ t_end ≤ 0 ∧ 0 + 1 ≤ 0 ∧ 0 ≤ t_size ∧ 0 ≤ t_at ∧ t_at ≤ t_size ∧ 0 ≤ t_number ∧ t_number ≤ 999 ∧ (0 - 0 ≤ 1 → t_number ≤ 9) ∧ (0 - 0 ≤ 2 → t_number ≤ 99)) from Or.inl (⟨rfl, (by first | assumption | omega)⟩))
  · show 1000 < jfuel
    unfold jfuel
    omega
set_option maxRecDepth 20000 in
theorem ok_X11_begin (t_taped : Int) (t_size : Int) (t_sort : Int) (t_at : Int) (t_end : Int) (t_number : Int) (t_word : Int) (t_tape : Nat) (p0 : 0 ≤ t_taped) (p1 : t_taped ≤ 300) : Go (fun o => (o.1) = 0 ∧ (o.2.1) = t_taped ∧ 0 ≤ (o.2.2.1) ∧ (o.2.2.1) ≤ 4 ∧ 0 ≤ (o.2.2.2.1) ∧ (o.2.2.2.1) ≤ t_taped ∧ 0 ≤ (o.2.2.2.2.1) ∧ (o.2.2.2.2.1) ≤ t_taped ∧ ((o.2.2.1) = 2 → 0 ≤ (o.2.2.2.2.2.1) ∧ (o.2.2.2.2.2.1) ≤ 999) ∧ ((o.2.2.1) = 1 → 0 ≤ (o.2.2.2.2.2.2) ∧ (o.2.2.2.2.2.2) ≤ 1099511627775)) (zf_X11_begin t_taped t_size t_sort t_at t_end t_number t_word t_tape) := by
  unfold zf_X11_begin
  refine Go_bindP (ok_X11_scan t_taped t_sort t_at (0 : Int) t_number t_word t_tape (by first | assumption | omega) (by first | assumption | omega) (by first | assumption | omega) (by first | assumption | omega)) (fun o1 q1 => ?_)
  obtain ⟨q1_0, q1_1, q1_2, q1_3, q1_4, q1_5, q1_6, q1_7, q1_8⟩ := q1
  exact Go_i (show ((0 : Int)) = 0 ∧ (t_taped) = t_taped ∧ 0 ≤ ((o1.1)) ∧ ((o1.1)) ≤ 4 ∧ 0 ≤ ((o1.2.1)) ∧ ((o1.2.1)) ≤ t_taped ∧ 0 ≤ ((o1.2.2.1)) ∧ ((o1.2.2.1)) ≤ t_taped ∧ (((o1.1)) = 2 → 0 ≤ ((o1.2.2.2.1)) ∧ ((o1.2.2.2.1)) ≤ 999) ∧ (((o1.1)) = 1 → 0 ≤ ((o1.2.2.2.2)) ∧ ((o1.2.2.2.2)) ≤ 1099511627775) from ⟨(by first | assumption | omega), (by first | assumption | omega), (by first | assumption | omega), (by first | assumption | omega), (by first | assumption | omega), (by first | assumption | omega), (by first | assumption | omega), (by first | assumption | omega), (by first | assumption | omega), (by first | assumption | omega)⟩)
set_option maxRecDepth 20000 in
theorem ok_X11_fails (t_at : Int) (t_faultKind : Int) (t_faultPlace : Int) (i1 : Int)  : Go (fun o => (o.1) = false ∧ (o.2.1) = i1 ∧ (o.2.2) = t_at) (zf_X11_fails t_at t_faultKind t_faultPlace i1) := by
  unfold zf_X11_fails
  exact Go_i (show (false) = false ∧ (i1) = i1 ∧ (t_at) = t_at from ⟨(by rfl), (by first | assumption | omega), (by first | assumption | omega)⟩)
set_option maxRecDepth 20000 in
theorem ok_X11_fault (t_faultKind : Int) (t_faultPlace : Int) (i1 : Int) (p0 : -2147483648 ≤ i1) (p1 : i1 ≤ 2147483647) : Go (fun o => True) (zf_X11_fault t_faultKind t_faultPlace i1) := by
  unfold zf_X11_fault
  refine Go_chk (by unfold zout; omega) ?_
  refine Go_ite (fun c1 => ?_) (fun c1 => ?_)
  · exact Go_i (show True from trivial)
  · refine Go_ite (fun c2 => ?_) (fun c2 => ?_)
    · exact Go_i (show True from trivial)
    · exact Go_i (show True from trivial)
set_option maxRecDepth 20000 in
theorem ok_X11_placeOf (t_listMany : Int) (t_list : Nat) (i1 : Int) (p0 : 1 ≤ t_listMany) (p1 : t_listMany ≤ 429) (p2 : -9223372036854775808 ≤ i1) (p3 : i1 ≤ 9223372036854775807) : Go (fun o => 0 ≤ (o) ∧ (o) < t_listMany) (zf_X11_placeOf t_listMany t_list i1) := by
  unfold zf_X11_placeOf
  refine jok (fun (s : zS_X11_placeOf) => match s with | (lab, i1', i3', i4') => (lab = 0 ∧ -9223372036854775808 ≤ i1' ∧ i1' ≤ 9223372036854775807) ∨ (lab = 10 ∧ -9223372036854775808 ≤ i1' ∧ i1' ≤ 9223372036854775807 ∧ 0 ≤ i3' ∧ i3' ≤ i4' ∧ i4' < t_listMany)) (fun (s : zS_X11_placeOf) => match s with | (lab, i1', i3', i4') => if lab = 0 then 1000 else if lab = 10 then (i4' - i3').toNat else 0) (fun (o : zO_X11_placeOf) => 0 ≤ (o) ∧ (o) < t_listMany) ?_ _ ?_ ?_
  · intro s hI
    obtain ⟨lab, i1', i3', i4'⟩ := s
    have hI : (lab = 0 ∧ -9223372036854775808 ≤ i1' ∧ i1' ≤ 9223372036854775807) ∨ (lab = 10 ∧ -9223372036854775808 ≤ i1' ∧ i1' ≤ 9223372036854775807 ∧ 0 ≤ i3' ∧ i3' ≤ i4' ∧ i4' < t_listMany) := hI
    rcases hI with ⟨rfl, v0_0, v0_1⟩ | ⟨rfl, v10_0, v10_1, v10_2, v10_3, v10_4⟩
    · show Go _ (zg_X11_placeOf_0 t_listMany t_list i1' i3' i4')
      unfold zg_X11_placeOf_0
      exact Go_i (show (((10 : Nat) = 0 ∧ -9223372036854775808 ≤ (i1') ∧ (i1') ≤ 9223372036854775807) ∨ ((10 : Nat) = 10 ∧ -9223372036854775808 ≤ (i1') ∧ (i1') ≤ 9223372036854775807 ∧ 0 ≤ ((0 : Int)) ∧ ((0 : Int)) ≤ ((t_listMany - (1 : Int))) ∧ ((t_listMany - (1 : Int))) < t_listMany)) ∧ (((t_listMany - (1 : Int))) - ((0 : Int))).toNat < 1000 from ⟨Or.inr (⟨rfl, (by first | assumption | omega), (by first | assumption | omega), (by first | assumption | omega), (by first | assumption | omega), (by first | assumption | omega)⟩), by omega⟩)
    · show Go _ (zg_X11_placeOf_10 t_listMany t_list i1' i3' i4')
      unfold zg_X11_placeOf_10
      refine Go_chk (by unfold zout; omega) ?_
      refine Go_chk (by unfold zout; omega) ?_
      refine Go_ite (fun c1 => ?_) (fun c1 => ?_)
      · exact Go_i (show 0 ≤ (i3') ∧ (i3') < t_listMany from ⟨(by first | assumption | omega), (by first | assumption | omega)⟩)
      · refine Go_chk (by unfold zout; omega) ?_
        have a2 := rtdiv2 (a := (i3' + i4')) (by omega)
        refine Go_chk (by omega) ?_
        refine Go_chk (by unfold zoutL; omega) ?_
        have a3 := rgetL t_list (Int.toNat (Int.tdiv (i3' + i4') (2 : Int)))
        refine Go_ite (fun c4 => ?_) (fun c4 => ?_)
        · exact Go_i (show (((10 : Nat) = 0 ∧ -9223372036854775808 ≤ (i1') ∧ (i1') ≤ 9223372036854775807) ∨ ((10 : Nat) = 10 ∧ -9223372036854775808 ≤ (i1') ∧ (i1') ≤ 9223372036854775807 ∧ 0 ≤ (i3') ∧ (i3') ≤ ((Int.tdiv (i3' + i4') (2 : Int))) ∧ ((Int.tdiv (i3' + i4') (2 : Int))) < t_listMany)) ∧ (((Int.tdiv (i3' + i4') (2 : Int))) - (i3')).toNat < (i4' - i3').toNat from ⟨Or.inr (⟨rfl, (by first | assumption | omega), (by first | assumption | omega), (by first | assumption | omega), (by first | assumption | omega), (by first | assumption | omega)⟩), by omega⟩)
        · exact Go_i (show (((10 : Nat) = 0 ∧ -9223372036854775808 ≤ (i1') ∧ (i1') ≤ 9223372036854775807) ∨ ((10 : Nat) = 10 ∧ -9223372036854775808 ≤ (i1') ∧ (i1') ≤ 9223372036854775807 ∧ 0 ≤ (((Int.tdiv (i3' + i4') (2 : Int)) + (1 : Int))) ∧ (((Int.tdiv (i3' + i4') (2 : Int)) + (1 : Int))) ≤ (i4') ∧ (i4') < t_listMany)) ∧ ((i4') - (((Int.tdiv (i3' + i4') (2 : Int)) + (1 : Int)))).toNat < (i4' - i3').toNat from ⟨Or.inr (⟨rfl, (by first | assumption | omega), (by first | assumption | omega), (by first | assumption | omega), (by first | assumption | omega), (by first | assumption | omega)⟩), by omega⟩)
  · exact (show ((0 : Nat) = 0 ∧ -9223372036854775808 ≤ i1 ∧ i1 ≤ 9223372036854775807) ∨ ((0 : Nat) = 10 ∧ -9223372036854775808 ≤ i1 ∧ i1 ≤ 9223372036854775807 ∧ 0 ≤ 0 ∧ 0 ≤ 0 ∧ 0 < t_listMany) from Or.inl (⟨rfl, (by first | assumption | omega), (by first | assumption | omega)⟩))
  · show 1000 < jfuel
    unfold jfuel
    omega
set_option maxRecDepth 20000 in
theorem ok_X11_becomes (t_corners : Int) (t_own : Int) (t_seenMany : Int) (t_rightMany : Int) (t_lastTold : Int) (i1 : Int) (i2 : Int) (p0 : -2147483648 ≤ t_corners) (p1 : t_corners ≤ 2147483647) (p2 : -2147483648 ≤ i1) (p3 : i1 ≤ 2147483647) : Go (fun o => (o.1) = i1 ∧ (o.2.1) = i2 ∧ (i1 = t_corners → (o.2.2.1) = t_seenMany ∧ (o.2.2.2.1) = t_rightMany ∧ (o.2.2.2.2) = t_lastTold) ∧ (¬ i1 = t_corners → (o.2.2.1) = 0 ∧ (o.2.2.2.1) = 0 ∧ (o.2.2.2.2) = 0)) (zf_X11_becomes t_corners t_own t_seenMany t_rightMany t_lastTold i1 i2) := by
  unfold zf_X11_becomes
  refine Go_chk (by unfold zout; omega) ?_
  refine Go_chk (by unfold zout; omega) ?_
  refine Go_ite (fun c1 => ?_) (fun c1 => ?_)
  · exact Go_i (show (i1) = i1 ∧ (i2) = i2 ∧ (i1 = t_corners → (t_seenMany) = t_seenMany ∧ (t_rightMany) = t_rightMany ∧ (t_lastTold) = t_lastTold) ∧ (¬ i1 = t_corners → (t_seenMany) = 0 ∧ (t_rightMany) = 0 ∧ (t_lastTold) = 0) from ⟨(by first | assumption | omega), (by first | assumption | omega), (by intro h; first | (exfalso; omega) | exact ⟨rfl, rfl, rfl⟩), (by intro h; first | (exfalso; omega) | exact ⟨rfl, rfl, rfl⟩)⟩)
  · exact Go_i (show (i1) = i1 ∧ (i2) = i2 ∧ (i1 = t_corners → ((0 : Int)) = t_seenMany ∧ ((0 : Int)) = t_rightMany ∧ ((0 : Int)) = t_lastTold) ∧ (¬ i1 = t_corners → ((0 : Int)) = 0 ∧ ((0 : Int)) = 0 ∧ ((0 : Int)) = 0) from ⟨(by first | assumption | omega), (by first | assumption | omega), (by intro h; first | (exfalso; omega) | exact ⟨rfl, rfl, rfl⟩), (by intro h; first | (exfalso; omega) | exact ⟨rfl, rfl, rfl⟩)⟩)
set_option maxRecDepth 20000 in
theorem ok_X11_near (t_numberOf : Nat) (i1 : Int) (i2 : Int) (i4 : Int) (i5 : Int) (p0 : 4 ≤ i1) (p1 : i1 ≤ 9) (p2 : 0 ≤ i4) (p3 : i4 < i1) (p4 : 0 ≤ i5) (p5 : i5 < i1) : Go (fun o => True) (zf_X11_near t_numberOf i1 i2 i4 i5) := by
  unfold zf_X11_near
  refine Go_chk (by unfold zout; omega) ?_
  refine Go_chk (by unfold zout; omega) ?_
  refine Go_ite (fun c1 => ?_) (fun c1 => ?_)
  · exact Go_i (show True from trivial)
  · refine Go_bindP (ok_X11_isNext i1 i4 i5 (by first | assumption | omega) (by first | assumption | omega) (by first | assumption | omega) (by first | assumption | omega) (by first | assumption | omega) (by first | assumption | omega)) (fun o3 q2 => ?_)
    refine Go_ite (fun c3 => ?_) (fun c3 => ?_)
    · refine Go_chk (by omega) ?_
      have a4 := rget t_numberOf (Int.toNat (((10 : Int) * i4) + i5))
      have a5 := rshrL i2 (zget t_numberOf (Int.toNat (((10 : Int) * i4) + i5)))
      have a6 := randL (zshrL i2 (zget t_numberOf (Int.toNat (((10 : Int) * i4) + i5)))) (1 : Int)
      refine Go_ite (fun c7 => ?_) (fun c7 => ?_)
      · exact Go_i (show True from trivial)
      · exact Go_i (show True from trivial)
    · exact Go_i (show True from trivial)
set_option maxRecDepth 20000 in
theorem ok_X11_readCorner (t_sort : Int) (t_at : Int) (t_number : Int) (t_faultKind : Int) (t_faultPlace : Int) (t_newCorners : Int) (p0 : -2147483648 ≤ t_sort) (p1 : t_sort ≤ 2147483647) (p2 : -2147483648 ≤ t_number) (p3 : t_number ≤ 2147483647) (p4 : 4 ≤ t_newCorners) (p5 : t_newCorners ≤ 9) : Go (fun o => ((o.1) = true → t_sort = 2 ∧ 0 ≤ t_number ∧ t_number < t_newCorners) ∧ ((o.1) = false → True)) (zf_X11_readCorner t_sort t_at t_number t_faultKind t_faultPlace t_newCorners) := by
  unfold zf_X11_readCorner
  refine Go_chk (by unfold zout; omega) ?_
  refine Go_ite (fun c1 => ?_) (fun c1 => ?_)
  · refine Go_bindP (ok_X11_in t_number (0 : Int) (t_newCorners - (1 : Int)) (by first | assumption | omega) (by first | assumption | omega) (by first | assumption | omega) (by first | assumption | omega) (by first | assumption | omega) (by first | assumption | omega)) (fun o2 q2 => ?_)
    obtain ⟨q2_0, q2_1⟩ := q2
    refine Go_ite (fun c3 => ?_) (fun c3 => ?_)
    · have dc3 := q2_1 c3
      refine Go_bindP (ok_X11_fails t_at t_faultKind t_faultPlace (2 : Int) ) (fun o3 q4 => ?_)
      obtain ⟨q4_0, q4_1, q4_2⟩ := q4
      exact Go_i (show (((o3.1)) = true → t_sort = 2 ∧ 0 ≤ t_number ∧ t_number < t_newCorners) ∧ (((o3.1)) = false → True) from ⟨(by intro h; first | exact True.intro | omega | (exact absurd h (by decide)) | (simp_all; done)), (by intro h; first | exact True.intro | omega | (exact absurd h (by decide)) | (simp_all; done))⟩)
    · have dc3 := q2_0 (bnf c3)
      exact Go_i (show ((true) = true → t_sort = 2 ∧ 0 ≤ t_number ∧ t_number < t_newCorners) ∧ ((true) = false → True) from ⟨(by intro h; first | exact True.intro | omega | (exact absurd h (by decide)) | (simp_all; done)), (by intro h; first | exact True.intro | omega | (exact absurd h (by decide)) | (simp_all; done))⟩)
  · refine Go_bindP (ok_X11_fails t_at t_faultKind t_faultPlace (1 : Int) ) (fun o5 q5 => ?_)
    obtain ⟨q5_0, q5_1, q5_2⟩ := q5
    exact Go_i (show (((o5.1)) = true → t_sort = 2 ∧ 0 ≤ t_number ∧ t_number < t_newCorners) ∧ (((o5.1)) = false → True) from ⟨(by intro h; first | exact True.intro | omega | (exact absurd h (by decide)) | (simp_all; done)), (by intro h; first | exact True.intro | omega | (exact absurd h (by decide)) | (simp_all; done))⟩)
set_option maxRecDepth 20000 in
theorem ok_X11_isCorner (t_corners : Int) (i1 : Int) (p0 : 4 ≤ t_corners) (p1 : t_corners ≤ 9) (p2 : -2147483648 ≤ i1) (p3 : i1 ≤ 2147483647) : Go (fun o => ((o) = true → 0 ≤ i1 ∧ i1 < t_corners) ∧ ((o) = false → ¬ (0 ≤ i1 ∧ i1 < t_corners))) (zf_X11_isCorner t_corners i1) := by
  unfold zf_X11_isCorner
  refine Go_bindP (ok_X11_in i1 (0 : Int) (t_corners - (1 : Int)) (by first | assumption | omega) (by first | assumption | omega) (by first | assumption | omega) (by first | assumption | omega) (by first | assumption | omega) (by first | assumption | omega)) (fun o1 q1 => ?_)
  obtain ⟨q1_0, q1_1⟩ := q1
  exact Go_i (show ((o1) = true → 0 ≤ i1 ∧ i1 < t_corners) ∧ ((o1) = false → ¬ (0 ≤ i1 ∧ i1 < t_corners)) from ⟨(by intro h; first | (have z := q1_0 h; omega) | (have z := q1_1 h; omega)), (by intro h; first | (have z := q1_0 h; omega) | (have z := q1_1 h; omega))⟩)
set_option maxRecDepth 20000 in
theorem ok_X11_isAt (t_tA : Nat) (t_tB : Nat) (t_tC : Nat) (i1 : Int) (i2 : Int) (p0 : 0 ≤ i1) (p1 : i1 < 8) (p2 : -2147483648 ≤ i2) (p3 : i2 ≤ 2147483647) : Go (fun o => True) (zf_X11_isAt t_tA t_tB t_tC i1 i2) := by
  unfold zf_X11_isAt
  refine Go_chk (by omega) ?_
  refine Go_chk (by unfold zout; omega) ?_
  have a1 := rget t_tA (Int.toNat i1)
  refine Go_ite (fun c2 => ?_) (fun c2 => ?_)
  · exact Go_i (show True from trivial)
  · have a3 := rget t_tB (Int.toNat i1)
    refine Go_ite (fun c4 => ?_) (fun c4 => ?_)
    · exact Go_i (show True from trivial)
    · have a5 := rget t_tC (Int.toNat i1)
      refine Go_ite (fun c6 => ?_) (fun c6 => ?_)
      · exact Go_i (show True from trivial)
      · exact Go_i (show True from trivial)
set_option maxRecDepth 20000 in
theorem ok_X11_rowAt (t_numberOf : Nat) (i1 : Int) (i2 : Int) (i4 : Int) (p0 : 4 ≤ i1) (p1 : i1 ≤ 9) (p2 : 0 ≤ i4) (p3 : i4 < i1) : Go (fun o => 1 ≤ (o) ∧ (o) ≤ 10) (zf_X11_rowAt t_numberOf i1 i2 i4) := by
  unfold zf_X11_rowAt
  refine jok (fun (s : zS_X11_rowAt) => match s with | (lab, i1', i2', i4', i5', i6') => (lab = 0 ∧ 4 ≤ i1' ∧ i1' ≤ 9 ∧ i1' = i1 ∧ 0 ≤ i4' ∧ i4' < i1') ∨ (lab = 6 ∧ 4 ≤ i1' ∧ i1' ≤ 9 ∧ i1' = i1 ∧ 0 ≤ i4' ∧ i4' < i1' ∧ 0 ≤ i6' ∧ i6' ≤ i1' ∧ 1 ≤ i5' ∧ i5' ≤ i6' + 1)) (fun (s : zS_X11_rowAt) => match s with | (lab, i1', i2', i4', i5', i6') => if lab = 0 then 50 else if lab = 6 then (20 - i6').toNat else 0) (fun (o : zO_X11_rowAt) => 1 ≤ (o) ∧ (o) ≤ 10) ?_ _ ?_ ?_
  · intro s hI
    obtain ⟨lab, i1', i2', i4', i5', i6'⟩ := s
    have hI : (lab = 0 ∧ 4 ≤ i1' ∧ i1' ≤ 9 ∧ i1' = i1 ∧ 0 ≤ i4' ∧ i4' < i1') ∨ (lab = 6 ∧ 4 ≤ i1' ∧ i1' ≤ 9 ∧ i1' = i1 ∧ 0 ≤ i4' ∧ i4' < i1' ∧ 0 ≤ i6' ∧ i6' ≤ i1' ∧ 1 ≤ i5' ∧ i5' ≤ i6' + 1) := hI
    rcases hI with ⟨rfl, v0_0, v0_1, v0_2, v0_3, v0_4⟩ | ⟨rfl, v6_0, v6_1, v6_2, v6_3, v6_4, v6_5, v6_6, v6_7, v6_8⟩
    · show Go _ (zg_X11_rowAt_0 t_numberOf i1' i2' i4' i5' i6')
      unfold zg_X11_rowAt_0
      exact Go_i (show (((6 : Nat) = 0 ∧ 4 ≤ (i1') ∧ (i1') ≤ 9 ∧ (i1') = i1 ∧ 0 ≤ (i4') ∧ (i4') < (i1')) ∨ ((6 : Nat) = 6 ∧ 4 ≤ (i1') ∧ (i1') ≤ 9 ∧ (i1') = i1 ∧ 0 ≤ (i4') ∧ (i4') < (i1') ∧ 0 ≤ ((0 : Int)) ∧ ((0 : Int)) ≤ (i1') ∧ 1 ≤ ((1 : Int)) ∧ ((1 : Int)) ≤ ((0 : Int)) + 1)) ∧ (20 - ((0 : Int))).toNat < 50 from ⟨Or.inr (⟨rfl, (by first | assumption | omega), (by first | assumption | omega), (by first | assumption | omega), (by first | assumption | omega), (by first | assumption | omega), (by first | assumption | omega), (by first | assumption | omega), (by first | assumption | omega), (by first | assumption | omega)⟩), by omega⟩)
    · show Go _ (zg_X11_rowAt_6 t_numberOf i1' i2' i4' i5' i6')
      unfold zg_X11_rowAt_6
      refine Go_chk (by unfold zout; omega) ?_
      refine Go_chk (by unfold zout; omega) ?_
      refine Go_ite (fun c1 => ?_) (fun c1 => ?_)
      · exact Go_i (show 1 ≤ (i5') ∧ (i5') ≤ 10 from ⟨(by first | assumption | omega), (by first | assumption | omega)⟩)
      · refine Go_bindP (ok_X11_isLine i1' i4' i6' (by first | assumption | omega) (by first | assumption | omega) (by first | assumption | omega) (by first | assumption | omega) (by first | assumption | omega) (by first | assumption | omega)) (fun o3 q2 => ?_)
        obtain ⟨q2_0, q2_1⟩ := q2
        refine Go_ite (fun c3 => ?_) (fun c3 => ?_)
        · have dc3 := q2_1 c3
          exact Go_i (show (((6 : Nat) = 0 ∧ 4 ≤ (i1') ∧ (i1') ≤ 9 ∧ (i1') = i1 ∧ 0 ≤ (i4') ∧ (i4') < (i1')) ∨ ((6 : Nat) = 6 ∧ 4 ≤ (i1') ∧ (i1') ≤ 9 ∧ (i1') = i1 ∧ 0 ≤ (i4') ∧ (i4') < (i1') ∧ 0 ≤ ((i6' + (1 : Int))) ∧ ((i6' + (1 : Int))) ≤ (i1') ∧ 1 ≤ ((i5' + (0 : Int))) ∧ ((i5' + (0 : Int))) ≤ ((i6' + (1 : Int))) + 1)) ∧ (20 - ((i6' + (1 : Int)))).toNat < (20 - i6').toNat from ⟨Or.inr (⟨rfl, (by first | assumption | omega), (by first | assumption | omega), (by first | assumption | omega), (by first | assumption | omega), (by first | assumption | omega), (by first | assumption | omega), (by first | assumption | omega), (by first | assumption | omega), (by first | assumption | omega)⟩), by omega⟩)
        · have dc3 := q2_0 (bnf c3)
          refine Go_bindP (ok_X11_near t_numberOf i1' i2' i4' i6' (by first | assumption | omega) (by first | assumption | omega) (by first | assumption | omega) (by first | assumption | omega) (by first | assumption | omega) (by first | assumption | omega)) (fun o4 q4 => ?_)
          refine Go_ite (fun c5 => ?_) (fun c5 => ?_)
          · exact Go_i (show (((6 : Nat) = 0 ∧ 4 ≤ (i1') ∧ (i1') ≤ 9 ∧ (i1') = i1 ∧ 0 ≤ (i4') ∧ (i4') < (i1')) ∨ ((6 : Nat) = 6 ∧ 4 ≤ (i1') ∧ (i1') ≤ 9 ∧ (i1') = i1 ∧ 0 ≤ (i4') ∧ (i4') < (i1') ∧ 0 ≤ ((i6' + (1 : Int))) ∧ ((i6' + (1 : Int))) ≤ (i1') ∧ 1 ≤ ((i5' + (0 : Int))) ∧ ((i5' + (0 : Int))) ≤ ((i6' + (1 : Int))) + 1)) ∧ (20 - ((i6' + (1 : Int)))).toNat < (20 - i6').toNat from ⟨Or.inr (⟨rfl, (by first | assumption | omega), (by first | assumption | omega), (by first | assumption | omega), (by first | assumption | omega), (by first | assumption | omega), (by first | assumption | omega), (by first | assumption | omega), (by first | assumption | omega), (by first | assumption | omega)⟩), by omega⟩)
          · exact Go_i (show (((6 : Nat) = 0 ∧ 4 ≤ (i1') ∧ (i1') ≤ 9 ∧ (i1') = i1 ∧ 0 ≤ (i4') ∧ (i4') < (i1')) ∨ ((6 : Nat) = 6 ∧ 4 ≤ (i1') ∧ (i1') ≤ 9 ∧ (i1') = i1 ∧ 0 ≤ (i4') ∧ (i4') < (i1') ∧ 0 ≤ ((i6' + (1 : Int))) ∧ ((i6' + (1 : Int))) ≤ (i1') ∧ 1 ≤ ((i5' + (1 : Int))) ∧ ((i5' + (1 : Int))) ≤ ((i6' + (1 : Int))) + 1)) ∧ (20 - ((i6' + (1 : Int)))).toNat < (20 - i6').toNat from ⟨Or.inr (⟨rfl, (by first | assumption | omega), (by first | assumption | omega), (by first | assumption | omega), (by first | assumption | omega), (by first | assumption | omega), (by first | assumption | omega), (by first | assumption | omega), (by first | assumption | omega), (by first | assumption | omega)⟩), by omega⟩)
  · exact (show ((0 : Nat) = 0 ∧ 4 ≤ i1 ∧ i1 ≤ 9 ∧ i1 = i1 ∧ 0 ≤ i4 ∧ i4 < i1) ∨ ((0 : Nat) = 6 ∧ 4 ≤ i1 ∧ i1 ≤ 9 ∧ i1 = i1 ∧ 0 ≤ i4 ∧ i4 < i1 ∧ 0 ≤ 0 ∧ 0 ≤ i1 ∧ 1 ≤ 0 ∧ 0 ≤ 0 + 1) from Or.inl (⟨rfl, (by first | assumption | omega), (by first | assumption | omega), (by first | assumption | omega), (by first | assumption | omega), (by first | assumption | omega)⟩))
  · show 50 < jfuel
    unfold jfuel
    omega
set_option maxRecDepth 20000 in
theorem ok_X11_passed (t_passedMany : Int) (t_passedBy : Nat) (i1 : Int) (p0 : 0 ≤ t_passedMany) (p1 : t_passedMany ≤ 64) (p2 : -2147483648 ≤ i1) (p3 : i1 ≤ 2147483647) : Go (fun o => True) (zf_X11_passed t_passedMany t_passedBy i1) := by
  unfold zf_X11_passed
  refine Go_bindP (ok_X11_in i1 (0 : Int) (t_passedMany - (1 : Int)) (by first | assumption | omega) (by first | assumption | omega) (by first | assumption | omega) (by first | assumption | omega) (by first | assumption | omega) (by first | assumption | omega)) (fun o1 q1 => ?_)
  obtain ⟨q1_0, q1_1⟩ := q1
  refine Go_ite (fun c2 => ?_) (fun c2 => ?_)
  · have dc2 := q1_1 c2
    exact Go_i (show True from trivial)
  · have dc2 := q1_0 (bnf c2)
    refine Go_chk (by omega) ?_
    have a3 := rget t_passedBy (Int.toNat i1)
    exact Go_i (show True from trivial)
set_option maxRecDepth 20000 in
theorem ok_X11_turned (t_lines : Int) (t_numberOf : Nat) (t_lesser : Nat) (t_greater : Nat) (i1 : Int) (i2 : Int) (i4 : Int) (i5 : Bool) (p0 : 4 ≤ i1) (p1 : i1 ≤ 9) (p2 : (∀ k : Nat, (k : Int) < t_lines → 0 ≤ zget t_lesser k ∧ zget t_lesser k < i1)) (p3 : (∀ k : Nat, (k : Int) < t_lines → 0 ≤ zget t_greater k ∧ zget t_greater k < i1)) (p4 : 0 ≤ t_lines) (p5 : t_lines ≤ 27) (p6 : 0 ≤ i4) (p7 : i4 < i1) : Go (fun o => -9223372036854775808 ≤ (o) ∧ (o) ≤ 9223372036854775807) (zf_X11_turned t_lines t_numberOf t_lesser t_greater i1 i2 i4 i5) := by
  unfold zf_X11_turned
  refine jok (fun (s : zS_X11_turned) => match s with | (lab, i1', i2', i4', i5', i6', i8') => (lab = 0 ∧ i1' = i1 ∧ 0 ≤ i4' ∧ i4' < i1') ∨ (lab = 6 ∧ i1' = i1 ∧ 0 ≤ i4' ∧ i4' < i1' ∧ 0 ≤ i8' ∧ i8' ≤ t_lines ∧ -9223372036854775808 ≤ i6' ∧ i6' ≤ 9223372036854775807)) (fun (s : zS_X11_turned) => match s with | (lab, i1', i2', i4', i5', i6', i8') => if lab = 0 then 50 else if lab = 6 then (40 - i8').toNat else 0) (fun (o : zO_X11_turned) => -9223372036854775808 ≤ (o) ∧ (o) ≤ 9223372036854775807) ?_ _ ?_ ?_
  · intro s hI
    obtain ⟨lab, i1', i2', i4', i5', i6', i8'⟩ := s
    have hI : (lab = 0 ∧ i1' = i1 ∧ 0 ≤ i4' ∧ i4' < i1') ∨ (lab = 6 ∧ i1' = i1 ∧ 0 ≤ i4' ∧ i4' < i1' ∧ 0 ≤ i8' ∧ i8' ≤ t_lines ∧ -9223372036854775808 ≤ i6' ∧ i6' ≤ 9223372036854775807) := hI
    rcases hI with ⟨rfl, v0_0, v0_1, v0_2⟩ | ⟨rfl, v6_0, v6_1, v6_2, v6_3, v6_4, v6_5, v6_6⟩
    · show Go _ (zg_X11_turned_0 t_lines t_numberOf t_lesser t_greater i1' i2' i4' i5' i6' i8')
      unfold zg_X11_turned_0
      exact Go_i (show (((6 : Nat) = 0 ∧ (i1') = i1 ∧ 0 ≤ (i4') ∧ (i4') < (i1')) ∨ ((6 : Nat) = 6 ∧ (i1') = i1 ∧ 0 ≤ (i4') ∧ (i4') < (i1') ∧ 0 ≤ ((0 : Int)) ∧ ((0 : Int)) ≤ t_lines ∧ -9223372036854775808 ≤ ((0 : Int)) ∧ ((0 : Int)) ≤ 9223372036854775807)) ∧ (40 - ((0 : Int))).toNat < 50 from ⟨Or.inr (⟨rfl, (by first | assumption | omega), (by first | assumption | omega), (by first | assumption | omega), (by first | assumption | omega), (by first | assumption | omega), (by first | assumption | omega), (by first | assumption | omega)⟩), by omega⟩)
    · show Go _ (zg_X11_turned_6 t_lines t_numberOf t_lesser t_greater i1' i2' i4' i5' i6' i8')
      unfold zg_X11_turned_6
      refine Go_chk (by unfold zout; omega) ?_
      refine Go_chk (by unfold zout; omega) ?_
      refine Go_ite (fun c1 => ?_) (fun c1 => ?_)
      · exact Go_i (show -9223372036854775808 ≤ (i6') ∧ (i6') ≤ 9223372036854775807 from ⟨(by first | assumption | omega), (by first | assumption | omega)⟩)
      · have a2 := rshrL i2' i8'
        have a3 := randL (zshrL i2' i8') (1 : Int)
        refine Go_ite (fun c4 => ?_) (fun c4 => ?_)
        · exact Go_i (show (((6 : Nat) = 0 ∧ (i1') = i1 ∧ 0 ≤ (i4') ∧ (i4') < (i1')) ∨ ((6 : Nat) = 6 ∧ (i1') = i1 ∧ 0 ≤ (i4') ∧ (i4') < (i1') ∧ 0 ≤ ((i8' + (1 : Int))) ∧ ((i8' + (1 : Int))) ≤ t_lines ∧ -9223372036854775808 ≤ (i6') ∧ (i6') ≤ 9223372036854775807)) ∧ (40 - ((i8' + (1 : Int)))).toNat < (40 - i8').toNat from ⟨Or.inr (⟨rfl, (by first | assumption | omega), (by first | assumption | omega), (by first | assumption | omega), (by first | assumption | omega), (by first | assumption | omega), (by first | assumption | omega), (by first | assumption | omega)⟩), by omega⟩)
        · refine Go_ite (fun c5 => ?_) (fun c5 => ?_)
          · refine Go_chk (by omega) ?_
            refine Go_ite (fun c6 => ?_) (fun c6 => ?_)
            · have a7 := rget t_lesser (Int.toNat i8')
              have a8 := p2 (Int.toNat i8') (by omega)
              refine Go_chk (by unfold zout; omega) ?_
              refine Go_chk (by unfold zout; omega) ?_
              refine Go_chk (by omega) ?_
              have a9 := rget t_greater (Int.toNat i8')
              have a10 := p3 (Int.toNat i8') (by omega)
              refine Go_chk (by unfold zout; omega) ?_
              refine Go_chk (by omega) ?_
              have a11 := rtmod (a := ((zget t_lesser (Int.toNat i8')) + i4')) (b := i1') (by omega) (by omega)
              have a12 := rtmod (a := ((zget t_greater (Int.toNat i8')) + i4')) (b := i1') (by omega) (by omega)
              refine Go_chk (by omega) ?_
              have a13 := rget t_numberOf (Int.toNat (((10 : Int) * (Int.tmod ((zget t_lesser (Int.toNat i8')) + i4') i1')) + (Int.tmod ((zget t_greater (Int.toNat i8')) + i4') i1')))
              have a14 := rshlL (1 : Int) (zget t_numberOf (Int.toNat (((10 : Int) * (Int.tmod ((zget t_lesser (Int.toNat i8')) + i4') i1')) + (Int.tmod ((zget t_greater (Int.toNat i8')) + i4') i1'))))
              have a15 := rorL i6' (zshlL (1 : Int) (zget t_numberOf (Int.toNat (((10 : Int) * (Int.tmod ((zget t_lesser (Int.toNat i8')) + i4') i1')) + (Int.tmod ((zget t_greater (Int.toNat i8')) + i4') i1')))))
              exact Go_i (show (((6 : Nat) = 0 ∧ (i1') = i1 ∧ 0 ≤ (i4') ∧ (i4') < (i1')) ∨ ((6 : Nat) = 6 ∧ (i1') = i1 ∧ 0 ≤ (i4') ∧ (i4') < (i1') ∧ 0 ≤ ((i8' + (1 : Int))) ∧ ((i8' + (1 : Int))) ≤ t_lines ∧ -9223372036854775808 ≤ ((zorL i6' (zshlL (1 : Int) (zget t_numberOf (Int.toNat (((10 : Int) * (Int.tmod ((zget t_lesser (Int.toNat i8')) + i4') i1')) + (Int.tmod ((zget t_greater (Int.toNat i8')) + i4') i1'))))))) ∧ ((zorL i6' (zshlL (1 : Int) (zget t_numberOf (Int.toNat (((10 : Int) * (Int.tmod ((zget t_lesser (Int.toNat i8')) + i4') i1')) + (Int.tmod ((zget t_greater (Int.toNat i8')) + i4') i1'))))))) ≤ 9223372036854775807)) ∧ (40 - ((i8' + (1 : Int)))).toNat < (40 - i8').toNat from ⟨Or.inr (⟨rfl, (by first | assumption | omega), (by first | assumption | omega), (by first | assumption | omega), (by first | assumption | omega), (by first | assumption | omega), (by first | assumption | omega), (by first | assumption | omega)⟩), by omega⟩)
            · have a16 := rget t_lesser (Int.toNat i8')
              have a17 := p2 (Int.toNat i8') (by omega)
              refine Go_chk (by unfold zout; omega) ?_
              refine Go_chk (by unfold zout; omega) ?_
              refine Go_chk (by omega) ?_
              have a18 := rget t_greater (Int.toNat i8')
              have a19 := p3 (Int.toNat i8') (by omega)
              refine Go_chk (by unfold zout; omega) ?_
              refine Go_chk (by omega) ?_
              have a20 := rtmod (a := ((zget t_lesser (Int.toNat i8')) + i4')) (b := i1') (by omega) (by omega)
              have a21 := rtmod (a := (((i1' - (1 : Int)) - (zget t_greater (Int.toNat i8'))) + i4')) (b := i1') (by omega) (by omega)
              refine Go_chk (by omega) ?_
              have a22 := rget t_numberOf (Int.toNat (((10 : Int) * (Int.tmod ((zget t_lesser (Int.toNat i8')) + i4') i1')) + (Int.tmod (((i1' - (1 : Int)) - (zget t_greater (Int.toNat i8'))) + i4') i1')))
              have a23 := rshlL (1 : Int) (zget t_numberOf (Int.toNat (((10 : Int) * (Int.tmod ((zget t_lesser (Int.toNat i8')) + i4') i1')) + (Int.tmod (((i1' - (1 : Int)) - (zget t_greater (Int.toNat i8'))) + i4') i1'))))
              have a24 := rorL i6' (zshlL (1 : Int) (zget t_numberOf (Int.toNat (((10 : Int) * (Int.tmod ((zget t_lesser (Int.toNat i8')) + i4') i1')) + (Int.tmod (((i1' - (1 : Int)) - (zget t_greater (Int.toNat i8'))) + i4') i1')))))
              exact Go_i (show (((6 : Nat) = 0 ∧ (i1') = i1 ∧ 0 ≤ (i4') ∧ (i4') < (i1')) ∨ ((6 : Nat) = 6 ∧ (i1') = i1 ∧ 0 ≤ (i4') ∧ (i4') < (i1') ∧ 0 ≤ ((i8' + (1 : Int))) ∧ ((i8' + (1 : Int))) ≤ t_lines ∧ -9223372036854775808 ≤ ((zorL i6' (zshlL (1 : Int) (zget t_numberOf (Int.toNat (((10 : Int) * (Int.tmod ((zget t_lesser (Int.toNat i8')) + i4') i1')) + (Int.tmod (((i1' - (1 : Int)) - (zget t_greater (Int.toNat i8'))) + i4') i1'))))))) ∧ ((zorL i6' (zshlL (1 : Int) (zget t_numberOf (Int.toNat (((10 : Int) * (Int.tmod ((zget t_lesser (Int.toNat i8')) + i4') i1')) + (Int.tmod (((i1' - (1 : Int)) - (zget t_greater (Int.toNat i8'))) + i4') i1'))))))) ≤ 9223372036854775807)) ∧ (40 - ((i8' + (1 : Int)))).toNat < (40 - i8').toNat from ⟨Or.inr (⟨rfl, (by first | assumption | omega), (by first | assumption | omega), (by first | assumption | omega), (by first | assumption | omega), (by first | assumption | omega), (by first | assumption | omega), (by first | assumption | omega)⟩), by omega⟩)
          · refine Go_chk (by omega) ?_
            refine Go_ite (fun c25 => ?_) (fun c25 => ?_)
            · have a26 := rget t_lesser (Int.toNat i8')
              have a27 := p2 (Int.toNat i8') (by omega)
              refine Go_chk (by unfold zout; omega) ?_
              refine Go_chk (by unfold zout; omega) ?_
              refine Go_chk (by omega) ?_
              have a28 := rget t_greater (Int.toNat i8')
              have a29 := p3 (Int.toNat i8') (by omega)
              refine Go_chk (by unfold zout; omega) ?_
              refine Go_chk (by omega) ?_
              have a30 := rtmod (a := (((i1' - (1 : Int)) - (zget t_lesser (Int.toNat i8'))) + i4')) (b := i1') (by omega) (by omega)
              have a31 := rtmod (a := ((zget t_greater (Int.toNat i8')) + i4')) (b := i1') (by omega) (by omega)
              refine Go_chk (by omega) ?_
              have a32 := rget t_numberOf (Int.toNat (((10 : Int) * (Int.tmod (((i1' - (1 : Int)) - (zget t_lesser (Int.toNat i8'))) + i4') i1')) + (Int.tmod ((zget t_greater (Int.toNat i8')) + i4') i1')))
              have a33 := rshlL (1 : Int) (zget t_numberOf (Int.toNat (((10 : Int) * (Int.tmod (((i1' - (1 : Int)) - (zget t_lesser (Int.toNat i8'))) + i4') i1')) + (Int.tmod ((zget t_greater (Int.toNat i8')) + i4') i1'))))
              have a34 := rorL i6' (zshlL (1 : Int) (zget t_numberOf (Int.toNat (((10 : Int) * (Int.tmod (((i1' - (1 : Int)) - (zget t_lesser (Int.toNat i8'))) + i4') i1')) + (Int.tmod ((zget t_greater (Int.toNat i8')) + i4') i1')))))
              exact Go_i (show (((6 : Nat) = 0 ∧ (i1') = i1 ∧ 0 ≤ (i4') ∧ (i4') < (i1')) ∨ ((6 : Nat) = 6 ∧ (i1') = i1 ∧ 0 ≤ (i4') ∧ (i4') < (i1') ∧ 0 ≤ ((i8' + (1 : Int))) ∧ ((i8' + (1 : Int))) ≤ t_lines ∧ -9223372036854775808 ≤ ((zorL i6' (zshlL (1 : Int) (zget t_numberOf (Int.toNat (((10 : Int) * (Int.tmod (((i1' - (1 : Int)) - (zget t_lesser (Int.toNat i8'))) + i4') i1')) + (Int.tmod ((zget t_greater (Int.toNat i8')) + i4') i1'))))))) ∧ ((zorL i6' (zshlL (1 : Int) (zget t_numberOf (Int.toNat (((10 : Int) * (Int.tmod (((i1' - (1 : Int)) - (zget t_lesser (Int.toNat i8'))) + i4') i1')) + (Int.tmod ((zget t_greater (Int.toNat i8')) + i4') i1'))))))) ≤ 9223372036854775807)) ∧ (40 - ((i8' + (1 : Int)))).toNat < (40 - i8').toNat from ⟨Or.inr (⟨rfl, (by first | assumption | omega), (by first | assumption | omega), (by first | assumption | omega), (by first | assumption | omega), (by first | assumption | omega), (by first | assumption | omega), (by first | assumption | omega)⟩), by omega⟩)
            · have a35 := rget t_lesser (Int.toNat i8')
              have a36 := p2 (Int.toNat i8') (by omega)
              refine Go_chk (by unfold zout; omega) ?_
              refine Go_chk (by unfold zout; omega) ?_
              refine Go_chk (by omega) ?_
              have a37 := rget t_greater (Int.toNat i8')
              have a38 := p3 (Int.toNat i8') (by omega)
              refine Go_chk (by unfold zout; omega) ?_
              refine Go_chk (by omega) ?_
              have a39 := rtmod (a := (((i1' - (1 : Int)) - (zget t_lesser (Int.toNat i8'))) + i4')) (b := i1') (by omega) (by omega)
              have a40 := rtmod (a := (((i1' - (1 : Int)) - (zget t_greater (Int.toNat i8'))) + i4')) (b := i1') (by omega) (by omega)
              refine Go_chk (by omega) ?_
              have a41 := rget t_numberOf (Int.toNat (((10 : Int) * (Int.tmod (((i1' - (1 : Int)) - (zget t_lesser (Int.toNat i8'))) + i4') i1')) + (Int.tmod (((i1' - (1 : Int)) - (zget t_greater (Int.toNat i8'))) + i4') i1')))
              have a42 := rshlL (1 : Int) (zget t_numberOf (Int.toNat (((10 : Int) * (Int.tmod (((i1' - (1 : Int)) - (zget t_lesser (Int.toNat i8'))) + i4') i1')) + (Int.tmod (((i1' - (1 : Int)) - (zget t_greater (Int.toNat i8'))) + i4') i1'))))
              have a43 := rorL i6' (zshlL (1 : Int) (zget t_numberOf (Int.toNat (((10 : Int) * (Int.tmod (((i1' - (1 : Int)) - (zget t_lesser (Int.toNat i8'))) + i4') i1')) + (Int.tmod (((i1' - (1 : Int)) - (zget t_greater (Int.toNat i8'))) + i4') i1')))))
              exact Go_i (show (((6 : Nat) = 0 ∧ (i1') = i1 ∧ 0 ≤ (i4') ∧ (i4') < (i1')) ∨ ((6 : Nat) = 6 ∧ (i1') = i1 ∧ 0 ≤ (i4') ∧ (i4') < (i1') ∧ 0 ≤ ((i8' + (1 : Int))) ∧ ((i8' + (1 : Int))) ≤ t_lines ∧ -9223372036854775808 ≤ ((zorL i6' (zshlL (1 : Int) (zget t_numberOf (Int.toNat (((10 : Int) * (Int.tmod (((i1' - (1 : Int)) - (zget t_lesser (Int.toNat i8'))) + i4') i1')) + (Int.tmod (((i1' - (1 : Int)) - (zget t_greater (Int.toNat i8'))) + i4') i1'))))))) ∧ ((zorL i6' (zshlL (1 : Int) (zget t_numberOf (Int.toNat (((10 : Int) * (Int.tmod (((i1' - (1 : Int)) - (zget t_lesser (Int.toNat i8'))) + i4') i1')) + (Int.tmod (((i1' - (1 : Int)) - (zget t_greater (Int.toNat i8'))) + i4') i1'))))))) ≤ 9223372036854775807)) ∧ (40 - ((i8' + (1 : Int)))).toNat < (40 - i8').toNat from ⟨Or.inr (⟨rfl, (by first | assumption | omega), (by first | assumption | omega), (by first | assumption | omega), (by first | assumption | omega), (by first | assumption | omega), (by first | assumption | omega), (by first | assumption | omega)⟩), by omega⟩)
  · exact (show ((0 : Nat) = 0 ∧ i1 = i1 ∧ 0 ≤ i4 ∧ i4 < i1) ∨ ((0 : Nat) = 6 ∧ i1 = i1 ∧ 0 ≤ i4 ∧ i4 < i1 ∧ 0 ≤ 0 ∧ 0 ≤ t_lines ∧ -9223372036854775808 ≤ 0 ∧ 0 ≤ 9223372036854775807) from Or.inl (⟨rfl, (by first | assumption | omega), (by first | assumption | omega), (by first | assumption | omega)⟩))
  · show 50 < jfuel
    unfold jfuel
    omega
set_option maxRecDepth 20000 in
theorem ok_X11_leastOf (t_lines : Int) (t_numberOf : Nat) (t_lesser : Nat) (t_greater : Nat) (i1 : Int) (i2 : Int) (i4 : Bool) (p0 : 4 ≤ i1) (p1 : i1 ≤ 9) (p2 : (∀ k : Nat, (k : Int) < t_lines → 0 ≤ zget t_lesser k ∧ zget t_lesser k < i1)) (p3 : (∀ k : Nat, (k : Int) < t_lines → 0 ≤ zget t_greater k ∧ zget t_greater k < i1)) (p4 : 0 ≤ t_lines) (p5 : t_lines ≤ 27) (p6 : -9223372036854775808 ≤ i2) (p7 : i2 ≤ 9223372036854775807) : Go (fun o => -9223372036854775808 ≤ (o) ∧ (o) ≤ 9223372036854775807) (zf_X11_leastOf t_lines t_numberOf t_lesser t_greater i1 i2 i4) := by
  unfold zf_X11_leastOf
  refine jok (fun (s : zS_X11_leastOf) => match s with | (lab, i1', i2', i4', i5', i7', i8') => (lab = 0 ∧ i1' = i1 ∧ -9223372036854775808 ≤ i2' ∧ i2' ≤ 9223372036854775807) ∨ (lab = 6 ∧ i1' = i1 ∧ 0 ≤ i7' ∧ i7' ≤ i1' ∧ -9223372036854775808 ≤ i5' ∧ i5' ≤ 9223372036854775807) ∨ (lab = 35 ∧ i1' = i1 ∧ 0 ≤ i7' ∧ i7' < i1' ∧ -9223372036854775808 ≤ i5' ∧ i5' ≤ 9223372036854775807 ∧ -9223372036854775808 ≤ i8' ∧ i8' ≤ 9223372036854775807)) (fun (s : zS_X11_leastOf) => match s with | (lab, i1', i2', i4', i5', i7', i8') => if lab = 0 then 100 else if lab = 6 then (2 * (20 - i7') + 1).toNat else if lab = 35 then (2 * (20 - i7')).toNat else 0) (fun (o : zO_X11_leastOf) => -9223372036854775808 ≤ (o) ∧ (o) ≤ 9223372036854775807) ?_ _ ?_ ?_
  · intro s hI
    obtain ⟨lab, i1', i2', i4', i5', i7', i8'⟩ := s
    have hI : (lab = 0 ∧ i1' = i1 ∧ -9223372036854775808 ≤ i2' ∧ i2' ≤ 9223372036854775807) ∨ (lab = 6 ∧ i1' = i1 ∧ 0 ≤ i7' ∧ i7' ≤ i1' ∧ -9223372036854775808 ≤ i5' ∧ i5' ≤ 9223372036854775807) ∨ (lab = 35 ∧ i1' = i1 ∧ 0 ≤ i7' ∧ i7' < i1' ∧ -9223372036854775808 ≤ i5' ∧ i5' ≤ 9223372036854775807 ∧ -9223372036854775808 ≤ i8' ∧ i8' ≤ 9223372036854775807) := hI
    rcases hI with ⟨rfl, v0_0, v0_1, v0_2⟩ | ⟨rfl, v6_0, v6_1, v6_2, v6_3, v6_4⟩ | ⟨rfl, v35_0, v35_1, v35_2, v35_3, v35_4, v35_5, v35_6⟩
    · show Go _ (zg_X11_leastOf_0 t_lines t_numberOf t_lesser t_greater i1' i2' i4' i5' i7' i8')
      unfold zg_X11_leastOf_0
      exact Go_i (show (((6 : Nat) = 0 ∧ (i1') = i1 ∧ -9223372036854775808 ≤ (i2') ∧ (i2') ≤ 9223372036854775807) ∨ ((6 : Nat) = 6 ∧ (i1') = i1 ∧ 0 ≤ ((0 : Int)) ∧ ((0 : Int)) ≤ (i1') ∧ -9223372036854775808 ≤ (i2') ∧ (i2') ≤ 9223372036854775807) ∨ ((6 : Nat) = 35 ∧ (i1') = i1 ∧ 0 ≤ ((0 : Int)) ∧ ((0 : Int)) < (i1') ∧ -9223372036854775808 ≤ (i2') ∧ (i2') ≤ 9223372036854775807 ∧ -9223372036854775808 ≤ (0) ∧ (0) ≤ 9223372036854775807)) ∧ (2 * (20 - ((0 : Int))) + 1).toNat < 100 from ⟨Or.inr (Or.inl (⟨rfl, (by first | assumption | omega), (by first | assumption | omega), (by first | assumption | omega), (by first | assumption | omega), (by first | assumption | omega)⟩)), by omega⟩)
    · show Go _ (zg_X11_leastOf_6 t_lines t_numberOf t_lesser t_greater i1' i2' i4' i5' i7' i8')
      unfold zg_X11_leastOf_6
      have z2 := p2
      have z3 := p3
      rw [← v6_0] at z2 z3
      refine Go_chk (by unfold zout; omega) ?_
      refine Go_chk (by unfold zout; omega) ?_
      refine Go_ite (fun c1 => ?_) (fun c1 => ?_)
      · exact Go_i (show -9223372036854775808 ≤ (i5') ∧ (i5') ≤ 9223372036854775807 from ⟨(by first | assumption | omega), (by first | assumption | omega)⟩)
      · refine Go_bindP (ok_X11_turned t_lines t_numberOf t_lesser t_greater i1' i2' i7' false (by first | assumption | omega) (by first | assumption | omega) (by first | assumption | exact all_w (by assumption) (by omega) | (refine all_setw ?_ (Int.le_refl _) ?_ ?_ (by omega) (by omega) <;> first | assumption | omega) | exact all_setw (by assumption) (by omega) (by omega) (by omega) (by omega) (by omega)) (by first | assumption | exact all_w (by assumption) (by omega) | (refine all_setw ?_ (Int.le_refl _) ?_ ?_ (by omega) (by omega) <;> first | assumption | omega) | exact all_setw (by assumption) (by omega) (by omega) (by omega) (by omega) (by omega)) (by first | assumption | omega) (by first | assumption | omega) (by first | assumption | omega) (by first | assumption | omega)) (fun o3 q2 => ?_)
        obtain ⟨q2_0, q2_1⟩ := q2
        refine Go_chk (by unfold zoutL; omega) ?_
        refine Go_chk (by unfold zoutL; omega) ?_
        refine Go_ite (fun c3 => ?_) (fun c3 => ?_)
        · exact Go_i (show (((35 : Nat) = 0 ∧ (i1') = i1 ∧ -9223372036854775808 ≤ (i2') ∧ (i2') ≤ 9223372036854775807) ∨ ((35 : Nat) = 6 ∧ (i1') = i1 ∧ 0 ≤ (i7') ∧ (i7') ≤ (i1') ∧ -9223372036854775808 ≤ (i5') ∧ (i5') ≤ 9223372036854775807) ∨ ((35 : Nat) = 35 ∧ (i1') = i1 ∧ 0 ≤ (i7') ∧ (i7') < (i1') ∧ -9223372036854775808 ≤ (i5') ∧ (i5') ≤ 9223372036854775807 ∧ -9223372036854775808 ≤ (o3) ∧ (o3) ≤ 9223372036854775807)) ∧ (2 * (20 - (i7'))).toNat < (2 * (20 - i7') + 1).toNat from ⟨Or.inr (Or.inr (⟨rfl, (by first | assumption | omega), (by first | assumption | omega), (by first | assumption | omega), (by first | assumption | omega), (by first | assumption | omega), (by first | assumption | omega), (by first | assumption | omega)⟩)), by omega⟩)
        · exact Go_i (show (((35 : Nat) = 0 ∧ (i1') = i1 ∧ -9223372036854775808 ≤ (i2') ∧ (i2') ≤ 9223372036854775807) ∨ ((35 : Nat) = 6 ∧ (i1') = i1 ∧ 0 ≤ (i7') ∧ (i7') ≤ (i1') ∧ -9223372036854775808 ≤ (o3) ∧ (o3) ≤ 9223372036854775807) ∨ ((35 : Nat) = 35 ∧ (i1') = i1 ∧ 0 ≤ (i7') ∧ (i7') < (i1') ∧ -9223372036854775808 ≤ (o3) ∧ (o3) ≤ 9223372036854775807 ∧ -9223372036854775808 ≤ (o3) ∧ (o3) ≤ 9223372036854775807)) ∧ (2 * (20 - (i7'))).toNat < (2 * (20 - i7') + 1).toNat from ⟨Or.inr (Or.inr (⟨rfl, (by first | assumption | omega), (by first | assumption | omega), (by first | assumption | omega), (by first | assumption | omega), (by first | assumption | omega), (by first | assumption | omega), (by first | assumption | omega)⟩)), by omega⟩)
    · show Go _ (zg_X11_leastOf_35 t_lines t_numberOf t_lesser t_greater i1' i2' i4' i5' i7' i8')
      unfold zg_X11_leastOf_35
      have z2 := p2
      have z3 := p3
      rw [← v35_0] at z2 z3
      refine Go_ite (fun c4 => ?_) (fun c4 => ?_)
      · refine Go_chk (by unfold zoutL; omega) ?_
        refine Go_chk (by unfold zoutL; omega) ?_
        refine Go_ite (fun c5 => ?_) (fun c5 => ?_)
        · exact Go_i (show (((6 : Nat) = 0 ∧ (i1') = i1 ∧ -9223372036854775808 ≤ (i2') ∧ (i2') ≤ 9223372036854775807) ∨ ((6 : Nat) = 6 ∧ (i1') = i1 ∧ 0 ≤ ((i7' + (1 : Int))) ∧ ((i7' + (1 : Int))) ≤ (i1') ∧ -9223372036854775808 ≤ (i5') ∧ (i5') ≤ 9223372036854775807) ∨ ((6 : Nat) = 35 ∧ (i1') = i1 ∧ 0 ≤ ((i7' + (1 : Int))) ∧ ((i7' + (1 : Int))) < (i1') ∧ -9223372036854775808 ≤ (i5') ∧ (i5') ≤ 9223372036854775807 ∧ -9223372036854775808 ≤ (i8') ∧ (i8') ≤ 9223372036854775807)) ∧ (2 * (20 - ((i7' + (1 : Int)))) + 1).toNat < (2 * (20 - i7')).toNat from ⟨Or.inr (Or.inl (⟨rfl, (by first | assumption | omega), (by first | assumption | omega), (by first | assumption | omega), (by first | assumption | omega), (by first | assumption | omega)⟩)), by omega⟩)
        · exact Go_i (show (((6 : Nat) = 0 ∧ (i1') = i1 ∧ -9223372036854775808 ≤ (i2') ∧ (i2') ≤ 9223372036854775807) ∨ ((6 : Nat) = 6 ∧ (i1') = i1 ∧ 0 ≤ ((i7' + (1 : Int))) ∧ ((i7' + (1 : Int))) ≤ (i1') ∧ -9223372036854775808 ≤ (i8') ∧ (i8') ≤ 9223372036854775807) ∨ ((6 : Nat) = 35 ∧ (i1') = i1 ∧ 0 ≤ ((i7' + (1 : Int))) ∧ ((i7' + (1 : Int))) < (i1') ∧ -9223372036854775808 ≤ (i8') ∧ (i8') ≤ 9223372036854775807 ∧ -9223372036854775808 ≤ (i8') ∧ (i8') ≤ 9223372036854775807)) ∧ (2 * (20 - ((i7' + (1 : Int)))) + 1).toNat < (2 * (20 - i7')).toNat from ⟨Or.inr (Or.inl (⟨rfl, (by first | assumption | omega), (by first | assumption | omega), (by first | assumption | omega), (by first | assumption | omega), (by first | assumption | omega)⟩)), by omega⟩)
      · refine Go_bindP (ok_X11_turned t_lines t_numberOf t_lesser t_greater i1' i2' i7' true (by first | assumption | omega) (by first | assumption | omega) (by first | assumption | exact all_w (by assumption) (by omega) | (refine all_setw ?_ (Int.le_refl _) ?_ ?_ (by omega) (by omega) <;> first | assumption | omega) | exact all_setw (by assumption) (by omega) (by omega) (by omega) (by omega) (by omega)) (by first | assumption | exact all_w (by assumption) (by omega) | (refine all_setw ?_ (Int.le_refl _) ?_ ?_ (by omega) (by omega) <;> first | assumption | omega) | exact all_setw (by assumption) (by omega) (by omega) (by omega) (by omega) (by omega)) (by first | assumption | omega) (by first | assumption | omega) (by first | assumption | omega) (by first | assumption | omega)) (fun o11 q6 => ?_)
        obtain ⟨q6_0, q6_1⟩ := q6
        refine Go_chk (by unfold zoutL; omega) ?_
        refine Go_chk (by unfold zoutL; omega) ?_
        refine Go_ite (fun c7 => ?_) (fun c7 => ?_)
        · exact Go_i (show (((6 : Nat) = 0 ∧ (i1') = i1 ∧ -9223372036854775808 ≤ (i2') ∧ (i2') ≤ 9223372036854775807) ∨ ((6 : Nat) = 6 ∧ (i1') = i1 ∧ 0 ≤ ((i7' + (1 : Int))) ∧ ((i7' + (1 : Int))) ≤ (i1') ∧ -9223372036854775808 ≤ (i5') ∧ (i5') ≤ 9223372036854775807) ∨ ((6 : Nat) = 35 ∧ (i1') = i1 ∧ 0 ≤ ((i7' + (1 : Int))) ∧ ((i7' + (1 : Int))) < (i1') ∧ -9223372036854775808 ≤ (i5') ∧ (i5') ≤ 9223372036854775807 ∧ -9223372036854775808 ≤ (i8') ∧ (i8') ≤ 9223372036854775807)) ∧ (2 * (20 - ((i7' + (1 : Int)))) + 1).toNat < (2 * (20 - i7')).toNat from ⟨Or.inr (Or.inl (⟨rfl, (by first | assumption | omega), (by first | assumption | omega), (by first | assumption | omega), (by first | assumption | omega), (by first | assumption | omega)⟩)), by omega⟩)
        · exact Go_i (show (((6 : Nat) = 0 ∧ (i1') = i1 ∧ -9223372036854775808 ≤ (i2') ∧ (i2') ≤ 9223372036854775807) ∨ ((6 : Nat) = 6 ∧ (i1') = i1 ∧ 0 ≤ ((i7' + (1 : Int))) ∧ ((i7' + (1 : Int))) ≤ (i1') ∧ -9223372036854775808 ≤ (o11) ∧ (o11) ≤ 9223372036854775807) ∨ ((6 : Nat) = 35 ∧ (i1') = i1 ∧ 0 ≤ ((i7' + (1 : Int))) ∧ ((i7' + (1 : Int))) < (i1') ∧ -9223372036854775808 ≤ (o11) ∧ (o11) ≤ 9223372036854775807 ∧ -9223372036854775808 ≤ (i8') ∧ (i8') ≤ 9223372036854775807)) ∧ (2 * (20 - ((i7' + (1 : Int)))) + 1).toNat < (2 * (20 - i7')).toNat from ⟨Or.inr (Or.inl (⟨rfl, (by first | assumption | omega), (by first | assumption | omega), (by first | assumption | omega), (by first | assumption | omega), (by first | assumption | omega)⟩)), by omega⟩)
  · exact (show ((0 : Nat) = 0 ∧ i1 = i1 ∧ -9223372036854775808 ≤ i2 ∧ i2 ≤ 9223372036854775807) ∨ ((0 : Nat) = 6 ∧ i1 = i1 ∧ 0 ≤ 0 ∧ 0 ≤ i1 ∧ -9223372036854775808 ≤ 0 ∧ 0 ≤ 9223372036854775807) ∨ ((0 : Nat) = 35 ∧ i1 = i1 ∧ 0 ≤ 0 ∧ 0 < i1 ∧ -9223372036854775808 ≤ 0 ∧ 0 ≤ 9223372036854775807 ∧ -9223372036854775808 ≤ 0 ∧ 0 ≤ 9223372036854775807) from Or.inl (⟨rfl, (by first | assumption | omega), (by first | assumption | omega), (by first | assumption | omega)⟩))
  · show 100 < jfuel
    unfold jfuel
    omega
set_option maxRecDepth 20000 in
theorem ok_X11_readRow (t_taped : Int) (t_size : Int) (t_sort : Int) (t_at : Int) (t_end : Int) (t_number : Int) (t_word : Int) (t_rowMany : Int) (t_tape : Nat) (t_told : Nat) (p0 : 0 ≤ t_taped) (p1 : t_taped ≤ 300) (p2 : (∀ k : Nat, k < 10 → 0 ≤ zget t_told k ∧ zget t_told k ≤ 999)) : Go (fun o => -1 ≤ (o.1) ∧ (o.1) ≤ 10 ∧ (o.2.1) = 0 ∧ (∀ k : Nat, k < 10 → 0 ≤ zget (o.2.2.2.2.2.2.2.2.2) k ∧ zget (o.2.2.2.2.2.2.2.2.2) k ≤ 999)) (zf_X11_readRow t_taped t_size t_sort t_at t_end t_number t_word t_rowMany t_tape t_told) := by
  unfold zf_X11_readRow
  refine jok (fun (s : zS_X11_readRow) => match s with | (lab, t_taped', t_size', t_sort', t_at', t_end', t_number', t_word', t_rowMany', t_told') => (lab = 0 ∧ 0 ≤ t_taped' ∧ t_taped' ≤ 300 ∧ (∀ k : Nat, k < 10 → 0 ≤ zget t_told' k ∧ zget t_told' k ≤ 999)) ∨ (lab = 9 ∧ t_taped' = 0 ∧ 0 ≤ t_size' ∧ t_size' ≤ 300 ∧ 0 ≤ t_end' ∧ t_end' ≤ t_size' ∧ 0 ≤ t_sort' ∧ t_sort' ≤ 4 ∧ (t_sort' = 2 → 0 ≤ t_number' ∧ t_number' ≤ 999) ∧ 0 ≤ t_rowMany' ∧ t_rowMany' ≤ 10 ∧ (∀ k : Nat, k < 10 → 0 ≤ zget t_told' k ∧ zget t_told' k ≤ 999))) (fun (s : zS_X11_readRow) => match s with | (lab, t_taped', t_size', t_sort', t_at', t_end', t_number', t_word', t_rowMany', t_told') => if lab = 0 then 50 else if lab = 9 then (11 - t_rowMany').toNat else 0) (fun (o : zO_X11_readRow) => -1 ≤ (o.1) ∧ (o.1) ≤ 10 ∧ (o.2.1) = 0 ∧ (∀ k : Nat, k < 10 → 0 ≤ zget (o.2.2.2.2.2.2.2.2.2) k ∧ zget (o.2.2.2.2.2.2.2.2.2) k ≤ 999)) ?_ _ ?_ ?_
  · intro s hI
    obtain ⟨lab, t_taped', t_size', t_sort', t_at', t_end', t_number', t_word', t_rowMany', t_told'⟩ := s
    have hI : (lab = 0 ∧ 0 ≤ t_taped' ∧ t_taped' ≤ 300 ∧ (∀ k : Nat, k < 10 → 0 ≤ zget t_told' k ∧ zget t_told' k ≤ 999)) ∨ (lab = 9 ∧ t_taped' = 0 ∧ 0 ≤ t_size' ∧ t_size' ≤ 300 ∧ 0 ≤ t_end' ∧ t_end' ≤ t_size' ∧ 0 ≤ t_sort' ∧ t_sort' ≤ 4 ∧ (t_sort' = 2 → 0 ≤ t_number' ∧ t_number' ≤ 999) ∧ 0 ≤ t_rowMany' ∧ t_rowMany' ≤ 10 ∧ (∀ k : Nat, k < 10 → 0 ≤ zget t_told' k ∧ zget t_told' k ≤ 999)) := hI
    rcases hI with ⟨rfl, v0_0, v0_1, v0_2⟩ | ⟨rfl, v9_0, v9_1, v9_2, v9_3, v9_4, v9_5, v9_6, v9_7, v9_8, v9_9, v9_10⟩
    · show Go _ (zg_X11_readRow_0 t_tape t_taped' t_size' t_sort' t_at' t_end' t_number' t_word' t_rowMany' t_told')
      unfold zg_X11_readRow_0
      refine Go_bindP (ok_X11_begin t_taped' t_size' t_sort' t_at' t_end' t_number' t_word' t_tape (by first | assumption | omega) (by first | assumption | omega)) (fun o1 q1 => ?_)
      obtain ⟨q1_0, q1_1, q1_2, q1_3, q1_4, q1_5, q1_6, q1_7, q1_8, q1_9⟩ := q1
      exact Go_i (show (((9 : Nat) = 0 ∧ 0 ≤ ((o1.1)) ∧ ((o1.1)) ≤ 300 ∧ (∀ k : Nat, k < 10 → 0 ≤ zget (t_told') k ∧ zget (t_told') k ≤ 999)) ∨ ((9 : Nat) = 9 ∧ ((o1.1)) = 0 ∧ 0 ≤ ((o1.2.1)) ∧ ((o1.2.1)) ≤ 300 ∧ 0 ≤ ((o1.2.2.2.2.1)) ∧ ((o1.2.2.2.2.1)) ≤ ((o1.2.1)) ∧ 0 ≤ ((o1.2.2.1)) ∧ ((o1.2.2.1)) ≤ 4 ∧ (((o1.2.2.1)) = 2 → 0 ≤ ((o1.2.2.2.2.2.1)) ∧ ((o1.2.2.2.2.2.1)) ≤ 999) ∧ 0 ≤ ((0 : Int)) ∧ ((0 : Int)) ≤ 10 ∧ (∀ k : Nat, k < 10 → 0 ≤ zget (t_told') k ∧ zget (t_told') k ≤ 999))) ∧ (11 - ((0 : Int))).toNat < 50 from ⟨Or.inr (⟨rfl, (by first | assumption | omega), (by first | assumption | omega), (by first | assumption | omega), (by first | assumption | omega), (by first | assumption | omega), (by first | assumption | omega), (by first | assumption | omega), (by intro h; first | exact True.intro | omega | (exact absurd h (by decide))), (by first | assumption | omega), (by first | assumption | omega), (by first | assumption | exact all_w (by assumption) (by omega) | (refine all_setw ?_ (Int.le_refl _) ?_ ?_ (by omega) (by omega) <;> first | assumption | omega) | exact all_setw (by assumption) (by omega) (by omega) (by omega) (by omega) (by omega))⟩), by omega⟩)
    · show Go _ (zg_X11_readRow_9 t_tape t_taped' t_size' t_sort' t_at' t_end' t_number' t_word' t_rowMany' t_told')
      unfold zg_X11_readRow_9
      refine Go_chk (by unfold zout; omega) ?_
      refine Go_ite (fun c2 => ?_) (fun c2 => ?_)
      · refine Go_chk (by unfold zout; omega) ?_
        refine Go_ite (fun c3 => ?_) (fun c3 => ?_)
        · exact Go_i (show -1 ≤ ((-1 : Int)) ∧ ((-1 : Int)) ≤ 10 ∧ (t_taped') = 0 ∧ (∀ k : Nat, k < 10 → 0 ≤ zget (t_told') k ∧ zget (t_told') k ≤ 999) from ⟨(by first | assumption | omega), (by first | assumption | omega), (by first | assumption | omega), (by first | assumption | exact all_w (by assumption) (by omega) | (refine all_setw ?_ (Int.le_refl _) ?_ ?_ (by omega) (by omega) <;> first | assumption | omega) | exact all_setw (by assumption) (by omega) (by omega) (by omega) (by omega) (by omega))⟩)
        · refine Go_chk (by omega) ?_
          refine Go_bindP (ok_X11_scan t_size' t_sort' t_at' t_end' t_number' t_word' t_tape (by first | assumption | omega) (by first | assumption | omega) (by first | assumption | omega) (by first | assumption | omega)) (fun o6 q4 => ?_)
          obtain ⟨q4_0, q4_1, q4_2, q4_3, q4_4, q4_5, q4_6, q4_7, q4_8⟩ := q4
          exact Go_i (show (((9 : Nat) = 0 ∧ 0 ≤ (t_taped') ∧ (t_taped') ≤ 300 ∧ (∀ k : Nat, k < 10 → 0 ≤ zget ((zset t_told' (Int.toNat t_rowMany') t_number')) k ∧ zget ((zset t_told' (Int.toNat t_rowMany') t_number')) k ≤ 999)) ∨ ((9 : Nat) = 9 ∧ (t_taped') = 0 ∧ 0 ≤ (t_size') ∧ (t_size') ≤ 300 ∧ 0 ≤ ((o6.2.2.1)) ∧ ((o6.2.2.1)) ≤ (t_size') ∧ 0 ≤ ((o6.1)) ∧ ((o6.1)) ≤ 4 ∧ (((o6.1)) = 2 → 0 ≤ ((o6.2.2.2.1)) ∧ ((o6.2.2.2.1)) ≤ 999) ∧ 0 ≤ ((t_rowMany' + (1 : Int))) ∧ ((t_rowMany' + (1 : Int))) ≤ 10 ∧ (∀ k : Nat, k < 10 → 0 ≤ zget ((zset t_told' (Int.toNat t_rowMany') t_number')) k ∧ zget ((zset t_told' (Int.toNat t_rowMany') t_number')) k ≤ 999))) ∧ (11 - ((t_rowMany' + (1 : Int)))).toNat < (11 - t_rowMany').toNat from ⟨Or.inr (⟨rfl, (by first | assumption | omega), (by first | assumption | omega), (by first | assumption | omega), (by first | assumption | omega), (by first | assumption | omega), (by first | assumption | omega), (by first | assumption | omega), (by intro h; first | exact True.intro | omega | (exact absurd h (by decide))), (by first | assumption | omega), (by first | assumption | omega), (by first | assumption | exact all_w (by assumption) (by omega) | (refine all_setw ?_ (Int.le_refl _) ?_ ?_ (by omega) (by omega) <;> first | assumption | omega) | exact all_setw (by assumption) (by omega) (by omega) (by omega) (by omega) (by omega))⟩), by omega⟩)
      · refine Go_ite (fun c5 => ?_) (fun c5 => ?_)
        · exact Go_i (show -1 ≤ (t_rowMany') ∧ (t_rowMany') ≤ 10 ∧ (t_taped') = 0 ∧ (∀ k : Nat, k < 10 → 0 ≤ zget (t_told') k ∧ zget (t_told') k ≤ 999) from ⟨(by first | assumption | omega), (by first | assumption | omega), (by first | assumption | omega), (by first | assumption | exact all_w (by assumption) (by omega) | (refine all_setw ?_ (Int.le_refl _) ?_ ?_ (by omega) (by omega) <;> first | assumption | omega) | exact all_setw (by assumption) (by omega) (by omega) (by omega) (by omega) (by omega))⟩)
        · exact Go_i (show -1 ≤ ((-1 : Int)) ∧ ((-1 : Int)) ≤ 10 ∧ (t_taped') = 0 ∧ (∀ k : Nat, k < 10 → 0 ≤ zget (t_told') k ∧ zget (t_told') k ≤ 999) from ⟨(by first | assumption | omega), (by first | assumption | omega), (by first | assumption | omega), (by first | assumption | exact all_w (by assumption) (by omega) | (refine all_setw ?_ (Int.le_refl _) ?_ ?_ (by omega) (by omega) <;> first | assumption | omega) | exact all_setw (by assumption) (by omega) (by omega) (by omega) (by omega) (by omega))⟩)
  · exact (show ((0 : Nat) = 0 ∧ 0 ≤ t_taped ∧ t_taped ≤ 300 ∧ (∀ k : Nat, k < 10 → 0 ≤ zget t_told k ∧ zget t_told k ≤ 999)) ∨ ((0 : Nat) = 9 ∧ t_taped = 0 ∧ 0 ≤ t_size ∧ t_size ≤ 300 ∧ 0 ≤ t_end ∧ t_end ≤ t_size ∧ 0 ≤ t_sort ∧ t_sort ≤ 4 ∧ (t_sort = 2 → 0 ≤ t_number ∧ t_number ≤ 999) ∧ 0 ≤ t_rowMany ∧ t_rowMany ≤ 10 ∧ (∀ k : Nat, k < 10 → 0 ≤ zget t_told k ∧ zget t_told k ≤ 999)) from Or.inl (⟨rfl, (by first | assumption | omega), (by first | assumption | omega), (by first | assumption | exact all_w (by assumption) (by omega) | (refine all_setw ?_ (Int.le_refl _) ?_ ?_ (by omega) (by omega) <;> first | assumption | omega) | exact all_setw (by assumption) (by omega) (by omega) (by omega) (by omega) (by omega))⟩))
  · show 50 < jfuel
    unfold jfuel
    omega
set_option maxRecDepth 20000 in
theorem ok_X11_apart (t_corners : Int) (t_numberOf : Nat) (t_told : Nat) (i1 : Int) (p0 : 4 ≤ t_corners) (p1 : t_corners ≤ 9) (p2 : (∀ k : Nat, k < 10 → 0 ≤ zget t_told k ∧ zget t_told k ≤ 999)) : Go (fun o => 0 ≤ (o) ∧ (o) ≤ 20000) (zf_X11_apart t_corners t_numberOf t_told i1) := by
  unfold zf_X11_apart
  refine jok (fun (s : zS_X11_apart) => match s with | (lab, i1', i3', i4') => (lab = 0) ∨ (lab = 5 ∧ 0 ≤ i4' ∧ i4' ≤ t_corners ∧ 0 ≤ i3' ∧ i3' ≤ 1100 * i4')) (fun (s : zS_X11_apart) => match s with | (lab, i1', i3', i4') => if lab = 0 then 50 else if lab = 5 then (20 - i4').toNat else 0) (fun (o : zO_X11_apart) => 0 ≤ (o) ∧ (o) ≤ 20000) ?_ _ ?_ ?_
  · intro s hI
    obtain ⟨lab, i1', i3', i4'⟩ := s
    have hI : (lab = 0) ∨ (lab = 5 ∧ 0 ≤ i4' ∧ i4' ≤ t_corners ∧ 0 ≤ i3' ∧ i3' ≤ 1100 * i4') := hI
    rcases hI with rfl | ⟨rfl, v5_0, v5_1, v5_2, v5_3⟩
    · show Go _ (zg_X11_apart_0 t_corners t_numberOf t_told i1' i3' i4')
      unfold zg_X11_apart_0
      exact Go_i (show (((5 : Nat) = 0) ∨ ((5 : Nat) = 5 ∧ 0 ≤ ((0 : Int)) ∧ ((0 : Int)) ≤ t_corners ∧ 0 ≤ ((0 : Int)) ∧ ((0 : Int)) ≤ 1100 * ((0 : Int)))) ∧ (20 - ((0 : Int))).toNat < 50 from ⟨Or.inr (⟨rfl, (by first | assumption | omega), (by first | assumption | omega), (by first | assumption | omega), (by first | assumption | omega)⟩), by omega⟩)
    · show Go _ (zg_X11_apart_5 t_corners t_numberOf t_told i1' i3' i4')
      unfold zg_X11_apart_5
      refine Go_chk (by unfold zout; omega) ?_
      refine Go_chk (by unfold zout; omega) ?_
      refine Go_ite (fun c1 => ?_) (fun c1 => ?_)
      · exact Go_i (show 0 ≤ (i3') ∧ (i3') ≤ 20000 from ⟨(by first | assumption | omega), (by first | assumption | omega)⟩)
      · refine Go_bindP (ok_X11_rowAt t_numberOf t_corners i1' i4' (by first | assumption | omega) (by first | assumption | omega) (by first | assumption | omega) (by first | assumption | omega)) (fun o3 q2 => ?_)
        obtain ⟨q2_0, q2_1⟩ := q2
        refine Go_chk (by omega) ?_
        have a3 := rget t_told (Int.toNat i4')
        have a4 := p2 (Int.toNat i4') (by omega)
        refine Go_chk (by unfold zout; omega) ?_
        refine Go_ite (fun c5 => ?_) (fun c5 => ?_)
        · exact Go_i (show (((5 : Nat) = 0) ∨ ((5 : Nat) = 5 ∧ 0 ≤ ((i4' + (1 : Int))) ∧ ((i4' + (1 : Int))) ≤ t_corners ∧ 0 ≤ ((i3' + (o3 - (zget t_told (Int.toNat i4'))))) ∧ ((i3' + (o3 - (zget t_told (Int.toNat i4'))))) ≤ 1100 * ((i4' + (1 : Int))))) ∧ (20 - ((i4' + (1 : Int)))).toNat < (20 - i4').toNat from ⟨Or.inr (⟨rfl, (by first | assumption | omega), (by first | assumption | omega), (by first | assumption | omega), (by first | assumption | omega)⟩), by omega⟩)
        · exact Go_i (show (((5 : Nat) = 0) ∨ ((5 : Nat) = 5 ∧ 0 ≤ ((i4' + (1 : Int))) ∧ ((i4' + (1 : Int))) ≤ t_corners ∧ 0 ≤ ((i3' + (-(o3 - (zget t_told (Int.toNat i4')))))) ∧ ((i3' + (-(o3 - (zget t_told (Int.toNat i4')))))) ≤ 1100 * ((i4' + (1 : Int))))) ∧ (20 - ((i4' + (1 : Int)))).toNat < (20 - i4').toNat from ⟨Or.inr (⟨rfl, (by first | assumption | omega), (by first | assumption | omega), (by first | assumption | omega), (by first | assumption | omega)⟩), by omega⟩)
  · exact (show ((0 : Nat) = 0) ∨ ((0 : Nat) = 5 ∧ 0 ≤ 0 ∧ 0 ≤ t_corners ∧ 0 ≤ 0 ∧ 0 ≤ 1100 * 0) from Or.inl (rfl))
  · show 50 < jfuel
    unfold jfuel
    omega
set_option maxRecDepth 20000 in
theorem ok_X11_mended (t_mendedBy : Int)  : Go (fun o => True) (zf_X11_mended t_mendedBy) := by
  unfold zf_X11_mended
  exact Go_i (show True from trivial)
set_option maxRecDepth 20000 in
theorem ok_X11_of (t_periodMany : Int) (t_period : Nat) (i1 : Int) (p0 : 1 ≤ t_periodMany) (p1 : t_periodMany ≤ 10) (p2 : (∀ k : Nat, k < 11 → 0 ≤ zget t_period k ∧ zget t_period k ≤ 20)) (p3 : -2147483648 ≤ i1) (p4 : i1 ≤ 2147483647) : Go (fun o => True) (zf_X11_of t_periodMany t_period i1) := by
  unfold zf_X11_of
  refine Go_bindP (ok_X11_in i1 (0 : Int) (t_periodMany - (1 : Int)) (by first | assumption | omega) (by first | assumption | omega) (by first | assumption | omega) (by first | assumption | omega) (by first | assumption | omega) (by first | assumption | omega)) (fun o1 q1 => ?_)
  obtain ⟨q1_0, q1_1⟩ := q1
  refine Go_ite (fun c2 => ?_) (fun c2 => ?_)
  · have dc2 := q1_1 c2
    exact Go_i (show True from trivial)
  · have dc2 := q1_0 (bnf c2)
    refine Go_chk (by omega) ?_
    have a3 := rget t_period (Int.toNat i1)
    exact Go_i (show True from trivial)
set_option maxRecDepth 20000 in
theorem ok_X11_alongOf (t_periodMany : Int) (t_period : Nat) (i1 : Int) (i2 : Int) (p0 : 1 ≤ t_periodMany) (p1 : t_periodMany ≤ 10) (p2 : (∀ k : Nat, k < 11 → 0 ≤ zget t_period k ∧ zget t_period k ≤ 20)) (p3 : 0 ≤ i1) (p4 : i1 ≤ 10) (p5 : 0 ≤ i2) (p6 : i2 ≤ 13) : Go (fun o => -154472377739119461 ≤ (o) ∧ (o) ≤ 154472377739119461) (zf_X11_alongOf t_periodMany t_period i1 i2) := by
  unfold zf_X11_alongOf
  refine jok (fun (s : zS_X11_alongOf) => match s with | (lab, i1', i2', i3', i5', i7') => (lab = 0 ∧ 0 ≤ i1' ∧ i1' ≤ 10 ∧ 0 ≤ i2' ∧ i2' ≤ 13) ∨ (lab = 14 ∧ 0 ≤ i1' ∧ i1' ≤ 10 ∧ 1 ≤ i2' ∧ i2' ≤ 13 ∧ 1 ≤ i7' ∧ i7' ≤ i2' ∧ -(eL i7') ≤ i5' ∧ i5' ≤ eL i7' ∧ -(eL i7') ≤ i3' ∧ i3' ≤ eL i7' ∧ (1 ≤ eL i7' ∧ eL i7' ≤ 154472377739119461))) (fun (s : zS_X11_alongOf) => match s with | (lab, i1', i2', i3', i5', i7') => if lab = 0 then 50 else if lab = 14 then (20 - i7').toNat else 0) (fun (o : zO_X11_alongOf) => -154472377739119461 ≤ (o) ∧ (o) ≤ 154472377739119461) ?_ _ ?_ ?_
  · intro s hI
    obtain ⟨lab, i1', i2', i3', i5', i7'⟩ := s
    have hI : (lab = 0 ∧ 0 ≤ i1' ∧ i1' ≤ 10 ∧ 0 ≤ i2' ∧ i2' ≤ 13) ∨ (lab = 14 ∧ 0 ≤ i1' ∧ i1' ≤ 10 ∧ 1 ≤ i2' ∧ i2' ≤ 13 ∧ 1 ≤ i7' ∧ i7' ≤ i2' ∧ -(eL i7') ≤ i5' ∧ i5' ≤ eL i7' ∧ -(eL i7') ≤ i3' ∧ i3' ≤ eL i7' ∧ (1 ≤ eL i7' ∧ eL i7' ≤ 154472377739119461)) := hI
    rcases hI with ⟨rfl, v0_0, v0_1, v0_2, v0_3⟩ | ⟨rfl, v14_0, v14_1, v14_2, v14_3, v14_4, v14_5, v14_6, v14_7, v14_8, v14_9, v14_10⟩
    · show Go _ (zg_X11_alongOf_0 t_periodMany t_period i1' i2' i3' i5' i7')
      unfold zg_X11_alongOf_0
      refine Go_chk (by unfold zout; omega) ?_
      refine Go_ite (fun c1 => ?_) (fun c1 => ?_)
      · exact Go_i (show -154472377739119461 ≤ ((0 : Int)) ∧ ((0 : Int)) ≤ 154472377739119461 from ⟨(by first | assumption | omega), (by first | assumption | omega)⟩)
      · exact Go_i (show (((14 : Nat) = 0 ∧ 0 ≤ (i1') ∧ (i1') ≤ 10 ∧ 0 ≤ (i2') ∧ (i2') ≤ 13) ∨ ((14 : Nat) = 14 ∧ 0 ≤ (i1') ∧ (i1') ≤ 10 ∧ 1 ≤ (i2') ∧ (i2') ≤ 13 ∧ 1 ≤ ((1 : Int)) ∧ ((1 : Int)) ≤ (i2') ∧ -(eL ((1 : Int))) ≤ ((1 : Int)) ∧ ((1 : Int)) ≤ eL ((1 : Int)) ∧ -(eL ((1 : Int))) ≤ ((0 : Int)) ∧ ((0 : Int)) ≤ eL ((1 : Int)) ∧ (1 ≤ eL ((1 : Int)) ∧ eL ((1 : Int)) ≤ 154472377739119461))) ∧ (20 - ((1 : Int))).toNat < 50 from ⟨Or.inr (⟨rfl, (by first | assumption | omega), (by first | assumption | omega), (by first | assumption | omega), (by first | assumption | omega), (by first | assumption | omega), (by first | assumption | omega), (by have z1 := eL_b (t := 1) (by decide) (by decide); first | omega | decide), (by have z1 := eL_b (t := 1) (by decide) (by decide); first | omega | decide), (by have z1 := eL_b (t := 1) (by decide) (by decide); first | omega | decide), (by have z1 := eL_b (t := 1) (by decide) (by decide); first | omega | decide), (by exact eL_b (by omega) (by omega))⟩), by omega⟩)
    · show Go _ (zg_X11_alongOf_14 t_periodMany t_period i1' i2' i3' i5' i7')
      unfold zg_X11_alongOf_14
      refine Go_chk (by unfold zout; omega) ?_
      refine Go_chk (by unfold zout; omega) ?_
      refine Go_ite (fun c2 => ?_) (fun c2 => ?_)
      · exact Go_i (show -154472377739119461 ≤ (i5') ∧ (i5') ≤ 154472377739119461 from ⟨(by first | assumption | omega), (by first | assumption | omega)⟩)
      · refine Go_chk (by unfold zout; omega) ?_
        refine Go_chk (by unfold zout; omega) ?_
        refine Go_chk (by omega) ?_
        have a3 := rtmod (a := (i1' + i7')) (b := t_periodMany) (by omega) (by omega)
        refine Go_chk (by omega) ?_
        have tm := rtmod (a := i1' + i7') (b := t_periodMany) (by omega) (by omega)
        have mp := p2 (Int.toNat (Int.tmod (i1' + i7') t_periodMany)) (by omega)
        have m1 := mulb (a := zget t_period (Int.toNat (Int.tmod (i1' + i7') t_periodMany))) (x := i5') (B := eL i7') (M := 20) (by omega) (by omega) (by omega) (by omega)
        have m2 := eL_s (t := i7') (by omega)
        have a4 := rget t_period (Int.toNat (Int.tmod (i1' + i7') t_periodMany))
        have a5 := p2 (Int.toNat (Int.tmod (i1' + i7') t_periodMany)) (by omega)
        exact Go_i (show (((14 : Nat) = 0 ∧ 0 ≤ (i1') ∧ (i1') ≤ 10 ∧ 0 ≤ (i2') ∧ (i2') ≤ 13) ∨ ((14 : Nat) = 14 ∧ 0 ≤ (i1') ∧ (i1') ≤ 10 ∧ 1 ≤ (i2') ∧ (i2') ≤ 13 ∧ 1 ≤ ((i7' + (1 : Int))) ∧ ((i7' + (1 : Int))) ≤ (i2') ∧ -(eL ((i7' + (1 : Int)))) ≤ ((((zget t_period (Int.toNat (Int.tmod (i1' + i7') t_periodMany))) * i5') - i3')) ∧ ((((zget t_period (Int.toNat (Int.tmod (i1' + i7') t_periodMany))) * i5') - i3')) ≤ eL ((i7' + (1 : Int))) ∧ -(eL ((i7' + (1 : Int)))) ≤ (i5') ∧ (i5') ≤ eL ((i7' + (1 : Int))) ∧ (1 ≤ eL ((i7' + (1 : Int))) ∧ eL ((i7' + (1 : Int))) ≤ 154472377739119461))) ∧ (20 - ((i7' + (1 : Int)))).toNat < (20 - i7').toNat from ⟨Or.inr (⟨rfl, (by first | assumption | omega), (by first | assumption | omega), (by first | assumption | omega), (by first | assumption | omega), (by first | assumption | omega), (by first | assumption | omega), (by first | assumption | omega), (by first | assumption | omega), (by first | assumption | omega), (by first | assumption | omega), (by exact eL_b (by omega) (by omega))⟩), by omega⟩)
  · exact (show ((0 : Nat) = 0 ∧ 0 ≤ i1 ∧ i1 ≤ 10 ∧ 0 ≤ i2 ∧ i2 ≤ 13) ∨ ((0 : Nat) = 14 ∧ 0 ≤ i1 ∧ i1 ≤ 10 ∧ 1 ≤ i2 ∧ i2 ≤ 13 ∧ 1 ≤ 0 ∧ 0 ≤ i2 ∧ -(eL 0) ≤ 0 ∧ 0 ≤ eL 0 ∧ -(eL 0) ≤ 0 ∧ 0 ≤ eL 0 ∧ (1 ≤ eL 0 ∧ eL 0 ≤ 154472377739119461)) from Or.inl (⟨rfl, (by first | assumption | omega), (by first | assumption | omega), (by first | assumption | omega), (by first | assumption | omega)⟩))
  · show 50 < jfuel
    unfold jfuel
    omega
set_option maxRecDepth 20000 in
theorem ok_X11_along (t_periodMany : Int) (t_period : Nat) (i1 : Int) (i2 : Int) (p0 : 1 ≤ t_periodMany) (p1 : t_periodMany ≤ 10) (p2 : (∀ k : Nat, k < 11 → 0 ≤ zget t_period k ∧ zget t_period k ≤ 20)) (p3 : -2147483648 ≤ i1) (p4 : i1 ≤ 2147483647) (p5 : -2147483648 ≤ i2) (p6 : i2 ≤ 2147483647) : Go (fun o => True) (zf_X11_along t_periodMany t_period i1 i2) := by
  unfold zf_X11_along
  refine Go_bindP (ok_X11_in i1 (0 : Int) (t_periodMany - (1 : Int)) (by first | assumption | omega) (by first | assumption | omega) (by first | assumption | omega) (by first | assumption | omega) (by first | assumption | omega) (by first | assumption | omega)) (fun o1 q1 => ?_)
  obtain ⟨q1_0, q1_1⟩ := q1
  refine Go_ite (fun c2 => ?_) (fun c2 => ?_)
  · have dc2 := q1_1 c2
    exact Go_i (show True from trivial)
  · have dc2 := q1_0 (bnf c2)
    refine Go_bindP (ok_X11_in i2 (0 : Int) (12 : Int) (by first | assumption | omega) (by first | assumption | omega) (by first | assumption | omega) (by first | assumption | omega) (by first | assumption | omega) (by first | assumption | omega)) (fun o2 q3 => ?_)
    obtain ⟨q3_0, q3_1⟩ := q3
    refine Go_ite (fun c4 => ?_) (fun c4 => ?_)
    · have dc4 := q3_1 c4
      exact Go_i (show True from trivial)
    · have dc4 := q3_0 (bnf c4)
      refine Go_bindP (ok_X11_alongOf t_periodMany t_period i1 i2 (by first | assumption | omega) (by first | assumption | omega) (by first | assumption | exact all_w (by assumption) (by omega) | (refine all_setw ?_ (Int.le_refl _) ?_ ?_ (by omega) (by omega) <;> first | assumption | omega) | exact all_setw (by assumption) (by omega) (by omega) (by omega) (by omega) (by omega)) (by first | assumption | omega) (by first | assumption | omega) (by first | assumption | omega) (by first | assumption | omega)) (fun o3 q5 => ?_)
      obtain ⟨q5_0, q5_1⟩ := q5
      exact Go_i (show True from trivial)
set_option maxRecDepth 20000 in
theorem ok_X11_isAll (t_periodMany : Int) (t_period : Nat) (i1 : Int) (i2 : Int) (p0 : 1 ≤ t_periodMany) (p1 : t_periodMany ≤ 10) (p2 : (∀ k : Nat, k < 11 → 0 ≤ zget t_period k ∧ zget t_period k ≤ 20)) (p3 : 0 ≤ i1) (p4 : i1 ≤ 13) (p5 : -1 ≤ i2) (p6 : i2 ≤ 0) : Go (fun o => True) (zf_X11_isAll t_periodMany t_period i1 i2) := by
  unfold zf_X11_isAll
  refine jok (fun (s : zS_X11_isAll) => match s with | (lab, i1', i2', i4') => (lab = 0 ∧ 0 ≤ i1' ∧ i1' ≤ 13 ∧ -1 ≤ i2' ∧ i2' ≤ 0) ∨ (lab = 3 ∧ 0 ≤ i1' ∧ i1' ≤ 13 ∧ -1 ≤ i2' ∧ i2' ≤ 0 ∧ 0 ≤ i4' ∧ i4' ≤ t_periodMany)) (fun (s : zS_X11_isAll) => match s with | (lab, i1', i2', i4') => if lab = 0 then 50 else if lab = 3 then (20 - i4').toNat else 0) (fun (o : zO_X11_isAll) => True) ?_ _ ?_ ?_
  · intro s hI
    obtain ⟨lab, i1', i2', i4'⟩ := s
    have hI : (lab = 0 ∧ 0 ≤ i1' ∧ i1' ≤ 13 ∧ -1 ≤ i2' ∧ i2' ≤ 0) ∨ (lab = 3 ∧ 0 ≤ i1' ∧ i1' ≤ 13 ∧ -1 ≤ i2' ∧ i2' ≤ 0 ∧ 0 ≤ i4' ∧ i4' ≤ t_periodMany) := hI
    rcases hI with ⟨rfl, v0_0, v0_1, v0_2, v0_3⟩ | ⟨rfl, v3_0, v3_1, v3_2, v3_3, v3_4, v3_5⟩
    · show Go _ (zg_X11_isAll_0 t_periodMany t_period i1' i2' i4')
      unfold zg_X11_isAll_0
      exact Go_i (show (((3 : Nat) = 0 ∧ 0 ≤ (i1') ∧ (i1') ≤ 13 ∧ -1 ≤ (i2') ∧ (i2') ≤ 0) ∨ ((3 : Nat) = 3 ∧ 0 ≤ (i1') ∧ (i1') ≤ 13 ∧ -1 ≤ (i2') ∧ (i2') ≤ 0 ∧ 0 ≤ ((0 : Int)) ∧ ((0 : Int)) ≤ t_periodMany)) ∧ (20 - ((0 : Int))).toNat < 50 from ⟨Or.inr (⟨rfl, (by first | assumption | omega), (by first | assumption | omega), (by first | assumption | omega), (by first | assumption | omega), (by first | assumption | omega), (by first | assumption | omega)⟩), by omega⟩)
    · show Go _ (zg_X11_isAll_3 t_periodMany t_period i1' i2' i4')
      unfold zg_X11_isAll_3
      refine Go_chk (by unfold zout; omega) ?_
      refine Go_chk (by unfold zout; omega) ?_
      refine Go_ite (fun c1 => ?_) (fun c1 => ?_)
      · exact Go_i (show True from trivial)
      · refine Go_bindP (ok_X11_alongOf t_periodMany t_period i4' i1' (by first | assumption | omega) (by first | assumption | omega) (by first | assumption | exact all_w (by assumption) (by omega) | (refine all_setw ?_ (Int.le_refl _) ?_ ?_ (by omega) (by omega) <;> first | assumption | omega) | exact all_setw (by assumption) (by omega) (by omega) (by omega) (by omega) (by omega)) (by first | assumption | omega) (by first | assumption | omega) (by first | assumption | omega) (by first | assumption | omega)) (fun o3 q2 => ?_)
        obtain ⟨q2_0, q2_1⟩ := q2
        refine Go_chk (by unfold zoutL; omega) ?_
        refine Go_chk (by unfold zoutL; omega) ?_
        refine Go_ite (fun c3 => ?_) (fun c3 => ?_)
        · exact Go_i (show (((3 : Nat) = 0 ∧ 0 ≤ (i1') ∧ (i1') ≤ 13 ∧ -1 ≤ (i2') ∧ (i2') ≤ 0) ∨ ((3 : Nat) = 3 ∧ 0 ≤ (i1') ∧ (i1') ≤ 13 ∧ -1 ≤ (i2') ∧ (i2') ≤ 0 ∧ 0 ≤ ((i4' + (1 : Int))) ∧ ((i4' + (1 : Int))) ≤ t_periodMany)) ∧ (20 - ((i4' + (1 : Int)))).toNat < (20 - i4').toNat from ⟨Or.inr (⟨rfl, (by first | assumption | omega), (by first | assumption | omega), (by first | assumption | omega), (by first | assumption | omega), (by first | assumption | omega), (by first | assumption | omega)⟩), by omega⟩)
        · exact Go_i (show True from trivial)
  · exact (show ((0 : Nat) = 0 ∧ 0 ≤ i1 ∧ i1 ≤ 13 ∧ -1 ≤ i2 ∧ i2 ≤ 0) ∨ ((0 : Nat) = 3 ∧ 0 ≤ i1 ∧ i1 ≤ 13 ∧ -1 ≤ i2 ∧ i2 ≤ 0 ∧ 0 ≤ 0 ∧ 0 ≤ t_periodMany) from Or.inl (⟨rfl, (by first | assumption | omega), (by first | assumption | omega), (by first | assumption | omega), (by first | assumption | omega)⟩))
  · show 50 < jfuel
    unfold jfuel
    omega
set_option maxRecDepth 20000 in
theorem ok_X11_breaks (t_periodMany : Int) (t_period : Nat) (i1 : Int) (p0 : 1 ≤ t_periodMany) (p1 : t_periodMany ≤ 10) (p2 : (∀ k : Nat, k < 11 → 0 ≤ zget t_period k ∧ zget t_period k ≤ 20)) (p3 : -2147483648 ≤ i1) (p4 : i1 ≤ 2147483647) : Go (fun o => True) (zf_X11_breaks t_periodMany t_period i1) := by
  unfold zf_X11_breaks
  refine jok (fun (s : zS_X11_breaks) => match s with | (lab, i1', i2', i3') => (lab = 0 ∧ -2147483648 ≤ i1' ∧ i1' ≤ 2147483647) ∨ (lab = 13 ∧ -2147483648 ≤ i1' ∧ i1' ≤ 2147483647 ∧ 2 ≤ i2' ∧ i2' ≤ 13) ∨ (lab = 21 ∧ -2147483648 ≤ i1' ∧ i1' ≤ 2147483647 ∧ 2 ≤ i2' ∧ i2' ≤ 12 ∧ 0 ≤ i3' ∧ i3' ≤ t_periodMany)) (fun (s : zS_X11_breaks) => match s with | (lab, i1', i2', i3') => if lab = 0 then 10000 else if lab = 13 then (100 * (20 - i2') + 50).toNat else if lab = 21 then (100 * (20 - i2') + 20 - i3').toNat else 0) (fun (o : zO_X11_breaks) => True) ?_ _ ?_ ?_
  · intro s hI
    obtain ⟨lab, i1', i2', i3'⟩ := s
    have hI : (lab = 0 ∧ -2147483648 ≤ i1' ∧ i1' ≤ 2147483647) ∨ (lab = 13 ∧ -2147483648 ≤ i1' ∧ i1' ≤ 2147483647 ∧ 2 ≤ i2' ∧ i2' ≤ 13) ∨ (lab = 21 ∧ -2147483648 ≤ i1' ∧ i1' ≤ 2147483647 ∧ 2 ≤ i2' ∧ i2' ≤ 12 ∧ 0 ≤ i3' ∧ i3' ≤ t_periodMany) := hI
    rcases hI with ⟨rfl, v0_0, v0_1⟩ | ⟨rfl, v13_0, v13_1, v13_2, v13_3⟩ | ⟨rfl, v21_0, v21_1, v21_2, v21_3, v21_4, v21_5⟩
    · show Go _ (zg_X11_breaks_0 t_periodMany t_period i1' i2' i3')
      unfold zg_X11_breaks_0
      refine Go_bindP (ok_X11_in i1' (0 : Int) (2 : Int) (by first | assumption | omega) (by first | assumption | omega) (by first | assumption | omega) (by first | assumption | omega) (by first | assumption | omega) (by first | assumption | omega)) (fun o1 q1 => ?_)
      obtain ⟨q1_0, q1_1⟩ := q1
      refine Go_ite (fun c2 => ?_) (fun c2 => ?_)
      · have dc2 := q1_1 c2
        exact Go_i (show True from trivial)
      · have dc2 := q1_0 (bnf c2)
        exact Go_i (show (((13 : Nat) = 0 ∧ -2147483648 ≤ (i1') ∧ (i1') ≤ 2147483647) ∨ ((13 : Nat) = 13 ∧ -2147483648 ≤ (i1') ∧ (i1') ≤ 2147483647 ∧ 2 ≤ ((2 : Int)) ∧ ((2 : Int)) ≤ 13) ∨ ((13 : Nat) = 21 ∧ -2147483648 ≤ (i1') ∧ (i1') ≤ 2147483647 ∧ 2 ≤ ((2 : Int)) ∧ ((2 : Int)) ≤ 12 ∧ 0 ≤ (0) ∧ (0) ≤ t_periodMany)) ∧ (100 * (20 - ((2 : Int))) + 50).toNat < 10000 from ⟨Or.inr (Or.inl (⟨rfl, (by first | assumption | omega), (by first | assumption | omega), (by first | assumption | omega), (by first | assumption | omega)⟩)), by omega⟩)
    · show Go _ (zg_X11_breaks_13 t_periodMany t_period i1' i2' i3')
      unfold zg_X11_breaks_13
      refine Go_chk (by unfold zout; omega) ?_
      refine Go_ite (fun c3 => ?_) (fun c3 => ?_)
      · exact Go_i (show True from trivial)
      · exact Go_i (show (((21 : Nat) = 0 ∧ -2147483648 ≤ (i1') ∧ (i1') ≤ 2147483647) ∨ ((21 : Nat) = 13 ∧ -2147483648 ≤ (i1') ∧ (i1') ≤ 2147483647 ∧ 2 ≤ (i2') ∧ (i2') ≤ 13) ∨ ((21 : Nat) = 21 ∧ -2147483648 ≤ (i1') ∧ (i1') ≤ 2147483647 ∧ 2 ≤ (i2') ∧ (i2') ≤ 12 ∧ 0 ≤ ((0 : Int)) ∧ ((0 : Int)) ≤ t_periodMany)) ∧ (100 * (20 - (i2')) + 20 - ((0 : Int))).toNat < (100 * (20 - i2') + 50).toNat from ⟨Or.inr (Or.inr (⟨rfl, (by first | assumption | omega), (by first | assumption | omega), (by first | assumption | omega), (by first | assumption | omega), (by first | assumption | omega), (by first | assumption | omega)⟩)), by omega⟩)
    · show Go _ (zg_X11_breaks_21 t_periodMany t_period i1' i2' i3')
      unfold zg_X11_breaks_21
      refine Go_chk (by unfold zout; omega) ?_
      refine Go_chk (by unfold zout; omega) ?_
      refine Go_ite (fun c4 => ?_) (fun c4 => ?_)
      · exact Go_i (show (((13 : Nat) = 0 ∧ -2147483648 ≤ (i1') ∧ (i1') ≤ 2147483647) ∨ ((13 : Nat) = 13 ∧ -2147483648 ≤ (i1') ∧ (i1') ≤ 2147483647 ∧ 2 ≤ ((i2' + (1 : Int))) ∧ ((i2' + (1 : Int))) ≤ 13) ∨ ((13 : Nat) = 21 ∧ -2147483648 ≤ (i1') ∧ (i1') ≤ 2147483647 ∧ 2 ≤ ((i2' + (1 : Int))) ∧ ((i2' + (1 : Int))) ≤ 12 ∧ 0 ≤ (i3') ∧ (i3') ≤ t_periodMany)) ∧ (100 * (20 - ((i2' + (1 : Int)))) + 50).toNat < (100 * (20 - i2') + 20 - i3').toNat from ⟨Or.inr (Or.inl (⟨rfl, (by first | assumption | omega), (by first | assumption | omega), (by first | assumption | omega), (by first | assumption | omega)⟩)), by omega⟩)
      · refine Go_bindP (ok_X11_alongOf t_periodMany t_period i3' i2' (by first | assumption | omega) (by first | assumption | omega) (by first | assumption | exact all_w (by assumption) (by omega) | (refine all_setw ?_ (Int.le_refl _) ?_ ?_ (by omega) (by omega) <;> first | assumption | omega) | exact all_setw (by assumption) (by omega) (by omega) (by omega) (by omega) (by omega)) (by first | assumption | omega) (by first | assumption | omega) (by first | assumption | omega) (by first | assumption | omega)) (fun o7 q5 => ?_)
        obtain ⟨q5_0, q5_1⟩ := q5
        refine Go_chk (by unfold zoutL; omega) ?_
        refine Go_ite (fun c6 => ?_) (fun c6 => ?_)
        · refine Go_chk (by unfold zout; omega) ?_
          refine Go_ite (fun c7 => ?_) (fun c7 => ?_)
          · exact Go_i (show True from trivial)
          · refine Go_ite (fun c8 => ?_) (fun c8 => ?_)
            · exact Go_i (show True from trivial)
            · refine Go_bindP (ok_X11_isAll t_periodMany t_period i2' (0 : Int) (by first | assumption | omega) (by first | assumption | omega) (by first | assumption | exact all_w (by assumption) (by omega) | (refine all_setw ?_ (Int.le_refl _) ?_ ?_ (by omega) (by omega) <;> first | assumption | omega) | exact all_setw (by assumption) (by omega) (by omega) (by omega) (by omega) (by omega)) (by first | assumption | omega) (by first | assumption | omega) (by first | assumption | omega) (by first | assumption | omega)) (fun o10 q9 => ?_)
              refine Go_ite (fun c10 => ?_) (fun c10 => ?_)
              · exact Go_i (show True from trivial)
              · refine Go_chk (by unfold zout; omega) ?_
                refine Go_ite (fun c11 => ?_) (fun c11 => ?_)
                · exact Go_i (show True from trivial)
                · refine Go_bindP (ok_X11_isAll t_periodMany t_period (i2' + (1 : Int)) (-1 : Int) (by first | assumption | omega) (by first | assumption | omega) (by first | assumption | exact all_w (by assumption) (by omega) | (refine all_setw ?_ (Int.le_refl _) ?_ ?_ (by omega) (by omega) <;> first | assumption | omega) | exact all_setw (by assumption) (by omega) (by omega) (by omega) (by omega) (by omega)) (by first | assumption | omega) (by first | assumption | omega) (by first | assumption | omega) (by first | assumption | omega)) (fun o12 q12 => ?_)
                  refine Go_ite (fun c13 => ?_) (fun c13 => ?_)
                  · exact Go_i (show True from trivial)
                  · exact Go_i (show True from trivial)
        · exact Go_i (show (((21 : Nat) = 0 ∧ -2147483648 ≤ (i1') ∧ (i1') ≤ 2147483647) ∨ ((21 : Nat) = 13 ∧ -2147483648 ≤ (i1') ∧ (i1') ≤ 2147483647 ∧ 2 ≤ (i2') ∧ (i2') ≤ 13) ∨ ((21 : Nat) = 21 ∧ -2147483648 ≤ (i1') ∧ (i1') ≤ 2147483647 ∧ 2 ≤ (i2') ∧ (i2') ≤ 12 ∧ 0 ≤ ((i3' + (1 : Int))) ∧ ((i3' + (1 : Int))) ≤ t_periodMany)) ∧ (100 * (20 - (i2')) + 20 - ((i3' + (1 : Int)))).toNat < (100 * (20 - i2') + 20 - i3').toNat from ⟨Or.inr (Or.inr (⟨rfl, (by first | assumption | omega), (by first | assumption | omega), (by first | assumption | omega), (by first | assumption | omega), (by first | assumption | omega), (by first | assumption | omega)⟩)), by omega⟩)
  · exact (show ((0 : Nat) = 0 ∧ -2147483648 ≤ i1 ∧ i1 ≤ 2147483647) ∨ ((0 : Nat) = 13 ∧ -2147483648 ≤ i1 ∧ i1 ≤ 2147483647 ∧ 2 ≤ 0 ∧ 0 ≤ 13) ∨ ((0 : Nat) = 21 ∧ -2147483648 ≤ i1 ∧ i1 ≤ 2147483647 ∧ 2 ≤ 0 ∧ 0 ≤ 12 ∧ 0 ≤ 0 ∧ 0 ≤ t_periodMany) from Or.inl (⟨rfl, (by first | assumption | omega), (by first | assumption | omega)⟩))
  · show 10000 < jfuel
    unfold jfuel
    omega
set_option maxRecDepth 20000 in
theorem ok_X11_growth (t_periodMany : Int) (t_period : Nat) (p0 : 1 ≤ t_periodMany) (p1 : t_periodMany ≤ 10) (p2 : (∀ k : Nat, k < 11 → 0 ≤ zget t_period k ∧ zget t_period k ≤ 20)) : Go (fun o => True) (zf_X11_growth t_periodMany t_period) := by
  unfold zf_X11_growth
  refine Go_bindP (ok_X11_alongOf t_periodMany t_period (0 : Int) (t_periodMany + (1 : Int)) (by first | assumption | omega) (by first | assumption | omega) (by first | assumption | exact all_w (by assumption) (by omega) | (refine all_setw ?_ (Int.le_refl _) ?_ ?_ (by omega) (by omega) <;> first | assumption | omega) | exact all_setw (by assumption) (by omega) (by omega) (by omega) (by omega) (by omega)) (by first | assumption | omega) (by first | assumption | omega) (by first | assumption | omega) (by first | assumption | omega)) (fun o1 q1 => ?_)
  obtain ⟨q1_0, q1_1⟩ := q1
  refine Go_chk (by unfold zout; omega) ?_
  refine Go_chk (by omega) ?_
  have a2 := rtmod (a := (1 : Int)) (b := t_periodMany) (by omega) (by omega)
  refine Go_bindP (ok_X11_alongOf t_periodMany t_period (Int.tmod (1 : Int) t_periodMany) (t_periodMany - (1 : Int)) (by first | assumption | omega) (by first | assumption | omega) (by first | assumption | exact all_w (by assumption) (by omega) | (refine all_setw ?_ (Int.le_refl _) ?_ ?_ (by omega) (by omega) <;> first | assumption | omega) | exact all_setw (by assumption) (by omega) (by omega) (by omega) (by omega) (by omega)) (by first | assumption | omega) (by first | assumption | omega) (by first | assumption | omega) (by first | assumption | omega)) (fun o4 q3 => ?_)
  obtain ⟨q3_0, q3_1⟩ := q3
  exact Go_i (show True from trivial)
set_option maxRecDepth 20000 in
theorem ok_X11_see (t_corners : Int) (t_seenMany : Int) (t_lastTold : Int) (t_sTold : Nat) (t_sOne : Nat) (t_sTwo : Nat) (t_sEntry : Nat) (i1 : Int) (i2 : Int) (i3 : Int) (i4 : Int) (p0 : 4 ≤ t_corners) (p1 : t_corners ≤ 9) (p2 : 0 ≤ t_seenMany) (p3 : t_seenMany ≤ 20) (p4 : 0 ≤ t_lastTold) (p5 : t_lastTold ≤ 999) (p6 : -2147483648 ≤ i1) (p7 : i1 ≤ 2147483647) (p8 : -2147483648 ≤ i2) (p9 : i2 ≤ 2147483647) (p10 : -2147483648 ≤ i3) (p11 : i3 ≤ 2147483647) (p12 : -2147483648 ≤ i4) (p13 : i4 ≤ 2147483647) : Go (fun o => 0 ≤ (o.2.1) ∧ (o.2.1) ≤ 20 ∧ 0 ≤ (o.2.2.1) ∧ (o.2.2.1) ≤ 999) (zf_X11_see t_corners t_seenMany t_lastTold t_sTold t_sOne t_sTwo t_sEntry i1 i2 i3 i4) := by
  unfold zf_X11_see
  refine Go_bindP (ok_X11_in i1 t_lastTold (999 : Int) (by first | assumption | omega) (by first | assumption | omega) (by first | assumption | omega) (by first | assumption | omega) (by first | assumption | omega) (by first | assumption | omega)) (fun o1 q1 => ?_)
  obtain ⟨q1_0, q1_1⟩ := q1
  refine Go_ite (fun c2 => ?_) (fun c2 => ?_)
  · have dc2 := q1_1 c2
    exact Go_i (show 0 ≤ (t_seenMany) ∧ (t_seenMany) ≤ 20 ∧ 0 ≤ (t_lastTold) ∧ (t_lastTold) ≤ 999 from ⟨(by first | assumption | omega), (by first | assumption | omega), (by first | assumption | omega), (by first | assumption | omega)⟩)
  · have dc2 := q1_0 (bnf c2)
    refine Go_bindP (ok_X11_isCorner t_corners i2 (by first | assumption | omega) (by first | assumption | omega) (by first | assumption | omega) (by first | assumption | omega)) (fun o2 q3 => ?_)
    obtain ⟨q3_0, q3_1⟩ := q3
    refine Go_ite (fun c4 => ?_) (fun c4 => ?_)
    · have dc4 := q3_1 c4
      exact Go_i (show 0 ≤ (t_seenMany) ∧ (t_seenMany) ≤ 20 ∧ 0 ≤ (t_lastTold) ∧ (t_lastTold) ≤ 999 from ⟨(by first | assumption | omega), (by first | assumption | omega), (by first | assumption | omega), (by first | assumption | omega)⟩)
    · have dc4 := q3_0 (bnf c4)
      refine Go_bindP (ok_X11_isCorner t_corners i3 (by first | assumption | omega) (by first | assumption | omega) (by first | assumption | omega) (by first | assumption | omega)) (fun o3 q5 => ?_)
      obtain ⟨q5_0, q5_1⟩ := q5
      refine Go_ite (fun c6 => ?_) (fun c6 => ?_)
      · have dc6 := q5_1 c6
        exact Go_i (show 0 ≤ (t_seenMany) ∧ (t_seenMany) ≤ 20 ∧ 0 ≤ (t_lastTold) ∧ (t_lastTold) ≤ 999 from ⟨(by first | assumption | omega), (by first | assumption | omega), (by first | assumption | omega), (by first | assumption | omega)⟩)
      · have dc6 := q5_0 (bnf c6)
        refine Go_chk (by unfold zout; omega) ?_
        refine Go_chk (by unfold zout; omega) ?_
        refine Go_ite (fun c7 => ?_) (fun c7 => ?_)
        · exact Go_i (show 0 ≤ (t_seenMany) ∧ (t_seenMany) ≤ 20 ∧ 0 ≤ (t_lastTold) ∧ (t_lastTold) ≤ 999 from ⟨(by first | assumption | omega), (by first | assumption | omega), (by first | assumption | omega), (by first | assumption | omega)⟩)
        · refine Go_bindP (ok_X11_in i4 (0 : Int) (9999 : Int) (by first | assumption | omega) (by first | assumption | omega) (by first | assumption | omega) (by first | assumption | omega) (by first | assumption | omega) (by first | assumption | omega)) (fun o6 q8 => ?_)
          obtain ⟨q8_0, q8_1⟩ := q8
          refine Go_ite (fun c9 => ?_) (fun c9 => ?_)
          · have dc9 := q8_1 c9
            exact Go_i (show 0 ≤ (t_seenMany) ∧ (t_seenMany) ≤ 20 ∧ 0 ≤ (t_lastTold) ∧ (t_lastTold) ≤ 999 from ⟨(by first | assumption | omega), (by first | assumption | omega), (by first | assumption | omega), (by first | assumption | omega)⟩)
          · have dc9 := q8_0 (bnf c9)
            refine Go_chk (by unfold zout; omega) ?_
            refine Go_ite (fun c10 => ?_) (fun c10 => ?_)
            · exact Go_i (show 0 ≤ (t_seenMany) ∧ (t_seenMany) ≤ 20 ∧ 0 ≤ (t_lastTold) ∧ (t_lastTold) ≤ 999 from ⟨(by first | assumption | omega), (by first | assumption | omega), (by first | assumption | omega), (by first | assumption | omega)⟩)
            · refine Go_chk (by omega) ?_
              exact Go_i (show 0 ≤ ((t_seenMany + (1 : Int))) ∧ ((t_seenMany + (1 : Int))) ≤ 20 ∧ 0 ≤ (i1) ∧ (i1) ≤ 999 from ⟨(by first | assumption | omega), (by first | assumption | omega), (by first | assumption | omega), (by first | assumption | omega)⟩)
set_option maxRecDepth 20000 in
theorem ok_X11_right (t_seenMany : Int) (t_rightMany : Int) (t_lastTold : Int) (t_rTold : Nat) (t_rOf : Nat) (t_rEntry : Nat) (i1 : Int) (i2 : Int) (i3 : Int) (p0 : 0 ≤ t_seenMany) (p1 : t_seenMany ≤ 20) (p2 : 0 ≤ t_rightMany) (p3 : t_rightMany ≤ 20) (p4 : 0 ≤ t_lastTold) (p5 : t_lastTold ≤ 999) (p6 : -2147483648 ≤ i1) (p7 : i1 ≤ 2147483647) (p8 : -2147483648 ≤ i2) (p9 : i2 ≤ 2147483647) (p10 : -2147483648 ≤ i3) (p11 : i3 ≤ 2147483647) : Go (fun o => 0 ≤ (o.2.1) ∧ (o.2.1) ≤ 20 ∧ 0 ≤ (o.2.2.1) ∧ (o.2.2.1) ≤ 999) (zf_X11_right t_seenMany t_rightMany t_lastTold t_rTold t_rOf t_rEntry i1 i2 i3) := by
  unfold zf_X11_right
  refine jok (fun (s : zS_X11_right) => match s with | (lab, i1', i2', i3', i4', i5', t_rightMany', t_lastTold', t_rTold', t_rOf', t_rEntry') => (lab = 0 ∧ -2147483648 ≤ i1' ∧ i1' ≤ 2147483647 ∧ -2147483648 ≤ i2' ∧ i2' ≤ 2147483647 ∧ -2147483648 ≤ i3' ∧ i3' ≤ 2147483647 ∧ 0 ≤ t_rightMany' ∧ t_rightMany' ≤ 20 ∧ 0 ≤ t_lastTold' ∧ t_lastTold' ≤ 999) ∨ (lab = 105 ∧ -2147483648 ≤ i2' ∧ i2' ≤ 2147483647 ∧ 0 ≤ t_rightMany' ∧ t_rightMany' ≤ 20 ∧ 0 ≤ t_lastTold' ∧ t_lastTold' ≤ 999 ∧ 0 ≤ i5' ∧ i5' ≤ t_rightMany')) (fun (s : zS_X11_right) => match s with | (lab, i1', i2', i3', i4', i5', t_rightMany', t_lastTold', t_rTold', t_rOf', t_rEntry') => if lab = 0 then 50 else if lab = 105 then (30 - i5').toNat else 0) (fun (o : zO_X11_right) => 0 ≤ (o.2.1) ∧ (o.2.1) ≤ 20 ∧ 0 ≤ (o.2.2.1) ∧ (o.2.2.1) ≤ 999) ?_ _ ?_ ?_
  · intro s hI
    obtain ⟨lab, i1', i2', i3', i4', i5', t_rightMany', t_lastTold', t_rTold', t_rOf', t_rEntry'⟩ := s
    have hI : (lab = 0 ∧ -2147483648 ≤ i1' ∧ i1' ≤ 2147483647 ∧ -2147483648 ≤ i2' ∧ i2' ≤ 2147483647 ∧ -2147483648 ≤ i3' ∧ i3' ≤ 2147483647 ∧ 0 ≤ t_rightMany' ∧ t_rightMany' ≤ 20 ∧ 0 ≤ t_lastTold' ∧ t_lastTold' ≤ 999) ∨ (lab = 105 ∧ -2147483648 ≤ i2' ∧ i2' ≤ 2147483647 ∧ 0 ≤ t_rightMany' ∧ t_rightMany' ≤ 20 ∧ 0 ≤ t_lastTold' ∧ t_lastTold' ≤ 999 ∧ 0 ≤ i5' ∧ i5' ≤ t_rightMany') := hI
    rcases hI with ⟨rfl, v0_0, v0_1, v0_2, v0_3, v0_4, v0_5, v0_6, v0_7, v0_8, v0_9⟩ | ⟨rfl, v105_0, v105_1, v105_2, v105_3, v105_4, v105_5, v105_6, v105_7⟩
    · show Go _ (zg_X11_right_0 t_seenMany i1' i2' i3' i4' i5' t_rightMany' t_lastTold' t_rTold' t_rOf' t_rEntry')
      unfold zg_X11_right_0
      refine Go_bindP (ok_X11_in i1' t_lastTold' (999 : Int) (by first | assumption | omega) (by first | assumption | omega) (by first | assumption | omega) (by first | assumption | omega) (by first | assumption | omega) (by first | assumption | omega)) (fun o1 q1 => ?_)
      obtain ⟨q1_0, q1_1⟩ := q1
      refine Go_ite (fun c2 => ?_) (fun c2 => ?_)
      · have dc2 := q1_1 c2
        exact Go_i (show 0 ≤ (t_rightMany') ∧ (t_rightMany') ≤ 20 ∧ 0 ≤ (t_lastTold') ∧ (t_lastTold') ≤ 999 from ⟨(by first | assumption | omega), (by first | assumption | omega), (by first | assumption | omega), (by first | assumption | omega)⟩)
      · have dc2 := q1_0 (bnf c2)
        refine Go_bindP (ok_X11_in i2' (0 : Int) (t_seenMany - (1 : Int)) (by first | assumption | omega) (by first | assumption | omega) (by first | assumption | omega) (by first | assumption | omega) (by first | assumption | omega) (by first | assumption | omega)) (fun o2 q3 => ?_)
        obtain ⟨q3_0, q3_1⟩ := q3
        refine Go_ite (fun c4 => ?_) (fun c4 => ?_)
        · have dc4 := q3_1 c4
          exact Go_i (show 0 ≤ (t_rightMany') ∧ (t_rightMany') ≤ 20 ∧ 0 ≤ (t_lastTold') ∧ (t_lastTold') ≤ 999 from ⟨(by first | assumption | omega), (by first | assumption | omega), (by first | assumption | omega), (by first | assumption | omega)⟩)
        · have dc4 := q3_0 (bnf c4)
          refine Go_bindP (ok_X11_in i3' (0 : Int) (9999 : Int) (by first | assumption | omega) (by first | assumption | omega) (by first | assumption | omega) (by first | assumption | omega) (by first | assumption | omega) (by first | assumption | omega)) (fun o3 q5 => ?_)
          obtain ⟨q5_0, q5_1⟩ := q5
          refine Go_ite (fun c6 => ?_) (fun c6 => ?_)
          · have dc6 := q5_1 c6
            exact Go_i (show 0 ≤ (t_rightMany') ∧ (t_rightMany') ≤ 20 ∧ 0 ≤ (t_lastTold') ∧ (t_lastTold') ≤ 999 from ⟨(by first | assumption | omega), (by first | assumption | omega), (by first | assumption | omega), (by first | assumption | omega)⟩)
          · have dc6 := q5_0 (bnf c6)
            refine Go_chk (by unfold zout; omega) ?_
            refine Go_ite (fun c7 => ?_) (fun c7 => ?_)
            · exact Go_i (show 0 ≤ (t_rightMany') ∧ (t_rightMany') ≤ 20 ∧ 0 ≤ (t_lastTold') ∧ (t_lastTold') ≤ 999 from ⟨(by first | assumption | omega), (by first | assumption | omega), (by first | assumption | omega), (by first | assumption | omega)⟩)
            · refine Go_chk (by omega) ?_
              exact Go_i (show (((105 : Nat) = 0 ∧ -2147483648 ≤ (i1') ∧ (i1') ≤ 2147483647 ∧ -2147483648 ≤ (i2') ∧ (i2') ≤ 2147483647 ∧ -2147483648 ≤ (i3') ∧ (i3') ≤ 2147483647 ∧ 0 ≤ ((t_rightMany' + (1 : Int))) ∧ ((t_rightMany' + (1 : Int))) ≤ 20 ∧ 0 ≤ (i1') ∧ (i1') ≤ 999) ∨ ((105 : Nat) = 105 ∧ -2147483648 ≤ (i2') ∧ (i2') ≤ 2147483647 ∧ 0 ≤ ((t_rightMany' + (1 : Int))) ∧ ((t_rightMany' + (1 : Int))) ≤ 20 ∧ 0 ≤ (i1') ∧ (i1') ≤ 999 ∧ 0 ≤ ((0 : Int)) ∧ ((0 : Int)) ≤ ((t_rightMany' + (1 : Int))))) ∧ (30 - ((0 : Int))).toNat < 50 from ⟨Or.inr (⟨rfl, (by first | assumption | omega), (by first | assumption | omega), (by first | assumption | omega), (by first | assumption | omega), (by first | assumption | omega), (by first | assumption | omega), (by first | assumption | omega), (by first | assumption | omega)⟩), by omega⟩)
    · show Go _ (zg_X11_right_105 t_seenMany i1' i2' i3' i4' i5' t_rightMany' t_lastTold' t_rTold' t_rOf' t_rEntry')
      unfold zg_X11_right_105
      refine Go_chk (by unfold zout; omega) ?_
      refine Go_chk (by unfold zout; omega) ?_
      refine Go_ite (fun c8 => ?_) (fun c8 => ?_)
      · exact Go_i (show 0 ≤ (t_rightMany') ∧ (t_rightMany') ≤ 20 ∧ 0 ≤ (t_lastTold') ∧ (t_lastTold') ≤ 999 from ⟨(by first | assumption | omega), (by first | assumption | omega), (by first | assumption | omega), (by first | assumption | omega)⟩)
      · refine Go_chk (by omega) ?_
        refine Go_chk (by unfold zout; omega) ?_
        have a9 := rget t_rOf' (Int.toNat i5')
        refine Go_ite (fun c10 => ?_) (fun c10 => ?_)
        · exact Go_i (show (((105 : Nat) = 0 ∧ -2147483648 ≤ (0) ∧ (0) ≤ 2147483647 ∧ -2147483648 ≤ (i2') ∧ (i2') ≤ 2147483647 ∧ -2147483648 ≤ (0) ∧ (0) ≤ 2147483647 ∧ 0 ≤ (t_rightMany') ∧ (t_rightMany') ≤ 20 ∧ 0 ≤ (t_lastTold') ∧ (t_lastTold') ≤ 999) ∨ ((105 : Nat) = 105 ∧ -2147483648 ≤ (i2') ∧ (i2') ≤ 2147483647 ∧ 0 ≤ (t_rightMany') ∧ (t_rightMany') ≤ 20 ∧ 0 ≤ (t_lastTold') ∧ (t_lastTold') ≤ 999 ∧ 0 ≤ ((i5' + (1 : Int))) ∧ ((i5' + (1 : Int))) ≤ (t_rightMany'))) ∧ (30 - ((i5' + (1 : Int)))).toNat < (30 - i5').toNat from ⟨Or.inr (⟨rfl, (by first | assumption | omega), (by first | assumption | omega), (by first | assumption | omega), (by first | assumption | omega), (by first | assumption | omega), (by first | assumption | omega), (by first | assumption | omega), (by first | assumption | omega)⟩), by omega⟩)
        · exact Go_i (show (((105 : Nat) = 0 ∧ -2147483648 ≤ (0) ∧ (0) ≤ 2147483647 ∧ -2147483648 ≤ (i2') ∧ (i2') ≤ 2147483647 ∧ -2147483648 ≤ (0) ∧ (0) ≤ 2147483647 ∧ 0 ≤ (t_rightMany') ∧ (t_rightMany') ≤ 20 ∧ 0 ≤ (t_lastTold') ∧ (t_lastTold') ≤ 999) ∨ ((105 : Nat) = 105 ∧ -2147483648 ≤ (i2') ∧ (i2') ≤ 2147483647 ∧ 0 ≤ (t_rightMany') ∧ (t_rightMany') ≤ 20 ∧ 0 ≤ (t_lastTold') ∧ (t_lastTold') ≤ 999 ∧ 0 ≤ ((i5' + (1 : Int))) ∧ ((i5' + (1 : Int))) ≤ (t_rightMany'))) ∧ (30 - ((i5' + (1 : Int)))).toNat < (30 - i5').toNat from ⟨Or.inr (⟨rfl, (by first | assumption | omega), (by first | assumption | omega), (by first | assumption | omega), (by first | assumption | omega), (by first | assumption | omega), (by first | assumption | omega), (by first | assumption | omega), (by first | assumption | omega)⟩), by omega⟩)
  · exact (show ((0 : Nat) = 0 ∧ -2147483648 ≤ i1 ∧ i1 ≤ 2147483647 ∧ -2147483648 ≤ i2 ∧ i2 ≤ 2147483647 ∧ -2147483648 ≤ i3 ∧ i3 ≤ 2147483647 ∧ 0 ≤ t_rightMany ∧ t_rightMany ≤ 20 ∧ 0 ≤ t_lastTold ∧ t_lastTold ≤ 999) ∨ ((0 : Nat) = 105 ∧ -2147483648 ≤ i2 ∧ i2 ≤ 2147483647 ∧ 0 ≤ t_rightMany ∧ t_rightMany ≤ 20 ∧ 0 ≤ t_lastTold ∧ t_lastTold ≤ 999 ∧ 0 ≤ 0 ∧ 0 ≤ t_rightMany) from Or.inl (⟨rfl, (by first | assumption | omega), (by first | assumption | omega), (by first | assumption | omega), (by first | assumption | omega), (by first | assumption | omega), (by first | assumption | omega), (by first | assumption | omega), (by first | assumption | omega), (by first | assumption | omega), (by first | assumption | omega)⟩))
  · show 50 < jfuel
    unfold jfuel
    omega
set_option maxRecDepth 20000 in
theorem ok_X11_count (t_taped : Int) (t_seenMany : Int) (t_rightMany : Int) (i1 : Int) (p0 : -2147483648 ≤ i1) (p1 : i1 ≤ 2147483647) : Go (fun o => True) (zf_X11_count t_taped t_seenMany t_rightMany i1) := by
  unfold zf_X11_count
  refine Go_chk (by unfold zout; omega) ?_
  refine Go_ite (fun c1 => ?_) (fun c1 => ?_)
  · exact Go_i (show True from trivial)
  · refine Go_ite (fun c2 => ?_) (fun c2 => ?_)
    · exact Go_i (show True from trivial)
    · refine Go_ite (fun c3 => ?_) (fun c3 => ?_)
      · exact Go_i (show True from trivial)
      · exact Go_i (show True from trivial)
