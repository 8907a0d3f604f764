section
set_option maxRecDepth 20000 in
theorem ok_X11_isNext (i0 : Int) (i1 : Int) (i2 : Int) (p0 : 4 ≤ i0) (p1 : i0 ≤ 9) (p2 : 0 ≤ i1) (p3 : i1 < i0) (p4 : 0 ≤ i2) (p5 : i2 < i0) : Go (fun o => True) (zf_X11_isNext i0 i1 i2) := by
  unfold zf_X11_isNext
  refine Go_chk (by unfold zout; omega) ?_
  refine Go_chk (by unfold zout; omega) ?_
  refine Go_chk (by omega) ?_
  have a1 := rtmod (a := (i1 + (1 : Int))) (b := i0) (by omega) (by omega)
  refine Go_chk (by unfold zout; omega) ?_
  refine Go_chk (by unfold zout; omega) ?_
  refine Go_ite (fun c2 => ?_) (fun c2 => ?_)
  · exact Go_i (show True from trivial)
  · refine Go_chk (by unfold zout; omega) ?_
    refine Go_chk (by omega) ?_
    have a3 := rtmod (a := (i2 + (1 : Int))) (b := i0) (by omega) (by omega)
    refine Go_chk (by unfold zout; omega) ?_
    refine Go_chk (by unfold zout; omega) ?_
    refine Go_ite (fun c4 => ?_) (fun c4 => ?_)
    · exact Go_i (show True from trivial)
    · exact Go_i (show True from trivial)
set_option maxRecDepth 20000 in
theorem ok_X11_isLine (i0 : Int) (i1 : Int) (i2 : Int) (p0 : 4 ≤ i0) (p1 : i0 ≤ 9) (p2 : 0 ≤ i1) (p3 : i1 < i0) (p4 : 0 ≤ i2) (p5 : i2 < i0) : Go (fun o => ((o) = true → ¬ i1 = i2) ∧ ((o) = false → True)) (zf_X11_isLine i0 i1 i2) := by
  unfold zf_X11_isLine
  refine Go_chk (by unfold zout; omega) ?_
  refine Go_chk (by unfold zout; omega) ?_
  refine Go_ite (fun c1 => ?_) (fun c1 => ?_)
  · exact Go_i (show ((false) = true → ¬ i1 = i2) ∧ ((false) = false → True) from ⟨(by intro h; first | exact True.intro | omega | (exact absurd h (by decide))), (by intro h; first | exact True.intro | omega | (exact absurd h (by decide)))⟩)
  · refine Go_bindP (ok_X11_isNext i0 i1 i2 (by first | assumption | omega) (by first | assumption | omega) (by first | assumption | omega) (by first | assumption | omega) (by first | assumption | omega) (by first | assumption | omega)) (fun o3 q2 => ?_)
    refine Go_ite (fun c3 => ?_) (fun c3 => ?_)
    · exact Go_i (show ((true) = true → ¬ i1 = i2) ∧ ((true) = false → True) from ⟨(by intro h; first | exact True.intro | omega | (exact absurd h (by decide))), (by intro h; first | exact True.intro | omega | (exact absurd h (by decide)))⟩)
    · exact Go_i (show ((false) = true → ¬ i1 = i2) ∧ ((false) = false → True) from ⟨(by intro h; first | exact True.intro | omega | (exact absurd h (by decide))), (by intro h; first | exact True.intro | omega | (exact absurd h (by decide)))⟩)
set_option maxRecDepth 20000 in
theorem ok_X11_isBetween (i0 : Int) (i1 : Int) (i2 : Int) (i3 : Int) (p0 : 4 ≤ i0) (p1 : i0 ≤ 9) (p2 : 0 ≤ i1) (p3 : i1 < i0) (p4 : 0 ≤ i2) (p5 : i2 < i0) (p6 : 0 ≤ i3) (p7 : i3 < i0) : Go (fun o => True) (zf_X11_isBetween i0 i1 i2 i3) := by
  unfold zf_X11_isBetween
  refine Go_chk (by unfold zout; omega) ?_
  refine Go_chk (by unfold zout; omega) ?_
  refine Go_ite (fun c1 => ?_) (fun c1 => ?_)
  · exact Go_i (show True from trivial)
  · refine Go_chk (by unfold zout; omega) ?_
    refine Go_ite (fun c2 => ?_) (fun c2 => ?_)
    · exact Go_i (show True from trivial)
    · refine Go_chk (by unfold zout; omega) ?_
      refine Go_chk (by unfold zout; omega) ?_
      refine Go_chk (by omega) ?_
      refine Go_chk (by unfold zout; omega) ?_
      refine Go_chk (by omega) ?_
      have a3 := rtmod (a := ((i2 - i1) + i0)) (b := i0) (by omega) (by omega)
      refine Go_chk (by unfold zout; omega) ?_
      have a4 := rtmod (a := ((i3 - i1) + i0)) (b := i0) (by omega) (by omega)
      refine Go_chk (by unfold zout; omega) ?_
      refine Go_ite (fun c5 => ?_) (fun c5 => ?_)
      · exact Go_i (show True from trivial)
      · exact Go_i (show True from trivial)
set_option maxRecDepth 20000 in
theorem ok_X11_isCross (i0 : Int) (i1 : Int) (i2 : Int) (i3 : Int) (i4 : Int) (p0 : 4 ≤ i0) (p1 : i0 ≤ 9) (p2 : 0 ≤ i1) (p3 : i1 < i0) (p4 : 0 ≤ i2) (p5 : i2 < i0) (p6 : 0 ≤ i3) (p7 : i3 < i0) (p8 : 0 ≤ i4) (p9 : i4 < i0) : Go (fun o => True) (zf_X11_isCross i0 i1 i2 i3 i4) := by
  unfold zf_X11_isCross
  refine Go_chk (by unfold zout; omega) ?_
  refine Go_chk (by unfold zout; omega) ?_
  refine Go_ite (fun c1 => ?_) (fun c1 => ?_)
  · exact Go_i (show True from trivial)
  · refine Go_chk (by unfold zout; omega) ?_
    refine Go_ite (fun c2 => ?_) (fun c2 => ?_)
    · exact Go_i (show True from trivial)
    · refine Go_chk (by unfold zout; omega) ?_
      refine Go_ite (fun c3 => ?_) (fun c3 => ?_)
      · exact Go_i (show True from trivial)
      · refine Go_ite (fun c4 => ?_) (fun c4 => ?_)
        · exact Go_i (show True from trivial)
        · refine Go_bindP (ok_X11_isBetween i0 i1 i3 i2 (by first | assumption | omega) (by first | assumption | omega) (by first | assumption | omega) (by first | assumption | omega) (by first | assumption | omega) (by first | assumption | omega) (by first | assumption | omega) (by first | assumption | omega)) (fun o5 q5 => ?_)
          refine Go_bindP (ok_X11_isBetween i0 i1 i4 i2 (by first | assumption | omega) (by first | assumption | omega) (by first | assumption | omega) (by first | assumption | omega) (by first | assumption | omega) (by first | assumption | omega) (by first | assumption | omega) (by first | assumption | omega)) (fun o6 q6 => ?_)
          have a7 := rbI o6
          have a8 := rbI o5
          refine Go_ite (fun c9 => ?_) (fun c9 => ?_)
          · exact Go_i (show True from trivial)
          · exact Go_i (show True from trivial)
set_option maxRecDepth 20000 in
theorem ok_X11_in (i0 : Int) (i1 : Int) (i2 : Int) (p0 : -2147483648 ≤ i0) (p1 : i0 ≤ 2147483647) (p2 : -2147483648 ≤ i1) (p3 : i1 ≤ 2147483647) (p4 : -2147483648 ≤ i2) (p5 : i2 ≤ 2147483647) : Go (fun o => ((o) = true → i1 ≤ i0 ∧ i0 ≤ i2) ∧ ((o) = false → ¬ (i1 ≤ i0 ∧ i0 ≤ i2))) (zf_X11_in i0 i1 i2) := by
  unfold zf_X11_in
  refine Go_chk (by unfold zout; omega) ?_
  refine Go_chk (by unfold zout; omega) ?_
  refine Go_ite (fun c1 => ?_) (fun c1 => ?_)
  · exact Go_i (show ((false) = true → i1 ≤ i0 ∧ i0 ≤ i2) ∧ ((false) = false → ¬ (i1 ≤ i0 ∧ i0 ≤ i2)) from ⟨(by intro h; first | exact True.intro | omega | (exact absurd h (by decide))), (by intro h; first | exact True.intro | omega | (exact absurd h (by decide)))⟩)
  · refine Go_chk (by unfold zout; omega) ?_
    refine Go_ite (fun c2 => ?_) (fun c2 => ?_)
    · exact Go_i (show ((false) = true → i1 ≤ i0 ∧ i0 ≤ i2) ∧ ((false) = false → ¬ (i1 ≤ i0 ∧ i0 ≤ i2)) from ⟨(by intro h; first | exact True.intro | omega | (exact absurd h (by decide))), (by intro h; first | exact True.intro | omega | (exact absurd h (by decide)))⟩)
    · exact Go_i (show ((true) = true → i1 ≤ i0 ∧ i0 ≤ i2) ∧ ((true) = false → ¬ (i1 ≤ i0 ∧ i0 ≤ i2)) from ⟨(by intro h; first | exact True.intro | omega | (exact absurd h (by decide))), (by intro h; first | exact True.intro | omega | (exact absurd h (by decide)))⟩)
set_option maxRecDepth 20000 in
theorem ok_X11_feed (t_taped : Int) (t_tape : Nat) (i1 : Int) (i2 : Int) (i3 : Int) (i4 : Int) (i5 : Int) (p0 : 0 ≤ t_taped) (p1 : t_taped ≤ 300) : Go (fun o => 0 ≤ (o.2.1) ∧ (o.2.1) ≤ 300 ∧ (t_taped ≤ 280 → (o.2.1) = t_taped + 20 ∧ (o.1) = (o.2.1)) ∧ (280 < t_taped → (o.2.1) = t_taped ∧ (o.1) = -3)) (zf_X11_feed t_taped t_tape i1 i2 i3 i4 i5) := by
  unfold zf_X11_feed
  refine jok (fun (s : zS_X11_feed) => match s with | (lab, i1', i2', i3', i4', i5', i6', i7', i8', t_taped', t_tape') => (lab = 0 ∧ t_taped' = t_taped) ∨ (lab = 19 ∧ 0 ≤ i6' ∧ i6' ≤ 5 ∧ t_taped ≤ 280 ∧ t_taped' = t_taped + 4 * i6') ∨ (lab = 73 ∧ 0 ≤ i6' ∧ i6' ≤ 4 ∧ t_taped ≤ 280 ∧ -8 ≤ i8' ∧ i8' ≤ 24 ∧ 8 * (t_taped' - t_taped - 4 * i6') + i8' = 24)) (fun (s : zS_X11_feed) => match s with | (lab, i1', i2', i3', i4', i5', i6', i7', i8', t_taped', t_tape') => if lab = 0 then 1000 else if lab = 19 then (100 * (6 - i6') + 60).toNat else if lab = 73 then (100 * (6 - i6') + i8' + 8).toNat else 0) (fun (o : zO_X11_feed) => 0 ≤ (o.2.1) ∧ (o.2.1) ≤ 300 ∧ (t_taped ≤ 280 → (o.2.1) = t_taped + 20 ∧ (o.1) = (o.2.1)) ∧ (280 < t_taped → (o.2.1) = t_taped ∧ (o.1) = -3)) ?_ _ ?_ ?_
  · intro s hI
    obtain ⟨lab, i1', i2', i3', i4', i5', i6', i7', i8', t_taped', t_tape'⟩ := s
    have hI : (lab = 0 ∧ t_taped' = t_taped) ∨ (lab = 19 ∧ 0 ≤ i6' ∧ i6' ≤ 5 ∧ t_taped ≤ 280 ∧ t_taped' = t_taped + 4 * i6') ∨ (lab = 73 ∧ 0 ≤ i6' ∧ i6' ≤ 4 ∧ t_taped ≤ 280 ∧ -8 ≤ i8' ∧ i8' ≤ 24 ∧ 8 * (t_taped' - t_taped - 4 * i6') + i8' = 24) := hI
    rcases hI with ⟨rfl, v0_0⟩ | ⟨rfl, v19_0, v19_1, v19_2, v19_3⟩ | ⟨rfl, v73_0, v73_1, v73_2, v73_3, v73_4, v73_5⟩
    · show Go _ (zg_X11_feed_0 i1' i2' i3' i4' i5' i6' i7' i8' t_taped' t_tape')
      unfold zg_X11_feed_0
      refine Go_chk (by unfold zout; omega) ?_
      refine Go_ite (fun c1 => ?_) (fun c1 => ?_)
      · exact Go_i (show (((19 : Nat) = 0 ∧ (t_taped') = t_taped) ∨ ((19 : Nat) = 19 ∧ 0 ≤ ((0 : Int)) ∧ ((0 : Int)) ≤ 5 ∧ t_taped ≤ 280 ∧ (t_taped') = t_taped + 4 * ((0 : Int))) ∨ ((19 : Nat) = 73 ∧ 0 ≤ ((0 : Int)) ∧ ((0 : Int)) ≤ 4 ∧ t_taped ≤ 280 ∧ -8 ≤ (0) ∧ (0) ≤ 24 ∧ 8 * ((t_taped') - t_taped - 4 * ((0 : Int))) + (0) = 24)) ∧ (100 * (6 - ((0 : Int))) + 60).toNat < 1000 from ⟨Or.inr (Or.inl (⟨rfl, (by first | assumption | omega), (by first | assumption | omega), (by first | assumption | omega), (by first | assumption | omega)⟩)), by omega⟩)
      · exact Go_i (show 0 ≤ (t_taped') ∧ (t_taped') ≤ 300 ∧ (t_taped ≤ 280 → (t_taped') = t_taped + 20 ∧ ((-3 : Int)) = (t_taped')) ∧ (280 < t_taped → (t_taped') = t_taped ∧ ((-3 : Int)) = -3) from ⟨(by first | assumption | omega), (by first | assumption | omega), (by intro h; first | exact True.intro | omega | (refine ⟨?_, ?_⟩ <;> omega)), (by intro h; first | exact True.intro | omega | (refine ⟨?_, ?_⟩ <;> omega))⟩)
    · show Go _ (zg_X11_feed_19 i1' i2' i3' i4' i5' i6' i7' i8' t_taped' t_tape')
      unfold zg_X11_feed_19
      refine Go_chk (by unfold zout; omega) ?_
      refine Go_ite (fun c2 => ?_) (fun c2 => ?_)
      · exact Go_i (show 0 ≤ (t_taped') ∧ (t_taped') ≤ 300 ∧ (t_taped ≤ 280 → (t_taped') = t_taped + 20 ∧ (t_taped') = (t_taped')) ∧ (280 < t_taped → (t_taped') = t_taped ∧ (t_taped') = -3) from ⟨(by first | assumption | omega), (by first | assumption | omega), (by intro h; first | exact True.intro | omega | (refine ⟨?_, ?_⟩ <;> omega)), (by intro h; first | exact True.intro | omega | (refine ⟨?_, ?_⟩ <;> omega))⟩)
      · refine Go_ite (fun c3 => ?_) (fun c3 => ?_)
        · exact Go_i (show (((73 : Nat) = 0 ∧ (t_taped') = t_taped) ∨ ((73 : Nat) = 19 ∧ 0 ≤ (i6') ∧ (i6') ≤ 5 ∧ t_taped ≤ 280 ∧ (t_taped') = t_taped + 4 * (i6')) ∨ ((73 : Nat) = 73 ∧ 0 ≤ (i6') ∧ (i6') ≤ 4 ∧ t_taped ≤ 280 ∧ -8 ≤ ((24 : Int)) ∧ ((24 : Int)) ≤ 24 ∧ 8 * ((t_taped') - t_taped - 4 * (i6')) + ((24 : Int)) = 24)) ∧ (100 * (6 - (i6')) + ((24 : Int)) + 8).toNat < (100 * (6 - i6') + 60).toNat from ⟨Or.inr (Or.inr (⟨rfl, (by first | assumption | omega), (by first | assumption | omega), (by first | assumption | omega), (by first | assumption | omega), (by first | assumption | omega), (by first | assumption | omega)⟩)), by omega⟩)
        · refine Go_ite (fun c4 => ?_) (fun c4 => ?_)
          · exact Go_i (show (((73 : Nat) = 0 ∧ (t_taped') = t_taped) ∨ ((73 : Nat) = 19 ∧ 0 ≤ (i6') ∧ (i6') ≤ 5 ∧ t_taped ≤ 280 ∧ (t_taped') = t_taped + 4 * (i6')) ∨ ((73 : Nat) = 73 ∧ 0 ≤ (i6') ∧ (i6') ≤ 4 ∧ t_taped ≤ 280 ∧ -8 ≤ ((24 : Int)) ∧ ((24 : Int)) ≤ 24 ∧ 8 * ((t_taped') - t_taped - 4 * (i6')) + ((24 : Int)) = 24)) ∧ (100 * (6 - (i6')) + ((24 : Int)) + 8).toNat < (100 * (6 - i6') + 60).toNat from ⟨Or.inr (Or.inr (⟨rfl, (by first | assumption | omega), (by first | assumption | omega), (by first | assumption | omega), (by first | assumption | omega), (by first | assumption | omega), (by first | assumption | omega)⟩)), by omega⟩)
          · refine Go_ite (fun c5 => ?_) (fun c5 => ?_)
            · exact Go_i (show (((73 : Nat) = 0 ∧ (t_taped') = t_taped) ∨ ((73 : Nat) = 19 ∧ 0 ≤ (i6') ∧ (i6') ≤ 5 ∧ t_taped ≤ 280 ∧ (t_taped') = t_taped + 4 * (i6')) ∨ ((73 : Nat) = 73 ∧ 0 ≤ (i6') ∧ (i6') ≤ 4 ∧ t_taped ≤ 280 ∧ -8 ≤ ((24 : Int)) ∧ ((24 : Int)) ≤ 24 ∧ 8 * ((t_taped') - t_taped - 4 * (i6')) + ((24 : Int)) = 24)) ∧ (100 * (6 - (i6')) + ((24 : Int)) + 8).toNat < (100 * (6 - i6') + 60).toNat from ⟨Or.inr (Or.inr (⟨rfl, (by first | assumption | omega), (by first | assumption | omega), (by first | assumption | omega), (by first | assumption | omega), (by first | assumption | omega), (by first | assumption | omega)⟩)), by omega⟩)
            · refine Go_ite (fun c6 => ?_) (fun c6 => ?_)
              · exact Go_i (show (((73 : Nat) = 0 ∧ (t_taped') = t_taped) ∨ ((73 : Nat) = 19 ∧ 0 ≤ (i6') ∧ (i6') ≤ 5 ∧ t_taped ≤ 280 ∧ (t_taped') = t_taped + 4 * (i6')) ∨ ((73 : Nat) = 73 ∧ 0 ≤ (i6') ∧ (i6') ≤ 4 ∧ t_taped ≤ 280 ∧ -8 ≤ ((24 : Int)) ∧ ((24 : Int)) ≤ 24 ∧ 8 * ((t_taped') - t_taped - 4 * (i6')) + ((24 : Int)) = 24)) ∧ (100 * (6 - (i6')) + ((24 : Int)) + 8).toNat < (100 * (6 - i6') + 60).toNat from ⟨Or.inr (Or.inr (⟨rfl, (by first | assumption | omega), (by first | assumption | omega), (by first | assumption | omega), (by first | assumption | omega), (by first | assumption | omega), (by first | assumption | omega)⟩)), by omega⟩)
              · exact Go_i (show (((73 : Nat) = 0 ∧ (t_taped') = t_taped) ∨ ((73 : Nat) = 19 ∧ 0 ≤ (i6') ∧ (i6') ≤ 5 ∧ t_taped ≤ 280 ∧ (t_taped') = t_taped + 4 * (i6')) ∨ ((73 : Nat) = 73 ∧ 0 ≤ (i6') ∧ (i6') ≤ 4 ∧ t_taped ≤ 280 ∧ -8 ≤ ((24 : Int)) ∧ ((24 : Int)) ≤ 24 ∧ 8 * ((t_taped') - t_taped - 4 * (i6')) + ((24 : Int)) = 24)) ∧ (100 * (6 - (i6')) + ((24 : Int)) + 8).toNat < (100 * (6 - i6') + 60).toNat from ⟨Or.inr (Or.inr (⟨rfl, (by first | assumption | omega), (by first | assumption | omega), (by first | assumption | omega), (by first | assumption | omega), (by first | assumption | omega), (by first | assumption | omega)⟩)), by omega⟩)
    · show Go _ (zg_X11_feed_73 i1' i2' i3' i4' i5' i6' i7' i8' t_taped' t_tape')
      unfold zg_X11_feed_73
      refine Go_chk (by unfold zout; omega) ?_
      refine Go_ite (fun c7 => ?_) (fun c7 => ?_)
      · exact Go_i (show (((19 : Nat) = 0 ∧ (t_taped') = t_taped) ∨ ((19 : Nat) = 19 ∧ 0 ≤ ((i6' + (1 : Int))) ∧ ((i6' + (1 : Int))) ≤ 5 ∧ t_taped ≤ 280 ∧ (t_taped') = t_taped + 4 * ((i6' + (1 : Int)))) ∨ ((19 : Nat) = 73 ∧ 0 ≤ ((i6' + (1 : Int))) ∧ ((i6' + (1 : Int))) ≤ 4 ∧ t_taped ≤ 280 ∧ -8 ≤ (i8') ∧ (i8') ≤ 24 ∧ 8 * ((t_taped') - t_taped - 4 * ((i6' + (1 : Int)))) + (i8') = 24)) ∧ (100 * (6 - ((i6' + (1 : Int)))) + 60).toNat < (100 * (6 - i6') + i8' + 8).toNat from ⟨Or.inr (Or.inl (⟨rfl, (by first | assumption | omega), (by first | assumption | omega), (by first | assumption | omega), (by first | assumption | omega)⟩)), by omega⟩)
      · refine Go_chk (by omega) ?_
        have a8 := rshr i7' i8'
        have a9 := rb (zshr i7' i8')
        have a10 := rb (zb (zshr i7' i8'))
        exact Go_i (show (((73 : Nat) = 0 ∧ ((t_taped' + (1 : Int))) = t_taped) ∨ ((73 : Nat) = 19 ∧ 0 ≤ (i6') ∧ (i6') ≤ 5 ∧ t_taped ≤ 280 ∧ ((t_taped' + (1 : Int))) = t_taped + 4 * (i6')) ∨ ((73 : Nat) = 73 ∧ 0 ≤ (i6') ∧ (i6') ≤ 4 ∧ t_taped ≤ 280 ∧ -8 ≤ ((i8' + (-8 : Int))) ∧ ((i8' + (-8 : Int))) ≤ 24 ∧ 8 * (((t_taped' + (1 : Int))) - t_taped - 4 * (i6')) + ((i8' + (-8 : Int))) = 24)) ∧ (100 * (6 - (i6')) + ((i8' + (-8 : Int))) + 8).toNat < (100 * (6 - i6') + i8' + 8).toNat from ⟨Or.inr (Or.inr (⟨rfl, (by first | assumption | omega), (by first | assumption | omega), (by first | assumption | omega), (by first | assumption | omega), (by first | assumption | omega), (by first | assumption | omega)⟩)), by omega⟩)
  · exact (show ((0 : Nat) = 0 ∧ t_taped = t_taped) ∨ ((0 : Nat) = 19 ∧ 0 ≤ 0 ∧ 0 ≤ 5 ∧ t_taped ≤ 280 ∧ t_taped = t_taped + 4 * 0) ∨ ((0 : Nat) = 73 ∧ 0 ≤ 0 ∧ 0 ≤ 4 ∧ t_taped ≤ 280 ∧ -8 ≤ 0 ∧ 0 ≤ 24 ∧ 8 * (t_taped - t_taped - 4 * 0) + 0 = 24) from Or.inl (⟨rfl, (by first | assumption | omega)⟩))
  · show 1000 < jfuel
    unfold jfuel
    omega
set_option maxRecDepth 20000 in
theorem ok_X11_end (t_taped : Int) (i1 : Int) (p0 : 0 ≤ t_taped) (p1 : t_taped ≤ 300) (p2 : -2147483648 ≤ i1) (p3 : i1 ≤ 2147483647) : Go (fun o => 0 ≤ (o.2) ∧ (o.2) ≤ 300 ∧ ((0 ≤ i1 ∧ i1 ≤ t_taped) → (o.2) = i1 ∧ (o.1) = i1) ∧ (¬ (0 ≤ i1 ∧ i1 ≤ t_taped) → (o.2) = t_taped ∧ (o.1) = -1)) (zf_X11_end t_taped i1) := by
  unfold zf_X11_end
  refine Go_chk (by unfold zout; omega) ?_
  refine Go_ite (fun c1 => ?_) (fun c1 => ?_)
  · exact Go_i (show 0 ≤ (t_taped) ∧ (t_taped) ≤ 300 ∧ ((0 ≤ i1 ∧ i1 ≤ t_taped) → (t_taped) = i1 ∧ ((-1 : Int)) = i1) ∧ (¬ (0 ≤ i1 ∧ i1 ≤ t_taped) → (t_taped) = t_taped ∧ ((-1 : Int)) = -1) from ⟨(by first | assumption | omega), (by first | assumption | omega), (by intro h; first | exact True.intro | omega | (refine ⟨?_, ?_⟩ <;> omega)), (by intro h; first | exact True.intro | omega | (refine ⟨?_, ?_⟩ <;> omega))⟩)
  · refine Go_chk (by unfold zout; omega) ?_
    refine Go_ite (fun c2 => ?_) (fun c2 => ?_)
    · exact Go_i (show 0 ≤ (i1) ∧ (i1) ≤ 300 ∧ ((0 ≤ i1 ∧ i1 ≤ t_taped) → (i1) = i1 ∧ (i1) = i1) ∧ (¬ (0 ≤ i1 ∧ i1 ≤ t_taped) → (i1) = t_taped ∧ (i1) = -1) from ⟨(by first | assumption | omega), (by first | assumption | omega), (by intro h; first | exact True.intro | omega | (refine ⟨?_, ?_⟩ <;> omega)), (by intro h; first | exact True.intro | omega | (refine ⟨?_, ?_⟩ <;> omega))⟩)
    · exact Go_i (show 0 ≤ (t_taped) ∧ (t_taped) ≤ 300 ∧ ((0 ≤ i1 ∧ i1 ≤ t_taped) → (t_taped) = i1 ∧ ((-1 : Int)) = i1) ∧ (¬ (0 ≤ i1 ∧ i1 ≤ t_taped) → (t_taped) = t_taped ∧ ((-1 : Int)) = -1) from ⟨(by first | assumption | omega), (by first | assumption | omega), (by intro h; first | exact True.intro | omega | (refine ⟨?_, ?_⟩ <;> omega)), (by intro h; first | exact True.intro | omega | (refine ⟨?_, ?_⟩ <;> omega))⟩)
set_option maxRecDepth 20000 in
theorem ok_X11_byteAt (t_size : Int) (t_tape : Nat) (i1 : Int) (p0 : 0 ≤ t_size) (p1 : t_size ≤ 300) (p2 : 0 ≤ i1) (p3 : i1 ≤ 2147483647) : Go (fun o => -1 ≤ (o) ∧ (o) ≤ 255 ∧ ((o) = -1 → t_size ≤ i1) ∧ (¬ (o) = -1 → i1 < t_size) ∧ (i1 < t_size → (o) = zand (zget t_tape (Int.toNat i1)) 255)) (zf_X11_byteAt t_size t_tape i1) := by
  unfold zf_X11_byteAt
  refine Go_chk (by unfold zout; omega) ?_
  refine Go_chk (by unfold zout; omega) ?_
  refine Go_ite (fun c1 => ?_) (fun c1 => ?_)
  · exact Go_i (show -1 ≤ ((-1 : Int)) ∧ ((-1 : Int)) ≤ 255 ∧ (((-1 : Int)) = -1 → t_size ≤ i1) ∧ (¬ ((-1 : Int)) = -1 → i1 < t_size) ∧ (i1 < t_size → ((-1 : Int)) = zand (zget t_tape (Int.toNat i1)) 255) from ⟨(by first | assumption | omega), (by first | assumption | omega), (by intro h; first | omega | rfl | (exact absurd h (by decide))), (by intro h; first | omega | rfl | (exact absurd h (by decide))), (by intro h; first | omega | rfl | (exact absurd h (by decide)))⟩)
  · refine Go_chk (by omega) ?_
    have a2 := rget t_tape (Int.toNat i1)
    have a3 := rand (zget t_tape (Int.toNat i1)) (255 : Int)
    have a4 := rand_pos (x := (zget t_tape (Int.toNat i1))) (y := (255 : Int)) (by decide) (by decide)
    exact Go_i (show -1 ≤ ((zand (zget t_tape (Int.toNat i1)) (255 : Int))) ∧ ((zand (zget t_tape (Int.toNat i1)) (255 : Int))) ≤ 255 ∧ (((zand (zget t_tape (Int.toNat i1)) (255 : Int))) = -1 → t_size ≤ i1) ∧ (¬ ((zand (zget t_tape (Int.toNat i1)) (255 : Int))) = -1 → i1 < t_size) ∧ (i1 < t_size → ((zand (zget t_tape (Int.toNat i1)) (255 : Int))) = zand (zget t_tape (Int.toNat i1)) 255) from ⟨(by first | assumption | omega), (by first | assumption | omega), (by intro h; first | omega | rfl | (exact absurd h (by decide))), (by intro h; first | omega | rfl | (exact absurd h (by decide))), (by intro h; first | omega | rfl | (exact absurd h (by decide)))⟩)
set_option maxRecDepth 20000 in
theorem ok_X11_isSmall (i0 : Int) (p0 : -2147483648 ≤ i0) (p1 : i0 ≤ 2147483647) : Go (fun o => ((o) = true → 97 ≤ i0 ∧ i0 ≤ 122) ∧ ((o) = false → ¬ (97 ≤ i0 ∧ i0 ≤ 122))) (zf_X11_isSmall i0) := by
  unfold zf_X11_isSmall
  refine Go_chk (by unfold zout; omega) ?_
  refine Go_ite (fun c1 => ?_) (fun c1 => ?_)
  · exact Go_i (show ((false) = true → 97 ≤ i0 ∧ i0 ≤ 122) ∧ ((false) = false → ¬ (97 ≤ i0 ∧ i0 ≤ 122)) from ⟨(by intro h; first | exact True.intro | omega | (exact absurd h (by decide))), (by intro h; first | exact True.intro | omega | (exact absurd h (by decide)))⟩)
  · refine Go_ite (fun c2 => ?_) (fun c2 => ?_)
    · exact Go_i (show ((false) = true → 97 ≤ i0 ∧ i0 ≤ 122) ∧ ((false) = false → ¬ (97 ≤ i0 ∧ i0 ≤ 122)) from ⟨(by intro h; first | exact True.intro | omega | (exact absurd h (by decide))), (by intro h; first | exact True.intro | omega | (exact absurd h (by decide)))⟩)
    · exact Go_i (show ((true) = true → 97 ≤ i0 ∧ i0 ≤ 122) ∧ ((true) = false → ¬ (97 ≤ i0 ∧ i0 ≤ 122)) from ⟨(by intro h; first | exact True.intro | omega | (exact absurd h (by decide))), (by intro h; first | exact True.intro | omega | (exact absurd h (by decide)))⟩)
set_option maxRecDepth 20000 in
theorem ok_X11_isDigit (i0 : Int) (p0 : -2147483648 ≤ i0) (p1 : i0 ≤ 2147483647) : Go (fun o => ((o) = true → 48 ≤ i0 ∧ i0 ≤ 57) ∧ ((o) = false → ¬ (48 ≤ i0 ∧ i0 ≤ 57))) (zf_X11_isDigit i0) := by
  unfold zf_X11_isDigit
  refine Go_chk (by unfold zout; omega) ?_
  refine Go_ite (fun c1 => ?_) (fun c1 => ?_)
  · exact Go_i (show ((false) = true → 48 ≤ i0 ∧ i0 ≤ 57) ∧ ((false) = false → ¬ (48 ≤ i0 ∧ i0 ≤ 57)) from ⟨(by intro h; first | exact True.intro | omega | (exact absurd h (by decide))), (by intro h; first | exact True.intro | omega | (exact absurd h (by decide)))⟩)
  · refine Go_ite (fun c2 => ?_) (fun c2 => ?_)
    · exact Go_i (show ((false) = true → 48 ≤ i0 ∧ i0 ≤ 57) ∧ ((false) = false → ¬ (48 ≤ i0 ∧ i0 ≤ 57)) from ⟨(by intro h; first | exact True.intro | omega | (exact absurd h (by decide))), (by intro h; first | exact True.intro | omega | (exact absurd h (by decide)))⟩)
    · exact Go_i (show ((true) = true → 48 ≤ i0 ∧ i0 ≤ 57) ∧ ((true) = false → ¬ (48 ≤ i0 ∧ i0 ≤ 57)) from ⟨(by intro h; first | exact True.intro | omega | (exact absurd h (by decide))), (by intro h; first | exact True.intro | omega | (exact absurd h (by decide)))⟩)
set_option maxRecDepth 20000 in
theorem ok_X11_scan (t_size : Int) (t_sort : Int) (t_at : Int) (t_end : Int) (t_number : Int) (t_word : Int) (t_tape : Nat) (p0 : 0 ≤ t_size) (p1 : t_size ≤ 300) (p2 : 0 ≤ t_end) (p3 : t_end ≤ t_size) : Go (fun o => 0 ≤ (o.1) ∧ (o.1) ≤ 4 ∧ 0 ≤ (o.2.1) ∧ (o.2.1) ≤ t_size ∧ t_end ≤ (o.2.2.1) ∧ (o.2.2.1) ≤ t_size ∧ ((o.1) = 2 → 0 ≤ (o.2.2.2.1) ∧ (o.2.2.2.1) ≤ 999) ∧ ((o.1) = 1 → 0 ≤ (o.2.2.2.2) ∧ (o.2.2.2.2) ≤ 1099511627775) ∧ (¬ (o.1) = 4 → t_end < (o.2.2.1))) (zf_X11_scan t_size t_sort t_at t_end t_number t_word t_tape) := by
  unfold zf_X11_scan
  refine jok (fun (s : zS_X11_scan) => match s with | (lab, i1', i3', t_sort', t_at', t_end', t_number', t_word') => (lab = 0 ∧ t_end' = t_end) ∨ (lab = 5 ∧ t_end ≤ i1' ∧ i1' ≤ t_size) ∨ (lab = 75 ∧ t_end ≤ i1' ∧ i1' ≤ i3' ∧ i3' ≤ t_size ∧ 0 ≤ t_at' ∧ t_at' ≤ t_size ∧ i1' < t_size ∧ (i3' = i1' → 97 ≤ zand (zget t_tape (Int.toNat i1')) 255 ∧ zand (zget t_tape (Int.toNat i1')) 255 ≤ 122) ∧ (i3' - i1' ≤ 0 → t_word' ≤ 0) ∧ (i3' - i1' ≤ 1 → t_word' ≤ 31) ∧ (i3' - i1' ≤ 2 → t_word' ≤ 1023) ∧ (i3' - i1' ≤ 3 → t_word' ≤ 32767) ∧ (i3' - i1' ≤ 4 → t_word' ≤ 1048575) ∧ (i3' - i1' ≤ 5 → t_word' ≤ 33554431) ∧ (i3' - i1' ≤ 6 → t_word' ≤ 1073741823) ∧ (i3' - i1' ≤ 7 → t_word' ≤ 34359738367) ∧ (i3' - i1' ≤ 8 → t_word' ≤ 1099511627775) ∧ t_word' ≤ 1099511627775 ∧ 0 ≤ t_word') ∨ (lab = 160 ∧ t_end ≤ i1' ∧ i1' + 1 ≤ i3' ∧ i3' ≤ t_size ∧ 0 ≤ t_at' ∧ t_at' ≤ t_size ∧ 0 ≤ t_number' ∧ t_number' ≤ 999 ∧ (i3' - i1' ≤ 1 → t_number' ≤ 9) ∧ (i3' - i1' ≤ 2 → t_number' ≤ 99))) (fun (s : zS_X11_scan) => match s with | (lab, i1', i3', t_sort', t_at', t_end', t_number', t_word') => if lab = 0 then 1000 else if lab = 5 then (500 + t_size - i1').toNat else if lab = 75 then (t_size - i3').toNat else if lab = 160 then (t_size - i3').toNat else 0) (fun (o : zO_X11_scan) => 0 ≤ (o.1) ∧ (o.1) ≤ 4 ∧ 0 ≤ (o.2.1) ∧ (o.2.1) ≤ t_size ∧ t_end ≤ (o.2.2.1) ∧ (o.2.2.1) ≤ t_size ∧ ((o.1) = 2 → 0 ≤ (o.2.2.2.1) ∧ (o.2.2.2.1) ≤ 999) ∧ ((o.1) = 1 → 0 ≤ (o.2.2.2.2) ∧ (o.2.2.2.2) ≤ 1099511627775) ∧ (¬ (o.1) = 4 → t_end < (o.2.2.1))) ?_ _ ?_ ?_
  · intro s hI
    obtain ⟨lab, i1', i3', t_sort', t_at', t_end', t_number', t_word'⟩ := s
    have hI : (lab = 0 ∧ t_end' = t_end) ∨ (lab = 5 ∧ t_end ≤ i1' ∧ i1' ≤ t_size) ∨ (lab = 75 ∧ t_end ≤ i1' ∧ i1' ≤ i3' ∧ i3' ≤ t_size ∧ 0 ≤ t_at' ∧ t_at' ≤ t_size ∧ i1' < t_size ∧ (i3' = i1' → 97 ≤ zand (zget t_tape (Int.toNat i1')) 255 ∧ zand (zget t_tape (Int.toNat i1')) 255 ≤ 122) ∧ (i3' - i1' ≤ 0 → t_word' ≤ 0) ∧ (i3' - i1' ≤ 1 → t_word' ≤ 31) ∧ (i3' - i1' ≤ 2 → t_word' ≤ 1023) ∧ (i3' - i1' ≤ 3 → t_word' ≤ 32767) ∧ (i3' - i1' ≤ 4 → t_word' ≤ 1048575) ∧ (i3' - i1' ≤ 5 → t_word' ≤ 33554431) ∧ (i3' - i1' ≤ 6 → t_word' ≤ 1073741823) ∧ (i3' - i1' ≤ 7 → t_word' ≤ 34359738367) ∧ (i3' - i1' ≤ 8 → t_word' ≤ 1099511627775) ∧ t_word' ≤ 1099511627775 ∧ 0 ≤ t_word') ∨ (lab = 160 ∧ t_end ≤ i1' ∧ i1' + 1 ≤ i3' ∧ i3' ≤ t_size ∧ 0 ≤ t_at' ∧ t_at' ≤ t_size ∧ 0 ≤ t_number' ∧ t_number' ≤ 999 ∧ (i3' - i1' ≤ 1 → t_number' ≤ 9) ∧ (i3' - i1' ≤ 2 → t_number' ≤ 99)) := hI
    rcases hI with ⟨rfl, v0_0⟩ | ⟨rfl, v5_0, v5_1⟩ | ⟨rfl, v75_0, v75_1, v75_2, v75_3, v75_4, v75_5, v75_6, v75_7, v75_8, v75_9, v75_10, v75_11, v75_12, v75_13, v75_14, v75_15, v75_16, v75_17⟩ | ⟨rfl, v160_0, v160_1, v160_2, v160_3, v160_4, v160_5, v160_6, v160_7, v160_8⟩
    · show Go _ (zg_X11_scan_0 t_size t_tape i1' i3' t_sort' t_at' t_end' t_number' t_word')
      unfold zg_X11_scan_0
      exact Go_i (show (((5 : Nat) = 0 ∧ (t_end') = t_end) ∨ ((5 : Nat) = 5 ∧ t_end ≤ (t_end') ∧ (t_end') ≤ t_size) ∨ ((5 : Nat) = 75 ∧ t_end ≤ (t_end') ∧ (t_end') ≤ (0) ∧ (0) ≤ t_size ∧ 0 ≤ (t_at') ∧ (t_at') ≤ t_size ∧ (t_end') < t_size ∧ ((0) = (t_end') → 97 ≤ zand (zget t_tape (Int.toNat (t_end'))) 255 ∧ zand (zget t_tape (Int.toNat (t_end'))) 255 ≤ 122) ∧ ((0) - (t_end') ≤ 0 → (t_word') ≤ 0) ∧ ((0) - (t_end') ≤ 1 → (t_word') ≤ 31) ∧ ((0) - (t_end') ≤ 2 → (t_word') ≤ 1023) ∧ ((0) - (t_end') ≤ 3 → (t_word') ≤ 32767) ∧ ((0) - (t_end') ≤ 4 → (t_word') ≤ 1048575) ∧ ((0) - (t_end') ≤ 5 → (t_word') ≤ 33554431) ∧ ((0) - (t_end') ≤ 6 → (t_word') ≤ 1073741823) ∧ ((0) - (t_end') ≤ 7 → (t_word') ≤ 34359738367) ∧ ((0) - (t_end') ≤ 8 → (t_word') ≤ 1099511627775) ∧ (t_word') ≤ 1099511627775 ∧ 0 ≤ (t_word')) ∨ ((5 : Nat) = 160 ∧ t_end ≤ (t_end') ∧ (t_end') + 1 ≤ (0) ∧ (0) ≤ t_size ∧ 0 ≤ (t_at') ∧ (t_at') ≤ t_size ∧ 0 ≤ (t_number') ∧ (t_number') ≤ 999 ∧ ((0) - (t_end') ≤ 1 → (t_number') ≤ 9) ∧ ((0) - (t_end') ≤ 2 → (t_number') ≤ 99))) ∧ (500 + t_size - (t_end')).toNat < 1000 from ⟨Or.inr (Or.inl (⟨rfl, (by first | assumption | omega), (by first | assumption | omega)⟩)), by omega⟩)
    · show Go _ (zg_X11_scan_5 t_size t_tape i1' i3' t_sort' t_at' t_end' t_number' t_word')
      unfold zg_X11_scan_5
      refine Go_bindP (ok_X11_byteAt t_size t_tape i1' (by first | assumption | omega) (by first | assumption | omega) (by first | assumption | omega) (by first | assumption | omega)) (fun o1 q1 => ?_)
      obtain ⟨q1_0, q1_1, q1_2, q1_3, q1_4⟩ := q1
      refine Go_chk (by unfold zout; omega) ?_
      refine Go_ite (fun c2 => ?_) (fun c2 => ?_)
      · exact Go_i (show (((5 : Nat) = 0 ∧ (t_end') = t_end) ∨ ((5 : Nat) = 5 ∧ t_end ≤ ((i1' + (1 : Int))) ∧ ((i1' + (1 : Int))) ≤ t_size) ∨ ((5 : Nat) = 75 ∧ t_end ≤ ((i1' + (1 : Int))) ∧ ((i1' + (1 : Int))) ≤ (0) ∧ (0) ≤ t_size ∧ 0 ≤ (t_at') ∧ (t_at') ≤ t_size ∧ ((i1' + (1 : Int))) < t_size ∧ ((0) = ((i1' + (1 : Int))) → 97 ≤ zand (zget t_tape (Int.toNat ((i1' + (1 : Int))))) 255 ∧ zand (zget t_tape (Int.toNat ((i1' + (1 : Int))))) 255 ≤ 122) ∧ ((0) - ((i1' + (1 : Int))) ≤ 0 → (t_word') ≤ 0) ∧ ((0) - ((i1' + (1 : Int))) ≤ 1 → (t_word') ≤ 31) ∧ ((0) - ((i1' + (1 : Int))) ≤ 2 → (t_word') ≤ 1023) ∧ ((0) - ((i1' + (1 : Int))) ≤ 3 → (t_word') ≤ 32767) ∧ ((0) - ((i1' + (1 : Int))) ≤ 4 → (t_word') ≤ 1048575) ∧ ((0) - ((i1' + (1 : Int))) ≤ 5 → (t_word') ≤ 33554431) ∧ ((0) - ((i1' + (1 : Int))) ≤ 6 → (t_word') ≤ 1073741823) ∧ ((0) - ((i1' + (1 : Int))) ≤ 7 → (t_word') ≤ 34359738367) ∧ ((0) - ((i1' + (1 : Int))) ≤ 8 → (t_word') ≤ 1099511627775) ∧ (t_word') ≤ 1099511627775 ∧ 0 ≤ (t_word')) ∨ ((5 : Nat) = 160 ∧ t_end ≤ ((i1' + (1 : Int))) ∧ ((i1' + (1 : Int))) + 1 ≤ (0) ∧ (0) ≤ t_size ∧ 0 ≤ (t_at') ∧ (t_at') ≤ t_size ∧ 0 ≤ (t_number') ∧ (t_number') ≤ 999 ∧ ((0) - ((i1' + (1 : Int))) ≤ 1 → (t_number') ≤ 9) ∧ ((0) - ((i1' + (1 : Int))) ≤ 2 → (t_number') ≤ 99))) ∧ (500 + t_size - ((i1' + (1 : Int)))).toNat < (500 + t_size - i1').toNat from ⟨Or.inr (Or.inl (⟨rfl, (by first | assumption | omega), (by first | assumption | omega)⟩)), by omega⟩)
      · refine Go_bindP (ok_X11_byteAt t_size t_tape i1' (by first | assumption | omega) (by first | assumption | omega) (by first | assumption | omega) (by first | assumption | omega)) (fun o3 q3 => ?_)
        obtain ⟨q3_0, q3_1, q3_2, q3_3, q3_4⟩ := q3
        refine Go_chk (by unfold zout; omega) ?_
        refine Go_ite (fun c4 => ?_) (fun c4 => ?_)
        · exact Go_i (show (((5 : Nat) = 0 ∧ (t_end') = t_end) ∨ ((5 : Nat) = 5 ∧ t_end ≤ ((i1' + (1 : Int))) ∧ ((i1' + (1 : Int))) ≤ t_size) ∨ ((5 : Nat) = 75 ∧ t_end ≤ ((i1' + (1 : Int))) ∧ ((i1' + (1 : Int))) ≤ (0) ∧ (0) ≤ t_size ∧ 0 ≤ (t_at') ∧ (t_at') ≤ t_size ∧ ((i1' + (1 : Int))) < t_size ∧ ((0) = ((i1' + (1 : Int))) → 97 ≤ zand (zget t_tape (Int.toNat ((i1' + (1 : Int))))) 255 ∧ zand (zget t_tape (Int.toNat ((i1' + (1 : Int))))) 255 ≤ 122) ∧ ((0) - ((i1' + (1 : Int))) ≤ 0 → (t_word') ≤ 0) ∧ ((0) - ((i1' + (1 : Int))) ≤ 1 → (t_word') ≤ 31) ∧ ((0) - ((i1' + (1 : Int))) ≤ 2 → (t_word') ≤ 1023) ∧ ((0) - ((i1' + (1 : Int))) ≤ 3 → (t_word') ≤ 32767) ∧ ((0) - ((i1' + (1 : Int))) ≤ 4 → (t_word') ≤ 1048575) ∧ ((0) - ((i1' + (1 : Int))) ≤ 5 → (t_word') ≤ 33554431) ∧ ((0) - ((i1' + (1 : Int))) ≤ 6 → (t_word') ≤ 1073741823) ∧ ((0) - ((i1' + (1 : Int))) ≤ 7 → (t_word') ≤ 34359738367) ∧ ((0) - ((i1' + (1 : Int))) ≤ 8 → (t_word') ≤ 1099511627775) ∧ (t_word') ≤ 1099511627775 ∧ 0 ≤ (t_word')) ∨ ((5 : Nat) = 160 ∧ t_end ≤ ((i1' + (1 : Int))) ∧ ((i1' + (1 : Int))) + 1 ≤ (0) ∧ (0) ≤ t_size ∧ 0 ≤ (t_at') ∧ (t_at') ≤ t_size ∧ 0 ≤ (t_number') ∧ (t_number') ≤ 999 ∧ ((0) - ((i1' + (1 : Int))) ≤ 1 → (t_number') ≤ 9) ∧ ((0) - ((i1' + (1 : Int))) ≤ 2 → (t_number') ≤ 99))) ∧ (500 + t_size - ((i1' + (1 : Int)))).toNat < (500 + t_size - i1').toNat from ⟨Or.inr (Or.inl (⟨rfl, (by first | assumption | omega), (by first | assumption | omega)⟩)), by omega⟩)
        · refine Go_bindP (ok_X11_byteAt t_size t_tape i1' (by first | assumption | omega) (by first | assumption | omega) (by first | assumption | omega) (by first | assumption | omega)) (fun o5 q5 => ?_)
          obtain ⟨q5_0, q5_1, q5_2, q5_3, q5_4⟩ := q5
          refine Go_chk (by unfold zout; omega) ?_
          refine Go_ite (fun c6 => ?_) (fun c6 => ?_)
          · exact Go_i (show 0 ≤ ((4 : Int)) ∧ ((4 : Int)) ≤ 4 ∧ 0 ≤ (i1') ∧ (i1') ≤ t_size ∧ t_end ≤ (i1') ∧ (i1') ≤ t_size ∧ (((4 : Int)) = 2 → 0 ≤ (t_number') ∧ (t_number') ≤ 999) ∧ (((4 : Int)) = 1 → 0 ≤ (t_word') ∧ (t_word') ≤ 1099511627775) ∧ (¬ ((4 : Int)) = 4 → t_end < (i1')) from ⟨(by first | assumption | omega), (by first | assumption | omega), (by first | assumption | omega), (by first | assumption | omega), (by first | assumption | omega), (by first | assumption | omega), (by intro h; first | exact True.intro | omega | (exact absurd h (by decide))), (by intro h; first | exact True.intro | omega | (exact absurd h (by decide))), (by intro h; first | exact True.intro | omega | (exact absurd h (by decide)))⟩)
          · refine Go_bindP (ok_X11_isSmall o5 (by first | assumption | omega) (by first | assumption | omega)) (fun o7 q7 => ?_)
            obtain ⟨q7_0, q7_1⟩ := q7
            refine Go_ite (fun c8 => ?_) (fun c8 => ?_)
            · have dc8 := q7_1 c8
              refine Go_bindP (ok_X11_isDigit o5 (by first | assumption | omega) (by first | assumption | omega)) (fun o8 q9 => ?_)
              obtain ⟨q9_0, q9_1⟩ := q9
              refine Go_ite (fun c10 => ?_) (fun c10 => ?_)
              · have dc10 := q9_1 c10
                refine Go_ite (fun c11 => ?_) (fun c11 => ?_)
                · exact Go_i (show 0 ≤ ((3 : Int)) ∧ ((3 : Int)) ≤ 4 ∧ 0 ≤ (i1') ∧ (i1') ≤ t_size ∧ t_end ≤ ((i1' + (1 : Int))) ∧ ((i1' + (1 : Int))) ≤ t_size ∧ (((3 : Int)) = 2 → 0 ≤ (t_number') ∧ (t_number') ≤ 999) ∧ (((3 : Int)) = 1 → 0 ≤ (t_word') ∧ (t_word') ≤ 1099511627775) ∧ (¬ ((3 : Int)) = 4 → t_end < ((i1' + (1 : Int)))) from ⟨(by first | assumption | omega), (by first | assumption | omega), (by first | assumption | omega), (by first | assumption | omega), (by first | assumption | omega), (by first | assumption | omega), (by intro h; first | exact True.intro | omega | (exact absurd h (by decide))), (by intro h; first | exact True.intro | omega | (exact absurd h (by decide))), (by intro h; first | exact True.intro | omega | (exact absurd h (by decide)))⟩)
                · exact Go_i (show 0 ≤ ((0 : Int)) ∧ ((0 : Int)) ≤ 4 ∧ 0 ≤ (i1') ∧ (i1') ≤ t_size ∧ t_end ≤ ((i1' + (1 : Int))) ∧ ((i1' + (1 : Int))) ≤ t_size ∧ (((0 : Int)) = 2 → 0 ≤ (t_number') ∧ (t_number') ≤ 999) ∧ (((0 : Int)) = 1 → 0 ≤ (t_word') ∧ (t_word') ≤ 1099511627775) ∧ (¬ ((0 : Int)) = 4 → t_end < ((i1' + (1 : Int)))) from ⟨(by first | assumption | omega), (by first | assumption | omega), (by first | assumption | omega), (by first | assumption | omega), (by first | assumption | omega), (by first | assumption | omega), (by intro h; first | exact True.intro | omega | (exact absurd h (by decide))), (by intro h; first | exact True.intro | omega | (exact absurd h (by decide))), (by intro h; first | exact True.intro | omega | (exact absurd h (by decide)))⟩)
              · have dc10 := q9_0 (bnf c10)
                exact Go_i (show (((160 : Nat) = 0 ∧ (t_end') = t_end) ∨ ((160 : Nat) = 5 ∧ t_end ≤ (i1') ∧ (i1') ≤ t_size) ∨ ((160 : Nat) = 75 ∧ t_end ≤ (i1') ∧ (i1') ≤ ((i1' + (1 : Int))) ∧ ((i1' + (1 : Int))) ≤ t_size ∧ 0 ≤ (i1') ∧ (i1') ≤ t_size ∧ (i1') < t_size ∧ (((i1' + (1 : Int))) = (i1') → 97 ≤ zand (zget t_tape (Int.toNat (i1'))) 255 ∧ zand (zget t_tape (Int.toNat (i1'))) 255 ≤ 122) ∧ (((i1' + (1 : Int))) - (i1') ≤ 0 → (t_word') ≤ 0) ∧ (((i1' + (1 : Int))) - (i1') ≤ 1 → (t_word') ≤ 31) ∧ (((i1' + (1 : Int))) - (i1') ≤ 2 → (t_word') ≤ 1023) ∧ (((i1' + (1 : Int))) - (i1') ≤ 3 → (t_word') ≤ 32767) ∧ (((i1' + (1 : Int))) - (i1') ≤ 4 → (t_word') ≤ 1048575) ∧ (((i1' + (1 : Int))) - (i1') ≤ 5 → (t_word') ≤ 33554431) ∧ (((i1' + (1 : Int))) - (i1') ≤ 6 → (t_word') ≤ 1073741823) ∧ (((i1' + (1 : Int))) - (i1') ≤ 7 → (t_word') ≤ 34359738367) ∧ (((i1' + (1 : Int))) - (i1') ≤ 8 → (t_word') ≤ 1099511627775) ∧ (t_word') ≤ 1099511627775 ∧ 0 ≤ (t_word')) ∨ ((160 : Nat) = 160 ∧ t_end ≤ (i1') ∧ (i1') + 1 ≤ ((i1' + (1 : Int))) ∧ ((i1' + (1 : Int))) ≤ t_size ∧ 0 ≤ (i1') ∧ (i1') ≤ t_size ∧ 0 ≤ ((o5 - (48 : Int))) ∧ ((o5 - (48 : Int))) ≤ 999 ∧ (((i1' + (1 : Int))) - (i1') ≤ 1 → ((o5 - (48 : Int))) ≤ 9) ∧ (((i1' + (1 : Int))) - (i1') ≤ 2 → ((o5 - (48 : Int))) ≤ 99))) ∧ (t_size - ((i1' + (1 : Int)))).toNat < (500 + t_size - i1').toNat from ⟨Or.inr (Or.inr (Or.inr (⟨rfl, (by first | assumption | omega), (by first | assumption | omega), (by first | assumption | omega), (by first | assumption | omega), (by first | assumption | omega), (by first | assumption | omega), (by first | assumption | omega), (by intro h; first | exact True.intro | omega | (exact absurd h (by decide))), (by intro h; first | exact True.intro | omega | (exact absurd h (by decide)))⟩))), by omega⟩)
            · have dc8 := q7_0 (bnf c8)
              exact Go_i (show (((75 : Nat) = 0 ∧ (t_end') = t_end) ∨ ((75 : Nat) = 5 ∧ t_end ≤ (i1') ∧ (i1') ≤ t_size) ∨ ((75 : Nat) = 75 ∧ t_end ≤ (i1') ∧ (i1') ≤ (i1') ∧ (i1') ≤ t_size ∧ 0 ≤ (i1') ∧ (i1') ≤ t_size ∧ (i1') < t_size ∧ ((i1') = (i1') → 97 ≤ zand (zget t_tape (Int.toNat (i1'))) 255 ∧ zand (zget t_tape (Int.toNat (i1'))) 255 ≤ 122) ∧ ((i1') - (i1') ≤ 0 → ((0 : Int)) ≤ 0) ∧ ((i1') - (i1') ≤ 1 → ((0 : Int)) ≤ 31) ∧ ((i1') - (i1') ≤ 2 → ((0 : Int)) ≤ 1023) ∧ ((i1') - (i1') ≤ 3 → ((0 : Int)) ≤ 32767) ∧ ((i1') - (i1') ≤ 4 → ((0 : Int)) ≤ 1048575) ∧ ((i1') - (i1') ≤ 5 → ((0 : Int)) ≤ 33554431) ∧ ((i1') - (i1') ≤ 6 → ((0 : Int)) ≤ 1073741823) ∧ ((i1') - (i1') ≤ 7 → ((0 : Int)) ≤ 34359738367) ∧ ((i1') - (i1') ≤ 8 → ((0 : Int)) ≤ 1099511627775) ∧ ((0 : Int)) ≤ 1099511627775 ∧ 0 ≤ ((0 : Int))) ∨ ((75 : Nat) = 160 ∧ t_end ≤ (i1') ∧ (i1') + 1 ≤ (i1') ∧ (i1') ≤ t_size ∧ 0 ≤ (i1') ∧ (i1') ≤ t_size ∧ 0 ≤ (t_number') ∧ (t_number') ≤ 999 ∧ ((i1') - (i1') ≤ 1 → (t_number') ≤ 9) ∧ ((i1') - (i1') ≤ 2 → (t_number') ≤ 99))) ∧ (t_size - (i1')).toNat < (500 + t_size - i1').toNat from ⟨Or.inr (Or.inr (Or.inl (⟨rfl, (by first | assumption | omega), (by first | assumption | omega), (by first | assumption | omega), (by first | assumption | omega), (by first | assumption | omega), (by first | assumption | omega), (by intro h; first | exact True.intro | omega | (exact absurd h (by decide))), (by intro h; first | exact True.intro | omega | (exact absurd h (by decide))), (by intro h; first | exact True.intro | omega | (exact absurd h (by decide))), (by intro h; first | exact True.intro | omega | (exact absurd h (by decide))), (by intro h; first | exact True.intro | omega | (exact absurd h (by decide))), (by intro h; first | exact True.intro | omega | (exact absurd h (by decide))), (by intro h; first | exact True.intro | omega | (exact absurd h (by decide))), (by intro h; first | exact True.intro | omega | (exact absurd h (by decide))), (by intro h; first | exact True.intro | omega | (exact absurd h (by decide))), (by intro h; first | exact True.intro | omega | (exact absurd h (by decide))), (by first | assumption | omega), (by first | assumption | omega)⟩))), by omega⟩)
    · show Go _ (zg_X11_scan_75 t_size t_tape i1' i3' t_sort' t_at' t_end' t_number' t_word')
      unfold zg_X11_scan_75
      have e75 : i3' = i1' → zand (zget t_tape (Int.toNat i3')) 255 = zand (zget t_tape (Int.toNat i1')) 255 := fun h => by rw [h]
      refine Go_bindP (ok_X11_byteAt t_size t_tape i3' (by first | assumption | omega) (by first | assumption | omega) (by first | assumption | omega) (by first | assumption | omega)) (fun o15 q12 => ?_)
      obtain ⟨q12_0, q12_1, q12_2, q12_3, q12_4⟩ := q12
      refine Go_bindP (ok_X11_isSmall o15 (by first | assumption | omega) (by first | assumption | omega)) (fun o16 q13 => ?_)
      obtain ⟨q13_0, q13_1⟩ := q13
      refine Go_ite (fun c14 => ?_) (fun c14 => ?_)
      · have dc14 := q13_1 c14
        refine Go_chk (by unfold zout; omega) ?_
        refine Go_ite (fun c15 => ?_) (fun c15 => ?_)
        · exact Go_i (show 0 ≤ ((1 : Int)) ∧ ((1 : Int)) ≤ 4 ∧ 0 ≤ (t_at') ∧ (t_at') ≤ t_size ∧ t_end ≤ (i3') ∧ (i3') ≤ t_size ∧ (((1 : Int)) = 2 → 0 ≤ (t_number') ∧ (t_number') ≤ 999) ∧ (((1 : Int)) = 1 → 0 ≤ (t_word') ∧ (t_word') ≤ 1099511627775) ∧ (¬ ((1 : Int)) = 4 → t_end < (i3')) from ⟨(by first | assumption | omega), (by first | assumption | omega), (by first | assumption | omega), (by first | assumption | omega), (by first | assumption | omega), (by first | assumption | omega), (by intro h; first | exact True.intro | omega | (exact absurd h (by decide))), (by intro h; first | exact True.intro | omega | (exact absurd h (by decide))), (by intro h; first | exact True.intro | omega | (exact absurd h (by decide)))⟩)
        · exact Go_i (show 0 ≤ ((0 : Int)) ∧ ((0 : Int)) ≤ 4 ∧ 0 ≤ (t_at') ∧ (t_at') ≤ t_size ∧ t_end ≤ (i3') ∧ (i3') ≤ t_size ∧ (((0 : Int)) = 2 → 0 ≤ (t_number') ∧ (t_number') ≤ 999) ∧ (((0 : Int)) = 1 → 0 ≤ (t_word') ∧ (t_word') ≤ 1099511627775) ∧ (¬ ((0 : Int)) = 4 → t_end < (i3')) from ⟨(by first | assumption | omega), (by first | assumption | omega), (by first | assumption | omega), (by first | assumption | omega), (by first | assumption | omega), (by first | assumption | omega), (by intro h; first | exact True.intro | omega | (exact absurd h (by decide))), (by intro h; first | exact True.intro | omega | (exact absurd h (by decide))), (by intro h; first | exact True.intro | omega | (exact absurd h (by decide)))⟩)
      · have dc14 := q13_0 (bnf c14)
        refine Go_chk (by unfold zout; omega) ?_
        refine Go_ite (fun c16 => ?_) (fun c16 => ?_)
        · exact Go_i (show (((75 : Nat) = 0 ∧ (t_end') = t_end) ∨ ((75 : Nat) = 5 ∧ t_end ≤ (i1') ∧ (i1') ≤ t_size) ∨ ((75 : Nat) = 75 ∧ t_end ≤ (i1') ∧ (i1') ≤ ((i3' + (1 : Int))) ∧ ((i3' + (1 : Int))) ≤ t_size ∧ 0 ≤ (t_at') ∧ (t_at') ≤ t_size ∧ (i1') < t_size ∧ (((i3' + (1 : Int))) = (i1') → 97 ≤ zand (zget t_tape (Int.toNat (i1'))) 255 ∧ zand (zget t_tape (Int.toNat (i1'))) 255 ≤ 122) ∧ (((i3' + (1 : Int))) - (i1') ≤ 0 → (t_word') ≤ 0) ∧ (((i3' + (1 : Int))) - (i1') ≤ 1 → (t_word') ≤ 31) ∧ (((i3' + (1 : Int))) - (i1') ≤ 2 → (t_word') ≤ 1023) ∧ (((i3' + (1 : Int))) - (i1') ≤ 3 → (t_word') ≤ 32767) ∧ (((i3' + (1 : Int))) - (i1') ≤ 4 → (t_word') ≤ 1048575) ∧ (((i3' + (1 : Int))) - (i1') ≤ 5 → (t_word') ≤ 33554431) ∧ (((i3' + (1 : Int))) - (i1') ≤ 6 → (t_word') ≤ 1073741823) ∧ (((i3' + (1 : Int))) - (i1') ≤ 7 → (t_word') ≤ 34359738367) ∧ (((i3' + (1 : Int))) - (i1') ≤ 8 → (t_word') ≤ 1099511627775) ∧ (t_word') ≤ 1099511627775 ∧ 0 ≤ (t_word')) ∨ ((75 : Nat) = 160 ∧ t_end ≤ (i1') ∧ (i1') + 1 ≤ ((i3' + (1 : Int))) ∧ ((i3' + (1 : Int))) ≤ t_size ∧ 0 ≤ (t_at') ∧ (t_at') ≤ t_size ∧ 0 ≤ (t_number') ∧ (t_number') ≤ 999 ∧ (((i3' + (1 : Int))) - (i1') ≤ 1 → (t_number') ≤ 9) ∧ (((i3' + (1 : Int))) - (i1') ≤ 2 → (t_number') ≤ 99))) ∧ (t_size - ((i3' + (1 : Int)))).toNat < (t_size - i3').toNat from ⟨Or.inr (Or.inr (Or.inl (⟨rfl, (by first | assumption | omega), (by first | assumption | omega), (by first | assumption | omega), (by first | assumption | omega), (by first | assumption | omega), (by first | assumption | omega), (by intro h; first | exact True.intro | omega | (exact absurd h (by decide))), (by intro h; first | exact True.intro | omega | (exact absurd h (by decide))), (by intro h; first | exact True.intro | omega | (exact absurd h (by decide))), (by intro h; first | exact True.intro | omega | (exact absurd h (by decide))), (by intro h; first | exact True.intro | omega | (exact absurd h (by decide))), (by intro h; first | exact True.intro | omega | (exact absurd h (by decide))), (by intro h; first | exact True.intro | omega | (exact absurd h (by decide))), (by intro h; first | exact True.intro | omega | (exact absurd h (by decide))), (by intro h; first | exact True.intro | omega | (exact absurd h (by decide))), (by intro h; first | exact True.intro | omega | (exact absurd h (by decide))), (by first | assumption | omega), (by first | assumption | omega)⟩))), by omega⟩)
        · refine Go_bindP (ok_X11_byteAt t_size t_tape i3' (by first | assumption | omega) (by first | assumption | omega) (by first | assumption | omega) (by first | assumption | omega)) (fun o20 q17 => ?_)
          obtain ⟨q17_0, q17_1, q17_2, q17_3, q17_4⟩ := q17
          refine Go_chk (by unfold zout; omega) ?_
          exact Go_i (show (((75 : Nat) = 0 ∧ (t_end') = t_end) ∨ ((75 : Nat) = 5 ∧ t_end ≤ (i1') ∧ (i1') ≤ t_size) ∨ ((75 : Nat) = 75 ∧ t_end ≤ (i1') ∧ (i1') ≤ ((i3' + (1 : Int))) ∧ ((i3' + (1 : Int))) ≤ t_size ∧ 0 ≤ (t_at') ∧ (t_at') ≤ t_size ∧ (i1') < t_size ∧ (((i3' + (1 : Int))) = (i1') → 97 ≤ zand (zget t_tape (Int.toNat (i1'))) 255 ∧ zand (zget t_tape (Int.toNat (i1'))) 255 ≤ 122) ∧ (((i3' + (1 : Int))) - (i1') ≤ 0 → ((((((32 : Int) * t_word') + o20) - (97 : Int)) + (1 : Int))) ≤ 0) ∧ (((i3' + (1 : Int))) - (i1') ≤ 1 → ((((((32 : Int) * t_word') + o20) - (97 : Int)) + (1 : Int))) ≤ 31) ∧ (((i3' + (1 : Int))) - (i1') ≤ 2 → ((((((32 : Int) * t_word') + o20) - (97 : Int)) + (1 : Int))) ≤ 1023) ∧ (((i3' + (1 : Int))) - (i1') ≤ 3 → ((((((32 : Int) * t_word') + o20) - (97 : Int)) + (1 : Int))) ≤ 32767) ∧ (((i3' + (1 : Int))) - (i1') ≤ 4 → ((((((32 : Int) * t_word') + o20) - (97 : Int)) + (1 : Int))) ≤ 1048575) ∧ (((i3' + (1 : Int))) - (i1') ≤ 5 → ((((((32 : Int) * t_word') + o20) - (97 : Int)) + (1 : Int))) ≤ 33554431) ∧ (((i3' + (1 : Int))) - (i1') ≤ 6 → ((((((32 : Int) * t_word') + o20) - (97 : Int)) + (1 : Int))) ≤ 1073741823) ∧ (((i3' + (1 : Int))) - (i1') ≤ 7 → ((((((32 : Int) * t_word') + o20) - (97 : Int)) + (1 : Int))) ≤ 34359738367) ∧ (((i3' + (1 : Int))) - (i1') ≤ 8 → ((((((32 : Int) * t_word') + o20) - (97 : Int)) + (1 : Int))) ≤ 1099511627775) ∧ ((((((32 : Int) * t_word') + o20) - (97 : Int)) + (1 : Int))) ≤ 1099511627775 ∧ 0 ≤ ((((((32 : Int) * t_word') + o20) - (97 : Int)) + (1 : Int)))) ∨ ((75 : Nat) = 160 ∧ t_end ≤ (i1') ∧ (i1') + 1 ≤ ((i3' + (1 : Int))) ∧ ((i3' + (1 : Int))) ≤ t_size ∧ 0 ≤ (t_at') ∧ (t_at') ≤ t_size ∧ 0 ≤ (t_number') ∧ (t_number') ≤ 999 ∧ (((i3' + (1 : Int))) - (i1') ≤ 1 → (t_number') ≤ 9) ∧ (((i3' + (1 : Int))) - (i1') ≤ 2 → (t_number') ≤ 99))) ∧ (t_size - ((i3' + (1 : Int)))).toNat < (t_size - i3').toNat from ⟨Or.inr (Or.inr (Or.inl (⟨rfl, (by first | assumption | omega), (by first | assumption | omega), (by first | assumption | omega), (by first | assumption | omega), (by first | assumption | omega), (by first | assumption | omega), (by intro h; first | exact True.intro | omega | (exact absurd h (by decide))), (by intro h; first | exact True.intro | omega | (exact absurd h (by decide))), (by intro h; first | exact True.intro | omega | (exact absurd h (by decide))), (by intro h; first | exact True.intro | omega | (exact absurd h (by decide))), (by intro h; first | exact True.intro | omega | (exact absurd h (by decide))), (by intro h; first | exact True.intro | omega | (exact absurd h (by decide))), (by intro h; first | exact True.intro | omega | (exact absurd h (by decide))), (by intro h; first | exact True.intro | omega | (exact absurd h (by decide))), (by intro h; first | exact True.intro | omega | (exact absurd h (by decide))), (by intro h; first | exact True.intro | omega | (exact absurd h (by decide))), (by first | assumption | omega), (by first | assumption | omega)⟩))), by omega⟩)
    · show Go _ (zg_X11_scan_160 t_size t_tape i1' i3' t_sort' t_at' t_end' t_number' t_word')
      unfold zg_X11_scan_160
      refine Go_bindP (ok_X11_byteAt t_size t_tape i3' (by first | assumption | omega) (by first | assumption | omega) (by first | assumption | omega) (by first | assumption | omega)) (fun o24 q18 => ?_)
      obtain ⟨q18_0, q18_1, q18_2, q18_3, q18_4⟩ := q18
      refine Go_bindP (ok_X11_isDigit o24 (by first | assumption | omega) (by first | assumption | omega)) (fun o25 q19 => ?_)
      obtain ⟨q19_0, q19_1⟩ := q19
      refine Go_ite (fun c20 => ?_) (fun c20 => ?_)
      · have dc20 := q19_1 c20
        refine Go_chk (by unfold zout; omega) ?_
        refine Go_ite (fun c21 => ?_) (fun c21 => ?_)
        · exact Go_i (show 0 ≤ ((2 : Int)) ∧ ((2 : Int)) ≤ 4 ∧ 0 ≤ (t_at') ∧ (t_at') ≤ t_size ∧ t_end ≤ (i3') ∧ (i3') ≤ t_size ∧ (((2 : Int)) = 2 → 0 ≤ (t_number') ∧ (t_number') ≤ 999) ∧ (((2 : Int)) = 1 → 0 ≤ (t_word') ∧ (t_word') ≤ 1099511627775) ∧ (¬ ((2 : Int)) = 4 → t_end < (i3')) from ⟨(by first | assumption | omega), (by first | assumption | omega), (by first | assumption | omega), (by first | assumption | omega), (by first | assumption | omega), (by first | assumption | omega), (by intro h; first | exact True.intro | omega | (exact absurd h (by decide))), (by intro h; first | exact True.intro | omega | (exact absurd h (by decide))), (by intro h; first | exact True.intro | omega | (exact absurd h (by decide)))⟩)
        · exact Go_i (show 0 ≤ ((0 : Int)) ∧ ((0 : Int)) ≤ 4 ∧ 0 ≤ (t_at') ∧ (t_at') ≤ t_size ∧ t_end ≤ (i3') ∧ (i3') ≤ t_size ∧ (((0 : Int)) = 2 → 0 ≤ (t_number') ∧ (t_number') ≤ 999) ∧ (((0 : Int)) = 1 → 0 ≤ (t_word') ∧ (t_word') ≤ 1099511627775) ∧ (¬ ((0 : Int)) = 4 → t_end < (i3')) from ⟨(by first | assumption | omega), (by first | assumption | omega), (by first | assumption | omega), (by first | assumption | omega), (by first | assumption | omega), (by first | assumption | omega), (by intro h; first | exact True.intro | omega | (exact absurd h (by decide))), (by intro h; first | exact True.intro | omega | (exact absurd h (by decide))), (by intro h; first | exact True.intro | omega | (exact absurd h (by decide)))⟩)
      · have dc20 := q19_0 (bnf c20)
        refine Go_chk (by unfold zout; omega) ?_
        refine Go_ite (fun c22 => ?_) (fun c22 => ?_)
        · exact Go_i (show (((160 : Nat) = 0 ∧ (t_end') = t_end) ∨ ((160 : Nat) = 5 ∧ t_end ≤ (i1') ∧ (i1') ≤ t_size) ∨ ((160 : Nat) = 75 ∧ t_end ≤ (i1') ∧ (i1') ≤ ((i3' + (1 : Int))) ∧ ((i3' + (1 : Int))) ≤ t_size ∧ 0 ≤ (t_at') ∧ (t_at') ≤ t_size ∧ (i1') < t_size ∧ (((i3' + (1 : Int))) = (i1') → 97 ≤ zand (zget t_tape (Int.toNat (i1'))) 255 ∧ zand (zget t_tape (Int.toNat (i1'))) 255 ≤ 122) ∧ (((i3' + (1 : Int))) - (i1') ≤ 0 → (t_word') ≤ 0) ∧ (((i3' + (1 : Int))) - (i1') ≤ 1 → (t_word') ≤ 31) ∧ (((i3' + (1 : Int))) - (i1') ≤ 2 → (t_word') ≤ 1023) ∧ (((i3' + (1 : Int))) - (i1') ≤ 3 → (t_word') ≤ 32767) ∧ (((i3' + (1 : Int))) - (i1') ≤ 4 → (t_word') ≤ 1048575) ∧ (((i3' + (1 : Int))) - (i1') ≤ 5 → (t_word') ≤ 33554431) ∧ (((i3' + (1 : Int))) - (i1') ≤ 6 → (t_word') ≤ 1073741823) ∧ (((i3' + (1 : Int))) - (i1') ≤ 7 → (t_word') ≤ 34359738367) ∧ (((i3' + (1 : Int))) - (i1') ≤ 8 → (t_word') ≤ 1099511627775) ∧ (t_word') ≤ 1099511627775 ∧ 0 ≤ (t_word')) ∨ ((160 : Nat) = 160 ∧ t_end ≤ (i1') ∧ (i1') + 1 ≤ ((i3' + (1 : Int))) ∧ ((i3' + (1 : Int))) ≤ t_size ∧ 0 ≤ (t_at') ∧ (t_at') ≤ t_size ∧ 0 ≤ (t_number') ∧ (t_number') ≤ 999 ∧ (((i3' + (1 : Int))) - (i1') ≤ 1 → (t_number') ≤ 9) ∧ (((i3' + (1 : Int))) - (i1') ≤ 2 → (t_number') ≤ 99))) ∧ (t_size - ((i3' + (1 : Int)))).toNat < (t_size - i3').toNat from ⟨Or.inr (Or.inr (Or.inr (⟨rfl, (by first | assumption | omega), (by first | assumption | omega), (by first | assumption | omega), (by first | assumption | omega), (by first | assumption | omega), (by first | assumption | omega), (by first | assumption | omega), (by intro h; first | exact True.intro | omega | (exact absurd h (by decide))), (by intro h; first | exact True.intro | omega | (exact absurd h (by decide)))⟩))), by omega⟩)
        · refine Go_bindP (ok_X11_byteAt t_size t_tape i3' (by first | assumption | omega) (by first | assumption | omega) (by first | assumption | omega) (by first | assumption | omega)) (fun o29 q23 => ?_)
          obtain ⟨q23_0, q23_1, q23_2, q23_3, q23_4⟩ := q23
          exact Go_i (show (((160 : Nat) = 0 ∧ (t_end') = t_end) ∨ ((160 : Nat) = 5 ∧ t_end ≤ (i1') ∧ (i1') ≤ t_size) ∨ ((160 : Nat) = 75 ∧ t_end ≤ (i1') ∧ (i1') ≤ ((i3' + (1 : Int))) ∧ ((i3' + (1 : Int))) ≤ t_size ∧ 0 ≤ (t_at') ∧ (t_at') ≤ t_size ∧ (i1') < t_size ∧ (((i3' + (1 : Int))) = (i1') → 97 ≤ zand (zget t_tape (Int.toNat (i1'))) 255 ∧ zand (zget t_tape (Int.toNat (i1'))) 255 ≤ 122) ∧ (((i3' + (1 : Int))) - (i1') ≤ 0 → (t_word') ≤ 0) ∧ (((i3' + (1 : Int))) - (i1') ≤ 1 → (t_word') ≤ 31) ∧ (((i3' + (1 : Int))) - (i1') ≤ 2 → (t_word') ≤ 1023) ∧ (((i3' + (1 : Int))) - (i1') ≤ 3 → (t_word') ≤ 32767) ∧ (((i3' + (1 : Int))) - (i1') ≤ 4 → (t_word') ≤ 1048575) ∧ (((i3' + (1 : Int))) - (i1') ≤ 5 → (t_word') ≤ 33554431) ∧ (((i3' + (1 : Int))) - (i1') ≤ 6 → (t_word') ≤ 1073741823) ∧ (((i3' + (1 : Int))) - (i1') ≤ 7 → (t_word') ≤ 34359738367) ∧ (((i3' + (1 : Int))) - (i1') ≤ 8 → (t_word') ≤ 1099511627775) ∧ (t_word') ≤ 1099511627775 ∧ 0 ≤ (t_word')) ∨ ((160 : Nat) = 160 ∧ t_end ≤ (i1') ∧ (i1') + 1 ≤ ((i3' + (1 : Int))) ∧ ((i3' + (1 : Int))) ≤ t_size ∧ 0 ≤ (t_at') ∧ (t_at') ≤ t_size ∧ 0 ≤ (((((10 : Int) * t_number') + o29) - (48 : Int))) ∧ (((((10 : Int) * t_number') + o29) - (48 : Int))) ≤ 999 ∧ (((i3' + (1 : Int))) - (i1') ≤ 1 → (((((10 : Int) * t_number') + o29) - (48 : Int))) ≤ 9) ∧ (((i3' + (1 : Int))) - (i1') ≤ 2 → (((((10 : Int) * t_number') + o29) - (48 : Int))) ≤ 99))) ∧ (t_size - ((i3' + (1 : Int)))).toNat < (t_size - i3').toNat from ⟨Or.inr (Or.inr (Or.inr (⟨rfl, (by first | assumption | omega), (by first | assumption | omega), (by first | assumption | omega), (by first | assumption | omega), (by first | assumption | omega), (by first | assumption | omega), (by first | assumption | omega), (by intro h; first | exact True.intro | omega | (exact absurd h (by decide))), (by intro h; first | exact True.intro | omega | (exact absurd h (by decide)))⟩))), by omega⟩)
  · exact (show ((0 : Nat) = 0 ∧ t_end = t_end) ∨ ((0 : Nat) = 5 ∧ t_end ≤ 0 ∧ 0 ≤ t_size) ∨ ((0 : Nat) = 75 ∧ t_end ≤ 0 ∧ 0 ≤ 0 ∧ 0 ≤ t_size ∧ 0 ≤ t_at ∧ t_at ≤ t_size ∧ 0 < t_size ∧ (0 = 0 → 97 ≤ zand (zget t_tape (Int.toNat 0)) 255 ∧ zand (zget t_tape (Int.toNat 0)) 255 ≤ 122) ∧ (0 - 0 ≤ 0 → t_word ≤ 0) ∧ (0 - 0 ≤ 1 → t_word ≤ 31) ∧ (0 - 0 ≤ 2 → t_word ≤ 1023) ∧ (0 - 0 ≤ 3 → t_word ≤ 32767) ∧ (0 - 0 ≤ 4 → t_word ≤ 1048575) ∧ (0 - 0 ≤ 5 → t_word ≤ 33554431) ∧ (0 - 0 ≤ 6 → t_word ≤ 1073741823) ∧ (0 - 0 ≤ 7 → t_word ≤ 34359738367) ∧ (0 - 0 ≤ 8 → t_word ≤ 1099511627775) ∧ t_word ≤ 1099511627775 ∧ 0 ≤ t_word) ∨ ((0 : Nat) = 160 ∧ t_end ≤ 0 ∧ 0 + 1 ≤ 0 ∧ 0 ≤ t_size ∧ 0 ≤ t_at ∧ t_at ≤ t_size ∧ 0 ≤ t_number ∧ t_number ≤ 999 ∧ (0 - 0 ≤ 1 → t_number ≤ 9) ∧ (0 - 0 ≤ 2 → t_number ≤ 99)) from Or.inl (⟨rfl, (by first | assumption | omega)⟩))
  · show 1000 < jfuel
    unfold jfuel
    omega
set_option maxRecDepth 20000 in
theorem ok_X11_begin (t_taped : Int) (t_size : Int) (t_sort : Int) (t_at : Int) (t_end : Int) (t_number : Int) (t_word : Int) (t_tape : Nat) (p0 : 0 ≤ t_taped) (p1 : t_taped ≤ 300) : Go (fun o => (o.1) = 0 ∧ (o.2.1) = t_taped ∧ 0 ≤ (o.2.2.1) ∧ (o.2.2.1) ≤ 4 ∧ 0 ≤ (o.2.2.2.1) ∧ (o.2.2.2.1) ≤ t_taped ∧ 0 ≤ (o.2.2.2.2.1) ∧ (o.2.2.2.2.1) ≤ t_taped ∧ ((o.2.2.1) = 2 → 0 ≤ (o.2.2.2.2.2.1) ∧ (o.2.2.2.2.2.1) ≤ 999) ∧ ((o.2.2.1) = 1 → 0 ≤ (o.2.2.2.2.2.2) ∧ (o.2.2.2.2.2.2) ≤ 1099511627775)) (zf_X11_begin t_taped t_size t_sort t_at t_end t_number t_word t_tape) := by
  unfold zf_X11_begin
  refine Go_bindP (ok_X11_scan t_taped t_sort t_at (0 : Int) t_number t_word t_tape (by first | assumption | omega) (by first | assumption | omega) (by first | assumption | omega) (by first | assumption | omega)) (fun o1 q1 => ?_)
  obtain ⟨q1_0, q1_1, q1_2, q1_3, q1_4, q1_5, q1_6, q1_7, q1_8⟩ := q1
  exact Go_i (show ((0 : Int)) = 0 ∧ (t_taped) = t_taped ∧ 0 ≤ ((o1.1)) ∧ ((o1.1)) ≤ 4 ∧ 0 ≤ ((o1.2.1)) ∧ ((o1.2.1)) ≤ t_taped ∧ 0 ≤ ((o1.2.2.1)) ∧ ((o1.2.2.1)) ≤ t_taped ∧ (((o1.1)) = 2 → 0 ≤ ((o1.2.2.2.1)) ∧ ((o1.2.2.2.1)) ≤ 999) ∧ (((o1.1)) = 1 → 0 ≤ ((o1.2.2.2.2)) ∧ ((o1.2.2.2.2)) ≤ 1099511627775) from ⟨(by first | assumption | omega), (by first | assumption | omega), (by first | assumption | omega), (by first | assumption | omega), (by first | assumption | omega), (by first | assumption | omega), (by first | assumption | omega), (by first | assumption | omega), (by first | assumption | omega), (by first | assumption | omega)⟩)
set_option maxRecDepth 20000 in
theorem ok_X11_fails (t_at : Int) (t_faultKind : Int) (t_faultPlace : Int) (i1 : Int)  : Go (fun o => (o.1) = false ∧ (o.2.1) = i1 ∧ (o.2.2) = t_at) (zf_X11_fails t_at t_faultKind t_faultPlace i1) := by
  unfold zf_X11_fails
  exact Go_i (show (false) = false ∧ (i1) = i1 ∧ (t_at) = t_at from ⟨(by rfl), (by first | assumption | omega), (by first | assumption | omega)⟩)
set_option maxRecDepth 20000 in
theorem ok_X11_fault (t_faultKind : Int) (t_faultPlace : Int) (i1 : Int) (p0 : -2147483648 ≤ i1) (p1 : i1 ≤ 2147483647) : Go (fun o => True) (zf_X11_fault t_faultKind t_faultPlace i1) := by
  unfold zf_X11_fault
  refine Go_chk (by unfold zout; omega) ?_
  refine Go_ite (fun c1 => ?_) (fun c1 => ?_)
  · exact Go_i (show True from trivial)
  · refine Go_ite (fun c2 => ?_) (fun c2 => ?_)
    · exact Go_i (show True from trivial)
    · exact Go_i (show True from trivial)
set_option maxRecDepth 20000 in
theorem ok_X11_placeOf (t_listMany : Int) (t_list : Nat) (i1 : Int) (p0 : 1 ≤ t_listMany) (p1 : t_listMany ≤ 429) (p2 : -9223372036854775808 ≤ i1) (p3 : i1 ≤ 9223372036854775807) : Go (fun o => 0 ≤ (o) ∧ (o) < t_listMany) (zf_X11_placeOf t_listMany t_list i1) := by
  unfold zf_X11_placeOf
  refine jok (fun (s : zS_X11_placeOf) => match s with | (lab, i1', i3', i4') => (lab = 0 ∧ -9223372036854775808 ≤ i1' ∧ i1' ≤ 9223372036854775807) ∨ (lab = 10 ∧ -9223372036854775808 ≤ i1' ∧ i1' ≤ 9223372036854775807 ∧ 0 ≤ i3' ∧ i3' ≤ i4' ∧ i4' < t_listMany)) (fun (s : zS_X11_placeOf) => match s with | (lab, i1', i3', i4') => if lab = 0 then 1000 else if lab = 10 then (i4' - i3').toNat else 0) (fun (o : zO_X11_placeOf) => 0 ≤ (o) ∧ (o) < t_listMany) ?_ _ ?_ ?_
  · intro s hI
    obtain ⟨lab, i1', i3', i4'⟩ := s
    have hI : (lab = 0 ∧ -9223372036854775808 ≤ i1' ∧ i1' ≤ 9223372036854775807) ∨ (lab = 10 ∧ -9223372036854775808 ≤ i1' ∧ i1' ≤ 9223372036854775807 ∧ 0 ≤ i3' ∧ i3' ≤ i4' ∧ i4' < t_listMany) := hI
    rcases hI with ⟨rfl, v0_0, v0_1⟩ | ⟨rfl, v10_0, v10_1, v10_2, v10_3, v10_4⟩
    · show Go _ (zg_X11_placeOf_0 t_listMany t_list i1' i3' i4')
      unfold zg_X11_placeOf_0
      exact Go_i (show (((10 : Nat) = 0 ∧ -9223372036854775808 ≤ (i1') ∧ (i1') ≤ 9223372036854775807) ∨ ((10 : Nat) = 10 ∧ -9223372036854775808 ≤ (i1') ∧ (i1') ≤ 9223372036854775807 ∧ 0 ≤ ((0 : Int)) ∧ ((0 : Int)) ≤ ((t_listMany - (1 : Int))) ∧ ((t_listMany - (1 : Int))) < t_listMany)) ∧ (((t_listMany - (1 : Int))) - ((0 : Int))).toNat < 1000 from ⟨Or.inr (⟨rfl, (by first | assumption | omega), (by first | assumption | omega), (by first | assumption | omega), (by first | assumption | omega), (by first | assumption | omega)⟩), by omega⟩)
    · show Go _ (zg_X11_placeOf_10 t_listMany t_list i1' i3' i4')
      unfold zg_X11_placeOf_10
      refine Go_chk (by unfold zout; omega) ?_
      refine Go_chk (by unfold zout; omega) ?_
      refine Go_ite (fun c1 => ?_) (fun c1 => ?_)
      · exact Go_i (show 0 ≤ (i3') ∧ (i3') < t_listMany from ⟨(by first | assumption | omega), (by first | assumption | omega)⟩)
      · refine Go_chk (by unfold zout; omega) ?_
        have a2 := rtdiv2 (a := (i3' + i4')) (by omega)
        refine Go_chk (by omega) ?_
        refine Go_chk (by unfold zoutL; omega) ?_
        have a3 := rgetL t_list (Int.toNat (Int.tdiv (i3' + i4') (2 : Int)))
        refine Go_ite (fun c4 => ?_) (fun c4 => ?_)
        · exact Go_i (show (((10 : Nat) = 0 ∧ -9223372036854775808 ≤ (i1') ∧ (i1') ≤ 9223372036854775807) ∨ ((10 : Nat) = 10 ∧ -9223372036854775808 ≤ (i1') ∧ (i1') ≤ 9223372036854775807 ∧ 0 ≤ (i3') ∧ (i3') ≤ ((Int.tdiv (i3' + i4') (2 : Int))) ∧ ((Int.tdiv (i3' + i4') (2 : Int))) < t_listMany)) ∧ (((Int.tdiv (i3' + i4') (2 : Int))) - (i3')).toNat < (i4' - i3').toNat from ⟨Or.inr (⟨rfl, (by first | assumption | omega), (by first | assumption | omega), (by first | assumption | omega), (by first | assumption | omega), (by first | assumption | omega)⟩), by omega⟩)
        · exact Go_i (show (((10 : Nat) = 0 ∧ -9223372036854775808 ≤ (i1') ∧ (i1') ≤ 9223372036854775807) ∨ ((10 : Nat) = 10 ∧ -9223372036854775808 ≤ (i1') ∧ (i1') ≤ 9223372036854775807 ∧ 0 ≤ (((Int.tdiv (i3' + i4') (2 : Int)) + (1 : Int))) ∧ (((Int.tdiv (i3' + i4') (2 : Int)) + (1 : Int))) ≤ (i4') ∧ (i4') < t_listMany)) ∧ ((i4') - (((Int.tdiv (i3' + i4') (2 : Int)) + (1 : Int)))).toNat < (i4' - i3').toNat from ⟨Or.inr (⟨rfl, (by first | assumption | omega), (by first | assumption | omega), (by first | assumption | omega), (by first | assumption | omega), (by first | assumption | omega)⟩), by omega⟩)
  · exact (show ((0 : Nat) = 0 ∧ -9223372036854775808 ≤ i1 ∧ i1 ≤ 9223372036854775807) ∨ ((0 : Nat) = 10 ∧ -9223372036854775808 ≤ i1 ∧ i1 ≤ 9223372036854775807 ∧ 0 ≤ 0 ∧ 0 ≤ 0 ∧ 0 < t_listMany) from Or.inl (⟨rfl, (by first | assumption | omega), (by first | assumption | omega)⟩))
  · show 1000 < jfuel
    unfold jfuel
    omega
set_option maxRecDepth 20000 in
theorem ok_X11_becomes (t_corners : Int) (t_own : Int) (t_seenMany : Int) (t_rightMany : Int) (t_lastTold : Int) (i1 : Int) (i2 : Int) (p0 : -2147483648 ≤ t_corners) (p1 : t_corners ≤ 2147483647) (p2 : -2147483648 ≤ i1) (p3 : i1 ≤ 2147483647) : Go (fun o => (o.1) = i1 ∧ (o.2.1) = i2 ∧ (i1 = t_corners → (o.2.2.1) = t_seenMany ∧ (o.2.2.2.1) = t_rightMany ∧ (o.2.2.2.2) = t_lastTold) ∧ (¬ i1 = t_corners → (o.2.2.1) = 0 ∧ (o.2.2.2.1) = 0 ∧ (o.2.2.2.2) = 0)) (zf_X11_becomes t_corners t_own t_seenMany t_rightMany t_lastTold i1 i2) := by
  unfold zf_X11_becomes
  refine Go_chk (by unfold zout; omega) ?_
  refine Go_chk (by unfold zout; omega) ?_
  refine Go_ite (fun c1 => ?_) (fun c1 => ?_)
  · exact Go_i (show (i1) = i1 ∧ (i2) = i2 ∧ (i1 = t_corners → (t_seenMany) = t_seenMany ∧ (t_rightMany) = t_rightMany ∧ (t_lastTold) = t_lastTold) ∧ (¬ i1 = t_corners → (t_seenMany) = 0 ∧ (t_rightMany) = 0 ∧ (t_lastTold) = 0) from ⟨(by first | assumption | omega), (by first | assumption | omega), (by intro h; first | (exfalso; omega) | exact ⟨rfl, rfl, rfl⟩), (by intro h; first | (exfalso; omega) | exact ⟨rfl, rfl, rfl⟩)⟩)
  · exact Go_i (show (i1) = i1 ∧ (i2) = i2 ∧ (i1 = t_corners → ((0 : Int)) = t_seenMany ∧ ((0 : Int)) = t_rightMany ∧ ((0 : Int)) = t_lastTold) ∧ (¬ i1 = t_corners → ((0 : Int)) = 0 ∧ ((0 : Int)) = 0 ∧ ((0 : Int)) = 0) from ⟨(by first | assumption | omega), (by first | assumption | omega), (by intro h; first | (exfalso; omega) | exact ⟨rfl, rfl, rfl⟩), (by intro h; first | (exfalso; omega) | exact ⟨rfl, rfl, rfl⟩)⟩)
set_option maxRecDepth 20000 in
theorem ok_X11_near (t_numberOf : Nat) (i1 : Int) (i2 : Int) (i4 : Int) (i5 : Int) (p0 : 4 ≤ i1) (p1 : i1 ≤ 9) (p2 : 0 ≤ i4) (p3 : i4 < i1) (p4 : 0 ≤ i5) (p5 : i5 < i1) : Go (fun o => True) (zf_X11_near t_numberOf i1 i2 i4 i5) := by
  unfold zf_X11_near
  refine Go_chk (by unfold zout; omega) ?_
  refine Go_chk (by unfold zout; omega) ?_
  refine Go_ite (fun c1 => ?_) (fun c1 => ?_)
  · exact Go_i (show True from trivial)
  · refine Go_bindP (ok_X11_isNext i1 i4 i5 (by first | assumption | omega) (by first | assumption | omega) (by first | assumption | omega) (by first | assumption | omega) (by first | assumption | omega) (by first | assumption | omega)) (fun o3 q2 => ?_)
    refine Go_ite (fun c3 => ?_) (fun c3 => ?_)
    · refine Go_chk (by omega) ?_
      have a4 := rget t_numberOf (Int.toNat (((10 : Int) * i4) + i5))
      have a5 := rshrL i2 (zget t_numberOf (Int.toNat (((10 : Int) * i4) + i5)))
      have a6 := randL (zshrL i2 (zget t_numberOf (Int.toNat (((10 : Int) * i4) + i5)))) (1 : Int)
      refine Go_ite (fun c7 => ?_) (fun c7 => ?_)
      · exact Go_i (show True from trivial)
      · exact Go_i (show True from trivial)
    · exact Go_i (show True from trivial)
set_option maxRecDepth 20000 in
theorem ok_X11_readCorner (t_sort : Int) (t_at : Int) (t_number : Int) (t_faultKind : Int) (t_faultPlace : Int) (t_newCorners : Int) (p0 : -2147483648 ≤ t_sort) (p1 : t_sort ≤ 2147483647) (p2 : -2147483648 ≤ t_number) (p3 : t_number ≤ 2147483647) (p4 : 4 ≤ t_newCorners) (p5 : t_newCorners ≤ 9) : Go (fun o => ((o.1) = true → t_sort = 2 ∧ 0 ≤ t_number ∧ t_number < t_newCorners) ∧ ((o.1) = false → True)) (zf_X11_readCorner t_sort t_at t_number t_faultKind t_faultPlace t_newCorners) := by
  unfold zf_X11_readCorner
  refine Go_chk (by unfold zout; omega) ?_
  refine Go_ite (fun c1 => ?_) (fun c1 => ?_)
  · refine Go_bindP (ok_X11_in t_number (0 : Int) (t_newCorners - (1 : Int)) (by first | assumption | omega) (by first | assumption | omega) (by first | assumption | omega) (by first | assumption | omega) (by first | assumption | omega) (by first | assumption | omega)) (fun o2 q2 => ?_)
    obtain ⟨q2_0, q2_1⟩ := q2
    refine Go_ite (fun c3 => ?_) (fun c3 => ?_)
    · have dc3 := q2_1 c3
      refine Go_bindP (ok_X11_fails t_at t_faultKind t_faultPlace (2 : Int) ) (fun o3 q4 => ?_)
      obtain ⟨q4_0, q4_1, q4_2⟩ := q4
      exact Go_i (show (((o3.1)) = true → t_sort = 2 ∧ 0 ≤ t_number ∧ t_number < t_newCorners) ∧ (((o3.1)) = false → True) from ⟨(by intro h; first | exact True.intro | omega | (exact absurd h (by decide)) | (simp_all; done)), (by intro h; first | exact True.intro | omega | (exact absurd h (by decide)) | (simp_all; done))⟩)
    · have dc3 := q2_0 (bnf c3)
      exact Go_i (show ((true) = true → t_sort = 2 ∧ 0 ≤ t_number ∧ t_number < t_newCorners) ∧ ((true) = false → True) from ⟨(by intro h; first | exact True.intro | omega | (exact absurd h (by decide)) | (simp_all; done)), (by intro h; first | exact True.intro | omega | (exact absurd h (by decide)) | (simp_all; done))⟩)
  · refine Go_bindP (ok_X11_fails t_at t_faultKind t_faultPlace (1 : Int) ) (fun o5 q5 => ?_)
    obtain ⟨q5_0, q5_1, q5_2⟩ := q5
    exact Go_i (show (((o5.1)) = true → t_sort = 2 ∧ 0 ≤ t_number ∧ t_number < t_newCorners) ∧ (((o5.1)) = false → True) from ⟨(by intro h; first | exact True.intro | omega | (exact absurd h (by decide)) | (simp_all; done)), (by intro h; first | exact True.intro | omega | (exact absurd h (by decide)) | (simp_all; done))⟩)
set_option maxRecDepth 20000 in
theorem ok_X11_isCorner (t_corners : Int) (i1 : Int) (p0 : 4 ≤ t_corners) (p1 : t_corners ≤ 9) (p2 : -2147483648 ≤ i1) (p3 : i1 ≤ 2147483647) : Go (fun o => ((o) = true → 0 ≤ i1 ∧ i1 < t_corners) ∧ ((o) = false → ¬ (0 ≤ i1 ∧ i1 < t_corners))) (zf_X11_isCorner t_corners i1) := by
  unfold zf_X11_isCorner
  refine Go_bindP (ok_X11_in i1 (0 : Int) (t_corners - (1 : Int)) (by first | assumption | omega) (by first | assumption | omega) (by first | assumption | omega) (by first | assumption | omega) (by first | assumption | omega) (by first | assumption | omega)) (fun o1 q1 => ?_)
  obtain ⟨q1_0, q1_1⟩ := q1
  exact Go_i (show ((o1) = true → 0 ≤ i1 ∧ i1 < t_corners) ∧ ((o1) = false → ¬ (0 ≤ i1 ∧ i1 < t_corners)) from ⟨(by intro h; first | (have z := q1_0 h; omega) | (have z := q1_1 h; omega)), (by intro h; first | (have z := q1_0 h; omega) | (have z := q1_1 h; omega))⟩)
set_option maxRecDepth 20000 in
theorem ok_X11_isAt (t_tA : Nat) (t_tB : Nat) (t_tC : Nat) (i1 : Int) (i2 : Int) (p0 : 0 ≤ i1) (p1 : i1 < 8) (p2 : -2147483648 ≤ i2) (p3 : i2 ≤ 2147483647) : Go (fun o => True) (zf_X11_isAt t_tA t_tB t_tC i1 i2) := by
  unfold zf_X11_isAt
  refine Go_chk (by omega) ?_
  refine Go_chk (by unfold zout; omega) ?_
  have a1 := rget t_tA (Int.toNat i1)
  refine Go_ite (fun c2 => ?_) (fun c2 => ?_)
  · exact Go_i (show True from trivial)
  · have a3 := rget t_tB (Int.toNat i1)
    refine Go_ite (fun c4 => ?_) (fun c4 => ?_)
    · exact Go_i (show True from trivial)
    · have a5 := rget t_tC (Int.toNat i1)
      refine Go_ite (fun c6 => ?_) (fun c6 => ?_)
      · exact Go_i (show True from trivial)
      · exact Go_i (show True from trivial)
set_option maxRecDepth 20000 in
theorem ok_X11_rowAt (t_numberOf : Nat) (i1 : Int) (i2 : Int) (i4 : Int) (p0 : 4 ≤ i1) (p1 : i1 ≤ 9) (p2 : 0 ≤ i4) (p3 : i4 < i1) : Go (fun o => 1 ≤ (o) ∧ (o) ≤ 10) (zf_X11_rowAt t_numberOf i1 i2 i4) := by
  unfold zf_X11_rowAt
  refine jok (fun (s : zS_X11_rowAt) => match s with | (lab, i1', i2', i4', i5', i6') => (lab = 0 ∧ 4 ≤ i1' ∧ i1' ≤ 9 ∧ i1' = i1 ∧ 0 ≤ i4' ∧ i4' < i1') ∨ (lab = 6 ∧ 4 ≤ i1' ∧ i1' ≤ 9 ∧ i1' = i1 ∧ 0 ≤ i4' ∧ i4' < i1' ∧ 0 ≤ i6' ∧ i6' ≤ i1' ∧ 1 ≤ i5' ∧ i5' ≤ i6' + 1)) (fun (s : zS_X11_rowAt) => match s with | (lab, i1', i2', i4', i5', i6') => if lab = 0 then 50 else if lab = 6 then (20 - i6').toNat else 0) (fun (o : zO_X11_rowAt) => 1 ≤ (o) ∧ (o) ≤ 10) ?_ _ ?_ ?_
  · intro s hI
    obtain ⟨lab, i1', i2', i4', i5', i6'⟩ := s
    have hI : (lab = 0 ∧ 4 ≤ i1' ∧ i1' ≤ 9 ∧ i1' = i1 ∧ 0 ≤ i4' ∧ i4' < i1') ∨ (lab = 6 ∧ 4 ≤ i1' ∧ i1' ≤ 9 ∧ i1' = i1 ∧ 0 ≤ i4' ∧ i4' < i1' ∧ 0 ≤ i6' ∧ i6' ≤ i1' ∧ 1 ≤ i5' ∧ i5' ≤ i6' + 1) := hI
    rcases hI with ⟨rfl, v0_0, v0_1, v0_2, v0_3, v0_4⟩ | ⟨rfl, v6_0, v6_1, v6_2, v6_3, v6_4, v6_5, v6_6, v6_7, v6_8⟩
    · show Go _ (zg_X11_rowAt_0 t_numberOf i1' i2' i4' i5' i6')
      unfold zg_X11_rowAt_0
      exact Go_i (show (((6 : Nat) = 0 ∧ 4 ≤ (i1') ∧ (i1') ≤ 9 ∧ (i1') = i1 ∧ 0 ≤ (i4') ∧ (i4') < (i1')) ∨ ((6 : Nat) = 6 ∧ 4 ≤ (i1') ∧ (i1') ≤ 9 ∧ (i1') = i1 ∧ 0 ≤ (i4') ∧ (i4') < (i1') ∧ 0 ≤ ((0 : Int)) ∧ ((0 : Int)) ≤ (i1') ∧ 1 ≤ ((1 : Int)) ∧ ((1 : Int)) ≤ ((0 : Int)) + 1)) ∧ (20 - ((0 : Int))).toNat < 50 from ⟨Or.inr (⟨rfl, (by first | assumption | omega), (by first | assumption | omega), (by first | assumption | omega), (by first | assumption | omega), (by first | assumption | omega), (by first | assumption | omega), (by first | assumption | omega), (by first | assumption | omega), (by first | assumption | omega)⟩), by omega⟩)
    · show Go _ (zg_X11_rowAt_6 t_numberOf i1' i2' i4' i5' i6')
      unfold zg_X11_rowAt_6
      refine Go_chk (by unfold zout; omega) ?_
      refine Go_chk (by unfold zout; omega) ?_
      refine Go_ite (fun c1 => ?_) (fun c1 => ?_)
      · exact Go_i (show 1 ≤ (i5') ∧ (i5') ≤ 10 from ⟨(by first | assumption | omega), (by first | assumption | omega)⟩)
      · refine Go_bindP (ok_X11_isLine i1' i4' i6' (by first | assumption | omega) (by first | assumption | omega) (by first | assumption | omega) (by first | assumption | omega) (by first | assumption | omega) (by first | assumption | omega)) (fun o3 q2 => ?_)
        obtain ⟨q2_0, q2_1⟩ := q2
        refine Go_ite (fun c3 => ?_) (fun c3 => ?_)
        · have dc3 := q2_1 c3
          exact Go_i (show (((6 : Nat) = 0 ∧ 4 ≤ (i1') ∧ (i1') ≤ 9 ∧ (i1') = i1 ∧ 0 ≤ (i4') ∧ (i4') < (i1')) ∨ ((6 : Nat) = 6 ∧ 4 ≤ (i1') ∧ (i1') ≤ 9 ∧ (i1') = i1 ∧ 0 ≤ (i4') ∧ (i4') < (i1') ∧ 0 ≤ ((i6' + (1 : Int))) ∧ ((i6' + (1 : Int))) ≤ (i1') ∧ 1 ≤ ((i5' + (0 : Int))) ∧ ((i5' + (0 : Int))) ≤ ((i6' + (1 : Int))) + 1)) ∧ (20 - ((i6' + (1 : Int)))).toNat < (20 - i6').toNat from ⟨Or.inr (⟨rfl, (by first | assumption | omega), (by first | assumption | omega), (by first | assumption | omega), (by first | assumption | omega), (by first | assumption | omega), (by first | assumption | omega), (by first | assumption | omega), (by first | assumption | omega), (by first | assumption | omega)⟩), by omega⟩)
        · have dc3 := q2_0 (bnf c3)
          refine Go_bindP (ok_X11_near t_numberOf i1' i2' i4' i6' (by first | assumption | omega) (by first | assumption | omega) (by first | assumption | omega) (by first | assumption | omega) (by first | assumption | omega) (by first | assumption | omega)) (fun o4 q4 => ?_)
          refine Go_ite (fun c5 => ?_) (fun c5 => ?_)
          · exact Go_i (show (((6 : Nat) = 0 ∧ 4 ≤ (i1') ∧ (i1') ≤ 9 ∧ (i1') = i1 ∧ 0 ≤ (i4') ∧ (i4') < (i1')) ∨ ((6 : Nat) = 6 ∧ 4 ≤ (i1') ∧ (i1') ≤ 9 ∧ (i1') = i1 ∧ 0 ≤ (i4') ∧ (i4') < (i1') ∧ 0 ≤ ((i6' + (1 : Int))) ∧ ((i6' + (1 : Int))) ≤ (i1') ∧ 1 ≤ ((i5' + (0 : Int))) ∧ ((i5' + (0 : Int))) ≤ ((i6' + (1 : Int))) + 1)) ∧ (20 - ((i6' + (1 : Int)))).toNat < (20 - i6').toNat from ⟨Or.inr (⟨rfl, (by first | assumption | omega), (by first | assumption | omega), (by first | assumption | omega), (by first | assumption | omega), (by first | assumption | omega), (by first | assumption | omega), (by first | assumption | omega), (by first | assumption | omega), (by first | assumption | omega)⟩), by omega⟩)
          · exact Go_i (show (((6 : Nat) = 0 ∧ 4 ≤ (i1') ∧ (i1') ≤ 9 ∧ (i1') = i1 ∧ 0 ≤ (i4') ∧ (i4') < (i1')) ∨ ((6 : Nat) = 6 ∧ 4 ≤ (i1') ∧ (i1') ≤ 9 ∧ (i1') = i1 ∧ 0 ≤ (i4') ∧ (i4') < (i1') ∧ 0 ≤ ((i6' + (1 : Int))) ∧ ((i6' + (1 : Int))) ≤ (i1') ∧ 1 ≤ ((i5' + (1 : Int))) ∧ ((i5' + (1 : Int))) ≤ ((i6' + (1 : Int))) + 1)) ∧ (20 - ((i6' + (1 : Int)))).toNat < (20 - i6').toNat from ⟨Or.inr (⟨rfl, (by first | assumption | omega), (by first | assumption | omega), (by first | assumption | omega), (by first | assumption | omega), (by first | assumption | omega), (by first | assumption | omega), (by first | assumption | omega), (by first | assumption | omega), (by first | assumption | omega)⟩), by omega⟩)
  · exact (show ((0 : Nat) = 0 ∧ 4 ≤ i1 ∧ i1 ≤ 9 ∧ i1 = i1 ∧ 0 ≤ i4 ∧ i4 < i1) ∨ ((0 : Nat) = 6 ∧ 4 ≤ i1 ∧ i1 ≤ 9 ∧ i1 = i1 ∧ 0 ≤ i4 ∧ i4 < i1 ∧ 0 ≤ 0 ∧ 0 ≤ i1 ∧ 1 ≤ 0 ∧ 0 ≤ 0 + 1) from Or.inl (⟨rfl, (by first | assumption | omega), (by first | assumption | omega), (by first | assumption | omega), (by first | assumption | omega), (by first | assumption | omega)⟩))
  · show 50 < jfuel
    unfold jfuel
    omega
set_option maxRecDepth 20000 in
theorem ok_X11_passed (t_passedMany : Int) (t_passedBy : Nat) (i1 : Int) (p0 : 0 ≤ t_passedMany) (p1 : t_passedMany ≤ 64) (p2 : -2147483648 ≤ i1) (p3 : i1 ≤ 2147483647) : Go (fun o => True) (zf_X11_passed t_passedMany t_passedBy i1) := by
  unfold zf_X11_passed
  refine Go_bindP (ok_X11_in i1 (0 : Int) (t_passedMany - (1 : Int)) (by first | assumption | omega) (by first | assumption | omega) (by first | assumption | omega) (by first | assumption | omega) (by first | assumption | omega) (by first | assumption | omega)) (fun o1 q1 => ?_)
  obtain ⟨q1_0, q1_1⟩ := q1
  refine Go_ite (fun c2 => ?_) (fun c2 => ?_)
  · have dc2 := q1_1 c2
    exact Go_i (show True from trivial)
  · have dc2 := q1_0 (bnf c2)
    refine Go_chk (by omega) ?_
    have a3 := rget t_passedBy (Int.toNat i1)
    exact Go_i (show True from trivial)
set_option maxRecDepth 20000 in
theorem ok_X11_turned (t_lines : Int) (t_numberOf : Nat) (t_lesser : Nat) (t_greater : Nat) (i1 : Int) (i2 : Int) (i4 : Int) (i5 : Bool) (p0 : 4 ≤ i1) (p1 : i1 ≤ 9) (p2 : (∀ k : Nat, (k : Int) < t_lines → 0 ≤ zget t_lesser k ∧ zget t_lesser k < i1)) (p3 : (∀ k : Nat, (k : Int) < t_lines → 0 ≤ zget t_greater k ∧ zget t_greater k < i1)) (p4 : 0 ≤ t_lines) (p5 : t_lines ≤ 27) (p6 : 0 ≤ i4) (p7 : i4 < i1) : Go (fun o => -9223372036854775808 ≤ (o) ∧ (o) ≤ 9223372036854775807) (zf_X11_turned t_lines t_numberOf t_lesser t_greater i1 i2 i4 i5) := by
  unfold zf_X11_turned
  refine jok (fun (s : zS_X11_turned) => match s with | (lab, i1', i2', i4', i5', i6', i8') => (lab = 0 ∧ i1' = i1 ∧ 0 ≤ i4' ∧ i4' < i1') ∨ (lab = 6 ∧ i1' = i1 ∧ 0 ≤ i4' ∧ i4' < i1' ∧ 0 ≤ i8' ∧ i8' ≤ t_lines ∧ -9223372036854775808 ≤ i6' ∧ i6' ≤ 9223372036854775807)) (fun (s : zS_X11_turned) => match s with | (lab, i1', i2', i4', i5', i6', i8') => if lab = 0 then 50 else if lab = 6 then (40 - i8').toNat else 0) (fun (o : zO_X11_turned) => -9223372036854775808 ≤ (o) ∧ (o) ≤ 9223372036854775807) ?_ _ ?_ ?_
  · intro s hI
    obtain ⟨lab, i1', i2', i4', i5', i6', i8'⟩ := s
    have hI : (lab = 0 ∧ i1' = i1 ∧ 0 ≤ i4' ∧ i4' < i1') ∨ (lab = 6 ∧ i1' = i1 ∧ 0 ≤ i4' ∧ i4' < i1' ∧ 0 ≤ i8' ∧ i8' ≤ t_lines ∧ -9223372036854775808 ≤ i6' ∧ i6' ≤ 9223372036854775807) := hI
    rcases hI with ⟨rfl, v0_0, v0_1, v0_2⟩ | ⟨rfl, v6_0, v6_1, v6_2, v6_3, v6_4, v6_5, v6_6⟩
    · show Go _ (zg_X11_turned_0 t_lines t_numberOf t_lesser t_greater i1' i2' i4' i5' i6' i8')
      unfold zg_X11_turned_0
      exact Go_i (show (((6 : Nat) = 0 ∧ (i1') = i1 ∧ 0 ≤ (i4') ∧ (i4') < (i1')) ∨ ((6 : Nat) = 6 ∧ (i1') = i1 ∧ 0 ≤ (i4') ∧ (i4') < (i1') ∧ 0 ≤ ((0 : Int)) ∧ ((0 : Int)) ≤ t_lines ∧ -9223372036854775808 ≤ ((0 : Int)) ∧ ((0 : Int)) ≤ 9223372036854775807)) ∧ (40 - ((0 : Int))).toNat < 50 from ⟨Or.inr (⟨rfl, (by first | assumption | omega), (by first | assumption | omega), (by first | assumption | omega), (by first | assumption | omega), (by first | assumption | omega), (by first | assumption | omega), (by first | assumption | omega)⟩), by omega⟩)
    · show Go _ (zg_X11_turned_6 t_lines t_numberOf t_lesser t_greater i1' i2' i4' i5' i6' i8')
      unfold zg_X11_turned_6
      refine Go_chk (by unfold zout; omega) ?_
      refine Go_chk (by unfold zout; omega) ?_
      refine Go_ite (fun c1 => ?_) (fun c1 => ?_)
      · exact Go_i (show -9223372036854775808 ≤ (i6') ∧ (i6') ≤ 9223372036854775807 from ⟨(by first | assumption | omega), (by first | assumption | omega)⟩)
      · have a2 := rshrL i2' i8'
        have a3 := randL (zshrL i2' i8') (1 : Int)
        refine Go_ite (fun c4 => ?_) (fun c4 => ?_)
        · exact Go_i (show (((6 : Nat) = 0 ∧ (i1') = i1 ∧ 0 ≤ (i4') ∧ (i4') < (i1')) ∨ ((6 : Nat) = 6 ∧ (i1') = i1 ∧ 0 ≤ (i4') ∧ (i4') < (i1') ∧ 0 ≤ ((i8' + (1 : Int))) ∧ ((i8' + (1 : Int))) ≤ t_lines ∧ -9223372036854775808 ≤ (i6') ∧ (i6') ≤ 9223372036854775807)) ∧ (40 - ((i8' + (1 : Int)))).toNat < (40 - i8').toNat from ⟨Or.inr (⟨rfl, (by first | assumption | omega), (by first | assumption | omega), (by first | assumption | omega), (by first | assumption | omega), (by first | assumption | omega), (by first | assumption | omega), (by first | assumption | omega)⟩), by omega⟩)
        · refine Go_ite (fun c5 => ?_) (fun c5 => ?_)
          · refine Go_chk (by omega) ?_
            refine Go_ite (fun c6 => ?_) (fun c6 => ?_)
            · have a7 := rget t_lesser (Int.toNat i8')
              have a8 := p2 (Int.toNat i8') (by omega)
              refine Go_chk (by unfold zout; omega) ?_
              refine Go_chk (by unfold zout; omega) ?_
              refine Go_chk (by omega) ?_
              have a9 := rget t_greater (Int.toNat i8')
              have a10 := p3 (Int.toNat i8') (by omega)
              refine Go_chk (by unfold zout; omega) ?_
              refine Go_chk (by omega) ?_
              have a11 := rtmod (a := ((zget t_lesser (Int.toNat i8')) + i4')) (b := i1') (by omega) (by omega)
              have a12 := rtmod (a := ((zget t_greater (Int.toNat i8')) + i4')) (b := i1') (by omega) (by omega)
              refine Go_chk (by omega) ?_
              have a13 := rget t_numberOf (Int.toNat (((10 : Int) * (Int.tmod ((zget t_lesser (Int.toNat i8')) + i4') i1')) + (Int.tmod ((zget t_greater (Int.toNat i8')) + i4') i1')))
              have a14 := rshlL (1 : Int) (zget t_numberOf (Int.toNat (((10 : Int) * (Int.tmod ((zget t_lesser (Int.toNat i8')) + i4') i1')) + (Int.tmod ((zget t_greater (Int.toNat i8')) + i4') i1'))))
              have a15 := rorL i6' (zshlL (1 : Int) (zget t_numberOf (Int.toNat (((10 : Int) * (Int.tmod ((zget t_lesser (Int.toNat i8')) + i4') i1')) + (Int.tmod ((zget t_greater (Int.toNat i8')) + i4') i1')))))
              exact Go_i (show (((6 : Nat) = 0 ∧ (i1') = i1 ∧ 0 ≤ (i4') ∧ (i4') < (i1')) ∨ ((6 : Nat) = 6 ∧ (i1') = i1 ∧ 0 ≤ (i4') ∧ (i4') < (i1') ∧ 0 ≤ ((i8' + (1 : Int))) ∧ ((i8' + (1 : Int))) ≤ t_lines ∧ -9223372036854775808 ≤ ((zorL i6' (zshlL (1 : Int) (zget t_numberOf (Int.toNat (((10 : Int) * (Int.tmod ((zget t_lesser (Int.toNat i8')) + i4') i1')) + (Int.tmod ((zget t_greater (Int.toNat i8')) + i4') i1'))))))) ∧ ((zorL i6' (zshlL (1 : Int) (zget t_numberOf (Int.toNat (((10 : Int) * (Int.tmod ((zget t_lesser (Int.toNat i8')) + i4') i1')) + (Int.tmod ((zget t_greater (Int.toNat i8')) + i4') i1'))))))) ≤ 9223372036854775807)) ∧ (40 - ((i8' + (1 : Int)))).toNat < (40 - i8').toNat from ⟨Or.inr (⟨rfl, (by first | assumption | omega), (by first | assumption | omega), (by first | assumption | omega), (by first | assumption | omega), (by first | assumption | omega), (by first | assumption | omega), (by first | assumption | omega)⟩), by omega⟩)
            · have a16 := rget t_lesser (Int.toNat i8')
              have a17 := p2 (Int.toNat i8') (by omega)
              refine Go_chk (by unfold zout; omega) ?_
              refine Go_chk (by unfold zout; omega) ?_
              refine Go_chk (by omega) ?_
              have a18 := rget t_greater (Int.toNat i8')
              have a19 := p3 (Int.toNat i8') (by omega)
              refine Go_chk (by unfold zout; omega) ?_
              refine Go_chk (by omega) ?_
              have a20 := rtmod (a := ((zget t_lesser (Int.toNat i8')) + i4')) (b := i1') (by omega) (by omega)
              have a21 := rtmod (a := (((i1' - (1 : Int)) - (zget t_greater (Int.toNat i8'))) + i4')) (b := i1') (by omega) (by omega)
              refine Go_chk (by omega) ?_
              have a22 := rget t_numberOf (Int.toNat (((10 : Int) * (Int.tmod ((zget t_lesser (Int.toNat i8')) + i4') i1')) + (Int.tmod (((i1' - (1 : Int)) - (zget t_greater (Int.toNat i8'))) + i4') i1')))
              have a23 := rshlL (1 : Int) (zget t_numberOf (Int.toNat (((10 : Int) * (Int.tmod ((zget t_lesser (Int.toNat i8')) + i4') i1')) + (Int.tmod (((i1' - (1 : Int)) - (zget t_greater (Int.toNat i8'))) + i4') i1'))))
              have a24 := rorL i6' (zshlL (1 : Int) (zget t_numberOf (Int.toNat (((10 : Int) * (Int.tmod ((zget t_lesser (Int.toNat i8')) + i4') i1')) + (Int.tmod (((i1' - (1 : Int)) - (zget t_greater (Int.toNat i8'))) + i4') i1')))))
              exact Go_i (show (((6 : Nat) = 0 ∧ (i1') = i1 ∧ 0 ≤ (i4') ∧ (i4') < (i1')) ∨ ((6 : Nat) = 6 ∧ (i1') = i1 ∧ 0 ≤ (i4') ∧ (i4') < (i1') ∧ 0 ≤ ((i8' + (1 : Int))) ∧ ((i8' + (1 : Int))) ≤ t_lines ∧ -9223372036854775808 ≤ ((zorL i6' (zshlL (1 : Int) (zget t_numberOf (Int.toNat (((10 : Int) * (Int.tmod ((zget t_lesser (Int.toNat i8')) + i4') i1')) + (Int.tmod (((i1' - (1 : Int)) - (zget t_greater (Int.toNat i8'))) + i4') i1'))))))) ∧ ((zorL i6' (zshlL (1 : Int) (zget t_numberOf (Int.toNat (((10 : Int) * (Int.tmod ((zget t_lesser (Int.toNat i8')) + i4') i1')) + (Int.tmod (((i1' - (1 : Int)) - (zget t_greater (Int.toNat i8'))) + i4') i1'))))))) ≤ 9223372036854775807)) ∧ (40 - ((i8' + (1 : Int)))).toNat < (40 - i8').toNat from ⟨Or.inr (⟨rfl, (by first | assumption | omega), (by first | assumption | omega), (by first | assumption | omega), (by first | assumption | omega), (by first | assumption | omega), (by first | assumption | omega), (by first | assumption | omega)⟩), by omega⟩)
          · refine Go_chk (by omega) ?_
            refine Go_ite (fun c25 => ?_) (fun c25 => ?_)
            · have a26 := rget t_lesser (Int.toNat i8')
              have a27 := p2 (Int.toNat i8') (by omega)
              refine Go_chk (by unfold zout; omega) ?_
              refine Go_chk (by unfold zout; omega) ?_
              refine Go_chk (by omega) ?_
              have a28 := rget t_greater (Int.toNat i8')
              have a29 := p3 (Int.toNat i8') (by omega)
              refine Go_chk (by unfold zout; omega) ?_
              refine Go_chk (by omega) ?_
              have a30 := rtmod (a := (((i1' - (1 : Int)) - (zget t_lesser (Int.toNat i8'))) + i4')) (b := i1') (by omega) (by omega)
              have a31 := rtmod (a := ((zget t_greater (Int.toNat i8')) + i4')) (b := i1') (by omega) (by omega)
              refine Go_chk (by omega) ?_
              have a32 := rget t_numberOf (Int.toNat (((10 : Int) * (Int.tmod (((i1' - (1 : Int)) - (zget t_lesser (Int.toNat i8'))) + i4') i1')) + (Int.tmod ((zget t_greater (Int.toNat i8')) + i4') i1')))
              have a33 := rshlL (1 : Int) (zget t_numberOf (Int.toNat (((10 : Int) * (Int.tmod (((i1' - (1 : Int)) - (zget t_lesser (Int.toNat i8'))) + i4') i1')) + (Int.tmod ((zget t_greater (Int.toNat i8')) + i4') i1'))))
              have a34 := rorL i6' (zshlL (1 : Int) (zget t_numberOf (Int.toNat (((10 : Int) * (Int.tmod (((i1' - (1 : Int)) - (zget t_lesser (Int.toNat i8'))) + i4') i1')) + (Int.tmod ((zget t_greater (Int.toNat i8')) + i4') i1')))))
              exact Go_i (show (((6 : Nat) = 0 ∧ (i1') = i1 ∧ 0 ≤ (i4') ∧ (i4') < (i1')) ∨ ((6 : Nat) = 6 ∧ (i1') = i1 ∧ 0 ≤ (i4') ∧ (i4') < (i1') ∧ 0 ≤ ((i8' + (1 : Int))) ∧ ((i8' + (1 : Int))) ≤ t_lines ∧ -9223372036854775808 ≤ ((zorL i6' (zshlL (1 : Int) (zget t_numberOf (Int.toNat (((10 : Int) * (Int.tmod (((i1' - (1 : Int)) - (zget t_lesser (Int.toNat i8'))) + i4') i1')) + (Int.tmod ((zget t_greater (Int.toNat i8')) + i4') i1'))))))) ∧ ((zorL i6' (zshlL (1 : Int) (zget t_numberOf (Int.toNat (((10 : Int) * (Int.tmod (((i1' - (1 : Int)) - (zget t_lesser (Int.toNat i8'))) + i4') i1')) + (Int.tmod ((zget t_greater (Int.toNat i8')) + i4') i1'))))))) ≤ 9223372036854775807)) ∧ (40 - ((i8' + (1 : Int)))).toNat < (40 - i8').toNat from ⟨Or.inr (⟨rfl, (by first | assumption | omega), (by first | assumption | omega), (by first | assumption | omega), (by first | assumption | omega), (by first | assumption | omega), (by first | assumption | omega), (by first | assumption | omega)⟩), by omega⟩)
            · have a35 := rget t_lesser (Int.toNat i8')
              have a36 := p2 (Int.toNat i8') (by omega)
              refine Go_chk (by unfold zout; omega) ?_
              refine Go_chk (by unfold zout; omega) ?_
              refine Go_chk (by omega) ?_
              have a37 := rget t_greater (Int.toNat i8')
              have a38 := p3 (Int.toNat i8') (by omega)
              refine Go_chk (by unfold zout; omega) ?_
              refine Go_chk (by omega) ?_
              have a39 := rtmod (a := (((i1' - (1 : Int)) - (zget t_lesser (Int.toNat i8'))) + i4')) (b := i1') (by omega) (by omega)
              have a40 := rtmod (a := (((i1' - (1 : Int)) - (zget t_greater (Int.toNat i8'))) + i4')) (b := i1') (by omega) (by omega)
              refine Go_chk (by omega) ?_
              have a41 := rget t_numberOf (Int.toNat (((10 : Int) * (Int.tmod (((i1' - (1 : Int)) - (zget t_lesser (Int.toNat i8'))) + i4') i1')) + (Int.tmod (((i1' - (1 : Int)) - (zget t_greater (Int.toNat i8'))) + i4') i1')))
              have a42 := rshlL (1 : Int) (zget t_numberOf (Int.toNat (((10 : Int) * (Int.tmod (((i1' - (1 : Int)) - (zget t_lesser (Int.toNat i8'))) + i4') i1')) + (Int.tmod (((i1' - (1 : Int)) - (zget t_greater (Int.toNat i8'))) + i4') i1'))))
              have a43 := rorL i6' (zshlL (1 : Int) (zget t_numberOf (Int.toNat (((10 : Int) * (Int.tmod (((i1' - (1 : Int)) - (zget t_lesser (Int.toNat i8'))) + i4') i1')) + (Int.tmod (((i1' - (1 : Int)) - (zget t_greater (Int.toNat i8'))) + i4') i1')))))
              exact Go_i (show (((6 : Nat) = 0 ∧ (i1') = i1 ∧ 0 ≤ (i4') ∧ (i4') < (i1')) ∨ ((6 : Nat) = 6 ∧ (i1') = i1 ∧ 0 ≤ (i4') ∧ (i4') < (i1') ∧ 0 ≤ ((i8' + (1 : Int))) ∧ ((i8' + (1 : Int))) ≤ t_lines ∧ -9223372036854775808 ≤ ((zorL i6' (zshlL (1 : Int) (zget t_numberOf (Int.toNat (((10 : Int) * (Int.tmod (((i1' - (1 : Int)) - (zget t_lesser (Int.toNat i8'))) + i4') i1')) + (Int.tmod (((i1' - (1 : Int)) - (zget t_greater (Int.toNat i8'))) + i4') i1'))))))) ∧ ((zorL i6' (zshlL (1 : Int) (zget t_numberOf (Int.toNat (((10 : Int) * (Int.tmod (((i1' - (1 : Int)) - (zget t_lesser (Int.toNat i8'))) + i4') i1')) + (Int.tmod (((i1' - (1 : Int)) - (zget t_greater (Int.toNat i8'))) + i4') i1'))))))) ≤ 9223372036854775807)) ∧ (40 - ((i8' + (1 : Int)))).toNat < (40 - i8').toNat from ⟨Or.inr (⟨rfl, (by first | assumption | omega), (by first | assumption | omega), (by first | assumption | omega), (by first | assumption | omega), (by first | assumption | omega), (by first | assumption | omega), (by first | assumption | omega)⟩), by omega⟩)
  · exact (show ((0 : Nat) = 0 ∧ i1 = i1 ∧ 0 ≤ i4 ∧ i4 < i1) ∨ ((0 : Nat) = 6 ∧ i1 = i1 ∧ 0 ≤ i4 ∧ i4 < i1 ∧ 0 ≤ 0 ∧ 0 ≤ t_lines ∧ -9223372036854775808 ≤ 0 ∧ 0 ≤ 9223372036854775807) from Or.inl (⟨rfl, (by first | assumption | omega), (by first | assumption | omega), (by first | assumption | omega)⟩))
  · show 50 < jfuel
    unfold jfuel
    omega
set_option maxRecDepth 20000 in
theorem ok_X11_leastOf (t_lines : Int) (t_numberOf : Nat) (t_lesser : Nat) (t_greater : Nat) (i1 : Int) (i2 : Int) (i4 : Bool) (p0 : 4 ≤ i1) (p1 : i1 ≤ 9) (p2 : (∀ k : Nat, (k : Int) < t_lines → 0 ≤ zget t_lesser k ∧ zget t_lesser k < i1)) (p3 : (∀ k : Nat, (k : Int) < t_lines → 0 ≤ zget t_greater k ∧ zget t_greater k < i1)) (p4 : 0 ≤ t_lines) (p5 : t_lines ≤ 27) (p6 : -9223372036854775808 ≤ i2) (p7 : i2 ≤ 9223372036854775807) : Go (fun o => -9223372036854775808 ≤ (o) ∧ (o) ≤ 9223372036854775807) (zf_X11_leastOf t_lines t_numberOf t_lesser t_greater i1 i2 i4) := by
  unfold zf_X11_leastOf
  refine jok (fun (s : zS_X11_leastOf) => match s with | (lab, i1', i2', i4', i5', i7', i8') => (lab = 0 ∧ i1' = i1 ∧ -9223372036854775808 ≤ i2' ∧ i2' ≤ 9223372036854775807) ∨ (lab = 6 ∧ i1' = i1 ∧ 0 ≤ i7' ∧ i7' ≤ i1' ∧ -9223372036854775808 ≤ i5' ∧ i5' ≤ 9223372036854775807) ∨ (lab = 35 ∧ i1' = i1 ∧ 0 ≤ i7' ∧ i7' < i1' ∧ -9223372036854775808 ≤ i5' ∧ i5' ≤ 9223372036854775807 ∧ -9223372036854775808 ≤ i8' ∧ i8' ≤ 9223372036854775807)) (fun (s : zS_X11_leastOf) => match s with | (lab, i1', i2', i4', i5', i7', i8') => if lab = 0 then 100 else if lab = 6 then (2 * (20 - i7') + 1).toNat else if lab = 35 then (2 * (20 - i7')).toNat else 0) (fun (o : zO_X11_leastOf) => -9223372036854775808 ≤ (o) ∧ (o) ≤ 9223372036854775807) ?_ _ ?_ ?_
  · intro s hI
    obtain ⟨lab, i1', i2', i4', i5', i7', i8'⟩ := s
    have hI : (lab = 0 ∧ i1' = i1 ∧ -9223372036854775808 ≤ i2' ∧ i2' ≤ 9223372036854775807) ∨ (lab = 6 ∧ i1' = i1 ∧ 0 ≤ i7' ∧ i7' ≤ i1' ∧ -9223372036854775808 ≤ i5' ∧ i5' ≤ 9223372036854775807) ∨ (lab = 35 ∧ i1' = i1 ∧ 0 ≤ i7' ∧ i7' < i1' ∧ -9223372036854775808 ≤ i5' ∧ i5' ≤ 9223372036854775807 ∧ -9223372036854775808 ≤ i8' ∧ i8' ≤ 9223372036854775807) := hI
    rcases hI with ⟨rfl, v0_0, v0_1, v0_2⟩ | ⟨rfl, v6_0, v6_1, v6_2, v6_3, v6_4⟩ | ⟨rfl, v35_0, v35_1, v35_2, v35_3, v35_4, v35_5, v35_6⟩
    · show Go _ (zg_X11_leastOf_0 t_lines t_numberOf t_lesser t_greater i1' i2' i4' i5' i7' i8')
      unfold zg_X11_leastOf_0
      exact Go_i (show (((6 : Nat) = 0 ∧ (i1') = i1 ∧ -9223372036854775808 ≤ (i2') ∧ (i2') ≤ 9223372036854775807) ∨ ((6 : Nat) = 6 ∧ (i1') = i1 ∧ 0 ≤ ((0 : Int)) ∧ ((0 : Int)) ≤ (i1') ∧ -9223372036854775808 ≤ (i2') ∧ (i2') ≤ 9223372036854775807) ∨ ((6 : Nat) = 35 ∧ (i1') = i1 ∧ 0 ≤ ((0 : Int)) ∧ ((0 : Int)) < (i1') ∧ -9223372036854775808 ≤ (i2') ∧ (i2') ≤ 9223372036854775807 ∧ -9223372036854775808 ≤ (0) ∧ (0) ≤ 9223372036854775807)) ∧ (2 * (20 - ((0 : Int))) + 1).toNat < 100 from ⟨Or.inr (Or.inl (⟨rfl, (by first | assumption | omega), (by first | assumption | omega), (by first | assumption | omega), (by first | assumption | omega), (by first | assumption | omega)⟩)), by omega⟩)
    · show Go _ (zg_X11_leastOf_6 t_lines t_numberOf t_lesser t_greater i1' i2' i4' i5' i7' i8')
      unfold zg_X11_leastOf_6
      have z2 := p2
      have z3 := p3
      rw [← v6_0] at z2 z3
      refine Go_chk (by unfold zout; omega) ?_
      refine Go_chk (by unfold zout; omega) ?_
      refine Go_ite (fun c1 => ?_) (fun c1 => ?_)
      · exact Go_i (show -9223372036854775808 ≤ (i5') ∧ (i5') ≤ 9223372036854775807 from ⟨(by first | assumption | omega), (by first | assumption | omega)⟩)
      · refine Go_bindP (ok_X11_turned t_lines t_numberOf t_lesser t_greater i1' i2' i7' false (by first | assumption | omega) (by first | assumption | omega) (by first | assumption | exact all_w (by assumption) (by omega) | (refine all_setw ?_ (Int.le_refl _) ?_ ?_ (by omega) (by omega) <;> first | assumption | omega) | exact all_setw (by assumption) (by omega) (by omega) (by omega) (by omega) (by omega)) (by first | assumption | exact all_w (by assumption) (by omega) | (refine all_setw ?_ (Int.le_refl _) ?_ ?_ (by omega) (by omega) <;> first | assumption | omega) | exact all_setw (by assumption) (by omega) (by omega) (by omega) (by omega) (by omega)) (by first | assumption | omega) (by first | assumption | omega) (by first | assumption | omega) (by first | assumption | omega)) (fun o3 q2 => ?_)
        obtain ⟨q2_0, q2_1⟩ := q2
        refine Go_chk (by unfold zoutL; omega) ?_
        refine Go_chk (by unfold zoutL; omega) ?_
        refine Go_ite (fun c3 => ?_) (fun c3 => ?_)
        · exact Go_i (show (((35 : Nat) = 0 ∧ (i1') = i1 ∧ -9223372036854775808 ≤ (i2') ∧ (i2') ≤ 9223372036854775807) ∨ ((35 : Nat) = 6 ∧ (i1') = i1 ∧ 0 ≤ (i7') ∧ (i7') ≤ (i1') ∧ -9223372036854775808 ≤ (i5') ∧ (i5') ≤ 9223372036854775807) ∨ ((35 : Nat) = 35 ∧ (i1') = i1 ∧ 0 ≤ (i7') ∧ (i7') < (i1') ∧ -9223372036854775808 ≤ (i5') ∧ (i5') ≤ 9223372036854775807 ∧ -9223372036854775808 ≤ (o3) ∧ (o3) ≤ 9223372036854775807)) ∧ (2 * (20 - (i7'))).toNat < (2 * (20 - i7') + 1).toNat from ⟨Or.inr (Or.inr (⟨rfl, (by first | assumption | omega), (by first | assumption | omega), (by first | assumption | omega), (by first | assumption | omega), (by first | assumption | omega), (by first | assumption | omega), (by first | assumption | omega)⟩)), by omega⟩)
        · exact Go_i (show (((35 : Nat) = 0 ∧ (i1') = i1 ∧ -9223372036854775808 ≤ (i2') ∧ (i2') ≤ 9223372036854775807) ∨ ((35 : Nat) = 6 ∧ (i1') = i1 ∧ 0 ≤ (i7') ∧ (i7') ≤ (i1') ∧ -9223372036854775808 ≤ (o3) ∧ (o3) ≤ 9223372036854775807) ∨ ((35 : Nat) = 35 ∧ (i1') = i1 ∧ 0 ≤ (i7') ∧ (i7') < (i1') ∧ -9223372036854775808 ≤ (o3) ∧ (o3) ≤ 9223372036854775807 ∧ -9223372036854775808 ≤ (o3) ∧ (o3) ≤ 9223372036854775807)) ∧ (2 * (20 - (i7'))).toNat < (2 * (20 - i7') + 1).toNat from ⟨Or.inr (Or.inr (⟨rfl, (by first | assumption | omega), (by first | assumption | omega), (by first | assumption | omega), (by first | assumption | omega), (by first | assumption | omega), (by first | assumption | omega), (by first | assumption | omega)⟩)), by omega⟩)
    · show Go _ (zg_X11_leastOf_35 t_lines t_numberOf t_lesser t_greater i1' i2' i4' i5' i7' i8')
      unfold zg_X11_leastOf_35
      have z2 := p2
      have z3 := p3
      rw [← v35_0] at z2 z3
      refine Go_ite (fun c4 => ?_) (fun c4 => ?_)
      · refine Go_chk (by unfold zoutL; omega) ?_
        refine Go_chk (by unfold zoutL; omega) ?_
        refine Go_ite (fun c5 => ?_) (fun c5 => ?_)
        · exact Go_i (show (((6 : Nat) = 0 ∧ (i1') = i1 ∧ -9223372036854775808 ≤ (i2') ∧ (i2') ≤ 9223372036854775807) ∨ ((6 : Nat) = 6 ∧ (i1') = i1 ∧ 0 ≤ ((i7' + (1 : Int))) ∧ ((i7' + (1 : Int))) ≤ (i1') ∧ -9223372036854775808 ≤ (i5') ∧ (i5') ≤ 9223372036854775807) ∨ ((6 : Nat) = 35 ∧ (i1') = i1 ∧ 0 ≤ ((i7' + (1 : Int))) ∧ ((i7' + (1 : Int))) < (i1') ∧ -9223372036854775808 ≤ (i5') ∧ (i5') ≤ 9223372036854775807 ∧ -9223372036854775808 ≤ (i8') ∧ (i8') ≤ 9223372036854775807)) ∧ (2 * (20 - ((i7' + (1 : Int)))) + 1).toNat < (2 * (20 - i7')).toNat from ⟨Or.inr (Or.inl (⟨rfl, (by first | assumption | omega), (by first | assumption | omega), (by first | assumption | omega), (by first | assumption | omega), (by first | assumption | omega)⟩)), by omega⟩)
        · exact Go_i (show (((6 : Nat) = 0 ∧ (i1') = i1 ∧ -9223372036854775808 ≤ (i2') ∧ (i2') ≤ 9223372036854775807) ∨ ((6 : Nat) = 6 ∧ (i1') = i1 ∧ 0 ≤ ((i7' + (1 : Int))) ∧ ((i7' + (1 : Int))) ≤ (i1') ∧ -9223372036854775808 ≤ (i8') ∧ (i8') ≤ 9223372036854775807) ∨ ((6 : Nat) = 35 ∧ (i1') = i1 ∧ 0 ≤ ((i7' + (1 : Int))) ∧ ((i7' + (1 : Int))) < (i1') ∧ -9223372036854775808 ≤ (i8') ∧ (i8') ≤ 9223372036854775807 ∧ -9223372036854775808 ≤ (i8') ∧ (i8') ≤ 9223372036854775807)) ∧ (2 * (20 - ((i7' + (1 : Int)))) + 1).toNat < (2 * (20 - i7')).toNat from ⟨Or.inr (Or.inl (⟨rfl, (by first | assumption | omega), (by first | assumption | omega), (by first | assumption | omega), (by first | assumption | omega), (by first | assumption | omega)⟩)), by omega⟩)
      · refine Go_bindP (ok_X11_turned t_lines t_numberOf t_lesser t_greater i1' i2' i7' true (by first | assumption | omega) (by first | assumption | omega) (by first | assumption | exact all_w (by assumption) (by omega) | (refine all_setw ?_ (Int.le_refl _) ?_ ?_ (by omega) (by omega) <;> first | assumption | omega) | exact all_setw (by assumption) (by omega) (by omega) (by omega) (by omega) (by omega)) (by first | assumption | exact all_w (by assumption) (by omega) | (refine all_setw ?_ (Int.le_refl _) ?_ ?_ (by omega) (by omega) <;> first | assumption | omega) | exact all_setw (by assumption) (by omega) (by omega) (by omega) (by omega) (by omega)) (by first | assumption | omega) (by first | assumption | omega) (by first | assumption | omega) (by first | assumption | omega)) (fun o11 q6 => ?_)
        obtain ⟨q6_0, q6_1⟩ := q6
        refine Go_chk (by unfold zoutL; omega) ?_
        refine Go_chk (by unfold zoutL; omega) ?_
        refine Go_ite (fun c7 => ?_) (fun c7 => ?_)
        · exact Go_i (show (((6 : Nat) = 0 ∧ (i1') = i1 ∧ -9223372036854775808 ≤ (i2') ∧ (i2') ≤ 9223372036854775807) ∨ ((6 : Nat) = 6 ∧ (i1') = i1 ∧ 0 ≤ ((i7' + (1 : Int))) ∧ ((i7' + (1 : Int))) ≤ (i1') ∧ -9223372036854775808 ≤ (i5') ∧ (i5') ≤ 9223372036854775807) ∨ ((6 : Nat) = 35 ∧ (i1') = i1 ∧ 0 ≤ ((i7' + (1 : Int))) ∧ ((i7' + (1 : Int))) < (i1') ∧ -9223372036854775808 ≤ (i5') ∧ (i5') ≤ 9223372036854775807 ∧ -9223372036854775808 ≤ (i8') ∧ (i8') ≤ 9223372036854775807)) ∧ (2 * (20 - ((i7' + (1 : Int)))) + 1).toNat < (2 * (20 - i7')).toNat from ⟨Or.inr (Or.inl (⟨rfl, (by first | assumption | omega), (by first | assumption | omega), (by first | assumption | omega), (by first | assumption | omega), (by first | assumption | omega)⟩)), by omega⟩)
        · exact Go_i (show (((6 : Nat) = 0 ∧ (i1') = i1 ∧ -9223372036854775808 ≤ (i2') ∧ (i2') ≤ 9223372036854775807) ∨ ((6 : Nat) = 6 ∧ (i1') = i1 ∧ 0 ≤ ((i7' + (1 : Int))) ∧ ((i7' + (1 : Int))) ≤ (i1') ∧ -9223372036854775808 ≤ (o11) ∧ (o11) ≤ 9223372036854775807) ∨ ((6 : Nat) = 35 ∧ (i1') = i1 ∧ 0 ≤ ((i7' + (1 : Int))) ∧ ((i7' + (1 : Int))) < (i1') ∧ -9223372036854775808 ≤ (o11) ∧ (o11) ≤ 9223372036854775807 ∧ -9223372036854775808 ≤ (i8') ∧ (i8') ≤ 9223372036854775807)) ∧ (2 * (20 - ((i7' + (1 : Int)))) + 1).toNat < (2 * (20 - i7')).toNat from ⟨Or.inr (Or.inl (⟨rfl, (by first | assumption | omega), (by first | assumption | omega), (by first | assumption | omega), (by first | assumption | omega), (by first | assumption | omega)⟩)), by omega⟩)
  · exact (show ((0 : Nat) = 0 ∧ i1 = i1 ∧ -9223372036854775808 ≤ i2 ∧ i2 ≤ 9223372036854775807) ∨ ((0 : Nat) = 6 ∧ i1 = i1 ∧ 0 ≤ 0 ∧ 0 ≤ i1 ∧ -9223372036854775808 ≤ 0 ∧ 0 ≤ 9223372036854775807) ∨ ((0 : Nat) = 35 ∧ i1 = i1 ∧ 0 ≤ 0 ∧ 0 < i1 ∧ -9223372036854775808 ≤ 0 ∧ 0 ≤ 9223372036854775807 ∧ -9223372036854775808 ≤ 0 ∧ 0 ≤ 9223372036854775807) from Or.inl (⟨rfl, (by first | assumption | omega), (by first | assumption | omega), (by first | assumption | omega)⟩))
  · show 100 < jfuel
    unfold jfuel
    omega
set_option maxRecDepth 20000 in
theorem ok_X11_readRow (t_taped : Int) (t_size : Int) (t_sort : Int) (t_at : Int) (t_end : Int) (t_number : Int) (t_word : Int) (t_rowMany : Int) (t_tape : Nat) (t_told : Nat) (p0 : 0 ≤ t_taped) (p1 : t_taped ≤ 300) (p2 : (∀ k : Nat, k < 10 → 0 ≤ zget t_told k ∧ zget t_told k ≤ 999)) : Go (fun o => -1 ≤ (o.1) ∧ (o.1) ≤ 10 ∧ (o.2.1) = 0 ∧ (∀ k : Nat, k < 10 → 0 ≤ zget (o.2.2.2.2.2.2.2.2.2) k ∧ zget (o.2.2.2.2.2.2.2.2.2) k ≤ 999)) (zf_X11_readRow t_taped t_size t_sort t_at t_end t_number t_word t_rowMany t_tape t_told) := by
  unfold zf_X11_readRow
  refine jok (fun (s : zS_X11_readRow) => match s with | (lab, t_taped', t_size', t_sort', t_at', t_end', t_number', t_word', t_rowMany', t_told') => (lab = 0 ∧ 0 ≤ t_taped' ∧ t_taped' ≤ 300 ∧ (∀ k : Nat, k < 10 → 0 ≤ zget t_told' k ∧ zget t_told' k ≤ 999)) ∨ (lab = 9 ∧ t_taped' = 0 ∧ 0 ≤ t_size' ∧ t_size' ≤ 300 ∧ 0 ≤ t_end' ∧ t_end' ≤ t_size' ∧ 0 ≤ t_sort' ∧ t_sort' ≤ 4 ∧ (t_sort' = 2 → 0 ≤ t_number' ∧ t_number' ≤ 999) ∧ 0 ≤ t_rowMany' ∧ t_rowMany' ≤ 10 ∧ (∀ k : Nat, k < 10 → 0 ≤ zget t_told' k ∧ zget t_told' k ≤ 999))) (fun (s : zS_X11_readRow) => match s with | (lab, t_taped', t_size', t_sort', t_at', t_end', t_number', t_word', t_rowMany', t_told') => if lab = 0 then 50 else if lab = 9 then (11 - t_rowMany').toNat else 0) (fun (o : zO_X11_readRow) => -1 ≤ (o.1) ∧ (o.1) ≤ 10 ∧ (o.2.1) = 0 ∧ (∀ k : Nat, k < 10 → 0 ≤ zget (o.2.2.2.2.2.2.2.2.2) k ∧ zget (o.2.2.2.2.2.2.2.2.2) k ≤ 999)) ?_ _ ?_ ?_
  · intro s hI
    obtain ⟨lab, t_taped', t_size', t_sort', t_at', t_end', t_number', t_word', t_rowMany', t_told'⟩ := s
    have hI : (lab = 0 ∧ 0 ≤ t_taped' ∧ t_taped' ≤ 300 ∧ (∀ k : Nat, k < 10 → 0 ≤ zget t_told' k ∧ zget t_told' k ≤ 999)) ∨ (lab = 9 ∧ t_taped' = 0 ∧ 0 ≤ t_size' ∧ t_size' ≤ 300 ∧ 0 ≤ t_end' ∧ t_end' ≤ t_size' ∧ 0 ≤ t_sort' ∧ t_sort' ≤ 4 ∧ (t_sort' = 2 → 0 ≤ t_number' ∧ t_number' ≤ 999) ∧ 0 ≤ t_rowMany' ∧ t_rowMany' ≤ 10 ∧ (∀ k : Nat, k < 10 → 0 ≤ zget t_told' k ∧ zget t_told' k ≤ 999)) := hI
    rcases hI with ⟨rfl, v0_0, v0_1, v0_2⟩ | ⟨rfl, v9_0, v9_1, v9_2, v9_3, v9_4, v9_5, v9_6, v9_7, v9_8, v9_9, v9_10⟩
    · show Go _ (zg_X11_readRow_0 t_tape t_taped' t_size' t_sort' t_at' t_end' t_number' t_word' t_rowMany' t_told')
      unfold zg_X11_readRow_0
      refine Go_bindP (ok_X11_begin t_taped' t_size' t_sort' t_at' t_end' t_number' t_word' t_tape (by first | assumption | omega) (by first | assumption | omega)) (fun o1 q1 => ?_)
      obtain ⟨q1_0, q1_1, q1_2, q1_3, q1_4, q1_5, q1_6, q1_7, q1_8, q1_9⟩ := q1
      exact Go_i (show (((9 : Nat) = 0 ∧ 0 ≤ ((o1.1)) ∧ ((o1.1)) ≤ 300 ∧ (∀ k : Nat, k < 10 → 0 ≤ zget (t_told') k ∧ zget (t_told') k ≤ 999)) ∨ ((9 : Nat) = 9 ∧ ((o1.1)) = 0 ∧ 0 ≤ ((o1.2.1)) ∧ ((o1.2.1)) ≤ 300 ∧ 0 ≤ ((o1.2.2.2.2.1)) ∧ ((o1.2.2.2.2.1)) ≤ ((o1.2.1)) ∧ 0 ≤ ((o1.2.2.1)) ∧ ((o1.2.2.1)) ≤ 4 ∧ (((o1.2.2.1)) = 2 → 0 ≤ ((o1.2.2.2.2.2.1)) ∧ ((o1.2.2.2.2.2.1)) ≤ 999) ∧ 0 ≤ ((0 : Int)) ∧ ((0 : Int)) ≤ 10 ∧ (∀ k : Nat, k < 10 → 0 ≤ zget (t_told') k ∧ zget (t_told') k ≤ 999))) ∧ (11 - ((0 : Int))).toNat < 50 from ⟨Or.inr (⟨rfl, (by first | assumption | omega), (by first | assumption | omega), (by first | assumption | omega), (by first | assumption | omega), (by first | assumption | omega), (by first | assumption | omega), (by first | assumption | omega), (by intro h; first | exact True.intro | omega | (exact absurd h (by decide))), (by first | assumption | omega), (by first | assumption | omega), (by first | assumption | exact all_w (by assumption) (by omega) | (refine all_setw ?_ (Int.le_refl _) ?_ ?_ (by omega) (by omega) <;> first | assumption | omega) | exact all_setw (by assumption) (by omega) (by omega) (by omega) (by omega) (by omega))⟩), by omega⟩)
    · show Go _ (zg_X11_readRow_9 t_tape t_taped' t_size' t_sort' t_at' t_end' t_number' t_word' t_rowMany' t_told')
      unfold zg_X11_readRow_9
      refine Go_chk (by unfold zout; omega) ?_
      refine Go_ite (fun c2 => ?_) (fun c2 => ?_)
      · refine Go_chk (by unfold zout; omega) ?_
        refine Go_ite (fun c3 => ?_) (fun c3 => ?_)
        · exact Go_i (show -1 ≤ ((-1 : Int)) ∧ ((-1 : Int)) ≤ 10 ∧ (t_taped') = 0 ∧ (∀ k : Nat, k < 10 → 0 ≤ zget (t_told') k ∧ zget (t_told') k ≤ 999) from ⟨(by first | assumption | omega), (by first | assumption | omega), (by first | assumption | omega), (by first | assumption | exact all_w (by assumption) (by omega) | (refine all_setw ?_ (Int.le_refl _) ?_ ?_ (by omega) (by omega) <;> first | assumption | omega) | exact all_setw (by assumption) (by omega) (by omega) (by omega) (by omega) (by omega))⟩)
        · refine Go_chk (by omega) ?_
          refine Go_bindP (ok_X11_scan t_size' t_sort' t_at' t_end' t_number' t_word' t_tape (by first | assumption | omega) (by first | assumption | omega) (by first | assumption | omega) (by first | assumption | omega)) (fun o6 q4 => ?_)
          obtain ⟨q4_0, q4_1, q4_2, q4_3, q4_4, q4_5, q4_6, q4_7, q4_8⟩ := q4
          exact Go_i (show (((9 : Nat) = 0 ∧ 0 ≤ (t_taped') ∧ (t_taped') ≤ 300 ∧ (∀ k : Nat, k < 10 → 0 ≤ zget ((zset t_told' (Int.toNat t_rowMany') t_number')) k ∧ zget ((zset t_told' (Int.toNat t_rowMany') t_number')) k ≤ 999)) ∨ ((9 : Nat) = 9 ∧ (t_taped') = 0 ∧ 0 ≤ (t_size') ∧ (t_size') ≤ 300 ∧ 0 ≤ ((o6.2.2.1)) ∧ ((o6.2.2.1)) ≤ (t_size') ∧ 0 ≤ ((o6.1)) ∧ ((o6.1)) ≤ 4 ∧ (((o6.1)) = 2 → 0 ≤ ((o6.2.2.2.1)) ∧ ((o6.2.2.2.1)) ≤ 999) ∧ 0 ≤ ((t_rowMany' + (1 : Int))) ∧ ((t_rowMany' + (1 : Int))) ≤ 10 ∧ (∀ k : Nat, k < 10 → 0 ≤ zget ((zset t_told' (Int.toNat t_rowMany') t_number')) k ∧ zget ((zset t_told' (Int.toNat t_rowMany') t_number')) k ≤ 999))) ∧ (11 - ((t_rowMany' + (1 : Int)))).toNat < (11 - t_rowMany').toNat from ⟨Or.inr (⟨rfl, (by first | assumption | omega), (by first | assumption | omega), (by first | assumption | omega), (by first | assumption | omega), (by first | assumption | omega), (by first | assumption | omega), (by first | assumption | omega), (by intro h; first | exact True.intro | omega | (exact absurd h (by decide))), (by first | assumption | omega), (by first | assumption | omega), (by first | assumption | exact all_w (by assumption) (by omega) | (refine all_setw ?_ (Int.le_refl _) ?_ ?_ (by omega) (by omega) <;> first | assumption | omega) | exact all_setw (by assumption) (by omega) (by omega) (by omega) (by omega) (by omega))⟩), by omega⟩)
      · refine Go_ite (fun c5 => ?_) (fun c5 => ?_)
        · exact Go_i (show -1 ≤ (t_rowMany') ∧ (t_rowMany') ≤ 10 ∧ (t_taped') = 0 ∧ (∀ k : Nat, k < 10 → 0 ≤ zget (t_told') k ∧ zget (t_told') k ≤ 999) from ⟨(by first | assumption | omega), (by first | assumption | omega), (by first | assumption | omega), (by first | assumption | exact all_w (by assumption) (by omega) | (refine all_setw ?_ (Int.le_refl _) ?_ ?_ (by omega) (by omega) <;> first | assumption | omega) | exact all_setw (by assumption) (by omega) (by omega) (by omega) (by omega) (by omega))⟩)
        · exact Go_i (show -1 ≤ ((-1 : Int)) ∧ ((-1 : Int)) ≤ 10 ∧ (t_taped') = 0 ∧ (∀ k : Nat, k < 10 → 0 ≤ zget (t_told') k ∧ zget (t_told') k ≤ 999) from ⟨(by first | assumption | omega), (by first | assumption | omega), (by first | assumption | omega), (by first | assumption | exact all_w (by assumption) (by omega) | (refine all_setw ?_ (Int.le_refl _) ?_ ?_ (by omega) (by omega) <;> first | assumption | omega) | exact all_setw (by assumption) (by omega) (by omega) (by omega) (by omega) (by omega))⟩)
  · exact (show ((0 : Nat) = 0 ∧ 0 ≤ t_taped ∧ t_taped ≤ 300 ∧ (∀ k : Nat, k < 10 → 0 ≤ zget t_told k ∧ zget t_told k ≤ 999)) ∨ ((0 : Nat) = 9 ∧ t_taped = 0 ∧ 0 ≤ t_size ∧ t_size ≤ 300 ∧ 0 ≤ t_end ∧ t_end ≤ t_size ∧ 0 ≤ t_sort ∧ t_sort ≤ 4 ∧ (t_sort = 2 → 0 ≤ t_number ∧ t_number ≤ 999) ∧ 0 ≤ t_rowMany ∧ t_rowMany ≤ 10 ∧ (∀ k : Nat, k < 10 → 0 ≤ zget t_told k ∧ zget t_told k ≤ 999)) from Or.inl (⟨rfl, (by first | assumption | omega), (by first | assumption | omega), (by first | assumption | exact all_w (by assumption) (by omega) | (refine all_setw ?_ (Int.le_refl _) ?_ ?_ (by omega) (by omega) <;> first | assumption | omega) | exact all_setw (by assumption) (by omega) (by omega) (by omega) (by omega) (by omega))⟩))
  · show 50 < jfuel
    unfold jfuel
    omega
set_option maxRecDepth 20000 in
theorem ok_X11_apart (t_corners : Int) (t_numberOf : Nat) (t_told : Nat) (i1 : Int) (p0 : 4 ≤ t_corners) (p1 : t_corners ≤ 9) (p2 : (∀ k : Nat, k < 10 → 0 ≤ zget t_told k ∧ zget t_told k ≤ 999)) : Go (fun o => 0 ≤ (o) ∧ (o) ≤ 20000) (zf_X11_apart t_corners t_numberOf t_told i1) := by
  unfold zf_X11_apart
  refine jok (fun (s : zS_X11_apart) => match s with | (lab, i1', i3', i4') => (lab = 0) ∨ (lab = 5 ∧ 0 ≤ i4' ∧ i4' ≤ t_corners ∧ 0 ≤ i3' ∧ i3' ≤ 1100 * i4')) (fun (s : zS_X11_apart) => match s with | (lab, i1', i3', i4') => if lab = 0 then 50 else if lab = 5 then (20 - i4').toNat else 0) (fun (o : zO_X11_apart) => 0 ≤ (o) ∧ (o) ≤ 20000) ?_ _ ?_ ?_
  · intro s hI
    obtain ⟨lab, i1', i3', i4'⟩ := s
    have hI : (lab = 0) ∨ (lab = 5 ∧ 0 ≤ i4' ∧ i4' ≤ t_corners ∧ 0 ≤ i3' ∧ i3' ≤ 1100 * i4') := hI
    rcases hI with rfl | ⟨rfl, v5_0, v5_1, v5_2, v5_3⟩
    · show Go _ (zg_X11_apart_0 t_corners t_numberOf t_told i1' i3' i4')
      unfold zg_X11_apart_0
      exact Go_i (show (((5 : Nat) = 0) ∨ ((5 : Nat) = 5 ∧ 0 ≤ ((0 : Int)) ∧ ((0 : Int)) ≤ t_corners ∧ 0 ≤ ((0 : Int)) ∧ ((0 : Int)) ≤ 1100 * ((0 : Int)))) ∧ (20 - ((0 : Int))).toNat < 50 from ⟨Or.inr (⟨rfl, (by first | assumption | omega), (by first | assumption | omega), (by first | assumption | omega), (by first | assumption | omega)⟩), by omega⟩)
    · show Go _ (zg_X11_apart_5 t_corners t_numberOf t_told i1' i3' i4')
      unfold zg_X11_apart_5
      refine Go_chk (by unfold zout; omega) ?_
      refine Go_chk (by unfold zout; omega) ?_
      refine Go_ite (fun c1 => ?_) (fun c1 => ?_)
      · exact Go_i (show 0 ≤ (i3') ∧ (i3') ≤ 20000 from ⟨(by first | assumption | omega), (by first | assumption | omega)⟩)
      · refine Go_bindP (ok_X11_rowAt t_numberOf t_corners i1' i4' (by first | assumption | omega) (by first | assumption | omega) (by first | assumption | omega) (by first | assumption | omega)) (fun o3 q2 => ?_)
        obtain ⟨q2_0, q2_1⟩ := q2
        refine Go_chk (by omega) ?_
        have a3 := rget t_told (Int.toNat i4')
        have a4 := p2 (Int.toNat i4') (by omega)
        refine Go_chk (by unfold zout; omega) ?_
        refine Go_ite (fun c5 => ?_) (fun c5 => ?_)
        · exact Go_i (show (((5 : Nat) = 0) ∨ ((5 : Nat) = 5 ∧ 0 ≤ ((i4' + (1 : Int))) ∧ ((i4' + (1 : Int))) ≤ t_corners ∧ 0 ≤ ((i3' + (o3 - (zget t_told (Int.toNat i4'))))) ∧ ((i3' + (o3 - (zget t_told (Int.toNat i4'))))) ≤ 1100 * ((i4' + (1 : Int))))) ∧ (20 - ((i4' + (1 : Int)))).toNat < (20 - i4').toNat from ⟨Or.inr (⟨rfl, (by first | assumption | omega), (by first | assumption | omega), (by first | assumption | omega), (by first | assumption | omega)⟩), by omega⟩)
        · exact Go_i (show (((5 : Nat) = 0) ∨ ((5 : Nat) = 5 ∧ 0 ≤ ((i4' + (1 : Int))) ∧ ((i4' + (1 : Int))) ≤ t_corners ∧ 0 ≤ ((i3' + (-(o3 - (zget t_told (Int.toNat i4')))))) ∧ ((i3' + (-(o3 - (zget t_told (Int.toNat i4')))))) ≤ 1100 * ((i4' + (1 : Int))))) ∧ (20 - ((i4' + (1 : Int)))).toNat < (20 - i4').toNat from ⟨Or.inr (⟨rfl, (by first | assumption | omega), (by first | assumption | omega), (by first | assumption | omega), (by first | assumption | omega)⟩), by omega⟩)
  · exact (show ((0 : Nat) = 0) ∨ ((0 : Nat) = 5 ∧ 0 ≤ 0 ∧ 0 ≤ t_corners ∧ 0 ≤ 0 ∧ 0 ≤ 1100 * 0) from Or.inl (rfl))
  · show 50 < jfuel
    unfold jfuel
    omega
set_option maxRecDepth 20000 in
theorem ok_X11_mended (t_mendedBy : Int)  : Go (fun o => True) (zf_X11_mended t_mendedBy) := by
  unfold zf_X11_mended
  exact Go_i (show True from trivial)
set_option maxRecDepth 20000 in
theorem ok_X11_of (t_periodMany : Int) (t_period : Nat) (i1 : Int) (p0 : 1 ≤ t_periodMany) (p1 : t_periodMany ≤ 10) (p2 : (∀ k : Nat, k < 11 → 0 ≤ zget t_period k ∧ zget t_period k ≤ 20)) (p3 : -2147483648 ≤ i1) (p4 : i1 ≤ 2147483647) : Go (fun o => True) (zf_X11_of t_periodMany t_period i1) := by
  unfold zf_X11_of
  refine Go_bindP (ok_X11_in i1 (0 : Int) (t_periodMany - (1 : Int)) (by first | assumption | omega) (by first | assumption | omega) (by first | assumption | omega) (by first | assumption | omega) (by first | assumption | omega) (by first | assumption | omega)) (fun o1 q1 => ?_)
  obtain ⟨q1_0, q1_1⟩ := q1
  refine Go_ite (fun c2 => ?_) (fun c2 => ?_)
  · have dc2 := q1_1 c2
    exact Go_i (show True from trivial)
  · have dc2 := q1_0 (bnf c2)
    refine Go_chk (by omega) ?_
    have a3 := rget t_period (Int.toNat i1)
    exact Go_i (show True from trivial)
set_option maxRecDepth 20000 in
theorem ok_X11_alongOf (t_periodMany : Int) (t_period : Nat) (i1 : Int) (i2 : Int) (p0 : 1 ≤ t_periodMany) (p1 : t_periodMany ≤ 10) (p2 : (∀ k : Nat, k < 11 → 0 ≤ zget t_period k ∧ zget t_period k ≤ 20)) (p3 : 0 ≤ i1) (p4 : i1 ≤ 10) (p5 : 0 ≤ i2) (p6 : i2 ≤ 13) : Go (fun o => -154472377739119461 ≤ (o) ∧ (o) ≤ 154472377739119461) (zf_X11_alongOf t_periodMany t_period i1 i2) := by
  unfold zf_X11_alongOf
  refine jok (fun (s : zS_X11_alongOf) => match s with | (lab, i1', i2', i3', i5', i7') => (lab = 0 ∧ 0 ≤ i1' ∧ i1' ≤ 10 ∧ 0 ≤ i2' ∧ i2' ≤ 13) ∨ (lab = 14 ∧ 0 ≤ i1' ∧ i1' ≤ 10 ∧ 1 ≤ i2' ∧ i2' ≤ 13 ∧ 1 ≤ i7' ∧ i7' ≤ i2' ∧ -(eL i7') ≤ i5' ∧ i5' ≤ eL i7' ∧ -(eL i7') ≤ i3' ∧ i3' ≤ eL i7' ∧ (1 ≤ eL i7' ∧ eL i7' ≤ 154472377739119461))) (fun (s : zS_X11_alongOf) => match s with | (lab, i1', i2', i3', i5', i7') => if lab = 0 then 50 else if lab = 14 then (20 - i7').toNat else 0) (fun (o : zO_X11_alongOf) => -154472377739119461 ≤ (o) ∧ (o) ≤ 154472377739119461) ?_ _ ?_ ?_
  · intro s hI
    obtain ⟨lab, i1', i2', i3', i5', i7'⟩ := s
    have hI : (lab = 0 ∧ 0 ≤ i1' ∧ i1' ≤ 10 ∧ 0 ≤ i2' ∧ i2' ≤ 13) ∨ (lab = 14 ∧ 0 ≤ i1' ∧ i1' ≤ 10 ∧ 1 ≤ i2' ∧ i2' ≤ 13 ∧ 1 ≤ i7' ∧ i7' ≤ i2' ∧ -(eL i7') ≤ i5' ∧ i5' ≤ eL i7' ∧ -(eL i7') ≤ i3' ∧ i3' ≤ eL i7' ∧ (1 ≤ eL i7' ∧ eL i7' ≤ 154472377739119461)) := hI
    rcases hI with ⟨rfl, v0_0, v0_1, v0_2, v0_3⟩ | ⟨rfl, v14_0, v14_1, v14_2, v14_3, v14_4, v14_5, v14_6, v14_7, v14_8, v14_9, v14_10⟩
    · show Go _ (zg_X11_alongOf_0 t_periodMany t_period i1' i2' i3' i5' i7')
      unfold zg_X11_alongOf_0
      refine Go_chk (by unfold zout; omega) ?_
      refine Go_ite (fun c1 => ?_) (fun c1 => ?_)
      · exact Go_i (show -154472377739119461 ≤ ((0 : Int)) ∧ ((0 : Int)) ≤ 154472377739119461 from ⟨(by first | assumption | omega), (by first | assumption | omega)⟩)
      · exact Go_i (show (((14 : Nat) = 0 ∧ 0 ≤ (i1') ∧ (i1') ≤ 10 ∧ 0 ≤ (i2') ∧ (i2') ≤ 13) ∨ ((14 : Nat) = 14 ∧ 0 ≤ (i1') ∧ (i1') ≤ 10 ∧ 1 ≤ (i2') ∧ (i2') ≤ 13 ∧ 1 ≤ ((1 : Int)) ∧ ((1 : Int)) ≤ (i2') ∧ -(eL ((1 : Int))) ≤ ((1 : Int)) ∧ ((1 : Int)) ≤ eL ((1 : Int)) ∧ -(eL ((1 : Int))) ≤ ((0 : Int)) ∧ ((0 : Int)) ≤ eL ((1 : Int)) ∧ (1 ≤ eL ((1 : Int)) ∧ eL ((1 : Int)) ≤ 154472377739119461))) ∧ (20 - ((1 : Int))).toNat < 50 from ⟨Or.inr (⟨rfl, (by first | assumption | omega), (by first | assumption | omega), (by first | assumption | omega), (by first | assumption | omega), (by first | assumption | omega), (by first | assumption | omega), (by have z1 := eL_b (t := 1) (by decide) (by decide); first | omega | decide), (by have z1 := eL_b (t := 1) (by decide) (by decide); first | omega | decide), (by have z1 := eL_b (t := 1) (by decide) (by decide); first | omega | decide), (by have z1 := eL_b (t := 1) (by decide) (by decide); first | omega | decide), (by exact eL_b (by omega) (by omega))⟩), by omega⟩)
    · show Go _ (zg_X11_alongOf_14 t_periodMany t_period i1' i2' i3' i5' i7')
      unfold zg_X11_alongOf_14
      refine Go_chk (by unfold zout; omega) ?_
      refine Go_chk (by unfold zout; omega) ?_
      refine Go_ite (fun c2 => ?_) (fun c2 => ?_)
      · exact Go_i (show -154472377739119461 ≤ (i5') ∧ (i5') ≤ 154472377739119461 from ⟨(by first | assumption | omega), (by first | assumption | omega)⟩)
      · refine Go_chk (by unfold zout; omega) ?_
        refine Go_chk (by unfold zout; omega) ?_
        refine Go_chk (by omega) ?_
        have a3 := rtmod (a := (i1' + i7')) (b := t_periodMany) (by omega) (by omega)
        refine Go_chk (by omega) ?_
        have tm := rtmod (a := i1' + i7') (b := t_periodMany) (by omega) (by omega)
        have mp := p2 (Int.toNat (Int.tmod (i1' + i7') t_periodMany)) (by omega)
        have m1 := mulb (a := zget t_period (Int.toNat (Int.tmod (i1' + i7') t_periodMany))) (x := i5') (B := eL i7') (M := 20) (by omega) (by omega) (by omega) (by omega)
        have m2 := eL_s (t := i7') (by omega)
        have a4 := rget t_period (Int.toNat (Int.tmod (i1' + i7') t_periodMany))
        have a5 := p2 (Int.toNat (Int.tmod (i1' + i7') t_periodMany)) (by omega)
        exact Go_i (show (((14 : Nat) = 0 ∧ 0 ≤ (i1') ∧ (i1') ≤ 10 ∧ 0 ≤ (i2') ∧ (i2') ≤ 13) ∨ ((14 : Nat) = 14 ∧ 0 ≤ (i1') ∧ (i1') ≤ 10 ∧ 1 ≤ (i2') ∧ (i2') ≤ 13 ∧ 1 ≤ ((i7' + (1 : Int))) ∧ ((i7' + (1 : Int))) ≤ (i2') ∧ -(eL ((i7' + (1 : Int)))) ≤ ((((zget t_period (Int.toNat (Int.tmod (i1' + i7') t_periodMany))) * i5') - i3')) ∧ ((((zget t_period (Int.toNat (Int.tmod (i1' + i7') t_periodMany))) * i5') - i3')) ≤ eL ((i7' + (1 : Int))) ∧ -(eL ((i7' + (1 : Int)))) ≤ (i5') ∧ (i5') ≤ eL ((i7' + (1 : Int))) ∧ (1 ≤ eL ((i7' + (1 : Int))) ∧ eL ((i7' + (1 : Int))) ≤ 154472377739119461))) ∧ (20 - ((i7' + (1 : Int)))).toNat < (20 - i7').toNat from ⟨Or.inr (⟨rfl, (by first | assumption | omega), (by first | assumption | omega), (by first | assumption | omega), (by first | assumption | omega), (by first | assumption | omega), (by first | assumption | omega), (by first | assumption | omega), (by first | assumption | omega), (by first | assumption | omega), (by first | assumption | omega), (by exact eL_b (by omega) (by omega))⟩), by omega⟩)
  · exact (show ((0 : Nat) = 0 ∧ 0 ≤ i1 ∧ i1 ≤ 10 ∧ 0 ≤ i2 ∧ i2 ≤ 13) ∨ ((0 : Nat) = 14 ∧ 0 ≤ i1 ∧ i1 ≤ 10 ∧ 1 ≤ i2 ∧ i2 ≤ 13 ∧ 1 ≤ 0 ∧ 0 ≤ i2 ∧ -(eL 0) ≤ 0 ∧ 0 ≤ eL 0 ∧ -(eL 0) ≤ 0 ∧ 0 ≤ eL 0 ∧ (1 ≤ eL 0 ∧ eL 0 ≤ 154472377739119461)) from Or.inl (⟨rfl, (by first | assumption | omega), (by first | assumption | omega), (by first | assumption | omega), (by first | assumption | omega)⟩))
  · show 50 < jfuel
    unfold jfuel
    omega
set_option maxRecDepth 20000 in
theorem ok_X11_along (t_periodMany : Int) (t_period : Nat) (i1 : Int) (i2 : Int) (p0 : 1 ≤ t_periodMany) (p1 : t_periodMany ≤ 10) (p2 : (∀ k : Nat, k < 11 → 0 ≤ zget t_period k ∧ zget t_period k ≤ 20)) (p3 : -2147483648 ≤ i1) (p4 : i1 ≤ 2147483647) (p5 : -2147483648 ≤ i2) (p6 : i2 ≤ 2147483647) : Go (fun o => True) (zf_X11_along t_periodMany t_period i1 i2) := by
  unfold zf_X11_along
  refine Go_bindP (ok_X11_in i1 (0 : Int) (t_periodMany - (1 : Int)) (by first | assumption | omega) (by first | assumption | omega) (by first | assumption | omega) (by first | assumption | omega) (by first | assumption | omega) (by first | assumption | omega)) (fun o1 q1 => ?_)
  obtain ⟨q1_0, q1_1⟩ := q1
  refine Go_ite (fun c2 => ?_) (fun c2 => ?_)
  · have dc2 := q1_1 c2
    exact Go_i (show True from trivial)
  · have dc2 := q1_0 (bnf c2)
    refine Go_bindP (ok_X11_in i2 (0 : Int) (12 : Int) (by first | assumption | omega) (by first | assumption | omega) (by first | assumption | omega) (by first | assumption | omega) (by first | assumption | omega) (by first | assumption | omega)) (fun o2 q3 => ?_)
    obtain ⟨q3_0, q3_1⟩ := q3
    refine Go_ite (fun c4 => ?_) (fun c4 => ?_)
    · have dc4 := q3_1 c4
      exact Go_i (show True from trivial)
    · have dc4 := q3_0 (bnf c4)
      refine Go_bindP (ok_X11_alongOf t_periodMany t_period i1 i2 (by first | assumption | omega) (by first | assumption | omega) (by first | assumption | exact all_w (by assumption) (by omega) | (refine all_setw ?_ (Int.le_refl _) ?_ ?_ (by omega) (by omega) <;> first | assumption | omega) | exact all_setw (by assumption) (by omega) (by omega) (by omega) (by omega) (by omega)) (by first | assumption | omega) (by first | assumption | omega) (by first | assumption | omega) (by first | assumption | omega)) (fun o3 q5 => ?_)
      obtain ⟨q5_0, q5_1⟩ := q5
      exact Go_i (show True from trivial)
set_option maxRecDepth 20000 in
theorem ok_X11_isAll (t_periodMany : Int) (t_period : Nat) (i1 : Int) (i2 : Int) (p0 : 1 ≤ t_periodMany) (p1 : t_periodMany ≤ 10) (p2 : (∀ k : Nat, k < 11 → 0 ≤ zget t_period k ∧ zget t_period k ≤ 20)) (p3 : 0 ≤ i1) (p4 : i1 ≤ 13) (p5 : -1 ≤ i2) (p6 : i2 ≤ 0) : Go (fun o => True) (zf_X11_isAll t_periodMany t_period i1 i2) := by
  unfold zf_X11_isAll
  refine jok (fun (s : zS_X11_isAll) => match s with | (lab, i1', i2', i4') => (lab = 0 ∧ 0 ≤ i1' ∧ i1' ≤ 13 ∧ -1 ≤ i2' ∧ i2' ≤ 0) ∨ (lab = 3 ∧ 0 ≤ i1' ∧ i1' ≤ 13 ∧ -1 ≤ i2' ∧ i2' ≤ 0 ∧ 0 ≤ i4' ∧ i4' ≤ t_periodMany)) (fun (s : zS_X11_isAll) => match s with | (lab, i1', i2', i4') => if lab = 0 then 50 else if lab = 3 then (20 - i4').toNat else 0) (fun (o : zO_X11_isAll) => True) ?_ _ ?_ ?_
  · intro s hI
    obtain ⟨lab, i1', i2', i4'⟩ := s
    have hI : (lab = 0 ∧ 0 ≤ i1' ∧ i1' ≤ 13 ∧ -1 ≤ i2' ∧ i2' ≤ 0) ∨ (lab = 3 ∧ 0 ≤ i1' ∧ i1' ≤ 13 ∧ -1 ≤ i2' ∧ i2' ≤ 0 ∧ 0 ≤ i4' ∧ i4' ≤ t_periodMany) := hI
    rcases hI with ⟨rfl, v0_0, v0_1, v0_2, v0_3⟩ | ⟨rfl, v3_0, v3_1, v3_2, v3_3, v3_4, v3_5⟩
    · show Go _ (zg_X11_isAll_0 t_periodMany t_period i1' i2' i4')
      unfold zg_X11_isAll_0
      exact Go_i (show (((3 : Nat) = 0 ∧ 0 ≤ (i1') ∧ (i1') ≤ 13 ∧ -1 ≤ (i2') ∧ (i2') ≤ 0) ∨ ((3 : Nat) = 3 ∧ 0 ≤ (i1') ∧ (i1') ≤ 13 ∧ -1 ≤ (i2') ∧ (i2') ≤ 0 ∧ 0 ≤ ((0 : Int)) ∧ ((0 : Int)) ≤ t_periodMany)) ∧ (20 - ((0 : Int))).toNat < 50 from ⟨Or.inr (⟨rfl, (by first | assumption | omega), (by first | assumption | omega), (by first | assumption | omega), (by first | assumption | omega), (by first | assumption | omega), (by first | assumption | omega)⟩), by omega⟩)
    · show Go _ (zg_X11_isAll_3 t_periodMany t_period i1' i2' i4')
      unfold zg_X11_isAll_3
      refine Go_chk (by unfold zout; omega) ?_
      refine Go_chk (by unfold zout; omega) ?_
      refine Go_ite (fun c1 => ?_) (fun c1 => ?_)
      · exact Go_i (show True from trivial)
      · refine Go_bindP (ok_X11_alongOf t_periodMany t_period i4' i1' (by first | assumption | omega) (by first | assumption | omega) (by first | assumption | exact all_w (by assumption) (by omega) | (refine all_setw ?_ (Int.le_refl _) ?_ ?_ (by omega) (by omega) <;> first | assumption | omega) | exact all_setw (by assumption) (by omega) (by omega) (by omega) (by omega) (by omega)) (by first | assumption | omega) (by first | assumption | omega) (by first | assumption | omega) (by first | assumption | omega)) (fun o3 q2 => ?_)
        obtain ⟨q2_0, q2_1⟩ := q2
        refine Go_chk (by unfold zoutL; omega) ?_
        refine Go_chk (by unfold zoutL; omega) ?_
        refine Go_ite (fun c3 => ?_) (fun c3 => ?_)
        · exact Go_i (show (((3 : Nat) = 0 ∧ 0 ≤ (i1') ∧ (i1') ≤ 13 ∧ -1 ≤ (i2') ∧ (i2') ≤ 0) ∨ ((3 : Nat) = 3 ∧ 0 ≤ (i1') ∧ (i1') ≤ 13 ∧ -1 ≤ (i2') ∧ (i2') ≤ 0 ∧ 0 ≤ ((i4' + (1 : Int))) ∧ ((i4' + (1 : Int))) ≤ t_periodMany)) ∧ (20 - ((i4' + (1 : Int)))).toNat < (20 - i4').toNat from ⟨Or.inr (⟨rfl, (by first | assumption | omega), (by first | assumption | omega), (by first | assumption | omega), (by first | assumption | omega), (by first | assumption | omega), (by first | assumption | omega)⟩), by omega⟩)
        · exact Go_i (show True from trivial)
  · exact (show ((0 : Nat) = 0 ∧ 0 ≤ i1 ∧ i1 ≤ 13 ∧ -1 ≤ i2 ∧ i2 ≤ 0) ∨ ((0 : Nat) = 3 ∧ 0 ≤ i1 ∧ i1 ≤ 13 ∧ -1 ≤ i2 ∧ i2 ≤ 0 ∧ 0 ≤ 0 ∧ 0 ≤ t_periodMany) from Or.inl (⟨rfl, (by first | assumption | omega), (by first | assumption | omega), (by first | assumption | omega), (by first | assumption | omega)⟩))
  · show 50 < jfuel
    unfold jfuel
    omega
set_option maxRecDepth 20000 in
theorem ok_X11_breaks (t_periodMany : Int) (t_period : Nat) (i1 : Int) (p0 : 1 ≤ t_periodMany) (p1 : t_periodMany ≤ 10) (p2 : (∀ k : Nat, k < 11 → 0 ≤ zget t_period k ∧ zget t_period k ≤ 20)) (p3 : -2147483648 ≤ i1) (p4 : i1 ≤ 2147483647) : Go (fun o => True) (zf_X11_breaks t_periodMany t_period i1) := by
  unfold zf_X11_breaks
  refine jok (fun (s : zS_X11_breaks) => match s with | (lab, i1', i2', i3') => (lab = 0 ∧ -2147483648 ≤ i1' ∧ i1' ≤ 2147483647) ∨ (lab = 13 ∧ -2147483648 ≤ i1' ∧ i1' ≤ 2147483647 ∧ 2 ≤ i2' ∧ i2' ≤ 13) ∨ (lab = 21 ∧ -2147483648 ≤ i1' ∧ i1' ≤ 2147483647 ∧ 2 ≤ i2' ∧ i2' ≤ 12 ∧ 0 ≤ i3' ∧ i3' ≤ t_periodMany)) (fun (s : zS_X11_breaks) => match s with | (lab, i1', i2', i3') => if lab = 0 then 10000 else if lab = 13 then (100 * (20 - i2') + 50).toNat else if lab = 21 then (100 * (20 - i2') + 20 - i3').toNat else 0) (fun (o : zO_X11_breaks) => True) ?_ _ ?_ ?_
  · intro s hI
    obtain ⟨lab, i1', i2', i3'⟩ := s
    have hI : (lab = 0 ∧ -2147483648 ≤ i1' ∧ i1' ≤ 2147483647) ∨ (lab = 13 ∧ -2147483648 ≤ i1' ∧ i1' ≤ 2147483647 ∧ 2 ≤ i2' ∧ i2' ≤ 13) ∨ (lab = 21 ∧ -2147483648 ≤ i1' ∧ i1' ≤ 2147483647 ∧ 2 ≤ i2' ∧ i2' ≤ 12 ∧ 0 ≤ i3' ∧ i3' ≤ t_periodMany) := hI
    rcases hI with ⟨rfl, v0_0, v0_1⟩ | ⟨rfl, v13_0, v13_1, v13_2, v13_3⟩ | ⟨rfl, v21_0, v21_1, v21_2, v21_3, v21_4, v21_5⟩
    · show Go _ (zg_X11_breaks_0 t_periodMany t_period i1' i2' i3')
      unfold zg_X11_breaks_0
      refine Go_bindP (ok_X11_in i1' (0 : Int) (2 : Int) (by first | assumption | omega) (by first | assumption | omega) (by first | assumption | omega) (by first | assumption | omega) (by first | assumption | omega) (by first | assumption | omega)) (fun o1 q1 => ?_)
      obtain ⟨q1_0, q1_1⟩ := q1
      refine Go_ite (fun c2 => ?_) (fun c2 => ?_)
      · have dc2 := q1_1 c2
        exact Go_i (show True from trivial)
      · have dc2 := q1_0 (bnf c2)
        exact Go_i (show (((13 : Nat) = 0 ∧ -2147483648 ≤ (i1') ∧ (i1') ≤ 2147483647) ∨ ((13 : Nat) = 13 ∧ -2147483648 ≤ (i1') ∧ (i1') ≤ 2147483647 ∧ 2 ≤ ((2 : Int)) ∧ ((2 : Int)) ≤ 13) ∨ ((13 : Nat) = 21 ∧ -2147483648 ≤ (i1') ∧ (i1') ≤ 2147483647 ∧ 2 ≤ ((2 : Int)) ∧ ((2 : Int)) ≤ 12 ∧ 0 ≤ (0) ∧ (0) ≤ t_periodMany)) ∧ (100 * (20 - ((2 : Int))) + 50).toNat < 10000 from ⟨Or.inr (Or.inl (⟨rfl, (by first | assumption | omega), (by first | assumption | omega), (by first | assumption | omega), (by first | assumption | omega)⟩)), by omega⟩)
    · show Go _ (zg_X11_breaks_13 t_periodMany t_period i1' i2' i3')
      unfold zg_X11_breaks_13
      refine Go_chk (by unfold zout; omega) ?_
      refine Go_ite (fun c3 => ?_) (fun c3 => ?_)
      · exact Go_i (show True from trivial)
      · exact Go_i (show (((21 : Nat) = 0 ∧ -2147483648 ≤ (i1') ∧ (i1') ≤ 2147483647) ∨ ((21 : Nat) = 13 ∧ -2147483648 ≤ (i1') ∧ (i1') ≤ 2147483647 ∧ 2 ≤ (i2') ∧ (i2') ≤ 13) ∨ ((21 : Nat) = 21 ∧ -2147483648 ≤ (i1') ∧ (i1') ≤ 2147483647 ∧ 2 ≤ (i2') ∧ (i2') ≤ 12 ∧ 0 ≤ ((0 : Int)) ∧ ((0 : Int)) ≤ t_periodMany)) ∧ (100 * (20 - (i2')) + 20 - ((0 : Int))).toNat < (100 * (20 - i2') + 50).toNat from ⟨Or.inr (Or.inr (⟨rfl, (by first | assumption | omega), (by first | assumption | omega), (by first | assumption | omega), (by first | assumption | omega), (by first | assumption | omega), (by first | assumption | omega)⟩)), by omega⟩)
    · show Go _ (zg_X11_breaks_21 t_periodMany t_period i1' i2' i3')
      unfold zg_X11_breaks_21
      refine Go_chk (by unfold zout; omega) ?_
      refine Go_chk (by unfold zout; omega) ?_
      refine Go_ite (fun c4 => ?_) (fun c4 => ?_)
      · exact Go_i (show (((13 : Nat) = 0 ∧ -2147483648 ≤ (i1') ∧ (i1') ≤ 2147483647) ∨ ((13 : Nat) = 13 ∧ -2147483648 ≤ (i1') ∧ (i1') ≤ 2147483647 ∧ 2 ≤ ((i2' + (1 : Int))) ∧ ((i2' + (1 : Int))) ≤ 13) ∨ ((13 : Nat) = 21 ∧ -2147483648 ≤ (i1') ∧ (i1') ≤ 2147483647 ∧ 2 ≤ ((i2' + (1 : Int))) ∧ ((i2' + (1 : Int))) ≤ 12 ∧ 0 ≤ (i3') ∧ (i3') ≤ t_periodMany)) ∧ (100 * (20 - ((i2' + (1 : Int)))) + 50).toNat < (100 * (20 - i2') + 20 - i3').toNat from ⟨Or.inr (Or.inl (⟨rfl, (by first | assumption | omega), (by first | assumption | omega), (by first | assumption | omega), (by first | assumption | omega)⟩)), by omega⟩)
      · refine Go_bindP (ok_X11_alongOf t_periodMany t_period i3' i2' (by first | assumption | omega) (by first | assumption | omega) (by first | assumption | exact all_w (by assumption) (by omega) | (refine all_setw ?_ (Int.le_refl _) ?_ ?_ (by omega) (by omega) <;> first | assumption | omega) | exact all_setw (by assumption) (by omega) (by omega) (by omega) (by omega) (by omega)) (by first | assumption | omega) (by first | assumption | omega) (by first | assumption | omega) (by first | assumption | omega)) (fun o7 q5 => ?_)
        obtain ⟨q5_0, q5_1⟩ := q5
        refine Go_chk (by unfold zoutL; omega) ?_
        refine Go_ite (fun c6 => ?_) (fun c6 => ?_)
        · refine Go_chk (by unfold zout; omega) ?_
          refine Go_ite (fun c7 => ?_) (fun c7 => ?_)
          · exact Go_i (show True from trivial)
          · refine Go_ite (fun c8 => ?_) (fun c8 => ?_)
            · exact Go_i (show True from trivial)
            · refine Go_bindP (ok_X11_isAll t_periodMany t_period i2' (0 : Int) (by first | assumption | omega) (by first | assumption | omega) (by first | assumption | exact all_w (by assumption) (by omega) | (refine all_setw ?_ (Int.le_refl _) ?_ ?_ (by omega) (by omega) <;> first | assumption | omega) | exact all_setw (by assumption) (by omega) (by omega) (by omega) (by omega) (by omega)) (by first | assumption | omega) (by first | assumption | omega) (by first | assumption | omega) (by first | assumption | omega)) (fun o10 q9 => ?_)
              refine Go_ite (fun c10 => ?_) (fun c10 => ?_)
              · exact Go_i (show True from trivial)
              · refine Go_chk (by unfold zout; omega) ?_
                refine Go_ite (fun c11 => ?_) (fun c11 => ?_)
                · exact Go_i (show True from trivial)
                · refine Go_bindP (ok_X11_isAll t_periodMany t_period (i2' + (1 : Int)) (-1 : Int) (by first | assumption | omega) (by first | assumption | omega) (by first | assumption | exact all_w (by assumption) (by omega) | (refine all_setw ?_ (Int.le_refl _) ?_ ?_ (by omega) (by omega) <;> first | assumption | omega) | exact all_setw (by assumption) (by omega) (by omega) (by omega) (by omega) (by omega)) (by first | assumption | omega) (by first | assumption | omega) (by first | assumption | omega) (by first | assumption | omega)) (fun o12 q12 => ?_)
                  refine Go_ite (fun c13 => ?_) (fun c13 => ?_)
                  · exact Go_i (show True from trivial)
                  · exact Go_i (show True from trivial)
        · exact Go_i (show (((21 : Nat) = 0 ∧ -2147483648 ≤ (i1') ∧ (i1') ≤ 2147483647) ∨ ((21 : Nat) = 13 ∧ -2147483648 ≤ (i1') ∧ (i1') ≤ 2147483647 ∧ 2 ≤ (i2') ∧ (i2') ≤ 13) ∨ ((21 : Nat) = 21 ∧ -2147483648 ≤ (i1') ∧ (i1') ≤ 2147483647 ∧ 2 ≤ (i2') ∧ (i2') ≤ 12 ∧ 0 ≤ ((i3' + (1 : Int))) ∧ ((i3' + (1 : Int))) ≤ t_periodMany)) ∧ (100 * (20 - (i2')) + 20 - ((i3' + (1 : Int)))).toNat < (100 * (20 - i2') + 20 - i3').toNat from ⟨Or.inr (Or.inr (⟨rfl, (by first | assumption | omega), (by first | assumption | omega), (by first | assumption | omega), (by first | assumption | omega), (by first | assumption | omega), (by first | assumption | omega)⟩)), by omega⟩)
  · exact (show ((0 : Nat) = 0 ∧ -2147483648 ≤ i1 ∧ i1 ≤ 2147483647) ∨ ((0 : Nat) = 13 ∧ -2147483648 ≤ i1 ∧ i1 ≤ 2147483647 ∧ 2 ≤ 0 ∧ 0 ≤ 13) ∨ ((0 : Nat) = 21 ∧ -2147483648 ≤ i1 ∧ i1 ≤ 2147483647 ∧ 2 ≤ 0 ∧ 0 ≤ 12 ∧ 0 ≤ 0 ∧ 0 ≤ t_periodMany) from Or.inl (⟨rfl, (by first | assumption | omega), (by first | assumption | omega)⟩))
  · show 10000 < jfuel
    unfold jfuel
    omega
set_option maxRecDepth 20000 in
theorem ok_X11_growth (t_periodMany : Int) (t_period : Nat) (p0 : 1 ≤ t_periodMany) (p1 : t_periodMany ≤ 10) (p2 : (∀ k : Nat, k < 11 → 0 ≤ zget t_period k ∧ zget t_period k ≤ 20)) : Go (fun o => True) (zf_X11_growth t_periodMany t_period) := by
  unfold zf_X11_growth
  refine Go_bindP (ok_X11_alongOf t_periodMany t_period (0 : Int) (t_periodMany + (1 : Int)) (by first | assumption | omega) (by first | assumption | omega) (by first | assumption | exact all_w (by assumption) (by omega) | (refine all_setw ?_ (Int.le_refl _) ?_ ?_ (by omega) (by omega) <;> first | assumption | omega) | exact all_setw (by assumption) (by omega) (by omega) (by omega) (by omega) (by omega)) (by first | assumption | omega) (by first | assumption | omega) (by first | assumption | omega) (by first | assumption | omega)) (fun o1 q1 => ?_)
  obtain ⟨q1_0, q1_1⟩ := q1
  refine Go_chk (by unfold zout; omega) ?_
  refine Go_chk (by omega) ?_
  have a2 := rtmod (a := (1 : Int)) (b := t_periodMany) (by omega) (by omega)
  refine Go_bindP (ok_X11_alongOf t_periodMany t_period (Int.tmod (1 : Int) t_periodMany) (t_periodMany - (1 : Int)) (by first | assumption | omega) (by first | assumption | omega) (by first | assumption | exact all_w (by assumption) (by omega) | (refine all_setw ?_ (Int.le_refl _) ?_ ?_ (by omega) (by omega) <;> first | assumption | omega) | exact all_setw (by assumption) (by omega) (by omega) (by omega) (by omega) (by omega)) (by first | assumption | omega) (by first | assumption | omega) (by first | assumption | omega) (by first | assumption | omega)) (fun o4 q3 => ?_)
  obtain ⟨q3_0, q3_1⟩ := q3
  exact Go_i (show True from trivial)
set_option maxRecDepth 20000 in
theorem ok_X11_see (t_corners : Int) (t_seenMany : Int) (t_lastTold : Int) (t_sTold : Nat) (t_sOne : Nat) (t_sTwo : Nat) (t_sEntry : Nat) (i1 : Int) (i2 : Int) (i3 : Int) (i4 : Int) (p0 : 4 ≤ t_corners) (p1 : t_corners ≤ 9) (p2 : 0 ≤ t_seenMany) (p3 : t_seenMany ≤ 20) (p4 : 0 ≤ t_lastTold) (p5 : t_lastTold ≤ 999) (p6 : -2147483648 ≤ i1) (p7 : i1 ≤ 2147483647) (p8 : -2147483648 ≤ i2) (p9 : i2 ≤ 2147483647) (p10 : -2147483648 ≤ i3) (p11 : i3 ≤ 2147483647) (p12 : -2147483648 ≤ i4) (p13 : i4 ≤ 2147483647) : Go (fun o => 0 ≤ (o.2.1) ∧ (o.2.1) ≤ 20 ∧ 0 ≤ (o.2.2.1) ∧ (o.2.2.1) ≤ 999) (zf_X11_see t_corners t_seenMany t_lastTold t_sTold t_sOne t_sTwo t_sEntry i1 i2 i3 i4) := by
  unfold zf_X11_see
  refine Go_bindP (ok_X11_in i1 t_lastTold (999 : Int) (by first | assumption | omega) (by first | assumption | omega) (by first | assumption | omega) (by first | assumption | omega) (by first | assumption | omega) (by first | assumption | omega)) (fun o1 q1 => ?_)
  obtain ⟨q1_0, q1_1⟩ := q1
  refine Go_ite (fun c2 => ?_) (fun c2 => ?_)
  · have dc2 := q1_1 c2
    exact Go_i (show 0 ≤ (t_seenMany) ∧ (t_seenMany) ≤ 20 ∧ 0 ≤ (t_lastTold) ∧ (t_lastTold) ≤ 999 from ⟨(by first | assumption | omega), (by first | assumption | omega), (by first | assumption | omega), (by first | assumption | omega)⟩)
  · have dc2 := q1_0 (bnf c2)
    refine Go_bindP (ok_X11_isCorner t_corners i2 (by first | assumption | omega) (by first | assumption | omega) (by first | assumption | omega) (by first | assumption | omega)) (fun o2 q3 => ?_)
    obtain ⟨q3_0, q3_1⟩ := q3
    refine Go_ite (fun c4 => ?_) (fun c4 => ?_)
    · have dc4 := q3_1 c4
      exact Go_i (show 0 ≤ (t_seenMany) ∧ (t_seenMany) ≤ 20 ∧ 0 ≤ (t_lastTold) ∧ (t_lastTold) ≤ 999 from ⟨(by first | assumption | omega), (by first | assumption | omega), (by first | assumption | omega), (by first | assumption | omega)⟩)
    · have dc4 := q3_0 (bnf c4)
      refine Go_bindP (ok_X11_isCorner t_corners i3 (by first | assumption | omega) (by first | assumption | omega) (by first | assumption | omega) (by first | assumption | omega)) (fun o3 q5 => ?_)
      obtain ⟨q5_0, q5_1⟩ := q5
      refine Go_ite (fun c6 => ?_) (fun c6 => ?_)
      · have dc6 := q5_1 c6
        exact Go_i (show 0 ≤ (t_seenMany) ∧ (t_seenMany) ≤ 20 ∧ 0 ≤ (t_lastTold) ∧ (t_lastTold) ≤ 999 from ⟨(by first | assumption | omega), (by first | assumption | omega), (by first | assumption | omega), (by first | assumption | omega)⟩)
      · have dc6 := q5_0 (bnf c6)
        refine Go_chk (by unfold zout; omega) ?_
        refine Go_chk (by unfold zout; omega) ?_
        refine Go_ite (fun c7 => ?_) (fun c7 => ?_)
        · exact Go_i (show 0 ≤ (t_seenMany) ∧ (t_seenMany) ≤ 20 ∧ 0 ≤ (t_lastTold) ∧ (t_lastTold) ≤ 999 from ⟨(by first | assumption | omega), (by first | assumption | omega), (by first | assumption | omega), (by first | assumption | omega)⟩)
        · refine Go_bindP (ok_X11_in i4 (0 : Int) (9999 : Int) (by first | assumption | omega) (by first | assumption | omega) (by first | assumption | omega) (by first | assumption | omega) (by first | assumption | omega) (by first | assumption | omega)) (fun o6 q8 => ?_)
          obtain ⟨q8_0, q8_1⟩ := q8
          refine Go_ite (fun c9 => ?_) (fun c9 => ?_)
          · have dc9 := q8_1 c9
            exact Go_i (show 0 ≤ (t_seenMany) ∧ (t_seenMany) ≤ 20 ∧ 0 ≤ (t_lastTold) ∧ (t_lastTold) ≤ 999 from ⟨(by first | assumption | omega), (by first | assumption | omega), (by first | assumption | omega), (by first | assumption | omega)⟩)
          · have dc9 := q8_0 (bnf c9)
            refine Go_chk (by unfold zout; omega) ?_
            refine Go_ite (fun c10 => ?_) (fun c10 => ?_)
            · exact Go_i (show 0 ≤ (t_seenMany) ∧ (t_seenMany) ≤ 20 ∧ 0 ≤ (t_lastTold) ∧ (t_lastTold) ≤ 999 from ⟨(by first | assumption | omega), (by first | assumption | omega), (by first | assumption | omega), (by first | assumption | omega)⟩)
            · refine Go_chk (by omega) ?_
              exact Go_i (show 0 ≤ ((t_seenMany + (1 : Int))) ∧ ((t_seenMany + (1 : Int))) ≤ 20 ∧ 0 ≤ (i1) ∧ (i1) ≤ 999 from ⟨(by first | assumption | omega), (by first | assumption | omega), (by first | assumption | omega), (by first | assumption | omega)⟩)
set_option maxRecDepth 20000 in
theorem ok_X11_right (t_seenMany : Int) (t_rightMany : Int) (t_lastTold : Int) (t_rTold : Nat) (t_rOf : Nat) (t_rEntry : Nat) (i1 : Int) (i2 : Int) (i3 : Int) (p0 : 0 ≤ t_seenMany) (p1 : t_seenMany ≤ 20) (p2 : 0 ≤ t_rightMany) (p3 : t_rightMany ≤ 20) (p4 : 0 ≤ t_lastTold) (p5 : t_lastTold ≤ 999) (p6 : -2147483648 ≤ i1) (p7 : i1 ≤ 2147483647) (p8 : -2147483648 ≤ i2) (p9 : i2 ≤ 2147483647) (p10 : -2147483648 ≤ i3) (p11 : i3 ≤ 2147483647) : Go (fun o => 0 ≤ (o.2.1) ∧ (o.2.1) ≤ 20 ∧ 0 ≤ (o.2.2.1) ∧ (o.2.2.1) ≤ 999) (zf_X11_right t_seenMany t_rightMany t_lastTold t_rTold t_rOf t_rEntry i1 i2 i3) := by
  unfold zf_X11_right
  refine jok (fun (s : zS_X11_right) => match s with | (lab, i1', i2', i3', i4', i5', t_rightMany', t_lastTold', t_rTold', t_rOf', t_rEntry') => (lab = 0 ∧ -2147483648 ≤ i1' ∧ i1' ≤ 2147483647 ∧ -2147483648 ≤ i2' ∧ i2' ≤ 2147483647 ∧ -2147483648 ≤ i3' ∧ i3' ≤ 2147483647 ∧ 0 ≤ t_rightMany' ∧ t_rightMany' ≤ 20 ∧ 0 ≤ t_lastTold' ∧ t_lastTold' ≤ 999) ∨ (lab = 105 ∧ -2147483648 ≤ i2' ∧ i2' ≤ 2147483647 ∧ 0 ≤ t_rightMany' ∧ t_rightMany' ≤ 20 ∧ 0 ≤ t_lastTold' ∧ t_lastTold' ≤ 999 ∧ 0 ≤ i5' ∧ i5' ≤ t_rightMany')) (fun (s : zS_X11_right) => match s with | (lab, i1', i2', i3', i4', i5', t_rightMany', t_lastTold', t_rTold', t_rOf', t_rEntry') => if lab = 0 then 50 else if lab = 105 then (30 - i5').toNat else 0) (fun (o : zO_X11_right) => 0 ≤ (o.2.1) ∧ (o.2.1) ≤ 20 ∧ 0 ≤ (o.2.2.1) ∧ (o.2.2.1) ≤ 999) ?_ _ ?_ ?_
  · intro s hI
    obtain ⟨lab, i1', i2', i3', i4', i5', t_rightMany', t_lastTold', t_rTold', t_rOf', t_rEntry'⟩ := s
    have hI : (lab = 0 ∧ -2147483648 ≤ i1' ∧ i1' ≤ 2147483647 ∧ -2147483648 ≤ i2' ∧ i2' ≤ 2147483647 ∧ -2147483648 ≤ i3' ∧ i3' ≤ 2147483647 ∧ 0 ≤ t_rightMany' ∧ t_rightMany' ≤ 20 ∧ 0 ≤ t_lastTold' ∧ t_lastTold' ≤ 999) ∨ (lab = 105 ∧ -2147483648 ≤ i2' ∧ i2' ≤ 2147483647 ∧ 0 ≤ t_rightMany' ∧ t_rightMany' ≤ 20 ∧ 0 ≤ t_lastTold' ∧ t_lastTold' ≤ 999 ∧ 0 ≤ i5' ∧ i5' ≤ t_rightMany') := hI
    rcases hI with ⟨rfl, v0_0, v0_1, v0_2, v0_3, v0_4, v0_5, v0_6, v0_7, v0_8, v0_9⟩ | ⟨rfl, v105_0, v105_1, v105_2, v105_3, v105_4, v105_5, v105_6, v105_7⟩
    · show Go _ (zg_X11_right_0 t_seenMany i1' i2' i3' i4' i5' t_rightMany' t_lastTold' t_rTold' t_rOf' t_rEntry')
      unfold zg_X11_right_0
      refine Go_bindP (ok_X11_in i1' t_lastTold' (999 : Int) (by first | assumption | omega) (by first | assumption | omega) (by first | assumption | omega) (by first | assumption | omega) (by first | assumption | omega) (by first | assumption | omega)) (fun o1 q1 => ?_)
      obtain ⟨q1_0, q1_1⟩ := q1
      refine Go_ite (fun c2 => ?_) (fun c2 => ?_)
      · have dc2 := q1_1 c2
        exact Go_i (show 0 ≤ (t_rightMany') ∧ (t_rightMany') ≤ 20 ∧ 0 ≤ (t_lastTold') ∧ (t_lastTold') ≤ 999 from ⟨(by first | assumption | omega), (by first | assumption | omega), (by first | assumption | omega), (by first | assumption | omega)⟩)
      · have dc2 := q1_0 (bnf c2)
        refine Go_bindP (ok_X11_in i2' (0 : Int) (t_seenMany - (1 : Int)) (by first | assumption | omega) (by first | assumption | omega) (by first | assumption | omega) (by first | assumption | omega) (by first | assumption | omega) (by first | assumption | omega)) (fun o2 q3 => ?_)
        obtain ⟨q3_0, q3_1⟩ := q3
        refine Go_ite (fun c4 => ?_) (fun c4 => ?_)
        · have dc4 := q3_1 c4
          exact Go_i (show 0 ≤ (t_rightMany') ∧ (t_rightMany') ≤ 20 ∧ 0 ≤ (t_lastTold') ∧ (t_lastTold') ≤ 999 from ⟨(by first | assumption | omega), (by first | assumption | omega), (by first | assumption | omega), (by first | assumption | omega)⟩)
        · have dc4 := q3_0 (bnf c4)
          refine Go_bindP (ok_X11_in i3' (0 : Int) (9999 : Int) (by first | assumption | omega) (by first | assumption | omega) (by first | assumption | omega) (by first | assumption | omega) (by first | assumption | omega) (by first | assumption | omega)) (fun o3 q5 => ?_)
          obtain ⟨q5_0, q5_1⟩ := q5
          refine Go_ite (fun c6 => ?_) (fun c6 => ?_)
          · have dc6 := q5_1 c6
            exact Go_i (show 0 ≤ (t_rightMany') ∧ (t_rightMany') ≤ 20 ∧ 0 ≤ (t_lastTold') ∧ (t_lastTold') ≤ 999 from ⟨(by first | assumption | omega), (by first | assumption | omega), (by first | assumption | omega), (by first | assumption | omega)⟩)
          · have dc6 := q5_0 (bnf c6)
            refine Go_chk (by unfold zout; omega) ?_
            refine Go_ite (fun c7 => ?_) (fun c7 => ?_)
            · exact Go_i (show 0 ≤ (t_rightMany') ∧ (t_rightMany') ≤ 20 ∧ 0 ≤ (t_lastTold') ∧ (t_lastTold') ≤ 999 from ⟨(by first | assumption | omega), (by first | assumption | omega), (by first | assumption | omega), (by first | assumption | omega)⟩)
            · refine Go_chk (by omega) ?_
              exact Go_i (show (((105 : Nat) = 0 ∧ -2147483648 ≤ (i1') ∧ (i1') ≤ 2147483647 ∧ -2147483648 ≤ (i2') ∧ (i2') ≤ 2147483647 ∧ -2147483648 ≤ (i3') ∧ (i3') ≤ 2147483647 ∧ 0 ≤ ((t_rightMany' + (1 : Int))) ∧ ((t_rightMany' + (1 : Int))) ≤ 20 ∧ 0 ≤ (i1') ∧ (i1') ≤ 999) ∨ ((105 : Nat) = 105 ∧ -2147483648 ≤ (i2') ∧ (i2') ≤ 2147483647 ∧ 0 ≤ ((t_rightMany' + (1 : Int))) ∧ ((t_rightMany' + (1 : Int))) ≤ 20 ∧ 0 ≤ (i1') ∧ (i1') ≤ 999 ∧ 0 ≤ ((0 : Int)) ∧ ((0 : Int)) ≤ ((t_rightMany' + (1 : Int))))) ∧ (30 - ((0 : Int))).toNat < 50 from ⟨Or.inr (⟨rfl, (by first | assumption | omega), (by first | assumption | omega), (by first | assumption | omega), (by first | assumption | omega), (by first | assumption | omega), (by first | assumption | omega), (by first | assumption | omega), (by first | assumption | omega)⟩), by omega⟩)
    · show Go _ (zg_X11_right_105 t_seenMany i1' i2' i3' i4' i5' t_rightMany' t_lastTold' t_rTold' t_rOf' t_rEntry')
      unfold zg_X11_right_105
      refine Go_chk (by unfold zout; omega) ?_
      refine Go_chk (by unfold zout; omega) ?_
      refine Go_ite (fun c8 => ?_) (fun c8 => ?_)
      · exact Go_i (show 0 ≤ (t_rightMany') ∧ (t_rightMany') ≤ 20 ∧ 0 ≤ (t_lastTold') ∧ (t_lastTold') ≤ 999 from ⟨(by first | assumption | omega), (by first | assumption | omega), (by first | assumption | omega), (by first | assumption | omega)⟩)
      · refine Go_chk (by omega) ?_
        refine Go_chk (by unfold zout; omega) ?_
        have a9 := rget t_rOf' (Int.toNat i5')
        refine Go_ite (fun c10 => ?_) (fun c10 => ?_)
        · exact Go_i (show (((105 : Nat) = 0 ∧ -2147483648 ≤ (0) ∧ (0) ≤ 2147483647 ∧ -2147483648 ≤ (i2') ∧ (i2') ≤ 2147483647 ∧ -2147483648 ≤ (0) ∧ (0) ≤ 2147483647 ∧ 0 ≤ (t_rightMany') ∧ (t_rightMany') ≤ 20 ∧ 0 ≤ (t_lastTold') ∧ (t_lastTold') ≤ 999) ∨ ((105 : Nat) = 105 ∧ -2147483648 ≤ (i2') ∧ (i2') ≤ 2147483647 ∧ 0 ≤ (t_rightMany') ∧ (t_rightMany') ≤ 20 ∧ 0 ≤ (t_lastTold') ∧ (t_lastTold') ≤ 999 ∧ 0 ≤ ((i5' + (1 : Int))) ∧ ((i5' + (1 : Int))) ≤ (t_rightMany'))) ∧ (30 - ((i5' + (1 : Int)))).toNat < (30 - i5').toNat from ⟨Or.inr (⟨rfl, (by first | assumption | omega), (by first | assumption | omega), (by first | assumption | omega), (by first | assumption | omega), (by first | assumption | omega), (by first | assumption | omega), (by first | assumption | omega), (by first | assumption | omega)⟩), by omega⟩)
        · exact Go_i (show (((105 : Nat) = 0 ∧ -2147483648 ≤ (0) ∧ (0) ≤ 2147483647 ∧ -2147483648 ≤ (i2') ∧ (i2') ≤ 2147483647 ∧ -2147483648 ≤ (0) ∧ (0) ≤ 2147483647 ∧ 0 ≤ (t_rightMany') ∧ (t_rightMany') ≤ 20 ∧ 0 ≤ (t_lastTold') ∧ (t_lastTold') ≤ 999) ∨ ((105 : Nat) = 105 ∧ -2147483648 ≤ (i2') ∧ (i2') ≤ 2147483647 ∧ 0 ≤ (t_rightMany') ∧ (t_rightMany') ≤ 20 ∧ 0 ≤ (t_lastTold') ∧ (t_lastTold') ≤ 999 ∧ 0 ≤ ((i5' + (1 : Int))) ∧ ((i5' + (1 : Int))) ≤ (t_rightMany'))) ∧ (30 - ((i5' + (1 : Int)))).toNat < (30 - i5').toNat from ⟨Or.inr (⟨rfl, (by first | assumption | omega), (by first | assumption | omega), (by first | assumption | omega), (by first | assumption | omega), (by first | assumption | omega), (by first | assumption | omega), (by first | assumption | omega), (by first | assumption | omega)⟩), by omega⟩)
  · exact (show ((0 : Nat) = 0 ∧ -2147483648 ≤ i1 ∧ i1 ≤ 2147483647 ∧ -2147483648 ≤ i2 ∧ i2 ≤ 2147483647 ∧ -2147483648 ≤ i3 ∧ i3 ≤ 2147483647 ∧ 0 ≤ t_rightMany ∧ t_rightMany ≤ 20 ∧ 0 ≤ t_lastTold ∧ t_lastTold ≤ 999) ∨ ((0 : Nat) = 105 ∧ -2147483648 ≤ i2 ∧ i2 ≤ 2147483647 ∧ 0 ≤ t_rightMany ∧ t_rightMany ≤ 20 ∧ 0 ≤ t_lastTold ∧ t_lastTold ≤ 999 ∧ 0 ≤ 0 ∧ 0 ≤ t_rightMany) from Or.inl (⟨rfl, (by first | assumption | omega), (by first | assumption | omega), (by first | assumption | omega), (by first | assumption | omega), (by first | assumption | omega), (by first | assumption | omega), (by first | assumption | omega), (by first | assumption | omega), (by first | assumption | omega), (by first | assumption | omega)⟩))
  · show 50 < jfuel
    unfold jfuel
    omega
set_option maxRecDepth 20000 in
theorem ok_X11_count (t_taped : Int) (t_seenMany : Int) (t_rightMany : Int) (i1 : Int) (p0 : -2147483648 ≤ i1) (p1 : i1 ≤ 2147483647) : Go (fun o => True) (zf_X11_count t_taped t_seenMany t_rightMany i1) := by
  unfold zf_X11_count
  refine Go_chk (by unfold zout; omega) ?_
  refine Go_ite (fun c1 => ?_) (fun c1 => ?_)
  · exact Go_i (show True from trivial)
  · refine Go_ite (fun c2 => ?_) (fun c2 => ?_)
    · exact Go_i (show True from trivial)
    · refine Go_ite (fun c3 => ?_) (fun c3 => ?_)
      · exact Go_i (show True from trivial)
      · exact Go_i (show True from trivial)
end

section
set_option maxRecDepth 20000 in
theorem ok_X11_period (t_taped : Int) (t_size : Int) (t_sort : Int) (t_at : Int) (t_end : Int) (t_number : Int) (t_word : Int) (t_rowMany : Int) (t_periodMany : Int) (t_tape : Nat) (t_told : Nat) (t_period : Nat) (p0 : 0 ≤ t_taped) (p1 : t_taped ≤ 300) (p2 : 1 ≤ t_periodMany) (p3 : t_periodMany ≤ 10) (p4 : (∀ k : Nat, k < 11 → 0 ≤ zget t_period k ∧ zget t_period k ≤ 20)) (p5 : (∀ k : Nat, k < 10 → 0 ≤ zget t_told k ∧ zget t_told k ≤ 999)) : Go (fun o => (o.2.1) = 0 ∧ 1 ≤ (o.2.2.2.2.2.2.2.2.2.1) ∧ (o.2.2.2.2.2.2.2.2.2.1) ≤ 10 ∧ (∀ k : Nat, k < 11 → 0 ≤ zget (o.2.2.2.2.2.2.2.2.2.2.2) k ∧ zget (o.2.2.2.2.2.2.2.2.2.2.2) k ≤ 20) ∧ (∀ k : Nat, k < 10 → 0 ≤ zget (o.2.2.2.2.2.2.2.2.2.2.1) k ∧ zget (o.2.2.2.2.2.2.2.2.2.2.1) k ≤ 999)) (zf_X11_period t_taped t_size t_sort t_at t_end t_number t_word t_rowMany t_periodMany t_tape t_told t_period) := by
  unfold zf_X11_period
  refine jok (fun (s : zS_X11_period) => match s with | (lab, i1', i2', t_taped', t_size', t_sort', t_at', t_end', t_number', t_word', t_rowMany', t_periodMany', t_told', t_period') => (lab = 0 ∧ 0 ≤ t_taped' ∧ t_taped' ≤ 300 ∧ 1 ≤ t_periodMany' ∧ t_periodMany' ≤ 10 ∧ (∀ k : Nat, k < 11 → 0 ≤ zget t_period' k ∧ zget t_period' k ≤ 20) ∧ (∀ k : Nat, k < 10 → 0 ≤ zget t_told' k ∧ zget t_told' k ≤ 999)) ∨ (lab = 20 ∧ 1 ≤ i1' ∧ i1' ≤ 10 ∧ 0 ≤ i2' ∧ i2' ≤ i1' ∧ 1 ≤ t_periodMany' ∧ t_periodMany' ≤ 10 ∧ (∀ k : Nat, k < 11 → 0 ≤ zget t_period' k ∧ zget t_period' k ≤ 20) ∧ t_taped' = 0 ∧ (∀ k : Nat, (k : Int) < i2' → 0 ≤ zget t_told' k ∧ zget t_told' k ≤ 20) ∧ (∀ k : Nat, k < 10 → 0 ≤ zget t_told' k ∧ zget t_told' k ≤ 999)) ∨ (lab = 56 ∧ 1 ≤ i1' ∧ i1' ≤ 10 ∧ 0 ≤ i2' ∧ i2' ≤ i1' ∧ t_periodMany' = i1' ∧ t_periodMany' ≤ 10 ∧ (∀ k : Nat, k < 11 → 0 ≤ zget t_period' k ∧ zget t_period' k ≤ 20) ∧ t_taped' = 0 ∧ (∀ k : Nat, (k : Int) < i1' → 0 ≤ zget t_told' k ∧ zget t_told' k ≤ 20) ∧ (∀ k : Nat, k < 10 → 0 ≤ zget t_told' k ∧ zget t_told' k ≤ 999))) (fun (s : zS_X11_period) => match s with | (lab, i1', i2', t_taped', t_size', t_sort', t_at', t_end', t_number', t_word', t_rowMany', t_periodMany', t_told', t_period') => if lab = 0 then 1000 else if lab = 20 then (500 - i2').toNat else if lab = 56 then (400 - i2').toNat else 0) (fun (o : zO_X11_period) => (o.2.1) = 0 ∧ 1 ≤ (o.2.2.2.2.2.2.2.2.2.1) ∧ (o.2.2.2.2.2.2.2.2.2.1) ≤ 10 ∧ (∀ k : Nat, k < 11 → 0 ≤ zget (o.2.2.2.2.2.2.2.2.2.2.2) k ∧ zget (o.2.2.2.2.2.2.2.2.2.2.2) k ≤ 20) ∧ (∀ k : Nat, k < 10 → 0 ≤ zget (o.2.2.2.2.2.2.2.2.2.2.1) k ∧ zget (o.2.2.2.2.2.2.2.2.2.2.1) k ≤ 999)) ?_ _ ?_ ?_
  · intro s hI
    obtain ⟨lab, i1', i2', t_taped', t_size', t_sort', t_at', t_end', t_number', t_word', t_rowMany', t_periodMany', t_told', t_period'⟩ := s
    have hI : (lab = 0 ∧ 0 ≤ t_taped' ∧ t_taped' ≤ 300 ∧ 1 ≤ t_periodMany' ∧ t_periodMany' ≤ 10 ∧ (∀ k : Nat, k < 11 → 0 ≤ zget t_period' k ∧ zget t_period' k ≤ 20) ∧ (∀ k : Nat, k < 10 → 0 ≤ zget t_told' k ∧ zget t_told' k ≤ 999)) ∨ (lab = 20 ∧ 1 ≤ i1' ∧ i1' ≤ 10 ∧ 0 ≤ i2' ∧ i2' ≤ i1' ∧ 1 ≤ t_periodMany' ∧ t_periodMany' ≤ 10 ∧ (∀ k : Nat, k < 11 → 0 ≤ zget t_period' k ∧ zget t_period' k ≤ 20) ∧ t_taped' = 0 ∧ (∀ k : Nat, (k : Int) < i2' → 0 ≤ zget t_told' k ∧ zget t_told' k ≤ 20) ∧ (∀ k : Nat, k < 10 → 0 ≤ zget t_told' k ∧ zget t_told' k ≤ 999)) ∨ (lab = 56 ∧ 1 ≤ i1' ∧ i1' ≤ 10 ∧ 0 ≤ i2' ∧ i2' ≤ i1' ∧ t_periodMany' = i1' ∧ t_periodMany' ≤ 10 ∧ (∀ k : Nat, k < 11 → 0 ≤ zget t_period' k ∧ zget t_period' k ≤ 20) ∧ t_taped' = 0 ∧ (∀ k : Nat, (k : Int) < i1' → 0 ≤ zget t_told' k ∧ zget t_told' k ≤ 20) ∧ (∀ k : Nat, k < 10 → 0 ≤ zget t_told' k ∧ zget t_told' k ≤ 999)) := hI
    rcases hI with ⟨rfl, v0_0, v0_1, v0_2, v0_3, v0_4, v0_5⟩ | ⟨rfl, v20_0, v20_1, v20_2, v20_3, v20_4, v20_5, v20_6, v20_7, v20_8, v20_9⟩ | ⟨rfl, v56_0, v56_1, v56_2, v56_3, v56_4, v56_5, v56_6, v56_7, v56_8, v56_9⟩
    · show Go _ (zg_X11_period_0 t_tape i1' i2' t_taped' t_size' t_sort' t_at' t_end' t_number' t_word' t_rowMany' t_periodMany' t_told' t_period')
      unfold zg_X11_period_0
      refine Go_bindP (ok_X11_readRow t_taped' t_size' t_sort' t_at' t_end' t_number' t_word' t_rowMany' t_tape t_told' (by first | assumption | omega) (by first | assumption | omega) (by first | assumption | exact all_w (by assumption) (by omega) | (refine all_setw ?_ (Int.le_refl _) ?_ ?_ (by omega) (by omega) <;> first | assumption | omega) | exact all_setw (by assumption) (by omega) (by omega) (by omega) (by omega) (by omega))) (fun o1 q1 => ?_)
      obtain ⟨q1_0, q1_1, q1_2, q1_3⟩ := q1
      refine Go_bindP (ok_X11_in (o1.1) (1 : Int) (10 : Int) (by first | assumption | omega) (by first | assumption | omega) (by first | assumption | omega) (by first | assumption | omega) (by first | assumption | omega) (by first | assumption | omega)) (fun o2 q2 => ?_)
      obtain ⟨q2_0, q2_1⟩ := q2
      refine Go_ite (fun c3 => ?_) (fun c3 => ?_)
      · have dc3 := q2_1 c3
        exact Go_i (show ((o1.2.1)) = 0 ∧ 1 ≤ (t_periodMany') ∧ (t_periodMany') ≤ 10 ∧ (∀ k : Nat, k < 11 → 0 ≤ zget (t_period') k ∧ zget (t_period') k ≤ 20) ∧ (∀ k : Nat, k < 10 → 0 ≤ zget ((o1.2.2.2.2.2.2.2.2.2)) k ∧ zget ((o1.2.2.2.2.2.2.2.2.2)) k ≤ 999) from ⟨(by first | assumption | omega), (by first | assumption | omega), (by first | assumption | omega), (by first | assumption | exact all_w (by assumption) (by omega) | (refine all_setw ?_ (Int.le_refl _) ?_ ?_ (by omega) (by omega) <;> first | assumption | omega) | exact all_setw (by assumption) (by omega) (by omega) (by omega) (by omega) (by omega)), (by first | assumption | exact all_w (by assumption) (by omega) | (refine all_setw ?_ (Int.le_refl _) ?_ ?_ (by omega) (by omega) <;> first | assumption | omega) | exact all_setw (by assumption) (by omega) (by omega) (by omega) (by omega) (by omega))⟩)
      · have dc3 := q2_0 (bnf c3)
        exact Go_i (show (((20 : Nat) = 0 ∧ 0 ≤ ((o1.2.1)) ∧ ((o1.2.1)) ≤ 300 ∧ 1 ≤ (t_periodMany') ∧ (t_periodMany') ≤ 10 ∧ (∀ k : Nat, k < 11 → 0 ≤ zget (t_period') k ∧ zget (t_period') k ≤ 20) ∧ (∀ k : Nat, k < 10 → 0 ≤ zget ((o1.2.2.2.2.2.2.2.2.2)) k ∧ zget ((o1.2.2.2.2.2.2.2.2.2)) k ≤ 999)) ∨ ((20 : Nat) = 20 ∧ 1 ≤ ((o1.1)) ∧ ((o1.1)) ≤ 10 ∧ 0 ≤ ((0 : Int)) ∧ ((0 : Int)) ≤ ((o1.1)) ∧ 1 ≤ (t_periodMany') ∧ (t_periodMany') ≤ 10 ∧ (∀ k : Nat, k < 11 → 0 ≤ zget (t_period') k ∧ zget (t_period') k ≤ 20) ∧ ((o1.2.1)) = 0 ∧ (∀ k : Nat, (k : Int) < ((0 : Int)) → 0 ≤ zget ((o1.2.2.2.2.2.2.2.2.2)) k ∧ zget ((o1.2.2.2.2.2.2.2.2.2)) k ≤ 20) ∧ (∀ k : Nat, k < 10 → 0 ≤ zget ((o1.2.2.2.2.2.2.2.2.2)) k ∧ zget ((o1.2.2.2.2.2.2.2.2.2)) k ≤ 999)) ∨ ((20 : Nat) = 56 ∧ 1 ≤ ((o1.1)) ∧ ((o1.1)) ≤ 10 ∧ 0 ≤ ((0 : Int)) ∧ ((0 : Int)) ≤ ((o1.1)) ∧ (t_periodMany') = ((o1.1)) ∧ (t_periodMany') ≤ 10 ∧ (∀ k : Nat, k < 11 → 0 ≤ zget (t_period') k ∧ zget (t_period') k ≤ 20) ∧ ((o1.2.1)) = 0 ∧ (∀ k : Nat, (k : Int) < ((o1.1)) → 0 ≤ zget ((o1.2.2.2.2.2.2.2.2.2)) k ∧ zget ((o1.2.2.2.2.2.2.2.2.2)) k ≤ 20) ∧ (∀ k : Nat, k < 10 → 0 ≤ zget ((o1.2.2.2.2.2.2.2.2.2)) k ∧ zget ((o1.2.2.2.2.2.2.2.2.2)) k ≤ 999))) ∧ (500 - ((0 : Int))).toNat < 1000 from ⟨Or.inr (Or.inl (⟨rfl, (by first | assumption | omega), (by first | assumption | omega), (by first | assumption | omega), (by first | assumption | omega), (by first | assumption | omega), (by first | assumption | omega), (by first | assumption | exact all_w (by assumption) (by omega) | (refine all_setw ?_ (Int.le_refl _) ?_ ?_ (by omega) (by omega) <;> first | assumption | omega) | exact all_setw (by assumption) (by omega) (by omega) (by omega) (by omega) (by omega)), (by first | assumption | omega), (by first | assumption | (intro k hk; omega) | (intro k hk; exact v20_8 k (by omega)) | exact all_next (by assumption) (by omega) (by omega) (by omega)), (by first | assumption | exact all_w (by assumption) (by omega) | (refine all_setw ?_ (Int.le_refl _) ?_ ?_ (by omega) (by omega) <;> first | assumption | omega) | exact all_setw (by assumption) (by omega) (by omega) (by omega) (by omega) (by omega))⟩)), by omega⟩)
    · show Go _ (zg_X11_period_20 t_tape i1' i2' t_taped' t_size' t_sort' t_at' t_end' t_number' t_word' t_rowMany' t_periodMany' t_told' t_period')
      unfold zg_X11_period_20
      refine Go_chk (by unfold zout; omega) ?_
      refine Go_chk (by unfold zout; omega) ?_
      refine Go_ite (fun c4 => ?_) (fun c4 => ?_)
      · exact Go_i (show (((56 : Nat) = 0 ∧ 0 ≤ (t_taped') ∧ (t_taped') ≤ 300 ∧ 1 ≤ (i1') ∧ (i1') ≤ 10 ∧ (∀ k : Nat, k < 11 → 0 ≤ zget (t_period') k ∧ zget (t_period') k ≤ 20) ∧ (∀ k : Nat, k < 10 → 0 ≤ zget (t_told') k ∧ zget (t_told') k ≤ 999)) ∨ ((56 : Nat) = 20 ∧ 1 ≤ (i1') ∧ (i1') ≤ 10 ∧ 0 ≤ ((0 : Int)) ∧ ((0 : Int)) ≤ (i1') ∧ 1 ≤ (i1') ∧ (i1') ≤ 10 ∧ (∀ k : Nat, k < 11 → 0 ≤ zget (t_period') k ∧ zget (t_period') k ≤ 20) ∧ (t_taped') = 0 ∧ (∀ k : Nat, (k : Int) < ((0 : Int)) → 0 ≤ zget (t_told') k ∧ zget (t_told') k ≤ 20) ∧ (∀ k : Nat, k < 10 → 0 ≤ zget (t_told') k ∧ zget (t_told') k ≤ 999)) ∨ ((56 : Nat) = 56 ∧ 1 ≤ (i1') ∧ (i1') ≤ 10 ∧ 0 ≤ ((0 : Int)) ∧ ((0 : Int)) ≤ (i1') ∧ (i1') = (i1') ∧ (i1') ≤ 10 ∧ (∀ k : Nat, k < 11 → 0 ≤ zget (t_period') k ∧ zget (t_period') k ≤ 20) ∧ (t_taped') = 0 ∧ (∀ k : Nat, (k : Int) < (i1') → 0 ≤ zget (t_told') k ∧ zget (t_told') k ≤ 20) ∧ (∀ k : Nat, k < 10 → 0 ≤ zget (t_told') k ∧ zget (t_told') k ≤ 999))) ∧ (400 - ((0 : Int))).toNat < (500 - i2').toNat from ⟨Or.inr (Or.inr (⟨rfl, (by first | assumption | omega), (by first | assumption | omega), (by first | assumption | omega), (by first | assumption | omega), (by first | assumption | omega), (by first | assumption | omega), (by first | assumption | exact all_w (by assumption) (by omega) | (refine all_setw ?_ (Int.le_refl _) ?_ ?_ (by omega) (by omega) <;> first | assumption | omega) | exact all_setw (by assumption) (by omega) (by omega) (by omega) (by omega) (by omega)), (by first | assumption | omega), (by first | assumption | (intro k hk; omega) | (intro k hk; exact v20_8 k (by omega)) | exact all_next (by assumption) (by omega) (by omega) (by omega)), (by first | assumption | exact all_w (by assumption) (by omega) | (refine all_setw ?_ (Int.le_refl _) ?_ ?_ (by omega) (by omega) <;> first | assumption | omega) | exact all_setw (by assumption) (by omega) (by omega) (by omega) (by omega) (by omega))⟩)), by omega⟩)
      · refine Go_chk (by omega) ?_
        have a5 := rget t_told' (Int.toNat i2')
        refine Go_bindP (ok_X11_in (zget t_told' (Int.toNat i2')) (1 : Int) (20 : Int) (by first | assumption | omega) (by first | assumption | omega) (by first | assumption | omega) (by first | assumption | omega) (by first | assumption | omega) (by first | assumption | omega)) (fun o7 q6 => ?_)
        obtain ⟨q6_0, q6_1⟩ := q6
        refine Go_ite (fun c7 => ?_) (fun c7 => ?_)
        · have dc7 := q6_1 c7
          exact Go_i (show (t_taped') = 0 ∧ 1 ≤ (t_periodMany') ∧ (t_periodMany') ≤ 10 ∧ (∀ k : Nat, k < 11 → 0 ≤ zget (t_period') k ∧ zget (t_period') k ≤ 20) ∧ (∀ k : Nat, k < 10 → 0 ≤ zget (t_told') k ∧ zget (t_told') k ≤ 999) from ⟨(by first | assumption | omega), (by first | assumption | omega), (by first | assumption | omega), (by first | assumption | exact all_w (by assumption) (by omega) | (refine all_setw ?_ (Int.le_refl _) ?_ ?_ (by omega) (by omega) <;> first | assumption | omega) | exact all_setw (by assumption) (by omega) (by omega) (by omega) (by omega) (by omega)), (by first | assumption | exact all_w (by assumption) (by omega) | (refine all_setw ?_ (Int.le_refl _) ?_ ?_ (by omega) (by omega) <;> first | assumption | omega) | exact all_setw (by assumption) (by omega) (by omega) (by omega) (by omega) (by omega))⟩)
        · have dc7 := q6_0 (bnf c7)
          exact Go_i (show (((20 : Nat) = 0 ∧ 0 ≤ (t_taped') ∧ (t_taped') ≤ 300 ∧ 1 ≤ (t_periodMany') ∧ (t_periodMany') ≤ 10 ∧ (∀ k : Nat, k < 11 → 0 ≤ zget (t_period') k ∧ zget (t_period') k ≤ 20) ∧ (∀ k : Nat, k < 10 → 0 ≤ zget (t_told') k ∧ zget (t_told') k ≤ 999)) ∨ ((20 : Nat) = 20 ∧ 1 ≤ (i1') ∧ (i1') ≤ 10 ∧ 0 ≤ ((i2' + (1 : Int))) ∧ ((i2' + (1 : Int))) ≤ (i1') ∧ 1 ≤ (t_periodMany') ∧ (t_periodMany') ≤ 10 ∧ (∀ k : Nat, k < 11 → 0 ≤ zget (t_period') k ∧ zget (t_period') k ≤ 20) ∧ (t_taped') = 0 ∧ (∀ k : Nat, (k : Int) < ((i2' + (1 : Int))) → 0 ≤ zget (t_told') k ∧ zget (t_told') k ≤ 20) ∧ (∀ k : Nat, k < 10 → 0 ≤ zget (t_told') k ∧ zget (t_told') k ≤ 999)) ∨ ((20 : Nat) = 56 ∧ 1 ≤ (i1') ∧ (i1') ≤ 10 ∧ 0 ≤ ((i2' + (1 : Int))) ∧ ((i2' + (1 : Int))) ≤ (i1') ∧ (t_periodMany') = (i1') ∧ (t_periodMany') ≤ 10 ∧ (∀ k : Nat, k < 11 → 0 ≤ zget (t_period') k ∧ zget (t_period') k ≤ 20) ∧ (t_taped') = 0 ∧ (∀ k : Nat, (k : Int) < (i1') → 0 ≤ zget (t_told') k ∧ zget (t_told') k ≤ 20) ∧ (∀ k : Nat, k < 10 → 0 ≤ zget (t_told') k ∧ zget (t_told') k ≤ 999))) ∧ (500 - ((i2' + (1 : Int)))).toNat < (500 - i2').toNat from ⟨Or.inr (Or.inl (⟨rfl, (by first | assumption | omega), (by first | assumption | omega), (by first | assumption | omega), (by first | assumption | omega), (by first | assumption | omega), (by first | assumption | omega), (by first | assumption | exact all_w (by assumption) (by omega) | (refine all_setw ?_ (Int.le_refl _) ?_ ?_ (by omega) (by omega) <;> first | assumption | omega) | exact all_setw (by assumption) (by omega) (by omega) (by omega) (by omega) (by omega)), (by first | assumption | omega), (by first | assumption | (intro k hk; omega) | (intro k hk; exact v20_8 k (by omega)) | exact all_next (by assumption) (by omega) (by omega) (by omega)), (by first | assumption | exact all_w (by assumption) (by omega) | (refine all_setw ?_ (Int.le_refl _) ?_ ?_ (by omega) (by omega) <;> first | assumption | omega) | exact all_setw (by assumption) (by omega) (by omega) (by omega) (by omega) (by omega))⟩)), by omega⟩)
    · show Go _ (zg_X11_period_56 t_tape i1' i2' t_taped' t_size' t_sort' t_at' t_end' t_number' t_word' t_rowMany' t_periodMany' t_told' t_period')
      unfold zg_X11_period_56
      refine Go_chk (by unfold zout; omega) ?_
      refine Go_chk (by unfold zout; omega) ?_
      refine Go_ite (fun c8 => ?_) (fun c8 => ?_)
      · exact Go_i (show (t_taped') = 0 ∧ 1 ≤ (t_periodMany') ∧ (t_periodMany') ≤ 10 ∧ (∀ k : Nat, k < 11 → 0 ≤ zget (t_period') k ∧ zget (t_period') k ≤ 20) ∧ (∀ k : Nat, k < 10 → 0 ≤ zget (t_told') k ∧ zget (t_told') k ≤ 999) from ⟨(by first | assumption | omega), (by first | assumption | omega), (by first | assumption | omega), (by first | assumption | exact all_w (by assumption) (by omega) | (refine all_setw ?_ (Int.le_refl _) ?_ ?_ (by omega) (by omega) <;> first | assumption | omega) | exact all_setw (by assumption) (by omega) (by omega) (by omega) (by omega) (by omega)), (by first | assumption | exact all_w (by assumption) (by omega) | (refine all_setw ?_ (Int.le_refl _) ?_ ?_ (by omega) (by omega) <;> first | assumption | omega) | exact all_setw (by assumption) (by omega) (by omega) (by omega) (by omega) (by omega))⟩)
      · refine Go_chk (by omega) ?_
        refine Go_chk (by omega) ?_
        have g1 := v56_8 (Int.toNat i2') (by omega)
        have a9 := rget t_told' (Int.toNat i2')
        exact Go_i (show (((56 : Nat) = 0 ∧ 0 ≤ (t_taped') ∧ (t_taped') ≤ 300 ∧ 1 ≤ (t_periodMany') ∧ (t_periodMany') ≤ 10 ∧ (∀ k : Nat, k < 11 → 0 ≤ zget ((zset t_period' (Int.toNat i2') (zget t_told' (Int.toNat i2')))) k ∧ zget ((zset t_period' (Int.toNat i2') (zget t_told' (Int.toNat i2')))) k ≤ 20) ∧ (∀ k : Nat, k < 10 → 0 ≤ zget (t_told') k ∧ zget (t_told') k ≤ 999)) ∨ ((56 : Nat) = 20 ∧ 1 ≤ (i1') ∧ (i1') ≤ 10 ∧ 0 ≤ ((i2' + (1 : Int))) ∧ ((i2' + (1 : Int))) ≤ (i1') ∧ 1 ≤ (t_periodMany') ∧ (t_periodMany') ≤ 10 ∧ (∀ k : Nat, k < 11 → 0 ≤ zget ((zset t_period' (Int.toNat i2') (zget t_told' (Int.toNat i2')))) k ∧ zget ((zset t_period' (Int.toNat i2') (zget t_told' (Int.toNat i2')))) k ≤ 20) ∧ (t_taped') = 0 ∧ (∀ k : Nat, (k : Int) < ((i2' + (1 : Int))) → 0 ≤ zget (t_told') k ∧ zget (t_told') k ≤ 20) ∧ (∀ k : Nat, k < 10 → 0 ≤ zget (t_told') k ∧ zget (t_told') k ≤ 999)) ∨ ((56 : Nat) = 56 ∧ 1 ≤ (i1') ∧ (i1') ≤ 10 ∧ 0 ≤ ((i2' + (1 : Int))) ∧ ((i2' + (1 : Int))) ≤ (i1') ∧ (t_periodMany') = (i1') ∧ (t_periodMany') ≤ 10 ∧ (∀ k : Nat, k < 11 → 0 ≤ zget ((zset t_period' (Int.toNat i2') (zget t_told' (Int.toNat i2')))) k ∧ zget ((zset t_period' (Int.toNat i2') (zget t_told' (Int.toNat i2')))) k ≤ 20) ∧ (t_taped') = 0 ∧ (∀ k : Nat, (k : Int) < (i1') → 0 ≤ zget (t_told') k ∧ zget (t_told') k ≤ 20) ∧ (∀ k : Nat, k < 10 → 0 ≤ zget (t_told') k ∧ zget (t_told') k ≤ 999))) ∧ (400 - ((i2' + (1 : Int)))).toNat < (400 - i2').toNat from ⟨Or.inr (Or.inr (⟨rfl, (by first | assumption | omega), (by first | assumption | omega), (by first | assumption | omega), (by first | assumption | omega), (by first | assumption | omega), (by first | assumption | omega), (by first | assumption | exact all_w (by assumption) (by omega) | (refine all_setw ?_ (Int.le_refl _) ?_ ?_ (by omega) (by omega) <;> first | assumption | omega) | exact all_setw (by assumption) (by omega) (by omega) (by omega) (by omega) (by omega)), (by first | assumption | omega), (by first | assumption | (intro k hk; omega) | (intro k hk; exact v20_8 k (by omega)) | exact all_next (by assumption) (by omega) (by omega) (by omega)), (by first | assumption | exact all_w (by assumption) (by omega) | (refine all_setw ?_ (Int.le_refl _) ?_ ?_ (by omega) (by omega) <;> first | assumption | omega) | exact all_setw (by assumption) (by omega) (by omega) (by omega) (by omega) (by omega))⟩)), by omega⟩)
  · exact (show ((0 : Nat) = 0 ∧ 0 ≤ t_taped ∧ t_taped ≤ 300 ∧ 1 ≤ t_periodMany ∧ t_periodMany ≤ 10 ∧ (∀ k : Nat, k < 11 → 0 ≤ zget t_period k ∧ zget t_period k ≤ 20) ∧ (∀ k : Nat, k < 10 → 0 ≤ zget t_told k ∧ zget t_told k ≤ 999)) ∨ ((0 : Nat) = 20 ∧ 1 ≤ 0 ∧ 0 ≤ 10 ∧ 0 ≤ 0 ∧ 0 ≤ 0 ∧ 1 ≤ t_periodMany ∧ t_periodMany ≤ 10 ∧ (∀ k : Nat, k < 11 → 0 ≤ zget t_period k ∧ zget t_period k ≤ 20) ∧ t_taped = 0 ∧ (∀ k : Nat, (k : Int) < 0 → 0 ≤ zget t_told k ∧ zget t_told k ≤ 20) ∧ (∀ k : Nat, k < 10 → 0 ≤ zget t_told k ∧ zget t_told k ≤ 999)) ∨ ((0 : Nat) = 56 ∧ 1 ≤ 0 ∧ 0 ≤ 10 ∧ 0 ≤ 0 ∧ 0 ≤ 0 ∧ t_periodMany = 0 ∧ t_periodMany ≤ 10 ∧ (∀ k : Nat, k < 11 → 0 ≤ zget t_period k ∧ zget t_period k ≤ 20) ∧ t_taped = 0 ∧ (∀ k : Nat, (k : Int) < 0 → 0 ≤ zget t_told k ∧ zget t_told k ≤ 20) ∧ (∀ k : Nat, k < 10 → 0 ≤ zget t_told k ∧ zget t_told k ≤ 999)) from Or.inl (⟨rfl, (by first | assumption | omega), (by first | assumption | omega), (by first | assumption | omega), (by first | assumption | omega), (by first | assumption | exact all_w (by assumption) (by omega) | (refine all_setw ?_ (Int.le_refl _) ?_ ?_ (by omega) (by omega) <;> first | assumption | omega) | exact all_setw (by assumption) (by omega) (by omega) (by omega) (by omega) (by omega)), (by first | assumption | exact all_w (by assumption) (by omega) | (refine all_setw ?_ (Int.le_refl _) ?_ ?_ (by omega) (by omega) <;> first | assumption | omega) | exact all_setw (by assumption) (by omega) (by omega) (by omega) (by omega) (by omega))⟩))
  · show 1000 < jfuel
    unfold jfuel
    omega
set_option maxRecDepth 20000 in
theorem ok_X11_glue (t_periodMany : Int) (t_period : Nat) (i1 : Int) (p0 : 1 ≤ t_periodMany) (p1 : t_periodMany ≤ 10) (p2 : (∀ k : Nat, k < 11 → 0 ≤ zget t_period k ∧ zget t_period k ≤ 20)) (p3 : -2147483648 ≤ i1) (p4 : i1 ≤ 2147483647) : Go (fun o => 1 ≤ (o.2.1) ∧ (o.2.1) ≤ 10 ∧ (∀ k : Nat, k < 11 → 0 ≤ zget (o.2.2) k ∧ zget (o.2.2) k ≤ 20)) (zf_X11_glue t_periodMany t_period i1) := by
  unfold zf_X11_glue
  refine jok (fun (s : zS_X11_glue) => match s with | (lab, i1', i2', i3', t_periodMany', t_period') => (lab = 0 ∧ 1 ≤ t_periodMany' ∧ t_periodMany' ≤ 10 ∧ (∀ k : Nat, k < 11 → 0 ≤ zget t_period' k ∧ zget t_period' k ≤ 20) ∧ -2147483648 ≤ i1' ∧ i1' ≤ 2147483647) ∨ (lab = 85 ∧ 1 ≤ t_periodMany' ∧ t_periodMany' ≤ 9 ∧ (∀ k : Nat, k < 11 → 0 ≤ zget t_period' k ∧ zget t_period' k ≤ 20) ∧ 0 ≤ i1' ∧ i1' < t_periodMany' ∧ 0 ≤ i2' ∧ i2' < t_periodMany' ∧ zget t_period' (Int.toNat i1') ≤ 19 ∧ zget t_period' (Int.toNat i2') ≤ 19 ∧ (t_periodMany' = 1 → zget t_period' (Int.toNat i1') ≤ 18) ∧ (i1' = i2' → t_periodMany' = 1)) ∨ (lab = 110 ∧ 1 ≤ t_periodMany' ∧ t_periodMany' ≤ 9 ∧ (∀ k : Nat, k < 11 → 0 ≤ zget t_period' k ∧ zget t_period' k ≤ 20) ∧ 0 ≤ i1' ∧ i1' < t_periodMany' ∧ i1' < i3' ∧ i3' ≤ t_periodMany')) (fun (s : zS_X11_glue) => match s with | (lab, i1', i2', i3', t_periodMany', t_period') => if lab = 0 then 100 else if lab = 85 then 50 else if lab = 110 then (i3').toNat else 0) (fun (o : zO_X11_glue) => 1 ≤ (o.2.1) ∧ (o.2.1) ≤ 10 ∧ (∀ k : Nat, k < 11 → 0 ≤ zget (o.2.2) k ∧ zget (o.2.2) k ≤ 20)) ?_ _ ?_ ?_
  · intro s hI
    obtain ⟨lab, i1', i2', i3', t_periodMany', t_period'⟩ := s
    have hI : (lab = 0 ∧ 1 ≤ t_periodMany' ∧ t_periodMany' ≤ 10 ∧ (∀ k : Nat, k < 11 → 0 ≤ zget t_period' k ∧ zget t_period' k ≤ 20) ∧ -2147483648 ≤ i1' ∧ i1' ≤ 2147483647) ∨ (lab = 85 ∧ 1 ≤ t_periodMany' ∧ t_periodMany' ≤ 9 ∧ (∀ k : Nat, k < 11 → 0 ≤ zget t_period' k ∧ zget t_period' k ≤ 20) ∧ 0 ≤ i1' ∧ i1' < t_periodMany' ∧ 0 ≤ i2' ∧ i2' < t_periodMany' ∧ zget t_period' (Int.toNat i1') ≤ 19 ∧ zget t_period' (Int.toNat i2') ≤ 19 ∧ (t_periodMany' = 1 → zget t_period' (Int.toNat i1') ≤ 18) ∧ (i1' = i2' → t_periodMany' = 1)) ∨ (lab = 110 ∧ 1 ≤ t_periodMany' ∧ t_periodMany' ≤ 9 ∧ (∀ k : Nat, k < 11 → 0 ≤ zget t_period' k ∧ zget t_period' k ≤ 20) ∧ 0 ≤ i1' ∧ i1' < t_periodMany' ∧ i1' < i3' ∧ i3' ≤ t_periodMany') := hI
    rcases hI with ⟨rfl, v0_0, v0_1, v0_2, v0_3, v0_4⟩ | ⟨rfl, v85_0, v85_1, v85_2, v85_3, v85_4, v85_5, v85_6, v85_7, v85_8, v85_9, v85_10⟩ | ⟨rfl, v110_0, v110_1, v110_2, v110_3, v110_4, v110_5, v110_6⟩
    · show Go _ (zg_X11_glue_0 i1' i2' i3' t_periodMany' t_period')
      unfold zg_X11_glue_0
      refine Go_bindP (ok_X11_in i1' (0 : Int) (t_periodMany' - (1 : Int)) (by first | assumption | omega) (by first | assumption | omega) (by first | assumption | omega) (by first | assumption | omega) (by first | assumption | omega) (by first | assumption | omega)) (fun o1 q1 => ?_)
      obtain ⟨q1_0, q1_1⟩ := q1
      refine Go_ite (fun c2 => ?_) (fun c2 => ?_)
      · have dc2 := q1_1 c2
        exact Go_i (show 1 ≤ (t_periodMany') ∧ (t_periodMany') ≤ 10 ∧ (∀ k : Nat, k < 11 → 0 ≤ zget (t_period') k ∧ zget (t_period') k ≤ 20) from ⟨(by first | assumption | omega), (by first | assumption | omega), (by first | assumption | exact all_w (by assumption) (by omega) | (refine all_setw ?_ (Int.le_refl _) ?_ ?_ (by omega) (by omega) <;> first | assumption | omega) | exact all_setw (by assumption) (by omega) (by omega) (by omega) (by omega) (by omega))⟩)
      · have dc2 := q1_0 (bnf c2)
        refine Go_chk (by unfold zout; omega) ?_
        refine Go_ite (fun c3 => ?_) (fun c3 => ?_)
        · exact Go_i (show 1 ≤ (t_periodMany') ∧ (t_periodMany') ≤ 10 ∧ (∀ k : Nat, k < 11 → 0 ≤ zget (t_period') k ∧ zget (t_period') k ≤ 20) from ⟨(by first | assumption | omega), (by first | assumption | omega), (by first | assumption | exact all_w (by assumption) (by omega) | (refine all_setw ?_ (Int.le_refl _) ?_ ?_ (by omega) (by omega) <;> first | assumption | omega) | exact all_setw (by assumption) (by omega) (by omega) (by omega) (by omega) (by omega))⟩)
        · refine Go_chk (by unfold zout; omega) ?_
          refine Go_chk (by omega) ?_
          refine Go_ite (fun c4 => ?_) (fun c4 => ?_)
          · have a5 := rget t_period' (Int.toNat (0 : Int))
            refine Go_ite (fun c6 => ?_) (fun c6 => ?_)
            · have t1 := rtmod (a := i1' + (1 : Int)) (b := t_periodMany') (by omega) (by omega)
              have z0 : i1' = 0 → zget t_period' (Int.toNat i1') = zget t_period' (Int.toNat (0 : Int)) := fun h => by rw [h]
              have z1 : Int.tmod (i1' + (1 : Int)) t_periodMany' = 0 → zget t_period' (Int.toNat (Int.tmod (i1' + (1 : Int)) t_periodMany')) = zget t_period' (Int.toNat (0 : Int)) := fun h => by rw [h]
              have t3 : i1' + 1 < t_periodMany' → Int.tmod (i1' + (1 : Int)) t_periodMany' = i1' + 1 := fun h => Int.tmod_eq_of_lt (by omega) h
              have t4 : i1' + 1 = t_periodMany' → Int.tmod (i1' + (1 : Int)) t_periodMany' = 0 := fun h => by rw [h]; exact Int.tmod_self
              have a7 := rtmod (a := (i1' + (1 : Int))) (b := t_periodMany') (by omega) (by omega)
              exact Go_i (show (((85 : Nat) = 0 ∧ 1 ≤ (t_periodMany') ∧ (t_periodMany') ≤ 10 ∧ (∀ k : Nat, k < 11 → 0 ≤ zget (t_period') k ∧ zget (t_period') k ≤ 20) ∧ -2147483648 ≤ (i1') ∧ (i1') ≤ 2147483647) ∨ ((85 : Nat) = 85 ∧ 1 ≤ (t_periodMany') ∧ (t_periodMany') ≤ 9 ∧ (∀ k : Nat, k < 11 → 0 ≤ zget (t_period') k ∧ zget (t_period') k ≤ 20) ∧ 0 ≤ (i1') ∧ (i1') < (t_periodMany') ∧ 0 ≤ ((Int.tmod (i1' + (1 : Int)) t_periodMany')) ∧ ((Int.tmod (i1' + (1 : Int)) t_periodMany')) < (t_periodMany') ∧ zget (t_period') (Int.toNat (i1')) ≤ 19 ∧ zget (t_period') (Int.toNat ((Int.tmod (i1' + (1 : Int)) t_periodMany'))) ≤ 19 ∧ ((t_periodMany') = 1 → zget (t_period') (Int.toNat (i1')) ≤ 18) ∧ ((i1') = ((Int.tmod (i1' + (1 : Int)) t_periodMany')) → (t_periodMany') = 1)) ∨ ((85 : Nat) = 110 ∧ 1 ≤ (t_periodMany') ∧ (t_periodMany') ≤ 9 ∧ (∀ k : Nat, k < 11 → 0 ≤ zget (t_period') k ∧ zget (t_period') k ≤ 20) ∧ 0 ≤ (i1') ∧ (i1') < (t_periodMany') ∧ (i1') < (0) ∧ (0) ≤ (t_periodMany'))) ∧ 50 < 100 from ⟨Or.inr (Or.inl (⟨rfl, (by first | assumption | omega), (by first | assumption | omega), (by first | assumption | exact all_w (by assumption) (by omega) | (refine all_setw ?_ (Int.le_refl _) ?_ ?_ (by omega) (by omega) <;> first | assumption | omega) | exact all_setw (by assumption) (by omega) (by omega) (by omega) (by omega) (by omega)), (by first | assumption | omega), (by first | assumption | omega), (by first | assumption | omega), (by first | assumption | omega), (by first | assumption | omega), (by first | assumption | omega), (by intro h; omega), (by intro h; omega)⟩)), by omega⟩)
            · exact Go_i (show 1 ≤ (t_periodMany') ∧ (t_periodMany') ≤ 10 ∧ (∀ k : Nat, k < 11 → 0 ≤ zget (t_period') k ∧ zget (t_period') k ≤ 20) from ⟨(by first | assumption | omega), (by first | assumption | omega), (by first | assumption | exact all_w (by assumption) (by omega) | (refine all_setw ?_ (Int.le_refl _) ?_ ?_ (by omega) (by omega) <;> first | assumption | omega) | exact all_setw (by assumption) (by omega) (by omega) (by omega) (by omega) (by omega))⟩)
          · refine Go_chk (by omega) ?_
            have a8 := rget t_period' (Int.toNat i1')
            refine Go_ite (fun c9 => ?_) (fun c9 => ?_)
            · exact Go_i (show 1 ≤ (t_periodMany') ∧ (t_periodMany') ≤ 10 ∧ (∀ k : Nat, k < 11 → 0 ≤ zget (t_period') k ∧ zget (t_period') k ≤ 20) from ⟨(by first | assumption | omega), (by first | assumption | omega), (by first | assumption | exact all_w (by assumption) (by omega) | (refine all_setw ?_ (Int.le_refl _) ?_ ?_ (by omega) (by omega) <;> first | assumption | omega) | exact all_setw (by assumption) (by omega) (by omega) (by omega) (by omega) (by omega))⟩)
            · have a10 := rtmod (a := (i1' + (1 : Int))) (b := t_periodMany') (by omega) (by omega)
              refine Go_chk (by omega) ?_
              have a11 := rget t_period' (Int.toNat (Int.tmod (i1' + (1 : Int)) t_periodMany'))
              refine Go_ite (fun c12 => ?_) (fun c12 => ?_)
              · have t1 := rtmod (a := i1' + (1 : Int)) (b := t_periodMany') (by omega) (by omega)
                have z0 : i1' = 0 → zget t_period' (Int.toNat i1') = zget t_period' (Int.toNat (0 : Int)) := fun h => by rw [h]
                have z1 : Int.tmod (i1' + (1 : Int)) t_periodMany' = 0 → zget t_period' (Int.toNat (Int.tmod (i1' + (1 : Int)) t_periodMany')) = zget t_period' (Int.toNat (0 : Int)) := fun h => by rw [h]
                have t3 : i1' + 1 < t_periodMany' → Int.tmod (i1' + (1 : Int)) t_periodMany' = i1' + 1 := fun h => Int.tmod_eq_of_lt (by omega) h
                have t4 : i1' + 1 = t_periodMany' → Int.tmod (i1' + (1 : Int)) t_periodMany' = 0 := fun h => by rw [h]; exact Int.tmod_self
                exact Go_i (show (((85 : Nat) = 0 ∧ 1 ≤ (t_periodMany') ∧ (t_periodMany') ≤ 10 ∧ (∀ k : Nat, k < 11 → 0 ≤ zget (t_period') k ∧ zget (t_period') k ≤ 20) ∧ -2147483648 ≤ (i1') ∧ (i1') ≤ 2147483647) ∨ ((85 : Nat) = 85 ∧ 1 ≤ (t_periodMany') ∧ (t_periodMany') ≤ 9 ∧ (∀ k : Nat, k < 11 → 0 ≤ zget (t_period') k ∧ zget (t_period') k ≤ 20) ∧ 0 ≤ (i1') ∧ (i1') < (t_periodMany') ∧ 0 ≤ ((Int.tmod (i1' + (1 : Int)) t_periodMany')) ∧ ((Int.tmod (i1' + (1 : Int)) t_periodMany')) < (t_periodMany') ∧ zget (t_period') (Int.toNat (i1')) ≤ 19 ∧ zget (t_period') (Int.toNat ((Int.tmod (i1' + (1 : Int)) t_periodMany'))) ≤ 19 ∧ ((t_periodMany') = 1 → zget (t_period') (Int.toNat (i1')) ≤ 18) ∧ ((i1') = ((Int.tmod (i1' + (1 : Int)) t_periodMany')) → (t_periodMany') = 1)) ∨ ((85 : Nat) = 110 ∧ 1 ≤ (t_periodMany') ∧ (t_periodMany') ≤ 9 ∧ (∀ k : Nat, k < 11 → 0 ≤ zget (t_period') k ∧ zget (t_period') k ≤ 20) ∧ 0 ≤ (i1') ∧ (i1') < (t_periodMany') ∧ (i1') < (0) ∧ (0) ≤ (t_periodMany'))) ∧ 50 < 100 from ⟨Or.inr (Or.inl (⟨rfl, (by first | assumption | omega), (by first | assumption | omega), (by first | assumption | exact all_w (by assumption) (by omega) | (refine all_setw ?_ (Int.le_refl _) ?_ ?_ (by omega) (by omega) <;> first | assumption | omega) | exact all_setw (by assumption) (by omega) (by omega) (by omega) (by omega) (by omega)), (by first | assumption | omega), (by first | assumption | omega), (by first | assumption | omega), (by first | assumption | omega), (by first | assumption | omega), (by first | assumption | omega), (by intro h; omega), (by intro h; omega)⟩)), by omega⟩)
              · exact Go_i (show 1 ≤ (t_periodMany') ∧ (t_periodMany') ≤ 10 ∧ (∀ k : Nat, k < 11 → 0 ≤ zget (t_period') k ∧ zget (t_period') k ≤ 20) from ⟨(by first | assumption | omega), (by first | assumption | omega), (by first | assumption | exact all_w (by assumption) (by omega) | (refine all_setw ?_ (Int.le_refl _) ?_ ?_ (by omega) (by omega) <;> first | assumption | omega) | exact all_setw (by assumption) (by omega) (by omega) (by omega) (by omega) (by omega))⟩)
    · show Go _ (zg_X11_glue_85 i1' i2' i3' t_periodMany' t_period')
      unfold zg_X11_glue_85
      refine Go_chk (by omega) ?_
      refine Go_chk (by omega) ?_
      have g1 := v85_2 (Int.toNat i1') (by omega)
      have g2 := v85_2 (Int.toNat i2') (by omega)
      have a13 := rget t_period' (Int.toNat i1')
      have a14 := rget (zset t_period' (Int.toNat i1') ((zget t_period' (Int.toNat i1')) + (1 : Int))) (Int.toNat i2')
      have a15 := zget_set_c t_period' (Int.toNat i1') (Int.toNat i2') (v := ((zget t_period' (Int.toNat i1')) + (1 : Int))) (by unfold zout; omega)
      exact Go_i (show (((110 : Nat) = 0 ∧ 1 ≤ (t_periodMany') ∧ (t_periodMany') ≤ 10 ∧ (∀ k : Nat, k < 11 → 0 ≤ zget ((zset (zset t_period' (Int.toNat i1') ((zget t_period' (Int.toNat i1')) + (1 : Int))) (Int.toNat i2') ((zget (zset t_period' (Int.toNat i1') ((zget t_period' (Int.toNat i1')) + (1 : Int))) (Int.toNat i2')) + (1 : Int)))) k ∧ zget ((zset (zset t_period' (Int.toNat i1') ((zget t_period' (Int.toNat i1')) + (1 : Int))) (Int.toNat i2') ((zget (zset t_period' (Int.toNat i1') ((zget t_period' (Int.toNat i1')) + (1 : Int))) (Int.toNat i2')) + (1 : Int)))) k ≤ 20) ∧ -2147483648 ≤ (i1') ∧ (i1') ≤ 2147483647) ∨ ((110 : Nat) = 85 ∧ 1 ≤ (t_periodMany') ∧ (t_periodMany') ≤ 9 ∧ (∀ k : Nat, k < 11 → 0 ≤ zget ((zset (zset t_period' (Int.toNat i1') ((zget t_period' (Int.toNat i1')) + (1 : Int))) (Int.toNat i2') ((zget (zset t_period' (Int.toNat i1') ((zget t_period' (Int.toNat i1')) + (1 : Int))) (Int.toNat i2')) + (1 : Int)))) k ∧ zget ((zset (zset t_period' (Int.toNat i1') ((zget t_period' (Int.toNat i1')) + (1 : Int))) (Int.toNat i2') ((zget (zset t_period' (Int.toNat i1') ((zget t_period' (Int.toNat i1')) + (1 : Int))) (Int.toNat i2')) + (1 : Int)))) k ≤ 20) ∧ 0 ≤ (i1') ∧ (i1') < (t_periodMany') ∧ 0 ≤ (i2') ∧ (i2') < (t_periodMany') ∧ zget ((zset (zset t_period' (Int.toNat i1') ((zget t_period' (Int.toNat i1')) + (1 : Int))) (Int.toNat i2') ((zget (zset t_period' (Int.toNat i1') ((zget t_period' (Int.toNat i1')) + (1 : Int))) (Int.toNat i2')) + (1 : Int)))) (Int.toNat (i1')) ≤ 19 ∧ zget ((zset (zset t_period' (Int.toNat i1') ((zget t_period' (Int.toNat i1')) + (1 : Int))) (Int.toNat i2') ((zget (zset t_period' (Int.toNat i1') ((zget t_period' (Int.toNat i1')) + (1 : Int))) (Int.toNat i2')) + (1 : Int)))) (Int.toNat (i2')) ≤ 19 ∧ ((t_periodMany') = 1 → zget ((zset (zset t_period' (Int.toNat i1') ((zget t_period' (Int.toNat i1')) + (1 : Int))) (Int.toNat i2') ((zget (zset t_period' (Int.toNat i1') ((zget t_period' (Int.toNat i1')) + (1 : Int))) (Int.toNat i2')) + (1 : Int)))) (Int.toNat (i1')) ≤ 18) ∧ ((i1') = (i2') → (t_periodMany') = 1)) ∨ ((110 : Nat) = 110 ∧ 1 ≤ (t_periodMany') ∧ (t_periodMany') ≤ 9 ∧ (∀ k : Nat, k < 11 → 0 ≤ zget ((zset (zset t_period' (Int.toNat i1') ((zget t_period' (Int.toNat i1')) + (1 : Int))) (Int.toNat i2') ((zget (zset t_period' (Int.toNat i1') ((zget t_period' (Int.toNat i1')) + (1 : Int))) (Int.toNat i2')) + (1 : Int)))) k ∧ zget ((zset (zset t_period' (Int.toNat i1') ((zget t_period' (Int.toNat i1')) + (1 : Int))) (Int.toNat i2') ((zget (zset t_period' (Int.toNat i1') ((zget t_period' (Int.toNat i1')) + (1 : Int))) (Int.toNat i2')) + (1 : Int)))) k ≤ 20) ∧ 0 ≤ (i1') ∧ (i1') < (t_periodMany') ∧ (i1') < (t_periodMany') ∧ (t_periodMany') ≤ (t_periodMany'))) ∧ ((t_periodMany')).toNat < 50 from ⟨Or.inr (Or.inr (⟨rfl, (by first | assumption | omega), (by first | assumption | omega), (by refine all_setw (hi := 20) ?_ (Int.le_refl _) ?_ ?_ (by omega) (by omega) <;> first | omega | (refine all_setw (hi := 20) ?_ (Int.le_refl _) ?_ ?_ (by omega) (by omega) <;> first | omega | assumption)), (by first | assumption | omega), (by first | assumption | omega), (by first | assumption | omega), (by first | assumption | omega)⟩)), by omega⟩)
    · show Go _ (zg_X11_glue_110 i1' i2' i3' t_periodMany' t_period')
      unfold zg_X11_glue_110
      refine Go_chk (by unfold zout; omega) ?_
      refine Go_chk (by unfold zout; omega) ?_
      refine Go_ite (fun c16 => ?_) (fun c16 => ?_)
      · refine Go_chk (by omega) ?_
        exact Go_i (show 1 ≤ ((t_periodMany' + (1 : Int))) ∧ ((t_periodMany' + (1 : Int))) ≤ 10 ∧ (∀ k : Nat, k < 11 → 0 ≤ zget ((zset t_period' (Int.toNat (i1' + (1 : Int))) (1 : Int))) k ∧ zget ((zset t_period' (Int.toNat (i1' + (1 : Int))) (1 : Int))) k ≤ 20) from ⟨(by first | assumption | omega), (by first | assumption | omega), (by first | assumption | exact all_w (by assumption) (by omega) | (refine all_setw ?_ (Int.le_refl _) ?_ ?_ (by omega) (by omega) <;> first | assumption | omega) | exact all_setw (by assumption) (by omega) (by omega) (by omega) (by omega) (by omega))⟩)
      · refine Go_chk (by omega) ?_
        refine Go_chk (by omega) ?_
        have g1 := v110_2 (Int.toNat (i3' - (1 : Int))) (by omega)
        have a17 := rget t_period' (Int.toNat (i3' - (1 : Int)))
        exact Go_i (show (((110 : Nat) = 0 ∧ 1 ≤ (t_periodMany') ∧ (t_periodMany') ≤ 10 ∧ (∀ k : Nat, k < 11 → 0 ≤ zget ((zset t_period' (Int.toNat i3') (zget t_period' (Int.toNat (i3' - (1 : Int)))))) k ∧ zget ((zset t_period' (Int.toNat i3') (zget t_period' (Int.toNat (i3' - (1 : Int)))))) k ≤ 20) ∧ -2147483648 ≤ (i1') ∧ (i1') ≤ 2147483647) ∨ ((110 : Nat) = 85 ∧ 1 ≤ (t_periodMany') ∧ (t_periodMany') ≤ 9 ∧ (∀ k : Nat, k < 11 → 0 ≤ zget ((zset t_period' (Int.toNat i3') (zget t_period' (Int.toNat (i3' - (1 : Int)))))) k ∧ zget ((zset t_period' (Int.toNat i3') (zget t_period' (Int.toNat (i3' - (1 : Int)))))) k ≤ 20) ∧ 0 ≤ (i1') ∧ (i1') < (t_periodMany') ∧ 0 ≤ (0) ∧ (0) < (t_periodMany') ∧ zget ((zset t_period' (Int.toNat i3') (zget t_period' (Int.toNat (i3' - (1 : Int)))))) (Int.toNat (i1')) ≤ 19 ∧ zget ((zset t_period' (Int.toNat i3') (zget t_period' (Int.toNat (i3' - (1 : Int)))))) (Int.toNat (0)) ≤ 19 ∧ ((t_periodMany') = 1 → zget ((zset t_period' (Int.toNat i3') (zget t_period' (Int.toNat (i3' - (1 : Int)))))) (Int.toNat (i1')) ≤ 18) ∧ ((i1') = (0) → (t_periodMany') = 1)) ∨ ((110 : Nat) = 110 ∧ 1 ≤ (t_periodMany') ∧ (t_periodMany') ≤ 9 ∧ (∀ k : Nat, k < 11 → 0 ≤ zget ((zset t_period' (Int.toNat i3') (zget t_period' (Int.toNat (i3' - (1 : Int)))))) k ∧ zget ((zset t_period' (Int.toNat i3') (zget t_period' (Int.toNat (i3' - (1 : Int)))))) k ≤ 20) ∧ 0 ≤ (i1') ∧ (i1') < (t_periodMany') ∧ (i1') < ((i3' + (-1 : Int))) ∧ ((i3' + (-1 : Int))) ≤ (t_periodMany'))) ∧ (((i3' + (-1 : Int)))).toNat < (i3').toNat from ⟨Or.inr (Or.inr (⟨rfl, (by first | assumption | omega), (by first | assumption | omega), (by first | assumption | exact all_w (by assumption) (by omega) | (refine all_setw ?_ (Int.le_refl _) ?_ ?_ (by omega) (by omega) <;> first | assumption | omega) | exact all_setw (by assumption) (by omega) (by omega) (by omega) (by omega) (by omega)), (by first | assumption | omega), (by first | assumption | omega), (by first | assumption | omega), (by first | assumption | omega)⟩)), by omega⟩)
  · exact (show ((0 : Nat) = 0 ∧ 1 ≤ t_periodMany ∧ t_periodMany ≤ 10 ∧ (∀ k : Nat, k < 11 → 0 ≤ zget t_period k ∧ zget t_period k ≤ 20) ∧ -2147483648 ≤ i1 ∧ i1 ≤ 2147483647) ∨ ((0 : Nat) = 85 ∧ 1 ≤ t_periodMany ∧ t_periodMany ≤ 9 ∧ (∀ k : Nat, k < 11 → 0 ≤ zget t_period k ∧ zget t_period k ≤ 20) ∧ 0 ≤ i1 ∧ i1 < t_periodMany ∧ 0 ≤ 0 ∧ 0 < t_periodMany ∧ zget t_period (Int.toNat i1) ≤ 19 ∧ zget t_period (Int.toNat 0) ≤ 19 ∧ (t_periodMany = 1 → zget t_period (Int.toNat i1) ≤ 18) ∧ (i1 = 0 → t_periodMany = 1)) ∨ ((0 : Nat) = 110 ∧ 1 ≤ t_periodMany ∧ t_periodMany ≤ 9 ∧ (∀ k : Nat, k < 11 → 0 ≤ zget t_period k ∧ zget t_period k ≤ 20) ∧ 0 ≤ i1 ∧ i1 < t_periodMany ∧ i1 < 0 ∧ 0 ≤ t_periodMany) from Or.inl (⟨rfl, (by first | assumption | omega), (by first | assumption | omega), (by first | assumption | exact all_w (by assumption) (by omega) | (refine all_setw ?_ (Int.le_refl _) ?_ ?_ (by omega) (by omega) <;> first | assumption | omega) | exact all_setw (by assumption) (by omega) (by omega) (by omega) (by omega) (by omega)), (by first | assumption | omega), (by first | assumption | omega)⟩))
  · show 100 < jfuel
    unfold jfuel
    omega
set_option maxRecDepth 20000 in
theorem ok_X11_isOff (t_periodMany : Int) (t_period : Nat) (i1 : Int) (p0 : 1 ≤ t_periodMany) (p1 : t_periodMany ≤ 10) (p2 : (∀ k : Nat, k < 11 → 0 ≤ zget t_period k ∧ zget t_period k ≤ 20)) (p3 : 0 ≤ i1) (p4 : i1 < t_periodMany) : Go (fun o => ((o) = true → 3 ≤ t_periodMany ∧ 2 ≤ zget t_period (Int.toNat (Int.tmod (i1 + 1) t_periodMany)) ∧ 2 ≤ zget t_period (Int.toNat (Int.tmod (i1 + t_periodMany - 1) t_periodMany))) ∧ ((o) = false → True)) (zf_X11_isOff t_periodMany t_period i1) := by
  unfold zf_X11_isOff
  refine Go_chk (by unfold zout; omega) ?_
  refine Go_ite (fun c1 => ?_) (fun c1 => ?_)
  · exact Go_i (show ((false) = true → 3 ≤ t_periodMany ∧ 2 ≤ zget t_period (Int.toNat (Int.tmod (i1 + 1) t_periodMany)) ∧ 2 ≤ zget t_period (Int.toNat (Int.tmod (i1 + t_periodMany - 1) t_periodMany))) ∧ ((false) = false → True) from ⟨(by intro h; first | exact True.intro | omega | (exact absurd h (by decide))), (by intro h; first | exact True.intro | omega | (exact absurd h (by decide)))⟩)
  · refine Go_chk (by omega) ?_
    have a2 := rget t_period (Int.toNat i1)
    refine Go_ite (fun c3 => ?_) (fun c3 => ?_)
    · refine Go_chk (by unfold zout; omega) ?_
      refine Go_chk (by omega) ?_
      have a4 := rtmod (a := (i1 + (1 : Int))) (b := t_periodMany) (by omega) (by omega)
      refine Go_chk (by omega) ?_
      have a5 := rget t_period (Int.toNat (Int.tmod (i1 + (1 : Int)) t_periodMany))
      refine Go_ite (fun c6 => ?_) (fun c6 => ?_)
      · exact Go_i (show ((false) = true → 3 ≤ t_periodMany ∧ 2 ≤ zget t_period (Int.toNat (Int.tmod (i1 + 1) t_periodMany)) ∧ 2 ≤ zget t_period (Int.toNat (Int.tmod (i1 + t_periodMany - 1) t_periodMany))) ∧ ((false) = false → True) from ⟨(by intro h; first | exact True.intro | omega | (exact absurd h (by decide))), (by intro h; first | exact True.intro | omega | (exact absurd h (by decide)))⟩)
      · refine Go_chk (by unfold zout; omega) ?_
        refine Go_chk (by omega) ?_
        have a7 := rtmod (a := ((i1 + t_periodMany) - (1 : Int))) (b := t_periodMany) (by omega) (by omega)
        refine Go_chk (by omega) ?_
        have a8 := rget t_period (Int.toNat (Int.tmod ((i1 + t_periodMany) - (1 : Int)) t_periodMany))
        refine Go_ite (fun c9 => ?_) (fun c9 => ?_)
        · exact Go_i (show ((false) = true → 3 ≤ t_periodMany ∧ 2 ≤ zget t_period (Int.toNat (Int.tmod (i1 + 1) t_periodMany)) ∧ 2 ≤ zget t_period (Int.toNat (Int.tmod (i1 + t_periodMany - 1) t_periodMany))) ∧ ((false) = false → True) from ⟨(by intro h; first | exact True.intro | omega | (exact absurd h (by decide))), (by intro h; first | exact True.intro | omega | (exact absurd h (by decide)))⟩)
        · exact Go_i (show ((true) = true → 3 ≤ t_periodMany ∧ 2 ≤ zget t_period (Int.toNat (Int.tmod (i1 + 1) t_periodMany)) ∧ 2 ≤ zget t_period (Int.toNat (Int.tmod (i1 + t_periodMany - 1) t_periodMany))) ∧ ((true) = false → True) from ⟨(by intro h; first | exact True.intro | omega | (exact absurd h (by decide))), (by intro h; first | exact True.intro | omega | (exact absurd h (by decide)))⟩)
    · exact Go_i (show ((false) = true → 3 ≤ t_periodMany ∧ 2 ≤ zget t_period (Int.toNat (Int.tmod (i1 + 1) t_periodMany)) ∧ 2 ≤ zget t_period (Int.toNat (Int.tmod (i1 + t_periodMany - 1) t_periodMany))) ∧ ((false) = false → True) from ⟨(by intro h; first | exact True.intro | omega | (exact absurd h (by decide))), (by intro h; first | exact True.intro | omega | (exact absurd h (by decide)))⟩)
set_option maxRecDepth 20000 in
theorem ok_X11_off (t_periodMany : Int) (t_period : Nat) (i1 : Int) (p0 : 3 ≤ t_periodMany) (p1 : t_periodMany ≤ 10) (p2 : (∀ k : Nat, k < 11 → 0 ≤ zget t_period k ∧ zget t_period k ≤ 20)) (p3 : 0 ≤ i1) (p4 : i1 < t_periodMany) (p5 : 2 ≤ zget t_period (Int.toNat (Int.tmod (i1 + 1) t_periodMany))) (p6 : 2 ≤ zget t_period (Int.toNat (Int.tmod (i1 + t_periodMany - 1) t_periodMany))) : Go (fun o => (o.1) = t_periodMany - 1 ∧ (∀ k : Nat, k < 11 → 0 ≤ zget (o.2) k ∧ zget (o.2) k ≤ 20)) (zf_X11_off t_periodMany t_period i1) := by
  unfold zf_X11_off
  refine jok (fun (s : zS_X11_off) => match s with | (lab, i1', i2', i3', t_periodMany', t_period') => (lab = 0 ∧ 3 ≤ t_periodMany' ∧ t_periodMany' ≤ 10 ∧ (∀ k : Nat, k < 11 → 0 ≤ zget t_period' k ∧ zget t_period' k ≤ 20) ∧ 0 ≤ i1' ∧ i1' < t_periodMany' ∧ 2 ≤ zget t_period' (Int.toNat (Int.tmod (i1' + 1) t_periodMany')) ∧ 2 ≤ zget t_period' (Int.toNat (Int.tmod (i1' + t_periodMany' - 1) t_periodMany')) ∧ t_periodMany' = t_periodMany) ∨ (lab = 37 ∧ 3 ≤ t_periodMany' ∧ t_periodMany' ≤ 10 ∧ (∀ k : Nat, k < 11 → 0 ≤ zget t_period' k ∧ zget t_period' k ≤ 20) ∧ i2' = t_periodMany' ∧ 0 ≤ i3' ∧ i3' < i2' ∧ t_periodMany' = t_periodMany)) (fun (s : zS_X11_off) => match s with | (lab, i1', i2', i3', t_periodMany', t_period') => if lab = 0 then 50 else if lab = 37 then (20 - i3').toNat else 0) (fun (o : zO_X11_off) => (o.1) = t_periodMany - 1 ∧ (∀ k : Nat, k < 11 → 0 ≤ zget (o.2) k ∧ zget (o.2) k ≤ 20)) ?_ _ ?_ ?_
  · intro s hI
    obtain ⟨lab, i1', i2', i3', t_periodMany', t_period'⟩ := s
    have hI : (lab = 0 ∧ 3 ≤ t_periodMany' ∧ t_periodMany' ≤ 10 ∧ (∀ k : Nat, k < 11 → 0 ≤ zget t_period' k ∧ zget t_period' k ≤ 20) ∧ 0 ≤ i1' ∧ i1' < t_periodMany' ∧ 2 ≤ zget t_period' (Int.toNat (Int.tmod (i1' + 1) t_periodMany')) ∧ 2 ≤ zget t_period' (Int.toNat (Int.tmod (i1' + t_periodMany' - 1) t_periodMany')) ∧ t_periodMany' = t_periodMany) ∨ (lab = 37 ∧ 3 ≤ t_periodMany' ∧ t_periodMany' ≤ 10 ∧ (∀ k : Nat, k < 11 → 0 ≤ zget t_period' k ∧ zget t_period' k ≤ 20) ∧ i2' = t_periodMany' ∧ 0 ≤ i3' ∧ i3' < i2' ∧ t_periodMany' = t_periodMany) := hI
    rcases hI with ⟨rfl, v0_0, v0_1, v0_2, v0_3, v0_4, v0_5, v0_6, v0_7⟩ | ⟨rfl, v37_0, v37_1, v37_2, v37_3, v37_4, v37_5, v37_6⟩
    · show Go _ (zg_X11_off_0 i1' i2' i3' t_periodMany' t_period')
      unfold zg_X11_off_0
      refine Go_chk (by unfold zout; omega) ?_
      refine Go_chk (by unfold zout; omega) ?_
      refine Go_chk (by omega) ?_
      have a1 := rtmod (a := (i1' + (1 : Int))) (b := t_periodMany') (by omega) (by omega)
      refine Go_chk (by omega) ?_
      refine Go_chk (by unfold zout; omega) ?_
      refine Go_chk (by omega) ?_
      have a2 := rtmod (a := ((i1' + t_periodMany') - (1 : Int))) (b := t_periodMany') (by omega) (by omega)
      refine Go_chk (by omega) ?_
      have t1 := rtmod (a := i1' + (1 : Int)) (b := t_periodMany') (by omega) (by omega)
      have t2 := rtmod (a := i1' + t_periodMany' - (1 : Int)) (b := t_periodMany') (by omega) (by omega)
      have g1 := v0_2 (Int.toNat (Int.tmod (i1' + (1 : Int)) t_periodMany')) (by omega)
      have g2 := v0_2 (Int.toNat (Int.tmod ((i1' + t_periodMany') - (1 : Int)) t_periodMany')) (by omega)
      have a3 := rget t_period' (Int.toNat (Int.tmod (i1' + (1 : Int)) t_periodMany'))
      have a4 := rget (zset t_period' (Int.toNat (Int.tmod (i1' + (1 : Int)) t_periodMany')) ((zget t_period' (Int.toNat (Int.tmod (i1' + (1 : Int)) t_periodMany'))) - (1 : Int))) (Int.toNat (Int.tmod ((i1' + t_periodMany') - (1 : Int)) t_periodMany'))
      have a5 := zget_set_c t_period' (Int.toNat (Int.tmod (i1' + (1 : Int)) t_periodMany')) (Int.toNat (Int.tmod ((i1' + t_periodMany') - (1 : Int)) t_periodMany')) (v := ((zget t_period' (Int.toNat (Int.tmod (i1' + (1 : Int)) t_periodMany'))) - (1 : Int))) (by unfold zout; omega)
      exact Go_i (show (((37 : Nat) = 0 ∧ 3 ≤ (t_periodMany') ∧ (t_periodMany') ≤ 10 ∧ (∀ k : Nat, k < 11 → 0 ≤ zget ((zset (zset t_period' (Int.toNat (Int.tmod (i1' + (1 : Int)) t_periodMany')) ((zget t_period' (Int.toNat (Int.tmod (i1' + (1 : Int)) t_periodMany'))) - (1 : Int))) (Int.toNat (Int.tmod ((i1' + t_periodMany') - (1 : Int)) t_periodMany')) ((zget (zset t_period' (Int.toNat (Int.tmod (i1' + (1 : Int)) t_periodMany')) ((zget t_period' (Int.toNat (Int.tmod (i1' + (1 : Int)) t_periodMany'))) - (1 : Int))) (Int.toNat (Int.tmod ((i1' + t_periodMany') - (1 : Int)) t_periodMany'))) - (1 : Int)))) k ∧ zget ((zset (zset t_period' (Int.toNat (Int.tmod (i1' + (1 : Int)) t_periodMany')) ((zget t_period' (Int.toNat (Int.tmod (i1' + (1 : Int)) t_periodMany'))) - (1 : Int))) (Int.toNat (Int.tmod ((i1' + t_periodMany') - (1 : Int)) t_periodMany')) ((zget (zset t_period' (Int.toNat (Int.tmod (i1' + (1 : Int)) t_periodMany')) ((zget t_period' (Int.toNat (Int.tmod (i1' + (1 : Int)) t_periodMany'))) - (1 : Int))) (Int.toNat (Int.tmod ((i1' + t_periodMany') - (1 : Int)) t_periodMany'))) - (1 : Int)))) k ≤ 20) ∧ 0 ≤ (i1') ∧ (i1') < (t_periodMany') ∧ 2 ≤ zget ((zset (zset t_period' (Int.toNat (Int.tmod (i1' + (1 : Int)) t_periodMany')) ((zget t_period' (Int.toNat (Int.tmod (i1' + (1 : Int)) t_periodMany'))) - (1 : Int))) (Int.toNat (Int.tmod ((i1' + t_periodMany') - (1 : Int)) t_periodMany')) ((zget (zset t_period' (Int.toNat (Int.tmod (i1' + (1 : Int)) t_periodMany')) ((zget t_period' (Int.toNat (Int.tmod (i1' + (1 : Int)) t_periodMany'))) - (1 : Int))) (Int.toNat (Int.tmod ((i1' + t_periodMany') - (1 : Int)) t_periodMany'))) - (1 : Int)))) (Int.toNat (Int.tmod ((i1') + 1) (t_periodMany'))) ∧ 2 ≤ zget ((zset (zset t_period' (Int.toNat (Int.tmod (i1' + (1 : Int)) t_periodMany')) ((zget t_period' (Int.toNat (Int.tmod (i1' + (1 : Int)) t_periodMany'))) - (1 : Int))) (Int.toNat (Int.tmod ((i1' + t_periodMany') - (1 : Int)) t_periodMany')) ((zget (zset t_period' (Int.toNat (Int.tmod (i1' + (1 : Int)) t_periodMany')) ((zget t_period' (Int.toNat (Int.tmod (i1' + (1 : Int)) t_periodMany'))) - (1 : Int))) (Int.toNat (Int.tmod ((i1' + t_periodMany') - (1 : Int)) t_periodMany'))) - (1 : Int)))) (Int.toNat (Int.tmod ((i1') + (t_periodMany') - 1) (t_periodMany'))) ∧ (t_periodMany') = t_periodMany) ∨ ((37 : Nat) = 37 ∧ 3 ≤ (t_periodMany') ∧ (t_periodMany') ≤ 10 ∧ (∀ k : Nat, k < 11 → 0 ≤ zget ((zset (zset t_period' (Int.toNat (Int.tmod (i1' + (1 : Int)) t_periodMany')) ((zget t_period' (Int.toNat (Int.tmod (i1' + (1 : Int)) t_periodMany'))) - (1 : Int))) (Int.toNat (Int.tmod ((i1' + t_periodMany') - (1 : Int)) t_periodMany')) ((zget (zset t_period' (Int.toNat (Int.tmod (i1' + (1 : Int)) t_periodMany')) ((zget t_period' (Int.toNat (Int.tmod (i1' + (1 : Int)) t_periodMany'))) - (1 : Int))) (Int.toNat (Int.tmod ((i1' + t_periodMany') - (1 : Int)) t_periodMany'))) - (1 : Int)))) k ∧ zget ((zset (zset t_period' (Int.toNat (Int.tmod (i1' + (1 : Int)) t_periodMany')) ((zget t_period' (Int.toNat (Int.tmod (i1' + (1 : Int)) t_periodMany'))) - (1 : Int))) (Int.toNat (Int.tmod ((i1' + t_periodMany') - (1 : Int)) t_periodMany')) ((zget (zset t_period' (Int.toNat (Int.tmod (i1' + (1 : Int)) t_periodMany')) ((zget t_period' (Int.toNat (Int.tmod (i1' + (1 : Int)) t_periodMany'))) - (1 : Int))) (Int.toNat (Int.tmod ((i1' + t_periodMany') - (1 : Int)) t_periodMany'))) - (1 : Int)))) k ≤ 20) ∧ (t_periodMany') = (t_periodMany') ∧ 0 ≤ (i1') ∧ (i1') < (t_periodMany') ∧ (t_periodMany') = t_periodMany)) ∧ (20 - (i1')).toNat < 50 from ⟨Or.inr (⟨rfl, (by first | assumption | omega), (by first | assumption | omega), (by refine all_setw (hi := 20) ?_ (Int.le_refl _) ?_ ?_ (by omega) (by omega) <;> first | omega | (refine all_setw (hi := 20) ?_ (Int.le_refl _) ?_ ?_ (by omega) (by omega) <;> first | omega | assumption)), (by first | assumption | omega), (by first | assumption | omega), (by first | assumption | omega), (by first | assumption | omega)⟩), by omega⟩)
    · show Go _ (zg_X11_off_37 i1' i2' i3' t_periodMany' t_period')
      unfold zg_X11_off_37
      refine Go_chk (by unfold zout; omega) ?_
      refine Go_chk (by unfold zout; omega) ?_
      refine Go_ite (fun c6 => ?_) (fun c6 => ?_)
      · exact Go_i (show ((t_periodMany' - (1 : Int))) = t_periodMany - 1 ∧ (∀ k : Nat, k < 11 → 0 ≤ zget (t_period') k ∧ zget (t_period') k ≤ 20) from ⟨(by first | assumption | omega), (by first | assumption | exact all_w (by assumption) (by omega) | (refine all_setw ?_ (Int.le_refl _) ?_ ?_ (by omega) (by omega) <;> first | assumption | omega) | exact all_setw (by assumption) (by omega) (by omega) (by omega) (by omega) (by omega))⟩)
      · refine Go_chk (by omega) ?_
        refine Go_chk (by omega) ?_
        have g1 := v37_2 (Int.toNat (i3' + (1 : Int))) (by omega)
        have a7 := rget t_period' (Int.toNat (i3' + (1 : Int)))
        exact Go_i (show (((37 : Nat) = 0 ∧ 3 ≤ (t_periodMany') ∧ (t_periodMany') ≤ 10 ∧ (∀ k : Nat, k < 11 → 0 ≤ zget ((zset t_period' (Int.toNat i3') (zget t_period' (Int.toNat (i3' + (1 : Int)))))) k ∧ zget ((zset t_period' (Int.toNat i3') (zget t_period' (Int.toNat (i3' + (1 : Int)))))) k ≤ 20) ∧ 0 ≤ (0) ∧ (0) < (t_periodMany') ∧ 2 ≤ zget ((zset t_period' (Int.toNat i3') (zget t_period' (Int.toNat (i3' + (1 : Int)))))) (Int.toNat (Int.tmod ((0) + 1) (t_periodMany'))) ∧ 2 ≤ zget ((zset t_period' (Int.toNat i3') (zget t_period' (Int.toNat (i3' + (1 : Int)))))) (Int.toNat (Int.tmod ((0) + (t_periodMany') - 1) (t_periodMany'))) ∧ (t_periodMany') = t_periodMany) ∨ ((37 : Nat) = 37 ∧ 3 ≤ (t_periodMany') ∧ (t_periodMany') ≤ 10 ∧ (∀ k : Nat, k < 11 → 0 ≤ zget ((zset t_period' (Int.toNat i3') (zget t_period' (Int.toNat (i3' + (1 : Int)))))) k ∧ zget ((zset t_period' (Int.toNat i3') (zget t_period' (Int.toNat (i3' + (1 : Int)))))) k ≤ 20) ∧ (i2') = (t_periodMany') ∧ 0 ≤ ((i3' + (1 : Int))) ∧ ((i3' + (1 : Int))) < (i2') ∧ (t_periodMany') = t_periodMany)) ∧ (20 - ((i3' + (1 : Int)))).toNat < (20 - i3').toNat from ⟨Or.inr (⟨rfl, (by first | assumption | omega), (by first | assumption | omega), (by first | assumption | exact all_w (by assumption) (by omega) | (refine all_setw ?_ (Int.le_refl _) ?_ ?_ (by omega) (by omega) <;> first | assumption | omega) | exact all_setw (by assumption) (by omega) (by omega) (by omega) (by omega) (by omega)), (by first | assumption | omega), (by first | assumption | omega), (by first | assumption | omega), (by first | assumption | omega)⟩), by omega⟩)
  · exact (show ((0 : Nat) = 0 ∧ 3 ≤ t_periodMany ∧ t_periodMany ≤ 10 ∧ (∀ k : Nat, k < 11 → 0 ≤ zget t_period k ∧ zget t_period k ≤ 20) ∧ 0 ≤ i1 ∧ i1 < t_periodMany ∧ 2 ≤ zget t_period (Int.toNat (Int.tmod (i1 + 1) t_periodMany)) ∧ 2 ≤ zget t_period (Int.toNat (Int.tmod (i1 + t_periodMany - 1) t_periodMany)) ∧ t_periodMany = t_periodMany) ∨ ((0 : Nat) = 37 ∧ 3 ≤ t_periodMany ∧ t_periodMany ≤ 10 ∧ (∀ k : Nat, k < 11 → 0 ≤ zget t_period k ∧ zget t_period k ≤ 20) ∧ 0 = t_periodMany ∧ 0 ≤ 0 ∧ 0 < 0 ∧ t_periodMany = t_periodMany) from Or.inl (⟨rfl, (by first | assumption | omega), (by first | assumption | omega), (by first | assumption | exact all_w (by assumption) (by omega) | (refine all_setw ?_ (Int.le_refl _) ?_ ?_ (by omega) (by omega) <;> first | assumption | omega) | exact all_setw (by assumption) (by omega) (by omega) (by omega) (by omega) (by omega)), (by first | assumption | omega), (by first | assumption | omega), (by first | assumption | omega), (by first | assumption | omega), (by first | assumption | omega)⟩))
  · show 50 < jfuel
    unfold jfuel
    omega
set_option maxRecDepth 20000 in
theorem ok_X11_cutOff (t_periodMany : Int) (t_period : Nat) (i1 : Int) (p0 : 1 ≤ t_periodMany) (p1 : t_periodMany ≤ 10) (p2 : (∀ k : Nat, k < 11 → 0 ≤ zget t_period k ∧ zget t_period k ≤ 20)) (p3 : -2147483648 ≤ i1) (p4 : i1 ≤ 2147483647) : Go (fun o => 1 ≤ (o.2.1) ∧ (o.2.1) ≤ 10 ∧ (∀ k : Nat, k < 11 → 0 ≤ zget (o.2.2) k ∧ zget (o.2.2) k ≤ 20)) (zf_X11_cutOff t_periodMany t_period i1) := by
  unfold zf_X11_cutOff
  refine Go_bindP (ok_X11_in i1 (0 : Int) (t_periodMany - (1 : Int)) (by first | assumption | omega) (by first | assumption | omega) (by first | assumption | omega) (by first | assumption | omega) (by first | assumption | omega) (by first | assumption | omega)) (fun o1 q1 => ?_)
  obtain ⟨q1_0, q1_1⟩ := q1
  refine Go_ite (fun c2 => ?_) (fun c2 => ?_)
  · have dc2 := q1_1 c2
    exact Go_i (show 1 ≤ (t_periodMany) ∧ (t_periodMany) ≤ 10 ∧ (∀ k : Nat, k < 11 → 0 ≤ zget (t_period) k ∧ zget (t_period) k ≤ 20) from ⟨(by first | assumption | omega), (by first | assumption | omega), (by first | assumption | exact all_w (by assumption) (by omega) | (refine all_setw ?_ (Int.le_refl _) ?_ ?_ (by omega) (by omega) <;> first | assumption | omega) | exact all_setw (by assumption) (by omega) (by omega) (by omega) (by omega) (by omega))⟩)
  · have dc2 := q1_0 (bnf c2)
    refine Go_bindP (ok_X11_isOff t_periodMany t_period i1 (by first | assumption | omega) (by first | assumption | omega) (by first | assumption | exact all_w (by assumption) (by omega) | (refine all_setw ?_ (Int.le_refl _) ?_ ?_ (by omega) (by omega) <;> first | assumption | omega) | exact all_setw (by assumption) (by omega) (by omega) (by omega) (by omega) (by omega)) (by first | assumption | omega) (by first | assumption | omega)) (fun o2 q3 => ?_)
    obtain ⟨q3_0, q3_1⟩ := q3
    refine Go_ite (fun c4 => ?_) (fun c4 => ?_)
    · have dc4 := q3_1 c4
      exact Go_i (show 1 ≤ (t_periodMany) ∧ (t_periodMany) ≤ 10 ∧ (∀ k : Nat, k < 11 → 0 ≤ zget (t_period) k ∧ zget (t_period) k ≤ 20) from ⟨(by first | assumption | omega), (by first | assumption | omega), (by first | assumption | exact all_w (by assumption) (by omega) | (refine all_setw ?_ (Int.le_refl _) ?_ ?_ (by omega) (by omega) <;> first | assumption | omega) | exact all_setw (by assumption) (by omega) (by omega) (by omega) (by omega) (by omega))⟩)
    · have dc4 := q3_0 (bnf c4)
      refine Go_bindP (ok_X11_off t_periodMany t_period i1 (by first | assumption | omega) (by first | assumption | omega) (by first | assumption | exact all_w (by assumption) (by omega) | (refine all_setw ?_ (Int.le_refl _) ?_ ?_ (by omega) (by omega) <;> first | assumption | omega) | exact all_setw (by assumption) (by omega) (by omega) (by omega) (by omega) (by omega)) (by first | assumption | omega) (by first | assumption | omega) (by first | assumption | omega) (by first | assumption | omega)) (fun o3 q5 => ?_)
      obtain ⟨q5_0, q5_1⟩ := q5
      exact Go_i (show 1 ≤ ((o3.1)) ∧ ((o3.1)) ≤ 10 ∧ (∀ k : Nat, k < 11 → 0 ≤ zget ((o3.2)) k ∧ zget ((o3.2)) k ≤ 20) from ⟨(by first | assumption | omega), (by first | assumption | omega), (by first | assumption | exact all_w (by assumption) (by omega) | (refine all_setw ?_ (Int.le_refl _) ?_ ?_ (by omega) (by omega) <;> first | assumption | omega) | exact all_setw (by assumption) (by omega) (by omega) (by omega) (by omega) (by omega))⟩)
set_option maxRecDepth 20000 in
theorem ok_X11_core (t_periodMany : Int) (t_period : Nat) (p0 : 1 ≤ t_periodMany) (p1 : t_periodMany ≤ 10) (p2 : (∀ k : Nat, k < 11 → 0 ≤ zget t_period k ∧ zget t_period k ≤ 20)) : Go (fun o => 0 ≤ (o.1) ∧ (o.1) ≤ 10 ∧ 1 ≤ (o.2.1) ∧ (o.2.1) ≤ 10 ∧ (∀ k : Nat, k < 11 → 0 ≤ zget (o.2.2) k ∧ zget (o.2.2) k ≤ 20)) (zf_X11_core t_periodMany t_period) := by
  unfold zf_X11_core
  refine jok (fun (s : zS_X11_core) => match s with | (lab, i1', i2', t_periodMany', t_period') => (lab = 0 ∧ 1 ≤ t_periodMany' ∧ t_periodMany' ≤ 10 ∧ (∀ k : Nat, k < 11 → 0 ≤ zget t_period' k ∧ zget t_period' k ≤ 20)) ∨ (lab = 2 ∧ 1 ≤ t_periodMany' ∧ t_periodMany' ≤ 10 ∧ (∀ k : Nat, k < 11 → 0 ≤ zget t_period' k ∧ zget t_period' k ≤ 20) ∧ 0 ≤ i1' ∧ i1' + t_periodMany' ≤ 10) ∨ (lab = 4 ∧ 1 ≤ t_periodMany' ∧ t_periodMany' ≤ 10 ∧ (∀ k : Nat, k < 11 → 0 ≤ zget t_period' k ∧ zget t_period' k ≤ 20) ∧ 0 ≤ i1' ∧ i1' + t_periodMany' ≤ 10 ∧ 0 ≤ i2' ∧ i2' ≤ t_periodMany') ∨ (lab = 28 ∧ 1 ≤ t_periodMany' ∧ t_periodMany' ≤ 10 ∧ (∀ k : Nat, k < 11 → 0 ≤ zget t_period' k ∧ zget t_period' k ≤ 20) ∧ 0 ≤ i1' ∧ i1' + t_periodMany' ≤ 10 ∧ 0 ≤ i2' ∧ i2' ≤ t_periodMany')) (fun (s : zS_X11_core) => match s with | (lab, i1', i2', t_periodMany', t_period') => if lab = 0 then 5000 else if lab = 2 then (100 * t_periodMany' + 60).toNat else if lab = 4 then (100 * t_periodMany' + 50 - i2').toNat else if lab = 28 then (100 * t_periodMany' + 20).toNat else 0) (fun (o : zO_X11_core) => 0 ≤ (o.1) ∧ (o.1) ≤ 10 ∧ 1 ≤ (o.2.1) ∧ (o.2.1) ≤ 10 ∧ (∀ k : Nat, k < 11 → 0 ≤ zget (o.2.2) k ∧ zget (o.2.2) k ≤ 20)) ?_ _ ?_ ?_
  · intro s hI
    obtain ⟨lab, i1', i2', t_periodMany', t_period'⟩ := s
    have hI : (lab = 0 ∧ 1 ≤ t_periodMany' ∧ t_periodMany' ≤ 10 ∧ (∀ k : Nat, k < 11 → 0 ≤ zget t_period' k ∧ zget t_period' k ≤ 20)) ∨ (lab = 2 ∧ 1 ≤ t_periodMany' ∧ t_periodMany' ≤ 10 ∧ (∀ k : Nat, k < 11 → 0 ≤ zget t_period' k ∧ zget t_period' k ≤ 20) ∧ 0 ≤ i1' ∧ i1' + t_periodMany' ≤ 10) ∨ (lab = 4 ∧ 1 ≤ t_periodMany' ∧ t_periodMany' ≤ 10 ∧ (∀ k : Nat, k < 11 → 0 ≤ zget t_period' k ∧ zget t_period' k ≤ 20) ∧ 0 ≤ i1' ∧ i1' + t_periodMany' ≤ 10 ∧ 0 ≤ i2' ∧ i2' ≤ t_periodMany') ∨ (lab = 28 ∧ 1 ≤ t_periodMany' ∧ t_periodMany' ≤ 10 ∧ (∀ k : Nat, k < 11 → 0 ≤ zget t_period' k ∧ zget t_period' k ≤ 20) ∧ 0 ≤ i1' ∧ i1' + t_periodMany' ≤ 10 ∧ 0 ≤ i2' ∧ i2' ≤ t_periodMany') := hI
    rcases hI with ⟨rfl, v0_0, v0_1, v0_2⟩ | ⟨rfl, v2_0, v2_1, v2_2, v2_3, v2_4⟩ | ⟨rfl, v4_0, v4_1, v4_2, v4_3, v4_4, v4_5, v4_6⟩ | ⟨rfl, v28_0, v28_1, v28_2, v28_3, v28_4, v28_5, v28_6⟩
    · show Go _ (zg_X11_core_0 i1' i2' t_periodMany' t_period')
      unfold zg_X11_core_0
      exact Go_i (show (((2 : Nat) = 0 ∧ 1 ≤ (t_periodMany') ∧ (t_periodMany') ≤ 10 ∧ (∀ k : Nat, k < 11 → 0 ≤ zget (t_period') k ∧ zget (t_period') k ≤ 20)) ∨ ((2 : Nat) = 2 ∧ 1 ≤ (t_periodMany') ∧ (t_periodMany') ≤ 10 ∧ (∀ k : Nat, k < 11 → 0 ≤ zget (t_period') k ∧ zget (t_period') k ≤ 20) ∧ 0 ≤ ((0 : Int)) ∧ ((0 : Int)) + (t_periodMany') ≤ 10) ∨ ((2 : Nat) = 4 ∧ 1 ≤ (t_periodMany') ∧ (t_periodMany') ≤ 10 ∧ (∀ k : Nat, k < 11 → 0 ≤ zget (t_period') k ∧ zget (t_period') k ≤ 20) ∧ 0 ≤ ((0 : Int)) ∧ ((0 : Int)) + (t_periodMany') ≤ 10 ∧ 0 ≤ (0) ∧ (0) ≤ (t_periodMany')) ∨ ((2 : Nat) = 28 ∧ 1 ≤ (t_periodMany') ∧ (t_periodMany') ≤ 10 ∧ (∀ k : Nat, k < 11 → 0 ≤ zget (t_period') k ∧ zget (t_period') k ≤ 20) ∧ 0 ≤ ((0 : Int)) ∧ ((0 : Int)) + (t_periodMany') ≤ 10 ∧ 0 ≤ (0) ∧ (0) ≤ (t_periodMany'))) ∧ (100 * (t_periodMany') + 60).toNat < 5000 from ⟨Or.inr (Or.inl (⟨rfl, (by first | assumption | omega), (by first | assumption | omega), (by first | assumption | exact all_w (by assumption) (by omega) | (refine all_setw ?_ (Int.le_refl _) ?_ ?_ (by omega) (by omega) <;> first | assumption | omega) | exact all_setw (by assumption) (by omega) (by omega) (by omega) (by omega) (by omega)), (by first | assumption | omega), (by first | assumption | omega)⟩)), by omega⟩)
    · show Go _ (zg_X11_core_2 i1' i2' t_periodMany' t_period')
      unfold zg_X11_core_2
      exact Go_i (show (((4 : Nat) = 0 ∧ 1 ≤ (t_periodMany') ∧ (t_periodMany') ≤ 10 ∧ (∀ k : Nat, k < 11 → 0 ≤ zget (t_period') k ∧ zget (t_period') k ≤ 20)) ∨ ((4 : Nat) = 2 ∧ 1 ≤ (t_periodMany') ∧ (t_periodMany') ≤ 10 ∧ (∀ k : Nat, k < 11 → 0 ≤ zget (t_period') k ∧ zget (t_period') k ≤ 20) ∧ 0 ≤ (i1') ∧ (i1') + (t_periodMany') ≤ 10) ∨ ((4 : Nat) = 4 ∧ 1 ≤ (t_periodMany') ∧ (t_periodMany') ≤ 10 ∧ (∀ k : Nat, k < 11 → 0 ≤ zget (t_period') k ∧ zget (t_period') k ≤ 20) ∧ 0 ≤ (i1') ∧ (i1') + (t_periodMany') ≤ 10 ∧ 0 ≤ ((0 : Int)) ∧ ((0 : Int)) ≤ (t_periodMany')) ∨ ((4 : Nat) = 28 ∧ 1 ≤ (t_periodMany') ∧ (t_periodMany') ≤ 10 ∧ (∀ k : Nat, k < 11 → 0 ≤ zget (t_period') k ∧ zget (t_period') k ≤ 20) ∧ 0 ≤ (i1') ∧ (i1') + (t_periodMany') ≤ 10 ∧ 0 ≤ ((0 : Int)) ∧ ((0 : Int)) ≤ (t_periodMany'))) ∧ (100 * (t_periodMany') + 50 - ((0 : Int))).toNat < (100 * t_periodMany' + 60).toNat from ⟨Or.inr (Or.inr (Or.inl (⟨rfl, (by first | assumption | omega), (by first | assumption | omega), (by first | assumption | exact all_w (by assumption) (by omega) | (refine all_setw ?_ (Int.le_refl _) ?_ ?_ (by omega) (by omega) <;> first | assumption | omega) | exact all_setw (by assumption) (by omega) (by omega) (by omega) (by omega) (by omega)), (by first | assumption | omega), (by first | assumption | omega), (by first | assumption | omega), (by first | assumption | omega)⟩))), by omega⟩)
    · show Go _ (zg_X11_core_4 i1' i2' t_periodMany' t_period')
      unfold zg_X11_core_4
      refine Go_chk (by unfold zout; omega) ?_
      refine Go_chk (by unfold zout; omega) ?_
      refine Go_ite (fun c1 => ?_) (fun c1 => ?_)
      · exact Go_i (show (((28 : Nat) = 0 ∧ 1 ≤ (t_periodMany') ∧ (t_periodMany') ≤ 10 ∧ (∀ k : Nat, k < 11 → 0 ≤ zget (t_period') k ∧ zget (t_period') k ≤ 20)) ∨ ((28 : Nat) = 2 ∧ 1 ≤ (t_periodMany') ∧ (t_periodMany') ≤ 10 ∧ (∀ k : Nat, k < 11 → 0 ≤ zget (t_period') k ∧ zget (t_period') k ≤ 20) ∧ 0 ≤ (i1') ∧ (i1') + (t_periodMany') ≤ 10) ∨ ((28 : Nat) = 4 ∧ 1 ≤ (t_periodMany') ∧ (t_periodMany') ≤ 10 ∧ (∀ k : Nat, k < 11 → 0 ≤ zget (t_period') k ∧ zget (t_period') k ≤ 20) ∧ 0 ≤ (i1') ∧ (i1') + (t_periodMany') ≤ 10 ∧ 0 ≤ (i2') ∧ (i2') ≤ (t_periodMany')) ∨ ((28 : Nat) = 28 ∧ 1 ≤ (t_periodMany') ∧ (t_periodMany') ≤ 10 ∧ (∀ k : Nat, k < 11 → 0 ≤ zget (t_period') k ∧ zget (t_period') k ≤ 20) ∧ 0 ≤ (i1') ∧ (i1') + (t_periodMany') ≤ 10 ∧ 0 ≤ (i2') ∧ (i2') ≤ (t_periodMany'))) ∧ (100 * (t_periodMany') + 20).toNat < (100 * t_periodMany' + 50 - i2').toNat from ⟨Or.inr (Or.inr (Or.inr (⟨rfl, (by first | assumption | omega), (by first | assumption | omega), (by first | assumption | exact all_w (by assumption) (by omega) | (refine all_setw ?_ (Int.le_refl _) ?_ ?_ (by omega) (by omega) <;> first | assumption | omega) | exact all_setw (by assumption) (by omega) (by omega) (by omega) (by omega) (by omega)), (by first | assumption | omega), (by first | assumption | omega), (by first | assumption | omega), (by first | assumption | omega)⟩))), by omega⟩)
      · refine Go_chk (by omega) ?_
        have a2 := rget t_period' (Int.toNat i2')
        refine Go_ite (fun c3 => ?_) (fun c3 => ?_)
        · exact Go_i (show (((28 : Nat) = 0 ∧ 1 ≤ (t_periodMany') ∧ (t_periodMany') ≤ 10 ∧ (∀ k : Nat, k < 11 → 0 ≤ zget (t_period') k ∧ zget (t_period') k ≤ 20)) ∨ ((28 : Nat) = 2 ∧ 1 ≤ (t_periodMany') ∧ (t_periodMany') ≤ 10 ∧ (∀ k : Nat, k < 11 → 0 ≤ zget (t_period') k ∧ zget (t_period') k ≤ 20) ∧ 0 ≤ (i1') ∧ (i1') + (t_periodMany') ≤ 10) ∨ ((28 : Nat) = 4 ∧ 1 ≤ (t_periodMany') ∧ (t_periodMany') ≤ 10 ∧ (∀ k : Nat, k < 11 → 0 ≤ zget (t_period') k ∧ zget (t_period') k ≤ 20) ∧ 0 ≤ (i1') ∧ (i1') + (t_periodMany') ≤ 10 ∧ 0 ≤ (i2') ∧ (i2') ≤ (t_periodMany')) ∨ ((28 : Nat) = 28 ∧ 1 ≤ (t_periodMany') ∧ (t_periodMany') ≤ 10 ∧ (∀ k : Nat, k < 11 → 0 ≤ zget (t_period') k ∧ zget (t_period') k ≤ 20) ∧ 0 ≤ (i1') ∧ (i1') + (t_periodMany') ≤ 10 ∧ 0 ≤ (i2') ∧ (i2') ≤ (t_periodMany'))) ∧ (100 * (t_periodMany') + 20).toNat < (100 * t_periodMany' + 50 - i2').toNat from ⟨Or.inr (Or.inr (Or.inr (⟨rfl, (by first | assumption | omega), (by first | assumption | omega), (by first | assumption | exact all_w (by assumption) (by omega) | (refine all_setw ?_ (Int.le_refl _) ?_ ?_ (by omega) (by omega) <;> first | assumption | omega) | exact all_setw (by assumption) (by omega) (by omega) (by omega) (by omega) (by omega)), (by first | assumption | omega), (by first | assumption | omega), (by first | assumption | omega), (by first | assumption | omega)⟩))), by omega⟩)
        · exact Go_i (show (((4 : Nat) = 0 ∧ 1 ≤ (t_periodMany') ∧ (t_periodMany') ≤ 10 ∧ (∀ k : Nat, k < 11 → 0 ≤ zget (t_period') k ∧ zget (t_period') k ≤ 20)) ∨ ((4 : Nat) = 2 ∧ 1 ≤ (t_periodMany') ∧ (t_periodMany') ≤ 10 ∧ (∀ k : Nat, k < 11 → 0 ≤ zget (t_period') k ∧ zget (t_period') k ≤ 20) ∧ 0 ≤ (i1') ∧ (i1') + (t_periodMany') ≤ 10) ∨ ((4 : Nat) = 4 ∧ 1 ≤ (t_periodMany') ∧ (t_periodMany') ≤ 10 ∧ (∀ k : Nat, k < 11 → 0 ≤ zget (t_period') k ∧ zget (t_period') k ≤ 20) ∧ 0 ≤ (i1') ∧ (i1') + (t_periodMany') ≤ 10 ∧ 0 ≤ ((i2' + (1 : Int))) ∧ ((i2' + (1 : Int))) ≤ (t_periodMany')) ∨ ((4 : Nat) = 28 ∧ 1 ≤ (t_periodMany') ∧ (t_periodMany') ≤ 10 ∧ (∀ k : Nat, k < 11 → 0 ≤ zget (t_period') k ∧ zget (t_period') k ≤ 20) ∧ 0 ≤ (i1') ∧ (i1') + (t_periodMany') ≤ 10 ∧ 0 ≤ ((i2' + (1 : Int))) ∧ ((i2' + (1 : Int))) ≤ (t_periodMany'))) ∧ (100 * (t_periodMany') + 50 - ((i2' + (1 : Int)))).toNat < (100 * t_periodMany' + 50 - i2').toNat from ⟨Or.inr (Or.inr (Or.inl (⟨rfl, (by first | assumption | omega), (by first | assumption | omega), (by first | assumption | exact all_w (by assumption) (by omega) | (refine all_setw ?_ (Int.le_refl _) ?_ ?_ (by omega) (by omega) <;> first | assumption | omega) | exact all_setw (by assumption) (by omega) (by omega) (by omega) (by omega) (by omega)), (by first | assumption | omega), (by first | assumption | omega), (by first | assumption | omega), (by first | assumption | omega)⟩))), by omega⟩)
    · show Go _ (zg_X11_core_28 i1' i2' t_periodMany' t_period')
      unfold zg_X11_core_28
      refine Go_chk (by unfold zout; omega) ?_
      refine Go_chk (by unfold zout; omega) ?_
      refine Go_ite (fun c4 => ?_) (fun c4 => ?_)
      · exact Go_i (show 0 ≤ (i1') ∧ (i1') ≤ 10 ∧ 1 ≤ (t_periodMany') ∧ (t_periodMany') ≤ 10 ∧ (∀ k : Nat, k < 11 → 0 ≤ zget (t_period') k ∧ zget (t_period') k ≤ 20) from ⟨(by first | assumption | omega), (by first | assumption | omega), (by first | assumption | omega), (by first | assumption | omega), (by first | assumption | exact all_w (by assumption) (by omega) | (refine all_setw ?_ (Int.le_refl _) ?_ ?_ (by omega) (by omega) <;> first | assumption | omega) | exact all_setw (by assumption) (by omega) (by omega) (by omega) (by omega) (by omega))⟩)
      · refine Go_bindP (ok_X11_isOff t_periodMany' t_period' i2' (by first | assumption | omega) (by first | assumption | omega) (by first | assumption | exact all_w (by assumption) (by omega) | (refine all_setw ?_ (Int.le_refl _) ?_ ?_ (by omega) (by omega) <;> first | assumption | omega) | exact all_setw (by assumption) (by omega) (by omega) (by omega) (by omega) (by omega)) (by first | assumption | omega) (by first | assumption | omega)) (fun o8 q5 => ?_)
        obtain ⟨q5_0, q5_1⟩ := q5
        refine Go_ite (fun c6 => ?_) (fun c6 => ?_)
        · have dc6 := q5_1 c6
          exact Go_i (show 0 ≤ (i1') ∧ (i1') ≤ 10 ∧ 1 ≤ (t_periodMany') ∧ (t_periodMany') ≤ 10 ∧ (∀ k : Nat, k < 11 → 0 ≤ zget (t_period') k ∧ zget (t_period') k ≤ 20) from ⟨(by first | assumption | omega), (by first | assumption | omega), (by first | assumption | omega), (by first | assumption | omega), (by first | assumption | exact all_w (by assumption) (by omega) | (refine all_setw ?_ (Int.le_refl _) ?_ ?_ (by omega) (by omega) <;> first | assumption | omega) | exact all_setw (by assumption) (by omega) (by omega) (by omega) (by omega) (by omega))⟩)
        · have dc6 := q5_0 (bnf c6)
          refine Go_bindP (ok_X11_off t_periodMany' t_period' i2' (by first | assumption | omega) (by first | assumption | omega) (by first | assumption | exact all_w (by assumption) (by omega) | (refine all_setw ?_ (Int.le_refl _) ?_ ?_ (by omega) (by omega) <;> first | assumption | omega) | exact all_setw (by assumption) (by omega) (by omega) (by omega) (by omega) (by omega)) (by first | assumption | omega) (by first | assumption | omega) (by first | assumption | omega) (by first | assumption | omega)) (fun o9 q7 => ?_)
          obtain ⟨q7_0, q7_1⟩ := q7
          exact Go_i (show (((2 : Nat) = 0 ∧ 1 ≤ ((o9.1)) ∧ ((o9.1)) ≤ 10 ∧ (∀ k : Nat, k < 11 → 0 ≤ zget ((o9.2)) k ∧ zget ((o9.2)) k ≤ 20)) ∨ ((2 : Nat) = 2 ∧ 1 ≤ ((o9.1)) ∧ ((o9.1)) ≤ 10 ∧ (∀ k : Nat, k < 11 → 0 ≤ zget ((o9.2)) k ∧ zget ((o9.2)) k ≤ 20) ∧ 0 ≤ ((i1' + (1 : Int))) ∧ ((i1' + (1 : Int))) + ((o9.1)) ≤ 10) ∨ ((2 : Nat) = 4 ∧ 1 ≤ ((o9.1)) ∧ ((o9.1)) ≤ 10 ∧ (∀ k : Nat, k < 11 → 0 ≤ zget ((o9.2)) k ∧ zget ((o9.2)) k ≤ 20) ∧ 0 ≤ ((i1' + (1 : Int))) ∧ ((i1' + (1 : Int))) + ((o9.1)) ≤ 10 ∧ 0 ≤ (i2') ∧ (i2') ≤ ((o9.1))) ∨ ((2 : Nat) = 28 ∧ 1 ≤ ((o9.1)) ∧ ((o9.1)) ≤ 10 ∧ (∀ k : Nat, k < 11 → 0 ≤ zget ((o9.2)) k ∧ zget ((o9.2)) k ≤ 20) ∧ 0 ≤ ((i1' + (1 : Int))) ∧ ((i1' + (1 : Int))) + ((o9.1)) ≤ 10 ∧ 0 ≤ (i2') ∧ (i2') ≤ ((o9.1)))) ∧ (100 * ((o9.1)) + 60).toNat < (100 * t_periodMany' + 20).toNat from ⟨Or.inr (Or.inl (⟨rfl, (by first | assumption | omega), (by first | assumption | omega), (by first | assumption | exact all_w (by assumption) (by omega) | (refine all_setw ?_ (Int.le_refl _) ?_ ?_ (by omega) (by omega) <;> first | assumption | omega) | exact all_setw (by assumption) (by omega) (by omega) (by omega) (by omega) (by omega)), (by first | assumption | omega), (by first | assumption | omega)⟩)), by omega⟩)
  · exact (show ((0 : Nat) = 0 ∧ 1 ≤ t_periodMany ∧ t_periodMany ≤ 10 ∧ (∀ k : Nat, k < 11 → 0 ≤ zget t_period k ∧ zget t_period k ≤ 20)) ∨ ((0 : Nat) = 2 ∧ 1 ≤ t_periodMany ∧ t_periodMany ≤ 10 ∧ (∀ k : Nat, k < 11 → 0 ≤ zget t_period k ∧ zget t_period k ≤ 20) ∧ 0 ≤ 0 ∧ 0 + t_periodMany ≤ 10) ∨ ((0 : Nat) = 4 ∧ 1 ≤ t_periodMany ∧ t_periodMany ≤ 10 ∧ (∀ k : Nat, k < 11 → 0 ≤ zget t_period k ∧ zget t_period k ≤ 20) ∧ 0 ≤ 0 ∧ 0 + t_periodMany ≤ 10 ∧ 0 ≤ 0 ∧ 0 ≤ t_periodMany) ∨ ((0 : Nat) = 28 ∧ 1 ≤ t_periodMany ∧ t_periodMany ≤ 10 ∧ (∀ k : Nat, k < 11 → 0 ≤ zget t_period k ∧ zget t_period k ≤ 20) ∧ 0 ≤ 0 ∧ 0 + t_periodMany ≤ 10 ∧ 0 ≤ 0 ∧ 0 ≤ t_periodMany) from Or.inl (⟨rfl, (by first | assumption | omega), (by first | assumption | omega), (by first | assumption | exact all_w (by assumption) (by omega) | (refine all_setw ?_ (Int.le_refl _) ?_ ?_ (by omega) (by omega) <;> first | assumption | omega) | exact all_setw (by assumption) (by omega) (by omega) (by omega) (by omega) (by omega))⟩))
  · show 5000 < jfuel
    unfold jfuel
    omega
end

section
/-! bits -/
theorem zuL_n {T : Nat} (h : T < 134217728) : zuL (T : Int) = T := by unfold zuL; omega
theorem zu_n {T : Nat} (h : T < 134217728) : zu (T : Int) = T := by unfold zu; omega
theorem zsL_n {T : Nat} (h : T < 134217728) : zsL T = (T : Int) := by unfold zsL; rw [if_pos (by omega)]
theorem zs_n {T : Nat} (h : T < 134217728) : zs T = (T : Int) := by unfold zs; rw [if_pos (by omega)]
theorem tb_mod (T l : Nat) : T / 2 ^ l % 2 = (if T.testBit l = true then 1 else 0) := by
  rw [Nat.testBit_eq_decide_div_mod_eq]
  by_cases h : T / 2 ^ l % 2 = 1
  · rw [decide_eq_true h, if_pos rfl, h]
  · rw [decide_eq_false h, if_neg (by decide)]
    omega
theorem bitL {T l : Nat} (h : T < 134217728) (hl : l < 27) : zandL (zshrL (T : Int) (l : Int)) 1 = (if T.testBit l = true then 1 else 0) := by
  have e1 : zshrL (T : Int) (l : Int) = ((T / 2 ^ l : Nat) : Int) := by
    unfold zshrL
    rw [zwL_id (by unfold zoutL; omega), show zu (l : Int) % 64 = l by unfold zu; omega]
    exact (Int.natCast_ediv T (2 ^ l)).symm
  have h2 : T / 2 ^ l < 134217728 := Nat.lt_of_le_of_lt (Nat.div_le_self _ _) h
  have h3 : T / 2 ^ l % 2 < 2 := Nat.mod_lt _ (by decide)
  rw [e1]
  unfold zandL
  rw [zuL_n h2, show zuL 1 = 1 by decide, Nat.and_one_is_mod, zsL_n (by omega), tb_mod]
  split <;> rfl
theorem bitI {T l : Nat} (h : T < 134217728) (hl : l < 27) : zand (zshr (T : Int) (l : Int)) 1 = (if T.testBit l = true then 1 else 0) := by
  have e1 : zshr (T : Int) (l : Int) = ((T / 2 ^ l : Nat) : Int) := by
    unfold zshr
    rw [zw_id (by unfold zout; omega), show zu (l : Int) % 32 = l by unfold zu; omega]
    exact (Int.natCast_ediv T (2 ^ l)).symm
  have h2 : T / 2 ^ l < 134217728 := Nat.lt_of_le_of_lt (Nat.div_le_self _ _) h
  have h3 : T / 2 ^ l % 2 < 2 := Nat.mod_lt _ (by decide)
  rw [e1]
  unfold zand
  rw [zu_n h2, show zu 1 = 1 by decide, Nat.and_one_is_mod, zs_n (by omega), tb_mod]
  split <;> rfl
theorem p27 {l : Nat} (hl : l < 27) : 2 ^ l < 134217728 := by
  have : 2 ^ l ≤ 2 ^ 26 := Nat.pow_le_pow_right (by decide) (by omega)
  omega
theorem or27 {T l : Nat} (h : T < 134217728) (hl : l < 27) : T ||| 2 ^ l < 134217728 := Nat.or_lt_two_pow (n := 27) h (p27 hl)
theorem orL {T l : Nat} (h : T < 134217728) (hl : l < 27) : zorL (T : Int) (zshlL 1 (l : Int)) = ((T ||| 2 ^ l : Nat) : Int) := by
  have e1 : zshlL 1 (l : Int) = ((2 ^ l : Nat) : Int) := by
    have := p27 hl
    unfold zshlL
    rw [show zu (l : Int) % 64 = l by unfold zu; omega, show zuL 1 = 1 by decide, Nat.one_mul, Nat.mod_eq_of_lt (by omega), zsL_n this]
  rw [e1]
  unfold zorL
  rw [zuL_n h, zuL_n (p27 hl), zsL_n (or27 h hl)]
theorem orI {T l : Nat} (h : T < 134217728) (hl : l < 27) : zor (T : Int) (zshl 1 (l : Int)) = ((T ||| 2 ^ l : Nat) : Int) := by
  have e1 : zshl 1 (l : Int) = ((2 ^ l : Nat) : Int) := by
    have := p27 hl
    unfold zshl
    rw [show zu (l : Int) % 32 = l by unfold zu; omega, show zu 1 = 1 by decide, Nat.one_mul, Nat.mod_eq_of_lt (by omega), zs_n this]
  rw [e1]
  unfold zor
  rw [zu_n h, zu_n (p27 hl), zs_n (or27 h hl)]
noncomputable def lnN (m : Nat) : Nat := (pg7 m).toNat
noncomputable def crM (m a : Nat) : Nat := (zget (pg4 m) a).toNat
end

section
def LI (m : Nat) (lm : Int) (li : Nat) : Prop := lm = pg8 m ∧ ∀ k : Nat, (k : Int) < pg8 m → zgetL li k = zget (pg6 m) k
end

section
/-! the reference's tables of lines -/
def LN (m nf : Nat) (i j : Int) : Prop := ∀ a b : Nat, a < b → b < m → ((a : Int) < i ∨ ((a : Int) = i ∧ (b : Int) < j)) → zget nf (10 * a + b) = zget (pg3 m) (9 * a + b) ∧ zget nf (10 * b + a) = zget (pg3 m) (9 * b + a)
def LL (m ls gr : Nat) (c : Int) : Prop := ∀ l : Nat, (l : Int) < c → zget ls l = zget (pg1 m) l ∧ zget gr l = zget (pg2 m) l
def LT (m : Nat) (ln : Int) (nf ls gr : Nat) : Prop := ln = pg7 m ∧ LN m nf m 0 ∧ LL m ls gr (pg7 m)
noncomputable def rcF (m i j : Nat) : Nat := Nat.rec 0 (fun l ih => match decide ((l : Int) < pg7 m ∧ (zget (pg1 m) l < (i : Int) ∨ (zget (pg1 m) l = (i : Int) ∧ zget (pg2 m) l < (j : Int)))) with
  | true => ih + 1
  | false => ih) 27
noncomputable def lineC (m i j : Nat) : Prop := zget (pg3 m) (9 * i + j) = zget (pg3 m) (9 * j + i) ∧ zf_X11_isLine (m : Int) (i : Int) (j : Int) = some (decide (0 ≤ zget (pg3 m) (9 * i + j))) ∧ (0 ≤ zget (pg3 m) (9 * i + j) → zget (pg3 m) (9 * i + j) = (rcF m i j : Int) ∧ rcF m i (j + 1) = rcF m i j + 1 ∧ zget (pg1 m) (rcF m i j) = (i : Int) ∧ zget (pg2 m) (rcF m i j) = (j : Int) ∧ rcF m i j < 27) ∧ (zget (pg3 m) (9 * i + j) < 0 → zget (pg3 m) (9 * i + j) = -1 ∧ rcF m i (j + 1) = rcF m i j)
noncomputable def lineK (m i j : Nat) : Bool := match decide (i < j ∧ j < m) with
  | false => true
  | true => decide (zget (pg3 m) (9 * i + j) = zget (pg3 m) (9 * j + i) ∧ zf_X11_isLine (m : Int) (i : Int) (j : Int) = some (decide (0 ≤ zget (pg3 m) (9 * i + j))) ∧ (0 ≤ zget (pg3 m) (9 * i + j) → zget (pg3 m) (9 * i + j) = (rcF m i j : Int) ∧ rcF m i (j + 1) = rcF m i j + 1 ∧ zget (pg1 m) (rcF m i j) = (i : Int) ∧ zget (pg2 m) (rcF m i j) = (j : Int) ∧ rcF m i j < 27) ∧ (zget (pg3 m) (9 * i + j) < 0 → zget (pg3 m) (9 * i + j) = -1 ∧ rcF m i (j + 1) = rcF m i j))
theorem line_tab : ∀ m : Nat, 4 ≤ m → m ≤ 9 → allF (fun i => allF (fun j => lineK m i j) 0 9) 0 9 = true := pg_cases (by decide +kernel) (by decide +kernel) (by decide +kernel) (by decide +kernel) (by decide +kernel) (by decide +kernel)
theorem line_c {m i j : Nat} (h4 : 4 ≤ m) (h9 : m ≤ 9) (hij : i < j) (hj : j < m) : lineC m i j := by
  have t := allF_at (allF_at (line_tab m h4 h9) (m := i) (by omega)) (m := j) (by omega)
  have t : lineK m i j = true := t
  unfold lineK at t
  rw [decide_eq_true (show i < j ∧ j < m from ⟨hij, hj⟩)] at t
  unfold lineC
  exact of_decide_eq_true t
theorem rc_tab : ∀ m : Nat, 4 ≤ m → m ≤ 9 → (allF (fun i => decide (i < m → rcF m i m = rcF m (i + 1) (i + 2))) 0 9 = true ∧ rcF m 0 1 = 0 ∧ (rcF m m (m + 1) : Int) = pg7 m) := pg_cases (by decide +kernel) (by decide +kernel) (by decide +kernel) (by decide +kernel) (by decide +kernel) (by decide +kernel)
theorem rc_row {m i : Nat} (h4 : 4 ≤ m) (h9 : m ≤ 9) (hi : i < m) : rcF m i m = rcF m (i + 1) (i + 2) := of_decide_eq_true (allF_at (rc_tab m h4 h9).1 (m := i) (by omega)) hi
theorem LN_w {m nf nf' : Nat} {i j : Int} (h9 : m ≤ 9) (h : LN m nf i j) (h0 : 0 ≤ i) (hij : i < j) (hj : j < (m : Int)) (hp : zget nf' (Int.toNat (10 * i + j)) = zget (pg3 m) (9 * i.toNat + j.toNat)) (hq : zget nf' (Int.toNat (10 * j + i)) = zget (pg3 m) (9 * j.toNat + i.toNat)) (ho : ∀ k, ¬ k = Int.toNat (10 * i + j) → ¬ k = Int.toNat (10 * j + i) → zget nf' k = zget nf k) : LN m nf' i (j + 1) := by
  intro a b hab hb hl
  by_cases e : (a : Int) = i ∧ (b : Int) = j
  · have ea : a = i.toNat := by omega
    have eb : b = j.toNat := by omega
    have e1 : 10 * a + b = Int.toNat (10 * i + j) := by omega
    have e2 : 10 * b + a = Int.toNat (10 * j + i) := by omega
    rw [e1, e2, hp, hq, ea, eb]
    exact ⟨rfl, rfl⟩
  · rw [ho (10 * a + b) (by omega) (by omega), ho (10 * b + a) (by omega) (by omega)]
    exact h a b hab hb (by omega)
theorem LN_row {m nf : Nat} {i j : Int} (h : LN m nf i j) (hj : (m : Int) ≤ j) : LN m nf (i + 1) 0 := by
  intro a b hab hb hl
  exact h a b hab hb (by omega)
theorem LL_w {m ls gr : Nat} {c v w : Int} (h : LL m ls gr c) (h0 : 0 ≤ c) (hc : c < 27) (hv : v = zget (pg1 m) c.toNat) (hw : w = zget (pg2 m) c.toNat) (zv : ¬ zout v) (zw' : ¬ zout w) : LL m (zset ls (Int.toNat c) v) (zset gr (Int.toNat c) w) (c + 1) := by
  intro l hl
  rw [zget_set, zget_set]
  by_cases e : l = Int.toNat c
  · rw [if_pos e, if_pos e, zw_id zv, zw_id zw', hv, hw, e]
    exact ⟨rfl, rfl⟩
  · rw [if_neg e, if_neg e]
    exact h l (by omega)
set_option maxRecDepth 20000 in
theorem ok_linesOf (m : Nat) (h4 : 4 ≤ m) (h9 : m ≤ 9) (ln lf : Int) (nf ls gr : Nat) (hf1 : -2147483648 ≤ lf) (hf2 : lf ≤ 2147483647) (h : lf = (m : Int) → LT m ln nf ls gr) : Go (fun o => o.2.1 = (m : Int) ∧ LT m o.1 o.2.2.1 o.2.2.2.1 o.2.2.2.2) (zf_X11_linesOf ln lf nf ls gr (m : Int)) := by
  have g7 := rpg7 h4 h9
  obtain ⟨-, r0, rE⟩ := rc_tab m h4 h9
  unfold zf_X11_linesOf
  refine jok (fun (s : zS_X11_linesOf) => match s with | (lab, i1', i2', i3', ln', lf', nf', ls', gr') => (lab = 0 ∧ i1' = (m : Int) ∧ ln' = ln ∧ lf' = lf ∧ nf' = nf ∧ ls' = ls ∧ gr' = gr) ∨ (lab = 21 ∧ i1' = (m : Int) ∧ lf' = (m : Int) ∧ 0 ≤ i2' ∧ i2' ≤ (m : Int) ∧ ln' = (rcF m i2'.toNat (i2'.toNat + 1) : Int) ∧ LN m nf' i2' 0 ∧ LL m ls' gr' ln') ∨ (lab = 30 ∧ i1' = (m : Int) ∧ lf' = (m : Int) ∧ 0 ≤ i2' ∧ i2' < i3' ∧ i3' ≤ (m : Int) ∧ ln' = (rcF m i2'.toNat i3'.toNat : Int) ∧ LN m nf' i2' i3' ∧ LL m ls' gr' ln')) (fun (s : zS_X11_linesOf) => match s with | (lab, i1', i2', i3', ln', lf', nf', ls', gr') => if lab = 0 then 5000 else if lab = 21 then (100 * (20 - i2') + 50).toNat else if lab = 30 then (100 * (20 - i2') + 20 - i3').toNat else 0) (fun (o : zO_X11_linesOf) => o.2.1 = (m : Int) ∧ LT m o.1 o.2.2.1 o.2.2.2.1 o.2.2.2.2) ?_ _ ?_ ?_
  · intro s hI
    obtain ⟨lab, i1', i2', i3', ln', lf', nf', ls', gr'⟩ := s
    have hI : (lab = 0 ∧ i1' = (m : Int) ∧ ln' = ln ∧ lf' = lf ∧ nf' = nf ∧ ls' = ls ∧ gr' = gr) ∨ (lab = 21 ∧ i1' = (m : Int) ∧ lf' = (m : Int) ∧ 0 ≤ i2' ∧ i2' ≤ (m : Int) ∧ ln' = (rcF m i2'.toNat (i2'.toNat + 1) : Int) ∧ LN m nf' i2' 0 ∧ LL m ls' gr' ln') ∨ (lab = 30 ∧ i1' = (m : Int) ∧ lf' = (m : Int) ∧ 0 ≤ i2' ∧ i2' < i3' ∧ i3' ≤ (m : Int) ∧ ln' = (rcF m i2'.toNat i3'.toNat : Int) ∧ LN m nf' i2' i3' ∧ LL m ls' gr' ln') := hI
    rcases hI with ⟨rfl, rfl, rfl, rfl, rfl, rfl, rfl⟩ | ⟨rfl, rfl, rfl, v3, v4, v5, v6, v7⟩ | ⟨rfl, rfl, rfl, v3, v4, v5, v6, v7, v8⟩
    · show Go _ (zg_X11_linesOf_0 (m : Int) i2' i3' ln' lf' nf' ls' gr')
      unfold zg_X11_linesOf_0
      refine Go_chk (by unfold zout; omega) ?_
      refine Go_chk (by unfold zout; omega) ?_
      refine Go_ite (fun c => ?_) (fun c => ?_)
      · exact Go_i (show lf' = (m : Int) ∧ LT m ln' nf' ls' gr' from ⟨c, h c⟩)
      · refine Go_i (show ((((21 : Nat) = 0 ∧ _) ∨ ((21 : Nat) = 21 ∧ (m : Int) = (m : Int) ∧ (m : Int) = (m : Int) ∧ (0 : Int) ≤ 0 ∧ (0 : Int) ≤ (m : Int) ∧ (0 : Int) = (rcF m (0 : Int).toNat ((0 : Int).toNat + 1) : Int) ∧ LN m nf' 0 0 ∧ LL m ls' gr' 0) ∨ _) ∧ (100 * (20 - (0 : Int)) + 50).toNat < 5000) from ⟨Or.inr (Or.inl ⟨rfl, rfl, rfl, by omega, by omega, ?_, ?_, ?_⟩), by omega⟩)
        · show (0 : Int) = (rcF m 0 1 : Int)
          rw [r0]; rfl
        · intro a b _ _ hl; omega
        · intro l hl; omega
    · show Go _ (zg_X11_linesOf_21 (m : Int) i2' i3' ln' (m : Int) nf' ls' gr')
      unfold zg_X11_linesOf_21
      refine Go_chk (by unfold zout; omega) ?_
      refine Go_chk (by unfold zout; omega) ?_
      refine Go_ite (fun c => ?_) (fun c => ?_)
      · have e : i2' = (m : Int) := by omega
        subst e
        have e2 : ln' = pg7 m := by rw [v5]; exact rE
        subst e2
        exact Go_i (show (m : Int) = (m : Int) ∧ LT m (pg7 m) nf' ls' gr' from ⟨rfl, rfl, v6, v7⟩)
      · refine Go_i (show (_ ∨ _ ∨ ((30 : Nat) = 30 ∧ (m : Int) = (m : Int) ∧ (m : Int) = (m : Int) ∧ 0 ≤ i2' ∧ i2' < i2' + 1 ∧ i2' + 1 ≤ (m : Int) ∧ ln' = (rcF m i2'.toNat (i2' + 1).toNat : Int) ∧ LN m nf' i2' (i2' + 1) ∧ LL m ls' gr' ln')) ∧ (100 * (20 - i2') + 20 - (i2' + 1)).toNat < (100 * (20 - i2') + 50).toNat from ⟨Or.inr (Or.inr ⟨rfl, rfl, rfl, v3, by omega, by omega, ?_, ?_, v7⟩), by omega⟩)
        · rw [v5, show (i2' + 1).toNat = i2'.toNat + 1 by omega]
        · intro a b hab hb hl
          exact v6 a b hab hb (by omega)
    · show Go _ (zg_X11_linesOf_30 (m : Int) i2' i3' ln' (m : Int) nf' ls' gr')
      unfold zg_X11_linesOf_30
      refine Go_chk (by unfold zout; omega) ?_
      refine Go_chk (by unfold zout; omega) ?_
      refine Go_ite (fun c => ?_) (fun c => ?_)
      · refine Go_i (show (_ ∨ ((21 : Nat) = 21 ∧ (m : Int) = (m : Int) ∧ (m : Int) = (m : Int) ∧ 0 ≤ i2' + 1 ∧ i2' + 1 ≤ (m : Int) ∧ ln' = (rcF m (i2' + 1).toNat ((i2' + 1).toNat + 1) : Int) ∧ LN m nf' (i2' + 1) 0 ∧ LL m ls' gr' ln') ∨ _) ∧ (100 * (20 - (i2' + 1)) + 50).toNat < (100 * (20 - i2') + 20 - i3').toNat from ⟨Or.inr (Or.inl ⟨rfl, rfl, rfl, by omega, by omega, ?_, LN_row v7 c, v8⟩), by omega⟩)
        rw [v6, show i3'.toNat = m by omega, rc_row h4 h9 (by omega), show (i2' + 1).toNat = i2'.toNat + 1 by omega]
      · refine Go_chk (by omega) ?_
        refine Go_chk (by omega) ?_
        have hij : i2'.toNat < i3'.toNat := by omega
        obtain ⟨k1, k2, k3, k4⟩ := line_c h4 h9 hij (show i3'.toNat < m by omega)
        have e2 : ((i2'.toNat : Nat) : Int) = i2' := by omega
        have e3 : ((i3'.toNat : Nat) : Int) = i3' := by omega
        rw [e2, e3] at k2
        refine Go_bind k2 ?_
        refine Go_ite (fun q => ?_) (fun q => ?_)
        · have q : zget (pg3 m) (9 * i2'.toNat + i3'.toNat) < 0 := by
            have := of_decide_eq_false q
            omega
          obtain ⟨n1, n2⟩ := k4 q
          refine Go_i (show (_ ∨ _ ∨ ((30 : Nat) = 30 ∧ (m : Int) = (m : Int) ∧ (m : Int) = (m : Int) ∧ 0 ≤ i2' ∧ i2' < i3' + 1 ∧ i3' + 1 ≤ (m : Int) ∧ ln' = (rcF m i2'.toNat (i3' + 1).toNat : Int) ∧ LN m (zset (zset nf' (Int.toNat (((10 : Int) * i2') + i3')) (-1 : Int)) (Int.toNat (((10 : Int) * i3') + i2')) (-1 : Int)) i2' (i3' + 1) ∧ LL m ls' gr' ln')) ∧ (100 * (20 - i2') + 20 - (i3' + 1)).toNat < (100 * (20 - i2') + 20 - i3').toNat from ⟨Or.inr (Or.inr ⟨rfl, rfl, rfl, v3, by omega, by omega, ?_, ?_, v8⟩), by omega⟩)
          · rw [v6, show (i3' + 1).toNat = i3'.toNat + 1 by omega, n2]
          · refine LN_w h9 v7 v3 v4 (by omega) ?_ ?_ ?_
            · rw [zget_set, if_neg (by omega), zget_set, if_pos rfl, n1]; decide
            · rw [zget_set, if_pos rfl, ← k1, n1]; decide
            · intro k c1 c2
              rw [zget_set, if_neg c2, zget_set, if_neg c1]
        · have q : 0 ≤ zget (pg3 m) (9 * i2'.toNat + i3'.toNat) := of_decide_eq_true (bnf q)
          obtain ⟨n1, n2, n3, n4, n5⟩ := k3 q
          have hl : ln' = ((rcF m i2'.toNat i3'.toNat : Nat) : Int) := v6
          have hz : ¬ zout ln' := by unfold zout; omega
          refine Go_chk (by omega) ?_
          refine Go_i (show (_ ∨ _ ∨ ((30 : Nat) = 30 ∧ (m : Int) = (m : Int) ∧ (m : Int) = (m : Int) ∧ 0 ≤ i2' ∧ i2' < i3' + 1 ∧ i3' + 1 ≤ (m : Int) ∧ ln' + 1 = (rcF m i2'.toNat (i3' + 1).toNat : Int) ∧ LN m (zset (zset (zset (zset nf' (Int.toNat (((10 : Int) * i2') + i3')) (-1 : Int)) (Int.toNat (((10 : Int) * i3') + i2')) (-1 : Int)) (Int.toNat (((10 : Int) * i2') + i3')) ln') (Int.toNat (((10 : Int) * i3') + i2')) ln') i2' (i3' + 1) ∧ LL m (zset ls' (Int.toNat ln') i2') (zset gr' (Int.toNat ln') i3') (ln' + 1))) ∧ (100 * (20 - i2') + 20 - (i3' + 1)).toNat < (100 * (20 - i2') + 20 - i3').toNat from ⟨Or.inr (Or.inr ⟨rfl, rfl, rfl, v3, by omega, by omega, ?_, ?_, ?_⟩), by omega⟩)
          · rw [hl, show (i3' + 1).toNat = i3'.toNat + 1 by omega, n2]; rfl
          · refine LN_w h9 v7 v3 v4 (by omega) ?_ ?_ ?_
            · rw [zget_set, if_neg (by omega), zget_set, if_pos rfl, zw_id hz, n1, hl]
            · rw [zget_set, if_pos rfl, zw_id hz, ← k1, n1, hl]
            · intro k c1 c2
              rw [zget_set, if_neg c2, zget_set, if_neg c1, zget_set, if_neg c2, zget_set, if_neg c1]
          · refine LL_w v8 (by omega) (by omega) ?_ ?_ (by unfold zout; omega) (by unfold zout; omega)
            · rw [show ln'.toNat = rcF m i2'.toNat i3'.toNat by omega, n3]; omega
            · rw [show ln'.toNat = rcF m i2'.toNat i3'.toNat by omega, n4]; omega
  · exact Or.inl ⟨rfl, rfl, rfl, rfl, rfl, rfl, rfl⟩
  · show 5000 < jfuel
    unfold jfuel
    omega
end

section
/-! the reference's 'near', and the triangles of a cut -/
def nearB (m : Nat) (c : Int) (i j : Nat) : Bool := decide (¬ i = j ∧ (zget (pg3 m) (9 * i + j) < 0 ∨ zandL (zshrL c (zget (pg3 m) (9 * i + j))) 1 = 1))
noncomputable def nextK (m i j : Nat) : Bool := match decide (i < m ∧ j < m ∧ ¬ i = j) with
  | false => true
  | true => decide (zf_X11_isNext (m : Int) (i : Int) (j : Int) = some (decide (zget (pg3 m) (9 * i + j) < 0)))
theorem next_tab : ∀ m : Nat, 4 ≤ m → m ≤ 9 → allF (fun i => allF (fun j => nextK m i j) 0 9) 0 9 = true := pg_cases (by decide +kernel) (by decide +kernel) (by decide +kernel) (by decide +kernel) (by decide +kernel) (by decide +kernel)
theorem next_c {m i j : Nat} (h4 : 4 ≤ m) (h9 : m ≤ 9) (hi : i < m) (hj : j < m) (hij : ¬ i = j) : zf_X11_isNext (m : Int) (i : Int) (j : Int) = some (decide (zget (pg3 m) (9 * i + j) < 0)) := by
  have t := allF_at (allF_at (next_tab m h4 h9) (m := i) (by omega)) (m := j) (by omega)
  have t : nextK m i j = true := t
  unfold nextK at t
  rw [decide_eq_true (show i < m ∧ j < m ∧ ¬ i = j from ⟨hi, hj, hij⟩)] at t
  exact of_decide_eq_true t
theorem LN_get {m nf : Nat} (h : LN m nf m 0) {i j : Nat} (hi : i < m) (hj : j < m) (hij : ¬ i = j) : zget nf (10 * i + j) = zget (pg3 m) (9 * i + j) := by
  by_cases q : i < j
  · exact (h i j q hj (Or.inl (by omega))).1
  · exact (h j i (by omega) hi (Or.inl (by omega))).2
theorem near_eq {m nf : Nat} (h4 : 4 ≤ m) (h9 : m ≤ 9) (h : LN m nf m 0) (c : Int) {i j : Int} (hi0 : 0 ≤ i) (hi : i < (m : Int)) (hj0 : 0 ≤ j) (hj : j < (m : Int)) : zf_X11_near nf (m : Int) c i j = some (nearB m c i.toNat j.toNat) := by
  unfold zf_X11_near nearB
  rw [if_neg (by unfold zout; omega), if_neg (by unfold zout; omega)]
  by_cases e : i = j
  · rw [if_pos e, decide_eq_false (by omega)]
  · have e' : ¬ i.toNat = j.toNat := by omega
    have n := next_c h4 h9 (show i.toNat < m by omega) (show j.toNat < m by omega) e'
    rw [show ((i.toNat : Nat) : Int) = i by omega, show ((j.toNat : Nat) : Int) = j by omega] at n
    have g := LN_get h (show i.toNat < m by omega) (show j.toNat < m by omega) e'
    rw [if_neg e, n]
    simp only [Option.bind_some]
    by_cases q : zget (pg3 m) (9 * i.toNat + j.toNat) < 0
    · rw [decide_eq_true q, if_neg (by decide), decide_eq_true ⟨e', Or.inl q⟩]
    · rw [decide_eq_false q, if_pos rfl, if_neg (by omega), show Int.toNat ((10 : Int) * i + j) = 10 * i.toNat + j.toNat by omega, g]
      by_cases r : zandL (zshrL c (zget (pg3 m) (9 * i.toNat + j.toNat))) 1 = 1
      · rw [if_pos r, decide_eq_true ⟨e', Or.inr r⟩]
      · rw [if_neg r, decide_eq_false (fun z => by rcases z.2 with y | y; exact q y; exact r y)]
def goodQ (m : Nat) (c : Int) (q : Nat) : Bool := decide (q / 81 < q / 9 % 9 ∧ q / 9 % 9 < q % 9 ∧ q % 9 < m) && (nearB m c (q / 81) (q / 9 % 9) && (nearB m c (q / 9 % 9) (q % 9) && nearB m c (q / 81) (q % 9)))
noncomputable def tcn (m : Nat) (c : Int) (p : Nat) : Nat := Nat.rec 0 (fun q ih => match goodQ m c q with
  | true => ih + 1
  | false => ih) p
theorem tcn_t {m : Nat} {c : Int} {p : Nat} (h : goodQ m c p = true) : tcn m c (p + 1) = tcn m c p + 1 := by
  show (match goodQ m c p with
    | true => tcn m c p + 1
    | false => tcn m c p) = _
  rw [h]
theorem tcn_f {m : Nat} {c : Int} {p : Nat} (h : goodQ m c p = false) : tcn m c (p + 1) = tcn m c p := by
  show (match goodQ m c p with
    | true => tcn m c p + 1
    | false => tcn m c p) = _
  rw [h]
theorem tcn_le {m : Nat} {c : Int} {p : Nat} (d : Nat) : tcn m c p ≤ tcn m c (p + d) := by
  induction d with
  | zero => exact Nat.le_refl _
  | succ d ih =>
    have e : p + (d + 1) = (p + d) + 1 := by omega
    rw [e]
    cases hg : goodQ m c (p + d) with
    | true => rw [tcn_t hg]; omega
    | false => rw [tcn_f hg]; exact ih
theorem tcn_skip {m : Nat} {c : Int} {p : Nat} (d : Nat) (h : ∀ q, p ≤ q → q < p + d → goodQ m c q = false) : tcn m c (p + d) = tcn m c p := by
  induction d with
  | zero => rfl
  | succ d ih =>
    have e : p + (d + 1) = (p + d) + 1 := by omega
    rw [e, tcn_f (h (p + d) (by omega) (by omega))]
    exact ih (fun q h1 h2 => h q h1 (by omega))
theorem goodQ_no {m : Nat} {c : Int} {q : Nat} (h : ¬ (q / 81 < q / 9 % 9 ∧ q / 9 % 9 < q % 9 ∧ q % 9 < m)) : goodQ m c q = false := by
  unfold goodQ
  rw [decide_eq_false h]
  rfl
def TAI (m : Nat) (c : Int) (tA tB tC p : Nat) : Prop := ∀ q, q < p → goodQ m c q = true → zget tA (tcn m c q) = ((q / 81 : Nat) : Int) ∧ zget tB (tcn m c q) = ((q / 9 % 9 : Nat) : Int) ∧ zget tC (tcn m c q) = ((q % 9 : Nat) : Int)
theorem TAI_skip {m : Nat} {c : Int} {tA tB tC p : Nat} (h : TAI m c tA tB tC p) (d : Nat) (hn : ∀ q, p ≤ q → q < p + d → goodQ m c q = false) : TAI m c tA tB tC (p + d) := by
  intro q hq hg
  by_cases e : q < p
  · exact h q e hg
  · rw [hn q (by omega) hq] at hg; cases hg
theorem TAI_add {m : Nat} {c : Int} {tA tB tC p : Nat} (h : TAI m c tA tB tC p) (hg : goodQ m c p = true) {i j k : Int} (hi : i = ((p / 81 : Nat) : Int)) (hj : j = ((p / 9 % 9 : Nat) : Int)) (hk : k = ((p % 9 : Nat) : Int)) (hp : p < 729) {t : Nat} (ht : t = tcn m c p) : TAI m c (zset tA t i) (zset tB t j) (zset tC t k) (p + 1) := by
  intro q hq hgq
  rw [zget_set, zget_set, zget_set]
  by_cases e : q = p
  · subst e
    rw [if_pos ht.symm, if_pos ht.symm, if_pos ht.symm, zw_id (by unfold zout; omega), zw_id (by unfold zout; omega), zw_id (by unfold zout; omega)]
    exact ⟨hi, hj, hk⟩
  · have l1 := tcn_t hgq
    have l2 := tcn_le (m := m) (c := c) (p := q + 1) (p - (q + 1))
    rw [show q + 1 + (p - (q + 1)) = p by omega] at l2
    have ne : ¬ tcn m c q = t := by omega
    rw [if_neg ne, if_neg ne, if_neg ne]
    exact h q (by omega) hgq
end

section
/-! triples of corners, the rising ones alone, and the lines that each wants -/
noncomputable def frN {α : Type} (n : Nat) (f : Nat → α) : α := Nat.rec (motive := fun _ => α) (f 0) (fun n _ => f (n + 1)) n
theorem frN_e {α : Type} (n : Nat) (f : Nat → α) : frN n f = f n := by cases n <;> rfl
noncomputable def bt (m i j : Nat) : Nat := match decide (zget (pg3 m) (9 * i + j) < 0) with
  | true => 0
  | false => 2 ^ (zget (pg3 m) (9 * i + j)).toNat
noncomputable def mq (m q : Nat) : Nat := match decide (q % 9 < m) with
  | true => bt m (q / 81) (q / 9 % 9) ||| (bt m (q / 9 % 9) (q % 9) ||| bt m (q / 81) (q % 9))
  | false => 134217728
def sbs (T M : Nat) : Prop := ∀ b, M.testBit b = true → T.testBit b = true
theorem sbs_and {T M : Nat} : T &&& M = M ↔ sbs T M := by
  constructor
  · intro h b hb
    have t : (T &&& M).testBit b = true := by rw [h]; exact hb
    rw [Nat.testBit_and, Bool.and_eq_true] at t
    exact t.1
  · intro h
    apply Nat.eq_of_testBit_eq
    intro b
    rw [Nat.testBit_and]
    cases e : M.testBit b with
    | true => rw [h b e]; rfl
    | false => rw [Bool.and_false]
theorem sbs_or {T a b : Nat} : sbs T (a ||| b) ↔ sbs T a ∧ sbs T b := by
  constructor
  · intro h
    exact ⟨fun x hx => h x (by rw [Nat.testBit_or, hx, Bool.true_or]), fun x hx => h x (by rw [Nat.testBit_or, hx, Bool.or_true])⟩
  · intro h x hx
    rw [Nat.testBit_or, Bool.or_eq_true] at hx
    rcases hx with hx | hx
    · exact h.1 x hx
    · exact h.2 x hx
theorem sbs_0 (T : Nat) : sbs T 0 := fun b hb => by rw [Nat.zero_testBit] at hb; cases hb
theorem sbs_p {T v : Nat} : sbs T (2 ^ v) ↔ T.testBit v = true := by
  constructor
  · intro h
    exact h v (by rw [Nat.testBit_two_pow]; exact decide_eq_true rfl)
  · intro h b hb
    rw [Nat.testBit_two_pow] at hb
    rw [← of_decide_eq_true hb]
    exact h
theorem beq_sbs {T M : Nat} : Nat.beq (T &&& M) M = true ↔ sbs T M := by
  constructor
  · intro h; exact sbs_and.mp (Nat.eq_of_beq_eq_true h)
  · intro h; rw [sbs_and.mpr h]; exact Nat.beq_refl M
theorem near_b {m T i j : Nat} (h4 : 4 ≤ m) (h9 : m ≤ 9) (hT : T < 134217728) (hi : i < 9) (hj : j < 9) (hij : ¬ i = j) : nearB m (T : Int) i j = Nat.beq (T &&& bt m i j) (bt m i j) := by
  rw [Bool.eq_iff_iff, beq_sbs]
  have r3 := rpg3 h4 h9 (9 * i + j) (by omega)
  unfold nearB bt
  by_cases q : zget (pg3 m) (9 * i + j) < 0
  · rw [decide_eq_true q]
    constructor
    · intro _; exact sbs_0 T
    · intro _; exact decide_eq_true ⟨hij, Or.inl q⟩
  · rw [decide_eq_false q]
    obtain ⟨v, hv⟩ : ∃ v : Nat, zget (pg3 m) (9 * i + j) = (v : Int) := ⟨(zget (pg3 m) (9 * i + j)).toNat, by omega⟩
    have b := bitL hT (show v < 27 by omega)
    rw [hv, Int.toNat_natCast, b]
    show _ ↔ sbs T (2 ^ v)
    rw [sbs_p]
    constructor
    · intro h
      have h := (of_decide_eq_true h).2
      cases e : T.testBit v with
      | true => rfl
      | false =>
        rw [e, if_neg (by decide)] at h
        rcases h with h | h
        · omega
        · exact absurd h (by decide)
    · intro h
      rw [h, if_pos rfl]
      exact decide_eq_true ⟨hij, Or.inr rfl⟩
noncomputable def shp (q : Nat) : Bool := decide (q / 81 < q / 9 % 9 ∧ q / 9 % 9 < q % 9)
noncomputable def shL (p : Nat) : List Nat := Nat.rec (motive := fun _ => List Nat) [] (fun q ih => match shp q with
  | true => ih ++ [q]
  | false => ih) p
theorem shL_t {p : Nat} (e : shp p = true) : shL (p + 1) = shL p ++ [p] := by
  show (match shp p with
    | true => shL p ++ [p]
    | false => shL p) = _
  rw [e]
theorem shL_f {p : Nat} (e : shp p = false) : shL (p + 1) = shL p := by
  show (match shp p with
    | true => shL p ++ [p]
    | false => shL p) = _
  rw [e]
theorem shL_m : ∀ (p q : Nat), q ∈ shL p → shp q = true ∧ q < p := by
  intro p
  induction p with
  | zero => intro q h; cases h
  | succ p ih =>
    intro q h
    cases e : shp p with
    | true =>
      rw [shL_t e, List.mem_append] at h
      rcases h with h | h
      · have := ih q h
        exact ⟨this.1, by omega⟩
      · rw [List.mem_singleton] at h
        rw [h]
        exact ⟨e, by omega⟩
    | false =>
      rw [shL_f e] at h
      have := ih q h
      exact ⟨this.1, by omega⟩
theorem fold_sh {α : Type} (st : α → Nat → α) (a : α) (hn : ∀ x q, shp q = false → st x q = x) (F : Nat → α) (h0 : F 0 = a) (hs : ∀ p, F (p + 1) = st (F p) p) : ∀ p : Nat, F p = (shL p).foldl st a := by
  intro p
  induction p with
  | zero => exact h0
  | succ p ih =>
    rw [hs]
    cases e : shp p with
    | true =>
      rw [shL_t e, List.foldl_append, ← ih]
      rfl
    | false => rw [shL_f e, ← ih, hn _ _ e]
theorem sh_no {m : Nat} {c : Int} {q : Nat} (h : shp q = false) : goodQ m c q = false := goodQ_no (fun z => of_decide_eq_false h ⟨z.1, z.2.1⟩)
theorem goodQ_b {m T q : Nat} (h4 : 4 ≤ m) (h9 : m ≤ 9) (hT : T < 134217728) (hs : shp q = true) (hq : q < 729) : goodQ m (T : Int) q = Nat.beq (T &&& mq m q) (mq m q) := by
  have s := of_decide_eq_true hs
  by_cases hm : q % 9 < m
  · unfold goodQ
    rw [decide_eq_true (show q / 81 < q / 9 % 9 ∧ q / 9 % 9 < q % 9 ∧ q % 9 < m from ⟨s.1, s.2, hm⟩), near_b h4 h9 hT (by omega) (by omega) (by omega), near_b h4 h9 hT (by omega) (by omega) (by omega), near_b h4 h9 hT (by omega) (by omega) (by omega), Bool.true_and, Bool.eq_iff_iff, Bool.and_eq_true, Bool.and_eq_true, beq_sbs, beq_sbs, beq_sbs, beq_sbs]
    unfold mq
    rw [decide_eq_true hm]
    show _ ↔ sbs T (bt m (q / 81) (q / 9 % 9) ||| (bt m (q / 9 % 9) (q % 9) ||| bt m (q / 81) (q % 9)))
    rw [sbs_or, sbs_or]
  · rw [goodQ_no (fun z => hm z.2.2), Bool.eq_iff_iff, beq_sbs]
    unfold mq
    rw [decide_eq_false hm]
    constructor
    · intro h; cases h
    · intro h
      have h : sbs T (2 ^ 27) := h
      rw [sbs_p, Nat.testBit_lt_two_pow hT] at h
      cases h
def prT (m : Nat) : List (Nat × Nat) := match m with
  | 4 => [(11, 1), (12, 2), (13, 134217728), (14, 134217728), (15, 134217728), (16, 134217728), (17, 134217728), (21, 1), (22, 134217728), (23, 134217728), (24, 134217728), (25, 134217728), (26, 134217728), (31, 134217728), (32, 134217728), (33, 134217728), (34, 134217728), (35, 134217728), (41, 134217728), (42, 134217728), (43, 134217728), (44, 134217728), (51, 134217728), (52, 134217728), (53, 134217728), (61, 134217728), (62, 134217728), (71, 134217728), (102, 2), (103, 134217728), (104, 134217728), (105, 134217728), (106, 134217728), (107, 134217728), (112, 134217728), (113, 134217728), (114, 134217728), (115, 134217728), (116, 134217728), (122, 134217728), (123, 134217728), (124, 134217728), (125, 134217728), (132, 134217728), (133, 134217728), (134, 134217728), (142, 134217728), (143, 134217728), (152, 134217728), (193, 134217728), (194, 134217728), (195, 134217728), (196, 134217728), (197, 134217728), (203, 134217728), (204, 134217728), (205, 134217728), (206, 134217728), (213, 134217728), (214, 134217728), (215, 134217728), (223, 134217728), (224, 134217728), (233, 134217728), (284, 134217728), (285, 134217728), (286, 134217728), (287, 134217728), (294, 134217728), (295, 134217728), (296, 134217728), (304, 134217728), (305, 134217728), (314, 134217728), (375, 134217728), (376, 134217728), (377, 134217728), (385, 134217728), (386, 134217728), (395, 134217728), (466, 134217728), (467, 134217728), (476, 134217728), (557, 134217728)]
  | 5 => [(11, 1), (12, 6), (13, 8), (14, 134217728), (15, 134217728), (16, 134217728), (17, 134217728), (21, 3), (22, 17), (23, 134217728), (24, 134217728), (25, 134217728), (26, 134217728), (31, 2), (32, 134217728), (33, 134217728), (34, 134217728), (35, 134217728), (41, 134217728), (42, 134217728), (43, 134217728), (44, 134217728), (51, 134217728), (52, 134217728), (53, 134217728), (61, 134217728), (62, 134217728), (71, 134217728), (102, 4), (103, 24), (104, 134217728), (105, 134217728), (106, 134217728), (107, 134217728), (112, 12), (113, 134217728), (114, 134217728), (115, 134217728), (116, 134217728), (122, 134217728), (123, 134217728), (124, 134217728), (125, 134217728), (132, 134217728), (133, 134217728), (134, 134217728), (142, 134217728), (143, 134217728), (152, 134217728), (193, 16), (194, 134217728), (195, 134217728), (196, 134217728), (197, 134217728), (203, 134217728), (204, 134217728), (205, 134217728), (206, 134217728), (213, 134217728), (214, 134217728), (215, 134217728), (223, 134217728), (224, 134217728), (233, 134217728), (284, 134217728), (285, 134217728), (286, 134217728), (287, 134217728), (294, 134217728), (295, 134217728), (296, 134217728), (304, 134217728), (305, 134217728), (314, 134217728), (375, 134217728), (376, 134217728), (377, 134217728), (385, 134217728), (386, 134217728), (395, 134217728), (466, 134217728), (467, 134217728), (476, 134217728), (557, 134217728)]
  | 6 => [(11, 1), (12, 10), (13, 20), (14, 32), (15, 134217728), (16, 134217728), (17, 134217728), (21, 3), (22, 69), (23, 129), (24, 134217728), (25, 134217728), (26, 134217728), (31, 6), (32, 258), (33, 134217728), (34, 134217728), (35, 134217728), (41, 4), (42, 134217728), (43, 134217728), (44, 134217728), (51, 134217728), (52, 134217728), (53, 134217728), (61, 134217728), (62, 134217728), (71, 134217728), (102, 8), (103, 80), (104, 160), (105, 134217728), (106, 134217728), (107, 134217728), (112, 24), (113, 296), (114, 134217728), (115, 134217728), (116, 134217728), (122, 48), (123, 134217728), (124, 134217728), (125, 134217728), (132, 134217728), (133, 134217728), (134, 134217728), (142, 134217728), (143, 134217728), (152, 134217728), (193, 64), (194, 384), (195, 134217728), (196, 134217728), (197, 134217728), (203, 192), (204, 134217728), (205, 134217728), (206, 134217728), (213, 134217728), (214, 134217728), (215, 134217728), (223, 134217728), (224, 134217728), (233, 134217728), (284, 256), (285, 134217728), (286, 134217728), (287, 134217728), (294, 134217728), (295, 134217728), (296, 134217728), (304, 134217728), (305, 134217728), (314, 134217728), (375, 134217728), (376, 134217728), (377, 134217728), (385, 134217728), (386, 134217728), (395, 134217728), (466, 134217728), (467, 134217728), (476, 134217728), (557, 134217728)]
  | 7 => [(11, 1), (12, 18), (13, 36), (14, 72), (15, 128), (16, 134217728), (17, 134217728), (21, 3), (22, 261), (23, 521), (24, 1025), (25, 134217728), (26, 134217728), (31, 6), (32, 2058), (33, 4098), (34, 134217728), (35, 134217728), (41, 12), (42, 8196), (43, 134217728), (44, 134217728), (51, 8), (52, 134217728), (53, 134217728), (61, 134217728), (62, 134217728), (71, 134217728), (102, 16), (103, 288), (104, 576), (105, 1152), (106, 134217728), (107, 134217728), (112, 48), (113, 2128), (114, 4240), (115, 134217728), (116, 134217728), (122, 96), (123, 8352), (124, 134217728), (125, 134217728), (132, 192), (133, 134217728), (134, 134217728), (142, 134217728), (143, 134217728), (152, 134217728), (193, 256), (194, 2560), (195, 5120), (196, 134217728), (197, 134217728), (203, 768), (204, 9472), (205, 134217728), (206, 134217728), (213, 1536), (214, 134217728), (215, 134217728), (223, 134217728), (224, 134217728), (233, 134217728), (284, 2048), (285, 12288), (286, 134217728), (287, 134217728), (294, 6144), (295, 134217728), (296, 134217728), (304, 134217728), (305, 134217728), (314, 134217728), (375, 8192), (376, 134217728), (377, 134217728), (385, 134217728), (386, 134217728), (395, 134217728), (466, 134217728), (467, 134217728), (476, 134217728), (557, 134217728)]
  | 8 => [(11, 1), (12, 34), (13, 68), (14, 136), (15, 272), (16, 512), (17, 134217728), (21, 3), (22, 1029), (23, 2057), (24, 4113), (25, 8193), (26, 134217728), (31, 6), (32, 16394), (33, 32786), (34, 65538), (35, 134217728), (41, 12), (42, 131092), (43, 262148), (44, 134217728), (51, 24), (52, 524296), (53, 134217728), (61, 16), (62, 134217728), (71, 134217728), (102, 32), (103, 1088), (104, 2176), (105, 4352), (106, 8704), (107, 134217728), (112, 96), (113, 16544), (114, 33056), (115, 66080), (116, 134217728), (122, 192), (123, 131392), (124, 262720), (125, 134217728), (132, 384), (133, 524928), (134, 134217728), (142, 768), (143, 134217728), (152, 134217728), (193, 1024), (194, 18432), (195, 36864), (196, 73728), (197, 134217728), (203, 3072), (204, 136192), (205, 271360), (206, 134217728), (213, 6144), (214, 534528), (215, 134217728), (223, 12288), (224, 134217728), (233, 134217728), (284, 16384), (285, 163840), (286, 327680), (287, 134217728), (294, 49152), (295, 606208), (296, 134217728), (304, 98304), (305, 134217728), (314, 134217728), (375, 131072), (376, 786432), (377, 134217728), (385, 393216), (386, 134217728), (395, 134217728), (466, 524288), (467, 134217728), (476, 134217728), (557, 134217728)]
  | 9 => [(11, 1), (12, 66), (13, 132), (14, 264), (15, 528), (16, 1056), (17, 2048), (21, 3), (22, 4101), (23, 8201), (24, 16401), (25, 32801), (26, 65537), (31, 6), (32, 131082), (33, 262162), (34, 524322), (35, 1048578), (41, 12), (42, 2097172), (43, 4194340), (44, 8388612), (51, 24), (52, 16777256), (53, 33554440), (61, 48), (62, 67108880), (71, 32), (102, 64), (103, 4224), (104, 8448), (105, 16896), (106, 33792), (107, 67584), (112, 192), (113, 131392), (114, 262720), (115, 525376), (116, 1050688), (122, 384), (123, 2097792), (124, 4195456), (125, 8390784), (132, 768), (133, 16778496), (134, 33556736), (142, 1536), (143, 67111424), (152, 3072), (193, 4096), (194, 139264), (195, 278528), (196, 557056), (197, 1114112), (203, 12288), (204, 2117632), (205, 4231168), (206, 8458240), (213, 24576), (214, 16818176), (215, 33628160), (223, 49152), (224, 67190784), (233, 98304), (284, 131072), (285, 2359296), (286, 4718592), (287, 9437184), (294, 393216), (295, 17432576), (296, 34734080), (304, 786432), (305, 68419584), (314, 1572864), (375, 2097152), (376, 20971520), (377, 41943040), (385, 6291456), (386, 77594624), (395, 12582912), (466, 16777216), (467, 100663296), (476, 50331648), (557, 67108864)]
  | _ => []
theorem prT_e : ∀ m : Nat, 4 ≤ m → m ≤ 9 → prT m = (shL 729).map (fun q => (q, mq m q)) := pg_cases (by decide +kernel) (by decide +kernel) (by decide +kernel) (by decide +kernel) (by decide +kernel) (by decide +kernel)
theorem prT_1 {m : Nat} (h4 : 4 ≤ m) (h9 : m ≤ 9) : (prT m).map (fun x => x.1) = shL 729 := by
  rw [prT_e m h4 h9, List.map_map]
  exact List.map_id _
theorem prT_b {m T : Nat} (h4 : 4 ≤ m) (h9 : m ≤ 9) (hT : T < 134217728) : ∀ x, x ∈ prT m → goodQ m (T : Int) x.1 = Nat.beq (T &&& x.2) x.2 := by
  intro x hx
  rw [prT_e m h4 h9, List.mem_map] at hx
  obtain ⟨q, hq, rfl⟩ := hx
  obtain ⟨a, b⟩ := shL_m _ _ hq
  exact goodQ_b h4 h9 hT a b
noncomputable def cntM (T : Nat) (l : List (Nat × Nat)) : Nat → Nat := List.rec (motive := fun _ => Nat → Nat) (fun a => a) (fun x _ ih a => match Nat.beq (T &&& x.2) x.2 with
  | true => ih (a + 1)
  | false => ih a) l
noncomputable def tcS (m : Nat) (c : Int) (a q : Nat) : Nat := match goodQ m c q with
  | true => a + 1
  | false => a
theorem cntM_ok {m T : Nat} {c : Int} : ∀ l : List (Nat × Nat), (∀ x, x ∈ l → goodQ m c x.1 = Nat.beq (T &&& x.2) x.2) → ∀ a : Nat, cntM T l a = (l.map (fun x => x.1)).foldl (tcS m c) a := by
  intro l
  induction l with
  | nil => intro _ a; rfl
  | cons x l ih =>
    intro h a
    have e := h x (List.mem_cons_self ..)
    have r := ih (fun y hy => h y (List.mem_cons_of_mem _ hy))
    show (match Nat.beq (T &&& x.2) x.2 with
      | true => cntM T l (a + 1)
      | false => cntM T l a) = (l.map (fun x => x.1)).foldl (tcS m c) (tcS m c a x.1)
    unfold tcS
    rw [e]
    cases Nat.beq (T &&& x.2) x.2 with
    | true => exact r (a + 1)
    | false => exact r a
theorem tcn_fast {m T : Nat} (h4 : 4 ≤ m) (h9 : m ≤ 9) (hT : T < 134217728) : tcn m (T : Int) 729 = cntM T (prT m) 0 := by
  rw [cntM_ok (prT m) (prT_b h4 h9 hT) 0, prT_1 h4 h9]
  exact fold_sh (tcS m (T : Int)) 0 (fun x q h => by
    unfold tcS
    rw [sh_no h]) (tcn m (T : Int)) rfl (fun p => rfl) 729
end
