section
set_option maxRecDepth 20000 in
theorem oy_isLine (i0 : Int) (i1 : Int) (i2 : Int) (p0 : 4 ≤ i0) (p1 : i0 ≤ 9) (p2 : 0 ≤ i1) (p3 : i1 < i0) (p4 : 0 ≤ i2) (p5 : i2 < i0) : Go (fun o => ((o) = true → ¬ i1 = i2 ∧ 0 ≤ zget (pg3 (Int.toNat i0)) (9 * Int.toNat i1 + Int.toNat i2)) ∧ ((o) = false → i1 = i2 ∨ zget (pg3 (Int.toNat i0)) (9 * Int.toNat i1 + Int.toNat i2) < 0)) (zf_X11_isLine i0 i1 i2) := by
  obtain ⟨m, rfl⟩ : ∃ m : Nat, i0 = (m : Int) := ⟨i0.toNat, by omega⟩
  obtain ⟨a, rfl⟩ : ∃ m : Nat, i1 = (m : Int) := ⟨i1.toNat, by omega⟩
  obtain ⟨b, rfl⟩ : ∃ m : Nat, i2 = (m : Int) := ⟨i2.toNat, by omega⟩
  unfold zf_X11_isLine
  refine Go_chk (by unfold zout; omega) ?_
  refine Go_chk (by unfold zout; omega) ?_
  refine Go_ite (fun c1 => ?_) (fun c1 => ?_)
  · exact Go_i ⟨fun h => (by cases h), fun _ => Or.inl c1⟩
  · rw [next_c (m := m) (i := a) (j := b) (by omega) (by omega) (by omega) (by omega) (by omega)]
    simp only [Option.bind_some]
    have e : zget (pg3 (Int.toNat (m : Int))) (9 * Int.toNat (a : Int) + Int.toNat (b : Int)) = zget (pg3 m) (9 * a + b) := rfl
    refine Go_ite (fun c2 => ?_) (fun c2 => ?_)
    · have z := of_decide_eq_false c2
      exact Go_i ⟨fun _ => ⟨c1, by rw [e]; omega⟩, fun h => (by cases h)⟩
    · have z := of_decide_eq_true (bnf c2)
      exact Go_i ⟨fun h => (by cases h), fun _ => Or.inr (by rw [e]; exact z)⟩
set_option maxRecDepth 20000 in
theorem oy_near (t_numberOf : Nat) (i1 : Int) (i2 : Int) (i4 : Int) (i5 : Int) (p0 : LNk i1 t_numberOf) (p1 : 0 ≤ i4) (p2 : i4 < i1) (p3 : 0 ≤ i5) (p4 : i5 < i1) : Go (fun o => ((o) = true → nearB (Int.toNat i1) i2 (Int.toNat i4) (Int.toNat i5) = true) ∧ ((o) = false → nearB (Int.toNat i1) i2 (Int.toNat i4) (Int.toNat i5) = false)) (zf_X11_near t_numberOf i1 i2 i4 i5) := by
  have h4 := p0.1
  have h9 := p0.2.1
  obtain ⟨m, rfl⟩ : ∃ m : Nat, i1 = (m : Int) := ⟨i1.toNat, by omega⟩
  exact ⟨_, near_eq (by omega) (by omega) p0.2.2 i2 p1 p2 p3 p4, fun h => h, fun h => h⟩
set_option maxRecDepth 20000 in
theorem ok_X11_isWay : ∀ (d : Nat) (t_corners : Int) (t_wayLeft : Int) (t_tA : Nat) (t_tB : Nat) (t_tC : Nat) (t_wayAt : Nat) (i1 : Int) (i2 : Int) (i3 : Int) (i4 : Int) (p0 : 4 ≤ t_corners) (p1 : t_corners ≤ 9) (p2 : 0 ≤ i1) (p3 : i1 < t_corners) (p4 : 0 ≤ i2) (p5 : i2 < t_corners) (p6 : WD t_corners i1 i2 i3) (p7 : 1 ≤ i3) (p8 : i3 ≤ 8) (p9 : 0 ≤ t_wayLeft) (p10 : t_wayLeft ≤ 2147483647) (p11 : 10 ≤ i3 + (d : Int)), Go (fun (o : zO_X11_isWay) => ((o.1) = true → -1 ≤ (o.2.1)) ∧ ((o.1) = false → 0 ≤ (o.2.1)) ∧ (o.2.1) ≤ 2147483647) (zf_X11_isWay d t_corners t_wayLeft t_tA t_tB t_tC t_wayAt i1 i2 i3 i4) := by
  intro d
  induction d with
  | zero => intro t_corners t_wayLeft t_tA t_tB t_tC t_wayAt i1 i2 i3 i4 p0 p1 p2 p3 p4 p5 p6 p7 p8 p9 p10 p11; exfalso; omega
  | succ d ih =>
    intro t_corners t_wayLeft t_tA t_tB t_tC t_wayAt i1 i2 i3 i4 p0 p1 p2 p3 p4 p5 p6 p7 p8 p9 p10 p11
    show Go _ (jrun (zg_X11_isWay (zf_X11_isWay d) t_corners t_tA t_tB t_tC) jfuel (0, i1, i2, i3, i4, 0, 0, t_wayLeft, t_wayAt))
    refine jok (fun (s : zS_X11_isWay) => match s with | (lab, i1', i2', i3', i4', i5', i6', t_wayLeft', t_wayAt') => (lab = 0 ∧ 0 ≤ i1' ∧ i1' < t_corners ∧ 0 ≤ i2' ∧ i2' < t_corners ∧ WD t_corners i1' i2' i3' ∧ 1 ≤ i3' ∧ 0 ≤ t_wayLeft' ∧ t_wayLeft' ≤ 2147483647 ∧ i3' ≤ 8 ∧ i3' = i3) ∨ (lab = 42 ∧ 0 ≤ i1' ∧ i1' < t_corners ∧ 0 ≤ i2' ∧ i2' < t_corners ∧ WD t_corners i1' i2' (i3' + 1) ∧ 1 ≤ i3' ∧ 0 ≤ t_wayLeft' ∧ t_wayLeft' ≤ 2147483647 ∧ 0 ≤ i5' ∧ i5' < t_corners ∧ 0 ≤ i6' ∧ i6' ≤ 9 ∧ i3' = i3)) (fun (s : zS_X11_isWay) => match s with | (lab, i1', i2', i3', i4', i5', i6', t_wayLeft', t_wayAt') => if lab = 0 then 50 else if lab = 42 then (20 - i6').toNat else 0) (fun (o : zO_X11_isWay) => ((o.1) = true → -1 ≤ (o.2.1)) ∧ ((o.1) = false → 0 ≤ (o.2.1)) ∧ (o.2.1) ≤ 2147483647) ?_ _ ?_ ?_
    · intro s hI
      obtain ⟨lab, i1', i2', i3', i4', i5', i6', t_wayLeft', t_wayAt'⟩ := s
      have hI : (lab = 0 ∧ 0 ≤ i1' ∧ i1' < t_corners ∧ 0 ≤ i2' ∧ i2' < t_corners ∧ WD t_corners i1' i2' i3' ∧ 1 ≤ i3' ∧ 0 ≤ t_wayLeft' ∧ t_wayLeft' ≤ 2147483647 ∧ i3' ≤ 8 ∧ i3' = i3) ∨ (lab = 42 ∧ 0 ≤ i1' ∧ i1' < t_corners ∧ 0 ≤ i2' ∧ i2' < t_corners ∧ WD t_corners i1' i2' (i3' + 1) ∧ 1 ≤ i3' ∧ 0 ≤ t_wayLeft' ∧ t_wayLeft' ≤ 2147483647 ∧ 0 ≤ i5' ∧ i5' < t_corners ∧ 0 ≤ i6' ∧ i6' ≤ 9 ∧ i3' = i3) := hI
      rcases hI with ⟨rfl, v0_0, v0_1, v0_2, v0_3, v0_4, v0_5, v0_6, v0_7, v0_8, v0_9⟩ | ⟨rfl, v42_0, v42_1, v42_2, v42_3, v42_4, v42_5, v42_6, v42_7, v42_8, v42_9, v42_10, v42_11, v42_12⟩
      · show Go _ (zg_X11_isWay_0 (zf_X11_isWay d) t_corners t_tA t_tB t_tC i1' i2' i3' i4' i5' i6' t_wayLeft' t_wayAt')
        unfold zg_X11_isWay_0
        refine Go_chk (by unfold zout; omega) ?_
        refine Go_chk (by unfold zout; omega) ?_
        refine Go_chk (by omega) ?_
        have a1 := rtmod (a := (i1' + i3')) (b := t_corners) (by omega) (by omega)
        refine Go_chk (by unfold zout; omega) ?_
        refine Go_chk (by unfold zout; omega) ?_
        refine Go_ite (fun c2 => ?_) (fun c2 => ?_)
        · refine Go_chk (by unfold zout; omega) ?_
          refine Go_ite (fun c3 => ?_) (fun c3 => ?_)
          · exact Go_i (show ((false) = true → -1 ≤ ((t_wayLeft' - (1 : Int)))) ∧ ((false) = false → 0 ≤ ((t_wayLeft' - (1 : Int)))) ∧ ((t_wayLeft' - (1 : Int))) ≤ 2147483647 from ⟨(by intro h; first | exact True.intro | omega | (exact absurd h (by decide))), (by intro h; first | exact True.intro | omega | (exact absurd h (by decide))), (by first | assumption | omega)⟩)
          · exact Go_i (show ((true) = true → -1 ≤ ((t_wayLeft' - (1 : Int)))) ∧ ((true) = false → 0 ≤ ((t_wayLeft' - (1 : Int)))) ∧ ((t_wayLeft' - (1 : Int))) ≤ 2147483647 from ⟨(by intro h; first | exact True.intro | omega | (exact absurd h (by decide))), (by intro h; first | exact True.intro | omega | (exact absurd h (by decide))), (by first | assumption | omega)⟩)
        · exact Go_i (show (((42 : Nat) = 0 ∧ 0 ≤ (i1') ∧ (i1') < t_corners ∧ 0 ≤ (i2') ∧ (i2') < t_corners ∧ WD t_corners (i1') (i2') (i3') ∧ 1 ≤ (i3') ∧ 0 ≤ (t_wayLeft') ∧ (t_wayLeft') ≤ 2147483647 ∧ (i3') ≤ 8 ∧ (i3') = i3) ∨ ((42 : Nat) = 42 ∧ 0 ≤ (i1') ∧ (i1') < t_corners ∧ 0 ≤ (i2') ∧ (i2') < t_corners ∧ WD t_corners (i1') (i2') ((i3') + 1) ∧ 1 ≤ (i3') ∧ 0 ≤ (t_wayLeft') ∧ (t_wayLeft') ≤ 2147483647 ∧ 0 ≤ ((Int.tmod (i1' + i3') t_corners)) ∧ ((Int.tmod (i1' + i3') t_corners)) < t_corners ∧ 0 ≤ ((0 : Int)) ∧ ((0 : Int)) ≤ 9 ∧ (i3') = i3)) ∧ (20 - ((0 : Int))).toNat < 50 from ⟨Or.inr (⟨rfl, (by first | assumption | omega), (by first | assumption | omega), (by first | assumption | omega), (by first | assumption | omega), (by first | assumption | exact WD_next (by assumption) (by assumption) | exact WD_init (by omega) (by omega) (by omega) (by omega) (by omega) (by omega) (by omega)), (by first | assumption | omega), (by first | assumption | omega), (by first | assumption | omega), (by first | assumption | omega), (by first | assumption | omega), (by first | assumption | omega), (by first | assumption | omega), (by first | assumption | omega)⟩), by omega⟩)
      · show Go _ (zg_X11_isWay_42 (zf_X11_isWay d) t_corners t_tA t_tB t_tC i1' i2' i3' i4' i5' i6' t_wayLeft' t_wayAt')
        unfold zg_X11_isWay_42
        have wdl := WD_le v42_4
        refine Go_chk (by unfold zout; omega) ?_
        refine Go_chk (by unfold zout; omega) ?_
        refine Go_ite (fun c4 => ?_) (fun c4 => ?_)
        · exact Go_i (show ((false) = true → -1 ≤ (t_wayLeft')) ∧ ((false) = false → 0 ≤ (t_wayLeft')) ∧ (t_wayLeft') ≤ 2147483647 from ⟨(by intro h; first | exact True.intro | omega | (exact absurd h (by decide))), (by intro h; first | exact True.intro | omega | (exact absurd h (by decide))), (by first | assumption | omega)⟩)
        · have a5 := rshr i4' i6'
          have a6 := rand (zshr i4' i6') (1 : Int)
          have a7 := rand_pos (x := (zshr i4' i6')) (y := (1 : Int)) (by decide) (by decide)
          refine Go_ite (fun c8 => ?_) (fun c8 => ?_)
          · exact Go_i (show (((42 : Nat) = 0 ∧ 0 ≤ (i1') ∧ (i1') < t_corners ∧ 0 ≤ (i2') ∧ (i2') < t_corners ∧ WD t_corners (i1') (i2') (i3') ∧ 1 ≤ (i3') ∧ 0 ≤ (t_wayLeft') ∧ (t_wayLeft') ≤ 2147483647 ∧ (i3') ≤ 8 ∧ (i3') = i3) ∨ ((42 : Nat) = 42 ∧ 0 ≤ (i1') ∧ (i1') < t_corners ∧ 0 ≤ (i2') ∧ (i2') < t_corners ∧ WD t_corners (i1') (i2') ((i3') + 1) ∧ 1 ≤ (i3') ∧ 0 ≤ (t_wayLeft') ∧ (t_wayLeft') ≤ 2147483647 ∧ 0 ≤ (i5') ∧ (i5') < t_corners ∧ 0 ≤ ((i6' + (1 : Int))) ∧ ((i6' + (1 : Int))) ≤ 9 ∧ (i3') = i3)) ∧ (20 - ((i6' + (1 : Int)))).toNat < (20 - i6').toNat from ⟨Or.inr (⟨rfl, (by first | assumption | omega), (by first | assumption | omega), (by first | assumption | omega), (by first | assumption | omega), (by first | assumption | exact WD_next (by assumption) (by assumption) | exact WD_init (by omega) (by omega) (by omega) (by omega) (by omega) (by omega) (by omega)), (by first | assumption | omega), (by first | assumption | omega), (by first | assumption | omega), (by first | assumption | omega), (by first | assumption | omega), (by first | assumption | omega), (by first | assumption | omega), (by first | assumption | omega)⟩), by omega⟩)
          · refine Go_bindP (ok_X11_isAt t_tA t_tB t_tC i6' i5' (by first | assumption | omega) (by first | assumption | omega) (by first | assumption | omega) (by first | assumption | omega)) (fun o11 q9 => ?_)
            refine Go_ite (fun c10 => ?_) (fun c10 => ?_)
            · exact Go_i (show (((42 : Nat) = 0 ∧ 0 ≤ (i1') ∧ (i1') < t_corners ∧ 0 ≤ (i2') ∧ (i2') < t_corners ∧ WD t_corners (i1') (i2') (i3') ∧ 1 ≤ (i3') ∧ 0 ≤ (t_wayLeft') ∧ (t_wayLeft') ≤ 2147483647 ∧ (i3') ≤ 8 ∧ (i3') = i3) ∨ ((42 : Nat) = 42 ∧ 0 ≤ (i1') ∧ (i1') < t_corners ∧ 0 ≤ (i2') ∧ (i2') < t_corners ∧ WD t_corners (i1') (i2') ((i3') + 1) ∧ 1 ≤ (i3') ∧ 0 ≤ (t_wayLeft') ∧ (t_wayLeft') ≤ 2147483647 ∧ 0 ≤ (i5') ∧ (i5') < t_corners ∧ 0 ≤ ((i6' + (1 : Int))) ∧ ((i6' + (1 : Int))) ≤ 9 ∧ (i3') = i3)) ∧ (20 - ((i6' + (1 : Int)))).toNat < (20 - i6').toNat from ⟨Or.inr (⟨rfl, (by first | assumption | omega), (by first | assumption | omega), (by first | assumption | omega), (by first | assumption | omega), (by first | assumption | exact WD_next (by assumption) (by assumption) | exact WD_init (by omega) (by omega) (by omega) (by omega) (by omega) (by omega) (by omega)), (by first | assumption | omega), (by first | assumption | omega), (by first | assumption | omega), (by first | assumption | omega), (by first | assumption | omega), (by first | assumption | omega), (by first | assumption | omega), (by first | assumption | omega)⟩), by omega⟩)
            · refine Go_chk (by omega) ?_
              have a11 := rshl (1 : Int) i6'
              have a12 := ror i4' (zshl (1 : Int) i6')
              refine Go_bindP (ih t_corners t_wayLeft' t_tA t_tB t_tC (zset t_wayAt' (Int.toNat i5') i6') i1' i2' (i3' + (1 : Int)) (zor i4' (zshl (1 : Int) i6')) (by first | assumption | omega) (by first | assumption | omega) (by first | assumption | omega) (by first | assumption | omega) (by first | assumption | omega) (by first | assumption | omega) (by first | assumption | exact WD_next (by assumption) (by assumption) | exact WD_init (by omega) (by omega) (by omega) (by omega) (by omega) (by omega) (by omega)) (by first | assumption | omega) (by first | assumption | omega) (by first | assumption | omega) (by first | assumption | omega) (by first | assumption | omega)) (fun o13 q13 => ?_)
              obtain ⟨q13_0, q13_1, q13_2⟩ := q13
              refine Go_ite (fun c14 => ?_) (fun c14 => ?_)
              · have dc14 := q13_1 c14
                exact Go_i (show (((42 : Nat) = 0 ∧ 0 ≤ (i1') ∧ (i1') < t_corners ∧ 0 ≤ (i2') ∧ (i2') < t_corners ∧ WD t_corners (i1') (i2') (i3') ∧ 1 ≤ (i3') ∧ 0 ≤ ((o13.2.1)) ∧ ((o13.2.1)) ≤ 2147483647 ∧ (i3') ≤ 8 ∧ (i3') = i3) ∨ ((42 : Nat) = 42 ∧ 0 ≤ (i1') ∧ (i1') < t_corners ∧ 0 ≤ (i2') ∧ (i2') < t_corners ∧ WD t_corners (i1') (i2') ((i3') + 1) ∧ 1 ≤ (i3') ∧ 0 ≤ ((o13.2.1)) ∧ ((o13.2.1)) ≤ 2147483647 ∧ 0 ≤ (i5') ∧ (i5') < t_corners ∧ 0 ≤ ((i6' + (1 : Int))) ∧ ((i6' + (1 : Int))) ≤ 9 ∧ (i3') = i3)) ∧ (20 - ((i6' + (1 : Int)))).toNat < (20 - i6').toNat from ⟨Or.inr (⟨rfl, (by first | assumption | omega), (by first | assumption | omega), (by first | assumption | omega), (by first | assumption | omega), (by first | assumption | exact WD_next (by assumption) (by assumption) | exact WD_init (by omega) (by omega) (by omega) (by omega) (by omega) (by omega) (by omega)), (by first | assumption | omega), (by first | assumption | omega), (by first | assumption | omega), (by first | assumption | omega), (by first | assumption | omega), (by first | assumption | omega), (by first | assumption | omega), (by first | assumption | omega)⟩), by omega⟩)
              · have dc14 := q13_0 (bnf c14)
                exact Go_i (show ((true) = true → -1 ≤ ((o13.2.1))) ∧ ((true) = false → 0 ≤ ((o13.2.1))) ∧ ((o13.2.1)) ≤ 2147483647 from ⟨(by intro h; first | exact True.intro | omega | (exact absurd h (by decide))), (by intro h; first | exact True.intro | omega | (exact absurd h (by decide))), (by first | assumption | omega)⟩)
    · exact (show ((0 : Nat) = 0 ∧ 0 ≤ i1 ∧ i1 < t_corners ∧ 0 ≤ i2 ∧ i2 < t_corners ∧ WD t_corners i1 i2 i3 ∧ 1 ≤ i3 ∧ 0 ≤ t_wayLeft ∧ t_wayLeft ≤ 2147483647 ∧ i3 ≤ 8 ∧ i3 = i3) ∨ ((0 : Nat) = 42 ∧ 0 ≤ i1 ∧ i1 < t_corners ∧ 0 ≤ i2 ∧ i2 < t_corners ∧ WD t_corners i1 i2 (i3 + 1) ∧ 1 ≤ i3 ∧ 0 ≤ t_wayLeft ∧ t_wayLeft ≤ 2147483647 ∧ 0 ≤ 0 ∧ 0 < t_corners ∧ 0 ≤ 0 ∧ 0 ≤ 9 ∧ i3 = i3) from Or.inl (⟨rfl, (by first | assumption | omega), (by first | assumption | omega), (by first | assumption | omega), (by first | assumption | omega), (by first | assumption | exact WD_next (by assumption) (by assumption) | exact WD_init (by omega) (by omega) (by omega) (by omega) (by omega) (by omega) (by omega)), (by first | assumption | omega), (by first | assumption | omega), (by first | assumption | omega), (by first | assumption | omega), (by first | assumption | omega)⟩))
    · show 50 < jfuel
      unfold jfuel
      omega
set_option maxRecDepth 20000 in
theorem ok_X11_way (t_corners : Int) (t_lines : Int) (t_linesFor : Int) (t_own : Int) (t_wayLeft : Int) (t_numberOf : Nat) (t_lesser : Nat) (t_greater : Nat) (t_tA : Nat) (t_tB : Nat) (t_tC : Nat) (t_wayAt : Nat) (i1 : Int) (i2 : Int) (i3 : Int) (i4 : Int) (p0 : TL t_linesFor t_lines t_numberOf t_lesser t_greater) (p1 : 4 ≤ t_corners) (p2 : t_corners ≤ 9) (p3 : CU t_corners t_own) (p4 : -2147483648 ≤ i1) (p5 : i1 ≤ 2147483647) (p6 : -2147483648 ≤ i2) (p7 : i2 ≤ 2147483647) (p8 : -2147483648 ≤ i3) (p9 : i3 ≤ 2147483647) (p10 : -2147483648 ≤ i4) (p11 : i4 ≤ 2147483647) : Go (fun o => TL (o.2.2.1) (o.2.1) (o.2.2.2.2.1) (o.2.2.2.2.2.1) (o.2.2.2.2.2.2.1)) (zf_X11_way t_corners t_lines t_linesFor t_own t_wayLeft t_numberOf t_lesser t_greater t_tA t_tB t_tC t_wayAt i1 i2 i3 i4) := by
  unfold zf_X11_way
  refine Go_bindP (ok_X11_isCorner t_corners i1 (by first | assumption | omega) (by first | assumption | omega) (by first | assumption | omega) (by first | assumption | omega)) (fun o1 q1 => ?_)
  obtain ⟨q1_0, q1_1⟩ := q1
  refine Go_ite (fun c2 => ?_) (fun c2 => ?_)
  · have dc2 := q1_1 c2
    exact Go_i (show TL (t_linesFor) (t_lines) (t_numberOf) (t_lesser) (t_greater) from (by first | assumption | omega))
  · have dc2 := q1_0 (bnf c2)
    refine Go_bindP (ok_X11_isCorner t_corners i2 (by first | assumption | omega) (by first | assumption | omega) (by first | assumption | omega) (by first | assumption | omega)) (fun o2 q3 => ?_)
    obtain ⟨q3_0, q3_1⟩ := q3
    refine Go_ite (fun c4 => ?_) (fun c4 => ?_)
    · have dc4 := q3_1 c4
      exact Go_i (show TL (t_linesFor) (t_lines) (t_numberOf) (t_lesser) (t_greater) from (by first | assumption | omega))
    · have dc4 := q3_0 (bnf c4)
      refine Go_chk (by unfold zout; omega) ?_
      refine Go_chk (by unfold zout; omega) ?_
      refine Go_ite (fun c5 => ?_) (fun c5 => ?_)
      · exact Go_i (show TL (t_linesFor) (t_lines) (t_numberOf) (t_lesser) (t_greater) from (by first | assumption | omega))
      · refine Go_bindP (ok_X11_isCorner t_corners i4 (by first | assumption | omega) (by first | assumption | omega) (by first | assumption | omega) (by first | assumption | omega)) (fun o5 q6 => ?_)
        obtain ⟨q6_0, q6_1⟩ := q6
        refine Go_ite (fun c7 => ?_) (fun c7 => ?_)
        · have dc7 := q6_1 c7
          exact Go_i (show TL (t_linesFor) (t_lines) (t_numberOf) (t_lesser) (t_greater) from (by first | assumption | omega))
        · have dc7 := q6_0 (bnf c7)
          refine Go_chk (by unfold zout; omega) ?_
          refine Go_ite (fun c8 => ?_) (fun c8 => ?_)
          · refine Go_bindP (oy_tri t_lines t_linesFor t_numberOf t_lesser t_greater t_tA t_tB t_tC t_corners t_own (by first | assumption | omega) (by first | assumption | omega) (by first | assumption | omega) (by first | assumption | omega)) (fun o7 q9 => ?_)
            obtain ⟨q9_0, q9_1, q9_2, q9_3, q9_4, q9_5⟩ := q9
            refine Go_bindP (ok_X11_isWay 11 t_corners i3 (o7.2.2.2.2.2.1) (o7.2.2.2.2.2.2.1) (o7.2.2.2.2.2.2.2) t_wayAt i1 i2 (1 : Int) (0 : Int) (by first | assumption | omega) (by first | assumption | omega) (by first | assumption | omega) (by first | assumption | omega) (by first | assumption | omega) (by first | assumption | omega) (by first | assumption | exact WD_next (by assumption) (by assumption) | exact WD_init (by omega) (by omega) (by omega) (by omega) (by omega) (by omega) (by omega)) (by first | assumption | omega) (by first | assumption | omega) (by first | assumption | omega) (by first | assumption | omega) (by first | assumption | omega)) (fun o8 q10 => ?_)
            obtain ⟨q10_0, q10_1, q10_2⟩ := q10
            refine Go_ite (fun c11 => ?_) (fun c11 => ?_)
            · have dc11 := q10_1 c11
              exact Go_i (show TL ((o7.2.1)) ((o7.1)) ((o7.2.2.1)) ((o7.2.2.2.1)) ((o7.2.2.2.2.1)) from (by first | assumption | omega))
            · have dc11 := q10_0 (bnf c11)
              refine Go_bindP (ok_X11_isBetween t_corners i1 i4 i2 (by first | assumption | omega) (by first | assumption | omega) (by first | assumption | omega) (by first | assumption | omega) (by first | assumption | omega) (by first | assumption | omega) (by first | assumption | omega) (by first | assumption | omega)) (fun o9 q12 => ?_)
              refine Go_ite (fun c13 => ?_) (fun c13 => ?_)
              · exact Go_i (show TL ((o7.2.1)) ((o7.1)) ((o7.2.2.1)) ((o7.2.2.2.1)) ((o7.2.2.2.2.1)) from (by first | assumption | omega))
              · refine Go_chk (by omega) ?_
                have a14 := rget (o8.2.2) (Int.toNat i4)
                exact Go_i (show TL ((o7.2.1)) ((o7.1)) ((o7.2.2.1)) ((o7.2.2.2.1)) ((o7.2.2.2.2.1)) from (by first | assumption | omega))
          · exact Go_i (show TL (t_linesFor) (t_lines) (t_numberOf) (t_lesser) (t_greater) from (by first | assumption | omega))
set_option maxRecDepth 20000 in
theorem oy_flipped (t_flipOne : Int) (t_flipTwo : Int) (t_numberOf : Nat) (i1 : Int) (i2 : Int) (i4 : Int) (i5 : Int) (p0 : LNk i1 t_numberOf) (p1 : CU i1 i2) (p2 : 0 ≤ i4) (p3 : i4 < i1) (p4 : 0 ≤ i5) (p5 : i5 < i1) (p6 : FB i1 i2 i4 i5) : Go (fun o => CU i1 (o.1) ∧ 0 ≤ (o.2.1) ∧ (o.2.1) < (o.2.2) ∧ (o.2.2) < i1) (zf_X11_flipped t_flipOne t_flipTwo t_numberOf i1 i2 i4 i5) := by
  have h4 := p0.1
  have h9 := p0.2.1
  obtain ⟨m, rfl⟩ : ∃ m : Nat, i1 = (m : Int) := ⟨i1.toNat, by omega⟩
  obtain ⟨a, rfl⟩ : ∃ m : Nat, i4 = (m : Int) := ⟨i4.toNat, by omega⟩
  obtain ⟨b, rfl⟩ : ∃ m : Nat, i5 = (m : Int) := ⟨i5.toNat, by omega⟩
  obtain ⟨o, z1, z2, z3, z4, z5⟩ := fl_ok (m := m) (by omega) (by omega) p0.2.2 p1.2.2 (p := a) (q := b) (by omega) (by omega) (by have := p6.1; omega) p6.2.1 p6.2.2 t_flipOne t_flipTwo
  have lt := lt_ok (m := m) (by omega) (by omega) (l := o.toNat) (by omega)
  exact ⟨_, z5, ⟨h4, h9, z4⟩, lt.1, lt.2.1, lt.2.2.1⟩
set_option maxRecDepth 20000 in
theorem ok_X11_flip (t_corners : Int) (t_lines : Int) (t_linesFor : Int) (t_own : Int) (t_flipOne : Int) (t_flipTwo : Int) (t_numberOf : Nat) (t_lesser : Nat) (t_greater : Nat) (i1 : Int) (i2 : Int) (p0 : TL t_linesFor t_lines t_numberOf t_lesser t_greater) (p1 : 4 ≤ t_corners) (p2 : t_corners ≤ 9) (p3 : CU t_corners t_own) (p4 : -2147483648 ≤ i1) (p5 : i1 ≤ 2147483647) (p6 : -2147483648 ≤ i2) (p7 : i2 ≤ 2147483647) : Go (fun o => TL (o.2.2.1) (o.2.1) (o.2.2.2.2.2.2.1) (o.2.2.2.2.2.2.2.1) (o.2.2.2.2.2.2.2.2) ∧ CU t_corners (o.2.2.2.1)) (zf_X11_flip t_corners t_lines t_linesFor t_own t_flipOne t_flipTwo t_numberOf t_lesser t_greater i1 i2) := by
  unfold zf_X11_flip
  refine Go_bindP (ok_X11_isCorner t_corners i1 (by first | assumption | omega) (by first | assumption | omega) (by first | assumption | omega) (by first | assumption | omega)) (fun o1 q1 => ?_)
  obtain ⟨q1_0, q1_1⟩ := q1
  refine Go_ite (fun c2 => ?_) (fun c2 => ?_)
  · have dc2 := q1_1 c2
    exact Go_i (show TL (t_linesFor) (t_lines) (t_numberOf) (t_lesser) (t_greater) ∧ CU t_corners (t_own) from ⟨(by first | assumption | omega), (by first | assumption | omega)⟩)
  · have dc2 := q1_0 (bnf c2)
    refine Go_bindP (ok_X11_isCorner t_corners i2 (by first | assumption | omega) (by first | assumption | omega) (by first | assumption | omega) (by first | assumption | omega)) (fun o2 q3 => ?_)
    obtain ⟨q3_0, q3_1⟩ := q3
    refine Go_ite (fun c4 => ?_) (fun c4 => ?_)
    · have dc4 := q3_1 c4
      exact Go_i (show TL (t_linesFor) (t_lines) (t_numberOf) (t_lesser) (t_greater) ∧ CU t_corners (t_own) from ⟨(by first | assumption | omega), (by first | assumption | omega)⟩)
    · have dc4 := q3_0 (bnf c4)
      refine Go_bindP (oy_linesOf t_lines t_linesFor t_numberOf t_lesser t_greater t_corners (by first | assumption | omega) (by first | assumption | omega) (by first | assumption | omega)) (fun o3 q5 => ?_)
      obtain ⟨q5_0, q5_1, q5_2, q5_3, q5_4⟩ := q5
      refine Go_bindP (oy_isLine t_corners i1 i2 (by first | assumption | omega) (by first | assumption | omega) (by first | assumption | omega) (by first | assumption | omega) (by first | assumption | omega) (by first | assumption | omega)) (fun o4 q6 => ?_)
      obtain ⟨q6_0, q6_1⟩ := q6
      refine Go_ite (fun c7 => ?_) (fun c7 => ?_)
      · have dc7 := q6_1 c7
        exact Go_i (show TL ((o3.2.1)) ((o3.1)) ((o3.2.2.1)) ((o3.2.2.2.1)) ((o3.2.2.2.2)) ∧ CU t_corners (t_own) from ⟨(by first | assumption | omega), (by first | assumption | omega)⟩)
      · have dc7 := q6_0 (bnf c7)
        refine Go_bindP (oy_near (o3.2.2.1) t_corners t_own i1 i2 (by exact TL_ln (by assumption)) (by first | assumption | omega) (by first | assumption | omega) (by first | assumption | omega) (by first | assumption | omega)) (fun o5 q8 => ?_)
        obtain ⟨q8_0, q8_1⟩ := q8
        refine Go_ite (fun c9 => ?_) (fun c9 => ?_)
        · have dc9 := q8_1 c9
          exact Go_i (show TL ((o3.2.1)) ((o3.1)) ((o3.2.2.1)) ((o3.2.2.2.1)) ((o3.2.2.2.2)) ∧ CU t_corners (t_own) from ⟨(by first | assumption | omega), (by first | assumption | omega)⟩)
        · have dc9 := q8_0 (bnf c9)
          refine Go_bindP (oy_flipped t_flipOne t_flipTwo (o3.2.2.1) t_corners t_own i1 i2 (by exact TL_ln (by assumption)) (by first | assumption | omega) (by first | assumption | omega) (by first | assumption | omega) (by first | assumption | omega) (by first | assumption | omega) (by exact FB_of (by assumption) (by assumption))) (fun o6 q10 => ?_)
          obtain ⟨q10_0, q10_1, q10_2, q10_3⟩ := q10
          exact Go_i (show TL ((o3.2.1)) ((o3.1)) ((o3.2.2.1)) ((o3.2.2.2.1)) ((o3.2.2.2.2)) ∧ CU t_corners ((o6.1)) from ⟨(by first | assumption | omega), (by first | assumption | omega)⟩)
set_option maxRecDepth 20000 in
theorem ok_X11_cross (t_corners : Int) (t_lines : Int) (t_linesFor : Int) (t_own : Int) (t_crossMany : Int) (t_numberOf : Nat) (t_lesser : Nat) (t_greater : Nat) (t_crossLine : Nat) (t_crossFar : Nat) (i1 : Int) (i2 : Int) (p0 : TL t_linesFor t_lines t_numberOf t_lesser t_greater) (p1 : 4 ≤ t_corners) (p2 : t_corners ≤ 9) (p3 : CU t_corners t_own) (p4 : 0 ≤ i1) (p5 : i1 < t_corners) (p6 : 0 ≤ i2) (p7 : i2 < t_corners) : Go (fun o => (o.2.1) = t_corners ∧ TL t_corners (o.1) (o.2.2.2.1) (o.2.2.2.2.1) (o.2.2.2.2.2.1) ∧ TL (o.2.1) (o.1) (o.2.2.2.1) (o.2.2.2.2.1) (o.2.2.2.2.2.1) ∧ 2 ≤ (o.1) ∧ (o.1) ≤ 27 ∧ 0 ≤ (o.2.2.1) ∧ (o.2.2.1) ≤ 6 ∧ CV (o.2.2.2.2.2.2.1) (o.2.2.1) (o.1)) (zf_X11_cross t_corners t_lines t_linesFor t_own t_crossMany t_numberOf t_lesser t_greater t_crossLine t_crossFar i1 i2) := by
  unfold zf_X11_cross
  have pc0 := PC_0 t_own
  refine jok (fun (s : zS_X11_cross) => match s with | (lab, i1', i2', i3', i6', i7', t_lines', t_linesFor', t_crossMany', t_numberOf', t_lesser', t_greater', t_crossLine', t_crossFar') => (lab = 0 ∧ TL t_linesFor' t_lines' t_numberOf' t_lesser' t_greater' ∧ 0 ≤ i1' ∧ i1' < t_corners ∧ 0 ≤ i2' ∧ i2' < t_corners) ∨ (lab = 15 ∧ TL t_corners t_lines' t_numberOf' t_lesser' t_greater' ∧ TL t_linesFor' t_lines' t_numberOf' t_lesser' t_greater' ∧ t_linesFor' = t_corners ∧ 2 ≤ t_lines' ∧ t_lines' ≤ 27 ∧ 0 ≤ i1' ∧ i1' < t_corners ∧ 0 ≤ i2' ∧ i2' < t_corners ∧ 0 ≤ i3' ∧ i3' ≤ t_lines' ∧ 0 ≤ t_crossMany' ∧ t_crossMany' ≤ PCN t_own i3' ∧ CV t_crossLine' t_crossMany' t_lines') ∨ (lab = 153 ∧ TL t_corners t_lines' t_numberOf' t_lesser' t_greater' ∧ TL t_linesFor' t_lines' t_numberOf' t_lesser' t_greater' ∧ t_linesFor' = t_corners ∧ 2 ≤ t_lines' ∧ t_lines' ≤ 27 ∧ 0 ≤ i1' ∧ i1' < t_corners ∧ 0 ≤ i2' ∧ i2' < t_corners ∧ 0 ≤ i3' ∧ i3' < t_lines' ∧ 0 ≤ t_crossMany' ∧ t_crossMany' ≤ 5 ∧ t_crossMany' + 1 ≤ PCN t_own (i3' + 1) ∧ 0 ≤ i7' ∧ i7' ≤ t_crossMany' ∧ 0 ≤ i6' ∧ i6' ≤ 20 ∧ CH t_crossLine' t_crossMany' i7' t_lines') ∨ (lab = 210 ∧ TL t_corners t_lines' t_numberOf' t_lesser' t_greater' ∧ TL t_linesFor' t_lines' t_numberOf' t_lesser' t_greater' ∧ t_linesFor' = t_corners ∧ 2 ≤ t_lines' ∧ t_lines' ≤ 27 ∧ 0 ≤ i1' ∧ i1' < t_corners ∧ 0 ≤ i2' ∧ i2' < t_corners ∧ 0 ≤ i3' ∧ i3' < t_lines' ∧ 0 ≤ t_crossMany' ∧ t_crossMany' ≤ 5 ∧ t_crossMany' + 1 ≤ PCN t_own (i3' + 1) ∧ 0 ≤ i7' ∧ i7' ≤ t_crossMany' ∧ CH t_crossLine' t_crossMany' i7' t_lines')) (fun (s : zS_X11_cross) => match s with | (lab, i1', i2', i3', i6', i7', t_lines', t_linesFor', t_crossMany', t_numberOf', t_lesser', t_greater', t_crossLine', t_crossFar') => if lab = 0 then 5000 else if lab = 15 then (100 * (30 - i3') + 50).toNat else if lab = 153 then (100 * (30 - i3') + 20 + i7').toNat else if lab = 210 then (100 * (30 - i3') + 10).toNat else 0) (fun (o : zO_X11_cross) => (o.2.1) = t_corners ∧ TL t_corners (o.1) (o.2.2.2.1) (o.2.2.2.2.1) (o.2.2.2.2.2.1) ∧ TL (o.2.1) (o.1) (o.2.2.2.1) (o.2.2.2.2.1) (o.2.2.2.2.2.1) ∧ 2 ≤ (o.1) ∧ (o.1) ≤ 27 ∧ 0 ≤ (o.2.2.1) ∧ (o.2.2.1) ≤ 6 ∧ CV (o.2.2.2.2.2.2.1) (o.2.2.1) (o.1)) ?_ _ ?_ ?_
  · intro s hI
    obtain ⟨lab, i1', i2', i3', i6', i7', t_lines', t_linesFor', t_crossMany', t_numberOf', t_lesser', t_greater', t_crossLine', t_crossFar'⟩ := s
    have hI : (lab = 0 ∧ TL t_linesFor' t_lines' t_numberOf' t_lesser' t_greater' ∧ 0 ≤ i1' ∧ i1' < t_corners ∧ 0 ≤ i2' ∧ i2' < t_corners) ∨ (lab = 15 ∧ TL t_corners t_lines' t_numberOf' t_lesser' t_greater' ∧ TL t_linesFor' t_lines' t_numberOf' t_lesser' t_greater' ∧ t_linesFor' = t_corners ∧ 2 ≤ t_lines' ∧ t_lines' ≤ 27 ∧ 0 ≤ i1' ∧ i1' < t_corners ∧ 0 ≤ i2' ∧ i2' < t_corners ∧ 0 ≤ i3' ∧ i3' ≤ t_lines' ∧ 0 ≤ t_crossMany' ∧ t_crossMany' ≤ PCN t_own i3' ∧ CV t_crossLine' t_crossMany' t_lines') ∨ (lab = 153 ∧ TL t_corners t_lines' t_numberOf' t_lesser' t_greater' ∧ TL t_linesFor' t_lines' t_numberOf' t_lesser' t_greater' ∧ t_linesFor' = t_corners ∧ 2 ≤ t_lines' ∧ t_lines' ≤ 27 ∧ 0 ≤ i1' ∧ i1' < t_corners ∧ 0 ≤ i2' ∧ i2' < t_corners ∧ 0 ≤ i3' ∧ i3' < t_lines' ∧ 0 ≤ t_crossMany' ∧ t_crossMany' ≤ 5 ∧ t_crossMany' + 1 ≤ PCN t_own (i3' + 1) ∧ 0 ≤ i7' ∧ i7' ≤ t_crossMany' ∧ 0 ≤ i6' ∧ i6' ≤ 20 ∧ CH t_crossLine' t_crossMany' i7' t_lines') ∨ (lab = 210 ∧ TL t_corners t_lines' t_numberOf' t_lesser' t_greater' ∧ TL t_linesFor' t_lines' t_numberOf' t_lesser' t_greater' ∧ t_linesFor' = t_corners ∧ 2 ≤ t_lines' ∧ t_lines' ≤ 27 ∧ 0 ≤ i1' ∧ i1' < t_corners ∧ 0 ≤ i2' ∧ i2' < t_corners ∧ 0 ≤ i3' ∧ i3' < t_lines' ∧ 0 ≤ t_crossMany' ∧ t_crossMany' ≤ 5 ∧ t_crossMany' + 1 ≤ PCN t_own (i3' + 1) ∧ 0 ≤ i7' ∧ i7' ≤ t_crossMany' ∧ CH t_crossLine' t_crossMany' i7' t_lines') := hI
    rcases hI with ⟨rfl, v0_0, v0_1, v0_2, v0_3, v0_4⟩ | ⟨rfl, v15_0, v15_1, v15_2, v15_3, v15_4, v15_5, v15_6, v15_7, v15_8, v15_9, v15_10, v15_11, v15_12, v15_13⟩ | ⟨rfl, v153_0, v153_1, v153_2, v153_3, v153_4, v153_5, v153_6, v153_7, v153_8, v153_9, v153_10, v153_11, v153_12, v153_13, v153_14, v153_15, v153_16, v153_17, v153_18⟩ | ⟨rfl, v210_0, v210_1, v210_2, v210_3, v210_4, v210_5, v210_6, v210_7, v210_8, v210_9, v210_10, v210_11, v210_12, v210_13, v210_14, v210_15, v210_16⟩
    · show Go _ (zg_X11_cross_0 t_corners t_own i1' i2' i3' i6' i7' t_lines' t_linesFor' t_crossMany' t_numberOf' t_lesser' t_greater' t_crossLine' t_crossFar')
      unfold zg_X11_cross_0
      refine Go_bindP (oy_linesOf t_lines' t_linesFor' t_numberOf' t_lesser' t_greater' t_corners (by first | assumption | omega) (by first | assumption | omega) (by first | assumption | omega)) (fun o1 q1 => ?_)
      obtain ⟨q1_0, q1_1, q1_2, q1_3, q1_4⟩ := q1
      exact Go_i (show (((15 : Nat) = 0 ∧ TL ((o1.2.1)) ((o1.1)) ((o1.2.2.1)) ((o1.2.2.2.1)) ((o1.2.2.2.2)) ∧ 0 ≤ (i1') ∧ (i1') < t_corners ∧ 0 ≤ (i2') ∧ (i2') < t_corners) ∨ ((15 : Nat) = 15 ∧ TL t_corners ((o1.1)) ((o1.2.2.1)) ((o1.2.2.2.1)) ((o1.2.2.2.2)) ∧ TL ((o1.2.1)) ((o1.1)) ((o1.2.2.1)) ((o1.2.2.2.1)) ((o1.2.2.2.2)) ∧ ((o1.2.1)) = t_corners ∧ 2 ≤ ((o1.1)) ∧ ((o1.1)) ≤ 27 ∧ 0 ≤ (i1') ∧ (i1') < t_corners ∧ 0 ≤ (i2') ∧ (i2') < t_corners ∧ 0 ≤ ((0 : Int)) ∧ ((0 : Int)) ≤ ((o1.1)) ∧ 0 ≤ ((0 : Int)) ∧ ((0 : Int)) ≤ PCN t_own ((0 : Int)) ∧ CV (t_crossLine') ((0 : Int)) ((o1.1))) ∨ ((15 : Nat) = 153 ∧ TL t_corners ((o1.1)) ((o1.2.2.1)) ((o1.2.2.2.1)) ((o1.2.2.2.2)) ∧ TL ((o1.2.1)) ((o1.1)) ((o1.2.2.1)) ((o1.2.2.2.1)) ((o1.2.2.2.2)) ∧ ((o1.2.1)) = t_corners ∧ 2 ≤ ((o1.1)) ∧ ((o1.1)) ≤ 27 ∧ 0 ≤ (i1') ∧ (i1') < t_corners ∧ 0 ≤ (i2') ∧ (i2') < t_corners ∧ 0 ≤ ((0 : Int)) ∧ ((0 : Int)) < ((o1.1)) ∧ 0 ≤ ((0 : Int)) ∧ ((0 : Int)) ≤ 5 ∧ ((0 : Int)) + 1 ≤ PCN t_own (((0 : Int)) + 1) ∧ 0 ≤ (0) ∧ (0) ≤ ((0 : Int)) ∧ 0 ≤ (0) ∧ (0) ≤ 20 ∧ CH (t_crossLine') ((0 : Int)) (0) ((o1.1))) ∨ ((15 : Nat) = 210 ∧ TL t_corners ((o1.1)) ((o1.2.2.1)) ((o1.2.2.2.1)) ((o1.2.2.2.2)) ∧ TL ((o1.2.1)) ((o1.1)) ((o1.2.2.1)) ((o1.2.2.2.1)) ((o1.2.2.2.2)) ∧ ((o1.2.1)) = t_corners ∧ 2 ≤ ((o1.1)) ∧ ((o1.1)) ≤ 27 ∧ 0 ≤ (i1') ∧ (i1') < t_corners ∧ 0 ≤ (i2') ∧ (i2') < t_corners ∧ 0 ≤ ((0 : Int)) ∧ ((0 : Int)) < ((o1.1)) ∧ 0 ≤ ((0 : Int)) ∧ ((0 : Int)) ≤ 5 ∧ ((0 : Int)) + 1 ≤ PCN t_own (((0 : Int)) + 1) ∧ 0 ≤ (0) ∧ (0) ≤ ((0 : Int)) ∧ CH (t_crossLine') ((0 : Int)) (0) ((o1.1)))) ∧ (100 * (30 - ((0 : Int))) + 50).toNat < 5000 from ⟨Or.inr (Or.inl (⟨rfl, (by first | assumption | omega), (by first | assumption | omega), (by first | assumption | omega), (by first | assumption | omega), (by first | assumption | omega), (by first | assumption | omega), (by first | assumption | omega), (by first | assumption | omega), (by first | assumption | omega), (by first | assumption | omega), (by first | assumption | omega), (by first | assumption | omega), (by first | assumption | omega), (by exact CV_0 _ _)⟩)), by omega⟩)
    · show Go _ (zg_X11_cross_15 t_corners t_own i1' i2' i3' i6' i7' t_lines' t_linesFor' t_crossMany' t_numberOf' t_lesser' t_greater' t_crossLine' t_crossFar')
      unfold zg_X11_cross_15
      have pm := PC_mono (c := t_own) (l := i3') (by omega)
      have pl : i3' < t_lines' → PCN t_own (i3' + 1) ≤ 6 := fun h => PC_le p3 (by omega) (by omega)
      have pb : ¬ zandL (zshrL t_own i3') 1 = 0 → PCN t_own (i3' + 1) = PCN t_own i3' + 1 := fun h => PC_bit (by omega) h
      have p0' := PC_0 t_own
      have gl3 : i3' < t_lines' → 0 ≤ zget t_lesser' (Int.toNat i3') ∧ zget t_lesser' (Int.toNat i3') < t_corners := fun h => TL_less v15_0 (Int.toNat i3') (by omega)
      have gg3 : i3' < t_lines' → 0 ≤ zget t_greater' (Int.toNat i3') ∧ zget t_greater' (Int.toNat i3') < t_corners := fun h => TL_gr v15_0 (Int.toNat i3') (by omega)
      have pl0 : PCN t_own i3' ≤ 6 := PC_le p3 (by omega) (by omega)
      refine Go_chk (by unfold zout; omega) ?_
      refine Go_chk (by unfold zout; omega) ?_
      refine Go_ite (fun c2 => ?_) (fun c2 => ?_)
      · exact Go_i (show (t_linesFor') = t_corners ∧ TL t_corners (t_lines') (t_numberOf') (t_lesser') (t_greater') ∧ TL (t_linesFor') (t_lines') (t_numberOf') (t_lesser') (t_greater') ∧ 2 ≤ (t_lines') ∧ (t_lines') ≤ 27 ∧ 0 ≤ (t_crossMany') ∧ (t_crossMany') ≤ 6 ∧ CV (t_crossLine') (t_crossMany') (t_lines') from ⟨(by first | assumption | omega), (by first | assumption | omega), (by first | assumption | omega), (by first | assumption | omega), (by first | assumption | omega), (by first | assumption | omega), (by first | assumption | omega), (by first | assumption | omega)⟩)
      · have a3 := rshrL t_own i3'
        have a4 := randL (zshrL t_own i3') (1 : Int)
        refine Go_ite (fun c5 => ?_) (fun c5 => ?_)
        · exact Go_i (show (((15 : Nat) = 0 ∧ TL (t_linesFor') (t_lines') (t_numberOf') (t_lesser') (t_greater') ∧ 0 ≤ (i1') ∧ (i1') < t_corners ∧ 0 ≤ (i2') ∧ (i2') < t_corners) ∨ ((15 : Nat) = 15 ∧ TL t_corners (t_lines') (t_numberOf') (t_lesser') (t_greater') ∧ TL (t_linesFor') (t_lines') (t_numberOf') (t_lesser') (t_greater') ∧ (t_linesFor') = t_corners ∧ 2 ≤ (t_lines') ∧ (t_lines') ≤ 27 ∧ 0 ≤ (i1') ∧ (i1') < t_corners ∧ 0 ≤ (i2') ∧ (i2') < t_corners ∧ 0 ≤ ((i3' + (1 : Int))) ∧ ((i3' + (1 : Int))) ≤ (t_lines') ∧ 0 ≤ (t_crossMany') ∧ (t_crossMany') ≤ PCN t_own ((i3' + (1 : Int))) ∧ CV (t_crossLine') (t_crossMany') (t_lines')) ∨ ((15 : Nat) = 153 ∧ TL t_corners (t_lines') (t_numberOf') (t_lesser') (t_greater') ∧ TL (t_linesFor') (t_lines') (t_numberOf') (t_lesser') (t_greater') ∧ (t_linesFor') = t_corners ∧ 2 ≤ (t_lines') ∧ (t_lines') ≤ 27 ∧ 0 ≤ (i1') ∧ (i1') < t_corners ∧ 0 ≤ (i2') ∧ (i2') < t_corners ∧ 0 ≤ ((i3' + (1 : Int))) ∧ ((i3' + (1 : Int))) < (t_lines') ∧ 0 ≤ (t_crossMany') ∧ (t_crossMany') ≤ 5 ∧ (t_crossMany') + 1 ≤ PCN t_own (((i3' + (1 : Int))) + 1) ∧ 0 ≤ (0) ∧ (0) ≤ (t_crossMany') ∧ 0 ≤ (0) ∧ (0) ≤ 20 ∧ CH (t_crossLine') (t_crossMany') (0) (t_lines')) ∨ ((15 : Nat) = 210 ∧ TL t_corners (t_lines') (t_numberOf') (t_lesser') (t_greater') ∧ TL (t_linesFor') (t_lines') (t_numberOf') (t_lesser') (t_greater') ∧ (t_linesFor') = t_corners ∧ 2 ≤ (t_lines') ∧ (t_lines') ≤ 27 ∧ 0 ≤ (i1') ∧ (i1') < t_corners ∧ 0 ≤ (i2') ∧ (i2') < t_corners ∧ 0 ≤ ((i3' + (1 : Int))) ∧ ((i3' + (1 : Int))) < (t_lines') ∧ 0 ≤ (t_crossMany') ∧ (t_crossMany') ≤ 5 ∧ (t_crossMany') + 1 ≤ PCN t_own (((i3' + (1 : Int))) + 1) ∧ 0 ≤ (0) ∧ (0) ≤ (t_crossMany') ∧ CH (t_crossLine') (t_crossMany') (0) (t_lines'))) ∧ (100 * (30 - ((i3' + (1 : Int)))) + 50).toNat < (100 * (30 - i3') + 50).toNat from ⟨Or.inr (Or.inl (⟨rfl, (by first | assumption | omega), (by first | assumption | omega), (by first | assumption | omega), (by first | assumption | omega), (by first | assumption | omega), (by first | assumption | omega), (by first | assumption | omega), (by first | assumption | omega), (by first | assumption | omega), (by first | assumption | omega), (by first | assumption | omega), (by first | assumption | omega), (by first | assumption | omega), (by first | assumption | omega)⟩)), by omega⟩)
        · refine Go_chk (by omega) ?_
          have a6 := rget t_greater' (Int.toNat i3')
          have a7 := rget t_lesser' (Int.toNat i3')
          refine Go_bindP (ok_X11_isCross t_corners i1' i2' (zget t_lesser' (Int.toNat i3')) (zget t_greater' (Int.toNat i3')) (by first | assumption | omega) (by first | assumption | omega) (by first | assumption | omega) (by first | assumption | omega) (by first | assumption | omega) (by first | assumption | omega) (by first | assumption | omega) (by first | assumption | omega) (by first | assumption | omega) (by first | assumption | omega)) (fun o5 q8 => ?_)
          refine Go_ite (fun c9 => ?_) (fun c9 => ?_)
          · exact Go_i (show (((15 : Nat) = 0 ∧ TL (t_linesFor') (t_lines') (t_numberOf') (t_lesser') (t_greater') ∧ 0 ≤ (i1') ∧ (i1') < t_corners ∧ 0 ≤ (i2') ∧ (i2') < t_corners) ∨ ((15 : Nat) = 15 ∧ TL t_corners (t_lines') (t_numberOf') (t_lesser') (t_greater') ∧ TL (t_linesFor') (t_lines') (t_numberOf') (t_lesser') (t_greater') ∧ (t_linesFor') = t_corners ∧ 2 ≤ (t_lines') ∧ (t_lines') ≤ 27 ∧ 0 ≤ (i1') ∧ (i1') < t_corners ∧ 0 ≤ (i2') ∧ (i2') < t_corners ∧ 0 ≤ ((i3' + (1 : Int))) ∧ ((i3' + (1 : Int))) ≤ (t_lines') ∧ 0 ≤ (t_crossMany') ∧ (t_crossMany') ≤ PCN t_own ((i3' + (1 : Int))) ∧ CV (t_crossLine') (t_crossMany') (t_lines')) ∨ ((15 : Nat) = 153 ∧ TL t_corners (t_lines') (t_numberOf') (t_lesser') (t_greater') ∧ TL (t_linesFor') (t_lines') (t_numberOf') (t_lesser') (t_greater') ∧ (t_linesFor') = t_corners ∧ 2 ≤ (t_lines') ∧ (t_lines') ≤ 27 ∧ 0 ≤ (i1') ∧ (i1') < t_corners ∧ 0 ≤ (i2') ∧ (i2') < t_corners ∧ 0 ≤ ((i3' + (1 : Int))) ∧ ((i3' + (1 : Int))) < (t_lines') ∧ 0 ≤ (t_crossMany') ∧ (t_crossMany') ≤ 5 ∧ (t_crossMany') + 1 ≤ PCN t_own (((i3' + (1 : Int))) + 1) ∧ 0 ≤ (0) ∧ (0) ≤ (t_crossMany') ∧ 0 ≤ (0) ∧ (0) ≤ 20 ∧ CH (t_crossLine') (t_crossMany') (0) (t_lines')) ∨ ((15 : Nat) = 210 ∧ TL t_corners (t_lines') (t_numberOf') (t_lesser') (t_greater') ∧ TL (t_linesFor') (t_lines') (t_numberOf') (t_lesser') (t_greater') ∧ (t_linesFor') = t_corners ∧ 2 ≤ (t_lines') ∧ (t_lines') ≤ 27 ∧ 0 ≤ (i1') ∧ (i1') < t_corners ∧ 0 ≤ (i2') ∧ (i2') < t_corners ∧ 0 ≤ ((i3' + (1 : Int))) ∧ ((i3' + (1 : Int))) < (t_lines') ∧ 0 ≤ (t_crossMany') ∧ (t_crossMany') ≤ 5 ∧ (t_crossMany') + 1 ≤ PCN t_own (((i3' + (1 : Int))) + 1) ∧ 0 ≤ (0) ∧ (0) ≤ (t_crossMany') ∧ CH (t_crossLine') (t_crossMany') (0) (t_lines'))) ∧ (100 * (30 - ((i3' + (1 : Int)))) + 50).toNat < (100 * (30 - i3') + 50).toNat from ⟨Or.inr (Or.inl (⟨rfl, (by first | assumption | omega), (by first | assumption | omega), (by first | assumption | omega), (by first | assumption | omega), (by first | assumption | omega), (by first | assumption | omega), (by first | assumption | omega), (by first | assumption | omega), (by first | assumption | omega), (by first | assumption | omega), (by first | assumption | omega), (by first | assumption | omega), (by first | assumption | omega), (by first | assumption | omega)⟩)), by omega⟩)
          · refine Go_bindP (ok_X11_isBetween t_corners i1' (zget t_lesser' (Int.toNat i3')) i2' (by first | assumption | omega) (by first | assumption | omega) (by first | assumption | omega) (by first | assumption | omega) (by first | assumption | omega) (by first | assumption | omega) (by first | assumption | omega) (by first | assumption | omega)) (fun o6 q10 => ?_)
            refine Go_ite (fun c11 => ?_) (fun c11 => ?_)
            · refine Go_chk (by unfold zout; omega) ?_
              refine Go_chk (by unfold zout; omega) ?_
              refine Go_chk (by omega) ?_
              refine Go_chk (by unfold zout; omega) ?_
              refine Go_chk (by omega) ?_
              have a12 := rtmod (a := (((zget t_greater' (Int.toNat i3')) - i1') + t_corners)) (b := t_corners) (by omega) (by omega)
              have a13 := rtmod (a := ((i1' - (((zget t_lesser' (Int.toNat i3')) + (zget t_greater' (Int.toNat i3'))) - (zget t_greater' (Int.toNat i3')))) + t_corners)) (b := t_corners) (by omega) (by omega)
              exact Go_i (show (((153 : Nat) = 0 ∧ TL (t_linesFor') (t_lines') (t_numberOf') (t_lesser') (t_greater') ∧ 0 ≤ (i1') ∧ (i1') < t_corners ∧ 0 ≤ (i2') ∧ (i2') < t_corners) ∨ ((153 : Nat) = 15 ∧ TL t_corners (t_lines') (t_numberOf') (t_lesser') (t_greater') ∧ TL (t_linesFor') (t_lines') (t_numberOf') (t_lesser') (t_greater') ∧ (t_linesFor') = t_corners ∧ 2 ≤ (t_lines') ∧ (t_lines') ≤ 27 ∧ 0 ≤ (i1') ∧ (i1') < t_corners ∧ 0 ≤ (i2') ∧ (i2') < t_corners ∧ 0 ≤ (i3') ∧ (i3') ≤ (t_lines') ∧ 0 ≤ (t_crossMany') ∧ (t_crossMany') ≤ PCN t_own (i3') ∧ CV (t_crossLine') (t_crossMany') (t_lines')) ∨ ((153 : Nat) = 153 ∧ TL t_corners (t_lines') (t_numberOf') (t_lesser') (t_greater') ∧ TL (t_linesFor') (t_lines') (t_numberOf') (t_lesser') (t_greater') ∧ (t_linesFor') = t_corners ∧ 2 ≤ (t_lines') ∧ (t_lines') ≤ 27 ∧ 0 ≤ (i1') ∧ (i1') < t_corners ∧ 0 ≤ (i2') ∧ (i2') < t_corners ∧ 0 ≤ (i3') ∧ (i3') < (t_lines') ∧ 0 ≤ (t_crossMany') ∧ (t_crossMany') ≤ 5 ∧ (t_crossMany') + 1 ≤ PCN t_own ((i3') + 1) ∧ 0 ≤ (t_crossMany') ∧ (t_crossMany') ≤ (t_crossMany') ∧ 0 ≤ (((Int.tmod (((zget t_greater' (Int.toNat i3')) - i1') + t_corners) t_corners) + (Int.tmod ((i1' - (((zget t_lesser' (Int.toNat i3')) + (zget t_greater' (Int.toNat i3'))) - (zget t_greater' (Int.toNat i3')))) + t_corners) t_corners))) ∧ (((Int.tmod (((zget t_greater' (Int.toNat i3')) - i1') + t_corners) t_corners) + (Int.tmod ((i1' - (((zget t_lesser' (Int.toNat i3')) + (zget t_greater' (Int.toNat i3'))) - (zget t_greater' (Int.toNat i3')))) + t_corners) t_corners))) ≤ 20 ∧ CH (t_crossLine') (t_crossMany') (t_crossMany') (t_lines')) ∨ ((153 : Nat) = 210 ∧ TL t_corners (t_lines') (t_numberOf') (t_lesser') (t_greater') ∧ TL (t_linesFor') (t_lines') (t_numberOf') (t_lesser') (t_greater') ∧ (t_linesFor') = t_corners ∧ 2 ≤ (t_lines') ∧ (t_lines') ≤ 27 ∧ 0 ≤ (i1') ∧ (i1') < t_corners ∧ 0 ≤ (i2') ∧ (i2') < t_corners ∧ 0 ≤ (i3') ∧ (i3') < (t_lines') ∧ 0 ≤ (t_crossMany') ∧ (t_crossMany') ≤ 5 ∧ (t_crossMany') + 1 ≤ PCN t_own ((i3') + 1) ∧ 0 ≤ (t_crossMany') ∧ (t_crossMany') ≤ (t_crossMany') ∧ CH (t_crossLine') (t_crossMany') (t_crossMany') (t_lines'))) ∧ (100 * (30 - (i3')) + 20 + (t_crossMany')).toNat < (100 * (30 - i3') + 50).toNat from ⟨Or.inr (Or.inr (Or.inl (⟨rfl, (by first | assumption | omega), (by first | assumption | omega), (by first | assumption | omega), (by first | assumption | omega), (by first | assumption | omega), (by first | assumption | omega), (by first | assumption | omega), (by first | assumption | omega), (by first | assumption | omega), (by first | assumption | omega), (by first | assumption | omega), (by first | assumption | omega), (by first | assumption | omega), (by first | assumption | omega), (by first | assumption | omega), (by first | assumption | omega), (by first | assumption | omega), (by first | assumption | omega), (by first | assumption | exact CH_of (by assumption))⟩))), by omega⟩)
            · refine Go_chk (by unfold zout; omega) ?_
              refine Go_chk (by unfold zout; omega) ?_
              refine Go_chk (by omega) ?_
              refine Go_chk (by unfold zout; omega) ?_
              refine Go_chk (by omega) ?_
              have a14 := rtmod (a := (((zget t_lesser' (Int.toNat i3')) - i1') + t_corners)) (b := t_corners) (by omega) (by omega)
              have a15 := rtmod (a := ((i1' - (((zget t_lesser' (Int.toNat i3')) + (zget t_greater' (Int.toNat i3'))) - (zget t_lesser' (Int.toNat i3')))) + t_corners)) (b := t_corners) (by omega) (by omega)
              exact Go_i (show (((153 : Nat) = 0 ∧ TL (t_linesFor') (t_lines') (t_numberOf') (t_lesser') (t_greater') ∧ 0 ≤ (i1') ∧ (i1') < t_corners ∧ 0 ≤ (i2') ∧ (i2') < t_corners) ∨ ((153 : Nat) = 15 ∧ TL t_corners (t_lines') (t_numberOf') (t_lesser') (t_greater') ∧ TL (t_linesFor') (t_lines') (t_numberOf') (t_lesser') (t_greater') ∧ (t_linesFor') = t_corners ∧ 2 ≤ (t_lines') ∧ (t_lines') ≤ 27 ∧ 0 ≤ (i1') ∧ (i1') < t_corners ∧ 0 ≤ (i2') ∧ (i2') < t_corners ∧ 0 ≤ (i3') ∧ (i3') ≤ (t_lines') ∧ 0 ≤ (t_crossMany') ∧ (t_crossMany') ≤ PCN t_own (i3') ∧ CV (t_crossLine') (t_crossMany') (t_lines')) ∨ ((153 : Nat) = 153 ∧ TL t_corners (t_lines') (t_numberOf') (t_lesser') (t_greater') ∧ TL (t_linesFor') (t_lines') (t_numberOf') (t_lesser') (t_greater') ∧ (t_linesFor') = t_corners ∧ 2 ≤ (t_lines') ∧ (t_lines') ≤ 27 ∧ 0 ≤ (i1') ∧ (i1') < t_corners ∧ 0 ≤ (i2') ∧ (i2') < t_corners ∧ 0 ≤ (i3') ∧ (i3') < (t_lines') ∧ 0 ≤ (t_crossMany') ∧ (t_crossMany') ≤ 5 ∧ (t_crossMany') + 1 ≤ PCN t_own ((i3') + 1) ∧ 0 ≤ (t_crossMany') ∧ (t_crossMany') ≤ (t_crossMany') ∧ 0 ≤ (((Int.tmod (((zget t_lesser' (Int.toNat i3')) - i1') + t_corners) t_corners) + (Int.tmod ((i1' - (((zget t_lesser' (Int.toNat i3')) + (zget t_greater' (Int.toNat i3'))) - (zget t_lesser' (Int.toNat i3')))) + t_corners) t_corners))) ∧ (((Int.tmod (((zget t_lesser' (Int.toNat i3')) - i1') + t_corners) t_corners) + (Int.tmod ((i1' - (((zget t_lesser' (Int.toNat i3')) + (zget t_greater' (Int.toNat i3'))) - (zget t_lesser' (Int.toNat i3')))) + t_corners) t_corners))) ≤ 20 ∧ CH (t_crossLine') (t_crossMany') (t_crossMany') (t_lines')) ∨ ((153 : Nat) = 210 ∧ TL t_corners (t_lines') (t_numberOf') (t_lesser') (t_greater') ∧ TL (t_linesFor') (t_lines') (t_numberOf') (t_lesser') (t_greater') ∧ (t_linesFor') = t_corners ∧ 2 ≤ (t_lines') ∧ (t_lines') ≤ 27 ∧ 0 ≤ (i1') ∧ (i1') < t_corners ∧ 0 ≤ (i2') ∧ (i2') < t_corners ∧ 0 ≤ (i3') ∧ (i3') < (t_lines') ∧ 0 ≤ (t_crossMany') ∧ (t_crossMany') ≤ 5 ∧ (t_crossMany') + 1 ≤ PCN t_own ((i3') + 1) ∧ 0 ≤ (t_crossMany') ∧ (t_crossMany') ≤ (t_crossMany') ∧ CH (t_crossLine') (t_crossMany') (t_crossMany') (t_lines'))) ∧ (100 * (30 - (i3')) + 20 + (t_crossMany')).toNat < (100 * (30 - i3') + 50).toNat from ⟨Or.inr (Or.inr (Or.inl (⟨rfl, (by first | assumption | omega), (by first | assumption | omega), (by first | assumption | omega), (by first | assumption | omega), (by first | assumption | omega), (by first | assumption | omega), (by first | assumption | omega), (by first | assumption | omega), (by first | assumption | omega), (by first | assumption | omega), (by first | assumption | omega), (by first | assumption | omega), (by first | assumption | omega), (by first | assumption | omega), (by first | assumption | omega), (by first | assumption | omega), (by first | assumption | omega), (by first | assumption | omega), (by first | assumption | exact CH_of (by assumption))⟩))), by omega⟩)
    · show Go _ (zg_X11_cross_153 t_corners t_own i1' i2' i3' i6' i7' t_lines' t_linesFor' t_crossMany' t_numberOf' t_lesser' t_greater' t_crossLine' t_crossFar')
      unfold zg_X11_cross_153
      refine Go_chk (by unfold zout; omega) ?_
      refine Go_ite (fun c16 => ?_) (fun c16 => ?_)
      · exact Go_i (show (((210 : Nat) = 0 ∧ TL (t_linesFor') (t_lines') (t_numberOf') (t_lesser') (t_greater') ∧ 0 ≤ (i1') ∧ (i1') < t_corners ∧ 0 ≤ (i2') ∧ (i2') < t_corners) ∨ ((210 : Nat) = 15 ∧ TL t_corners (t_lines') (t_numberOf') (t_lesser') (t_greater') ∧ TL (t_linesFor') (t_lines') (t_numberOf') (t_lesser') (t_greater') ∧ (t_linesFor') = t_corners ∧ 2 ≤ (t_lines') ∧ (t_lines') ≤ 27 ∧ 0 ≤ (i1') ∧ (i1') < t_corners ∧ 0 ≤ (i2') ∧ (i2') < t_corners ∧ 0 ≤ (i3') ∧ (i3') ≤ (t_lines') ∧ 0 ≤ (t_crossMany') ∧ (t_crossMany') ≤ PCN t_own (i3') ∧ CV (t_crossLine') (t_crossMany') (t_lines')) ∨ ((210 : Nat) = 153 ∧ TL t_corners (t_lines') (t_numberOf') (t_lesser') (t_greater') ∧ TL (t_linesFor') (t_lines') (t_numberOf') (t_lesser') (t_greater') ∧ (t_linesFor') = t_corners ∧ 2 ≤ (t_lines') ∧ (t_lines') ≤ 27 ∧ 0 ≤ (i1') ∧ (i1') < t_corners ∧ 0 ≤ (i2') ∧ (i2') < t_corners ∧ 0 ≤ (i3') ∧ (i3') < (t_lines') ∧ 0 ≤ (t_crossMany') ∧ (t_crossMany') ≤ 5 ∧ (t_crossMany') + 1 ≤ PCN t_own ((i3') + 1) ∧ 0 ≤ (i7') ∧ (i7') ≤ (t_crossMany') ∧ 0 ≤ (i6') ∧ (i6') ≤ 20 ∧ CH (t_crossLine') (t_crossMany') (i7') (t_lines')) ∨ ((210 : Nat) = 210 ∧ TL t_corners (t_lines') (t_numberOf') (t_lesser') (t_greater') ∧ TL (t_linesFor') (t_lines') (t_numberOf') (t_lesser') (t_greater') ∧ (t_linesFor') = t_corners ∧ 2 ≤ (t_lines') ∧ (t_lines') ≤ 27 ∧ 0 ≤ (i1') ∧ (i1') < t_corners ∧ 0 ≤ (i2') ∧ (i2') < t_corners ∧ 0 ≤ (i3') ∧ (i3') < (t_lines') ∧ 0 ≤ (t_crossMany') ∧ (t_crossMany') ≤ 5 ∧ (t_crossMany') + 1 ≤ PCN t_own ((i3') + 1) ∧ 0 ≤ (i7') ∧ (i7') ≤ (t_crossMany') ∧ CH (t_crossLine') (t_crossMany') (i7') (t_lines'))) ∧ (100 * (30 - (i3')) + 10).toNat < (100 * (30 - i3') + 20 + i7').toNat from ⟨Or.inr (Or.inr (Or.inr (⟨rfl, (by first | assumption | omega), (by first | assumption | omega), (by first | assumption | omega), (by first | assumption | omega), (by first | assumption | omega), (by first | assumption | omega), (by first | assumption | omega), (by first | assumption | omega), (by first | assumption | omega), (by first | assumption | omega), (by first | assumption | omega), (by first | assumption | omega), (by first | assumption | omega), (by first | assumption | omega), (by first | assumption | omega), (by first | assumption | omega), (by first | assumption | exact CH_of (by assumption))⟩))), by omega⟩)
      · refine Go_chk (by omega) ?_
        refine Go_chk (by unfold zout; omega) ?_
        have a17 := rget t_crossFar' (Int.toNat (i7' - (1 : Int)))
        refine Go_ite (fun c18 => ?_) (fun c18 => ?_)
        · exact Go_i (show (((210 : Nat) = 0 ∧ TL (t_linesFor') (t_lines') (t_numberOf') (t_lesser') (t_greater') ∧ 0 ≤ (i1') ∧ (i1') < t_corners ∧ 0 ≤ (i2') ∧ (i2') < t_corners) ∨ ((210 : Nat) = 15 ∧ TL t_corners (t_lines') (t_numberOf') (t_lesser') (t_greater') ∧ TL (t_linesFor') (t_lines') (t_numberOf') (t_lesser') (t_greater') ∧ (t_linesFor') = t_corners ∧ 2 ≤ (t_lines') ∧ (t_lines') ≤ 27 ∧ 0 ≤ (i1') ∧ (i1') < t_corners ∧ 0 ≤ (i2') ∧ (i2') < t_corners ∧ 0 ≤ (i3') ∧ (i3') ≤ (t_lines') ∧ 0 ≤ (t_crossMany') ∧ (t_crossMany') ≤ PCN t_own (i3') ∧ CV (t_crossLine') (t_crossMany') (t_lines')) ∨ ((210 : Nat) = 153 ∧ TL t_corners (t_lines') (t_numberOf') (t_lesser') (t_greater') ∧ TL (t_linesFor') (t_lines') (t_numberOf') (t_lesser') (t_greater') ∧ (t_linesFor') = t_corners ∧ 2 ≤ (t_lines') ∧ (t_lines') ≤ 27 ∧ 0 ≤ (i1') ∧ (i1') < t_corners ∧ 0 ≤ (i2') ∧ (i2') < t_corners ∧ 0 ≤ (i3') ∧ (i3') < (t_lines') ∧ 0 ≤ (t_crossMany') ∧ (t_crossMany') ≤ 5 ∧ (t_crossMany') + 1 ≤ PCN t_own ((i3') + 1) ∧ 0 ≤ (i7') ∧ (i7') ≤ (t_crossMany') ∧ 0 ≤ (i6') ∧ (i6') ≤ 20 ∧ CH (t_crossLine') (t_crossMany') (i7') (t_lines')) ∨ ((210 : Nat) = 210 ∧ TL t_corners (t_lines') (t_numberOf') (t_lesser') (t_greater') ∧ TL (t_linesFor') (t_lines') (t_numberOf') (t_lesser') (t_greater') ∧ (t_linesFor') = t_corners ∧ 2 ≤ (t_lines') ∧ (t_lines') ≤ 27 ∧ 0 ≤ (i1') ∧ (i1') < t_corners ∧ 0 ≤ (i2') ∧ (i2') < t_corners ∧ 0 ≤ (i3') ∧ (i3') < (t_lines') ∧ 0 ≤ (t_crossMany') ∧ (t_crossMany') ≤ 5 ∧ (t_crossMany') + 1 ≤ PCN t_own ((i3') + 1) ∧ 0 ≤ (i7') ∧ (i7') ≤ (t_crossMany') ∧ CH (t_crossLine') (t_crossMany') (i7') (t_lines'))) ∧ (100 * (30 - (i3')) + 10).toNat < (100 * (30 - i3') + 20 + i7').toNat from ⟨Or.inr (Or.inr (Or.inr (⟨rfl, (by first | assumption | omega), (by first | assumption | omega), (by first | assumption | omega), (by first | assumption | omega), (by first | assumption | omega), (by first | assumption | omega), (by first | assumption | omega), (by first | assumption | omega), (by first | assumption | omega), (by first | assumption | omega), (by first | assumption | omega), (by first | assumption | omega), (by first | assumption | omega), (by first | assumption | omega), (by first | assumption | omega), (by first | assumption | omega), (by first | assumption | exact CH_of (by assumption))⟩))), by omega⟩)
        · refine Go_chk (by omega) ?_
          have a19 := rget t_crossLine' (Int.toNat (i7' - (1 : Int)))
          exact Go_i (show (((153 : Nat) = 0 ∧ TL (t_linesFor') (t_lines') (t_numberOf') (t_lesser') (t_greater') ∧ 0 ≤ (i1') ∧ (i1') < t_corners ∧ 0 ≤ (i2') ∧ (i2') < t_corners) ∨ ((153 : Nat) = 15 ∧ TL t_corners (t_lines') (t_numberOf') (t_lesser') (t_greater') ∧ TL (t_linesFor') (t_lines') (t_numberOf') (t_lesser') (t_greater') ∧ (t_linesFor') = t_corners ∧ 2 ≤ (t_lines') ∧ (t_lines') ≤ 27 ∧ 0 ≤ (i1') ∧ (i1') < t_corners ∧ 0 ≤ (i2') ∧ (i2') < t_corners ∧ 0 ≤ (i3') ∧ (i3') ≤ (t_lines') ∧ 0 ≤ (t_crossMany') ∧ (t_crossMany') ≤ PCN t_own (i3') ∧ CV ((zset t_crossLine' (Int.toNat i7') (zget t_crossLine' (Int.toNat (i7' - (1 : Int)))))) (t_crossMany') (t_lines')) ∨ ((153 : Nat) = 153 ∧ TL t_corners (t_lines') (t_numberOf') (t_lesser') (t_greater') ∧ TL (t_linesFor') (t_lines') (t_numberOf') (t_lesser') (t_greater') ∧ (t_linesFor') = t_corners ∧ 2 ≤ (t_lines') ∧ (t_lines') ≤ 27 ∧ 0 ≤ (i1') ∧ (i1') < t_corners ∧ 0 ≤ (i2') ∧ (i2') < t_corners ∧ 0 ≤ (i3') ∧ (i3') < (t_lines') ∧ 0 ≤ (t_crossMany') ∧ (t_crossMany') ≤ 5 ∧ (t_crossMany') + 1 ≤ PCN t_own ((i3') + 1) ∧ 0 ≤ ((i7' + (-1 : Int))) ∧ ((i7' + (-1 : Int))) ≤ (t_crossMany') ∧ 0 ≤ (i6') ∧ (i6') ≤ 20 ∧ CH ((zset t_crossLine' (Int.toNat i7') (zget t_crossLine' (Int.toNat (i7' - (1 : Int)))))) (t_crossMany') ((i7' + (-1 : Int))) (t_lines')) ∨ ((153 : Nat) = 210 ∧ TL t_corners (t_lines') (t_numberOf') (t_lesser') (t_greater') ∧ TL (t_linesFor') (t_lines') (t_numberOf') (t_lesser') (t_greater') ∧ (t_linesFor') = t_corners ∧ 2 ≤ (t_lines') ∧ (t_lines') ≤ 27 ∧ 0 ≤ (i1') ∧ (i1') < t_corners ∧ 0 ≤ (i2') ∧ (i2') < t_corners ∧ 0 ≤ (i3') ∧ (i3') < (t_lines') ∧ 0 ≤ (t_crossMany') ∧ (t_crossMany') ≤ 5 ∧ (t_crossMany') + 1 ≤ PCN t_own ((i3') + 1) ∧ 0 ≤ ((i7' + (-1 : Int))) ∧ ((i7' + (-1 : Int))) ≤ (t_crossMany') ∧ CH ((zset t_crossLine' (Int.toNat i7') (zget t_crossLine' (Int.toNat (i7' - (1 : Int)))))) (t_crossMany') ((i7' + (-1 : Int))) (t_lines'))) ∧ (100 * (30 - (i3')) + 20 + ((i7' + (-1 : Int)))).toNat < (100 * (30 - i3') + 20 + i7').toNat from ⟨Or.inr (Or.inr (Or.inl (⟨rfl, (by first | assumption | omega), (by first | assumption | omega), (by first | assumption | omega), (by first | assumption | omega), (by first | assumption | omega), (by first | assumption | omega), (by first | assumption | omega), (by first | assumption | omega), (by first | assumption | omega), (by first | assumption | omega), (by first | assumption | omega), (by first | assumption | omega), (by first | assumption | omega), (by first | assumption | omega), (by first | assumption | omega), (by first | assumption | omega), (by first | assumption | omega), (by first | assumption | omega), (by exact CH_shift (by assumption) (by omega) (by omega) (by omega))⟩))), by omega⟩)
    · show Go _ (zg_X11_cross_210 t_corners t_own i1' i2' i3' i6' i7' t_lines' t_linesFor' t_crossMany' t_numberOf' t_lesser' t_greater' t_crossLine' t_crossFar')
      unfold zg_X11_cross_210
      refine Go_chk (by omega) ?_
      exact Go_i (show (((15 : Nat) = 0 ∧ TL (t_linesFor') (t_lines') (t_numberOf') (t_lesser') (t_greater') ∧ 0 ≤ (i1') ∧ (i1') < t_corners ∧ 0 ≤ (i2') ∧ (i2') < t_corners) ∨ ((15 : Nat) = 15 ∧ TL t_corners (t_lines') (t_numberOf') (t_lesser') (t_greater') ∧ TL (t_linesFor') (t_lines') (t_numberOf') (t_lesser') (t_greater') ∧ (t_linesFor') = t_corners ∧ 2 ≤ (t_lines') ∧ (t_lines') ≤ 27 ∧ 0 ≤ (i1') ∧ (i1') < t_corners ∧ 0 ≤ (i2') ∧ (i2') < t_corners ∧ 0 ≤ ((i3' + (1 : Int))) ∧ ((i3' + (1 : Int))) ≤ (t_lines') ∧ 0 ≤ ((t_crossMany' + (1 : Int))) ∧ ((t_crossMany' + (1 : Int))) ≤ PCN t_own ((i3' + (1 : Int))) ∧ CV ((zset t_crossLine' (Int.toNat i7') i3')) ((t_crossMany' + (1 : Int))) (t_lines')) ∨ ((15 : Nat) = 153 ∧ TL t_corners (t_lines') (t_numberOf') (t_lesser') (t_greater') ∧ TL (t_linesFor') (t_lines') (t_numberOf') (t_lesser') (t_greater') ∧ (t_linesFor') = t_corners ∧ 2 ≤ (t_lines') ∧ (t_lines') ≤ 27 ∧ 0 ≤ (i1') ∧ (i1') < t_corners ∧ 0 ≤ (i2') ∧ (i2') < t_corners ∧ 0 ≤ ((i3' + (1 : Int))) ∧ ((i3' + (1 : Int))) < (t_lines') ∧ 0 ≤ ((t_crossMany' + (1 : Int))) ∧ ((t_crossMany' + (1 : Int))) ≤ 5 ∧ ((t_crossMany' + (1 : Int))) + 1 ≤ PCN t_own (((i3' + (1 : Int))) + 1) ∧ 0 ≤ (i7') ∧ (i7') ≤ ((t_crossMany' + (1 : Int))) ∧ 0 ≤ (i6') ∧ (i6') ≤ 20 ∧ CH ((zset t_crossLine' (Int.toNat i7') i3')) ((t_crossMany' + (1 : Int))) (i7') (t_lines')) ∨ ((15 : Nat) = 210 ∧ TL t_corners (t_lines') (t_numberOf') (t_lesser') (t_greater') ∧ TL (t_linesFor') (t_lines') (t_numberOf') (t_lesser') (t_greater') ∧ (t_linesFor') = t_corners ∧ 2 ≤ (t_lines') ∧ (t_lines') ≤ 27 ∧ 0 ≤ (i1') ∧ (i1') < t_corners ∧ 0 ≤ (i2') ∧ (i2') < t_corners ∧ 0 ≤ ((i3' + (1 : Int))) ∧ ((i3' + (1 : Int))) < (t_lines') ∧ 0 ≤ ((t_crossMany' + (1 : Int))) ∧ ((t_crossMany' + (1 : Int))) ≤ 5 ∧ ((t_crossMany' + (1 : Int))) + 1 ≤ PCN t_own (((i3' + (1 : Int))) + 1) ∧ 0 ≤ (i7') ∧ (i7') ≤ ((t_crossMany' + (1 : Int))) ∧ CH ((zset t_crossLine' (Int.toNat i7') i3')) ((t_crossMany' + (1 : Int))) (i7') (t_lines'))) ∧ (100 * (30 - ((i3' + (1 : Int)))) + 50).toNat < (100 * (30 - i3') + 10).toNat from ⟨Or.inr (Or.inl (⟨rfl, (by first | assumption | omega), (by first | assumption | omega), (by first | assumption | omega), (by first | assumption | omega), (by first | assumption | omega), (by first | assumption | omega), (by first | assumption | omega), (by first | assumption | omega), (by first | assumption | omega), (by first | assumption | omega), (by first | assumption | omega), (by first | assumption | omega), (by first | assumption | omega), (by exact CV_of (by assumption) (by omega) (by omega) (by omega) (by omega))⟩)), by omega⟩)
  · exact (show ((0 : Nat) = 0 ∧ TL t_linesFor t_lines t_numberOf t_lesser t_greater ∧ 0 ≤ i1 ∧ i1 < t_corners ∧ 0 ≤ i2 ∧ i2 < t_corners) ∨ ((0 : Nat) = 15 ∧ TL t_corners t_lines t_numberOf t_lesser t_greater ∧ TL t_linesFor t_lines t_numberOf t_lesser t_greater ∧ t_linesFor = t_corners ∧ 2 ≤ t_lines ∧ t_lines ≤ 27 ∧ 0 ≤ i1 ∧ i1 < t_corners ∧ 0 ≤ i2 ∧ i2 < t_corners ∧ 0 ≤ 0 ∧ 0 ≤ t_lines ∧ 0 ≤ t_crossMany ∧ t_crossMany ≤ PCN t_own 0 ∧ CV t_crossLine t_crossMany t_lines) ∨ ((0 : Nat) = 153 ∧ TL t_corners t_lines t_numberOf t_lesser t_greater ∧ TL t_linesFor t_lines t_numberOf t_lesser t_greater ∧ t_linesFor = t_corners ∧ 2 ≤ t_lines ∧ t_lines ≤ 27 ∧ 0 ≤ i1 ∧ i1 < t_corners ∧ 0 ≤ i2 ∧ i2 < t_corners ∧ 0 ≤ 0 ∧ 0 < t_lines ∧ 0 ≤ t_crossMany ∧ t_crossMany ≤ 5 ∧ t_crossMany + 1 ≤ PCN t_own (0 + 1) ∧ 0 ≤ 0 ∧ 0 ≤ t_crossMany ∧ 0 ≤ 0 ∧ 0 ≤ 20 ∧ CH t_crossLine t_crossMany 0 t_lines) ∨ ((0 : Nat) = 210 ∧ TL t_corners t_lines t_numberOf t_lesser t_greater ∧ TL t_linesFor t_lines t_numberOf t_lesser t_greater ∧ t_linesFor = t_corners ∧ 2 ≤ t_lines ∧ t_lines ≤ 27 ∧ 0 ≤ i1 ∧ i1 < t_corners ∧ 0 ≤ i2 ∧ i2 < t_corners ∧ 0 ≤ 0 ∧ 0 < t_lines ∧ 0 ≤ t_crossMany ∧ t_crossMany ≤ 5 ∧ t_crossMany + 1 ≤ PCN t_own (0 + 1) ∧ 0 ≤ 0 ∧ 0 ≤ t_crossMany ∧ CH t_crossLine t_crossMany 0 t_lines) from Or.inl (⟨rfl, (by first | assumption | omega), (by first | assumption | omega), (by first | assumption | omega), (by first | assumption | omega), (by first | assumption | omega)⟩))
  · show 5000 < jfuel
    unfold jfuel
    omega
set_option maxRecDepth 20000 in
theorem ok_X11_crossed (t_corners : Int) (t_lines : Int) (t_linesFor : Int) (t_own : Int) (t_crossMany : Int) (t_numberOf : Nat) (t_lesser : Nat) (t_greater : Nat) (t_crossLine : Nat) (t_crossFar : Nat) (i1 : Int) (i2 : Int) (i3 : Int) (p0 : TL t_linesFor t_lines t_numberOf t_lesser t_greater) (p1 : 4 ≤ t_corners) (p2 : t_corners ≤ 9) (p3 : CU t_corners t_own) (p4 : -2147483648 ≤ i1) (p5 : i1 ≤ 2147483647) (p6 : -2147483648 ≤ i2) (p7 : i2 ≤ 2147483647) (p8 : -2147483648 ≤ i3) (p9 : i3 ≤ 2147483647) : Go (fun o => TL (o.2.2.1) (o.2.1) (o.2.2.2.2.1) (o.2.2.2.2.2.1) (o.2.2.2.2.2.2.1)) (zf_X11_crossed t_corners t_lines t_linesFor t_own t_crossMany t_numberOf t_lesser t_greater t_crossLine t_crossFar i1 i2 i3) := by
  unfold zf_X11_crossed
  refine Go_bindP (ok_X11_isCorner t_corners i1 (by first | assumption | omega) (by first | assumption | omega) (by first | assumption | omega) (by first | assumption | omega)) (fun o1 q1 => ?_)
  obtain ⟨q1_0, q1_1⟩ := q1
  refine Go_ite (fun c2 => ?_) (fun c2 => ?_)
  · have dc2 := q1_1 c2
    exact Go_i (show TL (t_linesFor) (t_lines) (t_numberOf) (t_lesser) (t_greater) from (by first | assumption | omega))
  · have dc2 := q1_0 (bnf c2)
    refine Go_bindP (ok_X11_isCorner t_corners i2 (by first | assumption | omega) (by first | assumption | omega) (by first | assumption | omega) (by first | assumption | omega)) (fun o2 q3 => ?_)
    obtain ⟨q3_0, q3_1⟩ := q3
    refine Go_ite (fun c4 => ?_) (fun c4 => ?_)
    · have dc4 := q3_1 c4
      exact Go_i (show TL (t_linesFor) (t_lines) (t_numberOf) (t_lesser) (t_greater) from (by first | assumption | omega))
    · have dc4 := q3_0 (bnf c4)
      refine Go_chk (by unfold zout; omega) ?_
      refine Go_chk (by unfold zout; omega) ?_
      refine Go_ite (fun c5 => ?_) (fun c5 => ?_)
      · exact Go_i (show TL (t_linesFor) (t_lines) (t_numberOf) (t_lesser) (t_greater) from (by first | assumption | omega))
      · refine Go_bindP (ok_X11_cross t_corners t_lines t_linesFor t_own t_crossMany t_numberOf t_lesser t_greater t_crossLine t_crossFar i1 i2 (by first | assumption | omega) (by first | assumption | omega) (by first | assumption | omega) (by first | assumption | omega) (by first | assumption | omega) (by first | assumption | omega) (by first | assumption | omega) (by first | assumption | omega)) (fun o5 q6 => ?_)
        obtain ⟨q6_0, q6_1, q6_2, q6_3, q6_4, q6_5, q6_6, q6_7⟩ := q6
        have cv3 : 0 ≤ i3 → i3 < o5.2.2.1 → 0 ≤ zget o5.2.2.2.2.2.2.1 (Int.toNat i3) ∧ zget o5.2.2.2.2.2.2.1 (Int.toNat i3) < o5.1 := fun a b => q6_7 (Int.toNat i3) (by omega)
        refine Go_chk (by unfold zout; omega) ?_
        refine Go_ite (fun c7 => ?_) (fun c7 => ?_)
        · exact Go_i (show TL ((o5.2.1)) ((o5.1)) ((o5.2.2.2.1)) ((o5.2.2.2.2.1)) ((o5.2.2.2.2.2.1)) from (by first | assumption | omega))
        · refine Go_bindP (ok_X11_in i3 (0 : Int) ((o5.2.2.1) - (1 : Int)) (by first | assumption | omega) (by first | assumption | omega) (by first | assumption | omega) (by first | assumption | omega) (by first | assumption | omega) (by first | assumption | omega)) (fun o7 q8 => ?_)
          obtain ⟨q8_0, q8_1⟩ := q8
          refine Go_ite (fun c9 => ?_) (fun c9 => ?_)
          · have dc9 := q8_1 c9
            exact Go_i (show TL ((o5.2.1)) ((o5.1)) ((o5.2.2.2.1)) ((o5.2.2.2.2.1)) ((o5.2.2.2.2.2.1)) from (by first | assumption | omega))
          · have dc9 := q8_0 (bnf c9)
            refine Go_chk (by omega) ?_
            have a10 := rget (o5.2.2.2.2.2.2.1) (Int.toNat i3)
            refine Go_chk (by omega) ?_
            have a11 := rget (o5.2.2.2.2.2.1) (Int.toNat (zget (o5.2.2.2.2.2.2.1) (Int.toNat i3)))
            have a12 := rget (o5.2.2.2.2.1) (Int.toNat (zget (o5.2.2.2.2.2.2.1) (Int.toNat i3)))
            exact Go_i (show TL ((o5.2.1)) ((o5.1)) ((o5.2.2.2.1)) ((o5.2.2.2.2.1)) ((o5.2.2.2.2.2.1)) from (by first | assumption | omega))
set_option maxRecDepth 20000 in
theorem ok_X11_side (t_corners : Int) (t_lines : Int) (t_linesFor : Int) (t_own : Int) (t_crossMany : Int) (t_numberOf : Nat) (t_lesser : Nat) (t_greater : Nat) (t_crossLine : Nat) (t_crossFar : Nat) (i1 : Int) (i2 : Int) (i3 : Int) (p0 : TL t_linesFor t_lines t_numberOf t_lesser t_greater) (p1 : 4 ≤ t_corners) (p2 : t_corners ≤ 9) (p3 : CU t_corners t_own) (p4 : -2147483648 ≤ i1) (p5 : i1 ≤ 2147483647) (p6 : -2147483648 ≤ i2) (p7 : i2 ≤ 2147483647) (p8 : -2147483648 ≤ i3) (p9 : i3 ≤ 2147483647) : Go (fun o => TL (o.2.2.1) (o.2.1) (o.2.2.2.2.1) (o.2.2.2.2.2.1) (o.2.2.2.2.2.2.1)) (zf_X11_side t_corners t_lines t_linesFor t_own t_crossMany t_numberOf t_lesser t_greater t_crossLine t_crossFar i1 i2 i3) := by
  unfold zf_X11_side
  refine jok (fun (s : zS_X11_side) => match s with | (lab, i1', i2', i3', i4', t_lines', t_linesFor', t_crossMany', t_numberOf', t_lesser', t_greater', t_crossLine', t_crossFar') => (lab = 0 ∧ TL t_linesFor' t_lines' t_numberOf' t_lesser' t_greater' ∧ -2147483648 ≤ i1' ∧ i1' ≤ 2147483647 ∧ -2147483648 ≤ i2' ∧ i2' ≤ 2147483647 ∧ -2147483648 ≤ i3' ∧ i3' ≤ 2147483647) ∨ (lab = 98 ∧ TL t_linesFor' t_lines' t_numberOf' t_lesser' t_greater' ∧ TL t_corners t_lines' t_numberOf' t_lesser' t_greater' ∧ 0 ≤ i1' ∧ i1' < t_corners ∧ 0 ≤ i2' ∧ i2' < t_corners ∧ 0 ≤ i4' ∧ i4' < t_lines')) (fun (s : zS_X11_side) => match s with | (lab, i1', i2', i3', i4', t_lines', t_linesFor', t_crossMany', t_numberOf', t_lesser', t_greater', t_crossLine', t_crossFar') => if lab = 0 then 50 else if lab = 98 then 10 else 0) (fun (o : zO_X11_side) => TL (o.2.2.1) (o.2.1) (o.2.2.2.2.1) (o.2.2.2.2.2.1) (o.2.2.2.2.2.2.1)) ?_ _ ?_ ?_
  · intro s hI
    obtain ⟨lab, i1', i2', i3', i4', t_lines', t_linesFor', t_crossMany', t_numberOf', t_lesser', t_greater', t_crossLine', t_crossFar'⟩ := s
    have hI : (lab = 0 ∧ TL t_linesFor' t_lines' t_numberOf' t_lesser' t_greater' ∧ -2147483648 ≤ i1' ∧ i1' ≤ 2147483647 ∧ -2147483648 ≤ i2' ∧ i2' ≤ 2147483647 ∧ -2147483648 ≤ i3' ∧ i3' ≤ 2147483647) ∨ (lab = 98 ∧ TL t_linesFor' t_lines' t_numberOf' t_lesser' t_greater' ∧ TL t_corners t_lines' t_numberOf' t_lesser' t_greater' ∧ 0 ≤ i1' ∧ i1' < t_corners ∧ 0 ≤ i2' ∧ i2' < t_corners ∧ 0 ≤ i4' ∧ i4' < t_lines') := hI
    rcases hI with ⟨rfl, v0_0, v0_1, v0_2, v0_3, v0_4, v0_5, v0_6⟩ | ⟨rfl, v98_0, v98_1, v98_2, v98_3, v98_4, v98_5, v98_6, v98_7⟩
    · show Go _ (zg_X11_side_0 t_corners t_own i1' i2' i3' i4' t_lines' t_linesFor' t_crossMany' t_numberOf' t_lesser' t_greater' t_crossLine' t_crossFar')
      unfold zg_X11_side_0
      refine Go_bindP (ok_X11_isCorner t_corners i1' (by first | assumption | omega) (by first | assumption | omega) (by first | assumption | omega) (by first | assumption | omega)) (fun o1 q1 => ?_)
      obtain ⟨q1_0, q1_1⟩ := q1
      refine Go_ite (fun c2 => ?_) (fun c2 => ?_)
      · have dc2 := q1_1 c2
        exact Go_i (show TL (t_linesFor') (t_lines') (t_numberOf') (t_lesser') (t_greater') from (by first | assumption | omega))
      · have dc2 := q1_0 (bnf c2)
        refine Go_bindP (ok_X11_isCorner t_corners i2' (by first | assumption | omega) (by first | assumption | omega) (by first | assumption | omega) (by first | assumption | omega)) (fun o2 q3 => ?_)
        obtain ⟨q3_0, q3_1⟩ := q3
        refine Go_ite (fun c4 => ?_) (fun c4 => ?_)
        · have dc4 := q3_1 c4
          exact Go_i (show TL (t_linesFor') (t_lines') (t_numberOf') (t_lesser') (t_greater') from (by first | assumption | omega))
        · have dc4 := q3_0 (bnf c4)
          refine Go_chk (by unfold zout; omega) ?_
          refine Go_chk (by unfold zout; omega) ?_
          refine Go_ite (fun c5 => ?_) (fun c5 => ?_)
          · exact Go_i (show TL (t_linesFor') (t_lines') (t_numberOf') (t_lesser') (t_greater') from (by first | assumption | omega))
          · refine Go_bindP (ok_X11_cross t_corners t_lines' t_linesFor' t_own t_crossMany' t_numberOf' t_lesser' t_greater' t_crossLine' t_crossFar' i1' i2' (by first | assumption | omega) (by first | assumption | omega) (by first | assumption | omega) (by first | assumption | omega) (by first | assumption | omega) (by first | assumption | omega) (by first | assumption | omega) (by first | assumption | omega)) (fun o5 q6 => ?_)
            obtain ⟨q6_0, q6_1, q6_2, q6_3, q6_4, q6_5, q6_6, q6_7⟩ := q6
            have cv3 : 0 ≤ i3' → i3' < o5.2.2.1 → 0 ≤ zget o5.2.2.2.2.2.2.1 (Int.toNat i3') ∧ zget o5.2.2.2.2.2.2.1 (Int.toNat i3') < o5.1 := fun a b => q6_7 (Int.toNat i3') (by omega)
            have cv4 : 0 ≤ i3' → i3' + 1 < o5.2.2.1 → 0 ≤ zget o5.2.2.2.2.2.2.1 (Int.toNat (i3' + (1 : Int))) ∧ zget o5.2.2.2.2.2.2.1 (Int.toNat (i3' + (1 : Int))) < o5.1 := fun a b => q6_7 (Int.toNat (i3' + (1 : Int))) (by omega)
            have g5 : 0 ≤ i3' → i3' < o5.2.2.1 → 0 ≤ zget o5.2.2.2.2.2.1 (Int.toNat (zget o5.2.2.2.2.2.2.1 (Int.toNat i3'))) ∧ zget o5.2.2.2.2.2.1 (Int.toNat (zget o5.2.2.2.2.2.2.1 (Int.toNat i3'))) < t_corners := fun a b => TL_gr q6_1 _ (by have := cv3 a b; omega)
            refine Go_bindP (ok_X11_in i3' (0 : Int) ((o5.2.2.1) - (2 : Int)) (by first | assumption | omega) (by first | assumption | omega) (by first | assumption | omega) (by first | assumption | omega) (by first | assumption | omega) (by first | assumption | omega)) (fun o6 q7 => ?_)
            obtain ⟨q7_0, q7_1⟩ := q7
            refine Go_ite (fun c8 => ?_) (fun c8 => ?_)
            · have dc8 := q7_1 c8
              exact Go_i (show TL ((o5.2.1)) ((o5.1)) ((o5.2.2.2.1)) ((o5.2.2.2.2.1)) ((o5.2.2.2.2.2.1)) from (by first | assumption | omega))
            · have dc8 := q7_0 (bnf c8)
              refine Go_chk (by omega) ?_
              refine Go_chk (by omega) ?_
              have a9 := rget (o5.2.2.2.2.2.2.1) (Int.toNat i3')
              refine Go_chk (by omega) ?_
              have a10 := rget (o5.2.2.2.2.2.2.1) (Int.toNat (i3' + (1 : Int)))
              refine Go_chk (by omega) ?_
              have a11 := rget (o5.2.2.2.2.1) (Int.toNat (zget (o5.2.2.2.2.2.2.1) (Int.toNat (i3' + (1 : Int)))))
              have a12 := rget (o5.2.2.2.2.1) (Int.toNat (zget (o5.2.2.2.2.2.2.1) (Int.toNat i3')))
              refine Go_ite (fun c13 => ?_) (fun c13 => ?_)
              · exact Go_i (show (((98 : Nat) = 0 ∧ TL ((o5.2.1)) ((o5.1)) ((o5.2.2.2.1)) ((o5.2.2.2.2.1)) ((o5.2.2.2.2.2.1)) ∧ -2147483648 ≤ (i1') ∧ (i1') ≤ 2147483647 ∧ -2147483648 ≤ (i2') ∧ (i2') ≤ 2147483647 ∧ -2147483648 ≤ (i3') ∧ (i3') ≤ 2147483647) ∨ ((98 : Nat) = 98 ∧ TL ((o5.2.1)) ((o5.1)) ((o5.2.2.2.1)) ((o5.2.2.2.2.1)) ((o5.2.2.2.2.2.1)) ∧ TL t_corners ((o5.1)) ((o5.2.2.2.1)) ((o5.2.2.2.2.1)) ((o5.2.2.2.2.2.1)) ∧ 0 ≤ (i1') ∧ (i1') < t_corners ∧ 0 ≤ (i2') ∧ (i2') < t_corners ∧ 0 ≤ ((zget (o5.2.2.2.2.2.2.1) (Int.toNat i3'))) ∧ ((zget (o5.2.2.2.2.2.2.1) (Int.toNat i3'))) < ((o5.1)))) ∧ 10 < 50 from ⟨Or.inr (⟨rfl, (by first | assumption | omega), (by first | assumption | omega), (by first | assumption | omega), (by first | assumption | omega), (by first | assumption | omega), (by first | assumption | omega), (by first | assumption | omega), (by first | assumption | omega)⟩), by omega⟩)
              · have a14 := rget (o5.2.2.2.2.2.1) (Int.toNat (zget (o5.2.2.2.2.2.2.1) (Int.toNat (i3' + (1 : Int)))))
                refine Go_ite (fun c15 => ?_) (fun c15 => ?_)
                · exact Go_i (show (((98 : Nat) = 0 ∧ TL ((o5.2.1)) ((o5.1)) ((o5.2.2.2.1)) ((o5.2.2.2.2.1)) ((o5.2.2.2.2.2.1)) ∧ -2147483648 ≤ (i1') ∧ (i1') ≤ 2147483647 ∧ -2147483648 ≤ (i2') ∧ (i2') ≤ 2147483647 ∧ -2147483648 ≤ (i3') ∧ (i3') ≤ 2147483647) ∨ ((98 : Nat) = 98 ∧ TL ((o5.2.1)) ((o5.1)) ((o5.2.2.2.1)) ((o5.2.2.2.2.1)) ((o5.2.2.2.2.2.1)) ∧ TL t_corners ((o5.1)) ((o5.2.2.2.1)) ((o5.2.2.2.2.1)) ((o5.2.2.2.2.2.1)) ∧ 0 ≤ (i1') ∧ (i1') < t_corners ∧ 0 ≤ (i2') ∧ (i2') < t_corners ∧ 0 ≤ ((zget (o5.2.2.2.2.2.2.1) (Int.toNat i3'))) ∧ ((zget (o5.2.2.2.2.2.2.1) (Int.toNat i3'))) < ((o5.1)))) ∧ 10 < 50 from ⟨Or.inr (⟨rfl, (by first | assumption | omega), (by first | assumption | omega), (by first | assumption | omega), (by first | assumption | omega), (by first | assumption | omega), (by first | assumption | omega), (by first | assumption | omega), (by first | assumption | omega)⟩), by omega⟩)
                · have a16 := rget (o5.2.2.2.2.2.1) (Int.toNat (zget (o5.2.2.2.2.2.2.1) (Int.toNat i3')))
                  refine Go_bindP (ok_X11_isBetween t_corners i1' (zget (o5.2.2.2.2.2.1) (Int.toNat (zget (o5.2.2.2.2.2.2.1) (Int.toNat i3')))) i2' (by first | assumption | omega) (by first | assumption | omega) (by first | assumption | omega) (by first | assumption | omega) (by first | assumption | omega) (by first | assumption | omega) (by first | assumption | omega) (by first | assumption | omega)) (fun o11 q17 => ?_)
                  refine Go_ite (fun c18 => ?_) (fun c18 => ?_)
                  · exact Go_i (show TL ((o5.2.1)) ((o5.1)) ((o5.2.2.2.1)) ((o5.2.2.2.2.1)) ((o5.2.2.2.2.2.1)) from (by first | assumption | omega))
                  · exact Go_i (show TL ((o5.2.1)) ((o5.1)) ((o5.2.2.2.1)) ((o5.2.2.2.2.1)) ((o5.2.2.2.2.2.1)) from (by first | assumption | omega))
    · show Go _ (zg_X11_side_98 t_corners t_own i1' i2' i3' i4' t_lines' t_linesFor' t_crossMany' t_numberOf' t_lesser' t_greater' t_crossLine' t_crossFar')
      unfold zg_X11_side_98
      have gl3 := TL_less v98_1 (Int.toNat i4') (by omega)
      have gn := TL_n v98_1
      refine Go_chk (by omega) ?_
      have a19 := rget t_lesser' (Int.toNat i4')
      refine Go_bindP (ok_X11_isBetween t_corners i1' (zget t_lesser' (Int.toNat i4')) i2' (by first | assumption | omega) (by first | assumption | omega) (by first | assumption | omega) (by first | assumption | omega) (by first | assumption | omega) (by first | assumption | omega) (by first | assumption | omega) (by first | assumption | omega)) (fun o20 q20 => ?_)
      refine Go_ite (fun c21 => ?_) (fun c21 => ?_)
      · exact Go_i (show TL (t_linesFor') (t_lines') (t_numberOf') (t_lesser') (t_greater') from (by first | assumption | omega))
      · exact Go_i (show TL (t_linesFor') (t_lines') (t_numberOf') (t_lesser') (t_greater') from (by first | assumption | omega))
  · exact (show ((0 : Nat) = 0 ∧ TL t_linesFor t_lines t_numberOf t_lesser t_greater ∧ -2147483648 ≤ i1 ∧ i1 ≤ 2147483647 ∧ -2147483648 ≤ i2 ∧ i2 ≤ 2147483647 ∧ -2147483648 ≤ i3 ∧ i3 ≤ 2147483647) ∨ ((0 : Nat) = 98 ∧ TL t_linesFor t_lines t_numberOf t_lesser t_greater ∧ TL t_corners t_lines t_numberOf t_lesser t_greater ∧ 0 ≤ i1 ∧ i1 < t_corners ∧ 0 ≤ i2 ∧ i2 < t_corners ∧ 0 ≤ 0 ∧ 0 < t_lines) from Or.inl (⟨rfl, (by first | assumption | omega), (by first | assumption | omega), (by first | assumption | omega), (by first | assumption | omega), (by first | assumption | omega), (by first | assumption | omega), (by first | assumption | omega)⟩))
  · show 50 < jfuel
    unfold jfuel
    omega
end

section
set_option maxRecDepth 20000 in
theorem ok_X11_fewest (t_corners : Int) (t_lines : Int) (t_linesFor : Int) (t_listMany : Int) (t_listCorners : Int) (t_own : Int) (t_flipOne : Int) (t_flipTwo : Int) (t_passedMany : Int) (t_numberOf : Nat) (t_lesser : Nat) (t_greater : Nat) (t_list : Nat) (t_far : Nat) (t_queue : Nat) (t_passedBy : Nat) (i1 : Int) (p0 : TL t_linesFor t_lines t_numberOf t_lesser t_greater) (p1 : LK t_listCorners t_listMany t_list) (p2 : 4 ≤ t_corners) (p3 : t_corners ≤ 9) (p4 : CU t_corners t_own) (p5 : -2147483648 ≤ i1) (p6 : i1 ≤ 2147483647) (p7 : 0 ≤ t_passedMany) (p8 : t_passedMany ≤ 64) : Go (fun o => TL (o.2.2.1) (o.2.1) (o.2.2.2.2.2.2.2.2.1) (o.2.2.2.2.2.2.2.2.2.1) (o.2.2.2.2.2.2.2.2.2.2.1) ∧ LK (o.2.2.2.2.1) (o.2.2.2.1) (o.2.2.2.2.2.2.2.2.2.2.2.1) ∧ 0 ≤ (o.2.2.2.2.2.2.2.1) ∧ (o.2.2.2.2.2.2.2.1) ≤ 64) (zf_X11_fewest t_corners t_lines t_linesFor t_listMany t_listCorners t_own t_flipOne t_flipTwo t_passedMany t_numberOf t_lesser t_greater t_list t_far t_queue t_passedBy i1) := by
  unfold zf_X11_fewest
  have cr := CU_rng p4
  refine jok (fun (s : zS_X11_fewest) => match s with | (lab, i1', i2', i3', i4', i5', i6', i8', t_lines', t_linesFor', t_listMany', t_listCorners', t_flipOne', t_flipTwo', t_passedMany', t_numberOf', t_lesser', t_greater', t_list', t_far', t_queue', t_passedBy') => (lab = 0 ∧ TL t_linesFor' t_lines' t_numberOf' t_lesser' t_greater' ∧ LK t_listCorners' t_listMany' t_list' ∧ -2147483648 ≤ i1' ∧ i1' ≤ 2147483647 ∧ 0 ≤ t_passedMany' ∧ t_passedMany' ≤ 64) ∨ (lab = 63 ∧ TL t_corners t_lines' t_numberOf' t_lesser' t_greater' ∧ TL t_linesFor' t_lines' t_numberOf' t_lesser' t_greater' ∧ LK t_corners t_listMany' t_list' ∧ LK t_listCorners' t_listMany' t_list' ∧ 2 ≤ t_listMany' ∧ t_listMany' ≤ 429 ∧ BFX t_corners t_far' ∧ 0 ≤ i3' ∧ i3' ≤ 62 ∧ 1 ≤ i4' ∧ t_passedMany' = i3' + 1 ∧ i4' ≤ i3' + 1 ∧ 0 ≤ i2' ∧ i2' < t_listMany' ∧ zget t_far' (Int.toNat i2') = i3' - i4' + 1) ∨ (lab = 83 ∧ TL t_corners t_lines' t_numberOf' t_lesser' t_greater' ∧ TL t_linesFor' t_lines' t_numberOf' t_lesser' t_greater' ∧ LK t_corners t_listMany' t_list' ∧ LK t_listCorners' t_listMany' t_list' ∧ 2 ≤ t_listMany' ∧ t_listMany' ≤ 429 ∧ BFX t_corners t_far' ∧ 0 ≤ i3' ∧ i3' ≤ 62 ∧ 1 ≤ i4' ∧ t_passedMany' = i3' + 1 ∧ i4' ≤ i3' ∧ FW t_corners t_far' i6' (i3' - i4') i8' i5' ∧ 0 ≤ i8' ∧ i8' ≤ t_lines')) (fun (s : zS_X11_fewest) => match s with | (lab, i1', i2', i3', i4', i5', i6', i8', t_lines', t_linesFor', t_listMany', t_listCorners', t_flipOne', t_flipTwo', t_passedMany', t_numberOf', t_lesser', t_greater', t_list', t_far', t_queue', t_passedBy') => if lab = 0 then 20000 else if lab = 63 then (100 * (100 - i4') + 60).toNat else if lab = 83 then (100 * (100 - i4') + 40 - i8').toNat else 0) (fun (o : zO_X11_fewest) => TL (o.2.2.1) (o.2.1) (o.2.2.2.2.2.2.2.2.1) (o.2.2.2.2.2.2.2.2.2.1) (o.2.2.2.2.2.2.2.2.2.2.1) ∧ LK (o.2.2.2.2.1) (o.2.2.2.1) (o.2.2.2.2.2.2.2.2.2.2.2.1) ∧ 0 ≤ (o.2.2.2.2.2.2.2.1) ∧ (o.2.2.2.2.2.2.2.1) ≤ 64) ?_ _ ?_ ?_
  · intro s hI
    obtain ⟨lab, i1', i2', i3', i4', i5', i6', i8', t_lines', t_linesFor', t_listMany', t_listCorners', t_flipOne', t_flipTwo', t_passedMany', t_numberOf', t_lesser', t_greater', t_list', t_far', t_queue', t_passedBy'⟩ := s
    have hI : (lab = 0 ∧ TL t_linesFor' t_lines' t_numberOf' t_lesser' t_greater' ∧ LK t_listCorners' t_listMany' t_list' ∧ -2147483648 ≤ i1' ∧ i1' ≤ 2147483647 ∧ 0 ≤ t_passedMany' ∧ t_passedMany' ≤ 64) ∨ (lab = 63 ∧ TL t_corners t_lines' t_numberOf' t_lesser' t_greater' ∧ TL t_linesFor' t_lines' t_numberOf' t_lesser' t_greater' ∧ LK t_corners t_listMany' t_list' ∧ LK t_listCorners' t_listMany' t_list' ∧ 2 ≤ t_listMany' ∧ t_listMany' ≤ 429 ∧ BFX t_corners t_far' ∧ 0 ≤ i3' ∧ i3' ≤ 62 ∧ 1 ≤ i4' ∧ t_passedMany' = i3' + 1 ∧ i4' ≤ i3' + 1 ∧ 0 ≤ i2' ∧ i2' < t_listMany' ∧ zget t_far' (Int.toNat i2') = i3' - i4' + 1) ∨ (lab = 83 ∧ TL t_corners t_lines' t_numberOf' t_lesser' t_greater' ∧ TL t_linesFor' t_lines' t_numberOf' t_lesser' t_greater' ∧ LK t_corners t_listMany' t_list' ∧ LK t_listCorners' t_listMany' t_list' ∧ 2 ≤ t_listMany' ∧ t_listMany' ≤ 429 ∧ BFX t_corners t_far' ∧ 0 ≤ i3' ∧ i3' ≤ 62 ∧ 1 ≤ i4' ∧ t_passedMany' = i3' + 1 ∧ i4' ≤ i3' ∧ FW t_corners t_far' i6' (i3' - i4') i8' i5' ∧ 0 ≤ i8' ∧ i8' ≤ t_lines') := hI
    rcases hI with ⟨rfl, v0_0, v0_1, v0_2, v0_3, v0_4, v0_5⟩ | ⟨rfl, v63_0, v63_1, v63_2, v63_3, v63_4, v63_5, v63_6, v63_7, v63_8, v63_9, v63_10, v63_11, v63_12, v63_13, v63_14⟩ | ⟨rfl, v83_0, v83_1, v83_2, v83_3, v83_4, v83_5, v83_6, v83_7, v83_8, v83_9, v83_10, v83_11, v83_12, v83_13, v83_14⟩
    · show Go _ (zg_X11_fewest_0 t_corners t_own i1' i2' i3' i4' i5' i6' i8' t_lines' t_linesFor' t_listMany' t_listCorners' t_flipOne' t_flipTwo' t_passedMany' t_numberOf' t_lesser' t_greater' t_list' t_far' t_queue' t_passedBy')
      unfold zg_X11_fewest_0
      refine Go_bindP (oy_listFor t_lines' t_linesFor' t_listMany' t_listCorners' t_numberOf' t_lesser' t_greater' t_list' t_corners (by first | assumption | omega) (by first | assumption | omega) (by first | assumption | omega) (by first | assumption | omega)) (fun o1 q1 => ?_)
      obtain ⟨q1_0, q1_1, q1_2, q1_3, q1_4, q1_5, q1_6, q1_7, q1_8, q1_9⟩ := q1
      refine Go_bindP (ok_X11_in i1' (0 : Int) ((o1.2.2.1) - (1 : Int)) (by first | assumption | omega) (by first | assumption | omega) (by first | assumption | omega) (by first | assumption | omega) (by first | assumption | omega) (by first | assumption | omega)) (fun o2 q2 => ?_)
      obtain ⟨q2_0, q2_1⟩ := q2
      refine Go_ite (fun c3 => ?_) (fun c3 => ?_)
      · have dc3 := q2_1 c3
        exact Go_i (show TL ((o1.2.1)) ((o1.1)) ((o1.2.2.2.2.1)) ((o1.2.2.2.2.2.1)) ((o1.2.2.2.2.2.2.1)) ∧ LK ((o1.2.2.2.1)) ((o1.2.2.1)) ((o1.2.2.2.2.2.2.2)) ∧ 0 ≤ (t_passedMany') ∧ (t_passedMany') ≤ 64 from ⟨(by first | assumption | omega), (by first | assumption | omega), (by first | assumption | omega), (by first | assumption | omega)⟩)
      · have dc3 := q2_0 (bnf c3)
        refine Go_bindP (oy_spread t_corners (o1.1) (o1.2.2.1) t_flipOne' t_flipTwo' (o1.2.2.2.2.1) (o1.2.2.2.2.2.1) (o1.2.2.2.2.2.2.1) (o1.2.2.2.2.2.2.2) t_far' t_queue' i1' (by first | assumption | omega) (by first | assumption | omega) (by first | assumption | omega) (by first | assumption | omega) (by first | assumption | omega) (by first | assumption | omega)) (fun o3 q4 => ?_)
        obtain ⟨q4_0, q4_1⟩ := q4
        have fbs := q4_1
        refine Go_bindP (oy_placeOf (o1.2.2.1) (o1.2.2.2.2.2.2.2) t_own (by first | assumption | omega) (by first | assumption | omega) (by first | assumption | omega) (by first | assumption | omega)) (fun o4 q5 => ?_)
        obtain ⟨q5_0, q5_1, q5_2⟩ := q5
        have fb := fbs (Int.toNat o4) (by omega)
        refine Go_chk (by omega) ?_
        have a6 := rget (o3.2.2.1) (Int.toNat o4)
        exact Go_i (show (((63 : Nat) = 0 ∧ TL ((o1.2.1)) ((o1.1)) ((o1.2.2.2.2.1)) ((o1.2.2.2.2.2.1)) ((o1.2.2.2.2.2.2.1)) ∧ LK ((o1.2.2.2.1)) ((o1.2.2.1)) ((o1.2.2.2.2.2.2.2)) ∧ -2147483648 ≤ (i1') ∧ (i1') ≤ 2147483647 ∧ 0 ≤ (((zget (o3.2.2.1) (Int.toNat o4)) + (1 : Int))) ∧ (((zget (o3.2.2.1) (Int.toNat o4)) + (1 : Int))) ≤ 64) ∨ ((63 : Nat) = 63 ∧ TL t_corners ((o1.1)) ((o1.2.2.2.2.1)) ((o1.2.2.2.2.2.1)) ((o1.2.2.2.2.2.2.1)) ∧ TL ((o1.2.1)) ((o1.1)) ((o1.2.2.2.2.1)) ((o1.2.2.2.2.2.1)) ((o1.2.2.2.2.2.2.1)) ∧ LK t_corners ((o1.2.2.1)) ((o1.2.2.2.2.2.2.2)) ∧ LK ((o1.2.2.2.1)) ((o1.2.2.1)) ((o1.2.2.2.2.2.2.2)) ∧ 2 ≤ ((o1.2.2.1)) ∧ ((o1.2.2.1)) ≤ 429 ∧ BFX t_corners ((o3.2.2.1)) ∧ 0 ≤ ((zget (o3.2.2.1) (Int.toNat o4))) ∧ ((zget (o3.2.2.1) (Int.toNat o4))) ≤ 62 ∧ 1 ≤ ((1 : Int)) ∧ (((zget (o3.2.2.1) (Int.toNat o4)) + (1 : Int))) = ((zget (o3.2.2.1) (Int.toNat o4))) + 1 ∧ ((1 : Int)) ≤ ((zget (o3.2.2.1) (Int.toNat o4))) + 1 ∧ 0 ≤ (o4) ∧ (o4) < ((o1.2.2.1)) ∧ zget ((o3.2.2.1)) (Int.toNat (o4)) = ((zget (o3.2.2.1) (Int.toNat o4))) - ((1 : Int)) + 1) ∨ ((63 : Nat) = 83 ∧ TL t_corners ((o1.1)) ((o1.2.2.2.2.1)) ((o1.2.2.2.2.2.1)) ((o1.2.2.2.2.2.2.1)) ∧ TL ((o1.2.1)) ((o1.1)) ((o1.2.2.2.2.1)) ((o1.2.2.2.2.2.1)) ((o1.2.2.2.2.2.2.1)) ∧ LK t_corners ((o1.2.2.1)) ((o1.2.2.2.2.2.2.2)) ∧ LK ((o1.2.2.2.1)) ((o1.2.2.1)) ((o1.2.2.2.2.2.2.2)) ∧ 2 ≤ ((o1.2.2.1)) ∧ ((o1.2.2.1)) ≤ 429 ∧ BFX t_corners ((o3.2.2.1)) ∧ 0 ≤ ((zget (o3.2.2.1) (Int.toNat o4))) ∧ ((zget (o3.2.2.1) (Int.toNat o4))) ≤ 62 ∧ 1 ≤ ((1 : Int)) ∧ (((zget (o3.2.2.1) (Int.toNat o4)) + (1 : Int))) = ((zget (o3.2.2.1) (Int.toNat o4))) + 1 ∧ ((1 : Int)) ≤ ((zget (o3.2.2.1) (Int.toNat o4))) ∧ FW t_corners ((o3.2.2.1)) (0) (((zget (o3.2.2.1) (Int.toNat o4))) - ((1 : Int))) (0) (0) ∧ 0 ≤ (0) ∧ (0) ≤ ((o1.1)))) ∧ (100 * (100 - ((1 : Int))) + 60).toNat < 20000 from ⟨Or.inr (Or.inl (⟨rfl, (by first | assumption | omega), (by first | assumption | omega), (by first | assumption | omega), (by first | assumption | omega), (by first | assumption | omega), (by first | assumption | omega), (by first | assumption | omega), (by first | assumption | omega), (by first | assumption | omega), (by first | assumption | omega), (by first | assumption | omega), (by first | assumption | omega), (by first | assumption | omega), (by first | assumption | omega), (by first | assumption | omega)⟩)), by omega⟩)
    · show Go _ (zg_X11_fewest_63 t_corners t_own i1' i2' i3' i4' i5' i6' i8' t_lines' t_linesFor' t_listMany' t_listCorners' t_flipOne' t_flipTwo' t_passedMany' t_numberOf' t_lesser' t_greater' t_list' t_far' t_queue' t_passedBy')
      unfold zg_X11_fewest_63
      have fwi : FW t_corners t_far' (zgetL t_list' (Int.toNat i2')) (i3' - i4') 0 (-1) := ⟨i2'.toNat, by have := v63_2.2.2.1; omega, v63_2.2.2.2 _ (by have := v63_2.2.2.1; omega), by omega, Or.inl ⟨rfl, fun l' o z0 z1 => by omega⟩⟩
      have gn := TL_n v63_0
      refine Go_chk (by unfold zout; omega) ?_
      refine Go_chk (by unfold zout; omega) ?_
      refine Go_ite (fun c7 => ?_) (fun c7 => ?_)
      · exact Go_i (show TL (t_linesFor') (t_lines') (t_numberOf') (t_lesser') (t_greater') ∧ LK (t_listCorners') (t_listMany') (t_list') ∧ 0 ≤ (t_passedMany') ∧ (t_passedMany') ≤ 64 from ⟨(by first | assumption | omega), (by first | assumption | omega), (by first | assumption | omega), (by first | assumption | omega)⟩)
      · refine Go_chk (by omega) ?_
        have a8 := rgetL t_list' (Int.toNat i2')
        exact Go_i (show (((83 : Nat) = 0 ∧ TL (t_linesFor') (t_lines') (t_numberOf') (t_lesser') (t_greater') ∧ LK (t_listCorners') (t_listMany') (t_list') ∧ -2147483648 ≤ (0) ∧ (0) ≤ 2147483647 ∧ 0 ≤ (t_passedMany') ∧ (t_passedMany') ≤ 64) ∨ ((83 : Nat) = 63 ∧ TL t_corners (t_lines') (t_numberOf') (t_lesser') (t_greater') ∧ TL (t_linesFor') (t_lines') (t_numberOf') (t_lesser') (t_greater') ∧ LK t_corners (t_listMany') (t_list') ∧ LK (t_listCorners') (t_listMany') (t_list') ∧ 2 ≤ (t_listMany') ∧ (t_listMany') ≤ 429 ∧ BFX t_corners (t_far') ∧ 0 ≤ (i3') ∧ (i3') ≤ 62 ∧ 1 ≤ (i4') ∧ (t_passedMany') = (i3') + 1 ∧ (i4') ≤ (i3') + 1 ∧ 0 ≤ (i2') ∧ (i2') < (t_listMany') ∧ zget (t_far') (Int.toNat (i2')) = (i3') - (i4') + 1) ∨ ((83 : Nat) = 83 ∧ TL t_corners (t_lines') (t_numberOf') (t_lesser') (t_greater') ∧ TL (t_linesFor') (t_lines') (t_numberOf') (t_lesser') (t_greater') ∧ LK t_corners (t_listMany') (t_list') ∧ LK (t_listCorners') (t_listMany') (t_list') ∧ 2 ≤ (t_listMany') ∧ (t_listMany') ≤ 429 ∧ BFX t_corners (t_far') ∧ 0 ≤ (i3') ∧ (i3') ≤ 62 ∧ 1 ≤ (i4') ∧ (t_passedMany') = (i3') + 1 ∧ (i4') ≤ (i3') ∧ FW t_corners (t_far') ((zgetL t_list' (Int.toNat i2'))) ((i3') - (i4')) ((0 : Int)) ((-1 : Int)) ∧ 0 ≤ ((0 : Int)) ∧ ((0 : Int)) ≤ (t_lines'))) ∧ (100 * (100 - (i4')) + 40 - ((0 : Int))).toNat < (100 * (100 - i4') + 60).toNat from ⟨Or.inr (Or.inr (⟨rfl, (by first | assumption | omega), (by first | assumption | omega), (by first | assumption | omega), (by first | assumption | omega), (by first | assumption | omega), (by first | assumption | omega), (by first | assumption | omega), (by first | assumption | omega), (by first | assumption | omega), (by first | assumption | omega), (by first | assumption | omega), (by first | assumption | omega), (by exact fwi), (by first | assumption | omega), (by first | assumption | omega)⟩)), by omega⟩)
    · show Go _ (zg_X11_fewest_83 t_corners t_own i1' i2' i3' i4' i5' i6' i8' t_lines' t_linesFor' t_listMany' t_listCorners' t_flipOne' t_flipTwo' t_passedMany' t_numberOf' t_lesser' t_greater' t_list' t_far' t_queue' t_passedBy')
      unfold zg_X11_fewest_83
      have e7 : t_lines' = pg7 t_corners.toNat := v83_0.2.2.1
      have e8 : t_listMany' = pg8 t_corners.toNat := v83_2.2.2.1
      have gn := TL_n v83_0
      refine Go_chk (by unfold zout; omega) ?_
      refine Go_chk (by unfold zout; omega) ?_
      refine Go_ite (fun c1 => ?_) (fun c1 => ?_)
      · have el : i8' = pg7 t_corners.toNat := by omega
        rw [el] at v83_12
        have fe := FW_end p2 p3 v83_6 (by omega) v83_12
        refine Go_chk (by omega) ?_
        exact Go_i ⟨Or.inr (Or.inl ⟨rfl, v83_0, v83_1, v83_2, v83_3, v83_4, v83_5, v83_6, v83_7, v83_8, by show (1 : Int) ≤ i4' + 1; omega, v83_10, by show i4' + (1 : Int) ≤ i3' + 1; omega, fe.1, by show i5' < t_listMany'; omega, by show zget t_far' i5'.toNat = i3' - (i4' + 1) + 1; have := fe.2.2; omega⟩), by show (100 * (100 - (i4' + 1)) + 60).toNat < (100 * (100 - i4') + 40 - i8').toNat; omega⟩
      · have st : ∀ (b f1 f2 : Int), FW t_corners t_far' i6' (i3' - i4') (i8' + 1) b → Go (GoE (fun (s : zS_X11_fewest) => (match s with | (lab, i1', i2', i3', i4', i5', i6', i8', t_lines', t_linesFor', t_listMany', t_listCorners', t_flipOne', t_flipTwo', t_passedMany', t_numberOf', t_lesser', t_greater', t_list', t_far', t_queue', t_passedBy') => (lab = 0 ∧ TL t_linesFor' t_lines' t_numberOf' t_lesser' t_greater' ∧ LK t_listCorners' t_listMany' t_list' ∧ -2147483648 ≤ i1' ∧ i1' ≤ 2147483647 ∧ 0 ≤ t_passedMany' ∧ t_passedMany' ≤ 64) ∨ (lab = 63 ∧ TL t_corners t_lines' t_numberOf' t_lesser' t_greater' ∧ TL t_linesFor' t_lines' t_numberOf' t_lesser' t_greater' ∧ LK t_corners t_listMany' t_list' ∧ LK t_listCorners' t_listMany' t_list' ∧ 2 ≤ t_listMany' ∧ t_listMany' ≤ 429 ∧ BFX t_corners t_far' ∧ 0 ≤ i3' ∧ i3' ≤ 62 ∧ 1 ≤ i4' ∧ t_passedMany' = i3' + 1 ∧ i4' ≤ i3' + 1 ∧ 0 ≤ i2' ∧ i2' < t_listMany' ∧ zget t_far' (Int.toNat i2') = i3' - i4' + 1) ∨ (lab = 83 ∧ TL t_corners t_lines' t_numberOf' t_lesser' t_greater' ∧ TL t_linesFor' t_lines' t_numberOf' t_lesser' t_greater' ∧ LK t_corners t_listMany' t_list' ∧ LK t_listCorners' t_listMany' t_list' ∧ 2 ≤ t_listMany' ∧ t_listMany' ≤ 429 ∧ BFX t_corners t_far' ∧ 0 ≤ i3' ∧ i3' ≤ 62 ∧ 1 ≤ i4' ∧ t_passedMany' = i3' + 1 ∧ i4' ≤ i3' ∧ FW t_corners t_far' i6' (i3' - i4') i8' i5' ∧ 0 ≤ i8' ∧ i8' ≤ t_lines')) ∧ (match s with | (lab, i1', i2', i3', i4', i5', i6', i8', t_lines', t_linesFor', t_listMany', t_listCorners', t_flipOne', t_flipTwo', t_passedMany', t_numberOf', t_lesser', t_greater', t_list', t_far', t_queue', t_passedBy') => if lab = 0 then 20000 else if lab = 63 then (100 * (100 - i4') + 60).toNat else if lab = 83 then (100 * (100 - i4') + 40 - i8').toNat else 0) < (100 * (100 - i4') + 40 - i8').toNat) (fun (o : zO_X11_fewest) => TL (o.2.2.1) (o.2.1) (o.2.2.2.2.2.2.2.2.1) (o.2.2.2.2.2.2.2.2.2.1) (o.2.2.2.2.2.2.2.2.2.2.1) ∧ LK (o.2.2.2.2.1) (o.2.2.2.1) (o.2.2.2.2.2.2.2.2.2.2.2.1) ∧ 0 ≤ (o.2.2.2.2.2.2.2.1) ∧ (o.2.2.2.2.2.2.2.1) ≤ 64)) (some (.inr (83, 0, 0, i3', i4', b, i6', (i8' + (1 : Int)), t_lines', t_linesFor', t_listMany', t_listCorners', f1, f2, t_passedMany', t_numberOf', t_lesser', t_greater', t_list', t_far', t_queue', t_passedBy'))) := fun b f1 f2 fw => Go_i ⟨Or.inr (Or.inr ⟨rfl, v83_0, v83_1, v83_2, v83_3, v83_4, v83_5, v83_6, v83_7, v83_8, v83_9, v83_10, v83_11, fw, by show (0 : Int) ≤ i8' + 1; omega, by show i8' + (1 : Int) ≤ t_lines'; omega⟩), by show (100 * (100 - i4') + 40 - (i8' + 1)).toNat < (100 * (100 - i4') + 40 - i8').toNat; omega⟩
        obtain ⟨h, hh, rfl, hf, hb⟩ := v83_12
        have hc : isCut t_corners.toNat (zget (pg6 t_corners.toNat) h) := ⟨h, hh, rfl⟩
        have be := (bit_eq (m := t_corners.toNat) (by omega) (by omega) hc (l := i8') (by omega) (by omega)).1
        refine Go_ite (fun c2 => ?_) (fun c2 => ?_)
        · refine st _ _ _ ⟨h, hh, rfl, hf, ?_⟩
          rcases hb with ⟨hb, hb2⟩ | hb
          · refine Or.inl ⟨hb, fun l' o z0 z1 z2 => ?_⟩
            by_cases e : l' = i8'
            · subst e; rw [be] at c2; exact absurd c2 z2
            · exact hb2 l' o z0 (by omega) z2
          · exact Or.inr hb
        · refine Go_chk (by omega) ?_
          have e8' : ((Int.toNat i8' : Nat) : Int) = i8' := by omega
          have ec : ((Int.toNat t_corners : Nat) : Int) = t_corners := by omega
          obtain ⟨o, b1, b2, b3, b4, b5, b6⟩ := fl_line (m := t_corners.toNat) (by omega) (by omega) v83_0.2.2 hc (l := Int.toNat i8') (by omega) (by rw [e8']; exact c2) t_flipOne' t_flipTwo'
          rw [e8'] at b1 b4 b5 b6
          rw [ec] at b6
          rw [b6]
          simp only [Option.bind_some]
          obtain ⟨t, ht, et⟩ := b4
          rw [et, pl_ok (m := t_corners.toNat) (by omega) (by omega) v83_2.2.2 ht]
          simp only [Option.bind_some]
          refine Go_chk (by omega) ?_
          refine Go_chk (by unfold zout; omega) ?_
          simp only [Int.toNat_natCast]
          have uq : ∀ y : Nat, (y : Int) < pg8 t_corners.toNat → ∀ o', zf_X5_otherLine t_corners.toNat (zget (pg6 t_corners.toNat) h) i8' = some o' → zget (pg6 t_corners.toNat) y = flipN (zget (pg6 t_corners.toNat) h) i8' o' → y = t := by
            intro y hy o' ho' e
            rw [b1] at ho'
            cases ho'
            rw [et] at e
            exact pg6_inj (by omega) (by omega) hy ht e
          refine Go_ite (fun c3 => ?_) (fun c3 => ?_)
          · have good : FW t_corners t_far' (zget (pg6 t_corners.toNat) h) (i3' - i4') (i8' + 1) (t : Int) := ⟨h, hh, rfl, hf, Or.inr ⟨by omega, ht, by rw [Int.toNat_natCast]; exact c3⟩⟩
            refine Go_chk (by rcases hb with ⟨hb, _⟩ | hb <;> unfold zout <;> omega) ?_
            refine Go_ite (fun c4 => ?_) (fun c4 => ?_)
            · exact st _ _ _ good
            · refine Go_chk (by unfold zout; omega) ?_
              refine Go_ite (fun c5 => ?_) (fun c5 => ?_)
              · refine st _ _ _ ⟨h, hh, rfl, hf, ?_⟩
                rcases hb with ⟨hb, _⟩ | hb
                · exact absurd hb c4
                · exact Or.inr hb
              · exact st _ _ _ good
          · refine st _ _ _ ⟨h, hh, rfl, hf, ?_⟩
            rcases hb with ⟨hb, hb2⟩ | hb
            · refine Or.inl ⟨hb, fun l' o' z0 z1 z2 z3 y hy z4 => ?_⟩
              by_cases e : l' = i8'
              · subst e
                have := uq y hy o' z3 z4
                subst this
                exact c3
              · exact hb2 l' o' z0 (by omega) z2 z3 y hy z4
            · exact Or.inr hb
  · exact (show ((0 : Nat) = 0 ∧ TL t_linesFor t_lines t_numberOf t_lesser t_greater ∧ LK t_listCorners t_listMany t_list ∧ -2147483648 ≤ i1 ∧ i1 ≤ 2147483647 ∧ 0 ≤ t_passedMany ∧ t_passedMany ≤ 64) ∨ ((0 : Nat) = 63 ∧ TL t_corners t_lines t_numberOf t_lesser t_greater ∧ TL t_linesFor t_lines t_numberOf t_lesser t_greater ∧ LK t_corners t_listMany t_list ∧ LK t_listCorners t_listMany t_list ∧ 2 ≤ t_listMany ∧ t_listMany ≤ 429 ∧ BFX t_corners t_far ∧ 0 ≤ 0 ∧ 0 ≤ 62 ∧ 1 ≤ 0 ∧ t_passedMany = 0 + 1 ∧ 0 ≤ 0 + 1 ∧ 0 ≤ 0 ∧ 0 < t_listMany ∧ zget t_far (Int.toNat 0) = 0 - 0 + 1) ∨ ((0 : Nat) = 83 ∧ TL t_corners t_lines t_numberOf t_lesser t_greater ∧ TL t_linesFor t_lines t_numberOf t_lesser t_greater ∧ LK t_corners t_listMany t_list ∧ LK t_listCorners t_listMany t_list ∧ 2 ≤ t_listMany ∧ t_listMany ≤ 429 ∧ BFX t_corners t_far ∧ 0 ≤ 0 ∧ 0 ≤ 62 ∧ 1 ≤ 0 ∧ t_passedMany = 0 + 1 ∧ 0 ≤ 0 ∧ FW t_corners t_far 0 (0 - 0) 0 0 ∧ 0 ≤ 0 ∧ 0 ≤ t_lines) from Or.inl (⟨rfl, (by first | assumption | omega), (by first | assumption | omega), (by first | assumption | omega), (by first | assumption | omega), (by first | assumption | omega), (by first | assumption | omega)⟩))
  · show 20000 < jfuel
    unfold jfuel
    omega
end

section
/-! sets of lines none of which cross: m - 3 of them are a cut -/
/-- how many of the lines below k -/
noncomputable def pop (T : Nat) (k : Nat) : Nat := Nat.rec 0 (fun a r => match T.testBit a with
  | true => r + 1
  | false => r) k
theorem pop_t {T k : Nat} (h : T.testBit k = true) : pop T (k + 1) = pop T k + 1 := by
  show (match T.testBit k with | true => pop T k + 1 | false => pop T k) = _
  rw [h]
theorem pop_f {T k : Nat} (h : T.testBit k = false) : pop T (k + 1) = pop T k := by
  show (match T.testBit k with | true => pop T k + 1 | false => pop T k) = _
  rw [h]
theorem pop_same {T T' : Nat} : ∀ k : Nat, (∀ a, a < k → T'.testBit a = T.testBit a) → pop T' k = pop T k := by
  intro k
  induction k with
  | zero => intro _; rfl
  | succ k ih =>
    intro h
    have i := ih (fun a ha => h a (by omega))
    cases e : T.testBit k with
    | true => rw [pop_t e, pop_t ((h k (by omega)).trans e), i]
    | false => rw [pop_f e, pop_f ((h k (by omega)).trans e), i]
theorem or_bit (T l a : Nat) : (T ||| 2 ^ l).testBit a = (T.testBit a || decide (l = a)) := by
  rw [Nat.testBit_or, Nat.testBit_two_pow]
theorem pop_add {T l : Nat} (h : T.testBit l = false) : ∀ k : Nat, l < k → pop (T ||| 2 ^ l) k = pop T k + 1 := by
  intro k
  induction k with
  | zero => intro h; omega
  | succ k ih =>
    intro hk
    by_cases e : l = k
    · subst e
      have b : (T ||| 2 ^ l).testBit l = true := by rw [or_bit, decide_eq_true rfl, Bool.or_true]
      rw [pop_t b, pop_f h]
      rw [pop_same (T := T) (T' := T ||| 2 ^ l) l (fun a ha => by rw [or_bit, decide_eq_false (by omega), Bool.or_false])]
    · have i := ih (by omega)
      have b : (T ||| 2 ^ l).testBit k = T.testBit k := by rw [or_bit, decide_eq_false e, Bool.or_false]
      cases z : T.testBit k with
      | true => rw [pop_t (b.trans z), pop_t z, i]
      | false => rw [pop_f (b.trans z), pop_f z, i]
def good (m T : Nat) : Prop := ∀ a b, a < lnN m → b < lnN m → T.testBit a = true → T.testBit b = true → (crM m a).testBit b = false
noncomputable def memB (m S : Nat) : Bool := match zf_X5_numberOf m (S : Int) with
  | none => false
  | some r => decide (0 ≤ r ∧ r < pg8 m ∧ zget (pg6 m) r.toNat = (S : Int))
noncomputable def chkN (m : Nat) (r : Nat) : Nat → Nat → Bool := Nat.rec (fun S cnt => match decide (cnt = m - 3) with
    | true => memB m S
    | false => true) (fun r ih S cnt => match ih S cnt with
    | false => false
    | true => match decide (S &&& crM m (lnN m - (r + 1)) = 0) with
      | true => ih (S ||| 2 ^ (lnN m - (r + 1))) (cnt + 1)
      | false => true) r
theorem memB_ok {m S : Nat} (h : memB m S = true) : isCut m (S : Int) := by
  unfold memB at h
  revert h
  cases zf_X5_numberOf m (S : Int) with
  | none => intro h; cases h
  | some r =>
    intro h
    have q := of_decide_eq_true h
    exact ⟨r.toNat, by omega, q.2.2.symm⟩
theorem chkN_s {m r S cnt : Nat} (h : chkN m (r + 1) S cnt = true) : chkN m r S cnt = true ∧ (S &&& crM m (lnN m - (r + 1)) = 0 → chkN m r (S ||| 2 ^ (lnN m - (r + 1))) (cnt + 1) = true) := by
  replace h : (match chkN m r S cnt with
    | false => false
    | true => match decide (S &&& crM m (lnN m - (r + 1)) = 0) with
      | true => chkN m r (S ||| 2 ^ (lnN m - (r + 1))) (cnt + 1)
      | false => true) = true := h
  cases e : chkN m r S cnt with
  | false => rw [e] at h; cases h
  | true =>
    rw [e] at h
    refine ⟨rfl, fun z => ?_⟩
    rw [decide_eq_true z] at h
    exact h
theorem chk_ok {m : Nat} {T : Nat} (hT : T < 2 ^ lnN m) (hg : good m T) (hp : pop T (lnN m) = m - 3) : ∀ r S : Nat, r ≤ lnN m → chkN m r S (pop T (lnN m - r)) = true → (∀ a, a < lnN m - r → S.testBit a = T.testBit a) → (∀ a, lnN m - r ≤ a → S.testBit a = false) → isCut m (T : Int) := by
  intro r
  induction r with
  | zero =>
    intro S _ h h1 h2
    have e : S = T := by
      apply Nat.eq_of_testBit_eq
      intro a
      by_cases z : a < lnN m
      · exact h1 a (by omega)
      · rw [h2 a (by omega), Nat.testBit_lt_two_pow (Nat.lt_of_lt_of_le hT (Nat.pow_le_pow_right (by decide) (by omega)))]
    subst e
    replace h : (match decide (pop S (lnN m - 0) = m - 3) with
      | true => memB m S
      | false => true) = true := h
    rw [Nat.sub_zero, decide_eq_true hp] at h
    exact memB_ok h
  | succ r ih =>
    intro S hr h h1 h2
    have q := chkN_s h
    have ek : lnN m - r = lnN m - (r + 1) + 1 := by omega
    cases b : T.testBit (lnN m - (r + 1)) with
    | false =>
      refine ih S (by omega) ?_ ?_ (fun a ha => h2 a (by omega))
      · rw [ek, pop_f b]; exact q.1
      · intro a ha
        by_cases z : a = lnN m - (r + 1)
        · subst z; rw [b]; exact h2 _ (Nat.le_refl _)
        · exact h1 a (by omega)
    | true =>
      have z : S &&& crM m (lnN m - (r + 1)) = 0 := by
        apply Nat.eq_of_testBit_eq
        intro a
        rw [Nat.testBit_and, Nat.zero_testBit]
        cases sa : S.testBit a with
        | false => rfl
        | true =>
          have al : a < lnN m - (r + 1) := by
            by_cases y : a < lnN m - (r + 1)
            · exact y
            · rw [h2 a (by omega)] at sa; cases sa
          rw [hg (lnN m - (r + 1)) a (by omega) (by omega) b ((h1 a al).symm.trans sa)]
          rfl
      refine ih (S ||| 2 ^ (lnN m - (r + 1))) (by omega) ?_ ?_ ?_
      · rw [ek, pop_t b]; exact q.2 z
      · intro a ha
        rw [or_bit]
        by_cases y : a = lnN m - (r + 1)
        · subst y; rw [decide_eq_true rfl, Bool.or_true, b]
        · rw [decide_eq_false (by omega), Bool.or_false]; exact h1 a (by omega)
      · intro a ha
        rw [or_bit, decide_eq_false (by omega), Bool.or_false]; exact h2 a (by omega)
theorem chk_tab : ∀ m : Nat, 4 ≤ m → m ≤ 9 → chkN m (lnN m) 0 0 = true := pg_cases (by decide +kernel) (by decide +kernel) (by decide +kernel) (by decide +kernel) (by decide +kernel) (by decide +kernel)
theorem good_cut {m T : Nat} (h4 : 4 ≤ m) (h9 : m ≤ 9) (hT : T < 2 ^ lnN m) (hg : good m T) (hp : pop T (lnN m) = m - 3) : isCut m (T : Int) := by
  refine chk_ok hT hg hp (lnN m) 0 (Nat.le_refl _) ?_ (fun a ha => by omega) (fun a _ => Nat.zero_testBit a)
  rw [Nat.sub_self]
  exact chk_tab m h4 h9
theorem crsym_tab : ∀ m : Nat, 4 ≤ m → m ≤ 9 → allF (fun a => allF (fun b => decide ((crM m a).testBit b = (crM m b).testBit a)) 0 27) 0 27 = true := pg_cases (by decide +kernel) (by decide +kernel) (by decide +kernel) (by decide +kernel) (by decide +kernel) (by decide +kernel)
theorem crself_tab : ∀ m : Nat, 4 ≤ m → m ≤ 9 → allF (fun a => decide ((crM m a).testBit a = false)) 0 27 = true := pg_cases (by decide +kernel) (by decide +kernel) (by decide +kernel) (by decide +kernel) (by decide +kernel) (by decide +kernel)
theorem good_add {m T l : Nat} (h4 : 4 ≤ m) (h9 : m ≤ 9) (hg : good m T) (hl : l < lnN m) (hc : ∀ b, b < lnN m → T.testBit b = true → (crM m l).testBit b = false) : good m (T ||| 2 ^ l) := by
  have r7 := rpg7 h4 h9
  have r7' : lnN m ≤ 27 := by unfold lnN; omega
  intro a b ha hb ta tb
  rw [or_bit] at ta tb
  by_cases ea : l = a
  · subst ea
    by_cases eb : l = b
    · subst eb
      exact of_decide_eq_true (allF_at (crself_tab m h4 h9) (m := l) (by omega))
    · rw [decide_eq_false eb, Bool.or_false] at tb
      exact hc b hb tb
  · rw [decide_eq_false ea, Bool.or_false] at ta
    by_cases eb : l = b
    · subst eb
      rw [of_decide_eq_true (allF_at (allF_at (crsym_tab m h4 h9) (m := a) (by omega)) (m := l) (by omega))]
      exact hc a ha ta
    · rw [decide_eq_false eb, Bool.or_false] at tb
      exact hg a b ha hb ta tb
theorem lnN_2 {m : Nat} (h4 : 4 ≤ m) (h9 : m ≤ 9) : 2 ^ lnN m ≤ 134217728 := by
  have r7 := rpg7 h4 h9
  have : 2 ^ lnN m ≤ 2 ^ 27 := Nat.pow_le_pow_right (by decide) (by unfold lnN; omega)
  omega
end

section
/-! the text of a cut: what has been read -/
def GS (c cut n : Int) : Prop := 4 ≤ c ∧ c ≤ 9 ∧ ∃ T : Nat, cut = (T : Int) ∧ T < 2 ^ lnN c.toNat ∧ good c.toNat T ∧ (pop T (lnN c.toNat) : Int) = n
def GX (c cut n i j k : Int) : Prop := 4 ≤ c ∧ c ≤ 9 ∧ 0 ≤ zget (pg3 c.toNat) (9 * i.toNat + j.toNat) ∧ ∃ T : Nat, cut = (T : Int) ∧ T < 2 ^ lnN c.toNat ∧ good c.toNat T ∧ (pop T (lnN c.toNat) : Int) = n ∧ T.testBit (zget (pg3 c.toNat) (9 * i.toNat + j.toNat)).toNat = false ∧ ∀ b : Nat, (b : Int) < k → T.testBit b = true → (crM c.toNat (zget (pg3 c.toNat) (9 * i.toNat + j.toNat)).toNat).testBit b = false
theorem pop_0 : ∀ k : Nat, pop 0 k = 0 := by
  intro k
  induction k with
  | zero => rfl
  | succ k ih => rw [pop_f (Nat.zero_testBit k), ih]
theorem GS_0 {c : Int} (h4 : 4 ≤ c) (h9 : c ≤ 9) : GS c 0 0 := ⟨h4, h9, 0, rfl, Nat.two_pow_pos _, (fun a b _ _ h => by rw [Nat.zero_testBit] at h; cases h), by rw [pop_0]; rfl⟩
theorem GS_cut {c cut n : Int} (h : GS c cut n) (hn : n = c - 3) : CU c cut := by
  obtain ⟨h4, h9, T, rfl, h1, h2, h3⟩ := h
  exact ⟨h4, h9, good_cut (by omega) (by omega) h1 h2 (by omega)⟩
theorem GS_n {c cut n : Int} (h : GS c cut n) : 0 ≤ n ∧ n ≤ 27 := by
  obtain ⟨h4, h9, T, rfl, h1, h2, h3⟩ := h
  have r7 := rpg7 (n := c.toNat) (by omega) (by omega)
  have : ∀ k : Nat, pop T k ≤ k := by
    intro k
    induction k with
    | zero => exact Nat.le_refl _
    | succ k ih =>
      cases e : T.testBit k with
      | true => rw [pop_t e]; omega
      | false => rw [pop_f e]; omega
  have := this (lnN c.toNat)
  unfold lnN at *
  omega
theorem lnN_e {c : Int} (h4 : 4 ≤ c) (h9 : c ≤ 9) : (lnN c.toNat : Int) = pg7 c.toNat := by
  have r7 := rpg7 (n := c.toNat) (by omega) (by omega)
  unfold lnN; omega
theorem pg3_lt_tab : ∀ m : Nat, 4 ≤ m → m ≤ 9 → allF (fun k => decide (zget (pg3 m) k < pg7 m)) 0 81 = true := pg_cases (by decide +kernel) (by decide +kernel) (by decide +kernel) (by decide +kernel) (by decide +kernel) (by decide +kernel)
theorem nf_at {c : Int} {nf : Nat} (h : LNk c nf) {i j : Int} (hi : 0 ≤ i) (hi' : i < c) (hj : 0 ≤ j) (hj' : j < c) (hn : ¬ i = j) : zget nf (Int.toNat ((10 : Int) * i + j)) = zget (pg3 c.toNat) (9 * i.toNat + j.toNat) := by
  have h4 := h.1
  have h9 := h.2.1
  rw [show Int.toNat ((10 : Int) * i + j) = 10 * i.toNat + j.toNat by omega]
  exact LN_get h.2.2 (by omega) (by omega) (by omega)
theorem GX_init {c cut n i j : Int} {nf : Nat} (h : GS c cut n) (hp : ¬ i = j ∧ 0 ≤ zget (pg3 c.toNat) (9 * i.toNat + j.toNat)) (hL : LNk c nf) (hi : 0 ≤ i) (hi' : i < c) (hj : 0 ≤ j) (hj' : j < c) (hb : ¬ zandL (zshrL cut (zget nf (Int.toNat ((10 : Int) * i + j)))) 1 = 1) : GX c cut n i j 0 := by
  obtain ⟨h4, h9, T, rfl, h1, h2, h3⟩ := h
  have l2 := lnN_2 (m := c.toNat) (by omega) (by omega)
  have r3 := rpg3 (n := c.toNat) (by omega) (by omega) (9 * i.toNat + j.toNat) (by omega)
  rw [nf_at hL hi hi' hj hj' hp.1, show zget (pg3 c.toNat) (9 * i.toNat + j.toNat) = (((zget (pg3 c.toNat) (9 * i.toNat + j.toNat)).toNat : Nat) : Int) by omega, bitL (by omega) (by omega)] at hb
  refine ⟨h4, h9, hp.2, T, rfl, h1, h2, h3, ?_, fun b hb => by omega⟩
  cases e : T.testBit (zget (pg3 c.toNat) (9 * i.toNat + j.toNat)).toNat with
  | false => rfl
  | true => rw [if_pos e] at hb; exact absurd rfl hb
theorem GX_skip {c cut n i j k ln : Int} {nf ls gr : Nat} (h : GX c cut n i j k) (hT : TL c ln nf ls gr) (h0 : 0 ≤ k) (hk : ¬ ln ≤ k) (hb : ¬ zandL (zshrL cut k) 1 = 1) : GX c cut n i j (k + (1 : Int)) := by
  obtain ⟨h4, h9, hp, T, rfl, h1, h2, h3, h5, h6⟩ := h
  have l2 := lnN_2 (m := c.toNat) (by omega) (by omega)
  have gn := TL_n hT
  refine ⟨h4, h9, hp, T, rfl, h1, h2, h3, h5, fun b hb' hbt => ?_⟩
  by_cases e : (b : Int) = k
  · subst e
    rw [bitL (by omega) (by omega), if_pos hbt] at hb
    exact absurd rfl hb
  · exact h6 b (by omega) hbt
noncomputable def crK (m i j k : Nat) : Bool := match decide (i < m ∧ j < m ∧ 0 ≤ zget (pg3 m) (9 * i + j) ∧ (k : Int) < pg7 m) with
  | false => true
  | true => match zf_X11_isCross (m : Int) (i : Int) (j : Int) (zget (pg1 m) k) (zget (pg2 m) k) with
    | none => false
    | some b => decide (b = (crM m (zget (pg3 m) (9 * i + j)).toNat).testBit k)
theorem cr_tab : ∀ m : Nat, 4 ≤ m → m ≤ 9 → allF (fun i => allF (fun j => allF (fun k => crK m i j k) 0 27) 0 9) 0 9 = true := pg_cases (by decide +kernel) (by decide +kernel) (by decide +kernel) (by decide +kernel) (by decide +kernel) (by decide +kernel)
theorem cr_ok {m i j k : Nat} (h4 : 4 ≤ m) (h9 : m ≤ 9) (hi : i < m) (hj : j < m) (hp : 0 ≤ zget (pg3 m) (9 * i + j)) (hk : (k : Int) < pg7 m) : zf_X11_isCross (m : Int) (i : Int) (j : Int) (zget (pg1 m) k) (zget (pg2 m) k) = some ((crM m (zget (pg3 m) (9 * i + j)).toNat).testBit k) := by
  have r7 := rpg7 h4 h9
  have t := allF_at (allF_at (allF_at (cr_tab m h4 h9) (m := i) (by omega)) (m := j) (by omega)) (m := k) (by omega)
  replace t : crK m i j k = true := t
  unfold crK at t
  rw [decide_eq_true ⟨hi, hj, hp, hk⟩] at t
  revert t
  simp only []
  cases zf_X11_isCross (m : Int) (i : Int) (j : Int) (zget (pg1 m) k) (zget (pg2 m) k) with
  | none => intro t; cases t
  | some b => intro t; rw [of_decide_eq_true t]
theorem GX_no {c cut n i j k ln : Int} {nf ls gr : Nat} {b : Bool} (h : GX c cut n i j k) (hT : TL c ln nf ls gr) (h0 : 0 ≤ k) (hk : ¬ ln ≤ k) (hi : 0 ≤ i) (hi' : i < c) (hj : 0 ≤ j) (hj' : j < c) (hz : zf_X11_isCross c i j (zget ls (Int.toNat k)) (zget gr (Int.toNat k)) = some b) (hb : b = false) : GX c cut n i j (k + (1 : Int)) := by
  obtain ⟨h4, h9, hp, T, rfl, h1, h2, h3, h5, h6⟩ := h
  have gn := hT.2.2.1
  subst hb
  have e := cr_ok (m := c.toNat) (i := i.toNat) (j := j.toNat) (k := k.toNat) (by omega) (by omega) (by omega) (by omega) hp (by omega)
  rw [show ((c.toNat : Nat) : Int) = c by omega, show ((i.toNat : Nat) : Int) = i by omega, show ((j.toNat : Nat) : Int) = j by omega, ← (hT.2.2.2.2 k.toNat (by omega)).1, ← (hT.2.2.2.2 k.toNat (by omega)).2, hz] at e
  refine ⟨h4, h9, hp, T, rfl, h1, h2, h3, h5, fun b hb' hbt => ?_⟩
  by_cases e' : (b : Int) = k
  · rw [show b = k.toNat by omega]; exact (Option.some.inj e).symm
  · exact h6 b (by omega) hbt
theorem GX_end {c cut n i j k ln : Int} {nf ls gr : Nat} (h : GX c cut n i j k) (hT : TL c ln nf ls gr) (hk : ln ≤ k) (hi : 0 ≤ i) (hi' : i < c) (hj : 0 ≤ j) (hj' : j < c) (hn : ¬ i = j) : GS c (zorL cut (zshlL (1 : Int) (zget nf (Int.toNat ((10 : Int) * i + j))))) (n + (1 : Int)) := by
  obtain ⟨h4, h9, hp, T, rfl, h1, h2, h3, h5, h6⟩ := h
  have gn := hT.2.2.1
  have l2 := lnN_2 (m := c.toNat) (by omega) (by omega)
  have le := lnN_e h4 h9
  have r3 := rpg3 (n := c.toNat) (by omega) (by omega) (9 * i.toNat + j.toNat) (by omega)
  have r7 := of_decide_eq_true (allF_at (pg3_lt_tab c.toNat (by omega) (by omega)) (m := 9 * i.toNat + j.toNat) (by omega))
  rw [nf_at (TL_ln hT) hi hi' hj hj' hn, show zget (pg3 c.toNat) (9 * i.toNat + j.toNat) = (((zget (pg3 c.toNat) (9 * i.toNat + j.toNat)).toNat : Nat) : Int) by omega, orL (by omega) (by omega)]
  refine ⟨h4, h9, _, rfl, ?_, ?_, ?_⟩
  · exact Nat.or_lt_two_pow h1 (Nat.pow_lt_pow_right (by decide) (by omega))
  · exact good_add (by omega) (by omega) h2 (by omega) (fun b hb hbt => h6 b (by omega) hbt)
  · rw [pop_add h5 _ (by omega)]; omega
end
