set_option maxRecDepth 20000 in
theorem ok_X11_fewest (t_corners : Int) (t_lines : Int) (t_linesFor : Int) (t_listMany : Int) (t_listCorners : Int) (t_own : Int) (t_flipOne : Int) (t_flipTwo : Int) (t_passedMany : Int) (t_numberOf : Nat) (t_lesser : Nat) (t_greater : Nat) (t_list : Nat) (t_far : Nat) (t_queue : Nat) (t_passedBy : Nat) (i1 : Int) (p0 : TL t_linesFor t_lines t_numberOf t_lesser t_greater) (p1 : LK t_listCorners t_listMany t_list) (p2 : 4 ≤ t_corners) (p3 : t_corners ≤ 9) (p4 : CU t_corners t_own) (p5 : -2147483648 ≤ i1) (p6 : i1 ≤ 2147483647) (p7 : 0 ≤ t_passedMany) (p8 : t_passedMany ≤ 64) : Go (fun o => TL (o.2.2.1) (o.2.1) (o.2.2.2.2.2.2.2.2.1) (o.2.2.2.2.2.2.2.2.2.1) (o.2.2.2.2.2.2.2.2.2.2.1) ∧ LK (o.2.2.2.2.1) (o.2.2.2.1) (o.2.2.2.2.2.2.2.2.2.2.2.1) ∧ 0 ≤ (o.2.2.2.2.2.2.2.1) ∧ (o.2.2.2.2.2.2.2.1) ≤ 64) (zf_X11_fewest t_corners t_lines t_linesFor t_listMany t_listCorners t_own t_flipOne t_flipTwo t_passedMany t_numberOf t_lesser t_greater t_list t_far t_queue t_passedBy i1) := by
  unfold zf_X11_fewest
  have cr := CU_rng p4
  refine jok (fun (s : zS_X11_fewest) => match s with | (lab, i1', i2', i3', i4', i5', i6', i8', t_lines', t_linesFor', t_listMany', t_listCorners', t_flipOne', t_flipTwo', t_passedMany', t_numberOf', t_lesser', t_greater', t_list', t_far', t_queue', t_passedBy') => (lab = 0 ∧ TL t_linesFor' t_lines' t_numberOf' t_lesser' t_greater' ∧ LK t_listCorners' t_listMany' t_list' ∧ -2147483648 ≤ i1' ∧ i1' ≤ 2147483647 ∧ 0 ≤ t_passedMany' ∧ t_passedMany' ≤ 64) ∨ (lab = 63 ∧ TL t_corners t_lines' t_numberOf' t_lesser' t_greater' ∧ TL t_linesFor' t_lines' t_numberOf' t_lesser' t_greater' ∧ LK t_corners t_listMany' t_list' ∧ LK t_listCorners' t_listMany' t_list' ∧ 2 ≤ t_listMany' ∧ t_listMany' ≤ 429 ∧ BFX t_corners t_far' ∧ 0 ≤ i3' ∧ i3' ≤ 62 ∧ 1 ≤ i4' ∧ t_passedMany' = i3' + 1 ∧ i4' ≤ i3' + 1 ∧ 0 ≤ i2' ∧ i2' < t_listMany' ∧ zget t_far' (Int.toNat i2') = i3' - i4' + 1) ∨ (lab = 83 ∧ TL t_corners t_lines' t_numberOf' t_lesser' t_greater' ∧ TL t_linesFor' t_lines' t_numberOf' t_lesser' t_greater' ∧ LK t_corners t_listMany' t_list' ∧ LK t_listCorners' t_listMany' t_list' ∧ 2 ≤ t_listMany' ∧ t_listMany' ≤ 429 ∧ BFX t_corners t_far' ∧ 0 ≤ i3' ∧ i3' ≤ 62 ∧ 1 ≤ i4' ∧ t_passedMany' = i3' + 1 ∧ i4' ≤ i3' ∧ FW t_corners t_far' i6' (i3' - i4') i8' i5' ∧ 0 ≤ i8' ∧ i8' ≤ t_lines')) (fun (s : zS_X11_fewest) => match s with | (lab, i1', i2', i3', i4', i5', i6', i8', t_lines', t_linesFor', t_listMany', t_listCorners', t_flipOne', t_flipTwo', t_passedMany', t_numberOf', t_lesser', t_greater', t_list', t_far', t_queue', t_passedBy') => if lab = 0 then 20000 else if lab = 63 then (100 * (100 - i4') + 60).toNat else if lab = 83 then (100 * (100 - i4') + 40 - i8').toNat else 0) (fun (o : zO_X11_fewest) => TL (o.2.2.1) (o.2.1) (o.2.2.2.2.2.2.2.2.1) (o.2.2.2.2.2.2.2.2.2.1) (o.2.2.2.2.2.2.2.2.2.2.1) ∧ LK (o.2.2.2.2.1) (o.2.2.2.1) (o.2.2.2.2.2.2.2.2.2.2.2.1) ∧ 0 ≤ (o.2.2.2.2.2.2.2.1) ∧ (o.2.2.2.2.2.2.2.1) ≤ 64) ?_ _ ?_ ?_
  · intro s hI
    obtain ⟨lab, i1', i2', i3', i4', i5', i6', i8', t_lines', t_linesFor', t_listMany', t_listCorners', t_flipOne', t_flipTwo', t_passedMany', t_numberOf', t_lesser', t_greater', t_list', t_far', t_queue', t_passedBy'⟩ := s
    have hI : (lab = 0 ∧ TL t_linesFor' t_lines' t_numberOf' t_lesser' t_greater' ∧ LK t_listCorners' t_listMany' t_list' ∧ -2147483648 ≤ i1' ∧ i1' ≤ 2147483647 ∧ 0 ≤ t_passedMany' ∧ t_passedMany' ≤ 64) ∨ (lab = 63 ∧ TL t_corners t_lines' t_numberOf' t_lesser' t_greater' ∧ TL t_linesFor' t_lines' t_numberOf' t_lesser' t_greater' ∧ LK t_corners t_listMany' t_list' ∧ LK t_listCorners' t_listMany' t_list' ∧ 2 ≤ t_listMany' ∧ t_listMany' ≤ 429 ∧ BFX t_corners t_far' ∧ 0 ≤ i3' ∧ i3' ≤ 62 ∧ 1 ≤ i4' ∧ t_passedMany' = i3' + 1 ∧ i4' ≤ i3' + 1 ∧ 0 ≤ i2' ∧ i2' < t_listMany' ∧ zget t_far' (Int.toNat i2') = i3' - i4' + 1) ∨ (lab = 83 ∧ TL t_corners t_lines' t_numberOf' t_lesser' t_greater' ∧ TL t_linesFor' t_lines' t_numberOf' t_lesser' t_greater' ∧ LK t_corners t_listMany' t_list' ∧ LK t_listCorners' t_listMany' t_list' ∧ 2 ≤ t_listMany' ∧ t_listMany' ≤ 429 ∧ BFX t_corners t_far' ∧ 0 ≤ i3' ∧ i3' ≤ 62 ∧ 1 ≤ i4' ∧ t_passedMany' = i3' + 1 ∧ i4' ≤ i3' ∧ FW t_corners t_far' i6' (i3' - i4') i8' i5' ∧ 0 ≤ i8' ∧ i8' ≤ t_lines') := hI
    rcases hI with ⟨rfl, v0_0, v0_1, v0_2, v0_3, v0_4, v0_5⟩ | ⟨rfl, v63_0, v63_1, v63_2, v63_3, v63_4, v63_5, v63_6, v63_7, v63_8, v63_9, v63_10, v63_11, v63_12, v63_13, v63_14⟩ | ⟨rfl, v83_0, v83_1, v83_2, v83_3, v83_4, v83_5, v83_6, v83_7, v83_8, v83_9, v83_10, v83_11, v83_12, v83_13, v83_14⟩
    · show Go _ (zg_X11_fewest_0 t_corners t_own i1' i2' i3' i4' i5' i6' i8' t_lines' t_linesFor' t_listMany' t_listCorners' t_flipOne' t_flipTwo' t_passedMany' t_numberOf' t_lesser' t_greater' t_list' t_far' t_queue' t_passedBy')
      unfold zg_X11_fewest_0
      refine Go_bindP (oy_listFor t_lines' t_linesFor' t_listMany' t_listCorners' t_numberOf' t_lesser' t_greater' t_list' t_corners (by first | assumption | omega) (by first | assumption | omega) (by first | assumption | omega) (by first | assumption | omega)) (fun o1 q1 => ?_)
      obtain ⟨q1_0, q1_1, q1_2, q1_3, q1_4, q1_5, q1_6, q1_7, q1_8, q1_9⟩ := q1
      refine Go_bindP (ok_X11_in i1' (0 : Int) ((o1.2.2.1) - (1 : Int)) (by first | assumption | omega) (by first | assumption | omega) (by first | assumption | omega) (by first | assumption | omega) (by first | assumption | omega) (by first | assumption | omega)) (fun o2 q2 => ?_)
      obtain ⟨q2_0, q2_1⟩ := q2
      refine Go_ite (fun c3 => ?_) (fun c3 => ?_)
      · have dc3 := q2_1 c3
        exact Go_i (show TL ((o1.2.1)) ((o1.1)) ((o1.2.2.2.2.1)) ((o1.2.2.2.2.2.1)) ((o1.2.2.2.2.2.2.1)) ∧ LK ((o1.2.2.2.1)) ((o1.2.2.1)) ((o1.2.2.2.2.2.2.2)) ∧ 0 ≤ (t_passedMany') ∧ (t_passedMany') ≤ 64 from ⟨(by first | assumption | omega), (by first | assumption | omega), (by first | assumption | omega), (by first | assumption | omega)⟩)
      · have dc3 := q2_0 (bnf c3)
        refine Go_bindP (oy_spread t_corners (o1.1) (o1.2.2.1) t_flipOne' t_flipTwo' (o1.2.2.2.2.1) (o1.2.2.2.2.2.1) (o1.2.2.2.2.2.2.1) (o1.2.2.2.2.2.2.2) t_far' t_queue' i1' (by first | assumption | omega) (by first | assumption | omega) (by first | assumption | omega) (by first | assumption | omega) (by first | assumption | omega) (by first | assumption | omega)) (fun o3 q4 => ?_)
        obtain ⟨q4_0, q4_1⟩ := q4
        have fbs := q4_1
        refine Go_bindP (oy_placeOf (o1.2.2.1) (o1.2.2.2.2.2.2.2) t_own (by first | assumption | omega) (by first | assumption | omega) (by first | assumption | omega) (by first | assumption | omega)) (fun o4 q5 => ?_)
        obtain ⟨q5_0, q5_1, q5_2⟩ := q5
        have fb := fbs (Int.toNat o4) (by omega)
        refine Go_chk (by omega) ?_
        have a6 := rget (o3.2.2.1) (Int.toNat o4)
        exact Go_i (show (((63 : Nat) = 0 ∧ TL ((o1.2.1)) ((o1.1)) ((o1.2.2.2.2.1)) ((o1.2.2.2.2.2.1)) ((o1.2.2.2.2.2.2.1)) ∧ LK ((o1.2.2.2.1)) ((o1.2.2.1)) ((o1.2.2.2.2.2.2.2)) ∧ -2147483648 ≤ (i1') ∧ (i1') ≤ 2147483647 ∧ 0 ≤ (((zget (o3.2.2.1) (Int.toNat o4)) + (1 : Int))) ∧ (((zget (o3.2.2.1) (Int.toNat o4)) + (1 : Int))) ≤ 64) ∨ ((63 : Nat) = 63 ∧ TL t_corners ((o1.1)) ((o1.2.2.2.2.1)) ((o1.2.2.2.2.2.1)) ((o1.2.2.2.2.2.2.1)) ∧ TL ((o1.2.1)) ((o1.1)) ((o1.2.2.2.2.1)) ((o1.2.2.2.2.2.1)) ((o1.2.2.2.2.2.2.1)) ∧ LK t_corners ((o1.2.2.1)) ((o1.2.2.2.2.2.2.2)) ∧ LK ((o1.2.2.2.1)) ((o1.2.2.1)) ((o1.2.2.2.2.2.2.2)) ∧ 2 ≤ ((o1.2.2.1)) ∧ ((o1.2.2.1)) ≤ 429 ∧ BFX t_corners ((o3.2.2.1)) ∧ 0 ≤ ((zget (o3.2.2.1) (Int.toNat o4))) ∧ ((zget (o3.2.2.1) (Int.toNat o4))) ≤ 62 ∧ 1 ≤ ((1 : Int)) ∧ (((zget (o3.2.2.1) (Int.toNat o4)) + (1 : Int))) = ((zget (o3.2.2.1) (Int.toNat o4))) + 1 ∧ ((1 : Int)) ≤ ((zget (o3.2.2.1) (Int.toNat o4))) + 1 ∧ 0 ≤ (o4) ∧ (o4) < ((o1.2.2.1)) ∧ zget ((o3.2.2.1)) (Int.toNat (o4)) = ((zget (o3.2.2.1) (Int.toNat o4))) - ((1 : Int)) + 1) ∨ ((63 : Nat) = 83 ∧ TL t_corners ((o1.1)) ((o1.2.2.2.2.1)) ((o1.2.2.2.2.2.1)) ((o1.2.2.2.2.2.2.1)) ∧ TL ((o1.2.1)) ((o1.1)) ((o1.2.2.2.2.1)) ((o1.2.2.2.2.2.1)) ((o1.2.2.2.2.2.2.1)) ∧ LK t_corners ((o1.2.2.1)) ((o1.2.2.2.2.2.2.2)) ∧ LK ((o1.2.2.2.1)) ((o1.2.2.1)) ((o1.2.2.2.2.2.2.2)) ∧ 2 ≤ ((o1.2.2.1)) ∧ ((o1.2.2.1)) ≤ 429 ∧ BFX t_corners ((o3.2.2.1)) ∧ 0 ≤ ((zget (o3.2.2.1) (Int.toNat o4))) ∧ ((zget (o3.2.2.1) (Int.toNat o4))) ≤ 62 ∧ 1 ≤ ((1 : Int)) ∧ (((zget (o3.2.2.1) (Int.toNat o4)) + (1 : Int))) = ((zget (o3.2.2.1) (Int.toNat o4))) + 1 ∧ ((1 : Int)) ≤ ((zget (o3.2.2.1) (Int.toNat o4))) ∧ FW t_corners ((o3.2.2.1)) (0) (((zget (o3.2.2.1) (Int.toNat o4))) - ((1 : Int))) (0) (0) ∧ 0 ≤ (0) ∧ (0) ≤ ((o1.1)))) ∧ (100 * (100 - ((1 : Int))) + 60).toNat < 20000 from ⟨Or.inr (Or.inl (⟨rfl, (by first | assumption | omega), (by first | assumption | omega), (by first | assumption | omega), (by first | assumption | omega), (by first | assumption | omega), (by first | assumption | omega), (by first | assumption | omega), (by first | assumption | omega), (by first | assumption | omega), (by first | assumption | omega), (by first | assumption | omega), (by first | assumption | omega), (by first | assumption | omega), (by first | assumption | omega), (by first | assumption | omega)⟩)), by omega⟩)
    · show Go _ (zg_X11_fewest_63 t_corners t_own i1' i2' i3' i4' i5' i6' i8' t_lines' t_linesFor' t_listMany' t_listCorners' t_flipOne' t_flipTwo' t_passedMany' t_numberOf' t_lesser' t_greater' t_list' t_far' t_queue' t_passedBy')
      unfold zg_X11_fewest_63
      have fwi : FW t_corners t_far' (zgetL t_list' (Int.toNat i2')) (i3' - i4') 0 (-1) := ⟨i2'.toNat, by have := v63_2.2.2.1; omega, v63_2.2.2.2 _ (by have := v63_2.2.2.1; omega), by omega, Or.inl ⟨rfl, fun l' o z0 z1 => by omega⟩⟩
      have gn := TL_n v63_0
      refine Go_chk (by unfold zout; omega) ?_
      refine Go_chk (by unfold zout; omega) ?_
      refine Go_ite (fun c7 => ?_) (fun c7 => ?_)
      · exact Go_i (show TL (t_linesFor') (t_lines') (t_numberOf') (t_lesser') (t_greater') ∧ LK (t_listCorners') (t_listMany') (t_list') ∧ 0 ≤ (t_passedMany') ∧ (t_passedMany') ≤ 64 from ⟨(by first | assumption | omega), (by first | assumption | omega), (by first | assumption | omega), (by first | assumption | omega)⟩)
      · refine Go_chk (by omega) ?_
        have a8 := rgetL t_list' (Int.toNat i2')
        exact Go_i (show (((83 : Nat) = 0 ∧ TL (t_linesFor') (t_lines') (t_numberOf') (t_lesser') (t_greater') ∧ LK (t_listCorners') (t_listMany') (t_list') ∧ -2147483648 ≤ (0) ∧ (0) ≤ 2147483647 ∧ 0 ≤ (t_passedMany') ∧ (t_passedMany') ≤ 64) ∨ ((83 : Nat) = 63 ∧ TL t_corners (t_lines') (t_numberOf') (t_lesser') (t_greater') ∧ TL (t_linesFor') (t_lines') (t_numberOf') (t_lesser') (t_greater') ∧ LK t_corners (t_listMany') (t_list') ∧ LK (t_listCorners') (t_listMany') (t_list') ∧ 2 ≤ (t_listMany') ∧ (t_listMany') ≤ 429 ∧ BFX t_corners (t_far') ∧ 0 ≤ (i3') ∧ (i3') ≤ 62 ∧ 1 ≤ (i4') ∧ (t_passedMany') = (i3') + 1 ∧ (i4') ≤ (i3') + 1 ∧ 0 ≤ (i2') ∧ (i2') < (t_listMany') ∧ zget (t_far') (Int.toNat (i2')) = (i3') - (i4') + 1) ∨ ((83 : Nat) = 83 ∧ TL t_corners (t_lines') (t_numberOf') (t_lesser') (t_greater') ∧ TL (t_linesFor') (t_lines') (t_numberOf') (t_lesser') (t_greater') ∧ LK t_corners (t_listMany') (t_list') ∧ LK (t_listCorners') (t_listMany') (t_list') ∧ 2 ≤ (t_listMany') ∧ (t_listMany') ≤ 429 ∧ BFX t_corners (t_far') ∧ 0 ≤ (i3') ∧ (i3') ≤ 62 ∧ 1 ≤ (i4') ∧ (t_passedMany') = (i3') + 1 ∧ (i4') ≤ (i3') ∧ FW t_corners (t_far') ((zgetL t_list' (Int.toNat i2'))) ((i3') - (i4')) ((0 : Int)) ((-1 : Int)) ∧ 0 ≤ ((0 : Int)) ∧ ((0 : Int)) ≤ (t_lines'))) ∧ (100 * (100 - (i4')) + 40 - ((0 : Int))).toNat < (100 * (100 - i4') + 60).toNat from ⟨Or.inr (Or.inr (⟨rfl, (by first | assumption | omega), (by first | assumption | omega), (by first | assumption | omega), (by first | assumption | omega), (by first | assumption | omega), (by first | assumption | omega), (by first | assumption | omega), (by first | assumption | omega), (by first | assumption | omega), (by first | assumption | omega), (by first | assumption | omega), (by first | assumption | omega), (by exact fwi), (by first | assumption | omega), (by first | assumption | omega)⟩)), by omega⟩)
    · show Go _ (zg_X11_fewest_83 t_corners t_own i1' i2' i3' i4' i5' i6' i8' t_lines' t_linesFor' t_listMany' t_listCorners' t_flipOne' t_flipTwo' t_passedMany' t_numberOf' t_lesser' t_greater' t_list' t_far' t_queue' t_passedBy')
      unfold zg_X11_fewest_83
      have e7 : t_lines' = pg7 t_corners.toNat := v83_0.2.2.1
      have e8 : t_listMany' = pg8 t_corners.toNat := v83_2.2.2.1
      have gn := TL_n v83_0
      refine Go_chk (by unfold zout; omega) ?_
      refine Go_chk (by unfold zout; omega) ?_
      refine Go_ite (fun c1 => ?_) (fun c1 => ?_)
      · have el : i8' = pg7 t_corners.toNat := by omega
        rw [el] at v83_12
        have fe := FW_end p2 p3 v83_6 (by omega) v83_12
        refine Go_chk (by omega) ?_
        exact Go_i ⟨Or.inr (Or.inl ⟨rfl, v83_0, v83_1, v83_2, v83_3, v83_4, v83_5, v83_6, v83_7, v83_8, by show (1 : Int) ≤ i4' + 1; omega, v83_10, by show i4' + (1 : Int) ≤ i3' + 1; omega, fe.1, by show i5' < t_listMany'; omega, by show zget t_far' i5'.toNat = i3' - (i4' + 1) + 1; have := fe.2.2; omega⟩), by show (100 * (100 - (i4' + 1)) + 60).toNat < (100 * (100 - i4') + 40 - i8').toNat; omega⟩
      · have st : ∀ (b f1 f2 : Int), FW t_corners t_far' i6' (i3' - i4') (i8' + 1) b → Go (GoE (fun (s : zS_X11_fewest) => (match s with | (lab, i1', i2', i3', i4', i5', i6', i8', t_lines', t_linesFor', t_listMany', t_listCorners', t_flipOne', t_flipTwo', t_passedMany', t_numberOf', t_lesser', t_greater', t_list', t_far', t_queue', t_passedBy') => (lab = 0 ∧ TL t_linesFor' t_lines' t_numberOf' t_lesser' t_greater' ∧ LK t_listCorners' t_listMany' t_list' ∧ -2147483648 ≤ i1' ∧ i1' ≤ 2147483647 ∧ 0 ≤ t_passedMany' ∧ t_passedMany' ≤ 64) ∨ (lab = 63 ∧ TL t_corners t_lines' t_numberOf' t_lesser' t_greater' ∧ TL t_linesFor' t_lines' t_numberOf' t_lesser' t_greater' ∧ LK t_corners t_listMany' t_list' ∧ LK t_listCorners' t_listMany' t_list' ∧ 2 ≤ t_listMany' ∧ t_listMany' ≤ 429 ∧ BFX t_corners t_far' ∧ 0 ≤ i3' ∧ i3' ≤ 62 ∧ 1 ≤ i4' ∧ t_passedMany' = i3' + 1 ∧ i4' ≤ i3' + 1 ∧ 0 ≤ i2' ∧ i2' < t_listMany' ∧ zget t_far' (Int.toNat i2') = i3' - i4' + 1) ∨ (lab = 83 ∧ TL t_corners t_lines' t_numberOf' t_lesser' t_greater' ∧ TL t_linesFor' t_lines' t_numberOf' t_lesser' t_greater' ∧ LK t_corners t_listMany' t_list' ∧ LK t_listCorners' t_listMany' t_list' ∧ 2 ≤ t_listMany' ∧ t_listMany' ≤ 429 ∧ BFX t_corners t_far' ∧ 0 ≤ i3' ∧ i3' ≤ 62 ∧ 1 ≤ i4' ∧ t_passedMany' = i3' + 1 ∧ i4' ≤ i3' ∧ FW t_corners t_far' i6' (i3' - i4') i8' i5' ∧ 0 ≤ i8' ∧ i8' ≤ t_lines')) ∧ (match s with | (lab, i1', i2', i3', i4', i5', i6', i8', t_lines', t_linesFor', t_listMany', t_listCorners', t_flipOne', t_flipTwo', t_passedMany', t_numberOf', t_lesser', t_greater', t_list', t_far', t_queue', t_passedBy') => if lab = 0 then 20000 else if lab = 63 then (100 * (100 - i4') + 60).toNat else if lab = 83 then (100 * (100 - i4') + 40 - i8').toNat else 0) < (100 * (100 - i4') + 40 - i8').toNat) (fun (o : zO_X11_fewest) => TL (o.2.2.1) (o.2.1) (o.2.2.2.2.2.2.2.2.1) (o.2.2.2.2.2.2.2.2.2.1) (o.2.2.2.2.2.2.2.2.2.2.1) ∧ LK (o.2.2.2.2.1) (o.2.2.2.1) (o.2.2.2.2.2.2.2.2.2.2.2.1) ∧ 0 ≤ (o.2.2.2.2.2.2.2.1) ∧ (o.2.2.2.2.2.2.2.1) ≤ 64)) (some (.inr (83, 0, 0, i3', i4', b, i6', (i8' + (1 : Int)), t_lines', t_linesFor', t_listMany', t_listCorners', f1, f2, t_passedMany', t_numberOf', t_lesser', t_greater', t_list', t_far', t_queue', t_passedBy'))) := fun b f1 f2 fw => Go_i ⟨Or.inr (Or.inr ⟨rfl, v83_0, v83_1, v83_2, v83_3, v83_4, v83_5, v83_6, v83_7, v83_8, v83_9, v83_10, v83_11, fw, by show (0 : Int) ≤ i8' + 1; omega, by show i8' + (1 : Int) ≤ t_lines'; omega⟩), by show (100 * (100 - i4') + 40 - (i8' + 1)).toNat < (100 * (100 - i4') + 40 - i8').toNat; omega⟩
        obtain ⟨h, hh, rfl, hf, hb⟩ := v83_12
        have hc : isCut t_corners.toNat (zget (pg6 t_corners.toNat) h) := ⟨h, hh, rfl⟩
        have be := (bit_eq (m := t_corners.toNat) (by omega) (by omega) hc (l := i8') (by omega) (by omega)).1
        refine Go_ite (fun c2 => ?_) (fun c2 => ?_)
        · refine st _ _ _ ⟨h, hh, rfl, hf, ?_⟩
          rcases hb with ⟨hb, hb2⟩ | hb
          · refine Or.inl ⟨hb, fun l' o z0 z1 z2 => ?_⟩
            by_cases e : l' = i8'
            · subst e; rw [be] at c2; exact absurd c2 z2
            · exact hb2 l' o z0 (by omega) z2
          · exact Or.inr hb
        · refine Go_chk (by omega) ?_
          have e8' : ((Int.toNat i8' : Nat) : Int) = i8' := by omega
          have ec : ((Int.toNat t_corners : Nat) : Int) = t_corners := by omega
          obtain ⟨o, b1, b2, b3, b4, b5, b6⟩ := fl_line (m := t_corners.toNat) (by omega) (by omega) v83_0.2.2 hc (l := Int.toNat i8') (by omega) (by rw [e8']; exact c2) t_flipOne' t_flipTwo'
          rw [e8'] at b1 b4 b5 b6
          rw [ec] at b6
          rw [b6]
          simp only [Option.bind_some]
          obtain ⟨t, ht, et⟩ := b4
          rw [et, pl_ok (m := t_corners.toNat) (by omega) (by omega) v83_2.2.2 ht]
          simp only [Option.bind_some]
          refine Go_chk (by omega) ?_
          refine Go_chk (by unfold zout; omega) ?_
          simp only [Int.toNat_natCast]
          have uq : ∀ y : Nat, (y : Int) < pg8 t_corners.toNat → ∀ o', zf_X5_otherLine t_corners.toNat (zget (pg6 t_corners.toNat) h) i8' = some o' → zget (pg6 t_corners.toNat) y = flipN (zget (pg6 t_corners.toNat) h) i8' o' → y = t := by
            intro y hy o' ho' e
            rw [b1] at ho'
            cases ho'
            rw [et] at e
            exact pg6_inj (by omega) (by omega) hy ht e
          refine Go_ite (fun c3 => ?_) (fun c3 => ?_)
          · have good : FW t_corners t_far' (zget (pg6 t_corners.toNat) h) (i3' - i4') (i8' + 1) (t : Int) := ⟨h, hh, rfl, hf, Or.inr ⟨by omega, ht, by rw [Int.toNat_natCast]; exact c3⟩⟩
            refine Go_chk (by rcases hb with ⟨hb, _⟩ | hb <;> unfold zout <;> omega) ?_
            refine Go_ite (fun c4 => ?_) (fun c4 => ?_)
            · exact st _ _ _ good
            · refine Go_chk (by unfold zout; omega) ?_
              refine Go_ite (fun c5 => ?_) (fun c5 => ?_)
              · refine st _ _ _ ⟨h, hh, rfl, hf, ?_⟩
                rcases hb with ⟨hb, _⟩ | hb
                · exact absurd hb c4
                · exact Or.inr hb
              · exact st _ _ _ good
          · refine st _ _ _ ⟨h, hh, rfl, hf, ?_⟩
            rcases hb with ⟨hb, hb2⟩ | hb
            · refine Or.inl ⟨hb, fun l' o' z0 z1 z2 z3 y hy z4 => ?_⟩
              by_cases e : l' = i8'
              · subst e
                have := uq y hy o' z3 z4
                subst this
                exact c3
              · exact hb2 l' o' z0 (by omega) z2 z3 y hy z4
            · exact Or.inr hb
  · exact (show ((0 : Nat) = 0 ∧ TL t_linesFor t_lines t_numberOf t_lesser t_greater ∧ LK t_listCorners t_listMany t_list ∧ -2147483648 ≤ i1 ∧ i1 ≤ 2147483647 ∧ 0 ≤ t_passedMany ∧ t_passedMany ≤ 64) ∨ ((0 : Nat) = 63 ∧ TL t_corners t_lines t_numberOf t_lesser t_greater ∧ TL t_linesFor t_lines t_numberOf t_lesser t_greater ∧ LK t_corners t_listMany t_list ∧ LK t_listCorners t_listMany t_list ∧ 2 ≤ t_listMany ∧ t_listMany ≤ 429 ∧ BFX t_corners t_far ∧ 0 ≤ 0 ∧ 0 ≤ 62 ∧ 1 ≤ 0 ∧ t_passedMany = 0 + 1 ∧ 0 ≤ 0 + 1 ∧ 0 ≤ 0 ∧ 0 < t_listMany ∧ zget t_far (Int.toNat 0) = 0 - 0 + 1) ∨ ((0 : Nat) = 83 ∧ TL t_corners t_lines t_numberOf t_lesser t_greater ∧ TL t_linesFor t_lines t_numberOf t_lesser t_greater ∧ LK t_corners t_listMany t_list ∧ LK t_listCorners t_listMany t_list ∧ 2 ≤ t_listMany ∧ t_listMany ≤ 429 ∧ BFX t_corners t_far ∧ 0 ≤ 0 ∧ 0 ≤ 62 ∧ 1 ≤ 0 ∧ t_passedMany = 0 + 1 ∧ 0 ≤ 0 ∧ FW t_corners t_far 0 (0 - 0) 0 0 ∧ 0 ≤ 0 ∧ 0 ≤ t_lines) from Or.inl (⟨rfl, (by first | assumption | omega), (by first | assumption | omega), (by first | assumption | omega), (by first | assumption | omega), (by first | assumption | omega), (by first | assumption | omega)⟩))
  · show 20000 < jfuel
    unfold jfuel
    omega
