section
set_option maxRecDepth 20000 in
theorem oy_isCross (i0 : Int) (i1 : Int) (i2 : Int) (i3 : Int) (i4 : Int) (p0 : 4 ≤ i0) (p1 : i0 ≤ 9) (p2 : 0 ≤ i1) (p3 : i1 < i0) (p4 : 0 ≤ i2) (p5 : i2 < i0) (p6 : 0 ≤ i3) (p7 : i3 < i0) (p8 : 0 ≤ i4) (p9 : i4 < i0) : Go (fun o => zf_X11_isCross i0 i1 i2 i3 i4 = some (o) ∧ True) (zf_X11_isCross i0 i1 i2 i3 i4) := by
  obtain ⟨o, ho, _⟩ := ok_X11_isCross i0 i1 i2 i3 i4 p0 p1 p2 p3 p4 p5 p6 p7 p8 p9
  exact ⟨o, ho, ho, True.intro⟩
set_option maxRecDepth 20000 in
theorem oy_readCorner (t_sort : Int) (t_at : Int) (t_number : Int) (t_faultKind : Int) (t_faultPlace : Int) (t_newCorners : Int) (p0 : 0 ≤ t_sort) (p1 : t_sort ≤ 4) (p2 : (t_sort = 2 → 0 ≤ t_number ∧ t_number ≤ 999)) (p3 : 4 ≤ t_newCorners) (p4 : t_newCorners ≤ 9) : Go (fun o => ((o.1) = true → t_sort = 2 ∧ 0 ≤ t_number ∧ t_number < t_newCorners) ∧ ((o.1) = false → True)) (zf_X11_readCorner t_sort t_at t_number t_faultKind t_faultPlace t_newCorners) := by
  unfold zf_X11_readCorner
  refine Go_chk (by unfold zout; omega) ?_
  refine Go_ite (fun c1 => ?_) (fun c1 => ?_)
  · refine Go_bindP (ok_X11_in t_number (0 : Int) (t_newCorners - (1 : Int)) (by first | assumption | omega) (by first | assumption | omega) (by first | assumption | omega) (by first | assumption | omega) (by first | assumption | omega) (by first | assumption | omega)) (fun o2 q2 => ?_)
    obtain ⟨q2_0, q2_1⟩ := q2
    refine Go_ite (fun c3 => ?_) (fun c3 => ?_)
    · have dc3 := q2_1 c3
      refine Go_bindP (ok_X11_fails t_at t_faultKind t_faultPlace (2 : Int) ) (fun o3 q4 => ?_)
      obtain ⟨q4_0, q4_1, q4_2⟩ := q4
      exact Go_i (show (((o3.1)) = true → t_sort = 2 ∧ 0 ≤ t_number ∧ t_number < t_newCorners) ∧ (((o3.1)) = false → True) from ⟨(by intro h; first | exact True.intro | omega | (exact absurd h (by decide)) | (simp_all; done)), (by intro h; first | exact True.intro | omega | (exact absurd h (by decide)) | (simp_all; done))⟩)
    · have dc3 := q2_0 (bnf c3)
      exact Go_i (show ((true) = true → t_sort = 2 ∧ 0 ≤ t_number ∧ t_number < t_newCorners) ∧ ((true) = false → True) from ⟨(by intro h; first | exact True.intro | omega | (exact absurd h (by decide)) | (simp_all; done)), (by intro h; first | exact True.intro | omega | (exact absurd h (by decide)) | (simp_all; done))⟩)
  · refine Go_bindP (ok_X11_fails t_at t_faultKind t_faultPlace (1 : Int) ) (fun o5 q5 => ?_)
    obtain ⟨q5_0, q5_1, q5_2⟩ := q5
    exact Go_i (show (((o5.1)) = true → t_sort = 2 ∧ 0 ≤ t_number ∧ t_number < t_newCorners) ∧ (((o5.1)) = false → True) from ⟨(by intro h; first | exact True.intro | omega | (exact absurd h (by decide)) | (simp_all; done)), (by intro h; first | exact True.intro | omega | (exact absurd h (by decide)) | (simp_all; done))⟩)
set_option maxRecDepth 20000 in
theorem ok_X11_readCut (t_size : Int) (t_sort : Int) (t_at : Int) (t_end : Int) (t_number : Int) (t_faultKind : Int) (t_faultPlace : Int) (t_word : Int) (t_lines : Int) (t_linesFor : Int) (t_newCorners : Int) (t_newCut : Int) (t_tape : Nat) (t_numberOf : Nat) (t_lesser : Nat) (t_greater : Nat) (p0 : 0 ≤ t_size) (p1 : t_size ≤ 300) (p2 : 0 ≤ t_end) (p3 : t_end ≤ t_size) (p4 : 0 ≤ t_sort) (p5 : t_sort ≤ 4) (p6 : (t_sort = 2 → 0 ≤ t_number ∧ t_number ≤ 999)) (p7 : (t_sort = 1 → 0 ≤ t_word ∧ t_word ≤ 1099511627775)) (p8 : TL t_linesFor t_lines t_numberOf t_lesser t_greater) : Go (fun o => ((o.1) = true → 4 ≤ (o.2.2.2.2.2.2.2.2.2.2.1) ∧ (o.2.2.2.2.2.2.2.2.2.2.1) ≤ 9 ∧ CU (o.2.2.2.2.2.2.2.2.2.2.1) (o.2.2.2.2.2.2.2.2.2.2.2.1)) ∧ ((o.1) = false → True) ∧ TL (o.2.2.2.2.2.2.2.2.2.1) (o.2.2.2.2.2.2.2.2.1) (o.2.2.2.2.2.2.2.2.2.2.2.2.1) (o.2.2.2.2.2.2.2.2.2.2.2.2.2.1) (o.2.2.2.2.2.2.2.2.2.2.2.2.2.2)) (zf_X11_readCut t_size t_sort t_at t_end t_number t_faultKind t_faultPlace t_word t_lines t_linesFor t_newCorners t_newCut t_tape t_numberOf t_lesser t_greater) := by
  unfold zf_X11_readCut
  refine jok (fun (s : zS_X11_readCut) => match s with | (lab, i1', i2', i3', i4', t_sort', t_at', t_end', t_number', t_faultKind', t_faultPlace', t_word', t_lines', t_linesFor', t_newCorners', t_newCut', t_numberOf', t_lesser', t_greater') => (lab = 0 ∧ 0 ≤ t_end' ∧ t_end' ≤ t_size ∧ 0 ≤ t_sort' ∧ t_sort' ≤ 4 ∧ (t_sort' = 2 → 0 ≤ t_number' ∧ t_number' ≤ 999) ∧ (t_sort' = 1 → 0 ≤ t_word' ∧ t_word' ≤ 1099511627775) ∧ TL t_linesFor' t_lines' t_numberOf' t_lesser' t_greater') ∨ (lab = 107 ∧ 0 ≤ t_end' ∧ t_end' ≤ t_size ∧ 0 ≤ t_sort' ∧ t_sort' ≤ 4 ∧ (t_sort' = 2 → 0 ≤ t_number' ∧ t_number' ≤ 999) ∧ (t_sort' = 1 → 0 ≤ t_word' ∧ t_word' ≤ 1099511627775) ∧ 4 ≤ t_newCorners' ∧ t_newCorners' ≤ 9 ∧ TL t_newCorners' t_lines' t_numberOf' t_lesser' t_greater' ∧ TL t_linesFor' t_lines' t_numberOf' t_lesser' t_greater' ∧ 2 ≤ t_lines' ∧ t_lines' ≤ 27 ∧ GS t_newCorners' t_newCut' i1') ∨ (lab = 191 ∧ 0 ≤ t_end' ∧ t_end' ≤ t_size ∧ 0 ≤ t_sort' ∧ t_sort' ≤ 4 ∧ (t_sort' = 2 → 0 ≤ t_number' ∧ t_number' ≤ 999) ∧ (t_sort' = 1 → 0 ≤ t_word' ∧ t_word' ≤ 1099511627775) ∧ 4 ≤ t_newCorners' ∧ t_newCorners' ≤ 9 ∧ TL t_newCorners' t_lines' t_numberOf' t_lesser' t_greater' ∧ TL t_linesFor' t_lines' t_numberOf' t_lesser' t_greater' ∧ 2 ≤ t_lines' ∧ t_lines' ≤ 27 ∧ 0 ≤ i2' ∧ i2' < t_newCorners' ∧ 0 ≤ i3' ∧ i3' < t_newCorners' ∧ ¬ i2' = i3' ∧ 0 ≤ i4' ∧ i4' ≤ t_lines' ∧ GX t_newCorners' t_newCut' i1' i2' i3' i4')) (fun (s : zS_X11_readCut) => match s with | (lab, i1', i2', i3', i4', t_sort', t_at', t_end', t_number', t_faultKind', t_faultPlace', t_word', t_lines', t_linesFor', t_newCorners', t_newCut', t_numberOf', t_lesser', t_greater') => if lab = 0 then 100000 else if lab = 107 then (100 * (301 - t_end') + 50).toNat else if lab = 191 then (100 * (301 - t_end') + 40 - i4').toNat else 0) (fun (o : zO_X11_readCut) => ((o.1) = true → 4 ≤ (o.2.2.2.2.2.2.2.2.2.2.1) ∧ (o.2.2.2.2.2.2.2.2.2.2.1) ≤ 9 ∧ CU (o.2.2.2.2.2.2.2.2.2.2.1) (o.2.2.2.2.2.2.2.2.2.2.2.1)) ∧ ((o.1) = false → True) ∧ TL (o.2.2.2.2.2.2.2.2.2.1) (o.2.2.2.2.2.2.2.2.1) (o.2.2.2.2.2.2.2.2.2.2.2.2.1) (o.2.2.2.2.2.2.2.2.2.2.2.2.2.1) (o.2.2.2.2.2.2.2.2.2.2.2.2.2.2)) ?_ _ ?_ ?_
  · intro s hI
    obtain ⟨lab, i1', i2', i3', i4', t_sort', t_at', t_end', t_number', t_faultKind', t_faultPlace', t_word', t_lines', t_linesFor', t_newCorners', t_newCut', t_numberOf', t_lesser', t_greater'⟩ := s
    have hI : (lab = 0 ∧ 0 ≤ t_end' ∧ t_end' ≤ t_size ∧ 0 ≤ t_sort' ∧ t_sort' ≤ 4 ∧ (t_sort' = 2 → 0 ≤ t_number' ∧ t_number' ≤ 999) ∧ (t_sort' = 1 → 0 ≤ t_word' ∧ t_word' ≤ 1099511627775) ∧ TL t_linesFor' t_lines' t_numberOf' t_lesser' t_greater') ∨ (lab = 107 ∧ 0 ≤ t_end' ∧ t_end' ≤ t_size ∧ 0 ≤ t_sort' ∧ t_sort' ≤ 4 ∧ (t_sort' = 2 → 0 ≤ t_number' ∧ t_number' ≤ 999) ∧ (t_sort' = 1 → 0 ≤ t_word' ∧ t_word' ≤ 1099511627775) ∧ 4 ≤ t_newCorners' ∧ t_newCorners' ≤ 9 ∧ TL t_newCorners' t_lines' t_numberOf' t_lesser' t_greater' ∧ TL t_linesFor' t_lines' t_numberOf' t_lesser' t_greater' ∧ 2 ≤ t_lines' ∧ t_lines' ≤ 27 ∧ GS t_newCorners' t_newCut' i1') ∨ (lab = 191 ∧ 0 ≤ t_end' ∧ t_end' ≤ t_size ∧ 0 ≤ t_sort' ∧ t_sort' ≤ 4 ∧ (t_sort' = 2 → 0 ≤ t_number' ∧ t_number' ≤ 999) ∧ (t_sort' = 1 → 0 ≤ t_word' ∧ t_word' ≤ 1099511627775) ∧ 4 ≤ t_newCorners' ∧ t_newCorners' ≤ 9 ∧ TL t_newCorners' t_lines' t_numberOf' t_lesser' t_greater' ∧ TL t_linesFor' t_lines' t_numberOf' t_lesser' t_greater' ∧ 2 ≤ t_lines' ∧ t_lines' ≤ 27 ∧ 0 ≤ i2' ∧ i2' < t_newCorners' ∧ 0 ≤ i3' ∧ i3' < t_newCorners' ∧ ¬ i2' = i3' ∧ 0 ≤ i4' ∧ i4' ≤ t_lines' ∧ GX t_newCorners' t_newCut' i1' i2' i3' i4') := hI
    rcases hI with ⟨rfl, v0_0, v0_1, v0_2, v0_3, v0_4, v0_5, v0_6⟩ | ⟨rfl, v107_0, v107_1, v107_2, v107_3, v107_4, v107_5, v107_6, v107_7, v107_8, v107_9, v107_10, v107_11, v107_12⟩ | ⟨rfl, v191_0, v191_1, v191_2, v191_3, v191_4, v191_5, v191_6, v191_7, v191_8, v191_9, v191_10, v191_11, v191_12, v191_13, v191_14, v191_15, v191_16, v191_17, v191_18, v191_19⟩
    · show Go _ (zg_X11_readCut_0 t_size t_tape i1' i2' i3' i4' t_sort' t_at' t_end' t_number' t_faultKind' t_faultPlace' t_word' t_lines' t_linesFor' t_newCorners' t_newCut' t_numberOf' t_lesser' t_greater')
      unfold zg_X11_readCut_0
      refine Go_chk (by unfold zout; omega) ?_
      refine Go_ite (fun c1 => ?_) (fun c1 => ?_)
      · refine Go_chk (by unfold zoutL; omega) ?_
        refine Go_ite (fun c2 => ?_) (fun c2 => ?_)
        · refine Go_bindP (ok_X11_scan t_size t_sort' t_at' t_end' t_number' t_word' t_tape (by first | assumption | omega) (by first | assumption | omega) (by first | assumption | omega) (by first | assumption | omega)) (fun o4 q3 => ?_)
          obtain ⟨q3_0, q3_1, q3_2, q3_3, q3_4, q3_5, q3_6, q3_7, q3_8⟩ := q3
          refine Go_chk (by unfold zout; omega) ?_
          refine Go_ite (fun c4 => ?_) (fun c4 => ?_)
          · refine Go_bindP (ok_X11_in (o4.2.2.2.1) (4 : Int) (9 : Int) (by first | assumption | omega) (by first | assumption | omega) (by first | assumption | omega) (by first | assumption | omega) (by first | assumption | omega) (by first | assumption | omega)) (fun o6 q5 => ?_)
            obtain ⟨q5_0, q5_1⟩ := q5
            refine Go_ite (fun c6 => ?_) (fun c6 => ?_)
            · have dc6 := q5_1 c6
              refine Go_bindP (ok_X11_fails (o4.2.1) t_faultKind' t_faultPlace' (2 : Int) ) (fun o13 q7 => ?_)
              obtain ⟨q7_0, q7_1, q7_2⟩ := q7
              exact Go_i (show (((o13.1)) = true → 4 ≤ (t_newCorners') ∧ (t_newCorners') ≤ 9 ∧ CU (t_newCorners') (t_newCut')) ∧ (((o13.1)) = false → True) ∧ TL (t_linesFor') (t_lines') (t_numberOf') (t_lesser') (t_greater') from ⟨(by intro h; first | exact ⟨by omega, by omega, GS_cut (by assumption) (by omega)⟩ | (exact absurd h (by decide)) | (exfalso; simp_all; done)), (by intro h; first | exact True.intro | omega | (exact absurd h (by decide))), (by first | assumption | omega)⟩)
            · have dc6 := q5_0 (bnf c6)
              refine Go_bindP (oy_linesOf t_lines' t_linesFor' t_numberOf' t_lesser' t_greater' (o4.2.2.2.1) (by first | assumption | omega) (by first | assumption | omega) (by first | assumption | omega)) (fun o7 q8 => ?_)
              obtain ⟨q8_0, q8_1, q8_2, q8_3, q8_4⟩ := q8
              refine Go_bindP (ok_X11_scan t_size (o4.1) (o4.2.1) (o4.2.2.1) (o4.2.2.2.1) (o4.2.2.2.2) t_tape (by first | assumption | omega) (by first | assumption | omega) (by first | assumption | omega) (by first | assumption | omega)) (fun o8 q9 => ?_)
              obtain ⟨q9_0, q9_1, q9_2, q9_3, q9_4, q9_5, q9_6, q9_7, q9_8⟩ := q9
              refine Go_chk (by unfold zout; omega) ?_
              refine Go_ite (fun c10 => ?_) (fun c10 => ?_)
              · refine Go_bindP (ok_X11_scan t_size (o8.1) (o8.2.1) (o8.2.2.1) (o8.2.2.2.1) (o8.2.2.2.2) t_tape (by first | assumption | omega) (by first | assumption | omega) (by first | assumption | omega) (by first | assumption | omega)) (fun o10 q11 => ?_)
                obtain ⟨q11_0, q11_1, q11_2, q11_3, q11_4, q11_5, q11_6, q11_7, q11_8⟩ := q11
                exact Go_i (show (((107 : Nat) = 0 ∧ 0 ≤ ((o10.2.2.1)) ∧ ((o10.2.2.1)) ≤ t_size ∧ 0 ≤ ((o10.1)) ∧ ((o10.1)) ≤ 4 ∧ (((o10.1)) = 2 → 0 ≤ ((o10.2.2.2.1)) ∧ ((o10.2.2.2.1)) ≤ 999) ∧ (((o10.1)) = 1 → 0 ≤ ((o10.2.2.2.2)) ∧ ((o10.2.2.2.2)) ≤ 1099511627775) ∧ TL ((o7.2.1)) ((o7.1)) ((o7.2.2.1)) ((o7.2.2.2.1)) ((o7.2.2.2.2))) ∨ ((107 : Nat) = 107 ∧ 0 ≤ ((o10.2.2.1)) ∧ ((o10.2.2.1)) ≤ t_size ∧ 0 ≤ ((o10.1)) ∧ ((o10.1)) ≤ 4 ∧ (((o10.1)) = 2 → 0 ≤ ((o10.2.2.2.1)) ∧ ((o10.2.2.2.1)) ≤ 999) ∧ (((o10.1)) = 1 → 0 ≤ ((o10.2.2.2.2)) ∧ ((o10.2.2.2.2)) ≤ 1099511627775) ∧ 4 ≤ ((o4.2.2.2.1)) ∧ ((o4.2.2.2.1)) ≤ 9 ∧ TL ((o4.2.2.2.1)) ((o7.1)) ((o7.2.2.1)) ((o7.2.2.2.1)) ((o7.2.2.2.2)) ∧ TL ((o7.2.1)) ((o7.1)) ((o7.2.2.1)) ((o7.2.2.2.1)) ((o7.2.2.2.2)) ∧ 2 ≤ ((o7.1)) ∧ ((o7.1)) ≤ 27 ∧ GS ((o4.2.2.2.1)) ((0 : Int)) ((0 : Int))) ∨ ((107 : Nat) = 191 ∧ 0 ≤ ((o10.2.2.1)) ∧ ((o10.2.2.1)) ≤ t_size ∧ 0 ≤ ((o10.1)) ∧ ((o10.1)) ≤ 4 ∧ (((o10.1)) = 2 → 0 ≤ ((o10.2.2.2.1)) ∧ ((o10.2.2.2.1)) ≤ 999) ∧ (((o10.1)) = 1 → 0 ≤ ((o10.2.2.2.2)) ∧ ((o10.2.2.2.2)) ≤ 1099511627775) ∧ 4 ≤ ((o4.2.2.2.1)) ∧ ((o4.2.2.2.1)) ≤ 9 ∧ TL ((o4.2.2.2.1)) ((o7.1)) ((o7.2.2.1)) ((o7.2.2.2.1)) ((o7.2.2.2.2)) ∧ TL ((o7.2.1)) ((o7.1)) ((o7.2.2.1)) ((o7.2.2.2.1)) ((o7.2.2.2.2)) ∧ 2 ≤ ((o7.1)) ∧ ((o7.1)) ≤ 27 ∧ 0 ≤ (0) ∧ (0) < ((o4.2.2.2.1)) ∧ 0 ≤ (0) ∧ (0) < ((o4.2.2.2.1)) ∧ ¬ (0) = (0) ∧ 0 ≤ (0) ∧ (0) ≤ ((o7.1)) ∧ GX ((o4.2.2.2.1)) ((0 : Int)) ((0 : Int)) (0) (0) (0))) ∧ (100 * (301 - ((o10.2.2.1))) + 50).toNat < 100000 from ⟨Or.inr (Or.inl (⟨rfl, (by first | assumption | omega), (by first | assumption | omega), (by first | assumption | omega), (by first | assumption | omega), (by intro h; first | exact True.intro | omega | (exact absurd h (by decide))), (by intro h; first | exact True.intro | omega | (exact absurd h (by decide))), (by first | assumption | omega), (by first | assumption | omega), (by first | assumption | omega), (by first | assumption | omega), (by first | assumption | omega), (by first | assumption | omega), (by exact GS_0 (by omega) (by omega))⟩)), by omega⟩)
              · refine Go_bindP (ok_X11_fails (o8.2.1) t_faultKind' t_faultPlace' (1 : Int) ) (fun o11 q12 => ?_)
                obtain ⟨q12_0, q12_1, q12_2⟩ := q12
                exact Go_i (show (((o11.1)) = true → 4 ≤ ((o4.2.2.2.1)) ∧ ((o4.2.2.2.1)) ≤ 9 ∧ CU ((o4.2.2.2.1)) ((0 : Int))) ∧ (((o11.1)) = false → True) ∧ TL ((o7.2.1)) ((o7.1)) ((o7.2.2.1)) ((o7.2.2.2.1)) ((o7.2.2.2.2)) from ⟨(by intro h; first | exact ⟨by omega, by omega, GS_cut (by assumption) (by omega)⟩ | (exact absurd h (by decide)) | (exfalso; simp_all; done)), (by intro h; first | exact True.intro | omega | (exact absurd h (by decide))), (by first | assumption | omega)⟩)
          · refine Go_bindP (ok_X11_fails (o4.2.1) t_faultKind' t_faultPlace' (1 : Int) ) (fun o15 q13 => ?_)
            obtain ⟨q13_0, q13_1, q13_2⟩ := q13
            exact Go_i (show (((o15.1)) = true → 4 ≤ (t_newCorners') ∧ (t_newCorners') ≤ 9 ∧ CU (t_newCorners') (t_newCut')) ∧ (((o15.1)) = false → True) ∧ TL (t_linesFor') (t_lines') (t_numberOf') (t_lesser') (t_greater') from ⟨(by intro h; first | exact ⟨by omega, by omega, GS_cut (by assumption) (by omega)⟩ | (exact absurd h (by decide)) | (exfalso; simp_all; done)), (by intro h; first | exact True.intro | omega | (exact absurd h (by decide))), (by first | assumption | omega)⟩)
        · refine Go_bindP (ok_X11_fails t_at' t_faultKind' t_faultPlace' (1 : Int) ) (fun o17 q14 => ?_)
          obtain ⟨q14_0, q14_1, q14_2⟩ := q14
          exact Go_i (show (((o17.1)) = true → 4 ≤ (t_newCorners') ∧ (t_newCorners') ≤ 9 ∧ CU (t_newCorners') (t_newCut')) ∧ (((o17.1)) = false → True) ∧ TL (t_linesFor') (t_lines') (t_numberOf') (t_lesser') (t_greater') from ⟨(by intro h; first | exact ⟨by omega, by omega, GS_cut (by assumption) (by omega)⟩ | (exact absurd h (by decide)) | (exfalso; simp_all; done)), (by intro h; first | exact True.intro | omega | (exact absurd h (by decide))), (by first | assumption | omega)⟩)
      · refine Go_bindP (ok_X11_fails t_at' t_faultKind' t_faultPlace' (1 : Int) ) (fun o2 q15 => ?_)
        obtain ⟨q15_0, q15_1, q15_2⟩ := q15
        exact Go_i (show (((o2.1)) = true → 4 ≤ (t_newCorners') ∧ (t_newCorners') ≤ 9 ∧ CU (t_newCorners') (t_newCut')) ∧ (((o2.1)) = false → True) ∧ TL (t_linesFor') (t_lines') (t_numberOf') (t_lesser') (t_greater') from ⟨(by intro h; first | exact ⟨by omega, by omega, GS_cut (by assumption) (by omega)⟩ | (exact absurd h (by decide)) | (exfalso; simp_all; done)), (by intro h; first | exact True.intro | omega | (exact absurd h (by decide))), (by first | assumption | omega)⟩)
    · show Go _ (zg_X11_readCut_107 t_size t_tape i1' i2' i3' i4' t_sort' t_at' t_end' t_number' t_faultKind' t_faultPlace' t_word' t_lines' t_linesFor' t_newCorners' t_newCut' t_numberOf' t_lesser' t_greater')
      unfold zg_X11_readCut_107
      have gsn := GS_n v107_12
      refine Go_chk (by unfold zout; omega) ?_
      refine Go_ite (fun c16 => ?_) (fun c16 => ?_)
      · refine Go_chk (by unfold zout; omega) ?_
        refine Go_chk (by unfold zout; omega) ?_
        refine Go_ite (fun c17 => ?_) (fun c17 => ?_)
        · exact Go_i (show ((true) = true → 4 ≤ (t_newCorners') ∧ (t_newCorners') ≤ 9 ∧ CU (t_newCorners') (t_newCut')) ∧ ((true) = false → True) ∧ TL (t_linesFor') (t_lines') (t_numberOf') (t_lesser') (t_greater') from ⟨(by intro h; first | exact ⟨by omega, by omega, GS_cut (by assumption) (by omega)⟩ | (exact absurd h (by decide)) | (exfalso; simp_all; done)), (by intro h; first | exact True.intro | omega | (exact absurd h (by decide))), (by first | assumption | omega)⟩)
        · refine Go_bindP (ok_X11_fails t_at' t_faultKind' t_faultPlace' (6 : Int) ) (fun o23 q18 => ?_)
          obtain ⟨q18_0, q18_1, q18_2⟩ := q18
          refine Go_ite (fun c19 => ?_) (fun c19 => ?_)
          · exact Go_i (show ((false) = true → 4 ≤ (t_newCorners') ∧ (t_newCorners') ≤ 9 ∧ CU (t_newCorners') (t_newCut')) ∧ ((false) = false → True) ∧ TL (t_linesFor') (t_lines') (t_numberOf') (t_lesser') (t_greater') from ⟨(by intro h; first | exact ⟨by omega, by omega, GS_cut (by assumption) (by omega)⟩ | (exact absurd h (by decide)) | (exfalso; simp_all; done)), (by intro h; first | exact True.intro | omega | (exact absurd h (by decide))), (by first | assumption | omega)⟩)
          · exact Go_i (show ((true) = true → 4 ≤ (t_newCorners') ∧ (t_newCorners') ≤ 9 ∧ CU (t_newCorners') (t_newCut')) ∧ ((true) = false → True) ∧ TL (t_linesFor') (t_lines') (t_numberOf') (t_lesser') (t_greater') from ⟨(by intro h; first | exact ⟨by omega, by omega, GS_cut (by assumption) (by omega)⟩ | (exact absurd h (by decide)) | (exfalso; simp_all; done)), (by intro h; first | exact True.intro | omega | (exact absurd h (by decide))), (by first | assumption | omega)⟩)
      · refine Go_bindP (oy_readCorner t_sort' t_at' t_number' t_faultKind' t_faultPlace' t_newCorners' (by first | assumption | omega) (by first | assumption | omega) (by intro h; first | exact True.intro | omega | (exact absurd h (by decide))) (by first | assumption | omega) (by first | assumption | omega)) (fun o26 q20 => ?_)
        obtain ⟨q20_0, q20_1⟩ := q20
        refine Go_ite (fun c21 => ?_) (fun c21 => ?_)
        · have dc21 := q20_1 c21
          exact Go_i (show ((false) = true → 4 ≤ (t_newCorners') ∧ (t_newCorners') ≤ 9 ∧ CU (t_newCorners') (t_newCut')) ∧ ((false) = false → True) ∧ TL (t_linesFor') (t_lines') (t_numberOf') (t_lesser') (t_greater') from ⟨(by intro h; first | exact ⟨by omega, by omega, GS_cut (by assumption) (by omega)⟩ | (exact absurd h (by decide)) | (exfalso; simp_all; done)), (by intro h; first | exact True.intro | omega | (exact absurd h (by decide))), (by first | assumption | omega)⟩)
        · have dc21 := q20_0 (bnf c21)
          refine Go_bindP (ok_X11_scan t_size t_sort' t_at' t_end' t_number' t_word' t_tape (by first | assumption | omega) (by first | assumption | omega) (by first | assumption | omega) (by first | assumption | omega)) (fun o27 q22 => ?_)
          obtain ⟨q22_0, q22_1, q22_2, q22_3, q22_4, q22_5, q22_6, q22_7, q22_8⟩ := q22
          refine Go_bindP (oy_readCorner (o27.1) (o27.2.1) (o27.2.2.2.1) (o26.2.1) (o26.2.2) t_newCorners' (by first | assumption | omega) (by first | assumption | omega) (by intro h; first | exact True.intro | omega | (exact absurd h (by decide))) (by first | assumption | omega) (by first | assumption | omega)) (fun o28 q23 => ?_)
          obtain ⟨q23_0, q23_1⟩ := q23
          refine Go_ite (fun c24 => ?_) (fun c24 => ?_)
          · have dc24 := q23_1 c24
            exact Go_i (show ((false) = true → 4 ≤ (t_newCorners') ∧ (t_newCorners') ≤ 9 ∧ CU (t_newCorners') (t_newCut')) ∧ ((false) = false → True) ∧ TL (t_linesFor') (t_lines') (t_numberOf') (t_lesser') (t_greater') from ⟨(by intro h; first | exact ⟨by omega, by omega, GS_cut (by assumption) (by omega)⟩ | (exact absurd h (by decide)) | (exfalso; simp_all; done)), (by intro h; first | exact True.intro | omega | (exact absurd h (by decide))), (by first | assumption | omega)⟩)
          · have dc24 := q23_0 (bnf c24)
            refine Go_bindP (oy_isLine t_newCorners' t_number' (o27.2.2.2.1) (by first | assumption | omega) (by first | assumption | omega) (by first | assumption | omega) (by first | assumption | omega) (by first | assumption | omega) (by first | assumption | omega)) (fun o29 q25 => ?_)
            obtain ⟨q25_0, q25_1⟩ := q25
            refine Go_ite (fun c26 => ?_) (fun c26 => ?_)
            · have dc26 := q25_1 c26
              refine Go_bindP (ok_X11_fails (o27.2.1) (o28.2.1) (o28.2.2) (4 : Int) ) (fun o30 q27 => ?_)
              obtain ⟨q27_0, q27_1, q27_2⟩ := q27
              exact Go_i (show (((o30.1)) = true → 4 ≤ (t_newCorners') ∧ (t_newCorners') ≤ 9 ∧ CU (t_newCorners') (t_newCut')) ∧ (((o30.1)) = false → True) ∧ TL (t_linesFor') (t_lines') (t_numberOf') (t_lesser') (t_greater') from ⟨(by intro h; first | exact ⟨by omega, by omega, GS_cut (by assumption) (by omega)⟩ | (exact absurd h (by decide)) | (exfalso; simp_all; done)), (by intro h; first | exact True.intro | omega | (exact absurd h (by decide))), (by first | assumption | omega)⟩)
            · have dc26 := q25_0 (bnf c26)
              refine Go_chk (by omega) ?_
              have a28 := rget t_numberOf' (Int.toNat (((10 : Int) * t_number') + (o27.2.2.2.1)))
              have a29 := rshrL t_newCut' (zget t_numberOf' (Int.toNat (((10 : Int) * t_number') + (o27.2.2.2.1))))
              have a30 := randL (zshrL t_newCut' (zget t_numberOf' (Int.toNat (((10 : Int) * t_number') + (o27.2.2.2.1))))) (1 : Int)
              refine Go_ite (fun c31 => ?_) (fun c31 => ?_)
              · refine Go_bindP (ok_X11_fails (o27.2.1) (o28.2.1) (o28.2.2) (3 : Int) ) (fun o32 q32 => ?_)
                obtain ⟨q32_0, q32_1, q32_2⟩ := q32
                exact Go_i (show (((o32.1)) = true → 4 ≤ (t_newCorners') ∧ (t_newCorners') ≤ 9 ∧ CU (t_newCorners') (t_newCut')) ∧ (((o32.1)) = false → True) ∧ TL (t_linesFor') (t_lines') (t_numberOf') (t_lesser') (t_greater') from ⟨(by intro h; first | exact ⟨by omega, by omega, GS_cut (by assumption) (by omega)⟩ | (exact absurd h (by decide)) | (exfalso; simp_all; done)), (by intro h; first | exact True.intro | omega | (exact absurd h (by decide))), (by first | assumption | omega)⟩)
              · exact Go_i (show (((191 : Nat) = 0 ∧ 0 ≤ ((o27.2.2.1)) ∧ ((o27.2.2.1)) ≤ t_size ∧ 0 ≤ ((o27.1)) ∧ ((o27.1)) ≤ 4 ∧ (((o27.1)) = 2 → 0 ≤ ((o27.2.2.2.1)) ∧ ((o27.2.2.2.1)) ≤ 999) ∧ (((o27.1)) = 1 → 0 ≤ ((o27.2.2.2.2)) ∧ ((o27.2.2.2.2)) ≤ 1099511627775) ∧ TL (t_linesFor') (t_lines') (t_numberOf') (t_lesser') (t_greater')) ∨ ((191 : Nat) = 107 ∧ 0 ≤ ((o27.2.2.1)) ∧ ((o27.2.2.1)) ≤ t_size ∧ 0 ≤ ((o27.1)) ∧ ((o27.1)) ≤ 4 ∧ (((o27.1)) = 2 → 0 ≤ ((o27.2.2.2.1)) ∧ ((o27.2.2.2.1)) ≤ 999) ∧ (((o27.1)) = 1 → 0 ≤ ((o27.2.2.2.2)) ∧ ((o27.2.2.2.2)) ≤ 1099511627775) ∧ 4 ≤ (t_newCorners') ∧ (t_newCorners') ≤ 9 ∧ TL (t_newCorners') (t_lines') (t_numberOf') (t_lesser') (t_greater') ∧ TL (t_linesFor') (t_lines') (t_numberOf') (t_lesser') (t_greater') ∧ 2 ≤ (t_lines') ∧ (t_lines') ≤ 27 ∧ GS (t_newCorners') (t_newCut') (i1')) ∨ ((191 : Nat) = 191 ∧ 0 ≤ ((o27.2.2.1)) ∧ ((o27.2.2.1)) ≤ t_size ∧ 0 ≤ ((o27.1)) ∧ ((o27.1)) ≤ 4 ∧ (((o27.1)) = 2 → 0 ≤ ((o27.2.2.2.1)) ∧ ((o27.2.2.2.1)) ≤ 999) ∧ (((o27.1)) = 1 → 0 ≤ ((o27.2.2.2.2)) ∧ ((o27.2.2.2.2)) ≤ 1099511627775) ∧ 4 ≤ (t_newCorners') ∧ (t_newCorners') ≤ 9 ∧ TL (t_newCorners') (t_lines') (t_numberOf') (t_lesser') (t_greater') ∧ TL (t_linesFor') (t_lines') (t_numberOf') (t_lesser') (t_greater') ∧ 2 ≤ (t_lines') ∧ (t_lines') ≤ 27 ∧ 0 ≤ (t_number') ∧ (t_number') < (t_newCorners') ∧ 0 ≤ ((o27.2.2.2.1)) ∧ ((o27.2.2.2.1)) < (t_newCorners') ∧ ¬ (t_number') = ((o27.2.2.2.1)) ∧ 0 ≤ ((0 : Int)) ∧ ((0 : Int)) ≤ (t_lines') ∧ GX (t_newCorners') (t_newCut') (i1') (t_number') ((o27.2.2.2.1)) ((0 : Int)))) ∧ (100 * (301 - ((o27.2.2.1))) + 40 - ((0 : Int))).toNat < (100 * (301 - t_end') + 50).toNat from ⟨Or.inr (Or.inr (⟨rfl, (by first | assumption | omega), (by first | assumption | omega), (by first | assumption | omega), (by first | assumption | omega), (by intro h; first | exact True.intro | omega | (exact absurd h (by decide))), (by intro h; first | exact True.intro | omega | (exact absurd h (by decide))), (by first | assumption | omega), (by first | assumption | omega), (by first | assumption | omega), (by first | assumption | omega), (by first | assumption | omega), (by first | assumption | omega), (by first | assumption | omega), (by first | assumption | omega), (by first | assumption | omega), (by first | assumption | omega), (by first | assumption | omega), (by first | assumption | omega), (by first | assumption | omega), (by exact GX_init (by assumption) (by assumption) (TL_ln (by assumption)) (by omega) (by omega) (by omega) (by omega) (by assumption))⟩)), by omega⟩)
    · show Go _ (zg_X11_readCut_191 t_size t_tape i1' i2' i3' i4' t_sort' t_at' t_end' t_number' t_faultKind' t_faultPlace' t_word' t_lines' t_linesFor' t_newCorners' t_newCut' t_numberOf' t_lesser' t_greater')
      unfold zg_X11_readCut_191
      have gl3 : i4' < t_lines' → 0 ≤ zget t_lesser' (Int.toNat i4') ∧ zget t_lesser' (Int.toNat i4') < t_newCorners' := fun h => TL_less v191_8 (Int.toNat i4') (by omega)
      have gg3 : i4' < t_lines' → 0 ≤ zget t_greater' (Int.toNat i4') ∧ zget t_greater' (Int.toNat i4') < t_newCorners' := fun h => TL_gr v191_8 (Int.toNat i4') (by omega)
      refine Go_chk (by unfold zout; omega) ?_
      refine Go_chk (by unfold zout; omega) ?_
      refine Go_ite (fun c33 => ?_) (fun c33 => ?_)
      · refine Go_chk (by omega) ?_
        refine Go_bindP (ok_X11_scan t_size t_sort' t_at' t_end' t_number' t_word' t_tape (by first | assumption | omega) (by first | assumption | omega) (by first | assumption | omega) (by first | assumption | omega)) (fun o41 q34 => ?_)
        obtain ⟨q34_0, q34_1, q34_2, q34_3, q34_4, q34_5, q34_6, q34_7, q34_8⟩ := q34
        refine Go_chk (by unfold zout; omega) ?_
        refine Go_ite (fun c35 => ?_) (fun c35 => ?_)
        · refine Go_bindP (ok_X11_scan t_size (o41.1) (o41.2.1) (o41.2.2.1) (o41.2.2.2.1) (o41.2.2.2.2) t_tape (by first | assumption | omega) (by first | assumption | omega) (by first | assumption | omega) (by first | assumption | omega)) (fun o43 q36 => ?_)
          obtain ⟨q36_0, q36_1, q36_2, q36_3, q36_4, q36_5, q36_6, q36_7, q36_8⟩ := q36
          have a37 := rget t_numberOf' (Int.toNat (((10 : Int) * i2') + i3'))
          have a38 := rshlL (1 : Int) (zget t_numberOf' (Int.toNat (((10 : Int) * i2') + i3')))
          have a39 := rorL t_newCut' (zshlL (1 : Int) (zget t_numberOf' (Int.toNat (((10 : Int) * i2') + i3'))))
          exact Go_i (show (((107 : Nat) = 0 ∧ 0 ≤ ((o43.2.2.1)) ∧ ((o43.2.2.1)) ≤ t_size ∧ 0 ≤ ((o43.1)) ∧ ((o43.1)) ≤ 4 ∧ (((o43.1)) = 2 → 0 ≤ ((o43.2.2.2.1)) ∧ ((o43.2.2.2.1)) ≤ 999) ∧ (((o43.1)) = 1 → 0 ≤ ((o43.2.2.2.2)) ∧ ((o43.2.2.2.2)) ≤ 1099511627775) ∧ TL (t_linesFor') (t_lines') (t_numberOf') (t_lesser') (t_greater')) ∨ ((107 : Nat) = 107 ∧ 0 ≤ ((o43.2.2.1)) ∧ ((o43.2.2.1)) ≤ t_size ∧ 0 ≤ ((o43.1)) ∧ ((o43.1)) ≤ 4 ∧ (((o43.1)) = 2 → 0 ≤ ((o43.2.2.2.1)) ∧ ((o43.2.2.2.1)) ≤ 999) ∧ (((o43.1)) = 1 → 0 ≤ ((o43.2.2.2.2)) ∧ ((o43.2.2.2.2)) ≤ 1099511627775) ∧ 4 ≤ (t_newCorners') ∧ (t_newCorners') ≤ 9 ∧ TL (t_newCorners') (t_lines') (t_numberOf') (t_lesser') (t_greater') ∧ TL (t_linesFor') (t_lines') (t_numberOf') (t_lesser') (t_greater') ∧ 2 ≤ (t_lines') ∧ (t_lines') ≤ 27 ∧ GS (t_newCorners') ((zorL t_newCut' (zshlL (1 : Int) (zget t_numberOf' (Int.toNat (((10 : Int) * i2') + i3')))))) ((i1' + (1 : Int)))) ∨ ((107 : Nat) = 191 ∧ 0 ≤ ((o43.2.2.1)) ∧ ((o43.2.2.1)) ≤ t_size ∧ 0 ≤ ((o43.1)) ∧ ((o43.1)) ≤ 4 ∧ (((o43.1)) = 2 → 0 ≤ ((o43.2.2.2.1)) ∧ ((o43.2.2.2.1)) ≤ 999) ∧ (((o43.1)) = 1 → 0 ≤ ((o43.2.2.2.2)) ∧ ((o43.2.2.2.2)) ≤ 1099511627775) ∧ 4 ≤ (t_newCorners') ∧ (t_newCorners') ≤ 9 ∧ TL (t_newCorners') (t_lines') (t_numberOf') (t_lesser') (t_greater') ∧ TL (t_linesFor') (t_lines') (t_numberOf') (t_lesser') (t_greater') ∧ 2 ≤ (t_lines') ∧ (t_lines') ≤ 27 ∧ 0 ≤ (i2') ∧ (i2') < (t_newCorners') ∧ 0 ≤ (i3') ∧ (i3') < (t_newCorners') ∧ ¬ (i2') = (i3') ∧ 0 ≤ (i4') ∧ (i4') ≤ (t_lines') ∧ GX (t_newCorners') ((zorL t_newCut' (zshlL (1 : Int) (zget t_numberOf' (Int.toNat (((10 : Int) * i2') + i3')))))) ((i1' + (1 : Int))) (i2') (i3') (i4'))) ∧ (100 * (301 - ((o43.2.2.1))) + 50).toNat < (100 * (301 - t_end') + 40 - i4').toNat from ⟨Or.inr (Or.inl (⟨rfl, (by first | assumption | omega), (by first | assumption | omega), (by first | assumption | omega), (by first | assumption | omega), (by intro h; first | exact True.intro | omega | (exact absurd h (by decide))), (by intro h; first | exact True.intro | omega | (exact absurd h (by decide))), (by first | assumption | omega), (by first | assumption | omega), (by first | assumption | omega), (by first | assumption | omega), (by first | assumption | omega), (by first | assumption | omega), (by exact GX_end (by assumption) (by assumption) (by omega) (by omega) (by omega) (by omega) (by omega) (by omega))⟩)), by omega⟩)
        · refine Go_bindP (ok_X11_fails (o41.2.1) t_faultKind' t_faultPlace' (1 : Int) ) (fun o44 q40 => ?_)
          obtain ⟨q40_0, q40_1, q40_2⟩ := q40
          have a41 := rget t_numberOf' (Int.toNat (((10 : Int) * i2') + i3'))
          have a42 := rshlL (1 : Int) (zget t_numberOf' (Int.toNat (((10 : Int) * i2') + i3')))
          have a43 := rorL t_newCut' (zshlL (1 : Int) (zget t_numberOf' (Int.toNat (((10 : Int) * i2') + i3'))))
          exact Go_i (show (((o44.1)) = true → 4 ≤ (t_newCorners') ∧ (t_newCorners') ≤ 9 ∧ CU (t_newCorners') ((zorL t_newCut' (zshlL (1 : Int) (zget t_numberOf' (Int.toNat (((10 : Int) * i2') + i3'))))))) ∧ (((o44.1)) = false → True) ∧ TL (t_linesFor') (t_lines') (t_numberOf') (t_lesser') (t_greater') from ⟨(by intro h; first | exact ⟨by omega, by omega, GS_cut (by assumption) (by omega)⟩ | (exact absurd h (by decide)) | (exfalso; simp_all; done)), (by intro h; first | exact True.intro | omega | (exact absurd h (by decide))), (by first | assumption | omega)⟩)
      · have a44 := rshrL t_newCut' i4'
        have a45 := randL (zshrL t_newCut' i4') (1 : Int)
        refine Go_ite (fun c46 => ?_) (fun c46 => ?_)
        · refine Go_chk (by omega) ?_
          have a47 := rget t_greater' (Int.toNat i4')
          have a48 := rget t_lesser' (Int.toNat i4')
          refine Go_bindP (oy_isCross t_newCorners' i2' i3' (zget t_lesser' (Int.toNat i4')) (zget t_greater' (Int.toNat i4')) (by first | assumption | omega) (by first | assumption | omega) (by first | assumption | omega) (by first | assumption | omega) (by first | assumption | omega) (by first | assumption | omega) (by first | assumption | omega) (by first | assumption | omega) (by first | assumption | omega) (by first | assumption | omega)) (fun o47 q49 => ?_)
          obtain ⟨q49_0, q49_1⟩ := q49
          refine Go_ite (fun c50 => ?_) (fun c50 => ?_)
          · exact Go_i (show (((191 : Nat) = 0 ∧ 0 ≤ (t_end') ∧ (t_end') ≤ t_size ∧ 0 ≤ (t_sort') ∧ (t_sort') ≤ 4 ∧ ((t_sort') = 2 → 0 ≤ (t_number') ∧ (t_number') ≤ 999) ∧ ((t_sort') = 1 → 0 ≤ (t_word') ∧ (t_word') ≤ 1099511627775) ∧ TL (t_linesFor') (t_lines') (t_numberOf') (t_lesser') (t_greater')) ∨ ((191 : Nat) = 107 ∧ 0 ≤ (t_end') ∧ (t_end') ≤ t_size ∧ 0 ≤ (t_sort') ∧ (t_sort') ≤ 4 ∧ ((t_sort') = 2 → 0 ≤ (t_number') ∧ (t_number') ≤ 999) ∧ ((t_sort') = 1 → 0 ≤ (t_word') ∧ (t_word') ≤ 1099511627775) ∧ 4 ≤ (t_newCorners') ∧ (t_newCorners') ≤ 9 ∧ TL (t_newCorners') (t_lines') (t_numberOf') (t_lesser') (t_greater') ∧ TL (t_linesFor') (t_lines') (t_numberOf') (t_lesser') (t_greater') ∧ 2 ≤ (t_lines') ∧ (t_lines') ≤ 27 ∧ GS (t_newCorners') (t_newCut') (i1')) ∨ ((191 : Nat) = 191 ∧ 0 ≤ (t_end') ∧ (t_end') ≤ t_size ∧ 0 ≤ (t_sort') ∧ (t_sort') ≤ 4 ∧ ((t_sort') = 2 → 0 ≤ (t_number') ∧ (t_number') ≤ 999) ∧ ((t_sort') = 1 → 0 ≤ (t_word') ∧ (t_word') ≤ 1099511627775) ∧ 4 ≤ (t_newCorners') ∧ (t_newCorners') ≤ 9 ∧ TL (t_newCorners') (t_lines') (t_numberOf') (t_lesser') (t_greater') ∧ TL (t_linesFor') (t_lines') (t_numberOf') (t_lesser') (t_greater') ∧ 2 ≤ (t_lines') ∧ (t_lines') ≤ 27 ∧ 0 ≤ (i2') ∧ (i2') < (t_newCorners') ∧ 0 ≤ (i3') ∧ (i3') < (t_newCorners') ∧ ¬ (i2') = (i3') ∧ 0 ≤ ((i4' + (1 : Int))) ∧ ((i4' + (1 : Int))) ≤ (t_lines') ∧ GX (t_newCorners') (t_newCut') (i1') (i2') (i3') ((i4' + (1 : Int))))) ∧ (100 * (301 - (t_end')) + 40 - ((i4' + (1 : Int)))).toNat < (100 * (301 - t_end') + 40 - i4').toNat from ⟨Or.inr (Or.inr (⟨rfl, (by first | assumption | omega), (by first | assumption | omega), (by first | assumption | omega), (by first | assumption | omega), (by intro h; first | exact True.intro | omega | (exact absurd h (by decide))), (by intro h; first | exact True.intro | omega | (exact absurd h (by decide))), (by first | assumption | omega), (by first | assumption | omega), (by first | assumption | omega), (by first | assumption | omega), (by first | assumption | omega), (by first | assumption | omega), (by first | assumption | omega), (by first | assumption | omega), (by first | assumption | omega), (by first | assumption | omega), (by first | assumption | omega), (by first | assumption | omega), (by first | assumption | omega), (by first | exact GX_skip (by assumption) (by assumption) (by omega) (by omega) (by assumption) | exact GX_no (by assumption) (by assumption) (by omega) (by omega) (by omega) (by omega) (by omega) (by omega) (by assumption) (by assumption))⟩)), by omega⟩)
          · refine Go_bindP (ok_X11_fails t_at' t_faultKind' t_faultPlace' (5 : Int) ) (fun o48 q51 => ?_)
            obtain ⟨q51_0, q51_1, q51_2⟩ := q51
            exact Go_i (show (((o48.1)) = true → 4 ≤ (t_newCorners') ∧ (t_newCorners') ≤ 9 ∧ CU (t_newCorners') (t_newCut')) ∧ (((o48.1)) = false → True) ∧ TL (t_linesFor') (t_lines') (t_numberOf') (t_lesser') (t_greater') from ⟨(by intro h; first | exact ⟨by omega, by omega, GS_cut (by assumption) (by omega)⟩ | (exact absurd h (by decide)) | (exfalso; simp_all; done)), (by intro h; first | exact True.intro | omega | (exact absurd h (by decide))), (by first | assumption | omega)⟩)
        · exact Go_i (show (((191 : Nat) = 0 ∧ 0 ≤ (t_end') ∧ (t_end') ≤ t_size ∧ 0 ≤ (t_sort') ∧ (t_sort') ≤ 4 ∧ ((t_sort') = 2 → 0 ≤ (t_number') ∧ (t_number') ≤ 999) ∧ ((t_sort') = 1 → 0 ≤ (t_word') ∧ (t_word') ≤ 1099511627775) ∧ TL (t_linesFor') (t_lines') (t_numberOf') (t_lesser') (t_greater')) ∨ ((191 : Nat) = 107 ∧ 0 ≤ (t_end') ∧ (t_end') ≤ t_size ∧ 0 ≤ (t_sort') ∧ (t_sort') ≤ 4 ∧ ((t_sort') = 2 → 0 ≤ (t_number') ∧ (t_number') ≤ 999) ∧ ((t_sort') = 1 → 0 ≤ (t_word') ∧ (t_word') ≤ 1099511627775) ∧ 4 ≤ (t_newCorners') ∧ (t_newCorners') ≤ 9 ∧ TL (t_newCorners') (t_lines') (t_numberOf') (t_lesser') (t_greater') ∧ TL (t_linesFor') (t_lines') (t_numberOf') (t_lesser') (t_greater') ∧ 2 ≤ (t_lines') ∧ (t_lines') ≤ 27 ∧ GS (t_newCorners') (t_newCut') (i1')) ∨ ((191 : Nat) = 191 ∧ 0 ≤ (t_end') ∧ (t_end') ≤ t_size ∧ 0 ≤ (t_sort') ∧ (t_sort') ≤ 4 ∧ ((t_sort') = 2 → 0 ≤ (t_number') ∧ (t_number') ≤ 999) ∧ ((t_sort') = 1 → 0 ≤ (t_word') ∧ (t_word') ≤ 1099511627775) ∧ 4 ≤ (t_newCorners') ∧ (t_newCorners') ≤ 9 ∧ TL (t_newCorners') (t_lines') (t_numberOf') (t_lesser') (t_greater') ∧ TL (t_linesFor') (t_lines') (t_numberOf') (t_lesser') (t_greater') ∧ 2 ≤ (t_lines') ∧ (t_lines') ≤ 27 ∧ 0 ≤ (i2') ∧ (i2') < (t_newCorners') ∧ 0 ≤ (i3') ∧ (i3') < (t_newCorners') ∧ ¬ (i2') = (i3') ∧ 0 ≤ ((i4' + (1 : Int))) ∧ ((i4' + (1 : Int))) ≤ (t_lines') ∧ GX (t_newCorners') (t_newCut') (i1') (i2') (i3') ((i4' + (1 : Int))))) ∧ (100 * (301 - (t_end')) + 40 - ((i4' + (1 : Int)))).toNat < (100 * (301 - t_end') + 40 - i4').toNat from ⟨Or.inr (Or.inr (⟨rfl, (by first | assumption | omega), (by first | assumption | omega), (by first | assumption | omega), (by first | assumption | omega), (by intro h; first | exact True.intro | omega | (exact absurd h (by decide))), (by intro h; first | exact True.intro | omega | (exact absurd h (by decide))), (by first | assumption | omega), (by first | assumption | omega), (by first | assumption | omega), (by first | assumption | omega), (by first | assumption | omega), (by first | assumption | omega), (by first | assumption | omega), (by first | assumption | omega), (by first | assumption | omega), (by first | assumption | omega), (by first | assumption | omega), (by first | assumption | omega), (by first | assumption | omega), (by first | exact GX_skip (by assumption) (by assumption) (by omega) (by omega) (by assumption) | exact GX_no (by assumption) (by assumption) (by omega) (by omega) (by omega) (by omega) (by omega) (by omega) (by assumption) (by assumption))⟩)), by omega⟩)
  · exact (show ((0 : Nat) = 0 ∧ 0 ≤ t_end ∧ t_end ≤ t_size ∧ 0 ≤ t_sort ∧ t_sort ≤ 4 ∧ (t_sort = 2 → 0 ≤ t_number ∧ t_number ≤ 999) ∧ (t_sort = 1 → 0 ≤ t_word ∧ t_word ≤ 1099511627775) ∧ TL t_linesFor t_lines t_numberOf t_lesser t_greater) ∨ ((0 : Nat) = 107 ∧ 0 ≤ t_end ∧ t_end ≤ t_size ∧ 0 ≤ t_sort ∧ t_sort ≤ 4 ∧ (t_sort = 2 → 0 ≤ t_number ∧ t_number ≤ 999) ∧ (t_sort = 1 → 0 ≤ t_word ∧ t_word ≤ 1099511627775) ∧ 4 ≤ t_newCorners ∧ t_newCorners ≤ 9 ∧ TL t_newCorners t_lines t_numberOf t_lesser t_greater ∧ TL t_linesFor t_lines t_numberOf t_lesser t_greater ∧ 2 ≤ t_lines ∧ t_lines ≤ 27 ∧ GS t_newCorners t_newCut 0) ∨ ((0 : Nat) = 191 ∧ 0 ≤ t_end ∧ t_end ≤ t_size ∧ 0 ≤ t_sort ∧ t_sort ≤ 4 ∧ (t_sort = 2 → 0 ≤ t_number ∧ t_number ≤ 999) ∧ (t_sort = 1 → 0 ≤ t_word ∧ t_word ≤ 1099511627775) ∧ 4 ≤ t_newCorners ∧ t_newCorners ≤ 9 ∧ TL t_newCorners t_lines t_numberOf t_lesser t_greater ∧ TL t_linesFor t_lines t_numberOf t_lesser t_greater ∧ 2 ≤ t_lines ∧ t_lines ≤ 27 ∧ 0 ≤ 0 ∧ 0 < t_newCorners ∧ 0 ≤ 0 ∧ 0 < t_newCorners ∧ ¬ 0 = 0 ∧ 0 ≤ 0 ∧ 0 ≤ t_lines ∧ GX t_newCorners t_newCut 0 0 0 0) from Or.inl (⟨rfl, (by first | assumption | omega), (by first | assumption | omega), (by first | assumption | omega), (by first | assumption | omega), (by intro h; first | exact True.intro | omega | (exact absurd h (by decide))), (by intro h; first | exact True.intro | omega | (exact absurd h (by decide))), (by first | assumption | omega)⟩))
  · show 100000 < jfuel
    unfold jfuel
    omega
set_option maxRecDepth 20000 in
theorem ok_X11_cut (t_taped : Int) (t_size : Int) (t_sort : Int) (t_at : Int) (t_end : Int) (t_number : Int) (t_faultKind : Int) (t_faultPlace : Int) (t_word : Int) (t_corners : Int) (t_lines : Int) (t_linesFor : Int) (t_listMany : Int) (t_listCorners : Int) (t_own : Int) (t_newCorners : Int) (t_newCut : Int) (t_seenMany : Int) (t_rightMany : Int) (t_lastTold : Int) (t_tape : Nat) (t_numberOf : Nat) (t_lesser : Nat) (t_greater : Nat) (t_list : Nat) (p0 : 0 ≤ t_taped) (p1 : t_taped ≤ 300) (p2 : TL t_linesFor t_lines t_numberOf t_lesser t_greater) (p3 : LK t_listCorners t_listMany t_list) (p4 : 4 ≤ t_corners) (p5 : t_corners ≤ 9) (p6 : CU t_corners t_own) (p7 : 0 ≤ t_seenMany) (p8 : t_seenMany ≤ 20) (p9 : 0 ≤ t_rightMany) (p10 : t_rightMany ≤ 20) (p11 : 0 ≤ t_lastTold) (p12 : t_lastTold ≤ 999) : Go (fun o => (o.2.1) = 0 ∧ 4 ≤ (o.2.2.2.2.2.2.2.2.2.2.1) ∧ (o.2.2.2.2.2.2.2.2.2.2.1) ≤ 9 ∧ CU (o.2.2.2.2.2.2.2.2.2.2.1) (o.2.2.2.2.2.2.2.2.2.2.2.2.2.2.2.1) ∧ TL (o.2.2.2.2.2.2.2.2.2.2.2.2.1) (o.2.2.2.2.2.2.2.2.2.2.2.1) (o.2.2.2.2.2.2.2.2.2.2.2.2.2.2.2.2.2.2.2.2.2.1) (o.2.2.2.2.2.2.2.2.2.2.2.2.2.2.2.2.2.2.2.2.2.2.1) (o.2.2.2.2.2.2.2.2.2.2.2.2.2.2.2.2.2.2.2.2.2.2.2.1) ∧ LK (o.2.2.2.2.2.2.2.2.2.2.2.2.2.2.1) (o.2.2.2.2.2.2.2.2.2.2.2.2.2.1) (o.2.2.2.2.2.2.2.2.2.2.2.2.2.2.2.2.2.2.2.2.2.2.2.2) ∧ 0 ≤ (o.2.2.2.2.2.2.2.2.2.2.2.2.2.2.2.2.2.2.1) ∧ (o.2.2.2.2.2.2.2.2.2.2.2.2.2.2.2.2.2.2.1) ≤ 20 ∧ 0 ≤ (o.2.2.2.2.2.2.2.2.2.2.2.2.2.2.2.2.2.2.2.1) ∧ (o.2.2.2.2.2.2.2.2.2.2.2.2.2.2.2.2.2.2.2.1) ≤ 20 ∧ 0 ≤ (o.2.2.2.2.2.2.2.2.2.2.2.2.2.2.2.2.2.2.2.2.1) ∧ (o.2.2.2.2.2.2.2.2.2.2.2.2.2.2.2.2.2.2.2.2.1) ≤ 999 ∧ (((o.2.2.2.2.2.2.2.2.2.2.1) = t_corners ∧ (o.2.2.2.2.2.2.2.2.2.2.2.2.2.2.2.2.2.2.1) = t_seenMany) ∨ (o.2.2.2.2.2.2.2.2.2.2.2.2.2.2.2.2.2.2.1) = 0)) (zf_X11_cut t_taped t_size t_sort t_at t_end t_number t_faultKind t_faultPlace t_word t_corners t_lines t_linesFor t_listMany t_listCorners t_own t_newCorners t_newCut t_seenMany t_rightMany t_lastTold t_tape t_numberOf t_lesser t_greater t_list) := by
  unfold zf_X11_cut
  refine Go_bindP (ok_X11_begin t_taped t_size t_sort t_at t_end t_number t_word t_tape (by first | assumption | omega) (by first | assumption | omega)) (fun o1 q1 => ?_)
  obtain ⟨q1_0, q1_1, q1_2, q1_3, q1_4, q1_5, q1_6, q1_7, q1_8, q1_9⟩ := q1
  refine Go_bindP (ok_X11_readCut (o1.2.1) (o1.2.2.1) (o1.2.2.2.1) (o1.2.2.2.2.1) (o1.2.2.2.2.2.1) (0 : Int) (-1 : Int) (o1.2.2.2.2.2.2) t_lines t_linesFor t_newCorners t_newCut t_tape t_numberOf t_lesser t_greater (by first | assumption | omega) (by first | assumption | omega) (by first | assumption | omega) (by first | assumption | omega) (by first | assumption | omega) (by first | assumption | omega) (by first | assumption | omega) (by first | assumption | omega) (by first | assumption | omega)) (fun o2 q2 => ?_)
  obtain ⟨q2_0, q2_1, q2_2⟩ := q2
  refine Go_ite (fun c3 => ?_) (fun c3 => ?_)
  · have dc3 := q2_1 c3
    exact Go_i (show ((o1.1)) = 0 ∧ 4 ≤ (t_corners) ∧ (t_corners) ≤ 9 ∧ CU (t_corners) (t_own) ∧ TL ((o2.2.2.2.2.2.2.2.2.2.1)) ((o2.2.2.2.2.2.2.2.2.1)) ((o2.2.2.2.2.2.2.2.2.2.2.2.2.1)) ((o2.2.2.2.2.2.2.2.2.2.2.2.2.2.1)) ((o2.2.2.2.2.2.2.2.2.2.2.2.2.2.2)) ∧ LK (t_listCorners) (t_listMany) (t_list) ∧ 0 ≤ (t_seenMany) ∧ (t_seenMany) ≤ 20 ∧ 0 ≤ (t_rightMany) ∧ (t_rightMany) ≤ 20 ∧ 0 ≤ (t_lastTold) ∧ (t_lastTold) ≤ 999 ∧ (((t_corners) = t_corners ∧ (t_seenMany) = t_seenMany) ∨ (t_seenMany) = 0) from ⟨(by first | assumption | omega), (by first | assumption | omega), (by first | assumption | omega), (by first | assumption | omega), (by first | assumption | omega), (by first | assumption | omega), (by first | assumption | omega), (by first | assumption | omega), (by first | assumption | omega), (by first | assumption | omega), (by first | assumption | omega), (by first | assumption | omega), (by first | assumption | omega)⟩)
  · have dc3 := q2_0 (bnf c3)
    refine Go_bindP (ok_X11_becomes t_corners t_own t_seenMany t_rightMany t_lastTold (o2.2.2.2.2.2.2.2.2.2.2.1) (o2.2.2.2.2.2.2.2.2.2.2.2.1) (by first | assumption | omega) (by first | assumption | omega) (by first | assumption | omega) (by first | assumption | omega)) (fun o3 q4 => ?_)
    obtain ⟨q4_0, q4_1, q4_2, q4_3⟩ := q4
    have bc : o3.1 = _ := q4_0
    have bo : o3.2.1 = _ := q4_1
    have bcu : CU o3.1 o3.2.1 := by rw [bc, bo]; exact dc3.2.2
    refine Go_bindP (ok_X11_ownNumber (o3.1) (o2.2.2.2.2.2.2.2.2.1) (o2.2.2.2.2.2.2.2.2.2.1) t_listMany t_listCorners (o3.2.1) (o2.2.2.2.2.2.2.2.2.2.2.2.2.1) (o2.2.2.2.2.2.2.2.2.2.2.2.2.2.1) (o2.2.2.2.2.2.2.2.2.2.2.2.2.2.2) t_list (by first | assumption | omega) (by first | assumption | omega) (by first | assumption | omega) (by first | assumption | omega) (by first | assumption | omega)) (fun o4 q5 => ?_)
    obtain ⟨q5_0, q5_1, q5_2, q5_3, q5_4, q5_5, q5_6, q5_7, q5_8, q5_9, q5_10, q5_11, q5_12⟩ := q5
    exact Go_i (show ((o1.1)) = 0 ∧ 4 ≤ ((o3.1)) ∧ ((o3.1)) ≤ 9 ∧ CU ((o3.1)) ((o3.2.1)) ∧ TL ((o4.2.2.1)) ((o4.2.1)) ((o4.2.2.2.2.2.1)) ((o4.2.2.2.2.2.2.1)) ((o4.2.2.2.2.2.2.2.1)) ∧ LK ((o4.2.2.2.2.1)) ((o4.2.2.2.1)) ((o4.2.2.2.2.2.2.2.2)) ∧ 0 ≤ ((o3.2.2.1)) ∧ ((o3.2.2.1)) ≤ 20 ∧ 0 ≤ ((o3.2.2.2.1)) ∧ ((o3.2.2.2.1)) ≤ 20 ∧ 0 ≤ ((o3.2.2.2.2)) ∧ ((o3.2.2.2.2)) ≤ 999 ∧ ((((o3.1)) = t_corners ∧ ((o3.2.2.1)) = t_seenMany) ∨ ((o3.2.2.1)) = 0) from ⟨(by first | assumption | omega), (by first | assumption | omega), (by first | assumption | omega), (by first | assumption | omega), (by first | assumption | omega), (by first | assumption | omega), (by first | assumption | omega), (by first | assumption | omega), (by first | assumption | omega), (by first | assumption | omega), (by first | assumption | omega), (by first | assumption | omega), (by first | assumption | omega)⟩)
end

section
set_option maxRecDepth 20000 in
theorem ok2_X8_readWord (t_length : Int) (t_next : Int) (t_kind : Int) (t_place : Int) (t_bytes : Nat) (p0 : 0 ≤ t_length) (p1 : t_length ≤ 300) (p2 : 0 ≤ t_next) (p3 : t_next ≤ t_length) (p4 : 0 ≤ t_place) (p5 : t_place ≤ t_next) (p6 : t_next < t_length) (p7 : 97 ≤ zget t_bytes (Int.toNat t_next)) (p8 : zget t_bytes (Int.toNat t_next) ≤ 122) : Go (fun o => t_next < (o.1) ∧ (o.1) ≤ t_length ∧ ((o.2) = 1 ∨ (o.2) = 4)) (zf_X8_readWord t_length t_next t_kind t_place t_bytes) := by
  unfold zf_X8_readWord
  refine jok (fun (s : zS_X8_readWord) => match s with | (lab, t_next', t_kind') => (lab = 0 ∧ t_next ≤ t_next' ∧ t_next' ≤ t_length)) (fun (s : zS_X8_readWord) => match s with | (lab, t_next', t_kind') => if lab = 0 then (t_length - t_next').toNat else 0) (fun (o : zO_X8_readWord) => t_next < (o.1) ∧ (o.1) ≤ t_length ∧ ((o.2) = 1 ∨ (o.2) = 4)) ?_ _ ?_ ?_
  · intro s hI
    obtain ⟨lab, t_next', t_kind'⟩ := s
    have hI : (lab = 0 ∧ t_next ≤ t_next' ∧ t_next' ≤ t_length) := hI
    rcases hI with ⟨rfl, v0_0, v0_1⟩
    · show Go _ (zg_X8_readWord_0 t_length t_place t_bytes t_next' t_kind')
      unfold zg_X8_readWord_0
      have e0 : t_next' = t_next → zget t_bytes (Int.toNat t_next') = zget t_bytes (Int.toNat t_next) := fun h => by rw [h]
      refine Go_chk (by unfold zout; omega) ?_
      refine Go_chk (by unfold zout; omega) ?_
      refine Go_ite (fun c1 => ?_) (fun c1 => ?_)
      · refine Go_chk (by unfold zout; omega) ?_
        refine Go_ite (fun c2 => ?_) (fun c2 => ?_)
        · exact Go_i (show t_next < (t_next') ∧ (t_next') ≤ t_length ∧ (((4 : Int)) = 1 ∨ ((4 : Int)) = 4) from ⟨(by first | assumption | omega), (by first | assumption | omega), (by first | assumption | omega)⟩)
        · exact Go_i (show t_next < (t_next') ∧ (t_next') ≤ t_length ∧ (((1 : Int)) = 1 ∨ ((1 : Int)) = 4) from ⟨(by first | assumption | omega), (by first | assumption | omega), (by first | assumption | omega)⟩)
      · refine Go_chk (by omega) ?_
        have a3 := rget t_bytes (Int.toNat t_next')
        refine Go_bindP (ok_X8_isLetter (zget t_bytes (Int.toNat t_next')) (by first | assumption | omega) (by first | assumption | omega)) (fun o6 q4 => ?_)
        obtain ⟨q4_0, q4_1⟩ := q4
        refine Go_ite (fun c5 => ?_) (fun c5 => ?_)
        · have dc5 := q4_1 c5
          refine Go_chk (by unfold zout; omega) ?_
          refine Go_ite (fun c6 => ?_) (fun c6 => ?_)
          · exact Go_i (show t_next < (t_next') ∧ (t_next') ≤ t_length ∧ (((4 : Int)) = 1 ∨ ((4 : Int)) = 4) from ⟨(by first | assumption | omega), (by first | assumption | omega), (by first | assumption | omega)⟩)
          · exact Go_i (show t_next < (t_next') ∧ (t_next') ≤ t_length ∧ (((1 : Int)) = 1 ∨ ((1 : Int)) = 4) from ⟨(by first | assumption | omega), (by first | assumption | omega), (by first | assumption | omega)⟩)
        · have dc5 := q4_0 (bnf c5)
          exact Go_i (show (((0 : Nat) = 0 ∧ t_next ≤ ((t_next' + (1 : Int))) ∧ ((t_next' + (1 : Int))) ≤ t_length)) ∧ (t_length - ((t_next' + (1 : Int)))).toNat < (t_length - t_next').toNat from ⟨⟨rfl, (by first | assumption | omega), (by first | assumption | omega)⟩, by omega⟩)
  · exact (show ((0 : Nat) = 0 ∧ t_next ≤ t_next ∧ t_next ≤ t_length) from ⟨rfl, (by first | assumption | omega), (by first | assumption | omega)⟩)
  · show (t_length - t_next).toNat < jfuel
    unfold jfuel
    omega
set_option maxRecDepth 20000 in
theorem ok2_X8_readNumber (t_length : Int) (t_next : Int) (t_kind : Int) (t_place : Int) (t_value : Int) (t_bytes : Nat) (p0 : 0 ≤ t_length) (p1 : t_length ≤ 300) (p2 : 0 ≤ t_next) (p3 : t_next ≤ t_length) (p4 : 0 ≤ t_place) (p5 : t_place ≤ t_next) (p6 : t_next = t_place) (p7 : t_value = 0) (p8 : t_next < t_length) (p9 : 48 ≤ zget t_bytes (Int.toNat t_next)) (p10 : zget t_bytes (Int.toNat t_next) ≤ 57) : Go (fun o => t_next < (o.1) ∧ (o.1) ≤ t_length ∧ ((o.2.1) = 2 ∨ (o.2.1) = 4) ∧ ((o.2.1) = 2 → 0 ≤ (o.2.2) ∧ (o.2.2) ≤ 999)) (zf_X8_readNumber t_length t_next t_kind t_place t_value t_bytes) := by
  unfold zf_X8_readNumber
  refine jok (fun (s : zS_X8_readNumber) => match s with | (lab, t_next', t_kind', t_value') => (lab = 0 ∧ t_next ≤ t_next' ∧ t_next' ≤ t_length ∧ (t_next' = t_place → t_value' = 0) ∧ (t_next' ≤ t_place + 1 → 0 ≤ t_value' ∧ t_value' ≤ 9) ∧ (t_next' ≤ t_place + 2 → 0 ≤ t_value' ∧ t_value' ≤ 99) ∧ (t_next' ≤ t_place + 3 → 0 ≤ t_value' ∧ t_value' ≤ 999))) (fun (s : zS_X8_readNumber) => match s with | (lab, t_next', t_kind', t_value') => if lab = 0 then (t_length - t_next').toNat else 0) (fun (o : zO_X8_readNumber) => t_next < (o.1) ∧ (o.1) ≤ t_length ∧ ((o.2.1) = 2 ∨ (o.2.1) = 4) ∧ ((o.2.1) = 2 → 0 ≤ (o.2.2) ∧ (o.2.2) ≤ 999)) ?_ _ ?_ ?_
  · intro s hI
    obtain ⟨lab, t_next', t_kind', t_value'⟩ := s
    have hI : (lab = 0 ∧ t_next ≤ t_next' ∧ t_next' ≤ t_length ∧ (t_next' = t_place → t_value' = 0) ∧ (t_next' ≤ t_place + 1 → 0 ≤ t_value' ∧ t_value' ≤ 9) ∧ (t_next' ≤ t_place + 2 → 0 ≤ t_value' ∧ t_value' ≤ 99) ∧ (t_next' ≤ t_place + 3 → 0 ≤ t_value' ∧ t_value' ≤ 999)) := hI
    rcases hI with ⟨rfl, v0_0, v0_1, v0_2, v0_3, v0_4, v0_5⟩
    · show Go _ (zg_X8_readNumber_0 t_length t_place t_bytes t_next' t_kind' t_value')
      unfold zg_X8_readNumber_0
      have e0 : t_next' = t_next → zget t_bytes (Int.toNat t_next') = zget t_bytes (Int.toNat t_next) := fun h => by rw [h]
      refine Go_chk (by unfold zout; omega) ?_
      refine Go_chk (by unfold zout; omega) ?_
      refine Go_ite (fun c1 => ?_) (fun c1 => ?_)
      · refine Go_chk (by unfold zout; omega) ?_
        refine Go_ite (fun c2 => ?_) (fun c2 => ?_)
        · exact Go_i (show t_next < (t_next') ∧ (t_next') ≤ t_length ∧ (((4 : Int)) = 2 ∨ ((4 : Int)) = 4) ∧ (((4 : Int)) = 2 → 0 ≤ (t_value') ∧ (t_value') ≤ 999) from ⟨(by first | assumption | omega), (by first | assumption | omega), (by first | assumption | omega), (by intro h; first | exact True.intro | omega | (exact absurd h (by decide)))⟩)
        · exact Go_i (show t_next < (t_next') ∧ (t_next') ≤ t_length ∧ (((2 : Int)) = 2 ∨ ((2 : Int)) = 4) ∧ (((2 : Int)) = 2 → 0 ≤ (t_value') ∧ (t_value') ≤ 999) from ⟨(by first | assumption | omega), (by first | assumption | omega), (by first | assumption | omega), (by intro h; first | exact True.intro | omega | (exact absurd h (by decide)))⟩)
      · refine Go_chk (by omega) ?_
        have a3 := rget t_bytes (Int.toNat t_next')
        refine Go_bindP (ok_X8_isDigit (zget t_bytes (Int.toNat t_next')) (by first | assumption | omega) (by first | assumption | omega)) (fun o6 q4 => ?_)
        obtain ⟨q4_0, q4_1⟩ := q4
        refine Go_ite (fun c5 => ?_) (fun c5 => ?_)
        · have dc5 := q4_1 c5
          refine Go_chk (by unfold zout; omega) ?_
          refine Go_ite (fun c6 => ?_) (fun c6 => ?_)
          · exact Go_i (show t_next < (t_next') ∧ (t_next') ≤ t_length ∧ (((4 : Int)) = 2 ∨ ((4 : Int)) = 4) ∧ (((4 : Int)) = 2 → 0 ≤ (t_value') ∧ (t_value') ≤ 999) from ⟨(by first | assumption | omega), (by first | assumption | omega), (by first | assumption | omega), (by intro h; first | exact True.intro | omega | (exact absurd h (by decide)))⟩)
          · exact Go_i (show t_next < (t_next') ∧ (t_next') ≤ t_length ∧ (((2 : Int)) = 2 ∨ ((2 : Int)) = 4) ∧ (((2 : Int)) = 2 → 0 ≤ (t_value') ∧ (t_value') ≤ 999) from ⟨(by first | assumption | omega), (by first | assumption | omega), (by first | assumption | omega), (by intro h; first | exact True.intro | omega | (exact absurd h (by decide)))⟩)
        · have dc5 := q4_0 (bnf c5)
          exact Go_i (show (((0 : Nat) = 0 ∧ t_next ≤ ((t_next' + (1 : Int))) ∧ ((t_next' + (1 : Int))) ≤ t_length ∧ (((t_next' + (1 : Int))) = t_place → ((((t_value' * (10 : Int)) + (zget t_bytes (Int.toNat t_next'))) - (48 : Int))) = 0) ∧ (((t_next' + (1 : Int))) ≤ t_place + 1 → 0 ≤ ((((t_value' * (10 : Int)) + (zget t_bytes (Int.toNat t_next'))) - (48 : Int))) ∧ ((((t_value' * (10 : Int)) + (zget t_bytes (Int.toNat t_next'))) - (48 : Int))) ≤ 9) ∧ (((t_next' + (1 : Int))) ≤ t_place + 2 → 0 ≤ ((((t_value' * (10 : Int)) + (zget t_bytes (Int.toNat t_next'))) - (48 : Int))) ∧ ((((t_value' * (10 : Int)) + (zget t_bytes (Int.toNat t_next'))) - (48 : Int))) ≤ 99) ∧ (((t_next' + (1 : Int))) ≤ t_place + 3 → 0 ≤ ((((t_value' * (10 : Int)) + (zget t_bytes (Int.toNat t_next'))) - (48 : Int))) ∧ ((((t_value' * (10 : Int)) + (zget t_bytes (Int.toNat t_next'))) - (48 : Int))) ≤ 999))) ∧ (t_length - ((t_next' + (1 : Int)))).toNat < (t_length - t_next').toNat from ⟨⟨rfl, (by first | assumption | omega), (by first | assumption | omega), (by intro h; first | exact True.intro | omega | (exact absurd h (by decide))), (by intro h; first | exact True.intro | omega | (exact absurd h (by decide))), (by intro h; first | exact True.intro | omega | (exact absurd h (by decide))), (by intro h; first | exact True.intro | omega | (exact absurd h (by decide)))⟩, by omega⟩)
  · exact (show ((0 : Nat) = 0 ∧ t_next ≤ t_next ∧ t_next ≤ t_length ∧ (t_next = t_place → t_value = 0) ∧ (t_next ≤ t_place + 1 → 0 ≤ t_value ∧ t_value ≤ 9) ∧ (t_next ≤ t_place + 2 → 0 ≤ t_value ∧ t_value ≤ 99) ∧ (t_next ≤ t_place + 3 → 0 ≤ t_value ∧ t_value ≤ 999)) from ⟨rfl, (by first | assumption | omega), (by first | assumption | omega), (by intro h; first | exact True.intro | omega | (exact absurd h (by decide))), (by intro h; first | exact True.intro | omega | (exact absurd h (by decide))), (by intro h; first | exact True.intro | omega | (exact absurd h (by decide))), (by intro h; first | exact True.intro | omega | (exact absurd h (by decide)))⟩)
  · show (t_length - t_next).toNat < jfuel
    unfold jfuel
    omega
set_option maxRecDepth 20000 in
theorem ok2_X8_readToken (t_length : Int) (t_next : Int) (t_kind : Int) (t_place : Int) (t_value : Int) (t_bytes : Nat) (p0 : 0 ≤ t_length) (p1 : t_length ≤ 300) (p2 : 0 ≤ t_next) (p3 : t_next ≤ t_length) : Go (fun o => t_next ≤ (o.1) ∧ (o.1) ≤ t_length ∧ 0 ≤ (o.2.2.1) ∧ (o.2.2.1) ≤ (o.1) ∧ 0 ≤ (o.2.1) ∧ (o.2.1) ≤ 4 ∧ ((o.2.1) = 2 → 0 ≤ (o.2.2.2) ∧ (o.2.2.2) ≤ 999) ∧ (¬ (o.2.1) = 0 → t_next < (o.1))) (zf_X8_readToken t_length t_next t_kind t_place t_value t_bytes) := by
  unfold zf_X8_readToken
  refine jok (fun (s : zS_X8_readToken) => match s with | (lab, t_next', t_kind', t_place', t_value') => (lab = 0 ∧ t_next ≤ t_next' ∧ t_next' ≤ t_length) ∨ (lab = 39 ∧ t_next ≤ t_next' ∧ t_next' ≤ t_length)) (fun (s : zS_X8_readToken) => match s with | (lab, t_next', t_kind', t_place', t_value') => if lab = 0 then (t_length - t_next').toNat + 1 else if lab = 39 then 0 else 0) (fun (o : zO_X8_readToken) => t_next ≤ (o.1) ∧ (o.1) ≤ t_length ∧ 0 ≤ (o.2.2.1) ∧ (o.2.2.1) ≤ (o.1) ∧ 0 ≤ (o.2.1) ∧ (o.2.1) ≤ 4 ∧ ((o.2.1) = 2 → 0 ≤ (o.2.2.2) ∧ (o.2.2.2) ≤ 999) ∧ (¬ (o.2.1) = 0 → t_next < (o.1))) ?_ _ ?_ ?_
  · intro s hI
    obtain ⟨lab, t_next', t_kind', t_place', t_value'⟩ := s
    have hI : (lab = 0 ∧ t_next ≤ t_next' ∧ t_next' ≤ t_length) ∨ (lab = 39 ∧ t_next ≤ t_next' ∧ t_next' ≤ t_length) := hI
    rcases hI with ⟨rfl, v0_0, v0_1⟩ | ⟨rfl, v39_0, v39_1⟩
    · show Go _ (zg_X8_readToken_0 t_length t_bytes t_next' t_kind' t_place' t_value')
      unfold zg_X8_readToken_0
      refine Go_chk (by unfold zout; omega) ?_
      refine Go_chk (by unfold zout; omega) ?_
      refine Go_ite (fun c1 => ?_) (fun c1 => ?_)
      · exact Go_i (show (((39 : Nat) = 0 ∧ t_next ≤ (t_next') ∧ (t_next') ≤ t_length) ∨ ((39 : Nat) = 39 ∧ t_next ≤ (t_next') ∧ (t_next') ≤ t_length)) ∧ 0 < (t_length - t_next').toNat + 1 from ⟨Or.inr (⟨rfl, (by first | assumption | omega), (by first | assumption | omega)⟩), by omega⟩)
      · refine Go_chk (by omega) ?_
        have a2 := rget t_bytes (Int.toNat t_next')
        refine Go_bindP (ok_X8_isBlank (zget t_bytes (Int.toNat t_next')) (by first | assumption | omega) (by first | assumption | omega)) (fun o4 q3 => ?_)
        obtain ⟨q3_0, q3_1⟩ := q3
        refine Go_ite (fun c4 => ?_) (fun c4 => ?_)
        · have dc4 := q3_1 c4
          exact Go_i (show (((39 : Nat) = 0 ∧ t_next ≤ (t_next') ∧ (t_next') ≤ t_length) ∨ ((39 : Nat) = 39 ∧ t_next ≤ (t_next') ∧ (t_next') ≤ t_length)) ∧ 0 < (t_length - t_next').toNat + 1 from ⟨Or.inr (⟨rfl, (by first | assumption | omega), (by first | assumption | omega)⟩), by omega⟩)
        · have dc4 := q3_0 (bnf c4)
          exact Go_i (show (((0 : Nat) = 0 ∧ t_next ≤ ((t_next' + (1 : Int))) ∧ ((t_next' + (1 : Int))) ≤ t_length) ∨ ((0 : Nat) = 39 ∧ t_next ≤ ((t_next' + (1 : Int))) ∧ ((t_next' + (1 : Int))) ≤ t_length)) ∧ (t_length - ((t_next' + (1 : Int)))).toNat + 1 < (t_length - t_next').toNat + 1 from ⟨Or.inl (⟨rfl, (by first | assumption | omega), (by first | assumption | omega)⟩), by omega⟩)
    · show Go _ (zg_X8_readToken_39 t_length t_bytes t_next' t_kind' t_place' t_value')
      unfold zg_X8_readToken_39
      refine Go_chk (by unfold zout; omega) ?_
      refine Go_chk (by unfold zout; omega) ?_
      refine Go_ite (fun c5 => ?_) (fun c5 => ?_)
      · refine Go_chk (by omega) ?_
        have a6 := rget t_bytes (Int.toNat t_next')
        refine Go_bindP (ok_X8_isLetter (zget t_bytes (Int.toNat t_next')) (by first | assumption | omega) (by first | assumption | omega)) (fun o10 q7 => ?_)
        obtain ⟨q7_0, q7_1⟩ := q7
        refine Go_ite (fun c8 => ?_) (fun c8 => ?_)
        · have dc8 := q7_1 c8
          refine Go_bindP (ok_X8_isDigit (zget t_bytes (Int.toNat t_next')) (by first | assumption | omega) (by first | assumption | omega)) (fun o11 q9 => ?_)
          obtain ⟨q9_0, q9_1⟩ := q9
          refine Go_ite (fun c10 => ?_) (fun c10 => ?_)
          · have dc10 := q9_1 c10
            refine Go_ite (fun c11 => ?_) (fun c11 => ?_)
            · exact Go_i (show t_next ≤ ((t_next' + (1 : Int))) ∧ ((t_next' + (1 : Int))) ≤ t_length ∧ 0 ≤ (t_next') ∧ (t_next') ≤ ((t_next' + (1 : Int))) ∧ 0 ≤ ((3 : Int)) ∧ ((3 : Int)) ≤ 4 ∧ (((3 : Int)) = 2 → 0 ≤ ((0 : Int)) ∧ ((0 : Int)) ≤ 999) ∧ (¬ ((3 : Int)) = 0 → t_next < ((t_next' + (1 : Int)))) from ⟨(by first | assumption | omega), (by first | assumption | omega), (by first | assumption | omega), (by first | assumption | omega), (by first | assumption | omega), (by first | assumption | omega), (by intro h; first | exact True.intro | omega | (exact absurd h (by decide))), (by intro h; first | exact True.intro | omega | (exact absurd h (by decide)))⟩)
            · exact Go_i (show t_next ≤ ((t_next' + (1 : Int))) ∧ ((t_next' + (1 : Int))) ≤ t_length ∧ 0 ≤ (t_next') ∧ (t_next') ≤ ((t_next' + (1 : Int))) ∧ 0 ≤ ((4 : Int)) ∧ ((4 : Int)) ≤ 4 ∧ (((4 : Int)) = 2 → 0 ≤ ((0 : Int)) ∧ ((0 : Int)) ≤ 999) ∧ (¬ ((4 : Int)) = 0 → t_next < ((t_next' + (1 : Int)))) from ⟨(by first | assumption | omega), (by first | assumption | omega), (by first | assumption | omega), (by first | assumption | omega), (by first | assumption | omega), (by first | assumption | omega), (by intro h; first | exact True.intro | omega | (exact absurd h (by decide))), (by intro h; first | exact True.intro | omega | (exact absurd h (by decide)))⟩)
          · have dc10 := q9_0 (bnf c10)
            refine Go_bindP (ok2_X8_readNumber t_length t_next' t_kind' t_next' (0 : Int) t_bytes (by first | assumption | omega) (by first | assumption | omega) (by first | assumption | omega) (by first | assumption | omega) (by first | assumption | omega) (by first | assumption | omega) (by first | assumption | omega) (by first | assumption | omega) (by first | assumption | omega) (by first | assumption | omega) (by first | assumption | omega)) (fun o13 q12 => ?_)
            obtain ⟨q12_0, q12_1, q12_2, q12_3⟩ := q12
            exact Go_i (show t_next ≤ ((o13.1)) ∧ ((o13.1)) ≤ t_length ∧ 0 ≤ (t_next') ∧ (t_next') ≤ ((o13.1)) ∧ 0 ≤ ((o13.2.1)) ∧ ((o13.2.1)) ≤ 4 ∧ (((o13.2.1)) = 2 → 0 ≤ ((o13.2.2)) ∧ ((o13.2.2)) ≤ 999) ∧ (¬ ((o13.2.1)) = 0 → t_next < ((o13.1))) from ⟨(by first | assumption | omega), (by first | assumption | omega), (by first | assumption | omega), (by first | assumption | omega), (by first | assumption | omega), (by first | assumption | omega), (by intro h; first | exact True.intro | omega | (exact absurd h (by decide))), (by intro h; first | exact True.intro | omega | (exact absurd h (by decide)))⟩)
        · have dc8 := q7_0 (bnf c8)
          refine Go_bindP (ok2_X8_readWord t_length t_next' t_kind' t_next' t_bytes (by first | assumption | omega) (by first | assumption | omega) (by first | assumption | omega) (by first | assumption | omega) (by first | assumption | omega) (by first | assumption | omega) (by first | assumption | omega) (by first | assumption | omega) (by first | assumption | omega)) (fun o15 q13 => ?_)
          obtain ⟨q13_0, q13_1, q13_2⟩ := q13
          exact Go_i (show t_next ≤ ((o15.1)) ∧ ((o15.1)) ≤ t_length ∧ 0 ≤ (t_next') ∧ (t_next') ≤ ((o15.1)) ∧ 0 ≤ ((o15.2)) ∧ ((o15.2)) ≤ 4 ∧ (((o15.2)) = 2 → 0 ≤ ((0 : Int)) ∧ ((0 : Int)) ≤ 999) ∧ (¬ ((o15.2)) = 0 → t_next < ((o15.1))) from ⟨(by first | assumption | omega), (by first | assumption | omega), (by first | assumption | omega), (by first | assumption | omega), (by first | assumption | omega), (by first | assumption | omega), (by intro h; first | exact True.intro | omega | (exact absurd h (by decide))), (by intro h; first | exact True.intro | omega | (exact absurd h (by decide)))⟩)
      · exact Go_i (show t_next ≤ (t_next') ∧ (t_next') ≤ t_length ∧ 0 ≤ (t_next') ∧ (t_next') ≤ (t_next') ∧ 0 ≤ ((0 : Int)) ∧ ((0 : Int)) ≤ 4 ∧ (((0 : Int)) = 2 → 0 ≤ ((0 : Int)) ∧ ((0 : Int)) ≤ 999) ∧ (¬ ((0 : Int)) = 0 → t_next < (t_next')) from ⟨(by first | assumption | omega), (by first | assumption | omega), (by first | assumption | omega), (by first | assumption | omega), (by first | assumption | omega), (by first | assumption | omega), (by intro h; first | exact True.intro | omega | (exact absurd h (by decide))), (by intro h; first | exact True.intro | omega | (exact absurd h (by decide)))⟩)
  · exact (show ((0 : Nat) = 0 ∧ t_next ≤ t_next ∧ t_next ≤ t_length) ∨ ((0 : Nat) = 39 ∧ t_next ≤ t_next ∧ t_next ≤ t_length) from Or.inl (⟨rfl, (by first | assumption | omega), (by first | assumption | omega)⟩))
  · show (t_length - t_next).toNat + 1 < jfuel
    unfold jfuel
    omega
end

section
/-! the class's text of a cut -/
noncomputable def ch2N (m : Nat) (r : Nat) : Nat → Nat → Bool := Nat.rec (fun S cnt => decide (bitc (S : Int) = (cnt : Int) ∧ cnt ≤ m - 3)) (fun r ih S cnt => match ih S cnt with
    | false => false
    | true => match decide (S &&& crM m (lnN m - (r + 1)) = 0) with
      | true => ih (S ||| 2 ^ (lnN m - (r + 1))) (cnt + 1)
      | false => true) r
theorem ch2N_s {m r S cnt : Nat} (h : ch2N m (r + 1) S cnt = true) : ch2N m r S cnt = true ∧ (S &&& crM m (lnN m - (r + 1)) = 0 → ch2N m r (S ||| 2 ^ (lnN m - (r + 1))) (cnt + 1) = true) := by
  replace h : (match ch2N m r S cnt with
    | false => false
    | true => match decide (S &&& crM m (lnN m - (r + 1)) = 0) with
      | true => ch2N m r (S ||| 2 ^ (lnN m - (r + 1))) (cnt + 1)
      | false => true) = true := h
  cases e : ch2N m r S cnt with
  | false => rw [e] at h; cases h
  | true =>
    rw [e] at h
    refine ⟨rfl, fun z => ?_⟩
    rw [decide_eq_true z] at h
    exact h
theorem ch2_ok {m : Nat} {T : Nat} (hT : T < 2 ^ lnN m) (hg : good m T) : ∀ r S : Nat, r ≤ lnN m → ch2N m r S (pop T (lnN m - r)) = true → (∀ a, a < lnN m - r → S.testBit a = T.testBit a) → (∀ a, lnN m - r ≤ a → S.testBit a = false) → bitc (T : Int) = (pop T (lnN m) : Int) ∧ pop T (lnN m) ≤ m - 3 := by
  intro r
  induction r with
  | zero =>
    intro S _ h h1 h2
    have e : S = T := by
      apply Nat.eq_of_testBit_eq
      intro a
      by_cases z : a < lnN m
      · exact h1 a (by omega)
      · rw [h2 a (by omega), Nat.testBit_lt_two_pow (Nat.lt_of_lt_of_le hT (Nat.pow_le_pow_right (by decide) (by omega)))]
    subst e
    replace h : decide (bitc (S : Int) = ((pop S (lnN m - 0) : Nat) : Int) ∧ pop S (lnN m - 0) ≤ m - 3) = true := h
    rw [Nat.sub_zero] at h
    exact of_decide_eq_true h
  | succ r ih =>
    intro S hr h h1 h2
    have q := ch2N_s h
    have ek : lnN m - r = lnN m - (r + 1) + 1 := by omega
    cases b : T.testBit (lnN m - (r + 1)) with
    | false =>
      refine ih S (by omega) ?_ ?_ (fun a ha => h2 a (by omega))
      · rw [ek, pop_f b]; exact q.1
      · intro a ha
        by_cases z : a = lnN m - (r + 1)
        · subst z; rw [b]; exact h2 _ (Nat.le_refl _)
        · exact h1 a (by omega)
    | true =>
      have z : S &&& crM m (lnN m - (r + 1)) = 0 := by
        apply Nat.eq_of_testBit_eq
        intro a
        rw [Nat.testBit_and, Nat.zero_testBit]
        cases sa : S.testBit a with
        | false => rfl
        | true =>
          have al : a < lnN m - (r + 1) := by
            by_cases y : a < lnN m - (r + 1)
            · exact y
            · rw [h2 a (by omega)] at sa; cases sa
          rw [hg (lnN m - (r + 1)) a (by omega) (by omega) b ((h1 a al).symm.trans sa)]
          rfl
      refine ih (S ||| 2 ^ (lnN m - (r + 1))) (by omega) ?_ ?_ ?_
      · rw [ek, pop_t b]; exact q.2 z
      · intro a ha
        rw [or_bit]
        by_cases y : a = lnN m - (r + 1)
        · subst y; rw [decide_eq_true rfl, Bool.or_true, b]
        · rw [decide_eq_false (by omega), Bool.or_false]; exact h1 a (by omega)
      · intro a ha
        rw [or_bit, decide_eq_false (by omega), Bool.or_false]; exact h2 a (by omega)
theorem ch2_tab : ∀ m : Nat, 4 ≤ m → m ≤ 9 → ch2N m (lnN m) 0 0 = true := pg_cases (by decide +kernel) (by decide +kernel) (by decide +kernel) (by decide +kernel) (by decide +kernel) (by decide +kernel)
theorem good_pop {m T : Nat} (h4 : 4 ≤ m) (h9 : m ≤ 9) (hT : T < 2 ^ lnN m) (hg : good m T) : bitc (T : Int) = (pop T (lnN m) : Int) ∧ pop T (lnN m) ≤ m - 3 := by
  refine ch2_ok hT hg (lnN m) 0 (Nat.le_refl _) ?_ (fun a ha => by omega) (fun a _ => Nat.zero_testBit a)
  rw [Nat.sub_self]
  exact ch2_tab m h4 h9
def GC (n : Nat) (b : Int) : Prop := ∃ T : Nat, b = (T : Int) ∧ T < 2 ^ lnN n ∧ good n T
theorem GC_0 (n : Nat) : GC n 0 := ⟨0, rfl, Nat.two_pow_pos _, fun a b _ _ h => by rw [Nat.zero_testBit] at h; cases h⟩
theorem GC_cut {n : Nat} {b : Int} (h4 : 4 ≤ n) (h9 : n ≤ 9) (h : GC n b) (hb : (n : Int) - 3 ≤ bitc b) : isCut n b := by
  obtain ⟨T, rfl, h1, h2⟩ := h
  have := good_pop h4 h9 h1 h2
  exact good_cut h4 h9 h1 h2 (by omega)
theorem lineOf_e {n : Nat} {i j : Int} (h4 : 4 ≤ n) (h9 : n ≤ 9) (hi : 0 ≤ i) (hi' : i < (n : Int)) (hj : 0 ≤ j) (hj' : j < (n : Int)) : zf_X5_lineOf n i j = some (zget (pg3 n) (9 * i.toNat + j.toNat)) := by
  unfold zf_X5_lineOf
  rw [ok_hasC n i h4 h9 (by omega) (by omega), ok_hasC n j h4 h9 (by omega) (by omega), decide_eq_true ⟨hi, hi'⟩, decide_eq_true ⟨hj, hj'⟩]
  simp only [Option.bind_some]
  rw [if_neg (by decide), if_neg (by decide), if_neg (by omega), show Int.toNat (i * 9 + j) = 9 * i.toNat + j.toNat by omega]
theorem hasLine_e {n : Nat} {l : Int} (h4 : 4 ≤ n) (h9 : n ≤ 9) (h : 0 ≤ l) (h' : l < pg7 n) : zf_X5_hasLine n l = some true := by
  have r7 := rpg7 h4 h9
  unfold zf_X5_hasLine
  rw [if_neg (by unfold zout; omega), if_neg (by omega), if_neg (by unfold zout; omega), if_neg (by omega)]
set_option maxHeartbeats 1000000 in
theorem ok_takeSecond (mk : Nat) (fi : Int) (n : Nat) (bi i1 : Int) (p0 : ¬ zno mk n) (f0 : 0 ≤ fi) (f1 : fi < (n : Int)) (q0 : -2147483648 ≤ i1) (q1 : i1 ≤ 2147483647) (hG : GC n bi) : Go (fun o => 0 ≤ o.1 ∧ o.1 ≤ 6 ∧ GC n o.2) (zf_X1_takeSecond mk fi n bi i1) := by
  obtain ⟨h4, h9⟩ := zno_rng p0
  unfold zf_X1_takeSecond
  rw [if_neg (show ¬ n = 0 by omega)]
  refine Go_chk p0 ?_
  rw [ok_hasC n i1 h4 h9 q0 q1]
  simp only [Option.bind_some]
  refine Go_ite (fun c => ?_) (fun c => ?_)
  · exact Go_i ⟨(by first | decide | (dsimp only; decide)), (by first | decide | (dsimp only; decide)), hG⟩
  · have hc := of_decide_eq_true (bnf c)
    have r3 := rpg3 h4 h9 (9 * fi.toNat + i1.toNat) (by omega)
    have r7 := of_decide_eq_true (allF_at (pg3_lt_tab n h4 h9) (m := 9 * fi.toNat + i1.toNat) (by omega))
    have g7 := rpg7 h4 h9
    rw [lineOf_e h4 h9 f0 f1 hc.1 hc.2]
    simp only [Option.bind_some]
    generalize hl : zget (pg3 n) (9 * fi.toNat + i1.toNat) = l at r3 r7 ⊢
    refine Go_chk (by unfold zout; omega) ?_
    refine Go_ite (fun c1 => ?_) (fun c1 => ?_)
    · exact Go_i ⟨(by first | decide | (dsimp only; decide)), (by first | decide | (dsimp only; decide)), hG⟩
    · have hl0 : 0 ≤ l := by omega
      have eh : zf_X5_has n bi l = some (decide (¬ zand (zshr bi l) 1 = 0)) := by
        unfold zf_X5_has
        rw [hasLine_e h4 h9 hl0 r7]
        simp only [Option.bind_some]
        rw [if_neg (by decide)]
        by_cases z : zand (zshr bi l) 1 = 0
        · rw [if_pos z, decide_eq_false (fun q => q z)]
        · rw [if_neg z, decide_eq_true z]
      have ec : zf_X5_crossersOf n l = some (zget (pg4 n) l.toNat) := by
        unfold zf_X5_crossersOf
        rw [hasLine_e h4 h9 hl0 r7]
        simp only [Option.bind_some]
        rw [if_neg (by decide), if_neg (by omega)]
      rw [eh]
      simp only [Option.bind_some]
      refine Go_ite (fun c2 => ?_) (fun c2 => ?_)
      · have hz : zand (zshr bi l) 1 = 0 := Classical.byContradiction (fun q => of_decide_eq_false c2 q)
        rw [ec]
        simp only [Option.bind_some]
        refine Go_ite (fun c3 => ?_) (fun c3 => ?_)
        · refine Go_i ⟨(by first | decide | (dsimp only; decide)), (by first | decide | (dsimp only; decide)), ?_⟩
          obtain ⟨T, rfl, h1, h2⟩ := hG
          have l2 := lnN_2 h4 h9
          obtain ⟨k, rfl⟩ : ∃ k : Nat, l = (k : Int) := ⟨l.toNat, by omega⟩
          have hk : k < lnN n := by unfold lnN; omega
          have hk27 : k < 27 := by omega
          have r4 := rpg4 h4 h9 k hk27
          show GC n (zor (T : Int) (zshl 1 (k : Int)))
          rw [orI (by omega) hk27]
          refine ⟨_, rfl, Nat.or_lt_two_pow h1 (Nat.pow_lt_pow_right (by decide) hk), good_add h4 h9 h2 hk ?_⟩
          intro b hb tb
          have ez : (zget (pg4 n) k).toNat &&& T = 0 := by
            have e1 : zget (pg4 n) k = (((zget (pg4 n) k).toNat : Nat) : Int) := by omega
            have c3' : zand (zget (pg4 n) k) (T : Int) = 0 := c3
            rw [e1] at c3'
            have hlt : (zget (pg4 n) k).toNat &&& T < 134217728 := Nat.lt_of_le_of_lt Nat.and_le_right (by omega)
            unfold zand at c3'
            rw [zu_n (by omega), zu_n (by omega), zs_n hlt] at c3'
            omega
          have := congrArg (fun q => Nat.testBit q b) ez
          simp only [Nat.testBit_and, Nat.zero_testBit, tb, Bool.and_true] at this
          exact this
        · exact Go_i ⟨(by first | decide | (dsimp only; decide)), (by first | decide | (dsimp only; decide)), hG⟩
      · exact Go_i ⟨(by first | decide | (dsimp only; decide)), (by first | decide | (dsimp only; decide)), hG⟩
theorem ok_takeFirst (mk : Nat) (fi : Int) (n : Nat) (bi kd va : Int) (p0 : ¬ zno mk n) (k0 : 0 ≤ kd) (k4 : kd ≤ 4) (hv : kd = 2 → 0 ≤ va ∧ va ≤ 999) (hG : GC n bi) : Go (fun o => 0 ≤ o.1 ∧ o.1 ≤ 6 ∧ (o.1 = 0 → kd = 0 → isCut n bi) ∧ (o.1 = 0 → ¬ kd = 0 → 0 ≤ o.2 ∧ o.2 < (n : Int))) (zf_X1_takeFirst mk fi n bi kd va) := by
  obtain ⟨h4, h9⟩ := zno_rng p0
  unfold zf_X1_takeFirst
  rw [if_neg (show ¬ n = 0 by omega)]
  show Go _ (if zout kd then none else _)
  refine Go_chk (by unfold zout; omega) ?_
  refine Go_ite (fun c => ?_) (fun c => ?_)
  · rw [bitc_eq]
    simp only [Option.bind_some]
    have rb := rand63
    have hb63 : 0 ≤ bitc bi ∧ bitc bi ≤ 63 := rand63 _
    refine Go_chk p0 ?_
    show Go _ (if zout (bitc bi) then none else _)
    refine Go_chk (by unfold zout; omega) ?_
    refine Go_chk (by unfold zout; omega) ?_
    refine Go_ite (fun c1 => ?_) (fun c1 => ?_)
    · exact Go_i ⟨(by first | decide | (dsimp only; decide)), (by first | decide | (dsimp only; decide)), fun _ _ => GC_cut h4 h9 hG c1, fun _ z => absurd c z⟩
    · exact Go_i ⟨(by first | decide | (dsimp only; decide)), (by first | decide | (dsimp only; decide)), fun z => absurd z (by first | decide | (dsimp only; decide)), fun z => absurd z (by first | decide | (dsimp only; decide))⟩
  · show Go _ (if zout kd then none else _)
    refine Go_chk (by unfold zout; omega) ?_
    refine Go_ite (fun c1 => ?_) (fun c1 => ?_)
    · have hv := hv c1
      refine Go_chk p0 ?_
      rw [ok_hasC n va h4 h9 (by omega) (by omega)]
      simp only [Option.bind_some]
      refine Go_ite (fun c2 => ?_) (fun c2 => ?_)
      · exact Go_i ⟨(by first | decide | (dsimp only; decide)), (by first | decide | (dsimp only; decide)), fun z => absurd z (by first | decide | (dsimp only; decide)), fun z => absurd z (by first | decide | (dsimp only; decide))⟩
      · have := of_decide_eq_true (bnf c2)
        exact Go_i ⟨(by first | decide | (dsimp only; decide)), (by first | decide | (dsimp only; decide)), fun _ z => absurd z c, fun _ _ => this⟩
    · exact Go_i ⟨(by first | decide | (dsimp only; decide)), (by first | decide | (dsimp only; decide)), fun z => absurd z (by first | decide | (dsimp only; decide)), fun z => absurd z (by first | decide | (dsimp only; decide))⟩
theorem ok_takeTok (mk : Nat) (ex fi : Int) (n : Nat) (bi nx kd pl va : Int) (p0 : ¬ zno mk n) (he : ex = 2 ∨ ex = 3 ∨ ex = 4) (hf : ex = 3 → 0 ≤ fi ∧ fi < (n : Int)) (k0 : 0 ≤ kd) (k4 : kd ≤ 4) (hv : kd = 2 → 0 ≤ va ∧ va ≤ 999) (hG : GC n bi) : Go (fun o => 0 ≤ o.1 ∧ o.1 ≤ 6 ∧ (o.2.1 = 2 ∨ o.2.1 = 3 ∨ o.2.1 = 4) ∧ (o.1 = 0 → ¬ kd = 0 → o.2.1 = 3 → 0 ≤ o.2.2.1 ∧ o.2.2.1 < (n : Int)) ∧ GC n o.2.2.2 ∧ (o.1 = 0 → kd = 0 → isCut n o.2.2.2)) (zf_X1_takeToken mk ex fi n bi nx kd pl va) := by
  unfold zf_X1_takeToken
  refine Go_chk (by unfold zout; omega) ?_
  rw [if_neg (by omega), if_neg (by omega)]
  rcases he with rfl | rfl | rfl
  · rw [if_pos rfl]
    refine Go_bindP (ok_takeFirst mk fi n bi kd va p0 k0 k4 hv hG) (fun o q => ?_)
    exact Go_i ⟨q.1, q.2.1, Or.inr (Or.inl rfl), fun z1 z2 _ => q.2.2.2 z1 z2, hG, fun z1 z2 => q.2.2.1 z1 z2⟩
  · rw [if_neg (by decide), if_pos rfl]
    show Go _ (if zout kd then none else _)
    refine Go_chk (by unfold zout; omega) ?_
    refine Go_ite (fun c => ?_) (fun c => ?_)
    · have hv := hv c
      show Go _ (Option.bind (zf_X1_takeSecond mk fi n bi va) _)
      refine Go_bindP (ok_takeSecond mk fi n bi va p0 (hf rfl).1 (hf rfl).2 (by omega) (by omega) hG) (fun o q => ?_)
      exact Go_i ⟨q.1, q.2.1, Or.inr (Or.inr rfl), fun _ _ z => absurd z (by first | decide | (dsimp only; decide)), q.2.2, fun _ z => absurd (z.symm.trans c) (by decide)⟩
    · exact Go_i ⟨(by first | decide | (dsimp only; decide)), (by first | decide | (dsimp only; decide)), Or.inr (Or.inr rfl), fun z => absurd z (by first | decide | (dsimp only; decide)), hG, fun z => absurd z (by first | decide | (dsimp only; decide))⟩
  · rw [if_neg (by decide), if_neg (by decide)]
    show Go _ (if zout kd then none else _)
    refine Go_chk (by unfold zout; omega) ?_
    refine Go_ite (fun c => ?_) (fun c => ?_)
    · exact Go_i ⟨(by first | decide | (dsimp only; decide)), (by first | decide | (dsimp only; decide)), Or.inl rfl, fun _ _ z => absurd z (by first | decide | (dsimp only; decide)), hG, fun _ z => absurd (z.symm.trans c) (by decide)⟩
    · exact Go_i ⟨(by first | decide | (dsimp only; decide)), (by first | decide | (dsimp only; decide)), Or.inl rfl, fun z => absurd z (by first | decide | (dsimp only; decide)), hG, fun z => absurd z (by first | decide | (dsimp only; decide))⟩
/-- what is read behind the size -/
theorem ok_und2 (mk : Nat) (n : Nat) (p0 : ¬ zno mk n) (len : Int) (by_ : Nat) (l0 : 0 ≤ len) (l3 : len ≤ 300) (fi nx kd pl va : Int) (hnx : 2 ≤ nx) (hnl : nx ≤ len) : Go (fun o => o.2.2.2.2.2.1 = n ∧ (o.1 = true → isCut n o.2.2.2.2.2.2.1)) (jrun (zg_X1_understand mk len by_) jfuel (31, (0 + 1) + 1, 0, (-1), 4, fi, n, 0, nx, kd, pl, va)) := by
  obtain ⟨h4, h9⟩ := zno_rng p0
  refine jok (fun (s : zS_X1_understand) => match s with | (lab, i3, fk, fp, ex, fi, pol, bi, nx, kd, pl, va) => lab = 31 ∧ 2 ≤ i3 ∧ i3 ≤ nx ∧ nx ≤ len ∧ pol = n ∧ (ex = 2 ∨ ex = 3 ∨ ex = 4) ∧ (ex = 3 → 0 ≤ fi ∧ fi < (n : Int)) ∧ GC n bi) (fun (s : zS_X1_understand) => match s with | (lab, i3, fk, fp, ex, fi, pol, bi, nx, kd, pl, va) => (400 - i3).toNat) _ ?_ _ ?_ ?_
  · intro s hI
    obtain ⟨lab, i3, fk, fp, ex, fi, pol, bi, nx, kd, pl, va⟩ := s
    replace hI : lab = 31 ∧ 2 ≤ i3 ∧ i3 ≤ nx ∧ nx ≤ len ∧ pol = n ∧ (ex = 2 ∨ ex = 3 ∨ ex = 4) ∧ (ex = 3 → 0 ≤ fi ∧ fi < (n : Int)) ∧ GC n bi := hI
    obtain ⟨rfl, v1, v2, v3, rfl, v4, v5, v6⟩ := hI
    show Go _ (zg_X1_understand_31 mk len by_ i3 fk fp ex fi pol bi nx kd pl va)
    unfold zg_X1_understand_31
    refine Go_chk (by unfold zout; omega) ?_
    rw [if_neg (by omega)]
    refine Go_bindP (ok2_X8_readToken len nx kd pl va by_ l0 l3 (by omega) v3) (fun o4 q => ?_)
    obtain ⟨q0, q1, q2, q3, q4, q5, q6, q7⟩ := q
    refine Go_bindP (ok_takeTok mk ex fi pol bi o4.1 o4.2.1 o4.2.2.1 o4.2.2.2 p0 v4 v5 q4 q5 q6 v6) (fun o5 r => ?_)
    obtain ⟨r0, r1, r2, r3, r4, r5⟩ := r
    refine Go_chk (by unfold zout; omega) ?_
    refine Go_ite (fun c1 => ?_) (fun c1 => ?_)
    · show Go _ (if zout o4.2.1 then none else _)
      refine Go_chk (by unfold zout; omega) ?_
      refine Go_ite (fun c2 => ?_) (fun c2 => ?_)
      · rw [if_neg (by omega)]
        exact Go_i ⟨rfl, fun _ => r5 c1 c2⟩
      · refine Go_i ⟨⟨rfl, ?_, ?_, q1, rfl, r2, fun z => r3 c1 c2 z, r4⟩, ?_⟩
        · show 2 ≤ i3 + 1; omega
        · show i3 + 1 ≤ o4.1; have := q7 c2; omega
        · show (400 - (i3 + 1)).toNat < (400 - i3).toNat; omega
    · exact Go_i ⟨rfl, fun z => by cases z⟩
  · exact ⟨rfl, by decide, hnx, hnl, rfl, Or.inr (Or.inr rfl), fun z => absurd z (by decide), GC_0 n⟩
  · show (400 - (0 + 1 + 1 : Int)).toNat < jfuel
    unfold jfuel
    decide
theorem zww_some (len pl : Int) (by_ : Nat) (l3 : len ≤ 300) (p0 : 0 ≤ pl) : ∀ n : Nat, n ≤ 7 → ∃ b, zww len pl by_ n = some b := by
  intro n
  induction n with
  | zero => intro _; exact ⟨true, rfl⟩
  | succ n ih =>
    intro hn
    obtain ⟨b, hb⟩ := ih (by omega)
    show ∃ b, (match decide (pl + (6 - (n : Int)) < len) with
      | false => some true
      | true => match decide (pl + (6 - (n : Int)) < 0 ∨ 300 ≤ pl + (6 - (n : Int))) with
        | true => none
        | false => match decide (zget by_ (Int.toNat (pl + (6 - (n : Int)))) = zSI (6 - n)) with
          | true => zww len pl by_ n
          | false => some false) = some b
    by_cases a : pl + (6 - (n : Int)) < len
    · rw [decide_eq_true a, decide_eq_false (show ¬ (pl + (6 - (n : Int)) < 0 ∨ 300 ≤ pl + (6 - (n : Int))) by omega)]
      cases decide (zget by_ (Int.toNat (pl + (6 - (n : Int)))) = zSI (6 - n)) with
      | true => exact ⟨b, hb⟩
      | false => exact ⟨false, rfl⟩
    · rw [decide_eq_false a]; exact ⟨true, rfl⟩
theorem isWordF_some (len nx kd pl : Int) (by_ : Nat) (l0 : 0 ≤ len) (l3 : len ≤ 300) (h1 : nx ≤ len) (h2 : 0 ≤ pl) (h3 : pl ≤ nx) (k0 : 0 ≤ kd) (k4 : kd ≤ 4) : ∃ b, zf_X8_isWordF len nx kd pl by_ = some b ∧ (b = true → kd = 1 ∧ nx - pl = 7) := by
  unfold zf_X8_isWordF
  rw [if_neg (by unfold zout; omega)]
  by_cases a : kd = 1
  · rw [if_pos a, if_neg (by unfold zout; omega)]
    by_cases b : nx - pl = 7
    · rw [if_pos b, if_neg (by unfold zout; omega)]
      obtain ⟨w, hw⟩ := zww_some len pl by_ l3 h2 7 (Nat.le_refl _)
      exact ⟨w, hw, fun _ => ⟨a, b⟩⟩
    · rw [if_neg b]; exact ⟨false, rfl, fun z => by cases z⟩
  · rw [if_neg a]; exact ⟨false, rfl, fun z => by cases z⟩
/-- what cut's text comes to -/
theorem cutX (mk : Nat) (len kd pl va : Int) (by_ : Nat) (fi : Int) (l0 : 0 ≤ len) (l3 : len ≤ 300) : (∃ out, zuF len kd pl va by_ fi out) ∨ ∃ (n4 p4 v4 n5 p5 : Int) (c : Nat) (out : zO_X1_understand), 4 ≤ c ∧ c ≤ 9 ∧ zf_X8_readToken len 0 kd pl va by_ = some (n4, 1, p4, v4) ∧ zf_X8_isWordF len n4 1 p4 by_ = some true ∧ zf_X8_readToken len n4 1 p4 v4 by_ = some (n5, 2, p5, (c : Int)) ∧ jrun (zg_X1_understand (zmk mk c) len by_) jfuel (31, (0 + 1) + 1, 0, (-1), 4, fi, c, 0, n5, 2, p5, (c : Int)) = some out ∧ out.2.2.2.2.2.1 = c ∧ (out.1 = true → isCut c out.2.2.2.2.2.2.1) := by
  obtain ⟨⟨n4, k4, p4, v4⟩, h1, q⟩ := ok2_X8_readToken len 0 kd pl va by_ l0 l3 (by decide) l0
  obtain ⟨q0, q1, q2, q3, q4, q5, q6, q7⟩ := q
  replace q0 : 0 ≤ n4 := q0
  replace q1 : n4 ≤ len := q1
  replace q2 : 0 ≤ p4 := q2
  replace q3 : p4 ≤ n4 := q3
  replace q4 : 0 ≤ k4 := q4
  replace q5 : k4 ≤ 4 := q5
  obtain ⟨w, hw, hw2⟩ := isWordF_some len n4 k4 p4 by_ l0 l3 q1 q2 q3 q4 q5
  cases w with
  | false => exact Or.inl ⟨_, Or.inl ⟨n4, k4, p4, v4, h1, hw, rfl⟩⟩
  | true =>
    obtain ⟨rfl, h7⟩ := hw2 rfl
    obtain ⟨⟨n5, k5, p5, v5⟩, h3, r⟩ := ok2_X8_readToken len n4 1 p4 v4 by_ l0 l3 q0 q1
    obtain ⟨r0, r1, r2, r3, r4, r5, r6, r7⟩ := r
    replace r0 : n4 ≤ n5 := r0
    replace r1 : n5 ≤ len := r1
    replace r4 : 0 ≤ k5 := r4
    replace r5 : k5 ≤ 4 := r5
    replace r6 : k5 = 2 → 0 ≤ v5 ∧ v5 ≤ 999 := r6
    by_cases e : k5 = 2
    · have r6 := r6 e
      by_cases z : v5 < 4 ∨ 9 < v5
      · exact Or.inl ⟨_, Or.inr ⟨n4, p4, v4, n5, k5, p5, v5, h1, hw, h3, Or.inr ⟨e, by unfold zout; omega, z, rfl⟩⟩⟩
      · subst e
        obtain ⟨c, rfl⟩ : ∃ c : Nat, v5 = (c : Int) := ⟨v5.toNat, by omega⟩
        obtain ⟨out, ho, ho2⟩ := ok_und2 (zmk mk c) c (zmk_yes (by omega) (by omega)) len by_ l0 l3 fi n5 2 p5 (c : Int) (by omega) r1
        exact Or.inr ⟨n4, p4, v4, n5, p5, c, out, by omega, by omega, h1, hw, h3, ho, ho2.1, ho2.2⟩
    · exact Or.inl ⟨_, Or.inr ⟨n4, p4, v4, n5, k5, p5, v5, h1, hw, h3, Or.inl ⟨e, by unfold zout; omega, rfl⟩⟩⟩
end

section
set_option maxRecDepth 20000 in
theorem ok2_X5_otherLine (n : Nat) (i1 : Int) (i2 : Int) (p0 : 4 ≤ n) (p1 : n ≤ 9) (p2 : isCut n i1) (p3 : 0 ≤ i2) (p4 : i2 < pg7 n) (p5 : ¬ zand (zshr i1 i2) 1 = 0) : Go (fun o => 0 ≤ (o) ∧ (o) < pg7 n ∧ isCut n (flipN i1 i2 (o))) (zf_X5_otherLine n i1 i2) := by
  obtain ⟨l, rfl⟩ : ∃ l : Nat, i2 = (l : Int) := ⟨i2.toNat, by omega⟩
  obtain ⟨k, hk, rfl⟩ := p2
  obtain ⟨o, a1, a2, a3, -⟩ := fl_all p0 p1 hk p4 p5
  exact ⟨(o : Int), a2, by omega, a1, a3⟩
set_option maxRecDepth 20000 in
theorem ok2_X10_way (mk : Nat) (t_polygon : Nat) (t_bits : Int) (triangles_count : Int) (triangles_polygon : Nat) (triangles_from : Int) (triangles_length : Int) (triangles_waysAhead : Int) (triangles_cornersOf : Nat) (triangles_chosen : Nat) (i1 : Int) (i2 : Int) (i3 : Int) (i4 : Int) (p0 : ¬ zno mk t_polygon) (p1 : isCut t_polygon t_bits) (p2 : -2147483648 ≤ i1) (p3 : i1 ≤ 2147483647) (p4 : -2147483648 ≤ i2) (p5 : i2 ≤ 2147483647) (p6 : -2147483648 ≤ i3) (p7 : i3 ≤ 2147483647) (p8 : -2147483648 ≤ i4) (p9 : i4 ≤ 2147483647) (p10 : 0 ≤ triangles_count) (p11 : triangles_count ≤ 7) : Go (fun o => 0 ≤ (o.2.1) ∧ (o.2.1) ≤ 7 ∧ ((o.2.2.1) = t_polygon ∨ (o.2.2.1) = triangles_polygon)) (zf_X10_way mk t_polygon t_bits triangles_count triangles_polygon triangles_from triangles_length triangles_waysAhead triangles_cornersOf triangles_chosen i1 i2 i3 i4) := by
  unfold zf_X10_way
  have grt_polygon := zno_rng p0
  have g7t_polygon := rpg7 (n := t_polygon) (by omega) (by omega)
  have g8t_polygon := rpg8 (n := t_polygon) (by omega) (by omega)
  refine Go_bindP (ok_X10_areCorners mk t_polygon i1 i2 (by first | assumption | omega) (by first | assumption | omega) (by first | assumption | omega) (by first | assumption | omega) (by first | assumption | omega)) (fun o1 q1 => ?_)
  obtain ⟨q1_0, q1_1⟩ := q1
  refine Go_ite (fun c2 => ?_) (fun c2 => ?_)
  · have dc2 := q1_1 c2
    exact Go_i (show 0 ≤ (triangles_count) ∧ (triangles_count) ≤ 7 ∧ ((triangles_polygon) = t_polygon ∨ (triangles_polygon) = triangles_polygon) from ⟨(by first | assumption | omega), (by first | assumption | omega), (by first | exact Or.inr rfl | exact Or.inl (by assumption) | (left; omega))⟩)
  · have dc2 := q1_0 (bnf c2)
    refine Go_chk (by assumption) ?_
    refine Go_bindP (ok_X5_hasCorner t_polygon i4 (by first | assumption | omega) (by first | assumption | omega) (by first | assumption | omega) (by first | assumption | omega)) (fun o3 q3 => ?_)
    obtain ⟨q3_0, q3_1⟩ := q3
    refine Go_ite (fun c4 => ?_) (fun c4 => ?_)
    · have dc4 := q3_1 c4
      exact Go_i (show 0 ≤ (triangles_count) ∧ (triangles_count) ≤ 7 ∧ ((triangles_polygon) = t_polygon ∨ (triangles_polygon) = triangles_polygon) from ⟨(by first | assumption | omega), (by first | assumption | omega), (by first | exact Or.inr rfl | exact Or.inl (by assumption) | (left; omega))⟩)
    · have dc4 := q3_0 (bnf c4)
      refine Go_chk (by unfold zout; omega) ?_
      refine Go_ite (fun c5 => ?_) (fun c5 => ?_)
      · exact Go_i (show 0 ≤ (triangles_count) ∧ (triangles_count) ≤ 7 ∧ ((triangles_polygon) = t_polygon ∨ (triangles_polygon) = triangles_polygon) from ⟨(by first | assumption | omega), (by first | assumption | omega), (by first | exact Or.inr rfl | exact Or.inl (by assumption) | (left; omega))⟩)
      · refine Go_bindP (ok_X5_entryOf t_polygon t_bits i1 i2 (by first | assumption | omega) (by first | assumption | omega) (by first | assumption | exact isCut_at (by omega) (by omega)) (by first | assumption | omega) (by first | assumption | omega) (by first | assumption | omega) (by first | assumption | omega)) (fun o5 q6 => ?_)
        obtain ⟨q6_0, q6_1⟩ := q6
        refine Go_chk (by unfold zout; omega) ?_
        refine Go_ite (fun c7 => ?_) (fun c7 => ?_)
        · refine Go_bindP (ok_X5_ahead t_polygon i1 i4 (by first | assumption | omega) (by first | assumption | omega) (by first | assumption | omega) (by first | assumption | omega) (by first | assumption | omega) (by first | assumption | omega)) (fun o7 q8 => ?_)
          obtain ⟨q8_0, q8_1⟩ := q8
          refine Go_chk (by unfold zout; omega) ?_
          refine Go_ite (fun c9 => ?_) (fun c9 => ?_)
          · exact Go_i (show 0 ≤ (triangles_count) ∧ (triangles_count) ≤ 7 ∧ ((triangles_polygon) = t_polygon ∨ (triangles_polygon) = triangles_polygon) from ⟨(by first | assumption | omega), (by first | assumption | omega), (by first | exact Or.inr rfl | exact Or.inl (by assumption) | (left; omega))⟩)
          · refine Go_bindP (ok_X5_ahead t_polygon i1 i2 (by first | assumption | omega) (by first | assumption | omega) (by first | assumption | omega) (by first | assumption | omega) (by first | assumption | omega) (by first | assumption | omega)) (fun o9 q10 => ?_)
            obtain ⟨q10_0, q10_1⟩ := q10
            refine Go_chk (by unfold zout; omega) ?_
            refine Go_ite (fun c11 => ?_) (fun c11 => ?_)
            · refine Go_bindP (ok_X9_gather mk triangles_count triangles_cornersOf t_polygon t_bits (by first | assumption | omega)) (fun o11 q12 => ?_)
              obtain ⟨q12_0, q12_1⟩ := q12
              refine Go_bindP (ok_X9_onWay mk (o11.1) triangles_polygon triangles_from triangles_length triangles_waysAhead (o11.2) triangles_chosen t_polygon i1 i2 i3 (o7 - (1 : Int)) (by first | assumption | omega) (by first | assumption | omega) (by first | assumption | omega) (by first | assumption | omega) (by first | assumption | omega) (by first | assumption | omega) (by first | assumption | omega) (by first | assumption | omega) (by first | assumption | omega) (by first | assumption | omega) (by first | assumption | omega)) (fun o12 q13 => ?_)
              obtain ⟨q13_0, q13_1, q13_2⟩ := q13
              exact Go_i (show 0 ≤ ((o11.1)) ∧ ((o11.1)) ≤ 7 ∧ (((o12.2.1)) = t_polygon ∨ ((o12.2.1)) = triangles_polygon) from ⟨(by first | assumption | omega), (by first | assumption | omega), (by first | exact Or.inr rfl | exact Or.inl (by assumption) | (left; omega))⟩)
            · exact Go_i (show 0 ≤ (triangles_count) ∧ (triangles_count) ≤ 7 ∧ ((triangles_polygon) = t_polygon ∨ (triangles_polygon) = triangles_polygon) from ⟨(by first | assumption | omega), (by first | assumption | omega), (by first | exact Or.inr rfl | exact Or.inl (by assumption) | (left; omega))⟩)
        · exact Go_i (show 0 ≤ (triangles_count) ∧ (triangles_count) ≤ 7 ∧ ((triangles_polygon) = t_polygon ∨ (triangles_polygon) = triangles_polygon) from ⟨(by first | assumption | omega), (by first | assumption | omega), (by first | exact Or.inr rfl | exact Or.inl (by assumption) | (left; omega))⟩)
set_option maxRecDepth 20000 in
theorem ok_X10_flip (mk : Nat) (t_polygon : Nat) (t_bits : Int) (i1 : Int) (i2 : Int) (p0 : ¬ zno mk t_polygon) (p1 : isCut t_polygon t_bits) (p2 : -2147483648 ≤ i1) (p3 : i1 ≤ 2147483647) (p4 : -2147483648 ≤ i2) (p5 : i2 ≤ 2147483647) : Go (fun o => isCut t_polygon (o.2)) (zf_X10_flip mk t_polygon t_bits i1 i2) := by
  unfold zf_X10_flip
  have grt_polygon := zno_rng p0
  have g7t_polygon := rpg7 (n := t_polygon) (by omega) (by omega)
  have g8t_polygon := rpg8 (n := t_polygon) (by omega) (by omega)
  refine Go_bindP (ok_X10_areCorners mk t_polygon i1 i2 (by first | assumption | omega) (by first | assumption | omega) (by first | assumption | omega) (by first | assumption | omega) (by first | assumption | omega)) (fun o1 q1 => ?_)
  obtain ⟨q1_0, q1_1⟩ := q1
  refine Go_ite (fun c2 => ?_) (fun c2 => ?_)
  · have dc2 := q1_1 c2
    exact Go_i (show isCut t_polygon (t_bits) from (by assumption))
  · have dc2 := q1_0 (bnf c2)
    refine Go_chk (by assumption) ?_
    refine Go_bindP (ok_X5_lineOf t_polygon i1 i2 (by first | assumption | omega) (by first | assumption | omega) (by first | assumption | omega) (by first | assumption | omega) (by first | assumption | omega) (by first | assumption | omega)) (fun o3 q3 => ?_)
    obtain ⟨q3_0, q3_1⟩ := q3
    refine Go_bindP (ok_X5_has t_polygon t_bits o3 (by first | assumption | omega) (by first | assumption | omega) (by first | assumption | omega) (by first | assumption | omega)) (fun o4 q4 => ?_)
    obtain ⟨q4_0, q4_1⟩ := q4
    refine Go_ite (fun c5 => ?_) (fun c5 => ?_)
    · have dc5 := q4_1 c5
      exact Go_i (show isCut t_polygon (t_bits) from (by assumption))
    · have dc5 := q4_0 (bnf c5)
      refine Go_bindP (ok2_X5_otherLine t_polygon t_bits o3 (by first | assumption | omega) (by first | assumption | omega) (by assumption) (by first | assumption | omega) (by first | assumption | omega) (by first | assumption | omega)) (fun o5 q6 => ?_)
      obtain ⟨q6_0, q6_1, q6_2⟩ := q6
      refine Go_bindP (ok_X5_pairOf t_polygon o5 (by first | assumption | omega) (by first | assumption | omega) (by first | assumption | omega) (by first | assumption | omega)) (fun o6 q7 => ?_)
      obtain ⟨q7_0, q7_1⟩ := q7
      have a8 := rshl (1 : Int) o5
      have a9 := rshl (1 : Int) o3
      have a10 := rxor (zshl (1 : Int) o3) (-1 : Int)
      have a11 := rand t_bits (zxor (zshl (1 : Int) o3) (-1 : Int))
      have a12 := ror (zand t_bits (zxor (zshl (1 : Int) o3) (-1 : Int))) (zshl (1 : Int) o5)
      exact Go_i (show isCut t_polygon ((zor (zand t_bits (zxor (zshl (1 : Int) o3) (-1 : Int))) (zshl (1 : Int) o5))) from (by (unfold flipN at *; assumption)))
set_option maxRecDepth 20000 in
theorem ok2_X11_see (t_corners : Int) (t_seenMany : Int) (t_lastTold : Int) (t_sTold : Nat) (t_sOne : Nat) (t_sTwo : Nat) (t_sEntry : Nat) (i1 : Int) (i2 : Int) (i3 : Int) (i4 : Int) (p0 : 4 ≤ t_corners) (p1 : t_corners ≤ 9) (p2 : 0 ≤ t_seenMany) (p3 : t_seenMany ≤ 20) (p4 : 0 ≤ t_lastTold) (p5 : t_lastTold ≤ 999) (p6 : -2147483648 ≤ i1) (p7 : i1 ≤ 2147483647) (p8 : -2147483648 ≤ i2) (p9 : i2 ≤ 2147483647) (p10 : -2147483648 ≤ i3) (p11 : i3 ≤ 2147483647) (p12 : -2147483648 ≤ i4) (p13 : i4 ≤ 2147483647) (p14 : (∀ k : Nat, (k : Int) < t_seenMany → 0 ≤ zget t_sOne k ∧ zget t_sOne k < t_corners)) (p15 : (∀ k : Nat, (k : Int) < t_seenMany → 0 ≤ zget t_sTwo k ∧ zget t_sTwo k < t_corners)) : Go (fun o => 0 ≤ (o.2.1) ∧ (o.2.1) ≤ 20 ∧ 0 ≤ (o.2.2.1) ∧ (o.2.2.1) ≤ 999 ∧ (∀ k : Nat, (k : Int) < (o.2.1) → 0 ≤ zget (o.2.2.2.2.1) k ∧ zget (o.2.2.2.2.1) k < t_corners) ∧ (∀ k : Nat, (k : Int) < (o.2.1) → 0 ≤ zget (o.2.2.2.2.2.1) k ∧ zget (o.2.2.2.2.2.1) k < t_corners)) (zf_X11_see t_corners t_seenMany t_lastTold t_sTold t_sOne t_sTwo t_sEntry i1 i2 i3 i4) := by
  unfold zf_X11_see
  refine Go_bindP (ok_X11_in i1 t_lastTold (999 : Int) (by first | assumption | omega) (by first | assumption | omega) (by first | assumption | omega) (by first | assumption | omega) (by first | assumption | omega) (by first | assumption | omega)) (fun o1 q1 => ?_)
  obtain ⟨q1_0, q1_1⟩ := q1
  refine Go_ite (fun c2 => ?_) (fun c2 => ?_)
  · have dc2 := q1_1 c2
    exact Go_i (show 0 ≤ (t_seenMany) ∧ (t_seenMany) ≤ 20 ∧ 0 ≤ (t_lastTold) ∧ (t_lastTold) ≤ 999 ∧ (∀ k : Nat, (k : Int) < (t_seenMany) → 0 ≤ zget (t_sOne) k ∧ zget (t_sOne) k < t_corners) ∧ (∀ k : Nat, (k : Int) < (t_seenMany) → 0 ≤ zget (t_sTwo) k ∧ zget (t_sTwo) k < t_corners) from ⟨(by first | assumption | omega), (by first | assumption | omega), (by first | assumption | omega), (by first | assumption | omega), (by first | assumption | exact all_push (by assumption) (by omega) (by omega) (by omega) (by omega) (by omega)), (by first | assumption | exact all_push (by assumption) (by omega) (by omega) (by omega) (by omega) (by omega))⟩)
  · have dc2 := q1_0 (bnf c2)
    refine Go_bindP (ok_X11_isCorner t_corners i2 (by first | assumption | omega) (by first | assumption | omega) (by first | assumption | omega) (by first | assumption | omega)) (fun o2 q3 => ?_)
    obtain ⟨q3_0, q3_1⟩ := q3
    refine Go_ite (fun c4 => ?_) (fun c4 => ?_)
    · have dc4 := q3_1 c4
      exact Go_i (show 0 ≤ (t_seenMany) ∧ (t_seenMany) ≤ 20 ∧ 0 ≤ (t_lastTold) ∧ (t_lastTold) ≤ 999 ∧ (∀ k : Nat, (k : Int) < (t_seenMany) → 0 ≤ zget (t_sOne) k ∧ zget (t_sOne) k < t_corners) ∧ (∀ k : Nat, (k : Int) < (t_seenMany) → 0 ≤ zget (t_sTwo) k ∧ zget (t_sTwo) k < t_corners) from ⟨(by first | assumption | omega), (by first | assumption | omega), (by first | assumption | omega), (by first | assumption | omega), (by first | assumption | exact all_push (by assumption) (by omega) (by omega) (by omega) (by omega) (by omega)), (by first | assumption | exact all_push (by assumption) (by omega) (by omega) (by omega) (by omega) (by omega))⟩)
    · have dc4 := q3_0 (bnf c4)
      refine Go_bindP (ok_X11_isCorner t_corners i3 (by first | assumption | omega) (by first | assumption | omega) (by first | assumption | omega) (by first | assumption | omega)) (fun o3 q5 => ?_)
      obtain ⟨q5_0, q5_1⟩ := q5
      refine Go_ite (fun c6 => ?_) (fun c6 => ?_)
      · have dc6 := q5_1 c6
        exact Go_i (show 0 ≤ (t_seenMany) ∧ (t_seenMany) ≤ 20 ∧ 0 ≤ (t_lastTold) ∧ (t_lastTold) ≤ 999 ∧ (∀ k : Nat, (k : Int) < (t_seenMany) → 0 ≤ zget (t_sOne) k ∧ zget (t_sOne) k < t_corners) ∧ (∀ k : Nat, (k : Int) < (t_seenMany) → 0 ≤ zget (t_sTwo) k ∧ zget (t_sTwo) k < t_corners) from ⟨(by first | assumption | omega), (by first | assumption | omega), (by first | assumption | omega), (by first | assumption | omega), (by first | assumption | exact all_push (by assumption) (by omega) (by omega) (by omega) (by omega) (by omega)), (by first | assumption | exact all_push (by assumption) (by omega) (by omega) (by omega) (by omega) (by omega))⟩)
      · have dc6 := q5_0 (bnf c6)
        refine Go_chk (by unfold zout; omega) ?_
        refine Go_chk (by unfold zout; omega) ?_
        refine Go_ite (fun c7 => ?_) (fun c7 => ?_)
        · exact Go_i (show 0 ≤ (t_seenMany) ∧ (t_seenMany) ≤ 20 ∧ 0 ≤ (t_lastTold) ∧ (t_lastTold) ≤ 999 ∧ (∀ k : Nat, (k : Int) < (t_seenMany) → 0 ≤ zget (t_sOne) k ∧ zget (t_sOne) k < t_corners) ∧ (∀ k : Nat, (k : Int) < (t_seenMany) → 0 ≤ zget (t_sTwo) k ∧ zget (t_sTwo) k < t_corners) from ⟨(by first | assumption | omega), (by first | assumption | omega), (by first | assumption | omega), (by first | assumption | omega), (by first | assumption | exact all_push (by assumption) (by omega) (by omega) (by omega) (by omega) (by omega)), (by first | assumption | exact all_push (by assumption) (by omega) (by omega) (by omega) (by omega) (by omega))⟩)
        · refine Go_bindP (ok_X11_in i4 (0 : Int) (9999 : Int) (by first | assumption | omega) (by first | assumption | omega) (by first | assumption | omega) (by first | assumption | omega) (by first | assumption | omega) (by first | assumption | omega)) (fun o6 q8 => ?_)
          obtain ⟨q8_0, q8_1⟩ := q8
          refine Go_ite (fun c9 => ?_) (fun c9 => ?_)
          · have dc9 := q8_1 c9
            exact Go_i (show 0 ≤ (t_seenMany) ∧ (t_seenMany) ≤ 20 ∧ 0 ≤ (t_lastTold) ∧ (t_lastTold) ≤ 999 ∧ (∀ k : Nat, (k : Int) < (t_seenMany) → 0 ≤ zget (t_sOne) k ∧ zget (t_sOne) k < t_corners) ∧ (∀ k : Nat, (k : Int) < (t_seenMany) → 0 ≤ zget (t_sTwo) k ∧ zget (t_sTwo) k < t_corners) from ⟨(by first | assumption | omega), (by first | assumption | omega), (by first | assumption | omega), (by first | assumption | omega), (by first | assumption | exact all_push (by assumption) (by omega) (by omega) (by omega) (by omega) (by omega)), (by first | assumption | exact all_push (by assumption) (by omega) (by omega) (by omega) (by omega) (by omega))⟩)
          · have dc9 := q8_0 (bnf c9)
            refine Go_chk (by unfold zout; omega) ?_
            refine Go_ite (fun c10 => ?_) (fun c10 => ?_)
            · exact Go_i (show 0 ≤ (t_seenMany) ∧ (t_seenMany) ≤ 20 ∧ 0 ≤ (t_lastTold) ∧ (t_lastTold) ≤ 999 ∧ (∀ k : Nat, (k : Int) < (t_seenMany) → 0 ≤ zget (t_sOne) k ∧ zget (t_sOne) k < t_corners) ∧ (∀ k : Nat, (k : Int) < (t_seenMany) → 0 ≤ zget (t_sTwo) k ∧ zget (t_sTwo) k < t_corners) from ⟨(by first | assumption | omega), (by first | assumption | omega), (by first | assumption | omega), (by first | assumption | omega), (by first | assumption | exact all_push (by assumption) (by omega) (by omega) (by omega) (by omega) (by omega)), (by first | assumption | exact all_push (by assumption) (by omega) (by omega) (by omega) (by omega) (by omega))⟩)
            · refine Go_chk (by omega) ?_
              exact Go_i (show 0 ≤ ((t_seenMany + (1 : Int))) ∧ ((t_seenMany + (1 : Int))) ≤ 20 ∧ 0 ≤ (i1) ∧ (i1) ≤ 999 ∧ (∀ k : Nat, (k : Int) < ((t_seenMany + (1 : Int))) → 0 ≤ zget ((zset t_sOne (Int.toNat t_seenMany) i2)) k ∧ zget ((zset t_sOne (Int.toNat t_seenMany) i2)) k < t_corners) ∧ (∀ k : Nat, (k : Int) < ((t_seenMany + (1 : Int))) → 0 ≤ zget ((zset t_sTwo (Int.toNat t_seenMany) i3)) k ∧ zget ((zset t_sTwo (Int.toNat t_seenMany) i3)) k < t_corners) from ⟨(by first | assumption | omega), (by first | assumption | omega), (by first | assumption | omega), (by first | assumption | omega), (by first | assumption | exact all_push (by assumption) (by omega) (by omega) (by omega) (by omega) (by omega)), (by first | assumption | exact all_push (by assumption) (by omega) (by omega) (by omega) (by omega) (by omega))⟩)
end

section
def BR (B : Nat) : Prop := ∀ k : Nat, -128 ≤ zget B k ∧ zget B k ≤ 127
theorem BR_set {B : Nat} (h : BR B) (k : Nat) (v : Int) : BR (zset B k (zb v)) := by
  intro j
  rw [zget_set]
  by_cases e : j = k
  · rw [if_pos e]
    rw [zw_id (zb_in v)]
    unfold zb
    split <;> omega
  · rw [if_neg e]
    exact h j
def ap4 (B : Nat) (len v : Int) : Nat := (zset (zset (zset (zset B (Int.toNat len) (zb (zb (zshr v 24)))) (Int.toNat (len + 1)) (zb (zb (zshr v (24 + -8))))) (Int.toNat ((len + 1) + 1)) (zb (zb (zshr v ((24 + -8) + -8))))) (Int.toNat (((len + 1) + 1) + 1)) (zb (zb (zshr v (((24 + -8) + -8) + -8)))))
theorem ap_e (len v : Int) (B : Nat) (h0 : 0 ≤ len) (h1 : len + 4 ≤ 300) : zf_X8_append len B v = some (len + 1 + 1 + 1 + 1, ap4 B len v) := by
  have h : JE zg_X8_append (0, v, 0, len, B) (len + 1 + 1 + 1 + 1, ap4 B len v) := by
    refine JE_up (s' := (3, v, 24, len, B)) rfl ?_
    refine JE_up (s' := (3, v, (24 + -8), (len + 1), (zset B (Int.toNat len) (zb (zb (zshr v 24)))))) (by
      show zg_X8_append_3 v 24 len B = _
      unfold zg_X8_append_3
      rw [if_neg (by decide), if_neg (by decide), if_neg (by unfold zout; omega), if_neg (by omega), if_neg (by omega)]) ?_
    refine JE_up (s' := (3, v, ((24 + -8) + -8), ((len + 1) + 1), (zset (zset B (Int.toNat len) (zb (zb (zshr v 24)))) (Int.toNat (len + 1)) (zb (zb (zshr v (24 + -8))))))) (by
      show zg_X8_append_3 v (24 + -8) (len + 1) (zset B (Int.toNat len) (zb (zb (zshr v 24)))) = _
      unfold zg_X8_append_3
      rw [if_neg (by decide), if_neg (by decide), if_neg (by unfold zout; omega), if_neg (by omega), if_neg (by omega)]) ?_
    refine JE_up (s' := (3, v, (((24 + -8) + -8) + -8), (((len + 1) + 1) + 1), (zset (zset (zset B (Int.toNat len) (zb (zb (zshr v 24)))) (Int.toNat (len + 1)) (zb (zb (zshr v (24 + -8))))) (Int.toNat ((len + 1) + 1)) (zb (zb (zshr v ((24 + -8) + -8))))))) (by
      show zg_X8_append_3 v ((24 + -8) + -8) ((len + 1) + 1) (zset (zset B (Int.toNat len) (zb (zb (zshr v 24)))) (Int.toNat (len + 1)) (zb (zb (zshr v (24 + -8))))) = _
      unfold zg_X8_append_3
      rw [if_neg (by decide), if_neg (by decide), if_neg (by unfold zout; omega), if_neg (by omega), if_neg (by omega)]) ?_
    refine JE_up (s' := (3, v, ((((24 + -8) + -8) + -8) + -8), ((((len + 1) + 1) + 1) + 1), (zset (zset (zset (zset B (Int.toNat len) (zb (zb (zshr v 24)))) (Int.toNat (len + 1)) (zb (zb (zshr v (24 + -8))))) (Int.toNat ((len + 1) + 1)) (zb (zb (zshr v ((24 + -8) + -8))))) (Int.toNat (((len + 1) + 1) + 1)) (zb (zb (zshr v (((24 + -8) + -8) + -8))))))) (by
      show zg_X8_append_3 v (((24 + -8) + -8) + -8) (((len + 1) + 1) + 1) (zset (zset (zset B (Int.toNat len) (zb (zb (zshr v 24)))) (Int.toNat (len + 1)) (zb (zb (zshr v (24 + -8))))) (Int.toNat ((len + 1) + 1)) (zb (zb (zshr v ((24 + -8) + -8))))) = _
      unfold zg_X8_append_3
      rw [if_neg (by decide), if_neg (by decide), if_neg (by unfold zout; omega), if_neg (by omega), if_neg (by omega)]) ?_
    exact JE_in (by
      show zg_X8_append_3 v ((((24 + -8) + -8) + -8) + -8) ((((len + 1) + 1) + 1) + 1) (zset (zset (zset (zset B (Int.toNat len) (zb (zb (zshr v 24)))) (Int.toNat (len + 1)) (zb (zb (zshr v (24 + -8))))) (Int.toNat ((len + 1) + 1)) (zb (zb (zshr v ((24 + -8) + -8))))) (Int.toNat (((len + 1) + 1) + 1)) (zb (zb (zshr v (((24 + -8) + -8) + -8))))) = _
      unfold zg_X8_append_3
      rw [if_neg (by decide), if_pos (by decide)]
      rfl)
  obtain ⟨o, ho, -⟩ := ok_X8_append len B v h0 (by omega)
  have e := JE_det (JE_of ho) h
  rw [ho, e]
theorem ap_l (len : Int) : len + 1 + 1 + 1 + 1 = len + 4 := by omega
def ap20 (B : Nat) (len a b c d e : Int) : Nat := ap4 (ap4 (ap4 (ap4 (ap4 B len a) (len + 4) b) (len + 8) c) (len + 12) d) (len + 16) e
theorem feed_x (mk : Nat) (len : Int) (B : Nat) (a b c d e : Int) (h0 : 0 ≤ len) (h1 : len + 20 ≤ 300) : zf_X10_feed mk len B a b c d e = some (len + 20, len + 20, ap20 B len a b c d e) := by
  unfold zf_X10_feed
  have hr : zf_X8_hasRoomForTwenty len = some true := by
    unfold zf_X8_hasRoomForTwenty
    rw [if_neg (by unfold zout; omega)]
    first | rw [if_neg (by omega)] | rw [if_pos (by omega)]
  rw [hr]
  simp only [Option.bind_some]
  rw [if_neg (by decide), ap_e len a B h0 (by omega), ap_l]
  simp only [Option.bind_some]
  rw [ap_e (len + 4) b _ (by omega) (by omega), ap_l]
  simp only [Option.bind_some]
  rw [ap_e (len + 4 + 4) c _ (by omega) (by omega), ap_l]
  simp only [Option.bind_some]
  rw [ap_e (len + 4 + 4 + 4) d _ (by omega) (by omega), ap_l]
  simp only [Option.bind_some]
  rw [ap_e (len + 4 + 4 + 4 + 4) e _ (by omega) (by omega), ap_l]
  simp only [Option.bind_some]
  unfold zf_X8_size
  simp only [Option.bind_some]
  unfold ap20
  rw [show len + 4 + 4 = len + 8 by omega, show len + 8 + 4 = len + 12 by omega, show len + 12 + 4 = len + 16 by omega, show len + 16 + 4 = len + 20 by omega]
theorem feed_x0 (mk : Nat) (len : Int) (B : Nat) (a b c d e : Int) (h0 : 0 ≤ len) (h9 : len ≤ 300) (h1 : ¬ len + 20 ≤ 300) : zf_X10_feed mk len B a b c d e = some (-3, len, B) := by
  unfold zf_X10_feed
  have hr : zf_X8_hasRoomForTwenty len = some false := by
    unfold zf_X8_hasRoomForTwenty
    rw [if_neg (by unfold zout; omega)]
    first | rw [if_pos (by omega)] | rw [if_neg (by omega)]
  rw [hr]
  simp only [Option.bind_some]
  rw [if_pos trivial]
theorem fd_e (a b c d e i6 i7 i8 v len : Int) (B : Nat) (k : Int) (h0 : 0 ≤ len) (h1 : len + 4 ≤ 300) (o : zO_X11_feed) (h : JE zg_X11_feed (73, a, b, c, d, e, i6, v, 24, len, B) o) : JE zg_X11_feed (19, a, b, c, d, e, i6 + 1, v, 24 + -8 + -8 + -8 + -8, len + 4, ap4 B len v) o := by
  replace h := JE_dn (s' := (73, a, b, c, d, e, i6, v, (24 + -8), (len + 1), (zset B (Int.toNat len) (zb (zb (zshr v 24)))))) (by
    show zg_X11_feed_73 a b c d e i6 v 24 len B = _
    unfold zg_X11_feed_73
    rw [if_neg (by decide), if_neg (by decide), if_neg (by omega)]) h
  replace h := JE_dn (s' := (73, a, b, c, d, e, i6, v, ((24 + -8) + -8), ((len + 1) + 1), (zset (zset B (Int.toNat len) (zb (zb (zshr v 24)))) (Int.toNat (len + 1)) (zb (zb (zshr v (24 + -8))))))) (by
    show zg_X11_feed_73 a b c d e i6 v (24 + -8) (len + 1) (zset B (Int.toNat len) (zb (zb (zshr v 24)))) = _
    unfold zg_X11_feed_73
    rw [if_neg (by decide), if_neg (by decide), if_neg (by omega)]) h
  replace h := JE_dn (s' := (73, a, b, c, d, e, i6, v, (((24 + -8) + -8) + -8), (((len + 1) + 1) + 1), (zset (zset (zset B (Int.toNat len) (zb (zb (zshr v 24)))) (Int.toNat (len + 1)) (zb (zb (zshr v (24 + -8))))) (Int.toNat ((len + 1) + 1)) (zb (zb (zshr v ((24 + -8) + -8))))))) (by
    show zg_X11_feed_73 a b c d e i6 v ((24 + -8) + -8) ((len + 1) + 1) (zset (zset B (Int.toNat len) (zb (zb (zshr v 24)))) (Int.toNat (len + 1)) (zb (zb (zshr v (24 + -8))))) = _
    unfold zg_X11_feed_73
    rw [if_neg (by decide), if_neg (by decide), if_neg (by omega)]) h
  replace h := JE_dn (s' := (73, a, b, c, d, e, i6, v, ((((24 + -8) + -8) + -8) + -8), ((((len + 1) + 1) + 1) + 1), (zset (zset (zset (zset B (Int.toNat len) (zb (zb (zshr v 24)))) (Int.toNat (len + 1)) (zb (zb (zshr v (24 + -8))))) (Int.toNat ((len + 1) + 1)) (zb (zb (zshr v ((24 + -8) + -8))))) (Int.toNat (((len + 1) + 1) + 1)) (zb (zb (zshr v (((24 + -8) + -8) + -8))))))) (by
    show zg_X11_feed_73 a b c d e i6 v (((24 + -8) + -8) + -8) (((len + 1) + 1) + 1) (zset (zset (zset B (Int.toNat len) (zb (zb (zshr v 24)))) (Int.toNat (len + 1)) (zb (zb (zshr v (24 + -8))))) (Int.toNat ((len + 1) + 1)) (zb (zb (zshr v ((24 + -8) + -8))))) = _
    unfold zg_X11_feed_73
    rw [if_neg (by decide), if_neg (by decide), if_neg (by omega)]) h
  replace h := JE_dn (s' := (19, a, b, c, d, e, i6 + 1, v, ((((24 + -8) + -8) + -8) + -8), ((((len + 1) + 1) + 1) + 1), (zset (zset (zset (zset B (Int.toNat len) (zb (zb (zshr v 24)))) (Int.toNat (len + 1)) (zb (zb (zshr v (24 + -8))))) (Int.toNat ((len + 1) + 1)) (zb (zb (zshr v ((24 + -8) + -8))))) (Int.toNat (((len + 1) + 1) + 1)) (zb (zb (zshr v (((24 + -8) + -8) + -8))))))) (by
    show zg_X11_feed_73 a b c d e i6 v ((((24 + -8) + -8) + -8) + -8) ((((len + 1) + 1) + 1) + 1) (zset (zset (zset (zset B (Int.toNat len) (zb (zb (zshr v 24)))) (Int.toNat (len + 1)) (zb (zb (zshr v (24 + -8))))) (Int.toNat ((len + 1) + 1)) (zb (zb (zshr v ((24 + -8) + -8))))) (Int.toNat (((len + 1) + 1) + 1)) (zb (zb (zshr v (((24 + -8) + -8) + -8))))) = _
    unfold zg_X11_feed_73
    rw [if_neg (by decide), if_pos (by decide)]) h
  rw [show ((((len + 1) + 1) + 1) + 1 : Int) = len + 4 by omega] at h
  exact h
theorem feed_y (len : Int) (B : Nat) (a b c d e : Int) (h0 : 0 ≤ len) (h1 : len + 20 ≤ 300) (o : zO_X11_feed) (ho : zf_X11_feed len B a b c d e = some o) : o = (len + 20, len + 20, ap20 B len a b c d e) := by
  have h := JE_of ho
  replace h := JE_dn (s' := (19, a, b, c, d, e, 0, 0, 0, len, B)) (by
    show zg_X11_feed_0 a b c d e 0 0 0 len B = _
    unfold zg_X11_feed_0
    rw [if_neg (by unfold zout; omega), if_pos (by omega)]) h
  replace h := JE_dn (s' := (73, a, b, c, d, e, 0, a, 24, len, B)) (by
    show zg_X11_feed_19 a b c d e 0 0 0 len B = _
    unfold zg_X11_feed_19
    rw [if_neg (by decide), if_neg (by decide), if_pos (by decide)]) h
  replace h := fd_e a b c d e 0 0 0 a len B 0 (by omega) (by omega) o h
  replace h := JE_dn (s' := (73, a, b, c, d, e, (0 + 1), b, 24, (len + 4), (ap4 B len a))) (by
    show zg_X11_feed_19 a b c d e (0 + 1) a (24 + -8 + -8 + -8 + -8) (len + 4) (ap4 B len a) = _
    unfold zg_X11_feed_19
    rw [if_neg (by decide), if_neg (by decide), if_neg (by decide), if_pos (by decide)]) h
  replace h := fd_e a b c d e (0 + 1) a (24 + -8 + -8 + -8 + -8) b (len + 4) (ap4 B len a) 0 (by omega) (by omega) o h
  rw [show (len + 4 + 4 : Int) = len + 8 by omega] at h
  replace h := JE_dn (s' := (73, a, b, c, d, e, ((0 + 1) + 1), c, 24, (len + 8), (ap4 (ap4 B len a) (len + 4) b))) (by
    show zg_X11_feed_19 a b c d e ((0 + 1) + 1) b (24 + -8 + -8 + -8 + -8) (len + 8) (ap4 (ap4 B len a) (len + 4) b) = _
    unfold zg_X11_feed_19
    rw [if_neg (by decide), if_neg (by decide), if_neg (by decide), if_neg (by decide), if_pos (by decide)]) h
  replace h := fd_e a b c d e ((0 + 1) + 1) b (24 + -8 + -8 + -8 + -8) c (len + 8) (ap4 (ap4 B len a) (len + 4) b) 0 (by omega) (by omega) o h
  rw [show (len + 8 + 4 : Int) = len + 12 by omega] at h
  replace h := JE_dn (s' := (73, a, b, c, d, e, (((0 + 1) + 1) + 1), d, 24, (len + 12), (ap4 (ap4 (ap4 B len a) (len + 4) b) (len + 8) c))) (by
    show zg_X11_feed_19 a b c d e (((0 + 1) + 1) + 1) c (24 + -8 + -8 + -8 + -8) (len + 12) (ap4 (ap4 (ap4 B len a) (len + 4) b) (len + 8) c) = _
    unfold zg_X11_feed_19
    rw [if_neg (by decide), if_neg (by decide), if_neg (by decide), if_neg (by decide), if_neg (by decide), if_pos (by decide)]) h
  replace h := fd_e a b c d e (((0 + 1) + 1) + 1) c (24 + -8 + -8 + -8 + -8) d (len + 12) (ap4 (ap4 (ap4 B len a) (len + 4) b) (len + 8) c) 0 (by omega) (by omega) o h
  rw [show (len + 12 + 4 : Int) = len + 16 by omega] at h
  replace h := JE_dn (s' := (73, a, b, c, d, e, ((((0 + 1) + 1) + 1) + 1), e, 24, (len + 16), (ap4 (ap4 (ap4 (ap4 B len a) (len + 4) b) (len + 8) c) (len + 12) d))) (by
    show zg_X11_feed_19 a b c d e ((((0 + 1) + 1) + 1) + 1) d (24 + -8 + -8 + -8 + -8) (len + 16) (ap4 (ap4 (ap4 (ap4 B len a) (len + 4) b) (len + 8) c) (len + 12) d) = _
    unfold zg_X11_feed_19
    rw [if_neg (by decide), if_neg (by decide), if_neg (by decide), if_neg (by decide), if_neg (by decide), if_neg (by decide)]) h
  replace h := fd_e a b c d e ((((0 + 1) + 1) + 1) + 1) d (24 + -8 + -8 + -8 + -8) e (len + 16) (ap4 (ap4 (ap4 (ap4 B len a) (len + 4) b) (len + 8) c) (len + 12) d) 0 (by omega) (by omega) o h
  rw [show (len + 16 + 4 : Int) = len + 20 by omega] at h
  exact JE_end (by
    show zg_X11_feed_19 a b c d e (((((0 + 1) + 1) + 1) + 1) + 1) e (24 + -8 + -8 + -8 + -8) (len + 20) (ap4 (ap4 (ap4 (ap4 (ap4 B len a) (len + 4) b) (len + 8) c) (len + 12) d) (len + 16) e) = _
    unfold zg_X11_feed_19
    rw [if_neg (by decide), if_pos (by decide)]
    rfl) h
theorem feed_y0 (len : Int) (B : Nat) (a b c d e : Int) (h0 : 0 ≤ len) (h9 : len ≤ 300) (h1 : ¬ len + 20 ≤ 300) (o : zO_X11_feed) (ho : zf_X11_feed len B a b c d e = some o) : o = (-3, len, B) := by
  have h := JE_of ho
  exact JE_end (by
    show zg_X11_feed_0 a b c d e 0 0 0 len B = _
    unfold zg_X11_feed_0
    rw [if_neg (by unfold zout; omega), if_neg (by omega)]) h
theorem BR_ap4 {B : Nat} (h : BR B) (len v : Int) : BR (ap4 B len v) := BR_set (BR_set (BR_set (BR_set h _ _) _ _) _ _) _ _
/-- feed: the same answer, the same tape -/
theorem eq_feed (mk : Nat) (len : Int) (B : Nat) (a b c d e : Int) (h0 : 0 ≤ len) (h9 : len ≤ 300) (hB : BR B) {o o2 : Int × Int × Nat} (ho : zf_X10_feed mk len B a b c d e = some o) (ho2 : zf_X11_feed len B a b c d e = some o2) : o = o2 ∧ BR o.2.2 := by
  by_cases h1 : len + 20 ≤ 300
  · rw [feed_x mk len B a b c d e h0 h1] at ho
    have := feed_y len B a b c d e h0 h1 o2 ho2
    subst this
    cases ho
    exact ⟨rfl, BR_ap4 (BR_ap4 (BR_ap4 (BR_ap4 (BR_ap4 hB _ _) _ _) _ _) _ _) _ _⟩
  · rw [feed_x0 mk len B a b c d e h0 h9 h1] at ho
    have := feed_y0 len B a b c d e h0 h9 h1 o2 ho2
    subst this
    cases ho
    exact ⟨rfl, hB⟩
end
