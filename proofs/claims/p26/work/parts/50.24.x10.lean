set_option maxRecDepth 20000 in
theorem ok_X1_faultKind (mk : Nat) (t_faultKind : Int)  : Go (fun o => (o) = t_faultKind) (zf_X1_faultKind mk t_faultKind) := by
  unfold zf_X1_faultKind
  exact Go_i (show (t_faultKind) = t_faultKind from (by first | assumption | omega))
set_option maxRecDepth 20000 in
theorem ok_X1_faultPlace (mk : Nat) (t_faultPlace : Int)  : Go (fun o => (o) = t_faultPlace) (zf_X1_faultPlace mk t_faultPlace) := by
  unfold zf_X1_faultPlace
  exact Go_i (show (t_faultPlace) = t_faultPlace from (by first | assumption | omega))
set_option maxRecDepth 20000 in
theorem ok_X1_bits (mk : Nat) (t_bits : Int)  : Go (fun o => (o) = t_bits) (zf_X1_bits mk t_bits) := by
  unfold zf_X1_bits
  exact Go_i (show (t_bits) = t_bits from (by first | assumption | omega))
set_option maxRecDepth 20000 in
theorem ok_X10_feed (mk : Nat) (tape_length : Int) (tape_bytes : Nat) (i1 : Int) (i2 : Int) (i3 : Int) (i4 : Int) (i5 : Int) (p0 : 0 ≤ tape_length) (p1 : tape_length ≤ 300) : Go (fun o => 0 ≤ (o.2.1) ∧ (o.2.1) ≤ 300 ∧ (tape_length ≤ 280 → (o.2.1) = tape_length + 20 ∧ (o.1) = (o.2.1)) ∧ (280 < tape_length → (o.2.1) = tape_length ∧ (o.1) = -3)) (zf_X10_feed mk tape_length tape_bytes i1 i2 i3 i4 i5) := by
  unfold zf_X10_feed
  refine Go_bindP (ok_X8_hasRoomForTwenty tape_length (by first | assumption | omega) (by first | assumption | omega)) (fun o1 q1 => ?_)
  obtain ⟨q1_0, q1_1⟩ := q1
  refine Go_ite (fun c2 => ?_) (fun c2 => ?_)
  · have dc2 := q1_1 c2
    exact Go_i (show 0 ≤ (tape_length) ∧ (tape_length) ≤ 300 ∧ (tape_length ≤ 280 → (tape_length) = tape_length + 20 ∧ ((-3 : Int)) = (tape_length)) ∧ (280 < tape_length → (tape_length) = tape_length ∧ ((-3 : Int)) = -3) from ⟨(by first | assumption | omega), (by first | assumption | omega), (by intro h; first | exact True.intro | omega | (exact absurd h (by decide)) | (refine ⟨?_, ?_⟩ <;> omega)), (by intro h; first | exact True.intro | omega | (exact absurd h (by decide)) | (refine ⟨?_, ?_⟩ <;> omega))⟩)
  · have dc2 := q1_0 (bnf c2)
    refine Go_bindP (ok_X8_append tape_length tape_bytes i1 (by first | assumption | omega) (by first | assumption | omega)) (fun o2 q3 => ?_)
    obtain ⟨q3_0, q3_1, q3_2, q3_3⟩ := q3
    refine Go_bindP (ok_X8_append (o2.1) (o2.2) i2 (by first | assumption | omega) (by first | assumption | omega)) (fun o3 q4 => ?_)
    obtain ⟨q4_0, q4_1, q4_2, q4_3⟩ := q4
    refine Go_bindP (ok_X8_append (o3.1) (o3.2) i3 (by first | assumption | omega) (by first | assumption | omega)) (fun o4 q5 => ?_)
    obtain ⟨q5_0, q5_1, q5_2, q5_3⟩ := q5
    refine Go_bindP (ok_X8_append (o4.1) (o4.2) i4 (by first | assumption | omega) (by first | assumption | omega)) (fun o5 q6 => ?_)
    obtain ⟨q6_0, q6_1, q6_2, q6_3⟩ := q6
    refine Go_bindP (ok_X8_append (o5.1) (o5.2) i5 (by first | assumption | omega) (by first | assumption | omega)) (fun o6 q7 => ?_)
    obtain ⟨q7_0, q7_1, q7_2, q7_3⟩ := q7
    refine Go_bindP (ok_X8_size (o6.1) ) (fun o7 q8 => ?_)
    exact Go_i (show 0 ≤ ((o6.1)) ∧ ((o6.1)) ≤ 300 ∧ (tape_length ≤ 280 → ((o6.1)) = tape_length + 20 ∧ (o7) = ((o6.1))) ∧ (280 < tape_length → ((o6.1)) = tape_length ∧ (o7) = -3) from ⟨(by first | assumption | omega), (by first | assumption | omega), (by intro h; first | exact True.intro | omega | (exact absurd h (by decide)) | (refine ⟨?_, ?_⟩ <;> omega)), (by intro h; first | exact True.intro | omega | (exact absurd h (by decide)) | (refine ⟨?_, ?_⟩ <;> omega))⟩)
set_option maxRecDepth 20000 in
theorem ok_X10_end (mk : Nat) (tape_length : Int) (i1 : Int) (p0 : 0 ≤ tape_length) (p1 : tape_length ≤ 300) (p2 : -2147483648 ≤ i1) (p3 : i1 ≤ 2147483647) : Go (fun o => 0 ≤ (o.2) ∧ (o.2) ≤ 300 ∧ ((0 ≤ i1 ∧ i1 ≤ tape_length) → (o.2) = i1 ∧ (o.1) = i1) ∧ (¬ (0 ≤ i1 ∧ i1 ≤ tape_length) → (o.2) = tape_length ∧ (o.1) = -1)) (zf_X10_end mk tape_length i1) := by
  unfold zf_X10_end
  refine Go_chk (by unfold zout; omega) ?_
  refine Go_ite (fun c1 => ?_) (fun c1 => ?_)
  · exact Go_i (show 0 ≤ (tape_length) ∧ (tape_length) ≤ 300 ∧ ((0 ≤ i1 ∧ i1 ≤ tape_length) → (tape_length) = i1 ∧ ((-1 : Int)) = i1) ∧ (¬ (0 ≤ i1 ∧ i1 ≤ tape_length) → (tape_length) = tape_length ∧ ((-1 : Int)) = -1) from ⟨(by first | assumption | omega), (by first | assumption | omega), (by intro h; first | exact True.intro | omega | (exact absurd h (by decide)) | (refine ⟨?_, ?_⟩ <;> omega)), (by intro h; first | exact True.intro | omega | (exact absurd h (by decide)) | (refine ⟨?_, ?_⟩ <;> omega))⟩)
  · refine Go_bindP (ok_X8_size tape_length ) (fun o2 q2 => ?_)
    refine Go_chk (by unfold zout; omega) ?_
    refine Go_ite (fun c3 => ?_) (fun c3 => ?_)
    · refine Go_bindP (ok_X8_shorten tape_length i1 (by first | assumption | omega) (by first | assumption | omega) (by first | assumption | omega) (by first | assumption | omega)) (fun o4 q4 => ?_)
      obtain ⟨q4_0, q4_1, q4_2⟩ := q4
      exact Go_i (show 0 ≤ (o4) ∧ (o4) ≤ 300 ∧ ((0 ≤ i1 ∧ i1 ≤ tape_length) → (o4) = i1 ∧ (i1) = i1) ∧ (¬ (0 ≤ i1 ∧ i1 ≤ tape_length) → (o4) = tape_length ∧ (i1) = -1) from ⟨(by first | assumption | omega), (by first | assumption | omega), (by intro h; first | exact True.intro | omega | (exact absurd h (by decide)) | (refine ⟨?_, ?_⟩ <;> omega)), (by intro h; first | exact True.intro | omega | (exact absurd h (by decide)) | (refine ⟨?_, ?_⟩ <;> omega))⟩)
    · exact Go_i (show 0 ≤ (tape_length) ∧ (tape_length) ≤ 300 ∧ ((0 ≤ i1 ∧ i1 ≤ tape_length) → (tape_length) = i1 ∧ ((-1 : Int)) = i1) ∧ (¬ (0 ≤ i1 ∧ i1 ≤ tape_length) → (tape_length) = tape_length ∧ ((-1 : Int)) = -1) from ⟨(by first | assumption | omega), (by first | assumption | omega), (by intro h; first | exact True.intro | omega | (exact absurd h (by decide)) | (refine ⟨?_, ?_⟩ <;> omega)), (by intro h; first | exact True.intro | omega | (exact absurd h (by decide)) | (refine ⟨?_, ?_⟩ <;> omega))⟩)
set_option maxRecDepth 20000 in
theorem ok_X10_become (mk : Nat) (t_polygon : Nat) (t_bits : Int) (sightings_size : Int) (sightings_rights : Int) (sightings_latest : Int) (n1 : Nat) (i2 : Int) (p0 : ¬ zno mk n1) (p1 : ¬ zno mk t_polygon) : Go (fun o => (o.1) = n1 ∧ (o.2.1) = i2 ∧ (n1 = t_polygon → (o.2.2.1) = sightings_size ∧ (o.2.2.2.1) = sightings_rights ∧ (o.2.2.2.2) = sightings_latest) ∧ (¬ n1 = t_polygon → (o.2.2.1) = 0 ∧ (o.2.2.2.1) = 0 ∧ (o.2.2.2.2) = 0)) (zf_X10_become mk t_polygon t_bits sightings_size sightings_rights sightings_latest n1 i2) := by
  unfold zf_X10_become
  have grn1 := zno_rng p0
  have g7n1 := rpg7 (n := n1) (by omega) (by omega)
  have g8n1 := rpg8 (n := n1) (by omega) (by omega)
  have grt_polygon := zno_rng p1
  have g7t_polygon := rpg7 (n := t_polygon) (by omega) (by omega)
  have g8t_polygon := rpg8 (n := t_polygon) (by omega) (by omega)
  refine Go_chk (by assumption) ?_
  refine Go_bindP (ok_X5_corners n1 ) (fun o2 q1 => ?_)
  refine Go_chk (by assumption) ?_
  refine Go_bindP (ok_X5_corners t_polygon ) (fun o4 q2 => ?_)
  refine Go_chk (by unfold zout; omega) ?_
  refine Go_chk (by unfold zout; omega) ?_
  refine Go_ite (fun c3 => ?_) (fun c3 => ?_)
  · exact Go_i (show (n1) = n1 ∧ (i2) = i2 ∧ (n1 = t_polygon → (sightings_size) = sightings_size ∧ (sightings_rights) = sightings_rights ∧ (sightings_latest) = sightings_latest) ∧ (¬ n1 = t_polygon → (sightings_size) = 0 ∧ (sightings_rights) = 0 ∧ (sightings_latest) = 0) from ⟨(by first | assumption | omega), (by first | assumption | omega), (by intro h; first | exact True.intro | omega | (exact absurd h (by decide)) | (refine ⟨?_, ?_⟩ <;> omega)), (by intro h; first | exact True.intro | omega | (exact absurd h (by decide)) | (refine ⟨?_, ?_⟩ <;> omega))⟩)
  · refine Go_bindP (ok_X7_forget sightings_size sightings_rights sightings_latest ) (fun o7 q4 => ?_)
    obtain ⟨q4_0, q4_1, q4_2⟩ := q4
    exact Go_i (show (n1) = n1 ∧ (i2) = i2 ∧ (n1 = t_polygon → ((o7.1)) = sightings_size ∧ ((o7.2.1)) = sightings_rights ∧ ((o7.2.2)) = sightings_latest) ∧ (¬ n1 = t_polygon → ((o7.1)) = 0 ∧ ((o7.2.1)) = 0 ∧ ((o7.2.2)) = 0) from ⟨(by first | assumption | omega), (by first | assumption | omega), (by intro h; first | exact True.intro | omega | (exact absurd h (by decide)) | (refine ⟨?_, ?_⟩ <;> omega)), (by intro h; first | exact True.intro | omega | (exact absurd h (by decide)) | (refine ⟨?_, ?_⟩ <;> omega))⟩)
set_option maxRecDepth 20000 in
theorem ok_X10_fault (mk : Nat) (text_faultKind : Int) (text_faultPlace : Int) (i1 : Int) (p0 : -2147483648 ≤ i1) (p1 : i1 ≤ 2147483647) : Go (fun o => True) (zf_X10_fault mk text_faultKind text_faultPlace i1) := by
  unfold zf_X10_fault
  refine Go_chk (by unfold zout; omega) ?_
  refine Go_ite (fun c1 => ?_) (fun c1 => ?_)
  · refine Go_bindP (ok_X1_faultKind mk text_faultKind ) (fun o4 q2 => ?_)
    exact Go_i (show True from trivial)
  · refine Go_ite (fun c3 => ?_) (fun c3 => ?_)
    · refine Go_bindP (ok_X1_faultPlace mk text_faultPlace ) (fun o2 q4 => ?_)
      exact Go_i (show True from trivial)
    · exact Go_i (show True from trivial)
set_option maxRecDepth 20000 in
theorem ok_X10_told (mk : Nat) (t_polygon : Nat) (t_bits : Int) (endless_size : Int) (i1 : Int) (p0 : ¬ zno mk t_polygon) (p1 : -2147483648 ≤ t_bits) (p2 : t_bits ≤ 2147483647) (p3 : -2147483648 ≤ i1) (p4 : i1 ≤ 2147483647) : Go (fun o => True) (zf_X10_told mk t_polygon t_bits endless_size i1) := by
  unfold zf_X10_told
  have grt_polygon := zno_rng p0
  have g7t_polygon := rpg7 (n := t_polygon) (by omega) (by omega)
  have g8t_polygon := rpg8 (n := t_polygon) (by omega) (by omega)
  refine Go_chk (by unfold zout; omega) ?_
  refine Go_ite (fun c1 => ?_) (fun c1 => ?_)
  · refine Go_chk (by assumption) ?_
    refine Go_bindP (ok_X5_corners t_polygon ) (fun o4 q2 => ?_)
    exact Go_i (show True from trivial)
  · refine Go_ite (fun c3 => ?_) (fun c3 => ?_)
    · refine Go_chk (by assumption) ?_
      refine Go_bindP (ok_X5_numberOf t_polygon t_bits (by first | assumption | omega) (by first | assumption | omega) (by first | assumption | omega) (by first | assumption | omega)) (fun o7 q4 => ?_)
      obtain ⟨q4_0, q4_1⟩ := q4
      exact Go_i (show True from trivial)
    · refine Go_ite (fun c5 => ?_) (fun c5 => ?_)
      · refine Go_chk (by assumption) ?_
        refine Go_bindP (ok_X5_cutCount t_polygon (by first | assumption | omega) (by first | assumption | omega)) (fun o10 q6 => ?_)
        obtain ⟨q6_0, q6_1, q6_2⟩ := q6
        exact Go_i (show True from trivial)
      · refine Go_ite (fun c7 => ?_) (fun c7 => ?_)
        · refine Go_bindP (ok_X2_size endless_size ) (fun o12 q8 => ?_)
          exact Go_i (show True from trivial)
        · exact Go_i (show True from trivial)
set_option maxRecDepth 20000 in
theorem ok_X10_triangle (mk : Nat) (t_polygon : Nat) (t_bits : Int) (triangles_count : Int) (triangles_cornersOf : Nat) (i1 : Int) (i2 : Int) (p0 : ¬ zno mk t_polygon) (p1 : -2147483648 ≤ i1) (p2 : i1 ≤ 2147483647) (p3 : -2147483648 ≤ i2) (p4 : i2 ≤ 2147483647) (p5 : 0 ≤ triangles_count) (p6 : triangles_count ≤ 7) : Go (fun o => 0 ≤ (o.2.1) ∧ (o.2.1) ≤ 7) (zf_X10_triangle mk t_polygon t_bits triangles_count triangles_cornersOf i1 i2) := by
  unfold zf_X10_triangle
  have grt_polygon := zno_rng p0
  have g7t_polygon := rpg7 (n := t_polygon) (by omega) (by omega)
  have g8t_polygon := rpg8 (n := t_polygon) (by omega) (by omega)
  refine Go_chk (by unfold zout; omega) ?_
  refine Go_ite (fun c1 => ?_) (fun c1 => ?_)
  · exact Go_i (show 0 ≤ (triangles_count) ∧ (triangles_count) ≤ 7 from ⟨(by first | assumption | omega), (by first | assumption | omega)⟩)
  · refine Go_chk (by assumption) ?_
    refine Go_bindP (ok_X5_corners t_polygon ) (fun o3 q2 => ?_)
    refine Go_chk (by unfold zout; omega) ?_
    refine Go_ite (fun c3 => ?_) (fun c3 => ?_)
    · exact Go_i (show 0 ≤ (triangles_count) ∧ (triangles_count) ≤ 7 from ⟨(by first | assumption | omega), (by first | assumption | omega)⟩)
    · refine Go_chk (by unfold zout; omega) ?_
      refine Go_ite (fun c4 => ?_) (fun c4 => ?_)
      · exact Go_i (show 0 ≤ (triangles_count) ∧ (triangles_count) ≤ 7 from ⟨(by first | assumption | omega), (by first | assumption | omega)⟩)
      · refine Go_ite (fun c5 => ?_) (fun c5 => ?_)
        · refine Go_bindP (ok_X9_gather mk triangles_count triangles_cornersOf t_polygon t_bits (by first | assumption | omega)) (fun o6 q6 => ?_)
          obtain ⟨q6_0, q6_1⟩ := q6
          refine Go_bindP (ok_X9_cornerOf mk (o6.1) (o6.2) i1 i2 (by first | assumption | omega) (by first | assumption | omega) (by first | assumption | omega) (by first | assumption | omega) (by first | assumption | omega) (by first | assumption | omega)) (fun o7 q7 => ?_)
          obtain ⟨q7_0, q7_1⟩ := q7
          exact Go_i (show 0 ≤ ((o6.1)) ∧ ((o6.1)) ≤ 7 from ⟨(by first | assumption | omega), (by first | assumption | omega)⟩)
        · exact Go_i (show 0 ≤ (triangles_count) ∧ (triangles_count) ≤ 7 from ⟨(by first | assumption | omega), (by first | assumption | omega)⟩)
set_option maxRecDepth 20000 in
theorem ok_X10_areCorners (mk : Nat) (t_polygon : Nat) (i1 : Int) (i2 : Int) (p0 : ¬ zno mk t_polygon) (p1 : -2147483648 ≤ i1) (p2 : i1 ≤ 2147483647) (p3 : -2147483648 ≤ i2) (p4 : i2 ≤ 2147483647) : Go (fun o => ((o) = true → 0 ≤ i1 ∧ i1 < (t_polygon : Int) ∧ 0 ≤ i2 ∧ i2 < (t_polygon : Int)) ∧ ((o) = false → ¬ (0 ≤ i1 ∧ i1 < (t_polygon : Int) ∧ 0 ≤ i2 ∧ i2 < (t_polygon : Int)))) (zf_X10_areCorners mk t_polygon i1 i2) := by
  unfold zf_X10_areCorners
  have grt_polygon := zno_rng p0
  have g7t_polygon := rpg7 (n := t_polygon) (by omega) (by omega)
  have g8t_polygon := rpg8 (n := t_polygon) (by omega) (by omega)
  refine Go_chk (by assumption) ?_
  refine Go_bindP (ok_X5_hasCorner t_polygon i1 (by first | assumption | omega) (by first | assumption | omega) (by first | assumption | omega) (by first | assumption | omega)) (fun o2 q1 => ?_)
  obtain ⟨q1_0, q1_1⟩ := q1
  refine Go_ite (fun c2 => ?_) (fun c2 => ?_)
  · have dc2 := q1_1 c2
    exact Go_i (show ((false) = true → 0 ≤ i1 ∧ i1 < (t_polygon : Int) ∧ 0 ≤ i2 ∧ i2 < (t_polygon : Int)) ∧ ((false) = false → ¬ (0 ≤ i1 ∧ i1 < (t_polygon : Int) ∧ 0 ≤ i2 ∧ i2 < (t_polygon : Int))) from ⟨(by intro h; first | exact True.intro | omega | (exact absurd h (by decide))), (by intro h; first | exact True.intro | omega | (exact absurd h (by decide)))⟩)
  · have dc2 := q1_0 (bnf c2)
    refine Go_bindP (ok_X5_hasCorner t_polygon i2 (by first | assumption | omega) (by first | assumption | omega) (by first | assumption | omega) (by first | assumption | omega)) (fun o3 q3 => ?_)
    obtain ⟨q3_0, q3_1⟩ := q3
    refine Go_ite (fun c4 => ?_) (fun c4 => ?_)
    · have dc4 := q3_1 c4
      exact Go_i (show ((false) = true → 0 ≤ i1 ∧ i1 < (t_polygon : Int) ∧ 0 ≤ i2 ∧ i2 < (t_polygon : Int)) ∧ ((false) = false → ¬ (0 ≤ i1 ∧ i1 < (t_polygon : Int) ∧ 0 ≤ i2 ∧ i2 < (t_polygon : Int))) from ⟨(by intro h; first | exact True.intro | omega | (exact absurd h (by decide))), (by intro h; first | exact True.intro | omega | (exact absurd h (by decide)))⟩)
    · have dc4 := q3_0 (bnf c4)
      exact Go_i (show ((true) = true → 0 ≤ i1 ∧ i1 < (t_polygon : Int) ∧ 0 ≤ i2 ∧ i2 < (t_polygon : Int)) ∧ ((true) = false → ¬ (0 ≤ i1 ∧ i1 < (t_polygon : Int) ∧ 0 ≤ i2 ∧ i2 < (t_polygon : Int))) from ⟨(by intro h; first | exact True.intro | omega | (exact absurd h (by decide))), (by intro h; first | exact True.intro | omega | (exact absurd h (by decide)))⟩)
set_option maxRecDepth 20000 in
theorem ok_X10_entry (mk : Nat) (t_polygon : Nat) (t_bits : Int) (i1 : Int) (i2 : Int) (p0 : ¬ zno mk t_polygon) (p1 : isCut t_polygon t_bits) (p2 : -2147483648 ≤ i1) (p3 : i1 ≤ 2147483647) (p4 : -2147483648 ≤ i2) (p5 : i2 ≤ 2147483647) : Go (fun o => True) (zf_X10_entry mk t_polygon t_bits i1 i2) := by
  unfold zf_X10_entry
  have grt_polygon := zno_rng p0
  have g7t_polygon := rpg7 (n := t_polygon) (by omega) (by omega)
  have g8t_polygon := rpg8 (n := t_polygon) (by omega) (by omega)
  refine Go_bindP (ok_X10_areCorners mk t_polygon i1 i2 (by first | assumption | omega) (by first | assumption | omega) (by first | assumption | omega) (by first | assumption | omega) (by first | assumption | omega)) (fun o1 q1 => ?_)
  obtain ⟨q1_0, q1_1⟩ := q1
  refine Go_ite (fun c2 => ?_) (fun c2 => ?_)
  · have dc2 := q1_1 c2
    exact Go_i (show True from trivial)
  · have dc2 := q1_0 (bnf c2)
    refine Go_chk (by assumption) ?_
    refine Go_bindP (ok_X5_entryOf t_polygon t_bits i1 i2 (by first | assumption | omega) (by first | assumption | omega) (by first | assumption | exact isCut_at (by omega) (by omega)) (by first | assumption | omega) (by first | assumption | omega) (by first | assumption | omega) (by first | assumption | omega)) (fun o3 q3 => ?_)
    obtain ⟨q3_0, q3_1⟩ := q3
    exact Go_i (show True from trivial)
set_option maxRecDepth 20000 in
theorem ok_X10_row (mk : Nat) (t_polygon : Nat) (t_bits : Int) (i1 : Int) (p0 : ¬ zno mk t_polygon) (p1 : -2147483648 ≤ i1) (p2 : i1 ≤ 2147483647) : Go (fun o => True) (zf_X10_row mk t_polygon t_bits i1) := by
  unfold zf_X10_row
  have grt_polygon := zno_rng p0
  have g7t_polygon := rpg7 (n := t_polygon) (by omega) (by omega)
  have g8t_polygon := rpg8 (n := t_polygon) (by omega) (by omega)
  refine Go_chk (by assumption) ?_
  refine Go_bindP (ok_X5_hasCorner t_polygon i1 (by first | assumption | omega) (by first | assumption | omega) (by first | assumption | omega) (by first | assumption | omega)) (fun o2 q1 => ?_)
  obtain ⟨q1_0, q1_1⟩ := q1
  refine Go_ite (fun c2 => ?_) (fun c2 => ?_)
  · have dc2 := q1_1 c2
    exact Go_i (show True from trivial)
  · have dc2 := q1_0 (bnf c2)
    refine Go_bindP (ok_X5_trianglesAt t_polygon t_bits i1 (by first | assumption | omega) (by first | assumption | omega) (by first | assumption | omega) (by first | assumption | omega)) (fun o3 q3 => ?_)
    obtain ⟨q3_0, q3_1, q3_2⟩ := q3
    exact Go_i (show True from trivial)
set_option maxRecDepth 20000 in
theorem ok_X10_way (mk : Nat) (t_polygon : Nat) (t_bits : Int) (triangles_count : Int) (triangles_polygon : Nat) (triangles_from : Int) (triangles_length : Int) (triangles_waysAhead : Int) (triangles_cornersOf : Nat) (triangles_chosen : Nat) (i1 : Int) (i2 : Int) (i3 : Int) (i4 : Int) (p0 : ¬ zno mk t_polygon) (p1 : isCut t_polygon t_bits) (p2 : -2147483648 ≤ i1) (p3 : i1 ≤ 2147483647) (p4 : -2147483648 ≤ i2) (p5 : i2 ≤ 2147483647) (p6 : -2147483648 ≤ i3) (p7 : i3 ≤ 2147483647) (p8 : -2147483648 ≤ i4) (p9 : i4 ≤ 2147483647) (p10 : 0 ≤ triangles_count) (p11 : triangles_count ≤ 7) : Go (fun o => 0 ≤ (o.2.1) ∧ (o.2.1) ≤ 7) (zf_X10_way mk t_polygon t_bits triangles_count triangles_polygon triangles_from triangles_length triangles_waysAhead triangles_cornersOf triangles_chosen i1 i2 i3 i4) := by
  unfold zf_X10_way
  have grt_polygon := zno_rng p0
  have g7t_polygon := rpg7 (n := t_polygon) (by omega) (by omega)
  have g8t_polygon := rpg8 (n := t_polygon) (by omega) (by omega)
  refine Go_bindP (ok_X10_areCorners mk t_polygon i1 i2 (by first | assumption | omega) (by first | assumption | omega) (by first | assumption | omega) (by first | assumption | omega) (by first | assumption | omega)) (fun o1 q1 => ?_)
  obtain ⟨q1_0, q1_1⟩ := q1
  refine Go_ite (fun c2 => ?_) (fun c2 => ?_)
  · have dc2 := q1_1 c2
    exact Go_i (show 0 ≤ (triangles_count) ∧ (triangles_count) ≤ 7 from ⟨(by first | assumption | omega), (by first | assumption | omega)⟩)
  · have dc2 := q1_0 (bnf c2)
    refine Go_chk (by assumption) ?_
    refine Go_bindP (ok_X5_hasCorner t_polygon i4 (by first | assumption | omega) (by first | assumption | omega) (by first | assumption | omega) (by first | assumption | omega)) (fun o3 q3 => ?_)
    obtain ⟨q3_0, q3_1⟩ := q3
    refine Go_ite (fun c4 => ?_) (fun c4 => ?_)
    · have dc4 := q3_1 c4
      exact Go_i (show 0 ≤ (triangles_count) ∧ (triangles_count) ≤ 7 from ⟨(by first | assumption | omega), (by first | assumption | omega)⟩)
    · have dc4 := q3_0 (bnf c4)
      refine Go_chk (by unfold zout; omega) ?_
      refine Go_ite (fun c5 => ?_) (fun c5 => ?_)
      · exact Go_i (show 0 ≤ (triangles_count) ∧ (triangles_count) ≤ 7 from ⟨(by first | assumption | omega), (by first | assumption | omega)⟩)
      · refine Go_bindP (ok_X5_entryOf t_polygon t_bits i1 i2 (by first | assumption | omega) (by first | assumption | omega) (by first | assumption | exact isCut_at (by omega) (by omega)) (by first | assumption | omega) (by first | assumption | omega) (by first | assumption | omega) (by first | assumption | omega)) (fun o5 q6 => ?_)
        obtain ⟨q6_0, q6_1⟩ := q6
        refine Go_chk (by unfold zout; omega) ?_
        refine Go_ite (fun c7 => ?_) (fun c7 => ?_)
        · refine Go_bindP (ok_X5_ahead t_polygon i1 i4 (by first | assumption | omega) (by first | assumption | omega) (by first | assumption | omega) (by first | assumption | omega) (by first | assumption | omega) (by first | assumption | omega)) (fun o7 q8 => ?_)
          obtain ⟨q8_0, q8_1⟩ := q8
          refine Go_chk (by unfold zout; omega) ?_
          refine Go_ite (fun c9 => ?_) (fun c9 => ?_)
          · exact Go_i (show 0 ≤ (triangles_count) ∧ (triangles_count) ≤ 7 from ⟨(by first | assumption | omega), (by first | assumption | omega)⟩)
          · refine Go_bindP (ok_X5_ahead t_polygon i1 i2 (by first | assumption | omega) (by first | assumption | omega) (by first | assumption | omega) (by first | assumption | omega) (by first | assumption | omega) (by first | assumption | omega)) (fun o9 q10 => ?_)
            obtain ⟨q10_0, q10_1⟩ := q10
            refine Go_chk (by unfold zout; omega) ?_
            refine Go_ite (fun c11 => ?_) (fun c11 => ?_)
            · refine Go_bindP (ok_X9_gather mk triangles_count triangles_cornersOf t_polygon t_bits (by first | assumption | omega)) (fun o11 q12 => ?_)
              obtain ⟨q12_0, q12_1⟩ := q12
              refine Go_bindP (ok_X9_onWay mk (o11.1) triangles_polygon triangles_from triangles_length triangles_waysAhead (o11.2) triangles_chosen t_polygon i1 i2 i3 (o7 - (1 : Int)) (by first | assumption | omega) (by first | assumption | omega) (by first | assumption | omega) (by first | assumption | omega) (by first | assumption | omega) (by first | assumption | omega) (by first | assumption | omega) (by first | assumption | omega) (by first | assumption | omega) (by first | assumption | omega) (by first | assumption | omega)) (fun o12 q13 => ?_)
              obtain ⟨q13_0, q13_1, q13_2⟩ := q13
              exact Go_i (show 0 ≤ ((o11.1)) ∧ ((o11.1)) ≤ 7 from ⟨(by first | assumption | omega), (by first | assumption | omega)⟩)
            · exact Go_i (show 0 ≤ (triangles_count) ∧ (triangles_count) ≤ 7 from ⟨(by first | assumption | omega), (by first | assumption | omega)⟩)
        · exact Go_i (show 0 ≤ (triangles_count) ∧ (triangles_count) ≤ 7 from ⟨(by first | assumption | omega), (by first | assumption | omega)⟩)
set_option maxRecDepth 20000 in
theorem ok_X10_fewest (mk : Nat) (t_polygon : Nat) (t_bits : Int) (flips_wayLength : Int) (flips_queued : Int) (flips_steps : Nat) (flips_queue : Nat) (flips_way : Nat) (i1 : Int) (p0 : ¬ zno mk t_polygon) (p1 : -2147483648 ≤ t_bits) (p2 : t_bits ≤ 2147483647) (p3 : -2147483648 ≤ i1) (p4 : i1 ≤ 2147483647) (p5 : 0 ≤ flips_wayLength) (p6 : flips_wayLength ≤ 429) : Go (fun o => 0 ≤ (o.2.1) ∧ (o.2.1) ≤ 429) (zf_X10_fewest mk t_polygon t_bits flips_wayLength flips_queued flips_steps flips_queue flips_way i1) := by
  unfold zf_X10_fewest
  have grt_polygon := zno_rng p0
  have g7t_polygon := rpg7 (n := t_polygon) (by omega) (by omega)
  have g8t_polygon := rpg8 (n := t_polygon) (by omega) (by omega)
  refine Go_chk (by assumption) ?_
  refine Go_bindP (ok_X5_hasCut t_polygon i1 (by first | assumption | omega) (by first | assumption | omega) (by first | assumption | omega) (by first | assumption | omega)) (fun o2 q1 => ?_)
  obtain ⟨q1_0, q1_1⟩ := q1
  refine Go_ite (fun c2 => ?_) (fun c2 => ?_)
  · have dc2 := q1_1 c2
    exact Go_i (show 0 ≤ (flips_wayLength) ∧ (flips_wayLength) ≤ 429 from ⟨(by first | assumption | omega), (by first | assumption | omega)⟩)
  · have dc2 := q1_0 (bnf c2)
    refine Go_bindP (ok_X5_numberOf t_polygon t_bits (by first | assumption | omega) (by first | assumption | omega) (by first | assumption | omega) (by first | assumption | omega)) (fun o3 q3 => ?_)
    obtain ⟨q3_0, q3_1⟩ := q3
    refine Go_bindP (ok_X4_layWay mk flips_wayLength flips_queued flips_steps flips_queue flips_way t_polygon o3 i1 (by first | assumption | omega) (by first | assumption | omega) (by first | assumption | omega) (by first | assumption | omega) (by first | assumption | omega)) (fun o4 q4 => ?_)
    obtain ⟨q4_0, q4_1, q4_2, q4_3⟩ := q4
    exact Go_i (show 0 ≤ ((o4.2.1)) ∧ ((o4.2.1)) ≤ 429 from ⟨(by first | assumption | omega), (by first | assumption | omega)⟩)
set_option maxRecDepth 20000 in
theorem ok_X10_passed (mk : Nat) (flips_wayLength : Int) (flips_way : Nat) (i1 : Int) (p0 : 0 ≤ flips_wayLength) (p1 : flips_wayLength ≤ 429) (p2 : -2147483648 ≤ i1) (p3 : i1 ≤ 2147483647) : Go (fun o => True) (zf_X10_passed mk flips_wayLength flips_way i1) := by
  unfold zf_X10_passed
  refine Go_bindP (ok_X4_onWay flips_wayLength flips_way i1 (by first | assumption | omega) (by first | assumption | omega) (by first | assumption | omega) (by first | assumption | omega)) (fun o1 q1 => ?_)
  obtain ⟨q1_0, q1_1⟩ := q1
  exact Go_i (show True from trivial)
set_option maxRecDepth 20000 in
theorem ok_X10_farthest (mk : Nat) (t_polygon : Nat) (t_bits : Int) (flips_queued : Int) (flips_steps : Nat) (flips_queue : Nat) (i1 : Int) (p0 : ¬ zno mk t_polygon) (p1 : -2147483648 ≤ t_bits) (p2 : t_bits ≤ 2147483647) (p3 : -2147483648 ≤ i1) (p4 : i1 ≤ 2147483647) : Go (fun o => True) (zf_X10_farthest mk t_polygon t_bits flips_queued flips_steps flips_queue i1) := by
  unfold zf_X10_farthest
  have grt_polygon := zno_rng p0
  have g7t_polygon := rpg7 (n := t_polygon) (by omega) (by omega)
  have g8t_polygon := rpg8 (n := t_polygon) (by omega) (by omega)
  refine jok (fun (s : zS_X10_farthest) => match s with | (lab, i1', flips_queued', flips_steps', flips_queue') => (lab = 0 ∧ -2147483648 ≤ i1' ∧ i1' ≤ 2147483647) ∨ (lab = 11 ∧ -2147483648 ≤ i1' ∧ i1' ≤ 2147483647)) (fun (s : zS_X10_farthest) => match s with | (lab, i1', flips_queued', flips_steps', flips_queue') => if lab = 0 then 5 else if lab = 11 then 3 else 0) (fun (o : zO_X10_farthest) => True) ?_ _ ?_ ?_
  · intro s hI
    obtain ⟨lab, i1', flips_queued', flips_steps', flips_queue'⟩ := s
    have hI : (lab = 0 ∧ -2147483648 ≤ i1' ∧ i1' ≤ 2147483647) ∨ (lab = 11 ∧ -2147483648 ≤ i1' ∧ i1' ≤ 2147483647) := hI
    rcases hI with ⟨rfl, v0_0, v0_1⟩ | ⟨rfl, v11_0, v11_1⟩
    · show Go _ (zg_X10_farthest_0 mk t_polygon t_bits i1' flips_queued' flips_steps' flips_queue')
      unfold zg_X10_farthest_0
      refine Go_chk (by unfold zout; omega) ?_
      refine Go_ite (fun c1 => ?_) (fun c1 => ?_)
      · exact Go_i (show (((11 : Nat) = 0 ∧ -2147483648 ≤ (i1') ∧ (i1') ≤ 2147483647) ∨ ((11 : Nat) = 11 ∧ -2147483648 ≤ (i1') ∧ (i1') ≤ 2147483647)) ∧ 3 < 5 from ⟨Or.inr (⟨rfl, (by first | assumption | omega), (by first | assumption | omega)⟩), by omega⟩)
      · refine Go_ite (fun c2 => ?_) (fun c2 => ?_)
        · exact Go_i (show (((11 : Nat) = 0 ∧ -2147483648 ≤ (i1') ∧ (i1') ≤ 2147483647) ∨ ((11 : Nat) = 11 ∧ -2147483648 ≤ (i1') ∧ (i1') ≤ 2147483647)) ∧ 3 < 5 from ⟨Or.inr (⟨rfl, (by first | assumption | omega), (by first | assumption | omega)⟩), by omega⟩)
        · exact Go_i (show True from trivial)
    · show Go _ (zg_X10_farthest_11 mk t_polygon t_bits i1' flips_queued' flips_steps' flips_queue')
      unfold zg_X10_farthest_11
      refine Go_chk (by assumption) ?_
      refine Go_bindP (ok_X5_numberOf t_polygon t_bits (by first | assumption | omega) (by first | assumption | omega) (by first | assumption | omega) (by first | assumption | omega)) (fun o5 q3 => ?_)
      obtain ⟨q3_0, q3_1⟩ := q3
      refine Go_bindP (ok_X4_measure mk flips_queued' flips_steps' flips_queue' t_polygon o5 (by first | assumption | omega) (by first | assumption | omega) (by first | assumption | omega)) (fun o6 q4 => ?_)
      obtain ⟨q4_0, q4_1, q4_2⟩ := q4
      refine Go_bindP (ok_X4_mostSteps mk (o6.2.1) t_polygon (by first | assumption | omega) (by first | assumption | exact all_w (by assumption) (by omega) | (refine all_setw ?_ (Int.le_refl _) ?_ ?_ (by omega) (by omega) <;> first | assumption | omega) | exact all_setw (by assumption) (by omega) (by omega) (by omega) (by omega) (by omega))) (fun o7 q5 => ?_)
      obtain ⟨q5_0, q5_1⟩ := q5
      refine Go_chk (by unfold zout; omega) ?_
      refine Go_ite (fun c6 => ?_) (fun c6 => ?_)
      · exact Go_i (show True from trivial)
      · refine Go_bindP (ok_X4_howManyAt mk (o6.2.1) t_polygon o7 (by first | assumption | omega) (by first | assumption | exact all_w (by assumption) (by omega) | (refine all_setw ?_ (Int.le_refl _) ?_ ?_ (by omega) (by omega) <;> first | assumption | omega) | exact all_setw (by assumption) (by omega) (by omega) (by omega) (by omega) (by omega)) (by first | assumption | omega) (by first | assumption | omega)) (fun o9 q7 => ?_)
        obtain ⟨q7_0, q7_1⟩ := q7
        exact Go_i (show True from trivial)
  · exact (show ((0 : Nat) = 0 ∧ -2147483648 ≤ i1 ∧ i1 ≤ 2147483647) ∨ ((0 : Nat) = 11 ∧ -2147483648 ≤ i1 ∧ i1 ≤ 2147483647) from Or.inl (⟨rfl, (by first | assumption | omega), (by first | assumption | omega)⟩))
  · show 5 < jfuel
    unfold jfuel
    omega
set_option maxRecDepth 20000 in
theorem ok_X10_least (mk : Nat) (t_polygon : Nat) (t_bits : Int) (i1 : Bool) (p0 : ¬ zno mk t_polygon) (p1 : -2147483648 ≤ t_bits) (p2 : t_bits ≤ 2147483647) : Go (fun o => True) (zf_X10_least mk t_polygon t_bits i1) := by
  unfold zf_X10_least
  have grt_polygon := zno_rng p0
  have g7t_polygon := rpg7 (n := t_polygon) (by omega) (by omega)
  have g8t_polygon := rpg8 (n := t_polygon) (by omega) (by omega)
  refine Go_chk (by assumption) ?_
  refine Go_bindP (ok_X5_leastAlike t_polygon t_bits i1 (by first | assumption | omega) (by first | assumption | omega) (by first | assumption | omega) (by first | assumption | omega)) (fun o2 q1 => ?_)
  obtain ⟨q1_0, q1_1⟩ := q1
  refine Go_bindP (ok_X5_numberOf t_polygon o2 (by first | assumption | omega) (by first | assumption | omega) (by first | assumption | omega) (by first | assumption | omega)) (fun o3 q2 => ?_)
  obtain ⟨q2_0, q2_1⟩ := q2
  exact Go_i (show True from trivial)
set_option maxRecDepth 20000 in
theorem ok_X10_takeRow (mk : Nat) (t_polygon : Nat) (tape_length : Int) (tape_next : Int) (tape_kind : Int) (tape_place : Int) (tape_value : Int) (tape_bytes : Nat) (t_toldRow : Nat) (p0 : ¬ zno mk t_polygon) (p1 : 0 ≤ tape_length) (p2 : tape_length ≤ 300) (p3 : (∀ k : Nat, k < 10 → 0 ≤ zget t_toldRow k ∧ zget t_toldRow k ≤ 999)) : Go (fun o => (o.2.1) = 0 ∧ (∀ k : Nat, k < 10 → 0 ≤ zget (o.2.2.2.2.2.2) k ∧ zget (o.2.2.2.2.2.2) k ≤ 999)) (zf_X10_takeRow mk t_polygon tape_length tape_next tape_kind tape_place tape_value tape_bytes t_toldRow) := by
  unfold zf_X10_takeRow
  have grt_polygon := zno_rng p0
  have g7t_polygon := rpg7 (n := t_polygon) (by omega) (by omega)
  have g8t_polygon := rpg8 (n := t_polygon) (by omega) (by omega)
  refine Go_bindP (ok_X8_readNumbers tape_length tape_next tape_kind tape_place tape_value tape_bytes t_toldRow (by first | assumption | omega) (by first | assumption | omega) (by first | assumption | exact all_w (by assumption) (by omega) | (refine all_setw ?_ (Int.le_refl _) ?_ ?_ (by omega) (by omega) <;> first | assumption | omega) | exact all_setw (by assumption) (by omega) (by omega) (by omega) (by omega) (by omega))) (fun o1 q1 => ?_)
  obtain ⟨q1_0, q1_1, q1_2⟩ := q1
  refine Go_bindP (ok_X8_shorten tape_length (0 : Int) (by first | assumption | omega) (by first | assumption | omega) (by first | assumption | omega) (by first | assumption | omega)) (fun o2 q2 => ?_)
  obtain ⟨q2_0, q2_1, q2_2⟩ := q2
  refine Go_chk (by assumption) ?_
  refine Go_bindP (ok_X5_corners t_polygon ) (fun o4 q3 => ?_)
  refine Go_chk (by unfold zout; omega) ?_
  refine Go_chk (by unfold zout; omega) ?_
  refine Go_ite (fun c4 => ?_) (fun c4 => ?_)
  · exact Go_i (show (o2) = 0 ∧ (∀ k : Nat, k < 10 → 0 ≤ zget ((o1.2.2.2.2.2)) k ∧ zget ((o1.2.2.2.2.2)) k ≤ 999) from ⟨(by first | assumption | omega), (by first | assumption | exact all_w (by assumption) (by omega) | (refine all_setw ?_ (Int.le_refl _) ?_ ?_ (by omega) (by omega) <;> first | assumption | omega) | exact all_setw (by assumption) (by omega) (by omega) (by omega) (by omega) (by omega))⟩)
  · exact Go_i (show (o2) = 0 ∧ (∀ k : Nat, k < 10 → 0 ≤ zget ((o1.2.2.2.2.2)) k ∧ zget ((o1.2.2.2.2.2)) k ≤ 999) from ⟨(by first | assumption | omega), (by first | assumption | exact all_w (by assumption) (by omega) | (refine all_setw ?_ (Int.le_refl _) ?_ ?_ (by omega) (by omega) <;> first | assumption | omega) | exact all_setw (by assumption) (by omega) (by omega) (by omega) (by omega) (by omega))⟩)
set_option maxRecDepth 20000 in
theorem ok_X10_read (mk : Nat) (t_polygon : Nat) (t_bits : Int) (tape_length : Int) (tape_next : Int) (tape_kind : Int) (tape_place : Int) (tape_value : Int) (tape_bytes : Nat) (t_toldRow : Nat) (p0 : ¬ zno mk t_polygon) (p1 : isCut t_polygon t_bits) (p2 : 0 ≤ tape_length) (p3 : tape_length ≤ 300) (p4 : (∀ k : Nat, k < 10 → 0 ≤ zget t_toldRow k ∧ zget t_toldRow k ≤ 999)) : Go (fun o => isCut t_polygon (o.2.1) ∧ (o.2.2.1) = 0 ∧ (∀ k : Nat, k < 10 → 0 ≤ zget (o.2.2.2.2.2.2.2) k ∧ zget (o.2.2.2.2.2.2.2) k ≤ 999)) (zf_X10_read mk t_polygon t_bits tape_length tape_next tape_kind tape_place tape_value tape_bytes t_toldRow) := by
  unfold zf_X10_read
  have grt_polygon := zno_rng p0
  have g7t_polygon := rpg7 (n := t_polygon) (by omega) (by omega)
  have g8t_polygon := rpg8 (n := t_polygon) (by omega) (by omega)
  refine Go_bindP (ok_X10_takeRow mk t_polygon tape_length tape_next tape_kind tape_place tape_value tape_bytes t_toldRow (by first | assumption | omega) (by first | assumption | omega) (by first | assumption | omega) (by first | assumption | exact all_w (by assumption) (by omega) | (refine all_setw ?_ (Int.le_refl _) ?_ ?_ (by omega) (by omega) <;> first | assumption | omega) | exact all_setw (by assumption) (by omega) (by omega) (by omega) (by omega) (by omega))) (fun o1 q1 => ?_)
  obtain ⟨q1_0, q1_1⟩ := q1
  refine Go_ite (fun c2 => ?_) (fun c2 => ?_)
  · exact Go_i (show isCut t_polygon (t_bits) ∧ ((o1.2.1)) = 0 ∧ (∀ k : Nat, k < 10 → 0 ≤ zget ((o1.2.2.2.2.2.2)) k ∧ zget ((o1.2.2.2.2.2.2)) k ≤ 999) from ⟨(by first | assumption | exact isCut_at (by omega) (by omega)), (by first | assumption | omega), (by first | assumption | exact all_w (by assumption) (by omega) | (refine all_setw ?_ (Int.le_refl _) ?_ ?_ (by omega) (by omega) <;> first | assumption | omega) | exact all_setw (by assumption) (by omega) (by omega) (by omega) (by omega) (by omega))⟩)
  · refine Go_chk (by assumption) ?_
    refine Go_bindP (ok_X5_nearestTo t_polygon (o1.2.2.2.2.2.2) (by first | assumption | omega) (by first | assumption | omega) (by first | assumption | exact all_w (by assumption) (by omega) | (refine all_setw ?_ (Int.le_refl _) ?_ ?_ (by omega) (by omega) <;> first | assumption | omega) | exact all_setw (by assumption) (by omega) (by omega) (by omega) (by omega) (by omega))) (fun o3 q3 => ?_)
    obtain ⟨q3_0, q3_1⟩ := q3
    refine Go_bindP (ok_X5_cutAt t_polygon o3 (by first | assumption | omega) (by first | assumption | omega) (by first | assumption | omega) (by first | assumption | omega)) (fun o4 q4 => ?_)
    obtain ⟨q4_0, q4_1, q4_2⟩ := q4
    refine Go_bindP (ok_X5_differenceFrom t_polygon (o1.2.2.2.2.2.2) o4 (by first | assumption | omega) (by first | assumption | omega) (by first | assumption | exact all_w (by assumption) (by omega) | (refine all_setw ?_ (Int.le_refl _) ?_ ?_ (by omega) (by omega) <;> first | assumption | omega) | exact all_setw (by assumption) (by omega) (by omega) (by omega) (by omega) (by omega))) (fun o5 q5 => ?_)
    obtain ⟨q5_0, q5_1⟩ := q5
    refine Go_chk (by unfold zout; omega) ?_
    refine Go_ite (fun c6 => ?_) (fun c6 => ?_)
    · refine Go_bindP (ok_X5_cutAt t_polygon o3 (by first | assumption | omega) (by first | assumption | omega) (by first | assumption | omega) (by first | assumption | omega)) (fun o7 q7 => ?_)
      obtain ⟨q7_0, q7_1, q7_2⟩ := q7
      exact Go_i (show isCut t_polygon (o7) ∧ ((o1.2.1)) = 0 ∧ (∀ k : Nat, k < 10 → 0 ≤ zget ((o1.2.2.2.2.2.2)) k ∧ zget ((o1.2.2.2.2.2.2)) k ≤ 999) from ⟨(q7_2 ⟨by omega, by omega⟩), (by first | assumption | omega), (by first | assumption | exact all_w (by assumption) (by omega) | (refine all_setw ?_ (Int.le_refl _) ?_ ?_ (by omega) (by omega) <;> first | assumption | omega) | exact all_setw (by assumption) (by omega) (by omega) (by omega) (by omega) (by omega))⟩)
    · exact Go_i (show isCut t_polygon (t_bits) ∧ ((o1.2.1)) = 0 ∧ (∀ k : Nat, k < 10 → 0 ≤ zget ((o1.2.2.2.2.2.2)) k ∧ zget ((o1.2.2.2.2.2.2)) k ≤ 999) from ⟨(by first | assumption | exact isCut_at (by omega) (by omega)), (by first | assumption | omega), (by first | assumption | exact all_w (by assumption) (by omega) | (refine all_setw ?_ (Int.le_refl _) ?_ ?_ (by omega) (by omega) <;> first | assumption | omega) | exact all_setw (by assumption) (by omega) (by omega) (by omega) (by omega) (by omega))⟩)
set_option maxRecDepth 20000 in
theorem ok_X10_mend (mk : Nat) (t_polygon : Nat) (t_mendedNumber : Int) (tape_length : Int) (tape_next : Int) (tape_kind : Int) (tape_place : Int) (tape_value : Int) (tape_bytes : Nat) (t_toldRow : Nat) (p0 : ¬ zno mk t_polygon) (p1 : 0 ≤ tape_length) (p2 : tape_length ≤ 300) (p3 : (∀ k : Nat, k < 10 → 0 ≤ zget t_toldRow k ∧ zget t_toldRow k ≤ 999)) : Go (fun o => (o.2.2.1) = 0 ∧ (∀ k : Nat, k < 10 → 0 ≤ zget (o.2.2.2.2.2.2.2) k ∧ zget (o.2.2.2.2.2.2.2) k ≤ 999)) (zf_X10_mend mk t_polygon t_mendedNumber tape_length tape_next tape_kind tape_place tape_value tape_bytes t_toldRow) := by
  unfold zf_X10_mend
  have grt_polygon := zno_rng p0
  have g7t_polygon := rpg7 (n := t_polygon) (by omega) (by omega)
  have g8t_polygon := rpg8 (n := t_polygon) (by omega) (by omega)
  refine Go_bindP (ok_X10_takeRow mk t_polygon tape_length tape_next tape_kind tape_place tape_value tape_bytes t_toldRow (by first | assumption | omega) (by first | assumption | omega) (by first | assumption | omega) (by first | assumption | exact all_w (by assumption) (by omega) | (refine all_setw ?_ (Int.le_refl _) ?_ ?_ (by omega) (by omega) <;> first | assumption | omega) | exact all_setw (by assumption) (by omega) (by omega) (by omega) (by omega) (by omega))) (fun o1 q1 => ?_)
  obtain ⟨q1_0, q1_1⟩ := q1
  refine Go_ite (fun c2 => ?_) (fun c2 => ?_)
  · exact Go_i (show ((o1.2.1)) = 0 ∧ (∀ k : Nat, k < 10 → 0 ≤ zget ((o1.2.2.2.2.2.2)) k ∧ zget ((o1.2.2.2.2.2.2)) k ≤ 999) from ⟨(by first | assumption | omega), (by first | assumption | exact all_w (by assumption) (by omega) | (refine all_setw ?_ (Int.le_refl _) ?_ ?_ (by omega) (by omega) <;> first | assumption | omega) | exact all_setw (by assumption) (by omega) (by omega) (by omega) (by omega) (by omega))⟩)
  · refine Go_chk (by assumption) ?_
    refine Go_bindP (ok_X5_nearestTo t_polygon (o1.2.2.2.2.2.2) (by first | assumption | omega) (by first | assumption | omega) (by first | assumption | exact all_w (by assumption) (by omega) | (refine all_setw ?_ (Int.le_refl _) ?_ ?_ (by omega) (by omega) <;> first | assumption | omega) | exact all_setw (by assumption) (by omega) (by omega) (by omega) (by omega) (by omega))) (fun o3 q3 => ?_)
    obtain ⟨q3_0, q3_1⟩ := q3
    refine Go_bindP (ok_X5_cutAt t_polygon o3 (by first | assumption | omega) (by first | assumption | omega) (by first | assumption | omega) (by first | assumption | omega)) (fun o4 q4 => ?_)
    obtain ⟨q4_0, q4_1, q4_2⟩ := q4
    refine Go_bindP (ok_X5_differenceFrom t_polygon (o1.2.2.2.2.2.2) o4 (by first | assumption | omega) (by first | assumption | omega) (by first | assumption | exact all_w (by assumption) (by omega) | (refine all_setw ?_ (Int.le_refl _) ?_ ?_ (by omega) (by omega) <;> first | assumption | omega) | exact all_setw (by assumption) (by omega) (by omega) (by omega) (by omega) (by omega))) (fun o5 q5 => ?_)
    obtain ⟨q5_0, q5_1⟩ := q5
    exact Go_i (show ((o1.2.1)) = 0 ∧ (∀ k : Nat, k < 10 → 0 ≤ zget ((o1.2.2.2.2.2.2)) k ∧ zget ((o1.2.2.2.2.2.2)) k ≤ 999) from ⟨(by first | assumption | omega), (by first | assumption | exact all_w (by assumption) (by omega) | (refine all_setw ?_ (Int.le_refl _) ?_ ?_ (by omega) (by omega) <;> first | assumption | omega) | exact all_setw (by assumption) (by omega) (by omega) (by omega) (by omega) (by omega))⟩)
set_option maxRecDepth 20000 in
theorem ok_X10_mended (mk : Nat) (t_mendedNumber : Int)  : Go (fun o => True) (zf_X10_mended mk t_mendedNumber) := by
  unfold zf_X10_mended
  exact Go_i (show True from trivial)
set_option maxRecDepth 20000 in
theorem ok_X10_crossed (mk : Nat) (t_polygon : Nat) (t_bits : Int) (crossedLines_size : Int) (crossedLines_lines : Nat) (i1 : Int) (i2 : Int) (i3 : Int) (p0 : ¬ zno mk t_polygon) (p1 : -2147483648 ≤ i1) (p2 : i1 ≤ 2147483647) (p3 : -2147483648 ≤ i2) (p4 : i2 ≤ 2147483647) (p5 : -2147483648 ≤ i3) (p6 : i3 ≤ 2147483647) (p7 : 0 ≤ crossedLines_size) (p8 : crossedLines_size ≤ 27) : Go (fun o => 0 ≤ (o.2.1) ∧ (o.2.1) ≤ 27) (zf_X10_crossed mk t_polygon t_bits crossedLines_size crossedLines_lines i1 i2 i3) := by
  unfold zf_X10_crossed
  have grt_polygon := zno_rng p0
  have g7t_polygon := rpg7 (n := t_polygon) (by omega) (by omega)
  have g8t_polygon := rpg8 (n := t_polygon) (by omega) (by omega)
  refine Go_bindP (ok_X10_areCorners mk t_polygon i1 i2 (by first | assumption | omega) (by first | assumption | omega) (by first | assumption | omega) (by first | assumption | omega) (by first | assumption | omega)) (fun o1 q1 => ?_)
  obtain ⟨q1_0, q1_1⟩ := q1
  refine Go_ite (fun c2 => ?_) (fun c2 => ?_)
  · have dc2 := q1_1 c2
    exact Go_i (show 0 ≤ (crossedLines_size) ∧ (crossedLines_size) ≤ 27 from ⟨(by first | assumption | omega), (by first | assumption | omega)⟩)
  · have dc2 := q1_0 (bnf c2)
    refine Go_chk (by unfold zout; omega) ?_
    refine Go_chk (by unfold zout; omega) ?_
    refine Go_ite (fun c3 => ?_) (fun c3 => ?_)
    · exact Go_i (show 0 ≤ (crossedLines_size) ∧ (crossedLines_size) ≤ 27 from ⟨(by first | assumption | omega), (by first | assumption | omega)⟩)
    · refine Go_chk (by assumption) ?_
      refine Go_bindP (ok_X0_gather mk crossedLines_size crossedLines_lines t_polygon t_bits i1 i2 (by first | assumption | omega) (by first | assumption | omega) (by first | assumption | omega) (by first | assumption | omega) (by first | assumption | omega)) (fun o5 q4 => ?_)
      obtain ⟨q4_0, q4_1⟩ := q4
      refine Go_chk (by unfold zout; omega) ?_
      refine Go_ite (fun c5 => ?_) (fun c5 => ?_)
      · refine Go_bindP (ok_X0_size (o5.1) ) (fun o8 q6 => ?_)
        exact Go_i (show 0 ≤ ((o5.1)) ∧ ((o5.1)) ≤ 27 from ⟨(by first | assumption | omega), (by first | assumption | omega)⟩)
      · refine Go_bindP (ok_X0_pairAt mk (o5.1) (o5.2) t_polygon i3 (by first | assumption | omega) (by first | assumption | omega) (by first | assumption | omega) (by first | assumption | omega) (by first | assumption | omega)) (fun o7 q7 => ?_)
        obtain ⟨q7_0, q7_1⟩ := q7
        exact Go_i (show 0 ≤ ((o5.1)) ∧ ((o5.1)) ≤ 27 from ⟨(by first | assumption | omega), (by first | assumption | omega)⟩)
set_option maxRecDepth 20000 in
theorem ok_X10_side (mk : Nat) (t_polygon : Nat) (t_bits : Int) (crossedLines_size : Int) (crossedLines_lines : Nat) (i1 : Int) (i2 : Int) (i3 : Int) (p0 : ¬ zno mk t_polygon) (p1 : -2147483648 ≤ i1) (p2 : i1 ≤ 2147483647) (p3 : -2147483648 ≤ i2) (p4 : i2 ≤ 2147483647) (p5 : -2147483648 ≤ i3) (p6 : i3 ≤ 2147483647) (p7 : 0 ≤ crossedLines_size) (p8 : crossedLines_size ≤ 27) : Go (fun o => 0 ≤ (o.2.1) ∧ (o.2.1) ≤ 27) (zf_X10_side mk t_polygon t_bits crossedLines_size crossedLines_lines i1 i2 i3) := by
  unfold zf_X10_side
  have grt_polygon := zno_rng p0
  have g7t_polygon := rpg7 (n := t_polygon) (by omega) (by omega)
  have g8t_polygon := rpg8 (n := t_polygon) (by omega) (by omega)
  refine Go_bindP (ok_X10_areCorners mk t_polygon i1 i2 (by first | assumption | omega) (by first | assumption | omega) (by first | assumption | omega) (by first | assumption | omega) (by first | assumption | omega)) (fun o1 q1 => ?_)
  obtain ⟨q1_0, q1_1⟩ := q1
  refine Go_ite (fun c2 => ?_) (fun c2 => ?_)
  · have dc2 := q1_1 c2
    exact Go_i (show 0 ≤ (crossedLines_size) ∧ (crossedLines_size) ≤ 27 from ⟨(by first | assumption | omega), (by first | assumption | omega)⟩)
  · have dc2 := q1_0 (bnf c2)
    refine Go_chk (by unfold zout; omega) ?_
    refine Go_chk (by unfold zout; omega) ?_
    refine Go_ite (fun c3 => ?_) (fun c3 => ?_)
    · exact Go_i (show 0 ≤ (crossedLines_size) ∧ (crossedLines_size) ≤ 27 from ⟨(by first | assumption | omega), (by first | assumption | omega)⟩)
    · refine Go_chk (by assumption) ?_
      refine Go_bindP (ok_X0_gather mk crossedLines_size crossedLines_lines t_polygon t_bits i1 i2 (by first | assumption | omega) (by first | assumption | omega) (by first | assumption | omega) (by first | assumption | omega) (by first | assumption | omega)) (fun o5 q4 => ?_)
      obtain ⟨q4_0, q4_1⟩ := q4
      refine Go_bindP (ok_X0_sharedWithNext mk (o5.1) (o5.2) t_polygon i3 (by first | assumption | omega) (by first | assumption | omega) (by first | assumption | omega) (by first | assumption | omega) (by first | assumption | omega)) (fun o6 q5 => ?_)
      obtain ⟨q5_0, q5_1⟩ := q5
      refine Go_chk (by unfold zout; omega) ?_
      refine Go_ite (fun c6 => ?_) (fun c6 => ?_)
      · exact Go_i (show 0 ≤ ((o5.1)) ∧ ((o5.1)) ≤ 27 from ⟨(by first | assumption | omega), (by first | assumption | omega)⟩)
      · refine Go_bindP (ok_X5_ahead t_polygon i1 o6 (by first | assumption | omega) (by first | assumption | omega) (by first | assumption | omega) (by first | assumption | omega) (by first | assumption | omega) (by first | assumption | omega)) (fun o8 q7 => ?_)
        obtain ⟨q7_0, q7_1⟩ := q7
        refine Go_bindP (ok_X5_ahead t_polygon i1 i2 (by first | assumption | omega) (by first | assumption | omega) (by first | assumption | omega) (by first | assumption | omega) (by first | assumption | omega) (by first | assumption | omega)) (fun o9 q8 => ?_)
        obtain ⟨q8_0, q8_1⟩ := q8
        refine Go_chk (by unfold zout; omega) ?_
        refine Go_chk (by unfold zout; omega) ?_
        refine Go_ite (fun c9 => ?_) (fun c9 => ?_)
        · exact Go_i (show 0 ≤ ((o5.1)) ∧ ((o5.1)) ≤ 27 from ⟨(by first | assumption | omega), (by first | assumption | omega)⟩)
        · exact Go_i (show 0 ≤ ((o5.1)) ∧ ((o5.1)) ≤ 27 from ⟨(by first | assumption | omega), (by first | assumption | omega)⟩)
set_option maxRecDepth 20000 in
theorem ok_X10_spread (mk : Nat) (t_polygon : Nat) (i1 : Int) (i2 : Int) (i3 : Int) (p0 : ¬ zno mk t_polygon) (p1 : -2147483648 ≤ i1) (p2 : i1 ≤ 2147483647) (p3 : -2147483648 ≤ i2) (p4 : i2 ≤ 2147483647) (p5 : -2147483648 ≤ i3) (p6 : i3 ≤ 2147483647) : Go (fun o => True) (zf_X10_spread mk t_polygon i1 i2 i3) := by
  unfold zf_X10_spread
  have grt_polygon := zno_rng p0
  have g7t_polygon := rpg7 (n := t_polygon) (by omega) (by omega)
  have g8t_polygon := rpg8 (n := t_polygon) (by omega) (by omega)
  refine Go_bindP (ok_X10_areCorners mk t_polygon i1 i2 (by first | assumption | omega) (by first | assumption | omega) (by first | assumption | omega) (by first | assumption | omega) (by first | assumption | omega)) (fun o1 q1 => ?_)
  obtain ⟨q1_0, q1_1⟩ := q1
  refine Go_ite (fun c2 => ?_) (fun c2 => ?_)
  · have dc2 := q1_1 c2
    exact Go_i (show True from trivial)
  · have dc2 := q1_0 (bnf c2)
    refine Go_chk (by assumption) ?_
    refine Go_bindP (ok_X5_countWith t_polygon i1 i2 i3 (by first | assumption | omega) (by first | assumption | omega) (by first | assumption | omega) (by first | assumption | omega) (by first | assumption | omega) (by first | assumption | omega) (by first | assumption | omega) (by first | assumption | omega)) (fun o3 q3 => ?_)
    obtain ⟨q3_0, q3_1⟩ := q3
    exact Go_i (show True from trivial)
set_option maxRecDepth 20000 in
theorem ok_X10_period (mk : Nat) (tape_length : Int) (tape_next : Int) (tape_kind : Int) (tape_place : Int) (tape_value : Int) (tape_bytes : Nat) (endless_size : Int) (endless_numbers : Nat) (t_toldRow : Nat) (p0 : 0 ≤ tape_length) (p1 : tape_length ≤ 300) (p2 : 1 ≤ endless_size) (p3 : endless_size ≤ 10) (p4 : (∀ k : Nat, k < 10 → 0 ≤ zget endless_numbers k ∧ zget endless_numbers k ≤ 20)) (p5 : (∀ k : Nat, k < 10 → 0 ≤ zget t_toldRow k ∧ zget t_toldRow k ≤ 999)) : Go (fun o => (o.2.1) = 0 ∧ 1 ≤ (o.2.2.2.2.2.2.1) ∧ (o.2.2.2.2.2.2.1) ≤ 10 ∧ (∀ k : Nat, k < 10 → 0 ≤ zget (o.2.2.2.2.2.2.2.1) k ∧ zget (o.2.2.2.2.2.2.2.1) k ≤ 20) ∧ (∀ k : Nat, k < 10 → 0 ≤ zget (o.2.2.2.2.2.2.2.2) k ∧ zget (o.2.2.2.2.2.2.2.2) k ≤ 999)) (zf_X10_period mk tape_length tape_next tape_kind tape_place tape_value tape_bytes endless_size endless_numbers t_toldRow) := by
  unfold zf_X10_period
  refine Go_bindP (ok_X8_readNumbers tape_length tape_next tape_kind tape_place tape_value tape_bytes t_toldRow (by first | assumption | omega) (by first | assumption | omega) (by first | assumption | exact all_w (by assumption) (by omega) | (refine all_setw ?_ (Int.le_refl _) ?_ ?_ (by omega) (by omega) <;> first | assumption | omega) | exact all_setw (by assumption) (by omega) (by omega) (by omega) (by omega) (by omega))) (fun o1 q1 => ?_)
  obtain ⟨q1_0, q1_1, q1_2⟩ := q1
  refine Go_bindP (ok_X8_shorten tape_length (0 : Int) (by first | assumption | omega) (by first | assumption | omega) (by first | assumption | omega) (by first | assumption | omega)) (fun o2 q2 => ?_)
  obtain ⟨q2_0, q2_1, q2_2⟩ := q2
  refine Go_bindP (ok_X2_accepts (o1.2.2.2.2.2) (o1.1) (by first | assumption | omega) (by first | assumption | omega)) (fun o3 q3 => ?_)
  obtain ⟨q3_0, q3_1⟩ := q3
  refine Go_ite (fun c4 => ?_) (fun c4 => ?_)
  · have dc4 := q3_1 c4
    exact Go_i (show (o2) = 0 ∧ 1 ≤ (endless_size) ∧ (endless_size) ≤ 10 ∧ (∀ k : Nat, k < 10 → 0 ≤ zget (endless_numbers) k ∧ zget (endless_numbers) k ≤ 20) ∧ (∀ k : Nat, k < 10 → 0 ≤ zget ((o1.2.2.2.2.2)) k ∧ zget ((o1.2.2.2.2.2)) k ≤ 999) from ⟨(by first | assumption | omega), (by first | assumption | omega), (by first | assumption | omega), (by first | assumption | exact all_w (by assumption) (by omega) | (refine all_setw ?_ (Int.le_refl _) ?_ ?_ (by omega) (by omega) <;> first | assumption | omega) | exact all_setw (by assumption) (by omega) (by omega) (by omega) (by omega) (by omega)), (by first | assumption | exact all_w (by assumption) (by omega) | (refine all_setw ?_ (Int.le_refl _) ?_ ?_ (by omega) (by omega) <;> first | assumption | omega) | exact all_setw (by assumption) (by omega) (by omega) (by omega) (by omega) (by omega))⟩)
  · have dc4 := q3_0 (bnf c4)
    obtain ⟨dc4a, dc4b, dc4c⟩ := dc4
    refine Go_bindP (ok_X2_become endless_size endless_numbers (o1.2.2.2.2.2) (o1.1) (by first | assumption | omega) (by first | assumption | omega) (by first | assumption | exact all_w (by assumption) (by omega) | (refine all_setw ?_ (Int.le_refl _) ?_ ?_ (by omega) (by omega) <;> first | assumption | omega) | exact all_setw (by assumption) (by omega) (by omega) (by omega) (by omega) (by omega)) (by first | assumption | exact all_w (by assumption) (by omega) | (refine all_setw ?_ (Int.le_refl _) ?_ ?_ (by omega) (by omega) <;> first | assumption | omega) | exact all_setw (by assumption) (by omega) (by omega) (by omega) (by omega) (by omega))) (fun o4 q5 => ?_)
    obtain ⟨q5_0, q5_1, q5_2⟩ := q5
    exact Go_i (show (o2) = 0 ∧ 1 ≤ ((o4.2.1)) ∧ ((o4.2.1)) ≤ 10 ∧ (∀ k : Nat, k < 10 → 0 ≤ zget ((o4.2.2)) k ∧ zget ((o4.2.2)) k ≤ 20) ∧ (∀ k : Nat, k < 10 → 0 ≤ zget ((o1.2.2.2.2.2)) k ∧ zget ((o1.2.2.2.2.2)) k ≤ 999) from ⟨(by first | assumption | omega), (by first | assumption | omega), (by first | assumption | omega), (by first | assumption | exact all_w (by assumption) (by omega) | (refine all_setw ?_ (Int.le_refl _) ?_ ?_ (by omega) (by omega) <;> first | assumption | omega) | exact all_setw (by assumption) (by omega) (by omega) (by omega) (by omega) (by omega)), (by first | assumption | exact all_w (by assumption) (by omega) | (refine all_setw ?_ (Int.le_refl _) ?_ ?_ (by omega) (by omega) <;> first | assumption | omega) | exact all_setw (by assumption) (by omega) (by omega) (by omega) (by omega) (by omega))⟩)
set_option maxRecDepth 20000 in
theorem ok_X10_ofCut (mk : Nat) (t_polygon : Nat) (t_bits : Int) (endless_size : Int) (endless_numbers : Nat) (t_toldRow : Nat) (p0 : ¬ zno mk t_polygon) (p1 : isCut t_polygon t_bits) (p2 : 1 ≤ endless_size) (p3 : endless_size ≤ 10) (p4 : (∀ k : Nat, k < 10 → 0 ≤ zget endless_numbers k ∧ zget endless_numbers k ≤ 20)) (p5 : (∀ k : Nat, k < 10 → 0 ≤ zget t_toldRow k ∧ zget t_toldRow k ≤ 999)) : Go (fun o => 1 ≤ (o.2.1) ∧ (o.2.1) ≤ 10 ∧ (∀ k : Nat, k < 10 → 0 ≤ zget (o.2.2.1) k ∧ zget (o.2.2.1) k ≤ 20) ∧ (∀ k : Nat, k < 10 → 0 ≤ zget (o.2.2.2) k ∧ zget (o.2.2.2) k ≤ 999)) (zf_X10_ofCut mk t_polygon t_bits endless_size endless_numbers t_toldRow) := by
  unfold zf_X10_ofCut
  have grt_polygon := zno_rng p0
  have g7t_polygon := rpg7 (n := t_polygon) (by omega) (by omega)
  have g8t_polygon := rpg8 (n := t_polygon) (by omega) (by omega)
  refine jok (fun (s : zS_X10_ofCut) => match s with | (lab, i1', endless_size', endless_numbers', t_toldRow') => (lab = 0 ∧ (∀ k : Nat, k < 10 → 0 ≤ zget endless_numbers' k ∧ zget endless_numbers' k ≤ 20) ∧ (∀ k : Nat, k < 10 → 0 ≤ zget t_toldRow' k ∧ zget t_toldRow' k ≤ 999)) ∨ (lab = 2 ∧ (∀ k : Nat, k < 10 → 0 ≤ zget endless_numbers' k ∧ zget endless_numbers' k ≤ 20) ∧ (∀ k : Nat, k < 10 → 0 ≤ zget t_toldRow' k ∧ zget t_toldRow' k ≤ 999) ∧ 0 ≤ i1' ∧ i1' ≤ (t_polygon : Int) ∧ (∀ k : Nat, (k : Int) < i1' → 0 ≤ zget t_toldRow' k ∧ zget t_toldRow' k ≤ 20))) (fun (s : zS_X10_ofCut) => match s with | (lab, i1', endless_size', endless_numbers', t_toldRow') => if lab = 0 then 50 else if lab = 2 then (20 - i1').toNat else 0) (fun (o : zO_X10_ofCut) => 1 ≤ (o.2.1) ∧ (o.2.1) ≤ 10 ∧ (∀ k : Nat, k < 10 → 0 ≤ zget (o.2.2.1) k ∧ zget (o.2.2.1) k ≤ 20) ∧ (∀ k : Nat, k < 10 → 0 ≤ zget (o.2.2.2) k ∧ zget (o.2.2.2) k ≤ 999)) ?_ _ ?_ ?_
  · intro s hI
    obtain ⟨lab, i1', endless_size', endless_numbers', t_toldRow'⟩ := s
    have hI : (lab = 0 ∧ (∀ k : Nat, k < 10 → 0 ≤ zget endless_numbers' k ∧ zget endless_numbers' k ≤ 20) ∧ (∀ k : Nat, k < 10 → 0 ≤ zget t_toldRow' k ∧ zget t_toldRow' k ≤ 999)) ∨ (lab = 2 ∧ (∀ k : Nat, k < 10 → 0 ≤ zget endless_numbers' k ∧ zget endless_numbers' k ≤ 20) ∧ (∀ k : Nat, k < 10 → 0 ≤ zget t_toldRow' k ∧ zget t_toldRow' k ≤ 999) ∧ 0 ≤ i1' ∧ i1' ≤ (t_polygon : Int) ∧ (∀ k : Nat, (k : Int) < i1' → 0 ≤ zget t_toldRow' k ∧ zget t_toldRow' k ≤ 20)) := hI
    rcases hI with ⟨rfl, v0_0, v0_1⟩ | ⟨rfl, v2_0, v2_1, v2_2, v2_3, v2_4⟩
    · show Go _ (zg_X10_ofCut_0 mk t_polygon t_bits i1' endless_size' endless_numbers' t_toldRow')
      unfold zg_X10_ofCut_0
      exact Go_i (show (((2 : Nat) = 0 ∧ (∀ k : Nat, k < 10 → 0 ≤ zget (endless_numbers') k ∧ zget (endless_numbers') k ≤ 20) ∧ (∀ k : Nat, k < 10 → 0 ≤ zget (t_toldRow') k ∧ zget (t_toldRow') k ≤ 999)) ∨ ((2 : Nat) = 2 ∧ (∀ k : Nat, k < 10 → 0 ≤ zget (endless_numbers') k ∧ zget (endless_numbers') k ≤ 20) ∧ (∀ k : Nat, k < 10 → 0 ≤ zget (t_toldRow') k ∧ zget (t_toldRow') k ≤ 999) ∧ 0 ≤ ((0 : Int)) ∧ ((0 : Int)) ≤ (t_polygon : Int) ∧ (∀ k : Nat, (k : Int) < ((0 : Int)) → 0 ≤ zget (t_toldRow') k ∧ zget (t_toldRow') k ≤ 20))) ∧ (20 - ((0 : Int))).toNat < 50 from ⟨Or.inr (⟨rfl, (by first | assumption | exact all_w (by assumption) (by omega) | (refine all_setw ?_ (Int.le_refl _) ?_ ?_ (by omega) (by omega) <;> first | assumption | omega) | exact all_setw (by assumption) (by omega) (by omega) (by omega) (by omega) (by omega)), (by first | assumption | exact all_w (by assumption) (by omega) | (refine all_setw ?_ (Int.le_refl _) ?_ ?_ (by omega) (by omega) <;> first | assumption | omega) | exact all_setw (by assumption) (by omega) (by omega) (by omega) (by omega) (by omega)), (by first | assumption | omega), (by first | assumption | omega), (by first | assumption | (intro k hk; omega) | (intro k hk; exact v2_4 k (by omega)) | exact all_pushl (by assumption) (by omega) (by omega) (by omega) (by omega) (by omega))⟩), by omega⟩)
    · show Go _ (zg_X10_ofCut_2 mk t_polygon t_bits i1' endless_size' endless_numbers' t_toldRow')
      unfold zg_X10_ofCut_2
      refine Go_chk (by assumption) ?_
      refine Go_bindP (ok_X5_corners t_polygon ) (fun o2 q1 => ?_)
      refine Go_chk (by unfold zout; omega) ?_
      refine Go_chk (by unfold zout; omega) ?_
      refine Go_ite (fun c2 => ?_) (fun c2 => ?_)
      · refine Go_bindP (ok_X5_corners t_polygon ) (fun o5 q3 => ?_)
        refine Go_bindP (ok_X2_become endless_size' endless_numbers' t_toldRow' o5 (by first | assumption | omega) (by first | assumption | omega) (by first | assumption | (intro k hk; omega) | (intro k hk; exact v2_4 k (by omega)) | exact all_pushl (by assumption) (by omega) (by omega) (by omega) (by omega) (by omega)) (by first | assumption | exact all_w (by assumption) (by omega) | (refine all_setw ?_ (Int.le_refl _) ?_ ?_ (by omega) (by omega) <;> first | assumption | omega) | exact all_setw (by assumption) (by omega) (by omega) (by omega) (by omega) (by omega))) (fun o6 q4 => ?_)
        obtain ⟨q4_0, q4_1, q4_2⟩ := q4
        exact Go_i (show 1 ≤ ((o6.2.1)) ∧ ((o6.2.1)) ≤ 10 ∧ (∀ k : Nat, k < 10 → 0 ≤ zget ((o6.2.2)) k ∧ zget ((o6.2.2)) k ≤ 20) ∧ (∀ k : Nat, k < 10 → 0 ≤ zget (t_toldRow') k ∧ zget (t_toldRow') k ≤ 999) from ⟨(by first | assumption | omega), (by first | assumption | omega), (by first | assumption | exact all_w (by assumption) (by omega) | (refine all_setw ?_ (Int.le_refl _) ?_ ?_ (by omega) (by omega) <;> first | assumption | omega) | exact all_setw (by assumption) (by omega) (by omega) (by omega) (by omega) (by omega)), (by first | assumption | exact all_w (by assumption) (by omega) | (refine all_setw ?_ (Int.le_refl _) ?_ ?_ (by omega) (by omega) <;> first | assumption | omega) | exact all_setw (by assumption) (by omega) (by omega) (by omega) (by omega) (by omega))⟩)
      · refine Go_bindP (ok_X5_trianglesAt t_polygon t_bits i1' (by first | assumption | omega) (by first | assumption | omega) (by first | assumption | omega) (by first | assumption | omega)) (fun o7 q5 => ?_)
        obtain ⟨q5_0, q5_1, q5_2⟩ := q5
        have sq5 := q5_2 p1
        refine Go_chk (by omega) ?_
        exact Go_i (show (((2 : Nat) = 0 ∧ (∀ k : Nat, k < 10 → 0 ≤ zget (endless_numbers') k ∧ zget (endless_numbers') k ≤ 20) ∧ (∀ k : Nat, k < 10 → 0 ≤ zget ((zset t_toldRow' (Int.toNat i1') o7)) k ∧ zget ((zset t_toldRow' (Int.toNat i1') o7)) k ≤ 999)) ∨ ((2 : Nat) = 2 ∧ (∀ k : Nat, k < 10 → 0 ≤ zget (endless_numbers') k ∧ zget (endless_numbers') k ≤ 20) ∧ (∀ k : Nat, k < 10 → 0 ≤ zget ((zset t_toldRow' (Int.toNat i1') o7)) k ∧ zget ((zset t_toldRow' (Int.toNat i1') o7)) k ≤ 999) ∧ 0 ≤ ((i1' + (1 : Int))) ∧ ((i1' + (1 : Int))) ≤ (t_polygon : Int) ∧ (∀ k : Nat, (k : Int) < ((i1' + (1 : Int))) → 0 ≤ zget ((zset t_toldRow' (Int.toNat i1') o7)) k ∧ zget ((zset t_toldRow' (Int.toNat i1') o7)) k ≤ 20))) ∧ (20 - ((i1' + (1 : Int)))).toNat < (20 - i1').toNat from ⟨Or.inr (⟨rfl, (by first | assumption | exact all_w (by assumption) (by omega) | (refine all_setw ?_ (Int.le_refl _) ?_ ?_ (by omega) (by omega) <;> first | assumption | omega) | exact all_setw (by assumption) (by omega) (by omega) (by omega) (by omega) (by omega)), (by first | assumption | exact all_w (by assumption) (by omega) | (refine all_setw ?_ (Int.le_refl _) ?_ ?_ (by omega) (by omega) <;> first | assumption | omega) | exact all_setw (by assumption) (by omega) (by omega) (by omega) (by omega) (by omega)), (by first | assumption | omega), (by first | assumption | omega), (by first | assumption | (intro k hk; omega) | (intro k hk; exact v2_4 k (by omega)) | exact all_pushl (by assumption) (by omega) (by omega) (by omega) (by omega) (by omega))⟩), by omega⟩)
  · exact (show ((0 : Nat) = 0 ∧ (∀ k : Nat, k < 10 → 0 ≤ zget endless_numbers k ∧ zget endless_numbers k ≤ 20) ∧ (∀ k : Nat, k < 10 → 0 ≤ zget t_toldRow k ∧ zget t_toldRow k ≤ 999)) ∨ ((0 : Nat) = 2 ∧ (∀ k : Nat, k < 10 → 0 ≤ zget endless_numbers k ∧ zget endless_numbers k ≤ 20) ∧ (∀ k : Nat, k < 10 → 0 ≤ zget t_toldRow k ∧ zget t_toldRow k ≤ 999) ∧ 0 ≤ 0 ∧ 0 ≤ (t_polygon : Int) ∧ (∀ k : Nat, (k : Int) < 0 → 0 ≤ zget t_toldRow k ∧ zget t_toldRow k ≤ 20)) from Or.inl (⟨rfl, (by first | assumption | exact all_w (by assumption) (by omega) | (refine all_setw ?_ (Int.le_refl _) ?_ ?_ (by omega) (by omega) <;> first | assumption | omega) | exact all_setw (by assumption) (by omega) (by omega) (by omega) (by omega) (by omega)), (by first | assumption | exact all_w (by assumption) (by omega) | (refine all_setw ?_ (Int.le_refl _) ?_ ?_ (by omega) (by omega) <;> first | assumption | omega) | exact all_setw (by assumption) (by omega) (by omega) (by omega) (by omega) (by omega))⟩))
  · show 50 < jfuel
    unfold jfuel
    omega
set_option maxRecDepth 20000 in
theorem ok_X10_of (mk : Nat) (endless_size : Int) (endless_numbers : Nat) (i1 : Int) (p0 : 1 ≤ endless_size) (p1 : endless_size ≤ 10) (p2 : (∀ k : Nat, k < 10 → 0 ≤ zget endless_numbers k ∧ zget endless_numbers k ≤ 20)) (p3 : -2147483648 ≤ i1) (p4 : i1 ≤ 2147483647) : Go (fun o => True) (zf_X10_of mk endless_size endless_numbers i1) := by
  unfold zf_X10_of
  refine Go_bindP (ok_X2_hasPlace endless_size i1 (by first | assumption | omega) (by first | assumption | omega) (by first | assumption | omega) (by first | assumption | omega)) (fun o1 q1 => ?_)
  obtain ⟨q1_0, q1_1⟩ := q1
  refine Go_ite (fun c2 => ?_) (fun c2 => ?_)
  · have dc2 := q1_1 c2
    exact Go_i (show True from trivial)
  · have dc2 := q1_0 (bnf c2)
    refine Go_bindP (ok_X2_at endless_size endless_numbers i1 (by first | assumption | omega) (by first | assumption | omega) (by first | assumption | exact all_w (by assumption) (by omega) | (refine all_setw ?_ (Int.le_refl _) ?_ ?_ (by omega) (by omega) <;> first | assumption | omega) | exact all_setw (by assumption) (by omega) (by omega) (by omega) (by omega) (by omega)) (by first | assumption | omega) (by first | assumption | omega)) (fun o2 q3 => ?_)
    obtain ⟨q3_0, q3_1, q3_2, q3_3, q3_4⟩ := q3
    exact Go_i (show True from trivial)
set_option maxRecDepth 20000 in
theorem ok_X10_along (mk : Nat) (endless_size : Int) (endless_numbers : Nat) (i1 : Int) (i2 : Int) (p0 : 1 ≤ endless_size) (p1 : endless_size ≤ 10) (p2 : (∀ k : Nat, k < 10 → 0 ≤ zget endless_numbers k ∧ zget endless_numbers k ≤ 20)) (p3 : -2147483648 ≤ i1) (p4 : i1 ≤ 2147483647) (p5 : -2147483648 ≤ i2) (p6 : i2 ≤ 2147483647) : Go (fun o => True) (zf_X10_along mk endless_size endless_numbers i1 i2) := by
  unfold zf_X10_along
  refine Go_bindP (ok_X2_hasPlace endless_size i1 (by first | assumption | omega) (by first | assumption | omega) (by first | assumption | omega) (by first | assumption | omega)) (fun o1 q1 => ?_)
  obtain ⟨q1_0, q1_1⟩ := q1
  refine Go_ite (fun c2 => ?_) (fun c2 => ?_)
  · have dc2 := q1_1 c2
    exact Go_i (show True from trivial)
  · have dc2 := q1_0 (bnf c2)
    refine Go_chk (by unfold zout; omega) ?_
    refine Go_ite (fun c3 => ?_) (fun c3 => ?_)
    · exact Go_i (show True from trivial)
    · refine Go_ite (fun c4 => ?_) (fun c4 => ?_)
      · refine Go_bindP (ok_X2_entryAt endless_size endless_numbers i1 i2 (by first | assumption | omega) (by first | assumption | omega) (by first | assumption | exact all_w (by assumption) (by omega) | (refine all_setw ?_ (Int.le_refl _) ?_ ?_ (by omega) (by omega) <;> first | assumption | omega) | exact all_setw (by assumption) (by omega) (by omega) (by omega) (by omega) (by omega)) (by first | assumption | omega) (by first | assumption | omega) (by first | assumption | omega) (by first | assumption | omega)) (fun o3 q5 => ?_)
        obtain ⟨q5_0, q5_1⟩ := q5
        exact Go_i (show True from trivial)
      · exact Go_i (show True from trivial)
set_option maxRecDepth 20000 in
theorem ok_X10_breaks (mk : Nat) (endless_size : Int) (endless_numbers : Nat) (i1 : Int) (p0 : 1 ≤ endless_size) (p1 : endless_size ≤ 10) (p2 : (∀ k : Nat, k < 10 → 0 ≤ zget endless_numbers k ∧ zget endless_numbers k ≤ 20)) (p3 : -2147483648 ≤ i1) (p4 : i1 ≤ 2147483647) : Go (fun o => True) (zf_X10_breaks mk endless_size endless_numbers i1) := by
  unfold zf_X10_breaks
  refine Go_bindP (ok_X2_breakLength endless_size endless_numbers (by first | assumption | omega) (by first | assumption | omega) (by first | assumption | exact all_w (by assumption) (by omega) | (refine all_setw ?_ (Int.le_refl _) ?_ ?_ (by omega) (by omega) <;> first | assumption | omega) | exact all_setw (by assumption) (by omega) (by omega) (by omega) (by omega) (by omega))) (fun o1 q1 => ?_)
  obtain ⟨q1_0, q1_1⟩ := q1
  refine Go_chk (by unfold zout; omega) ?_
  refine Go_ite (fun c2 => ?_) (fun c2 => ?_)
  · exact Go_i (show True from trivial)
  · refine Go_chk (by unfold zout; omega) ?_
    refine Go_ite (fun c3 => ?_) (fun c3 => ?_)
    · exact Go_i (show True from trivial)
    · refine Go_ite (fun c4 => ?_) (fun c4 => ?_)
      · refine Go_bindP (ok_X2_breakPlace endless_size endless_numbers o1 (by first | assumption | omega) (by first | assumption | omega) (by first | assumption | exact all_w (by assumption) (by omega) | (refine all_setw ?_ (Int.le_refl _) ?_ ?_ (by omega) (by omega) <;> first | assumption | omega) | exact all_setw (by assumption) (by omega) (by omega) (by omega) (by omega) (by omega)) (by first | assumption | omega) (by first | assumption | omega)) (fun o6 q5 => ?_)
        obtain ⟨q5_0, q5_1⟩ := q5
        exact Go_i (show True from trivial)
      · refine Go_ite (fun c6 => ?_) (fun c6 => ?_)
        · refine Go_bindP (ok_X2_comesBack endless_size endless_numbers o1 (by first | assumption | omega) (by first | assumption | omega) (by first | assumption | exact all_w (by assumption) (by omega) | (refine all_setw ?_ (Int.le_refl _) ?_ ?_ (by omega) (by omega) <;> first | assumption | omega) | exact all_setw (by assumption) (by omega) (by omega) (by omega) (by omega) (by omega)) (by first | assumption | omega) (by first | assumption | omega)) (fun o8 q7 => ?_)
          refine Go_ite (fun c8 => ?_) (fun c8 => ?_)
          · exact Go_i (show True from trivial)
          · exact Go_i (show True from trivial)
        · exact Go_i (show True from trivial)
set_option maxRecDepth 20000 in
theorem ok_X10_growth (mk : Nat) (endless_size : Int) (endless_numbers : Nat) (p0 : 1 ≤ endless_size) (p1 : endless_size ≤ 10) (p2 : (∀ k : Nat, k < 10 → 0 ≤ zget endless_numbers k ∧ zget endless_numbers k ≤ 20)) : Go (fun o => True) (zf_X10_growth mk endless_size endless_numbers) := by
  unfold zf_X10_growth
  refine Go_bindP (ok_X2_growthOfRound endless_size endless_numbers (by first | assumption | omega) (by first | assumption | omega) (by first | assumption | exact all_w (by assumption) (by omega) | (refine all_setw ?_ (Int.le_refl _) ?_ ?_ (by omega) (by omega) <;> first | assumption | omega) | exact all_setw (by assumption) (by omega) (by omega) (by omega) (by omega) (by omega))) (fun o1 q1 => ?_)
  exact Go_i (show True from trivial)
set_option maxRecDepth 20000 in
theorem ok_X10_glue (mk : Nat) (endless_size : Int) (endless_numbers : Nat) (i1 : Int) (p0 : 1 ≤ endless_size) (p1 : endless_size ≤ 10) (p2 : (∀ k : Nat, k < 10 → 0 ≤ zget endless_numbers k ∧ zget endless_numbers k ≤ 20)) (p3 : -2147483648 ≤ i1) (p4 : i1 ≤ 2147483647) : Go (fun o => 1 ≤ (o.2.1) ∧ (o.2.1) ≤ 10 ∧ (∀ k : Nat, k < 10 → 0 ≤ zget (o.2.2) k ∧ zget (o.2.2) k ≤ 20)) (zf_X10_glue mk endless_size endless_numbers i1) := by
  unfold zf_X10_glue
  refine Go_bindP (ok_X2_hasPlace endless_size i1 (by first | assumption | omega) (by first | assumption | omega) (by first | assumption | omega) (by first | assumption | omega)) (fun o1 q1 => ?_)
  obtain ⟨q1_0, q1_1⟩ := q1
  refine Go_ite (fun c2 => ?_) (fun c2 => ?_)
  · have dc2 := q1_1 c2
    exact Go_i (show 1 ≤ (endless_size) ∧ (endless_size) ≤ 10 ∧ (∀ k : Nat, k < 10 → 0 ≤ zget (endless_numbers) k ∧ zget (endless_numbers) k ≤ 20) from ⟨(by first | assumption | omega), (by first | assumption | omega), (by first | assumption | exact all_w (by assumption) (by omega) | (refine all_setw ?_ (Int.le_refl _) ?_ ?_ (by omega) (by omega) <;> first | assumption | omega) | exact all_setw (by assumption) (by omega) (by omega) (by omega) (by omega) (by omega))⟩)
  · have dc2 := q1_0 (bnf c2)
    refine Go_bindP (ok_X2_canGlue endless_size endless_numbers i1 (by first | assumption | omega) (by first | assumption | omega) (by first | assumption | exact all_w (by assumption) (by omega) | (refine all_setw ?_ (Int.le_refl _) ?_ ?_ (by omega) (by omega) <;> first | assumption | omega) | exact all_setw (by assumption) (by omega) (by omega) (by omega) (by omega) (by omega)) (by first | assumption | omega) (by first | assumption | omega)) (fun o2 q3 => ?_)
    obtain ⟨q3_0, q3_1⟩ := q3
    refine Go_ite (fun c4 => ?_) (fun c4 => ?_)
    · have dc4 := q3_1 c4
      exact Go_i (show 1 ≤ (endless_size) ∧ (endless_size) ≤ 10 ∧ (∀ k : Nat, k < 10 → 0 ≤ zget (endless_numbers) k ∧ zget (endless_numbers) k ≤ 20) from ⟨(by first | assumption | omega), (by first | assumption | omega), (by first | assumption | exact all_w (by assumption) (by omega) | (refine all_setw ?_ (Int.le_refl _) ?_ ?_ (by omega) (by omega) <;> first | assumption | omega) | exact all_setw (by assumption) (by omega) (by omega) (by omega) (by omega) (by omega))⟩)
    · have dc4 := q3_0 (bnf c4)
      refine Go_bindP (ok_X2_glueBehind endless_size endless_numbers i1 (by first | assumption | omega) (by first | assumption | omega) (by first | assumption | exact all_w (by assumption) (by omega) | (refine all_setw ?_ (Int.le_refl _) ?_ ?_ (by omega) (by omega) <;> first | assumption | omega) | exact all_setw (by assumption) (by omega) (by omega) (by omega) (by omega) (by omega)) (by first | assumption | omega) (by first | assumption | omega)) (fun o3 q5 => ?_)
      obtain ⟨q5_0, q5_1, q5_2, q5_3⟩ := q5
      exact Go_i (show 1 ≤ ((o3.2.1)) ∧ ((o3.2.1)) ≤ 10 ∧ (∀ k : Nat, k < 10 → 0 ≤ zget ((o3.2.2)) k ∧ zget ((o3.2.2)) k ≤ 20) from ⟨(by first | assumption | omega), (by first | assumption | omega), (by first | assumption | exact all_w (by assumption) (by omega) | (refine all_setw ?_ (Int.le_refl _) ?_ ?_ (by omega) (by omega) <;> first | assumption | omega) | exact all_setw (by assumption) (by omega) (by omega) (by omega) (by omega) (by omega))⟩)
set_option maxRecDepth 20000 in
theorem ok_X10_cutOff (mk : Nat) (endless_size : Int) (endless_numbers : Nat) (i1 : Int) (p0 : 1 ≤ endless_size) (p1 : endless_size ≤ 10) (p2 : (∀ k : Nat, k < 10 → 0 ≤ zget endless_numbers k ∧ zget endless_numbers k ≤ 20)) (p3 : -2147483648 ≤ i1) (p4 : i1 ≤ 2147483647) : Go (fun o => 1 ≤ (o.2.1) ∧ (o.2.1) ≤ 10 ∧ (∀ k : Nat, k < 10 → 0 ≤ zget (o.2.2) k ∧ zget (o.2.2) k ≤ 20)) (zf_X10_cutOff mk endless_size endless_numbers i1) := by
  unfold zf_X10_cutOff
  refine Go_bindP (ok_X2_hasPlace endless_size i1 (by first | assumption | omega) (by first | assumption | omega) (by first | assumption | omega) (by first | assumption | omega)) (fun o1 q1 => ?_)
  obtain ⟨q1_0, q1_1⟩ := q1
  refine Go_ite (fun c2 => ?_) (fun c2 => ?_)
  · have dc2 := q1_1 c2
    exact Go_i (show 1 ≤ (endless_size) ∧ (endless_size) ≤ 10 ∧ (∀ k : Nat, k < 10 → 0 ≤ zget (endless_numbers) k ∧ zget (endless_numbers) k ≤ 20) from ⟨(by first | assumption | omega), (by first | assumption | omega), (by first | assumption | exact all_w (by assumption) (by omega) | (refine all_setw ?_ (Int.le_refl _) ?_ ?_ (by omega) (by omega) <;> first | assumption | omega) | exact all_setw (by assumption) (by omega) (by omega) (by omega) (by omega) (by omega))⟩)
  · have dc2 := q1_0 (bnf c2)
    refine Go_bindP (ok_X2_canLose endless_size endless_numbers i1 (by first | assumption | omega) (by first | assumption | omega) (by first | assumption | exact all_w (by assumption) (by omega) | (refine all_setw ?_ (Int.le_refl _) ?_ ?_ (by omega) (by omega) <;> first | assumption | omega) | exact all_setw (by assumption) (by omega) (by omega) (by omega) (by omega) (by omega)) (by first | assumption | omega) (by first | assumption | omega)) (fun o2 q3 => ?_)
    obtain ⟨q3_0, q3_1⟩ := q3
    refine Go_ite (fun c4 => ?_) (fun c4 => ?_)
    · have dc4 := q3_1 c4
      exact Go_i (show 1 ≤ (endless_size) ∧ (endless_size) ≤ 10 ∧ (∀ k : Nat, k < 10 → 0 ≤ zget (endless_numbers) k ∧ zget (endless_numbers) k ≤ 20) from ⟨(by first | assumption | omega), (by first | assumption | omega), (by first | assumption | exact all_w (by assumption) (by omega) | (refine all_setw ?_ (Int.le_refl _) ?_ ?_ (by omega) (by omega) <;> first | assumption | omega) | exact all_setw (by assumption) (by omega) (by omega) (by omega) (by omega) (by omega))⟩)
    · have dc4 := q3_0 (bnf c4)
      refine Go_bindP (ok_X2_lose endless_size endless_numbers i1 (by first | assumption | omega) (by first | assumption | omega) (by first | assumption | exact all_w (by assumption) (by omega) | (refine all_setw ?_ (Int.le_refl _) ?_ ?_ (by omega) (by omega) <;> first | assumption | omega) | exact all_setw (by assumption) (by omega) (by omega) (by omega) (by omega) (by omega)) (by first | assumption | omega) (by first | assumption | omega)) (fun o3 q5 => ?_)
      obtain ⟨q5_0, q5_1, q5_2, q5_3⟩ := q5
      exact Go_i (show 1 ≤ ((o3.2.1)) ∧ ((o3.2.1)) ≤ 10 ∧ (∀ k : Nat, k < 10 → 0 ≤ zget ((o3.2.2)) k ∧ zget ((o3.2.2)) k ≤ 20) from ⟨(by first | assumption | omega), (by first | assumption | omega), (by first | assumption | exact all_w (by assumption) (by omega) | (refine all_setw ?_ (Int.le_refl _) ?_ ?_ (by omega) (by omega) <;> first | assumption | omega) | exact all_setw (by assumption) (by omega) (by omega) (by omega) (by omega) (by omega))⟩)
set_option maxRecDepth 20000 in
theorem ok_X10_core (mk : Nat) (endless_size : Int) (endless_numbers : Nat) (p0 : 1 ≤ endless_size) (p1 : endless_size ≤ 10) (p2 : (∀ k : Nat, k < 10 → 0 ≤ zget endless_numbers k ∧ zget endless_numbers k ≤ 20)) : Go (fun o => 1 ≤ (o.2.1) ∧ (o.2.1) ≤ 10 ∧ (∀ k : Nat, k < 10 → 0 ≤ zget (o.2.2) k ∧ zget (o.2.2) k ≤ 20)) (zf_X10_core mk endless_size endless_numbers) := by
  unfold zf_X10_core
  refine Go_bindP (ok_X2_loseAll endless_size endless_numbers (by first | assumption | omega) (by first | assumption | omega) (by first | assumption | exact all_w (by assumption) (by omega) | (refine all_setw ?_ (Int.le_refl _) ?_ ?_ (by omega) (by omega) <;> first | assumption | omega) | exact all_setw (by assumption) (by omega) (by omega) (by omega) (by omega) (by omega))) (fun o1 q1 => ?_)
  obtain ⟨q1_0, q1_1, q1_2, q1_3, q1_4⟩ := q1
  exact Go_i (show 1 ≤ ((o1.2.1)) ∧ ((o1.2.1)) ≤ 10 ∧ (∀ k : Nat, k < 10 → 0 ≤ zget ((o1.2.2)) k ∧ zget ((o1.2.2)) k ≤ 20) from ⟨(by first | assumption | omega), (by first | assumption | omega), (by first | assumption | exact all_w (by assumption) (by omega) | (refine all_setw ?_ (Int.le_refl _) ?_ ?_ (by omega) (by omega) <;> first | assumption | omega) | exact all_setw (by assumption) (by omega) (by omega) (by omega) (by omega) (by omega))⟩)
set_option maxRecDepth 20000 in
theorem ok_X10_isValue (i0 : Int) (p0 : -2147483648 ≤ i0) (p1 : i0 ≤ 2147483647) : Go (fun o => ((o) = true → 0 ≤ i0 ∧ i0 ≤ 9999) ∧ ((o) = false → ¬ (0 ≤ i0 ∧ i0 ≤ 9999))) (zf_X10_isValue i0) := by
  unfold zf_X10_isValue
  refine Go_chk (by unfold zout; omega) ?_
  refine Go_ite (fun c1 => ?_) (fun c1 => ?_)
  · exact Go_i (show ((false) = true → 0 ≤ i0 ∧ i0 ≤ 9999) ∧ ((false) = false → ¬ (0 ≤ i0 ∧ i0 ≤ 9999)) from ⟨(by intro h; first | exact True.intro | omega | (exact absurd h (by decide))), (by intro h; first | exact True.intro | omega | (exact absurd h (by decide)))⟩)
  · refine Go_ite (fun c2 => ?_) (fun c2 => ?_)
    · exact Go_i (show ((false) = true → 0 ≤ i0 ∧ i0 ≤ 9999) ∧ ((false) = false → ¬ (0 ≤ i0 ∧ i0 ≤ 9999)) from ⟨(by intro h; first | exact True.intro | omega | (exact absurd h (by decide))), (by intro h; first | exact True.intro | omega | (exact absurd h (by decide)))⟩)
    · exact Go_i (show ((true) = true → 0 ≤ i0 ∧ i0 ≤ 9999) ∧ ((true) = false → ¬ (0 ≤ i0 ∧ i0 ≤ 9999)) from ⟨(by intro h; first | exact True.intro | omega | (exact absurd h (by decide))), (by intro h; first | exact True.intro | omega | (exact absurd h (by decide)))⟩)
set_option maxRecDepth 20000 in
theorem ok_X10_see (mk : Nat) (t_polygon : Nat) (sightings_size : Int) (sightings_latest : Int) (sightings_seenStep : Nat) (sightings_seenFrom : Nat) (sightings_seenTo : Nat) (sightings_seenValue : Nat) (sightings_timesRight : Nat) (i1 : Int) (i2 : Int) (i3 : Int) (i4 : Int) (p0 : ¬ zno mk t_polygon) (p1 : 0 ≤ sightings_size) (p2 : sightings_size ≤ 20) (p3 : 0 ≤ sightings_latest) (p4 : sightings_latest ≤ 999) (p5 : (∀ k : Nat, (k : Int) < sightings_size → 0 ≤ zget sightings_seenFrom k ∧ zget sightings_seenFrom k < (t_polygon : Int))) (p6 : (∀ k : Nat, (k : Int) < sightings_size → 0 ≤ zget sightings_seenTo k ∧ zget sightings_seenTo k < (t_polygon : Int))) (p7 : -2147483648 ≤ i1) (p8 : i1 ≤ 2147483647) (p9 : -2147483648 ≤ i2) (p10 : i2 ≤ 2147483647) (p11 : -2147483648 ≤ i3) (p12 : i3 ≤ 2147483647) (p13 : -2147483648 ≤ i4) (p14 : i4 ≤ 2147483647) : Go (fun o => 0 ≤ (o.2.1) ∧ (o.2.1) ≤ 20 ∧ 0 ≤ (o.2.2.1) ∧ (o.2.2.1) ≤ 999 ∧ (∀ k : Nat, (k : Int) < (o.2.1) → 0 ≤ zget (o.2.2.2.2.1) k ∧ zget (o.2.2.2.2.1) k < (t_polygon : Int)) ∧ (∀ k : Nat, (k : Int) < (o.2.1) → 0 ≤ zget (o.2.2.2.2.2.1) k ∧ zget (o.2.2.2.2.2.1) k < (t_polygon : Int))) (zf_X10_see mk t_polygon sightings_size sightings_latest sightings_seenStep sightings_seenFrom sightings_seenTo sightings_seenValue sightings_timesRight i1 i2 i3 i4) := by
  unfold zf_X10_see
  have grt_polygon := zno_rng p0
  have g7t_polygon := rpg7 (n := t_polygon) (by omega) (by omega)
  have g8t_polygon := rpg8 (n := t_polygon) (by omega) (by omega)
  refine Go_bindP (ok_X7_canTell sightings_latest i1 (by first | assumption | omega) (by first | assumption | omega) (by first | assumption | omega) (by first | assumption | omega)) (fun o1 q1 => ?_)
  obtain ⟨q1_0, q1_1⟩ := q1
  refine Go_ite (fun c2 => ?_) (fun c2 => ?_)
  · have dc2 := q1_1 c2
    exact Go_i (show 0 ≤ (sightings_size) ∧ (sightings_size) ≤ 20 ∧ 0 ≤ (sightings_latest) ∧ (sightings_latest) ≤ 999 ∧ (∀ k : Nat, (k : Int) < (sightings_size) → 0 ≤ zget (sightings_seenFrom) k ∧ zget (sightings_seenFrom) k < (t_polygon : Int)) ∧ (∀ k : Nat, (k : Int) < (sightings_size) → 0 ≤ zget (sightings_seenTo) k ∧ zget (sightings_seenTo) k < (t_polygon : Int)) from ⟨(by first | assumption | omega), (by first | assumption | omega), (by first | assumption | omega), (by first | assumption | omega), (by first | assumption | exact all_w (by assumption) (by omega) | (refine all_setw ?_ (Int.le_refl _) ?_ ?_ (by omega) (by omega) <;> first | assumption | omega) | exact all_setw (by assumption) (by omega) (by omega) (by omega) (by omega) (by omega)), (by first | assumption | exact all_w (by assumption) (by omega) | (refine all_setw ?_ (Int.le_refl _) ?_ ?_ (by omega) (by omega) <;> first | assumption | omega) | exact all_setw (by assumption) (by omega) (by omega) (by omega) (by omega) (by omega))⟩)
  · have dc2 := q1_0 (bnf c2)
    refine Go_bindP (ok_X10_areCorners mk t_polygon i2 i3 (by first | assumption | omega) (by first | assumption | omega) (by first | assumption | omega) (by first | assumption | omega) (by first | assumption | omega)) (fun o2 q3 => ?_)
    obtain ⟨q3_0, q3_1⟩ := q3
    refine Go_ite (fun c4 => ?_) (fun c4 => ?_)
    · have dc4 := q3_1 c4
      exact Go_i (show 0 ≤ (sightings_size) ∧ (sightings_size) ≤ 20 ∧ 0 ≤ (sightings_latest) ∧ (sightings_latest) ≤ 999 ∧ (∀ k : Nat, (k : Int) < (sightings_size) → 0 ≤ zget (sightings_seenFrom) k ∧ zget (sightings_seenFrom) k < (t_polygon : Int)) ∧ (∀ k : Nat, (k : Int) < (sightings_size) → 0 ≤ zget (sightings_seenTo) k ∧ zget (sightings_seenTo) k < (t_polygon : Int)) from ⟨(by first | assumption | omega), (by first | assumption | omega), (by first | assumption | omega), (by first | assumption | omega), (by first | assumption | exact all_w (by assumption) (by omega) | (refine all_setw ?_ (Int.le_refl _) ?_ ?_ (by omega) (by omega) <;> first | assumption | omega) | exact all_setw (by assumption) (by omega) (by omega) (by omega) (by omega) (by omega)), (by first | assumption | exact all_w (by assumption) (by omega) | (refine all_setw ?_ (Int.le_refl _) ?_ ?_ (by omega) (by omega) <;> first | assumption | omega) | exact all_setw (by assumption) (by omega) (by omega) (by omega) (by omega) (by omega))⟩)
    · have dc4 := q3_0 (bnf c4)
      refine Go_chk (by unfold zout; omega) ?_
      refine Go_chk (by unfold zout; omega) ?_
      refine Go_ite (fun c5 => ?_) (fun c5 => ?_)
      · exact Go_i (show 0 ≤ (sightings_size) ∧ (sightings_size) ≤ 20 ∧ 0 ≤ (sightings_latest) ∧ (sightings_latest) ≤ 999 ∧ (∀ k : Nat, (k : Int) < (sightings_size) → 0 ≤ zget (sightings_seenFrom) k ∧ zget (sightings_seenFrom) k < (t_polygon : Int)) ∧ (∀ k : Nat, (k : Int) < (sightings_size) → 0 ≤ zget (sightings_seenTo) k ∧ zget (sightings_seenTo) k < (t_polygon : Int)) from ⟨(by first | assumption | omega), (by first | assumption | omega), (by first | assumption | omega), (by first | assumption | omega), (by first | assumption | exact all_w (by assumption) (by omega) | (refine all_setw ?_ (Int.le_refl _) ?_ ?_ (by omega) (by omega) <;> first | assumption | omega) | exact all_setw (by assumption) (by omega) (by omega) (by omega) (by omega) (by omega)), (by first | assumption | exact all_w (by assumption) (by omega) | (refine all_setw ?_ (Int.le_refl _) ?_ ?_ (by omega) (by omega) <;> first | assumption | omega) | exact all_setw (by assumption) (by omega) (by omega) (by omega) (by omega) (by omega))⟩)
      · refine Go_bindP (ok_X10_isValue i4 (by first | assumption | omega) (by first | assumption | omega)) (fun o5 q6 => ?_)
        obtain ⟨q6_0, q6_1⟩ := q6
        refine Go_ite (fun c7 => ?_) (fun c7 => ?_)
        · have dc7 := q6_1 c7
          exact Go_i (show 0 ≤ (sightings_size) ∧ (sightings_size) ≤ 20 ∧ 0 ≤ (sightings_latest) ∧ (sightings_latest) ≤ 999 ∧ (∀ k : Nat, (k : Int) < (sightings_size) → 0 ≤ zget (sightings_seenFrom) k ∧ zget (sightings_seenFrom) k < (t_polygon : Int)) ∧ (∀ k : Nat, (k : Int) < (sightings_size) → 0 ≤ zget (sightings_seenTo) k ∧ zget (sightings_seenTo) k < (t_polygon : Int)) from ⟨(by first | assumption | omega), (by first | assumption | omega), (by first | assumption | omega), (by first | assumption | omega), (by first | assumption | exact all_w (by assumption) (by omega) | (refine all_setw ?_ (Int.le_refl _) ?_ ?_ (by omega) (by omega) <;> first | assumption | omega) | exact all_setw (by assumption) (by omega) (by omega) (by omega) (by omega) (by omega)), (by first | assumption | exact all_w (by assumption) (by omega) | (refine all_setw ?_ (Int.le_refl _) ?_ ?_ (by omega) (by omega) <;> first | assumption | omega) | exact all_setw (by assumption) (by omega) (by omega) (by omega) (by omega) (by omega))⟩)
        · have dc7 := q6_0 (bnf c7)
          refine Go_bindP (ok_X7_add sightings_size sightings_latest sightings_seenStep sightings_seenFrom sightings_seenTo sightings_seenValue sightings_timesRight i1 i2 i3 i4 (by first | assumption | omega) (by first | assumption | omega)) (fun o6 q8 => ?_)
          obtain ⟨q8_0, q8_1, q8_2, q8_3⟩ := q8
          exact Go_i (show 0 ≤ ((o6.2.1)) ∧ ((o6.2.1)) ≤ 20 ∧ 0 ≤ ((o6.2.2.1)) ∧ ((o6.2.2.1)) ≤ 999 ∧ (∀ k : Nat, (k : Int) < ((o6.2.1)) → 0 ≤ zget ((o6.2.2.2.2.1)) k ∧ zget ((o6.2.2.2.2.1)) k < (t_polygon : Int)) ∧ (∀ k : Nat, (k : Int) < ((o6.2.1)) → 0 ≤ zget ((o6.2.2.2.2.2.1)) k ∧ zget ((o6.2.2.2.2.2.1)) k < (t_polygon : Int)) from ⟨(by first | assumption | omega), (by first | assumption | omega), (by first | assumption | omega), (by first | assumption | omega), (by exact (Decidable.em (o6.1 = -3)).elim (fun z => by have e := q8_2 z; rw [e.1, e.2.2.1]; assumption) (fun z => by have e := q8_3 z; rw [e.1, e.2.2.1]; exact all_push (by assumption) (by omega) (by omega) (by omega) (by omega) (by omega))), (by exact (Decidable.em (o6.1 = -3)).elim (fun z => by have e := q8_2 z; rw [e.1, e.2.2.2]; assumption) (fun z => by have e := q8_3 z; rw [e.1, e.2.2.2]; exact all_push (by assumption) (by omega) (by omega) (by omega) (by omega) (by omega)))⟩)
set_option maxRecDepth 20000 in
theorem ok_X10_right (mk : Nat) (sightings_size : Int) (sightings_rights : Int) (sightings_latest : Int) (sightings_seenStep : Nat) (sightings_timesRight : Nat) (sightings_rightStep : Nat) (sightings_rightOf : Nat) (sightings_rightValue : Nat) (i1 : Int) (i2 : Int) (i3 : Int) (p0 : 0 ≤ sightings_size) (p1 : sightings_size ≤ 20) (p2 : 0 ≤ sightings_rights) (p3 : sightings_rights ≤ 20) (p4 : 0 ≤ sightings_latest) (p5 : sightings_latest ≤ 999) (p6 : -2147483648 ≤ i1) (p7 : i1 ≤ 2147483647) (p8 : -2147483648 ≤ i2) (p9 : i2 ≤ 2147483647) (p10 : -2147483648 ≤ i3) (p11 : i3 ≤ 2147483647) : Go (fun o => 0 ≤ (o.2.1) ∧ (o.2.1) ≤ 20 ∧ 0 ≤ (o.2.2.1) ∧ (o.2.2.1) ≤ 999) (zf_X10_right mk sightings_size sightings_rights sightings_latest sightings_seenStep sightings_timesRight sightings_rightStep sightings_rightOf sightings_rightValue i1 i2 i3) := by
  unfold zf_X10_right
  refine Go_bindP (ok_X7_canTell sightings_latest i1 (by first | assumption | omega) (by first | assumption | omega) (by first | assumption | omega) (by first | assumption | omega)) (fun o1 q1 => ?_)
  obtain ⟨q1_0, q1_1⟩ := q1
  refine Go_ite (fun c2 => ?_) (fun c2 => ?_)
  · have dc2 := q1_1 c2
    exact Go_i (show 0 ≤ (sightings_rights) ∧ (sightings_rights) ≤ 20 ∧ 0 ≤ (sightings_latest) ∧ (sightings_latest) ≤ 999 from ⟨(by first | assumption | omega), (by first | assumption | omega), (by first | assumption | omega), (by first | assumption | omega)⟩)
  · have dc2 := q1_0 (bnf c2)
    refine Go_bindP (ok_X7_wasSeenBefore sightings_size sightings_seenStep i1 i2 (by first | assumption | omega) (by first | assumption | omega) (by first | assumption | omega) (by first | assumption | omega) (by first | assumption | omega) (by first | assumption | omega)) (fun o2 q3 => ?_)
    obtain ⟨q3_0, q3_1⟩ := q3
    refine Go_ite (fun c4 => ?_) (fun c4 => ?_)
    · have dc4 := q3_1 c4
      exact Go_i (show 0 ≤ (sightings_rights) ∧ (sightings_rights) ≤ 20 ∧ 0 ≤ (sightings_latest) ∧ (sightings_latest) ≤ 999 from ⟨(by first | assumption | omega), (by first | assumption | omega), (by first | assumption | omega), (by first | assumption | omega)⟩)
    · have dc4 := q3_0 (bnf c4)
      refine Go_bindP (ok_X10_isValue i3 (by first | assumption | omega) (by first | assumption | omega)) (fun o3 q5 => ?_)
      obtain ⟨q5_0, q5_1⟩ := q5
      refine Go_ite (fun c6 => ?_) (fun c6 => ?_)
      · have dc6 := q5_1 c6
        exact Go_i (show 0 ≤ (sightings_rights) ∧ (sightings_rights) ≤ 20 ∧ 0 ≤ (sightings_latest) ∧ (sightings_latest) ≤ 999 from ⟨(by first | assumption | omega), (by first | assumption | omega), (by first | assumption | omega), (by first | assumption | omega)⟩)
      · have dc6 := q5_0 (bnf c6)
        refine Go_bindP (ok_X7_putRight sightings_size sightings_rights sightings_latest sightings_timesRight sightings_rightStep sightings_rightOf sightings_rightValue i1 i2 i3 (by first | assumption | omega) (by first | assumption | omega) (by first | assumption | omega) (by first | assumption | omega) (by first | assumption | omega) (by first | assumption | omega)) (fun o4 q7 => ?_)
        obtain ⟨q7_0, q7_1, q7_2⟩ := q7
        exact Go_i (show 0 ≤ ((o4.2.1)) ∧ ((o4.2.1)) ≤ 20 ∧ 0 ≤ ((o4.2.2.1)) ∧ ((o4.2.2.1)) ≤ 999 from ⟨(by first | assumption | omega), (by first | assumption | omega), (by first | assumption | omega), (by first | assumption | omega)⟩)
set_option maxRecDepth 20000 in
theorem ok_X10_isStep (i0 : Int) (p0 : -2147483648 ≤ i0) (p1 : i0 ≤ 2147483647) : Go (fun o => ((o) = true → 0 ≤ i0 ∧ i0 ≤ 999) ∧ ((o) = false → ¬ (0 ≤ i0 ∧ i0 ≤ 999))) (zf_X10_isStep i0) := by
  unfold zf_X10_isStep
  refine Go_chk (by unfold zout; omega) ?_
  refine Go_ite (fun c1 => ?_) (fun c1 => ?_)
  · exact Go_i (show ((false) = true → 0 ≤ i0 ∧ i0 ≤ 999) ∧ ((false) = false → ¬ (0 ≤ i0 ∧ i0 ≤ 999)) from ⟨(by intro h; first | exact True.intro | omega | (exact absurd h (by decide))), (by intro h; first | exact True.intro | omega | (exact absurd h (by decide)))⟩)
  · refine Go_ite (fun c2 => ?_) (fun c2 => ?_)
    · exact Go_i (show ((false) = true → 0 ≤ i0 ∧ i0 ≤ 999) ∧ ((false) = false → ¬ (0 ≤ i0 ∧ i0 ≤ 999)) from ⟨(by intro h; first | exact True.intro | omega | (exact absurd h (by decide))), (by intro h; first | exact True.intro | omega | (exact absurd h (by decide)))⟩)
    · exact Go_i (show ((true) = true → 0 ≤ i0 ∧ i0 ≤ 999) ∧ ((true) = false → ¬ (0 ≤ i0 ∧ i0 ≤ 999)) from ⟨(by intro h; first | exact True.intro | omega | (exact absurd h (by decide))), (by intro h; first | exact True.intro | omega | (exact absurd h (by decide)))⟩)
set_option maxRecDepth 20000 in
theorem ok_X10_fit (mk : Nat) (t_polygon : Nat) (sightings_size : Int) (sightings_rights : Int) (sightings_seenStep : Nat) (sightings_seenFrom : Nat) (sightings_seenTo : Nat) (sightings_seenValue : Nat) (sightings_rightStep : Nat) (sightings_rightOf : Nat) (sightings_rightValue : Nat) (sightings_knownValue : Nat) (fitting_size : Int) (fitting_numbers : Nat) (i1 : Int) (i2 : Int) (p0 : ¬ zno mk t_polygon) (p1 : 0 ≤ sightings_size) (p2 : sightings_size ≤ 20) (p3 : 0 ≤ sightings_rights) (p4 : sightings_rights ≤ 20) (p5 : (∀ k : Nat, (k : Int) < sightings_size → 0 ≤ zget sightings_seenFrom k ∧ zget sightings_seenFrom k < (t_polygon : Int))) (p6 : (∀ k : Nat, (k : Int) < sightings_size → 0 ≤ zget sightings_seenTo k ∧ zget sightings_seenTo k < (t_polygon : Int))) (p7 : -2147483648 ≤ i1) (p8 : i1 ≤ 2147483647) (p9 : -2147483648 ≤ i2) (p10 : i2 ≤ 2147483647) (p11 : 0 ≤ fitting_size) (p12 : fitting_size ≤ 429) : Go (fun o => 0 ≤ (o.2.2.1) ∧ (o.2.2.1) ≤ 429) (zf_X10_fit mk t_polygon sightings_size sightings_rights sightings_seenStep sightings_seenFrom sightings_seenTo sightings_seenValue sightings_rightStep sightings_rightOf sightings_rightValue sightings_knownValue fitting_size fitting_numbers i1 i2) := by
  unfold zf_X10_fit
  have grt_polygon := zno_rng p0
  have g7t_polygon := rpg7 (n := t_polygon) (by omega) (by omega)
  have g8t_polygon := rpg8 (n := t_polygon) (by omega) (by omega)
  refine Go_bindP (ok_X10_isStep i1 (by first | assumption | omega) (by first | assumption | omega)) (fun o1 q1 => ?_)
  obtain ⟨q1_0, q1_1⟩ := q1
  refine Go_ite (fun c2 => ?_) (fun c2 => ?_)
  · have dc2 := q1_1 c2
    exact Go_i (show 0 ≤ (fitting_size) ∧ (fitting_size) ≤ 429 from ⟨(by first | assumption | omega), (by first | assumption | omega)⟩)
  · have dc2 := q1_0 (bnf c2)
    refine Go_chk (by unfold zout; omega) ?_
    refine Go_ite (fun c3 => ?_) (fun c3 => ?_)
    · exact Go_i (show 0 ≤ (fitting_size) ∧ (fitting_size) ≤ 429 from ⟨(by first | assumption | omega), (by first | assumption | omega)⟩)
    · refine Go_ite (fun c4 => ?_) (fun c4 => ?_)
      · refine Go_chk (by assumption) ?_
        refine Go_bindP (ok_X3_gather mk fitting_size fitting_numbers sightings_size sightings_rights sightings_seenStep sightings_seenFrom sightings_seenTo sightings_seenValue sightings_rightStep sightings_rightOf sightings_rightValue sightings_knownValue t_polygon i1 (by first | assumption | omega) (by first | assumption | omega) (by first | assumption | omega) (by first | assumption | omega) (by first | assumption | omega) (by first | assumption | exact all_w (by assumption) (by omega) | (refine all_setw ?_ (Int.le_refl _) ?_ ?_ (by omega) (by omega) <;> first | assumption | omega) | exact all_setw (by assumption) (by omega) (by omega) (by omega) (by omega) (by omega)) (by first | assumption | exact all_w (by assumption) (by omega) | (refine all_setw ?_ (Int.le_refl _) ?_ ?_ (by omega) (by omega) <;> first | assumption | omega) | exact all_setw (by assumption) (by omega) (by omega) (by omega) (by omega) (by omega)) (by first | assumption | omega) (by first | assumption | omega)) (fun o4 q5 => ?_)
        obtain ⟨q5_0, q5_1, q5_2⟩ := q5
        refine Go_ite (fun c6 => ?_) (fun c6 => ?_)
        · refine Go_bindP (ok_X3_size (o4.1) ) (fun o6 q7 => ?_)
          exact Go_i (show 0 ≤ ((o4.1)) ∧ ((o4.1)) ≤ 429 from ⟨(by first | assumption | omega), (by first | assumption | omega)⟩)
        · refine Go_bindP (ok_X3_leastNumber (o4.1) (o4.2.1) (by first | assumption | omega) (by first | assumption | omega)) (fun o5 q8 => ?_)
          obtain ⟨q8_0, q8_1⟩ := q8
          exact Go_i (show 0 ≤ ((o4.1)) ∧ ((o4.1)) ≤ 429 from ⟨(by first | assumption | omega), (by first | assumption | omega)⟩)
      · exact Go_i (show 0 ≤ (fitting_size) ∧ (fitting_size) ≤ 429 from ⟨(by first | assumption | omega), (by first | assumption | omega)⟩)
set_option maxRecDepth 20000 in
theorem ok_X10_surely (mk : Nat) (t_polygon : Nat) (sightings_size : Int) (sightings_rights : Int) (sightings_seenStep : Nat) (sightings_seenFrom : Nat) (sightings_seenTo : Nat) (sightings_seenValue : Nat) (sightings_rightStep : Nat) (sightings_rightOf : Nat) (sightings_rightValue : Nat) (sightings_knownValue : Nat) (fitting_size : Int) (fitting_numbers : Nat) (i1 : Int) (i2 : Int) (i3 : Int) (p0 : ¬ zno mk t_polygon) (p1 : 0 ≤ sightings_size) (p2 : sightings_size ≤ 20) (p3 : 0 ≤ sightings_rights) (p4 : sightings_rights ≤ 20) (p5 : (∀ k : Nat, (k : Int) < sightings_size → 0 ≤ zget sightings_seenFrom k ∧ zget sightings_seenFrom k < (t_polygon : Int))) (p6 : (∀ k : Nat, (k : Int) < sightings_size → 0 ≤ zget sightings_seenTo k ∧ zget sightings_seenTo k < (t_polygon : Int))) (p7 : -2147483648 ≤ i1) (p8 : i1 ≤ 2147483647) (p9 : -2147483648 ≤ i2) (p10 : i2 ≤ 2147483647) (p11 : -2147483648 ≤ i3) (p12 : i3 ≤ 2147483647) (p13 : 0 ≤ fitting_size) (p14 : fitting_size ≤ 429) : Go (fun o => 0 ≤ (o.2.2.1) ∧ (o.2.2.1) ≤ 429) (zf_X10_surely mk t_polygon sightings_size sightings_rights sightings_seenStep sightings_seenFrom sightings_seenTo sightings_seenValue sightings_rightStep sightings_rightOf sightings_rightValue sightings_knownValue fitting_size fitting_numbers i1 i2 i3) := by
  unfold zf_X10_surely
  have grt_polygon := zno_rng p0
  have g7t_polygon := rpg7 (n := t_polygon) (by omega) (by omega)
  have g8t_polygon := rpg8 (n := t_polygon) (by omega) (by omega)
  refine Go_bindP (ok_X10_isStep i3 (by first | assumption | omega) (by first | assumption | omega)) (fun o1 q1 => ?_)
  obtain ⟨q1_0, q1_1⟩ := q1
  refine Go_ite (fun c2 => ?_) (fun c2 => ?_)
  · have dc2 := q1_1 c2
    exact Go_i (show 0 ≤ (fitting_size) ∧ (fitting_size) ≤ 429 from ⟨(by first | assumption | omega), (by first | assumption | omega)⟩)
  · have dc2 := q1_0 (bnf c2)
    refine Go_bindP (ok_X10_areCorners mk t_polygon i1 i2 (by first | assumption | omega) (by first | assumption | omega) (by first | assumption | omega) (by first | assumption | omega) (by first | assumption | omega)) (fun o2 q3 => ?_)
    obtain ⟨q3_0, q3_1⟩ := q3
    refine Go_ite (fun c4 => ?_) (fun c4 => ?_)
    · have dc4 := q3_1 c4
      exact Go_i (show 0 ≤ (fitting_size) ∧ (fitting_size) ≤ 429 from ⟨(by first | assumption | omega), (by first | assumption | omega)⟩)
    · have dc4 := q3_0 (bnf c4)
      refine Go_chk (by assumption) ?_
      refine Go_bindP (ok_X5_lineOf t_polygon i1 i2 (by first | assumption | omega) (by first | assumption | omega) (by first | assumption | omega) (by first | assumption | omega) (by first | assumption | omega) (by first | assumption | omega)) (fun o4 q5 => ?_)
      obtain ⟨q5_0, q5_1⟩ := q5
      refine Go_chk (by unfold zout; omega) ?_
      refine Go_ite (fun c6 => ?_) (fun c6 => ?_)
      · exact Go_i (show 0 ≤ (fitting_size) ∧ (fitting_size) ≤ 429 from ⟨(by first | assumption | omega), (by first | assumption | omega)⟩)
      · refine Go_bindP (ok_X3_gather mk fitting_size fitting_numbers sightings_size sightings_rights sightings_seenStep sightings_seenFrom sightings_seenTo sightings_seenValue sightings_rightStep sightings_rightOf sightings_rightValue sightings_knownValue t_polygon i3 (by first | assumption | omega) (by first | assumption | omega) (by first | assumption | omega) (by first | assumption | omega) (by first | assumption | omega) (by first | assumption | exact all_w (by assumption) (by omega) | (refine all_setw ?_ (Int.le_refl _) ?_ ?_ (by omega) (by omega) <;> first | assumption | omega) | exact all_setw (by assumption) (by omega) (by omega) (by omega) (by omega) (by omega)) (by first | assumption | exact all_w (by assumption) (by omega) | (refine all_setw ?_ (Int.le_refl _) ?_ ?_ (by omega) (by omega) <;> first | assumption | omega) | exact all_setw (by assumption) (by omega) (by omega) (by omega) (by omega) (by omega)) (by first | assumption | omega) (by first | assumption | omega)) (fun o6 q7 => ?_)
        obtain ⟨q7_0, q7_1, q7_2⟩ := q7
        refine Go_bindP (ok_X5_lineOf t_polygon i1 i2 (by first | assumption | omega) (by first | assumption | omega) (by first | assumption | omega) (by first | assumption | omega) (by first | assumption | omega) (by first | assumption | omega)) (fun o7 q8 => ?_)
        obtain ⟨q8_0, q8_1⟩ := q8
        refine Go_bindP (ok_X3_howSure mk (o6.1) (o6.2.1) t_polygon o7 (by first | assumption | omega) (by first | assumption | omega) (by first | assumption | omega) (by first | assumption | exact all_w (by assumption) (by omega) | (refine all_setw ?_ (Int.le_refl _) ?_ ?_ (by omega) (by omega) <;> first | assumption | omega) | exact all_setw (by assumption) (by omega) (by omega) (by omega) (by omega) (by omega)) (by first | assumption | omega) (by first | assumption | omega)) (fun o8 q9 => ?_)
        obtain ⟨q9_0, q9_1⟩ := q9
        exact Go_i (show 0 ≤ ((o6.1)) ∧ ((o6.1)) ≤ 429 from ⟨(by first | assumption | omega), (by first | assumption | omega)⟩)
set_option maxRecDepth 20000 in
theorem ok_X10_ask (mk : Nat) (t_polygon : Nat) (sightings_size : Int) (sightings_rights : Int) (sightings_seenStep : Nat) (sightings_seenFrom : Nat) (sightings_seenTo : Nat) (sightings_seenValue : Nat) (sightings_rightStep : Nat) (sightings_rightOf : Nat) (sightings_rightValue : Nat) (sightings_knownValue : Nat) (fitting_size : Int) (fitting_numbers : Nat) (fitting_tally : Nat) (i1 : Int) (p0 : ¬ zno mk t_polygon) (p1 : 0 ≤ sightings_size) (p2 : sightings_size ≤ 20) (p3 : 0 ≤ sightings_rights) (p4 : sightings_rights ≤ 20) (p5 : (∀ k : Nat, (k : Int) < sightings_size → 0 ≤ zget sightings_seenFrom k ∧ zget sightings_seenFrom k < (t_polygon : Int))) (p6 : (∀ k : Nat, (k : Int) < sightings_size → 0 ≤ zget sightings_seenTo k ∧ zget sightings_seenTo k < (t_polygon : Int))) (p7 : -2147483648 ≤ i1) (p8 : i1 ≤ 2147483647) (p9 : 0 ≤ fitting_size) (p10 : fitting_size ≤ 429) : Go (fun o => 0 ≤ (o.2.2.1) ∧ (o.2.2.1) ≤ 429) (zf_X10_ask mk t_polygon sightings_size sightings_rights sightings_seenStep sightings_seenFrom sightings_seenTo sightings_seenValue sightings_rightStep sightings_rightOf sightings_rightValue sightings_knownValue fitting_size fitting_numbers fitting_tally i1) := by
  unfold zf_X10_ask
  have grt_polygon := zno_rng p0
  have g7t_polygon := rpg7 (n := t_polygon) (by omega) (by omega)
  have g8t_polygon := rpg8 (n := t_polygon) (by omega) (by omega)
  refine Go_bindP (ok_X10_isStep i1 (by first | assumption | omega) (by first | assumption | omega)) (fun o1 q1 => ?_)
  obtain ⟨q1_0, q1_1⟩ := q1
  refine Go_ite (fun c2 => ?_) (fun c2 => ?_)
  · have dc2 := q1_1 c2
    exact Go_i (show 0 ≤ (fitting_size) ∧ (fitting_size) ≤ 429 from ⟨(by first | assumption | omega), (by first | assumption | omega)⟩)
  · have dc2 := q1_0 (bnf c2)
    refine Go_chk (by assumption) ?_
    refine Go_bindP (ok_X3_gather mk fitting_size fitting_numbers sightings_size sightings_rights sightings_seenStep sightings_seenFrom sightings_seenTo sightings_seenValue sightings_rightStep sightings_rightOf sightings_rightValue sightings_knownValue t_polygon i1 (by first | assumption | omega) (by first | assumption | omega) (by first | assumption | omega) (by first | assumption | omega) (by first | assumption | omega) (by first | assumption | exact all_w (by assumption) (by omega) | (refine all_setw ?_ (Int.le_refl _) ?_ ?_ (by omega) (by omega) <;> first | assumption | omega) | exact all_setw (by assumption) (by omega) (by omega) (by omega) (by omega) (by omega)) (by first | assumption | exact all_w (by assumption) (by omega) | (refine all_setw ?_ (Int.le_refl _) ?_ ?_ (by omega) (by omega) <;> first | assumption | omega) | exact all_setw (by assumption) (by omega) (by omega) (by omega) (by omega) (by omega)) (by first | assumption | omega) (by first | assumption | omega)) (fun o3 q3 => ?_)
    obtain ⟨q3_0, q3_1, q3_2⟩ := q3
    refine Go_bindP (ok_X3_bestQuestion mk (o3.1) (o3.2.1) fitting_tally t_polygon (by first | assumption | omega) (by first | assumption | omega) (by first | assumption | omega) (by first | assumption | exact all_w (by assumption) (by omega) | (refine all_setw ?_ (Int.le_refl _) ?_ ?_ (by omega) (by omega) <;> first | assumption | omega) | exact all_setw (by assumption) (by omega) (by omega) (by omega) (by omega) (by omega))) (fun o4 q4 => ?_)
    obtain ⟨q4_0, q4_1⟩ := q4
    exact Go_i (show 0 ≤ ((o3.1)) ∧ ((o3.1)) ≤ 429 from ⟨(by first | assumption | omega), (by first | assumption | omega)⟩)
set_option maxRecDepth 20000 in
theorem ok_X10_count (mk : Nat) (tape_length : Int) (sightings_size : Int) (sightings_rights : Int) (i1 : Int) (p0 : -2147483648 ≤ i1) (p1 : i1 ≤ 2147483647) : Go (fun o => True) (zf_X10_count mk tape_length sightings_size sightings_rights i1) := by
  unfold zf_X10_count
  refine Go_chk (by unfold zout; omega) ?_
  refine Go_ite (fun c1 => ?_) (fun c1 => ?_)
  · refine Go_bindP (ok_X7_size sightings_size ) (fun o3 q2 => ?_)
    exact Go_i (show True from trivial)
  · refine Go_ite (fun c3 => ?_) (fun c3 => ?_)
    · refine Go_bindP (ok_X7_rights sightings_rights ) (fun o5 q4 => ?_)
      exact Go_i (show True from trivial)
    · refine Go_ite (fun c5 => ?_) (fun c5 => ?_)
      · refine Go_bindP (ok_X8_size tape_length ) (fun o7 q6 => ?_)
        exact Go_i (show True from trivial)
      · exact Go_i (show True from trivial)
