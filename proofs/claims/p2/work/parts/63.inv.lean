structure zSX where
  x_polygon : Nat
  x_bits : Int
  x_mendedNumber : Int
  tape_length : Int
  tape_next : Int
  tape_kind : Int
  tape_place : Int
  tape_value : Int
  tape_bytes : Nat
  text_faultKind : Int
  text_faultPlace : Int
  text_expected : Int
  text_first : Int
  text_polygon : Nat
  text_bits : Int
  triangles_count : Int
  triangles_polygon : Nat
  triangles_from : Int
  triangles_length : Int
  triangles_waysAhead : Int
  triangles_cornersOf : Nat
  triangles_chosen : Nat
  crossedLines_size : Int
  crossedLines_lines : Nat
  flips_wayLength : Int
  flips_queued : Int
  flips_steps : Nat
  flips_queue : Nat
  flips_way : Nat
  endless_size : Int
  endless_numbers : Nat
  sightings_size : Int
  sightings_rights : Int
  sightings_latest : Int
  sightings_seenStep : Nat
  sightings_seenFrom : Nat
  sightings_seenTo : Nat
  sightings_seenValue : Nat
  sightings_timesRight : Nat
  sightings_rightStep : Nat
  sightings_rightOf : Nat
  sightings_rightValue : Nat
  sightings_knownValue : Nat
  fitting_size : Int
  fitting_numbers : Nat
  fitting_tally : Nat
  x_toldRow : Nat
structure zSY where
  y_taped : Int
  y_size : Int
  y_sort : Int
  y_at : Int
  y_end : Int
  y_number : Int
  y_faultKind : Int
  y_faultPlace : Int
  y_word : Int
  y_corners : Int
  y_lines : Int
  y_linesFor : Int
  y_listMany : Int
  y_listCorners : Int
  y_own : Int
  y_newCorners : Int
  y_newCut : Int
  y_wayLeft : Int
  y_flipOne : Int
  y_flipTwo : Int
  y_passedMany : Int
  y_rowMany : Int
  y_mendedBy : Int
  y_crossMany : Int
  y_periodMany : Int
  y_seenMany : Int
  y_rightMany : Int
  y_lastTold : Int
  y_tape : Nat
  y_numberOf : Nat
  y_lesser : Nat
  y_greater : Nat
  y_list : Nat
  y_tA : Nat
  y_tB : Nat
  y_tC : Nat
  y_from : Nat
  y_wayAt : Nat
  y_far : Nat
  y_queue : Nat
  y_passedBy : Nat
  y_told : Nat
  y_crossLine : Nat
  y_crossFar : Nat
  y_period : Nat
  y_sTold : Nat
  y_sOne : Nat
  y_sTwo : Nat
  y_sEntry : Nat
  y_rTold : Nat
  y_rOf : Nat
  y_rEntry : Nat
  y_fits : Nat
  y_heaps : Nat
def zIX (mk : Nat) (x_polygon : Nat) (x_bits : Int) (x_mendedNumber : Int) (tape_length : Int) (tape_next : Int) (tape_kind : Int) (tape_place : Int) (tape_value : Int) (tape_bytes : Nat) (text_faultKind : Int) (text_faultPlace : Int) (text_expected : Int) (text_first : Int) (text_polygon : Nat) (text_bits : Int) (triangles_count : Int) (triangles_polygon : Nat) (triangles_from : Int) (triangles_length : Int) (triangles_waysAhead : Int) (triangles_cornersOf : Nat) (triangles_chosen : Nat) (crossedLines_size : Int) (crossedLines_lines : Nat) (flips_wayLength : Int) (flips_queued : Int) (flips_steps : Nat) (flips_queue : Nat) (flips_way : Nat) (endless_size : Int) (endless_numbers : Nat) (sightings_size : Int) (sightings_rights : Int) (sightings_latest : Int) (sightings_seenStep : Nat) (sightings_seenFrom : Nat) (sightings_seenTo : Nat) (sightings_seenValue : Nat) (sightings_timesRight : Nat) (sightings_rightStep : Nat) (sightings_rightOf : Nat) (sightings_rightValue : Nat) (sightings_knownValue : Nat) (fitting_size : Int) (fitting_numbers : Nat) (fitting_tally : Nat) (x_toldRow : Nat) : Prop := ¬ zno mk x_polygon ∧ isCut x_polygon x_bits ∧ 0 ≤ tape_length ∧ tape_length ≤ 300 ∧ (text_polygon = 0 ∨ ¬ zno mk text_polygon) ∧ (triangles_polygon = 0 ∨ ¬ zno mk triangles_polygon) ∧ 0 ≤ triangles_count ∧ triangles_count ≤ 7 ∧ 0 ≤ flips_wayLength ∧ flips_wayLength ≤ 429 ∧ 0 ≤ crossedLines_size ∧ crossedLines_size ≤ 27 ∧ 1 ≤ endless_size ∧ endless_size ≤ 10 ∧ (∀ k : Nat, k < 10 → 0 ≤ zget endless_numbers k ∧ zget endless_numbers k ≤ 20) ∧ (∀ k : Nat, k < 10 → 0 ≤ zget x_toldRow k ∧ zget x_toldRow k ≤ 999) ∧ 0 ≤ sightings_size ∧ sightings_size ≤ 20 ∧ 0 ≤ sightings_rights ∧ sightings_rights ≤ 20 ∧ 0 ≤ sightings_latest ∧ sightings_latest ≤ 999 ∧ (∀ k : Nat, (k : Int) < sightings_size → 0 ≤ zget sightings_seenFrom k ∧ zget sightings_seenFrom k < (x_polygon : Int)) ∧ (∀ k : Nat, (k : Int) < sightings_size → 0 ≤ zget sightings_seenTo k ∧ zget sightings_seenTo k < (x_polygon : Int)) ∧ 0 ≤ fitting_size ∧ fitting_size ≤ 429
def zIY (y_taped : Int) (y_size : Int) (y_sort : Int) (y_at : Int) (y_end : Int) (y_number : Int) (y_faultKind : Int) (y_faultPlace : Int) (y_word : Int) (y_corners : Int) (y_lines : Int) (y_linesFor : Int) (y_listMany : Int) (y_listCorners : Int) (y_own : Int) (y_newCorners : Int) (y_newCut : Int) (y_wayLeft : Int) (y_flipOne : Int) (y_flipTwo : Int) (y_passedMany : Int) (y_rowMany : Int) (y_mendedBy : Int) (y_crossMany : Int) (y_periodMany : Int) (y_seenMany : Int) (y_rightMany : Int) (y_lastTold : Int) (y_tape : Nat) (y_numberOf : Nat) (y_lesser : Nat) (y_greater : Nat) (y_list : Nat) (y_tA : Nat) (y_tB : Nat) (y_tC : Nat) (y_from : Nat) (y_wayAt : Nat) (y_far : Nat) (y_queue : Nat) (y_passedBy : Nat) (y_told : Nat) (y_crossLine : Nat) (y_crossFar : Nat) (y_period : Nat) (y_sTold : Nat) (y_sOne : Nat) (y_sTwo : Nat) (y_sEntry : Nat) (y_rTold : Nat) (y_rOf : Nat) (y_rEntry : Nat) (y_fits : Nat) (y_heaps : Nat) : Prop := 0 ≤ y_taped ∧ y_taped ≤ 300 ∧ TL y_linesFor y_lines y_numberOf y_lesser y_greater ∧ LK y_listCorners y_listMany y_list ∧ 4 ≤ y_corners ∧ y_corners ≤ 9 ∧ CU y_corners y_own ∧ 0 ≤ y_seenMany ∧ y_seenMany ≤ 20 ∧ 0 ≤ y_rightMany ∧ y_rightMany ≤ 20 ∧ 0 ≤ y_lastTold ∧ y_lastTold ≤ 999 ∧ (∀ k : Nat, (k : Int) < y_seenMany → 0 ≤ zget y_sOne k ∧ zget y_sOne k < y_corners) ∧ (∀ k : Nat, (k : Int) < y_seenMany → 0 ≤ zget y_sTwo k ∧ zget y_sTwo k < y_corners) ∧ 1 ≤ y_periodMany ∧ y_periodMany ≤ 10 ∧ (∀ k : Nat, k < 11 → 0 ≤ zget y_period k ∧ zget y_period k ≤ 20) ∧ (∀ k : Nat, k < 10 → 0 ≤ zget y_told k ∧ zget y_told k ≤ 999) ∧ 0 ≤ y_passedMany ∧ y_passedMany ≤ 64
abbrev zLXs (κ : Nat → ClassId) (x : Nat → Nat) (mk : Nat) (ad : Nat → Nat → Nat) (S : zSX) : va_W := zLX κ x mk ad S.x_polygon S.x_bits S.x_mendedNumber S.tape_length S.tape_next S.tape_kind S.tape_place S.tape_value S.tape_bytes S.text_faultKind S.text_faultPlace S.text_expected S.text_first S.text_polygon S.text_bits S.triangles_count S.triangles_polygon S.triangles_from S.triangles_length S.triangles_waysAhead S.triangles_cornersOf S.triangles_chosen S.crossedLines_size S.crossedLines_lines S.flips_wayLength S.flips_queued S.flips_steps S.flips_queue S.flips_way S.endless_size S.endless_numbers S.sightings_size S.sightings_rights S.sightings_latest S.sightings_seenStep S.sightings_seenFrom S.sightings_seenTo S.sightings_seenValue S.sightings_timesRight S.sightings_rightStep S.sightings_rightOf S.sightings_rightValue S.sightings_knownValue S.fitting_size S.fitting_numbers S.fitting_tally S.x_toldRow
abbrev zLYs (κ : Nat → ClassId) (y : Nat → Nat) (S : zSY) : va_W := zLY κ y S.y_taped S.y_size S.y_sort S.y_at S.y_end S.y_number S.y_faultKind S.y_faultPlace S.y_word S.y_corners S.y_lines S.y_linesFor S.y_listMany S.y_listCorners S.y_own S.y_newCorners S.y_newCut S.y_wayLeft S.y_flipOne S.y_flipTwo S.y_passedMany S.y_rowMany S.y_mendedBy S.y_crossMany S.y_periodMany S.y_seenMany S.y_rightMany S.y_lastTold S.y_tape S.y_numberOf S.y_lesser S.y_greater S.y_list S.y_tA S.y_tB S.y_tC S.y_from S.y_wayAt S.y_far S.y_queue S.y_passedBy S.y_told S.y_crossLine S.y_crossFar S.y_period S.y_sTold S.y_sOne S.y_sTwo S.y_sEntry S.y_rTold S.y_rOf S.y_rEntry S.y_fits S.y_heaps
def zIXs (mk : Nat) (S : zSX) : Prop := zIX mk S.x_polygon S.x_bits S.x_mendedNumber S.tape_length S.tape_next S.tape_kind S.tape_place S.tape_value S.tape_bytes S.text_faultKind S.text_faultPlace S.text_expected S.text_first S.text_polygon S.text_bits S.triangles_count S.triangles_polygon S.triangles_from S.triangles_length S.triangles_waysAhead S.triangles_cornersOf S.triangles_chosen S.crossedLines_size S.crossedLines_lines S.flips_wayLength S.flips_queued S.flips_steps S.flips_queue S.flips_way S.endless_size S.endless_numbers S.sightings_size S.sightings_rights S.sightings_latest S.sightings_seenStep S.sightings_seenFrom S.sightings_seenTo S.sightings_seenValue S.sightings_timesRight S.sightings_rightStep S.sightings_rightOf S.sightings_rightValue S.sightings_knownValue S.fitting_size S.fitting_numbers S.fitting_tally S.x_toldRow
def zIYs (S : zSY) : Prop := zIY S.y_taped S.y_size S.y_sort S.y_at S.y_end S.y_number S.y_faultKind S.y_faultPlace S.y_word S.y_corners S.y_lines S.y_linesFor S.y_listMany S.y_listCorners S.y_own S.y_newCorners S.y_newCut S.y_wayLeft S.y_flipOne S.y_flipTwo S.y_passedMany S.y_rowMany S.y_mendedBy S.y_crossMany S.y_periodMany S.y_seenMany S.y_rightMany S.y_lastTold S.y_tape S.y_numberOf S.y_lesser S.y_greater S.y_list S.y_tA S.y_tB S.y_tC S.y_from S.y_wayAt S.y_far S.y_queue S.y_passedBy S.y_told S.y_crossLine S.y_crossFar S.y_period S.y_sTold S.y_sOne S.y_sTwo S.y_sEntry S.y_rTold S.y_rOf S.y_rEntry S.y_fits S.y_heaps
def zRel (S : zSX) (T : zSY) : Prop := S.tape_length = T.y_taped
/-- the rest of the run goes through from the end of a call, whatever both states are, as long as they stand -/
def zKK (p : Program) (l : Launch) (e : Env) (s : State) (m : MethodId) (args : Array Value) (below : List Frame) (meth : Method) (c0 : Code) (Q : State → Prop) (D : va_G) (κ : Nat → ClassId) (A : Nat → Prop) (H0 : Heap) (x y : Nat → Nat) (ls : Array Slot) (cells slots : Nat) (pc : Nat) : Prop := ∀ (mk : Nat) (ad : Nat → Nat → Nat) (S : zSX) (T : zSY) (H : Heap) (locs : List Loc), zIXs mk S → zIYs T → zRel S T → va_P D vwCl (zLXs κ x mk ad S) H → va_P D vwCl (zLYs κ y T) H → va_D A (zLXs κ x mk ad S ++ zLYs κ y T) → va_S A H0 H locs → zAmb D κ mk ad H → zSep mk ad (zLXs κ x mk ad S) H.size → zSep mk ad (zLYs κ y T) H.size → W p l e room_1 s m args below meth c0 H locs cells slots Q (F0 m pc ls [])
theorem rcut {n : Nat} (h4 : 4 ≤ n) (h9 : n ≤ 9) {b : Int} (h : isCut n b) : 0 ≤ b ∧ b ≤ 134217727 := by
  obtain ⟨k, hk, rfl⟩ := h
  have r8 := (rpg8 h4 h9).2
  exact rpg6 h4 h9 k (by omega)
