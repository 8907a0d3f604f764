theorem ev_nl4 : zf_X5_numberLines 4 0 0 0 0 0 = some (pg7 4, pg1 4, pg2 4, pg3 4, pg5 4) := by decide +kernel
theorem ev_fc4 : zf_X5_findCrossers (pg7 4) (pg1 4) (pg2 4) 0 = some (pg4 4) := by decide +kernel
theorem ev_gc4 : zf_X5_gatherCuts 30 0 (pg4 4) 0 (pg7 4 - 1) 0 (zshl 1 (pg7 4) - 1) (4 - 3) = some (pg8 4, pg6 4) := by decide +kernel
theorem ev_nl9 : zf_X5_numberLines 9 0 0 0 0 0 = some (pg7 9, pg1 9, pg2 9, pg3 9, pg5 9) := by decide +kernel
theorem ev_fc9 : zf_X5_findCrossers (pg7 9) (pg1 9) (pg2 9) 0 = some (pg4 9) := by decide +kernel
theorem ev_gc7 : zf_X5_gatherCuts 30 0 (pg4 7) 0 (pg7 7 - 1) 0 (zshl 1 (pg7 7) - 1) (7 - 3) = some (pg8 7, pg6 7) := by decide +kernel
