def tbK (k : Nat) : List Cond := match k with | 0 => k2_sels lw_privs | 1 => tables_1_1 | 2 => tables_1_2 | 3 => tables_1_3 | 4 => tables_1_4 | 5 => tables_1_5 | 6 => tables_1_6 | _ => tables_1_7
theorem tb_0 : ∀ w ∈ k2_sels lw_privs, w ∈ lw_tbl := fun w h => (List.mem_append_left _ h)
theorem tb_1 : ∀ w ∈ tables_1_1, w ∈ lw_tbl := fun w h => (List.mem_append_right _ (List.mem_append_left _ h))
theorem tb_2 : ∀ w ∈ tables_1_2, w ∈ lw_tbl := fun w h => (List.mem_append_right _ (List.mem_append_right _ (List.mem_append_left _ h)))
theorem tb_3 : ∀ w ∈ tables_1_3, w ∈ lw_tbl := fun w h => (List.mem_append_right _ (List.mem_append_right _ (List.mem_append_right _ (List.mem_append_left _ h))))
theorem tb_4 : ∀ w ∈ tables_1_4, w ∈ lw_tbl := fun w h => (List.mem_append_right _ (List.mem_append_right _ (List.mem_append_right _ (List.mem_append_right _ (List.mem_append_left _ h)))))
theorem tb_5 : ∀ w ∈ tables_1_5, w ∈ lw_tbl := fun w h => (List.mem_append_right _ (List.mem_append_right _ (List.mem_append_right _ (List.mem_append_right _ (List.mem_append_right _ (List.mem_append_left _ h))))))
theorem tb_6 : ∀ w ∈ tables_1_6, w ∈ lw_tbl := fun w h => (List.mem_append_right _ (List.mem_append_right _ (List.mem_append_right _ (List.mem_append_right _ (List.mem_append_right _ (List.mem_append_right _ (List.mem_append_left _ h)))))))
theorem tb_7 : ∀ w ∈ tables_1_7, w ∈ lw_tbl := fun w h => (List.mem_append_right _ (List.mem_append_right _ (List.mem_append_right _ (List.mem_append_right _ (List.mem_append_right _ (List.mem_append_right _ (List.mem_append_right _ h)))))))
theorem tb_in (k : Nat) : ∀ w ∈ tbK k, w ∈ lw_tbl := by
  unfold tbK
  split
  · exact tb_0
  · exact tb_1
  · exact tb_2
  · exact tb_3
  · exact tb_4
  · exact tb_5
  · exact tb_6
  · exact tb_7
def tbG (q : Nat × Nat) : Option Cond := (tbK q.1)[q.2]?
theorem lo_in (ws : List Cond) (ps : List (Nat × Nat)) (h : ws = ps.filterMap tbG) : ∀ w ∈ ws, w ∈ lw_tbl := by
  intro w hw
  rw [h] at hw
  obtain ⟨q, -, hq⟩ := List.mem_filterMap.mp hw
  exact tb_in q.1 w (List.mem_of_getElem? hq)
theorem lo_c {c : Cond} {ws : List Cond} (h : c ∈ lw_tbl) (hs : ∀ w ∈ ws, w ∈ lw_tbl) : ∀ w ∈ c :: ws, w ∈ lw_tbl := fun w hw => (List.mem_cons.mp hw).elim (fun e => e ▸ h) (hs w)
theorem lo_1 {c : Cond} (k i : Nat) (h : tbG (k, i) = some c) : c ∈ lw_tbl := tb_in k c (List.mem_of_getElem? h)
theorem lo_a {a b : List Cond} (ha : ∀ w ∈ a, w ∈ lw_tbl) (hb : ∀ w ∈ b, w ∈ lw_tbl) : ∀ w ∈ a ++ b, w ∈ lw_tbl := fun w hw => (List.mem_append.mp hw).elim (ha w) (hb w)
set_option maxRecDepth 100000 in
theorem liX00 : ∀ w ∈ wsX00, w ∈ lw_tbl := lo_in _ [(1, 127), (1, 129)] (by decide +kernel)
set_option maxRecDepth 100000 in
theorem liX10 : ∀ w ∈ wsX10, w ∈ lw_tbl := lo_in _ [(1, 77), (1, 79), (1, 81), (1, 83), (1, 85), (1, 87)] (by decide +kernel)
set_option maxRecDepth 100000 in
theorem liX20 : ∀ w ∈ wsX20, w ∈ lw_tbl := lo_in _ [(1, 162), (1, 164)] (by decide +kernel)
set_option maxRecDepth 100000 in
theorem liX30 : ∀ w ∈ wsX30, w ∈ lw_tbl := lo_in _ [(1, 219), (1, 221), (1, 223)] (by decide +kernel)
set_option maxRecDepth 100000 in
theorem liX40 : ∀ w ∈ wsX40, w ∈ lw_tbl := lo_in _ [(1, 143), (1, 145), (1, 147), (1, 149), (1, 151)] (by decide +kernel)
set_option maxRecDepth 100000 in
theorem liX50 : ∀ w ∈ wsX50, w ∈ lw_tbl := lo_in _ [(2, 33), (2, 35), (2, 37), (2, 39), (2, 41), (2, 43), (2, 45), (2, 47), (2, 49)] (by decide +kernel)
set_option maxRecDepth 100000 in
theorem liX60 : ∀ w ∈ wsX60, w ∈ lw_tbl := lo_in _ [(1, 62)] (by decide +kernel)
set_option maxRecDepth 100000 in
theorem liX70 : ∀ w ∈ wsX70, w ∈ lw_tbl := lo_in _ [(1, 185), (1, 187), (1, 189), (1, 191), (1, 193), (1, 195), (1, 197), (1, 199), (1, 201), (1, 203), (1, 205), (1, 207)] (by decide +kernel)
set_option maxRecDepth 100000 in
theorem liX80 : ∀ w ∈ wsX80, w ∈ lw_tbl := lo_in _ [(1, 39), (1, 41), (1, 43), (1, 45), (1, 47), (1, 49)] (by decide +kernel)
set_option maxRecDepth 100000 in
theorem liX90 : ∀ w ∈ wsX90, w ∈ lw_tbl := lo_in _ [(1, 103), (1, 105), (1, 107), (1, 109), (1, 111), (1, 113), (1, 115)] (by decide +kernel)
set_option maxRecDepth 100000 in
theorem liX100 : ∀ w ∈ wsX100, w ∈ lw_tbl := lo_in _ [(2, 73), (2, 75), (2, 77), (2, 79), (2, 81), (2, 83), (2, 85), (2, 87), (2, 89), (2, 91), (2, 93), (2, 95), (2, 97)] (by decide +kernel)
set_option maxRecDepth 100000 in
theorem liX110 : ∀ w ∈ wsX110, w ∈ lw_tbl := lo_in _ [(5, 177), (5, 179), (5, 181), (5, 183), (5, 185), (5, 187), (5, 189), (5, 191), (5, 193), (5, 195), (5, 197), (5, 199), (5, 201), (5, 203), (5, 205), (5, 207), (5, 209), (5, 211), (5, 213), (5, 215), (5, 217), (5, 219), (5, 221), (5, 223), (5, 225), (5, 227), (5, 229), (5, 231), (5, 233), (5, 235), (5, 237), (5, 239), (6, 1), (6, 3), (6, 5), (6, 7), (6, 9), (6, 11), (6, 13), (6, 15), (6, 17), (6, 19), (6, 21), (6, 23), (6, 25), (6, 27), (6, 29), (6, 31), (6, 33), (6, 35), (6, 37), (6, 39), (6, 41), (6, 43)] (by decide +kernel)
set_option maxRecDepth 100000 in
theorem liJ60 : ∀ w ∈ wsJ60, w ∈ lw_tbl := fun w h => (goodIn_p wsJ60 [] (by decide +kernel) (by decide +kernel) w h).1
set_option maxRecDepth 100000 in
theorem liJ90 : ∀ w ∈ wsJ90, w ∈ lw_tbl := fun w h => (goodIn_p wsJ90 [] (by decide +kernel) (by decide +kernel) w h).1
set_option maxRecDepth 100000 in
theorem liJ00 : ∀ w ∈ wsJ00, w ∈ lw_tbl := fun w h => (goodIn_p wsJ00 [] (by decide +kernel) (by decide +kernel) w h).1
set_option maxRecDepth 100000 in
theorem liJ10 : ∀ w ∈ wsJ10, w ∈ lw_tbl := fun w h => (goodIn_p wsJ10 [] (by decide +kernel) (by decide +kernel) w h).1
set_option maxRecDepth 100000 in
theorem liJ20 : ∀ w ∈ wsJ20, w ∈ lw_tbl := fun w h => (goodIn_p wsJ20 [] (by decide +kernel) (by decide +kernel) w h).1
set_option maxRecDepth 100000 in
theorem liJ30 : ∀ w ∈ wsJ30, w ∈ lw_tbl := fun w h => (goodIn_p wsJ30 [] (by decide +kernel) (by decide +kernel) w h).1
