set_option maxRecDepth 100000 in
theorem lin_wsX40 : ∀ w ∈ wsX40, w ∈ lw_tbl := fun w h => (goodIn_p wsX40 [] (by decide +kernel) (by decide +kernel) w h).1
set_option maxRecDepth 100000 in
theorem lin_wsX50 : ∀ w ∈ wsX50, w ∈ lw_tbl := fun w h => (goodIn_p wsX50 [] (by decide +kernel) (by decide +kernel) w h).1
set_option maxRecDepth 100000 in
theorem lin_wsX60 : ∀ w ∈ wsX60, w ∈ lw_tbl := fun w h => (goodIn_p wsX60 [] (by decide +kernel) (by decide +kernel) w h).1
set_option maxRecDepth 100000 in
theorem lin_wsX70 : ∀ w ∈ wsX70, w ∈ lw_tbl := fun w h => (goodIn_p wsX70 [] (by decide +kernel) (by decide +kernel) w h).1
set_option maxRecDepth 100000 in
theorem lin_wsX80 : ∀ w ∈ wsX80, w ∈ lw_tbl := fun w h => (goodIn_p wsX80 [] (by decide +kernel) (by decide +kernel) w h).1
set_option maxRecDepth 100000 in
theorem lin_wsX90 : ∀ w ∈ wsX90, w ∈ lw_tbl := fun w h => (goodIn_p wsX90 [] (by decide +kernel) (by decide +kernel) w h).1
