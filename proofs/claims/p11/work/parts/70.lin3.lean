section
set_option maxRecDepth 100000 in
theorem looX11_isLine : ∀ w ∈ owX11_isLine, w ∈ lw_tbl := lo_in _ [(5, 110), (5, 111), (1, 13)] (by decide +kernel)
set_option maxRecDepth 100000 in
theorem liX11_isLine : ∀ w ∈ wsX11_isLine, w ∈ lw_tbl := lo_c (lo_1 5 109 (by first | rfl | decide +kernel)) (lo_a looX11_isLine liX11_isNext)
set_option maxRecDepth 100000 in
theorem looX11_linesOf : ∀ w ∈ owX11_linesOf, w ∈ lw_tbl := lo_in _ [(5, 138), (5, 137), (5, 134), (5, 135), (5, 136), (5, 107), (5, 108), (1, 13)] (by decide +kernel)
set_option maxRecDepth 100000 in
theorem liX11_linesOf : ∀ w ∈ wsX11_linesOf, w ∈ lw_tbl := lo_c (lo_1 5 106 (by first | rfl | decide +kernel)) (lo_a looX11_linesOf (lo_a liX110 liX11_isLine))
set_option maxRecDepth 100000 in
theorem looX11_isBetween : ∀ w ∈ owX11_isBetween, w ∈ lw_tbl := lo_in _ [] (by decide +kernel)
set_option maxRecDepth 100000 in
theorem liX11_isBetween : ∀ w ∈ wsX11_isBetween, w ∈ lw_tbl := lo_c (lo_1 5 122 (by first | rfl | decide +kernel)) looX11_isBetween
set_option maxRecDepth 100000 in
theorem looX11_isCross : ∀ w ∈ owX11_isCross, w ∈ lw_tbl := lo_in _ [(5, 120), (5, 121), (1, 13)] (by decide +kernel)
set_option maxRecDepth 100000 in
theorem liX11_isCross : ∀ w ∈ wsX11_isCross, w ∈ lw_tbl := lo_c (lo_1 5 119 (by first | rfl | decide +kernel)) (lo_a looX11_isCross liX11_isBetween)
set_option maxRecDepth 100000 in
theorem looX11_grow : ∀ w ∈ owX11_grow, w ∈ lw_tbl := lo_in _ [(5, 139), (5, 140), (5, 137), (5, 135), (5, 136), (5, 117), (5, 118), (1, 13), (5, 113), (5, 115), (0, 32)] (by decide +kernel)
set_option maxRecDepth 100000 in
theorem liX11_grow : ∀ w ∈ wsX11_grow, w ∈ lw_tbl := lo_c (lo_1 5 116 (by first | rfl | decide +kernel)) (lo_a looX11_grow (lo_a liX110 liX11_isCross))
set_option maxRecDepth 100000 in
theorem looX11_listFor : ∀ w ∈ owX11_listFor, w ∈ lw_tbl := lo_in _ [(5, 141), (5, 140), (5, 139), (5, 103), (5, 105), (0, 31), (1, 13), (5, 113), (5, 115), (0, 32)] (by decide +kernel)
set_option maxRecDepth 100000 in
theorem liX11_listFor : ∀ w ∈ wsX11_listFor, w ∈ lw_tbl := lo_c (lo_1 5 102 (by first | rfl | decide +kernel)) (lo_a looX11_listFor (lo_a liX110 (lo_a liX11_linesOf liX11_grow)))
set_option maxRecDepth 100000 in
theorem looX11_init : ∀ w ∈ owX11_init, w ∈ lw_tbl := lo_in _ [(5, 98), (1, 25), (1, 26), (1, 52), (5, 123), (5, 131), (1, 118), (5, 134), (5, 135), (5, 136), (6, 46), (5, 139), (5, 145), (5, 146), (5, 147), (5, 148), (5, 150), (5, 153), (5, 154), (5, 156), (5, 158), (5, 159), (5, 161), (5, 162), (5, 164), (5, 168), (5, 169), (5, 170), (5, 171), (5, 172), (5, 173), (5, 174), (6, 47), (5, 175), (5, 176), (5, 133), (5, 142), (5, 163), (5, 99), (5, 101), (0, 30), (1, 13)] (by decide +kernel)
set_option maxRecDepth 100000 in
theorem liX11_init : ∀ w ∈ wsX11_init, w ∈ lw_tbl := lo_c (lo_1 5 97 (by first | rfl | decide +kernel)) (lo_a looX11_init (lo_a liX110 liX11_listFor))
set_option maxRecDepth 100000 in
theorem looX11_in : ∀ w ∈ owX11_in, w ∈ lw_tbl := lo_in _ [] (by decide +kernel)
set_option maxRecDepth 100000 in
theorem liX11_in : ∀ w ∈ wsX11_in, w ∈ lw_tbl := lo_c (lo_1 6 95 (by first | rfl | decide +kernel)) looX11_in
set_option maxRecDepth 100000 in
theorem looX11_feed : ∀ w ∈ owX11_feed, w ∈ lw_tbl := lo_in _ [(5, 124), (5, 123)] (by decide +kernel)
set_option maxRecDepth 100000 in
theorem liX11_feed : ∀ w ∈ wsX11_feed, w ∈ lw_tbl := lo_c (lo_1 6 51 (by first | rfl | decide +kernel)) (lo_a looX11_feed liX110)
set_option maxRecDepth 100000 in
theorem looX11_end : ∀ w ∈ owX11_end, w ∈ lw_tbl := lo_in _ [(5, 124)] (by decide +kernel)
set_option maxRecDepth 100000 in
theorem liX11_end : ∀ w ∈ wsX11_end, w ∈ lw_tbl := lo_c (lo_1 6 55 (by first | rfl | decide +kernel)) (lo_a looX11_end liX110)
set_option maxRecDepth 100000 in
theorem looX11_byteAt : ∀ w ∈ owX11_byteAt, w ∈ lw_tbl := lo_in _ [(5, 125), (5, 123)] (by decide +kernel)
set_option maxRecDepth 100000 in
theorem liX11_byteAt : ∀ w ∈ wsX11_byteAt, w ∈ lw_tbl := lo_c (lo_1 6 75 (by first | rfl | decide +kernel)) (lo_a looX11_byteAt liX110)
set_option maxRecDepth 100000 in
theorem looX11_isSmall : ∀ w ∈ owX11_isSmall, w ∈ lw_tbl := lo_in _ [] (by decide +kernel)
set_option maxRecDepth 100000 in
theorem liX11_isSmall : ∀ w ∈ wsX11_isSmall, w ∈ lw_tbl := lo_c (lo_1 6 78 (by first | rfl | decide +kernel)) looX11_isSmall
set_option maxRecDepth 100000 in
theorem looX11_isDigit : ∀ w ∈ owX11_isDigit, w ∈ lw_tbl := lo_in _ [] (by decide +kernel)
set_option maxRecDepth 100000 in
theorem liX11_isDigit : ∀ w ∈ wsX11_isDigit, w ∈ lw_tbl := lo_c (lo_1 6 83 (by first | rfl | decide +kernel)) looX11_isDigit
set_option maxRecDepth 100000 in
theorem looX11_scan : ∀ w ∈ owX11_scan, w ∈ lw_tbl := lo_in _ [(5, 128), (5, 127), (5, 126), (5, 132), (6, 79), (6, 80), (5, 129), (6, 72), (6, 74), (0, 35), (1, 13), (6, 76), (6, 77), (6, 81), (6, 82)] (by decide +kernel)
set_option maxRecDepth 100000 in
theorem liX11_scan : ∀ w ∈ wsX11_scan, w ∈ lw_tbl := lo_c (lo_1 6 71 (by first | rfl | decide +kernel)) (lo_a looX11_scan (lo_a liX110 (lo_a liX11_byteAt (lo_a liX11_isSmall liX11_isDigit))))
set_option maxRecDepth 100000 in
theorem looX11_begin : ∀ w ∈ owX11_begin, w ∈ lw_tbl := lo_in _ [(5, 124), (5, 125), (5, 128), (6, 68), (6, 70), (0, 34), (1, 13)] (by decide +kernel)
set_option maxRecDepth 100000 in
theorem liX11_begin : ∀ w ∈ wsX11_begin, w ∈ lw_tbl := lo_c (lo_1 6 67 (by first | rfl | decide +kernel)) (lo_a looX11_begin (lo_a liX110 liX11_scan))
set_option maxRecDepth 100000 in
theorem looX11_fails : ∀ w ∈ owX11_fails, w ∈ lw_tbl := lo_in _ [(5, 130), (5, 127), (5, 131)] (by decide +kernel)
set_option maxRecDepth 100000 in
theorem liX11_fails : ∀ w ∈ wsX11_fails, w ∈ lw_tbl := lo_c (lo_1 6 92 (by first | rfl | decide +kernel)) (lo_a looX11_fails liX110)
set_option maxRecDepth 100000 in
theorem looX11_fault : ∀ w ∈ owX11_fault, w ∈ lw_tbl := lo_in _ [(5, 130), (5, 131)] (by decide +kernel)
set_option maxRecDepth 100000 in
theorem liX11_fault : ∀ w ∈ wsX11_fault, w ∈ lw_tbl := lo_c (lo_1 6 59 (by first | rfl | decide +kernel)) (lo_a looX11_fault liX110)
set_option maxRecDepth 100000 in
theorem looX11_placeOf : ∀ w ∈ owX11_placeOf, w ∈ lw_tbl := lo_in _ [(5, 140), (5, 139)] (by decide +kernel)
set_option maxRecDepth 100000 in
theorem liX11_placeOf : ∀ w ∈ wsX11_placeOf, w ∈ lw_tbl := lo_c (lo_1 6 111 (by first | rfl | decide +kernel)) (lo_a looX11_placeOf liX110)
set_option maxRecDepth 100000 in
theorem looX11_ownNumber : ∀ w ∈ owX11_ownNumber, w ∈ lw_tbl := lo_in _ [(5, 133), (5, 142), (5, 99), (5, 101), (0, 30), (1, 13), (6, 108), (6, 110), (0, 41)] (by decide +kernel)
set_option maxRecDepth 100000 in
theorem liX11_ownNumber : ∀ w ∈ wsX11_ownNumber, w ∈ lw_tbl := lo_c (lo_1 6 107 (by first | rfl | decide +kernel)) (lo_a looX11_ownNumber (lo_a liX110 (lo_a liX11_listFor liX11_placeOf)))
set_option maxRecDepth 100000 in
theorem looX11_becomes : ∀ w ∈ owX11_becomes, w ∈ lw_tbl := lo_in _ [(5, 133), (5, 165), (5, 166), (5, 167), (5, 142)] (by decide +kernel)
set_option maxRecDepth 100000 in
theorem liX11_becomes : ∀ w ∈ wsX11_becomes, w ∈ lw_tbl := lo_c (lo_1 6 103 (by first | rfl | decide +kernel)) (lo_a looX11_becomes liX110)
set_option maxRecDepth 100000 in
theorem looX11_near : ∀ w ∈ owX11_near, w ∈ lw_tbl := lo_in _ [(5, 134), (5, 110), (5, 111), (1, 13)] (by decide +kernel)
set_option maxRecDepth 100000 in
theorem liX11_near : ∀ w ∈ wsX11_near, w ∈ lw_tbl := lo_c (lo_1 6 131 (by first | rfl | decide +kernel)) (lo_a looX11_near (lo_a liX110 liX11_isNext))
set_option maxRecDepth 100000 in
theorem looX11_readCorner : ∀ w ∈ owX11_readCorner, w ∈ lw_tbl := lo_in _ [(5, 126), (5, 129), (5, 143), (6, 89), (6, 91), (0, 37), (1, 13), (6, 93), (6, 94)] (by decide +kernel)
set_option maxRecDepth 100000 in
theorem liX11_readCorner : ∀ w ∈ wsX11_readCorner, w ∈ lw_tbl := lo_c (lo_1 6 99 (by first | rfl | decide +kernel)) (lo_a looX11_readCorner (lo_a liX110 (lo_a liX11_fails liX11_in)))
set_option maxRecDepth 100000 in
theorem looX11_readCut : ∀ w ∈ owX11_readCut, w ∈ lw_tbl := lo_in _ [(5, 126), (5, 132), (6, 88), (5, 129), (5, 143), (5, 144), (5, 134), (5, 137), (5, 135), (5, 136), (6, 89), (6, 91), (0, 37), (1, 13), (6, 68), (6, 70), (0, 34), (6, 93), (6, 94), (5, 103), (5, 105), (0, 31), (5, 107), (5, 108), (6, 96), (6, 98), (0, 38), (5, 117), (5, 118)] (by decide +kernel)
set_option maxRecDepth 100000 in
theorem liX11_readCut : ∀ w ∈ wsX11_readCut, w ∈ lw_tbl := lo_c (lo_1 6 87 (by first | rfl | decide +kernel)) (lo_a looX11_readCut (lo_a liX110 (lo_a liX11_fails (lo_a liX11_scan (lo_a liX11_in (lo_a liX11_linesOf (lo_a liX11_readCorner (lo_a liX11_isLine liX11_isCross))))))))
set_option maxRecDepth 100000 in
theorem looX11_cut : ∀ w ∈ owX11_cut, w ∈ lw_tbl := lo_in _ [(5, 130), (5, 131), (5, 143), (5, 144), (6, 64), (6, 66), (0, 33), (1, 13), (6, 84), (6, 86), (0, 36), (6, 100), (6, 102), (0, 39), (6, 104), (6, 106), (0, 40)] (by decide +kernel)
set_option maxRecDepth 100000 in
theorem liX11_cut : ∀ w ∈ wsX11_cut, w ∈ lw_tbl := lo_c (lo_1 6 63 (by first | rfl | decide +kernel)) (lo_a looX11_cut (lo_a liX110 (lo_a liX11_begin (lo_a liX11_readCut (lo_a liX11_becomes liX11_ownNumber)))))
set_option maxRecDepth 100000 in
theorem looX11_take : ∀ w ∈ owX11_take, w ∈ lw_tbl := lo_in _ [(5, 140), (5, 139), (6, 93), (6, 94), (1, 13), (5, 99), (5, 101), (0, 30), (6, 100), (6, 102), (0, 39)] (by decide +kernel)
set_option maxRecDepth 100000 in
theorem liX11_take : ∀ w ∈ wsX11_take, w ∈ lw_tbl := lo_c (lo_1 6 115 (by first | rfl | decide +kernel)) (lo_a looX11_take (lo_a liX110 (lo_a liX11_in (lo_a liX11_listFor liX11_becomes))))
set_option maxRecDepth 100000 in
theorem looX11_told : ∀ w ∈ owX11_told, w ∈ lw_tbl := lo_in _ [(5, 133), (5, 140), (5, 163), (6, 104), (6, 106), (0, 40), (1, 13), (5, 99), (5, 101), (0, 30)] (by decide +kernel)
set_option maxRecDepth 100000 in
theorem liX11_told : ∀ w ∈ wsX11_told, w ∈ lw_tbl := lo_c (lo_1 6 119 (by first | rfl | decide +kernel)) (lo_a looX11_told (lo_a liX110 (lo_a liX11_ownNumber liX11_listFor)))
set_option maxRecDepth 100000 in
theorem looX11_isCorner : ∀ w ∈ owX11_isCorner, w ∈ lw_tbl := lo_in _ [(5, 133), (6, 93), (6, 94), (1, 13)] (by decide +kernel)
set_option maxRecDepth 100000 in
theorem liX11_isCorner : ∀ w ∈ wsX11_isCorner, w ∈ lw_tbl := lo_c (lo_1 6 139 (by first | rfl | decide +kernel)) (lo_a looX11_isCorner (lo_a liX110 liX11_in))
set_option maxRecDepth 100000 in
theorem looX11_trianglesOf : ∀ w ∈ owX11_trianglesOf, w ∈ lw_tbl := lo_in _ [(5, 145), (5, 146), (5, 147), (5, 103), (5, 105), (0, 31), (1, 13), (6, 128), (6, 130), (0, 43)] (by decide +kernel)
set_option maxRecDepth 100000 in
theorem liX11_trianglesOf : ∀ w ∈ wsX11_trianglesOf, w ∈ lw_tbl := lo_c (lo_1 6 127 (by first | rfl | decide +kernel)) (lo_a looX11_trianglesOf (lo_a liX110 (lo_a liX11_linesOf liX11_near)))
set_option maxRecDepth 100000 in
theorem looX11_triangle : ∀ w ∈ owX11_triangle, w ∈ lw_tbl := lo_in _ [(5, 133), (5, 142), (5, 145), (5, 146), (5, 147), (6, 93), (6, 94), (1, 13), (6, 124), (6, 126), (0, 42)] (by decide +kernel)
set_option maxRecDepth 100000 in
theorem liX11_triangle : ∀ w ∈ wsX11_triangle, w ∈ lw_tbl := lo_c (lo_1 6 123 (by first | rfl | decide +kernel)) (lo_a looX11_triangle (lo_a liX110 (lo_a liX11_in liX11_trianglesOf)))
set_option maxRecDepth 100000 in
theorem looX11_isAt : ∀ w ∈ owX11_isAt, w ∈ lw_tbl := lo_in _ [(5, 145), (5, 146), (5, 147)] (by decide +kernel)
set_option maxRecDepth 100000 in
theorem liX11_isAt : ∀ w ∈ wsX11_isAt, w ∈ lw_tbl := lo_c (lo_1 6 167 (by first | rfl | decide +kernel)) (lo_a looX11_isAt liX110)
set_option maxRecDepth 100000 in
theorem looX11_entriesFrom : ∀ w ∈ owX11_entriesFrom, w ∈ lw_tbl := lo_in _ [(5, 148), (5, 145), (5, 146), (5, 147), (6, 124), (6, 126), (0, 42), (1, 13), (6, 128), (6, 130), (0, 43)] (by decide +kernel)
set_option maxRecDepth 100000 in
theorem liX11_entriesFrom : ∀ w ∈ wsX11_entriesFrom, w ∈ lw_tbl := lo_c (lo_1 6 147 (by first | rfl | decide +kernel)) (lo_a looX11_entriesFrom (lo_a liX110 (lo_a liX11_trianglesOf liX11_near)))
set_option maxRecDepth 100000 in
theorem looX11_entryOf : ∀ w ∈ owX11_entryOf, w ∈ lw_tbl := lo_in _ [(5, 148), (6, 144), (6, 146), (0, 46), (1, 13)] (by decide +kernel)
set_option maxRecDepth 100000 in
theorem liX11_entryOf : ∀ w ∈ wsX11_entryOf, w ∈ lw_tbl := lo_c (lo_1 6 143 (by first | rfl | decide +kernel)) (lo_a looX11_entryOf (lo_a liX110 liX11_entriesFrom))
set_option maxRecDepth 100000 in
theorem looX11_entry : ∀ w ∈ owX11_entry, w ∈ lw_tbl := lo_in _ [(5, 133), (5, 142), (6, 136), (6, 138), (0, 44), (1, 13), (6, 140), (6, 142), (0, 45)] (by decide +kernel)
set_option maxRecDepth 100000 in
theorem liX11_entry : ∀ w ∈ wsX11_entry, w ∈ lw_tbl := lo_c (lo_1 6 135 (by first | rfl | decide +kernel)) (lo_a looX11_entry (lo_a liX110 (lo_a liX11_isCorner liX11_entryOf)))
set_option maxRecDepth 100000 in
theorem looX11_rowAt : ∀ w ∈ owX11_rowAt, w ∈ lw_tbl := lo_in _ [(5, 107), (5, 108), (1, 13), (6, 128), (6, 130), (0, 43)] (by decide +kernel)
set_option maxRecDepth 100000 in
theorem liX11_rowAt : ∀ w ∈ wsX11_rowAt, w ∈ lw_tbl := lo_c (lo_1 6 155 (by first | rfl | decide +kernel)) (lo_a looX11_rowAt (lo_a liX11_isLine liX11_near))
set_option maxRecDepth 100000 in
theorem looX11_row : ∀ w ∈ owX11_row, w ∈ lw_tbl := lo_in _ [(5, 133), (5, 142), (6, 136), (6, 138), (0, 44), (1, 13), (5, 103), (5, 105), (0, 31), (6, 152), (6, 154), (0, 47)] (by decide +kernel)
set_option maxRecDepth 100000 in
theorem liX11_row : ∀ w ∈ wsX11_row, w ∈ lw_tbl := lo_c (lo_1 6 151 (by first | rfl | decide +kernel)) (lo_a looX11_row (lo_a liX110 (lo_a liX11_isCorner (lo_a liX11_linesOf liX11_rowAt))))
set_option maxRecDepth 100000 in
theorem looX11_isWay : ∀ w ∈ owX11_isWay, w ∈ lw_tbl := lo_in _ [(5, 133), (5, 149), (5, 150), (6, 164), (6, 166), (0, 49), (1, 13), (6, 160), (6, 162), (0, 48)] (by decide +kernel)
set_option maxRecDepth 100000 in
theorem liX11_isWay : ∀ w ∈ wsX11_isWay, w ∈ lw_tbl := lo_c (lo_1 6 163 (by first | rfl | decide +kernel)) (lo_a looX11_isWay (lo_a liX110 liX11_isAt))
set_option maxRecDepth 100000 in
theorem looX11_way : ∀ w ∈ owX11_way, w ∈ lw_tbl := lo_in _ [(5, 133), (5, 142), (5, 149), (5, 150), (6, 136), (6, 138), (0, 44), (1, 13), (6, 124), (6, 126), (0, 42), (6, 160), (6, 162), (0, 48), (5, 120), (5, 121)] (by decide +kernel)
set_option maxRecDepth 100000 in
theorem liX11_way : ∀ w ∈ wsX11_way, w ∈ lw_tbl := lo_c (lo_1 6 159 (by first | rfl | decide +kernel)) (lo_a looX11_way (lo_a liX110 (lo_a liX11_isCorner (lo_a liX11_trianglesOf (lo_a liX11_isWay liX11_isBetween)))))
set_option maxRecDepth 100000 in
theorem looX11_flipped : ∀ w ∈ owX11_flipped, w ∈ lw_tbl := lo_in _ [(5, 151), (5, 152), (5, 134), (6, 176), (6, 128), (6, 130), (0, 43), (1, 13)] (by decide +kernel)
set_option maxRecDepth 100000 in
theorem liX11_flipped : ∀ w ∈ wsX11_flipped, w ∈ lw_tbl := lo_c (lo_1 6 175 (by first | rfl | decide +kernel)) (lo_a looX11_flipped (lo_a liX110 liX11_near))
set_option maxRecDepth 100000 in
theorem looX11_flip : ∀ w ∈ owX11_flip, w ∈ lw_tbl := lo_in _ [(5, 133), (5, 142), (5, 151), (5, 152), (6, 136), (6, 138), (0, 44), (1, 13), (5, 103), (5, 105), (0, 31), (5, 107), (5, 108), (6, 128), (6, 130), (0, 43), (6, 172), (6, 174), (0, 50)] (by decide +kernel)
set_option maxRecDepth 100000 in
theorem liX11_flip : ∀ w ∈ wsX11_flip, w ∈ lw_tbl := lo_c (lo_1 6 171 (by first | rfl | decide +kernel)) (lo_a looX11_flip (lo_a liX110 (lo_a liX11_isCorner (lo_a liX11_linesOf (lo_a liX11_isLine (lo_a liX11_near liX11_flipped))))))
set_option maxRecDepth 100000 in
theorem looX11_spreadFrom : ∀ w ∈ owX11_spreadFrom, w ∈ lw_tbl := lo_in _ [(5, 140), (5, 153), (5, 154), (5, 139), (5, 137), (5, 133), (5, 135), (5, 136), (6, 172), (6, 174), (0, 50), (1, 13), (6, 108), (6, 110), (0, 41)] (by decide +kernel)
set_option maxRecDepth 100000 in
theorem liX11_spreadFrom : ∀ w ∈ wsX11_spreadFrom, w ∈ lw_tbl := lo_c (lo_1 6 184 (by first | rfl | decide +kernel)) (lo_a looX11_spreadFrom (lo_a liX110 (lo_a liX11_flipped liX11_placeOf)))
set_option maxRecDepth 100000 in
theorem looX11_fewest : ∀ w ∈ owX11_fewest, w ∈ lw_tbl := lo_in _ [(5, 133), (5, 140), (5, 142), (5, 153), (5, 155), (5, 156), (5, 139), (5, 137), (5, 135), (5, 136), (5, 99), (5, 101), (0, 30), (1, 13), (6, 93), (6, 94), (6, 181), (6, 183), (0, 51), (6, 172), (6, 174), (0, 50), (6, 108), (6, 110), (0, 41)] (by decide +kernel)
set_option maxRecDepth 100000 in
theorem liX11_fewest : ∀ w ∈ wsX11_fewest, w ∈ lw_tbl := lo_c (lo_1 6 180 (by first | rfl | decide +kernel)) (lo_a looX11_fewest (lo_a liX110 (lo_a liX11_listFor (lo_a liX11_in (lo_a liX11_spreadFrom (lo_a liX11_placeOf liX11_flipped))))))
set_option maxRecDepth 100000 in
theorem looX11_passed : ∀ w ∈ owX11_passed, w ∈ lw_tbl := lo_in _ [(5, 155), (5, 156), (6, 93), (6, 94), (1, 13)] (by decide +kernel)
set_option maxRecDepth 100000 in
theorem liX11_passed : ∀ w ∈ wsX11_passed, w ∈ lw_tbl := lo_c (lo_1 6 188 (by first | rfl | decide +kernel)) (lo_a looX11_passed (lo_a liX110 liX11_in))
set_option maxRecDepth 100000 in
theorem looX11_farthest : ∀ w ∈ owX11_farthest, w ∈ lw_tbl := lo_in _ [(5, 140), (5, 153), (6, 93), (6, 94), (1, 13), (6, 104), (6, 106), (0, 40), (6, 181), (6, 183), (0, 51)] (by decide +kernel)
set_option maxRecDepth 100000 in
theorem liX11_farthest : ∀ w ∈ wsX11_farthest, w ∈ lw_tbl := lo_c (lo_1 6 192 (by first | rfl | decide +kernel)) (lo_a looX11_farthest (lo_a liX110 (lo_a liX11_in (lo_a liX11_ownNumber liX11_spreadFrom))))
set_option maxRecDepth 100000 in
theorem looX11_turned : ∀ w ∈ owX11_turned, w ∈ lw_tbl := lo_in _ [(5, 137), (5, 135), (5, 136), (5, 134)] (by decide +kernel)
set_option maxRecDepth 100000 in
theorem liX11_turned : ∀ w ∈ wsX11_turned, w ∈ lw_tbl := lo_c (lo_1 6 204 (by first | rfl | decide +kernel)) (lo_a looX11_turned liX110)
set_option maxRecDepth 100000 in
theorem looX11_leastOf : ∀ w ∈ owX11_leastOf, w ∈ lw_tbl := lo_in _ [(6, 201), (6, 203), (0, 53), (1, 13)] (by decide +kernel)
set_option maxRecDepth 100000 in
theorem liX11_leastOf : ∀ w ∈ wsX11_leastOf, w ∈ lw_tbl := lo_c (lo_1 6 200 (by first | rfl | decide +kernel)) (lo_a looX11_leastOf liX11_turned)
set_option maxRecDepth 100000 in
theorem looX11_least : ∀ w ∈ owX11_least, w ∈ lw_tbl := lo_in _ [(5, 133), (5, 142), (5, 99), (5, 101), (0, 30), (1, 13), (6, 197), (6, 199), (0, 52), (6, 108), (6, 110), (0, 41)] (by decide +kernel)
set_option maxRecDepth 100000 in
theorem liX11_least : ∀ w ∈ wsX11_least, w ∈ lw_tbl := lo_c (lo_1 6 196 (by first | rfl | decide +kernel)) (lo_a looX11_least (lo_a liX110 (lo_a liX11_listFor (lo_a liX11_leastOf liX11_placeOf))))
set_option maxRecDepth 100000 in
theorem looX11_kinds : ∀ w ∈ owX11_kinds, w ∈ lw_tbl := lo_in _ [(5, 140), (5, 139), (6, 93), (6, 94), (1, 13), (5, 99), (5, 101), (0, 30), (6, 197), (6, 199), (0, 52)] (by decide +kernel)
set_option maxRecDepth 100000 in
theorem liX11_kinds : ∀ w ∈ wsX11_kinds, w ∈ lw_tbl := lo_c (lo_1 6 208 (by first | rfl | decide +kernel)) (lo_a looX11_kinds (lo_a liX110 (lo_a liX11_in (lo_a liX11_listFor liX11_leastOf))))
set_option maxRecDepth 100000 in
theorem looX11_readRow : ∀ w ∈ owX11_readRow, w ∈ lw_tbl := lo_in _ [(5, 157), (5, 126), (5, 158), (5, 129), (6, 64), (6, 66), (0, 33), (1, 13), (6, 68), (6, 70), (0, 34)] (by decide +kernel)
set_option maxRecDepth 100000 in
theorem liX11_readRow : ∀ w ∈ wsX11_readRow, w ∈ lw_tbl := lo_c (lo_1 6 216 (by first | rfl | decide +kernel)) (lo_a looX11_readRow (lo_a liX110 (lo_a liX11_begin liX11_scan)))
set_option maxRecDepth 100000 in
theorem looX11_apart : ∀ w ∈ owX11_apart, w ∈ lw_tbl := lo_in _ [(5, 133), (5, 158), (6, 152), (6, 154), (0, 47), (1, 13)] (by decide +kernel)
set_option maxRecDepth 100000 in
theorem liX11_apart : ∀ w ∈ wsX11_apart, w ∈ lw_tbl := lo_c (lo_1 6 224 (by first | rfl | decide +kernel)) (lo_a looX11_apart (lo_a liX110 liX11_rowAt))
set_option maxRecDepth 100000 in
theorem looX11_nearest : ∀ w ∈ owX11_nearest, w ∈ lw_tbl := lo_in _ [(5, 133), (5, 139), (5, 140), (5, 99), (5, 101), (0, 30), (1, 13), (6, 221), (6, 223), (0, 56)] (by decide +kernel)
set_option maxRecDepth 100000 in
theorem liX11_nearest : ∀ w ∈ wsX11_nearest, w ∈ lw_tbl := lo_c (lo_1 6 220 (by first | rfl | decide +kernel)) (lo_a looX11_nearest (lo_a liX110 (lo_a liX11_listFor liX11_apart)))
set_option maxRecDepth 100000 in
theorem looX11_read : ∀ w ∈ owX11_read, w ∈ lw_tbl := lo_in _ [(5, 133), (5, 139), (5, 142), (6, 213), (6, 215), (0, 54), (1, 13), (6, 217), (6, 219), (0, 55), (6, 221), (6, 223), (0, 56)] (by decide +kernel)
set_option maxRecDepth 100000 in
theorem liX11_read : ∀ w ∈ wsX11_read, w ∈ lw_tbl := lo_c (lo_1 6 212 (by first | rfl | decide +kernel)) (lo_a looX11_read (lo_a liX110 (lo_a liX11_readRow (lo_a liX11_nearest liX11_apart))))
set_option maxRecDepth 100000 in
theorem looX11_mend : ∀ w ∈ owX11_mend, w ∈ lw_tbl := lo_in _ [(5, 133), (5, 159), (5, 139), (6, 213), (6, 215), (0, 54), (1, 13), (6, 217), (6, 219), (0, 55), (6, 221), (6, 223), (0, 56)] (by decide +kernel)
set_option maxRecDepth 100000 in
theorem liX11_mend : ∀ w ∈ wsX11_mend, w ∈ lw_tbl := lo_c (lo_1 6 228 (by first | rfl | decide +kernel)) (lo_a looX11_mend (lo_a liX110 (lo_a liX11_readRow (lo_a liX11_nearest liX11_apart))))
set_option maxRecDepth 100000 in
theorem looX11_mended : ∀ w ∈ owX11_mended, w ∈ lw_tbl := lo_in _ [(5, 159)] (by decide +kernel)
set_option maxRecDepth 100000 in
theorem liX11_mended : ∀ w ∈ wsX11_mended, w ∈ lw_tbl := lo_c (lo_1 6 232 (by first | rfl | decide +kernel)) (lo_a looX11_mended liX110)
set_option maxRecDepth 100000 in
theorem looX11_cross : ∀ w ∈ owX11_cross, w ∈ lw_tbl := lo_in _ [(5, 133), (5, 160), (5, 137), (5, 142), (5, 135), (5, 136), (5, 162), (5, 161), (5, 103), (5, 105), (0, 31), (1, 13), (5, 117), (5, 118), (5, 120), (5, 121)] (by decide +kernel)
set_option maxRecDepth 100000 in
theorem liX11_cross : ∀ w ∈ wsX11_cross, w ∈ lw_tbl := lo_c (lo_1 7 0 (by first | rfl | decide +kernel)) (lo_a looX11_cross (lo_a liX110 (lo_a liX11_linesOf (lo_a liX11_isCross liX11_isBetween))))
set_option maxRecDepth 100000 in
theorem looX11_crossed : ∀ w ∈ owX11_crossed, w ∈ lw_tbl := lo_in _ [(5, 160), (5, 135), (5, 161), (5, 136), (6, 136), (6, 138), (0, 44), (1, 13), (6, 93), (6, 94), (6, 237), (6, 239), (0, 57)] (by decide +kernel)
set_option maxRecDepth 100000 in
theorem liX11_crossed : ∀ w ∈ wsX11_crossed, w ∈ lw_tbl := lo_c (lo_1 6 236 (by first | rfl | decide +kernel)) (lo_a looX11_crossed (lo_a liX110 (lo_a liX11_isCorner (lo_a liX11_cross liX11_in))))
set_option maxRecDepth 100000 in
theorem looX11_side : ∀ w ∈ owX11_side, w ∈ lw_tbl := lo_in _ [(5, 160), (5, 161), (5, 135), (5, 136), (5, 133), (6, 136), (6, 138), (0, 44), (1, 13), (6, 93), (6, 94), (6, 237), (6, 239), (0, 57), (5, 120), (5, 121)] (by decide +kernel)
set_option maxRecDepth 100000 in
theorem liX11_side : ∀ w ∈ wsX11_side, w ∈ lw_tbl := lo_c (lo_1 7 4 (by first | rfl | decide +kernel)) (lo_a looX11_side (lo_a liX110 (lo_a liX11_isCorner (lo_a liX11_cross (lo_a liX11_in liX11_isBetween)))))
set_option maxRecDepth 100000 in
theorem looX11_greatest : ∀ w ∈ owX11_greatest, w ∈ lw_tbl := lo_in _ [(5, 140), (5, 139), (5, 148), (6, 93), (6, 94), (1, 13), (5, 99), (5, 101), (0, 30), (6, 144), (6, 146), (0, 46)] (by decide +kernel)
set_option maxRecDepth 100000 in
theorem liX11_greatest : ∀ w ∈ wsX11_greatest, w ∈ lw_tbl := lo_c (lo_1 7 8 (by first | rfl | decide +kernel)) (lo_a looX11_greatest (lo_a liX110 (lo_a liX11_in (lo_a liX11_listFor liX11_entriesFrom))))
set_option maxRecDepth 100000 in
theorem looX11_spread : ∀ w ∈ owX11_spread, w ∈ lw_tbl := lo_in _ [(5, 133), (5, 140), (5, 139), (6, 136), (6, 138), (0, 44), (1, 13), (5, 99), (5, 101), (0, 30), (6, 140), (6, 142), (0, 45)] (by decide +kernel)
set_option maxRecDepth 100000 in
theorem liX11_spread : ∀ w ∈ wsX11_spread, w ∈ lw_tbl := lo_c (lo_1 7 12 (by first | rfl | decide +kernel)) (lo_a looX11_spread (lo_a liX110 (lo_a liX11_isCorner (lo_a liX11_listFor liX11_entryOf))))
set_option maxRecDepth 100000 in
theorem looX11_period : ∀ w ∈ owX11_period, w ∈ lw_tbl := lo_in _ [(5, 158), (5, 163), (5, 164), (6, 213), (6, 215), (0, 54), (1, 13), (6, 93), (6, 94)] (by decide +kernel)
set_option maxRecDepth 100000 in
theorem liX11_period : ∀ w ∈ wsX11_period, w ∈ lw_tbl := lo_c (lo_1 7 16 (by first | rfl | decide +kernel)) (lo_a looX11_period (lo_a liX110 (lo_a liX11_readRow liX11_in)))
set_option maxRecDepth 100000 in
theorem looX11_ofCut : ∀ w ∈ owX11_ofCut, w ∈ lw_tbl := lo_in _ [(5, 133), (5, 163), (5, 164), (5, 142), (5, 103), (5, 105), (0, 31), (1, 13), (6, 152), (6, 154), (0, 47)] (by decide +kernel)
set_option maxRecDepth 100000 in
theorem liX11_ofCut : ∀ w ∈ wsX11_ofCut, w ∈ lw_tbl := lo_c (lo_1 7 20 (by first | rfl | decide +kernel)) (lo_a looX11_ofCut (lo_a liX110 (lo_a liX11_linesOf liX11_rowAt)))
set_option maxRecDepth 100000 in
theorem looX11_of : ∀ w ∈ owX11_of, w ∈ lw_tbl := lo_in _ [(5, 163), (5, 164), (6, 93), (6, 94), (1, 13)] (by decide +kernel)
set_option maxRecDepth 100000 in
theorem liX11_of : ∀ w ∈ wsX11_of, w ∈ lw_tbl := lo_c (lo_1 7 24 (by first | rfl | decide +kernel)) (lo_a looX11_of (lo_a liX110 liX11_in))
set_option maxRecDepth 100000 in
theorem looX11_alongOf : ∀ w ∈ owX11_alongOf, w ∈ lw_tbl := lo_in _ [(5, 164), (5, 163)] (by decide +kernel)
set_option maxRecDepth 100000 in
theorem liX11_alongOf : ∀ w ∈ wsX11_alongOf, w ∈ lw_tbl := lo_c (lo_1 7 32 (by first | rfl | decide +kernel)) (lo_a looX11_alongOf liX110)
set_option maxRecDepth 100000 in
theorem looX11_along : ∀ w ∈ owX11_along, w ∈ lw_tbl := lo_in _ [(5, 163), (7, 33), (6, 93), (6, 94), (1, 13), (7, 29), (7, 31), (0, 58)] (by decide +kernel)
set_option maxRecDepth 100000 in
theorem liX11_along : ∀ w ∈ wsX11_along, w ∈ lw_tbl := lo_c (lo_1 7 28 (by first | rfl | decide +kernel)) (lo_a looX11_along (lo_a liX110 (lo_a liX11_in liX11_alongOf)))
set_option maxRecDepth 100000 in
theorem looX11_isAll : ∀ w ∈ owX11_isAll, w ∈ lw_tbl := lo_in _ [(5, 163), (7, 29), (7, 31), (0, 58), (1, 13)] (by decide +kernel)
set_option maxRecDepth 100000 in
theorem liX11_isAll : ∀ w ∈ wsX11_isAll, w ∈ lw_tbl := lo_c (lo_1 7 41 (by first | rfl | decide +kernel)) (lo_a looX11_isAll (lo_a liX110 liX11_alongOf))
set_option maxRecDepth 100000 in
theorem looX11_breaks : ∀ w ∈ owX11_breaks, w ∈ lw_tbl := lo_in _ [(5, 163), (6, 176), (6, 93), (6, 94), (1, 13), (7, 29), (7, 31), (0, 58), (7, 38), (7, 40), (0, 59)] (by decide +kernel)
set_option maxRecDepth 100000 in
theorem liX11_breaks : ∀ w ∈ wsX11_breaks, w ∈ lw_tbl := lo_c (lo_1 7 37 (by first | rfl | decide +kernel)) (lo_a looX11_breaks (lo_a liX110 (lo_a liX11_in (lo_a liX11_alongOf liX11_isAll))))
set_option maxRecDepth 100000 in
theorem looX11_growth : ∀ w ∈ owX11_growth, w ∈ lw_tbl := lo_in _ [(5, 163), (7, 29), (7, 31), (0, 58), (1, 13)] (by decide +kernel)
set_option maxRecDepth 100000 in
theorem liX11_growth : ∀ w ∈ wsX11_growth, w ∈ lw_tbl := lo_c (lo_1 7 45 (by first | rfl | decide +kernel)) (lo_a looX11_growth (lo_a liX110 liX11_alongOf))
set_option maxRecDepth 100000 in
theorem looX11_glue : ∀ w ∈ owX11_glue, w ∈ lw_tbl := lo_in _ [(5, 163), (5, 164), (6, 93), (6, 94), (1, 13)] (by decide +kernel)
set_option maxRecDepth 100000 in
theorem liX11_glue : ∀ w ∈ wsX11_glue, w ∈ lw_tbl := lo_c (lo_1 7 49 (by first | rfl | decide +kernel)) (lo_a looX11_glue (lo_a liX110 liX11_in))
set_option maxRecDepth 100000 in
theorem looX11_isOff : ∀ w ∈ owX11_isOff, w ∈ lw_tbl := lo_in _ [(5, 163), (5, 164)] (by decide +kernel)
set_option maxRecDepth 100000 in
theorem liX11_isOff : ∀ w ∈ wsX11_isOff, w ∈ lw_tbl := lo_c (lo_1 7 57 (by first | rfl | decide +kernel)) (lo_a looX11_isOff liX110)
set_option maxRecDepth 100000 in
theorem looX11_off : ∀ w ∈ owX11_off, w ∈ lw_tbl := lo_in _ [(5, 163), (5, 164)] (by decide +kernel)
set_option maxRecDepth 100000 in
theorem liX11_off : ∀ w ∈ wsX11_off, w ∈ lw_tbl := lo_c (lo_1 7 61 (by first | rfl | decide +kernel)) (lo_a looX11_off liX110)
set_option maxRecDepth 100000 in
theorem looX11_cutOff : ∀ w ∈ owX11_cutOff, w ∈ lw_tbl := lo_in _ [(5, 163), (6, 93), (6, 94), (1, 13), (7, 54), (7, 56), (0, 60), (7, 58), (7, 60), (0, 61)] (by decide +kernel)
set_option maxRecDepth 100000 in
theorem liX11_cutOff : ∀ w ∈ wsX11_cutOff, w ∈ lw_tbl := lo_c (lo_1 7 53 (by first | rfl | decide +kernel)) (lo_a looX11_cutOff (lo_a liX110 (lo_a liX11_in (lo_a liX11_isOff liX11_off))))
set_option maxRecDepth 100000 in
theorem looX11_core : ∀ w ∈ owX11_core, w ∈ lw_tbl := lo_in _ [(5, 163), (5, 164), (7, 54), (7, 56), (0, 60), (1, 13), (7, 58), (7, 60), (0, 61)] (by decide +kernel)
set_option maxRecDepth 100000 in
theorem liX11_core : ∀ w ∈ wsX11_core, w ∈ lw_tbl := lo_c (lo_1 7 65 (by first | rfl | decide +kernel)) (lo_a looX11_core (lo_a liX110 (lo_a liX11_isOff liX11_off)))
set_option maxRecDepth 100000 in
theorem looX11_see : ∀ w ∈ owX11_see, w ∈ lw_tbl := lo_in _ [(5, 167), (5, 165), (5, 168), (5, 169), (5, 170), (5, 171), (6, 93), (6, 94), (1, 13), (6, 136), (6, 138), (0, 44)] (by decide +kernel)
set_option maxRecDepth 100000 in
theorem liX11_see : ∀ w ∈ wsX11_see, w ∈ lw_tbl := lo_c (lo_1 7 69 (by first | rfl | decide +kernel)) (lo_a looX11_see (lo_a liX110 (lo_a liX11_in liX11_isCorner)))
set_option maxRecDepth 100000 in
theorem looX11_right : ∀ w ∈ owX11_right, w ∈ lw_tbl := lo_in _ [(5, 167), (5, 165), (5, 166), (5, 172), (5, 173), (5, 174), (6, 93), (6, 94), (1, 13)] (by decide +kernel)
set_option maxRecDepth 100000 in
theorem liX11_right : ∀ w ∈ wsX11_right, w ∈ lw_tbl := lo_c (lo_1 7 73 (by first | rfl | decide +kernel)) (lo_a looX11_right (lo_a liX110 liX11_in))
set_option maxRecDepth 100000 in
theorem looX11_isFit : ∀ w ∈ owX11_isFit, w ∈ lw_tbl := lo_in _ [(5, 165), (5, 168), (5, 171), (5, 166), (5, 173), (5, 172), (5, 174), (5, 133), (5, 169), (5, 170), (6, 140), (6, 142), (0, 45), (1, 13)] (by decide +kernel)
set_option maxRecDepth 100000 in
theorem liX11_isFit : ∀ w ∈ wsX11_isFit, w ∈ lw_tbl := lo_c (lo_1 7 85 (by first | rfl | decide +kernel)) (lo_a looX11_isFit (lo_a liX110 liX11_entryOf))
set_option maxRecDepth 100000 in
theorem looX11_makeFits : ∀ w ∈ owX11_makeFits, w ∈ lw_tbl := lo_in _ [(5, 133), (5, 140), (5, 175), (5, 139), (5, 99), (5, 101), (0, 30), (1, 13), (7, 82), (7, 84), (0, 63)] (by decide +kernel)
set_option maxRecDepth 100000 in
theorem liX11_makeFits : ∀ w ∈ wsX11_makeFits, w ∈ lw_tbl := lo_c (lo_1 7 81 (by first | rfl | decide +kernel)) (lo_a looX11_makeFits (lo_a liX110 (lo_a liX11_listFor liX11_isFit)))
set_option maxRecDepth 100000 in
theorem looX11_fit : ∀ w ∈ owX11_fit, w ∈ lw_tbl := lo_in _ [(5, 140), (5, 175), (6, 93), (6, 94), (1, 13), (7, 78), (7, 80), (0, 62)] (by decide +kernel)
set_option maxRecDepth 100000 in
theorem liX11_fit : ∀ w ∈ wsX11_fit, w ∈ lw_tbl := lo_c (lo_1 7 77 (by first | rfl | decide +kernel)) (lo_a looX11_fit (lo_a liX110 (lo_a liX11_in liX11_makeFits)))
set_option maxRecDepth 100000 in
theorem looX11_surely : ∀ w ∈ owX11_surely, w ∈ lw_tbl := lo_in _ [(5, 133), (5, 140), (5, 175), (5, 139), (6, 136), (6, 138), (0, 44), (1, 13), (6, 93), (6, 94), (5, 107), (5, 108), (7, 78), (7, 80), (0, 62), (6, 128), (6, 130), (0, 43)] (by decide +kernel)
set_option maxRecDepth 100000 in
theorem liX11_surely : ∀ w ∈ wsX11_surely, w ∈ lw_tbl := lo_c (lo_1 7 89 (by first | rfl | decide +kernel)) (lo_a looX11_surely (lo_a liX110 (lo_a liX11_isCorner (lo_a liX11_isLine (lo_a liX11_in (lo_a liX11_makeFits liX11_near))))))
set_option maxRecDepth 100000 in
theorem looX11_ask : ∀ w ∈ owX11_ask, w ∈ lw_tbl := lo_in _ [(5, 176), (5, 140), (5, 175), (5, 133), (5, 139), (5, 148), (6, 93), (6, 94), (1, 13), (7, 78), (7, 80), (0, 62), (6, 144), (6, 146), (0, 46)] (by decide +kernel)
set_option maxRecDepth 100000 in
theorem liX11_ask : ∀ w ∈ wsX11_ask, w ∈ lw_tbl := lo_c (lo_1 7 93 (by first | rfl | decide +kernel)) (lo_a looX11_ask (lo_a liX110 (lo_a liX11_in (lo_a liX11_makeFits liX11_entriesFrom))))
set_option maxRecDepth 100000 in
theorem looX11_count : ∀ w ∈ owX11_count, w ∈ lw_tbl := lo_in _ [(5, 165), (5, 166), (5, 124)] (by decide +kernel)
set_option maxRecDepth 100000 in
theorem liX11_count : ∀ w ∈ wsX11_count, w ∈ lw_tbl := lo_c (lo_1 7 97 (by first | rfl | decide +kernel)) (lo_a looX11_count liX110)
set_option maxRecDepth 100000 in
theorem looJ9_abs_0f7a4 : ∀ w ∈ owJ9_abs_0f7a4, w ∈ lw_tbl := lo_in _ [] (by decide +kernel)
set_option maxRecDepth 100000 in
theorem liJ9_abs_0f7a4 : ∀ w ∈ wsJ9_abs_0f7a4, w ∈ lw_tbl := lo_c (lo_1 3 90 (by first | rfl | decide +kernel)) looJ9_abs_0f7a4
set_option maxRecDepth 100000 in
theorem looJ9_max_7cf53 : ∀ w ∈ owJ9_max_7cf53, w ∈ lw_tbl := lo_in _ [] (by decide +kernel)
set_option maxRecDepth 100000 in
theorem liJ9_max_7cf53 : ∀ w ∈ wsJ9_max_7cf53, w ∈ lw_tbl := lo_c (lo_1 3 119 (by first | rfl | decide +kernel)) looJ9_max_7cf53
set_option maxRecDepth 100000 in
theorem looJ9_min_7cf53 : ∀ w ∈ owJ9_min_7cf53, w ∈ lw_tbl := lo_in _ [] (by decide +kernel)
set_option maxRecDepth 100000 in
theorem liJ9_min_7cf53 : ∀ w ∈ wsJ9_min_7cf53, w ∈ lw_tbl := lo_c (lo_1 3 116 (by first | rfl | decide +kernel)) looJ9_min_7cf53
set_option maxRecDepth 100000 in
theorem looL_law : ∀ w ∈ owL_law, w ∈ lw_tbl := lo_in _ [(1, 19), (1, 20), (1, 1), (5, 93), (5, 94), (1, 13), (1, 21), (1, 22), (5, 95), (5, 96), (2, 100), (2, 101), (2, 102), (6, 48), (6, 49), (6, 50), (2, 116), (2, 117), (2, 118), (6, 52), (6, 53), (6, 54), (2, 124), (2, 125), (2, 126), (6, 60), (6, 61), (6, 62), (3, 42), (3, 43), (3, 44), (6, 56), (6, 57), (6, 58), (3, 54), (3, 55), (3, 56), (6, 112), (6, 113), (6, 114), (3, 59), (3, 60), (3, 61), (6, 116), (6, 117), (6, 118), (3, 71), (3, 72), (3, 73), (6, 120), (6, 121), (6, 122), (3, 101), (3, 102), (3, 103), (6, 132), (6, 133), (6, 134), (3, 124), (3, 125), (3, 126), (6, 148), (6, 149), (6, 150), (3, 129), (3, 130), (3, 131), (6, 156), (6, 157), (6, 158), (3, 151), (3, 152), (3, 153), (6, 168), (6, 169), (6, 170), (3, 165), (3, 166), (3, 167), (6, 177), (6, 178), (6, 179), (3, 200), (3, 201), (3, 202), (6, 185), (6, 186), (6, 187), (3, 208), (3, 209), (3, 210), (6, 189), (6, 190), (6, 191), (3, 223), (3, 224), (3, 225), (6, 193), (6, 194), (6, 195), (4, 3), (4, 4), (4, 5), (6, 205), (6, 206), (6, 207), (4, 15), (4, 16), (4, 17), (6, 209), (6, 210), (6, 211), (4, 39), (4, 40), (4, 41), (6, 225), (6, 226), (6, 227), (4, 43), (4, 44), (4, 45), (6, 229), (6, 230), (6, 231), (4, 47), (4, 48), (4, 49), (6, 233), (6, 234), (6, 235), (4, 82), (4, 83), (4, 84), (7, 1), (7, 2), (7, 3), (4, 90), (4, 91), (4, 92), (7, 5), (7, 6), (7, 7), (4, 107), (4, 108), (4, 109), (7, 9), (7, 10), (7, 11), (4, 116), (4, 117), (4, 118), (7, 13), (7, 14), (7, 15), (4, 129), (4, 130), (4, 131), (7, 17), (7, 18), (7, 19), (4, 133), (4, 134), (4, 135), (7, 21), (7, 22), (7, 23), (4, 152), (4, 153), (4, 154), (7, 25), (7, 26), (7, 27), (4, 162), (4, 163), (4, 164), (7, 34), (7, 35), (7, 36), (4, 185), (4, 186), (4, 187), (7, 42), (7, 43), (7, 44), (4, 193), (4, 194), (4, 195), (7, 46), (7, 47), (7, 48), (4, 207), (4, 208), (4, 209), (7, 50), (7, 51), (7, 52), (4, 220), (4, 221), (4, 222), (7, 62), (7, 63), (7, 64), (4, 233), (4, 234), (4, 235), (7, 66), (7, 67), (7, 68), (5, 8), (5, 9), (5, 10), (7, 70), (7, 71), (7, 72), (5, 24), (5, 25), (5, 26), (7, 74), (7, 75), (7, 76), (5, 54), (5, 55), (5, 56), (7, 86), (7, 87), (7, 88), (5, 63), (5, 64), (5, 65), (7, 90), (7, 91), (7, 92), (5, 81), (5, 82), (5, 83), (7, 94), (7, 95), (7, 96)] (by decide +kernel)
set_option maxRecDepth 100000 in
theorem liL_law : ∀ w ∈ wsL_law, w ∈ lw_tbl := (lo_a looL_law (lo_a liX10_init (lo_a liX11_init (lo_a liX10_feed (lo_a liX11_feed (lo_a liX10_end (lo_a liX11_end (lo_a liX10_cut (lo_a liX11_cut (lo_a liX10_fault (lo_a liX11_fault (lo_a liX10_take (lo_a liX11_take (lo_a liX10_told (lo_a liX11_told (lo_a liX10_triangle (lo_a liX11_triangle (lo_a liX10_entry (lo_a liX11_entry (lo_a liX10_row (lo_a liX11_row (lo_a liX10_way (lo_a liX11_way (lo_a liX10_flip (lo_a liX11_flip (lo_a liX10_fewest (lo_a liX11_fewest (lo_a liX10_passed (lo_a liX11_passed (lo_a liX10_farthest (lo_a liX11_farthest (lo_a liX10_least (lo_a liX11_least (lo_a liX10_kinds (lo_a liX11_kinds (lo_a liX10_read (lo_a liX11_read (lo_a liX10_mend (lo_a liX11_mend (lo_a liX10_mended (lo_a liX11_mended (lo_a liX10_crossed (lo_a liX11_crossed (lo_a liX10_side (lo_a liX11_side (lo_a liX10_greatest (lo_a liX11_greatest (lo_a liX10_spread (lo_a liX11_spread (lo_a liX10_period (lo_a liX11_period (lo_a liX10_ofCut (lo_a liX11_ofCut (lo_a liX10_of (lo_a liX11_of (lo_a liX10_along (lo_a liX11_along (lo_a liX10_breaks (lo_a liX11_breaks (lo_a liX10_growth (lo_a liX11_growth (lo_a liX10_glue (lo_a liX11_glue (lo_a liX10_cutOff (lo_a liX11_cutOff (lo_a liX10_core (lo_a liX11_core (lo_a liX10_see (lo_a liX11_see (lo_a liX10_right (lo_a liX11_right (lo_a liX10_fit (lo_a liX11_fit (lo_a liX10_surely (lo_a liX11_surely (lo_a liX10_ask (lo_a liX11_ask (lo_a liX10_count liX11_count))))))))))))))))))))))))))))))))))))))))))))))))))))))))))))))))))))))))))))))
theorem wsL_law_in : ∀ w ∈ wsL_law, w ∈ lw_tbl := liL_law
theorem inX0 : ∀ w ∈ wsX00, w ∈ lw_tbl := liX00
theorem inX1 : ∀ w ∈ wsX10, w ∈ lw_tbl := liX10
theorem inX2 : ∀ w ∈ wsX20, w ∈ lw_tbl := liX20
theorem inX3 : ∀ w ∈ wsX30, w ∈ lw_tbl := liX30
theorem inX4 : ∀ w ∈ wsX40, w ∈ lw_tbl := liX40
theorem inX5 : ∀ w ∈ wsX50, w ∈ lw_tbl := liX50
theorem inX6 : ∀ w ∈ wsX60, w ∈ lw_tbl := liX60
theorem inX7 : ∀ w ∈ wsX70, w ∈ lw_tbl := liX70
theorem inX8 : ∀ w ∈ wsX80, w ∈ lw_tbl := liX80
theorem inX9 : ∀ w ∈ wsX90, w ∈ lw_tbl := liX90
theorem inX10 : ∀ w ∈ wsX100, w ∈ lw_tbl := liX100
theorem inX11 : ∀ w ∈ wsX110, w ∈ lw_tbl := liX110
theorem inJ6 : ∀ w ∈ wsJ60, w ∈ lw_tbl := liJ60
theorem inJ9 : ∀ w ∈ wsJ90, w ∈ lw_tbl := liJ90
theorem inJ0 : ∀ w ∈ wsJ00, w ∈ lw_tbl := liJ00
theorem inJ1 : ∀ w ∈ wsJ10, w ∈ lw_tbl := liJ10
theorem inJ2 : ∀ w ∈ wsJ20, w ∈ lw_tbl := liJ20
theorem inJ3 : ∀ w ∈ wsJ30, w ∈ lw_tbl := liJ30
end

section
/-! what the tables give at the law's entry -/
theorem z_arr {args : Array Value} {s : State} {ty : FieldType} (h : (Cond.arrayClass ty).before args s = true) : ∃ cA : ClassId, ArrOfT s cA ty ∧ s.vm.findClass ("[" ++ ty.toString) = some cA := by
  obtain ⟨cA, kA, comp, h1, h2, h3⟩ := Cond.arrayClass_spec (args := args) (first := s) (o := none) (s := s) (idx := []) h
  exact ⟨cA, fun n z => ⟨fun k h => (by cases h), kA, h2, comp, h3⟩, h1⟩
theorem z_arrP {s : State} (h : va_AO "DiamondRows$Polygon" s) : ∃ cA : ClassId, ArrOfT s cA (.object "DiamondRows$Polygon") ∧ va_RA s cA (.object "DiamondRows$Polygon") := by
  obtain ⟨comp, c, k, h1, h2, h3, h4, h5⟩ := Cond.arrayOver_spec h
  exact ⟨c, fun n z => ⟨fun k h => (by cases h), k, h3, comp, h4⟩, k, comp, h3, h4, h1, h5⟩
theorem z_nest {args : Array Value} {s : State} (hts : ∀ w ∈ lw_tbl, w.before args s = true) : zNest s :=
  ⟨va_AO.of (hts (.arrayOver (.object "DiamondRows$Polygon")) (by decide +kernel)), va_Nw.of rfl (hts (.methodLinkNest RX10 9 yX8_init RX10) (by decide +kernel)), va_Nw.of rfl (hts (.methodLinkNest RX10 18 yX6_init RX10) (by decide +kernel)), va_Nw.of rfl (hts (.methodLinkNest RX10 25 yX1_init RX10) (by decide +kernel)), va_Nw.of rfl (hts (.methodLinkNest RX10 32 yX9_init RX10) (by decide +kernel)), va_Nw.of rfl (hts (.methodLinkNest RX10 39 yX0_init RX10) (by decide +kernel)), va_Nw.of rfl (hts (.methodLinkNest RX10 46 yX4_init RX10) (by decide +kernel)), va_Nw.of rfl (hts (.methodLinkNest RX10 60 yX7_init RX10) (by decide +kernel)), va_Nw.of rfl (hts (.methodLinkNest RX10 67 yX3_init RX10) (by decide +kernel))⟩
theorem z_str {args : Array Value} {s : State} (hts : ∀ w ∈ lw_tbl, w.before args s = true) (hgv : (Jvm.Cond.and given_1 narrow_1).before args s = true) : ∃ str : Nat, vk_R RX1 47 "corners" str s := by
  have hs := flat_of_before _ hgv
  have h1 := hs (.exactly (.string "DiamondRows$CutText" 47) "java/lang/String") (by decide +kernel)
  obtain ⟨a, c, cell, k, q1, -⟩ := Cond.exactly_spec (args := args) (first := s) (o := none) (s := s) (idx := []) h1
  exact ⟨a, vk_R.of (A := args) (hts (.stringRef RX1 47 "corners") (by decide +kernel)) q1⟩
theorem z_known {args : Array Value} {s : State} (hts : ∀ w ∈ lw_tbl, w.before args s = true) : ∃ (D : va_G) (κ : Nat → ClassId), va_K D vwCl (zTY κ) s := by
  obtain ⟨c0, i0, k0⟩ := u_known (C := RX0) (T := TX0) (N := 2) (n := 2) hts inX0 (hts (.instantiable RX0 2) (by decide +kernel))
  obtain ⟨c1, i1, k1⟩ := u_known (C := RX1) (T := TX1) (N := 6) (n := 6) hts inX1 (hts (.instantiable RX1 6) (by decide +kernel))
  obtain ⟨c2, i2, k2⟩ := u_known (C := RX2) (T := TX2) (N := 2) (n := 2) hts inX2 (hts (.instantiable RX2 2) (by decide +kernel))
  obtain ⟨c3, i3, k3⟩ := u_known (C := RX3) (T := TX3) (N := 3) (n := 3) hts inX3 (hts (.instantiable RX3 3) (by decide +kernel))
  obtain ⟨c4, i4, k4⟩ := u_known (C := RX4) (T := TX4) (N := 5) (n := 5) hts inX4 (hts (.instantiable RX4 5) (by decide +kernel))
  obtain ⟨c5, i5, k5⟩ := u_known (C := RX5) (T := TX5) (N := 9) (n := 9) hts inX5 (hts (.instantiable RX5 9) (by decide +kernel))
  obtain ⟨c6, i6, k6⟩ := u_known (C := RX6) (T := TX6) (N := 1) (n := 1) hts inX6 (hts (.instantiable RX6 1) (by decide +kernel))
  obtain ⟨c7, i7, k7⟩ := u_known (C := RX7) (T := TX7) (N := 12) (n := 12) hts inX7 (hts (.instantiable RX7 12) (by decide +kernel))
  obtain ⟨c8, i8, k8⟩ := u_known (C := RX8) (T := TX8) (N := 6) (n := 6) hts inX8 (hts (.instantiable RX8 6) (by decide +kernel))
  obtain ⟨c9, i9, k9⟩ := u_known (C := RX9) (T := TX9) (N := 7) (n := 7) hts inX9 (hts (.instantiable RX9 7) (by decide +kernel))
  obtain ⟨c10, i10, k10⟩ := u_known (C := RX10) (T := TX10) (N := 13) (n := 13) hts inX10 (hts (.instantiable RX10 13) (by decide +kernel))
  obtain ⟨c11, i11, k11⟩ := u_known (C := RX11) (T := TX11) (N := 54) (n := 54) hts inX11 (hts (.instantiable RX11 54) (by decide +kernel))
  obtain ⟨a0, ha0, hb0⟩ := z_arr (hts (.arrayClass .byte) (by decide +kernel))
  obtain ⟨a1, ha1, hb1⟩ := z_arr (hts (.arrayClass .int) (by decide +kernel))
  obtain ⟨a2, ha2, hb2⟩ := z_arr (hts (.arrayClass .long) (by decide +kernel))
  obtain ⟨a3, ha3, hb3⟩ := z_arr (hts (.arrayClass .boolean) (by decide +kernel))
  obtain ⟨a4, ha4, hb4⟩ := z_arrP (z_nest hts).1
  refine ⟨(fun k => [c0, c1, c2, c3, c4, c5, c6, c7, c8, c9, c10, c11].getD k c0, fun k => [i0, i1, i2, i3, i4, i5, i6, i7, i8, i9, i10, i11].getD k i0), fun k => [a0, a1, a2, a3, a4].getD k a0, ?_, ?_⟩
  · intro k q hq
    match k, hq with
    | 0, hq => cases hq; exact k0
    | 1, hq => cases hq; exact k1
    | 2, hq => cases hq; exact k2
    | 3, hq => cases hq; exact k3
    | 4, hq => cases hq; exact k4
    | 5, hq => cases hq; exact k5
    | 6, hq => cases hq; exact k6
    | 7, hq => cases hq; exact k7
    | 8, hq => cases hq; exact k8
    | 9, hq => cases hq; exact k9
    | 10, hq => cases hq; exact k10
    | 11, hq => cases hq; exact k11
    | k + 12, hq => cases hq
  · intro k q hq
    match k, hq with
    | 0, hq => cases hq; exact ⟨ha0, hb0⟩
    | 1, hq => cases hq; exact ⟨ha1, hb1⟩
    | 2, hq => cases hq; exact ⟨ha2, hb2⟩
    | 3, hq => cases hq; exact ⟨ha3, hb3⟩
    | 4, hq => cases hq; exact ⟨ha4, hb4⟩
    | k + 5, hq => cases hq
end

section
/-! THE CLAIM OUT OF ONE WALK OF THE LAW'S BODY. Your part is whole_start (and what it stands on); all else here is the same for every law, but numbers. -/
def R_law : String := "DiamondRowsLaw"
def lw_P (b : Addr) (xs : List Int32) (args : Array Value) (s : State) : Prop := args = #[.ref b] ∧ s.IntsAt b xs ∧ xs.length ≤ 3072 ∧ (Jvm.Cond.and given_1 narrow_1).before args s = true
def lw_Q (_ : Array Value) (s : State) (o : Outcome) (t : State) : Prop := o = .returned (some (.int 1)) ∧ Framed s o t [] 600000 7302250
def lw_Z (below : List Frame) (a : Array Value) (s : State) : State → Prop := fun t => ∃ o, t.status = .running ∧ Ended t below o ∧ lw_Q a s o t
/-- the law's own end, with 1 on the stack, nothing written that was there before, its room as the claim has it -/
theorem lw_ret {p : Program} {l : Launch} {e : Env} {s : State} {m : MethodId} {below : List Frame} {meth : Method} {c : Code} {b : Nat} (hx : p.tables.exec = Jvm.exec) (hb : c.code = code) (hr : meth.sig.returnType = ret) (hlocks : meth.locks = false) {pc : Nat} {H : Heap} {ls : Array Slot} (hdg : decode code pc = .ok (.ireturn, 1)) : W p l e room_1 s m #[Value.ref b] below meth c H [] 600000 7302250 (lw_Z below #[Value.ref b] s) (F0 m pc ls [.int 1]) := by
  intro T hT X
  obtain ⟨fs, hret, hrun, hended, hW, hframe⟩ := X.leave (v := some (.int 1)) (hlocks := hlocks) (fun h => by rw [hr] at h; cases h)
  have hmeth' : T.vm.method? m = some meth := X.method'
  refine ⟨T.setFrames fs, ?_, .returned (some (.int 1)), hrun, hended, rfl, ⟨_, rfl⟩, hW, hframe⟩
  jvm_step X.here [X.here.top, hx, hb, hdg, hmeth', hr, ret, narrow_b1]
  (try refine ⟨rfl, ?_⟩); (try refine ⟨rfl, ?_⟩)
  first | (intro acts; rw [hret _ acts rfl rfl rfl]) | rw [hret _ _ rfl rfl rfl]
  exact Steps.refl _
/-- what holds at the law's entry: the machine, the code, the tables' words (any of lw_tbl by 'hts w (by decide +kernel)'), the script of L ints xs at the cell b, what the Statement gives of the start (any of its parts by flat_of_before) -/
def lw_At (p : Program) (s : State) (m : MethodId) (meth : Method) (c : Code) (b L : Nat) (xs : Nat → Int32) : Prop :=
  p.tables.exec = Jvm.exec ∧ c.code = code ∧ meth.sig.returnType = ret ∧ c.maxLocals = 4 ∧ s.vm.findClass R_law = some m.cls ∧ (∀ w ∈ lw_tbl, w.before #[Value.ref b] s = true) ∧ va_X b L xs s s.heap ∧ b < s.heap.size ∧ meth.locks = false ∧ (Jvm.Cond.and given_1 narrow_1).before #[Value.ref b] s = true
end

section
theorem zj_initU {U : Type} {p : Program} {l : Launch} {e : Env} {R : Room} {s : State} {m : MethodId} {args : Array Value} {below : List Frame} {meth : Method} {c : Code} {H H0 : Heap} {locs : List Loc} {cells slots mc ms : Nat} {Q : State → Prop} {ls : Array Slot} {pc : Nat} {st0 rest : List Value} {D : va_G} {κ : Nat → ClassId} {A : Nat → Prop} {wc : va_W} {a : Array Value} {post : U → Prop} {wf : U → va_W} {ws0 wr : va_W} (hr : va_Run p l e R s m args below meth c H locs cells slots mc ms (F0 m pc ls st0) rest (va_Qv post (fun u => zB D κ (va_A wc H.size) (wf u)) (va_A wc H.size) a) (va_A wc H.size))
    (hP : va_P D vwCl ws0 H) (hD : va_D A ws0) (hS : va_S A H0 H locs) (hA : ∀ q, H0.size ≤ q → A q) (isC isR : List Nat) (hC : isC.map (fun i => ws0[i]?) = wc.map some) (hR : isR.map (fun i => ws0[i]?) = wr.map some) (hn : va_nd isR = true) (hdis : isR.all (fun i => !isC.contains i) = true)
    (kk : ∀ (u : U) (H1 : Heap) (locs1 : List Loc), post u → va_P D vwCl (wr ++ wf u) H1 → va_D A (wr ++ wf u) → va_S A H0 H1 locs1 → W p l e R s m args below meth c H1 locs1 (cells + mc) (slots + ms) Q (F0 m (pc + 3) ls rest)) : W p l e R s m args below meth c H locs cells slots Q (F0 m pc ls st0) := by
  have hFc := va_free (wc := wc) hD hS hA isC hC
  refine va_callv hr hS (fun q _ h => hFc q h) hFc (fun u t H1 locs1 ht hvm hw hB hz1 hk1 hS1 => ?_)
  obtain ⟨hP1, -, hD1⟩ := hB
  rw [ht] at hP1
  obtain ⟨hP2, hD2⟩ := va_join (wr := wr) (w1 := wf u) hP hD isC isR hC hR hn (fun i hi hc => by have := List.all_eq_true.mp hdis i hi; simp [List.contains_iff_mem, hc] at this) hk1 hFc hP1 hD1
  exact kk u H1 locs1 hw hP2 hD2 hS1
theorem zpreIN {s : State} {H : Heap} {D : va_G} {κ : Nat → ClassId} {wc : va_W} {A : Nat → Prop} {As : List Value} {b : Nat} (hK : va_K D vwCl (zTY κ) s) (hP : va_P D vwCl wc H) (hD : va_D A wc) (hq : zNest s) : PreS s H (va_Pc (.ref b :: As) (fun U => zW D κ wc H.size U ∧ zNest U)) (.ref b :: As) :=
  ⟨fun a U g mk q => ⟨q.1, ⟨q.2.1.1, q.2.1.2.1, va_K.moved (u := U) (U := U.calling g mk a) (Vm.Alike.refl U.vm) q.2.1.2.2.1, q.2.1.2.2.2⟩, zNest_same (s := U) rfl q.2.2⟩, fun U hU hW => ⟨rfl, ⟨by rw [hU], by rw [hU]; exact hP, va_K.moved hW.alike hK, hD.weaken (fun _ _ _ _ => trivial)⟩, zNest_warm hW hq⟩⟩
theorem zno16 {n : Nat} (h : ¬ zno 16 n) : n = 4 := by
  by_cases q : n = 4
  · exact q
  · exfalso
    apply h
    by_cases h1 : n < 4
    · exact Or.inl h1
    · by_cases h2 : 9 < n
      · exact Or.inr (Or.inl h2)
      · have h3 : n = 5 ∨ n = 6 ∨ n = 7 ∨ n = 8 ∨ n = 9 := by omega
        rcases h3 with rfl | rfl | rfl | rfl | rfl <;> decide
theorem zpgc_has {κ : Nat → ClassId} {t : Nat → Nat} {n k : Nat} (hk : k < 7) : ∃ e, (zpgc κ t n)[k]? = some (t k, e) := by
  have h : k = 0 ∨ k = 1 ∨ k = 2 ∨ k = 3 ∨ k = 4 ∨ k = 5 ∨ k = 6 := by omega
  rcases h with rfl | rfl | rfl | rfl | rfl | rfl | rfl <;> exact ⟨_, rfl⟩
theorem zsep4 {D : va_G} {κ : Nat → ClassId} {A : Nat → Prop} {ad : Nat → Nat → Nat} {X : va_W} {H : Heap} (hP : va_P D vwCl (zpgc κ (ad 4) 4) H) (hD : va_D A (X ++ zpgc κ (ad 4) 4)) : zSep 16 ad X H.size := by
  intro n hn k hk
  have e := zno16 hn
  subst e
  obtain ⟨q, hq⟩ := zpgc_has (κ := κ) (t := ad 4) (n := 4) hk
  exact ⟨(hP k _ hq).lt, fun i w hw => zD_cross hD hw hq⟩
theorem zamb4 {D : va_G} {κ : Nat → ClassId} {ad : Nat → Nat → Nat} {H : Heap} (hP : va_P D vwCl (zpgc κ (ad 4) 4) H) : zAmb D κ 16 ad H := by
  intro n hn
  have e := zno16 hn
  subst e
  exact hP
theorem zs01 : zset 0 (Int.toNat (0 : Int)) (1 : Int) = 1 := by decide +kernel
theorem zg01 : zgetL 0x20000000000000001 (Int.toNat (0 : Int)) = 1 := by decide +kernel
theorem lf04 : zf_X11_listFor 0 0 0 0 0 0 0 0 4 = some (2, 4, 2, 4, 0xffffffff00000001ffffffff000000000000000000000000000000000000000000000000ffffffff00000000ffffffff0000000000000000000000000000000000000000000000000000000000000001ffffffff00000000ffffffff000000000000000000000000000000000000000000000000ffffffff00000000ffffffff00000000, 0x100000000, 0x300000002, 0x20000000000000001) := dq_of (d := (dqO (dqP dqI (dqP dqI (dqP dqI (dqP dqI (dqP dqN (dqP dqN (dqP dqN dqN))))))))) (by decide +kernel)
theorem zwx (κ : Nat → ClassId) (x : Nat → Nat) (ad : Nat → Nat → Nat) : zwf_X10_init κ x ad = (zLX κ x 16 ad 4 1 (-1) 0 0 0 0 0 0 0 (-1) 0 0 0 0 0 0 0 0 0 0 0 0 0 0 0 0 0 0 1 1 0 0 0 0 0 0 0 0 0 0 0 0 0 0 0 0) := by
  first | (unfold zwf_X10_init; rw [zs01]; done) | (unfold zwf_X10_init; rw [zs01]; rfl) | rfl
theorem zwy (κ : Nat → ClassId) (y : Nat → Nat) : zwf_X11_init κ (2, 4, 2, 4, 0xffffffff00000001ffffffff000000000000000000000000000000000000000000000000ffffffff00000000ffffffff0000000000000000000000000000000000000000000000000000000000000001ffffffff00000000ffffffff000000000000000000000000000000000000000000000000ffffffff00000000ffffffff00000000, 0x100000000, 0x300000002, 0x20000000000000001) y = (zLY κ y 0 0 0 0 0 0 0 (-1) 0 4 2 4 2 4 1 0 0 0 0 0 0 0 (-1) 0 1 0 0 0 0 0xffffffff00000001ffffffff000000000000000000000000000000000000000000000000ffffffff00000000ffffffff0000000000000000000000000000000000000000000000000000000000000001ffffffff00000000ffffffff000000000000000000000000000000000000000000000000ffffffff00000000ffffffff00000000 0x100000000 0x300000002 0x20000000000000001 0 0 0 0 0 0 0 0 0 0 0 1 0 0 0 0 0 0 0 0 0) := by
  first | (unfold zwf_X11_init; dsimp only; rw [zs01, zg01]; done) | (unfold zwf_X11_init; dsimp only; rw [zs01, zg01]; rfl) | (unfold zwf_X11_init; rw [zs01]; rfl) | rfl
end

section
theorem z_tail {p : Program} {l : Launch} {e : Env} {s : State} {m : MethodId} {below : List Frame} {meth : Method} {c : Code} {D : va_G} {κ : Nat → ClassId} {A : Nat → Prop} {b L : Nat} {xs : Nat → Int32} {cells slots : Nat} (hx : p.tables.exec = Jvm.exec) (hb : c.code = cL_law) (hr : meth.sig.returnType = ret) (hlocks : meth.locks = false) (hS0 : ∀ q, A q → s.heap.size ≤ q) (hc : cells ≤ 600000) (hs : slots ≤ 7302250) (H : Heap) (locs : List Loc) (ls : Array Slot) (hS : va_S A s.heap H locs) : W p l e room_1 s m #[Value.ref b] below meth c H locs cells slots (lw_Z below #[Value.ref b] s) (F0 m 1312 ls []) := by
  refine lv_iconst (v := 1) hx hb dL_law_1312 (by decide) ?_
  refine va_forget (fun q hq => hS0 _ (hS.2.2 q hq)) ?_
  refine W.widen (k := 600000) (n := 7302250) hc hs ?_
  exact lw_ret hx hb hr hlocks dL_law_1313
theorem z_and (a : Int) : 0 ≤ zand a 63 ∧ zand a 63 ≤ 63 := rand63 a
/-- the text constant and the statics as they stand at the entry -/
theorem z_stv {args : Array Value} {s : State} {A : Nat → Prop} (hts : ∀ w ∈ lw_tbl, w.before args s = true) (hgv : (Jvm.Cond.and given_1 narrow_1).before args s = true) (hA : ∀ a : Nat, a < s.heap.size → ¬ A a) : ∃ str sv : Nat, vk_R RX1 47 "corners" str s ∧ zStv str sv A s s.heap := by
  have hs := flat_of_before _ hgv
  have hex := hs (.exactly (.string "DiamondRows$CutText" 47) "java/lang/String") (by decide +kernel)
  have hco := hs (.eq (.field (.string "DiamondRows$CutText" 47) "java/lang/String" "coder" "B") (.int 0)) (by decide +kernel)
  have har := hs (.arrayOf (.field (.string "DiamondRows$CutText" 47) "java/lang/String" "value" "[B") .byte) (by decide +kernel)
  have hle := hs (.eq (.length (.field (.string "DiamondRows$CutText" 47) "java/lang/String" "value" "[B")) (.int 7)) (by decide +kernel)
  have hel : ∀ j : Nat, j < 7 → (Cond.eq (.elem (.field (.string "DiamondRows$CutText" 47) "java/lang/String" "value" "[B") (.int (Int32.ofNat j))) (.int (zSB.getD j 0))).before args s = true := by
    intro j hj
    have h : j = 0 ∨ j = 1 ∨ j = 2 ∨ j = 3 ∨ j = 4 ∨ j = 5 ∨ j = 6 := by omega
    rcases h with rfl | rfl | rfl | rfl | rfl | rfl | rfl
    · exact hs (.eq (.elem (.field (.string "DiamondRows$CutText" 47) "java/lang/String" "value" "[B") (.int 0)) (.int 99)) (by decide +kernel)
    · exact hs (.eq (.elem (.field (.string "DiamondRows$CutText" 47) "java/lang/String" "value" "[B") (.int 1)) (.int 111)) (by decide +kernel)
    · exact hs (.eq (.elem (.field (.string "DiamondRows$CutText" 47) "java/lang/String" "value" "[B") (.int 2)) (.int 114)) (by decide +kernel)
    · exact hs (.eq (.elem (.field (.string "DiamondRows$CutText" 47) "java/lang/String" "value" "[B") (.int 3)) (.int 110)) (by decide +kernel)
    · exact hs (.eq (.elem (.field (.string "DiamondRows$CutText" 47) "java/lang/String" "value" "[B") (.int 4)) (.int 101)) (by decide +kernel)
    · exact hs (.eq (.elem (.field (.string "DiamondRows$CutText" 47) "java/lang/String" "value" "[B") (.int 5)) (.int 114)) (by decide +kernel)
    · exact hs (.eq (.elem (.field (.string "DiamondRows$CutText" 47) "java/lang/String" "value" "[B") (.int 6)) (.int 115)) (by decide +kernel)
  obtain ⟨a, c, cA, kA, q1, q2, q3, q4, q5, q6, -⟩ := Cond.exactly_spec (args := args) (first := s) (o := none) (s := s) (idx := []) hex
  obtain ⟨t, ht, hT⟩ := va_Tof (f := fun j => .int (zSB.getD j 0)) (A := A) (N := 7) (by decide) har (va_eqt hle) (fun j hj => va_eqt (hel j hj)) hA
  have hcs := hs (.eq (.static "java/lang/String" "COMPACT_STRINGS" "Z") (.int 1)) (by decide +kernel)
  have hsi := hs (.isRef (.static "jdk/internal/util/Preconditions" "SIOOBE_FORMATTER" "Ljava/util/function/BiFunction;")) (by decide +kernel)
  exact ⟨a, t, vk_R.of (A := args) (hts (.stringRef RX1 47 "corners") (by decide +kernel)) q1, ⟨cA, q3, q5, by rw [q6]; exact q2, hA a (Array.getElem?_eq_some_iff.mp q3).1⟩, vk_OFof q1 (va_eqt hco) hA, vk_OFof q1 ht hA, hT, va_Zof (hts (.laysStatic "java/lang/String" "COMPACT_STRINGS" "Z") (by decide +kernel)) (hts (.initialized "java/lang/String") (by decide +kernel)) (va_eqt hcs) hA, va_Zqof (hts (.laysStatic "jdk/internal/util/Preconditions" "SIOOBE_FORMATTER" "Ljava/util/function/BiFunction;") (by decide +kernel)) (hts (.initialized "jdk/internal/util/Preconditions") (by decide +kernel)) hsi hA⟩
set_option maxHeartbeats 4000000 in
set_option maxRecDepth 100000 in
theorem z_loop {p : Program} {l : Launch} {e : Env} {s : State} {m : MethodId} {below : List Frame} {meth : Method} {c : Code} {D : va_G} {κ : Nat → ClassId} {A : Nat → Prop} {b L : Nat} {xs : Nat → Int32} (hx : p.tables.exec = Jvm.exec) (hb : c.code = cL_law) (hr : meth.sig.returnType = ret) (hlocks : meth.locks = false) (hml : c.maxLocals = 4) (hown : s.vm.findClass RL = some m.cls) (hts : ∀ w ∈ wsL_law, w.before #[Value.ref b] s = true) (hK : va_K D vwCl (zTY κ) s) (hA : ∀ q : Nat, s.heap.size ≤ q → A q) (hS0 : ∀ q, A q → s.heap.size ≤ q) (hX : va_X b L xs s s.heap) (hbl : b < s.heap.size) (hbA : ¬ A b) (hL : L ≤ 3072) (str sv : Nat) (hV : vk_R RX1 47 "corners" str s) (hst : zStv str sv A s s.heap) (x y : Nat → Nat) : ∀ (n i : Nat), L < i + 6 * n → i ≤ 6144 → ∀ (cells slots mk : Nat) (ad : Nat → Nat → Nat) (S : zSX) (T : zSY) (H : Heap) (locs : List Loc) (ls : Array Slot), cells + 7 * n ≤ 600000 → slots + 609 * n ≤ 7302250 → zIXs mk S → zIYs T → zRel S T → va_P D vwCl (zLXs κ x mk ad S) H → va_P D vwCl (zLYs κ y T) H → va_D A (zLXs κ x mk ad S ++ zLYs κ y T) → va_S A s.heap H locs → zAmb D κ mk ad H → zSep mk ad (zLXs κ x mk ad S) H.size → zSep mk ad (zLYs κ y T) H.size → lv_has ls 4 [(0, .ref b), (1, .ref (x 0)), (2, .ref (y 0)), (3, .int (zi (i : Int)))] → W p l e room_1 s m #[Value.ref b] below meth c H locs cells slots (lw_Z below #[Value.ref b] s) (F0 m 18 ls []) := by
  intro n
  induction n with
  | zero =>
    intro i hn hi0 cells slots mk ad S T H locs ls hc hs hIX hIY hR hPx hPy hD hS hB hZx hZy hl
    refine lv_iload_n hx hb dL_law_18 rfl (lv_at hl 3 rfl) ?_
    refine lv_aload_n hx hb dL_law_19 rfl (lv_at hl 0 rfl) ?_
    refine zv_slen hx hb hX hbl hbA hS dL_law_20 ?_
    refine zv_bipush hx hb dL_law_21 (by decide) ?_
    refine zv_isub hx hb dL_law_23 ?_
    refine zv_icmp_gt (tgt := 1312) hx hb dL_law_24 (by decide) (by unfold zout; omega) (by unfold zout; omega) (fun _ => ?_) (fun q => ?_)
    · exact z_tail (L := L) (xs := xs) (D := D) (κ := κ) hx hb hr hlocks hS0 (by omega) (by omega) H locs ls hS
    · exact absurd q (by omega)
  | succ n ih =>
    intro i hn hi0 cells slots mk ad S T H locs ls hc hs hIX hIY hR hPx hPy hD hS hB hZx hZy hl
    refine lv_iload_n hx hb dL_law_18 rfl (lv_at hl 3 rfl) ?_
    refine lv_aload_n hx hb dL_law_19 rfl (lv_at hl 0 rfl) ?_
    refine zv_slen hx hb hX hbl hbA hS dL_law_20 ?_
    refine zv_bipush hx hb dL_law_21 (by decide) ?_
    refine zv_isub hx hb dL_law_23 ?_
    refine zv_icmp_gt (tgt := 1312) hx hb dL_law_24 (by decide) (by unfold zout; omega) (by unfold zout; omega) (fun _ => ?_) (fun q => ?_)
    · exact z_tail (L := L) (xs := xs) (D := D) (κ := κ) hx hb hr hlocks hS0 (by omega) (by omega) H locs ls hS
    · have hi : i + 6 ≤ L := by omega
      have hroom : cells + 7 ≤ room_1.cells ∧ slots + 609 ≤ room_1.slots := ⟨by show cells + 7 ≤ 600000; omega, by show slots + 609 ≤ 7302250; omega⟩
      have kk : zKK p l e s m #[Value.ref b] below meth c (lw_Z below #[Value.ref b] s) D κ A s.heap x y ls (cells + 7) (slots + 609) 1306 := by
        intro mk ad S T H locs hIX hIY hR hPx hPy hD hS hB hZx hZy
        refine lv_iinc (v := zi (((i + 6 : Nat) : Nat) : Int)) (lv' := [(3, .int (zi ((i + 6 : Nat) : Int))), (0, .ref b), (1, .ref (x 0)), (2, .ref (y 0))]) hx hb dL_law_1306 hl (k := 3) rfl (by rw [show ((i + 6 : Nat) : Int) = (i : Int) + 6 by omega]; exact zi_add (i : Int) 6) (by decide) rfl (fun ls hl => ?_)
        refine lv_goto (tgt := 18) hx hb dL_law_1309 (by decide) ?_
        exact ih (i + 6) (by omega) (by omega) (cells + 7) (slots + 609) mk ad S T H locs ls (by omega) (by omega) hIX hIY hR hPx hPy hD hS hB hZx hZy (lv_sub hl [1, 2, 3, 0] rfl)
      refine lv_aload_n hx hb dL_law_27 rfl (lv_at hl 0 rfl) ?_
      refine lv_iload_n hx hb dL_law_28 rfl (lv_at hl 3 rfl) ?_
      refine zv_sld hx hb hX hbl hbA hS i (by rfl) (by omega) (by omega) dL_law_29 ?_
      refine zv_bipush hx hb dL_law_30 (by decide) ?_
      refine zv_iand hx hb dL_law_32 ?_
      obtain ⟨v1, v2⟩ := z_and (zX xs i)
      generalize zand (zX xs i) 63 = v at v1 v2 ⊢
      by_cases v3 : 37 < v
      · refine lv_tableOut (tgt := 1306) hx hb dL_law_33 (Or.inr (by rw [zi_int (by unfold zout; omega)]; exact v3)) (by decide) ?_
        refine W.widen (k := cells + 7) (n := slots + 609) (Nat.le_add_right _ _) (Nat.le_add_right _ _) ?_
        exact kk mk ad S T H locs hIX hIY hR hPx hPy hD hS hB hZx hZy
      have hv9 : v = 0 ∨ v = 1 ∨ v = 2 ∨ v = 3 ∨ v = 4 ∨ v = 5 ∨ v = 6 ∨ v = 7 ∨ v = 8 ∨ v = 9 ∨ v = 10 ∨ v = 11 ∨ v = 12 ∨ v = 13 ∨ v = 14 ∨ v = 15 ∨ v = 16 ∨ v = 17 ∨ v = 18 ∨ v = 19 ∨ v = 20 ∨ v = 21 ∨ v = 22 ∨ v = 23 ∨ v = 24 ∨ v = 25 ∨ v = 26 ∨ v = 27 ∨ v = 28 ∨ v = 29 ∨ v = 30 ∨ v = 31 ∨ v = 32 ∨ v = 33 ∨ v = 34 ∨ v = 35 ∨ v = 36 ∨ v = 37 := by omega
      rcases hv9 with rfl | rfl | rfl | rfl | rfl | rfl | rfl | rfl | rfl | rfl | rfl | rfl | rfl | rfl | rfl | rfl | rfl | rfl | rfl | rfl | rfl | rfl | rfl | rfl | rfl | rfl | rfl | rfl | rfl | rfl | rfl | rfl | rfl | rfl | rfl | rfl | rfl | rfl
      · refine lv_tableIn (off := 167) (tgt := 200) hx hb dL_law_33 (by decide) (by decide) (by first | rfl | decide) (by decide) ?_
        exact zp_0 x y mk ad S T hx hb hml hown hts hK hA hX hbl hbA hL hroom i hi H locs ls hIX hIY hR hPx hPy hD hS hB hZx hZy hl kk
      · refine lv_tableIn (off := 230) (tgt := 263) hx hb dL_law_33 (by decide) (by decide) (by first | rfl | decide) (by decide) ?_
        exact zp_1 x y mk ad S T hx hb hml hown hts hK hA hX hbl hbA hL hroom i hi H locs ls hIX hIY hR hPx hPy hD hS hB hZx hZy hl kk
      · refine lv_tableIn (off := 253) (tgt := 286) hx hb dL_law_33 (by decide) (by decide) (by first | rfl | decide) (by decide) ?_
        exact zp_2 x y mk ad S T hx hb hml hown hts hK hA hX hbl hbA hL hroom i hi H locs ls hIX hIY hR hPx hPy hD hS hB hZx hZy hl str sv hV hst kk
      · refine lv_tableIn (off := 266) (tgt := 299) hx hb dL_law_33 (by decide) (by decide) (by first | rfl | decide) (by decide) ?_
        exact zp_3 x y mk ad S T hx hb hml hown hts hK hA hX hbl hbA hL hroom i hi H locs ls hIX hIY hR hPx hPy hD hS hB hZx hZy hl kk
      · refine lv_tableIn (off := 289) (tgt := 322) hx hb dL_law_33 (by decide) (by decide) (by first | rfl | decide) (by decide) ?_
        exact zp_4 x y mk ad S T hx hb hml hown hts hK hA hX hbl hbA hL hroom i hi H locs ls hIX hIY hR hPx hPy hD hS hB hZx hZy hl kk
      · refine lv_tableIn (off := 322) (tgt := 355) hx hb dL_law_33 (by decide) (by decide) (by first | rfl | decide) (by decide) ?_
        exact zp_5 x y mk ad S T hx hb hml hown hts hK hA hX hbl hbA hL hroom i hi H locs ls hIX hIY hR hPx hPy hD hS hB hZx hZy hl kk
      · refine lv_tableIn (off := 345) (tgt := 378) hx hb dL_law_33 (by decide) (by decide) (by first | rfl | decide) (by decide) ?_
        exact zp_6 x y mk ad S T hx hb hml hown hts hK hA hX hbl hbA hL hroom i hi H locs ls hIX hIY hR hPx hPy hD hS hB hZx hZy hl kk
      · refine lv_tableIn (off := 378) (tgt := 411) hx hb dL_law_33 (by decide) (by decide) (by first | rfl | decide) (by decide) ?_
        exact zp_7 x y mk ad S T hx hb hml hown hts hK hA hX hbl hbA hL hroom i hi H locs ls hIX hIY hR hPx hPy hD hS hB hZx hZy hl kk
      · refine lv_tableIn (off := 411) (tgt := 444) hx hb dL_law_33 (by decide) (by decide) (by first | rfl | decide) (by decide) ?_
        exact zp_8 x y mk ad S T hx hb hml hown hts hK hA hX hbl hbA hL hroom i hi H locs ls hIX hIY hR hPx hPy hD hS hB hZx hZy hl kk
      · refine lv_tableIn (off := 434) (tgt := 467) hx hb dL_law_33 (by decide) (by decide) (by first | rfl | decide) (by decide) ?_
        exact zp_9 x y mk ad S T hx hb hml hown hts hK hA hX hbl hbA hL hroom i hi H locs ls hIX hIY hR hPx hPy hD hS hB hZx hZy hl kk
      · refine lv_tableIn (off := 487) (tgt := 520) hx hb dL_law_33 (by decide) (by decide) (by first | rfl | decide) (by decide) ?_
        exact zp_10 x y mk ad S T hx hb hml hown hts hK hA hX hbl hbA hL hroom i hi H locs ls hIX hIY hR hPx hPy hD hS hB hZx hZy hl kk
      · refine lv_tableIn (off := 520) (tgt := 553) hx hb dL_law_33 (by decide) (by decide) (by first | rfl | decide) (by decide) ?_
        exact zp_11 x y mk ad S T hx hb hml hown hts hK hA hX hbl hbA hL hroom i hi H locs ls hIX hIY hR hPx hPy hD hS hB hZx hZy hl kk
      · refine lv_tableIn (off := 543) (tgt := 576) hx hb dL_law_33 (by decide) (by decide) (by first | rfl | decide) (by decide) ?_
        exact zp_12 x y mk ad S T hx hb hml hown hts hK hA hX hbl hbA hL hroom i hi H locs ls hIX hIY hR hPx hPy hD hS hB hZx hZy hl kk
      · refine lv_tableIn (off := 566) (tgt := 599) hx hb dL_law_33 (by decide) (by decide) (by first | rfl | decide) (by decide) ?_
        exact zp_13 x y mk ad S T hx hb hml hown hts hK hA hX hbl hbA hL hroom i hi H locs ls hIX hIY hR hPx hPy hD hS hB hZx hZy hl kk
      · refine lv_tableIn (off := 589) (tgt := 622) hx hb dL_law_33 (by decide) (by decide) (by first | rfl | decide) (by decide) ?_
        exact zp_14 x y mk ad S T hx hb hml hown hts hK hA hX hbl hbA hL hroom i hi H locs ls hIX hIY hR hPx hPy hD hS hB hZx hZy hl kk
      · refine lv_tableIn (off := 628) (tgt := 661) hx hb dL_law_33 (by decide) (by decide) (by first | rfl | decide) (by decide) ?_
        exact zp_15 x y mk ad S T hx hb hml hown hts hK hA hX hbl hbA hL hroom i hi H locs ls hIX hIY hR hPx hPy hD hS hB hZx hZy hl kk
      · refine lv_tableIn (off := 677) (tgt := 710) hx hb dL_law_33 (by decide) (by decide) (by first | rfl | decide) (by decide) ?_
        exact zp_16 x y mk ad S T hx hb hml hown hts hK hA hX hbl hbA hL hroom i hi H locs ls hIX hIY hR hPx hPy hD hS hB hZx hZy hl kk
      · refine lv_tableIn (off := 690) (tgt := 723) hx hb dL_law_33 (by decide) (by decide) (by first | rfl | decide) (by decide) ?_
        exact zp_17 x y mk ad S T hx hb hml hown hts hK hA hX hbl hbA hL hroom i hi H locs ls hIX hIY hR hPx hPy hD hS hB hZx hZy hl kk
      · refine lv_tableIn (off := 703) (tgt := 736) hx hb dL_law_33 (by decide) (by decide) (by first | rfl | decide) (by decide) ?_
        exact zp_18 x y mk ad S T hx hb hml hown hts hK hA hX hbl hbA hL hroom i hi H locs ls hIX hIY hR hPx hPy hD hS hB hZx hZy hl kk
      · refine lv_tableIn (off := 716) (tgt := 749) hx hb dL_law_33 (by decide) (by decide) (by first | rfl | decide) (by decide) ?_
        exact zp_19 x y mk ad S T hx hb hml hown hts hK hA hX hbl hbA hL hroom i hi H locs ls hIX hIY hR hPx hPy hD hS hB hZx hZy hl kk
      · refine lv_tableIn (off := 759) (tgt := 792) hx hb dL_law_33 (by decide) (by decide) (by first | rfl | decide) (by decide) ?_
        exact zp_20 x y mk ad S T hx hb hml hown hts hK hA hX hbl hbA hL hroom i hi H locs ls hIX hIY hR hPx hPy hD hS hB hZx hZy hl kk
      · refine lv_tableIn (off := 802) (tgt := 835) hx hb dL_law_33 (by decide) (by decide) (by first | rfl | decide) (by decide) ?_
        exact zp_21 x y mk ad S T hx hb hml hown hts hK hA hX hbl hbA hL hroom i hi H locs ls hIX hIY hR hPx hPy hD hS hB hZx hZy hl kk
      · refine lv_tableIn (off := 835) (tgt := 868) hx hb dL_law_33 (by decide) (by decide) (by first | rfl | decide) (by decide) ?_
        exact zp_22 x y mk ad S T hx hb hml hown hts hK hA hX hbl hbA hL hroom i hi H locs ls hIX hIY hR hPx hPy hD hS hB hZx hZy hl kk
      · refine lv_tableIn (off := 878) (tgt := 911) hx hb dL_law_33 (by decide) (by decide) (by first | rfl | decide) (by decide) ?_
        exact zp_23 x y mk ad S T hx hb hml hown hts hK hA hX hbl hbA hL hroom i hi H locs ls hIX hIY hR hPx hPy hD hS hB hZx hZy hl kk
      · refine lv_tableIn (off := 891) (tgt := 924) hx hb dL_law_33 (by decide) (by decide) (by first | rfl | decide) (by decide) ?_
        exact zp_24 x y mk ad S T hx hb hml hown hts hK hA hX hbl hbA hL hroom i hi H locs ls hIX hIY hR hPx hPy hD hS hB hZx hZy hl kk
      · refine lv_tableIn (off := 904) (tgt := 937) hx hb dL_law_33 (by decide) (by decide) (by first | rfl | decide) (by decide) ?_
        exact zp_25 x y mk ad S T hx hb hml hown hts hK hA hX hbl hbA hL hroom i hi H locs ls hIX hIY hR hPx hPy hD hS hB hZx hZy hl kk
      · refine lv_tableIn (off := 927) (tgt := 960) hx hb dL_law_33 (by decide) (by decide) (by first | rfl | decide) (by decide) ?_
        exact zp_26 x y mk ad S T hx hb hml hown hts hK hA hX hbl hbA hL hroom i hi H locs ls hIX hIY hR hPx hPy hD hS hB hZx hZy hl kk
      · refine lv_tableIn (off := 960) (tgt := 993) hx hb dL_law_33 (by decide) (by decide) (by first | rfl | decide) (by decide) ?_
        exact zp_27 x y mk ad S T hx hb hml hown hts hK hA hX hbl hbA hL hroom i hi H locs ls hIX hIY hR hPx hPy hD hS hB hZx hZy hl kk
      · refine lv_tableIn (off := 983) (tgt := 1016) hx hb dL_law_33 (by decide) (by decide) (by first | rfl | decide) (by decide) ?_
        exact zp_28 x y mk ad S T hx hb hml hown hts hK hA hX hbl hbA hL hroom i hi H locs ls hIX hIY hR hPx hPy hD hS hB hZx hZy hl kk
      · refine lv_tableIn (off := 996) (tgt := 1029) hx hb dL_law_33 (by decide) (by decide) (by first | rfl | decide) (by decide) ?_
        exact zp_29 x y mk ad S T hx hb hml hown hts hK hA hX hbl hbA hL hroom i hi H locs ls hIX hIY hR hPx hPy hD hS hB hZx hZy hl kk
      · refine lv_tableIn (off := 1019) (tgt := 1052) hx hb dL_law_33 (by decide) (by decide) (by first | rfl | decide) (by decide) ?_
        exact zp_30 x y mk ad S T hx hb hml hown hts hK hA hX hbl hbA hL hroom i hi H locs ls hIX hIY hR hPx hPy hD hS hB hZx hZy hl kk
      · refine lv_tableIn (off := 1042) (tgt := 1075) hx hb dL_law_33 (by decide) (by decide) (by first | rfl | decide) (by decide) ?_
        exact zp_31 x y mk ad S T hx hb hml hown hts hK hA hX hbl hbA hL hroom i hi H locs ls hIX hIY hR hPx hPy hD hS hB hZx hZy hl kk
      · refine lv_tableIn (off := 1055) (tgt := 1088) hx hb dL_law_33 (by decide) (by decide) (by first | rfl | decide) (by decide) ?_
        exact zp_32 x y mk ad S T hx hb hml hown hts hK hA hX hbl hbA hL hroom i hi H locs ls hIX hIY hR hPx hPy hD hS hB hZx hZy hl kk
      · refine lv_tableIn (off := 1108) (tgt := 1141) hx hb dL_law_33 (by decide) (by decide) (by first | rfl | decide) (by decide) ?_
        exact zp_33 x y mk ad S T hx hb hml hown hts hK hA hX hbl hbA hL hroom i hi H locs ls hIX hIY hR hPx hPy hD hS hB hZx hZy hl kk
      · refine lv_tableIn (off := 1151) (tgt := 1184) hx hb dL_law_33 (by decide) (by decide) (by first | rfl | decide) (by decide) ?_
        exact zp_34 x y mk ad S T hx hb hml hown hts hK hA hX hbl hbA hL hroom i hi H locs ls hIX hIY hR hPx hPy hD hS hB hZx hZy hl kk
      · refine lv_tableIn (off := 1184) (tgt := 1217) hx hb dL_law_33 (by decide) (by decide) (by first | rfl | decide) (by decide) ?_
        exact zp_35 x y mk ad S T hx hb hml hown hts hK hA hX hbl hbA hL hroom i hi H locs ls hIX hIY hR hPx hPy hD hS hB hZx hZy hl kk
      · refine lv_tableIn (off := 1227) (tgt := 1260) hx hb dL_law_33 (by decide) (by decide) (by first | rfl | decide) (by decide) ?_
        exact zp_36 x y mk ad S T hx hb hml hown hts hK hA hX hbl hbA hL hroom i hi H locs ls hIX hIY hR hPx hPy hD hS hB hZx hZy hl kk
      · refine lv_tableIn (off := 1250) (tgt := 1283) hx hb dL_law_33 (by decide) (by decide) (by first | rfl | decide) (by decide) ?_
        exact zp_37 x y mk ad S T hx hb hml hown hts hK hA hX hbl hbA hL hroom i hi H locs ls hIX hIY hR hPx hPy hD hS hB hZx hZy hl kk
end

section
theorem inlX10 : ∀ w ∈ u_ws RX10 TX10 13, w ∈ wsL_law := fun w h => (ggL_law_X10_init w (List.mem_cons_of_mem _ (List.mem_append_right _ (List.mem_append_right _ (List.mem_append_left _ h))))).1
theorem inlX11 : ∀ w ∈ u_ws RX11 TX11 54, w ∈ wsL_law := fun w h => (ggL_law_X11_init w (List.mem_cons_of_mem _ (List.mem_append_right _ (List.mem_append_left _ h)))).1
end

section
noncomputable def az (A lo hi c : Nat) : Bool := tabR A (lo : Int) (hi : Int) c
theorem z0X : zIX 16 4 1 (-1) 0 0 0 0 0 0 0 (-1) 0 0 0 0 0 0 0 0 0 0 0 0 0 0 0 0 0 0 1 1 0 0 0 0 0 0 0 0 0 0 0 0 0 0 0 0 := by
  refine ⟨?_, ⟨0, by decide, by decide +kernel⟩, by decide, by decide, Or.inl rfl, Or.inl rfl, by decide, by decide, by decide, by decide, by decide, by decide, by decide, by decide, tabR_ok _ (by decide +kernel), tabR_ok _ (by decide +kernel), by decide, by decide, by decide, by decide, by decide, by decide, fun k hk => absurd (show (k : Int) < 0 from hk) (by omega), fun k hk => absurd hk (by omega), by decide, by decide⟩
  intro z
  rcases z with z | z | z <;> revert z <;> decide
theorem z0T : TL 4 2 0xffffffff00000001ffffffff000000000000000000000000000000000000000000000000ffffffff00000000ffffffff0000000000000000000000000000000000000000000000000000000000000001ffffffff00000000ffffffff000000000000000000000000000000000000000000000000ffffffff00000000ffffffff00000000 0x100000000 0x300000002 := by
  obtain ⟨o, ho, q1, q2, q3, q4, q5⟩ := ok_lf 4 (by decide) (by decide) 0 0 0 0 0 0 0 0 (by decide) (by decide) (by decide) (by decide) (fun h => absurd h (by decide)) (fun h => absurd h (by decide))
  have e : zf_X11_listFor 0 0 0 0 0 0 0 0 ((4 : Nat) : Int) = _ := lf04
  rw [ho] at e
  cases e
  exact ⟨by decide, by decide, q2⟩
theorem z0L : LK 4 2 0x20000000000000001 := ⟨by decide, by decide, rfl, LI_k (c := 2) (by decide +kernel) rfl⟩
theorem z0Y : zIY 0 0 0 0 0 0 0 (-1) 0 4 2 4 2 4 1 0 0 0 0 0 0 0 (-1) 0 1 0 0 0 0 0xffffffff00000001ffffffff000000000000000000000000000000000000000000000000ffffffff00000000ffffffff0000000000000000000000000000000000000000000000000000000000000001ffffffff00000000ffffffff000000000000000000000000000000000000000000000000ffffffff00000000ffffffff00000000 0x100000000 0x300000002 0x20000000000000001 0 0 0 0 0 0 0 0 0 0 0 1 0 0 0 0 0 0 0 0 0 := ⟨by decide, by decide, z0T, z0L, by decide, by decide, ⟨by decide, by decide, 0, by decide, by decide +kernel⟩, by decide, by decide, by decide, by decide, by decide, by decide, fun k hk => absurd (show (k : Int) < 0 from hk) (by omega), fun k hk => absurd hk (by omega), by decide, by decide, tabR_ok _ (by decide +kernel), tabR_ok _ (by decide +kernel), by decide, by decide⟩
set_option maxHeartbeats 4000000 in
set_option maxRecDepth 100000 in
theorem whole_start {p : Program} {e : Env} {s : State} {m : MethodId} {below : List Frame} {meth : Method} {c : Code} (l : Launch) {b L : Nat} {xs : Nat → Int32} (hL : L ≤ 3072) (C0 : lw_At p s m meth c b L xs) : W p l e room_1 s m #[Value.ref b] below meth c s.heap [] 0 0 (lw_Z below #[Value.ref b] s) (entryFrame m ([Value.ref b] : List Value).toArray 4) := by
  obtain ⟨hx, hb, hr, hml, hown, hts0, hX, hbl, hlocks, hgv⟩ := id C0
  have hown : s.vm.findClass RL = some m.cls := hown
  have hts : ∀ w ∈ wsL_law, w.before #[Value.ref b] s = true := fun w h => hts0 w (wsL_law_in w h)
  have hN : zNest s := z_nest hts0
  obtain ⟨D, κ, hK⟩ := z_known hts0
  obtain ⟨A, hAe⟩ : ∃ A : Nat → Prop, A = fun q : Nat => s.heap.size ≤ q := ⟨_, rfl⟩
  have hA : ∀ q : Nat, s.heap.size ≤ q → A q := fun q h => by rw [hAe]; exact h
  have hS0 : ∀ q : Nat, A q → s.heap.size ≤ q := fun q h => by rw [hAe] at h; exact h
  have hbA : ¬ A b := fun h => absurd (hS0 _ h) (by omega)
  obtain ⟨str, sv, hV, hst⟩ := z_stv (A := A) hts0 hgv (fun a ha h => absurd (hS0 _ h) (by omega))
  have hS : va_S A s.heap s.heap [] := va_S.rf
  have hP : va_P D vwCl [] s.heap := fun k q h => by simp at h
  have hD : va_D A [] := ⟨fun i j p q h => by simp at h, fun k q h => by simp at h⟩
  have hl := lv_entry ([.ref b]) (n := 4) (Nat.le_of_ble_eq_true rfl)
  rw [lg_entry_eq]
  generalize (lg_sl ([.ref b]) ++ List.replicate (4 - (lg_sl ([.ref b])).length) Slot.unset).toArray = ls at hl ⊢
  have hl : lv_has ls 4 [(0, .ref b)] := hl
  refine va_new (ci := 10) (fs := [.null, .null, .null, .null, .null, .null, .null, .null, .null, .null, .null, .int (zi 0), .int (zi 0)]) (C := RX10) (T := TX10) (N := 13) hx hb hts inlX10 tyX10 tyX10_ok hown (hts (.classLink RL 7 RX10) (by decide +kernel)) (hts (.instantiable RX10 13) (by decide +kernel)) (hts (.initialized RX10) (by decide +kernel)) hK hP hD hS hA rfl (by decide) (Nat.le_of_ble_eq_true rfl) (Nat.le_of_ble_eq_true rfl) dL_law_0 (fun q0 H hP hD hS => ?_)
  have hP : va_P D vwCl [(q0, .inr (10, [.null, .null, .null, .null, .null, .null, .null, .null, .null, .null, .null, .int (zi 0), .int (zi 0)]))] H := hP
  have hD : va_D A [(q0, .inr (10, [.null, .null, .null, .null, .null, .null, .null, .null, .null, .null, .null, .int (zi 0), .int (zi 0)]))] := hD
  refine W.widen (k := 1) (n := 13) (Nat.le_of_ble_eq_true rfl) (Nat.le_of_ble_eq_true rfl) ?_
  refine lv_dup hx hb dL_law_3 rfl ?_
  refine zj_initU (wr := []) (va_runI (As := []) (rest := [.ref q0]) ⟨hx, hb, hml, hown, hts⟩ (zc_X10_init l D κ q0 H.size) (cwI 0 hts gL_law_X10_init rfl rfl rfl (hts (.initialized RX10) (by decide +kernel)) (hts (.methodLink RL 9 yX10_init) (by decide +kernel)) (hts (.instanceMethod yX10_init) (by decide +kernel)) rfl (by decide +kernel) ⟨Nat.le_of_ble_eq_true rfl, Nat.le_of_ble_eq_true rfl⟩) (zpreIN hK (hP.sub [0] rfl) (hD.sub [0] (by decide) rfl) hN) rfl rfl hl.1 rfl (lv_room (Nat.le_of_ble_eq_true rfl)) dL_law_4 ⟨Nat.le_of_ble_eq_true rfl, Nat.le_of_ble_eq_true rfl⟩) hP hD hS hA [0] [] rfl rfl (by decide) (by decide) (fun u H2 locs2 hu hP2 hD2 hS2 => ?_)
  obtain ⟨x, ad⟩ := u
  have hu : x 0 = q0 := hu
  subst hu
  have hP : va_P D vwCl (zwf_X10_init κ x ad ++ zpgc κ (ad 4) 4) H2 := hP2
  have hD : va_D A (zwf_X10_init κ x ad ++ zpgc κ (ad 4) 4) := hD2
  have hS := hS2
  clear hP2 hD2 hS2
  generalize H2 = H at hP hS ⊢
  generalize locs2 = locs at hS ⊢
  refine W.widen (k := 38) (n := 2965) (Nat.le_of_ble_eq_true rfl) (Nat.le_of_ble_eq_true rfl) ?_
  refine lv_astore_n (lv' := [(1, .ref (x 0)), (0, .ref b)]) hx hb dL_law_7 rfl hl (by decide) rfl (fun ls hl => ?_)
  rw [zwx] at hP hD
  generalize hXe : (zLX κ x 16 ad 4 1 (-1) 0 0 0 0 0 0 0 (-1) 0 0 0 0 0 0 0 0 0 0 0 0 0 0 0 0 0 0 1 1 0 0 0 0 0 0 0 0 0 0 0 0 0 0 0 0) = X at hP hD
  refine va_new (ci := 11) (fs := [.null, .int (zi 0), .int (zi 0), .int (zi 0), .int (zi 0), .int (zi 0), .int (zi 0), .int (zi 0), .int (zi 0), .long (zl 0), .int (zi 0), .null, .null, .null, .int (zi 0), .int (zi 0), .null, .int (zi 0), .int (zi 0), .long (zl 0), .int (zi 0), .long (zl 0), .null, .null, .null, .null, .int (zi 0), .null, .int (zi 0), .int (zi 0), .null, .null, .int (zi 0), .null, .int (zi 0), .null, .int (zi 0), .int (zi 0), .null, .null, .int (zi 0), .null, .int (zi 0), .int (zi 0), .int (zi 0), .null, .null, .null, .null, .null, .null, .null, .null, .null]) (C := RX11) (T := TX11) (N := 54) hx hb hts inlX11 tyX11 tyX11_ok hown (hts (.classLink RL 10 RX11) (by decide +kernel)) (hts (.instantiable RX11 54) (by decide +kernel)) (hts (.initialized RX11) (by decide +kernel)) hK hP hD hS hA rfl (by decide) (Nat.le_of_ble_eq_true rfl) (Nat.le_of_ble_eq_true rfl) dL_law_8 (fun q1 H hP hD hS => ?_)
  subst hXe
  have hP : va_P D vwCl ((zLX κ x 16 ad 4 1 (-1) 0 0 0 0 0 0 0 (-1) 0 0 0 0 0 0 0 0 0 0 0 0 0 0 0 0 0 0 1 1 0 0 0 0 0 0 0 0 0 0 0 0 0 0 0 0) ++ zpgc κ (ad 4) 4 ++ [(q1, .inr (11, [.null, .int (zi 0), .int (zi 0), .int (zi 0), .int (zi 0), .int (zi 0), .int (zi 0), .int (zi 0), .int (zi 0), .long (zl 0), .int (zi 0), .null, .null, .null, .int (zi 0), .int (zi 0), .null, .int (zi 0), .int (zi 0), .long (zl 0), .int (zi 0), .long (zl 0), .null, .null, .null, .null, .int (zi 0), .null, .int (zi 0), .int (zi 0), .null, .null, .int (zi 0), .null, .int (zi 0), .null, .int (zi 0), .int (zi 0), .null, .null, .int (zi 0), .null, .int (zi 0), .int (zi 0), .int (zi 0), .null, .null, .null, .null, .null, .null, .null, .null, .null]))]) H := hP
  have hD : va_D A ((zLX κ x 16 ad 4 1 (-1) 0 0 0 0 0 0 0 (-1) 0 0 0 0 0 0 0 0 0 0 0 0 0 0 0 0 0 0 1 1 0 0 0 0 0 0 0 0 0 0 0 0 0 0 0 0) ++ zpgc κ (ad 4) 4 ++ [(q1, .inr (11, [.null, .int (zi 0), .int (zi 0), .int (zi 0), .int (zi 0), .int (zi 0), .int (zi 0), .int (zi 0), .int (zi 0), .long (zl 0), .int (zi 0), .null, .null, .null, .int (zi 0), .int (zi 0), .null, .int (zi 0), .int (zi 0), .long (zl 0), .int (zi 0), .long (zl 0), .null, .null, .null, .null, .int (zi 0), .null, .int (zi 0), .int (zi 0), .null, .null, .int (zi 0), .null, .int (zi 0), .null, .int (zi 0), .int (zi 0), .null, .null, .int (zi 0), .null, .int (zi 0), .int (zi 0), .int (zi 0), .null, .null, .null, .null, .null, .null, .null, .null, .null]))]) := hD
  refine W.widen (k := 39) (n := 3019) (Nat.le_of_ble_eq_true rfl) (Nat.le_of_ble_eq_true rfl) ?_
  refine lv_dup hx hb dL_law_11 rfl ?_
  refine zj_initU (wr := (zLX κ x 16 ad 4 1 (-1) 0 0 0 0 0 0 0 (-1) 0 0 0 0 0 0 0 0 0 0 0 0 0 0 0 0 0 0 1 1 0 0 0 0 0 0 0 0 0 0 0 0 0 0 0 0) ++ zpgc κ (ad 4) 4) (va_runI (As := []) (rest := [.ref q1]) ⟨hx, hb, hml, hown, hts⟩ (zc_X11_init l D κ q1 H.size _ lf04) (cwI 0 hts gL_law_X11_init rfl rfl rfl (hts (.initialized RX11) (by decide +kernel)) (hts (.methodLink RL 12 yX11_init) (by decide +kernel)) (hts (.instanceMethod yX11_init) (by decide +kernel)) rfl (by decide +kernel) ⟨Nat.le_of_ble_eq_true rfl, Nat.le_of_ble_eq_true rfl⟩) (zpreI hK (hP.sub [38] rfl) (hD.sub [38] (by decide) rfl)) rfl rfl hl.1 rfl (lv_room (Nat.le_of_ble_eq_true rfl)) dL_law_12 ⟨Nat.le_of_ble_eq_true rfl, Nat.le_of_ble_eq_true rfl⟩) hP hD hS hA [38] [0, 1, 2, 3, 4, 5, 6, 7, 8, 9, 10, 11, 12, 13, 14, 15, 16, 17, 18, 19, 20, 21, 22, 23, 24, 25, 26, 27, 28, 29, 30, 31, 32, 33, 34, 35, 36, 37] rfl rfl (by decide) (by decide) (fun y H2 locs2 hu hP2 hD2 hS2 => ?_)
  have hu : y 0 = q1 := hu
  subst hu
  have hP2 : va_P D vwCl ((zLX κ x 16 ad 4 1 (-1) 0 0 0 0 0 0 0 (-1) 0 0 0 0 0 0 0 0 0 0 0 0 0 0 0 0 0 0 1 1 0 0 0 0 0 0 0 0 0 0 0 0 0 0 0 0) ++ zpgc κ (ad 4) 4 ++ zwf_X11_init κ (2, 4, 2, 4, 0xffffffff00000001ffffffff000000000000000000000000000000000000000000000000ffffffff00000000ffffffff0000000000000000000000000000000000000000000000000000000000000001ffffffff00000000ffffffff000000000000000000000000000000000000000000000000ffffffff00000000ffffffff00000000, 0x100000000, 0x300000002, 0x20000000000000001) y) H2 := hP2
  have hD2 : va_D A ((zLX κ x 16 ad 4 1 (-1) 0 0 0 0 0 0 0 (-1) 0 0 0 0 0 0 0 0 0 0 0 0 0 0 0 0 0 0 1 1 0 0 0 0 0 0 0 0 0 0 0 0 0 0 0 0) ++ zpgc κ (ad 4) 4 ++ zwf_X11_init κ (2, 4, 2, 4, 0xffffffff00000001ffffffff000000000000000000000000000000000000000000000000ffffffff00000000ffffffff0000000000000000000000000000000000000000000000000000000000000001ffffffff00000000ffffffff000000000000000000000000000000000000000000000000ffffffff00000000ffffffff00000000, 0x100000000, 0x300000002, 0x20000000000000001) y) := hD2
  rw [zwy] at hP2 hD2
  have hP : va_P D vwCl ((zLX κ x 16 ad 4 1 (-1) 0 0 0 0 0 0 0 (-1) 0 0 0 0 0 0 0 0 0 0 0 0 0 0 0 0 0 0 1 1 0 0 0 0 0 0 0 0 0 0 0 0 0 0 0 0) ++ zpgc κ (ad 4) 4 ++ (zLY κ y 0 0 0 0 0 0 0 (-1) 0 4 2 4 2 4 1 0 0 0 0 0 0 0 (-1) 0 1 0 0 0 0 0xffffffff00000001ffffffff000000000000000000000000000000000000000000000000ffffffff00000000ffffffff0000000000000000000000000000000000000000000000000000000000000001ffffffff00000000ffffffff000000000000000000000000000000000000000000000000ffffffff00000000ffffffff00000000 0x100000000 0x300000002 0x20000000000000001 0 0 0 0 0 0 0 0 0 0 0 1 0 0 0 0 0 0 0 0 0)) H2 := hP2
  have hD : va_D A ((zLX κ x 16 ad 4 1 (-1) 0 0 0 0 0 0 0 (-1) 0 0 0 0 0 0 0 0 0 0 0 0 0 0 0 0 0 0 1 1 0 0 0 0 0 0 0 0 0 0 0 0 0 0 0 0) ++ zpgc κ (ad 4) 4 ++ (zLY κ y 0 0 0 0 0 0 0 (-1) 0 4 2 4 2 4 1 0 0 0 0 0 0 0 (-1) 0 1 0 0 0 0 0xffffffff00000001ffffffff000000000000000000000000000000000000000000000000ffffffff00000000ffffffff0000000000000000000000000000000000000000000000000000000000000001ffffffff00000000ffffffff000000000000000000000000000000000000000000000000ffffffff00000000ffffffff00000000 0x100000000 0x300000002 0x20000000000000001 0 0 0 0 0 0 0 0 0 0 0 1 0 0 0 0 0 0 0 0 0)) := hD2
  have hS := hS2
  clear hP2 hD2 hS2
  generalize H2 = H at hP hS ⊢
  generalize locs2 = locs at hS ⊢
  refine W.widen (k := 65) (n := 11888) (Nat.le_of_ble_eq_true rfl) (Nat.le_of_ble_eq_true rfl) ?_
  refine lv_astore_n (lv' := [(2, .ref (y 0)), (1, .ref (x 0)), (0, .ref b)]) hx hb dL_law_15 rfl hl (by decide) rfl (fun ls hl => ?_)
  have hPx : va_P D vwCl (zLX κ x 16 ad 4 1 (-1) 0 0 0 0 0 0 0 (-1) 0 0 0 0 0 0 0 0 0 0 0 0 0 0 0 0 0 0 1 1 0 0 0 0 0 0 0 0 0 0 0 0 0 0 0 0) H := hP.sub [0, 1, 2, 3, 4, 5, 6, 7, 8, 9, 10, 11, 12, 13, 14, 15, 16, 17, 18, 19, 20, 21, 22, 23, 24, 25, 26, 27, 28, 29, 30] rfl
  have hPq : va_P D vwCl (zpgc κ (ad 4) 4) H := hP.sub [31, 32, 33, 34, 35, 36, 37] rfl
  have hPy : va_P D vwCl (zLY κ y 0 0 0 0 0 0 0 (-1) 0 4 2 4 2 4 1 0 0 0 0 0 0 0 (-1) 0 1 0 0 0 0 0xffffffff00000001ffffffff000000000000000000000000000000000000000000000000ffffffff00000000ffffffff0000000000000000000000000000000000000000000000000000000000000001ffffffff00000000ffffffff000000000000000000000000000000000000000000000000ffffffff00000000ffffffff00000000 0x100000000 0x300000002 0x20000000000000001 0 0 0 0 0 0 0 0 0 0 0 1 0 0 0 0 0 0 0 0 0) H := hP.sub [38, 39, 40, 41, 42, 43, 44, 45, 46, 47, 48, 49, 50, 51, 52, 53, 54, 55, 56, 57, 58, 59, 60, 61, 62, 63, 64] rfl
  have hDx : va_D A ((zLX κ x 16 ad 4 1 (-1) 0 0 0 0 0 0 0 (-1) 0 0 0 0 0 0 0 0 0 0 0 0 0 0 0 0 0 0 1 1 0 0 0 0 0 0 0 0 0 0 0 0 0 0 0 0) ++ zpgc κ (ad 4) 4) := hD.sub [0, 1, 2, 3, 4, 5, 6, 7, 8, 9, 10, 11, 12, 13, 14, 15, 16, 17, 18, 19, 20, 21, 22, 23, 24, 25, 26, 27, 28, 29, 30, 31, 32, 33, 34, 35, 36, 37] (by decide) rfl
  have hDy : va_D A ((zLY κ y 0 0 0 0 0 0 0 (-1) 0 4 2 4 2 4 1 0 0 0 0 0 0 0 (-1) 0 1 0 0 0 0 0xffffffff00000001ffffffff000000000000000000000000000000000000000000000000ffffffff00000000ffffffff0000000000000000000000000000000000000000000000000000000000000001ffffffff00000000ffffffff000000000000000000000000000000000000000000000000ffffffff00000000ffffffff00000000 0x100000000 0x300000002 0x20000000000000001 0 0 0 0 0 0 0 0 0 0 0 1 0 0 0 0 0 0 0 0 0) ++ zpgc κ (ad 4) 4) := hD.sub [38, 39, 40, 41, 42, 43, 44, 45, 46, 47, 48, 49, 50, 51, 52, 53, 54, 55, 56, 57, 58, 59, 60, 61, 62, 63, 64, 31, 32, 33, 34, 35, 36, 37] (by decide) rfl
  have hDxy : va_D A ((zLX κ x 16 ad 4 1 (-1) 0 0 0 0 0 0 0 (-1) 0 0 0 0 0 0 0 0 0 0 0 0 0 0 0 0 0 0 1 1 0 0 0 0 0 0 0 0 0 0 0 0 0 0 0 0) ++ (zLY κ y 0 0 0 0 0 0 0 (-1) 0 4 2 4 2 4 1 0 0 0 0 0 0 0 (-1) 0 1 0 0 0 0 0xffffffff00000001ffffffff000000000000000000000000000000000000000000000000ffffffff00000000ffffffff0000000000000000000000000000000000000000000000000000000000000001ffffffff00000000ffffffff000000000000000000000000000000000000000000000000ffffffff00000000ffffffff00000000 0x100000000 0x300000002 0x20000000000000001 0 0 0 0 0 0 0 0 0 0 0 1 0 0 0 0 0 0 0 0 0)) := hD.sub [0, 1, 2, 3, 4, 5, 6, 7, 8, 9, 10, 11, 12, 13, 14, 15, 16, 17, 18, 19, 20, 21, 22, 23, 24, 25, 26, 27, 28, 29, 30, 38, 39, 40, 41, 42, 43, 44, 45, 46, 47, 48, 49, 50, 51, 52, 53, 54, 55, 56, 57, 58, 59, 60, 61, 62, 63, 64] (by decide) rfl
  have hZx := zsep4 hPq hDx
  have hZy := zsep4 hPq hDy
  have hB := zamb4 hPq
  refine zv_iconst hx hb dL_law_16 ?_
  refine lv_istore_n (lv' := [(3, .int (zi 0)), (2, .ref (y 0)), (1, .ref (x 0)), (0, .ref b)]) hx hb dL_law_17 rfl hl (by decide) rfl (fun ls hl => ?_)
  have hl : lv_has ls 4 [(0, .ref b), (3, .int (zi 0)), (1, .ref (x 0)), (2, .ref (y 0))] := lv_sub hl [3, 0, 2, 1] rfl
  have hl : lv_has ls 4 [(0, .ref b), (1, .ref (x 0)), (2, .ref (y 0)), (3, .int (zi ((0 : Nat) : Int)))] := lv_sub hl [0, 2, 3, 1] rfl
  exact z_loop (D := D) (κ := κ) hx hb hr hlocks hml hown hts hK hA hS0 hX hbl hbA hL str sv hV hst x y 513 0 (by omega) (by omega) 65 11888 16 ad ⟨4, 1, (-1), 0, 0, 0, 0, 0, 0, 0, (-1), 0, 0, 0, 0, 0, 0, 0, 0, 0, 0, 0, 0, 0, 0, 0, 0, 0, 0, 1, 1, 0, 0, 0, 0, 0, 0, 0, 0, 0, 0, 0, 0, 0, 0, 0, 0⟩ ⟨0, 0, 0, 0, 0, 0, 0, (-1), 0, 4, 2, 4, 2, 4, 1, 0, 0, 0, 0, 0, 0, 0, (-1), 0, 1, 0, 0, 0, 0, 0xffffffff00000001ffffffff000000000000000000000000000000000000000000000000ffffffff00000000ffffffff0000000000000000000000000000000000000000000000000000000000000001ffffffff00000000ffffffff000000000000000000000000000000000000000000000000ffffffff00000000ffffffff00000000, 0x100000000, 0x300000002, 0x20000000000000001, 0, 0, 0, 0, 0, 0, 0, 0, 0, 0, 0, 1, 0, 0, 0, 0, 0, 0, 0, 0, 0⟩ H locs ls (by omega) (by omega) z0X z0Y ⟨rfl, rfl, BR_0, rfl, rfl, rfl, rfl, rfl, rfl, rfl⟩ hPx hPy hDxy hS hB hZx hZy hl
end
