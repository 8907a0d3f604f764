set_option maxRecDepth 100000 in
theorem looX11_isLine : ∀ w ∈ owX11_isLine, w ∈ lw_tbl := lo_in _ [(5, 110), (5, 111), (1, 13)] (by decide +kernel)
set_option maxRecDepth 100000 in
theorem liX11_isLine : ∀ w ∈ wsX11_isLine, w ∈ lw_tbl := lo_c (lo_1 5 109 (by first | rfl | decide +kernel)) (lo_a looX11_isLine liX11_isNext)
set_option maxRecDepth 100000 in
theorem looX11_linesOf : ∀ w ∈ owX11_linesOf, w ∈ lw_tbl := lo_in _ [(5, 138), (5, 137), (5, 134), (5, 135), (5, 136), (5, 107), (5, 108), (1, 13)] (by decide +kernel)
set_option maxRecDepth 100000 in
theorem liX11_linesOf : ∀ w ∈ wsX11_linesOf, w ∈ lw_tbl := lo_c (lo_1 5 106 (by first | rfl | decide +kernel)) (lo_a looX11_linesOf (lo_a liX110 liX11_isLine))
set_option maxRecDepth 100000 in
theorem looX11_isBetween : ∀ w ∈ owX11_isBetween, w ∈ lw_tbl := lo_in _ [] (by decide +kernel)
set_option maxRecDepth 100000 in
theorem liX11_isBetween : ∀ w ∈ wsX11_isBetween, w ∈ lw_tbl := lo_c (lo_1 5 122 (by first | rfl | decide +kernel)) looX11_isBetween
set_option maxRecDepth 100000 in
theorem looX11_isCross : ∀ w ∈ owX11_isCross, w ∈ lw_tbl := lo_in _ [(5, 120), (5, 121), (1, 13)] (by decide +kernel)
set_option maxRecDepth 100000 in
theorem liX11_isCross : ∀ w ∈ wsX11_isCross, w ∈ lw_tbl := lo_c (lo_1 5 119 (by first | rfl | decide +kernel)) (lo_a looX11_isCross liX11_isBetween)
set_option maxRecDepth 100000 in
theorem looX11_grow : ∀ w ∈ owX11_grow, w ∈ lw_tbl := lo_in _ [(5, 139), (5, 140), (5, 137), (5, 135), (5, 136), (5, 117), (5, 118), (1, 13), (5, 113), (5, 115), (0, 32)] (by decide +kernel)
set_option maxRecDepth 100000 in
theorem liX11_grow : ∀ w ∈ wsX11_grow, w ∈ lw_tbl := lo_c (lo_1 5 116 (by first | rfl | decide +kernel)) (lo_a looX11_grow (lo_a liX110 liX11_isCross))
set_option maxRecDepth 100000 in
theorem looX11_listFor : ∀ w ∈ owX11_listFor, w ∈ lw_tbl := lo_in _ [(5, 141), (5, 140), (5, 139), (5, 103), (5, 105), (0, 31), (1, 13), (5, 113), (5, 115), (0, 32)] (by decide +kernel)
set_option maxRecDepth 100000 in
theorem liX11_listFor : ∀ w ∈ wsX11_listFor, w ∈ lw_tbl := lo_c (lo_1 5 102 (by first | rfl | decide +kernel)) (lo_a looX11_listFor (lo_a liX110 (lo_a liX11_linesOf liX11_grow)))
set_option maxRecDepth 100000 in
theorem looX11_init : ∀ w ∈ owX11_init, w ∈ lw_tbl := lo_in _ [(5, 98), (1, 25), (1, 26), (1, 52), (5, 123), (5, 131), (1, 118), (5, 134), (5, 135), (5, 136), (6, 46), (5, 139), (5, 145), (5, 146), (5, 147), (5, 148), (5, 150), (5, 153), (5, 154), (5, 156), (5, 158), (5, 159), (5, 161), (5, 162), (5, 164), (5, 168), (5, 169), (5, 170), (5, 171), (5, 172), (5, 173), (5, 174), (6, 47), (5, 175), (5, 176), (5, 133), (5, 142), (5, 163), (5, 99), (5, 101), (0, 30), (1, 13)] (by decide +kernel)
set_option maxRecDepth 100000 in
theorem liX11_init : ∀ w ∈ wsX11_init, w ∈ lw_tbl := lo_c (lo_1 5 97 (by first | rfl | decide +kernel)) (lo_a looX11_init (lo_a liX110 liX11_listFor))
set_option maxRecDepth 100000 in
theorem looX11_in : ∀ w ∈ owX11_in, w ∈ lw_tbl := lo_in _ [] (by decide +kernel)
set_option maxRecDepth 100000 in
theorem liX11_in : ∀ w ∈ wsX11_in, w ∈ lw_tbl := lo_c (lo_1 6 95 (by first | rfl | decide +kernel)) looX11_in
set_option maxRecDepth 100000 in
theorem looX11_feed : ∀ w ∈ owX11_feed, w ∈ lw_tbl := lo_in _ [(5, 124), (5, 123)] (by decide +kernel)
set_option maxRecDepth 100000 in
theorem liX11_feed : ∀ w ∈ wsX11_feed, w ∈ lw_tbl := lo_c (lo_1 6 51 (by first | rfl | decide +kernel)) (lo_a looX11_feed liX110)
set_option maxRecDepth 100000 in
theorem looX11_end : ∀ w ∈ owX11_end, w ∈ lw_tbl := lo_in _ [(5, 124)] (by decide +kernel)
set_option maxRecDepth 100000 in
theorem liX11_end : ∀ w ∈ wsX11_end, w ∈ lw_tbl := lo_c (lo_1 6 55 (by first | rfl | decide +kernel)) (lo_a looX11_end liX110)
set_option maxRecDepth 100000 in
theorem looX11_byteAt : ∀ w ∈ owX11_byteAt, w ∈ lw_tbl := lo_in _ [(5, 125), (5, 123)] (by decide +kernel)
set_option maxRecDepth 100000 in
theorem liX11_byteAt : ∀ w ∈ wsX11_byteAt, w ∈ lw_tbl := lo_c (lo_1 6 75 (by first | rfl | decide +kernel)) (lo_a looX11_byteAt liX110)
set_option maxRecDepth 100000 in
theorem looX11_isSmall : ∀ w ∈ owX11_isSmall, w ∈ lw_tbl := lo_in _ [] (by decide +kernel)
set_option maxRecDepth 100000 in
theorem liX11_isSmall : ∀ w ∈ wsX11_isSmall, w ∈ lw_tbl := lo_c (lo_1 6 78 (by first | rfl | decide +kernel)) looX11_isSmall
set_option maxRecDepth 100000 in
theorem looX11_isDigit : ∀ w ∈ owX11_isDigit, w ∈ lw_tbl := lo_in _ [] (by decide +kernel)
set_option maxRecDepth 100000 in
theorem liX11_isDigit : ∀ w ∈ wsX11_isDigit, w ∈ lw_tbl := lo_c (lo_1 6 83 (by first | rfl | decide +kernel)) looX11_isDigit
set_option maxRecDepth 100000 in
theorem looX11_scan : ∀ w ∈ owX11_scan, w ∈ lw_tbl := lo_in _ [(5, 128), (5, 127), (5, 126), (5, 132), (6, 79), (6, 80), (5, 129), (6, 72), (6, 74), (0, 35), (1, 13), (6, 76), (6, 77), (6, 81), (6, 82)] (by decide +kernel)
set_option maxRecDepth 100000 in
theorem liX11_scan : ∀ w ∈ wsX11_scan, w ∈ lw_tbl := lo_c (lo_1 6 71 (by first | rfl | decide +kernel)) (lo_a looX11_scan (lo_a liX110 (lo_a liX11_byteAt (lo_a liX11_isSmall liX11_isDigit))))
set_option maxRecDepth 100000 in
theorem looX11_begin : ∀ w ∈ owX11_begin, w ∈ lw_tbl := lo_in _ [(5, 124), (5, 125), (5, 128), (6, 68), (6, 70), (0, 34), (1, 13)] (by decide +kernel)
set_option maxRecDepth 100000 in
theorem liX11_begin : ∀ w ∈ wsX11_begin, w ∈ lw_tbl := lo_c (lo_1 6 67 (by first | rfl | decide +kernel)) (lo_a looX11_begin (lo_a liX110 liX11_scan))
set_option maxRecDepth 100000 in
theorem looX11_fails : ∀ w ∈ owX11_fails, w ∈ lw_tbl := lo_in _ [(5, 130), (5, 127), (5, 131)] (by decide +kernel)
set_option maxRecDepth 100000 in
theorem liX11_fails : ∀ w ∈ wsX11_fails, w ∈ lw_tbl := lo_c (lo_1 6 92 (by first | rfl | decide +kernel)) (lo_a looX11_fails liX110)
set_option maxRecDepth 100000 in
theorem looX11_fault : ∀ w ∈ owX11_fault, w ∈ lw_tbl := lo_in _ [(5, 130), (5, 131)] (by decide +kernel)
set_option maxRecDepth 100000 in
theorem liX11_fault : ∀ w ∈ wsX11_fault, w ∈ lw_tbl := lo_c (lo_1 6 59 (by first | rfl | decide +kernel)) (lo_a looX11_fault liX110)
set_option maxRecDepth 100000 in
theorem looX11_placeOf : ∀ w ∈ owX11_placeOf, w ∈ lw_tbl := lo_in _ [(5, 140), (5, 139)] (by decide +kernel)
set_option maxRecDepth 100000 in
theorem liX11_placeOf : ∀ w ∈ wsX11_placeOf, w ∈ lw_tbl := lo_c (lo_1 6 111 (by first | rfl | decide +kernel)) (lo_a looX11_placeOf liX110)
set_option maxRecDepth 100000 in
theorem looX11_ownNumber : ∀ w ∈ owX11_ownNumber, w ∈ lw_tbl := lo_in _ [(5, 133), (5, 142), (5, 99), (5, 101), (0, 30), (1, 13), (6, 108), (6, 110), (0, 41)] (by decide +kernel)
set_option maxRecDepth 100000 in
theorem liX11_ownNumber : ∀ w ∈ wsX11_ownNumber, w ∈ lw_tbl := lo_c (lo_1 6 107 (by first | rfl | decide +kernel)) (lo_a looX11_ownNumber (lo_a liX110 (lo_a liX11_listFor liX11_placeOf)))
set_option maxRecDepth 100000 in
theorem looX11_becomes : ∀ w ∈ owX11_becomes, w ∈ lw_tbl := lo_in _ [(5, 133), (5, 165), (5, 166), (5, 167), (5, 142)] (by decide +kernel)
set_option maxRecDepth 100000 in
theorem liX11_becomes : ∀ w ∈ wsX11_becomes, w ∈ lw_tbl := lo_c (lo_1 6 103 (by first | rfl | decide +kernel)) (lo_a looX11_becomes liX110)
set_option maxRecDepth 100000 in
theorem looX11_near : ∀ w ∈ owX11_near, w ∈ lw_tbl := lo_in _ [(5, 134), (5, 110), (5, 111), (1, 13)] (by decide +kernel)
set_option maxRecDepth 100000 in
theorem liX11_near : ∀ w ∈ wsX11_near, w ∈ lw_tbl := lo_c (lo_1 6 131 (by first | rfl | decide +kernel)) (lo_a looX11_near (lo_a liX110 liX11_isNext))
set_option maxRecDepth 100000 in
theorem looX11_readCorner : ∀ w ∈ owX11_readCorner, w ∈ lw_tbl := lo_in _ [(5, 126), (5, 129), (5, 143), (6, 89), (6, 91), (0, 37), (1, 13), (6, 93), (6, 94)] (by decide +kernel)
set_option maxRecDepth 100000 in
theorem liX11_readCorner : ∀ w ∈ wsX11_readCorner, w ∈ lw_tbl := lo_c (lo_1 6 99 (by first | rfl | decide +kernel)) (lo_a looX11_readCorner (lo_a liX110 (lo_a liX11_fails liX11_in)))
set_option maxRecDepth 100000 in
theorem looX11_readCut : ∀ w ∈ owX11_readCut, w ∈ lw_tbl := lo_in _ [(5, 126), (5, 132), (6, 88), (5, 129), (5, 143), (5, 144), (5, 134), (5, 137), (5, 135), (5, 136), (6, 89), (6, 91), (0, 37), (1, 13), (6, 68), (6, 70), (0, 34), (6, 93), (6, 94), (5, 103), (5, 105), (0, 31), (5, 107), (5, 108), (6, 96), (6, 98), (0, 38), (5, 117), (5, 118)] (by decide +kernel)
set_option maxRecDepth 100000 in
theorem liX11_readCut : ∀ w ∈ wsX11_readCut, w ∈ lw_tbl := lo_c (lo_1 6 87 (by first | rfl | decide +kernel)) (lo_a looX11_readCut (lo_a liX110 (lo_a liX11_fails (lo_a liX11_scan (lo_a liX11_in (lo_a liX11_linesOf (lo_a liX11_readCorner (lo_a liX11_isLine liX11_isCross))))))))
set_option maxRecDepth 100000 in
theorem looX11_cut : ∀ w ∈ owX11_cut, w ∈ lw_tbl := lo_in _ [(5, 130), (5, 131), (5, 143), (5, 144), (6, 64), (6, 66), (0, 33), (1, 13), (6, 84), (6, 86), (0, 36), (6, 100), (6, 102), (0, 39), (6, 104), (6, 106), (0, 40)] (by decide +kernel)
set_option maxRecDepth 100000 in
theorem liX11_cut : ∀ w ∈ wsX11_cut, w ∈ lw_tbl := lo_c (lo_1 6 63 (by first | rfl | decide +kernel)) (lo_a looX11_cut (lo_a liX110 (lo_a liX11_begin (lo_a liX11_readCut (lo_a liX11_becomes liX11_ownNumber)))))
set_option maxRecDepth 100000 in
theorem looX11_take : ∀ w ∈ owX11_take, w ∈ lw_tbl := lo_in _ [(5, 140), (5, 139), (6, 93), (6, 94), (1, 13), (5, 99), (5, 101), (0, 30), (6, 100), (6, 102), (0, 39)] (by decide +kernel)
set_option maxRecDepth 100000 in
theorem liX11_take : ∀ w ∈ wsX11_take, w ∈ lw_tbl := lo_c (lo_1 6 115 (by first | rfl | decide +kernel)) (lo_a looX11_take (lo_a liX110 (lo_a liX11_in (lo_a liX11_listFor liX11_becomes))))
set_option maxRecDepth 100000 in
theorem looX11_told : ∀ w ∈ owX11_told, w ∈ lw_tbl := lo_in _ [(5, 133), (5, 140), (5, 163), (6, 104), (6, 106), (0, 40), (1, 13), (5, 99), (5, 101), (0, 30)] (by decide +kernel)
set_option maxRecDepth 100000 in
theorem liX11_told : ∀ w ∈ wsX11_told, w ∈ lw_tbl := lo_c (lo_1 6 119 (by first | rfl | decide +kernel)) (lo_a looX11_told (lo_a liX110 (lo_a liX11_ownNumber liX11_listFor)))
set_option maxRecDepth 100000 in
theorem looX11_isCorner : ∀ w ∈ owX11_isCorner, w ∈ lw_tbl := lo_in _ [(5, 133), (6, 93), (6, 94), (1, 13)] (by decide +kernel)
set_option maxRecDepth 100000 in
theorem liX11_isCorner : ∀ w ∈ wsX11_isCorner, w ∈ lw_tbl := lo_c (lo_1 6 139 (by first | rfl | decide +kernel)) (lo_a looX11_isCorner (lo_a liX110 liX11_in))
set_option maxRecDepth 100000 in
theorem looX11_trianglesOf : ∀ w ∈ owX11_trianglesOf, w ∈ lw_tbl := lo_in _ [(5, 145), (5, 146), (5, 147), (5, 103), (5, 105), (0, 31), (1, 13), (6, 128), (6, 130), (0, 43)] (by decide +kernel)
set_option maxRecDepth 100000 in
theorem liX11_trianglesOf : ∀ w ∈ wsX11_trianglesOf, w ∈ lw_tbl := lo_c (lo_1 6 127 (by first | rfl | decide +kernel)) (lo_a looX11_trianglesOf (lo_a liX110 (lo_a liX11_linesOf liX11_near)))
set_option maxRecDepth 100000 in
theorem looX11_triangle : ∀ w ∈ owX11_triangle, w ∈ lw_tbl := lo_in _ [(5, 133), (5, 142), (5, 145), (5, 146), (5, 147), (6, 93), (6, 94), (1, 13), (6, 124), (6, 126), (0, 42)] (by decide +kernel)
set_option maxRecDepth 100000 in
theorem liX11_triangle : ∀ w ∈ wsX11_triangle, w ∈ lw_tbl := lo_c (lo_1 6 123 (by first | rfl | decide +kernel)) (lo_a looX11_triangle (lo_a liX110 (lo_a liX11_in liX11_trianglesOf)))
set_option maxRecDepth 100000 in
theorem looX11_isAt : ∀ w ∈ owX11_isAt, w ∈ lw_tbl := lo_in _ [(5, 145), (5, 146), (5, 147)] (by decide +kernel)
set_option maxRecDepth 100000 in
theorem liX11_isAt : ∀ w ∈ wsX11_isAt, w ∈ lw_tbl := lo_c (lo_1 6 167 (by first | rfl | decide +kernel)) (lo_a looX11_isAt liX110)
set_option maxRecDepth 100000 in
theorem looX11_entriesFrom : ∀ w ∈ owX11_entriesFrom, w ∈ lw_tbl := lo_in _ [(5, 148), (5, 145), (5, 146), (5, 147), (6, 124), (6, 126), (0, 42), (1, 13), (6, 128), (6, 130), (0, 43)] (by decide +kernel)
set_option maxRecDepth 100000 in
theorem liX11_entriesFrom : ∀ w ∈ wsX11_entriesFrom, w ∈ lw_tbl := lo_c (lo_1 6 147 (by first | rfl | decide +kernel)) (lo_a looX11_entriesFrom (lo_a liX110 (lo_a liX11_trianglesOf liX11_near)))
set_option maxRecDepth 100000 in
theorem looX11_entryOf : ∀ w ∈ owX11_entryOf, w ∈ lw_tbl := lo_in _ [(5, 148), (6, 144), (6, 146), (0, 46), (1, 13)] (by decide +kernel)
set_option maxRecDepth 100000 in
theorem liX11_entryOf : ∀ w ∈ wsX11_entryOf, w ∈ lw_tbl := lo_c (lo_1 6 143 (by first | rfl | decide +kernel)) (lo_a looX11_entryOf (lo_a liX110 liX11_entriesFrom))
set_option maxRecDepth 100000 in
theorem looX11_entry : ∀ w ∈ owX11_entry, w ∈ lw_tbl := lo_in _ [(5, 133), (5, 142), (6, 136), (6, 138), (0, 44), (1, 13), (6, 140), (6, 142), (0, 45)] (by decide +kernel)
set_option maxRecDepth 100000 in
theorem liX11_entry : ∀ w ∈ wsX11_entry, w ∈ lw_tbl := lo_c (lo_1 6 135 (by first | rfl | decide +kernel)) (lo_a looX11_entry (lo_a liX110 (lo_a liX11_isCorner liX11_entryOf)))
set_option maxRecDepth 100000 in
theorem looX11_rowAt : ∀ w ∈ owX11_rowAt, w ∈ lw_tbl := lo_in _ [(5, 107), (5, 108), (1, 13), (6, 128), (6, 130), (0, 43)] (by decide +kernel)
set_option maxRecDepth 100000 in
theorem liX11_rowAt : ∀ w ∈ wsX11_rowAt, w ∈ lw_tbl := lo_c (lo_1 6 155 (by first | rfl | decide +kernel)) (lo_a looX11_rowAt (lo_a liX11_isLine liX11_near))
set_option maxRecDepth 100000 in
theorem looX11_row : ∀ w ∈ owX11_row, w ∈ lw_tbl := lo_in _ [(5, 133), (5, 142), (6, 136), (6, 138), (0, 44), (1, 13), (5, 103), (5, 105), (0, 31), (6, 152), (6, 154), (0, 47)] (by decide +kernel)
set_option maxRecDepth 100000 in
theorem liX11_row : ∀ w ∈ wsX11_row, w ∈ lw_tbl := lo_c (lo_1 6 151 (by first | rfl | decide +kernel)) (lo_a looX11_row (lo_a liX110 (lo_a liX11_isCorner (lo_a liX11_linesOf liX11_rowAt))))
set_option maxRecDepth 100000 in
theorem looX11_isWay : ∀ w ∈ owX11_isWay, w ∈ lw_tbl := lo_in _ [(5, 133), (5, 149), (5, 150), (6, 164), (6, 166), (0, 49), (1, 13), (6, 160), (6, 162), (0, 48)] (by decide +kernel)
set_option maxRecDepth 100000 in
theorem liX11_isWay : ∀ w ∈ wsX11_isWay, w ∈ lw_tbl := lo_c (lo_1 6 163 (by first | rfl | decide +kernel)) (lo_a looX11_isWay (lo_a liX110 liX11_isAt))
set_option maxRecDepth 100000 in
theorem looX11_way : ∀ w ∈ owX11_way, w ∈ lw_tbl := lo_in _ [(5, 133), (5, 142), (5, 149), (5, 150), (6, 136), (6, 138), (0, 44), (1, 13), (6, 124), (6, 126), (0, 42), (6, 160), (6, 162), (0, 48), (5, 120), (5, 121)] (by decide +kernel)
set_option maxRecDepth 100000 in
theorem liX11_way : ∀ w ∈ wsX11_way, w ∈ lw_tbl := lo_c (lo_1 6 159 (by first | rfl | decide +kernel)) (lo_a looX11_way (lo_a liX110 (lo_a liX11_isCorner (lo_a liX11_trianglesOf (lo_a liX11_isWay liX11_isBetween)))))
set_option maxRecDepth 100000 in
theorem looX11_flipped : ∀ w ∈ owX11_flipped, w ∈ lw_tbl := lo_in _ [(5, 151), (5, 152), (5, 134), (6, 176), (6, 128), (6, 130), (0, 43), (1, 13)] (by decide +kernel)
set_option maxRecDepth 100000 in
theorem liX11_flipped : ∀ w ∈ wsX11_flipped, w ∈ lw_tbl := lo_c (lo_1 6 175 (by first | rfl | decide +kernel)) (lo_a looX11_flipped (lo_a liX110 liX11_near))
set_option maxRecDepth 100000 in
theorem looX11_flip : ∀ w ∈ owX11_flip, w ∈ lw_tbl := lo_in _ [(5, 133), (5, 142), (5, 151), (5, 152), (6, 136), (6, 138), (0, 44), (1, 13), (5, 103), (5, 105), (0, 31), (5, 107), (5, 108), (6, 128), (6, 130), (0, 43), (6, 172), (6, 174), (0, 50)] (by decide +kernel)
set_option maxRecDepth 100000 in
theorem liX11_flip : ∀ w ∈ wsX11_flip, w ∈ lw_tbl := lo_c (lo_1 6 171 (by first | rfl | decide +kernel)) (lo_a looX11_flip (lo_a liX110 (lo_a liX11_isCorner (lo_a liX11_linesOf (lo_a liX11_isLine (lo_a liX11_near liX11_flipped))))))
set_option maxRecDepth 100000 in
theorem looX11_spreadFrom : ∀ w ∈ owX11_spreadFrom, w ∈ lw_tbl := lo_in _ [(5, 140), (5, 153), (5, 154), (5, 139), (5, 137), (5, 133), (5, 135), (5, 136), (6, 172), (6, 174), (0, 50), (1, 13), (6, 108), (6, 110), (0, 41)] (by decide +kernel)
set_option maxRecDepth 100000 in
theorem liX11_spreadFrom : ∀ w ∈ wsX11_spreadFrom, w ∈ lw_tbl := lo_c (lo_1 6 184 (by first | rfl | decide +kernel)) (lo_a looX11_spreadFrom (lo_a liX110 (lo_a liX11_flipped liX11_placeOf)))
set_option maxRecDepth 100000 in
theorem looX11_fewest : ∀ w ∈ owX11_fewest, w ∈ lw_tbl := lo_in _ [(5, 133), (5, 140), (5, 142), (5, 153), (5, 155), (5, 156), (5, 139), (5, 137), (5, 135), (5, 136), (5, 99), (5, 101), (0, 30), (1, 13), (6, 93), (6, 94), (6, 181), (6, 183), (0, 51), (6, 172), (6, 174), (0, 50), (6, 108), (6, 110), (0, 41)] (by decide +kernel)
set_option maxRecDepth 100000 in
theorem liX11_fewest : ∀ w ∈ wsX11_fewest, w ∈ lw_tbl := lo_c (lo_1 6 180 (by first | rfl | decide +kernel)) (lo_a looX11_fewest (lo_a liX110 (lo_a liX11_listFor (lo_a liX11_in (lo_a liX11_spreadFrom (lo_a liX11_placeOf liX11_flipped))))))
set_option maxRecDepth 100000 in
theorem looX11_passed : ∀ w ∈ owX11_passed, w ∈ lw_tbl := lo_in _ [(5, 155), (5, 156), (6, 93), (6, 94), (1, 13)] (by decide +kernel)
set_option maxRecDepth 100000 in
theorem liX11_passed : ∀ w ∈ wsX11_passed, w ∈ lw_tbl := lo_c (lo_1 6 188 (by first | rfl | decide +kernel)) (lo_a looX11_passed (lo_a liX110 liX11_in))
set_option maxRecDepth 100000 in
theorem looX11_farthest : ∀ w ∈ owX11_farthest, w ∈ lw_tbl := lo_in _ [(5, 140), (5, 153), (6, 93), (6, 94), (1, 13), (6, 104), (6, 106), (0, 40), (6, 181), (6, 183), (0, 51)] (by decide +kernel)
set_option maxRecDepth 100000 in
theorem liX11_farthest : ∀ w ∈ wsX11_farthest, w ∈ lw_tbl := lo_c (lo_1 6 192 (by first | rfl | decide +kernel)) (lo_a looX11_farthest (lo_a liX110 (lo_a liX11_in (lo_a liX11_ownNumber liX11_spreadFrom))))
set_option maxRecDepth 100000 in
theorem looX11_turned : ∀ w ∈ owX11_turned, w ∈ lw_tbl := lo_in _ [(5, 137), (5, 135), (5, 136), (5, 134)] (by decide +kernel)
set_option maxRecDepth 100000 in
theorem liX11_turned : ∀ w ∈ wsX11_turned, w ∈ lw_tbl := lo_c (lo_1 6 204 (by first | rfl | decide +kernel)) (lo_a looX11_turned liX110)
set_option maxRecDepth 100000 in
theorem looX11_leastOf : ∀ w ∈ owX11_leastOf, w ∈ lw_tbl := lo_in _ [(6, 201), (6, 203), (0, 53), (1, 13)] (by decide +kernel)
set_option maxRecDepth 100000 in
theorem liX11_leastOf : ∀ w ∈ wsX11_leastOf, w ∈ lw_tbl := lo_c (lo_1 6 200 (by first | rfl | decide +kernel)) (lo_a looX11_leastOf liX11_turned)
set_option maxRecDepth 100000 in
theorem looX11_least : ∀ w ∈ owX11_least, w ∈ lw_tbl := lo_in _ [(5, 133), (5, 142), (5, 99), (5, 101), (0, 30), (1, 13), (6, 197), (6, 199), (0, 52), (6, 108), (6, 110), (0, 41)] (by decide +kernel)
set_option maxRecDepth 100000 in
theorem liX11_least : ∀ w ∈ wsX11_least, w ∈ lw_tbl := lo_c (lo_1 6 196 (by first | rfl | decide +kernel)) (lo_a looX11_least (lo_a liX110 (lo_a liX11_listFor (lo_a liX11_leastOf liX11_placeOf))))
set_option maxRecDepth 100000 in
theorem looX11_kinds : ∀ w ∈ owX11_kinds, w ∈ lw_tbl := lo_in _ [(5, 140), (5, 139), (6, 93), (6, 94), (1, 13), (5, 99), (5, 101), (0, 30), (6, 197), (6, 199), (0, 52)] (by decide +kernel)
set_option maxRecDepth 100000 in
theorem liX11_kinds : ∀ w ∈ wsX11_kinds, w ∈ lw_tbl := lo_c (lo_1 6 208 (by first | rfl | decide +kernel)) (lo_a looX11_kinds (lo_a liX110 (lo_a liX11_in (lo_a liX11_listFor liX11_leastOf))))
set_option maxRecDepth 100000 in
theorem looX11_readRow : ∀ w ∈ owX11_readRow, w ∈ lw_tbl := lo_in _ [(5, 157), (5, 126), (5, 158), (5, 129), (6, 64), (6, 66), (0, 33), (1, 13), (6, 68), (6, 70), (0, 34)] (by decide +kernel)
set_option maxRecDepth 100000 in
theorem liX11_readRow : ∀ w ∈ wsX11_readRow, w ∈ lw_tbl := lo_c (lo_1 6 216 (by first | rfl | decide +kernel)) (lo_a looX11_readRow (lo_a liX110 (lo_a liX11_begin liX11_scan)))
set_option maxRecDepth 100000 in
theorem looX11_apart : ∀ w ∈ owX11_apart, w ∈ lw_tbl := lo_in _ [(5, 133), (5, 158), (6, 152), (6, 154), (0, 47), (1, 13)] (by decide +kernel)
set_option maxRecDepth 100000 in
theorem liX11_apart : ∀ w ∈ wsX11_apart, w ∈ lw_tbl := lo_c (lo_1 6 224 (by first | rfl | decide +kernel)) (lo_a looX11_apart (lo_a liX110 liX11_rowAt))
set_option maxRecDepth 100000 in
theorem looX11_nearest : ∀ w ∈ owX11_nearest, w ∈ lw_tbl := lo_in _ [(5, 133), (5, 139), (5, 140), (5, 99), (5, 101), (0, 30), (1, 13), (6, 221), (6, 223), (0, 56)] (by decide +kernel)
set_option maxRecDepth 100000 in
theorem liX11_nearest : ∀ w ∈ wsX11_nearest, w ∈ lw_tbl := lo_c (lo_1 6 220 (by first | rfl | decide +kernel)) (lo_a looX11_nearest (lo_a liX110 (lo_a liX11_listFor liX11_apart)))
set_option maxRecDepth 100000 in
theorem looX11_read : ∀ w ∈ owX11_read, w ∈ lw_tbl := lo_in _ [(5, 133), (5, 139), (5, 142), (6, 213), (6, 215), (0, 54), (1, 13), (6, 217), (6, 219), (0, 55), (6, 221), (6, 223), (0, 56)] (by decide +kernel)
set_option maxRecDepth 100000 in
theorem liX11_read : ∀ w ∈ wsX11_read, w ∈ lw_tbl := lo_c (lo_1 6 212 (by first | rfl | decide +kernel)) (lo_a looX11_read (lo_a liX110 (lo_a liX11_readRow (lo_a liX11_nearest liX11_apart))))
set_option maxRecDepth 100000 in
theorem looX11_mend : ∀ w ∈ owX11_mend, w ∈ lw_tbl := lo_in _ [(5, 133), (5, 159), (5, 139), (6, 213), (6, 215), (0, 54), (1, 13), (6, 217), (6, 219), (0, 55), (6, 221), (6, 223), (0, 56)] (by decide +kernel)
set_option maxRecDepth 100000 in
theorem liX11_mend : ∀ w ∈ wsX11_mend, w ∈ lw_tbl := lo_c (lo_1 6 228 (by first | rfl | decide +kernel)) (lo_a looX11_mend (lo_a liX110 (lo_a liX11_readRow (lo_a liX11_nearest liX11_apart))))
set_option maxRecDepth 100000 in
theorem looX11_mended : ∀ w ∈ owX11_mended, w ∈ lw_tbl := lo_in _ [(5, 159)] (by decide +kernel)
set_option maxRecDepth 100000 in
theorem liX11_mended : ∀ w ∈ wsX11_mended, w ∈ lw_tbl := lo_c (lo_1 6 232 (by first | rfl | decide +kernel)) (lo_a looX11_mended liX110)
set_option maxRecDepth 100000 in
theorem looX11_cross : ∀ w ∈ owX11_cross, w ∈ lw_tbl := lo_in _ [(5, 133), (5, 160), (5, 137), (5, 142), (5, 135), (5, 136), (5, 162), (5, 161), (5, 103), (5, 105), (0, 31), (1, 13), (5, 117), (5, 118), (5, 120), (5, 121)] (by decide +kernel)
set_option maxRecDepth 100000 in
theorem liX11_cross : ∀ w ∈ wsX11_cross, w ∈ lw_tbl := lo_c (lo_1 7 0 (by first | rfl | decide +kernel)) (lo_a looX11_cross (lo_a liX110 (lo_a liX11_linesOf (lo_a liX11_isCross liX11_isBetween))))
set_option maxRecDepth 100000 in
theorem looX11_crossed : ∀ w ∈ owX11_crossed, w ∈ lw_tbl := lo_in _ [(5, 160), (5, 135), (5, 161), (5, 136), (6, 136), (6, 138), (0, 44), (1, 13), (6, 93), (6, 94), (6, 237), (6, 239), (0, 57)] (by decide +kernel)
set_option maxRecDepth 100000 in
theorem liX11_crossed : ∀ w ∈ wsX11_crossed, w ∈ lw_tbl := lo_c (lo_1 6 236 (by first | rfl | decide +kernel)) (lo_a looX11_crossed (lo_a liX110 (lo_a liX11_isCorner (lo_a liX11_cross liX11_in))))
set_option maxRecDepth 100000 in
theorem looX11_side : ∀ w ∈ owX11_side, w ∈ lw_tbl := lo_in _ [(5, 160), (5, 161), (5, 135), (5, 136), (5, 133), (6, 136), (6, 138), (0, 44), (1, 13), (6, 93), (6, 94), (6, 237), (6, 239), (0, 57), (5, 120), (5, 121)] (by decide +kernel)
set_option maxRecDepth 100000 in
theorem liX11_side : ∀ w ∈ wsX11_side, w ∈ lw_tbl := lo_c (lo_1 7 4 (by first | rfl | decide +kernel)) (lo_a looX11_side (lo_a liX110 (lo_a liX11_isCorner (lo_a liX11_cross (lo_a liX11_in liX11_isBetween)))))
set_option maxRecDepth 100000 in
theorem looX11_greatest : ∀ w ∈ owX11_greatest, w ∈ lw_tbl := lo_in _ [(5, 140), (5, 139), (5, 148), (6, 93), (6, 94), (1, 13), (5, 99), (5, 101), (0, 30), (6, 144), (6, 146), (0, 46)] (by decide +kernel)
set_option maxRecDepth 100000 in
theorem liX11_greatest : ∀ w ∈ wsX11_greatest, w ∈ lw_tbl := lo_c (lo_1 7 8 (by first | rfl | decide +kernel)) (lo_a looX11_greatest (lo_a liX110 (lo_a liX11_in (lo_a liX11_listFor liX11_entriesFrom))))
set_option maxRecDepth 100000 in
theorem looX11_spread : ∀ w ∈ owX11_spread, w ∈ lw_tbl := lo_in _ [(5, 133), (5, 140), (5, 139), (6, 136), (6, 138), (0, 44), (1, 13), (5, 99), (5, 101), (0, 30), (6, 140), (6, 142), (0, 45)] (by decide +kernel)
set_option maxRecDepth 100000 in
theorem liX11_spread : ∀ w ∈ wsX11_spread, w ∈ lw_tbl := lo_c (lo_1 7 12 (by first | rfl | decide +kernel)) (lo_a looX11_spread (lo_a liX110 (lo_a liX11_isCorner (lo_a liX11_listFor liX11_entryOf))))
set_option maxRecDepth 100000 in
theorem looX11_period : ∀ w ∈ owX11_period, w ∈ lw_tbl := lo_in _ [(5, 158), (5, 163), (5, 164), (6, 213), (6, 215), (0, 54), (1, 13), (6, 93), (6, 94)] (by decide +kernel)
set_option maxRecDepth 100000 in
theorem liX11_period : ∀ w ∈ wsX11_period, w ∈ lw_tbl := lo_c (lo_1 7 16 (by first | rfl | decide +kernel)) (lo_a looX11_period (lo_a liX110 (lo_a liX11_readRow liX11_in)))
set_option maxRecDepth 100000 in
theorem looX11_ofCut : ∀ w ∈ owX11_ofCut, w ∈ lw_tbl := lo_in _ [(5, 133), (5, 163), (5, 164), (5, 142), (5, 103), (5, 105), (0, 31), (1, 13), (6, 152), (6, 154), (0, 47)] (by decide +kernel)
set_option maxRecDepth 100000 in
theorem liX11_ofCut : ∀ w ∈ wsX11_ofCut, w ∈ lw_tbl := lo_c (lo_1 7 20 (by first | rfl | decide +kernel)) (lo_a looX11_ofCut (lo_a liX110 (lo_a liX11_linesOf liX11_rowAt)))
set_option maxRecDepth 100000 in
theorem looX11_of : ∀ w ∈ owX11_of, w ∈ lw_tbl := lo_in _ [(5, 163), (5, 164), (6, 93), (6, 94), (1, 13)] (by decide +kernel)
set_option maxRecDepth 100000 in
theorem liX11_of : ∀ w ∈ wsX11_of, w ∈ lw_tbl := lo_c (lo_1 7 24 (by first | rfl | decide +kernel)) (lo_a looX11_of (lo_a liX110 liX11_in))
set_option maxRecDepth 100000 in
theorem looX11_alongOf : ∀ w ∈ owX11_alongOf, w ∈ lw_tbl := lo_in _ [(5, 164), (5, 163)] (by decide +kernel)
set_option maxRecDepth 100000 in
theorem liX11_alongOf : ∀ w ∈ wsX11_alongOf, w ∈ lw_tbl := lo_c (lo_1 7 32 (by first | rfl | decide +kernel)) (lo_a looX11_alongOf liX110)
set_option maxRecDepth 100000 in
theorem looX11_along : ∀ w ∈ owX11_along, w ∈ lw_tbl := lo_in _ [(5, 163), (7, 33), (6, 93), (6, 94), (1, 13), (7, 29), (7, 31), (0, 58)] (by decide +kernel)
set_option maxRecDepth 100000 in
theorem liX11_along : ∀ w ∈ wsX11_along, w ∈ lw_tbl := lo_c (lo_1 7 28 (by first | rfl | decide +kernel)) (lo_a looX11_along (lo_a liX110 (lo_a liX11_in liX11_alongOf)))
set_option maxRecDepth 100000 in
theorem looX11_isAll : ∀ w ∈ owX11_isAll, w ∈ lw_tbl := lo_in _ [(5, 163), (7, 29), (7, 31), (0, 58), (1, 13)] (by decide +kernel)
set_option maxRecDepth 100000 in
theorem liX11_isAll : ∀ w ∈ wsX11_isAll, w ∈ lw_tbl := lo_c (lo_1 7 41 (by first | rfl | decide +kernel)) (lo_a looX11_isAll (lo_a liX110 liX11_alongOf))
set_option maxRecDepth 100000 in
theorem looX11_breaks : ∀ w ∈ owX11_breaks, w ∈ lw_tbl := lo_in _ [(5, 163), (6, 176), (6, 93), (6, 94), (1, 13), (7, 29), (7, 31), (0, 58), (7, 38), (7, 40), (0, 59)] (by decide +kernel)
set_option maxRecDepth 100000 in
theorem liX11_breaks : ∀ w ∈ wsX11_breaks, w ∈ lw_tbl := lo_c (lo_1 7 37 (by first | rfl | decide +kernel)) (lo_a looX11_breaks (lo_a liX110 (lo_a liX11_in (lo_a liX11_alongOf liX11_isAll))))
set_option maxRecDepth 100000 in
theorem looX11_growth : ∀ w ∈ owX11_growth, w ∈ lw_tbl := lo_in _ [(5, 163), (7, 29), (7, 31), (0, 58), (1, 13)] (by decide +kernel)
set_option maxRecDepth 100000 in
theorem liX11_growth : ∀ w ∈ wsX11_growth, w ∈ lw_tbl := lo_c (lo_1 7 45 (by first | rfl | decide +kernel)) (lo_a looX11_growth (lo_a liX110 liX11_alongOf))
set_option maxRecDepth 100000 in
theorem looX11_glue : ∀ w ∈ owX11_glue, w ∈ lw_tbl := lo_in _ [(5, 163), (5, 164), (6, 93), (6, 94), (1, 13)] (by decide +kernel)
set_option maxRecDepth 100000 in
theorem liX11_glue : ∀ w ∈ wsX11_glue, w ∈ lw_tbl := lo_c (lo_1 7 49 (by first | rfl | decide +kernel)) (lo_a looX11_glue (lo_a liX110 liX11_in))
set_option maxRecDepth 100000 in
theorem looX11_isOff : ∀ w ∈ owX11_isOff, w ∈ lw_tbl := lo_in _ [(5, 163), (5, 164)] (by decide +kernel)
set_option maxRecDepth 100000 in
theorem liX11_isOff : ∀ w ∈ wsX11_isOff, w ∈ lw_tbl := lo_c (lo_1 7 57 (by first | rfl | decide +kernel)) (lo_a looX11_isOff liX110)
set_option maxRecDepth 100000 in
theorem looX11_off : ∀ w ∈ owX11_off, w ∈ lw_tbl := lo_in _ [(5, 163), (5, 164)] (by decide +kernel)
set_option maxRecDepth 100000 in
theorem liX11_off : ∀ w ∈ wsX11_off, w ∈ lw_tbl := lo_c (lo_1 7 61 (by first | rfl | decide +kernel)) (lo_a looX11_off liX110)
set_option maxRecDepth 100000 in
theorem looX11_cutOff : ∀ w ∈ owX11_cutOff, w ∈ lw_tbl := lo_in _ [(5, 163), (6, 93), (6, 94), (1, 13), (7, 54), (7, 56), (0, 60), (7, 58), (7, 60), (0, 61)] (by decide +kernel)
set_option maxRecDepth 100000 in
theorem liX11_cutOff : ∀ w ∈ wsX11_cutOff, w ∈ lw_tbl := lo_c (lo_1 7 53 (by first | rfl | decide +kernel)) (lo_a looX11_cutOff (lo_a liX110 (lo_a liX11_in (lo_a liX11_isOff liX11_off))))
set_option maxRecDepth 100000 in
theorem looX11_core : ∀ w ∈ owX11_core, w ∈ lw_tbl := lo_in _ [(5, 163), (5, 164), (7, 54), (7, 56), (0, 60), (1, 13), (7, 58), (7, 60), (0, 61)] (by decide +kernel)
set_option maxRecDepth 100000 in
theorem liX11_core : ∀ w ∈ wsX11_core, w ∈ lw_tbl := lo_c (lo_1 7 65 (by first | rfl | decide +kernel)) (lo_a looX11_core (lo_a liX110 (lo_a liX11_isOff liX11_off)))
set_option maxRecDepth 100000 in
theorem looX11_see : ∀ w ∈ owX11_see, w ∈ lw_tbl := lo_in _ [(5, 167), (5, 165), (5, 168), (5, 169), (5, 170), (5, 171), (6, 93), (6, 94), (1, 13), (6, 136), (6, 138), (0, 44)] (by decide +kernel)
set_option maxRecDepth 100000 in
theorem liX11_see : ∀ w ∈ wsX11_see, w ∈ lw_tbl := lo_c (lo_1 7 69 (by first | rfl | decide +kernel)) (lo_a looX11_see (lo_a liX110 (lo_a liX11_in liX11_isCorner)))
set_option maxRecDepth 100000 in
theorem looX11_right : ∀ w ∈ owX11_right, w ∈ lw_tbl := lo_in _ [(5, 167), (5, 165), (5, 166), (5, 172), (5, 173), (5, 174), (6, 93), (6, 94), (1, 13)] (by decide +kernel)
set_option maxRecDepth 100000 in
theorem liX11_right : ∀ w ∈ wsX11_right, w ∈ lw_tbl := lo_c (lo_1 7 73 (by first | rfl | decide +kernel)) (lo_a looX11_right (lo_a liX110 liX11_in))
set_option maxRecDepth 100000 in
theorem looX11_isFit : ∀ w ∈ owX11_isFit, w ∈ lw_tbl := lo_in _ [(5, 165), (5, 168), (5, 171), (5, 166), (5, 173), (5, 172), (5, 174), (5, 133), (5, 169), (5, 170), (6, 140), (6, 142), (0, 45), (1, 13)] (by decide +kernel)
set_option maxRecDepth 100000 in
theorem liX11_isFit : ∀ w ∈ wsX11_isFit, w ∈ lw_tbl := lo_c (lo_1 7 85 (by first | rfl | decide +kernel)) (lo_a looX11_isFit (lo_a liX110 liX11_entryOf))
set_option maxRecDepth 100000 in
theorem looX11_makeFits : ∀ w ∈ owX11_makeFits, w ∈ lw_tbl := lo_in _ [(5, 133), (5, 140), (5, 175), (5, 139), (5, 99), (5, 101), (0, 30), (1, 13), (7, 82), (7, 84), (0, 63)] (by decide +kernel)
set_option maxRecDepth 100000 in
theorem liX11_makeFits : ∀ w ∈ wsX11_makeFits, w ∈ lw_tbl := lo_c (lo_1 7 81 (by first | rfl | decide +kernel)) (lo_a looX11_makeFits (lo_a liX110 (lo_a liX11_listFor liX11_isFit)))
set_option maxRecDepth 100000 in
theorem looX11_fit : ∀ w ∈ owX11_fit, w ∈ lw_tbl := lo_in _ [(5, 140), (5, 175), (6, 93), (6, 94), (1, 13), (7, 78), (7, 80), (0, 62)] (by decide +kernel)
set_option maxRecDepth 100000 in
theorem liX11_fit : ∀ w ∈ wsX11_fit, w ∈ lw_tbl := lo_c (lo_1 7 77 (by first | rfl | decide +kernel)) (lo_a looX11_fit (lo_a liX110 (lo_a liX11_in liX11_makeFits)))
set_option maxRecDepth 100000 in
theorem looX11_surely : ∀ w ∈ owX11_surely, w ∈ lw_tbl := lo_in _ [(5, 133), (5, 140), (5, 175), (5, 139), (6, 136), (6, 138), (0, 44), (1, 13), (6, 93), (6, 94), (5, 107), (5, 108), (7, 78), (7, 80), (0, 62), (6, 128), (6, 130), (0, 43)] (by decide +kernel)
set_option maxRecDepth 100000 in
theorem liX11_surely : ∀ w ∈ wsX11_surely, w ∈ lw_tbl := lo_c (lo_1 7 89 (by first | rfl | decide +kernel)) (lo_a looX11_surely (lo_a liX110 (lo_a liX11_isCorner (lo_a liX11_isLine (lo_a liX11_in (lo_a liX11_makeFits liX11_near))))))
set_option maxRecDepth 100000 in
theorem looX11_ask : ∀ w ∈ owX11_ask, w ∈ lw_tbl := lo_in _ [(5, 176), (5, 140), (5, 175), (5, 133), (5, 139), (5, 148), (6, 93), (6, 94), (1, 13), (7, 78), (7, 80), (0, 62), (6, 144), (6, 146), (0, 46)] (by decide +kernel)
set_option maxRecDepth 100000 in
theorem liX11_ask : ∀ w ∈ wsX11_ask, w ∈ lw_tbl := lo_c (lo_1 7 93 (by first | rfl | decide +kernel)) (lo_a looX11_ask (lo_a liX110 (lo_a liX11_in (lo_a liX11_makeFits liX11_entriesFrom))))
set_option maxRecDepth 100000 in
theorem looX11_count : ∀ w ∈ owX11_count, w ∈ lw_tbl := lo_in _ [(5, 165), (5, 166), (5, 124)] (by decide +kernel)
set_option maxRecDepth 100000 in
theorem liX11_count : ∀ w ∈ wsX11_count, w ∈ lw_tbl := lo_c (lo_1 7 97 (by first | rfl | decide +kernel)) (lo_a looX11_count liX110)
set_option maxRecDepth 100000 in
theorem looJ9_abs_0f7a4 : ∀ w ∈ owJ9_abs_0f7a4, w ∈ lw_tbl := lo_in _ [] (by decide +kernel)
set_option maxRecDepth 100000 in
theorem liJ9_abs_0f7a4 : ∀ w ∈ wsJ9_abs_0f7a4, w ∈ lw_tbl := lo_c (lo_1 3 90 (by first | rfl | decide +kernel)) looJ9_abs_0f7a4
set_option maxRecDepth 100000 in
theorem looJ9_max_7cf53 : ∀ w ∈ owJ9_max_7cf53, w ∈ lw_tbl := lo_in _ [] (by decide +kernel)
set_option maxRecDepth 100000 in
theorem liJ9_max_7cf53 : ∀ w ∈ wsJ9_max_7cf53, w ∈ lw_tbl := lo_c (lo_1 3 119 (by first | rfl | decide +kernel)) looJ9_max_7cf53
set_option maxRecDepth 100000 in
theorem looJ9_min_7cf53 : ∀ w ∈ owJ9_min_7cf53, w ∈ lw_tbl := lo_in _ [] (by decide +kernel)
set_option maxRecDepth 100000 in
theorem liJ9_min_7cf53 : ∀ w ∈ wsJ9_min_7cf53, w ∈ lw_tbl := lo_c (lo_1 3 116 (by first | rfl | decide +kernel)) looJ9_min_7cf53
set_option maxRecDepth 100000 in
theorem looL_law : ∀ w ∈ owL_law, w ∈ lw_tbl := lo_in _ [(1, 19), (1, 20), (1, 1), (5, 93), (5, 94), (1, 13), (1, 21), (1, 22), (5, 95), (5, 96), (2, 100), (2, 101), (2, 102), (6, 48), (6, 49), (6, 50), (2, 116), (2, 117), (2, 118), (6, 52), (6, 53), (6, 54), (2, 124), (2, 125), (2, 126), (6, 60), (6, 61), (6, 62), (3, 42), (3, 43), (3, 44), (6, 56), (6, 57), (6, 58), (3, 54), (3, 55), (3, 56), (6, 112), (6, 113), (6, 114), (3, 59), (3, 60), (3, 61), (6, 116), (6, 117), (6, 118), (3, 71), (3, 72), (3, 73), (6, 120), (6, 121), (6, 122), (3, 101), (3, 102), (3, 103), (6, 132), (6, 133), (6, 134), (3, 124), (3, 125), (3, 126), (6, 148), (6, 149), (6, 150), (3, 129), (3, 130), (3, 131), (6, 156), (6, 157), (6, 158), (3, 151), (3, 152), (3, 153), (6, 168), (6, 169), (6, 170), (3, 165), (3, 166), (3, 167), (6, 177), (6, 178), (6, 179), (3, 200), (3, 201), (3, 202), (6, 185), (6, 186), (6, 187), (3, 208), (3, 209), (3, 210), (6, 189), (6, 190), (6, 191), (3, 223), (3, 224), (3, 225), (6, 193), (6, 194), (6, 195), (4, 3), (4, 4), (4, 5), (6, 205), (6, 206), (6, 207), (4, 15), (4, 16), (4, 17), (6, 209), (6, 210), (6, 211), (4, 39), (4, 40), (4, 41), (6, 225), (6, 226), (6, 227), (4, 43), (4, 44), (4, 45), (6, 229), (6, 230), (6, 231), (4, 47), (4, 48), (4, 49), (6, 233), (6, 234), (6, 235), (4, 82), (4, 83), (4, 84), (7, 1), (7, 2), (7, 3), (4, 90), (4, 91), (4, 92), (7, 5), (7, 6), (7, 7), (4, 107), (4, 108), (4, 109), (7, 9), (7, 10), (7, 11), (4, 116), (4, 117), (4, 118), (7, 13), (7, 14), (7, 15), (4, 129), (4, 130), (4, 131), (7, 17), (7, 18), (7, 19), (4, 133), (4, 134), (4, 135), (7, 21), (7, 22), (7, 23), (4, 152), (4, 153), (4, 154), (7, 25), (7, 26), (7, 27), (4, 162), (4, 163), (4, 164), (7, 34), (7, 35), (7, 36), (4, 185), (4, 186), (4, 187), (7, 42), (7, 43), (7, 44), (4, 193), (4, 194), (4, 195), (7, 46), (7, 47), (7, 48), (4, 207), (4, 208), (4, 209), (7, 50), (7, 51), (7, 52), (4, 220), (4, 221), (4, 222), (7, 62), (7, 63), (7, 64), (4, 233), (4, 234), (4, 235), (7, 66), (7, 67), (7, 68), (5, 8), (5, 9), (5, 10), (7, 70), (7, 71), (7, 72), (5, 24), (5, 25), (5, 26), (7, 74), (7, 75), (7, 76), (5, 54), (5, 55), (5, 56), (7, 86), (7, 87), (7, 88), (5, 63), (5, 64), (5, 65), (7, 90), (7, 91), (7, 92), (5, 81), (5, 82), (5, 83), (7, 94), (7, 95), (7, 96)] (by decide +kernel)
set_option maxRecDepth 100000 in
theorem liL_law : ∀ w ∈ wsL_law, w ∈ lw_tbl := (lo_a looL_law (lo_a liX10_init (lo_a liX11_init (lo_a liX10_feed (lo_a liX11_feed (lo_a liX10_end (lo_a liX11_end (lo_a liX10_cut (lo_a liX11_cut (lo_a liX10_fault (lo_a liX11_fault (lo_a liX10_take (lo_a liX11_take (lo_a liX10_told (lo_a liX11_told (lo_a liX10_triangle (lo_a liX11_triangle (lo_a liX10_entry (lo_a liX11_entry (lo_a liX10_row (lo_a liX11_row (lo_a liX10_way (lo_a liX11_way (lo_a liX10_flip (lo_a liX11_flip (lo_a liX10_fewest (lo_a liX11_fewest (lo_a liX10_passed (lo_a liX11_passed (lo_a liX10_farthest (lo_a liX11_farthest (lo_a liX10_least (lo_a liX11_least (lo_a liX10_kinds (lo_a liX11_kinds (lo_a liX10_read (lo_a liX11_read (lo_a liX10_mend (lo_a liX11_mend (lo_a liX10_mended (lo_a liX11_mended (lo_a liX10_crossed (lo_a liX11_crossed (lo_a liX10_side (lo_a liX11_side (lo_a liX10_greatest (lo_a liX11_greatest (lo_a liX10_spread (lo_a liX11_spread (lo_a liX10_period (lo_a liX11_period (lo_a liX10_ofCut (lo_a liX11_ofCut (lo_a liX10_of (lo_a liX11_of (lo_a liX10_along (lo_a liX11_along (lo_a liX10_breaks (lo_a liX11_breaks (lo_a liX10_growth (lo_a liX11_growth (lo_a liX10_glue (lo_a liX11_glue (lo_a liX10_cutOff (lo_a liX11_cutOff (lo_a liX10_core (lo_a liX11_core (lo_a liX10_see (lo_a liX11_see (lo_a liX10_right (lo_a liX11_right (lo_a liX10_fit (lo_a liX11_fit (lo_a liX10_surely (lo_a liX11_surely (lo_a liX10_ask (lo_a liX11_ask (lo_a liX10_count liX11_count))))))))))))))))))))))))))))))))))))))))))))))))))))))))))))))))))))))))))))))
theorem wsL_law_in : ∀ w ∈ wsL_law, w ∈ lw_tbl := liL_law
theorem inX0 : ∀ w ∈ wsX00, w ∈ lw_tbl := liX00
theorem inX1 : ∀ w ∈ wsX10, w ∈ lw_tbl := liX10
theorem inX2 : ∀ w ∈ wsX20, w ∈ lw_tbl := liX20
theorem inX3 : ∀ w ∈ wsX30, w ∈ lw_tbl := liX30
theorem inX4 : ∀ w ∈ wsX40, w ∈ lw_tbl := liX40
theorem inX5 : ∀ w ∈ wsX50, w ∈ lw_tbl := liX50
theorem inX6 : ∀ w ∈ wsX60, w ∈ lw_tbl := liX60
theorem inX7 : ∀ w ∈ wsX70, w ∈ lw_tbl := liX70
theorem inX8 : ∀ w ∈ wsX80, w ∈ lw_tbl := liX80
theorem inX9 : ∀ w ∈ wsX90, w ∈ lw_tbl := liX90
theorem inX10 : ∀ w ∈ wsX100, w ∈ lw_tbl := liX100
theorem inX11 : ∀ w ∈ wsX110, w ∈ lw_tbl := liX110
theorem inJ6 : ∀ w ∈ wsJ60, w ∈ lw_tbl := liJ60
theorem inJ9 : ∀ w ∈ wsJ90, w ∈ lw_tbl := liJ90
theorem inJ0 : ∀ w ∈ wsJ00, w ∈ lw_tbl := liJ00
theorem inJ1 : ∀ w ∈ wsJ10, w ∈ lw_tbl := liJ10
theorem inJ2 : ∀ w ∈ wsJ20, w ∈ lw_tbl := liJ20
theorem inJ3 : ∀ w ∈ wsJ30, w ∈ lw_tbl := liJ30
