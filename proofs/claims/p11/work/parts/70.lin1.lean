section
set_option maxRecDepth 100000 in
theorem looX0_init : ∀ w ∈ owX0_init, w ∈ lw_tbl := lo_in _ [(1, 124), (1, 25), (1, 26), (1, 118), (1, 125)] (by decide +kernel)
set_option maxRecDepth 100000 in
theorem liX0_init : ∀ w ∈ wsX0_init, w ∈ lw_tbl := lo_c (lo_1 1 123 (by first | rfl | decide +kernel)) (lo_a looX0_init liX00)
set_option maxRecDepth 100000 in
theorem looX0_size : ∀ w ∈ owX0_size, w ∈ lw_tbl := lo_in _ [(1, 126)] (by decide +kernel)
set_option maxRecDepth 100000 in
theorem liX0_size : ∀ w ∈ wsX0_size, w ∈ lw_tbl := lo_c (lo_1 4 76 (by first | rfl | decide +kernel)) (lo_a looX0_size liX00)
set_option maxRecDepth 100000 in
theorem looX5_hasCorner : ∀ w ∈ owX5_hasCorner, w ∈ lw_tbl := lo_in _ [(2, 24)] (by decide +kernel)
set_option maxRecDepth 100000 in
theorem liX5_hasCorner : ∀ w ∈ wsX5_hasCorner, w ∈ lw_tbl := lo_c (lo_1 2 235 (by first | rfl | decide +kernel)) (lo_a looX5_hasCorner liX50)
set_option maxRecDepth 100000 in
theorem looX5_lineOf : ∀ w ∈ owX5_lineOf, w ∈ lw_tbl := lo_in _ [(2, 27), (3, 4), (2, 233), (2, 234), (1, 11)] (by decide +kernel)
set_option maxRecDepth 100000 in
theorem liX5_lineOf : ∀ w ∈ wsX5_lineOf, w ∈ lw_tbl := lo_c (lo_1 3 3 (by first | rfl | decide +kernel)) (lo_a looX5_lineOf (lo_a liX50 liX5_hasCorner))
set_option maxRecDepth 100000 in
theorem looX5_hasLine : ∀ w ∈ owX5_hasLine, w ∈ lw_tbl := lo_in _ [(2, 31)] (by decide +kernel)
set_option maxRecDepth 100000 in
theorem liX5_hasLine : ∀ w ∈ wsX5_hasLine, w ∈ lw_tbl := lo_c (lo_1 3 12 (by first | rfl | decide +kernel)) (lo_a looX5_hasLine liX50)
set_option maxRecDepth 100000 in
theorem looX5_crossersOf : ∀ w ∈ owX5_crossersOf, w ∈ lw_tbl := lo_in _ [(2, 28), (3, 9), (3, 11), (0, 10), (1, 11)] (by decide +kernel)
set_option maxRecDepth 100000 in
theorem liX5_crossersOf : ∀ w ∈ wsX5_crossersOf, w ∈ lw_tbl := lo_c (lo_1 3 16 (by first | rfl | decide +kernel)) (lo_a looX5_crossersOf (lo_a liX50 liX5_hasLine))
set_option maxRecDepth 100000 in
theorem looX5_corners : ∀ w ∈ owX5_corners, w ∈ lw_tbl := lo_in _ [(2, 24)] (by decide +kernel)
set_option maxRecDepth 100000 in
theorem liX5_corners : ∀ w ∈ wsX5_corners, w ∈ lw_tbl := lo_c (lo_1 2 231 (by first | rfl | decide +kernel)) (lo_a looX5_corners liX50)
set_option maxRecDepth 100000 in
theorem looX5_lineCount : ∀ w ∈ owX5_lineCount, w ∈ lw_tbl := lo_in _ [(2, 31)] (by decide +kernel)
set_option maxRecDepth 100000 in
theorem liX5_lineCount : ∀ w ∈ wsX5_lineCount, w ∈ lw_tbl := lo_c (lo_1 3 185 (by first | rfl | decide +kernel)) (lo_a looX5_lineCount liX50)
set_option maxRecDepth 100000 in
theorem looX5_has : ∀ w ∈ owX5_has, w ∈ lw_tbl := lo_in _ [(3, 9), (3, 11), (0, 10), (1, 11)] (by decide +kernel)
set_option maxRecDepth 100000 in
theorem liX5_has : ∀ w ∈ wsX5_has, w ∈ lw_tbl := lo_c (lo_1 3 8 (by first | rfl | decide +kernel)) (lo_a looX5_has liX5_hasLine)
set_option maxRecDepth 100000 in
theorem looX5_lesserOf : ∀ w ∈ owX5_lesserOf, w ∈ lw_tbl := lo_in _ [(2, 25), (3, 9), (3, 11), (0, 10), (1, 11)] (by decide +kernel)
set_option maxRecDepth 100000 in
theorem liX5_lesserOf : ∀ w ∈ wsX5_lesserOf, w ∈ lw_tbl := lo_c (lo_1 4 66 (by first | rfl | decide +kernel)) (lo_a looX5_lesserOf (lo_a liX50 liX5_hasLine))
set_option maxRecDepth 100000 in
theorem looX5_ahead : ∀ w ∈ owX5_ahead, w ∈ lw_tbl := lo_in _ [(2, 24)] (by decide +kernel)
set_option maxRecDepth 100000 in
theorem liX5_ahead : ∀ w ∈ wsX5_ahead, w ∈ lw_tbl := lo_c (lo_1 3 136 (by first | rfl | decide +kernel)) (lo_a looX5_ahead liX50)
set_option maxRecDepth 100000 in
theorem looX5_greaterOf : ∀ w ∈ owX5_greaterOf, w ∈ lw_tbl := lo_in _ [(2, 26), (3, 9), (3, 11), (0, 10), (1, 11)] (by decide +kernel)
set_option maxRecDepth 100000 in
theorem liX5_greaterOf : ∀ w ∈ wsX5_greaterOf, w ∈ lw_tbl := lo_c (lo_1 4 71 (by first | rfl | decide +kernel)) (lo_a looX5_greaterOf (lo_a liX50 liX5_hasLine))
set_option maxRecDepth 100000 in
theorem looX0_spanFrom : ∀ w ∈ owX0_spanFrom, w ∈ lw_tbl := lo_in _ [(4, 72), (3, 89), (1, 18), (3, 90), (4, 63), (4, 64), (4, 65), (1, 11), (4, 67), (3, 134), (3, 135), (4, 68), (4, 69), (4, 70)] (by decide +kernel)
set_option maxRecDepth 100000 in
theorem liX0_spanFrom : ∀ w ∈ wsX0_spanFrom, w ∈ lw_tbl := lo_c (lo_1 4 62 (by first | rfl | decide +kernel)) (lo_a looX0_spanFrom (lo_a liX5_lesserOf (lo_a liX5_ahead liX5_greaterOf)))
set_option maxRecDepth 100000 in
theorem looX0_gather : ∀ w ∈ owX0_gather, w ∈ lw_tbl := lo_in _ [(1, 126), (1, 125), (4, 55), (3, 1), (3, 2), (1, 11), (4, 56), (3, 14), (3, 15), (4, 57), (2, 229), (2, 230), (4, 58), (3, 183), (3, 184), (4, 59), (3, 6), (3, 7), (4, 60), (4, 61), (1, 6)] (by decide +kernel)
set_option maxRecDepth 100000 in
theorem liX0_gather : ∀ w ∈ wsX0_gather, w ∈ lw_tbl := lo_c (lo_1 4 54 (by first | rfl | decide +kernel)) (lo_a looX0_gather (lo_a liX00 (lo_a liX5_lineOf (lo_a liX5_crossersOf (lo_a liX5_corners (lo_a liX5_lineCount (lo_a liX5_has liX0_spanFrom)))))))
set_option maxRecDepth 100000 in
theorem looX5_pairOf : ∀ w ∈ owX5_pairOf, w ∈ lw_tbl := lo_in _ [(2, 25), (2, 26), (3, 9), (3, 11), (0, 10), (1, 11)] (by decide +kernel)
set_option maxRecDepth 100000 in
theorem liX5_pairOf : ∀ w ∈ wsX5_pairOf, w ∈ lw_tbl := lo_c (lo_1 3 164 (by first | rfl | decide +kernel)) (lo_a looX5_pairOf (lo_a liX50 liX5_hasLine))
set_option maxRecDepth 100000 in
theorem looX0_pairAt : ∀ w ∈ owX0_pairAt, w ∈ lw_tbl := lo_in _ [(1, 126), (1, 125), (4, 81), (3, 162), (3, 163), (1, 11)] (by decide +kernel)
set_option maxRecDepth 100000 in
theorem liX0_pairAt : ∀ w ∈ wsX0_pairAt, w ∈ lw_tbl := lo_c (lo_1 4 80 (by first | rfl | decide +kernel)) (lo_a looX0_pairAt (lo_a liX00 liX5_pairOf))
set_option maxRecDepth 100000 in
theorem looX0_sharedWithNext : ∀ w ∈ owX0_sharedWithNext, w ∈ lw_tbl := lo_in _ [(1, 126), (1, 125), (4, 63), (4, 64), (4, 65), (1, 11), (4, 68), (4, 69), (4, 70)] (by decide +kernel)
set_option maxRecDepth 100000 in
theorem liX0_sharedWithNext : ∀ w ∈ wsX0_sharedWithNext, w ∈ lw_tbl := lo_c (lo_1 4 89 (by first | rfl | decide +kernel)) (lo_a looX0_sharedWithNext (lo_a liX00 (lo_a liX5_lesserOf liX5_greaterOf)))
set_option maxRecDepth 100000 in
theorem looX1_init : ∀ w ∈ owX1_init, w ∈ lw_tbl := lo_in _ [(1, 70), (1, 25), (1, 26), (1, 72)] (by decide +kernel)
set_option maxRecDepth 100000 in
theorem liX1_init : ∀ w ∈ wsX1_init, w ∈ lw_tbl := lo_c (lo_1 1 69 (by first | rfl | decide +kernel)) (lo_a looX1_init liX10)
set_option maxRecDepth 100000 in
theorem looX1_faultKind : ∀ w ∈ owX1_faultKind, w ∈ lw_tbl := lo_in _ [(1, 71)] (by decide +kernel)
set_option maxRecDepth 100000 in
theorem liX1_faultKind : ∀ w ∈ wsX1_faultKind, w ∈ lw_tbl := lo_c (lo_1 3 49 (by first | rfl | decide +kernel)) (lo_a looX1_faultKind liX10)
set_option maxRecDepth 100000 in
theorem looX1_faultPlace : ∀ w ∈ owX1_faultPlace, w ∈ lw_tbl := lo_in _ [(1, 72)] (by decide +kernel)
set_option maxRecDepth 100000 in
theorem liX1_faultPlace : ∀ w ∈ wsX1_faultPlace, w ∈ lw_tbl := lo_c (lo_1 3 53 (by first | rfl | decide +kernel)) (lo_a looX1_faultPlace liX10)
set_option maxRecDepth 100000 in
theorem looX1_polygon : ∀ w ∈ owX1_polygon, w ∈ lw_tbl := lo_in _ [(1, 75)] (by decide +kernel)
set_option maxRecDepth 100000 in
theorem liX1_polygon : ∀ w ∈ wsX1_polygon, w ∈ lw_tbl := lo_c (lo_1 3 24 (by first | rfl | decide +kernel)) (lo_a looX1_polygon liX10)
set_option maxRecDepth 100000 in
theorem looX1_bits : ∀ w ∈ owX1_bits, w ∈ lw_tbl := lo_in _ [(1, 76)] (by decide +kernel)
set_option maxRecDepth 100000 in
theorem liX1_bits : ∀ w ∈ wsX1_bits, w ∈ lw_tbl := lo_c (lo_1 3 28 (by first | rfl | decide +kernel)) (lo_a looX1_bits liX10)
set_option maxRecDepth 100000 in
theorem looX8_rewind : ∀ w ∈ owX8_rewind, w ∈ lw_tbl := lo_in _ [(1, 35)] (by decide +kernel)
set_option maxRecDepth 100000 in
theorem liX8_rewind : ∀ w ∈ wsX8_rewind, w ∈ lw_tbl := lo_c (lo_1 2 135 (by first | rfl | decide +kernel)) (lo_a looX8_rewind liX80)
set_option maxRecDepth 100000 in
theorem looX8_isBlank : ∀ w ∈ owX8_isBlank, w ∈ lw_tbl := lo_in _ [] (by decide +kernel)
set_option maxRecDepth 100000 in
theorem liX8_isBlank : ∀ w ∈ wsX8_isBlank, w ∈ lw_tbl := lo_c (lo_1 2 142 (by first | rfl | decide +kernel)) looX8_isBlank
set_option maxRecDepth 100000 in
theorem looX8_isLetter : ∀ w ∈ owX8_isLetter, w ∈ lw_tbl := lo_in _ [] (by decide +kernel)
set_option maxRecDepth 100000 in
theorem liX8_isLetter : ∀ w ∈ wsX8_isLetter, w ∈ lw_tbl := lo_c (lo_1 2 145 (by first | rfl | decide +kernel)) looX8_isLetter
set_option maxRecDepth 100000 in
theorem looX8_readWord : ∀ w ∈ owX8_readWord, w ∈ lw_tbl := lo_in _ [(1, 35), (1, 34), (1, 33), (1, 37), (1, 36), (2, 143), (2, 144), (1, 2)] (by decide +kernel)
set_option maxRecDepth 100000 in
theorem liX8_readWord : ∀ w ∈ wsX8_readWord, w ∈ lw_tbl := lo_c (lo_1 2 149 (by first | rfl | decide +kernel)) (lo_a looX8_readWord (lo_a liX80 liX8_isLetter))
set_option maxRecDepth 100000 in
theorem looX8_isDigit : ∀ w ∈ owX8_isDigit, w ∈ lw_tbl := lo_in _ [] (by decide +kernel)
set_option maxRecDepth 100000 in
theorem liX8_isDigit : ∀ w ∈ wsX8_isDigit, w ∈ lw_tbl := lo_c (lo_1 2 152 (by first | rfl | decide +kernel)) looX8_isDigit
set_option maxRecDepth 100000 in
theorem looX8_readNumber : ∀ w ∈ owX8_readNumber, w ∈ lw_tbl := lo_in _ [(1, 35), (1, 34), (1, 33), (1, 38), (1, 37), (1, 36), (2, 150), (2, 151), (1, 2)] (by decide +kernel)
set_option maxRecDepth 100000 in
theorem liX8_readNumber : ∀ w ∈ wsX8_readNumber, w ∈ lw_tbl := lo_c (lo_1 2 156 (by first | rfl | decide +kernel)) (lo_a looX8_readNumber (lo_a liX80 liX8_isDigit))
set_option maxRecDepth 100000 in
theorem looX8_readToken : ∀ w ∈ owX8_readToken, w ∈ lw_tbl := lo_in _ [(1, 35), (1, 34), (1, 33), (1, 37), (1, 38), (1, 36), (2, 140), (2, 141), (1, 2), (2, 143), (2, 144), (2, 146), (2, 148), (0, 5), (2, 150), (2, 151), (2, 153), (2, 155), (0, 6)] (by decide +kernel)
set_option maxRecDepth 100000 in
theorem liX8_readToken : ∀ w ∈ wsX8_readToken, w ∈ lw_tbl := lo_c (lo_1 2 139 (by first | rfl | decide +kernel)) (lo_a looX8_readToken (lo_a liX80 (lo_a liX8_isBlank (lo_a liX8_isLetter (lo_a liX8_readWord (lo_a liX8_isDigit liX8_readNumber))))))
set_option maxRecDepth 100000 in
theorem looJ0_coder_7d493 : ∀ w ∈ owJ0_coder_7d493, w ∈ lw_tbl := lo_in _ [(2, 174), (7, 99)] (by decide +kernel)
set_option maxRecDepth 100000 in
theorem liJ0_coder_7d493 : ∀ w ∈ wsJ0_coder_7d493, w ∈ lw_tbl := lo_c (lo_1 2 173 (by first | rfl | decide +kernel)) looJ0_coder_7d493
set_option maxRecDepth 100000 in
theorem looJ0_length_8abf5 : ∀ w ∈ owJ0_length_8abf5, w ∈ lw_tbl := lo_in _ [(7, 98), (2, 170), (2, 171), (2, 172), (1, 14)] (by decide +kernel)
set_option maxRecDepth 100000 in
theorem liJ0_length_8abf5 : ∀ w ∈ wsJ0_length_8abf5, w ∈ lw_tbl := lo_c (lo_1 2 169 (by first | rfl | decide +kernel)) (lo_a looJ0_length_8abf5 liJ0_coder_7d493)
set_option maxRecDepth 100000 in
theorem looJ0_isLatin1_aae02 : ∀ w ∈ owJ0_isLatin1_aae02, w ∈ lw_tbl := lo_in _ [(2, 174), (7, 99)] (by decide +kernel)
set_option maxRecDepth 100000 in
theorem liJ0_isLatin1_aae02 : ∀ w ∈ wsJ0_isLatin1_aae02, w ∈ lw_tbl := lo_c (lo_1 2 183 (by first | rfl | decide +kernel)) looJ0_isLatin1_aae02
set_option maxRecDepth 100000 in
theorem looJ3_checkIndex_8e157 : ∀ w ∈ owJ3_checkIndex_8e157, w ∈ lw_tbl := lo_in _ [] (by decide +kernel)
set_option maxRecDepth 100000 in
theorem liJ3_checkIndex_8e157 : ∀ w ∈ wsJ3_checkIndex_8e157, w ∈ lw_tbl := lo_c (lo_1 2 194 (by first | rfl | decide +kernel)) looJ3_checkIndex_8e157
set_option maxRecDepth 100000 in
theorem looJ0_checkIndex_df160 : ∀ w ∈ owJ0_checkIndex_df160, w ∈ lw_tbl := lo_in _ [(2, 190), (2, 192), (2, 193), (1, 16)] (by decide +kernel)
set_option maxRecDepth 100000 in
theorem liJ0_checkIndex_df160 : ∀ w ∈ wsJ0_checkIndex_df160, w ∈ lw_tbl := lo_c (lo_1 2 189 (by first | rfl | decide +kernel)) (lo_a looJ0_checkIndex_df160 liJ3_checkIndex_8e157)
set_option maxRecDepth 100000 in
theorem looJ1_charAt_3b067 : ∀ w ∈ owJ1_charAt_3b067, w ∈ lw_tbl := lo_in _ [(2, 187), (2, 188), (1, 14)] (by decide +kernel)
set_option maxRecDepth 100000 in
theorem liJ1_charAt_3b067 : ∀ w ∈ wsJ1_charAt_3b067, w ∈ lw_tbl := lo_c (lo_1 2 186 (by first | rfl | decide +kernel)) (lo_a looJ1_charAt_3b067 liJ0_checkIndex_df160)
set_option maxRecDepth 100000 in
theorem looJ2_length_9d52b : ∀ w ∈ owJ2_length_9d52b, w ∈ lw_tbl := lo_in _ [] (by decide +kernel)
set_option maxRecDepth 100000 in
theorem liJ2_length_9d52b : ∀ w ∈ wsJ2_length_9d52b, w ∈ lw_tbl := lo_c (lo_1 2 203 (by first | rfl | decide +kernel)) looJ2_length_9d52b
set_option maxRecDepth 100000 in
theorem looJ2_checkIndex_2214a : ∀ w ∈ owJ2_checkIndex_2214a, w ∈ lw_tbl := lo_in _ [(2, 201), (2, 202), (1, 17), (2, 204), (2, 188), (1, 14)] (by decide +kernel)
set_option maxRecDepth 100000 in
theorem liJ2_checkIndex_2214a : ∀ w ∈ wsJ2_checkIndex_2214a, w ∈ lw_tbl := lo_c (lo_1 2 200 (by first | rfl | decide +kernel)) (lo_a looJ2_checkIndex_2214a (lo_a liJ2_length_9d52b liJ0_checkIndex_df160))
set_option maxRecDepth 100000 in
theorem looJ2_getChar_3b067 : ∀ w ∈ owJ2_getChar_3b067, w ∈ lw_tbl := lo_in _ [(2, 208), (2, 210), (2, 212), (2, 201), (2, 202), (1, 17)] (by decide +kernel)
set_option maxRecDepth 100000 in
theorem liJ2_getChar_3b067 : ∀ w ∈ wsJ2_getChar_3b067, w ∈ lw_tbl := lo_c (lo_1 2 207 (by first | rfl | decide +kernel)) (lo_a looJ2_getChar_3b067 liJ2_length_9d52b)
set_option maxRecDepth 100000 in
theorem looJ2_charAt_3b067 : ∀ w ∈ owJ2_charAt_3b067, w ∈ lw_tbl := lo_in _ [(2, 198), (2, 199), (1, 17), (2, 205), (2, 206)] (by decide +kernel)
set_option maxRecDepth 100000 in
theorem liJ2_charAt_3b067 : ∀ w ∈ wsJ2_charAt_3b067, w ∈ lw_tbl := lo_c (lo_1 2 197 (by first | rfl | decide +kernel)) (lo_a looJ2_charAt_3b067 (lo_a liJ2_checkIndex_2214a liJ2_getChar_3b067))
set_option maxRecDepth 100000 in
theorem looJ0_charAt_5068e : ∀ w ∈ owJ0_charAt_5068e, w ∈ lw_tbl := lo_in _ [(7, 98), (2, 180), (2, 181), (2, 182), (1, 14), (2, 184), (2, 185), (1, 15), (2, 195), (2, 196), (1, 17)] (by decide +kernel)
set_option maxRecDepth 100000 in
theorem liJ0_charAt_5068e : ∀ w ∈ wsJ0_charAt_5068e, w ∈ lw_tbl := lo_c (lo_1 2 179 (by first | rfl | decide +kernel)) (lo_a looJ0_charAt_5068e (lo_a liJ0_isLatin1_aae02 (lo_a liJ1_charAt_3b067 liJ2_charAt_3b067)))
set_option maxRecDepth 100000 in
theorem looX8_isWord : ∀ w ∈ owX8_isWord, w ∈ lw_tbl := lo_in _ [(1, 36), (1, 35), (1, 37), (1, 34), (1, 33), (2, 166), (2, 167), (2, 168), (1, 14), (2, 176), (2, 177), (2, 178)] (by decide +kernel)
set_option maxRecDepth 100000 in
theorem liX8_isWord : ∀ w ∈ wsX8_isWord, w ∈ lw_tbl := lo_c (lo_1 2 165 (by first | rfl | decide +kernel)) (lo_a looX8_isWord (lo_a liX80 (lo_a liJ0_length_8abf5 liJ0_charAt_5068e)))
set_option maxRecDepth 100000 in
theorem looX8_kind : ∀ w ∈ owX8_kind, w ∈ lw_tbl := lo_in _ [(1, 36)] (by decide +kernel)
set_option maxRecDepth 100000 in
theorem liX8_kind : ∀ w ∈ wsX8_kind, w ∈ lw_tbl := lo_c (lo_1 2 217 (by first | rfl | decide +kernel)) (lo_a looX8_kind liX80)
set_option maxRecDepth 100000 in
theorem looX8_value : ∀ w ∈ owX8_value, w ∈ lw_tbl := lo_in _ [(1, 38)] (by decide +kernel)
set_option maxRecDepth 100000 in
theorem liX8_value : ∀ w ∈ wsX8_value, w ∈ lw_tbl := lo_c (lo_1 2 221 (by first | rfl | decide +kernel)) (lo_a looX8_value liX80)
set_option maxRecDepth 100000 in
theorem looX5_numberLine : ∀ w ∈ owX5_numberLine, w ∈ lw_tbl := lo_in _ [(2, 31), (2, 25), (2, 26), (2, 27), (2, 29)] (by decide +kernel)
set_option maxRecDepth 100000 in
theorem liX5_numberLine : ∀ w ∈ wsX5_numberLine, w ∈ lw_tbl := lo_c (lo_1 2 2 (by first | rfl | decide +kernel)) (lo_a looX5_numberLine liX50)
set_option maxRecDepth 100000 in
theorem looX5_numberLines : ∀ w ∈ owX5_numberLines, w ∈ lw_tbl := lo_in _ [(2, 24), (2, 27), (1, 239), (2, 1), (0, 1), (1, 11)] (by decide +kernel)
set_option maxRecDepth 100000 in
theorem liX5_numberLines : ∀ w ∈ wsX5_numberLines, w ∈ lw_tbl := lo_c (lo_1 1 238 (by first | rfl | decide +kernel)) (lo_a looX5_numberLines (lo_a liX50 liX5_numberLine))
set_option maxRecDepth 100000 in
theorem looX5_cross : ∀ w ∈ owX5_cross, w ∈ lw_tbl := lo_in _ [] (by decide +kernel)
set_option maxRecDepth 100000 in
theorem liX5_cross : ∀ w ∈ wsX5_cross, w ∈ lw_tbl := lo_c (lo_1 2 9 (by first | rfl | decide +kernel)) looX5_cross
set_option maxRecDepth 100000 in
theorem looX5_findCrossers : ∀ w ∈ owX5_findCrossers, w ∈ lw_tbl := lo_in _ [(2, 31), (2, 25), (2, 26), (2, 28), (2, 7), (2, 8), (1, 11)] (by decide +kernel)
set_option maxRecDepth 100000 in
theorem liX5_findCrossers : ∀ w ∈ wsX5_findCrossers, w ∈ lw_tbl := lo_c (lo_1 2 6 (by first | rfl | decide +kernel)) (lo_a looX5_findCrossers (lo_a liX50 liX5_cross))
set_option maxRecDepth 100000 in
theorem looX5_keepCut : ∀ w ∈ owX5_keepCut, w ∈ lw_tbl := lo_in _ [(2, 32), (2, 30)] (by decide +kernel)
set_option maxRecDepth 100000 in
theorem liX5_keepCut : ∀ w ∈ wsX5_keepCut, w ∈ lw_tbl := lo_c (lo_1 2 17 (by first | rfl | decide +kernel)) (lo_a looX5_keepCut liX50)
set_option maxRecDepth 100000 in
theorem looJ6_bitCount_0f7a4 : ∀ w ∈ owJ6_bitCount_0f7a4, w ∈ lw_tbl := lo_in _ [(2, 21), (2, 22), (2, 23)] (by decide +kernel)
set_option maxRecDepth 100000 in
theorem liJ6_bitCount_0f7a4 : ∀ w ∈ wsJ6_bitCount_0f7a4, w ∈ lw_tbl := lo_c (lo_1 2 20 (by first | rfl | decide +kernel)) looJ6_bitCount_0f7a4
set_option maxRecDepth 100000 in
theorem looX5_gatherCuts : ∀ w ∈ owX5_gatherCuts, w ∈ lw_tbl := lo_in _ [(2, 28), (2, 14), (2, 16), (0, 4), (1, 11), (2, 18), (2, 19), (1, 12), (2, 10), (2, 12), (0, 3)] (by decide +kernel)
set_option maxRecDepth 100000 in
theorem liX5_gatherCuts : ∀ w ∈ wsX5_gatherCuts, w ∈ lw_tbl := lo_c (lo_1 2 13 (by first | rfl | decide +kernel)) (lo_a looX5_gatherCuts (lo_a liX50 (lo_a liX5_keepCut liJ6_bitCount_0f7a4)))
set_option maxRecDepth 100000 in
theorem looX5_init : ∀ w ∈ owX5_init, w ∈ lw_tbl := lo_in _ [(1, 234), (1, 25), (1, 26), (1, 118), (2, 25), (2, 26), (2, 27), (2, 28), (2, 29), (2, 30), (2, 24), (2, 31), (1, 235), (1, 237), (0, 0), (1, 11), (2, 3), (2, 5), (0, 2), (2, 10), (2, 12), (0, 3)] (by decide +kernel)
set_option maxRecDepth 100000 in
theorem liX5_init : ∀ w ∈ wsX5_init, w ∈ lw_tbl := lo_c (lo_1 1 233 (by first | rfl | decide +kernel)) (lo_a looX5_init (lo_a liX50 (lo_a liX5_numberLines (lo_a liX5_findCrossers liX5_gatherCuts))))
set_option maxRecDepth 100000 in
theorem looX6_withCorners : ∀ w ∈ owX6_withCorners, w ∈ lw_tbl := lo_in _ [(1, 61), (1, 59), (1, 230), (1, 231), (1, 232)] (by decide +kernel)
set_option maxRecDepth 100000 in
theorem liX6_withCorners : ∀ w ∈ wsX6_withCorners, w ∈ lw_tbl := lo_c (lo_1 1 229 (by first | rfl | decide +kernel)) (lo_a looX6_withCorners (lo_a liX60 (lo_a liX50 liX5_init)))
set_option maxRecDepth 100000 in
theorem looX1_takeFirst : ∀ w ∈ owX1_takeFirst, w ∈ lw_tbl := lo_in _ [(1, 75), (1, 76), (1, 74), (2, 214), (2, 215), (2, 216), (1, 2), (2, 227), (2, 19), (1, 12), (2, 228), (2, 229), (2, 230), (1, 11), (2, 218), (2, 219), (2, 220), (2, 232), (2, 233), (2, 234)] (by decide +kernel)
set_option maxRecDepth 100000 in
theorem liX1_takeFirst : ∀ w ∈ wsX1_takeFirst, w ∈ lw_tbl := lo_c (lo_1 2 226 (by first | rfl | decide +kernel)) (lo_a looX1_takeFirst (lo_a liX10 (lo_a liX8_kind (lo_a liJ6_bitCount_0f7a4 (lo_a liX5_corners (lo_a liX8_value liX5_hasCorner))))))
set_option maxRecDepth 100000 in
theorem looX1_takeSecond : ∀ w ∈ owX1_takeSecond, w ∈ lw_tbl := lo_in _ [(1, 75), (1, 74), (1, 76), (2, 232), (2, 233), (2, 234), (1, 11), (3, 0), (3, 1), (3, 2), (3, 5), (3, 6), (3, 7), (3, 13), (3, 14), (3, 15)] (by decide +kernel)
set_option maxRecDepth 100000 in
theorem liX1_takeSecond : ∀ w ∈ wsX1_takeSecond, w ∈ lw_tbl := lo_c (lo_1 2 239 (by first | rfl | decide +kernel)) (lo_a looX1_takeSecond (lo_a liX10 (lo_a liX5_hasCorner (lo_a liX5_lineOf (lo_a liX5_has liX5_crossersOf)))))
set_option maxRecDepth 100000 in
theorem looX1_takeToken : ∀ w ∈ owX1_takeToken, w ∈ lw_tbl := lo_in _ [(1, 73), (2, 162), (2, 163), (2, 164), (1, 2), (2, 214), (2, 215), (2, 216), (2, 218), (2, 219), (2, 220), (2, 222), (1, 227), (1, 228), (1, 3), (2, 223), (2, 225), (0, 8), (1, 4), (2, 236), (2, 238), (0, 9)] (by decide +kernel)
set_option maxRecDepth 100000 in
theorem liX1_takeToken : ∀ w ∈ wsX1_takeToken, w ∈ lw_tbl := lo_c (lo_1 2 160 (by first | rfl | decide +kernel)) (lo_a looX1_takeToken (lo_a liX10 (lo_a liX8_isWord (lo_a liX8_kind (lo_a liX8_value (lo_a liX6_withCorners (lo_a liX1_takeFirst liX1_takeSecond)))))))
set_option maxRecDepth 100000 in
theorem looX8_place : ∀ w ∈ owX8_place, w ∈ lw_tbl := lo_in _ [(1, 37)] (by decide +kernel)
set_option maxRecDepth 100000 in
theorem liX8_place : ∀ w ∈ wsX8_place, w ∈ lw_tbl := lo_c (lo_1 3 20 (by first | rfl | decide +kernel)) (lo_a looX8_place liX80)
set_option maxRecDepth 100000 in
theorem looX1_understand : ∀ w ∈ owX1_understand, w ∈ lw_tbl := lo_in _ [(1, 71), (1, 72), (1, 73), (1, 75), (1, 76), (2, 132), (2, 133), (2, 134), (1, 2), (2, 136), (2, 137), (2, 138), (2, 157), (2, 159), (0, 7), (1, 4), (2, 214), (2, 215), (2, 216), (3, 17), (3, 18), (3, 19)] (by decide +kernel)
set_option maxRecDepth 100000 in
theorem liX1_understand : ∀ w ∈ wsX1_understand, w ∈ lw_tbl := lo_c (lo_1 2 131 (by first | rfl | decide +kernel)) (lo_a looX1_understand (lo_a liX10 (lo_a liX8_rewind (lo_a liX8_readToken (lo_a liX1_takeToken (lo_a liX8_place liX8_kind))))))
set_option maxRecDepth 100000 in
theorem looX2_init : ∀ w ∈ owX2_init, w ∈ lw_tbl := lo_in _ [(1, 159), (1, 25), (1, 26), (1, 118), (1, 160), (1, 161)] (by decide +kernel)
set_option maxRecDepth 100000 in
theorem liX2_init : ∀ w ∈ wsX2_init, w ∈ lw_tbl := lo_c (lo_1 1 158 (by first | rfl | decide +kernel)) (lo_a looX2_init liX20)
set_option maxRecDepth 100000 in
theorem looX2_size : ∀ w ∈ owX2_size, w ∈ lw_tbl := lo_in _ [(1, 161)] (by decide +kernel)
set_option maxRecDepth 100000 in
theorem liX2_size : ∀ w ∈ wsX2_size, w ∈ lw_tbl := lo_c (lo_1 3 70 (by first | rfl | decide +kernel)) (lo_a looX2_size liX20)
set_option maxRecDepth 100000 in
theorem looX2_hasPlace : ∀ w ∈ owX2_hasPlace, w ∈ lw_tbl := lo_in _ [(1, 161)] (by decide +kernel)
set_option maxRecDepth 100000 in
theorem liX2_hasPlace : ∀ w ∈ wsX2_hasPlace, w ∈ lw_tbl := lo_c (lo_1 4 140 (by first | rfl | decide +kernel)) (lo_a looX2_hasPlace liX20)
set_option maxRecDepth 100000 in
theorem looX2_accepts : ∀ w ∈ owX2_accepts, w ∈ lw_tbl := lo_in _ [] (by decide +kernel)
set_option maxRecDepth 100000 in
theorem liX2_accepts : ∀ w ∈ wsX2_accepts, w ∈ lw_tbl := lo_c (lo_1 4 123 (by first | rfl | decide +kernel)) looX2_accepts
set_option maxRecDepth 100000 in
theorem looX2_become : ∀ w ∈ owX2_become, w ∈ lw_tbl := lo_in _ [(4, 128), (3, 115), (1, 18), (3, 116), (1, 161), (1, 160)] (by decide +kernel)
set_option maxRecDepth 100000 in
theorem liX2_become : ∀ w ∈ wsX2_become, w ∈ lw_tbl := lo_c (lo_1 4 127 (by first | rfl | decide +kernel)) (lo_a looX2_become liX20)
set_option maxRecDepth 100000 in
theorem looJ9_floorMod_7cf53 : ∀ w ∈ owJ9_floorMod_7cf53, w ∈ lw_tbl := lo_in _ [] (by decide +kernel)
set_option maxRecDepth 100000 in
theorem liJ9_floorMod_7cf53 : ∀ w ∈ wsJ9_floorMod_7cf53, w ∈ lw_tbl := lo_c (lo_1 4 151 (by first | rfl | decide +kernel)) looJ9_floorMod_7cf53
set_option maxRecDepth 100000 in
theorem looX2_wrapped : ∀ w ∈ owX2_wrapped, w ∈ lw_tbl := lo_in _ [(1, 161), (4, 149), (4, 150), (1, 18)] (by decide +kernel)
set_option maxRecDepth 100000 in
theorem liX2_wrapped : ∀ w ∈ wsX2_wrapped, w ∈ lw_tbl := lo_c (lo_1 4 148 (by first | rfl | decide +kernel)) (lo_a looX2_wrapped (lo_a liX20 liJ9_floorMod_7cf53))
set_option maxRecDepth 100000 in
theorem looX2_at : ∀ w ∈ owX2_at, w ∈ lw_tbl := lo_in _ [(1, 160), (4, 145), (4, 147), (0, 25), (1, 8)] (by decide +kernel)
set_option maxRecDepth 100000 in
theorem liX2_at : ∀ w ∈ wsX2_at, w ∈ lw_tbl := lo_c (lo_1 4 144 (by first | rfl | decide +kernel)) (lo_a looX2_at (lo_a liX20 liX2_wrapped))
set_option maxRecDepth 100000 in
theorem looX2_entryAt : ∀ w ∈ owX2_entryAt, w ∈ lw_tbl := lo_in _ [(4, 161), (4, 142), (4, 143), (1, 8)] (by decide +kernel)
set_option maxRecDepth 100000 in
theorem liX2_entryAt : ∀ w ∈ wsX2_entryAt, w ∈ lw_tbl := lo_c (lo_1 4 160 (by first | rfl | decide +kernel)) (lo_a looX2_entryAt liX2_at)
set_option maxRecDepth 100000 in
theorem looX2_breakPlace : ∀ w ∈ owX2_breakPlace, w ∈ lw_tbl := lo_in _ [(1, 161), (4, 174), (4, 158), (4, 159), (1, 8)] (by decide +kernel)
set_option maxRecDepth 100000 in
theorem liX2_breakPlace : ∀ w ∈ wsX2_breakPlace, w ∈ lw_tbl := lo_c (lo_1 4 173 (by first | rfl | decide +kernel)) (lo_a looX2_breakPlace (lo_a liX20 liX2_entryAt))
set_option maxRecDepth 100000 in
theorem looX2_breakLength : ∀ w ∈ owX2_breakLength, w ∈ lw_tbl := lo_in _ [(4, 170), (4, 171), (4, 172), (1, 8)] (by decide +kernel)
set_option maxRecDepth 100000 in
theorem liX2_breakLength : ∀ w ∈ wsX2_breakLength, w ∈ lw_tbl := lo_c (lo_1 4 169 (by first | rfl | decide +kernel)) (lo_a looX2_breakLength liX2_breakPlace)
set_option maxRecDepth 100000 in
theorem looX2_allAre : ∀ w ∈ owX2_allAre, w ∈ lw_tbl := lo_in _ [(1, 161), (4, 174), (4, 158), (4, 159), (1, 8)] (by decide +kernel)
set_option maxRecDepth 100000 in
theorem liX2_allAre : ∀ w ∈ wsX2_allAre, w ∈ lw_tbl := lo_c (lo_1 4 183 (by first | rfl | decide +kernel)) (lo_a looX2_allAre (lo_a liX20 liX2_entryAt))
set_option maxRecDepth 100000 in
theorem looX2_comesBack : ∀ w ∈ owX2_comesBack, w ∈ lw_tbl := lo_in _ [(4, 184), (4, 180), (4, 182), (0, 26), (1, 8)] (by decide +kernel)
set_option maxRecDepth 100000 in
theorem liX2_comesBack : ∀ w ∈ wsX2_comesBack, w ∈ lw_tbl := lo_c (lo_1 4 179 (by first | rfl | decide +kernel)) (lo_a looX2_comesBack liX2_allAre)
set_option maxRecDepth 100000 in
theorem looX2_growthOfRound : ∀ w ∈ owX2_growthOfRound, w ∈ lw_tbl := lo_in _ [(1, 161), (4, 174), (4, 158), (4, 159), (1, 8)] (by decide +kernel)
set_option maxRecDepth 100000 in
theorem liX2_growthOfRound : ∀ w ∈ wsX2_growthOfRound, w ∈ lw_tbl := lo_c (lo_1 4 192 (by first | rfl | decide +kernel)) (lo_a looX2_growthOfRound (lo_a liX20 liX2_entryAt))
set_option maxRecDepth 100000 in
theorem looX2_canGlue : ∀ w ∈ owX2_canGlue, w ∈ lw_tbl := lo_in _ [(1, 161), (4, 161), (4, 142), (4, 143), (1, 8)] (by decide +kernel)
set_option maxRecDepth 100000 in
theorem liX2_canGlue : ∀ w ∈ wsX2_canGlue, w ∈ lw_tbl := lo_c (lo_1 4 200 (by first | rfl | decide +kernel)) (lo_a looX2_canGlue (lo_a liX20 liX2_at))
set_option maxRecDepth 100000 in
theorem looX2_glueBehind : ∀ w ∈ owX2_glueBehind, w ∈ lw_tbl := lo_in _ [(1, 161), (1, 160), (4, 205), (4, 138), (4, 139), (1, 8), (4, 206), (4, 198), (4, 199), (4, 145), (4, 147), (0, 25)] (by decide +kernel)
set_option maxRecDepth 100000 in
theorem liX2_glueBehind : ∀ w ∈ wsX2_glueBehind, w ∈ lw_tbl := lo_c (lo_1 4 204 (by first | rfl | decide +kernel)) (lo_a looX2_glueBehind (lo_a liX20 (lo_a liX2_hasPlace (lo_a liX2_canGlue liX2_wrapped))))
set_option maxRecDepth 100000 in
theorem looX2_canLose : ∀ w ∈ owX2_canLose, w ∈ lw_tbl := lo_in _ [(1, 161), (4, 161), (4, 142), (4, 143), (1, 8)] (by decide +kernel)
set_option maxRecDepth 100000 in
theorem liX2_canLose : ∀ w ∈ wsX2_canLose, w ∈ lw_tbl := lo_c (lo_1 4 214 (by first | rfl | decide +kernel)) (lo_a looX2_canLose (lo_a liX20 liX2_at))
set_option maxRecDepth 100000 in
theorem looX2_lose : ∀ w ∈ owX2_lose, w ∈ lw_tbl := lo_in _ [(1, 161), (1, 160), (4, 205), (4, 138), (4, 139), (1, 8), (4, 219), (4, 212), (4, 213), (4, 145), (4, 147), (0, 25)] (by decide +kernel)
set_option maxRecDepth 100000 in
theorem liX2_lose : ∀ w ∈ wsX2_lose, w ∈ lw_tbl := lo_c (lo_1 4 218 (by first | rfl | decide +kernel)) (lo_a looX2_lose (lo_a liX20 (lo_a liX2_hasPlace (lo_a liX2_canLose liX2_wrapped))))
set_option maxRecDepth 100000 in
theorem looX2_firstOne : ∀ w ∈ owX2_firstOne, w ∈ lw_tbl := lo_in _ [(1, 161), (1, 160)] (by decide +kernel)
set_option maxRecDepth 100000 in
theorem liX2_firstOne : ∀ w ∈ wsX2_firstOne, w ∈ lw_tbl := lo_c (lo_1 4 231 (by first | rfl | decide +kernel)) (lo_a looX2_firstOne liX20)
set_option maxRecDepth 100000 in
theorem looX2_loseAll : ∀ w ∈ owX2_loseAll, w ∈ lw_tbl := lo_in _ [(4, 228), (4, 230), (0, 27), (1, 8), (4, 219), (4, 212), (4, 213), (4, 232), (4, 216), (4, 217)] (by decide +kernel)
set_option maxRecDepth 100000 in
theorem liX2_loseAll : ∀ w ∈ wsX2_loseAll, w ∈ lw_tbl := lo_c (lo_1 4 227 (by first | rfl | decide +kernel)) (lo_a looX2_loseAll (lo_a liX2_firstOne (lo_a liX2_canLose liX2_lose)))
set_option maxRecDepth 100000 in
theorem looX3_init : ∀ w ∈ owX3_init, w ∈ lw_tbl := lo_in _ [(1, 215), (1, 25), (1, 26), (1, 118), (1, 216), (1, 217)] (by decide +kernel)
set_option maxRecDepth 100000 in
theorem liX3_init : ∀ w ∈ wsX3_init, w ∈ lw_tbl := lo_c (lo_1 1 214 (by first | rfl | decide +kernel)) (lo_a looX3_init liX30)
set_option maxRecDepth 100000 in
theorem looX3_size : ∀ w ∈ owX3_size, w ∈ lw_tbl := lo_in _ [(1, 218)] (by decide +kernel)
set_option maxRecDepth 100000 in
theorem liX3_size : ∀ w ∈ wsX3_size, w ∈ lw_tbl := lo_c (lo_1 5 49 (by first | rfl | decide +kernel)) (lo_a looX3_size liX30)
set_option maxRecDepth 100000 in
theorem looX7_has : ∀ w ∈ owX7_has, w ∈ lw_tbl := lo_in _ [(1, 182)] (by decide +kernel)
set_option maxRecDepth 100000 in
theorem liX7_has : ∀ w ∈ wsX7_has, w ∈ lw_tbl := lo_c (lo_1 5 19 (by first | rfl | decide +kernel)) (lo_a looX7_has liX70)
set_option maxRecDepth 100000 in
theorem looX7_recall : ∀ w ∈ owX7_recall, w ∈ lw_tbl := lo_in _ [(1, 182), (1, 181), (1, 173), (1, 176), (1, 183), (1, 178), (1, 179), (1, 180), (5, 16), (5, 18), (0, 28), (1, 9)] (by decide +kernel)
set_option maxRecDepth 100000 in
theorem liX7_recall : ∀ w ∈ wsX7_recall, w ∈ lw_tbl := lo_c (lo_1 5 38 (by first | rfl | decide +kernel)) (lo_a looX7_recall (lo_a liX70 liX7_has))
set_option maxRecDepth 100000 in
theorem looX5_cutCount : ∀ w ∈ owX5_cutCount, w ∈ lw_tbl := lo_in _ [(2, 32)] (by decide +kernel)
set_option maxRecDepth 100000 in
theorem liX5_cutCount : ∀ w ∈ wsX5_cutCount, w ∈ lw_tbl := lo_c (lo_1 3 66 (by first | rfl | decide +kernel)) (lo_a looX5_cutCount liX50)
set_option maxRecDepth 100000 in
theorem looX5_hasCut : ∀ w ∈ owX5_hasCut, w ∈ lw_tbl := lo_in _ [(2, 32)] (by decide +kernel)
set_option maxRecDepth 100000 in
theorem liX5_hasCut : ∀ w ∈ wsX5_hasCut, w ∈ lw_tbl := lo_c (lo_1 2 59 (by first | rfl | decide +kernel)) (lo_a looX5_hasCut liX50)
set_option maxRecDepth 100000 in
theorem looX5_cutAt : ∀ w ∈ owX5_cutAt, w ∈ lw_tbl := lo_in _ [(2, 30), (2, 56), (2, 57), (2, 58), (1, 11)] (by decide +kernel)
set_option maxRecDepth 100000 in
theorem liX5_cutAt : ∀ w ∈ wsX5_cutAt, w ∈ lw_tbl := lo_c (lo_1 2 55 (by first | rfl | decide +kernel)) (lo_a looX5_cutAt (lo_a liX50 liX5_hasCut))
set_option maxRecDepth 100000 in
theorem looX5_trianglesAt : ∀ w ∈ owX5_trianglesAt, w ∈ lw_tbl := lo_in _ [(2, 29), (3, 4), (2, 233), (2, 234), (1, 11), (2, 18), (2, 19), (1, 12)] (by decide +kernel)
set_option maxRecDepth 100000 in
theorem liX5_trianglesAt : ∀ w ∈ wsX5_trianglesAt, w ∈ lw_tbl := lo_c (lo_1 3 123 (by first | rfl | decide +kernel)) (lo_a looX5_trianglesAt (lo_a liX50 (lo_a liX5_hasCorner liJ6_bitCount_0f7a4)))
set_option maxRecDepth 100000 in
theorem looX5_entryOf : ∀ w ∈ owX5_entryOf, w ∈ lw_tbl := lo_in _ [(3, 114), (3, 115), (1, 18), (3, 116), (3, 117), (3, 118), (3, 119), (3, 120), (3, 121), (3, 122), (1, 11)] (by decide +kernel)
set_option maxRecDepth 100000 in
theorem liX5_entryOf : ∀ w ∈ wsX5_entryOf, w ∈ lw_tbl := lo_c (lo_1 3 113 (by first | rfl | decide +kernel)) (lo_a looX5_entryOf liX5_trianglesAt)
set_option maxRecDepth 100000 in
theorem looX7_agreeWith : ∀ w ∈ owX7_agreeWith, w ∈ lw_tbl := lo_in _ [(1, 182), (1, 181), (1, 174), (1, 175), (5, 45), (3, 111), (3, 112), (1, 11)] (by decide +kernel)
set_option maxRecDepth 100000 in
theorem liX7_agreeWith : ∀ w ∈ wsX7_agreeWith, w ∈ lw_tbl := lo_c (lo_1 5 44 (by first | rfl | decide +kernel)) (lo_a looX7_agreeWith (lo_a liX70 liX5_entryOf))
set_option maxRecDepth 100000 in
theorem looX3_gather : ∀ w ∈ owX3_gather, w ∈ lw_tbl := lo_in _ [(1, 218), (1, 216), (5, 35), (5, 36), (5, 37), (1, 9), (5, 39), (3, 64), (3, 65), (1, 11), (5, 40), (2, 53), (2, 54), (5, 41), (5, 42), (5, 43)] (by decide +kernel)
set_option maxRecDepth 100000 in
theorem liX3_gather : ∀ w ∈ wsX3_gather, w ∈ lw_tbl := lo_c (lo_1 5 34 (by first | rfl | decide +kernel)) (lo_a looX3_gather (lo_a liX30 (lo_a liX7_recall (lo_a liX5_cutCount (lo_a liX5_cutAt liX7_agreeWith)))))
set_option maxRecDepth 100000 in
theorem looX3_leastNumber : ∀ w ∈ owX3_leastNumber, w ∈ lw_tbl := lo_in _ [(1, 218), (1, 216)] (by decide +kernel)
set_option maxRecDepth 100000 in
theorem liX3_leastNumber : ∀ w ∈ wsX3_leastNumber, w ∈ lw_tbl := lo_c (lo_1 5 53 (by first | rfl | decide +kernel)) (lo_a looX3_leastNumber liX30)
set_option maxRecDepth 100000 in
theorem looX3_howSure : ∀ w ∈ owX3_howSure, w ∈ lw_tbl := lo_in _ [(1, 218), (1, 216), (5, 40), (2, 53), (2, 54), (1, 11), (5, 62), (3, 6), (3, 7)] (by decide +kernel)
set_option maxRecDepth 100000 in
theorem liX3_howSure : ∀ w ∈ wsX3_howSure, w ∈ lw_tbl := lo_c (lo_1 5 61 (by first | rfl | decide +kernel)) (lo_a looX3_howSure (lo_a liX30 (lo_a liX5_cutAt liX5_has)))
set_option maxRecDepth 100000 in
theorem looX3_mostAgreeing : ∀ w ∈ owX3_mostAgreeing, w ∈ lw_tbl := lo_in _ [(1, 217), (1, 218), (1, 216), (5, 79), (5, 40), (2, 53), (2, 54), (1, 11), (5, 78), (3, 111), (3, 112)] (by decide +kernel)
set_option maxRecDepth 100000 in
theorem liX3_mostAgreeing : ∀ w ∈ wsX3_mostAgreeing, w ∈ lw_tbl := lo_c (lo_1 5 77 (by first | rfl | decide +kernel)) (lo_a looX3_mostAgreeing (lo_a liX30 (lo_a liX5_cutAt liX5_entryOf)))
set_option maxRecDepth 100000 in
theorem looX3_bestQuestion : ∀ w ∈ owX3_bestQuestion, w ∈ lw_tbl := lo_in _ [(1, 218), (5, 71), (3, 183), (3, 184), (1, 11), (5, 72), (4, 64), (4, 65), (5, 73), (4, 69), (4, 70), (5, 74), (5, 76), (0, 29), (1, 10), (5, 80), (3, 162), (3, 163)] (by decide +kernel)
set_option maxRecDepth 100000 in
theorem liX3_bestQuestion : ∀ w ∈ wsX3_bestQuestion, w ∈ lw_tbl := lo_c (lo_1 5 70 (by first | rfl | decide +kernel)) (lo_a looX3_bestQuestion (lo_a liX30 (lo_a liX5_lineCount (lo_a liX5_lesserOf (lo_a liX5_greaterOf (lo_a liX3_mostAgreeing liX5_pairOf))))))
set_option maxRecDepth 100000 in
theorem looX4_init : ∀ w ∈ owX4_init, w ∈ lw_tbl := lo_in _ [(1, 137), (1, 25), (1, 26), (1, 118), (1, 138), (1, 139), (1, 140)] (by decide +kernel)
end

section
set_option maxRecDepth 100000 in
theorem liX4_init : ∀ w ∈ wsX4_init, w ∈ lw_tbl := lo_c (lo_1 1 136 (by first | rfl | decide +kernel)) (lo_a looX4_init liX40)
set_option maxRecDepth 100000 in
theorem looX4_comeTo : ∀ w ∈ owX4_comeTo, w ∈ lw_tbl := lo_in _ [(1, 138), (1, 142), (1, 139)] (by decide +kernel)
set_option maxRecDepth 100000 in
theorem liX4_comeTo : ∀ w ∈ wsX4_comeTo, w ∈ lw_tbl := lo_c (lo_1 3 180 (by first | rfl | decide +kernel)) (lo_a looX4_comeTo liX40)
set_option maxRecDepth 100000 in
theorem looX5_numberOf : ∀ w ∈ owX5_numberOf, w ∈ lw_tbl := lo_in _ [(2, 32), (2, 30)] (by decide +kernel)
set_option maxRecDepth 100000 in
theorem liX5_numberOf : ∀ w ∈ wsX5_numberOf, w ∈ lw_tbl := lo_c (lo_1 3 41 (by first | rfl | decide +kernel)) (lo_a looX5_numberOf liX50)
set_option maxRecDepth 100000 in
theorem looX5_neighbourWith : ∀ w ∈ owX5_neighbourWith, w ∈ lw_tbl := lo_in _ [(3, 190), (3, 14), (3, 15), (1, 11), (2, 18), (2, 19), (1, 12), (3, 191), (3, 39), (3, 40)] (by decide +kernel)
set_option maxRecDepth 100000 in
theorem liX5_neighbourWith : ∀ w ∈ wsX5_neighbourWith, w ∈ lw_tbl := lo_c (lo_1 3 189 (by first | rfl | decide +kernel)) (lo_a looX5_neighbourWith (lo_a liX5_crossersOf (lo_a liJ6_bitCount_0f7a4 liX5_numberOf)))
set_option maxRecDepth 100000 in
theorem looX4_stepsTo : ∀ w ∈ owX4_stepsTo, w ∈ lw_tbl := lo_in _ [(1, 138)] (by decide +kernel)
set_option maxRecDepth 100000 in
theorem liX4_stepsTo : ∀ w ∈ wsX4_stepsTo, w ∈ lw_tbl := lo_c (lo_1 3 195 (by first | rfl | decide +kernel)) (lo_a looX4_stepsTo liX40)
set_option maxRecDepth 100000 in
theorem looX4_measure : ∀ w ∈ owX4_measure, w ∈ lw_tbl := lo_in _ [(1, 138), (1, 142), (1, 139), (3, 177), (3, 179), (0, 16), (1, 7), (3, 181), (2, 53), (2, 54), (1, 11), (3, 182), (3, 183), (3, 184), (3, 186), (3, 187), (3, 188), (3, 192), (3, 194), (0, 17)] (by decide +kernel)
set_option maxRecDepth 100000 in
theorem liX4_measure : ∀ w ∈ wsX4_measure, w ∈ lw_tbl := lo_c (lo_1 3 176 (by first | rfl | decide +kernel)) (lo_a looX4_measure (lo_a liX40 (lo_a liX4_comeTo (lo_a liX5_cutAt (lo_a liX5_lineCount (lo_a liX5_neighbourWith liX4_stepsTo))))))
set_option maxRecDepth 100000 in
theorem looX4_mostSteps : ∀ w ∈ owX4_mostSteps, w ∈ lw_tbl := lo_in _ [(3, 218), (3, 118), (1, 18), (3, 119), (3, 217), (3, 64), (3, 65), (1, 11), (3, 192), (3, 194), (0, 17), (1, 7)] (by decide +kernel)
set_option maxRecDepth 100000 in
theorem liX4_mostSteps : ∀ w ∈ wsX4_mostSteps, w ∈ lw_tbl := lo_c (lo_1 3 216 (by first | rfl | decide +kernel)) (lo_a looX4_mostSteps (lo_a liX5_cutCount liX4_stepsTo))
set_option maxRecDepth 100000 in
theorem looX4_howManyAt : ∀ w ∈ owX4_howManyAt, w ∈ lw_tbl := lo_in _ [(3, 217), (3, 64), (3, 65), (1, 11), (3, 192), (3, 194), (0, 17), (1, 7)] (by decide +kernel)
set_option maxRecDepth 100000 in
theorem liX4_howManyAt : ∀ w ∈ wsX4_howManyAt, w ∈ lw_tbl := lo_c (lo_1 3 222 (by first | rfl | decide +kernel)) (lo_a looX4_howManyAt (lo_a liX5_cutCount liX4_stepsTo))
set_option maxRecDepth 100000 in
theorem looX4_leastNearer : ∀ w ∈ owX4_leastNearer, w ∈ lw_tbl := lo_in _ [(3, 181), (2, 53), (2, 54), (1, 11), (3, 182), (3, 183), (3, 184), (3, 186), (3, 187), (3, 188), (3, 192), (3, 194), (0, 17), (1, 7)] (by decide +kernel)
set_option maxRecDepth 100000 in
theorem liX4_leastNearer : ∀ w ∈ wsX4_leastNearer, w ∈ lw_tbl := lo_c (lo_1 3 199 (by first | rfl | decide +kernel)) (lo_a looX4_leastNearer (lo_a liX5_cutAt (lo_a liX5_lineCount (lo_a liX5_neighbourWith liX4_stepsTo))))
set_option maxRecDepth 100000 in
theorem looX4_layWay : ∀ w ∈ owX4_layWay, w ∈ lw_tbl := lo_in _ [(1, 141), (1, 140), (3, 173), (3, 174), (3, 175), (1, 7), (3, 192), (3, 194), (0, 17), (3, 196), (3, 198), (0, 18)] (by decide +kernel)
set_option maxRecDepth 100000 in
theorem liX4_layWay : ∀ w ∈ wsX4_layWay, w ∈ lw_tbl := lo_c (lo_1 3 172 (by first | rfl | decide +kernel)) (lo_a looX4_layWay (lo_a liX40 (lo_a liX4_measure (lo_a liX4_stepsTo liX4_leastNearer))))
set_option maxRecDepth 100000 in
theorem looX4_onWay : ∀ w ∈ owX4_onWay, w ∈ lw_tbl := lo_in _ [(1, 141), (1, 140)] (by decide +kernel)
set_option maxRecDepth 100000 in
theorem liX4_onWay : ∀ w ∈ wsX4_onWay, w ∈ lw_tbl := lo_c (lo_1 3 207 (by first | rfl | decide +kernel)) (lo_a looX4_onWay liX40)
set_option maxRecDepth 100000 in
theorem looX5_areNext : ∀ w ∈ owX5_areNext, w ∈ lw_tbl := lo_in _ [(3, 88), (3, 89), (1, 18), (3, 90), (2, 24)] (by decide +kernel)
set_option maxRecDepth 100000 in
theorem liX5_areNext : ∀ w ∈ wsX5_areNext, w ∈ lw_tbl := lo_c (lo_1 3 87 (by first | rfl | decide +kernel)) (lo_a looX5_areNext liX50)
set_option maxRecDepth 100000 in
theorem looX5_areJoined : ∀ w ∈ owX5_areJoined, w ∈ lw_tbl := lo_in _ [(3, 84), (3, 85), (3, 86), (1, 11), (3, 91), (3, 1), (3, 2), (3, 92), (3, 6), (3, 7)] (by decide +kernel)
set_option maxRecDepth 100000 in
theorem liX5_areJoined : ∀ w ∈ wsX5_areJoined, w ∈ lw_tbl := lo_c (lo_1 3 83 (by first | rfl | decide +kernel)) (lo_a looX5_areJoined (lo_a liX5_areNext (lo_a liX5_lineOf liX5_has)))
set_option maxRecDepth 100000 in
theorem looX5_otherLine : ∀ w ∈ owX5_otherLine, w ∈ lw_tbl := lo_in _ [(2, 31), (2, 28)] (by decide +kernel)
set_option maxRecDepth 100000 in
theorem liX5_otherLine : ∀ w ∈ wsX5_otherLine, w ∈ lw_tbl := lo_c (lo_1 3 160 (by first | rfl | decide +kernel)) (lo_a looX5_otherLine liX50)
set_option maxRecDepth 100000 in
theorem looX5_movedCorner : ∀ w ∈ owX5_movedCorner, w ∈ lw_tbl := lo_in _ [(2, 24)] (by decide +kernel)
set_option maxRecDepth 100000 in
theorem liX5_movedCorner : ∀ w ∈ wsX5_movedCorner, w ∈ lw_tbl := lo_c (lo_1 4 2 (by first | rfl | decide +kernel)) (lo_a looX5_movedCorner liX50)
set_option maxRecDepth 100000 in
theorem looX5_moved : ∀ w ∈ owX5_moved, w ∈ lw_tbl := lo_in _ [(2, 31), (2, 25), (2, 26), (3, 92), (3, 6), (3, 7), (1, 11), (3, 239), (4, 1), (0, 21), (3, 91), (3, 1), (3, 2)] (by decide +kernel)
set_option maxRecDepth 100000 in
theorem liX5_moved : ∀ w ∈ wsX5_moved, w ∈ lw_tbl := lo_c (lo_1 3 238 (by first | rfl | decide +kernel)) (lo_a looX5_moved (lo_a liX50 (lo_a liX5_has (lo_a liX5_movedCorner liX5_lineOf))))
set_option maxRecDepth 100000 in
theorem looX5_leastTurned : ∀ w ∈ owX5_leastTurned, w ∈ lw_tbl := lo_in _ [(2, 24), (3, 114), (3, 115), (1, 18), (3, 116), (3, 235), (3, 237), (0, 20), (1, 11)] (by decide +kernel)
set_option maxRecDepth 100000 in
theorem liX5_leastTurned : ∀ w ∈ wsX5_leastTurned, w ∈ lw_tbl := lo_c (lo_1 3 234 (by first | rfl | decide +kernel)) (lo_a looX5_leastTurned (lo_a liX50 liX5_moved))
set_option maxRecDepth 100000 in
theorem looX5_leastAlike : ∀ w ∈ owX5_leastAlike, w ∈ lw_tbl := lo_in _ [(3, 231), (3, 233), (0, 19), (1, 11), (3, 235), (3, 237), (0, 20)] (by decide +kernel)
set_option maxRecDepth 100000 in
theorem liX5_leastAlike : ∀ w ∈ wsX5_leastAlike, w ∈ lw_tbl := lo_c (lo_1 3 230 (by first | rfl | decide +kernel)) (lo_a looX5_leastAlike (lo_a liX5_leastTurned liX5_moved))
set_option maxRecDepth 100000 in
theorem looX5_neverTurnsBelow : ∀ w ∈ owX5_neverTurnsBelow, w ∈ lw_tbl := lo_in _ [(2, 24), (3, 235), (3, 237), (0, 20), (1, 11)] (by decide +kernel)
set_option maxRecDepth 100000 in
theorem liX5_neverTurnsBelow : ∀ w ∈ wsX5_neverTurnsBelow, w ∈ lw_tbl := lo_c (lo_1 4 14 (by first | rfl | decide +kernel)) (lo_a looX5_neverTurnsBelow (lo_a liX50 liX5_moved))
set_option maxRecDepth 100000 in
theorem looX5_countKinds : ∀ w ∈ owX5_countKinds, w ∈ lw_tbl := lo_in _ [(2, 32), (2, 30), (4, 11), (4, 13), (0, 22), (1, 11), (3, 235), (3, 237), (0, 20)] (by decide +kernel)
set_option maxRecDepth 100000 in
theorem liX5_countKinds : ∀ w ∈ wsX5_countKinds, w ∈ lw_tbl := lo_c (lo_1 4 10 (by first | rfl | decide +kernel)) (lo_a looX5_countKinds (lo_a liX50 (lo_a liX5_neverTurnsBelow liX5_moved)))
set_option maxRecDepth 100000 in
theorem looX5_differenceFrom : ∀ w ∈ owX5_differenceFrom, w ∈ lw_tbl := lo_in _ [(2, 24), (3, 88), (3, 89), (1, 18), (3, 90), (3, 120), (3, 121), (3, 122), (1, 11)] (by decide +kernel)
set_option maxRecDepth 100000 in
theorem liX5_differenceFrom : ∀ w ∈ wsX5_differenceFrom, w ∈ lw_tbl := lo_c (lo_1 4 37 (by first | rfl | decide +kernel)) (lo_a looX5_differenceFrom (lo_a liX50 liX5_trianglesAt))
set_option maxRecDepth 100000 in
theorem looX5_nearestTo : ∀ w ∈ owX5_nearestTo, w ∈ lw_tbl := lo_in _ [(2, 32), (2, 30), (4, 33), (2, 53), (2, 54), (1, 11), (4, 34), (4, 35), (4, 36)] (by decide +kernel)
set_option maxRecDepth 100000 in
theorem liX5_nearestTo : ∀ w ∈ wsX5_nearestTo, w ∈ lw_tbl := lo_c (lo_1 4 32 (by first | rfl | decide +kernel)) (lo_a looX5_nearestTo (lo_a liX50 (lo_a liX5_cutAt liX5_differenceFrom)))
set_option maxRecDepth 100000 in
theorem looX5_greatestFrom : ∀ w ∈ owX5_greatestFrom, w ∈ lw_tbl := lo_in _ [(2, 24), (3, 117), (3, 118), (1, 18), (3, 119), (3, 120), (3, 121), (3, 122), (1, 11)] (by decide +kernel)
set_option maxRecDepth 100000 in
theorem liX5_greatestFrom : ∀ w ∈ wsX5_greatestFrom, w ∈ lw_tbl := lo_c (lo_1 4 105 (by first | rfl | decide +kernel)) (lo_a looX5_greatestFrom (lo_a liX50 liX5_trianglesAt))
set_option maxRecDepth 100000 in
theorem looX5_greatestIn : ∀ w ∈ owX5_greatestIn, w ∈ lw_tbl := lo_in _ [(2, 24), (4, 102), (4, 104), (0, 24), (1, 11)] (by decide +kernel)
set_option maxRecDepth 100000 in
theorem liX5_greatestIn : ∀ w ∈ wsX5_greatestIn, w ∈ lw_tbl := lo_c (lo_1 4 101 (by first | rfl | decide +kernel)) (lo_a looX5_greatestIn (lo_a liX50 liX5_greatestFrom))
set_option maxRecDepth 100000 in
theorem looX5_numberOfGreatest : ∀ w ∈ owX5_numberOfGreatest, w ∈ lw_tbl := lo_in _ [(2, 32), (2, 30), (4, 98), (4, 99), (4, 100), (1, 11)] (by decide +kernel)
set_option maxRecDepth 100000 in
theorem liX5_numberOfGreatest : ∀ w ∈ wsX5_numberOfGreatest, w ∈ lw_tbl := lo_c (lo_1 4 97 (by first | rfl | decide +kernel)) (lo_a looX5_numberOfGreatest (lo_a liX50 liX5_greatestIn))
set_option maxRecDepth 100000 in
theorem looX5_countWith : ∀ w ∈ owX5_countWith, w ∈ lw_tbl := lo_in _ [(2, 32), (2, 30), (4, 115), (3, 111), (3, 112), (1, 11)] (by decide +kernel)
set_option maxRecDepth 100000 in
theorem liX5_countWith : ∀ w ∈ wsX5_countWith, w ∈ lw_tbl := lo_c (lo_1 4 114 (by first | rfl | decide +kernel)) (lo_a looX5_countWith (lo_a liX50 liX5_entryOf))
set_option maxRecDepth 100000 in
theorem looX6_init : ∀ w ∈ owX6_init, w ∈ lw_tbl := lo_in _ [(1, 58), (1, 25), (1, 26), (1, 59), (1, 61)] (by decide +kernel)
set_option maxRecDepth 100000 in
theorem liX6_init : ∀ w ∈ wsX6_init, w ∈ lw_tbl := lo_c (lo_1 1 57 (by first | rfl | decide +kernel)) (lo_a looX6_init liX60)
set_option maxRecDepth 100000 in
theorem looX7_init : ∀ w ∈ owX7_init, w ∈ lw_tbl := lo_in _ [(1, 172), (1, 25), (1, 26), (1, 118), (1, 173), (1, 174), (1, 175), (1, 176), (1, 177), (1, 178), (1, 179), (1, 180), (1, 181)] (by decide +kernel)
set_option maxRecDepth 100000 in
theorem liX7_init : ∀ w ∈ wsX7_init, w ∈ lw_tbl := lo_c (lo_1 1 171 (by first | rfl | decide +kernel)) (lo_a looX7_init liX70)
set_option maxRecDepth 100000 in
theorem looX7_size : ∀ w ∈ owX7_size, w ∈ lw_tbl := lo_in _ [(1, 182)] (by decide +kernel)
set_option maxRecDepth 100000 in
theorem liX7_size : ∀ w ∈ wsX7_size, w ∈ lw_tbl := lo_c (lo_1 5 88 (by first | rfl | decide +kernel)) (lo_a looX7_size liX70)
set_option maxRecDepth 100000 in
theorem looX7_rights : ∀ w ∈ owX7_rights, w ∈ lw_tbl := lo_in _ [(1, 183)] (by decide +kernel)
set_option maxRecDepth 100000 in
theorem liX7_rights : ∀ w ∈ wsX7_rights, w ∈ lw_tbl := lo_c (lo_1 5 92 (by first | rfl | decide +kernel)) (lo_a looX7_rights liX70)
set_option maxRecDepth 100000 in
theorem looX7_wasSeenBefore : ∀ w ∈ owX7_wasSeenBefore, w ∈ lw_tbl := lo_in _ [(1, 173), (5, 16), (5, 18), (0, 28), (1, 9)] (by decide +kernel)
set_option maxRecDepth 100000 in
theorem liX7_wasSeenBefore : ∀ w ∈ wsX7_wasSeenBefore, w ∈ lw_tbl := lo_c (lo_1 5 15 (by first | rfl | decide +kernel)) (lo_a looX7_wasSeenBefore (lo_a liX70 liX7_has))
set_option maxRecDepth 100000 in
theorem looX7_canTell : ∀ w ∈ owX7_canTell, w ∈ lw_tbl := lo_in _ [(1, 184)] (by decide +kernel)
set_option maxRecDepth 100000 in
theorem liX7_canTell : ∀ w ∈ wsX7_canTell, w ∈ lw_tbl := lo_c (lo_1 5 0 (by first | rfl | decide +kernel)) (lo_a looX7_canTell liX70)
set_option maxRecDepth 100000 in
theorem looX7_forget : ∀ w ∈ owX7_forget, w ∈ lw_tbl := lo_in _ [(1, 182), (1, 183), (1, 184)] (by decide +kernel)
set_option maxRecDepth 100000 in
theorem liX7_forget : ∀ w ∈ wsX7_forget, w ∈ lw_tbl := lo_c (lo_1 3 37 (by first | rfl | decide +kernel)) (lo_a looX7_forget liX70)
set_option maxRecDepth 100000 in
theorem looX7_add : ∀ w ∈ owX7_add, w ∈ lw_tbl := lo_in _ [(1, 182), (1, 173), (1, 174), (1, 175), (1, 176), (1, 177), (1, 184)] (by decide +kernel)
set_option maxRecDepth 100000 in
theorem liX7_add : ∀ w ∈ wsX7_add, w ∈ lw_tbl := lo_c (lo_1 5 7 (by first | rfl | decide +kernel)) (lo_a looX7_add liX70)
set_option maxRecDepth 100000 in
theorem looX7_putRight : ∀ w ∈ owX7_putRight, w ∈ lw_tbl := lo_in _ [(1, 183), (1, 178), (1, 179), (1, 180), (1, 184), (1, 177), (5, 16), (5, 18), (0, 28), (1, 9)] (by decide +kernel)
set_option maxRecDepth 100000 in
theorem liX7_putRight : ∀ w ∈ wsX7_putRight, w ∈ lw_tbl := lo_c (lo_1 5 23 (by first | rfl | decide +kernel)) (lo_a looX7_putRight (lo_a liX70 liX7_has))
set_option maxRecDepth 100000 in
theorem looX8_init : ∀ w ∈ owX8_init, w ∈ lw_tbl := lo_in _ [(1, 32), (1, 25), (1, 26), (1, 52), (1, 33)] (by decide +kernel)
set_option maxRecDepth 100000 in
theorem liX8_init : ∀ w ∈ wsX8_init, w ∈ lw_tbl := lo_c (lo_1 1 31 (by first | rfl | decide +kernel)) (lo_a looX8_init liX80)
set_option maxRecDepth 100000 in
theorem looX8_size : ∀ w ∈ owX8_size, w ∈ lw_tbl := lo_in _ [(1, 34)] (by decide +kernel)
set_option maxRecDepth 100000 in
theorem liX8_size : ∀ w ∈ wsX8_size, w ∈ lw_tbl := lo_c (lo_1 2 115 (by first | rfl | decide +kernel)) (lo_a looX8_size liX80)
set_option maxRecDepth 100000 in
theorem looX8_hasRoomForTwenty : ∀ w ∈ owX8_hasRoomForTwenty, w ∈ lw_tbl := lo_in _ [(1, 34)] (by decide +kernel)
set_option maxRecDepth 100000 in
theorem liX8_hasRoomForTwenty : ∀ w ∈ wsX8_hasRoomForTwenty, w ∈ lw_tbl := lo_c (lo_1 2 107 (by first | rfl | decide +kernel)) (lo_a looX8_hasRoomForTwenty liX80)
set_option maxRecDepth 100000 in
theorem looX8_append : ∀ w ∈ owX8_append, w ∈ lw_tbl := lo_in _ [(1, 34), (1, 33)] (by decide +kernel)
set_option maxRecDepth 100000 in
theorem liX8_append : ∀ w ∈ wsX8_append, w ∈ lw_tbl := lo_c (lo_1 2 111 (by first | rfl | decide +kernel)) (lo_a looX8_append liX80)
set_option maxRecDepth 100000 in
theorem looX8_shorten : ∀ w ∈ owX8_shorten, w ∈ lw_tbl := lo_in _ [(1, 34)] (by decide +kernel)
set_option maxRecDepth 100000 in
theorem liX8_shorten : ∀ w ∈ wsX8_shorten, w ∈ lw_tbl := lo_c (lo_1 2 123 (by first | rfl | decide +kernel)) (lo_a looX8_shorten liX80)
set_option maxRecDepth 100000 in
theorem looX8_readNumbers : ∀ w ∈ owX8_readNumbers, w ∈ lw_tbl := lo_in _ [(1, 36), (1, 38), (4, 27), (2, 133), (2, 134), (1, 2), (4, 28), (2, 137), (2, 138)] (by decide +kernel)
set_option maxRecDepth 100000 in
theorem liX8_readNumbers : ∀ w ∈ wsX8_readNumbers, w ∈ lw_tbl := lo_c (lo_1 4 26 (by first | rfl | decide +kernel)) (lo_a looX8_readNumbers (lo_a liX80 (lo_a liX8_rewind liX8_readToken)))
set_option maxRecDepth 100000 in
theorem looX9_init : ∀ w ∈ owX9_init, w ∈ lw_tbl := lo_in _ [(1, 95), (1, 25), (1, 26), (1, 118), (1, 96), (1, 97)] (by decide +kernel)
set_option maxRecDepth 100000 in
theorem liX9_init : ∀ w ∈ wsX9_init, w ∈ lw_tbl := lo_c (lo_1 1 94 (by first | rfl | decide +kernel)) (lo_a looX9_init liX90)
set_option maxRecDepth 100000 in
theorem looX9_gatherOn : ∀ w ∈ owX9_gatherOn, w ∈ lw_tbl := lo_in _ [(1, 98), (1, 96), (3, 79), (2, 229), (2, 230), (1, 11), (3, 80), (3, 81), (3, 82)] (by decide +kernel)
set_option maxRecDepth 100000 in
theorem liX9_gatherOn : ∀ w ∈ wsX9_gatherOn, w ∈ lw_tbl := lo_c (lo_1 3 96 (by first | rfl | decide +kernel)) (lo_a looX9_gatherOn (lo_a liX90 (lo_a liX5_corners liX5_areJoined)))
set_option maxRecDepth 100000 in
theorem looX9_gather : ∀ w ∈ owX9_gather, w ∈ lw_tbl := lo_in _ [(1, 98), (3, 79), (2, 229), (2, 230), (1, 11), (3, 80), (3, 81), (3, 82), (3, 93), (3, 95), (0, 12), (1, 5)] (by decide +kernel)
set_option maxRecDepth 100000 in
theorem liX9_gather : ∀ w ∈ wsX9_gather, w ∈ lw_tbl := lo_c (lo_1 3 78 (by first | rfl | decide +kernel)) (lo_a looX9_gather (lo_a liX90 (lo_a liX5_corners (lo_a liX5_areJoined liX9_gatherOn))))
set_option maxRecDepth 100000 in
theorem looX9_cornerOf : ∀ w ∈ owX9_cornerOf, w ∈ lw_tbl := lo_in _ [(1, 98), (1, 96)] (by decide +kernel)
set_option maxRecDepth 100000 in
theorem liX9_cornerOf : ∀ w ∈ wsX9_cornerOf, w ∈ lw_tbl := lo_c (lo_1 3 100 (by first | rfl | decide +kernel)) (lo_a looX9_cornerOf liX90)
set_option maxRecDepth 100000 in
theorem looX9_touches : ∀ w ∈ owX9_touches, w ∈ lw_tbl := lo_in _ [(3, 150), (3, 98), (3, 99), (1, 5)] (by decide +kernel)
set_option maxRecDepth 100000 in
theorem liX9_touches : ∀ w ∈ wsX9_touches, w ∈ lw_tbl := lo_c (lo_1 3 149 (by first | rfl | decide +kernel)) (lo_a looX9_touches liX9_cornerOf)
set_option maxRecDepth 100000 in
theorem looX9_choose : ∀ w ∈ owX9_choose, w ∈ lw_tbl := lo_in _ [(1, 101), (1, 102), (1, 100), (1, 99), (1, 98), (1, 97), (3, 79), (2, 229), (2, 230), (1, 11), (3, 146), (3, 148), (0, 15), (1, 5), (3, 142), (3, 144), (0, 14)] (by decide +kernel)
set_option maxRecDepth 100000 in
theorem liX9_choose : ∀ w ∈ wsX9_choose, w ∈ lw_tbl := lo_c (lo_1 3 145 (by first | rfl | decide +kernel)) (lo_a looX9_choose (lo_a liX90 (lo_a liX5_corners liX9_touches)))
set_option maxRecDepth 100000 in
theorem looX9_onWay : ∀ w ∈ owX9_onWay, w ∈ lw_tbl := lo_in _ [(1, 99), (1, 100), (1, 101), (1, 102), (1, 97), (3, 141), (3, 134), (3, 135), (1, 11), (3, 142), (3, 144), (0, 14), (1, 5)] (by decide +kernel)
set_option maxRecDepth 100000 in
theorem liX9_onWay : ∀ w ∈ wsX9_onWay, w ∈ lw_tbl := lo_c (lo_1 3 140 (by first | rfl | decide +kernel)) (lo_a looX9_onWay (lo_a liX90 (lo_a liX5_ahead liX9_choose)))
set_option maxRecDepth 100000 in
theorem looX10_init : ∀ w ∈ owX10_init, w ∈ lw_tbl := lo_in _ [(1, 24), (1, 26), (1, 27), (1, 28), (1, 2), (2, 60), (1, 53), (1, 54), (1, 3), (2, 61), (1, 65), (1, 66), (1, 4), (2, 62), (1, 90), (1, 91), (1, 5), (2, 63), (1, 119), (1, 120), (1, 6), (2, 64), (1, 132), (1, 133), (1, 7), (2, 65), (1, 154), (1, 155), (1, 8), (2, 66), (1, 167), (1, 168), (1, 9), (2, 67), (1, 210), (1, 211), (1, 10), (2, 68), (2, 69), (2, 72), (2, 70), (2, 71), (1, 30), (1, 56), (1, 68), (1, 93), (1, 122), (1, 135), (1, 156), (1, 157), (1, 170), (1, 213), (1, 226), (1, 227), (1, 228), (1, 11), (2, 52), (2, 53), (2, 54)] (by decide +kernel)
set_option maxRecDepth 100000 in
theorem liX10_init : ∀ w ∈ wsX10_init, w ∈ lw_tbl := lo_c (lo_1 1 23 (by first | rfl | decide +kernel)) (lo_a looX10_init (lo_a liX80 (lo_a liX100 (lo_a liX60 (lo_a liX10 (lo_a liX90 (lo_a liX00 (lo_a liX40 (lo_a liX20 (lo_a liX70 (lo_a liX30 (lo_a liX8_init (lo_a liX6_init (lo_a liX1_init (lo_a liX9_init (lo_a liX0_init (lo_a liX4_init (lo_a liX2_init (lo_a liX7_init (lo_a liX3_init (lo_a liX6_withCorners liX5_cutAt)))))))))))))))))))))
set_option maxRecDepth 100000 in
theorem looX10_feed : ∀ w ∈ owX10_feed, w ∈ lw_tbl := lo_in _ [(2, 60), (2, 104), (2, 105), (2, 106), (1, 2), (2, 108), (2, 109), (2, 110), (2, 112), (2, 113), (2, 114)] (by decide +kernel)
set_option maxRecDepth 100000 in
theorem liX10_feed : ∀ w ∈ wsX10_feed, w ∈ lw_tbl := lo_c (lo_1 2 103 (by first | rfl | decide +kernel)) (lo_a looX10_feed (lo_a liX100 (lo_a liX8_hasRoomForTwenty (lo_a liX8_append liX8_size))))
set_option maxRecDepth 100000 in
theorem looX10_end : ∀ w ∈ owX10_end, w ∈ lw_tbl := lo_in _ [(2, 60), (2, 112), (2, 113), (2, 114), (1, 2), (2, 120), (2, 121), (2, 122)] (by decide +kernel)
set_option maxRecDepth 100000 in
theorem liX10_end : ∀ w ∈ wsX10_end, w ∈ lw_tbl := lo_c (lo_1 2 119 (by first | rfl | decide +kernel)) (lo_a looX10_end (lo_a liX100 (lo_a liX8_size liX8_shorten)))
set_option maxRecDepth 100000 in
theorem looX10_become : ∀ w ∈ owX10_become, w ∈ lw_tbl := lo_in _ [(2, 70), (2, 67), (2, 71), (3, 33), (2, 229), (2, 230), (1, 11), (3, 34), (3, 35), (3, 36), (1, 9)] (by decide +kernel)
set_option maxRecDepth 100000 in
theorem liX10_become : ∀ w ∈ wsX10_become, w ∈ lw_tbl := lo_c (lo_1 3 32 (by first | rfl | decide +kernel)) (lo_a looX10_become (lo_a liX100 (lo_a liX5_corners liX7_forget)))
set_option maxRecDepth 100000 in
theorem looX10_cut : ∀ w ∈ owX10_cut, w ∈ lw_tbl := lo_in _ [(2, 62), (2, 60), (2, 61), (2, 128), (2, 129), (2, 130), (1, 4), (1, 2), (1, 11), (2, 120), (2, 121), (2, 122), (3, 21), (3, 22), (3, 23), (3, 25), (3, 26), (3, 27), (3, 29), (3, 31), (0, 11), (1, 1), (3, 38), (3, 39), (3, 40)] (by decide +kernel)
set_option maxRecDepth 100000 in
theorem liX10_cut : ∀ w ∈ wsX10_cut, w ∈ lw_tbl := lo_c (lo_1 2 127 (by first | rfl | decide +kernel)) (lo_a looX10_cut (lo_a liX100 (lo_a liX1_understand (lo_a liX8_shorten (lo_a liX1_polygon (lo_a liX1_bits (lo_a liX10_become liX5_numberOf)))))))
set_option maxRecDepth 100000 in
theorem looX10_fault : ∀ w ∈ owX10_fault, w ∈ lw_tbl := lo_in _ [(2, 62), (3, 46), (3, 47), (3, 48), (1, 4), (3, 50), (3, 51), (3, 52)] (by decide +kernel)
set_option maxRecDepth 100000 in
theorem liX10_fault : ∀ w ∈ wsX10_fault, w ∈ lw_tbl := lo_c (lo_1 3 45 (by first | rfl | decide +kernel)) (lo_a looX10_fault (lo_a liX100 (lo_a liX1_faultKind liX1_faultPlace)))
set_option maxRecDepth 100000 in
theorem looX10_take : ∀ w ∈ owX10_take, w ∈ lw_tbl := lo_in _ [(2, 61), (1, 226), (1, 227), (1, 228), (1, 3), (1, 11), (3, 58), (2, 57), (2, 58), (2, 52), (2, 53), (2, 54), (3, 29), (3, 31), (0, 11), (1, 1)] (by decide +kernel)
set_option maxRecDepth 100000 in
theorem liX10_take : ∀ w ∈ wsX10_take, w ∈ lw_tbl := lo_c (lo_1 3 57 (by first | rfl | decide +kernel)) (lo_a looX10_take (lo_a liX100 (lo_a liX6_withCorners (lo_a liX5_hasCut (lo_a liX5_cutAt liX10_become)))))
set_option maxRecDepth 100000 in
theorem looX10_told : ∀ w ∈ owX10_told, w ∈ lw_tbl := lo_in _ [(2, 70), (2, 71), (2, 66), (3, 33), (2, 229), (2, 230), (1, 11), (3, 38), (3, 39), (3, 40), (3, 63), (3, 64), (3, 65), (3, 67), (3, 68), (3, 69), (1, 8)] (by decide +kernel)
set_option maxRecDepth 100000 in
theorem liX10_told : ∀ w ∈ wsX10_told, w ∈ lw_tbl := lo_c (lo_1 3 62 (by first | rfl | decide +kernel)) (lo_a looX10_told (lo_a liX100 (lo_a liX5_corners (lo_a liX5_numberOf (lo_a liX5_cutCount liX2_size)))))
set_option maxRecDepth 100000 in
theorem looX10_triangle : ∀ w ∈ owX10_triangle, w ∈ lw_tbl := lo_in _ [(2, 70), (2, 63), (2, 71), (3, 33), (2, 229), (2, 230), (1, 11), (3, 75), (3, 76), (3, 77), (1, 5), (3, 97), (3, 98), (3, 99)] (by decide +kernel)
set_option maxRecDepth 100000 in
theorem liX10_triangle : ∀ w ∈ wsX10_triangle, w ∈ lw_tbl := lo_c (lo_1 3 74 (by first | rfl | decide +kernel)) (lo_a looX10_triangle (lo_a liX100 (lo_a liX5_corners (lo_a liX9_gather liX9_cornerOf))))
set_option maxRecDepth 100000 in
theorem looX10_areCorners : ∀ w ∈ owX10_areCorners, w ∈ lw_tbl := lo_in _ [(2, 70), (3, 109), (2, 233), (2, 234), (1, 11)] (by decide +kernel)
set_option maxRecDepth 100000 in
theorem liX10_areCorners : ∀ w ∈ wsX10_areCorners, w ∈ lw_tbl := lo_c (lo_1 3 108 (by first | rfl | decide +kernel)) (lo_a looX10_areCorners (lo_a liX100 liX5_hasCorner))
set_option maxRecDepth 100000 in
theorem looX10_entry : ∀ w ∈ owX10_entry, w ∈ lw_tbl := lo_in _ [(2, 70), (2, 71), (3, 105), (3, 107), (0, 13), (1, 1), (1, 11), (3, 110), (3, 111), (3, 112)] (by decide +kernel)
set_option maxRecDepth 100000 in
theorem liX10_entry : ∀ w ∈ wsX10_entry, w ∈ lw_tbl := lo_c (lo_1 3 104 (by first | rfl | decide +kernel)) (lo_a looX10_entry (lo_a liX100 (lo_a liX10_areCorners liX5_entryOf)))
set_option maxRecDepth 100000 in
theorem looX10_row : ∀ w ∈ owX10_row, w ∈ lw_tbl := lo_in _ [(2, 70), (2, 71), (3, 109), (2, 233), (2, 234), (1, 11), (3, 128), (3, 121), (3, 122)] (by decide +kernel)
set_option maxRecDepth 100000 in
theorem liX10_row : ∀ w ∈ wsX10_row, w ∈ lw_tbl := lo_c (lo_1 3 127 (by first | rfl | decide +kernel)) (lo_a looX10_row (lo_a liX100 (lo_a liX5_hasCorner liX5_trianglesAt)))
set_option maxRecDepth 100000 in
theorem looX10_way : ∀ w ∈ owX10_way, w ∈ lw_tbl := lo_in _ [(2, 70), (2, 71), (2, 63), (3, 105), (3, 107), (0, 13), (1, 1), (3, 109), (2, 233), (2, 234), (1, 11), (3, 110), (3, 111), (3, 112), (3, 133), (3, 134), (3, 135), (3, 75), (3, 76), (3, 77), (1, 5), (3, 137), (3, 138), (3, 139)] (by decide +kernel)
set_option maxRecDepth 100000 in
theorem liX10_way : ∀ w ∈ wsX10_way, w ∈ lw_tbl := lo_c (lo_1 3 132 (by first | rfl | decide +kernel)) (lo_a looX10_way (lo_a liX100 (lo_a liX10_areCorners (lo_a liX5_hasCorner (lo_a liX5_entryOf (lo_a liX5_ahead (lo_a liX9_gather liX9_onWay)))))))
set_option maxRecDepth 100000 in
theorem looX10_flip : ∀ w ∈ owX10_flip, w ∈ lw_tbl := lo_in _ [(2, 70), (2, 71), (3, 105), (3, 107), (0, 13), (1, 1), (1, 11), (3, 155), (3, 1), (3, 2), (3, 156), (3, 6), (3, 7), (3, 157), (3, 158), (3, 159), (3, 161), (3, 162), (3, 163)] (by decide +kernel)
set_option maxRecDepth 100000 in
theorem liX10_flip : ∀ w ∈ wsX10_flip, w ∈ lw_tbl := lo_c (lo_1 3 154 (by first | rfl | decide +kernel)) (lo_a looX10_flip (lo_a liX100 (lo_a liX10_areCorners (lo_a liX5_lineOf (lo_a liX5_has (lo_a liX5_otherLine liX5_pairOf))))))
set_option maxRecDepth 100000 in
theorem looX10_fewest : ∀ w ∈ owX10_fewest, w ∈ lw_tbl := lo_in _ [(2, 70), (2, 65), (2, 71), (3, 58), (2, 57), (2, 58), (1, 11), (3, 38), (3, 39), (3, 40), (3, 169), (3, 170), (3, 171), (1, 7)] (by decide +kernel)
set_option maxRecDepth 100000 in
theorem liX10_fewest : ∀ w ∈ wsX10_fewest, w ∈ lw_tbl := lo_c (lo_1 3 168 (by first | rfl | decide +kernel)) (lo_a looX10_fewest (lo_a liX100 (lo_a liX5_hasCut (lo_a liX5_numberOf liX4_layWay))))
set_option maxRecDepth 100000 in
theorem looX10_passed : ∀ w ∈ owX10_passed, w ∈ lw_tbl := lo_in _ [(2, 65), (3, 204), (3, 205), (3, 206), (1, 7)] (by decide +kernel)
set_option maxRecDepth 100000 in
theorem liX10_passed : ∀ w ∈ wsX10_passed, w ∈ lw_tbl := lo_c (lo_1 3 203 (by first | rfl | decide +kernel)) (lo_a looX10_passed (lo_a liX100 liX4_onWay))
set_option maxRecDepth 100000 in
theorem looX10_farthest : ∀ w ∈ owX10_farthest, w ∈ lw_tbl := lo_in _ [(2, 65), (2, 70), (2, 71), (3, 38), (3, 39), (3, 40), (1, 11), (3, 212), (3, 174), (3, 175), (1, 7), (3, 213), (3, 214), (3, 215), (3, 219), (3, 220), (3, 221)] (by decide +kernel)
set_option maxRecDepth 100000 in
theorem liX10_farthest : ∀ w ∈ wsX10_farthest, w ∈ lw_tbl := lo_c (lo_1 3 211 (by first | rfl | decide +kernel)) (lo_a looX10_farthest (lo_a liX100 (lo_a liX5_numberOf (lo_a liX4_measure (lo_a liX4_mostSteps liX4_howManyAt)))))
set_option maxRecDepth 100000 in
theorem looX10_least : ∀ w ∈ owX10_least, w ∈ lw_tbl := lo_in _ [(2, 70), (2, 71), (3, 227), (3, 228), (3, 229), (1, 11), (3, 38), (3, 39), (3, 40)] (by decide +kernel)
set_option maxRecDepth 100000 in
theorem liX10_least : ∀ w ∈ wsX10_least, w ∈ lw_tbl := lo_c (lo_1 3 226 (by first | rfl | decide +kernel)) (lo_a looX10_least (lo_a liX100 (lo_a liX5_leastAlike liX5_numberOf)))
set_option maxRecDepth 100000 in
theorem looX10_kinds : ∀ w ∈ owX10_kinds, w ∈ lw_tbl := lo_in _ [(2, 61), (1, 226), (1, 227), (1, 228), (1, 3), (1, 11), (4, 7), (4, 8), (4, 9)] (by decide +kernel)
set_option maxRecDepth 100000 in
theorem liX10_kinds : ∀ w ∈ wsX10_kinds, w ∈ lw_tbl := lo_c (lo_1 4 6 (by first | rfl | decide +kernel)) (lo_a looX10_kinds (lo_a liX100 (lo_a liX6_withCorners liX5_countKinds)))
set_option maxRecDepth 100000 in
theorem looX10_takeRow : ∀ w ∈ owX10_takeRow, w ∈ lw_tbl := lo_in _ [(2, 60), (2, 69), (2, 70), (4, 23), (4, 24), (4, 25), (1, 2), (2, 120), (2, 121), (2, 122), (3, 33), (2, 229), (2, 230), (1, 11)] (by decide +kernel)
set_option maxRecDepth 100000 in
theorem liX10_takeRow : ∀ w ∈ wsX10_takeRow, w ∈ lw_tbl := lo_c (lo_1 4 22 (by first | rfl | decide +kernel)) (lo_a looX10_takeRow (lo_a liX100 (lo_a liX8_readNumbers (lo_a liX8_shorten liX5_corners))))
set_option maxRecDepth 100000 in
theorem looX10_read : ∀ w ∈ owX10_read, w ∈ lw_tbl := lo_in _ [(2, 70), (2, 69), (2, 71), (4, 19), (4, 21), (0, 23), (1, 1), (1, 11), (4, 29), (4, 30), (4, 31), (2, 53), (2, 54), (4, 35), (4, 36), (2, 52), (4, 38)] (by decide +kernel)
set_option maxRecDepth 100000 in
theorem liX10_read : ∀ w ∈ wsX10_read, w ∈ lw_tbl := lo_c (lo_1 4 18 (by first | rfl | decide +kernel)) (lo_a looX10_read (lo_a liX100 (lo_a liX10_takeRow (lo_a liX5_nearestTo (lo_a liX5_cutAt liX5_differenceFrom)))))
set_option maxRecDepth 100000 in
theorem looX10_mend : ∀ w ∈ owX10_mend, w ∈ lw_tbl := lo_in _ [(2, 70), (2, 69), (2, 72), (4, 19), (4, 21), (0, 23), (1, 1), (1, 11), (4, 29), (4, 30), (4, 31), (2, 53), (2, 54), (4, 35), (4, 36), (2, 52), (4, 38)] (by decide +kernel)
set_option maxRecDepth 100000 in
theorem liX10_mend : ∀ w ∈ wsX10_mend, w ∈ lw_tbl := lo_c (lo_1 4 42 (by first | rfl | decide +kernel)) (lo_a looX10_mend (lo_a liX100 (lo_a liX10_takeRow (lo_a liX5_nearestTo (lo_a liX5_cutAt liX5_differenceFrom)))))
set_option maxRecDepth 100000 in
theorem looX10_mended : ∀ w ∈ owX10_mended, w ∈ lw_tbl := lo_in _ [(2, 72)] (by decide +kernel)
set_option maxRecDepth 100000 in
theorem liX10_mended : ∀ w ∈ wsX10_mended, w ∈ lw_tbl := lo_c (lo_1 4 46 (by first | rfl | decide +kernel)) (lo_a looX10_mended liX100)
set_option maxRecDepth 100000 in
theorem looX10_crossed : ∀ w ∈ owX10_crossed, w ∈ lw_tbl := lo_in _ [(2, 64), (2, 70), (2, 71), (3, 105), (3, 107), (0, 13), (1, 1), (4, 51), (4, 52), (4, 53), (1, 6), (4, 73), (4, 74), (4, 75), (4, 77), (4, 78), (4, 79)] (by decide +kernel)
set_option maxRecDepth 100000 in
theorem liX10_crossed : ∀ w ∈ wsX10_crossed, w ∈ lw_tbl := lo_c (lo_1 4 50 (by first | rfl | decide +kernel)) (lo_a looX10_crossed (lo_a liX100 (lo_a liX10_areCorners (lo_a liX0_gather (lo_a liX0_size liX0_pairAt)))))
set_option maxRecDepth 100000 in
theorem looX10_side : ∀ w ∈ owX10_side, w ∈ lw_tbl := lo_in _ [(2, 64), (2, 70), (2, 71), (3, 105), (3, 107), (0, 13), (1, 1), (1, 11), (4, 51), (4, 52), (4, 53), (1, 6), (3, 134), (3, 135), (4, 86), (4, 87), (4, 88), (3, 133)] (by decide +kernel)
set_option maxRecDepth 100000 in
theorem liX10_side : ∀ w ∈ wsX10_side, w ∈ lw_tbl := lo_c (lo_1 4 85 (by first | rfl | decide +kernel)) (lo_a looX10_side (lo_a liX100 (lo_a liX10_areCorners (lo_a liX0_gather (lo_a liX0_sharedWithNext liX5_ahead)))))
set_option maxRecDepth 100000 in
theorem looX10_greatest : ∀ w ∈ owX10_greatest, w ∈ lw_tbl := lo_in _ [(2, 61), (1, 226), (1, 227), (1, 228), (1, 3), (1, 11), (4, 94), (4, 95), (4, 96), (4, 99), (4, 100), (2, 52), (2, 53), (2, 54), (4, 106)] (by decide +kernel)
set_option maxRecDepth 100000 in
theorem liX10_greatest : ∀ w ∈ wsX10_greatest, w ∈ lw_tbl := lo_c (lo_1 4 93 (by first | rfl | decide +kernel)) (lo_a looX10_greatest (lo_a liX100 (lo_a liX6_withCorners (lo_a liX5_numberOfGreatest (lo_a liX5_cutAt liX5_greatestIn)))))
set_option maxRecDepth 100000 in
theorem looX10_spread : ∀ w ∈ owX10_spread, w ∈ lw_tbl := lo_in _ [(2, 70), (3, 105), (3, 107), (0, 13), (1, 1), (1, 11), (4, 111), (4, 112), (4, 113)] (by decide +kernel)
set_option maxRecDepth 100000 in
theorem liX10_spread : ∀ w ∈ wsX10_spread, w ∈ lw_tbl := lo_c (lo_1 4 110 (by first | rfl | decide +kernel)) (lo_a looX10_spread (lo_a liX100 (lo_a liX10_areCorners liX5_countWith)))
set_option maxRecDepth 100000 in
theorem looX10_period : ∀ w ∈ owX10_period, w ∈ lw_tbl := lo_in _ [(2, 60), (2, 69), (2, 66), (4, 23), (4, 24), (4, 25), (1, 2), (2, 120), (2, 121), (2, 122), (4, 120), (4, 121), (4, 122), (1, 8), (4, 124), (4, 125), (4, 126)] (by decide +kernel)
set_option maxRecDepth 100000 in
theorem liX10_period : ∀ w ∈ wsX10_period, w ∈ lw_tbl := lo_c (lo_1 4 119 (by first | rfl | decide +kernel)) (lo_a looX10_period (lo_a liX100 (lo_a liX8_readNumbers (lo_a liX8_shorten (lo_a liX2_accepts liX2_become)))))
set_option maxRecDepth 100000 in
theorem looX10_ofCut : ∀ w ∈ owX10_ofCut, w ∈ lw_tbl := lo_in _ [(2, 70), (2, 69), (2, 71), (2, 66), (3, 33), (2, 229), (2, 230), (1, 11), (3, 128), (3, 121), (3, 122), (4, 124), (4, 125), (4, 126), (1, 8)] (by decide +kernel)
set_option maxRecDepth 100000 in
theorem liX10_ofCut : ∀ w ∈ wsX10_ofCut, w ∈ lw_tbl := lo_c (lo_1 4 132 (by first | rfl | decide +kernel)) (lo_a looX10_ofCut (lo_a liX100 (lo_a liX5_corners (lo_a liX5_trianglesAt liX2_become))))
set_option maxRecDepth 100000 in
theorem looX10_of : ∀ w ∈ owX10_of, w ∈ lw_tbl := lo_in _ [(2, 66), (4, 137), (4, 138), (4, 139), (1, 8), (4, 141), (4, 142), (4, 143)] (by decide +kernel)
set_option maxRecDepth 100000 in
theorem liX10_of : ∀ w ∈ wsX10_of, w ∈ lw_tbl := lo_c (lo_1 4 136 (by first | rfl | decide +kernel)) (lo_a looX10_of (lo_a liX100 (lo_a liX2_hasPlace liX2_at)))
set_option maxRecDepth 100000 in
theorem looX10_along : ∀ w ∈ owX10_along, w ∈ lw_tbl := lo_in _ [(2, 66), (4, 156), (4, 137), (4, 138), (4, 139), (1, 8), (4, 157), (4, 158), (4, 159)] (by decide +kernel)
set_option maxRecDepth 100000 in
theorem liX10_along : ∀ w ∈ wsX10_along, w ∈ lw_tbl := lo_c (lo_1 4 155 (by first | rfl | decide +kernel)) (lo_a looX10_along (lo_a liX100 (lo_a liX2_hasPlace liX2_entryAt)))
set_option maxRecDepth 100000 in
theorem looX10_breaks : ∀ w ∈ owX10_breaks, w ∈ lw_tbl := lo_in _ [(2, 66), (4, 166), (4, 167), (4, 168), (1, 8), (4, 171), (4, 172), (4, 175), (4, 176), (4, 177), (4, 178)] (by decide +kernel)
set_option maxRecDepth 100000 in
theorem liX10_breaks : ∀ w ∈ wsX10_breaks, w ∈ lw_tbl := lo_c (lo_1 4 165 (by first | rfl | decide +kernel)) (lo_a looX10_breaks (lo_a liX100 (lo_a liX2_breakLength (lo_a liX2_breakPlace liX2_comesBack))))
set_option maxRecDepth 100000 in
theorem looX10_growth : ∀ w ∈ owX10_growth, w ∈ lw_tbl := lo_in _ [(2, 66), (4, 189), (4, 190), (4, 191), (1, 8)] (by decide +kernel)
set_option maxRecDepth 100000 in
theorem liX10_growth : ∀ w ∈ wsX10_growth, w ∈ lw_tbl := lo_c (lo_1 4 188 (by first | rfl | decide +kernel)) (lo_a looX10_growth (lo_a liX100 liX2_growthOfRound))
set_option maxRecDepth 100000 in
theorem looX10_glue : ∀ w ∈ owX10_glue, w ∈ lw_tbl := lo_in _ [(2, 66), (4, 137), (4, 138), (4, 139), (1, 8), (4, 197), (4, 198), (4, 199), (4, 201), (4, 202), (4, 203)] (by decide +kernel)
set_option maxRecDepth 100000 in
theorem liX10_glue : ∀ w ∈ wsX10_glue, w ∈ lw_tbl := lo_c (lo_1 4 196 (by first | rfl | decide +kernel)) (lo_a looX10_glue (lo_a liX100 (lo_a liX2_hasPlace (lo_a liX2_canGlue liX2_glueBehind))))
set_option maxRecDepth 100000 in
theorem looX10_cutOff : ∀ w ∈ owX10_cutOff, w ∈ lw_tbl := lo_in _ [(2, 66), (4, 137), (4, 138), (4, 139), (1, 8), (4, 211), (4, 212), (4, 213), (4, 215), (4, 216), (4, 217)] (by decide +kernel)
set_option maxRecDepth 100000 in
theorem liX10_cutOff : ∀ w ∈ wsX10_cutOff, w ∈ lw_tbl := lo_c (lo_1 4 210 (by first | rfl | decide +kernel)) (lo_a looX10_cutOff (lo_a liX100 (lo_a liX2_hasPlace (lo_a liX2_canLose liX2_lose))))
set_option maxRecDepth 100000 in
theorem looX10_core : ∀ w ∈ owX10_core, w ∈ lw_tbl := lo_in _ [(2, 66), (4, 224), (4, 225), (4, 226), (1, 8)] (by decide +kernel)
set_option maxRecDepth 100000 in
theorem liX10_core : ∀ w ∈ wsX10_core, w ∈ lw_tbl := lo_c (lo_1 4 223 (by first | rfl | decide +kernel)) (lo_a looX10_core (lo_a liX100 liX2_loseAll))
set_option maxRecDepth 100000 in
theorem looX10_isValue : ∀ w ∈ owX10_isValue, w ∈ lw_tbl := lo_in _ [] (by decide +kernel)
set_option maxRecDepth 100000 in
theorem liX10_isValue : ∀ w ∈ wsX10_isValue, w ∈ lw_tbl := lo_c (lo_1 5 3 (by first | rfl | decide +kernel)) looX10_isValue
set_option maxRecDepth 100000 in
theorem looX10_see : ∀ w ∈ owX10_see, w ∈ lw_tbl := lo_in _ [(2, 67), (4, 237), (4, 238), (4, 239), (1, 9), (3, 105), (3, 107), (0, 13), (1, 1), (5, 1), (5, 2), (5, 4), (5, 5), (5, 6)] (by decide +kernel)
set_option maxRecDepth 100000 in
theorem liX10_see : ∀ w ∈ wsX10_see, w ∈ lw_tbl := lo_c (lo_1 4 236 (by first | rfl | decide +kernel)) (lo_a looX10_see (lo_a liX100 (lo_a liX7_canTell (lo_a liX10_areCorners (lo_a liX10_isValue liX7_add)))))
set_option maxRecDepth 100000 in
theorem looX10_right : ∀ w ∈ owX10_right, w ∈ lw_tbl := lo_in _ [(2, 67), (4, 237), (4, 238), (4, 239), (1, 9), (5, 12), (5, 13), (5, 14), (5, 1), (5, 2), (1, 1), (5, 20), (5, 21), (5, 22)] (by decide +kernel)
set_option maxRecDepth 100000 in
theorem liX10_right : ∀ w ∈ wsX10_right, w ∈ lw_tbl := lo_c (lo_1 5 11 (by first | rfl | decide +kernel)) (lo_a looX10_right (lo_a liX100 (lo_a liX7_canTell (lo_a liX7_wasSeenBefore (lo_a liX10_isValue liX7_putRight)))))
set_option maxRecDepth 100000 in
theorem looX10_isStep : ∀ w ∈ owX10_isStep, w ∈ lw_tbl := lo_in _ [] (by decide +kernel)
set_option maxRecDepth 100000 in
theorem liX10_isStep : ∀ w ∈ wsX10_isStep, w ∈ lw_tbl := lo_c (lo_1 5 30 (by first | rfl | decide +kernel)) looX10_isStep
set_option maxRecDepth 100000 in
theorem looX10_fit : ∀ w ∈ owX10_fit, w ∈ lw_tbl := lo_in _ [(2, 68), (2, 70), (2, 67), (5, 28), (5, 29), (1, 1), (5, 31), (5, 32), (5, 33), (1, 10), (5, 46), (5, 47), (5, 48), (5, 50), (5, 51), (5, 52)] (by decide +kernel)
set_option maxRecDepth 100000 in
theorem liX10_fit : ∀ w ∈ wsX10_fit, w ∈ lw_tbl := lo_c (lo_1 5 27 (by first | rfl | decide +kernel)) (lo_a looX10_fit (lo_a liX100 (lo_a liX10_isStep (lo_a liX3_gather (lo_a liX3_size liX3_leastNumber)))))
set_option maxRecDepth 100000 in
theorem looX10_surely : ∀ w ∈ owX10_surely, w ∈ lw_tbl := lo_in _ [(2, 70), (2, 68), (2, 67), (5, 28), (5, 29), (1, 1), (3, 105), (3, 107), (0, 13), (1, 11), (3, 155), (3, 1), (3, 2), (5, 31), (5, 32), (5, 33), (1, 10), (5, 58), (5, 59), (5, 60)] (by decide +kernel)
set_option maxRecDepth 100000 in
theorem liX10_surely : ∀ w ∈ wsX10_surely, w ∈ lw_tbl := lo_c (lo_1 5 57 (by first | rfl | decide +kernel)) (lo_a looX10_surely (lo_a liX100 (lo_a liX10_isStep (lo_a liX10_areCorners (lo_a liX5_lineOf (lo_a liX3_gather liX3_howSure))))))
set_option maxRecDepth 100000 in
theorem looX10_ask : ∀ w ∈ owX10_ask, w ∈ lw_tbl := lo_in _ [(2, 68), (2, 70), (2, 67), (5, 28), (5, 29), (1, 1), (5, 31), (5, 32), (5, 33), (1, 10), (5, 67), (5, 68), (5, 69)] (by decide +kernel)
set_option maxRecDepth 100000 in
theorem liX10_ask : ∀ w ∈ wsX10_ask, w ∈ lw_tbl := lo_c (lo_1 5 66 (by first | rfl | decide +kernel)) (lo_a looX10_ask (lo_a liX100 (lo_a liX10_isStep (lo_a liX3_gather liX3_bestQuestion))))
set_option maxRecDepth 100000 in
theorem looX10_count : ∀ w ∈ owX10_count, w ∈ lw_tbl := lo_in _ [(2, 67), (2, 60), (5, 85), (5, 86), (5, 87), (1, 9), (5, 89), (5, 90), (5, 91), (2, 112), (2, 113), (2, 114), (1, 2)] (by decide +kernel)
set_option maxRecDepth 100000 in
theorem liX10_count : ∀ w ∈ wsX10_count, w ∈ lw_tbl := lo_c (lo_1 5 84 (by first | rfl | decide +kernel)) (lo_a looX10_count (lo_a liX100 (lo_a liX7_size (lo_a liX7_rights liX8_size))))
set_option maxRecDepth 100000 in
theorem looX11_isNext : ∀ w ∈ owX11_isNext, w ∈ lw_tbl := lo_in _ [] (by decide +kernel)
set_option maxRecDepth 100000 in
theorem liX11_isNext : ∀ w ∈ wsX11_isNext, w ∈ lw_tbl := lo_c (lo_1 5 112 (by first | rfl | decide +kernel)) looX11_isNext
end
