set_option maxRecDepth 100000 in
theorem looX0_init : ∀ w ∈ owX0_init, w ∈ lw_tbl := lo_in _ [(1, 124), (1, 25), (1, 26), (1, 118), (1, 125)] (by decide +kernel)
set_option maxRecDepth 100000 in
theorem liX0_init : ∀ w ∈ wsX0_init, w ∈ lw_tbl := lo_c (lo_1 1 123 (by first | rfl | decide +kernel)) (lo_a looX0_init liX00)
set_option maxRecDepth 100000 in
theorem looX0_size : ∀ w ∈ owX0_size, w ∈ lw_tbl := lo_in _ [(1, 126)] (by decide +kernel)
set_option maxRecDepth 100000 in
theorem liX0_size : ∀ w ∈ wsX0_size, w ∈ lw_tbl := lo_c (lo_1 4 76 (by first | rfl | decide +kernel)) (lo_a looX0_size liX00)
set_option maxRecDepth 100000 in
theorem looX5_hasCorner : ∀ w ∈ owX5_hasCorner, w ∈ lw_tbl := lo_in _ [(2, 24)] (by decide +kernel)
set_option maxRecDepth 100000 in
theorem liX5_hasCorner : ∀ w ∈ wsX5_hasCorner, w ∈ lw_tbl := lo_c (lo_1 2 235 (by first | rfl | decide +kernel)) (lo_a looX5_hasCorner liX50)
set_option maxRecDepth 100000 in
theorem looX5_lineOf : ∀ w ∈ owX5_lineOf, w ∈ lw_tbl := lo_in _ [(2, 27), (3, 4), (2, 233), (2, 234), (1, 11)] (by decide +kernel)
set_option maxRecDepth 100000 in
theorem liX5_lineOf : ∀ w ∈ wsX5_lineOf, w ∈ lw_tbl := lo_c (lo_1 3 3 (by first | rfl | decide +kernel)) (lo_a looX5_lineOf (lo_a liX50 liX5_hasCorner))
set_option maxRecDepth 100000 in
theorem looX5_hasLine : ∀ w ∈ owX5_hasLine, w ∈ lw_tbl := lo_in _ [(2, 31)] (by decide +kernel)
set_option maxRecDepth 100000 in
theorem liX5_hasLine : ∀ w ∈ wsX5_hasLine, w ∈ lw_tbl := lo_c (lo_1 3 12 (by first | rfl | decide +kernel)) (lo_a looX5_hasLine liX50)
set_option maxRecDepth 100000 in
theorem looX5_crossersOf : ∀ w ∈ owX5_crossersOf, w ∈ lw_tbl := lo_in _ [(2, 28), (3, 9), (3, 11), (0, 10), (1, 11)] (by decide +kernel)
set_option maxRecDepth 100000 in
theorem liX5_crossersOf : ∀ w ∈ wsX5_crossersOf, w ∈ lw_tbl := lo_c (lo_1 3 16 (by first | rfl | decide +kernel)) (lo_a looX5_crossersOf (lo_a liX50 liX5_hasLine))
set_option maxRecDepth 100000 in
theorem looX5_corners : ∀ w ∈ owX5_corners, w ∈ lw_tbl := lo_in _ [(2, 24)] (by decide +kernel)
set_option maxRecDepth 100000 in
theorem liX5_corners : ∀ w ∈ wsX5_corners, w ∈ lw_tbl := lo_c (lo_1 2 231 (by first | rfl | decide +kernel)) (lo_a looX5_corners liX50)
set_option maxRecDepth 100000 in
theorem looX5_lineCount : ∀ w ∈ owX5_lineCount, w ∈ lw_tbl := lo_in _ [(2, 31)] (by decide +kernel)
set_option maxRecDepth 100000 in
theorem liX5_lineCount : ∀ w ∈ wsX5_lineCount, w ∈ lw_tbl := lo_c (lo_1 3 185 (by first | rfl | decide +kernel)) (lo_a looX5_lineCount liX50)
set_option maxRecDepth 100000 in
theorem looX5_has : ∀ w ∈ owX5_has, w ∈ lw_tbl := lo_in _ [(3, 9), (3, 11), (0, 10), (1, 11)] (by decide +kernel)
set_option maxRecDepth 100000 in
theorem liX5_has : ∀ w ∈ wsX5_has, w ∈ lw_tbl := lo_c (lo_1 3 8 (by first | rfl | decide +kernel)) (lo_a looX5_has liX5_hasLine)
set_option maxRecDepth 100000 in
theorem looX5_lesserOf : ∀ w ∈ owX5_lesserOf, w ∈ lw_tbl := lo_in _ [(2, 25), (3, 9), (3, 11), (0, 10), (1, 11)] (by decide +kernel)
set_option maxRecDepth 100000 in
theorem liX5_lesserOf : ∀ w ∈ wsX5_lesserOf, w ∈ lw_tbl := lo_c (lo_1 4 66 (by first | rfl | decide +kernel)) (lo_a looX5_lesserOf (lo_a liX50 liX5_hasLine))
set_option maxRecDepth 100000 in
theorem looX5_ahead : ∀ w ∈ owX5_ahead, w ∈ lw_tbl := lo_in _ [(2, 24)] (by decide +kernel)
set_option maxRecDepth 100000 in
theorem liX5_ahead : ∀ w ∈ wsX5_ahead, w ∈ lw_tbl := lo_c (lo_1 3 136 (by first | rfl | decide +kernel)) (lo_a looX5_ahead liX50)
set_option maxRecDepth 100000 in
theorem looX5_greaterOf : ∀ w ∈ owX5_greaterOf, w ∈ lw_tbl := lo_in _ [(2, 26), (3, 9), (3, 11), (0, 10), (1, 11)] (by decide +kernel)
set_option maxRecDepth 100000 in
theorem liX5_greaterOf : ∀ w ∈ wsX5_greaterOf, w ∈ lw_tbl := lo_c (lo_1 4 71 (by first | rfl | decide +kernel)) (lo_a looX5_greaterOf (lo_a liX50 liX5_hasLine))
set_option maxRecDepth 100000 in
theorem looX0_spanFrom : ∀ w ∈ owX0_spanFrom, w ∈ lw_tbl := lo_in _ [(4, 72), (3, 89), (1, 18), (3, 90), (4, 63), (4, 64), (4, 65), (1, 11), (4, 67), (3, 134), (3, 135), (4, 68), (4, 69), (4, 70)] (by decide +kernel)
set_option maxRecDepth 100000 in
theorem liX0_spanFrom : ∀ w ∈ wsX0_spanFrom, w ∈ lw_tbl := lo_c (lo_1 4 62 (by first | rfl | decide +kernel)) (lo_a looX0_spanFrom (lo_a liX5_lesserOf (lo_a liX5_ahead liX5_greaterOf)))
set_option maxRecDepth 100000 in
theorem looX0_gather : ∀ w ∈ owX0_gather, w ∈ lw_tbl := lo_in _ [(1, 126), (1, 125), (4, 55), (3, 1), (3, 2), (1, 11), (4, 56), (3, 14), (3, 15), (4, 57), (2, 229), (2, 230), (4, 58), (3, 183), (3, 184), (4, 59), (3, 6), (3, 7), (4, 60), (4, 61), (1, 6)] (by decide +kernel)
set_option maxRecDepth 100000 in
theorem liX0_gather : ∀ w ∈ wsX0_gather, w ∈ lw_tbl := lo_c (lo_1 4 54 (by first | rfl | decide +kernel)) (lo_a looX0_gather (lo_a liX00 (lo_a liX5_lineOf (lo_a liX5_crossersOf (lo_a liX5_corners (lo_a liX5_lineCount (lo_a liX5_has liX0_spanFrom)))))))
set_option maxRecDepth 100000 in
theorem looX5_pairOf : ∀ w ∈ owX5_pairOf, w ∈ lw_tbl := lo_in _ [(2, 25), (2, 26), (3, 9), (3, 11), (0, 10), (1, 11)] (by decide +kernel)
set_option maxRecDepth 100000 in
theorem liX5_pairOf : ∀ w ∈ wsX5_pairOf, w ∈ lw_tbl := lo_c (lo_1 3 164 (by first | rfl | decide +kernel)) (lo_a looX5_pairOf (lo_a liX50 liX5_hasLine))
set_option maxRecDepth 100000 in
theorem looX0_pairAt : ∀ w ∈ owX0_pairAt, w ∈ lw_tbl := lo_in _ [(1, 126), (1, 125), (4, 81), (3, 162), (3, 163), (1, 11)] (by decide +kernel)
set_option maxRecDepth 100000 in
theorem liX0_pairAt : ∀ w ∈ wsX0_pairAt, w ∈ lw_tbl := lo_c (lo_1 4 80 (by first | rfl | decide +kernel)) (lo_a looX0_pairAt (lo_a liX00 liX5_pairOf))
set_option maxRecDepth 100000 in
theorem looX0_sharedWithNext : ∀ w ∈ owX0_sharedWithNext, w ∈ lw_tbl := lo_in _ [(1, 126), (1, 125), (4, 63), (4, 64), (4, 65), (1, 11), (4, 68), (4, 69), (4, 70)] (by decide +kernel)
set_option maxRecDepth 100000 in
theorem liX0_sharedWithNext : ∀ w ∈ wsX0_sharedWithNext, w ∈ lw_tbl := lo_c (lo_1 4 89 (by first | rfl | decide +kernel)) (lo_a looX0_sharedWithNext (lo_a liX00 (lo_a liX5_lesserOf liX5_greaterOf)))
set_option maxRecDepth 100000 in
theorem looX1_init : ∀ w ∈ owX1_init, w ∈ lw_tbl := lo_in _ [(1, 70), (1, 25), (1, 26), (1, 72)] (by decide +kernel)
set_option maxRecDepth 100000 in
theorem liX1_init : ∀ w ∈ wsX1_init, w ∈ lw_tbl := lo_c (lo_1 1 69 (by first | rfl | decide +kernel)) (lo_a looX1_init liX10)
set_option maxRecDepth 100000 in
theorem looX1_faultKind : ∀ w ∈ owX1_faultKind, w ∈ lw_tbl := lo_in _ [(1, 71)] (by decide +kernel)
set_option maxRecDepth 100000 in
theorem liX1_faultKind : ∀ w ∈ wsX1_faultKind, w ∈ lw_tbl := lo_c (lo_1 3 49 (by first | rfl | decide +kernel)) (lo_a looX1_faultKind liX10)
set_option maxRecDepth 100000 in
theorem looX1_faultPlace : ∀ w ∈ owX1_faultPlace, w ∈ lw_tbl := lo_in _ [(1, 72)] (by decide +kernel)
set_option maxRecDepth 100000 in
theorem liX1_faultPlace : ∀ w ∈ wsX1_faultPlace, w ∈ lw_tbl := lo_c (lo_1 3 53 (by first | rfl | decide +kernel)) (lo_a looX1_faultPlace liX10)
set_option maxRecDepth 100000 in
theorem looX1_polygon : ∀ w ∈ owX1_polygon, w ∈ lw_tbl := lo_in _ [(1, 75)] (by decide +kernel)
set_option maxRecDepth 100000 in
theorem liX1_polygon : ∀ w ∈ wsX1_polygon, w ∈ lw_tbl := lo_c (lo_1 3 24 (by first | rfl | decide +kernel)) (lo_a looX1_polygon liX10)
set_option maxRecDepth 100000 in
theorem looX1_bits : ∀ w ∈ owX1_bits, w ∈ lw_tbl := lo_in _ [(1, 76)] (by decide +kernel)
set_option maxRecDepth 100000 in
theorem liX1_bits : ∀ w ∈ wsX1_bits, w ∈ lw_tbl := lo_c (lo_1 3 28 (by first | rfl | decide +kernel)) (lo_a looX1_bits liX10)
set_option maxRecDepth 100000 in
theorem looX8_rewind : ∀ w ∈ owX8_rewind, w ∈ lw_tbl := lo_in _ [(1, 35)] (by decide +kernel)
set_option maxRecDepth 100000 in
theorem liX8_rewind : ∀ w ∈ wsX8_rewind, w ∈ lw_tbl := lo_c (lo_1 2 135 (by first | rfl | decide +kernel)) (lo_a looX8_rewind liX80)
set_option maxRecDepth 100000 in
theorem looX8_isBlank : ∀ w ∈ owX8_isBlank, w ∈ lw_tbl := lo_in _ [] (by decide +kernel)
set_option maxRecDepth 100000 in
theorem liX8_isBlank : ∀ w ∈ wsX8_isBlank, w ∈ lw_tbl := lo_c (lo_1 2 142 (by first | rfl | decide +kernel)) looX8_isBlank
set_option maxRecDepth 100000 in
theorem looX8_isLetter : ∀ w ∈ owX8_isLetter, w ∈ lw_tbl := lo_in _ [] (by decide +kernel)
set_option maxRecDepth 100000 in
theorem liX8_isLetter : ∀ w ∈ wsX8_isLetter, w ∈ lw_tbl := lo_c (lo_1 2 145 (by first | rfl | decide +kernel)) looX8_isLetter
set_option maxRecDepth 100000 in
theorem looX8_readWord : ∀ w ∈ owX8_readWord, w ∈ lw_tbl := lo_in _ [(1, 35), (1, 34), (1, 33), (1, 37), (1, 36), (2, 143), (2, 144), (1, 2)] (by decide +kernel)
set_option maxRecDepth 100000 in
theorem liX8_readWord : ∀ w ∈ wsX8_readWord, w ∈ lw_tbl := lo_c (lo_1 2 149 (by first | rfl | decide +kernel)) (lo_a looX8_readWord (lo_a liX80 liX8_isLetter))
set_option maxRecDepth 100000 in
theorem looX8_isDigit : ∀ w ∈ owX8_isDigit, w ∈ lw_tbl := lo_in _ [] (by decide +kernel)
set_option maxRecDepth 100000 in
theorem liX8_isDigit : ∀ w ∈ wsX8_isDigit, w ∈ lw_tbl := lo_c (lo_1 2 152 (by first | rfl | decide +kernel)) looX8_isDigit
set_option maxRecDepth 100000 in
theorem looX8_readNumber : ∀ w ∈ owX8_readNumber, w ∈ lw_tbl := lo_in _ [(1, 35), (1, 34), (1, 33), (1, 38), (1, 37), (1, 36), (2, 150), (2, 151), (1, 2)] (by decide +kernel)
set_option maxRecDepth 100000 in
theorem liX8_readNumber : ∀ w ∈ wsX8_readNumber, w ∈ lw_tbl := lo_c (lo_1 2 156 (by first | rfl | decide +kernel)) (lo_a looX8_readNumber (lo_a liX80 liX8_isDigit))
set_option maxRecDepth 100000 in
theorem looX8_readToken : ∀ w ∈ owX8_readToken, w ∈ lw_tbl := lo_in _ [(1, 35), (1, 34), (1, 33), (1, 37), (1, 38), (1, 36), (2, 140), (2, 141), (1, 2), (2, 143), (2, 144), (2, 146), (2, 148), (0, 5), (2, 150), (2, 151), (2, 153), (2, 155), (0, 6)] (by decide +kernel)
set_option maxRecDepth 100000 in
theorem liX8_readToken : ∀ w ∈ wsX8_readToken, w ∈ lw_tbl := lo_c (lo_1 2 139 (by first | rfl | decide +kernel)) (lo_a looX8_readToken (lo_a liX80 (lo_a liX8_isBlank (lo_a liX8_isLetter (lo_a liX8_readWord (lo_a liX8_isDigit liX8_readNumber))))))
set_option maxRecDepth 100000 in
theorem looJ0_coder_7d493 : ∀ w ∈ owJ0_coder_7d493, w ∈ lw_tbl := lo_in _ [(2, 174), (7, 99)] (by decide +kernel)
set_option maxRecDepth 100000 in
theorem liJ0_coder_7d493 : ∀ w ∈ wsJ0_coder_7d493, w ∈ lw_tbl := lo_c (lo_1 2 173 (by first | rfl | decide +kernel)) looJ0_coder_7d493
set_option maxRecDepth 100000 in
theorem looJ0_length_8abf5 : ∀ w ∈ owJ0_length_8abf5, w ∈ lw_tbl := lo_in _ [(7, 98), (2, 170), (2, 171), (2, 172), (1, 14)] (by decide +kernel)
set_option maxRecDepth 100000 in
theorem liJ0_length_8abf5 : ∀ w ∈ wsJ0_length_8abf5, w ∈ lw_tbl := lo_c (lo_1 2 169 (by first | rfl | decide +kernel)) (lo_a looJ0_length_8abf5 liJ0_coder_7d493)
set_option maxRecDepth 100000 in
theorem looJ0_isLatin1_aae02 : ∀ w ∈ owJ0_isLatin1_aae02, w ∈ lw_tbl := lo_in _ [(2, 174), (7, 99)] (by decide +kernel)
set_option maxRecDepth 100000 in
theorem liJ0_isLatin1_aae02 : ∀ w ∈ wsJ0_isLatin1_aae02, w ∈ lw_tbl := lo_c (lo_1 2 183 (by first | rfl | decide +kernel)) looJ0_isLatin1_aae02
set_option maxRecDepth 100000 in
theorem looJ3_checkIndex_8e157 : ∀ w ∈ owJ3_checkIndex_8e157, w ∈ lw_tbl := lo_in _ [] (by decide +kernel)
set_option maxRecDepth 100000 in
theorem liJ3_checkIndex_8e157 : ∀ w ∈ wsJ3_checkIndex_8e157, w ∈ lw_tbl := lo_c (lo_1 2 194 (by first | rfl | decide +kernel)) looJ3_checkIndex_8e157
set_option maxRecDepth 100000 in
theorem looJ0_checkIndex_df160 : ∀ w ∈ owJ0_checkIndex_df160, w ∈ lw_tbl := lo_in _ [(2, 190), (2, 192), (2, 193), (1, 16)] (by decide +kernel)
set_option maxRecDepth 100000 in
theorem liJ0_checkIndex_df160 : ∀ w ∈ wsJ0_checkIndex_df160, w ∈ lw_tbl := lo_c (lo_1 2 189 (by first | rfl | decide +kernel)) (lo_a looJ0_checkIndex_df160 liJ3_checkIndex_8e157)
set_option maxRecDepth 100000 in
theorem looJ1_charAt_3b067 : ∀ w ∈ owJ1_charAt_3b067, w ∈ lw_tbl := lo_in _ [(2, 187), (2, 188), (1, 14)] (by decide +kernel)
set_option maxRecDepth 100000 in
theorem liJ1_charAt_3b067 : ∀ w ∈ wsJ1_charAt_3b067, w ∈ lw_tbl := lo_c (lo_1 2 186 (by first | rfl | decide +kernel)) (lo_a looJ1_charAt_3b067 liJ0_checkIndex_df160)
set_option maxRecDepth 100000 in
theorem looJ2_length_9d52b : ∀ w ∈ owJ2_length_9d52b, w ∈ lw_tbl := lo_in _ [] (by decide +kernel)
set_option maxRecDepth 100000 in
theorem liJ2_length_9d52b : ∀ w ∈ wsJ2_length_9d52b, w ∈ lw_tbl := lo_c (lo_1 2 203 (by first | rfl | decide +kernel)) looJ2_length_9d52b
set_option maxRecDepth 100000 in
theorem looJ2_checkIndex_2214a : ∀ w ∈ owJ2_checkIndex_2214a, w ∈ lw_tbl := lo_in _ [(2, 201), (2, 202), (1, 17), (2, 204), (2, 188), (1, 14)] (by decide +kernel)
set_option maxRecDepth 100000 in
theorem liJ2_checkIndex_2214a : ∀ w ∈ wsJ2_checkIndex_2214a, w ∈ lw_tbl := lo_c (lo_1 2 200 (by first | rfl | decide +kernel)) (lo_a looJ2_checkIndex_2214a (lo_a liJ2_length_9d52b liJ0_checkIndex_df160))
set_option maxRecDepth 100000 in
theorem looJ2_getChar_3b067 : ∀ w ∈ owJ2_getChar_3b067, w ∈ lw_tbl := lo_in _ [(2, 208), (2, 210), (2, 212), (2, 201), (2, 202), (1, 17)] (by decide +kernel)
set_option maxRecDepth 100000 in
theorem liJ2_getChar_3b067 : ∀ w ∈ wsJ2_getChar_3b067, w ∈ lw_tbl := lo_c (lo_1 2 207 (by first | rfl | decide +kernel)) (lo_a looJ2_getChar_3b067 liJ2_length_9d52b)
set_option maxRecDepth 100000 in
theorem looJ2_charAt_3b067 : ∀ w ∈ owJ2_charAt_3b067, w ∈ lw_tbl := lo_in _ [(2, 198), (2, 199), (1, 17), (2, 205), (2, 206)] (by decide +kernel)
set_option maxRecDepth 100000 in
theorem liJ2_charAt_3b067 : ∀ w ∈ wsJ2_charAt_3b067, w ∈ lw_tbl := lo_c (lo_1 2 197 (by first | rfl | decide +kernel)) (lo_a looJ2_charAt_3b067 (lo_a liJ2_checkIndex_2214a liJ2_getChar_3b067))
set_option maxRecDepth 100000 in
theorem looJ0_charAt_5068e : ∀ w ∈ owJ0_charAt_5068e, w ∈ lw_tbl := lo_in _ [(7, 98), (2, 180), (2, 181), (2, 182), (1, 14), (2, 184), (2, 185), (1, 15), (2, 195), (2, 196), (1, 17)] (by decide +kernel)
set_option maxRecDepth 100000 in
theorem liJ0_charAt_5068e : ∀ w ∈ wsJ0_charAt_5068e, w ∈ lw_tbl := lo_c (lo_1 2 179 (by first | rfl | decide +kernel)) (lo_a looJ0_charAt_5068e (lo_a liJ0_isLatin1_aae02 (lo_a liJ1_charAt_3b067 liJ2_charAt_3b067)))
set_option maxRecDepth 100000 in
theorem looX8_isWord : ∀ w ∈ owX8_isWord, w ∈ lw_tbl := lo_in _ [(1, 36), (1, 35), (1, 37), (1, 34), (1, 33), (2, 166), (2, 167), (2, 168), (1, 14), (2, 176), (2, 177), (2, 178)] (by decide +kernel)
set_option maxRecDepth 100000 in
theorem liX8_isWord : ∀ w ∈ wsX8_isWord, w ∈ lw_tbl := lo_c (lo_1 2 165 (by first | rfl | decide +kernel)) (lo_a looX8_isWord (lo_a liX80 (lo_a liJ0_length_8abf5 liJ0_charAt_5068e)))
set_option maxRecDepth 100000 in
theorem looX8_kind : ∀ w ∈ owX8_kind, w ∈ lw_tbl := lo_in _ [(1, 36)] (by decide +kernel)
set_option maxRecDepth 100000 in
theorem liX8_kind : ∀ w ∈ wsX8_kind, w ∈ lw_tbl := lo_c (lo_1 2 217 (by first | rfl | decide +kernel)) (lo_a looX8_kind liX80)
set_option maxRecDepth 100000 in
theorem looX8_value : ∀ w ∈ owX8_value, w ∈ lw_tbl := lo_in _ [(1, 38)] (by decide +kernel)
set_option maxRecDepth 100000 in
theorem liX8_value : ∀ w ∈ wsX8_value, w ∈ lw_tbl := lo_c (lo_1 2 221 (by first | rfl | decide +kernel)) (lo_a looX8_value liX80)
set_option maxRecDepth 100000 in
theorem looX5_numberLine : ∀ w ∈ owX5_numberLine, w ∈ lw_tbl := lo_in _ [(2, 31), (2, 25), (2, 26), (2, 27), (2, 29)] (by decide +kernel)
set_option maxRecDepth 100000 in
theorem liX5_numberLine : ∀ w ∈ wsX5_numberLine, w ∈ lw_tbl := lo_c (lo_1 2 2 (by first | rfl | decide +kernel)) (lo_a looX5_numberLine liX50)
set_option maxRecDepth 100000 in
theorem looX5_numberLines : ∀ w ∈ owX5_numberLines, w ∈ lw_tbl := lo_in _ [(2, 24), (2, 27), (1, 239), (2, 1), (0, 1), (1, 11)] (by decide +kernel)
set_option maxRecDepth 100000 in
theorem liX5_numberLines : ∀ w ∈ wsX5_numberLines, w ∈ lw_tbl := lo_c (lo_1 1 238 (by first | rfl | decide +kernel)) (lo_a looX5_numberLines (lo_a liX50 liX5_numberLine))
set_option maxRecDepth 100000 in
theorem looX5_cross : ∀ w ∈ owX5_cross, w ∈ lw_tbl := lo_in _ [] (by decide +kernel)
set_option maxRecDepth 100000 in
theorem liX5_cross : ∀ w ∈ wsX5_cross, w ∈ lw_tbl := lo_c (lo_1 2 9 (by first | rfl | decide +kernel)) looX5_cross
set_option maxRecDepth 100000 in
theorem looX5_findCrossers : ∀ w ∈ owX5_findCrossers, w ∈ lw_tbl := lo_in _ [(2, 31), (2, 25), (2, 26), (2, 28), (2, 7), (2, 8), (1, 11)] (by decide +kernel)
set_option maxRecDepth 100000 in
theorem liX5_findCrossers : ∀ w ∈ wsX5_findCrossers, w ∈ lw_tbl := lo_c (lo_1 2 6 (by first | rfl | decide +kernel)) (lo_a looX5_findCrossers (lo_a liX50 liX5_cross))
set_option maxRecDepth 100000 in
theorem looX5_keepCut : ∀ w ∈ owX5_keepCut, w ∈ lw_tbl := lo_in _ [(2, 32), (2, 30)] (by decide +kernel)
set_option maxRecDepth 100000 in
theorem liX5_keepCut : ∀ w ∈ wsX5_keepCut, w ∈ lw_tbl := lo_c (lo_1 2 17 (by first | rfl | decide +kernel)) (lo_a looX5_keepCut liX50)
set_option maxRecDepth 100000 in
theorem looJ6_bitCount_0f7a4 : ∀ w ∈ owJ6_bitCount_0f7a4, w ∈ lw_tbl := lo_in _ [(2, 21), (2, 22), (2, 23)] (by decide +kernel)
set_option maxRecDepth 100000 in
theorem liJ6_bitCount_0f7a4 : ∀ w ∈ wsJ6_bitCount_0f7a4, w ∈ lw_tbl := lo_c (lo_1 2 20 (by first | rfl | decide +kernel)) looJ6_bitCount_0f7a4
set_option maxRecDepth 100000 in
theorem looX5_gatherCuts : ∀ w ∈ owX5_gatherCuts, w ∈ lw_tbl := lo_in _ [(2, 28), (2, 14), (2, 16), (0, 4), (1, 11), (2, 18), (2, 19), (1, 12), (2, 10), (2, 12), (0, 3)] (by decide +kernel)
set_option maxRecDepth 100000 in
theorem liX5_gatherCuts : ∀ w ∈ wsX5_gatherCuts, w ∈ lw_tbl := lo_c (lo_1 2 13 (by first | rfl | decide +kernel)) (lo_a looX5_gatherCuts (lo_a liX50 (lo_a liX5_keepCut liJ6_bitCount_0f7a4)))
set_option maxRecDepth 100000 in
theorem looX5_init : ∀ w ∈ owX5_init, w ∈ lw_tbl := lo_in _ [(1, 234), (1, 25), (1, 26), (1, 118), (2, 25), (2, 26), (2, 27), (2, 28), (2, 29), (2, 30), (2, 24), (2, 31), (1, 235), (1, 237), (0, 0), (1, 11), (2, 3), (2, 5), (0, 2), (2, 10), (2, 12), (0, 3)] (by decide +kernel)
set_option maxRecDepth 100000 in
theorem liX5_init : ∀ w ∈ wsX5_init, w ∈ lw_tbl := lo_c (lo_1 1 233 (by first | rfl | decide +kernel)) (lo_a looX5_init (lo_a liX50 (lo_a liX5_numberLines (lo_a liX5_findCrossers liX5_gatherCuts))))
set_option maxRecDepth 100000 in
theorem looX6_withCorners : ∀ w ∈ owX6_withCorners, w ∈ lw_tbl := lo_in _ [(1, 61), (1, 59), (1, 230), (1, 231), (1, 232)] (by decide +kernel)
set_option maxRecDepth 100000 in
theorem liX6_withCorners : ∀ w ∈ wsX6_withCorners, w ∈ lw_tbl := lo_c (lo_1 1 229 (by first | rfl | decide +kernel)) (lo_a looX6_withCorners (lo_a liX60 (lo_a liX50 liX5_init)))
set_option maxRecDepth 100000 in
theorem looX1_takeFirst : ∀ w ∈ owX1_takeFirst, w ∈ lw_tbl := lo_in _ [(1, 75), (1, 76), (1, 74), (2, 214), (2, 215), (2, 216), (1, 2), (2, 227), (2, 19), (1, 12), (2, 228), (2, 229), (2, 230), (1, 11), (2, 218), (2, 219), (2, 220), (2, 232), (2, 233), (2, 234)] (by decide +kernel)
set_option maxRecDepth 100000 in
theorem liX1_takeFirst : ∀ w ∈ wsX1_takeFirst, w ∈ lw_tbl := lo_c (lo_1 2 226 (by first | rfl | decide +kernel)) (lo_a looX1_takeFirst (lo_a liX10 (lo_a liX8_kind (lo_a liJ6_bitCount_0f7a4 (lo_a liX5_corners (lo_a liX8_value liX5_hasCorner))))))
set_option maxRecDepth 100000 in
theorem looX1_takeSecond : ∀ w ∈ owX1_takeSecond, w ∈ lw_tbl := lo_in _ [(1, 75), (1, 74), (1, 76), (2, 232), (2, 233), (2, 234), (1, 11), (3, 0), (3, 1), (3, 2), (3, 5), (3, 6), (3, 7), (3, 13), (3, 14), (3, 15)] (by decide +kernel)
set_option maxRecDepth 100000 in
theorem liX1_takeSecond : ∀ w ∈ wsX1_takeSecond, w ∈ lw_tbl := lo_c (lo_1 2 239 (by first | rfl | decide +kernel)) (lo_a looX1_takeSecond (lo_a liX10 (lo_a liX5_hasCorner (lo_a liX5_lineOf (lo_a liX5_has liX5_crossersOf)))))
set_option maxRecDepth 100000 in
theorem looX1_takeToken : ∀ w ∈ owX1_takeToken, w ∈ lw_tbl := lo_in _ [(1, 73), (2, 162), (2, 163), (2, 164), (1, 2), (2, 214), (2, 215), (2, 216), (2, 218), (2, 219), (2, 220), (2, 222), (1, 227), (1, 228), (1, 3), (2, 223), (2, 225), (0, 8), (1, 4), (2, 236), (2, 238), (0, 9)] (by decide +kernel)
set_option maxRecDepth 100000 in
theorem liX1_takeToken : ∀ w ∈ wsX1_takeToken, w ∈ lw_tbl := lo_c (lo_1 2 160 (by first | rfl | decide +kernel)) (lo_a looX1_takeToken (lo_a liX10 (lo_a liX8_isWord (lo_a liX8_kind (lo_a liX8_value (lo_a liX6_withCorners (lo_a liX1_takeFirst liX1_takeSecond)))))))
set_option maxRecDepth 100000 in
theorem looX8_place : ∀ w ∈ owX8_place, w ∈ lw_tbl := lo_in _ [(1, 37)] (by decide +kernel)
set_option maxRecDepth 100000 in
theorem liX8_place : ∀ w ∈ wsX8_place, w ∈ lw_tbl := lo_c (lo_1 3 20 (by first | rfl | decide +kernel)) (lo_a looX8_place liX80)
set_option maxRecDepth 100000 in
theorem looX1_understand : ∀ w ∈ owX1_understand, w ∈ lw_tbl := lo_in _ [(1, 71), (1, 72), (1, 73), (1, 75), (1, 76), (2, 132), (2, 133), (2, 134), (1, 2), (2, 136), (2, 137), (2, 138), (2, 157), (2, 159), (0, 7), (1, 4), (2, 214), (2, 215), (2, 216), (3, 17), (3, 18), (3, 19)] (by decide +kernel)
set_option maxRecDepth 100000 in
theorem liX1_understand : ∀ w ∈ wsX1_understand, w ∈ lw_tbl := lo_c (lo_1 2 131 (by first | rfl | decide +kernel)) (lo_a looX1_understand (lo_a liX10 (lo_a liX8_rewind (lo_a liX8_readToken (lo_a liX1_takeToken (lo_a liX8_place liX8_kind))))))
set_option maxRecDepth 100000 in
theorem looX2_init : ∀ w ∈ owX2_init, w ∈ lw_tbl := lo_in _ [(1, 159), (1, 25), (1, 26), (1, 118), (1, 160), (1, 161)] (by decide +kernel)
set_option maxRecDepth 100000 in
theorem liX2_init : ∀ w ∈ wsX2_init, w ∈ lw_tbl := lo_c (lo_1 1 158 (by first | rfl | decide +kernel)) (lo_a looX2_init liX20)
set_option maxRecDepth 100000 in
theorem looX2_size : ∀ w ∈ owX2_size, w ∈ lw_tbl := lo_in _ [(1, 161)] (by decide +kernel)
set_option maxRecDepth 100000 in
theorem liX2_size : ∀ w ∈ wsX2_size, w ∈ lw_tbl := lo_c (lo_1 3 70 (by first | rfl | decide +kernel)) (lo_a looX2_size liX20)
set_option maxRecDepth 100000 in
theorem looX2_hasPlace : ∀ w ∈ owX2_hasPlace, w ∈ lw_tbl := lo_in _ [(1, 161)] (by decide +kernel)
set_option maxRecDepth 100000 in
theorem liX2_hasPlace : ∀ w ∈ wsX2_hasPlace, w ∈ lw_tbl := lo_c (lo_1 4 140 (by first | rfl | decide +kernel)) (lo_a looX2_hasPlace liX20)
set_option maxRecDepth 100000 in
theorem looX2_accepts : ∀ w ∈ owX2_accepts, w ∈ lw_tbl := lo_in _ [] (by decide +kernel)
set_option maxRecDepth 100000 in
theorem liX2_accepts : ∀ w ∈ wsX2_accepts, w ∈ lw_tbl := lo_c (lo_1 4 123 (by first | rfl | decide +kernel)) looX2_accepts
set_option maxRecDepth 100000 in
theorem looX2_become : ∀ w ∈ owX2_become, w ∈ lw_tbl := lo_in _ [(4, 128), (3, 115), (1, 18), (3, 116), (1, 161), (1, 160)] (by decide +kernel)
set_option maxRecDepth 100000 in
theorem liX2_become : ∀ w ∈ wsX2_become, w ∈ lw_tbl := lo_c (lo_1 4 127 (by first | rfl | decide +kernel)) (lo_a looX2_become liX20)
set_option maxRecDepth 100000 in
theorem looJ9_floorMod_7cf53 : ∀ w ∈ owJ9_floorMod_7cf53, w ∈ lw_tbl := lo_in _ [] (by decide +kernel)
set_option maxRecDepth 100000 in
theorem liJ9_floorMod_7cf53 : ∀ w ∈ wsJ9_floorMod_7cf53, w ∈ lw_tbl := lo_c (lo_1 4 151 (by first | rfl | decide +kernel)) looJ9_floorMod_7cf53
set_option maxRecDepth 100000 in
theorem looX2_wrapped : ∀ w ∈ owX2_wrapped, w ∈ lw_tbl := lo_in _ [(1, 161), (4, 149), (4, 150), (1, 18)] (by decide +kernel)
set_option maxRecDepth 100000 in
theorem liX2_wrapped : ∀ w ∈ wsX2_wrapped, w ∈ lw_tbl := lo_c (lo_1 4 148 (by first | rfl | decide +kernel)) (lo_a looX2_wrapped (lo_a liX20 liJ9_floorMod_7cf53))
set_option maxRecDepth 100000 in
theorem looX2_at : ∀ w ∈ owX2_at, w ∈ lw_tbl := lo_in _ [(1, 160), (4, 145), (4, 147), (0, 25), (1, 8)] (by decide +kernel)
set_option maxRecDepth 100000 in
theorem liX2_at : ∀ w ∈ wsX2_at, w ∈ lw_tbl := lo_c (lo_1 4 144 (by first | rfl | decide +kernel)) (lo_a looX2_at (lo_a liX20 liX2_wrapped))
set_option maxRecDepth 100000 in
theorem looX2_entryAt : ∀ w ∈ owX2_entryAt, w ∈ lw_tbl := lo_in _ [(4, 161), (4, 142), (4, 143), (1, 8)] (by decide +kernel)
set_option maxRecDepth 100000 in
theorem liX2_entryAt : ∀ w ∈ wsX2_entryAt, w ∈ lw_tbl := lo_c (lo_1 4 160 (by first | rfl | decide +kernel)) (lo_a looX2_entryAt liX2_at)
set_option maxRecDepth 100000 in
theorem looX2_breakPlace : ∀ w ∈ owX2_breakPlace, w ∈ lw_tbl := lo_in _ [(1, 161), (4, 174), (4, 158), (4, 159), (1, 8)] (by decide +kernel)
set_option maxRecDepth 100000 in
theorem liX2_breakPlace : ∀ w ∈ wsX2_breakPlace, w ∈ lw_tbl := lo_c (lo_1 4 173 (by first | rfl | decide +kernel)) (lo_a looX2_breakPlace (lo_a liX20 liX2_entryAt))
set_option maxRecDepth 100000 in
theorem looX2_breakLength : ∀ w ∈ owX2_breakLength, w ∈ lw_tbl := lo_in _ [(4, 170), (4, 171), (4, 172), (1, 8)] (by decide +kernel)
set_option maxRecDepth 100000 in
theorem liX2_breakLength : ∀ w ∈ wsX2_breakLength, w ∈ lw_tbl := lo_c (lo_1 4 169 (by first | rfl | decide +kernel)) (lo_a looX2_breakLength liX2_breakPlace)
set_option maxRecDepth 100000 in
theorem looX2_allAre : ∀ w ∈ owX2_allAre, w ∈ lw_tbl := lo_in _ [(1, 161), (4, 174), (4, 158), (4, 159), (1, 8)] (by decide +kernel)
set_option maxRecDepth 100000 in
theorem liX2_allAre : ∀ w ∈ wsX2_allAre, w ∈ lw_tbl := lo_c (lo_1 4 183 (by first | rfl | decide +kernel)) (lo_a looX2_allAre (lo_a liX20 liX2_entryAt))
set_option maxRecDepth 100000 in
theorem looX2_comesBack : ∀ w ∈ owX2_comesBack, w ∈ lw_tbl := lo_in _ [(4, 184), (4, 180), (4, 182), (0, 26), (1, 8)] (by decide +kernel)
set_option maxRecDepth 100000 in
theorem liX2_comesBack : ∀ w ∈ wsX2_comesBack, w ∈ lw_tbl := lo_c (lo_1 4 179 (by first | rfl | decide +kernel)) (lo_a looX2_comesBack liX2_allAre)
set_option maxRecDepth 100000 in
theorem looX2_growthOfRound : ∀ w ∈ owX2_growthOfRound, w ∈ lw_tbl := lo_in _ [(1, 161), (4, 174), (4, 158), (4, 159), (1, 8)] (by decide +kernel)
set_option maxRecDepth 100000 in
theorem liX2_growthOfRound : ∀ w ∈ wsX2_growthOfRound, w ∈ lw_tbl := lo_c (lo_1 4 192 (by first | rfl | decide +kernel)) (lo_a looX2_growthOfRound (lo_a liX20 liX2_entryAt))
set_option maxRecDepth 100000 in
theorem looX2_canGlue : ∀ w ∈ owX2_canGlue, w ∈ lw_tbl := lo_in _ [(1, 161), (4, 161), (4, 142), (4, 143), (1, 8)] (by decide +kernel)
set_option maxRecDepth 100000 in
theorem liX2_canGlue : ∀ w ∈ wsX2_canGlue, w ∈ lw_tbl := lo_c (lo_1 4 200 (by first | rfl | decide +kernel)) (lo_a looX2_canGlue (lo_a liX20 liX2_at))
set_option maxRecDepth 100000 in
theorem looX2_glueBehind : ∀ w ∈ owX2_glueBehind, w ∈ lw_tbl := lo_in _ [(1, 161), (1, 160), (4, 205), (4, 138), (4, 139), (1, 8), (4, 206), (4, 198), (4, 199), (4, 145), (4, 147), (0, 25)] (by decide +kernel)
set_option maxRecDepth 100000 in
theorem liX2_glueBehind : ∀ w ∈ wsX2_glueBehind, w ∈ lw_tbl := lo_c (lo_1 4 204 (by first | rfl | decide +kernel)) (lo_a looX2_glueBehind (lo_a liX20 (lo_a liX2_hasPlace (lo_a liX2_canGlue liX2_wrapped))))
set_option maxRecDepth 100000 in
theorem looX2_canLose : ∀ w ∈ owX2_canLose, w ∈ lw_tbl := lo_in _ [(1, 161), (4, 161), (4, 142), (4, 143), (1, 8)] (by decide +kernel)
set_option maxRecDepth 100000 in
theorem liX2_canLose : ∀ w ∈ wsX2_canLose, w ∈ lw_tbl := lo_c (lo_1 4 214 (by first | rfl | decide +kernel)) (lo_a looX2_canLose (lo_a liX20 liX2_at))
set_option maxRecDepth 100000 in
theorem looX2_lose : ∀ w ∈ owX2_lose, w ∈ lw_tbl := lo_in _ [(1, 161), (1, 160), (4, 205), (4, 138), (4, 139), (1, 8), (4, 219), (4, 212), (4, 213), (4, 145), (4, 147), (0, 25)] (by decide +kernel)
set_option maxRecDepth 100000 in
theorem liX2_lose : ∀ w ∈ wsX2_lose, w ∈ lw_tbl := lo_c (lo_1 4 218 (by first | rfl | decide +kernel)) (lo_a looX2_lose (lo_a liX20 (lo_a liX2_hasPlace (lo_a liX2_canLose liX2_wrapped))))
set_option maxRecDepth 100000 in
theorem looX2_firstOne : ∀ w ∈ owX2_firstOne, w ∈ lw_tbl := lo_in _ [(1, 161), (1, 160)] (by decide +kernel)
set_option maxRecDepth 100000 in
theorem liX2_firstOne : ∀ w ∈ wsX2_firstOne, w ∈ lw_tbl := lo_c (lo_1 4 231 (by first | rfl | decide +kernel)) (lo_a looX2_firstOne liX20)
set_option maxRecDepth 100000 in
theorem looX2_loseAll : ∀ w ∈ owX2_loseAll, w ∈ lw_tbl := lo_in _ [(4, 228), (4, 230), (0, 27), (1, 8), (4, 219), (4, 212), (4, 213), (4, 232), (4, 216), (4, 217)] (by decide +kernel)
set_option maxRecDepth 100000 in
theorem liX2_loseAll : ∀ w ∈ wsX2_loseAll, w ∈ lw_tbl := lo_c (lo_1 4 227 (by first | rfl | decide +kernel)) (lo_a looX2_loseAll (lo_a liX2_firstOne (lo_a liX2_canLose liX2_lose)))
set_option maxRecDepth 100000 in
theorem looX3_init : ∀ w ∈ owX3_init, w ∈ lw_tbl := lo_in _ [(1, 215), (1, 25), (1, 26), (1, 118), (1, 216), (1, 217)] (by decide +kernel)
set_option maxRecDepth 100000 in
theorem liX3_init : ∀ w ∈ wsX3_init, w ∈ lw_tbl := lo_c (lo_1 1 214 (by first | rfl | decide +kernel)) (lo_a looX3_init liX30)
set_option maxRecDepth 100000 in
theorem looX3_size : ∀ w ∈ owX3_size, w ∈ lw_tbl := lo_in _ [(1, 218)] (by decide +kernel)
set_option maxRecDepth 100000 in
theorem liX3_size : ∀ w ∈ wsX3_size, w ∈ lw_tbl := lo_c (lo_1 5 49 (by first | rfl | decide +kernel)) (lo_a looX3_size liX30)
set_option maxRecDepth 100000 in
theorem looX7_has : ∀ w ∈ owX7_has, w ∈ lw_tbl := lo_in _ [(1, 182)] (by decide +kernel)
set_option maxRecDepth 100000 in
theorem liX7_has : ∀ w ∈ wsX7_has, w ∈ lw_tbl := lo_c (lo_1 5 19 (by first | rfl | decide +kernel)) (lo_a looX7_has liX70)
set_option maxRecDepth 100000 in
theorem looX7_recall : ∀ w ∈ owX7_recall, w ∈ lw_tbl := lo_in _ [(1, 182), (1, 181), (1, 173), (1, 176), (1, 183), (1, 178), (1, 179), (1, 180), (5, 16), (5, 18), (0, 28), (1, 9)] (by decide +kernel)
set_option maxRecDepth 100000 in
theorem liX7_recall : ∀ w ∈ wsX7_recall, w ∈ lw_tbl := lo_c (lo_1 5 38 (by first | rfl | decide +kernel)) (lo_a looX7_recall (lo_a liX70 liX7_has))
set_option maxRecDepth 100000 in
theorem looX5_cutCount : ∀ w ∈ owX5_cutCount, w ∈ lw_tbl := lo_in _ [(2, 32)] (by decide +kernel)
set_option maxRecDepth 100000 in
theorem liX5_cutCount : ∀ w ∈ wsX5_cutCount, w ∈ lw_tbl := lo_c (lo_1 3 66 (by first | rfl | decide +kernel)) (lo_a looX5_cutCount liX50)
set_option maxRecDepth 100000 in
theorem looX5_hasCut : ∀ w ∈ owX5_hasCut, w ∈ lw_tbl := lo_in _ [(2, 32)] (by decide +kernel)
set_option maxRecDepth 100000 in
theorem liX5_hasCut : ∀ w ∈ wsX5_hasCut, w ∈ lw_tbl := lo_c (lo_1 2 59 (by first | rfl | decide +kernel)) (lo_a looX5_hasCut liX50)
set_option maxRecDepth 100000 in
theorem looX5_cutAt : ∀ w ∈ owX5_cutAt, w ∈ lw_tbl := lo_in _ [(2, 30), (2, 56), (2, 57), (2, 58), (1, 11)] (by decide +kernel)
set_option maxRecDepth 100000 in
theorem liX5_cutAt : ∀ w ∈ wsX5_cutAt, w ∈ lw_tbl := lo_c (lo_1 2 55 (by first | rfl | decide +kernel)) (lo_a looX5_cutAt (lo_a liX50 liX5_hasCut))
set_option maxRecDepth 100000 in
theorem looX5_trianglesAt : ∀ w ∈ owX5_trianglesAt, w ∈ lw_tbl := lo_in _ [(2, 29), (3, 4), (2, 233), (2, 234), (1, 11), (2, 18), (2, 19), (1, 12)] (by decide +kernel)
set_option maxRecDepth 100000 in
theorem liX5_trianglesAt : ∀ w ∈ wsX5_trianglesAt, w ∈ lw_tbl := lo_c (lo_1 3 123 (by first | rfl | decide +kernel)) (lo_a looX5_trianglesAt (lo_a liX50 (lo_a liX5_hasCorner liJ6_bitCount_0f7a4)))
set_option maxRecDepth 100000 in
theorem looX5_entryOf : ∀ w ∈ owX5_entryOf, w ∈ lw_tbl := lo_in _ [(3, 114), (3, 115), (1, 18), (3, 116), (3, 117), (3, 118), (3, 119), (3, 120), (3, 121), (3, 122), (1, 11)] (by decide +kernel)
set_option maxRecDepth 100000 in
theorem liX5_entryOf : ∀ w ∈ wsX5_entryOf, w ∈ lw_tbl := lo_c (lo_1 3 113 (by first | rfl | decide +kernel)) (lo_a looX5_entryOf liX5_trianglesAt)
set_option maxRecDepth 100000 in
theorem looX7_agreeWith : ∀ w ∈ owX7_agreeWith, w ∈ lw_tbl := lo_in _ [(1, 182), (1, 181), (1, 174), (1, 175), (5, 45), (3, 111), (3, 112), (1, 11)] (by decide +kernel)
set_option maxRecDepth 100000 in
theorem liX7_agreeWith : ∀ w ∈ wsX7_agreeWith, w ∈ lw_tbl := lo_c (lo_1 5 44 (by first | rfl | decide +kernel)) (lo_a looX7_agreeWith (lo_a liX70 liX5_entryOf))
set_option maxRecDepth 100000 in
theorem looX3_gather : ∀ w ∈ owX3_gather, w ∈ lw_tbl := lo_in _ [(1, 218), (1, 216), (5, 35), (5, 36), (5, 37), (1, 9), (5, 39), (3, 64), (3, 65), (1, 11), (5, 40), (2, 53), (2, 54), (5, 41), (5, 42), (5, 43)] (by decide +kernel)
set_option maxRecDepth 100000 in
theorem liX3_gather : ∀ w ∈ wsX3_gather, w ∈ lw_tbl := lo_c (lo_1 5 34 (by first | rfl | decide +kernel)) (lo_a looX3_gather (lo_a liX30 (lo_a liX7_recall (lo_a liX5_cutCount (lo_a liX5_cutAt liX7_agreeWith)))))
set_option maxRecDepth 100000 in
theorem looX3_leastNumber : ∀ w ∈ owX3_leastNumber, w ∈ lw_tbl := lo_in _ [(1, 218), (1, 216)] (by decide +kernel)
set_option maxRecDepth 100000 in
theorem liX3_leastNumber : ∀ w ∈ wsX3_leastNumber, w ∈ lw_tbl := lo_c (lo_1 5 53 (by first | rfl | decide +kernel)) (lo_a looX3_leastNumber liX30)
set_option maxRecDepth 100000 in
theorem looX3_howSure : ∀ w ∈ owX3_howSure, w ∈ lw_tbl := lo_in _ [(1, 218), (1, 216), (5, 40), (2, 53), (2, 54), (1, 11), (5, 62), (3, 6), (3, 7)] (by decide +kernel)
set_option maxRecDepth 100000 in
theorem liX3_howSure : ∀ w ∈ wsX3_howSure, w ∈ lw_tbl := lo_c (lo_1 5 61 (by first | rfl | decide +kernel)) (lo_a looX3_howSure (lo_a liX30 (lo_a liX5_cutAt liX5_has)))
set_option maxRecDepth 100000 in
theorem looX3_mostAgreeing : ∀ w ∈ owX3_mostAgreeing, w ∈ lw_tbl := lo_in _ [(1, 217), (1, 218), (1, 216), (5, 79), (5, 40), (2, 53), (2, 54), (1, 11), (5, 78), (3, 111), (3, 112)] (by decide +kernel)
set_option maxRecDepth 100000 in
theorem liX3_mostAgreeing : ∀ w ∈ wsX3_mostAgreeing, w ∈ lw_tbl := lo_c (lo_1 5 77 (by first | rfl | decide +kernel)) (lo_a looX3_mostAgreeing (lo_a liX30 (lo_a liX5_cutAt liX5_entryOf)))
set_option maxRecDepth 100000 in
theorem looX3_bestQuestion : ∀ w ∈ owX3_bestQuestion, w ∈ lw_tbl := lo_in _ [(1, 218), (5, 71), (3, 183), (3, 184), (1, 11), (5, 72), (4, 64), (4, 65), (5, 73), (4, 69), (4, 70), (5, 74), (5, 76), (0, 29), (1, 10), (5, 80), (3, 162), (3, 163)] (by decide +kernel)
set_option maxRecDepth 100000 in
theorem liX3_bestQuestion : ∀ w ∈ wsX3_bestQuestion, w ∈ lw_tbl := lo_c (lo_1 5 70 (by first | rfl | decide +kernel)) (lo_a looX3_bestQuestion (lo_a liX30 (lo_a liX5_lineCount (lo_a liX5_lesserOf (lo_a liX5_greaterOf (lo_a liX3_mostAgreeing liX5_pairOf))))))
set_option maxRecDepth 100000 in
theorem looX4_init : ∀ w ∈ owX4_init, w ∈ lw_tbl := lo_in _ [(1, 137), (1, 25), (1, 26), (1, 118), (1, 138), (1, 139), (1, 140)] (by decide +kernel)
