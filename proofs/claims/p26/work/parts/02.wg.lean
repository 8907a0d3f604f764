theorem ggX5_lineOf_X5_hasCorner : GoodIn wsX5_lineOf wsX5_hasCorner := fun w h => ⟨(List.mem_cons_of_mem _ (List.mem_append_right _ (List.mem_append_right _ h))), gdX5_hasCorner w h⟩
set_option maxRecDepth 20000 in
theorem gX5_lineOf_X5_hasCorner : GoodIn wsX5_lineOf (wsV RX5 77 RX5 yX5_hasCorner wsX5_hasCorner) := goodIn_app (goodIn_of _ (by decide +kernel)) ggX5_lineOf_X5_hasCorner
theorem ggX5_crossersOf_X5_hasLine : GoodIn wsX5_crossersOf wsX5_hasLine := fun w h => ⟨(List.mem_cons_of_mem _ (List.mem_append_right _ (List.mem_append_right _ h))), gdX5_hasLine w h⟩
set_option maxRecDepth 20000 in
theorem gX5_crossersOf_X5_hasLine : GoodIn wsX5_crossersOf (wsV RX5 80 RX5 yX5_hasLine wsX5_hasLine) := goodIn_app (goodIn_of _ (by decide +kernel)) ggX5_crossersOf_X5_hasLine
theorem ggX5_has_X5_hasLine : GoodIn wsX5_has wsX5_hasLine := fun w h => ⟨(List.mem_cons_of_mem _ (List.mem_append_right _ h)), gdX5_hasLine w h⟩
set_option maxRecDepth 20000 in
theorem gX5_has_X5_hasLine : GoodIn wsX5_has (wsV RX5 80 RX5 yX5_hasLine wsX5_hasLine) := goodIn_app (goodIn_of _ (by decide +kernel)) ggX5_has_X5_hasLine
theorem ggX5_lesserOf_X5_hasLine : GoodIn wsX5_lesserOf wsX5_hasLine := fun w h => ⟨(List.mem_cons_of_mem _ (List.mem_append_right _ (List.mem_append_right _ h))), gdX5_hasLine w h⟩
set_option maxRecDepth 20000 in
theorem gX5_lesserOf_X5_hasLine : GoodIn wsX5_lesserOf (wsV RX5 80 RX5 yX5_hasLine wsX5_hasLine) := goodIn_app (goodIn_of _ (by decide +kernel)) ggX5_lesserOf_X5_hasLine
theorem ggX5_greaterOf_X5_hasLine : GoodIn wsX5_greaterOf wsX5_hasLine := fun w h => ⟨(List.mem_cons_of_mem _ (List.mem_append_right _ (List.mem_append_right _ h))), gdX5_hasLine w h⟩
set_option maxRecDepth 20000 in
theorem gX5_greaterOf_X5_hasLine : GoodIn wsX5_greaterOf (wsV RX5 80 RX5 yX5_hasLine wsX5_hasLine) := goodIn_app (goodIn_of _ (by decide +kernel)) ggX5_greaterOf_X5_hasLine
theorem ggX0_spanFrom_X5_lesserOf : GoodIn wsX0_spanFrom wsX5_lesserOf := fun w h => ⟨(List.mem_cons_of_mem _ (List.mem_append_right _ (List.mem_append_left _ h))), gdX5_lesserOf w h⟩
set_option maxRecDepth 20000 in
theorem gX0_spanFrom_X5_lesserOf : GoodIn wsX0_spanFrom (wsV RX0 44 RX5 yX5_lesserOf wsX5_lesserOf) := goodIn_app (goodIn_of _ (by decide +kernel)) ggX0_spanFrom_X5_lesserOf
theorem ggX0_spanFrom_X5_ahead : GoodIn wsX0_spanFrom wsX5_ahead := fun w h => ⟨(List.mem_cons_of_mem _ (List.mem_append_right _ (List.mem_append_right _ (List.mem_append_left _ h)))), gdX5_ahead w h⟩
set_option maxRecDepth 20000 in
theorem gX0_spanFrom_X5_ahead : GoodIn wsX0_spanFrom (wsV RX0 47 RX5 yX5_ahead wsX5_ahead) := goodIn_app (goodIn_of _ (by decide +kernel)) ggX0_spanFrom_X5_ahead
theorem ggX0_spanFrom_X5_greaterOf : GoodIn wsX0_spanFrom wsX5_greaterOf := fun w h => ⟨(List.mem_cons_of_mem _ (List.mem_append_right _ (List.mem_append_right _ (List.mem_append_right _ h)))), gdX5_greaterOf w h⟩
set_option maxRecDepth 20000 in
theorem gX0_spanFrom_X5_greaterOf : GoodIn wsX0_spanFrom (wsV RX0 50 RX5 yX5_greaterOf wsX5_greaterOf) := goodIn_app (goodIn_of _ (by decide +kernel)) ggX0_spanFrom_X5_greaterOf
theorem ggX0_gather_X5_lineOf : GoodIn wsX0_gather wsX5_lineOf := fun w h => ⟨(List.mem_cons_of_mem _ (List.mem_append_right _ (List.mem_append_right _ (List.mem_append_left _ h)))), gdX5_lineOf w h⟩
set_option maxRecDepth 20000 in
theorem gX0_gather_X5_lineOf : GoodIn wsX0_gather (wsV RX0 19 RX5 yX5_lineOf wsX5_lineOf) := goodIn_app (goodIn_of _ (by decide +kernel)) ggX0_gather_X5_lineOf
theorem ggX0_gather_X5_crossersOf : GoodIn wsX0_gather wsX5_crossersOf := fun w h => ⟨(List.mem_cons_of_mem _ (List.mem_append_right _ (List.mem_append_right _ (List.mem_append_right _ (List.mem_append_left _ h))))), gdX5_crossersOf w h⟩
set_option maxRecDepth 20000 in
theorem gX0_gather_X5_crossersOf : GoodIn wsX0_gather (wsV RX0 25 RX5 yX5_crossersOf wsX5_crossersOf) := goodIn_app (goodIn_of _ (by decide +kernel)) ggX0_gather_X5_crossersOf
theorem ggX0_gather_X5_corners : GoodIn wsX0_gather wsX5_corners := fun w h => ⟨(List.mem_cons_of_mem _ (List.mem_append_right _ (List.mem_append_right _ (List.mem_append_right _ (List.mem_append_right _ (List.mem_append_left _ h)))))), gdX5_corners w h⟩
set_option maxRecDepth 20000 in
theorem gX0_gather_X5_corners : GoodIn wsX0_gather (wsV RX0 29 RX5 yX5_corners wsX5_corners) := goodIn_app (goodIn_of _ (by decide +kernel)) ggX0_gather_X5_corners
theorem ggX0_gather_X5_lineCount : GoodIn wsX0_gather wsX5_lineCount := fun w h => ⟨(List.mem_cons_of_mem _ (List.mem_append_right _ (List.mem_append_right _ (List.mem_append_right _ (List.mem_append_right _ (List.mem_append_right _ (List.mem_append_left _ h))))))), gdX5_lineCount w h⟩
set_option maxRecDepth 20000 in
theorem gX0_gather_X5_lineCount : GoodIn wsX0_gather (wsV RX0 33 RX5 yX5_lineCount wsX5_lineCount) := goodIn_app (goodIn_of _ (by decide +kernel)) ggX0_gather_X5_lineCount
theorem ggX0_gather_X5_has : GoodIn wsX0_gather wsX5_has := fun w h => ⟨(List.mem_cons_of_mem _ (List.mem_append_right _ (List.mem_append_right _ (List.mem_append_right _ (List.mem_append_right _ (List.mem_append_right _ (List.mem_append_right _ (List.mem_append_left _ h)))))))), gdX5_has w h⟩
set_option maxRecDepth 20000 in
theorem gX0_gather_X5_has : GoodIn wsX0_gather (wsV RX0 36 RX5 yX5_has wsX5_has) := goodIn_app (goodIn_of _ (by decide +kernel)) ggX0_gather_X5_has
theorem ggX0_gather_X0_spanFrom : GoodIn wsX0_gather wsX0_spanFrom := fun w h => ⟨(List.mem_cons_of_mem _ (List.mem_append_right _ (List.mem_append_right _ (List.mem_append_right _ (List.mem_append_right _ (List.mem_append_right _ (List.mem_append_right _ (List.mem_append_right _ h)))))))), gdX0_spanFrom w h⟩
set_option maxRecDepth 20000 in
theorem gX0_gather_X0_spanFrom : GoodIn wsX0_gather (va_wsS RX0 40 yX0_spanFrom wsX0_spanFrom) := goodIn_app (goodIn_of _ (by decide +kernel)) ggX0_gather_X0_spanFrom
theorem ggX5_pairOf_X5_hasLine : GoodIn wsX5_pairOf wsX5_hasLine := fun w h => ⟨(List.mem_cons_of_mem _ (List.mem_append_right _ (List.mem_append_right _ h))), gdX5_hasLine w h⟩
set_option maxRecDepth 20000 in
theorem gX5_pairOf_X5_hasLine : GoodIn wsX5_pairOf (wsV RX5 80 RX5 yX5_hasLine wsX5_hasLine) := goodIn_app (goodIn_of _ (by decide +kernel)) ggX5_pairOf_X5_hasLine
theorem ggX0_pairAt_X5_pairOf : GoodIn wsX0_pairAt wsX5_pairOf := fun w h => ⟨(List.mem_cons_of_mem _ (List.mem_append_right _ (List.mem_append_right _ h))), gdX5_pairOf w h⟩
set_option maxRecDepth 20000 in
theorem gX0_pairAt_X5_pairOf : GoodIn wsX0_pairAt (wsV RX0 58 RX5 yX5_pairOf wsX5_pairOf) := goodIn_app (goodIn_of _ (by decide +kernel)) ggX0_pairAt_X5_pairOf
theorem ggX0_sharedWithNext_X5_lesserOf : GoodIn wsX0_sharedWithNext wsX5_lesserOf := fun w h => ⟨(List.mem_cons_of_mem _ (List.mem_append_right _ (List.mem_append_right _ (List.mem_append_left _ h)))), gdX5_lesserOf w h⟩
set_option maxRecDepth 20000 in
theorem gX0_sharedWithNext_X5_lesserOf : GoodIn wsX0_sharedWithNext (wsV RX0 44 RX5 yX5_lesserOf wsX5_lesserOf) := goodIn_app (goodIn_of _ (by decide +kernel)) ggX0_sharedWithNext_X5_lesserOf
theorem ggX0_sharedWithNext_X5_greaterOf : GoodIn wsX0_sharedWithNext wsX5_greaterOf := fun w h => ⟨(List.mem_cons_of_mem _ (List.mem_append_right _ (List.mem_append_right _ (List.mem_append_right _ h)))), gdX5_greaterOf w h⟩
set_option maxRecDepth 20000 in
theorem gX0_sharedWithNext_X5_greaterOf : GoodIn wsX0_sharedWithNext (wsV RX0 50 RX5 yX5_greaterOf wsX5_greaterOf) := goodIn_app (goodIn_of _ (by decide +kernel)) ggX0_sharedWithNext_X5_greaterOf
theorem ggX8_readWord_X8_isLetter : GoodIn wsX8_readWord wsX8_isLetter := fun w h => ⟨(List.mem_cons_of_mem _ (List.mem_append_right _ (List.mem_append_right _ h))), gdX8_isLetter w h⟩
set_option maxRecDepth 20000 in
theorem gX8_readWord_X8_isLetter : GoodIn wsX8_readWord (va_wsS RX8 35 yX8_isLetter wsX8_isLetter) := goodIn_app (goodIn_of _ (by decide +kernel)) ggX8_readWord_X8_isLetter
theorem ggX8_readNumber_X8_isDigit : GoodIn wsX8_readNumber wsX8_isDigit := fun w h => ⟨(List.mem_cons_of_mem _ (List.mem_append_right _ (List.mem_append_right _ h))), gdX8_isDigit w h⟩
set_option maxRecDepth 20000 in
theorem gX8_readNumber_X8_isDigit : GoodIn wsX8_readNumber (va_wsS RX8 41 yX8_isDigit wsX8_isDigit) := goodIn_app (goodIn_of _ (by decide +kernel)) ggX8_readNumber_X8_isDigit
theorem ggX8_readToken_X8_isBlank : GoodIn wsX8_readToken wsX8_isBlank := fun w h => ⟨(List.mem_cons_of_mem _ (List.mem_append_right _ (List.mem_append_right _ (List.mem_append_left _ h)))), gdX8_isBlank w h⟩
set_option maxRecDepth 20000 in
theorem gX8_readToken_X8_isBlank : GoodIn wsX8_readToken (va_wsS RX8 31 yX8_isBlank wsX8_isBlank) := goodIn_app (goodIn_of _ (by decide +kernel)) ggX8_readToken_X8_isBlank
theorem ggX8_readToken_X8_isLetter : GoodIn wsX8_readToken wsX8_isLetter := fun w h => ⟨(List.mem_cons_of_mem _ (List.mem_append_right _ (List.mem_append_right _ (List.mem_append_right _ (List.mem_append_left _ h))))), gdX8_isLetter w h⟩
set_option maxRecDepth 20000 in
theorem gX8_readToken_X8_isLetter : GoodIn wsX8_readToken (va_wsS RX8 35 yX8_isLetter wsX8_isLetter) := goodIn_app (goodIn_of _ (by decide +kernel)) ggX8_readToken_X8_isLetter
theorem ggX8_readToken_X8_readWord : GoodIn wsX8_readToken wsX8_readWord := fun w h => ⟨(List.mem_cons_of_mem _ (List.mem_append_right _ (List.mem_append_right _ (List.mem_append_right _ (List.mem_append_right _ (List.mem_append_left _ h)))))), gdX8_readWord w h⟩
set_option maxRecDepth 20000 in
theorem gX8_readToken_X8_readWord : GoodIn wsX8_readToken (wsV RX8 38 RX8 yX8_readWord wsX8_readWord) := goodIn_app (goodIn_of _ (by decide +kernel)) ggX8_readToken_X8_readWord
theorem ggX8_readToken_X8_isDigit : GoodIn wsX8_readToken wsX8_isDigit := fun w h => ⟨(List.mem_cons_of_mem _ (List.mem_append_right _ (List.mem_append_right _ (List.mem_append_right _ (List.mem_append_right _ (List.mem_append_right _ (List.mem_append_left _ h))))))), gdX8_isDigit w h⟩
set_option maxRecDepth 20000 in
theorem gX8_readToken_X8_isDigit : GoodIn wsX8_readToken (va_wsS RX8 41 yX8_isDigit wsX8_isDigit) := goodIn_app (goodIn_of _ (by decide +kernel)) ggX8_readToken_X8_isDigit
theorem ggX8_readToken_X8_readNumber : GoodIn wsX8_readToken wsX8_readNumber := fun w h => ⟨(List.mem_cons_of_mem _ (List.mem_append_right _ (List.mem_append_right _ (List.mem_append_right _ (List.mem_append_right _ (List.mem_append_right _ (List.mem_append_right _ h))))))), gdX8_readNumber w h⟩
set_option maxRecDepth 20000 in
theorem gX8_readToken_X8_readNumber : GoodIn wsX8_readToken (wsV RX8 44 RX8 yX8_readNumber wsX8_readNumber) := goodIn_app (goodIn_of _ (by decide +kernel)) ggX8_readToken_X8_readNumber
theorem ggJ0_length_8abf5_J0_coder_7d493 : GoodIn wsJ0_length_8abf5 wsJ0_coder_7d493 := fun w h => ⟨(List.mem_cons_of_mem _ (List.mem_append_right _ h)), gdJ0_coder_7d493 w h⟩
set_option maxRecDepth 20000 in
theorem gJ0_length_8abf5_J0_coder_7d493 : GoodIn wsJ0_length_8abf5 (wsV RJ0 335 RJ0 yJ0_coder_7d493 wsJ0_coder_7d493) := goodIn_app (goodIn_of _ (by decide +kernel)) ggJ0_length_8abf5_J0_coder_7d493
theorem ggJ0_checkIndex_df160_J3_checkIndex_8e157 : GoodIn wsJ0_checkIndex_df160 wsJ3_checkIndex_8e157 := fun w h => ⟨(List.mem_cons_of_mem _ (List.mem_append_right _ h)), gdJ3_checkIndex_8e157 w h⟩
set_option maxRecDepth 20000 in
theorem gJ0_checkIndex_df160_J3_checkIndex_8e157 : GoodIn wsJ0_checkIndex_df160 (va_wsS RJ0 1059 yJ3_checkIndex_8e157 wsJ3_checkIndex_8e157) := goodIn_app (goodIn_of _ (by decide +kernel)) ggJ0_checkIndex_df160_J3_checkIndex_8e157
theorem ggJ1_charAt_3b067_J0_checkIndex_df160 : GoodIn wsJ1_charAt_3b067 wsJ0_checkIndex_df160 := fun w h => ⟨(List.mem_cons_of_mem _ (List.mem_append_right _ h)), gdJ0_checkIndex_df160 w h⟩
set_option maxRecDepth 20000 in
theorem gJ1_charAt_3b067_J0_checkIndex_df160 : GoodIn wsJ1_charAt_3b067 (va_wsS RJ1 9 yJ0_checkIndex_df160 wsJ0_checkIndex_df160) := goodIn_app (goodIn_of _ (by decide +kernel)) ggJ1_charAt_3b067_J0_checkIndex_df160
theorem ggJ2_checkIndex_2214a_J2_length_9d52b : GoodIn wsJ2_checkIndex_2214a wsJ2_length_9d52b := fun w h => ⟨(List.mem_cons_of_mem _ (List.mem_append_right _ (List.mem_append_left _ h))), gdJ2_length_9d52b w h⟩
set_option maxRecDepth 20000 in
theorem gJ2_checkIndex_2214a_J2_length_9d52b : GoodIn wsJ2_checkIndex_2214a (va_wsS RJ2 48 yJ2_length_9d52b wsJ2_length_9d52b) := goodIn_app (goodIn_of _ (by decide +kernel)) ggJ2_checkIndex_2214a_J2_length_9d52b
theorem ggJ2_checkIndex_2214a_J0_checkIndex_df160 : GoodIn wsJ2_checkIndex_2214a wsJ0_checkIndex_df160 := fun w h => ⟨(List.mem_cons_of_mem _ (List.mem_append_right _ (List.mem_append_right _ h))), gdJ0_checkIndex_df160 w h⟩
set_option maxRecDepth 20000 in
theorem gJ2_checkIndex_2214a_J0_checkIndex_df160 : GoodIn wsJ2_checkIndex_2214a (va_wsS RJ2 414 yJ0_checkIndex_df160 wsJ0_checkIndex_df160) := goodIn_app (goodIn_of _ (by decide +kernel)) ggJ2_checkIndex_2214a_J0_checkIndex_df160
theorem ggJ2_getChar_3b067_J2_length_9d52b : GoodIn wsJ2_getChar_3b067 wsJ2_length_9d52b := fun w h => ⟨(List.mem_cons_of_mem _ (List.mem_append_right _ h)), gdJ2_length_9d52b w h⟩
set_option maxRecDepth 20000 in
theorem gJ2_getChar_3b067_J2_length_9d52b : GoodIn wsJ2_getChar_3b067 (va_wsS RJ2 48 yJ2_length_9d52b wsJ2_length_9d52b) := goodIn_app (goodIn_of _ (by decide +kernel)) ggJ2_getChar_3b067_J2_length_9d52b
theorem ggJ2_charAt_3b067_J2_checkIndex_2214a : GoodIn wsJ2_charAt_3b067 wsJ2_checkIndex_2214a := fun w h => ⟨(List.mem_cons_of_mem _ (List.mem_append_right _ (List.mem_append_left _ h))), gdJ2_checkIndex_2214a w h⟩
set_option maxRecDepth 20000 in
theorem gJ2_charAt_3b067_J2_checkIndex_2214a : GoodIn wsJ2_charAt_3b067 (va_wsS RJ2 67 yJ2_checkIndex_2214a wsJ2_checkIndex_2214a) := goodIn_app (goodIn_of _ (by decide +kernel)) ggJ2_charAt_3b067_J2_checkIndex_2214a
theorem ggJ2_charAt_3b067_J2_getChar_3b067 : GoodIn wsJ2_charAt_3b067 wsJ2_getChar_3b067 := fun w h => ⟨(List.mem_cons_of_mem _ (List.mem_append_right _ (List.mem_append_right _ h))), gdJ2_getChar_3b067 w h⟩
set_option maxRecDepth 20000 in
theorem gJ2_charAt_3b067_J2_getChar_3b067 : GoodIn wsJ2_charAt_3b067 (va_wsS RJ2 71 yJ2_getChar_3b067 wsJ2_getChar_3b067) := goodIn_app (goodIn_of _ (by decide +kernel)) ggJ2_charAt_3b067_J2_getChar_3b067
theorem ggJ0_charAt_5068e_J0_isLatin1_aae02 : GoodIn wsJ0_charAt_5068e wsJ0_isLatin1_aae02 := fun w h => ⟨(List.mem_cons_of_mem _ (List.mem_append_right _ (List.mem_append_left _ h))), gdJ0_isLatin1_aae02 w h⟩
set_option maxRecDepth 20000 in
theorem gJ0_charAt_5068e_J0_isLatin1_aae02 : GoodIn wsJ0_charAt_5068e (wsV RJ0 492 RJ0 yJ0_isLatin1_aae02 wsJ0_isLatin1_aae02) := goodIn_app (goodIn_of _ (by decide +kernel)) ggJ0_charAt_5068e_J0_isLatin1_aae02
theorem ggJ0_charAt_5068e_J1_charAt_3b067 : GoodIn wsJ0_charAt_5068e wsJ1_charAt_3b067 := fun w h => ⟨(List.mem_cons_of_mem _ (List.mem_append_right _ (List.mem_append_right _ (List.mem_append_left _ h)))), gdJ1_charAt_3b067 w h⟩
set_option maxRecDepth 20000 in
theorem gJ0_charAt_5068e_J1_charAt_3b067 : GoodIn wsJ0_charAt_5068e (va_wsS RJ0 495 yJ1_charAt_3b067 wsJ1_charAt_3b067) := goodIn_app (goodIn_of _ (by decide +kernel)) ggJ0_charAt_5068e_J1_charAt_3b067
theorem ggJ0_charAt_5068e_J2_charAt_3b067 : GoodIn wsJ0_charAt_5068e wsJ2_charAt_3b067 := fun w h => ⟨(List.mem_cons_of_mem _ (List.mem_append_right _ (List.mem_append_right _ (List.mem_append_right _ h)))), gdJ2_charAt_3b067 w h⟩
set_option maxRecDepth 20000 in
theorem gJ0_charAt_5068e_J2_charAt_3b067 : GoodIn wsJ0_charAt_5068e (va_wsS RJ0 498 yJ2_charAt_3b067 wsJ2_charAt_3b067) := goodIn_app (goodIn_of _ (by decide +kernel)) ggJ0_charAt_5068e_J2_charAt_3b067
theorem ggX8_isWord_J0_length_8abf5 : GoodIn wsX8_isWord wsJ0_length_8abf5 := fun w h => ⟨(List.mem_cons_of_mem _ (List.mem_append_right _ (List.mem_append_right _ (List.mem_append_left _ h)))), gdJ0_length_8abf5 w h⟩
set_option maxRecDepth 20000 in
theorem gX8_isWord_J0_length_8abf5 : GoodIn wsX8_isWord (wsV RX8 47 RJ0 yJ0_length_8abf5 wsJ0_length_8abf5) := goodIn_app (goodIn_of _ (by decide +kernel)) ggX8_isWord_J0_length_8abf5
theorem ggX8_isWord_J0_charAt_5068e : GoodIn wsX8_isWord wsJ0_charAt_5068e := fun w h => ⟨(List.mem_cons_of_mem _ (List.mem_append_right _ (List.mem_append_right _ (List.mem_append_right _ h)))), gdJ0_charAt_5068e w h⟩
set_option maxRecDepth 20000 in
theorem gX8_isWord_J0_charAt_5068e : GoodIn wsX8_isWord (wsV RX8 52 RJ0 yJ0_charAt_5068e wsJ0_charAt_5068e) := goodIn_app (goodIn_of _ (by decide +kernel)) ggX8_isWord_J0_charAt_5068e
theorem ggX5_numberLines_X5_numberLine : GoodIn wsX5_numberLines wsX5_numberLine := fun w h => ⟨(List.mem_cons_of_mem _ (List.mem_append_right _ (List.mem_append_right _ h))), gdX5_numberLine w h⟩
set_option maxRecDepth 20000 in
theorem gX5_numberLines_X5_numberLine : GoodIn wsX5_numberLines (wsV RX5 47 RX5 yX5_numberLine wsX5_numberLine) := goodIn_app (goodIn_of _ (by decide +kernel)) ggX5_numberLines_X5_numberLine
theorem ggX5_findCrossers_X5_cross : GoodIn wsX5_findCrossers wsX5_cross := fun w h => ⟨(List.mem_cons_of_mem _ (List.mem_append_right _ (List.mem_append_right _ h))), gdX5_cross w h⟩
set_option maxRecDepth 20000 in
theorem gX5_findCrossers_X5_cross : GoodIn wsX5_findCrossers (va_wsS RX5 51 yX5_cross wsX5_cross) := goodIn_app (goodIn_of _ (by decide +kernel)) ggX5_findCrossers_X5_cross
theorem ggX5_gatherCuts_X5_keepCut : GoodIn wsX5_gatherCuts wsX5_keepCut := fun w h => ⟨(List.mem_cons_of_mem _ (List.mem_append_right _ (List.mem_append_right _ (List.mem_append_left _ h)))), gdX5_keepCut w h⟩
set_option maxRecDepth 20000 in
theorem gX5_gatherCuts_X5_keepCut : GoodIn wsX5_gatherCuts (wsV RX5 55 RX5 yX5_keepCut wsX5_keepCut) := goodIn_app (goodIn_of _ (by decide +kernel)) ggX5_gatherCuts_X5_keepCut
theorem ggX5_gatherCuts_J6_bitCount_0f7a4 : GoodIn wsX5_gatherCuts wsJ6_bitCount_0f7a4 := fun w h => ⟨(List.mem_cons_of_mem _ (List.mem_append_right _ (List.mem_append_right _ (List.mem_append_right _ h)))), gdJ6_bitCount_0f7a4 w h⟩
set_option maxRecDepth 20000 in
theorem gX5_gatherCuts_J6_bitCount_0f7a4 : GoodIn wsX5_gatherCuts (va_wsS RX5 59 yJ6_bitCount_0f7a4 wsJ6_bitCount_0f7a4) := goodIn_app (goodIn_of _ (by decide +kernel)) ggX5_gatherCuts_J6_bitCount_0f7a4
theorem ggX5_gatherCuts_X5_gatherCuts : GoodIn wsX5_gatherCuts wsX5_gatherCuts := fun w h => ⟨h, gdX5_gatherCuts w h⟩
set_option maxRecDepth 20000 in
theorem gX5_gatherCuts_X5_gatherCuts : GoodIn wsX5_gatherCuts (wsV RX5 43 RX5 yX5_gatherCuts wsX5_gatherCuts) := goodIn_app (goodIn_of _ (by decide +kernel)) ggX5_gatherCuts_X5_gatherCuts
theorem ggX5_init_X5_numberLines : GoodIn wsX5_init wsX5_numberLines := fun w h => ⟨(List.mem_cons_of_mem _ (List.mem_append_right _ (List.mem_append_right _ (List.mem_append_left _ h)))), gdX5_numberLines w h⟩
set_option maxRecDepth 20000 in
theorem gX5_init_X5_numberLines : GoodIn wsX5_init (wsV RX5 34 RX5 yX5_numberLines wsX5_numberLines) := goodIn_app (goodIn_of _ (by decide +kernel)) ggX5_init_X5_numberLines
theorem ggX5_init_X5_findCrossers : GoodIn wsX5_init wsX5_findCrossers := fun w h => ⟨(List.mem_cons_of_mem _ (List.mem_append_right _ (List.mem_append_right _ (List.mem_append_right _ (List.mem_append_left _ h))))), gdX5_findCrossers w h⟩
set_option maxRecDepth 20000 in
theorem gX5_init_X5_findCrossers : GoodIn wsX5_init (wsV RX5 37 RX5 yX5_findCrossers wsX5_findCrossers) := goodIn_app (goodIn_of _ (by decide +kernel)) ggX5_init_X5_findCrossers
theorem ggX5_init_X5_gatherCuts : GoodIn wsX5_init wsX5_gatherCuts := fun w h => ⟨(List.mem_cons_of_mem _ (List.mem_append_right _ (List.mem_append_right _ (List.mem_append_right _ (List.mem_append_right _ h))))), gdX5_gatherCuts w h⟩
set_option maxRecDepth 20000 in
theorem gX5_init_X5_gatherCuts : GoodIn wsX5_init (wsV RX5 43 RX5 yX5_gatherCuts wsX5_gatherCuts) := goodIn_app (goodIn_of _ (by decide +kernel)) ggX5_init_X5_gatherCuts
theorem ggX6_withCorners_X5_init : GoodIn wsX6_withCorners wsX5_init := fun w h => ⟨(List.mem_cons_of_mem _ (List.mem_append_right _ (List.mem_append_right _ (List.mem_append_right _ h)))), gdX5_init w h⟩
set_option maxRecDepth 20000 in
theorem gX6_withCorners_X5_init : GoodIn wsX6_withCorners (wsX5_init) := ggX6_withCorners_X5_init
theorem ggX1_takeFirst_X8_kind : GoodIn wsX1_takeFirst wsX8_kind := fun w h => ⟨(List.mem_cons_of_mem _ (List.mem_append_right _ (List.mem_append_right _ (List.mem_append_left _ h)))), gdX8_kind w h⟩
set_option maxRecDepth 20000 in
theorem gX1_takeFirst_X8_kind : GoodIn wsX1_takeFirst (wsV RX1 44 RX8 yX8_kind wsX8_kind) := goodIn_app (goodIn_of _ (by decide +kernel)) ggX1_takeFirst_X8_kind
theorem ggX1_takeFirst_J6_bitCount_0f7a4 : GoodIn wsX1_takeFirst wsJ6_bitCount_0f7a4 := fun w h => ⟨(List.mem_cons_of_mem _ (List.mem_append_right _ (List.mem_append_right _ (List.mem_append_right _ (List.mem_append_left _ h))))), gdJ6_bitCount_0f7a4 w h⟩
set_option maxRecDepth 20000 in
theorem gX1_takeFirst_J6_bitCount_0f7a4 : GoodIn wsX1_takeFirst (va_wsS RX1 70 yJ6_bitCount_0f7a4 wsJ6_bitCount_0f7a4) := goodIn_app (goodIn_of _ (by decide +kernel)) ggX1_takeFirst_J6_bitCount_0f7a4
theorem ggX1_takeFirst_X5_corners : GoodIn wsX1_takeFirst wsX5_corners := fun w h => ⟨(List.mem_cons_of_mem _ (List.mem_append_right _ (List.mem_append_right _ (List.mem_append_right _ (List.mem_append_right _ (List.mem_append_left _ h)))))), gdX5_corners w h⟩
set_option maxRecDepth 20000 in
theorem gX1_takeFirst_X5_corners : GoodIn wsX1_takeFirst (wsV RX1 75 RX5 yX5_corners wsX5_corners) := goodIn_app (goodIn_of _ (by decide +kernel)) ggX1_takeFirst_X5_corners
theorem ggX1_takeFirst_X8_value : GoodIn wsX1_takeFirst wsX8_value := fun w h => ⟨(List.mem_cons_of_mem _ (List.mem_append_right _ (List.mem_append_right _ (List.mem_append_right _ (List.mem_append_right _ (List.mem_append_right _ (List.mem_append_left _ h))))))), gdX8_value w h⟩
set_option maxRecDepth 20000 in
theorem gX1_takeFirst_X8_value : GoodIn wsX1_takeFirst (wsV RX1 53 RX8 yX8_value wsX8_value) := goodIn_app (goodIn_of _ (by decide +kernel)) ggX1_takeFirst_X8_value
theorem ggX1_takeFirst_X5_hasCorner : GoodIn wsX1_takeFirst wsX5_hasCorner := fun w h => ⟨(List.mem_cons_of_mem _ (List.mem_append_right _ (List.mem_append_right _ (List.mem_append_right _ (List.mem_append_right _ (List.mem_append_right _ (List.mem_append_right _ h))))))), gdX5_hasCorner w h⟩
set_option maxRecDepth 20000 in
theorem gX1_takeFirst_X5_hasCorner : GoodIn wsX1_takeFirst (wsV RX1 82 RX5 yX5_hasCorner wsX5_hasCorner) := goodIn_app (goodIn_of _ (by decide +kernel)) ggX1_takeFirst_X5_hasCorner
theorem ggX1_takeSecond_X5_hasCorner : GoodIn wsX1_takeSecond wsX5_hasCorner := fun w h => ⟨(List.mem_cons_of_mem _ (List.mem_append_right _ (List.mem_append_right _ (List.mem_append_left _ h)))), gdX5_hasCorner w h⟩
set_option maxRecDepth 20000 in
theorem gX1_takeSecond_X5_hasCorner : GoodIn wsX1_takeSecond (wsV RX1 82 RX5 yX5_hasCorner wsX5_hasCorner) := goodIn_app (goodIn_of _ (by decide +kernel)) ggX1_takeSecond_X5_hasCorner
theorem ggX1_takeSecond_X5_lineOf : GoodIn wsX1_takeSecond wsX5_lineOf := fun w h => ⟨(List.mem_cons_of_mem _ (List.mem_append_right _ (List.mem_append_right _ (List.mem_append_right _ (List.mem_append_left _ h))))), gdX5_lineOf w h⟩
set_option maxRecDepth 20000 in
theorem gX1_takeSecond_X5_lineOf : GoodIn wsX1_takeSecond (wsV RX1 86 RX5 yX5_lineOf wsX5_lineOf) := goodIn_app (goodIn_of _ (by decide +kernel)) ggX1_takeSecond_X5_lineOf
theorem ggX1_takeSecond_X5_has : GoodIn wsX1_takeSecond wsX5_has := fun w h => ⟨(List.mem_cons_of_mem _ (List.mem_append_right _ (List.mem_append_right _ (List.mem_append_right _ (List.mem_append_right _ (List.mem_append_left _ h)))))), gdX5_has w h⟩
set_option maxRecDepth 20000 in
theorem gX1_takeSecond_X5_has : GoodIn wsX1_takeSecond (wsV RX1 90 RX5 yX5_has wsX5_has) := goodIn_app (goodIn_of _ (by decide +kernel)) ggX1_takeSecond_X5_has
theorem ggX1_takeSecond_X5_crossersOf : GoodIn wsX1_takeSecond wsX5_crossersOf := fun w h => ⟨(List.mem_cons_of_mem _ (List.mem_append_right _ (List.mem_append_right _ (List.mem_append_right _ (List.mem_append_right _ (List.mem_append_right _ h)))))), gdX5_crossersOf w h⟩
set_option maxRecDepth 20000 in
theorem gX1_takeSecond_X5_crossersOf : GoodIn wsX1_takeSecond (wsV RX1 94 RX5 yX5_crossersOf wsX5_crossersOf) := goodIn_app (goodIn_of _ (by decide +kernel)) ggX1_takeSecond_X5_crossersOf
theorem ggX1_takeToken_X8_isWord : GoodIn wsX1_takeToken wsX8_isWord := fun w h => ⟨(List.mem_cons_of_mem _ (List.mem_append_right _ (List.mem_append_right _ (List.mem_append_left _ h)))), gdX8_isWord w h⟩
set_option maxRecDepth 20000 in
theorem gX1_takeToken_X8_isWord : GoodIn wsX1_takeToken (wsV RX1 49 RX8 yX8_isWord wsX8_isWord) := goodIn_app (goodIn_of _ (by decide +kernel)) ggX1_takeToken_X8_isWord
theorem ggX1_takeToken_X8_kind : GoodIn wsX1_takeToken wsX8_kind := fun w h => ⟨(List.mem_cons_of_mem _ (List.mem_append_right _ (List.mem_append_right _ (List.mem_append_right _ (List.mem_append_left _ h))))), gdX8_kind w h⟩
set_option maxRecDepth 20000 in
theorem gX1_takeToken_X8_kind : GoodIn wsX1_takeToken (wsV RX1 44 RX8 yX8_kind wsX8_kind) := goodIn_app (goodIn_of _ (by decide +kernel)) ggX1_takeToken_X8_kind
theorem ggX1_takeToken_X8_value : GoodIn wsX1_takeToken wsX8_value := fun w h => ⟨(List.mem_cons_of_mem _ (List.mem_append_right _ (List.mem_append_right _ (List.mem_append_right _ (List.mem_append_right _ (List.mem_append_left _ h)))))), gdX8_value w h⟩
set_option maxRecDepth 20000 in
theorem gX1_takeToken_X8_value : GoodIn wsX1_takeToken (wsV RX1 53 RX8 yX8_value wsX8_value) := goodIn_app (goodIn_of _ (by decide +kernel)) ggX1_takeToken_X8_value
theorem ggX1_takeToken_X6_withCorners : GoodIn wsX1_takeToken wsX6_withCorners := fun w h => ⟨(List.mem_cons_of_mem _ (List.mem_append_right _ (List.mem_append_right _ (List.mem_append_right _ (List.mem_append_right _ (List.mem_append_right _ (List.mem_append_left _ h))))))), gdX6_withCorners w h⟩
set_option maxRecDepth 20000 in
theorem gX1_takeToken_X6_withCorners : GoodIn wsX1_takeToken (wsV RX1 56 RX6 yX6_withCorners wsX6_withCorners) := goodIn_app (goodIn_of _ (by decide +kernel)) ggX1_takeToken_X6_withCorners
theorem ggX1_takeToken_X1_takeFirst : GoodIn wsX1_takeToken wsX1_takeFirst := fun w h => ⟨(List.mem_cons_of_mem _ (List.mem_append_right _ (List.mem_append_right _ (List.mem_append_right _ (List.mem_append_right _ (List.mem_append_right _ (List.mem_append_right _ (List.mem_append_left _ h)))))))), gdX1_takeFirst w h⟩
set_option maxRecDepth 20000 in
theorem gX1_takeToken_X1_takeFirst : GoodIn wsX1_takeToken (wsV RX1 62 RX1 yX1_takeFirst wsX1_takeFirst) := goodIn_app (goodIn_of _ (by decide +kernel)) ggX1_takeToken_X1_takeFirst
theorem ggX1_takeToken_X1_takeSecond : GoodIn wsX1_takeToken wsX1_takeSecond := fun w h => ⟨(List.mem_cons_of_mem _ (List.mem_append_right _ (List.mem_append_right _ (List.mem_append_right _ (List.mem_append_right _ (List.mem_append_right _ (List.mem_append_right _ (List.mem_append_right _ h)))))))), gdX1_takeSecond w h⟩
set_option maxRecDepth 20000 in
theorem gX1_takeToken_X1_takeSecond : GoodIn wsX1_takeToken (wsV RX1 66 RX1 yX1_takeSecond wsX1_takeSecond) := goodIn_app (goodIn_of _ (by decide +kernel)) ggX1_takeToken_X1_takeSecond
theorem ggX1_understand_X8_rewind : GoodIn wsX1_understand wsX8_rewind := fun w h => ⟨(List.mem_cons_of_mem _ (List.mem_append_right _ (List.mem_append_right _ (List.mem_append_left _ h)))), gdX8_rewind w h⟩
set_option maxRecDepth 20000 in
theorem gX1_understand_X8_rewind : GoodIn wsX1_understand (wsV RX1 28 RX8 yX8_rewind wsX8_rewind) := goodIn_app (goodIn_of _ (by decide +kernel)) ggX1_understand_X8_rewind
theorem ggX1_understand_X8_readToken : GoodIn wsX1_understand wsX8_readToken := fun w h => ⟨(List.mem_cons_of_mem _ (List.mem_append_right _ (List.mem_append_right _ (List.mem_append_right _ (List.mem_append_left _ h))))), gdX8_readToken w h⟩
set_option maxRecDepth 20000 in
theorem gX1_understand_X8_readToken : GoodIn wsX1_understand (wsV RX1 33 RX8 yX8_readToken wsX8_readToken) := goodIn_app (goodIn_of _ (by decide +kernel)) ggX1_understand_X8_readToken
theorem ggX1_understand_X1_takeToken : GoodIn wsX1_understand wsX1_takeToken := fun w h => ⟨(List.mem_cons_of_mem _ (List.mem_append_right _ (List.mem_append_right _ (List.mem_append_right _ (List.mem_append_right _ (List.mem_append_left _ h)))))), gdX1_takeToken w h⟩
set_option maxRecDepth 20000 in
theorem gX1_understand_X1_takeToken : GoodIn wsX1_understand (wsV RX1 36 RX1 yX1_takeToken wsX1_takeToken) := goodIn_app (goodIn_of _ (by decide +kernel)) ggX1_understand_X1_takeToken
theorem ggX1_understand_X8_place : GoodIn wsX1_understand wsX8_place := fun w h => ⟨(List.mem_cons_of_mem _ (List.mem_append_right _ (List.mem_append_right _ (List.mem_append_right _ (List.mem_append_right _ (List.mem_append_right _ (List.mem_append_left _ h))))))), gdX8_place w h⟩
set_option maxRecDepth 20000 in
theorem gX1_understand_X8_place : GoodIn wsX1_understand (wsV RX1 40 RX8 yX8_place wsX8_place) := goodIn_app (goodIn_of _ (by decide +kernel)) ggX1_understand_X8_place
theorem ggX1_understand_X8_kind : GoodIn wsX1_understand wsX8_kind := fun w h => ⟨(List.mem_cons_of_mem _ (List.mem_append_right _ (List.mem_append_right _ (List.mem_append_right _ (List.mem_append_right _ (List.mem_append_right _ (List.mem_append_right _ h))))))), gdX8_kind w h⟩
set_option maxRecDepth 20000 in
theorem gX1_understand_X8_kind : GoodIn wsX1_understand (wsV RX1 44 RX8 yX8_kind wsX8_kind) := goodIn_app (goodIn_of _ (by decide +kernel)) ggX1_understand_X8_kind
theorem ggX2_wrapped_J9_floorMod_7cf53 : GoodIn wsX2_wrapped wsJ9_floorMod_7cf53 := fun w h => ⟨(List.mem_cons_of_mem _ (List.mem_append_right _ (List.mem_append_right _ h))), gdJ9_floorMod_7cf53 w h⟩
set_option maxRecDepth 20000 in
theorem gX2_wrapped_J9_floorMod_7cf53 : GoodIn wsX2_wrapped (va_wsS RX2 29 yJ9_floorMod_7cf53 wsJ9_floorMod_7cf53) := goodIn_app (goodIn_of _ (by decide +kernel)) ggX2_wrapped_J9_floorMod_7cf53
theorem ggX2_at_X2_wrapped : GoodIn wsX2_at wsX2_wrapped := fun w h => ⟨(List.mem_cons_of_mem _ (List.mem_append_right _ (List.mem_append_right _ h))), gdX2_wrapped w h⟩
set_option maxRecDepth 20000 in
theorem gX2_at_X2_wrapped : GoodIn wsX2_at (wsV RX2 25 RX2 yX2_wrapped wsX2_wrapped) := goodIn_app (goodIn_of _ (by decide +kernel)) ggX2_at_X2_wrapped
theorem ggX2_entryAt_X2_at : GoodIn wsX2_entryAt wsX2_at := fun w h => ⟨(List.mem_cons_of_mem _ (List.mem_append_right _ h)), gdX2_at w h⟩
set_option maxRecDepth 20000 in
theorem gX2_entryAt_X2_at : GoodIn wsX2_entryAt (wsV RX2 32 RX2 yX2_at wsX2_at) := goodIn_app (goodIn_of _ (by decide +kernel)) ggX2_entryAt_X2_at
theorem ggX2_breakPlace_X2_entryAt : GoodIn wsX2_breakPlace wsX2_entryAt := fun w h => ⟨(List.mem_cons_of_mem _ (List.mem_append_right _ (List.mem_append_right _ h))), gdX2_entryAt w h⟩
set_option maxRecDepth 20000 in
theorem gX2_breakPlace_X2_entryAt : GoodIn wsX2_breakPlace (wsV RX2 38 RX2 yX2_entryAt wsX2_entryAt) := goodIn_app (goodIn_of _ (by decide +kernel)) ggX2_breakPlace_X2_entryAt
theorem ggX2_breakLength_X2_breakPlace : GoodIn wsX2_breakLength wsX2_breakPlace := fun w h => ⟨(List.mem_cons_of_mem _ (List.mem_append_right _ h)), gdX2_breakPlace w h⟩
set_option maxRecDepth 20000 in
theorem gX2_breakLength_X2_breakPlace : GoodIn wsX2_breakLength (wsV RX2 35 RX2 yX2_breakPlace wsX2_breakPlace) := goodIn_app (goodIn_of _ (by decide +kernel)) ggX2_breakLength_X2_breakPlace
theorem ggX2_allAre_X2_entryAt : GoodIn wsX2_allAre wsX2_entryAt := fun w h => ⟨(List.mem_cons_of_mem _ (List.mem_append_right _ (List.mem_append_right _ h))), gdX2_entryAt w h⟩
set_option maxRecDepth 20000 in
theorem gX2_allAre_X2_entryAt : GoodIn wsX2_allAre (wsV RX2 38 RX2 yX2_entryAt wsX2_entryAt) := goodIn_app (goodIn_of _ (by decide +kernel)) ggX2_allAre_X2_entryAt
theorem ggX2_comesBack_X2_allAre : GoodIn wsX2_comesBack wsX2_allAre := fun w h => ⟨(List.mem_cons_of_mem _ (List.mem_append_right _ h)), gdX2_allAre w h⟩
set_option maxRecDepth 20000 in
theorem gX2_comesBack_X2_allAre : GoodIn wsX2_comesBack (wsV RX2 42 RX2 yX2_allAre wsX2_allAre) := goodIn_app (goodIn_of _ (by decide +kernel)) ggX2_comesBack_X2_allAre
theorem ggX2_growthOfRound_X2_entryAt : GoodIn wsX2_growthOfRound wsX2_entryAt := fun w h => ⟨(List.mem_cons_of_mem _ (List.mem_append_right _ (List.mem_append_right _ h))), gdX2_entryAt w h⟩
set_option maxRecDepth 20000 in
theorem gX2_growthOfRound_X2_entryAt : GoodIn wsX2_growthOfRound (wsV RX2 38 RX2 yX2_entryAt wsX2_entryAt) := goodIn_app (goodIn_of _ (by decide +kernel)) ggX2_growthOfRound_X2_entryAt
theorem ggX2_canGlue_X2_at : GoodIn wsX2_canGlue wsX2_at := fun w h => ⟨(List.mem_cons_of_mem _ (List.mem_append_right _ (List.mem_append_right _ h))), gdX2_at w h⟩
set_option maxRecDepth 20000 in
theorem gX2_canGlue_X2_at : GoodIn wsX2_canGlue (wsV RX2 32 RX2 yX2_at wsX2_at) := goodIn_app (goodIn_of _ (by decide +kernel)) ggX2_canGlue_X2_at
theorem ggX2_glueBehind_X2_hasPlace : GoodIn wsX2_glueBehind wsX2_hasPlace := fun w h => ⟨(List.mem_cons_of_mem _ (List.mem_append_right _ (List.mem_append_right _ (List.mem_append_left _ h)))), gdX2_hasPlace w h⟩
set_option maxRecDepth 20000 in
theorem gX2_glueBehind_X2_hasPlace : GoodIn wsX2_glueBehind (wsV RX2 48 RX2 yX2_hasPlace wsX2_hasPlace) := goodIn_app (goodIn_of _ (by decide +kernel)) ggX2_glueBehind_X2_hasPlace
theorem ggX2_glueBehind_X2_canGlue : GoodIn wsX2_glueBehind wsX2_canGlue := fun w h => ⟨(List.mem_cons_of_mem _ (List.mem_append_right _ (List.mem_append_right _ (List.mem_append_right _ (List.mem_append_left _ h))))), gdX2_canGlue w h⟩
set_option maxRecDepth 20000 in
theorem gX2_glueBehind_X2_canGlue : GoodIn wsX2_glueBehind (wsV RX2 52 RX2 yX2_canGlue wsX2_canGlue) := goodIn_app (goodIn_of _ (by decide +kernel)) ggX2_glueBehind_X2_canGlue
theorem ggX2_glueBehind_X2_wrapped : GoodIn wsX2_glueBehind wsX2_wrapped := fun w h => ⟨(List.mem_cons_of_mem _ (List.mem_append_right _ (List.mem_append_right _ (List.mem_append_right _ (List.mem_append_right _ h))))), gdX2_wrapped w h⟩
set_option maxRecDepth 20000 in
theorem gX2_glueBehind_X2_wrapped : GoodIn wsX2_glueBehind (wsV RX2 25 RX2 yX2_wrapped wsX2_wrapped) := goodIn_app (goodIn_of _ (by decide +kernel)) ggX2_glueBehind_X2_wrapped
theorem ggX2_canLose_X2_at : GoodIn wsX2_canLose wsX2_at := fun w h => ⟨(List.mem_cons_of_mem _ (List.mem_append_right _ (List.mem_append_right _ h))), gdX2_at w h⟩
set_option maxRecDepth 20000 in
theorem gX2_canLose_X2_at : GoodIn wsX2_canLose (wsV RX2 32 RX2 yX2_at wsX2_at) := goodIn_app (goodIn_of _ (by decide +kernel)) ggX2_canLose_X2_at
theorem ggX2_lose_X2_hasPlace : GoodIn wsX2_lose wsX2_hasPlace := fun w h => ⟨(List.mem_cons_of_mem _ (List.mem_append_right _ (List.mem_append_right _ (List.mem_append_left _ h)))), gdX2_hasPlace w h⟩
set_option maxRecDepth 20000 in
theorem gX2_lose_X2_hasPlace : GoodIn wsX2_lose (wsV RX2 48 RX2 yX2_hasPlace wsX2_hasPlace) := goodIn_app (goodIn_of _ (by decide +kernel)) ggX2_lose_X2_hasPlace
theorem ggX2_lose_X2_canLose : GoodIn wsX2_lose wsX2_canLose := fun w h => ⟨(List.mem_cons_of_mem _ (List.mem_append_right _ (List.mem_append_right _ (List.mem_append_right _ (List.mem_append_left _ h))))), gdX2_canLose w h⟩
set_option maxRecDepth 20000 in
theorem gX2_lose_X2_canLose : GoodIn wsX2_lose (wsV RX2 55 RX2 yX2_canLose wsX2_canLose) := goodIn_app (goodIn_of _ (by decide +kernel)) ggX2_lose_X2_canLose
theorem ggX2_lose_X2_wrapped : GoodIn wsX2_lose wsX2_wrapped := fun w h => ⟨(List.mem_cons_of_mem _ (List.mem_append_right _ (List.mem_append_right _ (List.mem_append_right _ (List.mem_append_right _ h))))), gdX2_wrapped w h⟩
set_option maxRecDepth 20000 in
theorem gX2_lose_X2_wrapped : GoodIn wsX2_lose (wsV RX2 25 RX2 yX2_wrapped wsX2_wrapped) := goodIn_app (goodIn_of _ (by decide +kernel)) ggX2_lose_X2_wrapped
theorem ggX2_loseAll_X2_firstOne : GoodIn wsX2_loseAll wsX2_firstOne := fun w h => ⟨(List.mem_cons_of_mem _ (List.mem_append_right _ (List.mem_append_left _ h))), gdX2_firstOne w h⟩
set_option maxRecDepth 20000 in
theorem gX2_loseAll_X2_firstOne : GoodIn wsX2_loseAll (wsV RX2 58 RX2 yX2_firstOne wsX2_firstOne) := goodIn_app (goodIn_of _ (by decide +kernel)) ggX2_loseAll_X2_firstOne
theorem ggX2_loseAll_X2_canLose : GoodIn wsX2_loseAll wsX2_canLose := fun w h => ⟨(List.mem_cons_of_mem _ (List.mem_append_right _ (List.mem_append_right _ (List.mem_append_left _ h)))), gdX2_canLose w h⟩
set_option maxRecDepth 20000 in
theorem gX2_loseAll_X2_canLose : GoodIn wsX2_loseAll (wsV RX2 55 RX2 yX2_canLose wsX2_canLose) := goodIn_app (goodIn_of _ (by decide +kernel)) ggX2_loseAll_X2_canLose
theorem ggX2_loseAll_X2_lose : GoodIn wsX2_loseAll wsX2_lose := fun w h => ⟨(List.mem_cons_of_mem _ (List.mem_append_right _ (List.mem_append_right _ (List.mem_append_right _ h)))), gdX2_lose w h⟩
set_option maxRecDepth 20000 in
theorem gX2_loseAll_X2_lose : GoodIn wsX2_loseAll (wsV RX2 62 RX2 yX2_lose wsX2_lose) := goodIn_app (goodIn_of _ (by decide +kernel)) ggX2_loseAll_X2_lose
theorem ggX7_recall_X7_has : GoodIn wsX7_recall wsX7_has := fun w h => ⟨(List.mem_cons_of_mem _ (List.mem_append_right _ (List.mem_append_right _ h))), gdX7_has w h⟩
set_option maxRecDepth 20000 in
theorem gX7_recall_X7_has : GoodIn wsX7_recall (wsV RX7 46 RX7 yX7_has wsX7_has) := goodIn_app (goodIn_of _ (by decide +kernel)) ggX7_recall_X7_has
theorem ggX5_cutAt_X5_hasCut : GoodIn wsX5_cutAt wsX5_hasCut := fun w h => ⟨(List.mem_cons_of_mem _ (List.mem_append_right _ (List.mem_append_right _ h))), gdX5_hasCut w h⟩
set_option maxRecDepth 20000 in
theorem gX5_cutAt_X5_hasCut : GoodIn wsX5_cutAt (wsV RX5 68 RX5 yX5_hasCut wsX5_hasCut) := goodIn_app (goodIn_of _ (by decide +kernel)) ggX5_cutAt_X5_hasCut
theorem ggX5_trianglesAt_X5_hasCorner : GoodIn wsX5_trianglesAt wsX5_hasCorner := fun w h => ⟨(List.mem_cons_of_mem _ (List.mem_append_right _ (List.mem_append_right _ (List.mem_append_left _ h)))), gdX5_hasCorner w h⟩
set_option maxRecDepth 20000 in
theorem gX5_trianglesAt_X5_hasCorner : GoodIn wsX5_trianglesAt (wsV RX5 77 RX5 yX5_hasCorner wsX5_hasCorner) := goodIn_app (goodIn_of _ (by decide +kernel)) ggX5_trianglesAt_X5_hasCorner
theorem ggX5_trianglesAt_J6_bitCount_0f7a4 : GoodIn wsX5_trianglesAt wsJ6_bitCount_0f7a4 := fun w h => ⟨(List.mem_cons_of_mem _ (List.mem_append_right _ (List.mem_append_right _ (List.mem_append_right _ h)))), gdJ6_bitCount_0f7a4 w h⟩
set_option maxRecDepth 20000 in
theorem gX5_trianglesAt_J6_bitCount_0f7a4 : GoodIn wsX5_trianglesAt (va_wsS RX5 59 yJ6_bitCount_0f7a4 wsJ6_bitCount_0f7a4) := goodIn_app (goodIn_of _ (by decide +kernel)) ggX5_trianglesAt_J6_bitCount_0f7a4
theorem ggX5_entryOf_X5_trianglesAt : GoodIn wsX5_entryOf wsX5_trianglesAt := fun w h => ⟨(List.mem_cons_of_mem _ (List.mem_append_right _ h)), gdX5_trianglesAt w h⟩
set_option maxRecDepth 20000 in
theorem gX5_entryOf_X5_trianglesAt : GoodIn wsX5_entryOf (wsV RX5 100 RX5 yX5_trianglesAt wsX5_trianglesAt) := goodIn_app (goodIn_of _ (by decide +kernel)) ggX5_entryOf_X5_trianglesAt
theorem ggX7_agreeWith_X5_entryOf : GoodIn wsX7_agreeWith wsX5_entryOf := fun w h => ⟨(List.mem_cons_of_mem _ (List.mem_append_right _ (List.mem_append_right _ h))), gdX5_entryOf w h⟩
set_option maxRecDepth 20000 in
theorem gX7_agreeWith_X5_entryOf : GoodIn wsX7_agreeWith (wsV RX7 53 RX5 yX5_entryOf wsX5_entryOf) := goodIn_app (goodIn_of _ (by decide +kernel)) ggX7_agreeWith_X5_entryOf
theorem ggX3_gather_X7_recall : GoodIn wsX3_gather wsX7_recall := fun w h => ⟨(List.mem_cons_of_mem _ (List.mem_append_right _ (List.mem_append_right _ (List.mem_append_left _ h)))), gdX7_recall w h⟩
set_option maxRecDepth 20000 in
theorem gX3_gather_X7_recall : GoodIn wsX3_gather (wsV RX3 22 RX7 yX7_recall wsX7_recall) := goodIn_app (goodIn_of _ (by decide +kernel)) ggX3_gather_X7_recall
theorem ggX3_gather_X5_cutCount : GoodIn wsX3_gather wsX5_cutCount := fun w h => ⟨(List.mem_cons_of_mem _ (List.mem_append_right _ (List.mem_append_right _ (List.mem_append_right _ (List.mem_append_left _ h))))), gdX5_cutCount w h⟩
set_option maxRecDepth 20000 in
theorem gX3_gather_X5_cutCount : GoodIn wsX3_gather (wsV RX3 28 RX5 yX5_cutCount wsX5_cutCount) := goodIn_app (goodIn_of _ (by decide +kernel)) ggX3_gather_X5_cutCount
theorem ggX3_gather_X5_cutAt : GoodIn wsX3_gather wsX5_cutAt := fun w h => ⟨(List.mem_cons_of_mem _ (List.mem_append_right _ (List.mem_append_right _ (List.mem_append_right _ (List.mem_append_right _ (List.mem_append_left _ h)))))), gdX5_cutAt w h⟩
set_option maxRecDepth 20000 in
theorem gX3_gather_X5_cutAt : GoodIn wsX3_gather (wsV RX3 34 RX5 yX5_cutAt wsX5_cutAt) := goodIn_app (goodIn_of _ (by decide +kernel)) ggX3_gather_X5_cutAt
theorem ggX3_gather_X7_agreeWith : GoodIn wsX3_gather wsX7_agreeWith := fun w h => ⟨(List.mem_cons_of_mem _ (List.mem_append_right _ (List.mem_append_right _ (List.mem_append_right _ (List.mem_append_right _ (List.mem_append_right _ h)))))), gdX7_agreeWith w h⟩
set_option maxRecDepth 20000 in
theorem gX3_gather_X7_agreeWith : GoodIn wsX3_gather (wsV RX3 38 RX7 yX7_agreeWith wsX7_agreeWith) := goodIn_app (goodIn_of _ (by decide +kernel)) ggX3_gather_X7_agreeWith
theorem ggX3_howSure_X5_cutAt : GoodIn wsX3_howSure wsX5_cutAt := fun w h => ⟨(List.mem_cons_of_mem _ (List.mem_append_right _ (List.mem_append_right _ (List.mem_append_left _ h)))), gdX5_cutAt w h⟩
set_option maxRecDepth 20000 in
theorem gX3_howSure_X5_cutAt : GoodIn wsX3_howSure (wsV RX3 34 RX5 yX5_cutAt wsX5_cutAt) := goodIn_app (goodIn_of _ (by decide +kernel)) ggX3_howSure_X5_cutAt
theorem ggX3_howSure_X5_has : GoodIn wsX3_howSure wsX5_has := fun w h => ⟨(List.mem_cons_of_mem _ (List.mem_append_right _ (List.mem_append_right _ (List.mem_append_right _ h)))), gdX5_has w h⟩
set_option maxRecDepth 20000 in
theorem gX3_howSure_X5_has : GoodIn wsX3_howSure (wsV RX3 42 RX5 yX5_has wsX5_has) := goodIn_app (goodIn_of _ (by decide +kernel)) ggX3_howSure_X5_has
theorem ggX3_mostAgreeing_X5_cutAt : GoodIn wsX3_mostAgreeing wsX5_cutAt := fun w h => ⟨(List.mem_cons_of_mem _ (List.mem_append_right _ (List.mem_append_right _ (List.mem_append_left _ h)))), gdX5_cutAt w h⟩
set_option maxRecDepth 20000 in
theorem gX3_mostAgreeing_X5_cutAt : GoodIn wsX3_mostAgreeing (wsV RX3 34 RX5 yX5_cutAt wsX5_cutAt) := goodIn_app (goodIn_of _ (by decide +kernel)) ggX3_mostAgreeing_X5_cutAt
theorem ggX3_mostAgreeing_X5_entryOf : GoodIn wsX3_mostAgreeing wsX5_entryOf := fun w h => ⟨(List.mem_cons_of_mem _ (List.mem_append_right _ (List.mem_append_right _ (List.mem_append_right _ h)))), gdX5_entryOf w h⟩
set_option maxRecDepth 20000 in
theorem gX3_mostAgreeing_X5_entryOf : GoodIn wsX3_mostAgreeing (wsV RX3 62 RX5 yX5_entryOf wsX5_entryOf) := goodIn_app (goodIn_of _ (by decide +kernel)) ggX3_mostAgreeing_X5_entryOf
theorem ggX3_bestQuestion_X5_lineCount : GoodIn wsX3_bestQuestion wsX5_lineCount := fun w h => ⟨(List.mem_cons_of_mem _ (List.mem_append_right _ (List.mem_append_right _ (List.mem_append_left _ h)))), gdX5_lineCount w h⟩
set_option maxRecDepth 20000 in
theorem gX3_bestQuestion_X5_lineCount : GoodIn wsX3_bestQuestion (wsV RX3 46 RX5 yX5_lineCount wsX5_lineCount) := goodIn_app (goodIn_of _ (by decide +kernel)) ggX3_bestQuestion_X5_lineCount
theorem ggX3_bestQuestion_X5_lesserOf : GoodIn wsX3_bestQuestion wsX5_lesserOf := fun w h => ⟨(List.mem_cons_of_mem _ (List.mem_append_right _ (List.mem_append_right _ (List.mem_append_right _ (List.mem_append_left _ h))))), gdX5_lesserOf w h⟩
set_option maxRecDepth 20000 in
theorem gX3_bestQuestion_X5_lesserOf : GoodIn wsX3_bestQuestion (wsV RX3 49 RX5 yX5_lesserOf wsX5_lesserOf) := goodIn_app (goodIn_of _ (by decide +kernel)) ggX3_bestQuestion_X5_lesserOf
theorem ggX3_bestQuestion_X5_greaterOf : GoodIn wsX3_bestQuestion wsX5_greaterOf := fun w h => ⟨(List.mem_cons_of_mem _ (List.mem_append_right _ (List.mem_append_right _ (List.mem_append_right _ (List.mem_append_right _ (List.mem_append_left _ h)))))), gdX5_greaterOf w h⟩
set_option maxRecDepth 20000 in
theorem gX3_bestQuestion_X5_greaterOf : GoodIn wsX3_bestQuestion (wsV RX3 52 RX5 yX5_greaterOf wsX5_greaterOf) := goodIn_app (goodIn_of _ (by decide +kernel)) ggX3_bestQuestion_X5_greaterOf
theorem ggX3_bestQuestion_X3_mostAgreeing : GoodIn wsX3_bestQuestion wsX3_mostAgreeing := fun w h => ⟨(List.mem_cons_of_mem _ (List.mem_append_right _ (List.mem_append_right _ (List.mem_append_right _ (List.mem_append_right _ (List.mem_append_right _ (List.mem_append_left _ h))))))), gdX3_mostAgreeing w h⟩
set_option maxRecDepth 20000 in
theorem gX3_bestQuestion_X3_mostAgreeing : GoodIn wsX3_bestQuestion (wsV RX3 55 RX3 yX3_mostAgreeing wsX3_mostAgreeing) := goodIn_app (goodIn_of _ (by decide +kernel)) ggX3_bestQuestion_X3_mostAgreeing
theorem ggX3_bestQuestion_X5_pairOf : GoodIn wsX3_bestQuestion wsX5_pairOf := fun w h => ⟨(List.mem_cons_of_mem _ (List.mem_append_right _ (List.mem_append_right _ (List.mem_append_right _ (List.mem_append_right _ (List.mem_append_right _ (List.mem_append_right _ h))))))), gdX5_pairOf w h⟩
set_option maxRecDepth 20000 in
theorem gX3_bestQuestion_X5_pairOf : GoodIn wsX3_bestQuestion (wsV RX3 59 RX5 yX5_pairOf wsX5_pairOf) := goodIn_app (goodIn_of _ (by decide +kernel)) ggX3_bestQuestion_X5_pairOf
theorem ggX5_neighbourWith_X5_crossersOf : GoodIn wsX5_neighbourWith wsX5_crossersOf := fun w h => ⟨(List.mem_cons_of_mem _ (List.mem_append_right _ (List.mem_append_left _ h))), gdX5_crossersOf w h⟩
set_option maxRecDepth 20000 in
theorem gX5_neighbourWith_X5_crossersOf : GoodIn wsX5_neighbourWith (wsV RX5 103 RX5 yX5_crossersOf wsX5_crossersOf) := goodIn_app (goodIn_of _ (by decide +kernel)) ggX5_neighbourWith_X5_crossersOf
theorem ggX5_neighbourWith_J6_bitCount_0f7a4 : GoodIn wsX5_neighbourWith wsJ6_bitCount_0f7a4 := fun w h => ⟨(List.mem_cons_of_mem _ (List.mem_append_right _ (List.mem_append_right _ (List.mem_append_left _ h)))), gdJ6_bitCount_0f7a4 w h⟩
set_option maxRecDepth 20000 in
theorem gX5_neighbourWith_J6_bitCount_0f7a4 : GoodIn wsX5_neighbourWith (va_wsS RX5 59 yJ6_bitCount_0f7a4 wsJ6_bitCount_0f7a4) := goodIn_app (goodIn_of _ (by decide +kernel)) ggX5_neighbourWith_J6_bitCount_0f7a4
theorem ggX5_neighbourWith_X5_numberOf : GoodIn wsX5_neighbourWith wsX5_numberOf := fun w h => ⟨(List.mem_cons_of_mem _ (List.mem_append_right _ (List.mem_append_right _ (List.mem_append_right _ h)))), gdX5_numberOf w h⟩
set_option maxRecDepth 20000 in
theorem gX5_neighbourWith_X5_numberOf : GoodIn wsX5_neighbourWith (wsV RX5 106 RX5 yX5_numberOf wsX5_numberOf) := goodIn_app (goodIn_of _ (by decide +kernel)) ggX5_neighbourWith_X5_numberOf
theorem ggX4_measure_X4_comeTo : GoodIn wsX4_measure wsX4_comeTo := fun w h => ⟨(List.mem_cons_of_mem _ (List.mem_append_right _ (List.mem_append_right _ (List.mem_append_left _ h)))), gdX4_comeTo w h⟩
set_option maxRecDepth 20000 in
theorem gX4_measure_X4_comeTo : GoodIn wsX4_measure (wsV RX4 25 RX4 yX4_comeTo wsX4_comeTo) := goodIn_app (goodIn_of _ (by decide +kernel)) ggX4_measure_X4_comeTo
theorem ggX4_measure_X5_cutAt : GoodIn wsX4_measure wsX5_cutAt := fun w h => ⟨(List.mem_cons_of_mem _ (List.mem_append_right _ (List.mem_append_right _ (List.mem_append_right _ (List.mem_append_left _ h))))), gdX5_cutAt w h⟩
set_option maxRecDepth 20000 in
theorem gX4_measure_X5_cutAt : GoodIn wsX4_measure (wsV RX4 29 RX5 yX5_cutAt wsX5_cutAt) := goodIn_app (goodIn_of _ (by decide +kernel)) ggX4_measure_X5_cutAt
theorem ggX4_measure_X5_lineCount : GoodIn wsX4_measure wsX5_lineCount := fun w h => ⟨(List.mem_cons_of_mem _ (List.mem_append_right _ (List.mem_append_right _ (List.mem_append_right _ (List.mem_append_right _ (List.mem_append_left _ h)))))), gdX5_lineCount w h⟩
set_option maxRecDepth 20000 in
theorem gX4_measure_X5_lineCount : GoodIn wsX4_measure (wsV RX4 35 RX5 yX5_lineCount wsX5_lineCount) := goodIn_app (goodIn_of _ (by decide +kernel)) ggX4_measure_X5_lineCount
theorem ggX4_measure_X5_neighbourWith : GoodIn wsX4_measure wsX5_neighbourWith := fun w h => ⟨(List.mem_cons_of_mem _ (List.mem_append_right _ (List.mem_append_right _ (List.mem_append_right _ (List.mem_append_right _ (List.mem_append_right _ (List.mem_append_left _ h))))))), gdX5_neighbourWith w h⟩
set_option maxRecDepth 20000 in
theorem gX4_measure_X5_neighbourWith : GoodIn wsX4_measure (wsV RX4 39 RX5 yX5_neighbourWith wsX5_neighbourWith) := goodIn_app (goodIn_of _ (by decide +kernel)) ggX4_measure_X5_neighbourWith
theorem ggX4_measure_X4_stepsTo : GoodIn wsX4_measure wsX4_stepsTo := fun w h => ⟨(List.mem_cons_of_mem _ (List.mem_append_right _ (List.mem_append_right _ (List.mem_append_right _ (List.mem_append_right _ (List.mem_append_right _ (List.mem_append_right _ h))))))), gdX4_stepsTo w h⟩
set_option maxRecDepth 20000 in
theorem gX4_measure_X4_stepsTo : GoodIn wsX4_measure (wsV RX4 43 RX4 yX4_stepsTo wsX4_stepsTo) := goodIn_app (goodIn_of _ (by decide +kernel)) ggX4_measure_X4_stepsTo
theorem ggX4_mostSteps_X5_cutCount : GoodIn wsX4_mostSteps wsX5_cutCount := fun w h => ⟨(List.mem_cons_of_mem _ (List.mem_append_right _ (List.mem_append_left _ h))), gdX5_cutCount w h⟩
set_option maxRecDepth 20000 in
theorem gX4_mostSteps_X5_cutCount : GoodIn wsX4_mostSteps (wsV RX4 46 RX5 yX5_cutCount wsX5_cutCount) := goodIn_app (goodIn_of _ (by decide +kernel)) ggX4_mostSteps_X5_cutCount
theorem ggX4_mostSteps_X4_stepsTo : GoodIn wsX4_mostSteps wsX4_stepsTo := fun w h => ⟨(List.mem_cons_of_mem _ (List.mem_append_right _ (List.mem_append_right _ h))), gdX4_stepsTo w h⟩
set_option maxRecDepth 20000 in
theorem gX4_mostSteps_X4_stepsTo : GoodIn wsX4_mostSteps (wsV RX4 43 RX4 yX4_stepsTo wsX4_stepsTo) := goodIn_app (goodIn_of _ (by decide +kernel)) ggX4_mostSteps_X4_stepsTo
theorem ggX4_howManyAt_X5_cutCount : GoodIn wsX4_howManyAt wsX5_cutCount := fun w h => ⟨(List.mem_cons_of_mem _ (List.mem_append_right _ (List.mem_append_left _ h))), gdX5_cutCount w h⟩
set_option maxRecDepth 20000 in
theorem gX4_howManyAt_X5_cutCount : GoodIn wsX4_howManyAt (wsV RX4 46 RX5 yX5_cutCount wsX5_cutCount) := goodIn_app (goodIn_of _ (by decide +kernel)) ggX4_howManyAt_X5_cutCount
theorem ggX4_howManyAt_X4_stepsTo : GoodIn wsX4_howManyAt wsX4_stepsTo := fun w h => ⟨(List.mem_cons_of_mem _ (List.mem_append_right _ (List.mem_append_right _ h))), gdX4_stepsTo w h⟩
set_option maxRecDepth 20000 in
theorem gX4_howManyAt_X4_stepsTo : GoodIn wsX4_howManyAt (wsV RX4 43 RX4 yX4_stepsTo wsX4_stepsTo) := goodIn_app (goodIn_of _ (by decide +kernel)) ggX4_howManyAt_X4_stepsTo
theorem ggX4_leastNearer_X5_cutAt : GoodIn wsX4_leastNearer wsX5_cutAt := fun w h => ⟨(List.mem_cons_of_mem _ (List.mem_append_right _ (List.mem_append_left _ h))), gdX5_cutAt w h⟩
set_option maxRecDepth 20000 in
theorem gX4_leastNearer_X5_cutAt : GoodIn wsX4_leastNearer (wsV RX4 29 RX5 yX5_cutAt wsX5_cutAt) := goodIn_app (goodIn_of _ (by decide +kernel)) ggX4_leastNearer_X5_cutAt
theorem ggX4_leastNearer_X5_lineCount : GoodIn wsX4_leastNearer wsX5_lineCount := fun w h => ⟨(List.mem_cons_of_mem _ (List.mem_append_right _ (List.mem_append_right _ (List.mem_append_left _ h)))), gdX5_lineCount w h⟩
set_option maxRecDepth 20000 in
theorem gX4_leastNearer_X5_lineCount : GoodIn wsX4_leastNearer (wsV RX4 35 RX5 yX5_lineCount wsX5_lineCount) := goodIn_app (goodIn_of _ (by decide +kernel)) ggX4_leastNearer_X5_lineCount
theorem ggX4_leastNearer_X5_neighbourWith : GoodIn wsX4_leastNearer wsX5_neighbourWith := fun w h => ⟨(List.mem_cons_of_mem _ (List.mem_append_right _ (List.mem_append_right _ (List.mem_append_right _ (List.mem_append_left _ h))))), gdX5_neighbourWith w h⟩
set_option maxRecDepth 20000 in
theorem gX4_leastNearer_X5_neighbourWith : GoodIn wsX4_leastNearer (wsV RX4 39 RX5 yX5_neighbourWith wsX5_neighbourWith) := goodIn_app (goodIn_of _ (by decide +kernel)) ggX4_leastNearer_X5_neighbourWith
theorem ggX4_leastNearer_X4_stepsTo : GoodIn wsX4_leastNearer wsX4_stepsTo := fun w h => ⟨(List.mem_cons_of_mem _ (List.mem_append_right _ (List.mem_append_right _ (List.mem_append_right _ (List.mem_append_right _ h))))), gdX4_stepsTo w h⟩
set_option maxRecDepth 20000 in
theorem gX4_leastNearer_X4_stepsTo : GoodIn wsX4_leastNearer (wsV RX4 43 RX4 yX4_stepsTo wsX4_stepsTo) := goodIn_app (goodIn_of _ (by decide +kernel)) ggX4_leastNearer_X4_stepsTo
theorem ggX4_layWay_X4_measure : GoodIn wsX4_layWay wsX4_measure := fun w h => ⟨(List.mem_cons_of_mem _ (List.mem_append_right _ (List.mem_append_right _ (List.mem_append_left _ h)))), gdX4_measure w h⟩
set_option maxRecDepth 20000 in
theorem gX4_layWay_X4_measure : GoodIn wsX4_layWay (wsV RX4 54 RX4 yX4_measure wsX4_measure) := goodIn_app (goodIn_of _ (by decide +kernel)) ggX4_layWay_X4_measure
theorem ggX4_layWay_X4_stepsTo : GoodIn wsX4_layWay wsX4_stepsTo := fun w h => ⟨(List.mem_cons_of_mem _ (List.mem_append_right _ (List.mem_append_right _ (List.mem_append_right _ (List.mem_append_left _ h))))), gdX4_stepsTo w h⟩
set_option maxRecDepth 20000 in
theorem gX4_layWay_X4_stepsTo : GoodIn wsX4_layWay (wsV RX4 43 RX4 yX4_stepsTo wsX4_stepsTo) := goodIn_app (goodIn_of _ (by decide +kernel)) ggX4_layWay_X4_stepsTo
theorem ggX4_layWay_X4_leastNearer : GoodIn wsX4_layWay wsX4_leastNearer := fun w h => ⟨(List.mem_cons_of_mem _ (List.mem_append_right _ (List.mem_append_right _ (List.mem_append_right _ (List.mem_append_right _ h))))), gdX4_leastNearer w h⟩
set_option maxRecDepth 20000 in
theorem gX4_layWay_X4_leastNearer : GoodIn wsX4_layWay (wsV RX4 61 RX4 yX4_leastNearer wsX4_leastNearer) := goodIn_app (goodIn_of _ (by decide +kernel)) ggX4_layWay_X4_leastNearer
theorem ggX5_areJoined_X5_areNext : GoodIn wsX5_areJoined wsX5_areNext := fun w h => ⟨(List.mem_cons_of_mem _ (List.mem_append_right _ (List.mem_append_left _ h))), gdX5_areNext w h⟩
set_option maxRecDepth 20000 in
theorem gX5_areJoined_X5_areNext : GoodIn wsX5_areJoined (wsV RX5 83 RX5 yX5_areNext wsX5_areNext) := goodIn_app (goodIn_of _ (by decide +kernel)) ggX5_areJoined_X5_areNext
theorem ggX5_areJoined_X5_lineOf : GoodIn wsX5_areJoined wsX5_lineOf := fun w h => ⟨(List.mem_cons_of_mem _ (List.mem_append_right _ (List.mem_append_right _ (List.mem_append_left _ h)))), gdX5_lineOf w h⟩
set_option maxRecDepth 20000 in
theorem gX5_areJoined_X5_lineOf : GoodIn wsX5_areJoined (wsV RX5 87 RX5 yX5_lineOf wsX5_lineOf) := goodIn_app (goodIn_of _ (by decide +kernel)) ggX5_areJoined_X5_lineOf
theorem ggX5_areJoined_X5_has : GoodIn wsX5_areJoined wsX5_has := fun w h => ⟨(List.mem_cons_of_mem _ (List.mem_append_right _ (List.mem_append_right _ (List.mem_append_right _ h)))), gdX5_has w h⟩
set_option maxRecDepth 20000 in
theorem gX5_areJoined_X5_has : GoodIn wsX5_areJoined (wsV RX5 91 RX5 yX5_has wsX5_has) := goodIn_app (goodIn_of _ (by decide +kernel)) ggX5_areJoined_X5_has
theorem ggX5_moved_X5_has : GoodIn wsX5_moved wsX5_has := fun w h => ⟨(List.mem_cons_of_mem _ (List.mem_append_right _ (List.mem_append_right _ (List.mem_append_left _ h)))), gdX5_has w h⟩
set_option maxRecDepth 20000 in
theorem gX5_moved_X5_has : GoodIn wsX5_moved (wsV RX5 91 RX5 yX5_has wsX5_has) := goodIn_app (goodIn_of _ (by decide +kernel)) ggX5_moved_X5_has
theorem ggX5_moved_X5_movedCorner : GoodIn wsX5_moved wsX5_movedCorner := fun w h => ⟨(List.mem_cons_of_mem _ (List.mem_append_right _ (List.mem_append_right _ (List.mem_append_right _ (List.mem_append_left _ h))))), gdX5_movedCorner w h⟩
set_option maxRecDepth 20000 in
theorem gX5_moved_X5_movedCorner : GoodIn wsX5_moved (wsV RX5 109 RX5 yX5_movedCorner wsX5_movedCorner) := goodIn_app (goodIn_of _ (by decide +kernel)) ggX5_moved_X5_movedCorner
theorem ggX5_moved_X5_lineOf : GoodIn wsX5_moved wsX5_lineOf := fun w h => ⟨(List.mem_cons_of_mem _ (List.mem_append_right _ (List.mem_append_right _ (List.mem_append_right _ (List.mem_append_right _ h))))), gdX5_lineOf w h⟩
set_option maxRecDepth 20000 in
theorem gX5_moved_X5_lineOf : GoodIn wsX5_moved (wsV RX5 87 RX5 yX5_lineOf wsX5_lineOf) := goodIn_app (goodIn_of _ (by decide +kernel)) ggX5_moved_X5_lineOf
theorem ggX5_leastTurned_X5_moved : GoodIn wsX5_leastTurned wsX5_moved := fun w h => ⟨(List.mem_cons_of_mem _ (List.mem_append_right _ (List.mem_append_right _ h))), gdX5_moved w h⟩
set_option maxRecDepth 20000 in
theorem gX5_leastTurned_X5_moved : GoodIn wsX5_leastTurned (wsV RX5 113 RX5 yX5_moved wsX5_moved) := goodIn_app (goodIn_of _ (by decide +kernel)) ggX5_leastTurned_X5_moved
theorem ggX5_leastAlike_X5_leastTurned : GoodIn wsX5_leastAlike wsX5_leastTurned := fun w h => ⟨(List.mem_cons_of_mem _ (List.mem_append_right _ (List.mem_append_left _ h))), gdX5_leastTurned w h⟩
set_option maxRecDepth 20000 in
theorem gX5_leastAlike_X5_leastTurned : GoodIn wsX5_leastAlike (wsV RX5 116 RX5 yX5_leastTurned wsX5_leastTurned) := goodIn_app (goodIn_of _ (by decide +kernel)) ggX5_leastAlike_X5_leastTurned
theorem ggX5_leastAlike_X5_moved : GoodIn wsX5_leastAlike wsX5_moved := fun w h => ⟨(List.mem_cons_of_mem _ (List.mem_append_right _ (List.mem_append_right _ h))), gdX5_moved w h⟩
set_option maxRecDepth 20000 in
theorem gX5_leastAlike_X5_moved : GoodIn wsX5_leastAlike (wsV RX5 113 RX5 yX5_moved wsX5_moved) := goodIn_app (goodIn_of _ (by decide +kernel)) ggX5_leastAlike_X5_moved
theorem ggX5_neverTurnsBelow_X5_moved : GoodIn wsX5_neverTurnsBelow wsX5_moved := fun w h => ⟨(List.mem_cons_of_mem _ (List.mem_append_right _ (List.mem_append_right _ h))), gdX5_moved w h⟩
set_option maxRecDepth 20000 in
theorem gX5_neverTurnsBelow_X5_moved : GoodIn wsX5_neverTurnsBelow (wsV RX5 113 RX5 yX5_moved wsX5_moved) := goodIn_app (goodIn_of _ (by decide +kernel)) ggX5_neverTurnsBelow_X5_moved
theorem ggX5_countKinds_X5_neverTurnsBelow : GoodIn wsX5_countKinds wsX5_neverTurnsBelow := fun w h => ⟨(List.mem_cons_of_mem _ (List.mem_append_right _ (List.mem_append_right _ (List.mem_append_left _ h)))), gdX5_neverTurnsBelow w h⟩
set_option maxRecDepth 20000 in
theorem gX5_countKinds_X5_neverTurnsBelow : GoodIn wsX5_countKinds (wsV RX5 119 RX5 yX5_neverTurnsBelow wsX5_neverTurnsBelow) := goodIn_app (goodIn_of _ (by decide +kernel)) ggX5_countKinds_X5_neverTurnsBelow
theorem ggX5_countKinds_X5_moved : GoodIn wsX5_countKinds wsX5_moved := fun w h => ⟨(List.mem_cons_of_mem _ (List.mem_append_right _ (List.mem_append_right _ (List.mem_append_right _ h)))), gdX5_moved w h⟩
set_option maxRecDepth 20000 in
theorem gX5_countKinds_X5_moved : GoodIn wsX5_countKinds (wsV RX5 113 RX5 yX5_moved wsX5_moved) := goodIn_app (goodIn_of _ (by decide +kernel)) ggX5_countKinds_X5_moved
theorem ggX5_differenceFrom_X5_trianglesAt : GoodIn wsX5_differenceFrom wsX5_trianglesAt := fun w h => ⟨(List.mem_cons_of_mem _ (List.mem_append_right _ (List.mem_append_right _ h))), gdX5_trianglesAt w h⟩
set_option maxRecDepth 20000 in
theorem gX5_differenceFrom_X5_trianglesAt : GoodIn wsX5_differenceFrom (wsV RX5 100 RX5 yX5_trianglesAt wsX5_trianglesAt) := goodIn_app (goodIn_of _ (by decide +kernel)) ggX5_differenceFrom_X5_trianglesAt
theorem ggX5_nearestTo_X5_cutAt : GoodIn wsX5_nearestTo wsX5_cutAt := fun w h => ⟨(List.mem_cons_of_mem _ (List.mem_append_right _ (List.mem_append_right _ (List.mem_append_left _ h)))), gdX5_cutAt w h⟩
set_option maxRecDepth 20000 in
theorem gX5_nearestTo_X5_cutAt : GoodIn wsX5_nearestTo (wsV RX5 122 RX5 yX5_cutAt wsX5_cutAt) := goodIn_app (goodIn_of _ (by decide +kernel)) ggX5_nearestTo_X5_cutAt
theorem ggX5_nearestTo_X5_differenceFrom : GoodIn wsX5_nearestTo wsX5_differenceFrom := fun w h => ⟨(List.mem_cons_of_mem _ (List.mem_append_right _ (List.mem_append_right _ (List.mem_append_right _ h)))), gdX5_differenceFrom w h⟩
set_option maxRecDepth 20000 in
theorem gX5_nearestTo_X5_differenceFrom : GoodIn wsX5_nearestTo (wsV RX5 125 RX5 yX5_differenceFrom wsX5_differenceFrom) := goodIn_app (goodIn_of _ (by decide +kernel)) ggX5_nearestTo_X5_differenceFrom
theorem ggX5_greatestFrom_X5_trianglesAt : GoodIn wsX5_greatestFrom wsX5_trianglesAt := fun w h => ⟨(List.mem_cons_of_mem _ (List.mem_append_right _ (List.mem_append_right _ h))), gdX5_trianglesAt w h⟩
set_option maxRecDepth 20000 in
theorem gX5_greatestFrom_X5_trianglesAt : GoodIn wsX5_greatestFrom (wsV RX5 100 RX5 yX5_trianglesAt wsX5_trianglesAt) := goodIn_app (goodIn_of _ (by decide +kernel)) ggX5_greatestFrom_X5_trianglesAt
theorem ggX5_greatestIn_X5_greatestFrom : GoodIn wsX5_greatestIn wsX5_greatestFrom := fun w h => ⟨(List.mem_cons_of_mem _ (List.mem_append_right _ (List.mem_append_right _ h))), gdX5_greatestFrom w h⟩
set_option maxRecDepth 20000 in
theorem gX5_greatestIn_X5_greatestFrom : GoodIn wsX5_greatestIn (wsV RX5 129 RX5 yX5_greatestFrom wsX5_greatestFrom) := goodIn_app (goodIn_of _ (by decide +kernel)) ggX5_greatestIn_X5_greatestFrom
theorem ggX5_numberOfGreatest_X5_greatestIn : GoodIn wsX5_numberOfGreatest wsX5_greatestIn := fun w h => ⟨(List.mem_cons_of_mem _ (List.mem_append_right _ (List.mem_append_right _ h))), gdX5_greatestIn w h⟩
set_option maxRecDepth 20000 in
theorem gX5_numberOfGreatest_X5_greatestIn : GoodIn wsX5_numberOfGreatest (wsV RX5 132 RX5 yX5_greatestIn wsX5_greatestIn) := goodIn_app (goodIn_of _ (by decide +kernel)) ggX5_numberOfGreatest_X5_greatestIn
theorem ggX5_countWith_X5_entryOf : GoodIn wsX5_countWith wsX5_entryOf := fun w h => ⟨(List.mem_cons_of_mem _ (List.mem_append_right _ (List.mem_append_right _ h))), gdX5_entryOf w h⟩
set_option maxRecDepth 20000 in
theorem gX5_countWith_X5_entryOf : GoodIn wsX5_countWith (wsV RX5 135 RX5 yX5_entryOf wsX5_entryOf) := goodIn_app (goodIn_of _ (by decide +kernel)) ggX5_countWith_X5_entryOf
theorem ggX7_wasSeenBefore_X7_has : GoodIn wsX7_wasSeenBefore wsX7_has := fun w h => ⟨(List.mem_cons_of_mem _ (List.mem_append_right _ (List.mem_append_right _ h))), gdX7_has w h⟩
set_option maxRecDepth 20000 in
theorem gX7_wasSeenBefore_X7_has : GoodIn wsX7_wasSeenBefore (wsV RX7 46 RX7 yX7_has wsX7_has) := goodIn_app (goodIn_of _ (by decide +kernel)) ggX7_wasSeenBefore_X7_has
theorem ggX7_putRight_X7_has : GoodIn wsX7_putRight wsX7_has := fun w h => ⟨(List.mem_cons_of_mem _ (List.mem_append_right _ (List.mem_append_right _ h))), gdX7_has w h⟩
set_option maxRecDepth 20000 in
theorem gX7_putRight_X7_has : GoodIn wsX7_putRight (wsV RX7 46 RX7 yX7_has wsX7_has) := goodIn_app (goodIn_of _ (by decide +kernel)) ggX7_putRight_X7_has
theorem ggX8_readNumbers_X8_rewind : GoodIn wsX8_readNumbers wsX8_rewind := fun w h => ⟨(List.mem_cons_of_mem _ (List.mem_append_right _ (List.mem_append_right _ (List.mem_append_left _ h)))), gdX8_rewind w h⟩
set_option maxRecDepth 20000 in
theorem gX8_readNumbers_X8_rewind : GoodIn wsX8_readNumbers (wsV RX8 56 RX8 yX8_rewind wsX8_rewind) := goodIn_app (goodIn_of _ (by decide +kernel)) ggX8_readNumbers_X8_rewind
theorem ggX8_readNumbers_X8_readToken : GoodIn wsX8_readNumbers wsX8_readToken := fun w h => ⟨(List.mem_cons_of_mem _ (List.mem_append_right _ (List.mem_append_right _ (List.mem_append_right _ h)))), gdX8_readToken w h⟩
set_option maxRecDepth 20000 in
theorem gX8_readNumbers_X8_readToken : GoodIn wsX8_readNumbers (wsV RX8 59 RX8 yX8_readToken wsX8_readToken) := goodIn_app (goodIn_of _ (by decide +kernel)) ggX8_readNumbers_X8_readToken
theorem ggX9_gatherOn_X5_corners : GoodIn wsX9_gatherOn wsX5_corners := fun w h => ⟨(List.mem_cons_of_mem _ (List.mem_append_right _ (List.mem_append_right _ (List.mem_append_left _ h)))), gdX5_corners w h⟩
set_option maxRecDepth 20000 in
theorem gX9_gatherOn_X5_corners : GoodIn wsX9_gatherOn (wsV RX9 22 RX5 yX5_corners wsX5_corners) := goodIn_app (goodIn_of _ (by decide +kernel)) ggX9_gatherOn_X5_corners
theorem ggX9_gatherOn_X5_areJoined : GoodIn wsX9_gatherOn wsX5_areJoined := fun w h => ⟨(List.mem_cons_of_mem _ (List.mem_append_right _ (List.mem_append_right _ (List.mem_append_right _ h)))), gdX5_areJoined w h⟩
set_option maxRecDepth 20000 in
theorem gX9_gatherOn_X5_areJoined : GoodIn wsX9_gatherOn (wsV RX9 28 RX5 yX5_areJoined wsX5_areJoined) := goodIn_app (goodIn_of _ (by decide +kernel)) ggX9_gatherOn_X5_areJoined
theorem ggX9_gather_X5_corners : GoodIn wsX9_gather wsX5_corners := fun w h => ⟨(List.mem_cons_of_mem _ (List.mem_append_right _ (List.mem_append_right _ (List.mem_append_left _ h)))), gdX5_corners w h⟩
set_option maxRecDepth 20000 in
theorem gX9_gather_X5_corners : GoodIn wsX9_gather (wsV RX9 22 RX5 yX5_corners wsX5_corners) := goodIn_app (goodIn_of _ (by decide +kernel)) ggX9_gather_X5_corners
theorem ggX9_gather_X5_areJoined : GoodIn wsX9_gather wsX5_areJoined := fun w h => ⟨(List.mem_cons_of_mem _ (List.mem_append_right _ (List.mem_append_right _ (List.mem_append_right _ (List.mem_append_left _ h))))), gdX5_areJoined w h⟩
set_option maxRecDepth 20000 in
theorem gX9_gather_X5_areJoined : GoodIn wsX9_gather (wsV RX9 28 RX5 yX5_areJoined wsX5_areJoined) := goodIn_app (goodIn_of _ (by decide +kernel)) ggX9_gather_X5_areJoined
theorem ggX9_gather_X9_gatherOn : GoodIn wsX9_gather wsX9_gatherOn := fun w h => ⟨(List.mem_cons_of_mem _ (List.mem_append_right _ (List.mem_append_right _ (List.mem_append_right _ (List.mem_append_right _ h))))), gdX9_gatherOn w h⟩
set_option maxRecDepth 20000 in
theorem gX9_gather_X9_gatherOn : GoodIn wsX9_gather (wsV RX9 32 RX9 yX9_gatherOn wsX9_gatherOn) := goodIn_app (goodIn_of _ (by decide +kernel)) ggX9_gather_X9_gatherOn
theorem ggX9_touches_X9_cornerOf : GoodIn wsX9_touches wsX9_cornerOf := fun w h => ⟨(List.mem_cons_of_mem _ (List.mem_append_right _ h)), gdX9_cornerOf w h⟩
set_option maxRecDepth 20000 in
theorem gX9_touches_X9_cornerOf : GoodIn wsX9_touches (wsV RX9 36 RX9 yX9_cornerOf wsX9_cornerOf) := goodIn_app (goodIn_of _ (by decide +kernel)) ggX9_touches_X9_cornerOf
theorem ggX9_choose_X5_corners : GoodIn wsX9_choose wsX5_corners := fun w h => ⟨(List.mem_cons_of_mem _ (List.mem_append_right _ (List.mem_append_right _ (List.mem_append_left _ h)))), gdX5_corners w h⟩
set_option maxRecDepth 20000 in
theorem gX9_choose_X5_corners : GoodIn wsX9_choose (wsV RX9 22 RX5 yX5_corners wsX5_corners) := goodIn_app (goodIn_of _ (by decide +kernel)) ggX9_choose_X5_corners
theorem ggX9_choose_X9_touches : GoodIn wsX9_choose wsX9_touches := fun w h => ⟨(List.mem_cons_of_mem _ (List.mem_append_right _ (List.mem_append_right _ (List.mem_append_right _ h)))), gdX9_touches w h⟩
set_option maxRecDepth 20000 in
theorem gX9_choose_X9_touches : GoodIn wsX9_choose (wsV RX9 60 RX9 yX9_touches wsX9_touches) := goodIn_app (goodIn_of _ (by decide +kernel)) ggX9_choose_X9_touches
theorem ggX9_choose_X9_choose : GoodIn wsX9_choose wsX9_choose := fun w h => ⟨h, gdX9_choose w h⟩
set_option maxRecDepth 20000 in
theorem gX9_choose_X9_choose : GoodIn wsX9_choose (wsV RX9 56 RX9 yX9_choose wsX9_choose) := goodIn_app (goodIn_of _ (by decide +kernel)) ggX9_choose_X9_choose
theorem ggX9_onWay_X5_ahead : GoodIn wsX9_onWay wsX5_ahead := fun w h => ⟨(List.mem_cons_of_mem _ (List.mem_append_right _ (List.mem_append_right _ (List.mem_append_left _ h)))), gdX5_ahead w h⟩
set_option maxRecDepth 20000 in
theorem gX9_onWay_X5_ahead : GoodIn wsX9_onWay (wsV RX9 47 RX5 yX5_ahead wsX5_ahead) := goodIn_app (goodIn_of _ (by decide +kernel)) ggX9_onWay_X5_ahead
theorem ggX9_onWay_X9_choose : GoodIn wsX9_onWay wsX9_choose := fun w h => ⟨(List.mem_cons_of_mem _ (List.mem_append_right _ (List.mem_append_right _ (List.mem_append_right _ h)))), gdX9_choose w h⟩
set_option maxRecDepth 20000 in
theorem gX9_onWay_X9_choose : GoodIn wsX9_onWay (wsV RX9 56 RX9 yX9_choose wsX9_choose) := goodIn_app (goodIn_of _ (by decide +kernel)) ggX9_onWay_X9_choose
theorem ggX10_init_X8_init : GoodIn wsX10_init wsX8_init := fun w h => ⟨(List.mem_cons_of_mem _ (List.mem_append_right _ (List.mem_append_right _ (List.mem_append_right _ (List.mem_append_right _ (List.mem_append_right _ (List.mem_append_right _ (List.mem_append_right _ (List.mem_append_right _ (List.mem_append_right _ (List.mem_append_right _ (List.mem_append_right _ (List.mem_append_left _ h))))))))))))), gdX8_init w h⟩
set_option maxRecDepth 20000 in
theorem gX10_init_X8_init_n9 : GoodIn wsX10_init (wsX8_init) := ggX10_init_X8_init
theorem ggX10_init_X6_init : GoodIn wsX10_init wsX6_init := fun w h => ⟨(List.mem_cons_of_mem _ (List.mem_append_right _ (List.mem_append_right _ (List.mem_append_right _ (List.mem_append_right _ (List.mem_append_right _ (List.mem_append_right _ (List.mem_append_right _ (List.mem_append_right _ (List.mem_append_right _ (List.mem_append_right _ (List.mem_append_right _ (List.mem_append_right _ (List.mem_append_left _ h)))))))))))))), gdX6_init w h⟩
set_option maxRecDepth 20000 in
theorem gX10_init_X6_init_n18 : GoodIn wsX10_init (wsX6_init) := ggX10_init_X6_init
theorem ggX10_init_X1_init : GoodIn wsX10_init wsX1_init := fun w h => ⟨(List.mem_cons_of_mem _ (List.mem_append_right _ (List.mem_append_right _ (List.mem_append_right _ (List.mem_append_right _ (List.mem_append_right _ (List.mem_append_right _ (List.mem_append_right _ (List.mem_append_right _ (List.mem_append_right _ (List.mem_append_right _ (List.mem_append_right _ (List.mem_append_right _ (List.mem_append_right _ (List.mem_append_left _ h))))))))))))))), gdX1_init w h⟩
set_option maxRecDepth 20000 in
theorem gX10_init_X1_init_n25 : GoodIn wsX10_init (wsX1_init) := ggX10_init_X1_init
theorem ggX10_init_X9_init : GoodIn wsX10_init wsX9_init := fun w h => ⟨(List.mem_cons_of_mem _ (List.mem_append_right _ (List.mem_append_right _ (List.mem_append_right _ (List.mem_append_right _ (List.mem_append_right _ (List.mem_append_right _ (List.mem_append_right _ (List.mem_append_right _ (List.mem_append_right _ (List.mem_append_right _ (List.mem_append_right _ (List.mem_append_right _ (List.mem_append_right _ (List.mem_append_right _ (List.mem_append_left _ h)))))))))))))))), gdX9_init w h⟩
set_option maxRecDepth 20000 in
theorem gX10_init_X9_init_n32 : GoodIn wsX10_init (wsX9_init) := ggX10_init_X9_init
theorem ggX10_init_X0_init : GoodIn wsX10_init wsX0_init := fun w h => ⟨(List.mem_cons_of_mem _ (List.mem_append_right _ (List.mem_append_right _ (List.mem_append_right _ (List.mem_append_right _ (List.mem_append_right _ (List.mem_append_right _ (List.mem_append_right _ (List.mem_append_right _ (List.mem_append_right _ (List.mem_append_right _ (List.mem_append_right _ (List.mem_append_right _ (List.mem_append_right _ (List.mem_append_right _ (List.mem_append_right _ (List.mem_append_left _ h))))))))))))))))), gdX0_init w h⟩
set_option maxRecDepth 20000 in
theorem gX10_init_X0_init_n39 : GoodIn wsX10_init (wsX0_init) := ggX10_init_X0_init
theorem ggX10_init_X4_init : GoodIn wsX10_init wsX4_init := fun w h => ⟨(List.mem_cons_of_mem _ (List.mem_append_right _ (List.mem_append_right _ (List.mem_append_right _ (List.mem_append_right _ (List.mem_append_right _ (List.mem_append_right _ (List.mem_append_right _ (List.mem_append_right _ (List.mem_append_right _ (List.mem_append_right _ (List.mem_append_right _ (List.mem_append_right _ (List.mem_append_right _ (List.mem_append_right _ (List.mem_append_right _ (List.mem_append_right _ (List.mem_append_left _ h)))))))))))))))))), gdX4_init w h⟩
set_option maxRecDepth 20000 in
theorem gX10_init_X4_init_n46 : GoodIn wsX10_init (wsX4_init) := ggX10_init_X4_init
theorem ggX10_init_X2_init : GoodIn wsX10_init wsX2_init := fun w h => ⟨(List.mem_cons_of_mem _ (List.mem_append_right _ (List.mem_append_right _ (List.mem_append_right _ (List.mem_append_right _ (List.mem_append_right _ (List.mem_append_right _ (List.mem_append_right _ (List.mem_append_right _ (List.mem_append_right _ (List.mem_append_right _ (List.mem_append_right _ (List.mem_append_right _ (List.mem_append_right _ (List.mem_append_right _ (List.mem_append_right _ (List.mem_append_right _ (List.mem_append_right _ (List.mem_append_left _ h))))))))))))))))))), gdX2_init w h⟩
set_option maxRecDepth 20000 in
theorem gX10_init_X2_init : GoodIn wsX10_init (wsX2_init) := ggX10_init_X2_init
theorem ggX10_init_X7_init : GoodIn wsX10_init wsX7_init := fun w h => ⟨(List.mem_cons_of_mem _ (List.mem_append_right _ (List.mem_append_right _ (List.mem_append_right _ (List.mem_append_right _ (List.mem_append_right _ (List.mem_append_right _ (List.mem_append_right _ (List.mem_append_right _ (List.mem_append_right _ (List.mem_append_right _ (List.mem_append_right _ (List.mem_append_right _ (List.mem_append_right _ (List.mem_append_right _ (List.mem_append_right _ (List.mem_append_right _ (List.mem_append_right _ (List.mem_append_right _ (List.mem_append_left _ h)))))))))))))))))))), gdX7_init w h⟩
set_option maxRecDepth 20000 in
theorem gX10_init_X7_init_n60 : GoodIn wsX10_init (wsX7_init) := ggX10_init_X7_init
theorem ggX10_init_X3_init : GoodIn wsX10_init wsX3_init := fun w h => ⟨(List.mem_cons_of_mem _ (List.mem_append_right _ (List.mem_append_right _ (List.mem_append_right _ (List.mem_append_right _ (List.mem_append_right _ (List.mem_append_right _ (List.mem_append_right _ (List.mem_append_right _ (List.mem_append_right _ (List.mem_append_right _ (List.mem_append_right _ (List.mem_append_right _ (List.mem_append_right _ (List.mem_append_right _ (List.mem_append_right _ (List.mem_append_right _ (List.mem_append_right _ (List.mem_append_right _ (List.mem_append_right _ (List.mem_append_left _ h))))))))))))))))))))), gdX3_init w h⟩
set_option maxRecDepth 20000 in
theorem gX10_init_X3_init_n67 : GoodIn wsX10_init (wsX3_init) := ggX10_init_X3_init
theorem ggX10_init_X6_withCorners : GoodIn wsX10_init wsX6_withCorners := fun w h => ⟨(List.mem_cons_of_mem _ (List.mem_append_right _ (List.mem_append_right _ (List.mem_append_right _ (List.mem_append_right _ (List.mem_append_right _ (List.mem_append_right _ (List.mem_append_right _ (List.mem_append_right _ (List.mem_append_right _ (List.mem_append_right _ (List.mem_append_right _ (List.mem_append_right _ (List.mem_append_right _ (List.mem_append_right _ (List.mem_append_right _ (List.mem_append_right _ (List.mem_append_right _ (List.mem_append_right _ (List.mem_append_right _ (List.mem_append_right _ (List.mem_append_left _ h)))))))))))))))))))))), gdX6_withCorners w h⟩
set_option maxRecDepth 20000 in
theorem gX10_init_X6_withCorners : GoodIn wsX10_init (wsV RX10 80 RX6 yX6_withCorners wsX6_withCorners) := goodIn_app (goodIn_of _ (by decide +kernel)) ggX10_init_X6_withCorners
theorem ggX10_init_X5_cutAt : GoodIn wsX10_init wsX5_cutAt := fun w h => ⟨(List.mem_cons_of_mem _ (List.mem_append_right _ (List.mem_append_right _ (List.mem_append_right _ (List.mem_append_right _ (List.mem_append_right _ (List.mem_append_right _ (List.mem_append_right _ (List.mem_append_right _ (List.mem_append_right _ (List.mem_append_right _ (List.mem_append_right _ (List.mem_append_right _ (List.mem_append_right _ (List.mem_append_right _ (List.mem_append_right _ (List.mem_append_right _ (List.mem_append_right _ (List.mem_append_right _ (List.mem_append_right _ (List.mem_append_right _ (List.mem_append_right _ h)))))))))))))))))))))), gdX5_cutAt w h⟩
set_option maxRecDepth 20000 in
theorem gX10_init_X5_cutAt : GoodIn wsX10_init (wsV RX10 88 RX5 yX5_cutAt wsX5_cutAt) := goodIn_app (goodIn_of _ (by decide +kernel)) ggX10_init_X5_cutAt
theorem ggX10_feed_X8_hasRoomForTwenty : GoodIn wsX10_feed wsX8_hasRoomForTwenty := fun w h => ⟨(List.mem_cons_of_mem _ (List.mem_append_right _ (List.mem_append_right _ (List.mem_append_left _ h)))), gdX8_hasRoomForTwenty w h⟩
set_option maxRecDepth 20000 in
theorem gX10_feed_X8_hasRoomForTwenty : GoodIn wsX10_feed (wsV RX10 97 RX8 yX8_hasRoomForTwenty wsX8_hasRoomForTwenty) := goodIn_app (goodIn_of _ (by decide +kernel)) ggX10_feed_X8_hasRoomForTwenty
theorem ggX10_feed_X8_append : GoodIn wsX10_feed wsX8_append := fun w h => ⟨(List.mem_cons_of_mem _ (List.mem_append_right _ (List.mem_append_right _ (List.mem_append_right _ (List.mem_append_left _ h))))), gdX8_append w h⟩
set_option maxRecDepth 20000 in
theorem gX10_feed_X8_append : GoodIn wsX10_feed (wsV RX10 101 RX8 yX8_append wsX8_append) := goodIn_app (goodIn_of _ (by decide +kernel)) ggX10_feed_X8_append
theorem ggX10_feed_X8_size : GoodIn wsX10_feed wsX8_size := fun w h => ⟨(List.mem_cons_of_mem _ (List.mem_append_right _ (List.mem_append_right _ (List.mem_append_right _ (List.mem_append_right _ h))))), gdX8_size w h⟩
set_option maxRecDepth 20000 in
theorem gX10_feed_X8_size : GoodIn wsX10_feed (wsV RX10 105 RX8 yX8_size wsX8_size) := goodIn_app (goodIn_of _ (by decide +kernel)) ggX10_feed_X8_size
theorem ggX10_end_X8_size : GoodIn wsX10_end wsX8_size := fun w h => ⟨(List.mem_cons_of_mem _ (List.mem_append_right _ (List.mem_append_right _ (List.mem_append_left _ h)))), gdX8_size w h⟩
set_option maxRecDepth 20000 in
theorem gX10_end_X8_size : GoodIn wsX10_end (wsV RX10 105 RX8 yX8_size wsX8_size) := goodIn_app (goodIn_of _ (by decide +kernel)) ggX10_end_X8_size
theorem ggX10_end_X8_shorten : GoodIn wsX10_end wsX8_shorten := fun w h => ⟨(List.mem_cons_of_mem _ (List.mem_append_right _ (List.mem_append_right _ (List.mem_append_right _ h)))), gdX8_shorten w h⟩
set_option maxRecDepth 20000 in
theorem gX10_end_X8_shorten : GoodIn wsX10_end (wsV RX10 109 RX8 yX8_shorten wsX8_shorten) := goodIn_app (goodIn_of _ (by decide +kernel)) ggX10_end_X8_shorten
theorem ggX10_become_X5_corners : GoodIn wsX10_become wsX5_corners := fun w h => ⟨(List.mem_cons_of_mem _ (List.mem_append_right _ (List.mem_append_right _ (List.mem_append_left _ h)))), gdX5_corners w h⟩
set_option maxRecDepth 20000 in
theorem gX10_become_X5_corners : GoodIn wsX10_become (wsV RX10 138 RX5 yX5_corners wsX5_corners) := goodIn_app (goodIn_of _ (by decide +kernel)) ggX10_become_X5_corners
theorem ggX10_become_X7_forget : GoodIn wsX10_become wsX7_forget := fun w h => ⟨(List.mem_cons_of_mem _ (List.mem_append_right _ (List.mem_append_right _ (List.mem_append_right _ h)))), gdX7_forget w h⟩
set_option maxRecDepth 20000 in
theorem gX10_become_X7_forget : GoodIn wsX10_become (wsV RX10 325 RX7 yX7_forget wsX7_forget) := goodIn_app (goodIn_of _ (by decide +kernel)) ggX10_become_X7_forget
theorem ggX10_cut_X1_understand : GoodIn wsX10_cut wsX1_understand := fun w h => ⟨(List.mem_cons_of_mem _ (List.mem_append_right _ (List.mem_append_right _ (List.mem_append_left _ h)))), gdX1_understand w h⟩
set_option maxRecDepth 20000 in
theorem gX10_cut_X1_understand : GoodIn wsX10_cut (wsV RX10 112 RX1 yX1_understand wsX1_understand) := goodIn_app (goodIn_of _ (by decide +kernel)) ggX10_cut_X1_understand
theorem ggX10_cut_X8_shorten : GoodIn wsX10_cut wsX8_shorten := fun w h => ⟨(List.mem_cons_of_mem _ (List.mem_append_right _ (List.mem_append_right _ (List.mem_append_right _ (List.mem_append_left _ h))))), gdX8_shorten w h⟩
set_option maxRecDepth 20000 in
theorem gX10_cut_X8_shorten : GoodIn wsX10_cut (wsV RX10 109 RX8 yX8_shorten wsX8_shorten) := goodIn_app (goodIn_of _ (by decide +kernel)) ggX10_cut_X8_shorten
theorem ggX10_cut_X1_polygon : GoodIn wsX10_cut wsX1_polygon := fun w h => ⟨(List.mem_cons_of_mem _ (List.mem_append_right _ (List.mem_append_right _ (List.mem_append_right _ (List.mem_append_right _ (List.mem_append_left _ h)))))), gdX1_polygon w h⟩
set_option maxRecDepth 20000 in
theorem gX10_cut_X1_polygon : GoodIn wsX10_cut (wsV RX10 116 RX1 yX1_polygon wsX1_polygon) := goodIn_app (goodIn_of _ (by decide +kernel)) ggX10_cut_X1_polygon
theorem ggX10_cut_X1_bits : GoodIn wsX10_cut wsX1_bits := fun w h => ⟨(List.mem_cons_of_mem _ (List.mem_append_right _ (List.mem_append_right _ (List.mem_append_right _ (List.mem_append_right _ (List.mem_append_right _ (List.mem_append_left _ h))))))), gdX1_bits w h⟩
set_option maxRecDepth 20000 in
theorem gX10_cut_X1_bits : GoodIn wsX10_cut (wsV RX10 119 RX1 yX1_bits wsX1_bits) := goodIn_app (goodIn_of _ (by decide +kernel)) ggX10_cut_X1_bits
theorem ggX10_cut_X10_become : GoodIn wsX10_cut wsX10_become := fun w h => ⟨(List.mem_cons_of_mem _ (List.mem_append_right _ (List.mem_append_right _ (List.mem_append_right _ (List.mem_append_right _ (List.mem_append_right _ (List.mem_append_right _ (List.mem_append_left _ h)))))))), gdX10_become w h⟩
set_option maxRecDepth 20000 in
theorem gX10_cut_X10_become : GoodIn wsX10_cut (wsV RX10 121 RX10 yX10_become wsX10_become) := goodIn_app (goodIn_of _ (by decide +kernel)) ggX10_cut_X10_become
theorem ggX10_cut_X5_numberOf : GoodIn wsX10_cut wsX5_numberOf := fun w h => ⟨(List.mem_cons_of_mem _ (List.mem_append_right _ (List.mem_append_right _ (List.mem_append_right _ (List.mem_append_right _ (List.mem_append_right _ (List.mem_append_right _ (List.mem_append_right _ h)))))))), gdX5_numberOf w h⟩
set_option maxRecDepth 20000 in
theorem gX10_cut_X5_numberOf : GoodIn wsX10_cut (wsV RX10 125 RX5 yX5_numberOf wsX5_numberOf) := goodIn_app (goodIn_of _ (by decide +kernel)) ggX10_cut_X5_numberOf
theorem ggX10_fault_X1_faultKind : GoodIn wsX10_fault wsX1_faultKind := fun w h => ⟨(List.mem_cons_of_mem _ (List.mem_append_right _ (List.mem_append_right _ (List.mem_append_left _ h)))), gdX1_faultKind w h⟩
set_option maxRecDepth 20000 in
theorem gX10_fault_X1_faultKind : GoodIn wsX10_fault (wsV RX10 128 RX1 yX1_faultKind wsX1_faultKind) := goodIn_app (goodIn_of _ (by decide +kernel)) ggX10_fault_X1_faultKind
theorem ggX10_fault_X1_faultPlace : GoodIn wsX10_fault wsX1_faultPlace := fun w h => ⟨(List.mem_cons_of_mem _ (List.mem_append_right _ (List.mem_append_right _ (List.mem_append_right _ h)))), gdX1_faultPlace w h⟩
set_option maxRecDepth 20000 in
theorem gX10_fault_X1_faultPlace : GoodIn wsX10_fault (wsV RX10 131 RX1 yX1_faultPlace wsX1_faultPlace) := goodIn_app (goodIn_of _ (by decide +kernel)) ggX10_fault_X1_faultPlace
theorem ggX10_take_X6_withCorners : GoodIn wsX10_take wsX6_withCorners := fun w h => ⟨(List.mem_cons_of_mem _ (List.mem_append_right _ (List.mem_append_right _ (List.mem_append_left _ h)))), gdX6_withCorners w h⟩
set_option maxRecDepth 20000 in
theorem gX10_take_X6_withCorners : GoodIn wsX10_take (wsV RX10 80 RX6 yX6_withCorners wsX6_withCorners) := goodIn_app (goodIn_of _ (by decide +kernel)) ggX10_take_X6_withCorners
theorem ggX10_take_X5_hasCut : GoodIn wsX10_take wsX5_hasCut := fun w h => ⟨(List.mem_cons_of_mem _ (List.mem_append_right _ (List.mem_append_right _ (List.mem_append_right _ (List.mem_append_left _ h))))), gdX5_hasCut w h⟩
set_option maxRecDepth 20000 in
theorem gX10_take_X5_hasCut : GoodIn wsX10_take (wsV RX10 134 RX5 yX5_hasCut wsX5_hasCut) := goodIn_app (goodIn_of _ (by decide +kernel)) ggX10_take_X5_hasCut
theorem ggX10_take_X5_cutAt : GoodIn wsX10_take wsX5_cutAt := fun w h => ⟨(List.mem_cons_of_mem _ (List.mem_append_right _ (List.mem_append_right _ (List.mem_append_right _ (List.mem_append_right _ (List.mem_append_left _ h)))))), gdX5_cutAt w h⟩
set_option maxRecDepth 20000 in
theorem gX10_take_X5_cutAt : GoodIn wsX10_take (wsV RX10 88 RX5 yX5_cutAt wsX5_cutAt) := goodIn_app (goodIn_of _ (by decide +kernel)) ggX10_take_X5_cutAt
theorem ggX10_take_X10_become : GoodIn wsX10_take wsX10_become := fun w h => ⟨(List.mem_cons_of_mem _ (List.mem_append_right _ (List.mem_append_right _ (List.mem_append_right _ (List.mem_append_right _ (List.mem_append_right _ h)))))), gdX10_become w h⟩
set_option maxRecDepth 20000 in
theorem gX10_take_X10_become : GoodIn wsX10_take (wsV RX10 121 RX10 yX10_become wsX10_become) := goodIn_app (goodIn_of _ (by decide +kernel)) ggX10_take_X10_become
theorem ggX10_told_X5_corners : GoodIn wsX10_told wsX5_corners := fun w h => ⟨(List.mem_cons_of_mem _ (List.mem_append_right _ (List.mem_append_right _ (List.mem_append_left _ h)))), gdX5_corners w h⟩
set_option maxRecDepth 20000 in
theorem gX10_told_X5_corners : GoodIn wsX10_told (wsV RX10 138 RX5 yX5_corners wsX5_corners) := goodIn_app (goodIn_of _ (by decide +kernel)) ggX10_told_X5_corners
theorem ggX10_told_X5_numberOf : GoodIn wsX10_told wsX5_numberOf := fun w h => ⟨(List.mem_cons_of_mem _ (List.mem_append_right _ (List.mem_append_right _ (List.mem_append_right _ (List.mem_append_left _ h))))), gdX5_numberOf w h⟩
set_option maxRecDepth 20000 in
theorem gX10_told_X5_numberOf : GoodIn wsX10_told (wsV RX10 125 RX5 yX5_numberOf wsX5_numberOf) := goodIn_app (goodIn_of _ (by decide +kernel)) ggX10_told_X5_numberOf
theorem ggX10_told_X5_cutCount : GoodIn wsX10_told wsX5_cutCount := fun w h => ⟨(List.mem_cons_of_mem _ (List.mem_append_right _ (List.mem_append_right _ (List.mem_append_right _ (List.mem_append_right _ (List.mem_append_left _ h)))))), gdX5_cutCount w h⟩
set_option maxRecDepth 20000 in
theorem gX10_told_X5_cutCount : GoodIn wsX10_told (wsV RX10 141 RX5 yX5_cutCount wsX5_cutCount) := goodIn_app (goodIn_of _ (by decide +kernel)) ggX10_told_X5_cutCount
theorem ggX10_told_X2_size : GoodIn wsX10_told wsX2_size := fun w h => ⟨(List.mem_cons_of_mem _ (List.mem_append_right _ (List.mem_append_right _ (List.mem_append_right _ (List.mem_append_right _ (List.mem_append_right _ h)))))), gdX2_size w h⟩
set_option maxRecDepth 20000 in
theorem gX10_told_X2_size : GoodIn wsX10_told (wsV RX10 144 RX2 yX2_size wsX2_size) := goodIn_app (goodIn_of _ (by decide +kernel)) ggX10_told_X2_size
theorem ggX10_triangle_X5_corners : GoodIn wsX10_triangle wsX5_corners := fun w h => ⟨(List.mem_cons_of_mem _ (List.mem_append_right _ (List.mem_append_right _ (List.mem_append_left _ h)))), gdX5_corners w h⟩
set_option maxRecDepth 20000 in
theorem gX10_triangle_X5_corners : GoodIn wsX10_triangle (wsV RX10 138 RX5 yX5_corners wsX5_corners) := goodIn_app (goodIn_of _ (by decide +kernel)) ggX10_triangle_X5_corners
theorem ggX10_triangle_X9_gather : GoodIn wsX10_triangle wsX9_gather := fun w h => ⟨(List.mem_cons_of_mem _ (List.mem_append_right _ (List.mem_append_right _ (List.mem_append_right _ (List.mem_append_left _ h))))), gdX9_gather w h⟩
set_option maxRecDepth 20000 in
theorem gX10_triangle_X9_gather : GoodIn wsX10_triangle (wsV RX10 145 RX9 yX9_gather wsX9_gather) := goodIn_app (goodIn_of _ (by decide +kernel)) ggX10_triangle_X9_gather
theorem ggX10_triangle_X9_cornerOf : GoodIn wsX10_triangle wsX9_cornerOf := fun w h => ⟨(List.mem_cons_of_mem _ (List.mem_append_right _ (List.mem_append_right _ (List.mem_append_right _ (List.mem_append_right _ h))))), gdX9_cornerOf w h⟩
set_option maxRecDepth 20000 in
theorem gX10_triangle_X9_cornerOf : GoodIn wsX10_triangle (wsV RX10 148 RX9 yX9_cornerOf wsX9_cornerOf) := goodIn_app (goodIn_of _ (by decide +kernel)) ggX10_triangle_X9_cornerOf
theorem ggX10_areCorners_X5_hasCorner : GoodIn wsX10_areCorners wsX5_hasCorner := fun w h => ⟨(List.mem_cons_of_mem _ (List.mem_append_right _ (List.mem_append_right _ h))), gdX5_hasCorner w h⟩
set_option maxRecDepth 20000 in
theorem gX10_areCorners_X5_hasCorner : GoodIn wsX10_areCorners (wsV RX10 160 RX5 yX5_hasCorner wsX5_hasCorner) := goodIn_app (goodIn_of _ (by decide +kernel)) ggX10_areCorners_X5_hasCorner
theorem ggX10_entry_X10_areCorners : GoodIn wsX10_entry wsX10_areCorners := fun w h => ⟨(List.mem_cons_of_mem _ (List.mem_append_right _ (List.mem_append_right _ (List.mem_append_left _ h)))), gdX10_areCorners w h⟩
set_option maxRecDepth 20000 in
theorem gX10_entry_X10_areCorners : GoodIn wsX10_entry (wsV RX10 152 RX10 yX10_areCorners wsX10_areCorners) := goodIn_app (goodIn_of _ (by decide +kernel)) ggX10_entry_X10_areCorners
theorem ggX10_entry_X5_entryOf : GoodIn wsX10_entry wsX5_entryOf := fun w h => ⟨(List.mem_cons_of_mem _ (List.mem_append_right _ (List.mem_append_right _ (List.mem_append_right _ h)))), gdX5_entryOf w h⟩
set_option maxRecDepth 20000 in
theorem gX10_entry_X5_entryOf : GoodIn wsX10_entry (wsV RX10 156 RX5 yX5_entryOf wsX5_entryOf) := goodIn_app (goodIn_of _ (by decide +kernel)) ggX10_entry_X5_entryOf
theorem ggX10_row_X5_hasCorner : GoodIn wsX10_row wsX5_hasCorner := fun w h => ⟨(List.mem_cons_of_mem _ (List.mem_append_right _ (List.mem_append_right _ (List.mem_append_left _ h)))), gdX5_hasCorner w h⟩
set_option maxRecDepth 20000 in
theorem gX10_row_X5_hasCorner : GoodIn wsX10_row (wsV RX10 160 RX5 yX5_hasCorner wsX5_hasCorner) := goodIn_app (goodIn_of _ (by decide +kernel)) ggX10_row_X5_hasCorner
theorem ggX10_row_X5_trianglesAt : GoodIn wsX10_row wsX5_trianglesAt := fun w h => ⟨(List.mem_cons_of_mem _ (List.mem_append_right _ (List.mem_append_right _ (List.mem_append_right _ h)))), gdX5_trianglesAt w h⟩
set_option maxRecDepth 20000 in
theorem gX10_row_X5_trianglesAt : GoodIn wsX10_row (wsV RX10 163 RX5 yX5_trianglesAt wsX5_trianglesAt) := goodIn_app (goodIn_of _ (by decide +kernel)) ggX10_row_X5_trianglesAt
theorem ggX10_way_X10_areCorners : GoodIn wsX10_way wsX10_areCorners := fun w h => ⟨(List.mem_cons_of_mem _ (List.mem_append_right _ (List.mem_append_right _ (List.mem_append_left _ h)))), gdX10_areCorners w h⟩
set_option maxRecDepth 20000 in
theorem gX10_way_X10_areCorners : GoodIn wsX10_way (wsV RX10 152 RX10 yX10_areCorners wsX10_areCorners) := goodIn_app (goodIn_of _ (by decide +kernel)) ggX10_way_X10_areCorners
theorem ggX10_way_X5_hasCorner : GoodIn wsX10_way wsX5_hasCorner := fun w h => ⟨(List.mem_cons_of_mem _ (List.mem_append_right _ (List.mem_append_right _ (List.mem_append_right _ (List.mem_append_left _ h))))), gdX5_hasCorner w h⟩
set_option maxRecDepth 20000 in
theorem gX10_way_X5_hasCorner : GoodIn wsX10_way (wsV RX10 160 RX5 yX5_hasCorner wsX5_hasCorner) := goodIn_app (goodIn_of _ (by decide +kernel)) ggX10_way_X5_hasCorner
theorem ggX10_way_X5_entryOf : GoodIn wsX10_way wsX5_entryOf := fun w h => ⟨(List.mem_cons_of_mem _ (List.mem_append_right _ (List.mem_append_right _ (List.mem_append_right _ (List.mem_append_right _ (List.mem_append_left _ h)))))), gdX5_entryOf w h⟩
set_option maxRecDepth 20000 in
theorem gX10_way_X5_entryOf : GoodIn wsX10_way (wsV RX10 156 RX5 yX5_entryOf wsX5_entryOf) := goodIn_app (goodIn_of _ (by decide +kernel)) ggX10_way_X5_entryOf
theorem ggX10_way_X5_ahead : GoodIn wsX10_way wsX5_ahead := fun w h => ⟨(List.mem_cons_of_mem _ (List.mem_append_right _ (List.mem_append_right _ (List.mem_append_right _ (List.mem_append_right _ (List.mem_append_right _ (List.mem_append_left _ h))))))), gdX5_ahead w h⟩
set_option maxRecDepth 20000 in
theorem gX10_way_X5_ahead : GoodIn wsX10_way (wsV RX10 166 RX5 yX5_ahead wsX5_ahead) := goodIn_app (goodIn_of _ (by decide +kernel)) ggX10_way_X5_ahead
theorem ggX10_way_X9_gather : GoodIn wsX10_way wsX9_gather := fun w h => ⟨(List.mem_cons_of_mem _ (List.mem_append_right _ (List.mem_append_right _ (List.mem_append_right _ (List.mem_append_right _ (List.mem_append_right _ (List.mem_append_right _ (List.mem_append_left _ h)))))))), gdX9_gather w h⟩
set_option maxRecDepth 20000 in
theorem gX10_way_X9_gather : GoodIn wsX10_way (wsV RX10 145 RX9 yX9_gather wsX9_gather) := goodIn_app (goodIn_of _ (by decide +kernel)) ggX10_way_X9_gather
theorem ggX10_way_X9_onWay : GoodIn wsX10_way wsX9_onWay := fun w h => ⟨(List.mem_cons_of_mem _ (List.mem_append_right _ (List.mem_append_right _ (List.mem_append_right _ (List.mem_append_right _ (List.mem_append_right _ (List.mem_append_right _ (List.mem_append_right _ h)))))))), gdX9_onWay w h⟩
set_option maxRecDepth 20000 in
theorem gX10_way_X9_onWay : GoodIn wsX10_way (wsV RX10 169 RX9 yX9_onWay wsX9_onWay) := goodIn_app (goodIn_of _ (by decide +kernel)) ggX10_way_X9_onWay
theorem ggX10_flip_X10_areCorners : GoodIn wsX10_flip wsX10_areCorners := fun w h => ⟨(List.mem_cons_of_mem _ (List.mem_append_right _ (List.mem_append_right _ (List.mem_append_left _ h)))), gdX10_areCorners w h⟩
set_option maxRecDepth 20000 in
theorem gX10_flip_X10_areCorners : GoodIn wsX10_flip (wsV RX10 152 RX10 yX10_areCorners wsX10_areCorners) := goodIn_app (goodIn_of _ (by decide +kernel)) ggX10_flip_X10_areCorners
theorem ggX10_flip_X5_lineOf : GoodIn wsX10_flip wsX5_lineOf := fun w h => ⟨(List.mem_cons_of_mem _ (List.mem_append_right _ (List.mem_append_right _ (List.mem_append_right _ (List.mem_append_left _ h))))), gdX5_lineOf w h⟩
set_option maxRecDepth 20000 in
theorem gX10_flip_X5_lineOf : GoodIn wsX10_flip (wsV RX10 173 RX5 yX5_lineOf wsX5_lineOf) := goodIn_app (goodIn_of _ (by decide +kernel)) ggX10_flip_X5_lineOf
theorem ggX10_flip_X5_has : GoodIn wsX10_flip wsX5_has := fun w h => ⟨(List.mem_cons_of_mem _ (List.mem_append_right _ (List.mem_append_right _ (List.mem_append_right _ (List.mem_append_right _ (List.mem_append_left _ h)))))), gdX5_has w h⟩
set_option maxRecDepth 20000 in
theorem gX10_flip_X5_has : GoodIn wsX10_flip (wsV RX10 176 RX5 yX5_has wsX5_has) := goodIn_app (goodIn_of _ (by decide +kernel)) ggX10_flip_X5_has
theorem ggX10_flip_X5_otherLine : GoodIn wsX10_flip wsX5_otherLine := fun w h => ⟨(List.mem_cons_of_mem _ (List.mem_append_right _ (List.mem_append_right _ (List.mem_append_right _ (List.mem_append_right _ (List.mem_append_right _ (List.mem_append_left _ h))))))), gdX5_otherLine w h⟩
set_option maxRecDepth 20000 in
theorem gX10_flip_X5_otherLine : GoodIn wsX10_flip (wsV RX10 179 RX5 yX5_otherLine wsX5_otherLine) := goodIn_app (goodIn_of _ (by decide +kernel)) ggX10_flip_X5_otherLine
theorem ggX10_flip_X5_pairOf : GoodIn wsX10_flip wsX5_pairOf := fun w h => ⟨(List.mem_cons_of_mem _ (List.mem_append_right _ (List.mem_append_right _ (List.mem_append_right _ (List.mem_append_right _ (List.mem_append_right _ (List.mem_append_right _ h))))))), gdX5_pairOf w h⟩
set_option maxRecDepth 20000 in
theorem gX10_flip_X5_pairOf : GoodIn wsX10_flip (wsV RX10 182 RX5 yX5_pairOf wsX5_pairOf) := goodIn_app (goodIn_of _ (by decide +kernel)) ggX10_flip_X5_pairOf
theorem ggX10_fewest_X5_hasCut : GoodIn wsX10_fewest wsX5_hasCut := fun w h => ⟨(List.mem_cons_of_mem _ (List.mem_append_right _ (List.mem_append_right _ (List.mem_append_left _ h)))), gdX5_hasCut w h⟩
set_option maxRecDepth 20000 in
theorem gX10_fewest_X5_hasCut : GoodIn wsX10_fewest (wsV RX10 134 RX5 yX5_hasCut wsX5_hasCut) := goodIn_app (goodIn_of _ (by decide +kernel)) ggX10_fewest_X5_hasCut
theorem ggX10_fewest_X5_numberOf : GoodIn wsX10_fewest wsX5_numberOf := fun w h => ⟨(List.mem_cons_of_mem _ (List.mem_append_right _ (List.mem_append_right _ (List.mem_append_right _ (List.mem_append_left _ h))))), gdX5_numberOf w h⟩
set_option maxRecDepth 20000 in
theorem gX10_fewest_X5_numberOf : GoodIn wsX10_fewest (wsV RX10 125 RX5 yX5_numberOf wsX5_numberOf) := goodIn_app (goodIn_of _ (by decide +kernel)) ggX10_fewest_X5_numberOf
theorem ggX10_fewest_X4_layWay : GoodIn wsX10_fewest wsX4_layWay := fun w h => ⟨(List.mem_cons_of_mem _ (List.mem_append_right _ (List.mem_append_right _ (List.mem_append_right _ (List.mem_append_right _ h))))), gdX4_layWay w h⟩
set_option maxRecDepth 20000 in
theorem gX10_fewest_X4_layWay : GoodIn wsX10_fewest (wsV RX10 185 RX4 yX4_layWay wsX4_layWay) := goodIn_app (goodIn_of _ (by decide +kernel)) ggX10_fewest_X4_layWay
theorem ggX10_passed_X4_onWay : GoodIn wsX10_passed wsX4_onWay := fun w h => ⟨(List.mem_cons_of_mem _ (List.mem_append_right _ (List.mem_append_right _ h))), gdX4_onWay w h⟩
set_option maxRecDepth 20000 in
theorem gX10_passed_X4_onWay : GoodIn wsX10_passed (wsV RX10 189 RX4 yX4_onWay wsX4_onWay) := goodIn_app (goodIn_of _ (by decide +kernel)) ggX10_passed_X4_onWay
theorem ggX10_farthest_X5_numberOf : GoodIn wsX10_farthest wsX5_numberOf := fun w h => ⟨(List.mem_cons_of_mem _ (List.mem_append_right _ (List.mem_append_right _ (List.mem_append_left _ h)))), gdX5_numberOf w h⟩
set_option maxRecDepth 20000 in
theorem gX10_farthest_X5_numberOf : GoodIn wsX10_farthest (wsV RX10 125 RX5 yX5_numberOf wsX5_numberOf) := goodIn_app (goodIn_of _ (by decide +kernel)) ggX10_farthest_X5_numberOf
theorem ggX10_farthest_X4_measure : GoodIn wsX10_farthest wsX4_measure := fun w h => ⟨(List.mem_cons_of_mem _ (List.mem_append_right _ (List.mem_append_right _ (List.mem_append_right _ (List.mem_append_left _ h))))), gdX4_measure w h⟩
set_option maxRecDepth 20000 in
theorem gX10_farthest_X4_measure : GoodIn wsX10_farthest (wsV RX10 191 RX4 yX4_measure wsX4_measure) := goodIn_app (goodIn_of _ (by decide +kernel)) ggX10_farthest_X4_measure
theorem ggX10_farthest_X4_mostSteps : GoodIn wsX10_farthest wsX4_mostSteps := fun w h => ⟨(List.mem_cons_of_mem _ (List.mem_append_right _ (List.mem_append_right _ (List.mem_append_right _ (List.mem_append_right _ (List.mem_append_left _ h)))))), gdX4_mostSteps w h⟩
set_option maxRecDepth 20000 in
theorem gX10_farthest_X4_mostSteps : GoodIn wsX10_farthest (wsV RX10 194 RX4 yX4_mostSteps wsX4_mostSteps) := goodIn_app (goodIn_of _ (by decide +kernel)) ggX10_farthest_X4_mostSteps
theorem ggX10_farthest_X4_howManyAt : GoodIn wsX10_farthest wsX4_howManyAt := fun w h => ⟨(List.mem_cons_of_mem _ (List.mem_append_right _ (List.mem_append_right _ (List.mem_append_right _ (List.mem_append_right _ (List.mem_append_right _ h)))))), gdX4_howManyAt w h⟩
set_option maxRecDepth 20000 in
theorem gX10_farthest_X4_howManyAt : GoodIn wsX10_farthest (wsV RX10 198 RX4 yX4_howManyAt wsX4_howManyAt) := goodIn_app (goodIn_of _ (by decide +kernel)) ggX10_farthest_X4_howManyAt
theorem ggX10_least_X5_leastAlike : GoodIn wsX10_least wsX5_leastAlike := fun w h => ⟨(List.mem_cons_of_mem _ (List.mem_append_right _ (List.mem_append_right _ (List.mem_append_left _ h)))), gdX5_leastAlike w h⟩
set_option maxRecDepth 20000 in
theorem gX10_least_X5_leastAlike : GoodIn wsX10_least (wsV RX10 202 RX5 yX5_leastAlike wsX5_leastAlike) := goodIn_app (goodIn_of _ (by decide +kernel)) ggX10_least_X5_leastAlike
theorem ggX10_least_X5_numberOf : GoodIn wsX10_least wsX5_numberOf := fun w h => ⟨(List.mem_cons_of_mem _ (List.mem_append_right _ (List.mem_append_right _ (List.mem_append_right _ h)))), gdX5_numberOf w h⟩
set_option maxRecDepth 20000 in
theorem gX10_least_X5_numberOf : GoodIn wsX10_least (wsV RX10 125 RX5 yX5_numberOf wsX5_numberOf) := goodIn_app (goodIn_of _ (by decide +kernel)) ggX10_least_X5_numberOf
theorem ggX10_kinds_X6_withCorners : GoodIn wsX10_kinds wsX6_withCorners := fun w h => ⟨(List.mem_cons_of_mem _ (List.mem_append_right _ (List.mem_append_right _ (List.mem_append_left _ h)))), gdX6_withCorners w h⟩
set_option maxRecDepth 20000 in
theorem gX10_kinds_X6_withCorners : GoodIn wsX10_kinds (wsV RX10 80 RX6 yX6_withCorners wsX6_withCorners) := goodIn_app (goodIn_of _ (by decide +kernel)) ggX10_kinds_X6_withCorners
theorem ggX10_kinds_X5_countKinds : GoodIn wsX10_kinds wsX5_countKinds := fun w h => ⟨(List.mem_cons_of_mem _ (List.mem_append_right _ (List.mem_append_right _ (List.mem_append_right _ h)))), gdX5_countKinds w h⟩
set_option maxRecDepth 20000 in
theorem gX10_kinds_X5_countKinds : GoodIn wsX10_kinds (wsV RX10 206 RX5 yX5_countKinds wsX5_countKinds) := goodIn_app (goodIn_of _ (by decide +kernel)) ggX10_kinds_X5_countKinds
theorem ggX10_takeRow_X8_readNumbers : GoodIn wsX10_takeRow wsX8_readNumbers := fun w h => ⟨(List.mem_cons_of_mem _ (List.mem_append_right _ (List.mem_append_right _ (List.mem_append_left _ h)))), gdX8_readNumbers w h⟩
set_option maxRecDepth 20000 in
theorem gX10_takeRow_X8_readNumbers : GoodIn wsX10_takeRow (wsV RX10 240 RX8 yX8_readNumbers wsX8_readNumbers) := goodIn_app (goodIn_of _ (by decide +kernel)) ggX10_takeRow_X8_readNumbers
theorem ggX10_takeRow_X8_shorten : GoodIn wsX10_takeRow wsX8_shorten := fun w h => ⟨(List.mem_cons_of_mem _ (List.mem_append_right _ (List.mem_append_right _ (List.mem_append_right _ (List.mem_append_left _ h))))), gdX8_shorten w h⟩
set_option maxRecDepth 20000 in
theorem gX10_takeRow_X8_shorten : GoodIn wsX10_takeRow (wsV RX10 109 RX8 yX8_shorten wsX8_shorten) := goodIn_app (goodIn_of _ (by decide +kernel)) ggX10_takeRow_X8_shorten
theorem ggX10_takeRow_X5_corners : GoodIn wsX10_takeRow wsX5_corners := fun w h => ⟨(List.mem_cons_of_mem _ (List.mem_append_right _ (List.mem_append_right _ (List.mem_append_right _ (List.mem_append_right _ h))))), gdX5_corners w h⟩
set_option maxRecDepth 20000 in
theorem gX10_takeRow_X5_corners : GoodIn wsX10_takeRow (wsV RX10 138 RX5 yX5_corners wsX5_corners) := goodIn_app (goodIn_of _ (by decide +kernel)) ggX10_takeRow_X5_corners
theorem ggX10_read_X10_takeRow : GoodIn wsX10_read wsX10_takeRow := fun w h => ⟨(List.mem_cons_of_mem _ (List.mem_append_right _ (List.mem_append_right _ (List.mem_append_left _ h)))), gdX10_takeRow w h⟩
set_option maxRecDepth 20000 in
theorem gX10_read_X10_takeRow : GoodIn wsX10_read (wsV RX10 210 RX10 yX10_takeRow wsX10_takeRow) := goodIn_app (goodIn_of _ (by decide +kernel)) ggX10_read_X10_takeRow
theorem ggX10_read_X5_nearestTo : GoodIn wsX10_read wsX5_nearestTo := fun w h => ⟨(List.mem_cons_of_mem _ (List.mem_append_right _ (List.mem_append_right _ (List.mem_append_right _ (List.mem_append_left _ h))))), gdX5_nearestTo w h⟩
set_option maxRecDepth 20000 in
theorem gX10_read_X5_nearestTo : GoodIn wsX10_read (wsV RX10 213 RX5 yX5_nearestTo wsX5_nearestTo) := goodIn_app (goodIn_of _ (by decide +kernel)) ggX10_read_X5_nearestTo
theorem ggX10_read_X5_cutAt : GoodIn wsX10_read wsX5_cutAt := fun w h => ⟨(List.mem_cons_of_mem _ (List.mem_append_right _ (List.mem_append_right _ (List.mem_append_right _ (List.mem_append_right _ (List.mem_append_left _ h)))))), gdX5_cutAt w h⟩
set_option maxRecDepth 20000 in
theorem gX10_read_X5_cutAt : GoodIn wsX10_read (wsV RX10 88 RX5 yX5_cutAt wsX5_cutAt) := goodIn_app (goodIn_of _ (by decide +kernel)) ggX10_read_X5_cutAt
theorem ggX10_read_X5_differenceFrom : GoodIn wsX10_read wsX5_differenceFrom := fun w h => ⟨(List.mem_cons_of_mem _ (List.mem_append_right _ (List.mem_append_right _ (List.mem_append_right _ (List.mem_append_right _ (List.mem_append_right _ h)))))), gdX5_differenceFrom w h⟩
set_option maxRecDepth 20000 in
theorem gX10_read_X5_differenceFrom : GoodIn wsX10_read (wsV RX10 217 RX5 yX5_differenceFrom wsX5_differenceFrom) := goodIn_app (goodIn_of _ (by decide +kernel)) ggX10_read_X5_differenceFrom
theorem ggX10_mend_X10_takeRow : GoodIn wsX10_mend wsX10_takeRow := fun w h => ⟨(List.mem_cons_of_mem _ (List.mem_append_right _ (List.mem_append_right _ (List.mem_append_left _ h)))), gdX10_takeRow w h⟩
set_option maxRecDepth 20000 in
theorem gX10_mend_X10_takeRow : GoodIn wsX10_mend (wsV RX10 210 RX10 yX10_takeRow wsX10_takeRow) := goodIn_app (goodIn_of _ (by decide +kernel)) ggX10_mend_X10_takeRow
theorem ggX10_mend_X5_nearestTo : GoodIn wsX10_mend wsX5_nearestTo := fun w h => ⟨(List.mem_cons_of_mem _ (List.mem_append_right _ (List.mem_append_right _ (List.mem_append_right _ (List.mem_append_left _ h))))), gdX5_nearestTo w h⟩
set_option maxRecDepth 20000 in
theorem gX10_mend_X5_nearestTo : GoodIn wsX10_mend (wsV RX10 213 RX5 yX5_nearestTo wsX5_nearestTo) := goodIn_app (goodIn_of _ (by decide +kernel)) ggX10_mend_X5_nearestTo
theorem ggX10_mend_X5_cutAt : GoodIn wsX10_mend wsX5_cutAt := fun w h => ⟨(List.mem_cons_of_mem _ (List.mem_append_right _ (List.mem_append_right _ (List.mem_append_right _ (List.mem_append_right _ (List.mem_append_left _ h)))))), gdX5_cutAt w h⟩
set_option maxRecDepth 20000 in
theorem gX10_mend_X5_cutAt : GoodIn wsX10_mend (wsV RX10 88 RX5 yX5_cutAt wsX5_cutAt) := goodIn_app (goodIn_of _ (by decide +kernel)) ggX10_mend_X5_cutAt
theorem ggX10_mend_X5_differenceFrom : GoodIn wsX10_mend wsX5_differenceFrom := fun w h => ⟨(List.mem_cons_of_mem _ (List.mem_append_right _ (List.mem_append_right _ (List.mem_append_right _ (List.mem_append_right _ (List.mem_append_right _ h)))))), gdX5_differenceFrom w h⟩
set_option maxRecDepth 20000 in
theorem gX10_mend_X5_differenceFrom : GoodIn wsX10_mend (wsV RX10 217 RX5 yX5_differenceFrom wsX5_differenceFrom) := goodIn_app (goodIn_of _ (by decide +kernel)) ggX10_mend_X5_differenceFrom
theorem ggX10_crossed_X10_areCorners : GoodIn wsX10_crossed wsX10_areCorners := fun w h => ⟨(List.mem_cons_of_mem _ (List.mem_append_right _ (List.mem_append_right _ (List.mem_append_left _ h)))), gdX10_areCorners w h⟩
set_option maxRecDepth 20000 in
theorem gX10_crossed_X10_areCorners : GoodIn wsX10_crossed (wsV RX10 152 RX10 yX10_areCorners wsX10_areCorners) := goodIn_app (goodIn_of _ (by decide +kernel)) ggX10_crossed_X10_areCorners
theorem ggX10_crossed_X0_gather : GoodIn wsX10_crossed wsX0_gather := fun w h => ⟨(List.mem_cons_of_mem _ (List.mem_append_right _ (List.mem_append_right _ (List.mem_append_right _ (List.mem_append_left _ h))))), gdX0_gather w h⟩
set_option maxRecDepth 20000 in
theorem gX10_crossed_X0_gather : GoodIn wsX10_crossed (wsV RX10 221 RX0 yX0_gather wsX0_gather) := goodIn_app (goodIn_of _ (by decide +kernel)) ggX10_crossed_X0_gather
theorem ggX10_crossed_X0_size : GoodIn wsX10_crossed wsX0_size := fun w h => ⟨(List.mem_cons_of_mem _ (List.mem_append_right _ (List.mem_append_right _ (List.mem_append_right _ (List.mem_append_right _ (List.mem_append_left _ h)))))), gdX0_size w h⟩
set_option maxRecDepth 20000 in
theorem gX10_crossed_X0_size : GoodIn wsX10_crossed (wsV RX10 224 RX0 yX0_size wsX0_size) := goodIn_app (goodIn_of _ (by decide +kernel)) ggX10_crossed_X0_size
theorem ggX10_crossed_X0_pairAt : GoodIn wsX10_crossed wsX0_pairAt := fun w h => ⟨(List.mem_cons_of_mem _ (List.mem_append_right _ (List.mem_append_right _ (List.mem_append_right _ (List.mem_append_right _ (List.mem_append_right _ h)))))), gdX0_pairAt w h⟩
set_option maxRecDepth 20000 in
theorem gX10_crossed_X0_pairAt : GoodIn wsX10_crossed (wsV RX10 225 RX0 yX0_pairAt wsX0_pairAt) := goodIn_app (goodIn_of _ (by decide +kernel)) ggX10_crossed_X0_pairAt
theorem ggX10_side_X10_areCorners : GoodIn wsX10_side wsX10_areCorners := fun w h => ⟨(List.mem_cons_of_mem _ (List.mem_append_right _ (List.mem_append_right _ (List.mem_append_left _ h)))), gdX10_areCorners w h⟩
set_option maxRecDepth 20000 in
theorem gX10_side_X10_areCorners : GoodIn wsX10_side (wsV RX10 152 RX10 yX10_areCorners wsX10_areCorners) := goodIn_app (goodIn_of _ (by decide +kernel)) ggX10_side_X10_areCorners
theorem ggX10_side_X0_gather : GoodIn wsX10_side wsX0_gather := fun w h => ⟨(List.mem_cons_of_mem _ (List.mem_append_right _ (List.mem_append_right _ (List.mem_append_right _ (List.mem_append_left _ h))))), gdX0_gather w h⟩
set_option maxRecDepth 20000 in
theorem gX10_side_X0_gather : GoodIn wsX10_side (wsV RX10 221 RX0 yX0_gather wsX0_gather) := goodIn_app (goodIn_of _ (by decide +kernel)) ggX10_side_X0_gather
theorem ggX10_side_X0_sharedWithNext : GoodIn wsX10_side wsX0_sharedWithNext := fun w h => ⟨(List.mem_cons_of_mem _ (List.mem_append_right _ (List.mem_append_right _ (List.mem_append_right _ (List.mem_append_right _ (List.mem_append_left _ h)))))), gdX0_sharedWithNext w h⟩
set_option maxRecDepth 20000 in
theorem gX10_side_X0_sharedWithNext : GoodIn wsX10_side (wsV RX10 228 RX0 yX0_sharedWithNext wsX0_sharedWithNext) := goodIn_app (goodIn_of _ (by decide +kernel)) ggX10_side_X0_sharedWithNext
theorem ggX10_side_X5_ahead : GoodIn wsX10_side wsX5_ahead := fun w h => ⟨(List.mem_cons_of_mem _ (List.mem_append_right _ (List.mem_append_right _ (List.mem_append_right _ (List.mem_append_right _ (List.mem_append_right _ h)))))), gdX5_ahead w h⟩
set_option maxRecDepth 20000 in
theorem gX10_side_X5_ahead : GoodIn wsX10_side (wsV RX10 166 RX5 yX5_ahead wsX5_ahead) := goodIn_app (goodIn_of _ (by decide +kernel)) ggX10_side_X5_ahead
theorem ggX10_greatest_X6_withCorners : GoodIn wsX10_greatest wsX6_withCorners := fun w h => ⟨(List.mem_cons_of_mem _ (List.mem_append_right _ (List.mem_append_right _ (List.mem_append_left _ h)))), gdX6_withCorners w h⟩
set_option maxRecDepth 20000 in
theorem gX10_greatest_X6_withCorners : GoodIn wsX10_greatest (wsV RX10 80 RX6 yX6_withCorners wsX6_withCorners) := goodIn_app (goodIn_of _ (by decide +kernel)) ggX10_greatest_X6_withCorners
theorem ggX10_greatest_X5_numberOfGreatest : GoodIn wsX10_greatest wsX5_numberOfGreatest := fun w h => ⟨(List.mem_cons_of_mem _ (List.mem_append_right _ (List.mem_append_right _ (List.mem_append_right _ (List.mem_append_left _ h))))), gdX5_numberOfGreatest w h⟩
set_option maxRecDepth 20000 in
theorem gX10_greatest_X5_numberOfGreatest : GoodIn wsX10_greatest (wsV RX10 231 RX5 yX5_numberOfGreatest wsX5_numberOfGreatest) := goodIn_app (goodIn_of _ (by decide +kernel)) ggX10_greatest_X5_numberOfGreatest
theorem ggX10_greatest_X5_cutAt : GoodIn wsX10_greatest wsX5_cutAt := fun w h => ⟨(List.mem_cons_of_mem _ (List.mem_append_right _ (List.mem_append_right _ (List.mem_append_right _ (List.mem_append_right _ (List.mem_append_left _ h)))))), gdX5_cutAt w h⟩
set_option maxRecDepth 20000 in
theorem gX10_greatest_X5_cutAt : GoodIn wsX10_greatest (wsV RX10 88 RX5 yX5_cutAt wsX5_cutAt) := goodIn_app (goodIn_of _ (by decide +kernel)) ggX10_greatest_X5_cutAt
theorem ggX10_greatest_X5_greatestIn : GoodIn wsX10_greatest wsX5_greatestIn := fun w h => ⟨(List.mem_cons_of_mem _ (List.mem_append_right _ (List.mem_append_right _ (List.mem_append_right _ (List.mem_append_right _ (List.mem_append_right _ h)))))), gdX5_greatestIn w h⟩
set_option maxRecDepth 20000 in
theorem gX10_greatest_X5_greatestIn : GoodIn wsX10_greatest (wsV RX10 234 RX5 yX5_greatestIn wsX5_greatestIn) := goodIn_app (goodIn_of _ (by decide +kernel)) ggX10_greatest_X5_greatestIn
theorem ggX10_spread_X10_areCorners : GoodIn wsX10_spread wsX10_areCorners := fun w h => ⟨(List.mem_cons_of_mem _ (List.mem_append_right _ (List.mem_append_right _ (List.mem_append_left _ h)))), gdX10_areCorners w h⟩
set_option maxRecDepth 20000 in
theorem gX10_spread_X10_areCorners : GoodIn wsX10_spread (wsV RX10 152 RX10 yX10_areCorners wsX10_areCorners) := goodIn_app (goodIn_of _ (by decide +kernel)) ggX10_spread_X10_areCorners
theorem ggX10_spread_X5_countWith : GoodIn wsX10_spread wsX5_countWith := fun w h => ⟨(List.mem_cons_of_mem _ (List.mem_append_right _ (List.mem_append_right _ (List.mem_append_right _ h)))), gdX5_countWith w h⟩
set_option maxRecDepth 20000 in
theorem gX10_spread_X5_countWith : GoodIn wsX10_spread (wsV RX10 237 RX5 yX5_countWith wsX5_countWith) := goodIn_app (goodIn_of _ (by decide +kernel)) ggX10_spread_X5_countWith
theorem ggX10_period_X8_readNumbers : GoodIn wsX10_period wsX8_readNumbers := fun w h => ⟨(List.mem_cons_of_mem _ (List.mem_append_right _ (List.mem_append_right _ (List.mem_append_left _ h)))), gdX8_readNumbers w h⟩
set_option maxRecDepth 20000 in
theorem gX10_period_X8_readNumbers : GoodIn wsX10_period (wsV RX10 240 RX8 yX8_readNumbers wsX8_readNumbers) := goodIn_app (goodIn_of _ (by decide +kernel)) ggX10_period_X8_readNumbers
theorem ggX10_period_X8_shorten : GoodIn wsX10_period wsX8_shorten := fun w h => ⟨(List.mem_cons_of_mem _ (List.mem_append_right _ (List.mem_append_right _ (List.mem_append_right _ (List.mem_append_left _ h))))), gdX8_shorten w h⟩
set_option maxRecDepth 20000 in
theorem gX10_period_X8_shorten : GoodIn wsX10_period (wsV RX10 109 RX8 yX8_shorten wsX8_shorten) := goodIn_app (goodIn_of _ (by decide +kernel)) ggX10_period_X8_shorten
theorem ggX10_period_X2_accepts : GoodIn wsX10_period wsX2_accepts := fun w h => ⟨(List.mem_cons_of_mem _ (List.mem_append_right _ (List.mem_append_right _ (List.mem_append_right _ (List.mem_append_right _ (List.mem_append_left _ h)))))), gdX2_accepts w h⟩
set_option maxRecDepth 20000 in
theorem gX10_period_X2_accepts : GoodIn wsX10_period (wsV RX10 243 RX2 yX2_accepts wsX2_accepts) := goodIn_app (goodIn_of _ (by decide +kernel)) ggX10_period_X2_accepts
theorem ggX10_period_X2_become : GoodIn wsX10_period wsX2_become := fun w h => ⟨(List.mem_cons_of_mem _ (List.mem_append_right _ (List.mem_append_right _ (List.mem_append_right _ (List.mem_append_right _ (List.mem_append_right _ h)))))), gdX2_become w h⟩
set_option maxRecDepth 20000 in
theorem gX10_period_X2_become : GoodIn wsX10_period (wsV RX10 247 RX2 yX2_become wsX2_become) := goodIn_app (goodIn_of _ (by decide +kernel)) ggX10_period_X2_become
theorem ggX10_ofCut_X5_corners : GoodIn wsX10_ofCut wsX5_corners := fun w h => ⟨(List.mem_cons_of_mem _ (List.mem_append_right _ (List.mem_append_right _ (List.mem_append_left _ h)))), gdX5_corners w h⟩
set_option maxRecDepth 20000 in
theorem gX10_ofCut_X5_corners : GoodIn wsX10_ofCut (wsV RX10 138 RX5 yX5_corners wsX5_corners) := goodIn_app (goodIn_of _ (by decide +kernel)) ggX10_ofCut_X5_corners
theorem ggX10_ofCut_X5_trianglesAt : GoodIn wsX10_ofCut wsX5_trianglesAt := fun w h => ⟨(List.mem_cons_of_mem _ (List.mem_append_right _ (List.mem_append_right _ (List.mem_append_right _ (List.mem_append_left _ h))))), gdX5_trianglesAt w h⟩
set_option maxRecDepth 20000 in
theorem gX10_ofCut_X5_trianglesAt : GoodIn wsX10_ofCut (wsV RX10 163 RX5 yX5_trianglesAt wsX5_trianglesAt) := goodIn_app (goodIn_of _ (by decide +kernel)) ggX10_ofCut_X5_trianglesAt
theorem ggX10_ofCut_X2_become : GoodIn wsX10_ofCut wsX2_become := fun w h => ⟨(List.mem_cons_of_mem _ (List.mem_append_right _ (List.mem_append_right _ (List.mem_append_right _ (List.mem_append_right _ h))))), gdX2_become w h⟩
set_option maxRecDepth 20000 in
theorem gX10_ofCut_X2_become : GoodIn wsX10_ofCut (wsV RX10 247 RX2 yX2_become wsX2_become) := goodIn_app (goodIn_of _ (by decide +kernel)) ggX10_ofCut_X2_become
theorem ggX10_of_X2_hasPlace : GoodIn wsX10_of wsX2_hasPlace := fun w h => ⟨(List.mem_cons_of_mem _ (List.mem_append_right _ (List.mem_append_right _ (List.mem_append_left _ h)))), gdX2_hasPlace w h⟩
set_option maxRecDepth 20000 in
theorem gX10_of_X2_hasPlace : GoodIn wsX10_of (wsV RX10 249 RX2 yX2_hasPlace wsX2_hasPlace) := goodIn_app (goodIn_of _ (by decide +kernel)) ggX10_of_X2_hasPlace
theorem ggX10_of_X2_at : GoodIn wsX10_of wsX2_at := fun w h => ⟨(List.mem_cons_of_mem _ (List.mem_append_right _ (List.mem_append_right _ (List.mem_append_right _ h)))), gdX2_at w h⟩
set_option maxRecDepth 20000 in
theorem gX10_of_X2_at : GoodIn wsX10_of (wsV RX10 252 RX2 yX2_at wsX2_at) := goodIn_app (goodIn_of _ (by decide +kernel)) ggX10_of_X2_at
theorem ggX10_along_X2_hasPlace : GoodIn wsX10_along wsX2_hasPlace := fun w h => ⟨(List.mem_cons_of_mem _ (List.mem_append_right _ (List.mem_append_right _ (List.mem_append_left _ h)))), gdX2_hasPlace w h⟩
set_option maxRecDepth 20000 in
theorem gX10_along_X2_hasPlace : GoodIn wsX10_along (wsV RX10 249 RX2 yX2_hasPlace wsX2_hasPlace) := goodIn_app (goodIn_of _ (by decide +kernel)) ggX10_along_X2_hasPlace
theorem ggX10_along_X2_entryAt : GoodIn wsX10_along wsX2_entryAt := fun w h => ⟨(List.mem_cons_of_mem _ (List.mem_append_right _ (List.mem_append_right _ (List.mem_append_right _ h)))), gdX2_entryAt w h⟩
set_option maxRecDepth 20000 in
theorem gX10_along_X2_entryAt : GoodIn wsX10_along (wsV RX10 257 RX2 yX2_entryAt wsX2_entryAt) := goodIn_app (goodIn_of _ (by decide +kernel)) ggX10_along_X2_entryAt
theorem ggX10_breaks_X2_breakLength : GoodIn wsX10_breaks wsX2_breakLength := fun w h => ⟨(List.mem_cons_of_mem _ (List.mem_append_right _ (List.mem_append_right _ (List.mem_append_left _ h)))), gdX2_breakLength w h⟩
set_option maxRecDepth 20000 in
theorem gX10_breaks_X2_breakLength : GoodIn wsX10_breaks (wsV RX10 261 RX2 yX2_breakLength wsX2_breakLength) := goodIn_app (goodIn_of _ (by decide +kernel)) ggX10_breaks_X2_breakLength
theorem ggX10_breaks_X2_breakPlace : GoodIn wsX10_breaks wsX2_breakPlace := fun w h => ⟨(List.mem_cons_of_mem _ (List.mem_append_right _ (List.mem_append_right _ (List.mem_append_right _ (List.mem_append_left _ h))))), gdX2_breakPlace w h⟩
set_option maxRecDepth 20000 in
theorem gX10_breaks_X2_breakPlace : GoodIn wsX10_breaks (wsV RX10 264 RX2 yX2_breakPlace wsX2_breakPlace) := goodIn_app (goodIn_of _ (by decide +kernel)) ggX10_breaks_X2_breakPlace
theorem ggX10_breaks_X2_comesBack : GoodIn wsX10_breaks wsX2_comesBack := fun w h => ⟨(List.mem_cons_of_mem _ (List.mem_append_right _ (List.mem_append_right _ (List.mem_append_right _ (List.mem_append_right _ h))))), gdX2_comesBack w h⟩
set_option maxRecDepth 20000 in
theorem gX10_breaks_X2_comesBack : GoodIn wsX10_breaks (wsV RX10 267 RX2 yX2_comesBack wsX2_comesBack) := goodIn_app (goodIn_of _ (by decide +kernel)) ggX10_breaks_X2_comesBack
theorem ggX10_growth_X2_growthOfRound : GoodIn wsX10_growth wsX2_growthOfRound := fun w h => ⟨(List.mem_cons_of_mem _ (List.mem_append_right _ (List.mem_append_right _ h))), gdX2_growthOfRound w h⟩
set_option maxRecDepth 20000 in
theorem gX10_growth_X2_growthOfRound : GoodIn wsX10_growth (wsV RX10 270 RX2 yX2_growthOfRound wsX2_growthOfRound) := goodIn_app (goodIn_of _ (by decide +kernel)) ggX10_growth_X2_growthOfRound
theorem ggX10_glue_X2_hasPlace : GoodIn wsX10_glue wsX2_hasPlace := fun w h => ⟨(List.mem_cons_of_mem _ (List.mem_append_right _ (List.mem_append_right _ (List.mem_append_left _ h)))), gdX2_hasPlace w h⟩
set_option maxRecDepth 20000 in
theorem gX10_glue_X2_hasPlace : GoodIn wsX10_glue (wsV RX10 249 RX2 yX2_hasPlace wsX2_hasPlace) := goodIn_app (goodIn_of _ (by decide +kernel)) ggX10_glue_X2_hasPlace
theorem ggX10_glue_X2_canGlue : GoodIn wsX10_glue wsX2_canGlue := fun w h => ⟨(List.mem_cons_of_mem _ (List.mem_append_right _ (List.mem_append_right _ (List.mem_append_right _ (List.mem_append_left _ h))))), gdX2_canGlue w h⟩
set_option maxRecDepth 20000 in
theorem gX10_glue_X2_canGlue : GoodIn wsX10_glue (wsV RX10 274 RX2 yX2_canGlue wsX2_canGlue) := goodIn_app (goodIn_of _ (by decide +kernel)) ggX10_glue_X2_canGlue
theorem ggX10_glue_X2_glueBehind : GoodIn wsX10_glue wsX2_glueBehind := fun w h => ⟨(List.mem_cons_of_mem _ (List.mem_append_right _ (List.mem_append_right _ (List.mem_append_right _ (List.mem_append_right _ h))))), gdX2_glueBehind w h⟩
set_option maxRecDepth 20000 in
theorem gX10_glue_X2_glueBehind : GoodIn wsX10_glue (wsV RX10 277 RX2 yX2_glueBehind wsX2_glueBehind) := goodIn_app (goodIn_of _ (by decide +kernel)) ggX10_glue_X2_glueBehind
theorem ggX10_cutOff_X2_hasPlace : GoodIn wsX10_cutOff wsX2_hasPlace := fun w h => ⟨(List.mem_cons_of_mem _ (List.mem_append_right _ (List.mem_append_right _ (List.mem_append_left _ h)))), gdX2_hasPlace w h⟩
set_option maxRecDepth 20000 in
theorem gX10_cutOff_X2_hasPlace : GoodIn wsX10_cutOff (wsV RX10 249 RX2 yX2_hasPlace wsX2_hasPlace) := goodIn_app (goodIn_of _ (by decide +kernel)) ggX10_cutOff_X2_hasPlace
theorem ggX10_cutOff_X2_canLose : GoodIn wsX10_cutOff wsX2_canLose := fun w h => ⟨(List.mem_cons_of_mem _ (List.mem_append_right _ (List.mem_append_right _ (List.mem_append_right _ (List.mem_append_left _ h))))), gdX2_canLose w h⟩
set_option maxRecDepth 20000 in
theorem gX10_cutOff_X2_canLose : GoodIn wsX10_cutOff (wsV RX10 280 RX2 yX2_canLose wsX2_canLose) := goodIn_app (goodIn_of _ (by decide +kernel)) ggX10_cutOff_X2_canLose
theorem ggX10_cutOff_X2_lose : GoodIn wsX10_cutOff wsX2_lose := fun w h => ⟨(List.mem_cons_of_mem _ (List.mem_append_right _ (List.mem_append_right _ (List.mem_append_right _ (List.mem_append_right _ h))))), gdX2_lose w h⟩
set_option maxRecDepth 20000 in
theorem gX10_cutOff_X2_lose : GoodIn wsX10_cutOff (wsV RX10 283 RX2 yX2_lose wsX2_lose) := goodIn_app (goodIn_of _ (by decide +kernel)) ggX10_cutOff_X2_lose
theorem ggX10_core_X2_loseAll : GoodIn wsX10_core wsX2_loseAll := fun w h => ⟨(List.mem_cons_of_mem _ (List.mem_append_right _ (List.mem_append_right _ h))), gdX2_loseAll w h⟩
set_option maxRecDepth 20000 in
theorem gX10_core_X2_loseAll : GoodIn wsX10_core (wsV RX10 286 RX2 yX2_loseAll wsX2_loseAll) := goodIn_app (goodIn_of _ (by decide +kernel)) ggX10_core_X2_loseAll
theorem ggX10_see_X7_canTell : GoodIn wsX10_see wsX7_canTell := fun w h => ⟨(List.mem_cons_of_mem _ (List.mem_append_right _ (List.mem_append_right _ (List.mem_append_left _ h)))), gdX7_canTell w h⟩
set_option maxRecDepth 20000 in
theorem gX10_see_X7_canTell : GoodIn wsX10_see (wsV RX10 289 RX7 yX7_canTell wsX7_canTell) := goodIn_app (goodIn_of _ (by decide +kernel)) ggX10_see_X7_canTell
theorem ggX10_see_X10_areCorners : GoodIn wsX10_see wsX10_areCorners := fun w h => ⟨(List.mem_cons_of_mem _ (List.mem_append_right _ (List.mem_append_right _ (List.mem_append_right _ (List.mem_append_left _ h))))), gdX10_areCorners w h⟩
set_option maxRecDepth 20000 in
theorem gX10_see_X10_areCorners : GoodIn wsX10_see (wsV RX10 152 RX10 yX10_areCorners wsX10_areCorners) := goodIn_app (goodIn_of _ (by decide +kernel)) ggX10_see_X10_areCorners
theorem ggX10_see_X10_isValue : GoodIn wsX10_see wsX10_isValue := fun w h => ⟨(List.mem_cons_of_mem _ (List.mem_append_right _ (List.mem_append_right _ (List.mem_append_right _ (List.mem_append_right _ (List.mem_append_left _ h)))))), gdX10_isValue w h⟩
set_option maxRecDepth 20000 in
theorem gX10_see_X10_isValue : GoodIn wsX10_see (va_wsS RX10 292 yX10_isValue wsX10_isValue) := goodIn_app (goodIn_of _ (by decide +kernel)) ggX10_see_X10_isValue
theorem ggX10_see_X7_add : GoodIn wsX10_see wsX7_add := fun w h => ⟨(List.mem_cons_of_mem _ (List.mem_append_right _ (List.mem_append_right _ (List.mem_append_right _ (List.mem_append_right _ (List.mem_append_right _ h)))))), gdX7_add w h⟩
set_option maxRecDepth 20000 in
theorem gX10_see_X7_add : GoodIn wsX10_see (wsV RX10 295 RX7 yX7_add wsX7_add) := goodIn_app (goodIn_of _ (by decide +kernel)) ggX10_see_X7_add
theorem ggX10_right_X7_canTell : GoodIn wsX10_right wsX7_canTell := fun w h => ⟨(List.mem_cons_of_mem _ (List.mem_append_right _ (List.mem_append_right _ (List.mem_append_left _ h)))), gdX7_canTell w h⟩
set_option maxRecDepth 20000 in
theorem gX10_right_X7_canTell : GoodIn wsX10_right (wsV RX10 289 RX7 yX7_canTell wsX7_canTell) := goodIn_app (goodIn_of _ (by decide +kernel)) ggX10_right_X7_canTell
theorem ggX10_right_X7_wasSeenBefore : GoodIn wsX10_right wsX7_wasSeenBefore := fun w h => ⟨(List.mem_cons_of_mem _ (List.mem_append_right _ (List.mem_append_right _ (List.mem_append_right _ (List.mem_append_left _ h))))), gdX7_wasSeenBefore w h⟩
set_option maxRecDepth 20000 in
theorem gX10_right_X7_wasSeenBefore : GoodIn wsX10_right (wsV RX10 299 RX7 yX7_wasSeenBefore wsX7_wasSeenBefore) := goodIn_app (goodIn_of _ (by decide +kernel)) ggX10_right_X7_wasSeenBefore
theorem ggX10_right_X10_isValue : GoodIn wsX10_right wsX10_isValue := fun w h => ⟨(List.mem_cons_of_mem _ (List.mem_append_right _ (List.mem_append_right _ (List.mem_append_right _ (List.mem_append_right _ (List.mem_append_left _ h)))))), gdX10_isValue w h⟩
set_option maxRecDepth 20000 in
theorem gX10_right_X10_isValue : GoodIn wsX10_right (va_wsS RX10 292 yX10_isValue wsX10_isValue) := goodIn_app (goodIn_of _ (by decide +kernel)) ggX10_right_X10_isValue
theorem ggX10_right_X7_putRight : GoodIn wsX10_right wsX7_putRight := fun w h => ⟨(List.mem_cons_of_mem _ (List.mem_append_right _ (List.mem_append_right _ (List.mem_append_right _ (List.mem_append_right _ (List.mem_append_right _ h)))))), gdX7_putRight w h⟩
set_option maxRecDepth 20000 in
theorem gX10_right_X7_putRight : GoodIn wsX10_right (wsV RX10 302 RX7 yX7_putRight wsX7_putRight) := goodIn_app (goodIn_of _ (by decide +kernel)) ggX10_right_X7_putRight
theorem ggX10_fit_X10_isStep : GoodIn wsX10_fit wsX10_isStep := fun w h => ⟨(List.mem_cons_of_mem _ (List.mem_append_right _ (List.mem_append_right _ (List.mem_append_left _ h)))), gdX10_isStep w h⟩
set_option maxRecDepth 20000 in
theorem gX10_fit_X10_isStep : GoodIn wsX10_fit (va_wsS RX10 305 yX10_isStep wsX10_isStep) := goodIn_app (goodIn_of _ (by decide +kernel)) ggX10_fit_X10_isStep
theorem ggX10_fit_X3_gather : GoodIn wsX10_fit wsX3_gather := fun w h => ⟨(List.mem_cons_of_mem _ (List.mem_append_right _ (List.mem_append_right _ (List.mem_append_right _ (List.mem_append_left _ h))))), gdX3_gather w h⟩
set_option maxRecDepth 20000 in
theorem gX10_fit_X3_gather : GoodIn wsX10_fit (wsV RX10 308 RX3 yX3_gather wsX3_gather) := goodIn_app (goodIn_of _ (by decide +kernel)) ggX10_fit_X3_gather
theorem ggX10_fit_X3_size : GoodIn wsX10_fit wsX3_size := fun w h => ⟨(List.mem_cons_of_mem _ (List.mem_append_right _ (List.mem_append_right _ (List.mem_append_right _ (List.mem_append_right _ (List.mem_append_left _ h)))))), gdX3_size w h⟩
set_option maxRecDepth 20000 in
theorem gX10_fit_X3_size : GoodIn wsX10_fit (wsV RX10 311 RX3 yX3_size wsX3_size) := goodIn_app (goodIn_of _ (by decide +kernel)) ggX10_fit_X3_size
theorem ggX10_fit_X3_leastNumber : GoodIn wsX10_fit wsX3_leastNumber := fun w h => ⟨(List.mem_cons_of_mem _ (List.mem_append_right _ (List.mem_append_right _ (List.mem_append_right _ (List.mem_append_right _ (List.mem_append_right _ h)))))), gdX3_leastNumber w h⟩
set_option maxRecDepth 20000 in
theorem gX10_fit_X3_leastNumber : GoodIn wsX10_fit (wsV RX10 312 RX3 yX3_leastNumber wsX3_leastNumber) := goodIn_app (goodIn_of _ (by decide +kernel)) ggX10_fit_X3_leastNumber
theorem ggX10_surely_X10_isStep : GoodIn wsX10_surely wsX10_isStep := fun w h => ⟨(List.mem_cons_of_mem _ (List.mem_append_right _ (List.mem_append_right _ (List.mem_append_left _ h)))), gdX10_isStep w h⟩
set_option maxRecDepth 20000 in
theorem gX10_surely_X10_isStep : GoodIn wsX10_surely (va_wsS RX10 305 yX10_isStep wsX10_isStep) := goodIn_app (goodIn_of _ (by decide +kernel)) ggX10_surely_X10_isStep
theorem ggX10_surely_X10_areCorners : GoodIn wsX10_surely wsX10_areCorners := fun w h => ⟨(List.mem_cons_of_mem _ (List.mem_append_right _ (List.mem_append_right _ (List.mem_append_right _ (List.mem_append_left _ h))))), gdX10_areCorners w h⟩
set_option maxRecDepth 20000 in
theorem gX10_surely_X10_areCorners : GoodIn wsX10_surely (wsV RX10 152 RX10 yX10_areCorners wsX10_areCorners) := goodIn_app (goodIn_of _ (by decide +kernel)) ggX10_surely_X10_areCorners
theorem ggX10_surely_X5_lineOf : GoodIn wsX10_surely wsX5_lineOf := fun w h => ⟨(List.mem_cons_of_mem _ (List.mem_append_right _ (List.mem_append_right _ (List.mem_append_right _ (List.mem_append_right _ (List.mem_append_left _ h)))))), gdX5_lineOf w h⟩
set_option maxRecDepth 20000 in
theorem gX10_surely_X5_lineOf : GoodIn wsX10_surely (wsV RX10 173 RX5 yX5_lineOf wsX5_lineOf) := goodIn_app (goodIn_of _ (by decide +kernel)) ggX10_surely_X5_lineOf
theorem ggX10_surely_X3_gather : GoodIn wsX10_surely wsX3_gather := fun w h => ⟨(List.mem_cons_of_mem _ (List.mem_append_right _ (List.mem_append_right _ (List.mem_append_right _ (List.mem_append_right _ (List.mem_append_right _ (List.mem_append_left _ h))))))), gdX3_gather w h⟩
set_option maxRecDepth 20000 in
theorem gX10_surely_X3_gather : GoodIn wsX10_surely (wsV RX10 308 RX3 yX3_gather wsX3_gather) := goodIn_app (goodIn_of _ (by decide +kernel)) ggX10_surely_X3_gather
theorem ggX10_surely_X3_howSure : GoodIn wsX10_surely wsX3_howSure := fun w h => ⟨(List.mem_cons_of_mem _ (List.mem_append_right _ (List.mem_append_right _ (List.mem_append_right _ (List.mem_append_right _ (List.mem_append_right _ (List.mem_append_right _ h))))))), gdX3_howSure w h⟩
set_option maxRecDepth 20000 in
theorem gX10_surely_X3_howSure : GoodIn wsX10_surely (wsV RX10 315 RX3 yX3_howSure wsX3_howSure) := goodIn_app (goodIn_of _ (by decide +kernel)) ggX10_surely_X3_howSure
theorem ggX10_ask_X10_isStep : GoodIn wsX10_ask wsX10_isStep := fun w h => ⟨(List.mem_cons_of_mem _ (List.mem_append_right _ (List.mem_append_right _ (List.mem_append_left _ h)))), gdX10_isStep w h⟩
set_option maxRecDepth 20000 in
theorem gX10_ask_X10_isStep : GoodIn wsX10_ask (va_wsS RX10 305 yX10_isStep wsX10_isStep) := goodIn_app (goodIn_of _ (by decide +kernel)) ggX10_ask_X10_isStep
theorem ggX10_ask_X3_gather : GoodIn wsX10_ask wsX3_gather := fun w h => ⟨(List.mem_cons_of_mem _ (List.mem_append_right _ (List.mem_append_right _ (List.mem_append_right _ (List.mem_append_left _ h))))), gdX3_gather w h⟩
set_option maxRecDepth 20000 in
theorem gX10_ask_X3_gather : GoodIn wsX10_ask (wsV RX10 308 RX3 yX3_gather wsX3_gather) := goodIn_app (goodIn_of _ (by decide +kernel)) ggX10_ask_X3_gather
theorem ggX10_ask_X3_bestQuestion : GoodIn wsX10_ask wsX3_bestQuestion := fun w h => ⟨(List.mem_cons_of_mem _ (List.mem_append_right _ (List.mem_append_right _ (List.mem_append_right _ (List.mem_append_right _ h))))), gdX3_bestQuestion w h⟩
set_option maxRecDepth 20000 in
theorem gX10_ask_X3_bestQuestion : GoodIn wsX10_ask (wsV RX10 318 RX3 yX3_bestQuestion wsX3_bestQuestion) := goodIn_app (goodIn_of _ (by decide +kernel)) ggX10_ask_X3_bestQuestion
theorem ggX10_count_X7_size : GoodIn wsX10_count wsX7_size := fun w h => ⟨(List.mem_cons_of_mem _ (List.mem_append_right _ (List.mem_append_right _ (List.mem_append_left _ h)))), gdX7_size w h⟩
set_option maxRecDepth 20000 in
theorem gX10_count_X7_size : GoodIn wsX10_count (wsV RX10 321 RX7 yX7_size wsX7_size) := goodIn_app (goodIn_of _ (by decide +kernel)) ggX10_count_X7_size
theorem ggX10_count_X7_rights : GoodIn wsX10_count wsX7_rights := fun w h => ⟨(List.mem_cons_of_mem _ (List.mem_append_right _ (List.mem_append_right _ (List.mem_append_right _ (List.mem_append_left _ h))))), gdX7_rights w h⟩
set_option maxRecDepth 20000 in
theorem gX10_count_X7_rights : GoodIn wsX10_count (wsV RX10 322 RX7 yX7_rights wsX7_rights) := goodIn_app (goodIn_of _ (by decide +kernel)) ggX10_count_X7_rights
theorem ggX10_count_X8_size : GoodIn wsX10_count wsX8_size := fun w h => ⟨(List.mem_cons_of_mem _ (List.mem_append_right _ (List.mem_append_right _ (List.mem_append_right _ (List.mem_append_right _ h))))), gdX8_size w h⟩
set_option maxRecDepth 20000 in
theorem gX10_count_X8_size : GoodIn wsX10_count (wsV RX10 105 RX8 yX8_size wsX8_size) := goodIn_app (goodIn_of _ (by decide +kernel)) ggX10_count_X8_size
theorem ggX11_isLine_X11_isNext : GoodIn wsX11_isLine wsX11_isNext := fun w h => ⟨(List.mem_cons_of_mem _ (List.mem_append_right _ h)), gdX11_isNext w h⟩
set_option maxRecDepth 20000 in
theorem gX11_isLine_X11_isNext : GoodIn wsX11_isLine (va_wsS RX11 154 yX11_isNext wsX11_isNext) := goodIn_app (goodIn_of _ (by decide +kernel)) ggX11_isLine_X11_isNext
theorem ggX11_linesOf_X11_isLine : GoodIn wsX11_linesOf wsX11_isLine := fun w h => ⟨(List.mem_cons_of_mem _ (List.mem_append_right _ (List.mem_append_right _ h))), gdX11_isLine w h⟩
set_option maxRecDepth 20000 in
theorem gX11_linesOf_X11_isLine : GoodIn wsX11_linesOf (va_wsS RX11 164 yX11_isLine wsX11_isLine) := goodIn_app (goodIn_of _ (by decide +kernel)) ggX11_linesOf_X11_isLine
theorem ggX11_isCross_X11_isBetween : GoodIn wsX11_isCross wsX11_isBetween := fun w h => ⟨(List.mem_cons_of_mem _ (List.mem_append_right _ h)), gdX11_isBetween w h⟩
set_option maxRecDepth 20000 in
theorem gX11_isCross_X11_isBetween : GoodIn wsX11_isCross (va_wsS RX11 167 yX11_isBetween wsX11_isBetween) := goodIn_app (goodIn_of _ (by decide +kernel)) ggX11_isCross_X11_isBetween
theorem ggX11_grow_X11_isCross : GoodIn wsX11_grow wsX11_isCross := fun w h => ⟨(List.mem_cons_of_mem _ (List.mem_append_right _ (List.mem_append_right _ h))), gdX11_isCross w h⟩
set_option maxRecDepth 20000 in
theorem gX11_grow_X11_isCross : GoodIn wsX11_grow (va_wsS RX11 184 yX11_isCross wsX11_isCross) := goodIn_app (goodIn_of _ (by decide +kernel)) ggX11_grow_X11_isCross
theorem ggX11_grow_X11_grow : GoodIn wsX11_grow wsX11_grow := fun w h => ⟨h, gdX11_grow w h⟩
set_option maxRecDepth 20000 in
theorem gX11_grow_X11_grow : GoodIn wsX11_grow (wsV RX11 180 RX11 yX11_grow wsX11_grow) := goodIn_app (goodIn_of _ (by decide +kernel)) ggX11_grow_X11_grow
theorem ggX11_listFor_X11_linesOf : GoodIn wsX11_listFor wsX11_linesOf := fun w h => ⟨(List.mem_cons_of_mem _ (List.mem_append_right _ (List.mem_append_right _ (List.mem_append_left _ h)))), gdX11_linesOf w h⟩
set_option maxRecDepth 20000 in
theorem gX11_listFor_X11_linesOf : GoodIn wsX11_listFor (wsV RX11 171 RX11 yX11_linesOf wsX11_linesOf) := goodIn_app (goodIn_of _ (by decide +kernel)) ggX11_listFor_X11_linesOf
theorem ggX11_listFor_X11_grow : GoodIn wsX11_listFor wsX11_grow := fun w h => ⟨(List.mem_cons_of_mem _ (List.mem_append_right _ (List.mem_append_right _ (List.mem_append_right _ h)))), gdX11_grow w h⟩
set_option maxRecDepth 20000 in
theorem gX11_listFor_X11_grow : GoodIn wsX11_listFor (wsV RX11 180 RX11 yX11_grow wsX11_grow) := goodIn_app (goodIn_of _ (by decide +kernel)) ggX11_listFor_X11_grow
theorem ggX11_init_X11_listFor : GoodIn wsX11_init wsX11_listFor := fun w h => ⟨(List.mem_cons_of_mem _ (List.mem_append_right _ (List.mem_append_right _ h))), gdX11_listFor w h⟩
set_option maxRecDepth 20000 in
theorem gX11_init_X11_listFor : GoodIn wsX11_init (wsV RX11 101 RX11 yX11_listFor wsX11_listFor) := goodIn_app (goodIn_of _ (by decide +kernel)) ggX11_init_X11_listFor
theorem ggX11_scan_X11_byteAt : GoodIn wsX11_scan wsX11_byteAt := fun w h => ⟨(List.mem_cons_of_mem _ (List.mem_append_right _ (List.mem_append_right _ (List.mem_append_left _ h)))), gdX11_byteAt w h⟩
set_option maxRecDepth 20000 in
theorem gX11_scan_X11_byteAt : GoodIn wsX11_scan (wsV RX11 121 RX11 yX11_byteAt wsX11_byteAt) := goodIn_app (goodIn_of _ (by decide +kernel)) ggX11_scan_X11_byteAt
theorem ggX11_scan_X11_isSmall : GoodIn wsX11_scan wsX11_isSmall := fun w h => ⟨(List.mem_cons_of_mem _ (List.mem_append_right _ (List.mem_append_right _ (List.mem_append_right _ (List.mem_append_left _ h))))), gdX11_isSmall w h⟩
set_option maxRecDepth 20000 in
theorem gX11_scan_X11_isSmall : GoodIn wsX11_scan (va_wsS RX11 131 yX11_isSmall wsX11_isSmall) := goodIn_app (goodIn_of _ (by decide +kernel)) ggX11_scan_X11_isSmall
theorem ggX11_scan_X11_isDigit : GoodIn wsX11_scan wsX11_isDigit := fun w h => ⟨(List.mem_cons_of_mem _ (List.mem_append_right _ (List.mem_append_right _ (List.mem_append_right _ (List.mem_append_right _ h))))), gdX11_isDigit w h⟩
set_option maxRecDepth 20000 in
theorem gX11_scan_X11_isDigit : GoodIn wsX11_scan (va_wsS RX11 142 yX11_isDigit wsX11_isDigit) := goodIn_app (goodIn_of _ (by decide +kernel)) ggX11_scan_X11_isDigit
theorem ggX11_begin_X11_scan : GoodIn wsX11_begin wsX11_scan := fun w h => ⟨(List.mem_cons_of_mem _ (List.mem_append_right _ (List.mem_append_right _ h))), gdX11_scan w h⟩
set_option maxRecDepth 20000 in
theorem gX11_begin_X11_scan : GoodIn wsX11_begin (wsV RX11 148 RX11 yX11_scan wsX11_scan) := goodIn_app (goodIn_of _ (by decide +kernel)) ggX11_begin_X11_scan
theorem ggX11_ownNumber_X11_listFor : GoodIn wsX11_ownNumber wsX11_listFor := fun w h => ⟨(List.mem_cons_of_mem _ (List.mem_append_right _ (List.mem_append_right _ (List.mem_append_left _ h)))), gdX11_listFor w h⟩
set_option maxRecDepth 20000 in
theorem gX11_ownNumber_X11_listFor : GoodIn wsX11_ownNumber (wsV RX11 101 RX11 yX11_listFor wsX11_listFor) := goodIn_app (goodIn_of _ (by decide +kernel)) ggX11_ownNumber_X11_listFor
theorem ggX11_ownNumber_X11_placeOf : GoodIn wsX11_ownNumber wsX11_placeOf := fun w h => ⟨(List.mem_cons_of_mem _ (List.mem_append_right _ (List.mem_append_right _ (List.mem_append_right _ h)))), gdX11_placeOf w h⟩
set_option maxRecDepth 20000 in
theorem gX11_ownNumber_X11_placeOf : GoodIn wsX11_ownNumber (wsV RX11 188 RX11 yX11_placeOf wsX11_placeOf) := goodIn_app (goodIn_of _ (by decide +kernel)) ggX11_ownNumber_X11_placeOf
theorem ggX11_near_X11_isNext : GoodIn wsX11_near wsX11_isNext := fun w h => ⟨(List.mem_cons_of_mem _ (List.mem_append_right _ (List.mem_append_right _ h))), gdX11_isNext w h⟩
set_option maxRecDepth 20000 in
theorem gX11_near_X11_isNext : GoodIn wsX11_near (va_wsS RX11 154 yX11_isNext wsX11_isNext) := goodIn_app (goodIn_of _ (by decide +kernel)) ggX11_near_X11_isNext
theorem ggX11_readCorner_X11_fails : GoodIn wsX11_readCorner wsX11_fails := fun w h => ⟨(List.mem_cons_of_mem _ (List.mem_append_right _ (List.mem_append_right _ (List.mem_append_left _ h)))), gdX11_fails w h⟩
set_option maxRecDepth 20000 in
theorem gX11_readCorner_X11_fails : GoodIn wsX11_readCorner (wsV RX11 201 RX11 yX11_fails wsX11_fails) := goodIn_app (goodIn_of _ (by decide +kernel)) ggX11_readCorner_X11_fails
theorem ggX11_readCorner_X11_in : GoodIn wsX11_readCorner wsX11_in := fun w h => ⟨(List.mem_cons_of_mem _ (List.mem_append_right _ (List.mem_append_right _ (List.mem_append_right _ h)))), gdX11_in w h⟩
set_option maxRecDepth 20000 in
theorem gX11_readCorner_X11_in : GoodIn wsX11_readCorner (va_wsS RX11 207 yX11_in wsX11_in) := goodIn_app (goodIn_of _ (by decide +kernel)) ggX11_readCorner_X11_in
theorem ggX11_readCut_X11_fails : GoodIn wsX11_readCut wsX11_fails := fun w h => ⟨(List.mem_cons_of_mem _ (List.mem_append_right _ (List.mem_append_right _ (List.mem_append_left _ h)))), gdX11_fails w h⟩
set_option maxRecDepth 20000 in
theorem gX11_readCut_X11_fails : GoodIn wsX11_readCut (wsV RX11 201 RX11 yX11_fails wsX11_fails) := goodIn_app (goodIn_of _ (by decide +kernel)) ggX11_readCut_X11_fails
theorem ggX11_readCut_X11_scan : GoodIn wsX11_readCut wsX11_scan := fun w h => ⟨(List.mem_cons_of_mem _ (List.mem_append_right _ (List.mem_append_right _ (List.mem_append_right _ (List.mem_append_left _ h))))), gdX11_scan w h⟩
set_option maxRecDepth 20000 in
theorem gX11_readCut_X11_scan : GoodIn wsX11_readCut (wsV RX11 148 RX11 yX11_scan wsX11_scan) := goodIn_app (goodIn_of _ (by decide +kernel)) ggX11_readCut_X11_scan
theorem ggX11_readCut_X11_in : GoodIn wsX11_readCut wsX11_in := fun w h => ⟨(List.mem_cons_of_mem _ (List.mem_append_right _ (List.mem_append_right _ (List.mem_append_right _ (List.mem_append_right _ (List.mem_append_left _ h)))))), gdX11_in w h⟩
set_option maxRecDepth 20000 in
theorem gX11_readCut_X11_in : GoodIn wsX11_readCut (va_wsS RX11 207 yX11_in wsX11_in) := goodIn_app (goodIn_of _ (by decide +kernel)) ggX11_readCut_X11_in
theorem ggX11_readCut_X11_linesOf : GoodIn wsX11_readCut wsX11_linesOf := fun w h => ⟨(List.mem_cons_of_mem _ (List.mem_append_right _ (List.mem_append_right _ (List.mem_append_right _ (List.mem_append_right _ (List.mem_append_right _ (List.mem_append_left _ h))))))), gdX11_linesOf w h⟩
set_option maxRecDepth 20000 in
theorem gX11_readCut_X11_linesOf : GoodIn wsX11_readCut (wsV RX11 171 RX11 yX11_linesOf wsX11_linesOf) := goodIn_app (goodIn_of _ (by decide +kernel)) ggX11_readCut_X11_linesOf
theorem ggX11_readCut_X11_readCorner : GoodIn wsX11_readCut wsX11_readCorner := fun w h => ⟨(List.mem_cons_of_mem _ (List.mem_append_right _ (List.mem_append_right _ (List.mem_append_right _ (List.mem_append_right _ (List.mem_append_right _ (List.mem_append_right _ (List.mem_append_left _ h)))))))), gdX11_readCorner w h⟩
set_option maxRecDepth 20000 in
theorem gX11_readCut_X11_readCorner : GoodIn wsX11_readCut (wsV RX11 215 RX11 yX11_readCorner wsX11_readCorner) := goodIn_app (goodIn_of _ (by decide +kernel)) ggX11_readCut_X11_readCorner
theorem ggX11_readCut_X11_isLine : GoodIn wsX11_readCut wsX11_isLine := fun w h => ⟨(List.mem_cons_of_mem _ (List.mem_append_right _ (List.mem_append_right _ (List.mem_append_right _ (List.mem_append_right _ (List.mem_append_right _ (List.mem_append_right _ (List.mem_append_right _ (List.mem_append_left _ h))))))))), gdX11_isLine w h⟩
set_option maxRecDepth 20000 in
theorem gX11_readCut_X11_isLine : GoodIn wsX11_readCut (va_wsS RX11 164 yX11_isLine wsX11_isLine) := goodIn_app (goodIn_of _ (by decide +kernel)) ggX11_readCut_X11_isLine
theorem ggX11_readCut_X11_isCross : GoodIn wsX11_readCut wsX11_isCross := fun w h => ⟨(List.mem_cons_of_mem _ (List.mem_append_right _ (List.mem_append_right _ (List.mem_append_right _ (List.mem_append_right _ (List.mem_append_right _ (List.mem_append_right _ (List.mem_append_right _ (List.mem_append_right _ h))))))))), gdX11_isCross w h⟩
set_option maxRecDepth 20000 in
theorem gX11_readCut_X11_isCross : GoodIn wsX11_readCut (va_wsS RX11 184 yX11_isCross wsX11_isCross) := goodIn_app (goodIn_of _ (by decide +kernel)) ggX11_readCut_X11_isCross
theorem ggX11_cut_X11_begin : GoodIn wsX11_cut wsX11_begin := fun w h => ⟨(List.mem_cons_of_mem _ (List.mem_append_right _ (List.mem_append_right _ (List.mem_append_left _ h)))), gdX11_begin w h⟩
set_option maxRecDepth 20000 in
theorem gX11_cut_X11_begin : GoodIn wsX11_cut (wsV RX11 219 RX11 yX11_begin wsX11_begin) := goodIn_app (goodIn_of _ (by decide +kernel)) ggX11_cut_X11_begin
theorem ggX11_cut_X11_readCut : GoodIn wsX11_cut wsX11_readCut := fun w h => ⟨(List.mem_cons_of_mem _ (List.mem_append_right _ (List.mem_append_right _ (List.mem_append_right _ (List.mem_append_left _ h))))), gdX11_readCut w h⟩
set_option maxRecDepth 20000 in
theorem gX11_cut_X11_readCut : GoodIn wsX11_cut (wsV RX11 222 RX11 yX11_readCut wsX11_readCut) := goodIn_app (goodIn_of _ (by decide +kernel)) ggX11_cut_X11_readCut
theorem ggX11_cut_X11_becomes : GoodIn wsX11_cut wsX11_becomes := fun w h => ⟨(List.mem_cons_of_mem _ (List.mem_append_right _ (List.mem_append_right _ (List.mem_append_right _ (List.mem_append_right _ (List.mem_append_left _ h)))))), gdX11_becomes w h⟩
set_option maxRecDepth 20000 in
theorem gX11_cut_X11_becomes : GoodIn wsX11_cut (wsV RX11 225 RX11 yX11_becomes wsX11_becomes) := goodIn_app (goodIn_of _ (by decide +kernel)) ggX11_cut_X11_becomes
theorem ggX11_cut_X11_ownNumber : GoodIn wsX11_cut wsX11_ownNumber := fun w h => ⟨(List.mem_cons_of_mem _ (List.mem_append_right _ (List.mem_append_right _ (List.mem_append_right _ (List.mem_append_right _ (List.mem_append_right _ h)))))), gdX11_ownNumber w h⟩
set_option maxRecDepth 20000 in
theorem gX11_cut_X11_ownNumber : GoodIn wsX11_cut (wsV RX11 229 RX11 yX11_ownNumber wsX11_ownNumber) := goodIn_app (goodIn_of _ (by decide +kernel)) ggX11_cut_X11_ownNumber
theorem ggX11_take_X11_in : GoodIn wsX11_take wsX11_in := fun w h => ⟨(List.mem_cons_of_mem _ (List.mem_append_right _ (List.mem_append_right _ (List.mem_append_left _ h)))), gdX11_in w h⟩
set_option maxRecDepth 20000 in
theorem gX11_take_X11_in : GoodIn wsX11_take (va_wsS RX11 207 yX11_in wsX11_in) := goodIn_app (goodIn_of _ (by decide +kernel)) ggX11_take_X11_in
theorem ggX11_take_X11_listFor : GoodIn wsX11_take wsX11_listFor := fun w h => ⟨(List.mem_cons_of_mem _ (List.mem_append_right _ (List.mem_append_right _ (List.mem_append_right _ (List.mem_append_left _ h))))), gdX11_listFor w h⟩
set_option maxRecDepth 20000 in
theorem gX11_take_X11_listFor : GoodIn wsX11_take (wsV RX11 101 RX11 yX11_listFor wsX11_listFor) := goodIn_app (goodIn_of _ (by decide +kernel)) ggX11_take_X11_listFor
theorem ggX11_take_X11_becomes : GoodIn wsX11_take wsX11_becomes := fun w h => ⟨(List.mem_cons_of_mem _ (List.mem_append_right _ (List.mem_append_right _ (List.mem_append_right _ (List.mem_append_right _ h))))), gdX11_becomes w h⟩
set_option maxRecDepth 20000 in
theorem gX11_take_X11_becomes : GoodIn wsX11_take (wsV RX11 225 RX11 yX11_becomes wsX11_becomes) := goodIn_app (goodIn_of _ (by decide +kernel)) ggX11_take_X11_becomes
theorem ggX11_told_X11_ownNumber : GoodIn wsX11_told wsX11_ownNumber := fun w h => ⟨(List.mem_cons_of_mem _ (List.mem_append_right _ (List.mem_append_right _ (List.mem_append_left _ h)))), gdX11_ownNumber w h⟩
set_option maxRecDepth 20000 in
theorem gX11_told_X11_ownNumber : GoodIn wsX11_told (wsV RX11 229 RX11 yX11_ownNumber wsX11_ownNumber) := goodIn_app (goodIn_of _ (by decide +kernel)) ggX11_told_X11_ownNumber
theorem ggX11_told_X11_listFor : GoodIn wsX11_told wsX11_listFor := fun w h => ⟨(List.mem_cons_of_mem _ (List.mem_append_right _ (List.mem_append_right _ (List.mem_append_right _ h)))), gdX11_listFor w h⟩
set_option maxRecDepth 20000 in
theorem gX11_told_X11_listFor : GoodIn wsX11_told (wsV RX11 101 RX11 yX11_listFor wsX11_listFor) := goodIn_app (goodIn_of _ (by decide +kernel)) ggX11_told_X11_listFor
theorem ggX11_isCorner_X11_in : GoodIn wsX11_isCorner wsX11_in := fun w h => ⟨(List.mem_cons_of_mem _ (List.mem_append_right _ (List.mem_append_right _ h))), gdX11_in w h⟩
set_option maxRecDepth 20000 in
theorem gX11_isCorner_X11_in : GoodIn wsX11_isCorner (va_wsS RX11 207 yX11_in wsX11_in) := goodIn_app (goodIn_of _ (by decide +kernel)) ggX11_isCorner_X11_in
theorem ggX11_trianglesOf_X11_linesOf : GoodIn wsX11_trianglesOf wsX11_linesOf := fun w h => ⟨(List.mem_cons_of_mem _ (List.mem_append_right _ (List.mem_append_right _ (List.mem_append_left _ h)))), gdX11_linesOf w h⟩
set_option maxRecDepth 20000 in
theorem gX11_trianglesOf_X11_linesOf : GoodIn wsX11_trianglesOf (wsV RX11 171 RX11 yX11_linesOf wsX11_linesOf) := goodIn_app (goodIn_of _ (by decide +kernel)) ggX11_trianglesOf_X11_linesOf
theorem ggX11_trianglesOf_X11_near : GoodIn wsX11_trianglesOf wsX11_near := fun w h => ⟨(List.mem_cons_of_mem _ (List.mem_append_right _ (List.mem_append_right _ (List.mem_append_right _ h)))), gdX11_near w h⟩
set_option maxRecDepth 20000 in
theorem gX11_trianglesOf_X11_near : GoodIn wsX11_trianglesOf (wsV RX11 233 RX11 yX11_near wsX11_near) := goodIn_app (goodIn_of _ (by decide +kernel)) ggX11_trianglesOf_X11_near
theorem ggX11_triangle_X11_in : GoodIn wsX11_triangle wsX11_in := fun w h => ⟨(List.mem_cons_of_mem _ (List.mem_append_right _ (List.mem_append_right _ (List.mem_append_left _ h)))), gdX11_in w h⟩
set_option maxRecDepth 20000 in
theorem gX11_triangle_X11_in : GoodIn wsX11_triangle (va_wsS RX11 207 yX11_in wsX11_in) := goodIn_app (goodIn_of _ (by decide +kernel)) ggX11_triangle_X11_in
theorem ggX11_triangle_X11_trianglesOf : GoodIn wsX11_triangle wsX11_trianglesOf := fun w h => ⟨(List.mem_cons_of_mem _ (List.mem_append_right _ (List.mem_append_right _ (List.mem_append_right _ h)))), gdX11_trianglesOf w h⟩
set_option maxRecDepth 20000 in
theorem gX11_triangle_X11_trianglesOf : GoodIn wsX11_triangle (wsV RX11 237 RX11 yX11_trianglesOf wsX11_trianglesOf) := goodIn_app (goodIn_of _ (by decide +kernel)) ggX11_triangle_X11_trianglesOf
theorem ggX11_entriesFrom_X11_trianglesOf : GoodIn wsX11_entriesFrom wsX11_trianglesOf := fun w h => ⟨(List.mem_cons_of_mem _ (List.mem_append_right _ (List.mem_append_right _ (List.mem_append_left _ h)))), gdX11_trianglesOf w h⟩
set_option maxRecDepth 20000 in
theorem gX11_entriesFrom_X11_trianglesOf : GoodIn wsX11_entriesFrom (wsV RX11 237 RX11 yX11_trianglesOf wsX11_trianglesOf) := goodIn_app (goodIn_of _ (by decide +kernel)) ggX11_entriesFrom_X11_trianglesOf
theorem ggX11_entriesFrom_X11_near : GoodIn wsX11_entriesFrom wsX11_near := fun w h => ⟨(List.mem_cons_of_mem _ (List.mem_append_right _ (List.mem_append_right _ (List.mem_append_right _ h)))), gdX11_near w h⟩
set_option maxRecDepth 20000 in
theorem gX11_entriesFrom_X11_near : GoodIn wsX11_entriesFrom (wsV RX11 233 RX11 yX11_near wsX11_near) := goodIn_app (goodIn_of _ (by decide +kernel)) ggX11_entriesFrom_X11_near
theorem ggX11_entryOf_X11_entriesFrom : GoodIn wsX11_entryOf wsX11_entriesFrom := fun w h => ⟨(List.mem_cons_of_mem _ (List.mem_append_right _ (List.mem_append_right _ h))), gdX11_entriesFrom w h⟩
set_option maxRecDepth 20000 in
theorem gX11_entryOf_X11_entriesFrom : GoodIn wsX11_entryOf (wsV RX11 240 RX11 yX11_entriesFrom wsX11_entriesFrom) := goodIn_app (goodIn_of _ (by decide +kernel)) ggX11_entryOf_X11_entriesFrom
theorem ggX11_entry_X11_isCorner : GoodIn wsX11_entry wsX11_isCorner := fun w h => ⟨(List.mem_cons_of_mem _ (List.mem_append_right _ (List.mem_append_right _ (List.mem_append_left _ h)))), gdX11_isCorner w h⟩
set_option maxRecDepth 20000 in
theorem gX11_entry_X11_isCorner : GoodIn wsX11_entry (wsV RX11 244 RX11 yX11_isCorner wsX11_isCorner) := goodIn_app (goodIn_of _ (by decide +kernel)) ggX11_entry_X11_isCorner
theorem ggX11_entry_X11_entryOf : GoodIn wsX11_entry wsX11_entryOf := fun w h => ⟨(List.mem_cons_of_mem _ (List.mem_append_right _ (List.mem_append_right _ (List.mem_append_right _ h)))), gdX11_entryOf w h⟩
set_option maxRecDepth 20000 in
theorem gX11_entry_X11_entryOf : GoodIn wsX11_entry (wsV RX11 247 RX11 yX11_entryOf wsX11_entryOf) := goodIn_app (goodIn_of _ (by decide +kernel)) ggX11_entry_X11_entryOf
theorem ggX11_rowAt_X11_isLine : GoodIn wsX11_rowAt wsX11_isLine := fun w h => ⟨(List.mem_cons_of_mem _ (List.mem_append_right _ (List.mem_append_left _ h))), gdX11_isLine w h⟩
set_option maxRecDepth 20000 in
theorem gX11_rowAt_X11_isLine : GoodIn wsX11_rowAt (va_wsS RX11 164 yX11_isLine wsX11_isLine) := goodIn_app (goodIn_of _ (by decide +kernel)) ggX11_rowAt_X11_isLine
theorem ggX11_rowAt_X11_near : GoodIn wsX11_rowAt wsX11_near := fun w h => ⟨(List.mem_cons_of_mem _ (List.mem_append_right _ (List.mem_append_right _ h))), gdX11_near w h⟩
set_option maxRecDepth 20000 in
theorem gX11_rowAt_X11_near : GoodIn wsX11_rowAt (wsV RX11 233 RX11 yX11_near wsX11_near) := goodIn_app (goodIn_of _ (by decide +kernel)) ggX11_rowAt_X11_near
theorem ggX11_row_X11_isCorner : GoodIn wsX11_row wsX11_isCorner := fun w h => ⟨(List.mem_cons_of_mem _ (List.mem_append_right _ (List.mem_append_right _ (List.mem_append_left _ h)))), gdX11_isCorner w h⟩
set_option maxRecDepth 20000 in
theorem gX11_row_X11_isCorner : GoodIn wsX11_row (wsV RX11 244 RX11 yX11_isCorner wsX11_isCorner) := goodIn_app (goodIn_of _ (by decide +kernel)) ggX11_row_X11_isCorner
theorem ggX11_row_X11_linesOf : GoodIn wsX11_row wsX11_linesOf := fun w h => ⟨(List.mem_cons_of_mem _ (List.mem_append_right _ (List.mem_append_right _ (List.mem_append_right _ (List.mem_append_left _ h))))), gdX11_linesOf w h⟩
set_option maxRecDepth 20000 in
theorem gX11_row_X11_linesOf : GoodIn wsX11_row (wsV RX11 171 RX11 yX11_linesOf wsX11_linesOf) := goodIn_app (goodIn_of _ (by decide +kernel)) ggX11_row_X11_linesOf
theorem ggX11_row_X11_rowAt : GoodIn wsX11_row wsX11_rowAt := fun w h => ⟨(List.mem_cons_of_mem _ (List.mem_append_right _ (List.mem_append_right _ (List.mem_append_right _ (List.mem_append_right _ h))))), gdX11_rowAt w h⟩
set_option maxRecDepth 20000 in
theorem gX11_row_X11_rowAt : GoodIn wsX11_row (wsV RX11 251 RX11 yX11_rowAt wsX11_rowAt) := goodIn_app (goodIn_of _ (by decide +kernel)) ggX11_row_X11_rowAt
theorem ggX11_isWay_X11_isAt : GoodIn wsX11_isWay wsX11_isAt := fun w h => ⟨(List.mem_cons_of_mem _ (List.mem_append_right _ (List.mem_append_right _ h))), gdX11_isAt w h⟩
set_option maxRecDepth 20000 in
theorem gX11_isWay_X11_isAt : GoodIn wsX11_isWay (wsV RX11 258 RX11 yX11_isAt wsX11_isAt) := goodIn_app (goodIn_of _ (by decide +kernel)) ggX11_isWay_X11_isAt
theorem ggX11_isWay_X11_isWay : GoodIn wsX11_isWay wsX11_isWay := fun w h => ⟨h, gdX11_isWay w h⟩
set_option maxRecDepth 20000 in
theorem gX11_isWay_X11_isWay : GoodIn wsX11_isWay (wsV RX11 262 RX11 yX11_isWay wsX11_isWay) := goodIn_app (goodIn_of _ (by decide +kernel)) ggX11_isWay_X11_isWay
theorem ggX11_way_X11_isCorner : GoodIn wsX11_way wsX11_isCorner := fun w h => ⟨(List.mem_cons_of_mem _ (List.mem_append_right _ (List.mem_append_right _ (List.mem_append_left _ h)))), gdX11_isCorner w h⟩
set_option maxRecDepth 20000 in
theorem gX11_way_X11_isCorner : GoodIn wsX11_way (wsV RX11 244 RX11 yX11_isCorner wsX11_isCorner) := goodIn_app (goodIn_of _ (by decide +kernel)) ggX11_way_X11_isCorner
theorem ggX11_way_X11_trianglesOf : GoodIn wsX11_way wsX11_trianglesOf := fun w h => ⟨(List.mem_cons_of_mem _ (List.mem_append_right _ (List.mem_append_right _ (List.mem_append_right _ (List.mem_append_left _ h))))), gdX11_trianglesOf w h⟩
set_option maxRecDepth 20000 in
theorem gX11_way_X11_trianglesOf : GoodIn wsX11_way (wsV RX11 237 RX11 yX11_trianglesOf wsX11_trianglesOf) := goodIn_app (goodIn_of _ (by decide +kernel)) ggX11_way_X11_trianglesOf
theorem ggX11_way_X11_isWay : GoodIn wsX11_way wsX11_isWay := fun w h => ⟨(List.mem_cons_of_mem _ (List.mem_append_right _ (List.mem_append_right _ (List.mem_append_right _ (List.mem_append_right _ (List.mem_append_left _ h)))))), gdX11_isWay w h⟩
set_option maxRecDepth 20000 in
theorem gX11_way_X11_isWay : GoodIn wsX11_way (wsV RX11 262 RX11 yX11_isWay wsX11_isWay) := goodIn_app (goodIn_of _ (by decide +kernel)) ggX11_way_X11_isWay
theorem ggX11_way_X11_isBetween : GoodIn wsX11_way wsX11_isBetween := fun w h => ⟨(List.mem_cons_of_mem _ (List.mem_append_right _ (List.mem_append_right _ (List.mem_append_right _ (List.mem_append_right _ (List.mem_append_right _ h)))))), gdX11_isBetween w h⟩
set_option maxRecDepth 20000 in
theorem gX11_way_X11_isBetween : GoodIn wsX11_way (va_wsS RX11 167 yX11_isBetween wsX11_isBetween) := goodIn_app (goodIn_of _ (by decide +kernel)) ggX11_way_X11_isBetween
theorem ggX11_flipped_X11_near : GoodIn wsX11_flipped wsX11_near := fun w h => ⟨(List.mem_cons_of_mem _ (List.mem_append_right _ (List.mem_append_right _ h))), gdX11_near w h⟩
set_option maxRecDepth 20000 in
theorem gX11_flipped_X11_near : GoodIn wsX11_flipped (wsV RX11 233 RX11 yX11_near wsX11_near) := goodIn_app (goodIn_of _ (by decide +kernel)) ggX11_flipped_X11_near
theorem ggX11_flip_X11_isCorner : GoodIn wsX11_flip wsX11_isCorner := fun w h => ⟨(List.mem_cons_of_mem _ (List.mem_append_right _ (List.mem_append_right _ (List.mem_append_left _ h)))), gdX11_isCorner w h⟩
set_option maxRecDepth 20000 in
theorem gX11_flip_X11_isCorner : GoodIn wsX11_flip (wsV RX11 244 RX11 yX11_isCorner wsX11_isCorner) := goodIn_app (goodIn_of _ (by decide +kernel)) ggX11_flip_X11_isCorner
theorem ggX11_flip_X11_linesOf : GoodIn wsX11_flip wsX11_linesOf := fun w h => ⟨(List.mem_cons_of_mem _ (List.mem_append_right _ (List.mem_append_right _ (List.mem_append_right _ (List.mem_append_left _ h))))), gdX11_linesOf w h⟩
set_option maxRecDepth 20000 in
theorem gX11_flip_X11_linesOf : GoodIn wsX11_flip (wsV RX11 171 RX11 yX11_linesOf wsX11_linesOf) := goodIn_app (goodIn_of _ (by decide +kernel)) ggX11_flip_X11_linesOf
theorem ggX11_flip_X11_isLine : GoodIn wsX11_flip wsX11_isLine := fun w h => ⟨(List.mem_cons_of_mem _ (List.mem_append_right _ (List.mem_append_right _ (List.mem_append_right _ (List.mem_append_right _ (List.mem_append_left _ h)))))), gdX11_isLine w h⟩
set_option maxRecDepth 20000 in
theorem gX11_flip_X11_isLine : GoodIn wsX11_flip (va_wsS RX11 164 yX11_isLine wsX11_isLine) := goodIn_app (goodIn_of _ (by decide +kernel)) ggX11_flip_X11_isLine
theorem ggX11_flip_X11_near : GoodIn wsX11_flip wsX11_near := fun w h => ⟨(List.mem_cons_of_mem _ (List.mem_append_right _ (List.mem_append_right _ (List.mem_append_right _ (List.mem_append_right _ (List.mem_append_right _ (List.mem_append_left _ h))))))), gdX11_near w h⟩
set_option maxRecDepth 20000 in
theorem gX11_flip_X11_near : GoodIn wsX11_flip (wsV RX11 233 RX11 yX11_near wsX11_near) := goodIn_app (goodIn_of _ (by decide +kernel)) ggX11_flip_X11_near
theorem ggX11_flip_X11_flipped : GoodIn wsX11_flip wsX11_flipped := fun w h => ⟨(List.mem_cons_of_mem _ (List.mem_append_right _ (List.mem_append_right _ (List.mem_append_right _ (List.mem_append_right _ (List.mem_append_right _ (List.mem_append_right _ h))))))), gdX11_flipped w h⟩
set_option maxRecDepth 20000 in
theorem gX11_flip_X11_flipped : GoodIn wsX11_flip (wsV RX11 273 RX11 yX11_flipped wsX11_flipped) := goodIn_app (goodIn_of _ (by decide +kernel)) ggX11_flip_X11_flipped
theorem ggX11_spreadFrom_X11_flipped : GoodIn wsX11_spreadFrom wsX11_flipped := fun w h => ⟨(List.mem_cons_of_mem _ (List.mem_append_right _ (List.mem_append_right _ (List.mem_append_left _ h)))), gdX11_flipped w h⟩
set_option maxRecDepth 20000 in
theorem gX11_spreadFrom_X11_flipped : GoodIn wsX11_spreadFrom (wsV RX11 273 RX11 yX11_flipped wsX11_flipped) := goodIn_app (goodIn_of _ (by decide +kernel)) ggX11_spreadFrom_X11_flipped
theorem ggX11_spreadFrom_X11_placeOf : GoodIn wsX11_spreadFrom wsX11_placeOf := fun w h => ⟨(List.mem_cons_of_mem _ (List.mem_append_right _ (List.mem_append_right _ (List.mem_append_right _ h)))), gdX11_placeOf w h⟩
set_option maxRecDepth 20000 in
theorem gX11_spreadFrom_X11_placeOf : GoodIn wsX11_spreadFrom (wsV RX11 188 RX11 yX11_placeOf wsX11_placeOf) := goodIn_app (goodIn_of _ (by decide +kernel)) ggX11_spreadFrom_X11_placeOf
theorem ggX11_fewest_X11_listFor : GoodIn wsX11_fewest wsX11_listFor := fun w h => ⟨(List.mem_cons_of_mem _ (List.mem_append_right _ (List.mem_append_right _ (List.mem_append_left _ h)))), gdX11_listFor w h⟩
set_option maxRecDepth 20000 in
theorem gX11_fewest_X11_listFor : GoodIn wsX11_fewest (wsV RX11 101 RX11 yX11_listFor wsX11_listFor) := goodIn_app (goodIn_of _ (by decide +kernel)) ggX11_fewest_X11_listFor
theorem ggX11_fewest_X11_in : GoodIn wsX11_fewest wsX11_in := fun w h => ⟨(List.mem_cons_of_mem _ (List.mem_append_right _ (List.mem_append_right _ (List.mem_append_right _ (List.mem_append_left _ h))))), gdX11_in w h⟩
set_option maxRecDepth 20000 in
theorem gX11_fewest_X11_in : GoodIn wsX11_fewest (va_wsS RX11 207 yX11_in wsX11_in) := goodIn_app (goodIn_of _ (by decide +kernel)) ggX11_fewest_X11_in
theorem ggX11_fewest_X11_spreadFrom : GoodIn wsX11_fewest wsX11_spreadFrom := fun w h => ⟨(List.mem_cons_of_mem _ (List.mem_append_right _ (List.mem_append_right _ (List.mem_append_right _ (List.mem_append_right _ (List.mem_append_left _ h)))))), gdX11_spreadFrom w h⟩
set_option maxRecDepth 20000 in
theorem gX11_fewest_X11_spreadFrom : GoodIn wsX11_fewest (wsV RX11 277 RX11 yX11_spreadFrom wsX11_spreadFrom) := goodIn_app (goodIn_of _ (by decide +kernel)) ggX11_fewest_X11_spreadFrom
theorem ggX11_fewest_X11_placeOf : GoodIn wsX11_fewest wsX11_placeOf := fun w h => ⟨(List.mem_cons_of_mem _ (List.mem_append_right _ (List.mem_append_right _ (List.mem_append_right _ (List.mem_append_right _ (List.mem_append_right _ (List.mem_append_left _ h))))))), gdX11_placeOf w h⟩
set_option maxRecDepth 20000 in
theorem gX11_fewest_X11_placeOf : GoodIn wsX11_fewest (wsV RX11 188 RX11 yX11_placeOf wsX11_placeOf) := goodIn_app (goodIn_of _ (by decide +kernel)) ggX11_fewest_X11_placeOf
theorem ggX11_fewest_X11_flipped : GoodIn wsX11_fewest wsX11_flipped := fun w h => ⟨(List.mem_cons_of_mem _ (List.mem_append_right _ (List.mem_append_right _ (List.mem_append_right _ (List.mem_append_right _ (List.mem_append_right _ (List.mem_append_right _ h))))))), gdX11_flipped w h⟩
set_option maxRecDepth 20000 in
theorem gX11_fewest_X11_flipped : GoodIn wsX11_fewest (wsV RX11 273 RX11 yX11_flipped wsX11_flipped) := goodIn_app (goodIn_of _ (by decide +kernel)) ggX11_fewest_X11_flipped
theorem ggX11_passed_X11_in : GoodIn wsX11_passed wsX11_in := fun w h => ⟨(List.mem_cons_of_mem _ (List.mem_append_right _ (List.mem_append_right _ h))), gdX11_in w h⟩
set_option maxRecDepth 20000 in
theorem gX11_passed_X11_in : GoodIn wsX11_passed (va_wsS RX11 207 yX11_in wsX11_in) := goodIn_app (goodIn_of _ (by decide +kernel)) ggX11_passed_X11_in
theorem ggX11_farthest_X11_in : GoodIn wsX11_farthest wsX11_in := fun w h => ⟨(List.mem_cons_of_mem _ (List.mem_append_right _ (List.mem_append_right _ (List.mem_append_left _ h)))), gdX11_in w h⟩
set_option maxRecDepth 20000 in
theorem gX11_farthest_X11_in : GoodIn wsX11_farthest (va_wsS RX11 207 yX11_in wsX11_in) := goodIn_app (goodIn_of _ (by decide +kernel)) ggX11_farthest_X11_in
theorem ggX11_farthest_X11_ownNumber : GoodIn wsX11_farthest wsX11_ownNumber := fun w h => ⟨(List.mem_cons_of_mem _ (List.mem_append_right _ (List.mem_append_right _ (List.mem_append_right _ (List.mem_append_left _ h))))), gdX11_ownNumber w h⟩
set_option maxRecDepth 20000 in
theorem gX11_farthest_X11_ownNumber : GoodIn wsX11_farthest (wsV RX11 229 RX11 yX11_ownNumber wsX11_ownNumber) := goodIn_app (goodIn_of _ (by decide +kernel)) ggX11_farthest_X11_ownNumber
theorem ggX11_farthest_X11_spreadFrom : GoodIn wsX11_farthest wsX11_spreadFrom := fun w h => ⟨(List.mem_cons_of_mem _ (List.mem_append_right _ (List.mem_append_right _ (List.mem_append_right _ (List.mem_append_right _ h))))), gdX11_spreadFrom w h⟩
set_option maxRecDepth 20000 in
theorem gX11_farthest_X11_spreadFrom : GoodIn wsX11_farthest (wsV RX11 277 RX11 yX11_spreadFrom wsX11_spreadFrom) := goodIn_app (goodIn_of _ (by decide +kernel)) ggX11_farthest_X11_spreadFrom
theorem ggX11_leastOf_X11_turned : GoodIn wsX11_leastOf wsX11_turned := fun w h => ⟨(List.mem_cons_of_mem _ (List.mem_append_right _ h)), gdX11_turned w h⟩
set_option maxRecDepth 20000 in
theorem gX11_leastOf_X11_turned : GoodIn wsX11_leastOf (wsV RX11 283 RX11 yX11_turned wsX11_turned) := goodIn_app (goodIn_of _ (by decide +kernel)) ggX11_leastOf_X11_turned
theorem ggX11_least_X11_listFor : GoodIn wsX11_least wsX11_listFor := fun w h => ⟨(List.mem_cons_of_mem _ (List.mem_append_right _ (List.mem_append_right _ (List.mem_append_left _ h)))), gdX11_listFor w h⟩
set_option maxRecDepth 20000 in
theorem gX11_least_X11_listFor : GoodIn wsX11_least (wsV RX11 101 RX11 yX11_listFor wsX11_listFor) := goodIn_app (goodIn_of _ (by decide +kernel)) ggX11_least_X11_listFor
theorem ggX11_least_X11_leastOf : GoodIn wsX11_least wsX11_leastOf := fun w h => ⟨(List.mem_cons_of_mem _ (List.mem_append_right _ (List.mem_append_right _ (List.mem_append_right _ (List.mem_append_left _ h))))), gdX11_leastOf w h⟩
set_option maxRecDepth 20000 in
theorem gX11_least_X11_leastOf : GoodIn wsX11_least (wsV RX11 287 RX11 yX11_leastOf wsX11_leastOf) := goodIn_app (goodIn_of _ (by decide +kernel)) ggX11_least_X11_leastOf
theorem ggX11_least_X11_placeOf : GoodIn wsX11_least wsX11_placeOf := fun w h => ⟨(List.mem_cons_of_mem _ (List.mem_append_right _ (List.mem_append_right _ (List.mem_append_right _ (List.mem_append_right _ h))))), gdX11_placeOf w h⟩
set_option maxRecDepth 20000 in
theorem gX11_least_X11_placeOf : GoodIn wsX11_least (wsV RX11 188 RX11 yX11_placeOf wsX11_placeOf) := goodIn_app (goodIn_of _ (by decide +kernel)) ggX11_least_X11_placeOf
theorem ggX11_kinds_X11_in : GoodIn wsX11_kinds wsX11_in := fun w h => ⟨(List.mem_cons_of_mem _ (List.mem_append_right _ (List.mem_append_right _ (List.mem_append_left _ h)))), gdX11_in w h⟩
set_option maxRecDepth 20000 in
theorem gX11_kinds_X11_in : GoodIn wsX11_kinds (va_wsS RX11 207 yX11_in wsX11_in) := goodIn_app (goodIn_of _ (by decide +kernel)) ggX11_kinds_X11_in
theorem ggX11_kinds_X11_listFor : GoodIn wsX11_kinds wsX11_listFor := fun w h => ⟨(List.mem_cons_of_mem _ (List.mem_append_right _ (List.mem_append_right _ (List.mem_append_right _ (List.mem_append_left _ h))))), gdX11_listFor w h⟩
set_option maxRecDepth 20000 in
theorem gX11_kinds_X11_listFor : GoodIn wsX11_kinds (wsV RX11 101 RX11 yX11_listFor wsX11_listFor) := goodIn_app (goodIn_of _ (by decide +kernel)) ggX11_kinds_X11_listFor
theorem ggX11_kinds_X11_leastOf : GoodIn wsX11_kinds wsX11_leastOf := fun w h => ⟨(List.mem_cons_of_mem _ (List.mem_append_right _ (List.mem_append_right _ (List.mem_append_right _ (List.mem_append_right _ h))))), gdX11_leastOf w h⟩
set_option maxRecDepth 20000 in
theorem gX11_kinds_X11_leastOf : GoodIn wsX11_kinds (wsV RX11 287 RX11 yX11_leastOf wsX11_leastOf) := goodIn_app (goodIn_of _ (by decide +kernel)) ggX11_kinds_X11_leastOf
theorem ggX11_readRow_X11_begin : GoodIn wsX11_readRow wsX11_begin := fun w h => ⟨(List.mem_cons_of_mem _ (List.mem_append_right _ (List.mem_append_right _ (List.mem_append_left _ h)))), gdX11_begin w h⟩
set_option maxRecDepth 20000 in
theorem gX11_readRow_X11_begin : GoodIn wsX11_readRow (wsV RX11 219 RX11 yX11_begin wsX11_begin) := goodIn_app (goodIn_of _ (by decide +kernel)) ggX11_readRow_X11_begin
theorem ggX11_readRow_X11_scan : GoodIn wsX11_readRow wsX11_scan := fun w h => ⟨(List.mem_cons_of_mem _ (List.mem_append_right _ (List.mem_append_right _ (List.mem_append_right _ h)))), gdX11_scan w h⟩
set_option maxRecDepth 20000 in
theorem gX11_readRow_X11_scan : GoodIn wsX11_readRow (wsV RX11 148 RX11 yX11_scan wsX11_scan) := goodIn_app (goodIn_of _ (by decide +kernel)) ggX11_readRow_X11_scan
theorem ggX11_apart_X11_rowAt : GoodIn wsX11_apart wsX11_rowAt := fun w h => ⟨(List.mem_cons_of_mem _ (List.mem_append_right _ (List.mem_append_right _ h))), gdX11_rowAt w h⟩
set_option maxRecDepth 20000 in
theorem gX11_apart_X11_rowAt : GoodIn wsX11_apart (wsV RX11 251 RX11 yX11_rowAt wsX11_rowAt) := goodIn_app (goodIn_of _ (by decide +kernel)) ggX11_apart_X11_rowAt
theorem ggX11_nearest_X11_listFor : GoodIn wsX11_nearest wsX11_listFor := fun w h => ⟨(List.mem_cons_of_mem _ (List.mem_append_right _ (List.mem_append_right _ (List.mem_append_left _ h)))), gdX11_listFor w h⟩
set_option maxRecDepth 20000 in
theorem gX11_nearest_X11_listFor : GoodIn wsX11_nearest (wsV RX11 101 RX11 yX11_listFor wsX11_listFor) := goodIn_app (goodIn_of _ (by decide +kernel)) ggX11_nearest_X11_listFor
theorem ggX11_nearest_X11_apart : GoodIn wsX11_nearest wsX11_apart := fun w h => ⟨(List.mem_cons_of_mem _ (List.mem_append_right _ (List.mem_append_right _ (List.mem_append_right _ h)))), gdX11_apart w h⟩
set_option maxRecDepth 20000 in
theorem gX11_nearest_X11_apart : GoodIn wsX11_nearest (wsV RX11 294 RX11 yX11_apart wsX11_apart) := goodIn_app (goodIn_of _ (by decide +kernel)) ggX11_nearest_X11_apart
theorem ggX11_read_X11_readRow : GoodIn wsX11_read wsX11_readRow := fun w h => ⟨(List.mem_cons_of_mem _ (List.mem_append_right _ (List.mem_append_right _ (List.mem_append_left _ h)))), gdX11_readRow w h⟩
set_option maxRecDepth 20000 in
theorem gX11_read_X11_readRow : GoodIn wsX11_read (wsV RX11 297 RX11 yX11_readRow wsX11_readRow) := goodIn_app (goodIn_of _ (by decide +kernel)) ggX11_read_X11_readRow
theorem ggX11_read_X11_nearest : GoodIn wsX11_read wsX11_nearest := fun w h => ⟨(List.mem_cons_of_mem _ (List.mem_append_right _ (List.mem_append_right _ (List.mem_append_right _ (List.mem_append_left _ h))))), gdX11_nearest w h⟩
set_option maxRecDepth 20000 in
theorem gX11_read_X11_nearest : GoodIn wsX11_read (wsV RX11 300 RX11 yX11_nearest wsX11_nearest) := goodIn_app (goodIn_of _ (by decide +kernel)) ggX11_read_X11_nearest
theorem ggX11_read_X11_apart : GoodIn wsX11_read wsX11_apart := fun w h => ⟨(List.mem_cons_of_mem _ (List.mem_append_right _ (List.mem_append_right _ (List.mem_append_right _ (List.mem_append_right _ h))))), gdX11_apart w h⟩
set_option maxRecDepth 20000 in
theorem gX11_read_X11_apart : GoodIn wsX11_read (wsV RX11 294 RX11 yX11_apart wsX11_apart) := goodIn_app (goodIn_of _ (by decide +kernel)) ggX11_read_X11_apart
theorem ggX11_mend_X11_readRow : GoodIn wsX11_mend wsX11_readRow := fun w h => ⟨(List.mem_cons_of_mem _ (List.mem_append_right _ (List.mem_append_right _ (List.mem_append_left _ h)))), gdX11_readRow w h⟩
set_option maxRecDepth 20000 in
theorem gX11_mend_X11_readRow : GoodIn wsX11_mend (wsV RX11 297 RX11 yX11_readRow wsX11_readRow) := goodIn_app (goodIn_of _ (by decide +kernel)) ggX11_mend_X11_readRow
theorem ggX11_mend_X11_nearest : GoodIn wsX11_mend wsX11_nearest := fun w h => ⟨(List.mem_cons_of_mem _ (List.mem_append_right _ (List.mem_append_right _ (List.mem_append_right _ (List.mem_append_left _ h))))), gdX11_nearest w h⟩
set_option maxRecDepth 20000 in
theorem gX11_mend_X11_nearest : GoodIn wsX11_mend (wsV RX11 300 RX11 yX11_nearest wsX11_nearest) := goodIn_app (goodIn_of _ (by decide +kernel)) ggX11_mend_X11_nearest
theorem ggX11_mend_X11_apart : GoodIn wsX11_mend wsX11_apart := fun w h => ⟨(List.mem_cons_of_mem _ (List.mem_append_right _ (List.mem_append_right _ (List.mem_append_right _ (List.mem_append_right _ h))))), gdX11_apart w h⟩
set_option maxRecDepth 20000 in
theorem gX11_mend_X11_apart : GoodIn wsX11_mend (wsV RX11 294 RX11 yX11_apart wsX11_apart) := goodIn_app (goodIn_of _ (by decide +kernel)) ggX11_mend_X11_apart
theorem ggX11_cross_X11_linesOf : GoodIn wsX11_cross wsX11_linesOf := fun w h => ⟨(List.mem_cons_of_mem _ (List.mem_append_right _ (List.mem_append_right _ (List.mem_append_left _ h)))), gdX11_linesOf w h⟩
set_option maxRecDepth 20000 in
theorem gX11_cross_X11_linesOf : GoodIn wsX11_cross (wsV RX11 171 RX11 yX11_linesOf wsX11_linesOf) := goodIn_app (goodIn_of _ (by decide +kernel)) ggX11_cross_X11_linesOf
theorem ggX11_cross_X11_isCross : GoodIn wsX11_cross wsX11_isCross := fun w h => ⟨(List.mem_cons_of_mem _ (List.mem_append_right _ (List.mem_append_right _ (List.mem_append_right _ (List.mem_append_left _ h))))), gdX11_isCross w h⟩
set_option maxRecDepth 20000 in
theorem gX11_cross_X11_isCross : GoodIn wsX11_cross (va_wsS RX11 184 yX11_isCross wsX11_isCross) := goodIn_app (goodIn_of _ (by decide +kernel)) ggX11_cross_X11_isCross
theorem ggX11_cross_X11_isBetween : GoodIn wsX11_cross wsX11_isBetween := fun w h => ⟨(List.mem_cons_of_mem _ (List.mem_append_right _ (List.mem_append_right _ (List.mem_append_right _ (List.mem_append_right _ h))))), gdX11_isBetween w h⟩
set_option maxRecDepth 20000 in
theorem gX11_cross_X11_isBetween : GoodIn wsX11_cross (va_wsS RX11 167 yX11_isBetween wsX11_isBetween) := goodIn_app (goodIn_of _ (by decide +kernel)) ggX11_cross_X11_isBetween
theorem ggX11_crossed_X11_isCorner : GoodIn wsX11_crossed wsX11_isCorner := fun w h => ⟨(List.mem_cons_of_mem _ (List.mem_append_right _ (List.mem_append_right _ (List.mem_append_left _ h)))), gdX11_isCorner w h⟩
set_option maxRecDepth 20000 in
theorem gX11_crossed_X11_isCorner : GoodIn wsX11_crossed (wsV RX11 244 RX11 yX11_isCorner wsX11_isCorner) := goodIn_app (goodIn_of _ (by decide +kernel)) ggX11_crossed_X11_isCorner
theorem ggX11_crossed_X11_cross : GoodIn wsX11_crossed wsX11_cross := fun w h => ⟨(List.mem_cons_of_mem _ (List.mem_append_right _ (List.mem_append_right _ (List.mem_append_right _ (List.mem_append_left _ h))))), gdX11_cross w h⟩
set_option maxRecDepth 20000 in
theorem gX11_crossed_X11_cross : GoodIn wsX11_crossed (wsV RX11 306 RX11 yX11_cross wsX11_cross) := goodIn_app (goodIn_of _ (by decide +kernel)) ggX11_crossed_X11_cross
theorem ggX11_crossed_X11_in : GoodIn wsX11_crossed wsX11_in := fun w h => ⟨(List.mem_cons_of_mem _ (List.mem_append_right _ (List.mem_append_right _ (List.mem_append_right _ (List.mem_append_right _ h))))), gdX11_in w h⟩
set_option maxRecDepth 20000 in
theorem gX11_crossed_X11_in : GoodIn wsX11_crossed (va_wsS RX11 207 yX11_in wsX11_in) := goodIn_app (goodIn_of _ (by decide +kernel)) ggX11_crossed_X11_in
theorem ggX11_side_X11_isCorner : GoodIn wsX11_side wsX11_isCorner := fun w h => ⟨(List.mem_cons_of_mem _ (List.mem_append_right _ (List.mem_append_right _ (List.mem_append_left _ h)))), gdX11_isCorner w h⟩
set_option maxRecDepth 20000 in
theorem gX11_side_X11_isCorner : GoodIn wsX11_side (wsV RX11 244 RX11 yX11_isCorner wsX11_isCorner) := goodIn_app (goodIn_of _ (by decide +kernel)) ggX11_side_X11_isCorner
theorem ggX11_side_X11_cross : GoodIn wsX11_side wsX11_cross := fun w h => ⟨(List.mem_cons_of_mem _ (List.mem_append_right _ (List.mem_append_right _ (List.mem_append_right _ (List.mem_append_left _ h))))), gdX11_cross w h⟩
set_option maxRecDepth 20000 in
theorem gX11_side_X11_cross : GoodIn wsX11_side (wsV RX11 306 RX11 yX11_cross wsX11_cross) := goodIn_app (goodIn_of _ (by decide +kernel)) ggX11_side_X11_cross
theorem ggX11_side_X11_in : GoodIn wsX11_side wsX11_in := fun w h => ⟨(List.mem_cons_of_mem _ (List.mem_append_right _ (List.mem_append_right _ (List.mem_append_right _ (List.mem_append_right _ (List.mem_append_left _ h)))))), gdX11_in w h⟩
set_option maxRecDepth 20000 in
theorem gX11_side_X11_in : GoodIn wsX11_side (va_wsS RX11 207 yX11_in wsX11_in) := goodIn_app (goodIn_of _ (by decide +kernel)) ggX11_side_X11_in
theorem ggX11_side_X11_isBetween : GoodIn wsX11_side wsX11_isBetween := fun w h => ⟨(List.mem_cons_of_mem _ (List.mem_append_right _ (List.mem_append_right _ (List.mem_append_right _ (List.mem_append_right _ (List.mem_append_right _ h)))))), gdX11_isBetween w h⟩
set_option maxRecDepth 20000 in
theorem gX11_side_X11_isBetween : GoodIn wsX11_side (va_wsS RX11 167 yX11_isBetween wsX11_isBetween) := goodIn_app (goodIn_of _ (by decide +kernel)) ggX11_side_X11_isBetween
theorem ggX11_greatest_X11_in : GoodIn wsX11_greatest wsX11_in := fun w h => ⟨(List.mem_cons_of_mem _ (List.mem_append_right _ (List.mem_append_right _ (List.mem_append_left _ h)))), gdX11_in w h⟩
set_option maxRecDepth 20000 in
theorem gX11_greatest_X11_in : GoodIn wsX11_greatest (va_wsS RX11 207 yX11_in wsX11_in) := goodIn_app (goodIn_of _ (by decide +kernel)) ggX11_greatest_X11_in
theorem ggX11_greatest_X11_listFor : GoodIn wsX11_greatest wsX11_listFor := fun w h => ⟨(List.mem_cons_of_mem _ (List.mem_append_right _ (List.mem_append_right _ (List.mem_append_right _ (List.mem_append_left _ h))))), gdX11_listFor w h⟩
set_option maxRecDepth 20000 in
theorem gX11_greatest_X11_listFor : GoodIn wsX11_greatest (wsV RX11 101 RX11 yX11_listFor wsX11_listFor) := goodIn_app (goodIn_of _ (by decide +kernel)) ggX11_greatest_X11_listFor
theorem ggX11_greatest_X11_entriesFrom : GoodIn wsX11_greatest wsX11_entriesFrom := fun w h => ⟨(List.mem_cons_of_mem _ (List.mem_append_right _ (List.mem_append_right _ (List.mem_append_right _ (List.mem_append_right _ h))))), gdX11_entriesFrom w h⟩
set_option maxRecDepth 20000 in
theorem gX11_greatest_X11_entriesFrom : GoodIn wsX11_greatest (wsV RX11 240 RX11 yX11_entriesFrom wsX11_entriesFrom) := goodIn_app (goodIn_of _ (by decide +kernel)) ggX11_greatest_X11_entriesFrom
theorem ggX11_spread_X11_isCorner : GoodIn wsX11_spread wsX11_isCorner := fun w h => ⟨(List.mem_cons_of_mem _ (List.mem_append_right _ (List.mem_append_right _ (List.mem_append_left _ h)))), gdX11_isCorner w h⟩
set_option maxRecDepth 20000 in
theorem gX11_spread_X11_isCorner : GoodIn wsX11_spread (wsV RX11 244 RX11 yX11_isCorner wsX11_isCorner) := goodIn_app (goodIn_of _ (by decide +kernel)) ggX11_spread_X11_isCorner
theorem ggX11_spread_X11_listFor : GoodIn wsX11_spread wsX11_listFor := fun w h => ⟨(List.mem_cons_of_mem _ (List.mem_append_right _ (List.mem_append_right _ (List.mem_append_right _ (List.mem_append_left _ h))))), gdX11_listFor w h⟩
set_option maxRecDepth 20000 in
theorem gX11_spread_X11_listFor : GoodIn wsX11_spread (wsV RX11 101 RX11 yX11_listFor wsX11_listFor) := goodIn_app (goodIn_of _ (by decide +kernel)) ggX11_spread_X11_listFor
theorem ggX11_spread_X11_entryOf : GoodIn wsX11_spread wsX11_entryOf := fun w h => ⟨(List.mem_cons_of_mem _ (List.mem_append_right _ (List.mem_append_right _ (List.mem_append_right _ (List.mem_append_right _ h))))), gdX11_entryOf w h⟩
set_option maxRecDepth 20000 in
theorem gX11_spread_X11_entryOf : GoodIn wsX11_spread (wsV RX11 247 RX11 yX11_entryOf wsX11_entryOf) := goodIn_app (goodIn_of _ (by decide +kernel)) ggX11_spread_X11_entryOf
theorem ggX11_period_X11_readRow : GoodIn wsX11_period wsX11_readRow := fun w h => ⟨(List.mem_cons_of_mem _ (List.mem_append_right _ (List.mem_append_right _ (List.mem_append_left _ h)))), gdX11_readRow w h⟩
set_option maxRecDepth 20000 in
theorem gX11_period_X11_readRow : GoodIn wsX11_period (wsV RX11 297 RX11 yX11_readRow wsX11_readRow) := goodIn_app (goodIn_of _ (by decide +kernel)) ggX11_period_X11_readRow
theorem ggX11_period_X11_in : GoodIn wsX11_period wsX11_in := fun w h => ⟨(List.mem_cons_of_mem _ (List.mem_append_right _ (List.mem_append_right _ (List.mem_append_right _ h)))), gdX11_in w h⟩
set_option maxRecDepth 20000 in
theorem gX11_period_X11_in : GoodIn wsX11_period (va_wsS RX11 207 yX11_in wsX11_in) := goodIn_app (goodIn_of _ (by decide +kernel)) ggX11_period_X11_in
theorem ggX11_ofCut_X11_linesOf : GoodIn wsX11_ofCut wsX11_linesOf := fun w h => ⟨(List.mem_cons_of_mem _ (List.mem_append_right _ (List.mem_append_right _ (List.mem_append_left _ h)))), gdX11_linesOf w h⟩
set_option maxRecDepth 20000 in
theorem gX11_ofCut_X11_linesOf : GoodIn wsX11_ofCut (wsV RX11 171 RX11 yX11_linesOf wsX11_linesOf) := goodIn_app (goodIn_of _ (by decide +kernel)) ggX11_ofCut_X11_linesOf
theorem ggX11_ofCut_X11_rowAt : GoodIn wsX11_ofCut wsX11_rowAt := fun w h => ⟨(List.mem_cons_of_mem _ (List.mem_append_right _ (List.mem_append_right _ (List.mem_append_right _ h)))), gdX11_rowAt w h⟩
set_option maxRecDepth 20000 in
theorem gX11_ofCut_X11_rowAt : GoodIn wsX11_ofCut (wsV RX11 251 RX11 yX11_rowAt wsX11_rowAt) := goodIn_app (goodIn_of _ (by decide +kernel)) ggX11_ofCut_X11_rowAt
theorem ggX11_of_X11_in : GoodIn wsX11_of wsX11_in := fun w h => ⟨(List.mem_cons_of_mem _ (List.mem_append_right _ (List.mem_append_right _ h))), gdX11_in w h⟩
set_option maxRecDepth 20000 in
theorem gX11_of_X11_in : GoodIn wsX11_of (va_wsS RX11 207 yX11_in wsX11_in) := goodIn_app (goodIn_of _ (by decide +kernel)) ggX11_of_X11_in
theorem ggX11_along_X11_in : GoodIn wsX11_along wsX11_in := fun w h => ⟨(List.mem_cons_of_mem _ (List.mem_append_right _ (List.mem_append_right _ (List.mem_append_left _ h)))), gdX11_in w h⟩
set_option maxRecDepth 20000 in
theorem gX11_along_X11_in : GoodIn wsX11_along (va_wsS RX11 207 yX11_in wsX11_in) := goodIn_app (goodIn_of _ (by decide +kernel)) ggX11_along_X11_in
theorem ggX11_along_X11_alongOf : GoodIn wsX11_along wsX11_alongOf := fun w h => ⟨(List.mem_cons_of_mem _ (List.mem_append_right _ (List.mem_append_right _ (List.mem_append_right _ h)))), gdX11_alongOf w h⟩
set_option maxRecDepth 20000 in
theorem gX11_along_X11_alongOf : GoodIn wsX11_along (wsV RX11 310 RX11 yX11_alongOf wsX11_alongOf) := goodIn_app (goodIn_of _ (by decide +kernel)) ggX11_along_X11_alongOf
theorem ggX11_isAll_X11_alongOf : GoodIn wsX11_isAll wsX11_alongOf := fun w h => ⟨(List.mem_cons_of_mem _ (List.mem_append_right _ (List.mem_append_right _ h))), gdX11_alongOf w h⟩
set_option maxRecDepth 20000 in
theorem gX11_isAll_X11_alongOf : GoodIn wsX11_isAll (wsV RX11 310 RX11 yX11_alongOf wsX11_alongOf) := goodIn_app (goodIn_of _ (by decide +kernel)) ggX11_isAll_X11_alongOf
theorem ggX11_breaks_X11_in : GoodIn wsX11_breaks wsX11_in := fun w h => ⟨(List.mem_cons_of_mem _ (List.mem_append_right _ (List.mem_append_right _ (List.mem_append_left _ h)))), gdX11_in w h⟩
set_option maxRecDepth 20000 in
theorem gX11_breaks_X11_in : GoodIn wsX11_breaks (va_wsS RX11 207 yX11_in wsX11_in) := goodIn_app (goodIn_of _ (by decide +kernel)) ggX11_breaks_X11_in
theorem ggX11_breaks_X11_alongOf : GoodIn wsX11_breaks wsX11_alongOf := fun w h => ⟨(List.mem_cons_of_mem _ (List.mem_append_right _ (List.mem_append_right _ (List.mem_append_right _ (List.mem_append_left _ h))))), gdX11_alongOf w h⟩
set_option maxRecDepth 20000 in
theorem gX11_breaks_X11_alongOf : GoodIn wsX11_breaks (wsV RX11 310 RX11 yX11_alongOf wsX11_alongOf) := goodIn_app (goodIn_of _ (by decide +kernel)) ggX11_breaks_X11_alongOf
theorem ggX11_breaks_X11_isAll : GoodIn wsX11_breaks wsX11_isAll := fun w h => ⟨(List.mem_cons_of_mem _ (List.mem_append_right _ (List.mem_append_right _ (List.mem_append_right _ (List.mem_append_right _ h))))), gdX11_isAll w h⟩
set_option maxRecDepth 20000 in
theorem gX11_breaks_X11_isAll : GoodIn wsX11_breaks (wsV RX11 316 RX11 yX11_isAll wsX11_isAll) := goodIn_app (goodIn_of _ (by decide +kernel)) ggX11_breaks_X11_isAll
theorem ggX11_growth_X11_alongOf : GoodIn wsX11_growth wsX11_alongOf := fun w h => ⟨(List.mem_cons_of_mem _ (List.mem_append_right _ (List.mem_append_right _ h))), gdX11_alongOf w h⟩
set_option maxRecDepth 20000 in
theorem gX11_growth_X11_alongOf : GoodIn wsX11_growth (wsV RX11 310 RX11 yX11_alongOf wsX11_alongOf) := goodIn_app (goodIn_of _ (by decide +kernel)) ggX11_growth_X11_alongOf
theorem ggX11_glue_X11_in : GoodIn wsX11_glue wsX11_in := fun w h => ⟨(List.mem_cons_of_mem _ (List.mem_append_right _ (List.mem_append_right _ h))), gdX11_in w h⟩
set_option maxRecDepth 20000 in
theorem gX11_glue_X11_in : GoodIn wsX11_glue (va_wsS RX11 207 yX11_in wsX11_in) := goodIn_app (goodIn_of _ (by decide +kernel)) ggX11_glue_X11_in
theorem ggX11_cutOff_X11_in : GoodIn wsX11_cutOff wsX11_in := fun w h => ⟨(List.mem_cons_of_mem _ (List.mem_append_right _ (List.mem_append_right _ (List.mem_append_left _ h)))), gdX11_in w h⟩
set_option maxRecDepth 20000 in
theorem gX11_cutOff_X11_in : GoodIn wsX11_cutOff (va_wsS RX11 207 yX11_in wsX11_in) := goodIn_app (goodIn_of _ (by decide +kernel)) ggX11_cutOff_X11_in
theorem ggX11_cutOff_X11_isOff : GoodIn wsX11_cutOff wsX11_isOff := fun w h => ⟨(List.mem_cons_of_mem _ (List.mem_append_right _ (List.mem_append_right _ (List.mem_append_right _ (List.mem_append_left _ h))))), gdX11_isOff w h⟩
set_option maxRecDepth 20000 in
theorem gX11_cutOff_X11_isOff : GoodIn wsX11_cutOff (wsV RX11 320 RX11 yX11_isOff wsX11_isOff) := goodIn_app (goodIn_of _ (by decide +kernel)) ggX11_cutOff_X11_isOff
theorem ggX11_cutOff_X11_off : GoodIn wsX11_cutOff wsX11_off := fun w h => ⟨(List.mem_cons_of_mem _ (List.mem_append_right _ (List.mem_append_right _ (List.mem_append_right _ (List.mem_append_right _ h))))), gdX11_off w h⟩
set_option maxRecDepth 20000 in
theorem gX11_cutOff_X11_off : GoodIn wsX11_cutOff (wsV RX11 323 RX11 yX11_off wsX11_off) := goodIn_app (goodIn_of _ (by decide +kernel)) ggX11_cutOff_X11_off
theorem ggX11_core_X11_isOff : GoodIn wsX11_core wsX11_isOff := fun w h => ⟨(List.mem_cons_of_mem _ (List.mem_append_right _ (List.mem_append_right _ (List.mem_append_left _ h)))), gdX11_isOff w h⟩
set_option maxRecDepth 20000 in
theorem gX11_core_X11_isOff : GoodIn wsX11_core (wsV RX11 320 RX11 yX11_isOff wsX11_isOff) := goodIn_app (goodIn_of _ (by decide +kernel)) ggX11_core_X11_isOff
theorem ggX11_core_X11_off : GoodIn wsX11_core wsX11_off := fun w h => ⟨(List.mem_cons_of_mem _ (List.mem_append_right _ (List.mem_append_right _ (List.mem_append_right _ h)))), gdX11_off w h⟩
set_option maxRecDepth 20000 in
theorem gX11_core_X11_off : GoodIn wsX11_core (wsV RX11 323 RX11 yX11_off wsX11_off) := goodIn_app (goodIn_of _ (by decide +kernel)) ggX11_core_X11_off
theorem ggX11_see_X11_in : GoodIn wsX11_see wsX11_in := fun w h => ⟨(List.mem_cons_of_mem _ (List.mem_append_right _ (List.mem_append_right _ (List.mem_append_left _ h)))), gdX11_in w h⟩
set_option maxRecDepth 20000 in
theorem gX11_see_X11_in : GoodIn wsX11_see (va_wsS RX11 207 yX11_in wsX11_in) := goodIn_app (goodIn_of _ (by decide +kernel)) ggX11_see_X11_in
theorem ggX11_see_X11_isCorner : GoodIn wsX11_see wsX11_isCorner := fun w h => ⟨(List.mem_cons_of_mem _ (List.mem_append_right _ (List.mem_append_right _ (List.mem_append_right _ h)))), gdX11_isCorner w h⟩
set_option maxRecDepth 20000 in
theorem gX11_see_X11_isCorner : GoodIn wsX11_see (wsV RX11 244 RX11 yX11_isCorner wsX11_isCorner) := goodIn_app (goodIn_of _ (by decide +kernel)) ggX11_see_X11_isCorner
theorem ggX11_right_X11_in : GoodIn wsX11_right wsX11_in := fun w h => ⟨(List.mem_cons_of_mem _ (List.mem_append_right _ (List.mem_append_right _ h))), gdX11_in w h⟩
set_option maxRecDepth 20000 in
theorem gX11_right_X11_in : GoodIn wsX11_right (va_wsS RX11 207 yX11_in wsX11_in) := goodIn_app (goodIn_of _ (by decide +kernel)) ggX11_right_X11_in
theorem ggX11_isFit_X11_entryOf : GoodIn wsX11_isFit wsX11_entryOf := fun w h => ⟨(List.mem_cons_of_mem _ (List.mem_append_right _ (List.mem_append_right _ h))), gdX11_entryOf w h⟩
set_option maxRecDepth 20000 in
theorem gX11_isFit_X11_entryOf : GoodIn wsX11_isFit (wsV RX11 247 RX11 yX11_entryOf wsX11_entryOf) := goodIn_app (goodIn_of _ (by decide +kernel)) ggX11_isFit_X11_entryOf
theorem ggX11_makeFits_X11_listFor : GoodIn wsX11_makeFits wsX11_listFor := fun w h => ⟨(List.mem_cons_of_mem _ (List.mem_append_right _ (List.mem_append_right _ (List.mem_append_left _ h)))), gdX11_listFor w h⟩
set_option maxRecDepth 20000 in
theorem gX11_makeFits_X11_listFor : GoodIn wsX11_makeFits (wsV RX11 101 RX11 yX11_listFor wsX11_listFor) := goodIn_app (goodIn_of _ (by decide +kernel)) ggX11_makeFits_X11_listFor
theorem ggX11_makeFits_X11_isFit : GoodIn wsX11_makeFits wsX11_isFit := fun w h => ⟨(List.mem_cons_of_mem _ (List.mem_append_right _ (List.mem_append_right _ (List.mem_append_right _ h)))), gdX11_isFit w h⟩
set_option maxRecDepth 20000 in
theorem gX11_makeFits_X11_isFit : GoodIn wsX11_makeFits (wsV RX11 326 RX11 yX11_isFit wsX11_isFit) := goodIn_app (goodIn_of _ (by decide +kernel)) ggX11_makeFits_X11_isFit
theorem ggX11_fit_X11_in : GoodIn wsX11_fit wsX11_in := fun w h => ⟨(List.mem_cons_of_mem _ (List.mem_append_right _ (List.mem_append_right _ (List.mem_append_left _ h)))), gdX11_in w h⟩
set_option maxRecDepth 20000 in
theorem gX11_fit_X11_in : GoodIn wsX11_fit (va_wsS RX11 207 yX11_in wsX11_in) := goodIn_app (goodIn_of _ (by decide +kernel)) ggX11_fit_X11_in
theorem ggX11_fit_X11_makeFits : GoodIn wsX11_fit wsX11_makeFits := fun w h => ⟨(List.mem_cons_of_mem _ (List.mem_append_right _ (List.mem_append_right _ (List.mem_append_right _ h)))), gdX11_makeFits w h⟩
set_option maxRecDepth 20000 in
theorem gX11_fit_X11_makeFits : GoodIn wsX11_fit (wsV RX11 330 RX11 yX11_makeFits wsX11_makeFits) := goodIn_app (goodIn_of _ (by decide +kernel)) ggX11_fit_X11_makeFits
theorem ggX11_surely_X11_isCorner : GoodIn wsX11_surely wsX11_isCorner := fun w h => ⟨(List.mem_cons_of_mem _ (List.mem_append_right _ (List.mem_append_right _ (List.mem_append_left _ h)))), gdX11_isCorner w h⟩
set_option maxRecDepth 20000 in
theorem gX11_surely_X11_isCorner : GoodIn wsX11_surely (wsV RX11 244 RX11 yX11_isCorner wsX11_isCorner) := goodIn_app (goodIn_of _ (by decide +kernel)) ggX11_surely_X11_isCorner
theorem ggX11_surely_X11_isLine : GoodIn wsX11_surely wsX11_isLine := fun w h => ⟨(List.mem_cons_of_mem _ (List.mem_append_right _ (List.mem_append_right _ (List.mem_append_right _ (List.mem_append_left _ h))))), gdX11_isLine w h⟩
set_option maxRecDepth 20000 in
theorem gX11_surely_X11_isLine : GoodIn wsX11_surely (va_wsS RX11 164 yX11_isLine wsX11_isLine) := goodIn_app (goodIn_of _ (by decide +kernel)) ggX11_surely_X11_isLine
theorem ggX11_surely_X11_in : GoodIn wsX11_surely wsX11_in := fun w h => ⟨(List.mem_cons_of_mem _ (List.mem_append_right _ (List.mem_append_right _ (List.mem_append_right _ (List.mem_append_right _ (List.mem_append_left _ h)))))), gdX11_in w h⟩
set_option maxRecDepth 20000 in
theorem gX11_surely_X11_in : GoodIn wsX11_surely (va_wsS RX11 207 yX11_in wsX11_in) := goodIn_app (goodIn_of _ (by decide +kernel)) ggX11_surely_X11_in
theorem ggX11_surely_X11_makeFits : GoodIn wsX11_surely wsX11_makeFits := fun w h => ⟨(List.mem_cons_of_mem _ (List.mem_append_right _ (List.mem_append_right _ (List.mem_append_right _ (List.mem_append_right _ (List.mem_append_right _ (List.mem_append_left _ h))))))), gdX11_makeFits w h⟩
set_option maxRecDepth 20000 in
theorem gX11_surely_X11_makeFits : GoodIn wsX11_surely (wsV RX11 330 RX11 yX11_makeFits wsX11_makeFits) := goodIn_app (goodIn_of _ (by decide +kernel)) ggX11_surely_X11_makeFits
theorem ggX11_surely_X11_near : GoodIn wsX11_surely wsX11_near := fun w h => ⟨(List.mem_cons_of_mem _ (List.mem_append_right _ (List.mem_append_right _ (List.mem_append_right _ (List.mem_append_right _ (List.mem_append_right _ (List.mem_append_right _ h))))))), gdX11_near w h⟩
set_option maxRecDepth 20000 in
theorem gX11_surely_X11_near : GoodIn wsX11_surely (wsV RX11 233 RX11 yX11_near wsX11_near) := goodIn_app (goodIn_of _ (by decide +kernel)) ggX11_surely_X11_near
theorem ggX11_ask_X11_in : GoodIn wsX11_ask wsX11_in := fun w h => ⟨(List.mem_cons_of_mem _ (List.mem_append_right _ (List.mem_append_right _ (List.mem_append_left _ h)))), gdX11_in w h⟩
set_option maxRecDepth 20000 in
theorem gX11_ask_X11_in : GoodIn wsX11_ask (va_wsS RX11 207 yX11_in wsX11_in) := goodIn_app (goodIn_of _ (by decide +kernel)) ggX11_ask_X11_in
theorem ggX11_ask_X11_makeFits : GoodIn wsX11_ask wsX11_makeFits := fun w h => ⟨(List.mem_cons_of_mem _ (List.mem_append_right _ (List.mem_append_right _ (List.mem_append_right _ (List.mem_append_left _ h))))), gdX11_makeFits w h⟩
set_option maxRecDepth 20000 in
theorem gX11_ask_X11_makeFits : GoodIn wsX11_ask (wsV RX11 330 RX11 yX11_makeFits wsX11_makeFits) := goodIn_app (goodIn_of _ (by decide +kernel)) ggX11_ask_X11_makeFits
theorem ggX11_ask_X11_entriesFrom : GoodIn wsX11_ask wsX11_entriesFrom := fun w h => ⟨(List.mem_cons_of_mem _ (List.mem_append_right _ (List.mem_append_right _ (List.mem_append_right _ (List.mem_append_right _ h))))), gdX11_entriesFrom w h⟩
set_option maxRecDepth 20000 in
theorem gX11_ask_X11_entriesFrom : GoodIn wsX11_ask (wsV RX11 240 RX11 yX11_entriesFrom wsX11_entriesFrom) := goodIn_app (goodIn_of _ (by decide +kernel)) ggX11_ask_X11_entriesFrom
