/-! The tables of the words that the small machine leans on, each found at its place. -/
def sm_wds : List Cond := lw_tbl.filter goodWord
theorem sm_in0 {w : Cond} (i : Nat) (h : (k2_sels lw_privs)[i]? = some w) (hg : goodWord w = true) : w ∈ sm_wds := List.mem_filter.mpr ⟨List.mem_append_left _ (List.mem_of_getElem? h), hg⟩
theorem sm_in1 {w : Cond} (i : Nat) (h : tables_1_1[i]? = some w) (hg : goodWord w = true) : w ∈ sm_wds := List.mem_filter.mpr ⟨List.mem_append_right _ (List.mem_append_left _ (List.mem_of_getElem? h)), hg⟩
theorem sm_tb1 {w : Cond} (i : Nat) (h : tables_1_1[i]? = some w) : w ∈ lw_tbl := List.mem_append_right _ (List.mem_append_left _ (List.mem_of_getElem? h))
theorem sm_in2 {w : Cond} (i : Nat) (h : tables_1_2[i]? = some w) (hg : goodWord w = true) : w ∈ sm_wds := List.mem_filter.mpr ⟨List.mem_append_right _ (List.mem_append_right _ (List.mem_append_left _ (List.mem_of_getElem? h))), hg⟩
theorem sm_tb2 {w : Cond} (i : Nat) (h : tables_1_2[i]? = some w) : w ∈ lw_tbl := List.mem_append_right _ (List.mem_append_right _ (List.mem_append_left _ (List.mem_of_getElem? h)))
theorem sm_in3 {w : Cond} (i : Nat) (h : tables_1_3[i]? = some w) (hg : goodWord w = true) : w ∈ sm_wds := List.mem_filter.mpr ⟨List.mem_append_right _ (List.mem_append_right _ (List.mem_append_right _ (List.mem_append_left _ (List.mem_of_getElem? h)))), hg⟩
theorem sm_tb3 {w : Cond} (i : Nat) (h : tables_1_3[i]? = some w) : w ∈ lw_tbl := List.mem_append_right _ (List.mem_append_right _ (List.mem_append_right _ (List.mem_append_left _ (List.mem_of_getElem? h))))
theorem sm_in4 {w : Cond} (i : Nat) (h : tables_1_4[i]? = some w) (hg : goodWord w = true) : w ∈ sm_wds := List.mem_filter.mpr ⟨List.mem_append_right _ (List.mem_append_right _ (List.mem_append_right _ (List.mem_append_right _ (List.mem_append_left _ (List.mem_of_getElem? h))))), hg⟩
theorem sm_tb4 {w : Cond} (i : Nat) (h : tables_1_4[i]? = some w) : w ∈ lw_tbl := List.mem_append_right _ (List.mem_append_right _ (List.mem_append_right _ (List.mem_append_right _ (List.mem_append_left _ (List.mem_of_getElem? h)))))
theorem sm_in5 {w : Cond} (i : Nat) (h : tables_1_5[i]? = some w) (hg : goodWord w = true) : w ∈ sm_wds := List.mem_filter.mpr ⟨List.mem_append_right _ (List.mem_append_right _ (List.mem_append_right _ (List.mem_append_right _ (List.mem_append_right _ (List.mem_append_left _ (List.mem_of_getElem? h)))))), hg⟩
theorem sm_tb5 {w : Cond} (i : Nat) (h : tables_1_5[i]? = some w) : w ∈ lw_tbl := List.mem_append_right _ (List.mem_append_right _ (List.mem_append_right _ (List.mem_append_right _ (List.mem_append_right _ (List.mem_append_left _ (List.mem_of_getElem? h))))))
theorem sm_in6 {w : Cond} (i : Nat) (h : tables_1_6[i]? = some w) (hg : goodWord w = true) : w ∈ sm_wds := List.mem_filter.mpr ⟨List.mem_append_right _ (List.mem_append_right _ (List.mem_append_right _ (List.mem_append_right _ (List.mem_append_right _ (List.mem_append_right _ (List.mem_of_getElem? h)))))), hg⟩
theorem sm_tb6 {w : Cond} (i : Nat) (h : tables_1_6[i]? = some w) : w ∈ lw_tbl := List.mem_append_right _ (List.mem_append_right _ (List.mem_append_right _ (List.mem_append_right _ (List.mem_append_right _ (List.mem_append_right _ (List.mem_of_getElem? h))))))
def sm_cn : List String := [RX0, RX1, RX2, RX3, RX4, RX5, RX6, RX7, RX8, RX9, RX10, RX11, "SwallowSurveyLaw", "java/lang/String", "java/lang/StringLatin1", "java/lang/Math", "java/util/Arrays", "jdk/internal/util/Preconditions"]
def sm_cs (o : Nat) : String := sm_cn.getD o ""
def sm_mt : List (MethodName × ByteArray × Nat × Option FieldType) := [
  (yX0_init, cX0_init, 1, none),
  (yX0_mark, cX0_mark, 6, none),
  (yX0_spreadFrom, cX0_spreadFrom, 11, none),
  (yX0_areOne, cX0_areOne, 3, (some .boolean)),
  (yX0_sizeAt, cX0_sizeAt, 2, (some .int)),
  (yX1_init, cX1_init, 1, none),
  (yX1_startAnew, cX1_startAnew, 4, none),
  (yX1_copyFrom, cX1_copyFrom, 3, none),
  (yX1_hasCell, cX1_hasCell, 2, (some .boolean)),
  (yX1_cellAt, cX1_cellAt, 3, (some .int)),
  (yX1_hasPoint, cX1_hasPoint, 3, (some .boolean)),
  (yX1_yardFrom, cX1_yardFrom, 8, (some .int)),
  (yX1_yardBeside, cX1_yardBeside, 4, (some .int)),
  (yX1_hasMirror, cX1_hasMirror, 3, (some .boolean)),
  (yX1_hasCatAt, cX1_hasCatAt, 5, (some .boolean)),
  (yX1_hasHatching, cX1_hasHatching, 3, (some .boolean)),
  (yX1_habitOf, cX1_habitOf, 2, (some (.object "SwallowSurvey$Habit"))),
  (yX1_nearestNest, cX1_nearestNest, 7, (some .int)),
  (yX1_drawFlies, cX1_drawFlies, 4, none),
  (yX1_draw, cX1_draw, 2, (some .int)),
  (yX1_countMoves, cX1_countMoves, 4, none),
  (yX2_init, cX2_init, 3, none),
  (yX2_choose, cX2_choose, 7, (some .int)),
  (yX2_join, cX2_join, 3, (some .int)),
  (yX3_init, cX3_init, 1, none),
  (yX3_countYards, cX3_countYards, 5, (some .int)),
  (yX3_findWay, cX3_findWay, 9, (some .boolean)),
  (yX3_nextFree, cX3_nextFree, 7, (some .int)),
  (yX3_keepWay, cX3_keepWay, 7, none),
  (yX4_init, cX4_init, 1, none),
  (yX4_read, cX4_read, 5, (some (.object "SwallowSurvey$Habit"))),
  (yX4_begin, cX4_begin, 1, none),
  (yX4_skipBlanks, cX4_skipBlanks, 3, none),
  (yX4_readToken, cX4_readToken, 4, none),
  (yX4_isLetter, cX4_isLetter, 1, (some .boolean)),
  (yX4_isDigit, cX4_isDigit, 1, (some .boolean)),
  (yX4_isSign, cX4_isSign, 1, (some .boolean)),
  (yX4_findWord, cX4_findWord, 8, (some .int)),
  (yX4_isWord, cX4_isWord, 2, (some .boolean)),
  (yX4_takeLine, cX4_takeLine, 1, (some .int)),
  (yX4_takeWhen, cX4_takeWhen, 1, (some .int)),
  (yX4_takeCondition, cX4_takeCondition, 2, (some .int)),
  (yX4_takeUnit, cX4_takeUnit, 1, (some .int)),
  (yX4_takeDivisor, cX4_takeDivisor, 1, (some .int)),
  (yX4_takeAfterUnit, cX4_takeAfterUnit, 1, (some .int)),
  (yX4_compareBy, cX4_compareBy, 2, (some .int)),
  (yX4_takeAfterCondition, cX4_takeAfterCondition, 1, (some .int)),
  (yX4_joinTo, cX4_joinTo, 3, (some .int)),
  (yX4_settle, cX4_settle, 3, none),
  (yX4_holdBack, cX4_holdBack, 2, none),
  (yX4_emit, cX4_emit, 3, none),
  (yX5_init, cX5_init, 2, none),
  (yX5_add, cX5_add, 7, (some .int)),
  (yX5_isFull, cX5_isFull, 1, (some .boolean)),
  (yX5_get, cX5_get, 3, (some .int)),
  (yX5_copyFrom, cX5_copyFrom, 3, none),
  (yX6_init, cX6_init, 1, none),
  (yX6_take, cX6_take, 3, none),
  (yX6_putPonds, cX6_putPonds, 6, none),
  (yX7_init, cX7_init, 1, none),
  (yX7_flyAll, cX7_flyAll, 4, none),
  (yX7_fly, cX7_fly, 10, none),
  (yX7_lookAhead, cX7_lookAhead, 7, none),
  (yX7_headingAfter, cX7_headingAfter, 3, (some .int)),
  (yX8_init, cX8_init, 1, none),
  (yX8_endOf, cX8_endOf, 5, (some .int)),
  (yX8_seekPonds, cX8_seekPonds, 7, (some .boolean)),
  (yX8_listDry, cX8_listDry, 3, none),
  (yX8_tryPonds, cX8_tryPonds, 8, none),
  (yX8_priceOf, cX8_priceOf, 2, (some .int)),
  (yX8_weighHatchings, cX8_weighHatchings, 7, (some .int)),
  (yX8_weightOf, cX8_weightOf, 5, (some .int)),
  (yX8_hatchSet, cX8_hatchSet, 6, none),
  (yX8_tryClaims, cX8_tryClaims, 4, none),
  (yX8_goesWithClaims, cX8_goesWithClaims, 4, (some .boolean)),
  (yX9_init, cX9_init, 2, none),
  (yX9_clear, cX9_clear, 1, none),
  (yX9_copyFrom, cX9_copyFrom, 2, none),
  (yX9_lay, cX9_lay, 4, none),
  (yX9_sueAt, cX9_sueAt, 10, none),
  (yX9_takeAway, cX9_takeAway, 6, (some .int)),
  (yX9_countYards, cX9_countYards, 3, (some .int)),
  (yX10_init, cX10_init, 1, none),
  (yX10_state, cX10_state, 3, (some .int)),
  (yX10_land, cX10_land, 3, (some .boolean)),
  (yX10_tell, cX10_tell, 4, (some .boolean)),
  (yX10_dig, cX10_dig, 2, (some .boolean)),
  (yX10_fill, cX10_fill, 2, (some .boolean)),
  (yX10_undo, cX10_undo, 2, (some .boolean)),
  (yX10_barn, cX10_barn, 2, (some .boolean)),
  (yX10_mirror, cX10_mirror, 4, (some .boolean)),
  (yX10_nest, cX10_nest, 3, (some .int)),
  (yX10_swallow, cX10_swallow, 6, (some .int)),
  (yX10_feed, cX10_feed, 6, (some .int)),
  (yX10_end, cX10_end, 2, (some .boolean)),
  (yX10_text, cX10_text, 4, (some .int)),
  (yX10_fault, cX10_fault, 2, (some .int)),
  (yX10_survey, cX10_survey, 1, (some .int)),
  (yX10_spring, cX10_spring, 2, (some .int)),
  (yX10_of, cX10_of, 3, (some .int)),
  (yX10_yard, cX10_yard, 6, (some .int)),
  (yX10_suit, cX10_suit, 4, (some .int)),
  (yX10_steal, cX10_steal, 4, (some .int)),
  (yX10_ends, cX10_ends, 3, (some .int)),
  (yX10_plan, cX10_plan, 4, (some .int)),
  (yX10_hatch, cX10_hatch, 4, (some .int)),
  (yX10_odds, cX10_odds, 3, (some .int)),
  (yX10_claim, cX10_claim, 4, (some .boolean)),
  (yX10_back, cX10_back, 2, (some .int)),
  (yX10_part, cX10_part, 3, (some .int)),
  (yX10_image, cX10_image, 2, (some .boolean)),
  (yX10_look, cX10_look, 2, (some .int)),
  (yX10_within, cX10_within, 3, (some .boolean)),
  (yX10_putWithin, cX10_putWithin, 4, (some .boolean)),
  (yX10_changePond, cX10_changePond, 3, (some .boolean)),
  (yX10_putBytes, cX10_putBytes, 3, none),
  (yX10_surveyForGood, cX10_surveyForGood, 1, (some .int)),
  (yX11_init, cX11_init, 1, none),
  (yX11_begins, cX11_begins, 5, none),
  (yX11_clears, cX11_clears, 2, none),
  (yX11_isIn, cX11_isIn, 3, (some .boolean)),
  (yX11_isPlace, cX11_isPlace, 3, (some .boolean)),
  (yX11_isCell, cX11_isCell, 2, (some .boolean)),
  (yX11_isPoint, cX11_isPoint, 3, (some .boolean)),
  (yX11_state, cX11_state, 3, (some .int)),
  (yX11_draw, cX11_draw, 2, (some .int)),
  (yX11_land, cX11_land, 3, (some .boolean)),
  (yX11_tell, cX11_tell, 4, (some .boolean)),
  (yX11_keeps, cX11_keeps, 3, none),
  (yX11_dig, cX11_dig, 2, (some .boolean)),
  (yX11_fill, cX11_fill, 2, (some .boolean)),
  (yX11_undo, cX11_undo, 2, (some .boolean)),
  (yX11_barn, cX11_barn, 2, (some .boolean)),
  (yX11_mirror, cX11_mirror, 4, (some .boolean)),
  (yX11_nest, cX11_nest, 3, (some .int)),
  (yX11_swallow, cX11_swallow, 7, (some .int)),
  (yX11_feed, cX11_feed, 8, (some .int)),
  (yX11_end, cX11_end, 2, (some .boolean)),
  (yX11_see, cX11_see, 2, (some .int)),
  (yX11_isLetter, cX11_isLetter, 1, (some .boolean)),
  (yX11_isDigit, cX11_isDigit, 1, (some .boolean)),
  (yX11_is, cX11_is, 4, (some .boolean)),
  (yX11_nameWord, cX11_nameWord, 1, (some .int)),
  (yX11_word, cX11_word, 1, (some .int)),
  (yX11_next0, cX11_next0, 3, none),
  (yX11_bad, cX11_bad, 2, (some .boolean)),
  (yX11_need, cX11_need, 2, (some .boolean)),
  (yX11_lay, cX11_lay, 3, none),
  (yX11_opens, cX11_opens, 1, (some .boolean)),
  (yX11_sumUp, cX11_sumUp, 2, (some .boolean)),
  (yX11_product, cX11_product, 3, (some .boolean)),
  (yX11_unit, cX11_unit, 2, (some .boolean)),
  (yX11_any, cX11_any, 1, (some .boolean)),
  (yX11_every, cX11_every, 1, (some .boolean)),
  (yX11_oneTest, cX11_oneTest, 2, (some .boolean)),
  (yX11_aLine, cX11_aLine, 1, (some .boolean)),
  (yX11_text, cX11_text, 4, (some .int)),
  (yX11_fault, cX11_fault, 2, (some .int)),
  (yX11_both, cX11_both, 3, (some .int)),
  (yX11_comesTo, cX11_comesTo, 8, (some .int)),
  (yX11_aheadX, cX11_aheadX, 1, (some .int)),
  (yX11_aheadY, cX11_aheadY, 1, (some .int)),
  (yX11_yardBy, cX11_yardBy, 5, (some .int)),
  (yX11_pondAt, cX11_pondAt, 3, (some .int)),
  (yX11_seenFlies, cX11_seenFlies, 3, (some .int)),
  (yX11_laysFacts, cX11_laysFacts, 9, none),
  (yX11_told, cX11_told, 4, (some .int)),
  (yX11_otherAt, cX11_otherAt, 7, (some .int)),
  (yX11_hasCat, cX11_hasCat, 5, (some .boolean)),
  (yX11_sues, cX11_sues, 7, none),
  (yX11_flies, cX11_flies, 11, none),
  (yX11_allFly, cX11_allFly, 2, none),
  (yX11_isOpen, cX11_isOpen, 5, (some .boolean)),
  (yX11_spreads, cX11_spreads, 8, none),
  (yX11_laysCounties, cX11_laysCounties, 2, none),
  (yX11_survey, cX11_survey, 2, (some .int)),
  (yX11_spring, cX11_spring, 2, (some .int)),
  (yX11_of, cX11_of, 5, (some .int)),
  (yX11_yard, cX11_yard, 5, (some .int)),
  (yX11_far, cX11_far, 2, (some .int)),
  (yX11_suit, cX11_suit, 8, (some .int)),
  (yX11_steal, cX11_steal, 6, (some .int)),
  (yX11_setsOut, cX11_setsOut, 2, none),
  (yX11_comesBack, cX11_comesBack, 2, none),
  (yX11_ends, cX11_ends, 3, (some .int)),
  (yX11_triesPonds, cX11_triesPonds, 8, none),
  (yX11_isFree, cX11_isFree, 2, (some .boolean)),
  (yX11_plan, cX11_plan, 6, (some .int)),
  (yX11_hatch, cX11_hatch, 5, (some .int)),
  (yX11_hatches, cX11_hatches, 3, none),
  (yX11_odds, cX11_odds, 7, (some .int)),
  (yX11_claim, cX11_claim, 5, (some .boolean)),
  (yX11_back, cX11_back, 9, (some .int)),
  (yX11_oneMore, cX11_oneMore, 8, (some .boolean)),
  (yX11_part, cX11_part, 4, (some .int)),
  (yX11_image, cX11_image, 3, (some .boolean)),
  (yX11_look, cX11_look, 2, (some .int)),
  (yX11_threads, cX11_threads, 3, (some .int)),
  (x, code, maxLocals, ret),
  (yJ0_length_8abf5, cJ0_length_8abf5, 1, (some .int)),
  (yJ0_charAt_5068e, cJ0_charAt_5068e, 2, (some .char)),
  (yJ0_coder_7d493, cJ0_coder_7d493, 1, (some .byte)),
  (yJ0_isLatin1_aae02, cJ0_isLatin1_aae02, 1, (some .boolean)),
  (yJ0_checkIndex_df160, cJ0_checkIndex_df160, 2, none),
  (yJ1_charAt_3b067, cJ1_charAt_3b067, 2, (some .char)),
  (yJ7_fill_53178, cJ7_fill_53178, 4, none),
  (yJ7_copyOf_59c91, cJ7_copyOf_59c91, 3, (some (.array .int))),
  (yJ3_checkIndex_8e157, cJ3_checkIndex_8e157, 3, (some .int)),
  (yX1_habitAt, cX1_habitAt, 3, (some (.object "SwallowSurvey$Habit")))]
def sm_mm (j : Nat) : MethodName × ByteArray × Nat × Option FieldType := sm_mt.getD j (x, code, maxLocals, ret)
abbrev sm_y (j : Nat) : MethodName := (sm_mm j).1
abbrev sm_b (j : Nat) : ByteArray := (sm_mm j).2.1
abbrev sm_ml (j : Nat) : Nat := (sm_mm j).2.2.1
abbrev sm_rt (j : Nat) : Option FieldType := (sm_mm j).2.2.2
/-- the kind of the receiver; 999: none -/
def sm_rkL : List Nat := [0, 0, 0, 0, 0, 1, 1, 1, 1, 1, 1, 1, 1, 1, 1, 1, 1, 1, 1, 1, 1, 2, 2, 999, 3, 3, 3, 3, 3, 4, 4, 4, 4, 4, 999, 999, 999, 999, 4, 4, 4, 4, 4, 4, 4, 4, 4, 4, 4, 4, 4, 5, 5, 5, 5, 5, 6, 6, 6, 7, 7, 7, 7, 7, 8, 8, 8, 8, 8, 999, 8, 999, 8, 8, 999, 9, 9, 9, 9, 9, 9, 9, 10, 10, 10, 10, 10, 10, 10, 10, 10, 10, 10, 10, 10, 10, 10, 10, 10, 10, 10, 10, 10, 10, 10, 10, 10, 10, 10, 10, 10, 10, 999, 999, 10, 10, 10, 11, 11, 11, 999, 11, 11, 11, 11, 11, 11, 11, 11, 11, 11, 11, 11, 11, 11, 11, 11, 11, 11, 999, 999, 11, 11, 11, 11, 11, 11, 11, 11, 11, 11, 11, 11, 11, 11, 11, 11, 11, 999, 11, 999, 999, 999, 11, 11, 11, 11, 11, 11, 11, 11, 11, 11, 11, 11, 11, 11, 11, 11, 999, 11, 11, 11, 11, 11, 11, 11, 11, 11, 11, 11, 11, 11, 11, 11, 11, 11, 11, 999, 103, 103, 103, 103, 999, 999, 999, 999, 999, 1]
def sm_rk (j : Nat) : Nat := sm_rkL.getD j 998
def sm_naL : List Nat := [1, 3, 4, 3, 2, 1, 3, 2, 2, 3, 3, 4, 4, 3, 3, 2, 2, 3, 1, 2, 2, 3, 3, 3, 1, 4, 4, 4, 3, 1, 3, 1, 3, 3, 1, 1, 1, 3, 2, 1, 1, 1, 1, 1, 1, 2, 1, 3, 2, 2, 3, 2, 6, 1, 3, 2, 1, 2, 4, 1, 3, 4, 3, 3, 1, 5, 5, 2, 7, 2, 5, 2, 4, 3, 2, 2, 1, 2, 4, 6, 4, 1, 1, 2, 3, 4, 2, 2, 1, 2, 4, 3, 6, 6, 2, 2, 2, 1, 1, 3, 5, 3, 4, 3, 4, 4, 3, 4, 2, 3, 2, 2, 3, 4, 3, 2, 1, 1, 3, 1, 3, 3, 2, 3, 2, 2, 3, 4, 2, 2, 2, 1, 2, 4, 3, 6, 6, 2, 2, 1, 1, 2, 1, 1, 1, 2, 2, 3, 1, 1, 1, 1, 1, 1, 1, 1, 2, 2, 3, 4, 1, 1, 3, 3, 3, 4, 2, 4, 3, 6, 2, 1, 4, 2, 1, 1, 1, 3, 5, 2, 3, 4, 1, 1, 3, 5, 2, 4, 4, 2, 3, 4, 2, 3, 3, 2, 2, 1, 1, 1, 2, 1, 1, 2, 2, 2, 2, 3, 2]
def sm_na (j : Nat) : Nat := sm_naL.getD j 0
def sm_ownL : List Nat := [0, 0, 0, 0, 0, 1, 1, 1, 1, 1, 1, 1, 1, 1, 1, 1, 1, 1, 1, 1, 1, 2, 2, 2, 3, 3, 3, 3, 3, 4, 4, 4, 4, 4, 4, 4, 4, 4, 4, 4, 4, 4, 4, 4, 4, 4, 4, 4, 4, 4, 4, 5, 5, 5, 5, 5, 6, 6, 6, 7, 7, 7, 7, 7, 8, 8, 8, 8, 8, 8, 8, 8, 8, 8, 8, 9, 9, 9, 9, 9, 9, 9, 10, 10, 10, 10, 10, 10, 10, 10, 10, 10, 10, 10, 10, 10, 10, 10, 10, 10, 10, 10, 10, 10, 10, 10, 10, 10, 10, 10, 10, 10, 10, 10, 10, 10, 10, 11, 11, 11, 11, 11, 11, 11, 11, 11, 11, 11, 11, 11, 11, 11, 11, 11, 11, 11, 11, 11, 11, 11, 11, 11, 11, 11, 11, 11, 11, 11, 11, 11, 11, 11, 11, 11, 11, 11, 11, 11, 11, 11, 11, 11, 11, 11, 11, 11, 11, 11, 11, 11, 11, 11, 11, 11, 11, 11, 11, 11, 11, 11, 11, 11, 11, 11, 11, 11, 11, 11, 11, 11, 11, 11, 11, 11, 11, 11, 11, 11, 12, 13, 13, 13, 13, 13, 14, 16, 16, 17, 1]
def sm_own (j : Nat) : Nat := sm_ownL.getD j 0
def sm_flP (q : Nat × Nat × Nat × Nat) : Prop := ∃ (C : String) (T : u_T) (N : Nat), vwCl[q.2.2.1]? = some (C, T, N) ∧ q.2.2.2 < N ∧ (T q.2.2.2).1 = C ∧ Cond.fieldLink (sm_cs q.1) q.2.1 C (T q.2.2.2).2.1 (T q.2.2.2).2.2.1 ∈ sm_wds
def sm_flT : List (Nat × Nat × Nat × Nat) := [(0, 9, 0, 0), (0, 15, 0, 1), (0, 18, 0, 2), (0, 27, 0, 3), (0, 31, 1, 1), (0, 36, 1, 0), (0, 57, 9, 0), (1, 9, 1, 4), (1, 15, 1, 5), (1, 18, 1, 6), (1, 21, 1, 7), (1, 24, 1, 8), (1, 27, 1, 9), (1, 30, 1, 10), (1, 33, 1, 11), (1, 41, 1, 12), (1, 45, 1, 13), (1, 48, 1, 14), (1, 51, 1, 15), (1, 56, 1, 16), (1, 63, 1, 17), (1, 70, 1, 18), (1, 74, 1, 0), (1, 78, 1, 1), (1, 81, 1, 3), (1, 90, 5, 2), (1, 96, 1, 2), (1, 154, 0, 0), (2, 9, 2, 0), (2, 15, 2, 1), (3, 9, 3, 0), (3, 15, 3, 1), (3, 18, 3, 2), (3, 45, 1, 18), (3, 49, 9, 0), (4, 9, 4, 2), (4, 15, 4, 4), (4, 27, 4, 0), (4, 35, 4, 14), (4, 38, 4, 1), (4, 44, 4, 12), (4, 47, 4, 6), (4, 52, 4, 7), (4, 55, 4, 3), (4, 89, 4, 5), (4, 92, 4, 9), (4, 95, 4, 10), (4, 106, 4, 13), (4, 126, 4, 8), (4, 136, 4, 11), (5, 15, 5, 0), (5, 21, 5, 1), (5, 25, 5, 2), (6, 9, 6, 0), (6, 15, 6, 1), (6, 18, 1, 4), (6, 35, 1, 7), (7, 12, 7, 0), (7, 21, 7, 1), (7, 30, 7, 2), (7, 34, 7, 3), (7, 38, 7, 4), (7, 46, 5, 2), (7, 50, 1, 13), (7, 67, 7, 5), (7, 70, 7, 6), (7, 73, 7, 7), (7, 128, 6, 0), (7, 131, 6, 1), (7, 134, 9, 0), (8, 14, 8, 0), (8, 20, 8, 1), (8, 24, 7, 0), (8, 40, 7, 2), (8, 50, 8, 7), (8, 61, 8, 2), (8, 71, 1, 7), (8, 78, 8, 3), (8, 85, 7, 1), (8, 98, 8, 4), (8, 101, 8, 5), (8, 104, 8, 6), (8, 107, 1, 5), (8, 110, 1, 14), (8, 113, 5, 2), (8, 123, 6, 0), (8, 126, 8, 8), (8, 129, 8, 9), (8, 132, 8, 10), (8, 139, 1, 15), (9, 9, 9, 0), (9, 15, 9, 1), (9, 23, 9, 2), (9, 33, 5, 2), (10, 10, 10, 0), (10, 16, 10, 1), (10, 22, 10, 3), (10, 29, 10, 4), (10, 36, 10, 5), (10, 43, 10, 6), (10, 47, 10, 7), (10, 51, 10, 11), (10, 54, 10, 10), (10, 62, 1, 2), (10, 69, 10, 12), (10, 76, 1, 4), (10, 83, 1, 5), (10, 86, 1, 6), (10, 93, 1, 7), (10, 96, 1, 8), (10, 102, 1, 11), (10, 105, 1, 12), (10, 115, 1, 13), (10, 118, 10, 8), (10, 125, 10, 9), (10, 132, 4, 0), (10, 135, 4, 1), (10, 138, 1, 16), (10, 142, 2, 0), (10, 151, 1, 3), (10, 157, 7, 0), (10, 167, 6, 0), (10, 170, 7, 1), (10, 174, 1, 18), (10, 184, 0, 0), (10, 191, 1, 9), (10, 198, 9, 0), (10, 203, 9, 1), (10, 206, 9, 2), (10, 209, 5, 2), (10, 226, 1, 0), (10, 229, 1, 1), (10, 236, 8, 3), (10, 239, 8, 4), (10, 242, 8, 5), (10, 245, 8, 6), (10, 251, 1, 14), (10, 257, 1, 15), (10, 264, 8, 8), (10, 267, 8, 9), (10, 270, 8, 10), (10, 280, 10, 2), (10, 288, 0, 3), (11, 7, 11, 0), (11, 13, 11, 1), (11, 16, 11, 2), (11, 19, 11, 3), (11, 22, 11, 7), (11, 25, 11, 8), (11, 28, 11, 9), (11, 31, 11, 10), (11, 34, 11, 11), (11, 37, 11, 23), (11, 41, 11, 24), (11, 44, 11, 25), (11, 47, 11, 26), (11, 50, 11, 27), (11, 53, 11, 28), (11, 56, 11, 29), (11, 59, 11, 35), (11, 62, 11, 36), (11, 72, 11, 4), (11, 96, 11, 14), (11, 99, 11, 15), (11, 102, 11, 17), (11, 161, 11, 16), (11, 173, 11, 18), (11, 176, 11, 19), (11, 179, 11, 20), (11, 188, 11, 13), (11, 191, 11, 22), (11, 222, 11, 12), (11, 225, 11, 21), (11, 254, 11, 6), (11, 281, 11, 30), (11, 308, 11, 31), (11, 311, 11, 32), (11, 314, 11, 33), (11, 317, 11, 34), (11, 333, 11, 5)]
theorem sm_flT_0 : sm_flP (0, 9, 0, 0) := ⟨_, _, _, rfl, by decide, rfl, (sm_in1 212 rfl rfl)⟩
theorem sm_flT_1 : sm_flP (0, 15, 0, 1) := ⟨_, _, _, rfl, by decide, rfl, (sm_in1 215 rfl rfl)⟩
theorem sm_flT_2 : sm_flP (0, 18, 0, 2) := ⟨_, _, _, rfl, by decide, rfl, (sm_in1 216 rfl rfl)⟩
theorem sm_flT_3 : sm_flP (0, 27, 0, 3) := ⟨_, _, _, rfl, by decide, rfl, (sm_in1 217 rfl rfl)⟩
theorem sm_flT_4 : sm_flP (0, 31, 1, 1) := ⟨_, _, _, rfl, by decide, rfl, (sm_in1 102 rfl rfl)⟩
theorem sm_flT_5 : sm_flP (0, 36, 1, 0) := ⟨_, _, _, rfl, by decide, rfl, (sm_in1 99 rfl rfl)⟩
theorem sm_flT_6 : sm_flP (0, 57, 9, 0) := ⟨_, _, _, rfl, by decide, rfl, (sm_in1 83 rfl rfl)⟩
theorem sm_flT_7 : sm_flP (1, 9, 1, 4) := ⟨_, _, _, rfl, by decide, rfl, (sm_in1 108 rfl rfl)⟩
theorem sm_flT_8 : sm_flP (1, 15, 1, 5) := ⟨_, _, _, rfl, by decide, rfl, (sm_in1 111 rfl rfl)⟩
theorem sm_flT_9 : sm_flP (1, 18, 1, 6) := ⟨_, _, _, rfl, by decide, rfl, (sm_in1 114 rfl rfl)⟩
theorem sm_flT_10 : sm_flP (1, 21, 1, 7) := ⟨_, _, _, rfl, by decide, rfl, (sm_in1 116 rfl rfl)⟩
theorem sm_flT_11 : sm_flP (1, 24, 1, 8) := ⟨_, _, _, rfl, by decide, rfl, (sm_in1 120 rfl rfl)⟩
theorem sm_flT_12 : sm_flP (1, 27, 1, 9) := ⟨_, _, _, rfl, by decide, rfl, (sm_in1 122 rfl rfl)⟩
theorem sm_flT_13 : sm_flP (1, 30, 1, 10) := ⟨_, _, _, rfl, by decide, rfl, (sm_in1 124 rfl rfl)⟩
theorem sm_flT_14 : sm_flP (1, 33, 1, 11) := ⟨_, _, _, rfl, by decide, rfl, (sm_in1 125 rfl rfl)⟩
theorem sm_flT_15 : sm_flP (1, 41, 1, 12) := ⟨_, _, _, rfl, by decide, rfl, (sm_in1 127 rfl rfl)⟩
theorem sm_flT_16 : sm_flP (1, 45, 1, 13) := ⟨_, _, _, rfl, by decide, rfl, (sm_in1 129 rfl rfl)⟩
theorem sm_flT_17 : sm_flP (1, 48, 1, 14) := ⟨_, _, _, rfl, by decide, rfl, (sm_in1 132 rfl rfl)⟩
theorem sm_flT_18 : sm_flP (1, 51, 1, 15) := ⟨_, _, _, rfl, by decide, rfl, (sm_in1 135 rfl rfl)⟩
theorem sm_flT_19 : sm_flP (1, 56, 1, 16) := ⟨_, _, _, rfl, by decide, rfl, (sm_in1 138 rfl rfl)⟩
theorem sm_flT_20 : sm_flP (1, 63, 1, 17) := ⟨_, _, _, rfl, by decide, rfl, (sm_in1 140 rfl rfl)⟩
theorem sm_flT_21 : sm_flP (1, 70, 1, 18) := ⟨_, _, _, rfl, by decide, rfl, (sm_in1 141 rfl rfl)⟩
theorem sm_flT_22 : sm_flP (1, 74, 1, 0) := ⟨_, _, _, rfl, by decide, rfl, (sm_in1 98 rfl rfl)⟩
theorem sm_flT_23 : sm_flP (1, 78, 1, 1) := ⟨_, _, _, rfl, by decide, rfl, (sm_in1 101 rfl rfl)⟩
theorem sm_flT_24 : sm_flP (1, 81, 1, 3) := ⟨_, _, _, rfl, by decide, rfl, (sm_in1 106 rfl rfl)⟩
theorem sm_flT_25 : sm_flP (1, 90, 5, 2) := ⟨_, _, _, rfl, by decide, rfl, (sm_in1 48 rfl rfl)⟩
theorem sm_flT_26 : sm_flP (1, 96, 1, 2) := ⟨_, _, _, rfl, by decide, rfl, (sm_in1 105 rfl rfl)⟩
theorem sm_flT_27 : sm_flP (1, 154, 0, 0) := ⟨_, _, _, rfl, by decide, rfl, (sm_in1 213 rfl rfl)⟩
theorem sm_flT_28 : sm_flP (2, 9, 2, 0) := ⟨_, _, _, rfl, by decide, rfl, (sm_in1 66 rfl rfl)⟩
theorem sm_flT_29 : sm_flP (2, 15, 2, 1) := ⟨_, _, _, rfl, by decide, rfl, (sm_in1 68 rfl rfl)⟩
theorem sm_flT_30 : sm_flP (3, 9, 3, 0) := ⟨_, _, _, rfl, by decide, rfl, (sm_in2 75 rfl rfl)⟩
theorem sm_flT_31 : sm_flP (3, 15, 3, 1) := ⟨_, _, _, rfl, by decide, rfl, (sm_in2 76 rfl rfl)⟩
theorem sm_flT_32 : sm_flP (3, 18, 3, 2) := ⟨_, _, _, rfl, by decide, rfl, (sm_in2 77 rfl rfl)⟩
theorem sm_flT_33 : sm_flP (3, 45, 1, 18) := ⟨_, _, _, rfl, by decide, rfl, (sm_in1 142 rfl rfl)⟩
theorem sm_flT_34 : sm_flP (3, 49, 9, 0) := ⟨_, _, _, rfl, by decide, rfl, (sm_in1 84 rfl rfl)⟩
theorem sm_flT_35 : sm_flP (4, 9, 4, 2) := ⟨_, _, _, rfl, by decide, rfl, (sm_in2 95 rfl rfl)⟩
theorem sm_flT_36 : sm_flP (4, 15, 4, 4) := ⟨_, _, _, rfl, by decide, rfl, (sm_in2 97 rfl rfl)⟩
theorem sm_flT_37 : sm_flP (4, 27, 4, 0) := ⟨_, _, _, rfl, by decide, rfl, (sm_in2 91 rfl rfl)⟩
theorem sm_flT_38 : sm_flP (4, 35, 4, 14) := ⟨_, _, _, rfl, by decide, rfl, (sm_in2 107 rfl rfl)⟩
theorem sm_flT_39 : sm_flP (4, 38, 4, 1) := ⟨_, _, _, rfl, by decide, rfl, (sm_in2 93 rfl rfl)⟩
theorem sm_flT_40 : sm_flP (4, 44, 4, 12) := ⟨_, _, _, rfl, by decide, rfl, (sm_in2 105 rfl rfl)⟩
theorem sm_flT_41 : sm_flP (4, 47, 4, 6) := ⟨_, _, _, rfl, by decide, rfl, (sm_in2 99 rfl rfl)⟩
theorem sm_flT_42 : sm_flP (4, 52, 4, 7) := ⟨_, _, _, rfl, by decide, rfl, (sm_in2 100 rfl rfl)⟩
theorem sm_flT_43 : sm_flP (4, 55, 4, 3) := ⟨_, _, _, rfl, by decide, rfl, (sm_in2 96 rfl rfl)⟩
theorem sm_flT_44 : sm_flP (4, 89, 4, 5) := ⟨_, _, _, rfl, by decide, rfl, (sm_in2 98 rfl rfl)⟩
theorem sm_flT_45 : sm_flP (4, 92, 4, 9) := ⟨_, _, _, rfl, by decide, rfl, (sm_in2 102 rfl rfl)⟩
theorem sm_flT_46 : sm_flP (4, 95, 4, 10) := ⟨_, _, _, rfl, by decide, rfl, (sm_in2 103 rfl rfl)⟩
theorem sm_flT_47 : sm_flP (4, 106, 4, 13) := ⟨_, _, _, rfl, by decide, rfl, (sm_in2 106 rfl rfl)⟩
theorem sm_flT_48 : sm_flP (4, 126, 4, 8) := ⟨_, _, _, rfl, by decide, rfl, (sm_in2 101 rfl rfl)⟩
theorem sm_flT_49 : sm_flP (4, 136, 4, 11) := ⟨_, _, _, rfl, by decide, rfl, (sm_in2 104 rfl rfl)⟩
theorem sm_flT_50 : sm_flP (5, 15, 5, 0) := ⟨_, _, _, rfl, by decide, rfl, (sm_in1 43 rfl rfl)⟩
theorem sm_flT_51 : sm_flP (5, 21, 5, 1) := ⟨_, _, _, rfl, by decide, rfl, (sm_in1 44 rfl rfl)⟩
theorem sm_flT_52 : sm_flP (5, 25, 5, 2) := ⟨_, _, _, rfl, by decide, rfl, (sm_in1 45 rfl rfl)⟩
theorem sm_flT_53 : sm_flP (6, 9, 6, 0) := ⟨_, _, _, rfl, by decide, rfl, (sm_in1 195 rfl rfl)⟩
theorem sm_flT_54 : sm_flP (6, 15, 6, 1) := ⟨_, _, _, rfl, by decide, rfl, (sm_in1 199 rfl rfl)⟩
theorem sm_flT_55 : sm_flP (6, 18, 1, 4) := ⟨_, _, _, rfl, by decide, rfl, (sm_in1 109 rfl rfl)⟩
theorem sm_flT_56 : sm_flP (6, 35, 1, 7) := ⟨_, _, _, rfl, by decide, rfl, (sm_in1 117 rfl rfl)⟩
theorem sm_flT_57 : sm_flP (7, 12, 7, 0) := ⟨_, _, _, rfl, by decide, rfl, (sm_in1 230 rfl rfl)⟩
theorem sm_flT_58 : sm_flP (7, 21, 7, 1) := ⟨_, _, _, rfl, by decide, rfl, (sm_in1 233 rfl rfl)⟩
theorem sm_flT_59 : sm_flP (7, 30, 7, 2) := ⟨_, _, _, rfl, by decide, rfl, (sm_in1 236 rfl rfl)⟩
theorem sm_flT_60 : sm_flP (7, 34, 7, 3) := ⟨_, _, _, rfl, by decide, rfl, (sm_in1 238 rfl rfl)⟩
theorem sm_flT_61 : sm_flP (7, 38, 7, 4) := ⟨_, _, _, rfl, by decide, rfl, (sm_in1 239 rfl rfl)⟩
theorem sm_flT_62 : sm_flP (7, 46, 5, 2) := ⟨_, _, _, rfl, by decide, rfl, (sm_in1 46 rfl rfl)⟩
theorem sm_flT_63 : sm_flP (7, 50, 1, 13) := ⟨_, _, _, rfl, by decide, rfl, (sm_in1 130 rfl rfl)⟩
theorem sm_flT_64 : sm_flP (7, 67, 7, 5) := ⟨_, _, _, rfl, by decide, rfl, (sm_in2 0 rfl rfl)⟩
theorem sm_flT_65 : sm_flP (7, 70, 7, 6) := ⟨_, _, _, rfl, by decide, rfl, (sm_in2 1 rfl rfl)⟩
theorem sm_flT_66 : sm_flP (7, 73, 7, 7) := ⟨_, _, _, rfl, by decide, rfl, (sm_in2 2 rfl rfl)⟩
theorem sm_flT_67 : sm_flP (7, 128, 6, 0) := ⟨_, _, _, rfl, by decide, rfl, (sm_in1 196 rfl rfl)⟩
theorem sm_flT_68 : sm_flP (7, 131, 6, 1) := ⟨_, _, _, rfl, by decide, rfl, (sm_in1 200 rfl rfl)⟩
theorem sm_flT_69 : sm_flP (7, 134, 9, 0) := ⟨_, _, _, rfl, by decide, rfl, (sm_in1 85 rfl rfl)⟩
theorem sm_flT_70 : sm_flP (8, 14, 8, 0) := ⟨_, _, _, rfl, by decide, rfl, (sm_in2 28 rfl rfl)⟩
theorem sm_flT_71 : sm_flP (8, 20, 8, 1) := ⟨_, _, _, rfl, by decide, rfl, (sm_in2 29 rfl rfl)⟩
theorem sm_flT_72 : sm_flP (8, 24, 7, 0) := ⟨_, _, _, rfl, by decide, rfl, (sm_in1 231 rfl rfl)⟩
theorem sm_flT_73 : sm_flP (8, 40, 7, 2) := ⟨_, _, _, rfl, by decide, rfl, (sm_in1 237 rfl rfl)⟩
theorem sm_flT_74 : sm_flP (8, 50, 8, 7) := ⟨_, _, _, rfl, by decide, rfl, (sm_in2 39 rfl rfl)⟩
theorem sm_flT_75 : sm_flP (8, 61, 8, 2) := ⟨_, _, _, rfl, by decide, rfl, (sm_in2 30 rfl rfl)⟩
theorem sm_flT_76 : sm_flP (8, 71, 1, 7) := ⟨_, _, _, rfl, by decide, rfl, (sm_in1 118 rfl rfl)⟩
theorem sm_flT_77 : sm_flP (8, 78, 8, 3) := ⟨_, _, _, rfl, by decide, rfl, (sm_in2 31 rfl rfl)⟩
theorem sm_flT_78 : sm_flP (8, 85, 7, 1) := ⟨_, _, _, rfl, by decide, rfl, (sm_in1 234 rfl rfl)⟩
theorem sm_flT_79 : sm_flP (8, 98, 8, 4) := ⟨_, _, _, rfl, by decide, rfl, (sm_in2 33 rfl rfl)⟩
theorem sm_flT_80 : sm_flP (8, 101, 8, 5) := ⟨_, _, _, rfl, by decide, rfl, (sm_in2 35 rfl rfl)⟩
theorem sm_flT_81 : sm_flP (8, 104, 8, 6) := ⟨_, _, _, rfl, by decide, rfl, (sm_in2 37 rfl rfl)⟩
theorem sm_flT_82 : sm_flP (8, 107, 1, 5) := ⟨_, _, _, rfl, by decide, rfl, (sm_in1 113 rfl rfl)⟩
theorem sm_flT_83 : sm_flP (8, 110, 1, 14) := ⟨_, _, _, rfl, by decide, rfl, (sm_in1 133 rfl rfl)⟩
theorem sm_flT_84 : sm_flP (8, 113, 5, 2) := ⟨_, _, _, rfl, by decide, rfl, (sm_in1 49 rfl rfl)⟩
theorem sm_flT_85 : sm_flP (8, 123, 6, 0) := ⟨_, _, _, rfl, by decide, rfl, (sm_in1 197 rfl rfl)⟩
theorem sm_flT_86 : sm_flP (8, 126, 8, 8) := ⟨_, _, _, rfl, by decide, rfl, (sm_in2 40 rfl rfl)⟩
theorem sm_flT_87 : sm_flP (8, 129, 8, 9) := ⟨_, _, _, rfl, by decide, rfl, (sm_in2 42 rfl rfl)⟩
theorem sm_flT_88 : sm_flP (8, 132, 8, 10) := ⟨_, _, _, rfl, by decide, rfl, (sm_in2 44 rfl rfl)⟩
theorem sm_flT_89 : sm_flP (8, 139, 1, 15) := ⟨_, _, _, rfl, by decide, rfl, (sm_in1 136 rfl rfl)⟩
theorem sm_flT_90 : sm_flP (9, 9, 9, 0) := ⟨_, _, _, rfl, by decide, rfl, (sm_in1 82 rfl rfl)⟩
theorem sm_flT_91 : sm_flP (9, 15, 9, 1) := ⟨_, _, _, rfl, by decide, rfl, (sm_in1 87 rfl rfl)⟩
theorem sm_flT_92 : sm_flP (9, 23, 9, 2) := ⟨_, _, _, rfl, by decide, rfl, (sm_in1 89 rfl rfl)⟩
theorem sm_flT_93 : sm_flP (9, 33, 5, 2) := ⟨_, _, _, rfl, by decide, rfl, (sm_in1 47 rfl rfl)⟩
theorem sm_flT_94 : sm_flP (10, 10, 10, 0) := ⟨_, _, _, rfl, by decide, rfl, (sm_in2 151 rfl rfl)⟩
theorem sm_flT_95 : sm_flP (10, 16, 10, 1) := ⟨_, _, _, rfl, by decide, rfl, (sm_in2 152 rfl rfl)⟩
theorem sm_flT_96 : sm_flP (10, 22, 10, 3) := ⟨_, _, _, rfl, by decide, rfl, (sm_in2 154 rfl rfl)⟩
theorem sm_flT_97 : sm_flP (10, 29, 10, 4) := ⟨_, _, _, rfl, by decide, rfl, (sm_in2 155 rfl rfl)⟩
theorem sm_flT_98 : sm_flP (10, 36, 10, 5) := ⟨_, _, _, rfl, by decide, rfl, (sm_in2 156 rfl rfl)⟩
theorem sm_flT_99 : sm_flP (10, 43, 10, 6) := ⟨_, _, _, rfl, by decide, rfl, (sm_in2 157 rfl rfl)⟩
theorem sm_flT_100 : sm_flP (10, 47, 10, 7) := ⟨_, _, _, rfl, by decide, rfl, (sm_in2 158 rfl rfl)⟩
theorem sm_flT_101 : sm_flP (10, 51, 10, 11) := ⟨_, _, _, rfl, by decide, rfl, (sm_in2 162 rfl rfl)⟩
theorem sm_flT_102 : sm_flP (10, 54, 10, 10) := ⟨_, _, _, rfl, by decide, rfl, (sm_in2 161 rfl rfl)⟩
theorem sm_flT_103 : sm_flP (10, 62, 1, 2) := ⟨_, _, _, rfl, by decide, rfl, (sm_in1 104 rfl rfl)⟩
theorem sm_flT_104 : sm_flP (10, 69, 10, 12) := ⟨_, _, _, rfl, by decide, rfl, (sm_in2 163 rfl rfl)⟩
theorem sm_flT_105 : sm_flP (10, 76, 1, 4) := ⟨_, _, _, rfl, by decide, rfl, (sm_in1 110 rfl rfl)⟩
theorem sm_flT_106 : sm_flP (10, 83, 1, 5) := ⟨_, _, _, rfl, by decide, rfl, (sm_in1 112 rfl rfl)⟩
theorem sm_flT_107 : sm_flP (10, 86, 1, 6) := ⟨_, _, _, rfl, by decide, rfl, (sm_in1 115 rfl rfl)⟩
theorem sm_flT_108 : sm_flP (10, 93, 1, 7) := ⟨_, _, _, rfl, by decide, rfl, (sm_in1 119 rfl rfl)⟩
theorem sm_flT_109 : sm_flP (10, 96, 1, 8) := ⟨_, _, _, rfl, by decide, rfl, (sm_in1 121 rfl rfl)⟩
theorem sm_flT_110 : sm_flP (10, 102, 1, 11) := ⟨_, _, _, rfl, by decide, rfl, (sm_in1 126 rfl rfl)⟩
theorem sm_flT_111 : sm_flP (10, 105, 1, 12) := ⟨_, _, _, rfl, by decide, rfl, (sm_in1 128 rfl rfl)⟩
theorem sm_flT_112 : sm_flP (10, 115, 1, 13) := ⟨_, _, _, rfl, by decide, rfl, (sm_in1 131 rfl rfl)⟩
theorem sm_flT_113 : sm_flP (10, 118, 10, 8) := ⟨_, _, _, rfl, by decide, rfl, (sm_in2 159 rfl rfl)⟩
theorem sm_flT_114 : sm_flP (10, 125, 10, 9) := ⟨_, _, _, rfl, by decide, rfl, (sm_in2 160 rfl rfl)⟩
theorem sm_flT_115 : sm_flP (10, 132, 4, 0) := ⟨_, _, _, rfl, by decide, rfl, (sm_in2 92 rfl rfl)⟩
theorem sm_flT_116 : sm_flP (10, 135, 4, 1) := ⟨_, _, _, rfl, by decide, rfl, (sm_in2 94 rfl rfl)⟩
theorem sm_flT_117 : sm_flP (10, 138, 1, 16) := ⟨_, _, _, rfl, by decide, rfl, (sm_in1 139 rfl rfl)⟩
theorem sm_flT_118 : sm_flP (10, 142, 2, 0) := ⟨_, _, _, rfl, by decide, rfl, (sm_in1 67 rfl rfl)⟩
theorem sm_flT_119 : sm_flP (10, 151, 1, 3) := ⟨_, _, _, rfl, by decide, rfl, (sm_in1 107 rfl rfl)⟩
theorem sm_flT_120 : sm_flP (10, 157, 7, 0) := ⟨_, _, _, rfl, by decide, rfl, (sm_in1 232 rfl rfl)⟩
theorem sm_flT_121 : sm_flP (10, 167, 6, 0) := ⟨_, _, _, rfl, by decide, rfl, (sm_in1 198 rfl rfl)⟩
theorem sm_flT_122 : sm_flP (10, 170, 7, 1) := ⟨_, _, _, rfl, by decide, rfl, (sm_in1 235 rfl rfl)⟩
theorem sm_flT_123 : sm_flP (10, 174, 1, 18) := ⟨_, _, _, rfl, by decide, rfl, (sm_in1 143 rfl rfl)⟩
theorem sm_flT_124 : sm_flP (10, 184, 0, 0) := ⟨_, _, _, rfl, by decide, rfl, (sm_in1 214 rfl rfl)⟩
theorem sm_flT_125 : sm_flP (10, 191, 1, 9) := ⟨_, _, _, rfl, by decide, rfl, (sm_in1 123 rfl rfl)⟩
theorem sm_flT_126 : sm_flP (10, 198, 9, 0) := ⟨_, _, _, rfl, by decide, rfl, (sm_in1 86 rfl rfl)⟩
theorem sm_flT_127 : sm_flP (10, 203, 9, 1) := ⟨_, _, _, rfl, by decide, rfl, (sm_in1 88 rfl rfl)⟩
theorem sm_flT_128 : sm_flP (10, 206, 9, 2) := ⟨_, _, _, rfl, by decide, rfl, (sm_in1 90 rfl rfl)⟩
theorem sm_flT_129 : sm_flP (10, 209, 5, 2) := ⟨_, _, _, rfl, by decide, rfl, (sm_in1 50 rfl rfl)⟩
theorem sm_flT_130 : sm_flP (10, 226, 1, 0) := ⟨_, _, _, rfl, by decide, rfl, (sm_in1 100 rfl rfl)⟩
theorem sm_flT_131 : sm_flP (10, 229, 1, 1) := ⟨_, _, _, rfl, by decide, rfl, (sm_in1 103 rfl rfl)⟩
theorem sm_flT_132 : sm_flP (10, 236, 8, 3) := ⟨_, _, _, rfl, by decide, rfl, (sm_in2 32 rfl rfl)⟩
theorem sm_flT_133 : sm_flP (10, 239, 8, 4) := ⟨_, _, _, rfl, by decide, rfl, (sm_in2 34 rfl rfl)⟩
theorem sm_flT_134 : sm_flP (10, 242, 8, 5) := ⟨_, _, _, rfl, by decide, rfl, (sm_in2 36 rfl rfl)⟩
theorem sm_flT_135 : sm_flP (10, 245, 8, 6) := ⟨_, _, _, rfl, by decide, rfl, (sm_in2 38 rfl rfl)⟩
theorem sm_flT_136 : sm_flP (10, 251, 1, 14) := ⟨_, _, _, rfl, by decide, rfl, (sm_in1 134 rfl rfl)⟩
theorem sm_flT_137 : sm_flP (10, 257, 1, 15) := ⟨_, _, _, rfl, by decide, rfl, (sm_in1 137 rfl rfl)⟩
theorem sm_flT_138 : sm_flP (10, 264, 8, 8) := ⟨_, _, _, rfl, by decide, rfl, (sm_in2 41 rfl rfl)⟩
theorem sm_flT_139 : sm_flP (10, 267, 8, 9) := ⟨_, _, _, rfl, by decide, rfl, (sm_in2 43 rfl rfl)⟩
theorem sm_flT_140 : sm_flP (10, 270, 8, 10) := ⟨_, _, _, rfl, by decide, rfl, (sm_in2 45 rfl rfl)⟩
theorem sm_flT_141 : sm_flP (10, 280, 10, 2) := ⟨_, _, _, rfl, by decide, rfl, (sm_in2 153 rfl rfl)⟩
theorem sm_flT_142 : sm_flP (10, 288, 0, 3) := ⟨_, _, _, rfl, by decide, rfl, (sm_in1 218 rfl rfl)⟩
theorem sm_flT_143 : sm_flP (11, 7, 11, 0) := ⟨_, _, _, rfl, by decide, rfl, (sm_in5 21 rfl rfl)⟩
theorem sm_flT_144 : sm_flP (11, 13, 11, 1) := ⟨_, _, _, rfl, by decide, rfl, (sm_in5 22 rfl rfl)⟩
theorem sm_flT_145 : sm_flP (11, 16, 11, 2) := ⟨_, _, _, rfl, by decide, rfl, (sm_in5 23 rfl rfl)⟩
theorem sm_flT_146 : sm_flP (11, 19, 11, 3) := ⟨_, _, _, rfl, by decide, rfl, (sm_in5 24 rfl rfl)⟩
theorem sm_flT_147 : sm_flP (11, 22, 11, 7) := ⟨_, _, _, rfl, by decide, rfl, (sm_in5 28 rfl rfl)⟩
theorem sm_flT_148 : sm_flP (11, 25, 11, 8) := ⟨_, _, _, rfl, by decide, rfl, (sm_in5 29 rfl rfl)⟩
theorem sm_flT_149 : sm_flP (11, 28, 11, 9) := ⟨_, _, _, rfl, by decide, rfl, (sm_in5 30 rfl rfl)⟩
theorem sm_flT_150 : sm_flP (11, 31, 11, 10) := ⟨_, _, _, rfl, by decide, rfl, (sm_in5 31 rfl rfl)⟩
theorem sm_flT_151 : sm_flP (11, 34, 11, 11) := ⟨_, _, _, rfl, by decide, rfl, (sm_in5 32 rfl rfl)⟩
theorem sm_flT_152 : sm_flP (11, 37, 11, 23) := ⟨_, _, _, rfl, by decide, rfl, (sm_in5 44 rfl rfl)⟩
theorem sm_flT_153 : sm_flP (11, 41, 11, 24) := ⟨_, _, _, rfl, by decide, rfl, (sm_in5 45 rfl rfl)⟩
theorem sm_flT_154 : sm_flP (11, 44, 11, 25) := ⟨_, _, _, rfl, by decide, rfl, (sm_in5 46 rfl rfl)⟩
theorem sm_flT_155 : sm_flP (11, 47, 11, 26) := ⟨_, _, _, rfl, by decide, rfl, (sm_in5 47 rfl rfl)⟩
theorem sm_flT_156 : sm_flP (11, 50, 11, 27) := ⟨_, _, _, rfl, by decide, rfl, (sm_in5 48 rfl rfl)⟩
theorem sm_flT_157 : sm_flP (11, 53, 11, 28) := ⟨_, _, _, rfl, by decide, rfl, (sm_in5 49 rfl rfl)⟩
theorem sm_flT_158 : sm_flP (11, 56, 11, 29) := ⟨_, _, _, rfl, by decide, rfl, (sm_in5 50 rfl rfl)⟩
theorem sm_flT_159 : sm_flP (11, 59, 11, 35) := ⟨_, _, _, rfl, by decide, rfl, (sm_in5 56 rfl rfl)⟩
theorem sm_flT_160 : sm_flP (11, 62, 11, 36) := ⟨_, _, _, rfl, by decide, rfl, (sm_in5 57 rfl rfl)⟩
theorem sm_flT_161 : sm_flP (11, 72, 11, 4) := ⟨_, _, _, rfl, by decide, rfl, (sm_in5 25 rfl rfl)⟩
theorem sm_flT_162 : sm_flP (11, 96, 11, 14) := ⟨_, _, _, rfl, by decide, rfl, (sm_in5 35 rfl rfl)⟩
theorem sm_flT_163 : sm_flP (11, 99, 11, 15) := ⟨_, _, _, rfl, by decide, rfl, (sm_in5 36 rfl rfl)⟩
theorem sm_flT_164 : sm_flP (11, 102, 11, 17) := ⟨_, _, _, rfl, by decide, rfl, (sm_in5 38 rfl rfl)⟩
theorem sm_flT_165 : sm_flP (11, 161, 11, 16) := ⟨_, _, _, rfl, by decide, rfl, (sm_in5 37 rfl rfl)⟩
theorem sm_flT_166 : sm_flP (11, 173, 11, 18) := ⟨_, _, _, rfl, by decide, rfl, (sm_in5 39 rfl rfl)⟩
theorem sm_flT_167 : sm_flP (11, 176, 11, 19) := ⟨_, _, _, rfl, by decide, rfl, (sm_in5 40 rfl rfl)⟩
theorem sm_flT_168 : sm_flP (11, 179, 11, 20) := ⟨_, _, _, rfl, by decide, rfl, (sm_in5 41 rfl rfl)⟩
theorem sm_flT_169 : sm_flP (11, 188, 11, 13) := ⟨_, _, _, rfl, by decide, rfl, (sm_in5 34 rfl rfl)⟩
theorem sm_flT_170 : sm_flP (11, 191, 11, 22) := ⟨_, _, _, rfl, by decide, rfl, (sm_in5 43 rfl rfl)⟩
theorem sm_flT_171 : sm_flP (11, 222, 11, 12) := ⟨_, _, _, rfl, by decide, rfl, (sm_in5 33 rfl rfl)⟩
theorem sm_flT_172 : sm_flP (11, 225, 11, 21) := ⟨_, _, _, rfl, by decide, rfl, (sm_in5 42 rfl rfl)⟩
theorem sm_flT_173 : sm_flP (11, 254, 11, 6) := ⟨_, _, _, rfl, by decide, rfl, (sm_in5 27 rfl rfl)⟩
theorem sm_flT_174 : sm_flP (11, 281, 11, 30) := ⟨_, _, _, rfl, by decide, rfl, (sm_in5 51 rfl rfl)⟩
theorem sm_flT_175 : sm_flP (11, 308, 11, 31) := ⟨_, _, _, rfl, by decide, rfl, (sm_in5 52 rfl rfl)⟩
theorem sm_flT_176 : sm_flP (11, 311, 11, 32) := ⟨_, _, _, rfl, by decide, rfl, (sm_in5 53 rfl rfl)⟩
theorem sm_flT_177 : sm_flP (11, 314, 11, 33) := ⟨_, _, _, rfl, by decide, rfl, (sm_in5 54 rfl rfl)⟩
theorem sm_flT_178 : sm_flP (11, 317, 11, 34) := ⟨_, _, _, rfl, by decide, rfl, (sm_in5 55 rfl rfl)⟩
theorem sm_flT_179 : sm_flP (11, 333, 11, 5) := ⟨_, _, _, rfl, by decide, rfl, (sm_in5 26 rfl rfl)⟩
set_option maxRecDepth 100000 in
theorem sm_flT_ok : ∀ q ∈ sm_flT, sm_flP q := (List.forall_mem_cons.mpr ⟨sm_flT_0, (List.forall_mem_cons.mpr ⟨sm_flT_1, (List.forall_mem_cons.mpr ⟨sm_flT_2, (List.forall_mem_cons.mpr ⟨sm_flT_3, (List.forall_mem_cons.mpr ⟨sm_flT_4, (List.forall_mem_cons.mpr ⟨sm_flT_5, (List.forall_mem_cons.mpr ⟨sm_flT_6, (List.forall_mem_cons.mpr ⟨sm_flT_7, (List.forall_mem_cons.mpr ⟨sm_flT_8, (List.forall_mem_cons.mpr ⟨sm_flT_9, (List.forall_mem_cons.mpr ⟨sm_flT_10, (List.forall_mem_cons.mpr ⟨sm_flT_11, (List.forall_mem_cons.mpr ⟨sm_flT_12, (List.forall_mem_cons.mpr ⟨sm_flT_13, (List.forall_mem_cons.mpr ⟨sm_flT_14, (List.forall_mem_cons.mpr ⟨sm_flT_15, (List.forall_mem_cons.mpr ⟨sm_flT_16, (List.forall_mem_cons.mpr ⟨sm_flT_17, (List.forall_mem_cons.mpr ⟨sm_flT_18, (List.forall_mem_cons.mpr ⟨sm_flT_19, (List.forall_mem_cons.mpr ⟨sm_flT_20, (List.forall_mem_cons.mpr ⟨sm_flT_21, (List.forall_mem_cons.mpr ⟨sm_flT_22, (List.forall_mem_cons.mpr ⟨sm_flT_23, (List.forall_mem_cons.mpr ⟨sm_flT_24, (List.forall_mem_cons.mpr ⟨sm_flT_25, (List.forall_mem_cons.mpr ⟨sm_flT_26, (List.forall_mem_cons.mpr ⟨sm_flT_27, (List.forall_mem_cons.mpr ⟨sm_flT_28, (List.forall_mem_cons.mpr ⟨sm_flT_29, (List.forall_mem_cons.mpr ⟨sm_flT_30, (List.forall_mem_cons.mpr ⟨sm_flT_31, (List.forall_mem_cons.mpr ⟨sm_flT_32, (List.forall_mem_cons.mpr ⟨sm_flT_33, (List.forall_mem_cons.mpr ⟨sm_flT_34, (List.forall_mem_cons.mpr ⟨sm_flT_35, (List.forall_mem_cons.mpr ⟨sm_flT_36, (List.forall_mem_cons.mpr ⟨sm_flT_37, (List.forall_mem_cons.mpr ⟨sm_flT_38, (List.forall_mem_cons.mpr ⟨sm_flT_39, (List.forall_mem_cons.mpr ⟨sm_flT_40, (List.forall_mem_cons.mpr ⟨sm_flT_41, (List.forall_mem_cons.mpr ⟨sm_flT_42, (List.forall_mem_cons.mpr ⟨sm_flT_43, (List.forall_mem_cons.mpr ⟨sm_flT_44, (List.forall_mem_cons.mpr ⟨sm_flT_45, (List.forall_mem_cons.mpr ⟨sm_flT_46, (List.forall_mem_cons.mpr ⟨sm_flT_47, (List.forall_mem_cons.mpr ⟨sm_flT_48, (List.forall_mem_cons.mpr ⟨sm_flT_49, (List.forall_mem_cons.mpr ⟨sm_flT_50, (List.forall_mem_cons.mpr ⟨sm_flT_51, (List.forall_mem_cons.mpr ⟨sm_flT_52, (List.forall_mem_cons.mpr ⟨sm_flT_53, (List.forall_mem_cons.mpr ⟨sm_flT_54, (List.forall_mem_cons.mpr ⟨sm_flT_55, (List.forall_mem_cons.mpr ⟨sm_flT_56, (List.forall_mem_cons.mpr ⟨sm_flT_57, (List.forall_mem_cons.mpr ⟨sm_flT_58, (List.forall_mem_cons.mpr ⟨sm_flT_59, (List.forall_mem_cons.mpr ⟨sm_flT_60, (List.forall_mem_cons.mpr ⟨sm_flT_61, (List.forall_mem_cons.mpr ⟨sm_flT_62, (List.forall_mem_cons.mpr ⟨sm_flT_63, (List.forall_mem_cons.mpr ⟨sm_flT_64, (List.forall_mem_cons.mpr ⟨sm_flT_65, (List.forall_mem_cons.mpr ⟨sm_flT_66, (List.forall_mem_cons.mpr ⟨sm_flT_67, (List.forall_mem_cons.mpr ⟨sm_flT_68, (List.forall_mem_cons.mpr ⟨sm_flT_69, (List.forall_mem_cons.mpr ⟨sm_flT_70, (List.forall_mem_cons.mpr ⟨sm_flT_71, (List.forall_mem_cons.mpr ⟨sm_flT_72, (List.forall_mem_cons.mpr ⟨sm_flT_73, (List.forall_mem_cons.mpr ⟨sm_flT_74, (List.forall_mem_cons.mpr ⟨sm_flT_75, (List.forall_mem_cons.mpr ⟨sm_flT_76, (List.forall_mem_cons.mpr ⟨sm_flT_77, (List.forall_mem_cons.mpr ⟨sm_flT_78, (List.forall_mem_cons.mpr ⟨sm_flT_79, (List.forall_mem_cons.mpr ⟨sm_flT_80, (List.forall_mem_cons.mpr ⟨sm_flT_81, (List.forall_mem_cons.mpr ⟨sm_flT_82, (List.forall_mem_cons.mpr ⟨sm_flT_83, (List.forall_mem_cons.mpr ⟨sm_flT_84, (List.forall_mem_cons.mpr ⟨sm_flT_85, (List.forall_mem_cons.mpr ⟨sm_flT_86, (List.forall_mem_cons.mpr ⟨sm_flT_87, (List.forall_mem_cons.mpr ⟨sm_flT_88, (List.forall_mem_cons.mpr ⟨sm_flT_89, (List.forall_mem_cons.mpr ⟨sm_flT_90, (List.forall_mem_cons.mpr ⟨sm_flT_91, (List.forall_mem_cons.mpr ⟨sm_flT_92, (List.forall_mem_cons.mpr ⟨sm_flT_93, (List.forall_mem_cons.mpr ⟨sm_flT_94, (List.forall_mem_cons.mpr ⟨sm_flT_95, (List.forall_mem_cons.mpr ⟨sm_flT_96, (List.forall_mem_cons.mpr ⟨sm_flT_97, (List.forall_mem_cons.mpr ⟨sm_flT_98, (List.forall_mem_cons.mpr ⟨sm_flT_99, (List.forall_mem_cons.mpr ⟨sm_flT_100, (List.forall_mem_cons.mpr ⟨sm_flT_101, (List.forall_mem_cons.mpr ⟨sm_flT_102, (List.forall_mem_cons.mpr ⟨sm_flT_103, (List.forall_mem_cons.mpr ⟨sm_flT_104, (List.forall_mem_cons.mpr ⟨sm_flT_105, (List.forall_mem_cons.mpr ⟨sm_flT_106, (List.forall_mem_cons.mpr ⟨sm_flT_107, (List.forall_mem_cons.mpr ⟨sm_flT_108, (List.forall_mem_cons.mpr ⟨sm_flT_109, (List.forall_mem_cons.mpr ⟨sm_flT_110, (List.forall_mem_cons.mpr ⟨sm_flT_111, (List.forall_mem_cons.mpr ⟨sm_flT_112, (List.forall_mem_cons.mpr ⟨sm_flT_113, (List.forall_mem_cons.mpr ⟨sm_flT_114, (List.forall_mem_cons.mpr ⟨sm_flT_115, (List.forall_mem_cons.mpr ⟨sm_flT_116, (List.forall_mem_cons.mpr ⟨sm_flT_117, (List.forall_mem_cons.mpr ⟨sm_flT_118, (List.forall_mem_cons.mpr ⟨sm_flT_119, (List.forall_mem_cons.mpr ⟨sm_flT_120, (List.forall_mem_cons.mpr ⟨sm_flT_121, (List.forall_mem_cons.mpr ⟨sm_flT_122, (List.forall_mem_cons.mpr ⟨sm_flT_123, (List.forall_mem_cons.mpr ⟨sm_flT_124, (List.forall_mem_cons.mpr ⟨sm_flT_125, (List.forall_mem_cons.mpr ⟨sm_flT_126, (List.forall_mem_cons.mpr ⟨sm_flT_127, (List.forall_mem_cons.mpr ⟨sm_flT_128, (List.forall_mem_cons.mpr ⟨sm_flT_129, (List.forall_mem_cons.mpr ⟨sm_flT_130, (List.forall_mem_cons.mpr ⟨sm_flT_131, (List.forall_mem_cons.mpr ⟨sm_flT_132, (List.forall_mem_cons.mpr ⟨sm_flT_133, (List.forall_mem_cons.mpr ⟨sm_flT_134, (List.forall_mem_cons.mpr ⟨sm_flT_135, (List.forall_mem_cons.mpr ⟨sm_flT_136, (List.forall_mem_cons.mpr ⟨sm_flT_137, (List.forall_mem_cons.mpr ⟨sm_flT_138, (List.forall_mem_cons.mpr ⟨sm_flT_139, (List.forall_mem_cons.mpr ⟨sm_flT_140, (List.forall_mem_cons.mpr ⟨sm_flT_141, (List.forall_mem_cons.mpr ⟨sm_flT_142, (List.forall_mem_cons.mpr ⟨sm_flT_143, (List.forall_mem_cons.mpr ⟨sm_flT_144, (List.forall_mem_cons.mpr ⟨sm_flT_145, (List.forall_mem_cons.mpr ⟨sm_flT_146, (List.forall_mem_cons.mpr ⟨sm_flT_147, (List.forall_mem_cons.mpr ⟨sm_flT_148, (List.forall_mem_cons.mpr ⟨sm_flT_149, (List.forall_mem_cons.mpr ⟨sm_flT_150, (List.forall_mem_cons.mpr ⟨sm_flT_151, (List.forall_mem_cons.mpr ⟨sm_flT_152, (List.forall_mem_cons.mpr ⟨sm_flT_153, (List.forall_mem_cons.mpr ⟨sm_flT_154, (List.forall_mem_cons.mpr ⟨sm_flT_155, (List.forall_mem_cons.mpr ⟨sm_flT_156, (List.forall_mem_cons.mpr ⟨sm_flT_157, (List.forall_mem_cons.mpr ⟨sm_flT_158, (List.forall_mem_cons.mpr ⟨sm_flT_159, (List.forall_mem_cons.mpr ⟨sm_flT_160, (List.forall_mem_cons.mpr ⟨sm_flT_161, (List.forall_mem_cons.mpr ⟨sm_flT_162, (List.forall_mem_cons.mpr ⟨sm_flT_163, (List.forall_mem_cons.mpr ⟨sm_flT_164, (List.forall_mem_cons.mpr ⟨sm_flT_165, (List.forall_mem_cons.mpr ⟨sm_flT_166, (List.forall_mem_cons.mpr ⟨sm_flT_167, (List.forall_mem_cons.mpr ⟨sm_flT_168, (List.forall_mem_cons.mpr ⟨sm_flT_169, (List.forall_mem_cons.mpr ⟨sm_flT_170, (List.forall_mem_cons.mpr ⟨sm_flT_171, (List.forall_mem_cons.mpr ⟨sm_flT_172, (List.forall_mem_cons.mpr ⟨sm_flT_173, (List.forall_mem_cons.mpr ⟨sm_flT_174, (List.forall_mem_cons.mpr ⟨sm_flT_175, (List.forall_mem_cons.mpr ⟨sm_flT_176, (List.forall_mem_cons.mpr ⟨sm_flT_177, (List.forall_mem_cons.mpr ⟨sm_flT_178, (List.forall_mem_cons.mpr ⟨sm_flT_179, (fun _ h => absurd h List.not_mem_nil)⟩)⟩)⟩)⟩)⟩)⟩)⟩)⟩)⟩)⟩)⟩)⟩)⟩)⟩)⟩)⟩)⟩)⟩)⟩)⟩)⟩)⟩)⟩)⟩)⟩)⟩)⟩)⟩)⟩)⟩)⟩)⟩)⟩)⟩)⟩)⟩)⟩)⟩)⟩)⟩)⟩)⟩)⟩)⟩)⟩)⟩)⟩)⟩)⟩)⟩)⟩)⟩)⟩)⟩)⟩)⟩)⟩)⟩)⟩)⟩)⟩)⟩)⟩)⟩)⟩)⟩)⟩)⟩)⟩)⟩)⟩)⟩)⟩)⟩)⟩)⟩)⟩)⟩)⟩)⟩)⟩)⟩)⟩)⟩)⟩)⟩)⟩)⟩)⟩)⟩)⟩)⟩)⟩)⟩)⟩)⟩)⟩)⟩)⟩)⟩)⟩)⟩)⟩)⟩)⟩)⟩)⟩)⟩)⟩)⟩)⟩)⟩)⟩)⟩)⟩)⟩)⟩)⟩)⟩)⟩)⟩)⟩)⟩)⟩)⟩)⟩)⟩)⟩)⟩)⟩)⟩)⟩)⟩)⟩)⟩)⟩)⟩)⟩)⟩)⟩)⟩)⟩)⟩)⟩)⟩)⟩)⟩)⟩)⟩)⟩)⟩)⟩)⟩)⟩)⟩)⟩)⟩)⟩)⟩)⟩)⟩)⟩)⟩)⟩)⟩)⟩)⟩)⟩)⟩)⟩)⟩)⟩)⟩)⟩)⟩)⟩)⟩)⟩)⟩)⟩)
def sm_sfP (q : Nat × Nat × Nat) : Prop := (q.2.2 = 0 ∧ Cond.fieldLink (sm_cs q.1) q.2.1 "java/lang/String" "value" "[B" ∈ sm_wds) ∨ (q.2.2 = 1 ∧ Cond.fieldLink (sm_cs q.1) q.2.1 "java/lang/String" "coder" "B" ∈ sm_wds)
def sm_sfT : List (Nat × Nat × Nat) := [(13, 9, 0), (13, 15, 1)]
theorem sm_sfT_0 : sm_sfP (13, 9, 0) := Or.inl ⟨rfl, (sm_in6 220 rfl rfl)⟩
theorem sm_sfT_1 : sm_sfP (13, 15, 1) := Or.inr ⟨rfl, (sm_in6 221 rfl rfl)⟩
set_option maxRecDepth 100000 in
theorem sm_sfT_ok : ∀ q ∈ sm_sfT, sm_sfP q := (List.forall_mem_cons.mpr ⟨sm_sfT_0, (List.forall_mem_cons.mpr ⟨sm_sfT_1, (fun _ h => absurd h List.not_mem_nil)⟩)⟩)
def sm_ldP (q : Nat × Nat × Int) : Prop := Cond.constant (sm_cs q.1) q.2.1 (zI q.2.2) ∈ sm_wds
def sm_ldT : List (Nat × Nat × Int) := [(1, 152, 1664525), (1, 153, 1013904223), (11, 83, 1664525), (11, 84, 1013904223)]
theorem sm_ldT_0 : sm_ldP (1, 152, 1664525) := (sm_in4 82 rfl rfl)
theorem sm_ldT_1 : sm_ldP (1, 153, 1013904223) := (sm_in4 83 rfl rfl)
theorem sm_ldT_2 : sm_ldP (11, 83, 1664525) := (sm_in6 134 rfl rfl)
theorem sm_ldT_3 : sm_ldP (11, 84, 1013904223) := (sm_in6 135 rfl rfl)
set_option maxRecDepth 100000 in
theorem sm_ldT_ok : ∀ q ∈ sm_ldT, sm_ldP q := (List.forall_mem_cons.mpr ⟨sm_ldT_0, (List.forall_mem_cons.mpr ⟨sm_ldT_1, (List.forall_mem_cons.mpr ⟨sm_ldT_2, (List.forall_mem_cons.mpr ⟨sm_ldT_3, (fun _ h => absurd h List.not_mem_nil)⟩)⟩)⟩)⟩)
def sm_nwP (q : Nat × Nat × Nat) : Prop := ∃ (C : String) (T : u_T) (N : Nat), vwCl[q.2.2]? = some (C, T, N) ∧ sm_N q.2.2 = N ∧ Cond.classLink (sm_cs q.1) q.2.1 C ∈ sm_wds ∧ Cond.instantiable C N ∈ sm_wds ∧ Cond.initialized C ∈ sm_wds
def sm_nwT : List (Nat × Nat × Nat) := [(1, 36, 5), (1, 54, 2), (1, 67, 9), (4, 50, 2), (7, 9, 6), (7, 18, 0), (7, 25, 5), (8, 9, 9), (9, 18, 5), (10, 7, 1), (10, 19, 7), (10, 26, 8), (10, 33, 3), (10, 40, 4), (12, 7, 10), (12, 10, 11)]
theorem sm_nwT_0 : sm_nwP (1, 36, 5) := ⟨_, _, _, rfl, rfl, (sm_in1 34 rfl rfl), (sm_in1 35 rfl rfl), (sm_in1 3 rfl rfl)⟩
theorem sm_nwT_1 : sm_nwP (1, 54, 2) := ⟨_, _, _, rfl, rfl, (sm_in1 59 rfl rfl), (sm_in1 61 rfl rfl), (sm_in1 5 rfl rfl)⟩
theorem sm_nwT_2 : sm_nwP (1, 67, 9) := ⟨_, _, _, rfl, rfl, (sm_in1 74 rfl rfl), (sm_in1 75 rfl rfl), (sm_in1 6 rfl rfl)⟩
theorem sm_nwT_3 : sm_nwP (4, 50, 2) := ⟨_, _, _, rfl, rfl, (sm_in3 112 rfl rfl), (sm_in1 61 rfl rfl), (sm_in1 5 rfl rfl)⟩
theorem sm_nwT_4 : sm_nwP (7, 9, 6) := ⟨_, _, _, rfl, rfl, (sm_in1 189 rfl rfl), (sm_in1 190 rfl rfl), (sm_in1 8 rfl rfl)⟩
theorem sm_nwT_5 : sm_nwP (7, 18, 0) := ⟨_, _, _, rfl, rfl, (sm_in1 206 rfl rfl), (sm_in1 207 rfl rfl), (sm_in1 9 rfl rfl)⟩
theorem sm_nwT_6 : sm_nwP (7, 25, 5) := ⟨_, _, _, rfl, rfl, (sm_in1 228 rfl rfl), (sm_in1 35 rfl rfl), (sm_in1 3 rfl rfl)⟩
theorem sm_nwT_7 : sm_nwP (8, 9, 9) := ⟨_, _, _, rfl, rfl, (sm_in2 26 rfl rfl), (sm_in1 75 rfl rfl), (sm_in1 6 rfl rfl)⟩
theorem sm_nwT_8 : sm_nwP (9, 18, 5) := ⟨_, _, _, rfl, rfl, (sm_in1 80 rfl rfl), (sm_in1 35 rfl rfl), (sm_in1 3 rfl rfl)⟩
theorem sm_nwT_9 : sm_nwP (10, 7, 1) := ⟨_, _, _, rfl, rfl, (sm_in1 28 rfl rfl), (sm_in1 29 rfl rfl), (sm_in1 2 rfl rfl)⟩
theorem sm_nwT_10 : sm_nwP (10, 19, 7) := ⟨_, _, _, rfl, rfl, (sm_in1 183 rfl rfl), (sm_in1 184 rfl rfl), (sm_in1 7 rfl rfl)⟩
theorem sm_nwT_11 : sm_nwP (10, 26, 8) := ⟨_, _, _, rfl, rfl, (sm_in2 20 rfl rfl), (sm_in2 21 rfl rfl), (sm_in1 10 rfl rfl)⟩
theorem sm_nwT_12 : sm_nwP (10, 33, 3) := ⟨_, _, _, rfl, rfl, (sm_in2 69 rfl rfl), (sm_in2 70 rfl rfl), (sm_in1 11 rfl rfl)⟩
theorem sm_nwT_13 : sm_nwP (10, 40, 4) := ⟨_, _, _, rfl, rfl, (sm_in2 85 rfl rfl), (sm_in2 86 rfl rfl), (sm_in1 12 rfl rfl)⟩
theorem sm_nwT_14 : sm_nwP (12, 7, 10) := ⟨_, _, _, rfl, rfl, (sm_in1 20 rfl rfl), (sm_in1 21 rfl rfl), (sm_in1 1 rfl rfl)⟩
theorem sm_nwT_15 : sm_nwP (12, 10, 11) := ⟨_, _, _, rfl, rfl, (sm_in5 7 rfl rfl), (sm_in5 8 rfl rfl), (sm_in1 14 rfl rfl)⟩
set_option maxRecDepth 100000 in
theorem sm_nwT_ok : ∀ q ∈ sm_nwT, sm_nwP q := (List.forall_mem_cons.mpr ⟨sm_nwT_0, (List.forall_mem_cons.mpr ⟨sm_nwT_1, (List.forall_mem_cons.mpr ⟨sm_nwT_2, (List.forall_mem_cons.mpr ⟨sm_nwT_3, (List.forall_mem_cons.mpr ⟨sm_nwT_4, (List.forall_mem_cons.mpr ⟨sm_nwT_5, (List.forall_mem_cons.mpr ⟨sm_nwT_6, (List.forall_mem_cons.mpr ⟨sm_nwT_7, (List.forall_mem_cons.mpr ⟨sm_nwT_8, (List.forall_mem_cons.mpr ⟨sm_nwT_9, (List.forall_mem_cons.mpr ⟨sm_nwT_10, (List.forall_mem_cons.mpr ⟨sm_nwT_11, (List.forall_mem_cons.mpr ⟨sm_nwT_12, (List.forall_mem_cons.mpr ⟨sm_nwT_13, (List.forall_mem_cons.mpr ⟨sm_nwT_14, (List.forall_mem_cons.mpr ⟨sm_nwT_15, (fun _ h => absurd h List.not_mem_nil)⟩)⟩)⟩)⟩)⟩)⟩)⟩)⟩)⟩)⟩)⟩)⟩)⟩)⟩)⟩)⟩)
def sm_anP (q : Nat × Nat) : Prop := Cond.classLink (sm_cs q.1) q.2 "SwallowSurvey$Habit" ∈ sm_wds
def sm_anT : List (Nat × Nat) := [(1, 54)]
theorem sm_anT_0 : sm_anP (1, 54) := (sm_in1 59 rfl rfl)
set_option maxRecDepth 100000 in
theorem sm_anT_ok : ∀ q ∈ sm_anT, sm_anP q := (List.forall_mem_cons.mpr ⟨sm_anT_0, (fun _ h => absurd h List.not_mem_nil)⟩)
def sm_cdP (j : Nat) : Prop := Cond.code (sm_y j) (sm_b j) (sm_ml j) (sm_rt j) ∈ sm_wds ∧ Cond.initialized (sm_y j).cls ∈ sm_wds ∧ plainName (sm_y j).cls = true ∧ ((sm_y j).cls ≠ "java/lang/invoke/MethodHandle" ∧ (sm_y j).cls ≠ "java/lang/invoke/VarHandle" ∧ (parseMethodDescriptor (sm_y j).desc).map (fun d => d.parameters.length) = some (if sm_rk j = 999 then sm_na j else sm_na j - 1))
theorem sm_cd_0 : sm_cdP 0 := ⟨(sm_in1 210 rfl rfl), (sm_in1 9 rfl rfl), by decide +kernel, by decide +kernel, by decide +kernel, by decide +kernel⟩
theorem sm_cd_1 : sm_cdP 1 := ⟨(sm_in4 52 rfl rfl), (sm_in1 9 rfl rfl), by decide +kernel, by decide +kernel, by decide +kernel, by decide +kernel⟩
theorem sm_cd_2 : sm_cdP 2 := ⟨(sm_in4 57 rfl rfl), (sm_in1 9 rfl rfl), by decide +kernel, by decide +kernel, by decide +kernel, by decide +kernel⟩
theorem sm_cd_3 : sm_cdP 3 := ⟨(sm_in4 153 rfl rfl), (sm_in1 9 rfl rfl), by decide +kernel, by decide +kernel, by decide +kernel, by decide +kernel⟩
theorem sm_cd_4 : sm_cdP 4 := ⟨(sm_in4 91 rfl rfl), (sm_in1 9 rfl rfl), by decide +kernel, by decide +kernel, by decide +kernel, by decide +kernel⟩
theorem sm_cd_5 : sm_cdP 5 := ⟨(sm_in1 32 rfl rfl), (sm_in1 2 rfl rfl), by decide +kernel, by decide +kernel, by decide +kernel, by decide +kernel⟩
theorem sm_cd_6 : sm_cdP 6 := ⟨(sm_in2 142 rfl rfl), (sm_in1 2 rfl rfl), by decide +kernel, by decide +kernel, by decide +kernel, by decide +kernel⟩
theorem sm_cd_7 : sm_cdP 7 := ⟨(sm_in4 224 rfl rfl), (sm_in1 2 rfl rfl), by decide +kernel, by decide +kernel, by decide +kernel, by decide +kernel⟩
theorem sm_cd_8 : sm_cdP 8 := ⟨(sm_in2 209 rfl rfl), (sm_in1 2 rfl rfl), by decide +kernel, by decide +kernel, by decide +kernel, by decide +kernel⟩
theorem sm_cd_9 : sm_cdP 9 := ⟨(sm_in3 211 rfl rfl), (sm_in1 2 rfl rfl), by decide +kernel, by decide +kernel, by decide +kernel, by decide +kernel⟩
theorem sm_cd_10 : sm_cdP 10 := ⟨(sm_in3 3 rfl rfl), (sm_in1 2 rfl rfl), by decide +kernel, by decide +kernel, by decide +kernel, by decide +kernel⟩
theorem sm_cd_11 : sm_cdP 11 := ⟨(sm_in4 6 rfl rfl), (sm_in1 2 rfl rfl), by decide +kernel, by decide +kernel, by decide +kernel, by decide +kernel⟩
theorem sm_cd_12 : sm_cdP 12 := ⟨(sm_in4 64 rfl rfl), (sm_in1 2 rfl rfl), by decide +kernel, by decide +kernel, by decide +kernel, by decide +kernel⟩
theorem sm_cd_13 : sm_cdP 13 := ⟨(sm_in4 19 rfl rfl), (sm_in1 2 rfl rfl), by decide +kernel, by decide +kernel, by decide +kernel, by decide +kernel⟩
theorem sm_cd_14 : sm_cdP 14 := ⟨(sm_in4 44 rfl rfl), (sm_in1 2 rfl rfl), by decide +kernel, by decide +kernel, by decide +kernel, by decide +kernel⟩
theorem sm_cd_15 : sm_cdP 15 := ⟨(sm_in4 161 rfl rfl), (sm_in1 2 rfl rfl), by decide +kernel, by decide +kernel, by decide +kernel, by decide +kernel⟩
theorem sm_cd_16 : sm_cdP 16 := ⟨(sm_in3 224 rfl rfl), (sm_in1 2 rfl rfl), by decide +kernel, by decide +kernel, by decide +kernel, by decide +kernel⟩
theorem sm_cd_17 : sm_cdP 17 := ⟨(sm_in4 105 rfl rfl), (sm_in1 2 rfl rfl), by decide +kernel, by decide +kernel, by decide +kernel, by decide +kernel⟩
theorem sm_cd_18 : sm_cdP 18 := ⟨(sm_in4 77 rfl rfl), (sm_in1 2 rfl rfl), by decide +kernel, by decide +kernel, by decide +kernel, by decide +kernel⟩
theorem sm_cd_19 : sm_cdP 19 := ⟨(sm_in4 81 rfl rfl), (sm_in1 2 rfl rfl), by decide +kernel, by decide +kernel, by decide +kernel, by decide +kernel⟩
theorem sm_cd_20 : sm_cdP 20 := ⟨(sm_in4 69 rfl rfl), (sm_in1 2 rfl rfl), by decide +kernel, by decide +kernel, by decide +kernel, by decide +kernel⟩
theorem sm_cd_21 : sm_cdP 21 := ⟨(sm_in1 64 rfl rfl), (sm_in1 5 rfl rfl), by decide +kernel, by decide +kernel, by decide +kernel, by decide +kernel⟩
theorem sm_cd_22 : sm_cdP 22 := ⟨(sm_in4 12 rfl rfl), (sm_in1 5 rfl rfl), by decide +kernel, by decide +kernel, by decide +kernel, by decide +kernel⟩
theorem sm_cd_23 : sm_cdP 23 := ⟨(sm_in4 15 rfl rfl), (sm_in1 5 rfl rfl), by decide +kernel, by decide +kernel, by decide +kernel, by decide +kernel⟩
theorem sm_cd_24 : sm_cdP 24 := ⟨(sm_in2 73 rfl rfl), (sm_in1 11 rfl rfl), by decide +kernel, by decide +kernel, by decide +kernel, by decide +kernel⟩
theorem sm_cd_25 : sm_cdP 25 := ⟨(sm_in4 199 rfl rfl), (sm_in1 11 rfl rfl), by decide +kernel, by decide +kernel, by decide +kernel, by decide +kernel⟩
theorem sm_cd_26 : sm_cdP 26 := ⟨(sm_in4 204 rfl rfl), (sm_in1 11 rfl rfl), by decide +kernel, by decide +kernel, by decide +kernel, by decide +kernel⟩
theorem sm_cd_27 : sm_cdP 27 := ⟨(sm_in4 208 rfl rfl), (sm_in1 11 rfl rfl), by decide +kernel, by decide +kernel, by decide +kernel, by decide +kernel⟩
theorem sm_cd_28 : sm_cdP 28 := ⟨(sm_in4 216 rfl rfl), (sm_in1 11 rfl rfl), by decide +kernel, by decide +kernel, by decide +kernel, by decide +kernel⟩
theorem sm_cd_29 : sm_cdP 29 := ⟨(sm_in2 89 rfl rfl), (sm_in1 12 rfl rfl), by decide +kernel, by decide +kernel, by decide +kernel, by decide +kernel⟩
theorem sm_cd_30 : sm_cdP 30 := ⟨(sm_in3 35 rfl rfl), (sm_in1 12 rfl rfl), by decide +kernel, by decide +kernel, by decide +kernel, by decide +kernel⟩
theorem sm_cd_31 : sm_cdP 31 := ⟨(sm_in3 39 rfl rfl), (sm_in1 12 rfl rfl), by decide +kernel, by decide +kernel, by decide +kernel, by decide +kernel⟩
theorem sm_cd_32 : sm_cdP 32 := ⟨(sm_in3 46 rfl rfl), (sm_in1 12 rfl rfl), by decide +kernel, by decide +kernel, by decide +kernel, by decide +kernel⟩
theorem sm_cd_33 : sm_cdP 33 := ⟨(sm_in3 50 rfl rfl), (sm_in1 12 rfl rfl), by decide +kernel, by decide +kernel, by decide +kernel, by decide +kernel⟩
theorem sm_cd_34 : sm_cdP 34 := ⟨(sm_in3 53 rfl rfl), (sm_in1 12 rfl rfl), by decide +kernel, by decide +kernel, by decide +kernel, by decide +kernel⟩
theorem sm_cd_35 : sm_cdP 35 := ⟨(sm_in3 108 rfl rfl), (sm_in1 12 rfl rfl), by decide +kernel, by decide +kernel, by decide +kernel, by decide +kernel⟩
theorem sm_cd_36 : sm_cdP 36 := ⟨(sm_in3 111 rfl rfl), (sm_in1 12 rfl rfl), by decide +kernel, by decide +kernel, by decide +kernel, by decide +kernel⟩
theorem sm_cd_37 : sm_cdP 37 := ⟨(sm_in3 56 rfl rfl), (sm_in1 12 rfl rfl), by decide +kernel, by decide +kernel, by decide +kernel, by decide +kernel⟩
theorem sm_cd_38 : sm_cdP 38 := ⟨(sm_in3 141 rfl rfl), (sm_in1 12 rfl rfl), by decide +kernel, by decide +kernel, by decide +kernel, by decide +kernel⟩
theorem sm_cd_39 : sm_cdP 39 := ⟨(sm_in3 129 rfl rfl), (sm_in1 12 rfl rfl), by decide +kernel, by decide +kernel, by decide +kernel, by decide +kernel⟩
theorem sm_cd_40 : sm_cdP 40 := ⟨(sm_in3 133 rfl rfl), (sm_in1 12 rfl rfl), by decide +kernel, by decide +kernel, by decide +kernel, by decide +kernel⟩
theorem sm_cd_41 : sm_cdP 41 := ⟨(sm_in3 145 rfl rfl), (sm_in1 12 rfl rfl), by decide +kernel, by decide +kernel, by decide +kernel, by decide +kernel⟩
theorem sm_cd_42 : sm_cdP 42 := ⟨(sm_in3 149 rfl rfl), (sm_in1 12 rfl rfl), by decide +kernel, by decide +kernel, by decide +kernel, by decide +kernel⟩
theorem sm_cd_43 : sm_cdP 43 := ⟨(sm_in3 157 rfl rfl), (sm_in1 12 rfl rfl), by decide +kernel, by decide +kernel, by decide +kernel, by decide +kernel⟩
theorem sm_cd_44 : sm_cdP 44 := ⟨(sm_in3 161 rfl rfl), (sm_in1 12 rfl rfl), by decide +kernel, by decide +kernel, by decide +kernel, by decide +kernel⟩
theorem sm_cd_45 : sm_cdP 45 := ⟨(sm_in3 175 rfl rfl), (sm_in1 12 rfl rfl), by decide +kernel, by decide +kernel, by decide +kernel, by decide +kernel⟩
theorem sm_cd_46 : sm_cdP 46 := ⟨(sm_in3 179 rfl rfl), (sm_in1 12 rfl rfl), by decide +kernel, by decide +kernel, by decide +kernel, by decide +kernel⟩
theorem sm_cd_47 : sm_cdP 47 := ⟨(sm_in3 165 rfl rfl), (sm_in1 12 rfl rfl), by decide +kernel, by decide +kernel, by decide +kernel, by decide +kernel⟩
theorem sm_cd_48 : sm_cdP 48 := ⟨(sm_in3 171 rfl rfl), (sm_in1 12 rfl rfl), by decide +kernel, by decide +kernel, by decide +kernel, by decide +kernel⟩
theorem sm_cd_49 : sm_cdP 49 := ⟨(sm_in3 153 rfl rfl), (sm_in1 12 rfl rfl), by decide +kernel, by decide +kernel, by decide +kernel, by decide +kernel⟩
theorem sm_cd_50 : sm_cdP 50 := ⟨(sm_in3 137 rfl rfl), (sm_in1 12 rfl rfl), by decide +kernel, by decide +kernel, by decide +kernel, by decide +kernel⟩
theorem sm_cd_51 : sm_cdP 51 := ⟨(sm_in1 38 rfl rfl), (sm_in1 3 rfl rfl), by decide +kernel, by decide +kernel, by decide +kernel, by decide +kernel⟩
theorem sm_cd_52 : sm_cdP 52 := ⟨(sm_in3 11 rfl rfl), (sm_in1 3 rfl rfl), by decide +kernel, by decide +kernel, by decide +kernel, by decide +kernel⟩
theorem sm_cd_53 : sm_cdP 53 := ⟨(sm_in4 38 rfl rfl), (sm_in1 3 rfl rfl), by decide +kernel, by decide +kernel, by decide +kernel, by decide +kernel⟩
theorem sm_cd_54 : sm_cdP 54 := ⟨(sm_in3 228 rfl rfl), (sm_in1 3 rfl rfl), by decide +kernel, by decide +kernel, by decide +kernel, by decide +kernel⟩
theorem sm_cd_55 : sm_cdP 55 := ⟨(sm_in4 229 rfl rfl), (sm_in1 3 rfl rfl), by decide +kernel, by decide +kernel, by decide +kernel, by decide +kernel⟩
theorem sm_cd_56 : sm_cdP 56 := ⟨(sm_in1 193 rfl rfl), (sm_in1 8 rfl rfl), by decide +kernel, by decide +kernel, by decide +kernel, by decide +kernel⟩
theorem sm_cd_57 : sm_cdP 57 := ⟨(sm_in3 196 rfl rfl), (sm_in1 8 rfl rfl), by decide +kernel, by decide +kernel, by decide +kernel, by decide +kernel⟩
theorem sm_cd_58 : sm_cdP 58 := ⟨(sm_in3 202 rfl rfl), (sm_in1 8 rfl rfl), by decide +kernel, by decide +kernel, by decide +kernel, by decide +kernel⟩
theorem sm_cd_59 : sm_cdP 59 := ⟨(sm_in1 187 rfl rfl), (sm_in1 7 rfl rfl), by decide +kernel, by decide +kernel, by decide +kernel, by decide +kernel⟩
theorem sm_cd_60 : sm_cdP 60 := ⟨(sm_in3 215 rfl rfl), (sm_in1 7 rfl rfl), by decide +kernel, by decide +kernel, by decide +kernel, by decide +kernel⟩
theorem sm_cd_61 : sm_cdP 61 := ⟨(sm_in3 220 rfl rfl), (sm_in1 7 rfl rfl), by decide +kernel, by decide +kernel, by decide +kernel, by decide +kernel⟩
theorem sm_cd_62 : sm_cdP 62 := ⟨(sm_in3 237 rfl rfl), (sm_in1 7 rfl rfl), by decide +kernel, by decide +kernel, by decide +kernel, by decide +kernel⟩
theorem sm_cd_63 : sm_cdP 63 := ⟨(sm_in4 24 rfl rfl), (sm_in1 7 rfl rfl), by decide +kernel, by decide +kernel, by decide +kernel, by decide +kernel⟩
theorem sm_cd_64 : sm_cdP 64 := ⟨(sm_in2 24 rfl rfl), (sm_in1 10 rfl rfl), by decide +kernel, by decide +kernel, by decide +kernel, by decide +kernel⟩
theorem sm_cd_65 : sm_cdP 65 := ⟨(sm_in4 124 rfl rfl), (sm_in1 10 rfl rfl), by decide +kernel, by decide +kernel, by decide +kernel, by decide +kernel⟩
theorem sm_cd_66 : sm_cdP 66 := ⟨(sm_in4 135 rfl rfl), (sm_in1 10 rfl rfl), by decide +kernel, by decide +kernel, by decide +kernel, by decide +kernel⟩
theorem sm_cd_67 : sm_cdP 67 := ⟨(sm_in4 139 rfl rfl), (sm_in1 10 rfl rfl), by decide +kernel, by decide +kernel, by decide +kernel, by decide +kernel⟩
theorem sm_cd_68 : sm_cdP 68 := ⟨(sm_in4 144 rfl rfl), (sm_in1 10 rfl rfl), by decide +kernel, by decide +kernel, by decide +kernel, by decide +kernel⟩
theorem sm_cd_69 : sm_cdP 69 := ⟨(sm_in4 147 rfl rfl), (sm_in1 10 rfl rfl), by decide +kernel, by decide +kernel, by decide +kernel, by decide +kernel⟩
theorem sm_cd_70 : sm_cdP 70 := ⟨(sm_in4 169 rfl rfl), (sm_in1 10 rfl rfl), by decide +kernel, by decide +kernel, by decide +kernel, by decide +kernel⟩
theorem sm_cd_71 : sm_cdP 71 := ⟨(sm_in4 176 rfl rfl), (sm_in1 10 rfl rfl), by decide +kernel, by decide +kernel, by decide +kernel, by decide +kernel⟩
theorem sm_cd_72 : sm_cdP 72 := ⟨(sm_in4 173 rfl rfl), (sm_in1 10 rfl rfl), by decide +kernel, by decide +kernel, by decide +kernel, by decide +kernel⟩
theorem sm_cd_73 : sm_cdP 73 := ⟨(sm_in4 188 rfl rfl), (sm_in1 10 rfl rfl), by decide +kernel, by decide +kernel, by decide +kernel, by decide +kernel⟩
theorem sm_cd_74 : sm_cdP 74 := ⟨(sm_in4 191 rfl rfl), (sm_in1 10 rfl rfl), by decide +kernel, by decide +kernel, by decide +kernel, by decide +kernel⟩
theorem sm_cd_75 : sm_cdP 75 := ⟨(sm_in1 78 rfl rfl), (sm_in1 6 rfl rfl), by decide +kernel, by decide +kernel, by decide +kernel, by decide +kernel⟩
theorem sm_cd_76 : sm_cdP 76 := ⟨(sm_in2 149 rfl rfl), (sm_in1 6 rfl rfl), by decide +kernel, by decide +kernel, by decide +kernel, by decide +kernel⟩
theorem sm_cd_77 : sm_cdP 77 := ⟨(sm_in4 235 rfl rfl), (sm_in1 6 rfl rfl), by decide +kernel, by decide +kernel, by decide +kernel, by decide +kernel⟩
theorem sm_cd_78 : sm_cdP 78 := ⟨(sm_in4 28 rfl rfl), (sm_in1 6 rfl rfl), by decide +kernel, by decide +kernel, by decide +kernel, by decide +kernel⟩
theorem sm_cd_79 : sm_cdP 79 := ⟨(sm_in4 34 rfl rfl), (sm_in1 6 rfl rfl), by decide +kernel, by decide +kernel, by decide +kernel, by decide +kernel⟩
theorem sm_cd_80 : sm_cdP 80 := ⟨(sm_in4 116 rfl rfl), (sm_in1 6 rfl rfl), by decide +kernel, by decide +kernel, by decide +kernel, by decide +kernel⟩
theorem sm_cd_81 : sm_cdP 81 := ⟨(sm_in5 6 rfl rfl), (sm_in1 6 rfl rfl), by decide +kernel, by decide +kernel, by decide +kernel, by decide +kernel⟩
theorem sm_cd_82 : sm_cdP 82 := ⟨(sm_in1 24 rfl rfl), (sm_in1 1 rfl rfl), by decide +kernel, by decide +kernel, by decide +kernel, by decide +kernel⟩
theorem sm_cd_83 : sm_cdP 83 := ⟨(sm_in2 194 rfl rfl), (sm_in1 1 rfl rfl), by decide +kernel, by decide +kernel, by decide +kernel, by decide +kernel⟩
theorem sm_cd_84 : sm_cdP 84 := ⟨(sm_in2 198 rfl rfl), (sm_in1 1 rfl rfl), by decide +kernel, by decide +kernel, by decide +kernel, by decide +kernel⟩
theorem sm_cd_85 : sm_cdP 85 := ⟨(sm_in2 205 rfl rfl), (sm_in1 1 rfl rfl), by decide +kernel, by decide +kernel, by decide +kernel, by decide +kernel⟩
theorem sm_cd_86 : sm_cdP 86 := ⟨(sm_in2 216 rfl rfl), (sm_in1 1 rfl rfl), by decide +kernel, by decide +kernel, by decide +kernel, by decide +kernel⟩
theorem sm_cd_87 : sm_cdP 87 := ⟨(sm_in2 227 rfl rfl), (sm_in1 1 rfl rfl), by decide +kernel, by decide +kernel, by decide +kernel, by decide +kernel⟩
theorem sm_cd_88 : sm_cdP 88 := ⟨(sm_in2 231 rfl rfl), (sm_in1 1 rfl rfl), by decide +kernel, by decide +kernel, by decide +kernel, by decide +kernel⟩
theorem sm_cd_89 : sm_cdP 89 := ⟨(sm_in2 235 rfl rfl), (sm_in1 1 rfl rfl), by decide +kernel, by decide +kernel, by decide +kernel, by decide +kernel⟩
theorem sm_cd_90 : sm_cdP 90 := ⟨(sm_in2 239 rfl rfl), (sm_in1 1 rfl rfl), by decide +kernel, by decide +kernel, by decide +kernel, by decide +kernel⟩
theorem sm_cd_91 : sm_cdP 91 := ⟨(sm_in3 7 rfl rfl), (sm_in1 1 rfl rfl), by decide +kernel, by decide +kernel, by decide +kernel, by decide +kernel⟩
theorem sm_cd_92 : sm_cdP 92 := ⟨(sm_in3 15 rfl rfl), (sm_in1 1 rfl rfl), by decide +kernel, by decide +kernel, by decide +kernel, by decide +kernel⟩
theorem sm_cd_93 : sm_cdP 93 := ⟨(sm_in3 19 rfl rfl), (sm_in1 1 rfl rfl), by decide +kernel, by decide +kernel, by decide +kernel, by decide +kernel⟩
theorem sm_cd_94 : sm_cdP 94 := ⟨(sm_in3 27 rfl rfl), (sm_in1 1 rfl rfl), by decide +kernel, by decide +kernel, by decide +kernel, by decide +kernel⟩
theorem sm_cd_95 : sm_cdP 95 := ⟨(sm_in3 31 rfl rfl), (sm_in1 1 rfl rfl), by decide +kernel, by decide +kernel, by decide +kernel, by decide +kernel⟩
theorem sm_cd_96 : sm_cdP 96 := ⟨(sm_in3 184 rfl rfl), (sm_in1 1 rfl rfl), by decide +kernel, by decide +kernel, by decide +kernel, by decide +kernel⟩
theorem sm_cd_97 : sm_cdP 97 := ⟨(sm_in3 188 rfl rfl), (sm_in1 1 rfl rfl), by decide +kernel, by decide +kernel, by decide +kernel, by decide +kernel⟩
theorem sm_cd_98 : sm_cdP 98 := ⟨(sm_in4 73 rfl rfl), (sm_in1 1 rfl rfl), by decide +kernel, by decide +kernel, by decide +kernel, by decide +kernel⟩
theorem sm_cd_99 : sm_cdP 99 := ⟨(sm_in4 87 rfl rfl), (sm_in1 1 rfl rfl), by decide +kernel, by decide +kernel, by decide +kernel, by decide +kernel⟩
theorem sm_cd_100 : sm_cdP 100 := ⟨(sm_in4 95 rfl rfl), (sm_in1 1 rfl rfl), by decide +kernel, by decide +kernel, by decide +kernel, by decide +kernel⟩
theorem sm_cd_101 : sm_cdP 101 := ⟨(sm_in4 100 rfl rfl), (sm_in1 1 rfl rfl), by decide +kernel, by decide +kernel, by decide +kernel, by decide +kernel⟩
theorem sm_cd_102 : sm_cdP 102 := ⟨(sm_in4 112 rfl rfl), (sm_in1 1 rfl rfl), by decide +kernel, by decide +kernel, by decide +kernel, by decide +kernel⟩
theorem sm_cd_103 : sm_cdP 103 := ⟨(sm_in4 120 rfl rfl), (sm_in1 1 rfl rfl), by decide +kernel, by decide +kernel, by decide +kernel, by decide +kernel⟩
theorem sm_cd_104 : sm_cdP 104 := ⟨(sm_in4 131 rfl rfl), (sm_in1 1 rfl rfl), by decide +kernel, by decide +kernel, by decide +kernel, by decide +kernel⟩
theorem sm_cd_105 : sm_cdP 105 := ⟨(sm_in4 157 rfl rfl), (sm_in1 1 rfl rfl), by decide +kernel, by decide +kernel, by decide +kernel, by decide +kernel⟩
theorem sm_cd_106 : sm_cdP 106 := ⟨(sm_in4 165 rfl rfl), (sm_in1 1 rfl rfl), by decide +kernel, by decide +kernel, by decide +kernel, by decide +kernel⟩
theorem sm_cd_107 : sm_cdP 107 := ⟨(sm_in4 180 rfl rfl), (sm_in1 1 rfl rfl), by decide +kernel, by decide +kernel, by decide +kernel, by decide +kernel⟩
theorem sm_cd_108 : sm_cdP 108 := ⟨(sm_in4 184 rfl rfl), (sm_in1 1 rfl rfl), by decide +kernel, by decide +kernel, by decide +kernel, by decide +kernel⟩
theorem sm_cd_109 : sm_cdP 109 := ⟨(sm_in4 195 rfl rfl), (sm_in1 1 rfl rfl), by decide +kernel, by decide +kernel, by decide +kernel, by decide +kernel⟩
theorem sm_cd_110 : sm_cdP 110 := ⟨(sm_in4 220 rfl rfl), (sm_in1 1 rfl rfl), by decide +kernel, by decide +kernel, by decide +kernel, by decide +kernel⟩
theorem sm_cd_111 : sm_cdP 111 := ⟨(sm_in5 1 rfl rfl), (sm_in1 1 rfl rfl), by decide +kernel, by decide +kernel, by decide +kernel, by decide +kernel⟩
theorem sm_cd_112 : sm_cdP 112 := ⟨(sm_in2 201 rfl rfl), (sm_in1 1 rfl rfl), by decide +kernel, by decide +kernel, by decide +kernel, by decide +kernel⟩
theorem sm_cd_113 : sm_cdP 113 := ⟨(sm_in2 212 rfl rfl), (sm_in1 1 rfl rfl), by decide +kernel, by decide +kernel, by decide +kernel, by decide +kernel⟩
theorem sm_cd_114 : sm_cdP 114 := ⟨(sm_in2 220 rfl rfl), (sm_in1 1 rfl rfl), by decide +kernel, by decide +kernel, by decide +kernel, by decide +kernel⟩
theorem sm_cd_115 : sm_cdP 115 := ⟨(sm_in3 23 rfl rfl), (sm_in1 1 rfl rfl), by decide +kernel, by decide +kernel, by decide +kernel, by decide +kernel⟩
theorem sm_cd_116 : sm_cdP 116 := ⟨(sm_in3 192 rfl rfl), (sm_in1 1 rfl rfl), by decide +kernel, by decide +kernel, by decide +kernel, by decide +kernel⟩
theorem sm_cd_117 : sm_cdP 117 := ⟨(sm_in5 11 rfl rfl), (sm_in1 14 rfl rfl), by decide +kernel, by decide +kernel, by decide +kernel, by decide +kernel⟩
theorem sm_cd_118 : sm_cdP 118 := ⟨(sm_in5 16 rfl rfl), (sm_in1 14 rfl rfl), by decide +kernel, by decide +kernel, by decide +kernel, by decide +kernel⟩
theorem sm_cd_119 : sm_cdP 119 := ⟨(sm_in5 20 rfl rfl), (sm_in1 14 rfl rfl), by decide +kernel, by decide +kernel, by decide +kernel, by decide +kernel⟩
theorem sm_cd_120 : sm_cdP 120 := ⟨(sm_in5 143 rfl rfl), (sm_in1 14 rfl rfl), by decide +kernel, by decide +kernel, by decide +kernel, by decide +kernel⟩
theorem sm_cd_121 : sm_cdP 121 := ⟨(sm_in5 155 rfl rfl), (sm_in1 14 rfl rfl), by decide +kernel, by decide +kernel, by decide +kernel, by decide +kernel⟩
theorem sm_cd_122 : sm_cdP 122 := ⟨(sm_in5 151 rfl rfl), (sm_in1 14 rfl rfl), by decide +kernel, by decide +kernel, by decide +kernel, by decide +kernel⟩
theorem sm_cd_123 : sm_cdP 123 := ⟨(sm_in5 183 rfl rfl), (sm_in1 14 rfl rfl), by decide +kernel, by decide +kernel, by decide +kernel, by decide +kernel⟩
theorem sm_cd_124 : sm_cdP 124 := ⟨(sm_in5 136 rfl rfl), (sm_in1 14 rfl rfl), by decide +kernel, by decide +kernel, by decide +kernel, by decide +kernel⟩
theorem sm_cd_125 : sm_cdP 125 := ⟨(sm_in6 133 rfl rfl), (sm_in1 14 rfl rfl), by decide +kernel, by decide +kernel, by decide +kernel, by decide +kernel⟩
theorem sm_cd_126 : sm_cdP 126 := ⟨(sm_in5 140 rfl rfl), (sm_in1 14 rfl rfl), by decide +kernel, by decide +kernel, by decide +kernel, by decide +kernel⟩
theorem sm_cd_127 : sm_cdP 127 := ⟨(sm_in5 147 rfl rfl), (sm_in1 14 rfl rfl), by decide +kernel, by decide +kernel, by decide +kernel, by decide +kernel⟩
theorem sm_cd_128 : sm_cdP 128 := ⟨(sm_in5 163 rfl rfl), (sm_in1 14 rfl rfl), by decide +kernel, by decide +kernel, by decide +kernel, by decide +kernel⟩
theorem sm_cd_129 : sm_cdP 129 := ⟨(sm_in5 159 rfl rfl), (sm_in1 14 rfl rfl), by decide +kernel, by decide +kernel, by decide +kernel, by decide +kernel⟩
theorem sm_cd_130 : sm_cdP 130 := ⟨(sm_in5 167 rfl rfl), (sm_in1 14 rfl rfl), by decide +kernel, by decide +kernel, by decide +kernel, by decide +kernel⟩
theorem sm_cd_131 : sm_cdP 131 := ⟨(sm_in5 171 rfl rfl), (sm_in1 14 rfl rfl), by decide +kernel, by decide +kernel, by decide +kernel, by decide +kernel⟩
theorem sm_cd_132 : sm_cdP 132 := ⟨(sm_in5 175 rfl rfl), (sm_in1 14 rfl rfl), by decide +kernel, by decide +kernel, by decide +kernel, by decide +kernel⟩
theorem sm_cd_133 : sm_cdP 133 := ⟨(sm_in5 179 rfl rfl), (sm_in1 14 rfl rfl), by decide +kernel, by decide +kernel, by decide +kernel, by decide +kernel⟩
theorem sm_cd_134 : sm_cdP 134 := ⟨(sm_in5 187 rfl rfl), (sm_in1 14 rfl rfl), by decide +kernel, by decide +kernel, by decide +kernel, by decide +kernel⟩
theorem sm_cd_135 : sm_cdP 135 := ⟨(sm_in5 191 rfl rfl), (sm_in1 14 rfl rfl), by decide +kernel, by decide +kernel, by decide +kernel, by decide +kernel⟩
theorem sm_cd_136 : sm_cdP 136 := ⟨(sm_in5 195 rfl rfl), (sm_in1 14 rfl rfl), by decide +kernel, by decide +kernel, by decide +kernel, by decide +kernel⟩
theorem sm_cd_137 : sm_cdP 137 := ⟨(sm_in5 199 rfl rfl), (sm_in1 14 rfl rfl), by decide +kernel, by decide +kernel, by decide +kernel, by decide +kernel⟩
theorem sm_cd_138 : sm_cdP 138 := ⟨(sm_in5 211 rfl rfl), (sm_in1 14 rfl rfl), by decide +kernel, by decide +kernel, by decide +kernel, by decide +kernel⟩
theorem sm_cd_139 : sm_cdP 139 := ⟨(sm_in5 214 rfl rfl), (sm_in1 14 rfl rfl), by decide +kernel, by decide +kernel, by decide +kernel, by decide +kernel⟩
theorem sm_cd_140 : sm_cdP 140 := ⟨(sm_in6 9 rfl rfl), (sm_in1 14 rfl rfl), by decide +kernel, by decide +kernel, by decide +kernel, by decide +kernel⟩
theorem sm_cd_141 : sm_cdP 141 := ⟨(sm_in5 223 rfl rfl), (sm_in1 14 rfl rfl), by decide +kernel, by decide +kernel, by decide +kernel, by decide +kernel⟩
theorem sm_cd_142 : sm_cdP 142 := ⟨(sm_in5 237 rfl rfl), (sm_in1 14 rfl rfl), by decide +kernel, by decide +kernel, by decide +kernel, by decide +kernel⟩
theorem sm_cd_143 : sm_cdP 143 := ⟨(sm_in5 218 rfl rfl), (sm_in1 14 rfl rfl), by decide +kernel, by decide +kernel, by decide +kernel, by decide +kernel⟩
theorem sm_cd_144 : sm_cdP 144 := ⟨(sm_in5 207 rfl rfl), (sm_in1 14 rfl rfl), by decide +kernel, by decide +kernel, by decide +kernel, by decide +kernel⟩
theorem sm_cd_145 : sm_cdP 145 := ⟨(sm_in6 17 rfl rfl), (sm_in1 14 rfl rfl), by decide +kernel, by decide +kernel, by decide +kernel, by decide +kernel⟩
theorem sm_cd_146 : sm_cdP 146 := ⟨(sm_in6 41 rfl rfl), (sm_in1 14 rfl rfl), by decide +kernel, by decide +kernel, by decide +kernel, by decide +kernel⟩
theorem sm_cd_147 : sm_cdP 147 := ⟨(sm_in6 37 rfl rfl), (sm_in1 14 rfl rfl), by decide +kernel, by decide +kernel, by decide +kernel, by decide +kernel⟩
theorem sm_cd_148 : sm_cdP 148 := ⟨(sm_in6 33 rfl rfl), (sm_in1 14 rfl rfl), by decide +kernel, by decide +kernel, by decide +kernel, by decide +kernel⟩
theorem sm_cd_149 : sm_cdP 149 := ⟨(sm_in6 45 rfl rfl), (sm_in1 14 rfl rfl), by decide +kernel, by decide +kernel, by decide +kernel, by decide +kernel⟩
theorem sm_cd_150 : sm_cdP 150 := ⟨(sm_in6 49 rfl rfl), (sm_in1 14 rfl rfl), by decide +kernel, by decide +kernel, by decide +kernel, by decide +kernel⟩
theorem sm_cd_151 : sm_cdP 151 := ⟨(sm_in6 53 rfl rfl), (sm_in1 14 rfl rfl), by decide +kernel, by decide +kernel, by decide +kernel, by decide +kernel⟩
theorem sm_cd_152 : sm_cdP 152 := ⟨(sm_in6 21 rfl rfl), (sm_in1 14 rfl rfl), by decide +kernel, by decide +kernel, by decide +kernel, by decide +kernel⟩
theorem sm_cd_153 : sm_cdP 153 := ⟨(sm_in6 25 rfl rfl), (sm_in1 14 rfl rfl), by decide +kernel, by decide +kernel, by decide +kernel, by decide +kernel⟩
theorem sm_cd_154 : sm_cdP 154 := ⟨(sm_in6 29 rfl rfl), (sm_in1 14 rfl rfl), by decide +kernel, by decide +kernel, by decide +kernel, by decide +kernel⟩
theorem sm_cd_155 : sm_cdP 155 := ⟨(sm_in6 13 rfl rfl), (sm_in1 14 rfl rfl), by decide +kernel, by decide +kernel, by decide +kernel, by decide +kernel⟩
theorem sm_cd_156 : sm_cdP 156 := ⟨(sm_in5 203 rfl rfl), (sm_in1 14 rfl rfl), by decide +kernel, by decide +kernel, by decide +kernel, by decide +kernel⟩
theorem sm_cd_157 : sm_cdP 157 := ⟨(sm_in6 57 rfl rfl), (sm_in1 14 rfl rfl), by decide +kernel, by decide +kernel, by decide +kernel, by decide +kernel⟩
theorem sm_cd_158 : sm_cdP 158 := ⟨(sm_in6 101 rfl rfl), (sm_in1 14 rfl rfl), by decide +kernel, by decide +kernel, by decide +kernel, by decide +kernel⟩
theorem sm_cd_159 : sm_cdP 159 := ⟨(sm_in6 98 rfl rfl), (sm_in1 14 rfl rfl), by decide +kernel, by decide +kernel, by decide +kernel, by decide +kernel⟩
theorem sm_cd_160 : sm_cdP 160 := ⟨(sm_in6 76 rfl rfl), (sm_in1 14 rfl rfl), by decide +kernel, by decide +kernel, by decide +kernel, by decide +kernel⟩
theorem sm_cd_161 : sm_cdP 161 := ⟨(sm_in6 79 rfl rfl), (sm_in1 14 rfl rfl), by decide +kernel, by decide +kernel, by decide +kernel, by decide +kernel⟩
theorem sm_cd_162 : sm_cdP 162 := ⟨(sm_in6 90 rfl rfl), (sm_in1 14 rfl rfl), by decide +kernel, by decide +kernel, by decide +kernel, by decide +kernel⟩
theorem sm_cd_163 : sm_cdP 163 := ⟨(sm_in6 87 rfl rfl), (sm_in1 14 rfl rfl), by decide +kernel, by decide +kernel, by decide +kernel, by decide +kernel⟩
theorem sm_cd_164 : sm_cdP 164 := ⟨(sm_in6 83 rfl rfl), (sm_in1 14 rfl rfl), by decide +kernel, by decide +kernel, by decide +kernel, by decide +kernel⟩
theorem sm_cd_165 : sm_cdP 165 := ⟨(sm_in6 73 rfl rfl), (sm_in1 14 rfl rfl), by decide +kernel, by decide +kernel, by decide +kernel, by decide +kernel⟩
theorem sm_cd_166 : sm_cdP 166 := ⟨(sm_in6 94 rfl rfl), (sm_in1 14 rfl rfl), by decide +kernel, by decide +kernel, by decide +kernel, by decide +kernel⟩
theorem sm_cd_167 : sm_cdP 167 := ⟨(sm_in6 105 rfl rfl), (sm_in1 14 rfl rfl), by decide +kernel, by decide +kernel, by decide +kernel, by decide +kernel⟩
theorem sm_cd_168 : sm_cdP 168 := ⟨(sm_in6 113 rfl rfl), (sm_in1 14 rfl rfl), by decide +kernel, by decide +kernel, by decide +kernel, by decide +kernel⟩
theorem sm_cd_169 : sm_cdP 169 := ⟨(sm_in6 109 rfl rfl), (sm_in1 14 rfl rfl), by decide +kernel, by decide +kernel, by decide +kernel, by decide +kernel⟩
theorem sm_cd_170 : sm_cdP 170 := ⟨(sm_in6 69 rfl rfl), (sm_in1 14 rfl rfl), by decide +kernel, by decide +kernel, by decide +kernel, by decide +kernel⟩
theorem sm_cd_171 : sm_cdP 171 := ⟨(sm_in6 65 rfl rfl), (sm_in1 14 rfl rfl), by decide +kernel, by decide +kernel, by decide +kernel, by decide +kernel⟩
theorem sm_cd_172 : sm_cdP 172 := ⟨(sm_in6 125 rfl rfl), (sm_in1 14 rfl rfl), by decide +kernel, by decide +kernel, by decide +kernel, by decide +kernel⟩
theorem sm_cd_173 : sm_cdP 173 := ⟨(sm_in6 121 rfl rfl), (sm_in1 14 rfl rfl), by decide +kernel, by decide +kernel, by decide +kernel, by decide +kernel⟩
theorem sm_cd_174 : sm_cdP 174 := ⟨(sm_in6 117 rfl rfl), (sm_in1 14 rfl rfl), by decide +kernel, by decide +kernel, by decide +kernel, by decide +kernel⟩
theorem sm_cd_175 : sm_cdP 175 := ⟨(sm_in6 61 rfl rfl), (sm_in1 14 rfl rfl), by decide +kernel, by decide +kernel, by decide +kernel, by decide +kernel⟩
theorem sm_cd_176 : sm_cdP 176 := ⟨(sm_in6 129 rfl rfl), (sm_in1 14 rfl rfl), by decide +kernel, by decide +kernel, by decide +kernel, by decide +kernel⟩
theorem sm_cd_177 : sm_cdP 177 := ⟨(sm_in6 140 rfl rfl), (sm_in1 14 rfl rfl), by decide +kernel, by decide +kernel, by decide +kernel, by decide +kernel⟩
theorem sm_cd_178 : sm_cdP 178 := ⟨(sm_in6 144 rfl rfl), (sm_in1 14 rfl rfl), by decide +kernel, by decide +kernel, by decide +kernel, by decide +kernel⟩
theorem sm_cd_179 : sm_cdP 179 := ⟨(sm_in6 151 rfl rfl), (sm_in1 14 rfl rfl), by decide +kernel, by decide +kernel, by decide +kernel, by decide +kernel⟩
theorem sm_cd_180 : sm_cdP 180 := ⟨(sm_in6 148 rfl rfl), (sm_in1 14 rfl rfl), by decide +kernel, by decide +kernel, by decide +kernel, by decide +kernel⟩
theorem sm_cd_181 : sm_cdP 181 := ⟨(sm_in6 155 rfl rfl), (sm_in1 14 rfl rfl), by decide +kernel, by decide +kernel, by decide +kernel, by decide +kernel⟩
theorem sm_cd_182 : sm_cdP 182 := ⟨(sm_in6 163 rfl rfl), (sm_in1 14 rfl rfl), by decide +kernel, by decide +kernel, by decide +kernel, by decide +kernel⟩
theorem sm_cd_183 : sm_cdP 183 := ⟨(sm_in6 167 rfl rfl), (sm_in1 14 rfl rfl), by decide +kernel, by decide +kernel, by decide +kernel, by decide +kernel⟩
theorem sm_cd_184 : sm_cdP 184 := ⟨(sm_in6 159 rfl rfl), (sm_in1 14 rfl rfl), by decide +kernel, by decide +kernel, by decide +kernel, by decide +kernel⟩
theorem sm_cd_185 : sm_cdP 185 := ⟨(sm_in6 175 rfl rfl), (sm_in1 14 rfl rfl), by decide +kernel, by decide +kernel, by decide +kernel, by decide +kernel⟩
theorem sm_cd_186 : sm_cdP 186 := ⟨(sm_in6 179 rfl rfl), (sm_in1 14 rfl rfl), by decide +kernel, by decide +kernel, by decide +kernel, by decide +kernel⟩
theorem sm_cd_187 : sm_cdP 187 := ⟨(sm_in6 171 rfl rfl), (sm_in1 14 rfl rfl), by decide +kernel, by decide +kernel, by decide +kernel, by decide +kernel⟩
theorem sm_cd_188 : sm_cdP 188 := ⟨(sm_in6 183 rfl rfl), (sm_in1 14 rfl rfl), by decide +kernel, by decide +kernel, by decide +kernel, by decide +kernel⟩
theorem sm_cd_189 : sm_cdP 189 := ⟨(sm_in6 191 rfl rfl), (sm_in1 14 rfl rfl), by decide +kernel, by decide +kernel, by decide +kernel, by decide +kernel⟩
theorem sm_cd_190 : sm_cdP 190 := ⟨(sm_in6 187 rfl rfl), (sm_in1 14 rfl rfl), by decide +kernel, by decide +kernel, by decide +kernel, by decide +kernel⟩
theorem sm_cd_191 : sm_cdP 191 := ⟨(sm_in6 195 rfl rfl), (sm_in1 14 rfl rfl), by decide +kernel, by decide +kernel, by decide +kernel, by decide +kernel⟩
theorem sm_cd_192 : sm_cdP 192 := ⟨(sm_in6 199 rfl rfl), (sm_in1 14 rfl rfl), by decide +kernel, by decide +kernel, by decide +kernel, by decide +kernel⟩
theorem sm_cd_193 : sm_cdP 193 := ⟨(sm_in6 207 rfl rfl), (sm_in1 14 rfl rfl), by decide +kernel, by decide +kernel, by decide +kernel, by decide +kernel⟩
theorem sm_cd_194 : sm_cdP 194 := ⟨(sm_in6 203 rfl rfl), (sm_in1 14 rfl rfl), by decide +kernel, by decide +kernel, by decide +kernel, by decide +kernel⟩
theorem sm_cd_195 : sm_cdP 195 := ⟨(sm_in6 211 rfl rfl), (sm_in1 14 rfl rfl), by decide +kernel, by decide +kernel, by decide +kernel, by decide +kernel⟩
theorem sm_cd_196 : sm_cdP 196 := ⟨(sm_in6 215 rfl rfl), (sm_in1 14 rfl rfl), by decide +kernel, by decide +kernel, by decide +kernel, by decide +kernel⟩
theorem sm_cd_197 : sm_cdP 197 := ⟨(sm_in6 219 rfl rfl), (sm_in1 14 rfl rfl), by decide +kernel, by decide +kernel, by decide +kernel, by decide +kernel⟩
theorem sm_cd_199 : sm_cdP 199 := ⟨(sm_in3 61 rfl rfl), (sm_in1 16 rfl rfl), by decide +kernel, by decide +kernel, by decide +kernel, by decide +kernel⟩
theorem sm_cd_200 : sm_cdP 200 := ⟨(sm_in3 71 rfl rfl), (sm_in1 16 rfl rfl), by decide +kernel, by decide +kernel, by decide +kernel, by decide +kernel⟩
theorem sm_cd_201 : sm_cdP 201 := ⟨(sm_in3 65 rfl rfl), (sm_in1 16 rfl rfl), by decide +kernel, by decide +kernel, by decide +kernel, by decide +kernel⟩
theorem sm_cd_202 : sm_cdP 202 := ⟨(sm_in3 75 rfl rfl), (sm_in1 16 rfl rfl), by decide +kernel, by decide +kernel, by decide +kernel, by decide +kernel⟩
theorem sm_cd_203 : sm_cdP 203 := ⟨(sm_in3 81 rfl rfl), (sm_in1 16 rfl rfl), by decide +kernel, by decide +kernel, by decide +kernel, by decide +kernel⟩
theorem sm_cd_204 : sm_cdP 204 := ⟨(sm_in3 78 rfl rfl), (sm_in1 17 rfl rfl), by decide +kernel, by decide +kernel, by decide +kernel, by decide +kernel⟩
theorem sm_cd_205 : sm_cdP 205 := ⟨(sm_in2 145 rfl rfl), (sm_in1 13 rfl rfl), by decide +kernel, by decide +kernel, by decide +kernel, by decide +kernel⟩
theorem sm_cd_206 : sm_cdP 206 := ⟨(sm_in3 115 rfl rfl), (sm_in1 13 rfl rfl), by decide +kernel, by decide +kernel, by decide +kernel, by decide +kernel⟩
theorem sm_cd_207 : sm_cdP 207 := ⟨(sm_in3 86 rfl rfl), (sm_in1 18 rfl rfl), by decide +kernel, by decide +kernel, by decide +kernel, by decide +kernel⟩
theorem sm_cd_208 : sm_cdP 208 := ⟨(sm_in3 232 rfl rfl), (sm_in1 2 rfl rfl), by decide +kernel, by decide +kernel, by decide +kernel, by decide +kernel⟩
def sm_mvP (q : Nat × Nat × Nat) : Prop := sm_cdP q.2.2 ∧ Cond.methodLink (sm_cs q.1) q.2.1 (sm_y q.2.2) ∈ sm_wds ∧ Cond.instanceMethod (sm_y q.2.2) ∈ sm_wds ∧ Cond.selects (sm_y q.2.2).cls (sm_y q.2.2) (sm_y q.2.2) ∈ sm_wds ∧ ((sm_rk q.2.2 = 103 ∧ (sm_y q.2.2).cls = "java/lang/String") ∨ ∃ (T : u_T) (N : Nat), vwCl[sm_rk q.2.2]? = some ((sm_y q.2.2).cls, T, N))
def sm_mvT : List (Nat × Nat × Nat) := [(0, 39, 2), (0, 49, 9), (0, 53, 12), (1, 93, 76), (1, 105, 55), (1, 109, 77), (1, 118, 11), (1, 122, 10), (1, 132, 9), (1, 136, 54), (1, 139, 208), (1, 149, 19), (3, 27, 26), (3, 31, 28), (3, 35, 27), (3, 39, 12), (3, 60, 9), (4, 18, 31), (4, 31, 32), (4, 41, 33), (4, 67, 39), (4, 71, 40), (4, 74, 41), (4, 77, 42), (4, 80, 43), (4, 83, 44), (4, 86, 46), (4, 117, 199), (4, 122, 200), (4, 129, 50), (4, 133, 38), (4, 140, 49), (4, 144, 47), (4, 150, 48), (4, 153, 45), (6, 36, 58), (6, 40, 8), (6, 50, 9), (7, 41, 76), (7, 55, 61), (7, 59, 16), (7, 63, 54), (7, 76, 62), (7, 80, 22), (7, 86, 13), (7, 90, 63), (7, 94, 11), (7, 98, 78), (7, 108, 79), (7, 112, 14), (7, 115, 52), (7, 125, 9), (8, 30, 57), (8, 36, 60), (8, 44, 54), (8, 54, 67), (8, 57, 68), (8, 65, 8), (8, 81, 58), (8, 89, 1), (8, 94, 3), (8, 116, 72), (9, 43, 55), (9, 47, 53), (9, 51, 11), (9, 57, 52), (10, 58, 6), (10, 72, 8), (10, 89, 114), (10, 99, 10), (10, 109, 52), (10, 121, 115), (10, 128, 30), (10, 147, 116), (10, 154, 18), (10, 161, 57), (10, 178, 1), (10, 187, 4), (10, 194, 11), (10, 212, 54), (10, 216, 17), (10, 219, 80), (10, 222, 65), (10, 232, 66), (10, 248, 15), (10, 254, 70), (10, 260, 73), (10, 273, 25), (10, 277, 7), (10, 284, 208), (10, 289, 81), (10, 297, 60), (10, 300, 20), (11, 65, 118), (11, 69, 119), (11, 79, 121), (11, 85, 122), (11, 89, 128), (11, 93, 123), (11, 105, 199), (11, 111, 200), (11, 117, 141), (11, 154, 142), (11, 157, 138), (11, 167, 143), (11, 182, 145), (11, 185, 144), (11, 194, 150), (11, 198, 147), (11, 201, 151), (11, 204, 153), (11, 207, 154), (11, 210, 148), (11, 213, 152), (11, 216, 146), (11, 219, 149), (11, 228, 155), (11, 235, 163), (11, 245, 164), (11, 251, 159), (11, 258, 165), (11, 262, 166), (11, 265, 167), (11, 268, 169), (11, 272, 168), (11, 275, 170), (11, 278, 172), (11, 284, 173), (11, 287, 171), (11, 290, 174), (11, 293, 125), (11, 296, 175), (11, 302, 182), (11, 305, 183), (11, 320, 185), (11, 324, 186), (11, 327, 189), (11, 330, 193), (11, 336, 197), (12, 13, 83), (12, 17, 124), (12, 18, 84), (12, 22, 126), (12, 23, 85), (12, 27, 127), (12, 28, 86), (12, 32, 129), (12, 33, 87), (12, 36, 130), (12, 37, 88), (12, 41, 131), (12, 42, 89), (12, 45, 132), (12, 46, 90), (12, 50, 133), (12, 51, 91), (12, 55, 134), (12, 56, 92), (12, 60, 135), (12, 61, 93), (12, 64, 136), (12, 65, 94), (12, 68, 137), (12, 69, 95), (12, 72, 156), (12, 73, 96), (12, 76, 157), (12, 77, 97), (12, 81, 175), (12, 82, 98), (12, 85, 176), (12, 86, 99), (12, 89, 177), (12, 90, 100), (12, 94, 178), (12, 95, 101), (12, 98, 180), (12, 99, 102), (12, 103, 181), (12, 104, 103), (12, 107, 184), (12, 108, 104), (12, 111, 187), (12, 112, 105), (12, 115, 188), (12, 116, 106), (12, 119, 190), (12, 120, 107), (12, 123, 191), (12, 124, 108), (12, 127, 192), (12, 128, 109), (12, 131, 194), (12, 132, 110), (12, 136, 195), (12, 137, 111), (12, 140, 196), (13, 335, 201), (13, 492, 202)]
theorem sm_mvT_0 : sm_mvP (0, 39, 2) := ⟨sm_cd_2, (sm_in4 54 rfl rfl), (sm_in4 56 rfl rfl), (sm_in0 22 rfl rfl), Or.inr ⟨_, _, rfl⟩⟩
theorem sm_mvT_1 : sm_mvP (0, 49, 9) := ⟨sm_cd_9, (sm_in4 60 rfl rfl), (sm_in3 209 rfl rfl), (sm_in3 210 rfl rfl), Or.inr ⟨_, _, rfl⟩⟩
theorem sm_mvT_2 : sm_mvP (0, 53, 12) := ⟨sm_cd_12, (sm_in4 61 rfl rfl), (sm_in4 62 rfl rfl), (sm_in4 63 rfl rfl), Or.inr ⟨_, _, rfl⟩⟩
theorem sm_mvT_3 : sm_mvP (1, 93, 76) := ⟨sm_cd_76, (sm_in2 146 rfl rfl), (sm_in2 147 rfl rfl), (sm_in2 148 rfl rfl), Or.inr ⟨_, _, rfl⟩⟩
theorem sm_mvT_4 : sm_mvP (1, 105, 55) := ⟨sm_cd_55, (sm_in4 226 rfl rfl), (sm_in4 227 rfl rfl), (sm_in4 228 rfl rfl), Or.inr ⟨_, _, rfl⟩⟩
theorem sm_mvT_5 : sm_mvP (1, 109, 77) := ⟨sm_cd_77, (sm_in4 232 rfl rfl), (sm_in4 233 rfl rfl), (sm_in4 234 rfl rfl), Or.inr ⟨_, _, rfl⟩⟩
theorem sm_mvT_6 : sm_mvP (1, 118, 11) := ⟨sm_cd_11, (sm_in4 65 rfl rfl), (sm_in4 4 rfl rfl), (sm_in4 5 rfl rfl), Or.inr ⟨_, _, rfl⟩⟩
theorem sm_mvT_7 : sm_mvP (1, 122, 10) := ⟨sm_cd_10, (sm_in4 20 rfl rfl), (sm_in3 1 rfl rfl), (sm_in3 2 rfl rfl), Or.inr ⟨_, _, rfl⟩⟩
theorem sm_mvT_8 : sm_mvP (1, 132, 9) := ⟨sm_cd_9, (sm_in4 47 rfl rfl), (sm_in3 209 rfl rfl), (sm_in3 210 rfl rfl), Or.inr ⟨_, _, rfl⟩⟩
theorem sm_mvT_9 : sm_mvP (1, 136, 54) := ⟨sm_cd_54, (sm_in3 225 rfl rfl), (sm_in3 226 rfl rfl), (sm_in3 227 rfl rfl), Or.inr ⟨_, _, rfl⟩⟩
theorem sm_mvT_10 : sm_mvP (1, 139, 208) := ⟨sm_cd_208, (sm_in3 229 rfl rfl), (sm_in3 230 rfl rfl), (sm_in3 231 rfl rfl), Or.inr ⟨_, _, rfl⟩⟩
theorem sm_mvT_11 : sm_mvP (1, 149, 19) := ⟨sm_cd_19, (sm_in4 78 rfl rfl), (sm_in4 80 rfl rfl), (sm_in0 23 rfl rfl), Or.inr ⟨_, _, rfl⟩⟩
theorem sm_mvT_12 : sm_mvP (3, 27, 26) := ⟨sm_cd_26, (sm_in4 201 rfl rfl), (sm_in4 203 rfl rfl), (sm_in0 27 rfl rfl), Or.inr ⟨_, _, rfl⟩⟩
theorem sm_mvT_13 : sm_mvP (3, 31, 28) := ⟨sm_cd_28, (sm_in4 213 rfl rfl), (sm_in4 215 rfl rfl), (sm_in0 29 rfl rfl), Or.inr ⟨_, _, rfl⟩⟩
theorem sm_mvT_14 : sm_mvP (3, 35, 27) := ⟨sm_cd_27, (sm_in4 205 rfl rfl), (sm_in4 207 rfl rfl), (sm_in0 28 rfl rfl), Or.inr ⟨_, _, rfl⟩⟩
theorem sm_mvT_15 : sm_mvP (3, 39, 12) := ⟨sm_cd_12, (sm_in4 209 rfl rfl), (sm_in4 62 rfl rfl), (sm_in4 63 rfl rfl), Or.inr ⟨_, _, rfl⟩⟩
theorem sm_mvT_16 : sm_mvP (3, 60, 9) := ⟨sm_cd_9, (sm_in4 212 rfl rfl), (sm_in3 209 rfl rfl), (sm_in3 210 rfl rfl), Or.inr ⟨_, _, rfl⟩⟩
theorem sm_mvT_17 : sm_mvP (4, 18, 31) := ⟨sm_cd_31, (sm_in3 36 rfl rfl), (sm_in3 38 rfl rfl), (sm_in0 2 rfl rfl), Or.inr ⟨_, _, rfl⟩⟩
theorem sm_mvT_18 : sm_mvP (4, 31, 32) := ⟨sm_cd_32, (sm_in3 43 rfl rfl), (sm_in3 45 rfl rfl), (sm_in0 3 rfl rfl), Or.inr ⟨_, _, rfl⟩⟩
theorem sm_mvT_19 : sm_mvP (4, 41, 33) := ⟨sm_cd_33, (sm_in3 47 rfl rfl), (sm_in3 49 rfl rfl), (sm_in0 4 rfl rfl), Or.inr ⟨_, _, rfl⟩⟩
theorem sm_mvT_20 : sm_mvP (4, 67, 39) := ⟨sm_cd_39, (sm_in3 126 rfl rfl), (sm_in3 128 rfl rfl), (sm_in0 5 rfl rfl), Or.inr ⟨_, _, rfl⟩⟩
theorem sm_mvT_21 : sm_mvP (4, 71, 40) := ⟨sm_cd_40, (sm_in3 130 rfl rfl), (sm_in3 132 rfl rfl), (sm_in0 6 rfl rfl), Or.inr ⟨_, _, rfl⟩⟩
theorem sm_mvT_22 : sm_mvP (4, 74, 41) := ⟨sm_cd_41, (sm_in3 142 rfl rfl), (sm_in3 144 rfl rfl), (sm_in0 9 rfl rfl), Or.inr ⟨_, _, rfl⟩⟩
theorem sm_mvT_23 : sm_mvP (4, 77, 42) := ⟨sm_cd_42, (sm_in3 146 rfl rfl), (sm_in3 148 rfl rfl), (sm_in0 10 rfl rfl), Or.inr ⟨_, _, rfl⟩⟩
theorem sm_mvT_24 : sm_mvP (4, 80, 43) := ⟨sm_cd_43, (sm_in3 154 rfl rfl), (sm_in3 156 rfl rfl), (sm_in0 12 rfl rfl), Or.inr ⟨_, _, rfl⟩⟩
theorem sm_mvT_25 : sm_mvP (4, 83, 44) := ⟨sm_cd_44, (sm_in3 158 rfl rfl), (sm_in3 160 rfl rfl), (sm_in0 13 rfl rfl), Or.inr ⟨_, _, rfl⟩⟩
theorem sm_mvT_26 : sm_mvP (4, 86, 46) := ⟨sm_cd_46, (sm_in3 176 rfl rfl), (sm_in3 178 rfl rfl), (sm_in0 17 rfl rfl), Or.inr ⟨_, _, rfl⟩⟩
theorem sm_mvT_27 : sm_mvP (4, 117, 199) := ⟨sm_cd_199, (sm_in3 58 rfl rfl), (sm_in3 59 rfl rfl), (sm_in3 60 rfl rfl), Or.inl ⟨rfl, rfl⟩⟩
theorem sm_mvT_28 : sm_mvP (4, 122, 200) := ⟨sm_cd_200, (sm_in3 68 rfl rfl), (sm_in3 69 rfl rfl), (sm_in3 70 rfl rfl), Or.inl ⟨rfl, rfl⟩⟩
theorem sm_mvT_29 : sm_mvP (4, 129, 50) := ⟨sm_cd_50, (sm_in3 134 rfl rfl), (sm_in3 136 rfl rfl), (sm_in0 7 rfl rfl), Or.inr ⟨_, _, rfl⟩⟩
theorem sm_mvT_30 : sm_mvP (4, 133, 38) := ⟨sm_cd_38, (sm_in3 138 rfl rfl), (sm_in3 140 rfl rfl), (sm_in0 8 rfl rfl), Or.inr ⟨_, _, rfl⟩⟩
theorem sm_mvT_31 : sm_mvP (4, 140, 49) := ⟨sm_cd_49, (sm_in3 150 rfl rfl), (sm_in3 152 rfl rfl), (sm_in0 11 rfl rfl), Or.inr ⟨_, _, rfl⟩⟩
theorem sm_mvT_32 : sm_mvP (4, 144, 47) := ⟨sm_cd_47, (sm_in3 162 rfl rfl), (sm_in3 164 rfl rfl), (sm_in0 14 rfl rfl), Or.inr ⟨_, _, rfl⟩⟩
theorem sm_mvT_33 : sm_mvP (4, 150, 48) := ⟨sm_cd_48, (sm_in3 168 rfl rfl), (sm_in3 170 rfl rfl), (sm_in0 15 rfl rfl), Or.inr ⟨_, _, rfl⟩⟩
theorem sm_mvT_34 : sm_mvP (4, 153, 45) := ⟨sm_cd_45, (sm_in3 172 rfl rfl), (sm_in3 174 rfl rfl), (sm_in0 16 rfl rfl), Or.inr ⟨_, _, rfl⟩⟩
theorem sm_mvT_35 : sm_mvP (6, 36, 58) := ⟨sm_cd_58, (sm_in3 199 rfl rfl), (sm_in3 200 rfl rfl), (sm_in3 201 rfl rfl), Or.inr ⟨_, _, rfl⟩⟩
theorem sm_mvT_36 : sm_mvP (6, 40, 8) := ⟨sm_cd_8, (sm_in3 203 rfl rfl), (sm_in2 207 rfl rfl), (sm_in2 208 rfl rfl), Or.inr ⟨_, _, rfl⟩⟩
theorem sm_mvT_37 : sm_mvP (6, 50, 9) := ⟨sm_cd_9, (sm_in3 208 rfl rfl), (sm_in3 209 rfl rfl), (sm_in3 210 rfl rfl), Or.inr ⟨_, _, rfl⟩⟩
theorem sm_mvT_38 : sm_mvP (7, 41, 76) := ⟨sm_cd_76, (sm_in3 216 rfl rfl), (sm_in2 147 rfl rfl), (sm_in2 148 rfl rfl), Or.inr ⟨_, _, rfl⟩⟩
theorem sm_mvT_39 : sm_mvP (7, 55, 61) := ⟨sm_cd_61, (sm_in3 217 rfl rfl), (sm_in3 219 rfl rfl), (sm_in0 19 rfl rfl), Or.inr ⟨_, _, rfl⟩⟩
theorem sm_mvT_40 : sm_mvP (7, 59, 16) := ⟨sm_cd_16, (sm_in3 221 rfl rfl), (sm_in3 222 rfl rfl), (sm_in3 223 rfl rfl), Or.inr ⟨_, _, rfl⟩⟩
theorem sm_mvT_41 : sm_mvP (7, 63, 54) := ⟨sm_cd_54, (sm_in3 233 rfl rfl), (sm_in3 226 rfl rfl), (sm_in3 227 rfl rfl), Or.inr ⟨_, _, rfl⟩⟩
theorem sm_mvT_42 : sm_mvP (7, 76, 62) := ⟨sm_cd_62, (sm_in3 234 rfl rfl), (sm_in3 236 rfl rfl), (sm_in0 20 rfl rfl), Or.inr ⟨_, _, rfl⟩⟩
theorem sm_mvT_43 : sm_mvP (7, 80, 22) := ⟨sm_cd_22, (sm_in4 9 rfl rfl), (sm_in4 10 rfl rfl), (sm_in4 11 rfl rfl), Or.inr ⟨_, _, rfl⟩⟩
theorem sm_mvT_44 : sm_mvP (7, 86, 13) := ⟨sm_cd_13, (sm_in4 16 rfl rfl), (sm_in4 17 rfl rfl), (sm_in4 18 rfl rfl), Or.inr ⟨_, _, rfl⟩⟩
theorem sm_mvT_45 : sm_mvP (7, 90, 63) := ⟨sm_cd_63, (sm_in4 21 rfl rfl), (sm_in4 23 rfl rfl), (sm_in0 21 rfl rfl), Or.inr ⟨_, _, rfl⟩⟩
theorem sm_mvT_46 : sm_mvP (7, 94, 11) := ⟨sm_cd_11, (sm_in4 3 rfl rfl), (sm_in4 4 rfl rfl), (sm_in4 5 rfl rfl), Or.inr ⟨_, _, rfl⟩⟩
theorem sm_mvT_47 : sm_mvP (7, 98, 78) := ⟨sm_cd_78, (sm_in4 25 rfl rfl), (sm_in4 26 rfl rfl), (sm_in4 27 rfl rfl), Or.inr ⟨_, _, rfl⟩⟩
theorem sm_mvT_48 : sm_mvP (7, 108, 79) := ⟨sm_cd_79, (sm_in4 31 rfl rfl), (sm_in4 32 rfl rfl), (sm_in4 33 rfl rfl), Or.inr ⟨_, _, rfl⟩⟩
theorem sm_mvT_49 : sm_mvP (7, 112, 14) := ⟨sm_cd_14, (sm_in4 41 rfl rfl), (sm_in4 42 rfl rfl), (sm_in4 43 rfl rfl), Or.inr ⟨_, _, rfl⟩⟩
theorem sm_mvT_50 : sm_mvP (7, 115, 52) := ⟨sm_cd_52, (sm_in4 48 rfl rfl), (sm_in3 9 rfl rfl), (sm_in3 10 rfl rfl), Or.inr ⟨_, _, rfl⟩⟩
theorem sm_mvT_51 : sm_mvP (7, 125, 9) := ⟨sm_cd_9, (sm_in4 2 rfl rfl), (sm_in3 209 rfl rfl), (sm_in3 210 rfl rfl), Or.inr ⟨_, _, rfl⟩⟩
theorem sm_mvT_52 : sm_mvP (8, 30, 57) := ⟨sm_cd_57, (sm_in4 125 rfl rfl), (sm_in3 194 rfl rfl), (sm_in3 195 rfl rfl), Or.inr ⟨_, _, rfl⟩⟩
theorem sm_mvT_53 : sm_mvP (8, 36, 60) := ⟨sm_cd_60, (sm_in4 126 rfl rfl), (sm_in3 213 rfl rfl), (sm_in3 214 rfl rfl), Or.inr ⟨_, _, rfl⟩⟩
theorem sm_mvT_54 : sm_mvP (8, 44, 54) := ⟨sm_cd_54, (sm_in4 127 rfl rfl), (sm_in3 226 rfl rfl), (sm_in3 227 rfl rfl), Or.inr ⟨_, _, rfl⟩⟩
theorem sm_mvT_55 : sm_mvP (8, 54, 67) := ⟨sm_cd_67, (sm_in4 136 rfl rfl), (sm_in4 138 rfl rfl), (sm_in0 24 rfl rfl), Or.inr ⟨_, _, rfl⟩⟩
theorem sm_mvT_56 : sm_mvP (8, 57, 68) := ⟨sm_cd_68, (sm_in4 141 rfl rfl), (sm_in4 143 rfl rfl), (sm_in0 25 rfl rfl), Or.inr ⟨_, _, rfl⟩⟩
theorem sm_mvT_57 : sm_mvP (8, 65, 8) := ⟨sm_cd_8, (sm_in4 140 rfl rfl), (sm_in2 207 rfl rfl), (sm_in2 208 rfl rfl), Or.inr ⟨_, _, rfl⟩⟩
theorem sm_mvT_58 : sm_mvP (8, 81, 58) := ⟨sm_cd_58, (sm_in4 148 rfl rfl), (sm_in3 200 rfl rfl), (sm_in3 201 rfl rfl), Or.inr ⟨_, _, rfl⟩⟩
theorem sm_mvT_59 : sm_mvP (8, 89, 1) := ⟨sm_cd_1, (sm_in4 149 rfl rfl), (sm_in4 50 rfl rfl), (sm_in4 51 rfl rfl), Or.inr ⟨_, _, rfl⟩⟩
theorem sm_mvT_60 : sm_mvP (8, 94, 3) := ⟨sm_cd_3, (sm_in4 150 rfl rfl), (sm_in4 151 rfl rfl), (sm_in4 152 rfl rfl), Or.inr ⟨_, _, rfl⟩⟩
theorem sm_mvT_61 : sm_mvP (8, 116, 72) := ⟨sm_cd_72, (sm_in4 170 rfl rfl), (sm_in4 172 rfl rfl), (sm_in0 26 rfl rfl), Or.inr ⟨_, _, rfl⟩⟩
theorem sm_mvT_62 : sm_mvP (9, 43, 55) := ⟨sm_cd_55, (sm_in4 237 rfl rfl), (sm_in4 227 rfl rfl), (sm_in4 228 rfl rfl), Or.inr ⟨_, _, rfl⟩⟩
theorem sm_mvT_63 : sm_mvP (9, 47, 53) := ⟨sm_cd_53, (sm_in4 35 rfl rfl), (sm_in4 36 rfl rfl), (sm_in4 37 rfl rfl), Or.inr ⟨_, _, rfl⟩⟩
theorem sm_mvT_64 : sm_mvP (9, 51, 11) := ⟨sm_cd_11, (sm_in4 39 rfl rfl), (sm_in4 4 rfl rfl), (sm_in4 5 rfl rfl), Or.inr ⟨_, _, rfl⟩⟩
theorem sm_mvT_65 : sm_mvP (9, 57, 52) := ⟨sm_cd_52, (sm_in4 40 rfl rfl), (sm_in3 9 rfl rfl), (sm_in3 10 rfl rfl), Or.inr ⟨_, _, rfl⟩⟩
theorem sm_mvT_66 : sm_mvP (10, 58, 6) := ⟨sm_cd_6, (sm_in2 139 rfl rfl), (sm_in2 140 rfl rfl), (sm_in2 141 rfl rfl), Or.inr ⟨_, _, rfl⟩⟩
theorem sm_mvT_67 : sm_mvP (10, 72, 8) := ⟨sm_cd_8, (sm_in2 206 rfl rfl), (sm_in2 207 rfl rfl), (sm_in2 208 rfl rfl), Or.inr ⟨_, _, rfl⟩⟩
theorem sm_mvT_68 : sm_mvP (10, 89, 114) := ⟨sm_cd_114, (sm_in2 217 rfl rfl), (sm_in2 219 rfl rfl), (sm_in0 0 rfl rfl), Or.inr ⟨_, _, rfl⟩⟩
theorem sm_mvT_69 : sm_mvP (10, 99, 10) := ⟨sm_cd_10, (sm_in3 0 rfl rfl), (sm_in3 1 rfl rfl), (sm_in3 2 rfl rfl), Or.inr ⟨_, _, rfl⟩⟩
theorem sm_mvT_70 : sm_mvP (10, 109, 52) := ⟨sm_cd_52, (sm_in3 8 rfl rfl), (sm_in3 9 rfl rfl), (sm_in3 10 rfl rfl), Or.inr ⟨_, _, rfl⟩⟩
theorem sm_mvT_71 : sm_mvP (10, 121, 115) := ⟨sm_cd_115, (sm_in3 20 rfl rfl), (sm_in3 22 rfl rfl), (sm_in0 1 rfl rfl), Or.inr ⟨_, _, rfl⟩⟩
theorem sm_mvT_72 : sm_mvP (10, 128, 30) := ⟨sm_cd_30, (sm_in3 32 rfl rfl), (sm_in3 33 rfl rfl), (sm_in3 34 rfl rfl), Or.inr ⟨_, _, rfl⟩⟩
theorem sm_mvT_73 : sm_mvP (10, 147, 116) := ⟨sm_cd_116, (sm_in3 189 rfl rfl), (sm_in3 191 rfl rfl), (sm_in0 18 rfl rfl), Or.inr ⟨_, _, rfl⟩⟩
theorem sm_mvT_74 : sm_mvP (10, 154, 18) := ⟨sm_cd_18, (sm_in4 74 rfl rfl), (sm_in4 75 rfl rfl), (sm_in4 76 rfl rfl), Or.inr ⟨_, _, rfl⟩⟩
theorem sm_mvT_75 : sm_mvP (10, 161, 57) := ⟨sm_cd_57, (sm_in3 193 rfl rfl), (sm_in3 194 rfl rfl), (sm_in3 195 rfl rfl), Or.inr ⟨_, _, rfl⟩⟩
theorem sm_mvT_76 : sm_mvP (10, 178, 1) := ⟨sm_cd_1, (sm_in4 49 rfl rfl), (sm_in4 50 rfl rfl), (sm_in4 51 rfl rfl), Or.inr ⟨_, _, rfl⟩⟩
theorem sm_mvT_77 : sm_mvP (10, 187, 4) := ⟨sm_cd_4, (sm_in4 88 rfl rfl), (sm_in4 89 rfl rfl), (sm_in4 90 rfl rfl), Or.inr ⟨_, _, rfl⟩⟩
theorem sm_mvT_78 : sm_mvP (10, 194, 11) := ⟨sm_cd_11, (sm_in4 96 rfl rfl), (sm_in4 4 rfl rfl), (sm_in4 5 rfl rfl), Or.inr ⟨_, _, rfl⟩⟩
theorem sm_mvT_79 : sm_mvP (10, 212, 54) := ⟨sm_cd_54, (sm_in4 101 rfl rfl), (sm_in3 226 rfl rfl), (sm_in3 227 rfl rfl), Or.inr ⟨_, _, rfl⟩⟩
theorem sm_mvT_80 : sm_mvP (10, 216, 17) := ⟨sm_cd_17, (sm_in4 102 rfl rfl), (sm_in4 103 rfl rfl), (sm_in4 104 rfl rfl), Or.inr ⟨_, _, rfl⟩⟩
theorem sm_mvT_81 : sm_mvP (10, 219, 80) := ⟨sm_cd_80, (sm_in4 113 rfl rfl), (sm_in4 114 rfl rfl), (sm_in4 115 rfl rfl), Or.inr ⟨_, _, rfl⟩⟩
theorem sm_mvT_82 : sm_mvP (10, 222, 65) := ⟨sm_cd_65, (sm_in4 121 rfl rfl), (sm_in4 122 rfl rfl), (sm_in4 123 rfl rfl), Or.inr ⟨_, _, rfl⟩⟩
theorem sm_mvT_83 : sm_mvP (10, 232, 66) := ⟨sm_cd_66, (sm_in4 132 rfl rfl), (sm_in4 133 rfl rfl), (sm_in4 134 rfl rfl), Or.inr ⟨_, _, rfl⟩⟩
theorem sm_mvT_84 : sm_mvP (10, 248, 15) := ⟨sm_cd_15, (sm_in4 158 rfl rfl), (sm_in4 159 rfl rfl), (sm_in4 160 rfl rfl), Or.inr ⟨_, _, rfl⟩⟩
theorem sm_mvT_85 : sm_mvP (10, 254, 70) := ⟨sm_cd_70, (sm_in4 166 rfl rfl), (sm_in4 167 rfl rfl), (sm_in4 168 rfl rfl), Or.inr ⟨_, _, rfl⟩⟩
theorem sm_mvT_86 : sm_mvP (10, 260, 73) := ⟨sm_cd_73, (sm_in4 185 rfl rfl), (sm_in4 186 rfl rfl), (sm_in4 187 rfl rfl), Or.inr ⟨_, _, rfl⟩⟩
theorem sm_mvT_87 : sm_mvP (10, 273, 25) := ⟨sm_cd_25, (sm_in4 196 rfl rfl), (sm_in4 197 rfl rfl), (sm_in4 198 rfl rfl), Or.inr ⟨_, _, rfl⟩⟩
theorem sm_mvT_88 : sm_mvP (10, 277, 7) := ⟨sm_cd_7, (sm_in4 221 rfl rfl), (sm_in4 222 rfl rfl), (sm_in4 223 rfl rfl), Or.inr ⟨_, _, rfl⟩⟩
theorem sm_mvT_89 : sm_mvP (10, 284, 208) := ⟨sm_cd_208, (sm_in5 2 rfl rfl), (sm_in3 230 rfl rfl), (sm_in3 231 rfl rfl), Or.inr ⟨_, _, rfl⟩⟩
theorem sm_mvT_90 : sm_mvP (10, 289, 81) := ⟨sm_cd_81, (sm_in5 3 rfl rfl), (sm_in5 4 rfl rfl), (sm_in5 5 rfl rfl), Or.inr ⟨_, _, rfl⟩⟩
theorem sm_mvT_91 : sm_mvP (10, 297, 60) := ⟨sm_cd_60, (sm_in3 212 rfl rfl), (sm_in3 213 rfl rfl), (sm_in3 214 rfl rfl), Or.inr ⟨_, _, rfl⟩⟩
theorem sm_mvT_92 : sm_mvP (10, 300, 20) := ⟨sm_cd_20, (sm_in4 66 rfl rfl), (sm_in4 67 rfl rfl), (sm_in4 68 rfl rfl), Or.inr ⟨_, _, rfl⟩⟩
theorem sm_mvT_93 : sm_mvP (11, 65, 118) := ⟨sm_cd_118, (sm_in5 13 rfl rfl), (sm_in5 15 rfl rfl), (sm_in0 30 rfl rfl), Or.inr ⟨_, _, rfl⟩⟩
theorem sm_mvT_94 : sm_mvP (11, 69, 119) := ⟨sm_cd_119, (sm_in5 17 rfl rfl), (sm_in5 19 rfl rfl), (sm_in0 31 rfl rfl), Or.inr ⟨_, _, rfl⟩⟩
theorem sm_mvT_95 : sm_mvP (11, 79, 121) := ⟨sm_cd_121, (sm_in5 152 rfl rfl), (sm_in5 154 rfl rfl), (sm_in0 33 rfl rfl), Or.inr ⟨_, _, rfl⟩⟩
theorem sm_mvT_96 : sm_mvP (11, 85, 122) := ⟨sm_cd_122, (sm_in5 148 rfl rfl), (sm_in5 150 rfl rfl), (sm_in0 32 rfl rfl), Or.inr ⟨_, _, rfl⟩⟩
theorem sm_mvT_97 : sm_mvP (11, 89, 128) := ⟨sm_cd_128, (sm_in5 160 rfl rfl), (sm_in5 162 rfl rfl), (sm_in0 34 rfl rfl), Or.inr ⟨_, _, rfl⟩⟩
theorem sm_mvT_98 : sm_mvP (11, 93, 123) := ⟨sm_cd_123, (sm_in5 180 rfl rfl), (sm_in5 182 rfl rfl), (sm_in0 35 rfl rfl), Or.inr ⟨_, _, rfl⟩⟩
theorem sm_mvT_99 : sm_mvP (11, 105, 199) := ⟨sm_cd_199, (sm_in5 224 rfl rfl), (sm_in3 59 rfl rfl), (sm_in3 60 rfl rfl), Or.inl ⟨rfl, rfl⟩⟩
theorem sm_mvT_100 : sm_mvP (11, 111, 200) := ⟨sm_cd_200, (sm_in5 225 rfl rfl), (sm_in3 69 rfl rfl), (sm_in3 70 rfl rfl), Or.inl ⟨rfl, rfl⟩⟩
theorem sm_mvT_101 : sm_mvP (11, 117, 141) := ⟨sm_cd_141, (sm_in5 220 rfl rfl), (sm_in5 222 rfl rfl), (sm_in0 39 rfl rfl), Or.inr ⟨_, _, rfl⟩⟩
theorem sm_mvT_102 : sm_mvP (11, 154, 142) := ⟨sm_cd_142, (sm_in5 234 rfl rfl), (sm_in5 236 rfl rfl), (sm_in0 40 rfl rfl), Or.inr ⟨_, _, rfl⟩⟩
theorem sm_mvT_103 : sm_mvP (11, 157, 138) := ⟨sm_cd_138, (sm_in5 208 rfl rfl), (sm_in5 210 rfl rfl), (sm_in0 37 rfl rfl), Or.inr ⟨_, _, rfl⟩⟩
theorem sm_mvT_104 : sm_mvP (11, 167, 143) := ⟨sm_cd_143, (sm_in5 215 rfl rfl), (sm_in5 217 rfl rfl), (sm_in0 38 rfl rfl), Or.inr ⟨_, _, rfl⟩⟩
theorem sm_mvT_105 : sm_mvP (11, 182, 145) := ⟨sm_cd_145, (sm_in6 14 rfl rfl), (sm_in6 16 rfl rfl), (sm_in0 42 rfl rfl), Or.inr ⟨_, _, rfl⟩⟩
theorem sm_mvT_106 : sm_mvP (11, 185, 144) := ⟨sm_cd_144, (sm_in5 204 rfl rfl), (sm_in5 206 rfl rfl), (sm_in0 36 rfl rfl), Or.inr ⟨_, _, rfl⟩⟩
theorem sm_mvT_107 : sm_mvP (11, 194, 150) := ⟨sm_cd_150, (sm_in6 46 rfl rfl), (sm_in6 48 rfl rfl), (sm_in0 50 rfl rfl), Or.inr ⟨_, _, rfl⟩⟩
theorem sm_mvT_108 : sm_mvP (11, 198, 147) := ⟨sm_cd_147, (sm_in6 34 rfl rfl), (sm_in6 36 rfl rfl), (sm_in0 47 rfl rfl), Or.inr ⟨_, _, rfl⟩⟩
theorem sm_mvT_109 : sm_mvP (11, 201, 151) := ⟨sm_cd_151, (sm_in6 50 rfl rfl), (sm_in6 52 rfl rfl), (sm_in0 51 rfl rfl), Or.inr ⟨_, _, rfl⟩⟩
theorem sm_mvT_110 : sm_mvP (11, 204, 153) := ⟨sm_cd_153, (sm_in6 22 rfl rfl), (sm_in6 24 rfl rfl), (sm_in0 44 rfl rfl), Or.inr ⟨_, _, rfl⟩⟩
theorem sm_mvT_111 : sm_mvP (11, 207, 154) := ⟨sm_cd_154, (sm_in6 26 rfl rfl), (sm_in6 28 rfl rfl), (sm_in0 45 rfl rfl), Or.inr ⟨_, _, rfl⟩⟩
theorem sm_mvT_112 : sm_mvP (11, 210, 148) := ⟨sm_cd_148, (sm_in6 30 rfl rfl), (sm_in6 32 rfl rfl), (sm_in0 46 rfl rfl), Or.inr ⟨_, _, rfl⟩⟩
theorem sm_mvT_113 : sm_mvP (11, 213, 152) := ⟨sm_cd_152, (sm_in6 18 rfl rfl), (sm_in6 20 rfl rfl), (sm_in0 43 rfl rfl), Or.inr ⟨_, _, rfl⟩⟩
theorem sm_mvT_114 : sm_mvP (11, 216, 146) := ⟨sm_cd_146, (sm_in6 38 rfl rfl), (sm_in6 40 rfl rfl), (sm_in0 48 rfl rfl), Or.inr ⟨_, _, rfl⟩⟩
theorem sm_mvT_115 : sm_mvP (11, 219, 149) := ⟨sm_cd_149, (sm_in6 42 rfl rfl), (sm_in6 44 rfl rfl), (sm_in0 49 rfl rfl), Or.inr ⟨_, _, rfl⟩⟩
theorem sm_mvT_116 : sm_mvP (11, 228, 155) := ⟨sm_cd_155, (sm_in6 10 rfl rfl), (sm_in6 12 rfl rfl), (sm_in0 41 rfl rfl), Or.inr ⟨_, _, rfl⟩⟩
theorem sm_mvT_117 : sm_mvP (11, 235, 163) := ⟨sm_cd_163, (sm_in6 84 rfl rfl), (sm_in6 86 rfl rfl), (sm_in0 56 rfl rfl), Or.inr ⟨_, _, rfl⟩⟩
theorem sm_mvT_118 : sm_mvP (11, 245, 164) := ⟨sm_cd_164, (sm_in6 80 rfl rfl), (sm_in6 82 rfl rfl), (sm_in0 55 rfl rfl), Or.inr ⟨_, _, rfl⟩⟩
theorem sm_mvT_119 : sm_mvP (11, 251, 159) := ⟨sm_cd_159, (sm_in6 95 rfl rfl), (sm_in6 97 rfl rfl), (sm_in0 58 rfl rfl), Or.inr ⟨_, _, rfl⟩⟩
theorem sm_mvT_120 : sm_mvP (11, 258, 165) := ⟨sm_cd_165, (sm_in6 70 rfl rfl), (sm_in6 72 rfl rfl), (sm_in0 54 rfl rfl), Or.inr ⟨_, _, rfl⟩⟩
theorem sm_mvT_121 : sm_mvP (11, 262, 166) := ⟨sm_cd_166, (sm_in6 91 rfl rfl), (sm_in6 93 rfl rfl), (sm_in0 57 rfl rfl), Or.inr ⟨_, _, rfl⟩⟩
theorem sm_mvT_122 : sm_mvP (11, 265, 167) := ⟨sm_cd_167, (sm_in6 102 rfl rfl), (sm_in6 104 rfl rfl), (sm_in0 59 rfl rfl), Or.inr ⟨_, _, rfl⟩⟩
theorem sm_mvT_123 : sm_mvP (11, 268, 169) := ⟨sm_cd_169, (sm_in6 106 rfl rfl), (sm_in6 108 rfl rfl), (sm_in0 60 rfl rfl), Or.inr ⟨_, _, rfl⟩⟩
theorem sm_mvT_124 : sm_mvP (11, 272, 168) := ⟨sm_cd_168, (sm_in6 110 rfl rfl), (sm_in6 112 rfl rfl), (sm_in0 61 rfl rfl), Or.inr ⟨_, _, rfl⟩⟩
theorem sm_mvT_125 : sm_mvP (11, 275, 170) := ⟨sm_cd_170, (sm_in6 66 rfl rfl), (sm_in6 68 rfl rfl), (sm_in0 53 rfl rfl), Or.inr ⟨_, _, rfl⟩⟩
theorem sm_mvT_126 : sm_mvP (11, 278, 172) := ⟨sm_cd_172, (sm_in6 122 rfl rfl), (sm_in6 124 rfl rfl), (sm_in0 64 rfl rfl), Or.inr ⟨_, _, rfl⟩⟩
theorem sm_mvT_127 : sm_mvP (11, 284, 173) := ⟨sm_cd_173, (sm_in6 118 rfl rfl), (sm_in6 120 rfl rfl), (sm_in0 63 rfl rfl), Or.inr ⟨_, _, rfl⟩⟩
theorem sm_mvT_128 : sm_mvP (11, 287, 171) := ⟨sm_cd_171, (sm_in6 62 rfl rfl), (sm_in6 64 rfl rfl), (sm_in0 52 rfl rfl), Or.inr ⟨_, _, rfl⟩⟩
theorem sm_mvT_129 : sm_mvP (11, 290, 174) := ⟨sm_cd_174, (sm_in6 114 rfl rfl), (sm_in6 116 rfl rfl), (sm_in0 62 rfl rfl), Or.inr ⟨_, _, rfl⟩⟩
theorem sm_mvT_130 : sm_mvP (11, 293, 125) := ⟨sm_cd_125, (sm_in6 130 rfl rfl), (sm_in6 132 rfl rfl), (sm_in0 65 rfl rfl), Or.inr ⟨_, _, rfl⟩⟩
theorem sm_mvT_131 : sm_mvP (11, 296, 175) := ⟨sm_cd_175, (sm_in6 136 rfl rfl), (sm_in6 59 rfl rfl), (sm_in6 60 rfl rfl), Or.inr ⟨_, _, rfl⟩⟩
theorem sm_mvT_132 : sm_mvP (11, 302, 182) := ⟨sm_cd_182, (sm_in6 160 rfl rfl), (sm_in6 162 rfl rfl), (sm_in0 66 rfl rfl), Or.inr ⟨_, _, rfl⟩⟩
theorem sm_mvT_133 : sm_mvP (11, 305, 183) := ⟨sm_cd_183, (sm_in6 164 rfl rfl), (sm_in6 166 rfl rfl), (sm_in0 67 rfl rfl), Or.inr ⟨_, _, rfl⟩⟩
theorem sm_mvT_134 : sm_mvP (11, 320, 185) := ⟨sm_cd_185, (sm_in6 172 rfl rfl), (sm_in6 174 rfl rfl), (sm_in0 68 rfl rfl), Or.inr ⟨_, _, rfl⟩⟩
theorem sm_mvT_135 : sm_mvP (11, 324, 186) := ⟨sm_cd_186, (sm_in6 176 rfl rfl), (sm_in6 178 rfl rfl), (sm_in0 69 rfl rfl), Or.inr ⟨_, _, rfl⟩⟩
theorem sm_mvT_136 : sm_mvP (11, 327, 189) := ⟨sm_cd_189, (sm_in6 188 rfl rfl), (sm_in6 190 rfl rfl), (sm_in0 70 rfl rfl), Or.inr ⟨_, _, rfl⟩⟩
theorem sm_mvT_137 : sm_mvP (11, 330, 193) := ⟨sm_cd_193, (sm_in6 204 rfl rfl), (sm_in6 206 rfl rfl), (sm_in0 71 rfl rfl), Or.inr ⟨_, _, rfl⟩⟩
theorem sm_mvT_138 : sm_mvP (11, 336, 197) := ⟨sm_cd_197, (sm_in6 216 rfl rfl), (sm_in6 218 rfl rfl), (sm_in0 72 rfl rfl), Or.inr ⟨_, _, rfl⟩⟩
theorem sm_mvT_139 : sm_mvP (12, 13, 83) := ⟨sm_cd_83, (sm_in2 191 rfl rfl), (sm_in2 192 rfl rfl), (sm_in2 193 rfl rfl), Or.inr ⟨_, _, rfl⟩⟩
theorem sm_mvT_140 : sm_mvP (12, 17, 124) := ⟨sm_cd_124, (sm_in5 133 rfl rfl), (sm_in5 134 rfl rfl), (sm_in5 135 rfl rfl), Or.inr ⟨_, _, rfl⟩⟩
theorem sm_mvT_141 : sm_mvP (12, 18, 84) := ⟨sm_cd_84, (sm_in2 195 rfl rfl), (sm_in2 196 rfl rfl), (sm_in2 197 rfl rfl), Or.inr ⟨_, _, rfl⟩⟩
theorem sm_mvT_142 : sm_mvP (12, 22, 126) := ⟨sm_cd_126, (sm_in5 137 rfl rfl), (sm_in5 138 rfl rfl), (sm_in5 139 rfl rfl), Or.inr ⟨_, _, rfl⟩⟩
theorem sm_mvT_143 : sm_mvP (12, 23, 85) := ⟨sm_cd_85, (sm_in2 202 rfl rfl), (sm_in2 203 rfl rfl), (sm_in2 204 rfl rfl), Or.inr ⟨_, _, rfl⟩⟩
theorem sm_mvT_144 : sm_mvP (12, 27, 127) := ⟨sm_cd_127, (sm_in5 144 rfl rfl), (sm_in5 145 rfl rfl), (sm_in5 146 rfl rfl), Or.inr ⟨_, _, rfl⟩⟩
theorem sm_mvT_145 : sm_mvP (12, 28, 86) := ⟨sm_cd_86, (sm_in2 213 rfl rfl), (sm_in2 214 rfl rfl), (sm_in2 215 rfl rfl), Or.inr ⟨_, _, rfl⟩⟩
theorem sm_mvT_146 : sm_mvP (12, 32, 129) := ⟨sm_cd_129, (sm_in5 156 rfl rfl), (sm_in5 157 rfl rfl), (sm_in5 158 rfl rfl), Or.inr ⟨_, _, rfl⟩⟩
theorem sm_mvT_147 : sm_mvP (12, 33, 87) := ⟨sm_cd_87, (sm_in2 224 rfl rfl), (sm_in2 225 rfl rfl), (sm_in2 226 rfl rfl), Or.inr ⟨_, _, rfl⟩⟩
theorem sm_mvT_148 : sm_mvP (12, 36, 130) := ⟨sm_cd_130, (sm_in5 164 rfl rfl), (sm_in5 165 rfl rfl), (sm_in5 166 rfl rfl), Or.inr ⟨_, _, rfl⟩⟩
theorem sm_mvT_149 : sm_mvP (12, 37, 88) := ⟨sm_cd_88, (sm_in2 228 rfl rfl), (sm_in2 229 rfl rfl), (sm_in2 230 rfl rfl), Or.inr ⟨_, _, rfl⟩⟩
theorem sm_mvT_150 : sm_mvP (12, 41, 131) := ⟨sm_cd_131, (sm_in5 168 rfl rfl), (sm_in5 169 rfl rfl), (sm_in5 170 rfl rfl), Or.inr ⟨_, _, rfl⟩⟩
theorem sm_mvT_151 : sm_mvP (12, 42, 89) := ⟨sm_cd_89, (sm_in2 232 rfl rfl), (sm_in2 233 rfl rfl), (sm_in2 234 rfl rfl), Or.inr ⟨_, _, rfl⟩⟩
theorem sm_mvT_152 : sm_mvP (12, 45, 132) := ⟨sm_cd_132, (sm_in5 172 rfl rfl), (sm_in5 173 rfl rfl), (sm_in5 174 rfl rfl), Or.inr ⟨_, _, rfl⟩⟩
theorem sm_mvT_153 : sm_mvP (12, 46, 90) := ⟨sm_cd_90, (sm_in2 236 rfl rfl), (sm_in2 237 rfl rfl), (sm_in2 238 rfl rfl), Or.inr ⟨_, _, rfl⟩⟩
theorem sm_mvT_154 : sm_mvP (12, 50, 133) := ⟨sm_cd_133, (sm_in5 176 rfl rfl), (sm_in5 177 rfl rfl), (sm_in5 178 rfl rfl), Or.inr ⟨_, _, rfl⟩⟩
theorem sm_mvT_155 : sm_mvP (12, 51, 91) := ⟨sm_cd_91, (sm_in3 4 rfl rfl), (sm_in3 5 rfl rfl), (sm_in3 6 rfl rfl), Or.inr ⟨_, _, rfl⟩⟩
theorem sm_mvT_156 : sm_mvP (12, 55, 134) := ⟨sm_cd_134, (sm_in5 184 rfl rfl), (sm_in5 185 rfl rfl), (sm_in5 186 rfl rfl), Or.inr ⟨_, _, rfl⟩⟩
theorem sm_mvT_157 : sm_mvP (12, 56, 92) := ⟨sm_cd_92, (sm_in3 12 rfl rfl), (sm_in3 13 rfl rfl), (sm_in3 14 rfl rfl), Or.inr ⟨_, _, rfl⟩⟩
theorem sm_mvT_158 : sm_mvP (12, 60, 135) := ⟨sm_cd_135, (sm_in5 188 rfl rfl), (sm_in5 189 rfl rfl), (sm_in5 190 rfl rfl), Or.inr ⟨_, _, rfl⟩⟩
theorem sm_mvT_159 : sm_mvP (12, 61, 93) := ⟨sm_cd_93, (sm_in3 16 rfl rfl), (sm_in3 17 rfl rfl), (sm_in3 18 rfl rfl), Or.inr ⟨_, _, rfl⟩⟩
theorem sm_mvT_160 : sm_mvP (12, 64, 136) := ⟨sm_cd_136, (sm_in5 192 rfl rfl), (sm_in5 193 rfl rfl), (sm_in5 194 rfl rfl), Or.inr ⟨_, _, rfl⟩⟩
theorem sm_mvT_161 : sm_mvP (12, 65, 94) := ⟨sm_cd_94, (sm_in3 24 rfl rfl), (sm_in3 25 rfl rfl), (sm_in3 26 rfl rfl), Or.inr ⟨_, _, rfl⟩⟩
theorem sm_mvT_162 : sm_mvP (12, 68, 137) := ⟨sm_cd_137, (sm_in5 196 rfl rfl), (sm_in5 197 rfl rfl), (sm_in5 198 rfl rfl), Or.inr ⟨_, _, rfl⟩⟩
theorem sm_mvT_163 : sm_mvP (12, 69, 95) := ⟨sm_cd_95, (sm_in3 28 rfl rfl), (sm_in3 29 rfl rfl), (sm_in3 30 rfl rfl), Or.inr ⟨_, _, rfl⟩⟩
theorem sm_mvT_164 : sm_mvP (12, 72, 156) := ⟨sm_cd_156, (sm_in5 200 rfl rfl), (sm_in5 201 rfl rfl), (sm_in5 202 rfl rfl), Or.inr ⟨_, _, rfl⟩⟩
theorem sm_mvT_165 : sm_mvP (12, 73, 96) := ⟨sm_cd_96, (sm_in3 181 rfl rfl), (sm_in3 182 rfl rfl), (sm_in3 183 rfl rfl), Or.inr ⟨_, _, rfl⟩⟩
theorem sm_mvT_166 : sm_mvP (12, 76, 157) := ⟨sm_cd_157, (sm_in6 54 rfl rfl), (sm_in6 55 rfl rfl), (sm_in6 56 rfl rfl), Or.inr ⟨_, _, rfl⟩⟩
theorem sm_mvT_167 : sm_mvP (12, 77, 97) := ⟨sm_cd_97, (sm_in3 185 rfl rfl), (sm_in3 186 rfl rfl), (sm_in3 187 rfl rfl), Or.inr ⟨_, _, rfl⟩⟩
theorem sm_mvT_168 : sm_mvP (12, 81, 175) := ⟨sm_cd_175, (sm_in6 58 rfl rfl), (sm_in6 59 rfl rfl), (sm_in6 60 rfl rfl), Or.inr ⟨_, _, rfl⟩⟩
theorem sm_mvT_169 : sm_mvP (12, 82, 98) := ⟨sm_cd_98, (sm_in4 70 rfl rfl), (sm_in4 71 rfl rfl), (sm_in4 72 rfl rfl), Or.inr ⟨_, _, rfl⟩⟩
theorem sm_mvT_170 : sm_mvP (12, 85, 176) := ⟨sm_cd_176, (sm_in6 126 rfl rfl), (sm_in6 127 rfl rfl), (sm_in6 128 rfl rfl), Or.inr ⟨_, _, rfl⟩⟩
theorem sm_mvT_171 : sm_mvP (12, 86, 99) := ⟨sm_cd_99, (sm_in4 84 rfl rfl), (sm_in4 85 rfl rfl), (sm_in4 86 rfl rfl), Or.inr ⟨_, _, rfl⟩⟩
theorem sm_mvT_172 : sm_mvP (12, 89, 177) := ⟨sm_cd_177, (sm_in6 137 rfl rfl), (sm_in6 138 rfl rfl), (sm_in6 139 rfl rfl), Or.inr ⟨_, _, rfl⟩⟩
theorem sm_mvT_173 : sm_mvP (12, 90, 100) := ⟨sm_cd_100, (sm_in4 92 rfl rfl), (sm_in4 93 rfl rfl), (sm_in4 94 rfl rfl), Or.inr ⟨_, _, rfl⟩⟩
theorem sm_mvT_174 : sm_mvP (12, 94, 178) := ⟨sm_cd_178, (sm_in6 141 rfl rfl), (sm_in6 142 rfl rfl), (sm_in6 143 rfl rfl), Or.inr ⟨_, _, rfl⟩⟩
theorem sm_mvT_175 : sm_mvP (12, 95, 101) := ⟨sm_cd_101, (sm_in4 97 rfl rfl), (sm_in4 98 rfl rfl), (sm_in4 99 rfl rfl), Or.inr ⟨_, _, rfl⟩⟩
theorem sm_mvT_176 : sm_mvP (12, 98, 180) := ⟨sm_cd_180, (sm_in6 145 rfl rfl), (sm_in6 146 rfl rfl), (sm_in6 147 rfl rfl), Or.inr ⟨_, _, rfl⟩⟩
theorem sm_mvT_177 : sm_mvP (12, 99, 102) := ⟨sm_cd_102, (sm_in4 109 rfl rfl), (sm_in4 110 rfl rfl), (sm_in4 111 rfl rfl), Or.inr ⟨_, _, rfl⟩⟩
theorem sm_mvT_178 : sm_mvP (12, 103, 181) := ⟨sm_cd_181, (sm_in6 152 rfl rfl), (sm_in6 153 rfl rfl), (sm_in6 154 rfl rfl), Or.inr ⟨_, _, rfl⟩⟩
theorem sm_mvT_179 : sm_mvP (12, 104, 103) := ⟨sm_cd_103, (sm_in4 117 rfl rfl), (sm_in4 118 rfl rfl), (sm_in4 119 rfl rfl), Or.inr ⟨_, _, rfl⟩⟩
theorem sm_mvT_180 : sm_mvP (12, 107, 184) := ⟨sm_cd_184, (sm_in6 156 rfl rfl), (sm_in6 157 rfl rfl), (sm_in6 158 rfl rfl), Or.inr ⟨_, _, rfl⟩⟩
theorem sm_mvT_181 : sm_mvP (12, 108, 104) := ⟨sm_cd_104, (sm_in4 128 rfl rfl), (sm_in4 129 rfl rfl), (sm_in4 130 rfl rfl), Or.inr ⟨_, _, rfl⟩⟩
theorem sm_mvT_182 : sm_mvP (12, 111, 187) := ⟨sm_cd_187, (sm_in6 168 rfl rfl), (sm_in6 169 rfl rfl), (sm_in6 170 rfl rfl), Or.inr ⟨_, _, rfl⟩⟩
theorem sm_mvT_183 : sm_mvP (12, 112, 105) := ⟨sm_cd_105, (sm_in4 154 rfl rfl), (sm_in4 155 rfl rfl), (sm_in4 156 rfl rfl), Or.inr ⟨_, _, rfl⟩⟩
theorem sm_mvT_184 : sm_mvP (12, 115, 188) := ⟨sm_cd_188, (sm_in6 180 rfl rfl), (sm_in6 181 rfl rfl), (sm_in6 182 rfl rfl), Or.inr ⟨_, _, rfl⟩⟩
theorem sm_mvT_185 : sm_mvP (12, 116, 106) := ⟨sm_cd_106, (sm_in4 162 rfl rfl), (sm_in4 163 rfl rfl), (sm_in4 164 rfl rfl), Or.inr ⟨_, _, rfl⟩⟩
theorem sm_mvT_186 : sm_mvP (12, 119, 190) := ⟨sm_cd_190, (sm_in6 184 rfl rfl), (sm_in6 185 rfl rfl), (sm_in6 186 rfl rfl), Or.inr ⟨_, _, rfl⟩⟩
theorem sm_mvT_187 : sm_mvP (12, 120, 107) := ⟨sm_cd_107, (sm_in4 177 rfl rfl), (sm_in4 178 rfl rfl), (sm_in4 179 rfl rfl), Or.inr ⟨_, _, rfl⟩⟩
theorem sm_mvT_188 : sm_mvP (12, 123, 191) := ⟨sm_cd_191, (sm_in6 192 rfl rfl), (sm_in6 193 rfl rfl), (sm_in6 194 rfl rfl), Or.inr ⟨_, _, rfl⟩⟩
theorem sm_mvT_189 : sm_mvP (12, 124, 108) := ⟨sm_cd_108, (sm_in4 181 rfl rfl), (sm_in4 182 rfl rfl), (sm_in4 183 rfl rfl), Or.inr ⟨_, _, rfl⟩⟩
theorem sm_mvT_190 : sm_mvP (12, 127, 192) := ⟨sm_cd_192, (sm_in6 196 rfl rfl), (sm_in6 197 rfl rfl), (sm_in6 198 rfl rfl), Or.inr ⟨_, _, rfl⟩⟩
theorem sm_mvT_191 : sm_mvP (12, 128, 109) := ⟨sm_cd_109, (sm_in4 192 rfl rfl), (sm_in4 193 rfl rfl), (sm_in4 194 rfl rfl), Or.inr ⟨_, _, rfl⟩⟩
theorem sm_mvT_192 : sm_mvP (12, 131, 194) := ⟨sm_cd_194, (sm_in6 200 rfl rfl), (sm_in6 201 rfl rfl), (sm_in6 202 rfl rfl), Or.inr ⟨_, _, rfl⟩⟩
theorem sm_mvT_193 : sm_mvP (12, 132, 110) := ⟨sm_cd_110, (sm_in4 217 rfl rfl), (sm_in4 218 rfl rfl), (sm_in4 219 rfl rfl), Or.inr ⟨_, _, rfl⟩⟩
theorem sm_mvT_194 : sm_mvP (12, 136, 195) := ⟨sm_cd_195, (sm_in6 208 rfl rfl), (sm_in6 209 rfl rfl), (sm_in6 210 rfl rfl), Or.inr ⟨_, _, rfl⟩⟩
theorem sm_mvT_195 : sm_mvP (12, 137, 111) := ⟨sm_cd_111, (sm_in4 238 rfl rfl), (sm_in4 239 rfl rfl), (sm_in5 0 rfl rfl), Or.inr ⟨_, _, rfl⟩⟩
theorem sm_mvT_196 : sm_mvP (12, 140, 196) := ⟨sm_cd_196, (sm_in6 212 rfl rfl), (sm_in6 213 rfl rfl), (sm_in6 214 rfl rfl), Or.inr ⟨_, _, rfl⟩⟩
theorem sm_mvT_197 : sm_mvP (13, 335, 201) := ⟨sm_cd_201, (sm_in3 62 rfl rfl), (sm_in3 63 rfl rfl), (sm_in3 64 rfl rfl), Or.inl ⟨rfl, rfl⟩⟩
theorem sm_mvT_198 : sm_mvP (13, 492, 202) := ⟨sm_cd_202, (sm_in3 72 rfl rfl), (sm_in3 73 rfl rfl), (sm_in3 74 rfl rfl), Or.inl ⟨rfl, rfl⟩⟩
set_option maxRecDepth 100000 in
theorem sm_mvT_ok : ∀ q ∈ sm_mvT, sm_mvP q := (List.forall_mem_cons.mpr ⟨sm_mvT_0, (List.forall_mem_cons.mpr ⟨sm_mvT_1, (List.forall_mem_cons.mpr ⟨sm_mvT_2, (List.forall_mem_cons.mpr ⟨sm_mvT_3, (List.forall_mem_cons.mpr ⟨sm_mvT_4, (List.forall_mem_cons.mpr ⟨sm_mvT_5, (List.forall_mem_cons.mpr ⟨sm_mvT_6, (List.forall_mem_cons.mpr ⟨sm_mvT_7, (List.forall_mem_cons.mpr ⟨sm_mvT_8, (List.forall_mem_cons.mpr ⟨sm_mvT_9, (List.forall_mem_cons.mpr ⟨sm_mvT_10, (List.forall_mem_cons.mpr ⟨sm_mvT_11, (List.forall_mem_cons.mpr ⟨sm_mvT_12, (List.forall_mem_cons.mpr ⟨sm_mvT_13, (List.forall_mem_cons.mpr ⟨sm_mvT_14, (List.forall_mem_cons.mpr ⟨sm_mvT_15, (List.forall_mem_cons.mpr ⟨sm_mvT_16, (List.forall_mem_cons.mpr ⟨sm_mvT_17, (List.forall_mem_cons.mpr ⟨sm_mvT_18, (List.forall_mem_cons.mpr ⟨sm_mvT_19, (List.forall_mem_cons.mpr ⟨sm_mvT_20, (List.forall_mem_cons.mpr ⟨sm_mvT_21, (List.forall_mem_cons.mpr ⟨sm_mvT_22, (List.forall_mem_cons.mpr ⟨sm_mvT_23, (List.forall_mem_cons.mpr ⟨sm_mvT_24, (List.forall_mem_cons.mpr ⟨sm_mvT_25, (List.forall_mem_cons.mpr ⟨sm_mvT_26, (List.forall_mem_cons.mpr ⟨sm_mvT_27, (List.forall_mem_cons.mpr ⟨sm_mvT_28, (List.forall_mem_cons.mpr ⟨sm_mvT_29, (List.forall_mem_cons.mpr ⟨sm_mvT_30, (List.forall_mem_cons.mpr ⟨sm_mvT_31, (List.forall_mem_cons.mpr ⟨sm_mvT_32, (List.forall_mem_cons.mpr ⟨sm_mvT_33, (List.forall_mem_cons.mpr ⟨sm_mvT_34, (List.forall_mem_cons.mpr ⟨sm_mvT_35, (List.forall_mem_cons.mpr ⟨sm_mvT_36, (List.forall_mem_cons.mpr ⟨sm_mvT_37, (List.forall_mem_cons.mpr ⟨sm_mvT_38, (List.forall_mem_cons.mpr ⟨sm_mvT_39, (List.forall_mem_cons.mpr ⟨sm_mvT_40, (List.forall_mem_cons.mpr ⟨sm_mvT_41, (List.forall_mem_cons.mpr ⟨sm_mvT_42, (List.forall_mem_cons.mpr ⟨sm_mvT_43, (List.forall_mem_cons.mpr ⟨sm_mvT_44, (List.forall_mem_cons.mpr ⟨sm_mvT_45, (List.forall_mem_cons.mpr ⟨sm_mvT_46, (List.forall_mem_cons.mpr ⟨sm_mvT_47, (List.forall_mem_cons.mpr ⟨sm_mvT_48, (List.forall_mem_cons.mpr ⟨sm_mvT_49, (List.forall_mem_cons.mpr ⟨sm_mvT_50, (List.forall_mem_cons.mpr ⟨sm_mvT_51, (List.forall_mem_cons.mpr ⟨sm_mvT_52, (List.forall_mem_cons.mpr ⟨sm_mvT_53, (List.forall_mem_cons.mpr ⟨sm_mvT_54, (List.forall_mem_cons.mpr ⟨sm_mvT_55, (List.forall_mem_cons.mpr ⟨sm_mvT_56, (List.forall_mem_cons.mpr ⟨sm_mvT_57, (List.forall_mem_cons.mpr ⟨sm_mvT_58, (List.forall_mem_cons.mpr ⟨sm_mvT_59, (List.forall_mem_cons.mpr ⟨sm_mvT_60, (List.forall_mem_cons.mpr ⟨sm_mvT_61, (List.forall_mem_cons.mpr ⟨sm_mvT_62, (List.forall_mem_cons.mpr ⟨sm_mvT_63, (List.forall_mem_cons.mpr ⟨sm_mvT_64, (List.forall_mem_cons.mpr ⟨sm_mvT_65, (List.forall_mem_cons.mpr ⟨sm_mvT_66, (List.forall_mem_cons.mpr ⟨sm_mvT_67, (List.forall_mem_cons.mpr ⟨sm_mvT_68, (List.forall_mem_cons.mpr ⟨sm_mvT_69, (List.forall_mem_cons.mpr ⟨sm_mvT_70, (List.forall_mem_cons.mpr ⟨sm_mvT_71, (List.forall_mem_cons.mpr ⟨sm_mvT_72, (List.forall_mem_cons.mpr ⟨sm_mvT_73, (List.forall_mem_cons.mpr ⟨sm_mvT_74, (List.forall_mem_cons.mpr ⟨sm_mvT_75, (List.forall_mem_cons.mpr ⟨sm_mvT_76, (List.forall_mem_cons.mpr ⟨sm_mvT_77, (List.forall_mem_cons.mpr ⟨sm_mvT_78, (List.forall_mem_cons.mpr ⟨sm_mvT_79, (List.forall_mem_cons.mpr ⟨sm_mvT_80, (List.forall_mem_cons.mpr ⟨sm_mvT_81, (List.forall_mem_cons.mpr ⟨sm_mvT_82, (List.forall_mem_cons.mpr ⟨sm_mvT_83, (List.forall_mem_cons.mpr ⟨sm_mvT_84, (List.forall_mem_cons.mpr ⟨sm_mvT_85, (List.forall_mem_cons.mpr ⟨sm_mvT_86, (List.forall_mem_cons.mpr ⟨sm_mvT_87, (List.forall_mem_cons.mpr ⟨sm_mvT_88, (List.forall_mem_cons.mpr ⟨sm_mvT_89, (List.forall_mem_cons.mpr ⟨sm_mvT_90, (List.forall_mem_cons.mpr ⟨sm_mvT_91, (List.forall_mem_cons.mpr ⟨sm_mvT_92, (List.forall_mem_cons.mpr ⟨sm_mvT_93, (List.forall_mem_cons.mpr ⟨sm_mvT_94, (List.forall_mem_cons.mpr ⟨sm_mvT_95, (List.forall_mem_cons.mpr ⟨sm_mvT_96, (List.forall_mem_cons.mpr ⟨sm_mvT_97, (List.forall_mem_cons.mpr ⟨sm_mvT_98, (List.forall_mem_cons.mpr ⟨sm_mvT_99, (List.forall_mem_cons.mpr ⟨sm_mvT_100, (List.forall_mem_cons.mpr ⟨sm_mvT_101, (List.forall_mem_cons.mpr ⟨sm_mvT_102, (List.forall_mem_cons.mpr ⟨sm_mvT_103, (List.forall_mem_cons.mpr ⟨sm_mvT_104, (List.forall_mem_cons.mpr ⟨sm_mvT_105, (List.forall_mem_cons.mpr ⟨sm_mvT_106, (List.forall_mem_cons.mpr ⟨sm_mvT_107, (List.forall_mem_cons.mpr ⟨sm_mvT_108, (List.forall_mem_cons.mpr ⟨sm_mvT_109, (List.forall_mem_cons.mpr ⟨sm_mvT_110, (List.forall_mem_cons.mpr ⟨sm_mvT_111, (List.forall_mem_cons.mpr ⟨sm_mvT_112, (List.forall_mem_cons.mpr ⟨sm_mvT_113, (List.forall_mem_cons.mpr ⟨sm_mvT_114, (List.forall_mem_cons.mpr ⟨sm_mvT_115, (List.forall_mem_cons.mpr ⟨sm_mvT_116, (List.forall_mem_cons.mpr ⟨sm_mvT_117, (List.forall_mem_cons.mpr ⟨sm_mvT_118, (List.forall_mem_cons.mpr ⟨sm_mvT_119, (List.forall_mem_cons.mpr ⟨sm_mvT_120, (List.forall_mem_cons.mpr ⟨sm_mvT_121, (List.forall_mem_cons.mpr ⟨sm_mvT_122, (List.forall_mem_cons.mpr ⟨sm_mvT_123, (List.forall_mem_cons.mpr ⟨sm_mvT_124, (List.forall_mem_cons.mpr ⟨sm_mvT_125, (List.forall_mem_cons.mpr ⟨sm_mvT_126, (List.forall_mem_cons.mpr ⟨sm_mvT_127, (List.forall_mem_cons.mpr ⟨sm_mvT_128, (List.forall_mem_cons.mpr ⟨sm_mvT_129, (List.forall_mem_cons.mpr ⟨sm_mvT_130, (List.forall_mem_cons.mpr ⟨sm_mvT_131, (List.forall_mem_cons.mpr ⟨sm_mvT_132, (List.forall_mem_cons.mpr ⟨sm_mvT_133, (List.forall_mem_cons.mpr ⟨sm_mvT_134, (List.forall_mem_cons.mpr ⟨sm_mvT_135, (List.forall_mem_cons.mpr ⟨sm_mvT_136, (List.forall_mem_cons.mpr ⟨sm_mvT_137, (List.forall_mem_cons.mpr ⟨sm_mvT_138, (List.forall_mem_cons.mpr ⟨sm_mvT_139, (List.forall_mem_cons.mpr ⟨sm_mvT_140, (List.forall_mem_cons.mpr ⟨sm_mvT_141, (List.forall_mem_cons.mpr ⟨sm_mvT_142, (List.forall_mem_cons.mpr ⟨sm_mvT_143, (List.forall_mem_cons.mpr ⟨sm_mvT_144, (List.forall_mem_cons.mpr ⟨sm_mvT_145, (List.forall_mem_cons.mpr ⟨sm_mvT_146, (List.forall_mem_cons.mpr ⟨sm_mvT_147, (List.forall_mem_cons.mpr ⟨sm_mvT_148, (List.forall_mem_cons.mpr ⟨sm_mvT_149, (List.forall_mem_cons.mpr ⟨sm_mvT_150, (List.forall_mem_cons.mpr ⟨sm_mvT_151, (List.forall_mem_cons.mpr ⟨sm_mvT_152, (List.forall_mem_cons.mpr ⟨sm_mvT_153, (List.forall_mem_cons.mpr ⟨sm_mvT_154, (List.forall_mem_cons.mpr ⟨sm_mvT_155, (List.forall_mem_cons.mpr ⟨sm_mvT_156, (List.forall_mem_cons.mpr ⟨sm_mvT_157, (List.forall_mem_cons.mpr ⟨sm_mvT_158, (List.forall_mem_cons.mpr ⟨sm_mvT_159, (List.forall_mem_cons.mpr ⟨sm_mvT_160, (List.forall_mem_cons.mpr ⟨sm_mvT_161, (List.forall_mem_cons.mpr ⟨sm_mvT_162, (List.forall_mem_cons.mpr ⟨sm_mvT_163, (List.forall_mem_cons.mpr ⟨sm_mvT_164, (List.forall_mem_cons.mpr ⟨sm_mvT_165, (List.forall_mem_cons.mpr ⟨sm_mvT_166, (List.forall_mem_cons.mpr ⟨sm_mvT_167, (List.forall_mem_cons.mpr ⟨sm_mvT_168, (List.forall_mem_cons.mpr ⟨sm_mvT_169, (List.forall_mem_cons.mpr ⟨sm_mvT_170, (List.forall_mem_cons.mpr ⟨sm_mvT_171, (List.forall_mem_cons.mpr ⟨sm_mvT_172, (List.forall_mem_cons.mpr ⟨sm_mvT_173, (List.forall_mem_cons.mpr ⟨sm_mvT_174, (List.forall_mem_cons.mpr ⟨sm_mvT_175, (List.forall_mem_cons.mpr ⟨sm_mvT_176, (List.forall_mem_cons.mpr ⟨sm_mvT_177, (List.forall_mem_cons.mpr ⟨sm_mvT_178, (List.forall_mem_cons.mpr ⟨sm_mvT_179, (List.forall_mem_cons.mpr ⟨sm_mvT_180, (List.forall_mem_cons.mpr ⟨sm_mvT_181, (List.forall_mem_cons.mpr ⟨sm_mvT_182, (List.forall_mem_cons.mpr ⟨sm_mvT_183, (List.forall_mem_cons.mpr ⟨sm_mvT_184, (List.forall_mem_cons.mpr ⟨sm_mvT_185, (List.forall_mem_cons.mpr ⟨sm_mvT_186, (List.forall_mem_cons.mpr ⟨sm_mvT_187, (List.forall_mem_cons.mpr ⟨sm_mvT_188, (List.forall_mem_cons.mpr ⟨sm_mvT_189, (List.forall_mem_cons.mpr ⟨sm_mvT_190, (List.forall_mem_cons.mpr ⟨sm_mvT_191, (List.forall_mem_cons.mpr ⟨sm_mvT_192, (List.forall_mem_cons.mpr ⟨sm_mvT_193, (List.forall_mem_cons.mpr ⟨sm_mvT_194, (List.forall_mem_cons.mpr ⟨sm_mvT_195, (List.forall_mem_cons.mpr ⟨sm_mvT_196, (List.forall_mem_cons.mpr ⟨sm_mvT_197, (List.forall_mem_cons.mpr ⟨sm_mvT_198, (fun _ h => absurd h List.not_mem_nil)⟩)⟩)⟩)⟩)⟩)⟩)⟩)⟩)⟩)⟩)⟩)⟩)⟩)⟩)⟩)⟩)⟩)⟩)⟩)⟩)⟩)⟩)⟩)⟩)⟩)⟩)⟩)⟩)⟩)⟩)⟩)⟩)⟩)⟩)⟩)⟩)⟩)⟩)⟩)⟩)⟩)⟩)⟩)⟩)⟩)⟩)⟩)⟩)⟩)⟩)⟩)⟩)⟩)⟩)⟩)⟩)⟩)⟩)⟩)⟩)⟩)⟩)⟩)⟩)⟩)⟩)⟩)⟩)⟩)⟩)⟩)⟩)⟩)⟩)⟩)⟩)⟩)⟩)⟩)⟩)⟩)⟩)⟩)⟩)⟩)⟩)⟩)⟩)⟩)⟩)⟩)⟩)⟩)⟩)⟩)⟩)⟩)⟩)⟩)⟩)⟩)⟩)⟩)⟩)⟩)⟩)⟩)⟩)⟩)⟩)⟩)⟩)⟩)⟩)⟩)⟩)⟩)⟩)⟩)⟩)⟩)⟩)⟩)⟩)⟩)⟩)⟩)⟩)⟩)⟩)⟩)⟩)⟩)⟩)⟩)⟩)⟩)⟩)⟩)⟩)⟩)⟩)⟩)⟩)⟩)⟩)⟩)⟩)⟩)⟩)⟩)⟩)⟩)⟩)⟩)⟩)⟩)⟩)⟩)⟩)⟩)⟩)⟩)⟩)⟩)⟩)⟩)⟩)⟩)⟩)⟩)⟩)⟩)⟩)⟩)⟩)⟩)⟩)⟩)⟩)⟩)⟩)⟩)⟩)⟩)⟩)⟩)⟩)⟩)⟩)⟩)⟩)⟩)⟩)⟩)⟩)⟩)⟩)⟩)
def sm_msP (q : Nat × Nat × Nat) : Prop := sm_cdP q.2.2 ∧ Cond.methodLink (sm_cs q.1) q.2.1 (sm_y q.2.2) ∈ sm_wds ∧ Cond.static (sm_y q.2.2) ∈ sm_wds ∧ sm_rk q.2.2 = 999
def sm_msT : List (Nat × Nat × Nat) := [(0, 21, 205), (1, 84, 205), (2, 19, 23), (3, 21, 205), (4, 58, 206), (4, 98, 34), (4, 102, 37), (4, 109, 35), (4, 112, 36), (6, 29, 205), (8, 74, 69), (8, 120, 71), (8, 135, 74), (9, 27, 205), (10, 65, 112), (10, 79, 113), (11, 75, 120), (11, 164, 139), (11, 170, 140), (11, 231, 158), (11, 239, 160), (11, 242, 161), (11, 248, 162), (11, 299, 179), (13, 495, 204), (13, 1059, 207), (14, 9, 203)]
theorem sm_msT_0 : sm_msP (0, 21, 205) := ⟨sm_cd_205, (sm_in4 53 rfl rfl), (sm_in2 144 rfl rfl), rfl⟩
theorem sm_msT_1 : sm_msP (1, 84, 205) := ⟨sm_cd_205, (sm_in2 143 rfl rfl), (sm_in2 144 rfl rfl), rfl⟩
theorem sm_msT_2 : sm_msP (2, 19, 23) := ⟨sm_cd_23, (sm_in4 13 rfl rfl), (sm_in4 14 rfl rfl), rfl⟩
theorem sm_msT_3 : sm_msP (3, 21, 205) := ⟨sm_cd_205, (sm_in4 200 rfl rfl), (sm_in2 144 rfl rfl), rfl⟩
theorem sm_msT_4 : sm_msP (4, 58, 206) := ⟨sm_cd_206, (sm_in3 113 rfl rfl), (sm_in3 114 rfl rfl), rfl⟩
theorem sm_msT_5 : sm_msP (4, 98, 34) := ⟨sm_cd_34, (sm_in3 51 rfl rfl), (sm_in3 52 rfl rfl), rfl⟩
theorem sm_msT_6 : sm_msP (4, 102, 37) := ⟨sm_cd_37, (sm_in3 54 rfl rfl), (sm_in3 55 rfl rfl), rfl⟩
theorem sm_msT_7 : sm_msP (4, 109, 35) := ⟨sm_cd_35, (sm_in3 106 rfl rfl), (sm_in3 107 rfl rfl), rfl⟩
theorem sm_msT_8 : sm_msP (4, 112, 36) := ⟨sm_cd_36, (sm_in3 109 rfl rfl), (sm_in3 110 rfl rfl), rfl⟩
theorem sm_msT_9 : sm_msP (6, 29, 205) := ⟨sm_cd_205, (sm_in3 198 rfl rfl), (sm_in2 144 rfl rfl), rfl⟩
theorem sm_msT_10 : sm_msP (8, 74, 69) := ⟨sm_cd_69, (sm_in4 145 rfl rfl), (sm_in4 146 rfl rfl), rfl⟩
theorem sm_msT_11 : sm_msP (8, 120, 71) := ⟨sm_cd_71, (sm_in4 174 rfl rfl), (sm_in4 175 rfl rfl), rfl⟩
theorem sm_msT_12 : sm_msP (8, 135, 74) := ⟨sm_cd_74, (sm_in4 189 rfl rfl), (sm_in4 190 rfl rfl), rfl⟩
theorem sm_msT_13 : sm_msP (9, 27, 205) := ⟨sm_cd_205, (sm_in2 150 rfl rfl), (sm_in2 144 rfl rfl), rfl⟩
theorem sm_msT_14 : sm_msP (10, 65, 112) := ⟨sm_cd_112, (sm_in2 199 rfl rfl), (sm_in2 200 rfl rfl), rfl⟩
theorem sm_msT_15 : sm_msP (10, 79, 113) := ⟨sm_cd_113, (sm_in2 210 rfl rfl), (sm_in2 211 rfl rfl), rfl⟩
theorem sm_msT_16 : sm_msP (11, 75, 120) := ⟨sm_cd_120, (sm_in5 141 rfl rfl), (sm_in5 142 rfl rfl), rfl⟩
theorem sm_msT_17 : sm_msP (11, 164, 139) := ⟨sm_cd_139, (sm_in5 212 rfl rfl), (sm_in5 213 rfl rfl), rfl⟩
theorem sm_msT_18 : sm_msP (11, 170, 140) := ⟨sm_cd_140, (sm_in6 7 rfl rfl), (sm_in6 8 rfl rfl), rfl⟩
theorem sm_msT_19 : sm_msP (11, 231, 158) := ⟨sm_cd_158, (sm_in6 99 rfl rfl), (sm_in6 100 rfl rfl), rfl⟩
theorem sm_msT_20 : sm_msP (11, 239, 160) := ⟨sm_cd_160, (sm_in6 74 rfl rfl), (sm_in6 75 rfl rfl), rfl⟩
theorem sm_msT_21 : sm_msP (11, 242, 161) := ⟨sm_cd_161, (sm_in6 77 rfl rfl), (sm_in6 78 rfl rfl), rfl⟩
theorem sm_msT_22 : sm_msP (11, 248, 162) := ⟨sm_cd_162, (sm_in6 88 rfl rfl), (sm_in6 89 rfl rfl), rfl⟩
theorem sm_msT_23 : sm_msP (11, 299, 179) := ⟨sm_cd_179, (sm_in6 149 rfl rfl), (sm_in6 150 rfl rfl), rfl⟩
theorem sm_msT_24 : sm_msP (13, 495, 204) := ⟨sm_cd_204, (sm_in3 76 rfl rfl), (sm_in3 77 rfl rfl), rfl⟩
theorem sm_msT_25 : sm_msP (13, 1059, 207) := ⟨sm_cd_207, (sm_in3 84 rfl rfl), (sm_in3 85 rfl rfl), rfl⟩
theorem sm_msT_26 : sm_msP (14, 9, 203) := ⟨sm_cd_203, (sm_in3 79 rfl rfl), (sm_in3 80 rfl rfl), rfl⟩
set_option maxRecDepth 100000 in
theorem sm_msT_ok : ∀ q ∈ sm_msT, sm_msP q := (List.forall_mem_cons.mpr ⟨sm_msT_0, (List.forall_mem_cons.mpr ⟨sm_msT_1, (List.forall_mem_cons.mpr ⟨sm_msT_2, (List.forall_mem_cons.mpr ⟨sm_msT_3, (List.forall_mem_cons.mpr ⟨sm_msT_4, (List.forall_mem_cons.mpr ⟨sm_msT_5, (List.forall_mem_cons.mpr ⟨sm_msT_6, (List.forall_mem_cons.mpr ⟨sm_msT_7, (List.forall_mem_cons.mpr ⟨sm_msT_8, (List.forall_mem_cons.mpr ⟨sm_msT_9, (List.forall_mem_cons.mpr ⟨sm_msT_10, (List.forall_mem_cons.mpr ⟨sm_msT_11, (List.forall_mem_cons.mpr ⟨sm_msT_12, (List.forall_mem_cons.mpr ⟨sm_msT_13, (List.forall_mem_cons.mpr ⟨sm_msT_14, (List.forall_mem_cons.mpr ⟨sm_msT_15, (List.forall_mem_cons.mpr ⟨sm_msT_16, (List.forall_mem_cons.mpr ⟨sm_msT_17, (List.forall_mem_cons.mpr ⟨sm_msT_18, (List.forall_mem_cons.mpr ⟨sm_msT_19, (List.forall_mem_cons.mpr ⟨sm_msT_20, (List.forall_mem_cons.mpr ⟨sm_msT_21, (List.forall_mem_cons.mpr ⟨sm_msT_22, (List.forall_mem_cons.mpr ⟨sm_msT_23, (List.forall_mem_cons.mpr ⟨sm_msT_24, (List.forall_mem_cons.mpr ⟨sm_msT_25, (List.forall_mem_cons.mpr ⟨sm_msT_26, (fun _ h => absurd h List.not_mem_nil)⟩)⟩)⟩)⟩)⟩)⟩)⟩)⟩)⟩)⟩)⟩)⟩)⟩)⟩)⟩)⟩)⟩)⟩)⟩)⟩)⟩)⟩)⟩)⟩)⟩)⟩)⟩)
def sm_miP (q : Nat × Nat × Nat) : Prop := sm_cdP q.2.2 ∧ Cond.methodLink (sm_cs q.1) q.2.1 (sm_y q.2.2) ∈ sm_wds ∧ Cond.instanceMethod (sm_y q.2.2) ∈ sm_wds ∧ (sm_y q.2.2).name = "<init>" ∧ sm_rt q.2.2 = none ∧ sm_rk q.2.2 < 12
def sm_miT : List (Nat × Nat × Nat) := [(1, 38, 51), (1, 60, 21), (1, 69, 75), (4, 64, 21), (7, 27, 51), (8, 11, 75), (9, 20, 51), (12, 9, 82), (12, 12, 117)]
theorem sm_miT_0 : sm_miP (1, 38, 51) := ⟨sm_cd_51, (sm_in1 36 rfl rfl), (sm_in1 37 rfl rfl), rfl, rfl, by decide⟩
theorem sm_miT_1 : sm_miP (1, 60, 21) := ⟨sm_cd_21, (sm_in1 62 rfl rfl), (sm_in1 63 rfl rfl), rfl, rfl, by decide⟩
theorem sm_miT_2 : sm_miP (1, 69, 75) := ⟨sm_cd_75, (sm_in1 76 rfl rfl), (sm_in1 77 rfl rfl), rfl, rfl, by decide⟩
theorem sm_miT_3 : sm_miP (4, 64, 21) := ⟨sm_cd_21, (sm_in3 125 rfl rfl), (sm_in1 63 rfl rfl), rfl, rfl, by decide⟩
theorem sm_miT_4 : sm_miP (7, 27, 51) := ⟨sm_cd_51, (sm_in1 229 rfl rfl), (sm_in1 37 rfl rfl), rfl, rfl, by decide⟩
theorem sm_miT_5 : sm_miP (8, 11, 75) := ⟨sm_cd_75, (sm_in2 27 rfl rfl), (sm_in1 77 rfl rfl), rfl, rfl, by decide⟩
theorem sm_miT_6 : sm_miP (9, 20, 51) := ⟨sm_cd_51, (sm_in1 81 rfl rfl), (sm_in1 37 rfl rfl), rfl, rfl, by decide⟩
theorem sm_miT_7 : sm_miP (12, 9, 82) := ⟨sm_cd_82, (sm_in1 22 rfl rfl), (sm_in1 23 rfl rfl), rfl, rfl, by decide⟩
theorem sm_miT_8 : sm_miP (12, 12, 117) := ⟨sm_cd_117, (sm_in5 9 rfl rfl), (sm_in5 10 rfl rfl), rfl, rfl, by decide⟩
set_option maxRecDepth 100000 in
theorem sm_miT_ok : ∀ q ∈ sm_miT, sm_miP q := (List.forall_mem_cons.mpr ⟨sm_miT_0, (List.forall_mem_cons.mpr ⟨sm_miT_1, (List.forall_mem_cons.mpr ⟨sm_miT_2, (List.forall_mem_cons.mpr ⟨sm_miT_3, (List.forall_mem_cons.mpr ⟨sm_miT_4, (List.forall_mem_cons.mpr ⟨sm_miT_5, (List.forall_mem_cons.mpr ⟨sm_miT_6, (List.forall_mem_cons.mpr ⟨sm_miT_7, (List.forall_mem_cons.mpr ⟨sm_miT_8, (fun _ h => absurd h List.not_mem_nil)⟩)⟩)⟩)⟩)⟩)⟩)⟩)⟩)⟩)
def sm_mnP (q : Nat × Nat × Nat) : Prop := sm_cdP q.2.2 ∧ Cond.methodLinkNest (sm_cs q.1) q.2.1 (sm_y q.2.2) "SwallowSurvey" ∈ lw_tbl ∧ Cond.instanceMethod (sm_y q.2.2) ∈ sm_wds ∧ (sm_y q.2.2).name = "<init>" ∧ sm_rt q.2.2 = none ∧ sm_rk q.2.2 < 12
def sm_mnT : List (Nat × Nat × Nat) := [(7, 11, 56), (7, 20, 0), (10, 9, 5), (10, 21, 59), (10, 28, 64), (10, 35, 24), (10, 42, 29)]
theorem sm_mnT_0 : sm_mnP (7, 11, 56) := ⟨sm_cd_56, (sm_tb1 191 rfl), (sm_in1 192 rfl rfl), rfl, rfl, by decide⟩
theorem sm_mnT_1 : sm_mnP (7, 20, 0) := ⟨sm_cd_0, (sm_tb1 208 rfl), (sm_in1 209 rfl rfl), rfl, rfl, by decide⟩
theorem sm_mnT_2 : sm_mnP (10, 9, 5) := ⟨sm_cd_5, (sm_tb1 30 rfl), (sm_in1 31 rfl rfl), rfl, rfl, by decide⟩
theorem sm_mnT_3 : sm_mnP (10, 21, 59) := ⟨sm_cd_59, (sm_tb1 185 rfl), (sm_in1 186 rfl rfl), rfl, rfl, by decide⟩
theorem sm_mnT_4 : sm_mnP (10, 28, 64) := ⟨sm_cd_64, (sm_tb2 22 rfl), (sm_in2 23 rfl rfl), rfl, rfl, by decide⟩
theorem sm_mnT_5 : sm_mnP (10, 35, 24) := ⟨sm_cd_24, (sm_tb2 71 rfl), (sm_in2 72 rfl rfl), rfl, rfl, by decide⟩
theorem sm_mnT_6 : sm_mnP (10, 42, 29) := ⟨sm_cd_29, (sm_tb2 87 rfl), (sm_in2 88 rfl rfl), rfl, rfl, by decide⟩
set_option maxRecDepth 100000 in
theorem sm_mnT_ok : ∀ q ∈ sm_mnT, sm_mnP q := (List.forall_mem_cons.mpr ⟨sm_mnT_0, (List.forall_mem_cons.mpr ⟨sm_mnT_1, (List.forall_mem_cons.mpr ⟨sm_mnT_2, (List.forall_mem_cons.mpr ⟨sm_mnT_3, (List.forall_mem_cons.mpr ⟨sm_mnT_4, (List.forall_mem_cons.mpr ⟨sm_mnT_5, (List.forall_mem_cons.mpr ⟨sm_mnT_6, (fun _ h => absurd h List.not_mem_nil)⟩)⟩)⟩)⟩)⟩)⟩)⟩)
def sm_oiP (q : Nat × Nat) : Prop := Cond.methodLink (sm_cs q.1) q.2 objectInit ∈ sm_wds
def sm_oiT : List (Nat × Nat) := [(0, 3), (1, 3), (2, 3), (3, 3), (4, 3), (5, 3), (6, 3), (7, 3), (8, 3), (9, 3), (10, 1), (11, 1)]
theorem sm_oiT_0 : sm_oiP (0, 3) := (sm_in1 211 rfl rfl)
theorem sm_oiT_1 : sm_oiP (1, 3) := (sm_in1 33 rfl rfl)
theorem sm_oiT_2 : sm_oiP (2, 3) := (sm_in1 65 rfl rfl)
theorem sm_oiT_3 : sm_oiP (3, 3) := (sm_in2 74 rfl rfl)
theorem sm_oiT_4 : sm_oiP (4, 3) := (sm_in2 90 rfl rfl)
theorem sm_oiT_5 : sm_oiP (5, 3) := (sm_in1 39 rfl rfl)
theorem sm_oiT_6 : sm_oiP (6, 3) := (sm_in1 194 rfl rfl)
theorem sm_oiT_7 : sm_oiP (7, 3) := (sm_in1 188 rfl rfl)
theorem sm_oiT_8 : sm_oiP (8, 3) := (sm_in2 25 rfl rfl)
theorem sm_oiT_9 : sm_oiP (9, 3) := (sm_in1 79 rfl rfl)
theorem sm_oiT_10 : sm_oiP (10, 1) := (sm_in1 25 rfl rfl)
theorem sm_oiT_11 : sm_oiP (11, 1) := (sm_in5 12 rfl rfl)
set_option maxRecDepth 100000 in
theorem sm_oiT_ok : ∀ q ∈ sm_oiT, sm_oiP q := (List.forall_mem_cons.mpr ⟨sm_oiT_0, (List.forall_mem_cons.mpr ⟨sm_oiT_1, (List.forall_mem_cons.mpr ⟨sm_oiT_2, (List.forall_mem_cons.mpr ⟨sm_oiT_3, (List.forall_mem_cons.mpr ⟨sm_oiT_4, (List.forall_mem_cons.mpr ⟨sm_oiT_5, (List.forall_mem_cons.mpr ⟨sm_oiT_6, (List.forall_mem_cons.mpr ⟨sm_oiT_7, (List.forall_mem_cons.mpr ⟨sm_oiT_8, (List.forall_mem_cons.mpr ⟨sm_oiT_9, (List.forall_mem_cons.mpr ⟨sm_oiT_10, (List.forall_mem_cons.mpr ⟨sm_oiT_11, (fun _ h => absurd h List.not_mem_nil)⟩)⟩)⟩)⟩)⟩)⟩)⟩)⟩)⟩)⟩)⟩)⟩)
def sm_acP (q : Nat × Nat) : Prop := Cond.methodLink (sm_cs q.1) q.2 arraycopyName ∈ sm_wds
def sm_acT : List (Nat × Nat) := [(1, 99), (5, 31), (6, 23), (9, 37), (10, 291), (16, 150)]
theorem sm_acT_0 : sm_acP (1, 99) := (sm_in4 225 rfl rfl)
theorem sm_acT_1 : sm_acP (5, 31) := (sm_in4 231 rfl rfl)
theorem sm_acT_2 : sm_acP (6, 23) := (sm_in3 197 rfl rfl)
theorem sm_acT_3 : sm_acP (9, 37) := (sm_in4 236 rfl rfl)
theorem sm_acT_4 : sm_acP (10, 291) := (sm_in2 221 rfl rfl)
theorem sm_acT_5 : sm_acP (16, 150) := (sm_in3 124 rfl rfl)
set_option maxRecDepth 100000 in
theorem sm_acT_ok : ∀ q ∈ sm_acT, sm_acP q := (List.forall_mem_cons.mpr ⟨sm_acT_0, (List.forall_mem_cons.mpr ⟨sm_acT_1, (List.forall_mem_cons.mpr ⟨sm_acT_2, (List.forall_mem_cons.mpr ⟨sm_acT_3, (List.forall_mem_cons.mpr ⟨sm_acT_4, (List.forall_mem_cons.mpr ⟨sm_acT_5, (fun _ h => absurd h List.not_mem_nil)⟩)⟩)⟩)⟩)⟩)⟩)
def sm_mhP (q : Nat × Nat × Nat) : Prop := (q.2.2 = 0 ∧ Cond.methodLink (sm_cs q.1) q.2.1 Lib.Math.abs.name ∈ sm_wds) ∨ (q.2.2 = 1 ∧ Cond.methodLink (sm_cs q.1) q.2.1 Lib.Math.min.name ∈ sm_wds) ∨ (q.2.2 = 2 ∧ Cond.methodLink (sm_cs q.1) q.2.1 Lib.Math.max.name ∈ sm_wds)
def sm_mhT : List (Nat × Nat × Nat) := [(1, 143, 0), (4, 21, 1), (5, 9, 2), (5, 28, 1), (16, 304, 1)]
theorem sm_mhT_0 : sm_mhP (1, 143, 0) := Or.inl ⟨rfl, (sm_in4 106 rfl rfl)⟩
theorem sm_mhT_1 : sm_mhP (4, 21, 1) := Or.inr (Or.inl ⟨rfl, (sm_in3 40 rfl rfl)⟩)
theorem sm_mhT_2 : sm_mhP (5, 9, 2) := Or.inr (Or.inr ⟨rfl, (sm_in1 40 rfl rfl)⟩)
theorem sm_mhT_3 : sm_mhP (5, 28, 1) := Or.inr (Or.inl ⟨rfl, (sm_in4 230 rfl rfl)⟩)
theorem sm_mhT_4 : sm_mhP (16, 304, 1) := Or.inr (Or.inl ⟨rfl, (sm_in3 123 rfl rfl)⟩)
set_option maxRecDepth 100000 in
theorem sm_mhT_ok : ∀ q ∈ sm_mhT, sm_mhP q := (List.forall_mem_cons.mpr ⟨sm_mhT_0, (List.forall_mem_cons.mpr ⟨sm_mhT_1, (List.forall_mem_cons.mpr ⟨sm_mhT_2, (List.forall_mem_cons.mpr ⟨sm_mhT_3, (List.forall_mem_cons.mpr ⟨sm_mhT_4, (fun _ h => absurd h List.not_mem_nil)⟩)⟩)⟩)⟩)⟩)
theorem sm_w_abs1 : Cond.static Lib.Math.abs.name ∈ sm_wds := (sm_in4 107 rfl rfl)
theorem sm_w_abs2 : Cond.code Lib.Math.abs.name Lib.Math.abs.code 1 (some .int) ∈ sm_wds := (sm_in4 108 rfl rfl)
theorem sm_w_min1 : Cond.static Lib.Math.min.name ∈ sm_wds := (sm_in3 41 rfl rfl)
theorem sm_w_min2 : Cond.code Lib.Math.min.name Lib.Math.min.code 2 (some .int) ∈ sm_wds := (sm_in3 42 rfl rfl)
theorem sm_w_max1 : Cond.static Lib.Math.max.name ∈ sm_wds := (sm_in1 41 rfl rfl)
theorem sm_w_max2 : Cond.code Lib.Math.max.name Lib.Math.max.code 2 (some .int) ∈ sm_wds := (sm_in1 42 rfl rfl)
theorem sm_w_mi : Cond.initialized "java/lang/Math" ∈ sm_wds := (sm_in1 4 rfl rfl)
theorem sm_w_oi1 : Cond.instanceMethod objectInit ∈ sm_wds := (sm_in1 26 rfl rfl)
theorem sm_w_oi2 : Cond.code objectInit ⟨#[0xb1]⟩ 1 none ∈ sm_wds := (sm_in1 27 rfl rfl)
theorem sm_w_ac1 : Cond.native arraycopyName ∈ sm_wds := (sm_in2 223 rfl rfl)
theorem sm_w_ac2 : Cond.static arraycopyName ∈ sm_wds := (sm_in2 222 rfl rfl)
theorem sm_w_ac3 : Cond.initialized "java/lang/System" ∈ sm_wds := (sm_in1 15 rfl rfl)
theorem sm_w_ai : Cond.arrayClass .int ∈ sm_wds := (sm_in1 58 rfl rfl)
def sm_gsN : List (String × String × String) := [("SwallowSurvey", "DX", "[I"), ("SwallowSurvey", "DY", "[I"), ("SwallowSurvey", "LEFT_X", "[I"), ("SwallowSurvey", "LEFT_Y", "[I"), ("SwallowSurvey", "STRENGTH", "[I"), ("", "", ""), ("", "", ""), ("", "", ""), ("", "", ""), ("", "", ""), ("java/lang/String", "COMPACT_STRINGS", "Z"), ("jdk/internal/util/Preconditions", "SIOOBE_FORMATTER", "Ljava/util/function/BiFunction;")]
def sm_gsn (k : Nat) : String × String × String := sm_gsN.getD k ("", "", "")
def sm_gsP (q : Nat × Nat × Nat) : Prop := Cond.fieldLink (sm_cs q.1) q.2.1 (sm_gsn q.2.2).1 (sm_gsn q.2.2).2.1 (sm_gsn q.2.2).2.2 ∈ sm_wds ∨ Cond.fieldLinkNest (sm_cs q.1) q.2.1 (sm_gsn q.2.2).1 (sm_gsn q.2.2).2.1 (sm_gsn q.2.2).2.2 "SwallowSurvey" ∈ lw_tbl
def sm_gsT : List (Nat × Nat × Nat) := [(0, 43, 0), (0, 46, 1), (1, 112, 0), (1, 115, 1), (1, 126, 2), (1, 129, 3), (3, 54, 0), (3, 57, 1), (4, 147, 4), (6, 44, 0), (6, 47, 1), (7, 102, 0), (7, 105, 1), (7, 119, 2), (7, 122, 3), (13, 38, 10), (13, 1053, 11)]
theorem sm_gsT_0 : sm_gsP (0, 43, 0) := Or.inr (sm_tb4 58 rfl)
theorem sm_gsT_1 : sm_gsP (0, 46, 1) := Or.inr (sm_tb4 59 rfl)
theorem sm_gsT_2 : sm_gsP (1, 112, 0) := Or.inr (sm_tb4 7 rfl)
theorem sm_gsT_3 : sm_gsP (1, 115, 1) := Or.inr (sm_tb4 8 rfl)
theorem sm_gsT_4 : sm_gsP (1, 126, 2) := Or.inr (sm_tb4 45 rfl)
theorem sm_gsT_5 : sm_gsP (1, 129, 3) := Or.inr (sm_tb4 46 rfl)
theorem sm_gsT_6 : sm_gsP (3, 54, 0) := Or.inr (sm_tb4 210 rfl)
theorem sm_gsT_7 : sm_gsP (3, 57, 1) := Or.inr (sm_tb4 211 rfl)
theorem sm_gsT_8 : sm_gsP (4, 147, 4) := Or.inr (sm_tb3 166 rfl)
theorem sm_gsT_9 : sm_gsP (6, 44, 0) := Or.inr (sm_tb3 204 rfl)
theorem sm_gsT_10 : sm_gsP (6, 47, 1) := Or.inr (sm_tb3 206 rfl)
theorem sm_gsT_11 : sm_gsP (7, 102, 0) := Or.inr (sm_tb4 29 rfl)
theorem sm_gsT_12 : sm_gsP (7, 105, 1) := Or.inr (sm_tb4 30 rfl)
theorem sm_gsT_13 : sm_gsP (7, 119, 2) := Or.inr (sm_tb3 238 rfl)
theorem sm_gsT_14 : sm_gsP (7, 122, 3) := Or.inr (sm_tb4 0 rfl)
theorem sm_gsT_15 : sm_gsP (13, 38, 10) := Or.inl (sm_in3 66 rfl rfl)
theorem sm_gsT_16 : sm_gsP (13, 1053, 11) := Or.inl (sm_in3 82 rfl rfl)
set_option maxRecDepth 100000 in
theorem sm_gsT_ok : ∀ q ∈ sm_gsT, sm_gsP q := (List.forall_mem_cons.mpr ⟨sm_gsT_0, (List.forall_mem_cons.mpr ⟨sm_gsT_1, (List.forall_mem_cons.mpr ⟨sm_gsT_2, (List.forall_mem_cons.mpr ⟨sm_gsT_3, (List.forall_mem_cons.mpr ⟨sm_gsT_4, (List.forall_mem_cons.mpr ⟨sm_gsT_5, (List.forall_mem_cons.mpr ⟨sm_gsT_6, (List.forall_mem_cons.mpr ⟨sm_gsT_7, (List.forall_mem_cons.mpr ⟨sm_gsT_8, (List.forall_mem_cons.mpr ⟨sm_gsT_9, (List.forall_mem_cons.mpr ⟨sm_gsT_10, (List.forall_mem_cons.mpr ⟨sm_gsT_11, (List.forall_mem_cons.mpr ⟨sm_gsT_12, (List.forall_mem_cons.mpr ⟨sm_gsT_13, (List.forall_mem_cons.mpr ⟨sm_gsT_14, (List.forall_mem_cons.mpr ⟨sm_gsT_15, (List.forall_mem_cons.mpr ⟨sm_gsT_16, (fun _ h => absurd h List.not_mem_nil)⟩)⟩)⟩)⟩)⟩)⟩)⟩)⟩)⟩)⟩)⟩)⟩)⟩)⟩)⟩)⟩)⟩)
def sm_lsX : List String := ["ahead left right back stop fl fr pl pr thread rim step rest swallow when or and not ", "fl", "fr", "pl", "pr", "thread", "rim", "step", "rest", "swallow", "when", "or", "and", "not", "ahead", "left", "right", "back", "stop"]
def sm_lsP (q : Nat × Nat × Nat) : Prop := Cond.stringRef (sm_cs q.1) q.2.1 (sm_lsX.getD q.2.2 "") ∈ lw_tbl
def sm_lsT : List (Nat × Nat × Nat) := [(4, 115, 0), (11, 115, 1), (11, 121, 2), (11, 123, 3), (11, 125, 4), (11, 127, 5), (11, 129, 6), (11, 131, 7), (11, 133, 8), (11, 135, 9), (11, 137, 10), (11, 139, 11), (11, 141, 12), (11, 143, 13), (11, 145, 14), (11, 147, 15), (11, 149, 16), (11, 151, 17), (11, 152, 18)]
theorem sm_lsT_0 : sm_lsP (4, 115, 0) := (sm_tb3 57 rfl)
theorem sm_lsT_1 : sm_lsP (11, 115, 1) := (sm_tb5 238 rfl)
theorem sm_lsT_2 : sm_lsP (11, 121, 2) := (sm_tb5 239 rfl)
theorem sm_lsT_3 : sm_lsP (11, 123, 3) := (sm_tb6 0 rfl)
theorem sm_lsT_4 : sm_lsP (11, 125, 4) := (sm_tb6 1 rfl)
theorem sm_lsT_5 : sm_lsP (11, 127, 5) := (sm_tb6 2 rfl)
theorem sm_lsT_6 : sm_lsP (11, 129, 6) := (sm_tb6 3 rfl)
theorem sm_lsT_7 : sm_lsP (11, 131, 7) := (sm_tb6 4 rfl)
theorem sm_lsT_8 : sm_lsP (11, 133, 8) := (sm_tb6 5 rfl)
theorem sm_lsT_9 : sm_lsP (11, 135, 9) := (sm_tb6 6 rfl)
theorem sm_lsT_10 : sm_lsP (11, 137, 10) := (sm_tb5 219 rfl)
theorem sm_lsT_11 : sm_lsP (11, 139, 11) := (sm_tb5 226 rfl)
theorem sm_lsT_12 : sm_lsP (11, 141, 12) := (sm_tb5 227 rfl)
theorem sm_lsT_13 : sm_lsP (11, 143, 13) := (sm_tb5 228 rfl)
theorem sm_lsT_14 : sm_lsP (11, 145, 14) := (sm_tb5 229 rfl)
theorem sm_lsT_15 : sm_lsP (11, 147, 15) := (sm_tb5 230 rfl)
theorem sm_lsT_16 : sm_lsP (11, 149, 16) := (sm_tb5 231 rfl)
theorem sm_lsT_17 : sm_lsP (11, 151, 17) := (sm_tb5 232 rfl)
theorem sm_lsT_18 : sm_lsP (11, 152, 18) := (sm_tb5 233 rfl)
set_option maxRecDepth 100000 in
theorem sm_lsT_ok : ∀ q ∈ sm_lsT, sm_lsP q := (List.forall_mem_cons.mpr ⟨sm_lsT_0, (List.forall_mem_cons.mpr ⟨sm_lsT_1, (List.forall_mem_cons.mpr ⟨sm_lsT_2, (List.forall_mem_cons.mpr ⟨sm_lsT_3, (List.forall_mem_cons.mpr ⟨sm_lsT_4, (List.forall_mem_cons.mpr ⟨sm_lsT_5, (List.forall_mem_cons.mpr ⟨sm_lsT_6, (List.forall_mem_cons.mpr ⟨sm_lsT_7, (List.forall_mem_cons.mpr ⟨sm_lsT_8, (List.forall_mem_cons.mpr ⟨sm_lsT_9, (List.forall_mem_cons.mpr ⟨sm_lsT_10, (List.forall_mem_cons.mpr ⟨sm_lsT_11, (List.forall_mem_cons.mpr ⟨sm_lsT_12, (List.forall_mem_cons.mpr ⟨sm_lsT_13, (List.forall_mem_cons.mpr ⟨sm_lsT_14, (List.forall_mem_cons.mpr ⟨sm_lsT_15, (List.forall_mem_cons.mpr ⟨sm_lsT_16, (List.forall_mem_cons.mpr ⟨sm_lsT_17, (List.forall_mem_cons.mpr ⟨sm_lsT_18, (fun _ h => absurd h List.not_mem_nil)⟩)⟩)⟩)⟩)⟩)⟩)⟩)⟩)⟩)⟩)⟩)⟩)⟩)⟩)⟩)⟩)⟩)⟩)⟩)
set_option maxRecDepth 100000 in
theorem sm_uw0 : ∀ w ∈ u_ws RX0 TX0 4, w ∈ sm_wds := show ∀ w ∈ [u_lay RX0 TX0 0, u_lay RX0 TX0 1, u_lay RX0 TX0 2, u_lay RX0 TX0 3], w ∈ sm_wds from (List.forall_mem_cons.mpr ⟨(sm_in1 219 rfl rfl), (List.forall_mem_cons.mpr ⟨(sm_in1 221 rfl rfl), (List.forall_mem_cons.mpr ⟨(sm_in1 223 rfl rfl), (List.forall_mem_cons.mpr ⟨(sm_in1 225 rfl rfl), (fun _ h => absurd h List.not_mem_nil)⟩)⟩)⟩)⟩)
set_option maxRecDepth 100000 in
theorem sm_uw1 : ∀ w ∈ u_ws RX1 TX1 19, w ∈ sm_wds := show ∀ w ∈ [u_lay RX1 TX1 0, u_lay RX1 TX1 1, u_lay RX1 TX1 2, u_lay RX1 TX1 3, u_lay RX1 TX1 4, u_lay RX1 TX1 5, u_lay RX1 TX1 6, u_lay RX1 TX1 7, u_lay RX1 TX1 8, u_lay RX1 TX1 9, u_lay RX1 TX1 10, u_lay RX1 TX1 11, u_lay RX1 TX1 12, u_lay RX1 TX1 13, u_lay RX1 TX1 14, u_lay RX1 TX1 15, u_lay RX1 TX1 16, u_lay RX1 TX1 17, u_lay RX1 TX1 18], w ∈ sm_wds from (List.forall_mem_cons.mpr ⟨(sm_in1 144 rfl rfl), (List.forall_mem_cons.mpr ⟨(sm_in1 146 rfl rfl), (List.forall_mem_cons.mpr ⟨(sm_in1 148 rfl rfl), (List.forall_mem_cons.mpr ⟨(sm_in1 150 rfl rfl), (List.forall_mem_cons.mpr ⟨(sm_in1 152 rfl rfl), (List.forall_mem_cons.mpr ⟨(sm_in1 154 rfl rfl), (List.forall_mem_cons.mpr ⟨(sm_in1 156 rfl rfl), (List.forall_mem_cons.mpr ⟨(sm_in1 158 rfl rfl), (List.forall_mem_cons.mpr ⟨(sm_in1 160 rfl rfl), (List.forall_mem_cons.mpr ⟨(sm_in1 162 rfl rfl), (List.forall_mem_cons.mpr ⟨(sm_in1 164 rfl rfl), (List.forall_mem_cons.mpr ⟨(sm_in1 166 rfl rfl), (List.forall_mem_cons.mpr ⟨(sm_in1 168 rfl rfl), (List.forall_mem_cons.mpr ⟨(sm_in1 170 rfl rfl), (List.forall_mem_cons.mpr ⟨(sm_in1 172 rfl rfl), (List.forall_mem_cons.mpr ⟨(sm_in1 174 rfl rfl), (List.forall_mem_cons.mpr ⟨(sm_in1 176 rfl rfl), (List.forall_mem_cons.mpr ⟨(sm_in1 178 rfl rfl), (List.forall_mem_cons.mpr ⟨(sm_in1 180 rfl rfl), (fun _ h => absurd h List.not_mem_nil)⟩)⟩)⟩)⟩)⟩)⟩)⟩)⟩)⟩)⟩)⟩)⟩)⟩)⟩)⟩)⟩)⟩)⟩)⟩)
set_option maxRecDepth 100000 in
theorem sm_uw2 : ∀ w ∈ u_ws RX2 TX2 2, w ∈ sm_wds := show ∀ w ∈ [u_lay RX2 TX2 0, u_lay RX2 TX2 1], w ∈ sm_wds from (List.forall_mem_cons.mpr ⟨(sm_in1 69 rfl rfl), (List.forall_mem_cons.mpr ⟨(sm_in1 71 rfl rfl), (fun _ h => absurd h List.not_mem_nil)⟩)⟩)
set_option maxRecDepth 100000 in
theorem sm_uw3 : ∀ w ∈ u_ws RX3 TX3 3, w ∈ sm_wds := show ∀ w ∈ [u_lay RX3 TX3 0, u_lay RX3 TX3 1, u_lay RX3 TX3 2], w ∈ sm_wds from (List.forall_mem_cons.mpr ⟨(sm_in2 78 rfl rfl), (List.forall_mem_cons.mpr ⟨(sm_in2 80 rfl rfl), (List.forall_mem_cons.mpr ⟨(sm_in2 82 rfl rfl), (fun _ h => absurd h List.not_mem_nil)⟩)⟩)⟩)
set_option maxRecDepth 100000 in
theorem sm_uw4 : ∀ w ∈ u_ws RX4 TX4 15, w ∈ sm_wds := show ∀ w ∈ [u_lay RX4 TX4 0, u_lay RX4 TX4 1, u_lay RX4 TX4 2, u_lay RX4 TX4 3, u_lay RX4 TX4 4, u_lay RX4 TX4 5, u_lay RX4 TX4 6, u_lay RX4 TX4 7, u_lay RX4 TX4 8, u_lay RX4 TX4 9, u_lay RX4 TX4 10, u_lay RX4 TX4 11, u_lay RX4 TX4 12, u_lay RX4 TX4 13, u_lay RX4 TX4 14], w ∈ sm_wds from (List.forall_mem_cons.mpr ⟨(sm_in2 108 rfl rfl), (List.forall_mem_cons.mpr ⟨(sm_in2 110 rfl rfl), (List.forall_mem_cons.mpr ⟨(sm_in2 112 rfl rfl), (List.forall_mem_cons.mpr ⟨(sm_in2 114 rfl rfl), (List.forall_mem_cons.mpr ⟨(sm_in2 116 rfl rfl), (List.forall_mem_cons.mpr ⟨(sm_in2 118 rfl rfl), (List.forall_mem_cons.mpr ⟨(sm_in2 120 rfl rfl), (List.forall_mem_cons.mpr ⟨(sm_in2 122 rfl rfl), (List.forall_mem_cons.mpr ⟨(sm_in2 124 rfl rfl), (List.forall_mem_cons.mpr ⟨(sm_in2 126 rfl rfl), (List.forall_mem_cons.mpr ⟨(sm_in2 128 rfl rfl), (List.forall_mem_cons.mpr ⟨(sm_in2 130 rfl rfl), (List.forall_mem_cons.mpr ⟨(sm_in2 132 rfl rfl), (List.forall_mem_cons.mpr ⟨(sm_in2 134 rfl rfl), (List.forall_mem_cons.mpr ⟨(sm_in2 136 rfl rfl), (fun _ h => absurd h List.not_mem_nil)⟩)⟩)⟩)⟩)⟩)⟩)⟩)⟩)⟩)⟩)⟩)⟩)⟩)⟩)⟩)
set_option maxRecDepth 100000 in
theorem sm_uw5 : ∀ w ∈ u_ws RX5 TX5 3, w ∈ sm_wds := show ∀ w ∈ [u_lay RX5 TX5 0, u_lay RX5 TX5 1, u_lay RX5 TX5 2], w ∈ sm_wds from (List.forall_mem_cons.mpr ⟨(sm_in1 51 rfl rfl), (List.forall_mem_cons.mpr ⟨(sm_in1 53 rfl rfl), (List.forall_mem_cons.mpr ⟨(sm_in1 55 rfl rfl), (fun _ h => absurd h List.not_mem_nil)⟩)⟩)⟩)
set_option maxRecDepth 100000 in
theorem sm_uw6 : ∀ w ∈ u_ws RX6 TX6 2, w ∈ sm_wds := show ∀ w ∈ [u_lay RX6 TX6 0, u_lay RX6 TX6 1], w ∈ sm_wds from (List.forall_mem_cons.mpr ⟨(sm_in1 201 rfl rfl), (List.forall_mem_cons.mpr ⟨(sm_in1 203 rfl rfl), (fun _ h => absurd h List.not_mem_nil)⟩)⟩)
set_option maxRecDepth 100000 in
theorem sm_uw7 : ∀ w ∈ u_ws RX7 TX7 8, w ∈ sm_wds := show ∀ w ∈ [u_lay RX7 TX7 0, u_lay RX7 TX7 1, u_lay RX7 TX7 2, u_lay RX7 TX7 3, u_lay RX7 TX7 4, u_lay RX7 TX7 5, u_lay RX7 TX7 6, u_lay RX7 TX7 7], w ∈ sm_wds from (List.forall_mem_cons.mpr ⟨(sm_in2 3 rfl rfl), (List.forall_mem_cons.mpr ⟨(sm_in2 5 rfl rfl), (List.forall_mem_cons.mpr ⟨(sm_in2 7 rfl rfl), (List.forall_mem_cons.mpr ⟨(sm_in2 9 rfl rfl), (List.forall_mem_cons.mpr ⟨(sm_in2 11 rfl rfl), (List.forall_mem_cons.mpr ⟨(sm_in2 13 rfl rfl), (List.forall_mem_cons.mpr ⟨(sm_in2 15 rfl rfl), (List.forall_mem_cons.mpr ⟨(sm_in2 17 rfl rfl), (fun _ h => absurd h List.not_mem_nil)⟩)⟩)⟩)⟩)⟩)⟩)⟩)⟩)
set_option maxRecDepth 100000 in
theorem sm_uw8 : ∀ w ∈ u_ws RX8 TX8 11, w ∈ sm_wds := show ∀ w ∈ [u_lay RX8 TX8 0, u_lay RX8 TX8 1, u_lay RX8 TX8 2, u_lay RX8 TX8 3, u_lay RX8 TX8 4, u_lay RX8 TX8 5, u_lay RX8 TX8 6, u_lay RX8 TX8 7, u_lay RX8 TX8 8, u_lay RX8 TX8 9, u_lay RX8 TX8 10], w ∈ sm_wds from (List.forall_mem_cons.mpr ⟨(sm_in2 46 rfl rfl), (List.forall_mem_cons.mpr ⟨(sm_in2 48 rfl rfl), (List.forall_mem_cons.mpr ⟨(sm_in2 50 rfl rfl), (List.forall_mem_cons.mpr ⟨(sm_in2 52 rfl rfl), (List.forall_mem_cons.mpr ⟨(sm_in2 54 rfl rfl), (List.forall_mem_cons.mpr ⟨(sm_in2 56 rfl rfl), (List.forall_mem_cons.mpr ⟨(sm_in2 58 rfl rfl), (List.forall_mem_cons.mpr ⟨(sm_in2 60 rfl rfl), (List.forall_mem_cons.mpr ⟨(sm_in2 62 rfl rfl), (List.forall_mem_cons.mpr ⟨(sm_in2 64 rfl rfl), (List.forall_mem_cons.mpr ⟨(sm_in2 66 rfl rfl), (fun _ h => absurd h List.not_mem_nil)⟩)⟩)⟩)⟩)⟩)⟩)⟩)⟩)⟩)⟩)⟩)
set_option maxRecDepth 100000 in
theorem sm_uw9 : ∀ w ∈ u_ws RX9 TX9 3, w ∈ sm_wds := show ∀ w ∈ [u_lay RX9 TX9 0, u_lay RX9 TX9 1, u_lay RX9 TX9 2], w ∈ sm_wds from (List.forall_mem_cons.mpr ⟨(sm_in1 91 rfl rfl), (List.forall_mem_cons.mpr ⟨(sm_in1 93 rfl rfl), (List.forall_mem_cons.mpr ⟨(sm_in1 95 rfl rfl), (fun _ h => absurd h List.not_mem_nil)⟩)⟩)⟩)
set_option maxRecDepth 100000 in
theorem sm_uw10 : ∀ w ∈ u_ws RX10 TX10 13, w ∈ sm_wds := show ∀ w ∈ [u_lay RX10 TX10 0, u_lay RX10 TX10 1, u_lay RX10 TX10 2, u_lay RX10 TX10 3, u_lay RX10 TX10 4, u_lay RX10 TX10 5, u_lay RX10 TX10 6, u_lay RX10 TX10 7, u_lay RX10 TX10 8, u_lay RX10 TX10 9, u_lay RX10 TX10 10, u_lay RX10 TX10 11, u_lay RX10 TX10 12], w ∈ sm_wds from (List.forall_mem_cons.mpr ⟨(sm_in2 164 rfl rfl), (List.forall_mem_cons.mpr ⟨(sm_in2 166 rfl rfl), (List.forall_mem_cons.mpr ⟨(sm_in2 168 rfl rfl), (List.forall_mem_cons.mpr ⟨(sm_in2 170 rfl rfl), (List.forall_mem_cons.mpr ⟨(sm_in2 172 rfl rfl), (List.forall_mem_cons.mpr ⟨(sm_in2 174 rfl rfl), (List.forall_mem_cons.mpr ⟨(sm_in2 176 rfl rfl), (List.forall_mem_cons.mpr ⟨(sm_in2 178 rfl rfl), (List.forall_mem_cons.mpr ⟨(sm_in2 180 rfl rfl), (List.forall_mem_cons.mpr ⟨(sm_in2 182 rfl rfl), (List.forall_mem_cons.mpr ⟨(sm_in2 184 rfl rfl), (List.forall_mem_cons.mpr ⟨(sm_in2 186 rfl rfl), (List.forall_mem_cons.mpr ⟨(sm_in2 188 rfl rfl), (fun _ h => absurd h List.not_mem_nil)⟩)⟩)⟩)⟩)⟩)⟩)⟩)⟩)⟩)⟩)⟩)⟩)⟩)
set_option maxRecDepth 100000 in
theorem sm_uw11 : ∀ w ∈ u_ws RX11 TX11 37, w ∈ sm_wds := show ∀ w ∈ [u_lay RX11 TX11 0, u_lay RX11 TX11 1, u_lay RX11 TX11 2, u_lay RX11 TX11 3, u_lay RX11 TX11 4, u_lay RX11 TX11 5, u_lay RX11 TX11 6, u_lay RX11 TX11 7, u_lay RX11 TX11 8, u_lay RX11 TX11 9, u_lay RX11 TX11 10, u_lay RX11 TX11 11, u_lay RX11 TX11 12, u_lay RX11 TX11 13, u_lay RX11 TX11 14, u_lay RX11 TX11 15, u_lay RX11 TX11 16, u_lay RX11 TX11 17, u_lay RX11 TX11 18, u_lay RX11 TX11 19, u_lay RX11 TX11 20, u_lay RX11 TX11 21, u_lay RX11 TX11 22, u_lay RX11 TX11 23, u_lay RX11 TX11 24, u_lay RX11 TX11 25, u_lay RX11 TX11 26, u_lay RX11 TX11 27, u_lay RX11 TX11 28, u_lay RX11 TX11 29, u_lay RX11 TX11 30, u_lay RX11 TX11 31, u_lay RX11 TX11 32, u_lay RX11 TX11 33, u_lay RX11 TX11 34, u_lay RX11 TX11 35, u_lay RX11 TX11 36], w ∈ sm_wds from (List.forall_mem_cons.mpr ⟨(sm_in5 58 rfl rfl), (List.forall_mem_cons.mpr ⟨(sm_in5 60 rfl rfl), (List.forall_mem_cons.mpr ⟨(sm_in5 62 rfl rfl), (List.forall_mem_cons.mpr ⟨(sm_in5 64 rfl rfl), (List.forall_mem_cons.mpr ⟨(sm_in5 66 rfl rfl), (List.forall_mem_cons.mpr ⟨(sm_in5 68 rfl rfl), (List.forall_mem_cons.mpr ⟨(sm_in5 70 rfl rfl), (List.forall_mem_cons.mpr ⟨(sm_in5 72 rfl rfl), (List.forall_mem_cons.mpr ⟨(sm_in5 74 rfl rfl), (List.forall_mem_cons.mpr ⟨(sm_in5 76 rfl rfl), (List.forall_mem_cons.mpr ⟨(sm_in5 78 rfl rfl), (List.forall_mem_cons.mpr ⟨(sm_in5 80 rfl rfl), (List.forall_mem_cons.mpr ⟨(sm_in5 82 rfl rfl), (List.forall_mem_cons.mpr ⟨(sm_in5 84 rfl rfl), (List.forall_mem_cons.mpr ⟨(sm_in5 86 rfl rfl), (List.forall_mem_cons.mpr ⟨(sm_in5 88 rfl rfl), (List.forall_mem_cons.mpr ⟨(sm_in5 90 rfl rfl), (List.forall_mem_cons.mpr ⟨(sm_in5 92 rfl rfl), (List.forall_mem_cons.mpr ⟨(sm_in5 94 rfl rfl), (List.forall_mem_cons.mpr ⟨(sm_in5 96 rfl rfl), (List.forall_mem_cons.mpr ⟨(sm_in5 98 rfl rfl), (List.forall_mem_cons.mpr ⟨(sm_in5 100 rfl rfl), (List.forall_mem_cons.mpr ⟨(sm_in5 102 rfl rfl), (List.forall_mem_cons.mpr ⟨(sm_in5 104 rfl rfl), (List.forall_mem_cons.mpr ⟨(sm_in5 106 rfl rfl), (List.forall_mem_cons.mpr ⟨(sm_in5 108 rfl rfl), (List.forall_mem_cons.mpr ⟨(sm_in5 110 rfl rfl), (List.forall_mem_cons.mpr ⟨(sm_in5 112 rfl rfl), (List.forall_mem_cons.mpr ⟨(sm_in5 114 rfl rfl), (List.forall_mem_cons.mpr ⟨(sm_in5 116 rfl rfl), (List.forall_mem_cons.mpr ⟨(sm_in5 118 rfl rfl), (List.forall_mem_cons.mpr ⟨(sm_in5 120 rfl rfl), (List.forall_mem_cons.mpr ⟨(sm_in5 122 rfl rfl), (List.forall_mem_cons.mpr ⟨(sm_in5 124 rfl rfl), (List.forall_mem_cons.mpr ⟨(sm_in5 126 rfl rfl), (List.forall_mem_cons.mpr ⟨(sm_in5 128 rfl rfl), (List.forall_mem_cons.mpr ⟨(sm_in5 130 rfl rfl), (fun _ h => absurd h List.not_mem_nil)⟩)⟩)⟩)⟩)⟩)⟩)⟩)⟩)⟩)⟩)⟩)⟩)⟩)⟩)⟩)⟩)⟩)⟩)⟩)⟩)⟩)⟩)⟩)⟩)⟩)⟩)⟩)⟩)⟩)⟩)⟩)⟩)⟩)⟩)⟩)⟩)⟩)
def sm_tyL : List (Nat → FieldType) := [tyX0, tyX1, tyX2, tyX3, tyX4, tyX5, tyX6, tyX7, tyX8, tyX9, tyX10, tyX11]
def sm_ty (ci k : Nat) : FieldType := (sm_tyL.getD ci (fun _ => .int)) k
def sm_clP (ci : Nat) (r : vw_C) : Prop := (∀ k, k < r.2.2 → parseFieldDescriptor (r.2.1 k).2.2.1 = some (sm_ty ci k)) ∧ (∀ a, a < r.2.2 → ∀ b, b < r.2.2 → a ≠ b → (r.2.1 a).2.1 ≠ (r.2.1 b).2.1) ∧ (∀ w ∈ u_ws r.1 r.2.1 r.2.2, w ∈ sm_wds) ∧ sm_N ci = r.2.2 ∧ (∀ k, k < r.2.2 → sm_ft ci k = 0 → sm_ty ci k = .int) ∧ (∀ k, k < r.2.2 → sm_ft ci k = 2 → sm_ty ci k = .boolean) ∧ (∀ k, k < r.2.2 → sm_ft ci k = 1 → (sm_ty ci k).isReference = true) ∧ (∀ k, k < r.2.2 → sm_ft ci k = 0 ∨ sm_ft ci k = 1 ∨ sm_ft ci k = 2) ∧ r.1 = sm_cs ci ∧ (∀ k, k < r.2.2 → (r.2.1 k).1 = r.1)
theorem sm_cl_0 : sm_clP 0 (RX0, TX0, 4) := ⟨tyX0_ok, nmX0, sm_uw0, rfl, by decide, by decide, by decide, by decide, rfl, by decide⟩
theorem sm_cl_1 : sm_clP 1 (RX1, TX1, 19) := ⟨tyX1_ok, nmX1, sm_uw1, rfl, by decide, by decide, by decide, by decide, rfl, by decide⟩
theorem sm_cl_2 : sm_clP 2 (RX2, TX2, 2) := ⟨tyX2_ok, nmX2, sm_uw2, rfl, by decide, by decide, by decide, by decide, rfl, by decide⟩
theorem sm_cl_3 : sm_clP 3 (RX3, TX3, 3) := ⟨tyX3_ok, nmX3, sm_uw3, rfl, by decide, by decide, by decide, by decide, rfl, by decide⟩
theorem sm_cl_4 : sm_clP 4 (RX4, TX4, 15) := ⟨tyX4_ok, nmX4, sm_uw4, rfl, by decide, by decide, by decide, by decide, rfl, by decide⟩
theorem sm_cl_5 : sm_clP 5 (RX5, TX5, 3) := ⟨tyX5_ok, nmX5, sm_uw5, rfl, by decide, by decide, by decide, by decide, rfl, by decide⟩
theorem sm_cl_6 : sm_clP 6 (RX6, TX6, 2) := ⟨tyX6_ok, nmX6, sm_uw6, rfl, by decide, by decide, by decide, by decide, rfl, by decide⟩
theorem sm_cl_7 : sm_clP 7 (RX7, TX7, 8) := ⟨tyX7_ok, nmX7, sm_uw7, rfl, by decide, by decide, by decide, by decide, rfl, by decide⟩
theorem sm_cl_8 : sm_clP 8 (RX8, TX8, 11) := ⟨tyX8_ok, nmX8, sm_uw8, rfl, by decide, by decide, by decide, by decide, rfl, by decide⟩
theorem sm_cl_9 : sm_clP 9 (RX9, TX9, 3) := ⟨tyX9_ok, nmX9, sm_uw9, rfl, by decide, by decide, by decide, by decide, rfl, by decide⟩
theorem sm_cl_10 : sm_clP 10 (RX10, TX10, 13) := ⟨tyX10_ok, nmX10, sm_uw10, rfl, by decide, by decide, by decide, by decide, rfl, by decide⟩
theorem sm_cl_11 : sm_clP 11 (RX11, TX11, 37) := ⟨tyX11_ok, nmX11, sm_uw11, rfl, by decide, by decide, by decide, by decide, rfl, by decide⟩
theorem sm_cl_ok : ∀ (ci : Nat) (r : vw_C), vwCl[ci]? = some r → sm_clP ci r
  | 0, r, h => by cases h; exact sm_cl_0
  | 1, r, h => by cases h; exact sm_cl_1
  | 2, r, h => by cases h; exact sm_cl_2
  | 3, r, h => by cases h; exact sm_cl_3
  | 4, r, h => by cases h; exact sm_cl_4
  | 5, r, h => by cases h; exact sm_cl_5
  | 6, r, h => by cases h; exact sm_cl_6
  | 7, r, h => by cases h; exact sm_cl_7
  | 8, r, h => by cases h; exact sm_cl_8
  | 9, r, h => by cases h; exact sm_cl_9
  | 10, r, h => by cases h; exact sm_cl_10
  | 11, r, h => by cases h; exact sm_cl_11
  | n + 12, r, h => by cases h
