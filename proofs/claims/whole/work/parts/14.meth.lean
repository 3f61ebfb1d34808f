def mJ0_charAt_5068e : MD := (yJ0_charAt_5068e, cJ0_charAt_5068e, 2, (some .char))
theorem kmJ0_charAt_5068e : KM mJ0_charAt_5068e 1 := ⟨cd_J0_charAt_5068e, ini_J0, by decide +kernel, by decide +kernel, by decide +kernel⟩
def mJ0_checkIndex_df160 : MD := (yJ0_checkIndex_df160, cJ0_checkIndex_df160, 2, none)
theorem kmJ0_checkIndex_df160 : KM mJ0_checkIndex_df160 2 := ⟨cd_J0_checkIndex_df160, ini_J0, by decide +kernel, by decide +kernel, by decide +kernel⟩
def mJ0_coder_7d493 : MD := (yJ0_coder_7d493, cJ0_coder_7d493, 1, (some .byte))
theorem kmJ0_coder_7d493 : KM mJ0_coder_7d493 0 := ⟨cd_J0_coder_7d493, ini_J0, by decide +kernel, by decide +kernel, by decide +kernel⟩
def mJ0_isLatin1_aae02 : MD := (yJ0_isLatin1_aae02, cJ0_isLatin1_aae02, 1, (some .boolean))
theorem kmJ0_isLatin1_aae02 : KM mJ0_isLatin1_aae02 0 := ⟨cd_J0_isLatin1_aae02, ini_J0, by decide +kernel, by decide +kernel, by decide +kernel⟩
def mJ0_length_8abf5 : MD := (yJ0_length_8abf5, cJ0_length_8abf5, 1, (some .int))
theorem kmJ0_length_8abf5 : KM mJ0_length_8abf5 0 := ⟨cd_J0_length_8abf5, ini_J0, by decide +kernel, by decide +kernel, by decide +kernel⟩
def mJ1_charAt_3b067 : MD := (yJ1_charAt_3b067, cJ1_charAt_3b067, 2, (some .char))
theorem kmJ1_charAt_3b067 : KM mJ1_charAt_3b067 2 := ⟨cd_J1_charAt_3b067, ini_J1, by decide +kernel, by decide +kernel, by decide +kernel⟩
def mJ2_charAt_3b067 : MD := (yJ2_charAt_3b067, cJ2_charAt_3b067, 2, (some .char))
theorem kmJ2_charAt_3b067 : KM mJ2_charAt_3b067 2 := ⟨cd_J2_charAt_3b067, ini_J2, by decide +kernel, by decide +kernel, by decide +kernel⟩
def mJ2_checkIndex_2214a : MD := (yJ2_checkIndex_2214a, cJ2_checkIndex_2214a, 2, none)
theorem kmJ2_checkIndex_2214a : KM mJ2_checkIndex_2214a 2 := ⟨cd_J2_checkIndex_2214a, ini_J2, by decide +kernel, by decide +kernel, by decide +kernel⟩
def mJ2_getChar_3b067 : MD := (yJ2_getChar_3b067, cJ2_getChar_3b067, 2, (some .char))
theorem kmJ2_getChar_3b067 : KM mJ2_getChar_3b067 2 := ⟨cd_J2_getChar_3b067, ini_J2, by decide +kernel, by decide +kernel, by decide +kernel⟩
def mJ2_length_9d52b : MD := (yJ2_length_9d52b, cJ2_length_9d52b, 1, (some .int))
theorem kmJ2_length_9d52b : KM mJ2_length_9d52b 1 := ⟨cd_J2_length_9d52b, ini_J2, by decide +kernel, by decide +kernel, by decide +kernel⟩
def mJ3_checkIndex_8e157 : MD := (yJ3_checkIndex_8e157, cJ3_checkIndex_8e157, 3, (some .int))
theorem kmJ3_checkIndex_8e157 : KM mJ3_checkIndex_8e157 3 := ⟨cd_J3_checkIndex_8e157, ini_J3, by decide +kernel, by decide +kernel, by decide +kernel⟩
def mJ6_bitCount_0f7a4 : MD := (yJ6_bitCount_0f7a4, cJ6_bitCount_0f7a4, 1, (some .int))
theorem kmJ6_bitCount_0f7a4 : KM mJ6_bitCount_0f7a4 1 := ⟨cd_J6_bitCount_0f7a4, ini_J6, by decide +kernel, by decide +kernel, by decide +kernel⟩
def mJ9_abs_067f4 : MD := (yJ9_abs_067f4, cJ9_abs_067f4, 2, (some .long))
theorem kmJ9_abs_067f4 : KM mJ9_abs_067f4 1 := ⟨cd_J9_abs_067f4, ini_J9, by decide +kernel, by decide +kernel, by decide +kernel⟩
def mJ9_max_7cf53 : MD := (yJ9_max_7cf53, cJ9_max_7cf53, 2, (some .int))
theorem kmJ9_max_7cf53 : KM mJ9_max_7cf53 2 := ⟨cd_J9_max_7cf53, ini_J9, by decide +kernel, by decide +kernel, by decide +kernel⟩
def mJ9_min_7cf53 : MD := (yJ9_min_7cf53, cJ9_min_7cf53, 2, (some .int))
theorem kmJ9_min_7cf53 : KM mJ9_min_7cf53 2 := ⟨cd_J9_min_7cf53, ini_J9, by decide +kernel, by decide +kernel, by decide +kernel⟩
def mX0_append : MD := (yX0_append, cX0_append, 7, (some .int))
theorem kmX0_append : KM mX0_append 5 := ⟨cd_X0_append, ini_X0, by decide +kernel, by decide +kernel, by decide +kernel⟩
def mX0_areAllBelow : MD := (yX0_areAllBelow, cX0_areAllBelow, 3, (some .boolean))
theorem kmX0_areAllBelow : KM mX0_areAllBelow 1 := ⟨cd_X0_areAllBelow, ini_X0, by decide +kernel, by decide +kernel, by decide +kernel⟩
def mX0_changedFrom : MD := (yX0_changedFrom, cX0_changedFrom, 6, (some .boolean))
theorem kmX0_changedFrom : KM mX0_changedFrom 2 := ⟨cd_X0_changedFrom, ini_X0, by decide +kernel, by decide +kernel, by decide +kernel⟩
def mX0_copy : MD := (yX0_copy, cX0_copy, 3, none)
theorem kmX0_copy : KM mX0_copy 1 := ⟨cd_X0_copy, ini_X0, by decide +kernel, by decide +kernel, by decide +kernel⟩
def mX0_drop : MD := (yX0_drop, cX0_drop, 4, none)
theorem kmX0_drop : KM mX0_drop 1 := ⟨cd_X0_drop, ini_X0, by decide +kernel, by decide +kernel, by decide +kernel⟩
def mX0_groupOf : MD := (yX0_groupOf, cX0_groupOf, 3, (some .int))
theorem kmX0_groupOf : KM mX0_groupOf 2 := ⟨cd_X0_groupOf, ini_X0, by decide +kernel, by decide +kernel, by decide +kernel⟩
def mX0_init : MD := (yX0_init, cX0_init, 1, none)
theorem kmX0_init : KM mX0_init 0 := ⟨cd_X0_init, ini_X0, by decide +kernel, by decide +kernel, by decide +kernel⟩
def mX0_isOf : MD := (yX0_isOf, cX0_isOf, 4, (some .boolean))
theorem kmX0_isOf : KM mX0_isOf 3 := ⟨cd_X0_isOf, ini_X0, by decide +kernel, by decide +kernel, by decide +kernel⟩
def mX0_marks : MD := (yX0_marks, cX0_marks, 1, (some .int))
theorem kmX0_marks : KM mX0_marks 0 := ⟨cd_X0_marks, ini_X0, by decide +kernel, by decide +kernel, by decide +kernel⟩
def mX0_marksOf : MD := (yX0_marksOf, cX0_marksOf, 5, (some .int))
theorem kmX0_marksOf : KM mX0_marksOf 2 := ⟨cd_X0_marksOf, ini_X0, by decide +kernel, by decide +kernel, by decide +kernel⟩
def mX0_marriagesIn : MD := (yX0_marriagesIn, cX0_marriagesIn, 4, (some .int))
theorem kmX0_marriagesIn : KM mX0_marriagesIn 1 := ⟨cd_X0_marriagesIn, ini_X0, by decide +kernel, by decide +kernel, by decide +kernel⟩
def mX0_mostApart : MD := (yX0_mostApart, cX0_mostApart, 5, (some .int))
theorem kmX0_mostApart : KM mX0_mostApart 1 := ⟨cd_X0_mostApart, ini_X0, by decide +kernel, by decide +kernel, by decide +kernel⟩
def mX0_startSide : MD := (yX0_startSide, cX0_startSide, 3, none)
theorem kmX0_startSide : KM mX0_startSide 2 := ⟨cd_X0_startSide, ini_X0, by decide +kernel, by decide +kernel, by decide +kernel⟩
def mX0_yearOf : MD := (yX0_yearOf, cX0_yearOf, 2, (some .int))
theorem kmX0_yearOf : KM mX0_yearOf 1 := ⟨cd_X0_yearOf, ini_X0, by decide +kernel, by decide +kernel, by decide +kernel⟩
def mX10_ableOf : MD := (yX10_ableOf, cX10_ableOf, 3, (some .int))
theorem kmX10_ableOf : KM mX10_ableOf 3 := ⟨cd_X10_ableOf, ini_X10, by decide +kernel, by decide +kernel, by decide +kernel⟩
def mX10_addBetter : MD := (yX10_addBetter, cX10_addBetter, 6, none)
theorem kmX10_addBetter : KM mX10_addBetter 1 := ⟨cd_X10_addBetter, ini_X10, by decide +kernel, by decide +kernel, by decide +kernel⟩
def mX10_addMore : MD := (yX10_addMore, cX10_addMore, 6, none)
theorem kmX10_addMore : KM mX10_addMore 1 := ⟨cd_X10_addMore, ini_X10, by decide +kernel, by decide +kernel, by decide +kernel⟩
def mX10_allHaveMarks : MD := (yX10_allHaveMarks, cX10_allHaveMarks, 3, (some .boolean))
theorem kmX10_allHaveMarks : KM mX10_allHaveMarks 1 := ⟨cd_X10_allHaveMarks, ini_X10, by decide +kernel, by decide +kernel, by decide +kernel⟩
def mX10_apart : MD := (yX10_apart, cX10_apart, 3, (some .int))
theorem kmX10_apart : KM mX10_apart 2 := ⟨cd_X10_apart, ini_X10, by decide +kernel, by decide +kernel, by decide +kernel⟩
def mX10_appendFrom : MD := (yX10_appendFrom, cX10_appendFrom, 6, none)
theorem kmX10_appendFrom : KM mX10_appendFrom 3 := ⟨cd_X10_appendFrom, ini_X10, by decide +kernel, by decide +kernel, by decide +kernel⟩
def mX10_areLearntYears : MD := (yX10_areLearntYears, cX10_areLearntYears, 2, (some .boolean))
theorem kmX10_areLearntYears : KM mX10_areLearntYears 2 := ⟨cd_X10_areLearntYears, ini_X10, by decide +kernel, by decide +kernel, by decide +kernel⟩
def mX10_areParishes : MD := (yX10_areParishes, cX10_areParishes, 2, (some .boolean))
theorem kmX10_areParishes : KM mX10_areParishes 1 := ⟨cd_X10_areParishes, ini_X10, by decide +kernel, by decide +kernel, by decide +kernel⟩
def mX10_back : MD := (yX10_back, cX10_back, 3, (some .int))
theorem kmX10_back : KM mX10_back 1 := ⟨cd_X10_back, ini_X10, by decide +kernel, by decide +kernel, by decide +kernel⟩
def mX10_best : MD := (yX10_best, cX10_best, 6, (some .int))
theorem kmX10_best : KM mX10_best 4 := ⟨cd_X10_best, ini_X10, by decide +kernel, by decide +kernel, by decide +kernel⟩
def mX10_bitsApart : MD := (yX10_bitsApart, cX10_bitsApart, 2, (some .int))
theorem kmX10_bitsApart : KM mX10_bitsApart 2 := ⟨cd_X10_bitsApart, ini_X10, by decide +kernel, by decide +kernel, by decide +kernel⟩
def mX10_bottomOf : MD := (yX10_bottomOf, cX10_bottomOf, 2, (some .long))
theorem kmX10_bottomOf : KM mX10_bottomOf 1 := ⟨cd_X10_bottomOf, ini_X10, by decide +kernel, by decide +kernel, by decide +kernel⟩
def mX10_bounds : MD := (yX10_bounds, cX10_bounds, 9, (some .int))
theorem kmX10_bounds : KM mX10_bounds 4 := ⟨cd_X10_bounds, ini_X10, by decide +kernel, by decide +kernel, by decide +kernel⟩
def mX10_choose : MD := (yX10_choose, cX10_choose, 7, (some .int))
theorem kmX10_choose : KM mX10_choose 6 := ⟨cd_X10_choose, ini_X10, by decide +kernel, by decide +kernel, by decide +kernel⟩
def mX10_clerk : MD := (yX10_clerk, cX10_clerk, 3, (some .int))
theorem kmX10_clerk : KM mX10_clerk 2 := ⟨cd_X10_clerk, ini_X10, by decide +kernel, by decide +kernel, by decide +kernel⟩
def mX10_count : MD := (yX10_count, cX10_count, 2, (some .int))
theorem kmX10_count : KM mX10_count 1 := ⟨cd_X10_count, ini_X10, by decide +kernel, by decide +kernel, by decide +kernel⟩
def mX10_end : MD := (yX10_end, cX10_end, 3, (some .int))
theorem kmX10_end : KM mX10_end 1 := ⟨cd_X10_end, ini_X10, by decide +kernel, by decide +kernel, by decide +kernel⟩
def mX10_enough : MD := (yX10_enough, cX10_enough, 7, (some .int))
theorem kmX10_enough : KM mX10_enough 3 := ⟨cd_X10_enough, ini_X10, by decide +kernel, by decide +kernel, by decide +kernel⟩
def mX10_fault : MD := (yX10_fault, cX10_fault, 1, (some .int))
theorem kmX10_fault : KM mX10_fault 0 := ⟨cd_X10_fault, ini_X10, by decide +kernel, by decide +kernel, by decide +kernel⟩
def mX10_feed : MD := (yX10_feed, cX10_feed, 3, (some .int))
theorem kmX10_feed : KM mX10_feed 1 := ⟨cd_X10_feed, ini_X10, by decide +kernel, by decide +kernel, by decide +kernel⟩
def mX10_fewestBelow : MD := (yX10_fewestBelow, cX10_fewestBelow, 7, (some .int))
theorem kmX10_fewestBelow : KM mX10_fewestBelow 2 := ⟨cd_X10_fewestBelow, ini_X10, by decide +kernel, by decide +kernel, by decide +kernel⟩
def mX10_find : MD := (yX10_find, cX10_find, 9, (some .int))
theorem kmX10_find : KM mX10_find 3 := ⟨cd_X10_find, ini_X10, by decide +kernel, by decide +kernel, by decide +kernel⟩
def mX10_fractionOrNone : MD := (yX10_fractionOrNone, cX10_fractionOrNone, 4, (some .int))
theorem kmX10_fractionOrNone : KM mX10_fractionOrNone 3 := ⟨cd_X10_fractionOrNone, ini_X10, by decide +kernel, by decide +kernel, by decide +kernel⟩
def mX10_gatherHands : MD := (yX10_gatherHands, cX10_gatherHands, 4, (some .int))
theorem kmX10_gatherHands : KM mX10_gatherHands 1 := ⟨cd_X10_gatherHands, ini_X10, by decide +kernel, by decide +kernel, by decide +kernel⟩
def mX10_has : MD := (yX10_has, cX10_has, 4, (some .int))
theorem kmX10_has : KM mX10_has 3 := ⟨cd_X10_has, ini_X10, by decide +kernel, by decide +kernel, by decide +kernel⟩
def mX10_hasBit : MD := (yX10_hasBit, cX10_hasBit, 2, (some .boolean))
theorem kmX10_hasBit : KM mX10_hasBit 2 := ⟨cd_X10_hasBit, ini_X10, by decide +kernel, by decide +kernel, by decide +kernel⟩
def mX10_howMany : MD := (yX10_howMany, cX10_howMany, 5, (some .int))
theorem kmX10_howMany : KM mX10_howMany 2 := ⟨cd_X10_howMany, ini_X10, by decide +kernel, by decide +kernel, by decide +kernel⟩
def mX10_howManyLearnt : MD := (yX10_howManyLearnt, cX10_howManyLearnt, 8, (some .int))
theorem kmX10_howManyLearnt : KM mX10_howManyLearnt 4 := ⟨cd_X10_howManyLearnt, ini_X10, by decide +kernel, by decide +kernel, by decide +kernel⟩
def mX10_howManyNear : MD := (yX10_howManyNear, cX10_howManyNear, 6, (some .int))
theorem kmX10_howManyNear : KM mX10_howManyNear 3 := ⟨cd_X10_howManyNear, ini_X10, by decide +kernel, by decide +kernel, by decide +kernel⟩
def mX10_howManyPairs : MD := (yX10_howManyPairs, cX10_howManyPairs, 6, (some .int))
theorem kmX10_howManyPairs : KM mX10_howManyPairs 3 := ⟨cd_X10_howManyPairs, ini_X10, by decide +kernel, by decide +kernel, by decide +kernel⟩
def mX10_howSurelyLearnt : MD := (yX10_howSurelyLearnt, cX10_howSurelyLearnt, 8, (some .int))
theorem kmX10_howSurelyLearnt : KM mX10_howSurelyLearnt 3 := ⟨cd_X10_howSurelyLearnt, ini_X10, by decide +kernel, by decide +kernel, by decide +kernel⟩
def mX10_init : MD := (yX10_init, cX10_init, 1, none)
theorem kmX10_init : KM mX10_init 0 := ⟨cd_X10_init, ini_X10, by decide +kernel, by decide +kernel, by decide +kernel⟩
def mX10_isChoice : MD := (yX10_isChoice, cX10_isChoice, 1, (some .boolean))
theorem kmX10_isChoice : KM mX10_isChoice 1 := ⟨cd_X10_isChoice, ini_X10, by decide +kernel, by decide +kernel, by decide +kernel⟩
def mX10_isInBooks : MD := (yX10_isInBooks, cX10_isInBooks, 2, (some .boolean))
theorem kmX10_isInBooks : KM mX10_isInBooks 1 := ⟨cd_X10_isInBooks, ini_X10, by decide +kernel, by decide +kernel, by decide +kernel⟩
def mX10_isLane : MD := (yX10_isLane, cX10_isLane, 1, (some .boolean))
theorem kmX10_isLane : KM mX10_isLane 1 := ⟨cd_X10_isLane, ini_X10, by decide +kernel, by decide +kernel, by decide +kernel⟩
def mX10_isMark : MD := (yX10_isMark, cX10_isMark, 3, (some .boolean))
theorem kmX10_isMark : KM mX10_isMark 2 := ⟨cd_X10_isMark, ini_X10, by decide +kernel, by decide +kernel, by decide +kernel⟩
def mX10_isMarriage : MD := (yX10_isMarriage, cX10_isMarriage, 6, (some .boolean))
theorem kmX10_isMarriage : KM mX10_isMarriage 5 := ⟨cd_X10_isMarriage, ini_X10, by decide +kernel, by decide +kernel, by decide +kernel⟩
def mX10_isOfSort : MD := (yX10_isOfSort, cX10_isOfSort, 3, (some .boolean))
theorem kmX10_isOfSort : KM mX10_isOfSort 2 := ⟨cd_X10_isOfSort, ini_X10, by decide +kernel, by decide +kernel, by decide +kernel⟩
def mX10_isParish : MD := (yX10_isParish, cX10_isParish, 2, (some .boolean))
theorem kmX10_isParish : KM mX10_isParish 1 := ⟨cd_X10_isParish, ini_X10, by decide +kernel, by decide +kernel, by decide +kernel⟩
def mX10_isSheet : MD := (yX10_isSheet, cX10_isSheet, 1, (some .boolean))
theorem kmX10_isSheet : KM mX10_isSheet 1 := ⟨cd_X10_isSheet, ini_X10, by decide +kernel, by decide +kernel, by decide +kernel⟩
def mX10_keep : MD := (yX10_keep, cX10_keep, 4, (some .int))
theorem kmX10_keep : KM mX10_keep 1 := ⟨cd_X10_keep, ini_X10, by decide +kernel, by decide +kernel, by decide +kernel⟩
def mX10_kind : MD := (yX10_kind, cX10_kind, 3, (some .int))
theorem kmX10_kind : KM mX10_kind 2 := ⟨cd_X10_kind, ini_X10, by decide +kernel, by decide +kernel, by decide +kernel⟩
def mX10_land : MD := (yX10_land, cX10_land, 2, (some .int))
theorem kmX10_land : KM mX10_land 0 := ⟨cd_X10_land, ini_X10, by decide +kernel, by decide +kernel, by decide +kernel⟩
def mX10_largestBelow : MD := (yX10_largestBelow, cX10_largestBelow, 6, (some .int))
theorem kmX10_largestBelow : KM mX10_largestBelow 2 := ⟨cd_X10_largestBelow, ini_X10, by decide +kernel, by decide +kernel, by decide +kernel⟩
def mX10_lay : MD := (yX10_lay, cX10_lay, 5, (some .int))
theorem kmX10_lay : KM mX10_lay 3 := ⟨cd_X10_lay, ini_X10, by decide +kernel, by decide +kernel, by decide +kernel⟩
def mX10_learnt : MD := (yX10_learnt, cX10_learnt, 5, (some .int))
theorem kmX10_learnt : KM mX10_learnt 4 := ⟨cd_X10_learnt, ini_X10, by decide +kernel, by decide +kernel, by decide +kernel⟩
def mX10_leastBits : MD := (yX10_leastBits, cX10_leastBits, 8, (some .int))
theorem kmX10_leastBits : KM mX10_leastBits 2 := ⟨cd_X10_leastBits, ini_X10, by decide +kernel, by decide +kernel, by decide +kernel⟩
def mX10_leastDrawn : MD := (yX10_leastDrawn, cX10_leastDrawn, 3, (some .int))
theorem kmX10_leastDrawn : KM mX10_leastDrawn 3 := ⟨cd_X10_leastDrawn, ini_X10, by decide +kernel, by decide +kernel, by decide +kernel⟩
def mX10_many : MD := (yX10_many, cX10_many, 3, (some .int))
theorem kmX10_many : KM mX10_many 2 := ⟨cd_X10_many, ini_X10, by decide +kernel, by decide +kernel, by decide +kernel⟩
def mX10_marksOf : MD := (yX10_marksOf, cX10_marksOf, 3, (some .int))
theorem kmX10_marksOf : KM mX10_marksOf 3 := ⟨cd_X10_marksOf, ini_X10, by decide +kernel, by decide +kernel, by decide +kernel⟩
def mX10_marry : MD := (yX10_marry, cX10_marry, 6, (some .int))
theorem kmX10_marry : KM mX10_marry 5 := ⟨cd_X10_marry, ini_X10, by decide +kernel, by decide +kernel, by decide +kernel⟩
def mX10_mayBe : MD := (yX10_mayBe, cX10_mayBe, 2, (some .boolean))
theorem kmX10_mayBe : KM mX10_mayBe 2 := ⟨cd_X10_mayBe, ini_X10, by decide +kernel, by decide +kernel, by decide +kernel⟩
def mX10_next : MD := (yX10_next, cX10_next, 3, (some .int))
theorem kmX10_next : KM mX10_next 1 := ⟨cd_X10_next, ini_X10, by decide +kernel, by decide +kernel, by decide +kernel⟩
def mX10_of : MD := (yX10_of, cX10_of, 3, (some .int))
theorem kmX10_of : KM mX10_of 2 := ⟨cd_X10_of, ini_X10, by decide +kernel, by decide +kernel, by decide +kernel⟩
def mX10_pairs : MD := (yX10_pairs, cX10_pairs, 3, (some .int))
theorem kmX10_pairs : KM mX10_pairs 2 := ⟨cd_X10_pairs, ini_X10, by decide +kernel, by decide +kernel, by decide +kernel⟩
def mX10_parish : MD := (yX10_parish, cX10_parish, 3, (some .int))
theorem kmX10_parish : KM mX10_parish 2 := ⟨cd_X10_parish, ini_X10, by decide +kernel, by decide +kernel, by decide +kernel⟩
def mX10_parts : MD := (yX10_parts, cX10_parts, 4, (some .long))
theorem kmX10_parts : KM mX10_parts 2 := ⟨cd_X10_parts, ini_X10, by decide +kernel, by decide +kernel, by decide +kernel⟩
def mX10_person : MD := (yX10_person, cX10_person, 4, (some .int))
theorem kmX10_person : KM mX10_person 2 := ⟨cd_X10_person, ini_X10, by decide +kernel, by decide +kernel, by decide +kernel⟩
def mX10_read : MD := (yX10_read, cX10_read, 9, (some .int))
theorem kmX10_read : KM mX10_read 4 := ⟨cd_X10_read, ini_X10, by decide +kernel, by decide +kernel, by decide +kernel⟩
def mX10_reading : MD := (yX10_reading, cX10_reading, 5, (some .long))
theorem kmX10_reading : KM mX10_reading 2 := ⟨cd_X10_reading, ini_X10, by decide +kernel, by decide +kernel, by decide +kernel⟩
def mX10_refusalOf : MD := (yX10_refusalOf, cX10_refusalOf, 6, (some .int))
theorem kmX10_refusalOf : KM mX10_refusalOf 3 := ⟨cd_X10_refusalOf, ini_X10, by decide +kernel, by decide +kernel, by decide +kernel⟩
def mX10_set : MD := (yX10_set, cX10_set, 7, (some .int))
theorem kmX10_set : KM mX10_set 4 := ⟨cd_X10_set, ini_X10, by decide +kernel, by decide +kernel, by decide +kernel⟩
def mX10_share : MD := (yX10_share, cX10_share, 3, (some .int))
theorem kmX10_share : KM mX10_share 2 := ⟨cd_X10_share, ini_X10, by decide +kernel, by decide +kernel, by decide +kernel⟩
def mX10_sheet : MD := (yX10_sheet, cX10_sheet, 4, (some .int))
theorem kmX10_sheet : KM mX10_sheet 3 := ⟨cd_X10_sheet, ini_X10, by decide +kernel, by decide +kernel, by decide +kernel⟩
def mX10_span : MD := (yX10_span, cX10_span, 5, (some .long))
theorem kmX10_span : KM mX10_span 2 := ⟨cd_X10_span, ini_X10, by decide +kernel, by decide +kernel, by decide +kernel⟩
def mX10_spared : MD := (yX10_spared, cX10_spared, 8, (some .int))
theorem kmX10_spared : KM mX10_spared 2 := ⟨cd_X10_spared, ini_X10, by decide +kernel, by decide +kernel, by decide +kernel⟩
def mX10_takeDraft : MD := (yX10_takeDraft, cX10_takeDraft, 2, none)
theorem kmX10_takeDraft : KM mX10_takeDraft 0 := ⟨cd_X10_takeDraft, ini_X10, by decide +kernel, by decide +kernel, by decide +kernel⟩
def mX10_tallyGroups : MD := (yX10_tallyGroups, cX10_tallyGroups, 5, none)
theorem kmX10_tallyGroups : KM mX10_tallyGroups 3 := ⟨cd_X10_tallyGroups, ini_X10, by decide +kernel, by decide +kernel, by decide +kernel⟩
def mX10_tallyPersons : MD := (yX10_tallyPersons, cX10_tallyPersons, 2, none)
theorem kmX10_tallyPersons : KM mX10_tallyPersons 0 := ⟨cd_X10_tallyPersons, ini_X10, by decide +kernel, by decide +kernel, by decide +kernel⟩
def mX10_tallyQuarters : MD := (yX10_tallyQuarters, cX10_tallyQuarters, 6, none)
theorem kmX10_tallyQuarters : KM mX10_tallyQuarters 2 := ⟨cd_X10_tallyQuarters, ini_X10, by decide +kernel, by decide +kernel, by decide +kernel⟩
def mX10_tallyTens : MD := (yX10_tallyTens, cX10_tallyTens, 5, none)
theorem kmX10_tallyTens : KM mX10_tallyTens 1 := ⟨cd_X10_tallyTens, ini_X10, by decide +kernel, by decide +kernel, by decide +kernel⟩
def mX10_tear : MD := (yX10_tear, cX10_tear, 2, (some .int))
theorem kmX10_tear : KM mX10_tear 1 := ⟨cd_X10_tear, ini_X10, by decide +kernel, by decide +kernel, by decide +kernel⟩
def mX10_tens : MD := (yX10_tens, cX10_tens, 4, (some .int))
theorem kmX10_tens : KM mX10_tens 2 := ⟨cd_X10_tens, ini_X10, by decide +kernel, by decide +kernel, by decide +kernel⟩
def mX10_told : MD := (yX10_told, cX10_told, 2, (some .int))
theorem kmX10_told : KM mX10_told 1 := ⟨cd_X10_told, ini_X10, by decide +kernel, by decide +kernel, by decide +kernel⟩
def mX10_torn : MD := (yX10_torn, cX10_torn, 1, (some .int))
theorem kmX10_torn : KM mX10_torn 0 := ⟨cd_X10_torn, ini_X10, by decide +kernel, by decide +kernel, by decide +kernel⟩
def mX10_twice : MD := (yX10_twice, cX10_twice, 6, (some .int))
theorem kmX10_twice : KM mX10_twice 1 := ⟨cd_X10_twice, ini_X10, by decide +kernel, by decide +kernel, by decide +kernel⟩
def mX10_unwed : MD := (yX10_unwed, cX10_unwed, 5, (some .int))
theorem kmX10_unwed : KM mX10_unwed 2 := ⟨cd_X10_unwed, ini_X10, by decide +kernel, by decide +kernel, by decide +kernel⟩
def mX10_within : MD := (yX10_within, cX10_within, 3, (some .boolean))
theorem kmX10_within : KM mX10_within 3 := ⟨cd_X10_within, ini_X10, by decide +kernel, by decide +kernel, by decide +kernel⟩
def mX10_worth : MD := (yX10_worth, cX10_worth, 5, (some .int))
theorem kmX10_worth : KM mX10_worth 3 := ⟨cd_X10_worth, ini_X10, by decide +kernel, by decide +kernel, by decide +kernel⟩
def mX10_writer : MD := (yX10_writer, cX10_writer, 3, (some .int))
theorem kmX10_writer : KM mX10_writer 2 := ⟨cd_X10_writer, ini_X10, by decide +kernel, by decide +kernel, by decide +kernel⟩
def mX11_adds : MD := (yX11_adds, cX11_adds, 8, none)
theorem kmX11_adds : KM mX11_adds 5 := ⟨cd_X11_adds, ini_X11, by decide +kernel, by decide +kernel, by decide +kernel⟩
def mX11_allMarriages : MD := (yX11_allMarriages, cX11_allMarriages, 3, (some .int))
theorem kmX11_allMarriages : KM mX11_allMarriages 0 := ⟨cd_X11_allMarriages, ini_X11, by decide +kernel, by decide +kernel, by decide +kernel⟩
def mX11_apart : MD := (yX11_apart, cX11_apart, 3, (some .int))
theorem kmX11_apart : KM mX11_apart 2 := ⟨cd_X11_apart, ini_X11, by decide +kernel, by decide +kernel, by decide +kernel⟩
def mX11_areDrawn : MD := (yX11_areDrawn, cX11_areDrawn, 2, (some .boolean))
theorem kmX11_areDrawn : KM mX11_areDrawn 1 := ⟨cd_X11_areDrawn, ini_X11, by decide +kernel, by decide +kernel, by decide +kernel⟩
def mX11_awake : MD := (yX11_awake, cX11_awake, 1, none)
theorem kmX11_awake : KM mX11_awake 0 := ⟨cd_X11_awake, ini_X11, by decide +kernel, by decide +kernel, by decide +kernel⟩
def mX11_back : MD := (yX11_back, cX11_back, 5, (some .int))
theorem kmX11_back : KM mX11_back 1 := ⟨cd_X11_back, ini_X11, by decide +kernel, by decide +kernel, by decide +kernel⟩
def mX11_best : MD := (yX11_best, cX11_best, 9, (some .int))
theorem kmX11_best : KM mX11_best 4 := ⟨cd_X11_best, ini_X11, by decide +kernel, by decide +kernel, by decide +kernel⟩
def mX11_bitsOf : MD := (yX11_bitsOf, cX11_bitsOf, 3, (some .int))
theorem kmX11_bitsOf : KM mX11_bitsOf 1 := ⟨cd_X11_bitsOf, ini_X11, by decide +kernel, by decide +kernel, by decide +kernel⟩
def mX11_bounds : MD := (yX11_bounds, cX11_bounds, 7, (some .int))
theorem kmX11_bounds : KM mX11_bounds 4 := ⟨cd_X11_bounds, ini_X11, by decide +kernel, by decide +kernel, by decide +kernel⟩
def mX11_byteAt : MD := (yX11_byteAt, cX11_byteAt, 2, (some .int))
theorem kmX11_byteAt : KM mX11_byteAt 1 := ⟨cd_X11_byteAt, ini_X11, by decide +kernel, by decide +kernel, by decide +kernel⟩
def mX11_choose : MD := (yX11_choose, cX11_choose, 7, (some .int))
theorem kmX11_choose : KM mX11_choose 6 := ⟨cd_X11_choose, ini_X11, by decide +kernel, by decide +kernel, by decide +kernel⟩
def mX11_clerk : MD := (yX11_clerk, cX11_clerk, 5, (some .int))
theorem kmX11_clerk : KM mX11_clerk 2 := ⟨cd_X11_clerk, ini_X11, by decide +kernel, by decide +kernel, by decide +kernel⟩
def mX11_common : MD := (yX11_common, cX11_common, 10, (some .long))
theorem kmX11_common : KM mX11_common 2 := ⟨cd_X11_common, ini_X11, by decide +kernel, by decide +kernel, by decide +kernel⟩
def mX11_count : MD := (yX11_count, cX11_count, 4, (some .int))
theorem kmX11_count : KM mX11_count 1 := ⟨cd_X11_count, ini_X11, by decide +kernel, by decide +kernel, by decide +kernel⟩
def mX11_end : MD := (yX11_end, cX11_end, 3, (some .int))
theorem kmX11_end : KM mX11_end 1 := ⟨cd_X11_end, ini_X11, by decide +kernel, by decide +kernel, by decide +kernel⟩
def mX11_enough : MD := (yX11_enough, cX11_enough, 10, (some .int))
theorem kmX11_enough : KM mX11_enough 3 := ⟨cd_X11_enough, ini_X11, by decide +kernel, by decide +kernel, by decide +kernel⟩
def mX11_fails : MD := (yX11_fails, cX11_fails, 2, none)
theorem kmX11_fails : KM mX11_fails 1 := ⟨cd_X11_fails, ini_X11, by decide +kernel, by decide +kernel, by decide +kernel⟩
def mX11_fault : MD := (yX11_fault, cX11_fault, 1, (some .int))
theorem kmX11_fault : KM mX11_fault 0 := ⟨cd_X11_fault, ini_X11, by decide +kernel, by decide +kernel, by decide +kernel⟩
def mX11_feed : MD := (yX11_feed, cX11_feed, 4, (some .int))
theorem kmX11_feed : KM mX11_feed 1 := ⟨cd_X11_feed, ini_X11, by decide +kernel, by decide +kernel, by decide +kernel⟩
def mX11_find : MD := (yX11_find, cX11_find, 10, (some .int))
theorem kmX11_find : KM mX11_find 3 := ⟨cd_X11_find, ini_X11, by decide +kernel, by decide +kernel, by decide +kernel⟩
def mX11_groupMany : MD := (yX11_groupMany, cX11_groupMany, 2, (some .int))
theorem kmX11_groupMany : KM mX11_groupMany 1 := ⟨cd_X11_groupMany, ini_X11, by decide +kernel, by decide +kernel, by decide +kernel⟩
def mX11_groupOf : MD := (yX11_groupOf, cX11_groupOf, 4, (some .int))
theorem kmX11_groupOf : KM mX11_groupOf 2 := ⟨cd_X11_groupOf, ini_X11, by decide +kernel, by decide +kernel, by decide +kernel⟩
def mX11_has : MD := (yX11_has, cX11_has, 4, (some .int))
theorem kmX11_has : KM mX11_has 3 := ⟨cd_X11_has, ini_X11, by decide +kernel, by decide +kernel, by decide +kernel⟩
def mX11_in : MD := (yX11_in, cX11_in, 6, (some .boolean))
theorem kmX11_in : KM mX11_in 3 := ⟨cd_X11_in, ini_X11, by decide +kernel, by decide +kernel, by decide +kernel⟩
def mX11_init : MD := (yX11_init, cX11_init, 1, none)
theorem kmX11_init : KM mX11_init 0 := ⟨cd_X11_init, ini_X11, by decide +kernel, by decide +kernel, by decide +kernel⟩
def mX11_isAble : MD := (yX11_isAble, cX11_isAble, 2, (some .boolean))
theorem kmX11_isAble : KM mX11_isAble 1 := ⟨cd_X11_isAble, ini_X11, by decide +kernel, by decide +kernel, by decide +kernel⟩
def mX11_isChoice : MD := (yX11_isChoice, cX11_isChoice, 1, (some .boolean))
theorem kmX11_isChoice : KM mX11_isChoice 1 := ⟨cd_X11_isChoice, ini_X11, by decide +kernel, by decide +kernel, by decide +kernel⟩
def mX11_isClerk : MD := (yX11_isClerk, cX11_isClerk, 2, (some .boolean))
theorem kmX11_isClerk : KM mX11_isClerk 1 := ⟨cd_X11_isClerk, ini_X11, by decide +kernel, by decide +kernel, by decide +kernel⟩
def mX11_isDrawn : MD := (yX11_isDrawn, cX11_isDrawn, 8, (some .boolean))
theorem kmX11_isDrawn : KM mX11_isDrawn 2 := ⟨cd_X11_isDrawn, ini_X11, by decide +kernel, by decide +kernel, by decide +kernel⟩
def mX11_isIn : MD := (yX11_isIn, cX11_isIn, 5, (some .boolean))
theorem kmX11_isIn : KM mX11_isIn 2 := ⟨cd_X11_isIn, ini_X11, by decide +kernel, by decide +kernel, by decide +kernel⟩
def mX11_isLater : MD := (yX11_isLater, cX11_isLater, 8, (some .boolean))
theorem kmX11_isLater : KM mX11_isLater 3 := ⟨cd_X11_isLater, ini_X11, by decide +kernel, by decide +kernel, by decide +kernel⟩
def mX11_isMark : MD := (yX11_isMark, cX11_isMark, 3, (some .boolean))
theorem kmX11_isMark : KM mX11_isMark 2 := ⟨cd_X11_isMark, ini_X11, by decide +kernel, by decide +kernel, by decide +kernel⟩
def mX11_isMarry : MD := (yX11_isMarry, cX11_isMarry, 6, (some .boolean))
theorem kmX11_isMarry : KM mX11_isMarry 5 := ⟨cd_X11_isMarry, ini_X11, by decide +kernel, by decide +kernel, by decide +kernel⟩
def mX11_isOwnName : MD := (yX11_isOwnName, cX11_isOwnName, 3, (some .boolean))
theorem kmX11_isOwnName : KM mX11_isOwnName 2 := ⟨cd_X11_isOwnName, ini_X11, by decide +kernel, by decide +kernel, by decide +kernel⟩
def mX11_isParish : MD := (yX11_isParish, cX11_isParish, 2, (some .boolean))
theorem kmX11_isParish : KM mX11_isParish 1 := ⟨cd_X11_isParish, ini_X11, by decide +kernel, by decide +kernel, by decide +kernel⟩
def mX11_isSpan : MD := (yX11_isSpan, cX11_isSpan, 2, (some .boolean))
theorem kmX11_isSpan : KM mX11_isSpan 2 := ⟨cd_X11_isSpan, ini_X11, by decide +kernel, by decide +kernel, by decide +kernel⟩
def mX11_isValue : MD := (yX11_isValue, cX11_isValue, 2, (some .boolean))
theorem kmX11_isValue : KM mX11_isValue 2 := ⟨cd_X11_isValue, ini_X11, by decide +kernel, by decide +kernel, by decide +kernel⟩
def mX11_its : MD := (yX11_its, cX11_its, 3, (some .int))
theorem kmX11_its : KM mX11_its 2 := ⟨cd_X11_its, ini_X11, by decide +kernel, by decide +kernel, by decide +kernel⟩
def mX11_keep : MD := (yX11_keep, cX11_keep, 3, (some .int))
theorem kmX11_keep : KM mX11_keep 1 := ⟨cd_X11_keep, ini_X11, by decide +kernel, by decide +kernel, by decide +kernel⟩
def mX11_kind : MD := (yX11_kind, cX11_kind, 3, (some .int))
theorem kmX11_kind : KM mX11_kind 2 := ⟨cd_X11_kind, ini_X11, by decide +kernel, by decide +kernel, by decide +kernel⟩
def mX11_kindOf : MD := (yX11_kindOf, cX11_kindOf, 6, (some .int))
theorem kmX11_kindOf : KM mX11_kindOf 2 := ⟨cd_X11_kindOf, ini_X11, by decide +kernel, by decide +kernel, by decide +kernel⟩
def mX11_land : MD := (yX11_land, cX11_land, 3, (some .int))
theorem kmX11_land : KM mX11_land 0 := ⟨cd_X11_land, ini_X11, by decide +kernel, by decide +kernel, by decide +kernel⟩
def mX11_lay : MD := (yX11_lay, cX11_lay, 4, (some .int))
theorem kmX11_lay : KM mX11_lay 3 := ⟨cd_X11_lay, ini_X11, by decide +kernel, by decide +kernel, by decide +kernel⟩
def mX11_layKinds : MD := (yX11_layKinds, cX11_layKinds, 2, none)
theorem kmX11_layKinds : KM mX11_layKinds 0 := ⟨cd_X11_layKinds, ini_X11, by decide +kernel, by decide +kernel, by decide +kernel⟩
def mX11_layLearnt : MD := (yX11_layLearnt, cX11_layLearnt, 11, none)
theorem kmX11_layLearnt : KM mX11_layLearnt 3 := ⟨cd_X11_layLearnt, ini_X11, by decide +kernel, by decide +kernel, by decide +kernel⟩
def mX11_learnt : MD := (yX11_learnt, cX11_learnt, 5, (some .int))
theorem kmX11_learnt : KM mX11_learnt 4 := ⟨cd_X11_learnt, ini_X11, by decide +kernel, by decide +kernel, by decide +kernel⟩
def mX11_lowest : MD := (yX11_lowest, cX11_lowest, 5, (some .long))
theorem kmX11_lowest : KM mX11_lowest 3 := ⟨cd_X11_lowest, ini_X11, by decide +kernel, by decide +kernel, by decide +kernel⟩
def mX11_many : MD := (yX11_many, cX11_many, 6, (some .int))
theorem kmX11_many : KM mX11_many 2 := ⟨cd_X11_many, ini_X11, by decide +kernel, by decide +kernel, by decide +kernel⟩
def mX11_marked : MD := (yX11_marked, cX11_marked, 3, (some .int))
theorem kmX11_marked : KM mX11_marked 0 := ⟨cd_X11_marked, ini_X11, by decide +kernel, by decide +kernel, by decide +kernel⟩
def mX11_marksOf : MD := (yX11_marksOf, cX11_marksOf, 5, (some .int))
theorem kmX11_marksOf : KM mX11_marksOf 2 := ⟨cd_X11_marksOf, ini_X11, by decide +kernel, by decide +kernel, by decide +kernel⟩
def mX11_marry : MD := (yX11_marry, cX11_marry, 6, (some .int))
theorem kmX11_marry : KM mX11_marry 5 := ⟨cd_X11_marry, ini_X11, by decide +kernel, by decide +kernel, by decide +kernel⟩
def mX11_nameHere : MD := (yX11_nameHere, cX11_nameHere, 4, (some .int))
theorem kmX11_nameHere : KM mX11_nameHere 0 := ⟨cd_X11_nameHere, ini_X11, by decide +kernel, by decide +kernel, by decide +kernel⟩
def mX11_nameKind : MD := (yX11_nameKind, cX11_nameKind, 3, (some .int))
theorem kmX11_nameKind : KM mX11_nameKind 2 := ⟨cd_X11_nameKind, ini_X11, by decide +kernel, by decide +kernel, by decide +kernel⟩
def mX11_next : MD := (yX11_next, cX11_next, 5, (some .int))
theorem kmX11_next : KM mX11_next 1 := ⟨cd_X11_next, ini_X11, by decide +kernel, by decide +kernel, by decide +kernel⟩
def mX11_next2 : MD := (yX11_next2, cX11_next2, 2, none)
theorem kmX11_next2 : KM mX11_next2 0 := ⟨cd_X11_next2, ini_X11, by decide +kernel, by decide +kernel, by decide +kernel⟩
def mX11_nothing : MD := (yX11_nothing, cX11_nothing, 1, none)
theorem kmX11_nothing : KM mX11_nothing 0 := ⟨cd_X11_nothing, ini_X11, by decide +kernel, by decide +kernel, by decide +kernel⟩
def mX11_number : MD := (yX11_number, cX11_number, 4, (some .int))
theorem kmX11_number : KM mX11_number 2 := ⟨cd_X11_number, ini_X11, by decide +kernel, by decide +kernel, by decide +kernel⟩
def mX11_of : MD := (yX11_of, cX11_of, 3, (some .int))
theorem kmX11_of : KM mX11_of 2 := ⟨cd_X11_of, ini_X11, by decide +kernel, by decide +kernel, by decide +kernel⟩
def mX11_of5 : MD := (yX11_of5, cX11_of5, 4, (some .int))
theorem kmX11_of5 : KM mX11_of5 3 := ⟨cd_X11_of5, ini_X11, by decide +kernel, by decide +kernel, by decide +kernel⟩
def mX11_pairs : MD := (yX11_pairs, cX11_pairs, 3, (some .int))
theorem kmX11_pairs : KM mX11_pairs 2 := ⟨cd_X11_pairs, ini_X11, by decide +kernel, by decide +kernel, by decide +kernel⟩
def mX11_pairsOf : MD := (yX11_pairsOf, cX11_pairsOf, 7, (some .int))
theorem kmX11_pairsOf : KM mX11_pairsOf 3 := ⟨cd_X11_pairsOf, ini_X11, by decide +kernel, by decide +kernel, by decide +kernel⟩
def mX11_parish : MD := (yX11_parish, cX11_parish, 5, (some .int))
theorem kmX11_parish : KM mX11_parish 2 := ⟨cd_X11_parish, ini_X11, by decide +kernel, by decide +kernel, by decide +kernel⟩
def mX11_parishOf : MD := (yX11_parishOf, cX11_parishOf, 3, (some .int))
theorem kmX11_parishOf : KM mX11_parishOf 2 := ⟨cd_X11_parishOf, ini_X11, by decide +kernel, by decide +kernel, by decide +kernel⟩
def mX11_parts : MD := (yX11_parts, cX11_parts, 30, (some .long))
theorem kmX11_parts : KM mX11_parts 2 := ⟨cd_X11_parts, ini_X11, by decide +kernel, by decide +kernel, by decide +kernel⟩
def mX11_person : MD := (yX11_person, cX11_person, 3, (some .int))
theorem kmX11_person : KM mX11_person 2 := ⟨cd_X11_person, ini_X11, by decide +kernel, by decide +kernel, by decide +kernel⟩
def mX11_plus : MD := (yX11_plus, cX11_plus, 15, none)
theorem kmX11_plus : KM mX11_plus 2 := ⟨cd_X11_plus, ini_X11, by decide +kernel, by decide +kernel, by decide +kernel⟩
def mX11_read : MD := (yX11_read, cX11_read, 9, (some .int))
theorem kmX11_read : KM mX11_read 4 := ⟨cd_X11_read, ini_X11, by decide +kernel, by decide +kernel, by decide +kernel⟩
def mX11_readClerk : MD := (yX11_readClerk, cX11_readClerk, 7, none)
theorem kmX11_readClerk : KM mX11_readClerk 0 := ⟨cd_X11_readClerk, ini_X11, by decide +kernel, by decide +kernel, by decide +kernel⟩
def mX11_readLine : MD := (yX11_readLine, cX11_readLine, 2, none)
theorem kmX11_readLine : KM mX11_readLine 0 := ⟨cd_X11_readLine, ini_X11, by decide +kernel, by decide +kernel, by decide +kernel⟩
def mX11_readParish : MD := (yX11_readParish, cX11_readParish, 6, none)
theorem kmX11_readParish : KM mX11_readParish 0 := ⟨cd_X11_readParish, ini_X11, by decide +kernel, by decide +kernel, by decide +kernel⟩
def mX11_readRule : MD := (yX11_readRule, cX11_readRule, 2, none)
theorem kmX11_readRule : KM mX11_readRule 1 := ⟨cd_X11_readRule, ini_X11, by decide +kernel, by decide +kernel, by decide +kernel⟩
def mX11_readTried : MD := (yX11_readTried, cX11_readTried, 3, none)
theorem kmX11_readTried : KM mX11_readTried 0 := ⟨cd_X11_readTried, ini_X11, by decide +kernel, by decide +kernel, by decide +kernel⟩
def mX11_reading : MD := (yX11_reading, cX11_reading, 5, (some .long))
theorem kmX11_reading : KM mX11_reading 2 := ⟨cd_X11_reading, ini_X11, by decide +kernel, by decide +kernel, by decide +kernel⟩
def mX11_set : MD := (yX11_set, cX11_set, 7, (some .int))
theorem kmX11_set : KM mX11_set 4 := ⟨cd_X11_set, ini_X11, by decide +kernel, by decide +kernel, by decide +kernel⟩
def mX11_setChoice : MD := (yX11_setChoice, cX11_setChoice, 8, none)
theorem kmX11_setChoice : KM mX11_setChoice 6 := ⟨cd_X11_setChoice, ini_X11, by decide +kernel, by decide +kernel, by decide +kernel⟩
def mX11_share : MD := (yX11_share, cX11_share, 3, (some .int))
theorem kmX11_share : KM mX11_share 2 := ⟨cd_X11_share, ini_X11, by decide +kernel, by decide +kernel, by decide +kernel⟩
def mX11_sheet : MD := (yX11_sheet, cX11_sheet, 5, (some .int))
theorem kmX11_sheet : KM mX11_sheet 3 := ⟨cd_X11_sheet, ini_X11, by decide +kernel, by decide +kernel, by decide +kernel⟩
def mX11_size : MD := (yX11_size, cX11_size, 1, (some .int))
theorem kmX11_size : KM mX11_size 0 := ⟨cd_X11_size, ini_X11, by decide +kernel, by decide +kernel, by decide +kernel⟩
def mX11_span : MD := (yX11_span, cX11_span, 5, (some .long))
theorem kmX11_span : KM mX11_span 2 := ⟨cd_X11_span, ini_X11, by decide +kernel, by decide +kernel, by decide +kernel⟩
def mX11_spared : MD := (yX11_spared, cX11_spared, 8, (some .int))
theorem kmX11_spared : KM mX11_spared 2 := ⟨cd_X11_spared, ini_X11, by decide +kernel, by decide +kernel, by decide +kernel⟩
def mX11_tally : MD := (yX11_tally, cX11_tally, 5, none)
theorem kmX11_tally : KM mX11_tally 3 := ⟨cd_X11_tally, ini_X11, by decide +kernel, by decide +kernel, by decide +kernel⟩
def mX11_tear : MD := (yX11_tear, cX11_tear, 3, (some .int))
theorem kmX11_tear : KM mX11_tear 1 := ⟨cd_X11_tear, ini_X11, by decide +kernel, by decide +kernel, by decide +kernel⟩
def mX11_tens : MD := (yX11_tens, cX11_tens, 9, (some .int))
theorem kmX11_tens : KM mX11_tens 2 := ⟨cd_X11_tens, ini_X11, by decide +kernel, by decide +kernel, by decide +kernel⟩
def mX11_told : MD := (yX11_told, cX11_told, 2, (some .int))
theorem kmX11_told : KM mX11_told 1 := ⟨cd_X11_told, ini_X11, by decide +kernel, by decide +kernel, by decide +kernel⟩
def mX11_torn : MD := (yX11_torn, cX11_torn, 1, (some .int))
theorem kmX11_torn : KM mX11_torn 0 := ⟨cd_X11_torn, ini_X11, by decide +kernel, by decide +kernel, by decide +kernel⟩
def mX11_twice : MD := (yX11_twice, cX11_twice, 8, (some .int))
theorem kmX11_twice : KM mX11_twice 1 := ⟨cd_X11_twice, ini_X11, by decide +kernel, by decide +kernel, by decide +kernel⟩
def mX11_unwed : MD := (yX11_unwed, cX11_unwed, 4, (some .int))
theorem kmX11_unwed : KM mX11_unwed 2 := ⟨cd_X11_unwed, ini_X11, by decide +kernel, by decide +kernel, by decide +kernel⟩
def mX11_widest : MD := (yX11_widest, cX11_widest, 7, (some .int))
theorem kmX11_widest : KM mX11_widest 1 := ⟨cd_X11_widest, ini_X11, by decide +kernel, by decide +kernel, by decide +kernel⟩
def mX11_worth : MD := (yX11_worth, cX11_worth, 14, (some .int))
theorem kmX11_worth : KM mX11_worth 3 := ⟨cd_X11_worth, ini_X11, by decide +kernel, by decide +kernel, by decide +kernel⟩
def mX11_writer : MD := (yX11_writer, cX11_writer, 3, (some .int))
theorem kmX11_writer : KM mX11_writer 2 := ⟨cd_X11_writer, ini_X11, by decide +kernel, by decide +kernel, by decide +kernel⟩
def mX11_writerOf : MD := (yX11_writerOf, cX11_writerOf, 6, (some .int))
theorem kmX11_writerOf : KM mX11_writerOf 2 := ⟨cd_X11_writerOf, ini_X11, by decide +kernel, by decide +kernel, by decide +kernel⟩
def mX11_yearBehind : MD := (yX11_yearBehind, cX11_yearBehind, 2, (some .int))
theorem kmX11_yearBehind : KM mX11_yearBehind 1 := ⟨cd_X11_yearBehind, ini_X11, by decide +kernel, by decide +kernel, by decide +kernel⟩
def mX1_become : MD := (yX1_become, cX1_become, 6, none)
theorem kmX1_become : KM mX1_become 5 := ⟨cd_X1_become, ini_X1, by decide +kernel, by decide +kernel, by decide +kernel⟩
def mX1_becomeAll : MD := (yX1_becomeAll, cX1_becomeAll, 2, none)
theorem kmX1_becomeAll : KM mX1_becomeAll 1 := ⟨cd_X1_becomeAll, ini_X1, by decide +kernel, by decide +kernel, by decide +kernel⟩
def mX1_copy : MD := (yX1_copy, cX1_copy, 2, none)
theorem kmX1_copy : KM mX1_copy 1 := ⟨cd_X1_copy, ini_X1, by decide +kernel, by decide +kernel, by decide +kernel⟩
def mX1_init : MD := (yX1_init, cX1_init, 1, none)
theorem kmX1_init : KM mX1_init 0 := ⟨cd_X1_init, ini_X1, by decide +kernel, by decide +kernel, by decide +kernel⟩
def mX1_takes : MD := (yX1_takes, cX1_takes, 4, (some .boolean))
theorem kmX1_takes : KM mX1_takes 2 := ⟨cd_X1_takes, ini_X1, by decide +kernel, by decide +kernel, by decide +kernel⟩
def mX2_init : MD := (yX2_init, cX2_init, 1, none)
theorem kmX2_init : KM mX2_init 0 := ⟨cd_X2_init, ini_X2, by decide +kernel, by decide +kernel, by decide +kernel⟩
def mX3_firstWriter : MD := (yX3_firstWriter, cX3_firstWriter, 4, (some .int))
theorem kmX3_firstWriter : KM mX3_firstWriter 1 := ⟨cd_X3_firstWriter, ini_X3, by decide +kernel, by decide +kernel, by decide +kernel⟩
def mX3_init : MD := (yX3_init, cX3_init, 1, none)
theorem kmX3_init : KM mX3_init 0 := ⟨cd_X3_init, ini_X3, by decide +kernel, by decide +kernel, by decide +kernel⟩
def mX3_isAble : MD := (yX3_isAble, cX3_isAble, 2, (some .boolean))
theorem kmX3_isAble : KM mX3_isAble 1 := ⟨cd_X3_isAble, ini_X3, by decide +kernel, by decide +kernel, by decide +kernel⟩
def mX3_isDrawn : MD := (yX3_isDrawn, cX3_isDrawn, 5, (some .boolean))
theorem kmX3_isDrawn : KM mX3_isDrawn 1 := ⟨cd_X3_isDrawn, ini_X3, by decide +kernel, by decide +kernel, by decide +kernel⟩
def mX3_kindOfName : MD := (yX3_kindOfName, cX3_kindOfName, 2, (some .int))
theorem kmX3_kindOfName : KM mX3_kindOfName 1 := ⟨cd_X3_kindOfName, ini_X3, by decide +kernel, by decide +kernel, by decide +kernel⟩
def mX3_renew : MD := (yX3_renew, cX3_renew, 4, none)
theorem kmX3_renew : KM mX3_renew 2 := ⟨cd_X3_renew, ini_X3, by decide +kernel, by decide +kernel, by decide +kernel⟩
def mX3_wasNamedBefore : MD := (yX3_wasNamedBefore, cX3_wasNamedBefore, 4, (some .boolean))
theorem kmX3_wasNamedBefore : KM mX3_wasNamedBefore 1 := ⟨cd_X3_wasNamedBefore, ini_X3, by decide +kernel, by decide +kernel, by decide +kernel⟩
def mX3_writtenBy : MD := (yX3_writtenBy, cX3_writtenBy, 5, (some .int))
theorem kmX3_writtenBy : KM mX3_writtenBy 2 := ⟨cd_X3_writtenBy, ini_X3, by decide +kernel, by decide +kernel, by decide +kernel⟩
def mX4_allParishes : MD := (yX4_allParishes, cX4_allParishes, 1, (some .int))
theorem kmX4_allParishes : KM mX4_allParishes 0 := ⟨cd_X4_allParishes, ini_X4, by decide +kernel, by decide +kernel, by decide +kernel⟩
def mX4_clear : MD := (yX4_clear, cX4_clear, 1, none)
theorem kmX4_clear : KM mX4_clear 0 := ⟨cd_X4_clear, ini_X4, by decide +kernel, by decide +kernel, by decide +kernel⟩
def mX4_init : MD := (yX4_init, cX4_init, 1, none)
theorem kmX4_init : KM mX4_init 0 := ⟨cd_X4_init, ini_X4, by decide +kernel, by decide +kernel, by decide +kernel⟩
def mX4_marriagesOf : MD := (yX4_marriagesOf, cX4_marriagesOf, 4, (some .int))
theorem kmX4_marriagesOf : KM mX4_marriagesOf 1 := ⟨cd_X4_marriagesOf, ini_X4, by decide +kernel, by decide +kernel, by decide +kernel⟩
def mX4_towns : MD := (yX4_towns, cX4_towns, 3, (some .int))
theorem kmX4_towns : KM mX4_towns 0 := ⟨cd_X4_towns, ini_X4, by decide +kernel, by decide +kernel, by decide +kernel⟩
def mX4_writes : MD := (yX4_writes, cX4_writes, 5, (some .boolean))
theorem kmX4_writes : KM mX4_writes 4 := ⟨cd_X4_writes, ini_X4, by decide +kernel, by decide +kernel, by decide +kernel⟩
def mX5_advance : MD := (yX5_advance, cX5_advance, 1, none)
theorem kmX5_advance : KM mX5_advance 0 := ⟨cd_X5_advance, ini_X5, by decide +kernel, by decide +kernel, by decide +kernel⟩
def mX5_init : MD := (yX5_init, cX5_init, 1, none)
theorem kmX5_init : KM mX5_init 0 := ⟨cd_X5_init, ini_X5, by decide +kernel, by decide +kernel, by decide +kernel⟩
def mX5_isWord : MD := (yX5_isWord, cX5_isWord, 3, (some .boolean))
theorem kmX5_isWord : KM mX5_isWord 1 := ⟨cd_X5_isWord, ini_X5, by decide +kernel, by decide +kernel, by decide +kernel⟩
def mX5_readLines : MD := (yX5_readLines, cX5_readLines, 4, (some .int))
theorem kmX5_readLines : KM mX5_readLines 2 := ⟨cd_X5_readLines, ini_X5, by decide +kernel, by decide +kernel, by decide +kernel⟩
def mX5_readRow : MD := (yX5_readRow, cX5_readRow, 1, none)
theorem kmX5_readRow : KM mX5_readRow 0 := ⟨cd_X5_readRow, ini_X5, by decide +kernel, by decide +kernel, by decide +kernel⟩
def mX5_refuse : MD := (yX5_refuse, cX5_refuse, 2, none)
theorem kmX5_refuse : KM mX5_refuse 1 := ⟨cd_X5_refuse, ini_X5, by decide +kernel, by decide +kernel, by decide +kernel⟩
def mX5_sortAt : MD := (yX5_sortAt, cX5_sortAt, 3, (some .int))
theorem kmX5_sortAt : KM mX5_sortAt 1 := ⟨cd_X5_sortAt, ini_X5, by decide +kernel, by decide +kernel, by decide +kernel⟩
def mX5_takeClerk : MD := (yX5_takeClerk, cX5_takeClerk, 2, none)
theorem kmX5_takeClerk : KM mX5_takeClerk 0 := ⟨cd_X5_takeClerk, ini_X5, by decide +kernel, by decide +kernel, by decide +kernel⟩
def mX5_takeLine : MD := (yX5_takeLine, cX5_takeLine, 1, none)
theorem kmX5_takeLine : KM mX5_takeLine 0 := ⟨cd_X5_takeLine, ini_X5, by decide +kernel, by decide +kernel, by decide +kernel⟩
def mX5_takeNumber : MD := (yX5_takeNumber, cX5_takeNumber, 4, (some .int))
theorem kmX5_takeNumber : KM mX5_takeNumber 2 := ⟨cd_X5_takeNumber, ini_X5, by decide +kernel, by decide +kernel, by decide +kernel⟩
def mX5_takeOnce : MD := (yX5_takeOnce, cX5_takeOnce, 2, none)
theorem kmX5_takeOnce : KM mX5_takeOnce 1 := ⟨cd_X5_takeOnce, ini_X5, by decide +kernel, by decide +kernel, by decide +kernel⟩
def mX5_takeParish : MD := (yX5_takeParish, cX5_takeParish, 2, none)
theorem kmX5_takeParish : KM mX5_takeParish 0 := ⟨cd_X5_takeParish, ini_X5, by decide +kernel, by decide +kernel, by decide +kernel⟩
def mX5_takeStop : MD := (yX5_takeStop, cX5_takeStop, 1, none)
theorem kmX5_takeStop : KM mX5_takeStop 0 := ⟨cd_X5_takeStop, ini_X5, by decide +kernel, by decide +kernel, by decide +kernel⟩
def mX5_takeTried : MD := (yX5_takeTried, cX5_takeTried, 2, none)
theorem kmX5_takeTried : KM mX5_takeTried 0 := ⟨cd_X5_takeTried, ini_X5, by decide +kernel, by decide +kernel, by decide +kernel⟩
def mX5_takeWord : MD := (yX5_takeWord, cX5_takeWord, 2, (some .boolean))
theorem kmX5_takeWord : KM mX5_takeWord 1 := ⟨cd_X5_takeWord, ini_X5, by decide +kernel, by decide +kernel, by decide +kernel⟩
def mX6_add : MD := (yX6_add, cX6_add, 7, none)
theorem kmX6_add : KM mX6_add 2 := ⟨cd_X6_add, ini_X6, by decide +kernel, by decide +kernel, by decide +kernel⟩
def mX6_become : MD := (yX6_become, cX6_become, 7, none)
theorem kmX6_become : KM mX6_become 2 := ⟨cd_X6_become, ini_X6, by decide +kernel, by decide +kernel, by decide +kernel⟩
def mX6_commonOf : MD := (yX6_commonOf, cX6_commonOf, 11, (some .long))
theorem kmX6_commonOf : KM mX6_commonOf 2 := ⟨cd_X6_commonOf, ini_X6, by decide +kernel, by decide +kernel, by decide +kernel⟩
def mX6_init : MD := (yX6_init, cX6_init, 1, none)
theorem kmX6_init : KM mX6_init 0 := ⟨cd_X6_init, ini_X6, by decide +kernel, by decide +kernel, by decide +kernel⟩
def mX6_part : MD := (yX6_part, cX6_part, 2, (some .long))
theorem kmX6_part : KM mX6_part 1 := ⟨cd_X6_part, ini_X6, by decide +kernel, by decide +kernel, by decide +kernel⟩
def mX7_clear : MD := (yX7_clear, cX7_clear, 4, none)
theorem kmX7_clear : KM mX7_clear 2 := ⟨cd_X7_clear, ini_X7, by decide +kernel, by decide +kernel, by decide +kernel⟩
def mX7_faultAs : MD := (yX7_faultAs, cX7_faultAs, 2, (some .int))
theorem kmX7_faultAs : KM mX7_faultAs 1 := ⟨cd_X7_faultAs, ini_X7, by decide +kernel, by decide +kernel, by decide +kernel⟩
def mX7_init : MD := (yX7_init, cX7_init, 1, none)
theorem kmX7_init : KM mX7_init 0 := ⟨cd_X7_init, ini_X7, by decide +kernel, by decide +kernel, by decide +kernel⟩
def mX7_put : MD := (yX7_put, cX7_put, 3, none)
theorem kmX7_put : KM mX7_put 2 := ⟨cd_X7_put, ini_X7, by decide +kernel, by decide +kernel, by decide +kernel⟩
def mX7_wholeMarriages : MD := (yX7_wholeMarriages, cX7_wholeMarriages, 3, (some .int))
theorem kmX7_wholeMarriages : KM mX7_wholeMarriages 2 := ⟨cd_X7_wholeMarriages, ini_X7, by decide +kernel, by decide +kernel, by decide +kernel⟩
def mX8_add : MD := (yX8_add, cX8_add, 3, none)
theorem kmX8_add : KM mX8_add 2 := ⟨cd_X8_add, ini_X8, by decide +kernel, by decide +kernel, by decide +kernel⟩
def mX8_clear : MD := (yX8_clear, cX8_clear, 2, none)
theorem kmX8_clear : KM mX8_clear 0 := ⟨cd_X8_clear, ini_X8, by decide +kernel, by decide +kernel, by decide +kernel⟩
def mX8_greatestShare : MD := (yX8_greatestShare, cX8_greatestShare, 4, (some .int))
theorem kmX8_greatestShare : KM mX8_greatestShare 1 := ⟨cd_X8_greatestShare, ini_X8, by decide +kernel, by decide +kernel, by decide +kernel⟩
def mX8_init : MD := (yX8_init, cX8_init, 1, none)
theorem kmX8_init : KM mX8_init 0 := ⟨cd_X8_init, ini_X8, by decide +kernel, by decide +kernel, by decide +kernel⟩
def mX8_mostMarks : MD := (yX8_mostMarks, cX8_mostMarks, 3, (some .int))
theorem kmX8_mostMarks : KM mX8_mostMarks 0 := ⟨cd_X8_mostMarks, ini_X8, by decide +kernel, by decide +kernel, by decide +kernel⟩
def mX9_append : MD := (yX9_append, cX9_append, 4, (some .boolean))
theorem kmX9_append : KM mX9_append 1 := ⟨cd_X9_append, ini_X9, by decide +kernel, by decide +kernel, by decide +kernel⟩
def mX9_init : MD := (yX9_init, cX9_init, 1, none)
theorem kmX9_init : KM mX9_init 0 := ⟨cd_X9_init, ini_X9, by decide +kernel, by decide +kernel, by decide +kernel⟩
def pI (c : Prop) [Decidable c] : Int := if c then 1 else 0
theorem pI_1 {c : Prop} [Decidable c] (h : c) : 1 = pI c := (if_pos h).symm
theorem pI_0 {c : Prop} [Decidable c] (h : ¬ c) : 0 = pI c := (if_neg h).symm
theorem pI_t {c : Prop} [Decidable c] (h : c) : pI c = 1 := if_pos h
theorem pI_f {c : Prop} [Decidable c] (h : ¬ c) : pI c = 0 := if_neg h
theorem pI_01 (c : Prop) [Decidable c] : pI c = 0 ∨ pI c = 1 := by unfold pI; split <;> simp
theorem rg_pI (c : Prop) [Decidable c] : rg (pI c) := by unfold pI; split <;> exact ⟨by omega, by omega⟩
theorem pI_congr {c d : Prop} [Decidable c] [Decidable d] (h : c ↔ d) : pI c = pI d := by
  unfold pI
  by_cases q : c
  · rw [if_pos q, if_pos (h.mp q)]
  · rw [if_neg q, if_neg (fun z => q (h.mpr z))]
def Qi (S : Shp) (m1 : Mem) (z : Int) : Option AV → Shp → Mem → Prop := fun r S' m' => r = some (vi z) ∧ S' = S ∧ m' = m1
def Ql (S : Shp) (m1 : Mem) (z : Int) : Option AV → Shp → Mem → Prop := fun r S' m' => r = some (vl z) ∧ S' = S ∧ m' = m1
def Qv (S : Shp) (m1 : Mem) : Option AV → Shp → Mem → Prop := fun r S' m' => r = none ∧ S' = S ∧ m' = m1
def QI (S : Shp) (P : Int → Mem → Prop) : Option AV → Shp → Mem → Prop := fun r S' m' => ∃ z, r = some (vi z) ∧ S' = S ∧ P z m'
def QL (S : Shp) (P : Int → Mem → Prop) : Option AV → Shp → Mem → Prop := fun r S' m' => ∃ z, r = some (vl z) ∧ S' = S ∧ P z m'
def QV (S : Shp) (P : Mem → Prop) : Option AV → Shp → Mem → Prop := fun r S' m' => r = none ∧ S' = S ∧ P m'
theorem Qi_mk {S : Shp} {m : Mem} {z z' : Int} (h : z = z') : Qi S m z' (some (vi z)) S m := ⟨by rw [h], rfl, rfl⟩
theorem Qi_mm {S : Shp} {m m1 : Mem} {z z' : Int} (h : z = z') (hm : m = m1) : Qi S m1 z' (some (vi z)) S m := ⟨by rw [h], rfl, hm⟩
theorem Ql_mk {S : Shp} {m : Mem} {z z' : Int} (h : z = z') : Ql S m z' (some (vl z)) S m := ⟨by rw [h], rfl, rfl⟩
theorem Qv_mk {S : Shp} {m m1 : Mem} (hm : m = m1) : Qv S m1 none S m := ⟨rfl, rfl, hm⟩
theorem QI_mk {S : Shp} {m : Mem} {P : Int → Mem → Prop} {z : Int} (h : P z m) : QI S P (some (vi z)) S m := ⟨z, rfl, rfl, h⟩
theorem QL_mk {S : Shp} {m : Mem} {P : Int → Mem → Prop} {z : Int} (h : P z m) : QL S P (some (vl z)) S m := ⟨z, rfl, rfl, h⟩
theorem QV_mk {S : Shp} {m : Mem} {P : Mem → Prop} (h : P m) : QV S P none S m := ⟨rfl, rfl, h⟩
section PIF
variable {Γ : GX} {M : MD} {rm : Room} {mc ms : Nat} {Q : Option AV → Shp → Mem → Prop} {k n pc : Nat} {loc : List (Option AV)} {st : List AV} {S : Shp} {m : Mem}
theorem R_ifp_eq {c : Prop} {dc : Decidable c} {off : Int} (q t : Nat) (hq : pc + 3 = q) (ht : (pc : Int) + off = (t : Int)) (hd : decode M.2.1 pc = .ok (.ifCond .eq off, 3)) (kt : ¬ c → R Γ M rm mc ms Q k n t loc st S m) (kf : c → R Γ M rm mc ms Q k n q loc st S m) : R Γ M rm mc ms Q k n pc loc (vi (@pI c dc) :: st) S m :=
  R_if_eq q t hq ht hd (rg_pI c) (fun h => kt (fun hc => by rw [pI_t hc] at h; omega)) (fun h => kf (by by_cases hc : c; exact hc; rw [pI_f hc] at h; omega))
theorem R_ifp_ne {c : Prop} {dc : Decidable c} {off : Int} (q t : Nat) (hq : pc + 3 = q) (ht : (pc : Int) + off = (t : Int)) (hd : decode M.2.1 pc = .ok (.ifCond .ne off, 3)) (kt : c → R Γ M rm mc ms Q k n t loc st S m) (kf : ¬ c → R Γ M rm mc ms Q k n q loc st S m) : R Γ M rm mc ms Q k n pc loc (vi (@pI c dc) :: st) S m :=
  R_if_ne q t hq ht hd (rg_pI c) (fun h => kt (by by_cases hc : c; exact hc; rw [pI_f hc] at h; omega)) (fun h => kf (fun hc => by rw [pI_t hc] at h; omega))
end PIF
section CALLK
variable {Γ : GX} {M M' : MD} {rm : Room} {mc ms : Nat} {Q : Option AV → Shp → Mem → Prop} {k n pc : Nat} {loc : List (Option AV)} {st rest as : List AV} {S : Shp} {m m1 : Mem} {fr lo nA ix o t len : Nat} {z : Int}
theorem R_callS_i (q : Nat) (hq : pc + 3 = q) (hd : decode M.2.1 pc = .ok (.invokestatic ix, 3)) (hl : Cond.methodLink M.1.cls ix M'.1 ∈ TW) (hk : KM M' nA) (hsta : Cond.static M'.1 ∈ TW) (hcn : C Γ M' fr lo 0 0 as S m (Qi S m1 z)) (hst : st = as.reverse ++ rest) (hn : as.length = nA) (hrm : fr + 1 ≤ rm.frames ∧ 8 + (M'.2.2.1 + 11) + lo ≤ rm.locals) (hrest : (rest.map catN).sum ≤ 8) (hal : k ≤ rm.cells ∧ n ≤ rm.slots) (kk : R Γ M rm mc ms Q k n q loc (vi z :: rest) S m1) : R Γ M rm mc ms Q k n pc loc st S m :=
  R_callS (mc' := 0) (ms' := 0) q hq hd hl hk hsta hcn hst hn hrm hal hrest (fun r S' m' h => by obtain ⟨rfl, rfl, rfl⟩ := h; exact kk)
theorem R_callS_l (q : Nat) (hq : pc + 3 = q) (hd : decode M.2.1 pc = .ok (.invokestatic ix, 3)) (hl : Cond.methodLink M.1.cls ix M'.1 ∈ TW) (hk : KM M' nA) (hsta : Cond.static M'.1 ∈ TW) (hcn : C Γ M' fr lo 0 0 as S m (Ql S m1 z)) (hst : st = as.reverse ++ rest) (hn : as.length = nA) (hrm : fr + 1 ≤ rm.frames ∧ 8 + (M'.2.2.1 + 11) + lo ≤ rm.locals) (hrest : (rest.map catN).sum ≤ 8) (hal : k ≤ rm.cells ∧ n ≤ rm.slots) (kk : R Γ M rm mc ms Q k n q loc (vl z :: rest) S m1) : R Γ M rm mc ms Q k n pc loc st S m :=
  R_callS (mc' := 0) (ms' := 0) q hq hd hl hk hsta hcn hst hn hrm hal hrest (fun r S' m' h => by obtain ⟨rfl, rfl, rfl⟩ := h; exact kk)
theorem R_callS_v (q : Nat) (hq : pc + 3 = q) (hd : decode M.2.1 pc = .ok (.invokestatic ix, 3)) (hl : Cond.methodLink M.1.cls ix M'.1 ∈ TW) (hk : KM M' nA) (hsta : Cond.static M'.1 ∈ TW) (hcn : C Γ M' fr lo 0 0 as S m (Qv S m1)) (hst : st = as.reverse ++ rest) (hn : as.length = nA) (hrm : fr + 1 ≤ rm.frames ∧ 8 + (M'.2.2.1 + 11) + lo ≤ rm.locals) (hrest : (rest.map catN).sum ≤ 8) (hal : k ≤ rm.cells ∧ n ≤ rm.slots) (kk : R Γ M rm mc ms Q k n q loc rest S m1) : R Γ M rm mc ms Q k n pc loc st S m :=
  R_callS (mc' := 0) (ms' := 0) q hq hd hl hk hsta hcn hst hn hrm hal hrest (fun r S' m' h => by obtain ⟨rfl, rfl, rfl⟩ := h; exact kk)
theorem R_callS_I {P : Int → Mem → Prop} (q : Nat) (hq : pc + 3 = q) (hd : decode M.2.1 pc = .ok (.invokestatic ix, 3)) (hl : Cond.methodLink M.1.cls ix M'.1 ∈ TW) (hk : KM M' nA) (hsta : Cond.static M'.1 ∈ TW) (hcn : C Γ M' fr lo 0 0 as S m (QI S P)) (hst : st = as.reverse ++ rest) (hn : as.length = nA) (hrm : fr + 1 ≤ rm.frames ∧ 8 + (M'.2.2.1 + 11) + lo ≤ rm.locals) (hrest : (rest.map catN).sum ≤ 8) (hal : k ≤ rm.cells ∧ n ≤ rm.slots) (kk : ∀ z m', P z m' → R Γ M rm mc ms Q k n q loc (vi z :: rest) S m') : R Γ M rm mc ms Q k n pc loc st S m :=
  R_callS (mc' := 0) (ms' := 0) q hq hd hl hk hsta hcn hst hn hrm hal hrest (fun r S' m' h => by obtain ⟨z, rfl, rfl, h⟩ := h; exact kk z m' h)
theorem R_callS_L {P : Int → Mem → Prop} (q : Nat) (hq : pc + 3 = q) (hd : decode M.2.1 pc = .ok (.invokestatic ix, 3)) (hl : Cond.methodLink M.1.cls ix M'.1 ∈ TW) (hk : KM M' nA) (hsta : Cond.static M'.1 ∈ TW) (hcn : C Γ M' fr lo 0 0 as S m (QL S P)) (hst : st = as.reverse ++ rest) (hn : as.length = nA) (hrm : fr + 1 ≤ rm.frames ∧ 8 + (M'.2.2.1 + 11) + lo ≤ rm.locals) (hrest : (rest.map catN).sum ≤ 8) (hal : k ≤ rm.cells ∧ n ≤ rm.slots) (kk : ∀ z m', P z m' → R Γ M rm mc ms Q k n q loc (vl z :: rest) S m') : R Γ M rm mc ms Q k n pc loc st S m :=
  R_callS (mc' := 0) (ms' := 0) q hq hd hl hk hsta hcn hst hn hrm hal hrest (fun r S' m' h => by obtain ⟨z, rfl, rfl, h⟩ := h; exact kk z m' h)
theorem R_callS_V {P : Mem → Prop} (q : Nat) (hq : pc + 3 = q) (hd : decode M.2.1 pc = .ok (.invokestatic ix, 3)) (hl : Cond.methodLink M.1.cls ix M'.1 ∈ TW) (hk : KM M' nA) (hsta : Cond.static M'.1 ∈ TW) (hcn : C Γ M' fr lo 0 0 as S m (QV S P)) (hst : st = as.reverse ++ rest) (hn : as.length = nA) (hrm : fr + 1 ≤ rm.frames ∧ 8 + (M'.2.2.1 + 11) + lo ≤ rm.locals) (hrest : (rest.map catN).sum ≤ 8) (hal : k ≤ rm.cells ∧ n ≤ rm.slots) (kk : ∀ m', P m' → R Γ M rm mc ms Q k n q loc rest S m') : R Γ M rm mc ms Q k n pc loc st S m :=
  R_callS (mc' := 0) (ms' := 0) q hq hd hl hk hsta hcn hst hn hrm hal hrest (fun r S' m' h => by obtain ⟨rfl, rfl, h⟩ := h; exact kk m' h)
theorem R_callN_i {host : String} (q : Nat) (hq : pc + 3 = q) (hd : decode M.2.1 pc = .ok (.invokestatic ix, 3)) (hl : Cond.methodLinkNest M.1.cls ix M'.1 host ∈ lw_tbl) (hk : KM M' nA) (hsta : Cond.static M'.1 ∈ TW) (hcn : C Γ M' fr lo 0 0 as S m (Qi S m1 z)) (hst : st = as.reverse ++ rest) (hn : as.length = nA) (hrm : fr + 1 ≤ rm.frames ∧ 8 + (M'.2.2.1 + 11) + lo ≤ rm.locals) (hrest : (rest.map catN).sum ≤ 8) (hal : k ≤ rm.cells ∧ n ≤ rm.slots) (kk : R Γ M rm mc ms Q k n q loc (vi z :: rest) S m1) : R Γ M rm mc ms Q k n pc loc st S m :=
  R_callN (mc' := 0) (ms' := 0) q hq hd hl hk hsta hcn hst hn hrm hal hrest (fun r S' m' h => by obtain ⟨rfl, rfl, rfl⟩ := h; exact kk)
theorem R_callN_l {host : String} (q : Nat) (hq : pc + 3 = q) (hd : decode M.2.1 pc = .ok (.invokestatic ix, 3)) (hl : Cond.methodLinkNest M.1.cls ix M'.1 host ∈ lw_tbl) (hk : KM M' nA) (hsta : Cond.static M'.1 ∈ TW) (hcn : C Γ M' fr lo 0 0 as S m (Ql S m1 z)) (hst : st = as.reverse ++ rest) (hn : as.length = nA) (hrm : fr + 1 ≤ rm.frames ∧ 8 + (M'.2.2.1 + 11) + lo ≤ rm.locals) (hrest : (rest.map catN).sum ≤ 8) (hal : k ≤ rm.cells ∧ n ≤ rm.slots) (kk : R Γ M rm mc ms Q k n q loc (vl z :: rest) S m1) : R Γ M rm mc ms Q k n pc loc st S m :=
  R_callN (mc' := 0) (ms' := 0) q hq hd hl hk hsta hcn hst hn hrm hal hrest (fun r S' m' h => by obtain ⟨rfl, rfl, rfl⟩ := h; exact kk)
theorem R_callN_v {host : String} (q : Nat) (hq : pc + 3 = q) (hd : decode M.2.1 pc = .ok (.invokestatic ix, 3)) (hl : Cond.methodLinkNest M.1.cls ix M'.1 host ∈ lw_tbl) (hk : KM M' nA) (hsta : Cond.static M'.1 ∈ TW) (hcn : C Γ M' fr lo 0 0 as S m (Qv S m1)) (hst : st = as.reverse ++ rest) (hn : as.length = nA) (hrm : fr + 1 ≤ rm.frames ∧ 8 + (M'.2.2.1 + 11) + lo ≤ rm.locals) (hrest : (rest.map catN).sum ≤ 8) (hal : k ≤ rm.cells ∧ n ≤ rm.slots) (kk : R Γ M rm mc ms Q k n q loc rest S m1) : R Γ M rm mc ms Q k n pc loc st S m :=
  R_callN (mc' := 0) (ms' := 0) q hq hd hl hk hsta hcn hst hn hrm hal hrest (fun r S' m' h => by obtain ⟨rfl, rfl, rfl⟩ := h; exact kk)
theorem R_callN_I {P : Int → Mem → Prop} {host : String} (q : Nat) (hq : pc + 3 = q) (hd : decode M.2.1 pc = .ok (.invokestatic ix, 3)) (hl : Cond.methodLinkNest M.1.cls ix M'.1 host ∈ lw_tbl) (hk : KM M' nA) (hsta : Cond.static M'.1 ∈ TW) (hcn : C Γ M' fr lo 0 0 as S m (QI S P)) (hst : st = as.reverse ++ rest) (hn : as.length = nA) (hrm : fr + 1 ≤ rm.frames ∧ 8 + (M'.2.2.1 + 11) + lo ≤ rm.locals) (hrest : (rest.map catN).sum ≤ 8) (hal : k ≤ rm.cells ∧ n ≤ rm.slots) (kk : ∀ z m', P z m' → R Γ M rm mc ms Q k n q loc (vi z :: rest) S m') : R Γ M rm mc ms Q k n pc loc st S m :=
  R_callN (mc' := 0) (ms' := 0) q hq hd hl hk hsta hcn hst hn hrm hal hrest (fun r S' m' h => by obtain ⟨z, rfl, rfl, h⟩ := h; exact kk z m' h)
theorem R_callN_L {P : Int → Mem → Prop} {host : String} (q : Nat) (hq : pc + 3 = q) (hd : decode M.2.1 pc = .ok (.invokestatic ix, 3)) (hl : Cond.methodLinkNest M.1.cls ix M'.1 host ∈ lw_tbl) (hk : KM M' nA) (hsta : Cond.static M'.1 ∈ TW) (hcn : C Γ M' fr lo 0 0 as S m (QL S P)) (hst : st = as.reverse ++ rest) (hn : as.length = nA) (hrm : fr + 1 ≤ rm.frames ∧ 8 + (M'.2.2.1 + 11) + lo ≤ rm.locals) (hrest : (rest.map catN).sum ≤ 8) (hal : k ≤ rm.cells ∧ n ≤ rm.slots) (kk : ∀ z m', P z m' → R Γ M rm mc ms Q k n q loc (vl z :: rest) S m') : R Γ M rm mc ms Q k n pc loc st S m :=
  R_callN (mc' := 0) (ms' := 0) q hq hd hl hk hsta hcn hst hn hrm hal hrest (fun r S' m' h => by obtain ⟨z, rfl, rfl, h⟩ := h; exact kk z m' h)
theorem R_callN_V {P : Mem → Prop} {host : String} (q : Nat) (hq : pc + 3 = q) (hd : decode M.2.1 pc = .ok (.invokestatic ix, 3)) (hl : Cond.methodLinkNest M.1.cls ix M'.1 host ∈ lw_tbl) (hk : KM M' nA) (hsta : Cond.static M'.1 ∈ TW) (hcn : C Γ M' fr lo 0 0 as S m (QV S P)) (hst : st = as.reverse ++ rest) (hn : as.length = nA) (hrm : fr + 1 ≤ rm.frames ∧ 8 + (M'.2.2.1 + 11) + lo ≤ rm.locals) (hrest : (rest.map catN).sum ≤ 8) (hal : k ≤ rm.cells ∧ n ≤ rm.slots) (kk : ∀ m', P m' → R Γ M rm mc ms Q k n q loc rest S m') : R Γ M rm mc ms Q k n pc loc st S m :=
  R_callN (mc' := 0) (ms' := 0) q hq hd hl hk hsta hcn hst hn hrm hal hrest (fun r S' m' h => by obtain ⟨rfl, rfl, h⟩ := h; exact kk m' h)
theorem R_callV_i (q : Nat) (hq : pc + 3 = q) (hd : decode M.2.1 pc = .ok (.invokevirtual ix, 3)) (hl : Cond.methodLink M.1.cls ix M'.1 ∈ TW) (hk : KM M' nA) (him : Cond.instanceMethod M'.1 ∈ TW) (hse : Cond.selects M'.1.cls M'.1 M'.1 ∈ TW) (hs : shp S o = some (t, len)) (ht : t < 12 ∧ cR t = M'.1.cls) (hcn : C Γ M' fr lo 0 0 (vr o :: as) S m (Qi S m1 z)) (hst : st = as.reverse ++ vr o :: rest) (hn : as.length = nA) (hrm : fr + 1 ≤ rm.frames ∧ 8 + (M'.2.2.1 + 11) + lo ≤ rm.locals) (hrest : (rest.map catN).sum ≤ 8) (hal : k ≤ rm.cells ∧ n ≤ rm.slots) (kk : R Γ M rm mc ms Q k n q loc (vi z :: rest) S m1) : R Γ M rm mc ms Q k n pc loc st S m :=
  R_callV (mc' := 0) (ms' := 0) q hq hd hl hk him hse hs ht hcn hst hn hrm hal hrest (fun r S' m' h => by obtain ⟨rfl, rfl, rfl⟩ := h; exact kk)
theorem R_callV_l (q : Nat) (hq : pc + 3 = q) (hd : decode M.2.1 pc = .ok (.invokevirtual ix, 3)) (hl : Cond.methodLink M.1.cls ix M'.1 ∈ TW) (hk : KM M' nA) (him : Cond.instanceMethod M'.1 ∈ TW) (hse : Cond.selects M'.1.cls M'.1 M'.1 ∈ TW) (hs : shp S o = some (t, len)) (ht : t < 12 ∧ cR t = M'.1.cls) (hcn : C Γ M' fr lo 0 0 (vr o :: as) S m (Ql S m1 z)) (hst : st = as.reverse ++ vr o :: rest) (hn : as.length = nA) (hrm : fr + 1 ≤ rm.frames ∧ 8 + (M'.2.2.1 + 11) + lo ≤ rm.locals) (hrest : (rest.map catN).sum ≤ 8) (hal : k ≤ rm.cells ∧ n ≤ rm.slots) (kk : R Γ M rm mc ms Q k n q loc (vl z :: rest) S m1) : R Γ M rm mc ms Q k n pc loc st S m :=
  R_callV (mc' := 0) (ms' := 0) q hq hd hl hk him hse hs ht hcn hst hn hrm hal hrest (fun r S' m' h => by obtain ⟨rfl, rfl, rfl⟩ := h; exact kk)
theorem R_callV_v (q : Nat) (hq : pc + 3 = q) (hd : decode M.2.1 pc = .ok (.invokevirtual ix, 3)) (hl : Cond.methodLink M.1.cls ix M'.1 ∈ TW) (hk : KM M' nA) (him : Cond.instanceMethod M'.1 ∈ TW) (hse : Cond.selects M'.1.cls M'.1 M'.1 ∈ TW) (hs : shp S o = some (t, len)) (ht : t < 12 ∧ cR t = M'.1.cls) (hcn : C Γ M' fr lo 0 0 (vr o :: as) S m (Qv S m1)) (hst : st = as.reverse ++ vr o :: rest) (hn : as.length = nA) (hrm : fr + 1 ≤ rm.frames ∧ 8 + (M'.2.2.1 + 11) + lo ≤ rm.locals) (hrest : (rest.map catN).sum ≤ 8) (hal : k ≤ rm.cells ∧ n ≤ rm.slots) (kk : R Γ M rm mc ms Q k n q loc rest S m1) : R Γ M rm mc ms Q k n pc loc st S m :=
  R_callV (mc' := 0) (ms' := 0) q hq hd hl hk him hse hs ht hcn hst hn hrm hal hrest (fun r S' m' h => by obtain ⟨rfl, rfl, rfl⟩ := h; exact kk)
theorem R_callV_I {P : Int → Mem → Prop} (q : Nat) (hq : pc + 3 = q) (hd : decode M.2.1 pc = .ok (.invokevirtual ix, 3)) (hl : Cond.methodLink M.1.cls ix M'.1 ∈ TW) (hk : KM M' nA) (him : Cond.instanceMethod M'.1 ∈ TW) (hse : Cond.selects M'.1.cls M'.1 M'.1 ∈ TW) (hs : shp S o = some (t, len)) (ht : t < 12 ∧ cR t = M'.1.cls) (hcn : C Γ M' fr lo 0 0 (vr o :: as) S m (QI S P)) (hst : st = as.reverse ++ vr o :: rest) (hn : as.length = nA) (hrm : fr + 1 ≤ rm.frames ∧ 8 + (M'.2.2.1 + 11) + lo ≤ rm.locals) (hrest : (rest.map catN).sum ≤ 8) (hal : k ≤ rm.cells ∧ n ≤ rm.slots) (kk : ∀ z m', P z m' → R Γ M rm mc ms Q k n q loc (vi z :: rest) S m') : R Γ M rm mc ms Q k n pc loc st S m :=
  R_callV (mc' := 0) (ms' := 0) q hq hd hl hk him hse hs ht hcn hst hn hrm hal hrest (fun r S' m' h => by obtain ⟨z, rfl, rfl, h⟩ := h; exact kk z m' h)
theorem R_callV_L {P : Int → Mem → Prop} (q : Nat) (hq : pc + 3 = q) (hd : decode M.2.1 pc = .ok (.invokevirtual ix, 3)) (hl : Cond.methodLink M.1.cls ix M'.1 ∈ TW) (hk : KM M' nA) (him : Cond.instanceMethod M'.1 ∈ TW) (hse : Cond.selects M'.1.cls M'.1 M'.1 ∈ TW) (hs : shp S o = some (t, len)) (ht : t < 12 ∧ cR t = M'.1.cls) (hcn : C Γ M' fr lo 0 0 (vr o :: as) S m (QL S P)) (hst : st = as.reverse ++ vr o :: rest) (hn : as.length = nA) (hrm : fr + 1 ≤ rm.frames ∧ 8 + (M'.2.2.1 + 11) + lo ≤ rm.locals) (hrest : (rest.map catN).sum ≤ 8) (hal : k ≤ rm.cells ∧ n ≤ rm.slots) (kk : ∀ z m', P z m' → R Γ M rm mc ms Q k n q loc (vl z :: rest) S m') : R Γ M rm mc ms Q k n pc loc st S m :=
  R_callV (mc' := 0) (ms' := 0) q hq hd hl hk him hse hs ht hcn hst hn hrm hal hrest (fun r S' m' h => by obtain ⟨z, rfl, rfl, h⟩ := h; exact kk z m' h)
theorem R_callV_V {P : Mem → Prop} (q : Nat) (hq : pc + 3 = q) (hd : decode M.2.1 pc = .ok (.invokevirtual ix, 3)) (hl : Cond.methodLink M.1.cls ix M'.1 ∈ TW) (hk : KM M' nA) (him : Cond.instanceMethod M'.1 ∈ TW) (hse : Cond.selects M'.1.cls M'.1 M'.1 ∈ TW) (hs : shp S o = some (t, len)) (ht : t < 12 ∧ cR t = M'.1.cls) (hcn : C Γ M' fr lo 0 0 (vr o :: as) S m (QV S P)) (hst : st = as.reverse ++ vr o :: rest) (hn : as.length = nA) (hrm : fr + 1 ≤ rm.frames ∧ 8 + (M'.2.2.1 + 11) + lo ≤ rm.locals) (hrest : (rest.map catN).sum ≤ 8) (hal : k ≤ rm.cells ∧ n ≤ rm.slots) (kk : ∀ m', P m' → R Γ M rm mc ms Q k n q loc rest S m') : R Γ M rm mc ms Q k n pc loc st S m :=
  R_callV (mc' := 0) (ms' := 0) q hq hd hl hk him hse hs ht hcn hst hn hrm hal hrest (fun r S' m' h => by obtain ⟨rfl, rfl, h⟩ := h; exact kk m' h)
end CALLK
def shF (o : Nat) : Nat × Nat := (if o < 56 then (if o < 28 then (if o < 14 then (if o < 7 then (if o < 3 then (if o < 1 then (10, 16) else (if o < 2 then (9, 2) else (13, 320))) else (if o < 5 then (if o < 4 then (5, 9) else (4, 10)) else (if o < 6 then (12, 4) else (15, 4)))) else (if o < 10 then (if o < 8 then (12, 12) else (if o < 9 then (12, 12) else (12, 12))) else (if o < 12 then (if o < 11 then (12, 12) else (15, 5)) else (if o < 13 then (12, 8) else (12, 8))))) else (if o < 21 then (if o < 17 then (if o < 15 then (12, 8) else (if o < 16 then (12, 8) else (12, 8))) else (if o < 19 then (if o < 18 then (4, 10) else (12, 4)) else (if o < 20 then (15, 4) else (12, 12)))) else (if o < 24 then (if o < 22 then (12, 12) else (if o < 23 then (12, 12) else (12, 12))) else (if o < 26 then (if o < 25 then (15, 5) else (12, 8)) else (if o < 27 then (12, 8) else (12, 8)))))) else (if o < 42 then (if o < 35 then (if o < 31 then (if o < 29 then (12, 8) else (if o < 30 then (12, 8) else (0, 3))) else (if o < 33 then (if o < 32 then (15, 3) else (12, 40)) else (if o < 34 then (12, 40) else (12, 40)))) else (if o < 38 then (if o < 36 then (15, 5) else (if o < 37 then (12, 80) else (12, 80))) else (if o < 40 then (if o < 39 then (12, 80) else (12, 80)) else (if o < 41 then (12, 80) else (3, 5))))) else (if o < 49 then (if o < 45 then (if o < 43 then (12, 80) else (if o < 44 then (12, 80) else (16, 2))) else (if o < 47 then (if o < 46 then (1, 5) else (1, 5)) else (if o < 48 then (17, 2) else (2, 4)))) else (if o < 52 then (if o < 50 then (0, 3) else (if o < 51 then (15, 3) else (12, 40))) else (if o < 54 then (if o < 53 then (12, 40) else (12, 40)) else (if o < 55 then (15, 5) else (12, 80))))))) else (if o < 84 then (if o < 70 then (if o < 63 then (if o < 59 then (if o < 57 then (12, 80) else (if o < 58 then (12, 80) else (12, 80))) else (if o < 61 then (if o < 60 then (12, 80) else (1, 5)) else (if o < 62 then (1, 5) else (2, 4)))) else (if o < 66 then (if o < 64 then (0, 3) else (if o < 65 then (15, 3) else (12, 40))) else (if o < 68 then (if o < 67 then (12, 40) else (12, 40)) else (if o < 69 then (15, 5) else (12, 80))))) else (if o < 77 then (if o < 73 then (if o < 71 then (12, 80) else (if o < 72 then (12, 80) else (12, 80))) else (if o < 75 then (if o < 74 then (12, 80) else (1, 5)) else (if o < 76 then (1, 5) else (18, 4)))) else (if o < 80 then (if o < 78 then (7, 3) else (if o < 79 then (12, 60) else (7, 3))) else (if o < 82 then (if o < 81 then (12, 60) else (7, 3)) else (if o < 83 then (12, 60) else (7, 3)))))) else (if o < 98 then (if o < 91 then (if o < 87 then (if o < 85 then (12, 60) else (if o < 86 then (8, 3) else (12, 15))) else (if o < 89 then (if o < 88 then (12, 15) else (8, 3)) else (if o < 90 then (12, 15) else (12, 15)))) else (if o < 94 then (if o < 92 then (6, 2) else (if o < 93 then (12, 80) else (15, 2))) else (if o < 96 then (if o < 95 then (12, 100) else (12, 100)) else (if o < 97 then (11, 35) else (12, 320))))) else (if o < 105 then (if o < 101 then (if o < 99 then (12, 13) else (if o < 100 then (12, 60) else (12, 11))) else (if o < 103 then (if o < 102 then (12, 11) else (12, 48)) else (if o < 104 then (12, 40) else (12, 11)))) else (if o < 109 then (if o < 107 then (if o < 106 then (12, 48) else (12, 40)) else (if o < 108 then (12, 1980) else (12, 80))) else (if o < 111 then (if o < 110 then (14, 2) else (12, 4)) else (if o < 112 then (12, 4) else (12, 240))))))))
def SH : Shp := (113, shF)
/-- ours, draft; the books and the land of the kinds; the tape and the draft of the reader -/
abbrev PV : Type := Nat × Nat × Option Nat × Option Nat × Option Nat × Option Nat
def mkP (v : PV) (o k : Nat) : Option Nat := if o < 113 then (if o < 56 then (if o < 28 then (if o < 14 then (if o < 7 then (if o < 3 then (if o < 1 then (if k = 0 then some 1 else if k = 1 then some 3 else if k = 2 then (some v.1) else if k = 3 then (some v.2.1) else if k = 5 then some 30 else if k = 6 then some 41 else if k = 7 then some 44 else if k = 8 then some 47 else if k = 9 then some 76 else if k = 11 then some 85 else if k = 12 then some 88 else if k = 13 then some 91 else if k = 14 then some 92 else if k = 15 then some 93 else none) else (if o < 2 then (if k = 0 then some 2 else none) else none)) else (if o < 5 then (if o < 4 then (if k = 0 then v.2.2.2.2.1 else if k = 1 then v.2.2.2.2.2 else none) else (if k = 7 then some 5 else if k = 8 then some 6 else if k = 9 then some 11 else none)) else (if o < 6 then none else (if k = 0 then some 7 else if k = 1 then some 8 else if k = 2 then some 9 else if k = 3 then some 10 else none)))) else (if o < 10 then (if o < 8 then none else (if o < 9 then none else none)) else (if o < 12 then (if o < 11 then none else (if k = 0 then some 12 else if k = 1 then some 13 else if k = 2 then some 14 else if k = 3 then some 15 else if k = 4 then some 16 else none)) else (if o < 13 then none else none)))) else (if o < 21 then (if o < 17 then (if o < 15 then none else (if o < 16 then none else none)) else (if o < 19 then (if o < 18 then (if k = 7 then some 18 else if k = 8 then some 19 else if k = 9 then some 24 else none) else none) else (if o < 20 then (if k = 0 then some 20 else if k = 1 then some 21 else if k = 2 then some 22 else if k = 3 then some 23 else none) else none))) else (if o < 24 then (if o < 22 then none else (if o < 23 then none else none)) else (if o < 26 then (if o < 25 then (if k = 0 then some 25 else if k = 1 then some 26 else if k = 2 then some 27 else if k = 3 then some 28 else if k = 4 then some 29 else none) else none) else (if o < 27 then none else none))))) else (if o < 42 then (if o < 35 then (if o < 31 then (if o < 29 then none else (if o < 30 then none else (if k = 1 then some 31 else if k = 2 then some 35 else none))) else (if o < 33 then (if o < 32 then (if k = 0 then some 32 else if k = 1 then some 33 else if k = 2 then some 34 else none) else none) else (if o < 34 then none else none))) else (if o < 38 then (if o < 36 then (if k = 0 then some 36 else if k = 1 then some 37 else if k = 2 then some 38 else if k = 3 then some 39 else if k = 4 then some 40 else none) else (if o < 37 then none else none)) else (if o < 40 then (if o < 39 then none else none) else (if o < 41 then none else (if k = 1 then some 42 else if k = 2 then some 43 else if k = 3 then v.2.2.1 else if k = 4 then v.2.2.2.1 else none))))) else (if o < 49 then (if o < 45 then (if o < 43 then none else (if o < 44 then none else (if k = 0 then some 45 else if k = 1 then some 46 else none))) else (if o < 47 then (if o < 46 then none else none) else (if o < 48 then (if k = 0 then some 48 else if k = 1 then some 62 else none) else (if k = 1 then some 49 else if k = 2 then some 60 else if k = 3 then some 61 else none)))) else (if o < 52 then (if o < 50 then (if k = 1 then some 50 else if k = 2 then some 54 else none) else (if o < 51 then (if k = 0 then some 51 else if k = 1 then some 52 else if k = 2 then some 53 else none) else none)) else (if o < 54 then (if o < 53 then none else none) else (if o < 55 then (if k = 0 then some 55 else if k = 1 then some 56 else if k = 2 then some 57 else if k = 3 then some 58 else if k = 4 then some 59 else none) else none)))))) else (if o < 84 then (if o < 70 then (if o < 63 then (if o < 59 then (if o < 57 then none else (if o < 58 then none else none)) else (if o < 61 then (if o < 60 then none else none) else (if o < 62 then none else (if k = 1 then some 63 else if k = 2 then some 74 else if k = 3 then some 75 else none)))) else (if o < 66 then (if o < 64 then (if k = 1 then some 64 else if k = 2 then some 68 else none) else (if o < 65 then (if k = 0 then some 65 else if k = 1 then some 66 else if k = 2 then some 67 else none) else none)) else (if o < 68 then (if o < 67 then none else none) else (if o < 69 then (if k = 0 then some 69 else if k = 1 then some 70 else if k = 2 then some 71 else if k = 3 then some 72 else if k = 4 then some 73 else none) else none)))) else (if o < 77 then (if o < 73 then (if o < 71 then none else (if o < 72 then none else none)) else (if o < 75 then (if o < 74 then none else none) else (if o < 76 then none else (if k = 0 then some 77 else if k = 1 then some 79 else if k = 2 then some 81 else if k = 3 then some 83 else none)))) else (if o < 80 then (if o < 78 then (if k = 2 then some 78 else none) else (if o < 79 then none else (if k = 2 then some 80 else none))) else (if o < 82 then (if o < 81 then none else (if k = 2 then some 82 else none)) else (if o < 83 then none else (if k = 2 then some 84 else none)))))) else (if o < 98 then (if o < 91 then (if o < 87 then (if o < 85 then none else (if o < 86 then (if k = 0 then some 86 else if k = 1 then some 87 else none) else none)) else (if o < 89 then (if o < 88 then none else (if k = 0 then some 89 else if k = 1 then some 90 else none)) else (if o < 90 then none else none))) else (if o < 94 then (if o < 92 then none else (if o < 93 then none else (if k = 0 then some 94 else if k = 1 then some 95 else none))) else (if o < 96 then (if o < 95 then none else none) else (if o < 97 then (if k = 0 then some 97 else if k = 9 then some 98 else if k = 10 then some 99 else if k = 11 then some 100 else if k = 12 then some 101 else if k = 13 then some 102 else if k = 14 then some 103 else if k = 15 then some 104 else if k = 16 then some 105 else if k = 17 then some 106 else if k = 19 then some 107 else if k = 21 then some 108 else if k = 30 then some 109 else if k = 31 then some 110 else if k = 32 then some 111 else if k = 33 then some 112 else none) else none)))) else (if o < 105 then (if o < 101 then (if o < 99 then none else (if o < 100 then none else none)) else (if o < 103 then (if o < 102 then none else none) else (if o < 104 then none else none))) else (if o < 109 then (if o < 107 then (if o < 106 then none else none) else (if o < 108 then none else none)) else (if o < 111 then (if o < 110 then none else none) else (if o < 112 then none else none))))))) else none
