def TW : List Cond := lw_tbl.filter goodWord
theorem mTW {w : Cond} (i : Nat) (h : lw_tbl[i]? = some w) (hg : goodWord w = true) : w ∈ TW := List.mem_filter.mpr ⟨List.mem_of_getElem? h, hg⟩
theorem mTB {w : Cond} (i : Nat) (h : lw_tbl[i]? = some w) : w ∈ lw_tbl := List.mem_of_getElem? h
theorem TW_good : ∀ w ∈ TW, (w.onTables && w.keeps) = true ∨ ∃ ty, w = .arrayClass ty := fun _ hw => good_of_word (List.mem_filter.mp hw).2
theorem se_X5_advance : Cond.selects RX5 yX5_advance yX5_advance ∈ TW := mTW 0 (by decide +kernel) rfl
theorem se_X5_sortAt : Cond.selects RX5 yX5_sortAt yX5_sortAt ∈ TW := mTW 1 (by decide +kernel) rfl
theorem se_X5_refuse : Cond.selects RX5 yX5_refuse yX5_refuse ∈ TW := mTW 2 (by decide +kernel) rfl
theorem se_X5_readRow : Cond.selects RX5 yX5_readRow yX5_readRow ∈ TW := mTW 3 (by decide +kernel) rfl
theorem se_X5_takeLine : Cond.selects RX5 yX5_takeLine yX5_takeLine ∈ TW := mTW 4 (by decide +kernel) rfl
theorem se_X5_isWord : Cond.selects RX5 yX5_isWord yX5_isWord ∈ TW := mTW 5 (by decide +kernel) rfl
theorem se_X5_takeParish : Cond.selects RX5 yX5_takeParish yX5_takeParish ∈ TW := mTW 6 (by decide +kernel) rfl
theorem se_X5_takeNumber : Cond.selects RX5 yX5_takeNumber yX5_takeNumber ∈ TW := mTW 7 (by decide +kernel) rfl
theorem se_X5_takeWord : Cond.selects RX5 yX5_takeWord yX5_takeWord ∈ TW := mTW 8 (by decide +kernel) rfl
theorem se_X5_takeClerk : Cond.selects RX5 yX5_takeClerk yX5_takeClerk ∈ TW := mTW 9 (by decide +kernel) rfl
theorem se_X5_takeTried : Cond.selects RX5 yX5_takeTried yX5_takeTried ∈ TW := mTW 10 (by decide +kernel) rfl
theorem se_X5_takeOnce : Cond.selects RX5 yX5_takeOnce yX5_takeOnce ∈ TW := mTW 11 (by decide +kernel) rfl
theorem se_X5_takeStop : Cond.selects RX5 yX5_takeStop yX5_takeStop ∈ TW := mTW 12 (by decide +kernel) rfl
theorem se_X10_takeDraft : Cond.selects RX10 yX10_takeDraft yX10_takeDraft ∈ TW := mTW 13 (by decide +kernel) rfl
theorem se_X10_isParish : Cond.selects RX10 yX10_isParish yX10_isParish ∈ TW := mTW 14 (by decide +kernel) rfl
theorem se_X3_firstWriter : Cond.selects RX3 yX3_firstWriter yX3_firstWriter ∈ TW := mTW 15 (by decide +kernel) rfl
theorem se_X3_kindOfName : Cond.selects RX3 yX3_kindOfName yX3_kindOfName ∈ TW := mTW 16 (by decide +kernel) rfl
theorem se_X3_isDrawn : Cond.selects RX3 yX3_isDrawn yX3_isDrawn ∈ TW := mTW 17 (by decide +kernel) rfl
theorem se_X3_wasNamedBefore : Cond.selects RX3 yX3_wasNamedBefore yX3_wasNamedBefore ∈ TW := mTW 18 (by decide +kernel) rfl
theorem se_X10_isMarriage : Cond.selects RX10 yX10_isMarriage yX10_isMarriage ∈ TW := mTW 19 (by decide +kernel) rfl
theorem se_X0_startSide : Cond.selects RX0 yX0_startSide yX0_startSide ∈ TW := mTW 20 (by decide +kernel) rfl
theorem se_X10_isMark : Cond.selects RX10 yX10_isMark yX10_isMark ∈ TW := mTW 21 (by decide +kernel) rfl
theorem se_X10_isInBooks : Cond.selects RX10 yX10_isInBooks yX10_isInBooks ∈ TW := mTW 22 (by decide +kernel) rfl
theorem se_X10_areParishes : Cond.selects RX10 yX10_areParishes yX10_areParishes ∈ TW := mTW 23 (by decide +kernel) rfl
theorem se_X10_howMany : Cond.selects RX10 yX10_howMany yX10_howMany ∈ TW := mTW 24 (by decide +kernel) rfl
theorem se_X10_isOfSort : Cond.selects RX10 yX10_isOfSort yX10_isOfSort ∈ TW := mTW 25 (by decide +kernel) rfl
theorem se_X10_fractionOrNone : Cond.selects RX10 yX10_fractionOrNone yX10_fractionOrNone ∈ TW := mTW 26 (by decide +kernel) rfl
theorem se_X10_tallyGroups : Cond.selects RX10 yX10_tallyGroups yX10_tallyGroups ∈ TW := mTW 27 (by decide +kernel) rfl
theorem se_X10_howManyPairs : Cond.selects RX10 yX10_howManyPairs yX10_howManyPairs ∈ TW := mTW 28 (by decide +kernel) rfl
theorem se_X10_howManyLearnt : Cond.selects RX10 yX10_howManyLearnt yX10_howManyLearnt ∈ TW := mTW 29 (by decide +kernel) rfl
theorem se_X10_howSurelyLearnt : Cond.selects RX10 yX10_howSurelyLearnt yX10_howSurelyLearnt ∈ TW := mTW 30 (by decide +kernel) rfl
theorem se_X10_tallyTens : Cond.selects RX10 yX10_tallyTens yX10_tallyTens ∈ TW := mTW 31 (by decide +kernel) rfl
theorem se_X10_allHaveMarks : Cond.selects RX10 yX10_allHaveMarks yX10_allHaveMarks ∈ TW := mTW 32 (by decide +kernel) rfl
theorem se_X10_largestBelow : Cond.selects RX10 yX10_largestBelow yX10_largestBelow ∈ TW := mTW 33 (by decide +kernel) rfl
theorem se_X10_fewestBelow : Cond.selects RX10 yX10_fewestBelow yX10_fewestBelow ∈ TW := mTW 34 (by decide +kernel) rfl
theorem se_X10_leastBits : Cond.selects RX10 yX10_leastBits yX10_leastBits ∈ TW := mTW 35 (by decide +kernel) rfl
theorem se_X10_addMore : Cond.selects RX10 yX10_addMore yX10_addMore ∈ TW := mTW 36 (by decide +kernel) rfl
theorem se_X10_bottomOf : Cond.selects RX10 yX10_bottomOf yX10_bottomOf ∈ TW := mTW 37 (by decide +kernel) rfl
theorem se_X10_addBetter : Cond.selects RX10 yX10_addBetter yX10_addBetter ∈ TW := mTW 38 (by decide +kernel) rfl
theorem se_X10_tallyQuarters : Cond.selects RX10 yX10_tallyQuarters yX10_tallyQuarters ∈ TW := mTW 39 (by decide +kernel) rfl
theorem se_X10_tallyPersons : Cond.selects RX10 yX10_tallyPersons yX10_tallyPersons ∈ TW := mTW 40 (by decide +kernel) rfl
theorem se_X10_gatherHands : Cond.selects RX10 yX10_gatherHands yX10_gatherHands ∈ TW := mTW 41 (by decide +kernel) rfl
theorem se_X10_howManyNear : Cond.selects RX10 yX10_howManyNear yX10_howManyNear ∈ TW := mTW 42 (by decide +kernel) rfl
theorem se_X10_refusalOf : Cond.selects RX10 yX10_refusalOf yX10_refusalOf ∈ TW := mTW 43 (by decide +kernel) rfl
theorem se_X10_appendFrom : Cond.selects RX10 yX10_appendFrom yX10_appendFrom ∈ TW := mTW 44 (by decide +kernel) rfl
theorem se_X11_next2 : Cond.selects RX11 yX11_next2 yX11_next2 ∈ TW := mTW 45 (by decide +kernel) rfl
theorem se_X11_byteAt : Cond.selects RX11 yX11_byteAt yX11_byteAt ∈ TW := mTW 46 (by decide +kernel) rfl
theorem se_X11_fails : Cond.selects RX11 yX11_fails yX11_fails ∈ TW := mTW 47 (by decide +kernel) rfl
theorem se_X11_readLine : Cond.selects RX11 yX11_readLine yX11_readLine ∈ TW := mTW 48 (by decide +kernel) rfl
theorem se_X11_nameHere : Cond.selects RX11 yX11_nameHere yX11_nameHere ∈ TW := mTW 49 (by decide +kernel) rfl
theorem se_X11_readParish : Cond.selects RX11 yX11_readParish yX11_readParish ∈ TW := mTW 50 (by decide +kernel) rfl
theorem se_X11_number : Cond.selects RX11 yX11_number yX11_number ∈ TW := mTW 51 (by decide +kernel) rfl
theorem se_X11_yearBehind : Cond.selects RX11 yX11_yearBehind yX11_yearBehind ∈ TW := mTW 52 (by decide +kernel) rfl
theorem se_X11_readClerk : Cond.selects RX11 yX11_readClerk yX11_readClerk ∈ TW := mTW 53 (by decide +kernel) rfl
theorem se_X11_readTried : Cond.selects RX11 yX11_readTried yX11_readTried ∈ TW := mTW 54 (by decide +kernel) rfl
theorem se_X11_readRule : Cond.selects RX11 yX11_readRule yX11_readRule ∈ TW := mTW 55 (by decide +kernel) rfl
theorem se_X11_setChoice : Cond.selects RX11 yX11_setChoice yX11_setChoice ∈ TW := mTW 56 (by decide +kernel) rfl
theorem se_X11_isParish : Cond.selects RX11 yX11_isParish yX11_isParish ∈ TW := mTW 57 (by decide +kernel) rfl
theorem se_X11_size : Cond.selects RX11 yX11_size yX11_size ∈ TW := mTW 58 (by decide +kernel) rfl
theorem se_X11_its : Cond.selects RX11 yX11_its yX11_its ∈ TW := mTW 59 (by decide +kernel) rfl
theorem se_X11_parishOf : Cond.selects RX11 yX11_parishOf yX11_parishOf ∈ TW := mTW 60 (by decide +kernel) rfl
theorem se_X11_isClerk : Cond.selects RX11 yX11_isClerk yX11_isClerk ∈ TW := mTW 61 (by decide +kernel) rfl
theorem se_X11_writerOf : Cond.selects RX11 yX11_writerOf yX11_writerOf ∈ TW := mTW 62 (by decide +kernel) rfl
theorem se_X11_of5 : Cond.selects RX11 yX11_of5 yX11_of5 ∈ TW := mTW 63 (by decide +kernel) rfl
theorem se_X11_isMarry : Cond.selects RX11 yX11_isMarry yX11_isMarry ∈ TW := mTW 64 (by decide +kernel) rfl
theorem se_X11_adds : Cond.selects RX11 yX11_adds yX11_adds ∈ TW := mTW 65 (by decide +kernel) rfl
theorem se_X11_isMark : Cond.selects RX11 yX11_isMark yX11_isMark ∈ TW := mTW 66 (by decide +kernel) rfl
theorem se_X11_kindOf : Cond.selects RX11 yX11_kindOf yX11_kindOf ∈ TW := mTW 67 (by decide +kernel) rfl
theorem se_X11_nameKind : Cond.selects RX11 yX11_nameKind yX11_nameKind ∈ TW := mTW 68 (by decide +kernel) rfl
theorem se_X11_isDrawn : Cond.selects RX11 yX11_isDrawn yX11_isDrawn ∈ TW := mTW 69 (by decide +kernel) rfl
theorem se_X11_isOwnName : Cond.selects RX11 yX11_isOwnName yX11_isOwnName ∈ TW := mTW 70 (by decide +kernel) rfl
theorem se_X11_awake : Cond.selects RX11 yX11_awake yX11_awake ∈ TW := mTW 71 (by decide +kernel) rfl
theorem se_X11_layKinds : Cond.selects RX11 yX11_layKinds yX11_layKinds ∈ TW := mTW 72 (by decide +kernel) rfl
theorem se_X11_tally : Cond.selects RX11 yX11_tally yX11_tally ∈ TW := mTW 73 (by decide +kernel) rfl
theorem se_X11_isIn : Cond.selects RX11 yX11_isIn yX11_isIn ∈ TW := mTW 74 (by decide +kernel) rfl
theorem se_X11_groupOf : Cond.selects RX11 yX11_groupOf yX11_groupOf ∈ TW := mTW 75 (by decide +kernel) rfl
theorem se_X11_isAble : Cond.selects RX11 yX11_isAble yX11_isAble ∈ TW := mTW 76 (by decide +kernel) rfl
theorem se_X11_groupMany : Cond.selects RX11 yX11_groupMany yX11_groupMany ∈ TW := mTW 77 (by decide +kernel) rfl
theorem se_X11_pairsOf : Cond.selects RX11 yX11_pairsOf yX11_pairsOf ∈ TW := mTW 78 (by decide +kernel) rfl
theorem se_X11_layLearnt : Cond.selects RX11 yX11_layLearnt yX11_layLearnt ∈ TW := mTW 79 (by decide +kernel) rfl
theorem se_X11_areDrawn : Cond.selects RX11 yX11_areDrawn yX11_areDrawn ∈ TW := mTW 80 (by decide +kernel) rfl
theorem se_X11_marked : Cond.selects RX11 yX11_marked yX11_marked ∈ TW := mTW 81 (by decide +kernel) rfl
theorem se_X11_nothing : Cond.selects RX11 yX11_nothing yX11_nothing ∈ TW := mTW 82 (by decide +kernel) rfl
theorem se_X11_allMarriages : Cond.selects RX11 yX11_allMarriages yX11_allMarriages ∈ TW := mTW 83 (by decide +kernel) rfl
theorem se_X11_plus : Cond.selects RX11 yX11_plus yX11_plus ∈ TW := mTW 84 (by decide +kernel) rfl
theorem se_X11_marksOf : Cond.selects RX11 yX11_marksOf yX11_marksOf ∈ TW := mTW 85 (by decide +kernel) rfl
theorem se_X11_isLater : Cond.selects RX11 yX11_isLater yX11_isLater ∈ TW := mTW 86 (by decide +kernel) rfl
theorem se_X11_widest : Cond.selects RX11 yX11_widest yX11_widest ∈ TW := mTW 87 (by decide +kernel) rfl
theorem ini_L : Cond.initialized RL ∈ TW := mTW 88 (by decide +kernel) rfl
theorem ini_X10 : Cond.initialized RX10 ∈ TW := mTW 89 (by decide +kernel) rfl
theorem ini_X9 : Cond.initialized RX9 ∈ TW := mTW 90 (by decide +kernel) rfl
theorem ini_X5 : Cond.initialized RX5 ∈ TW := mTW 91 (by decide +kernel) rfl
theorem ini_X4 : Cond.initialized RX4 ∈ TW := mTW 92 (by decide +kernel) rfl
theorem ini_X0 : Cond.initialized RX0 ∈ TW := mTW 93 (by decide +kernel) rfl
theorem ini_X3 : Cond.initialized RX3 ∈ TW := mTW 94 (by decide +kernel) rfl
theorem ini_X1 : Cond.initialized RX1 ∈ TW := mTW 95 (by decide +kernel) rfl
theorem ini_X2 : Cond.initialized RX2 ∈ TW := mTW 96 (by decide +kernel) rfl
theorem ini_X7 : Cond.initialized RX7 ∈ TW := mTW 97 (by decide +kernel) rfl
theorem ini_X8 : Cond.initialized RX8 ∈ TW := mTW 98 (by decide +kernel) rfl
theorem ini_X6 : Cond.initialized RX6 ∈ TW := mTW 99 (by decide +kernel) rfl
theorem ini_X11 : Cond.initialized RX11 ∈ TW := mTW 100 (by decide +kernel) rfl
theorem ini_J0 : Cond.initialized RJ0 ∈ TW := mTW 101 (by decide +kernel) rfl
theorem ini_J1 : Cond.initialized RJ1 ∈ TW := mTW 102 (by decide +kernel) rfl
theorem ini_J3 : Cond.initialized RJ3 ∈ TW := mTW 103 (by decide +kernel) rfl
theorem ini_J2 : Cond.initialized RJ2 ∈ TW := mTW 104 (by decide +kernel) rfl
theorem ini_J9 : Cond.initialized RJ9 ∈ TW := mTW 105 (by decide +kernel) rfl
theorem ini_J6 : Cond.initialized RJ6 ∈ TW := mTW 106 (by decide +kernel) rfl
theorem ini_J10 : Cond.initialized RJ10 ∈ TW := mTW 107 (by decide +kernel) rfl
theorem cl_L_7 : Cond.classLink RL 7 RX10 ∈ TW := mTW 108 (by decide +kernel) rfl
theorem inst_X10 : Cond.instantiable RX10 16 ∈ TW := mTW 109 (by decide +kernel) rfl
theorem ml_L_9 : Cond.methodLink RL 9 yX10_init ∈ TW := mTW 110 (by decide +kernel) rfl
theorem im_X10_init : Cond.instanceMethod yX10_init ∈ TW := mTW 111 (by decide +kernel) rfl
set_option maxRecDepth 30000 in
theorem cd_X10_init : Cond.code yX10_init cX10_init 1 none ∈ TW := mTW 112 rfl rfl
theorem ml_X10_1 : Cond.methodLink RX10 1 objectInit ∈ TW := mTW 113 (by decide +kernel) rfl
theorem im_objectInit : Cond.instanceMethod objectInit ∈ TW := mTW 114 (by decide +kernel) rfl
theorem cl_X10_7 : Cond.classLink RX10 7 RX9 ∈ TW := mTW 116 (by decide +kernel) rfl
theorem inst_X9 : Cond.instantiable RX9 2 ∈ TW := mTW 117 (by decide +kernel) rfl
theorem ml_X10_9 : Cond.methodLink RX10 9 yX9_init ∈ TW := mTW 118 (by decide +kernel) rfl
theorem im_X9_init : Cond.instanceMethod yX9_init ∈ TW := mTW 119 (by decide +kernel) rfl
set_option maxRecDepth 30000 in
theorem cd_X9_init : Cond.code yX9_init cX9_init 1 none ∈ TW := mTW 120 rfl rfl
theorem ml_X9_3 : Cond.methodLink RX9 3 objectInit ∈ TW := mTW 121 (by decide +kernel) rfl
theorem fl_X9_9 : Cond.fieldLink RX9 9 "CrossOrName$Tape" "bytes" "[B" ∈ TW := mTW 122 (by decide +kernel) rfl
theorem fl_X5_153 : Cond.fieldLink RX5 153 "CrossOrName$Tape" "bytes" "[B" ∈ TW := mTW 123 (by decide +kernel) rfl
theorem fl_X9_15 : Cond.fieldLink RX9 15 "CrossOrName$Tape" "length" "I" ∈ TW := mTW 124 (by decide +kernel) rfl
theorem fl_X10_105 : Cond.fieldLink RX10 105 "CrossOrName$Tape" "length" "I" ∈ TW := mTW 125 (by decide +kernel) rfl
theorem fl_X5_141 : Cond.fieldLink RX5 141 "CrossOrName$Tape" "length" "I" ∈ TW := mTW 126 (by decide +kernel) rfl
theorem ac_byte : Cond.arrayClass .byte ∈ TW := mTW 132 (by decide +kernel) rfl
theorem cl_X10_16 : Cond.classLink RX10 16 RX5 ∈ TW := mTW 133 (by decide +kernel) rfl
theorem inst_X5 : Cond.instantiable RX5 9 ∈ TW := mTW 134 (by decide +kernel) rfl
theorem ml_X10_18 : Cond.methodLink RX10 18 yX5_init ∈ TW := mTW 135 (by decide +kernel) rfl
theorem im_X5_init : Cond.instanceMethod yX5_init ∈ TW := mTW 136 (by decide +kernel) rfl
set_option maxRecDepth 30000 in
theorem cd_X5_init : Cond.code yX5_init cX5_init 1 none ∈ TW := mTW 137 rfl rfl
theorem ml_X5_3 : Cond.methodLink RX5 3 objectInit ∈ TW := mTW 138 (by decide +kernel) rfl
theorem fl_X5_9 : Cond.fieldLink RX5 9 "CrossOrName$LandReader" "tape" "LCrossOrName$Tape;" ∈ TW := mTW 139 (by decide +kernel) rfl
theorem fl_X5_15 : Cond.fieldLink RX5 15 "CrossOrName$LandReader" "draft" "LCrossOrName$Land;" ∈ TW := mTW 140 (by decide +kernel) rfl
theorem fl_X5_24 : Cond.fieldLink RX5 24 "CrossOrName$LandReader" "at" "I" ∈ TW := mTW 141 (by decide +kernel) rfl
theorem fl_X5_40 : Cond.fieldLink RX5 40 "CrossOrName$LandReader" "token" "I" ∈ TW := mTW 142 (by decide +kernel) rfl
theorem fl_X5_138 : Cond.fieldLink RX5 138 "CrossOrName$LandReader" "place" "I" ∈ TW := mTW 143 (by decide +kernel) rfl
theorem fl_X5_131 : Cond.fieldLink RX5 131 "CrossOrName$LandReader" "value" "I" ∈ TW := mTW 144 (by decide +kernel) rfl
theorem fl_X5_28 : Cond.fieldLink RX5 28 "CrossOrName$LandReader" "seen" "I" ∈ TW := mTW 145 (by decide +kernel) rfl
theorem fl_X5_31 : Cond.fieldLink RX5 31 "CrossOrName$LandReader" "fault" "I" ∈ TW := mTW 146 (by decide +kernel) rfl
theorem fl_X10_116 : Cond.fieldLink RX10 116 "CrossOrName$LandReader" "fault" "I" ∈ TW := mTW 147 (by decide +kernel) rfl
theorem fl_X5_34 : Cond.fieldLink RX5 34 "CrossOrName$LandReader" "faultPlace" "I" ∈ TW := mTW 148 (by decide +kernel) rfl
theorem fl_X10_119 : Cond.fieldLink RX10 119 "CrossOrName$LandReader" "faultPlace" "I" ∈ TW := mTW 149 (by decide +kernel) rfl
theorem cl_X10_23 : Cond.classLink RX10 23 RX4 ∈ TW := mTW 169 (by decide +kernel) rfl
theorem inst_X4 : Cond.instantiable RX4 10 ∈ TW := mTW 170 (by decide +kernel) rfl
theorem ml_X10_25 : Cond.methodLink RX10 25 yX4_init ∈ TW := mTW 171 (by decide +kernel) rfl
theorem im_X4_init : Cond.instanceMethod yX4_init ∈ TW := mTW 172 (by decide +kernel) rfl
set_option maxRecDepth 30000 in
theorem cd_X4_init : Cond.code yX4_init cX4_init 1 none ∈ TW := mTW 173 rfl rfl
theorem ml_X4_3 : Cond.methodLink RX4 3 objectInit ∈ TW := mTW 174 (by decide +kernel) rfl
theorem cl_X4_15 : Cond.classLink RX4 15 "[[I" ∈ TW := mTW 175 (by decide +kernel) rfl
theorem ao_A : Cond.arrayOver (.array .int) ∈ lw_tbl := mTB 176 (by decide +kernel)
theorem ml_X4_23 : Cond.methodLink RX4 23 yX4_clear ∈ TW := mTW 177 (by decide +kernel) rfl
theorem im_X4_clear : Cond.instanceMethod yX4_clear ∈ TW := mTW 178 (by decide +kernel) rfl
theorem se_X4_clear : Cond.selects RX4 yX4_clear yX4_clear ∈ TW := mTW 179 (by decide +kernel) rfl
set_option maxRecDepth 30000 in
theorem cd_X4_clear : Cond.code yX4_clear cX4_clear 1 none ∈ TW := mTW 180 rfl rfl
theorem fl_X4_26 : Cond.fieldLink RX4 26 "CrossOrName$Land" "parishes" "I" ∈ TW := mTW 181 (by decide +kernel) rfl
theorem fl_X5_99 : Cond.fieldLink RX5 99 "CrossOrName$Land" "parishes" "I" ∈ TW := mTW 182 (by decide +kernel) rfl
theorem fl_X10_125 : Cond.fieldLink RX10 125 "CrossOrName$Land" "parishes" "I" ∈ TW := mTW 183 (by decide +kernel) rfl
theorem fl_X4_30 : Cond.fieldLink RX4 30 "CrossOrName$Land" "clerks" "I" ∈ TW := mTW 184 (by decide +kernel) rfl
theorem fl_X5_114 : Cond.fieldLink RX5 114 "CrossOrName$Land" "clerks" "I" ∈ TW := mTW 185 (by decide +kernel) rfl
theorem fl_X3_54 : Cond.fieldLink RX3 54 "CrossOrName$Land" "clerks" "I" ∈ TW := mTW 186 (by decide +kernel) rfl
theorem fl_X10_128 : Cond.fieldLink RX10 128 "CrossOrName$Land" "clerks" "I" ∈ TW := mTW 187 (by decide +kernel) rfl
theorem fl_X4_33 : Cond.fieldLink RX4 33 "CrossOrName$Land" "learn" "I" ∈ TW := mTW 188 (by decide +kernel) rfl
theorem fl_X5_75 : Cond.fieldLink RX5 75 "CrossOrName$Land" "learn" "I" ∈ TW := mTW 189 (by decide +kernel) rfl
theorem fl_X10_131 : Cond.fieldLink RX10 131 "CrossOrName$Land" "learn" "I" ∈ TW := mTW 190 (by decide +kernel) rfl
theorem fl_X4_36 : Cond.fieldLink RX4 36 "CrossOrName$Land" "leastAge" "I" ∈ TW := mTW 191 (by decide +kernel) rfl
theorem fl_X5_79 : Cond.fieldLink RX5 79 "CrossOrName$Land" "leastAge" "I" ∈ TW := mTW 192 (by decide +kernel) rfl
theorem fl_X10_134 : Cond.fieldLink RX10 134 "CrossOrName$Land" "leastAge" "I" ∈ TW := mTW 193 (by decide +kernel) rfl
theorem fl_X4_39 : Cond.fieldLink RX4 39 "CrossOrName$Land" "greatestAge" "I" ∈ TW := mTW 194 (by decide +kernel) rfl
theorem fl_X5_82 : Cond.fieldLink RX5 82 "CrossOrName$Land" "greatestAge" "I" ∈ TW := mTW 195 (by decide +kernel) rfl
theorem fl_X10_137 : Cond.fieldLink RX10 137 "CrossOrName$Land" "greatestAge" "I" ∈ TW := mTW 196 (by decide +kernel) rfl
theorem fl_X4_42 : Cond.fieldLink RX4 42 "CrossOrName$Land" "never" "I" ∈ TW := mTW 197 (by decide +kernel) rfl
theorem fl_X5_87 : Cond.fieldLink RX5 87 "CrossOrName$Land" "never" "I" ∈ TW := mTW 198 (by decide +kernel) rfl
theorem fl_X10_140 : Cond.fieldLink RX10 140 "CrossOrName$Land" "never" "I" ∈ TW := mTW 199 (by decide +kernel) rfl
theorem fl_X4_45 : Cond.fieldLink RX4 45 "CrossOrName$Land" "picture" "I" ∈ TW := mTW 200 (by decide +kernel) rfl
theorem fl_X5_91 : Cond.fieldLink RX5 91 "CrossOrName$Land" "picture" "I" ∈ TW := mTW 201 (by decide +kernel) rfl
theorem fl_X10_143 : Cond.fieldLink RX10 143 "CrossOrName$Land" "picture" "I" ∈ TW := mTW 202 (by decide +kernel) rfl
theorem fl_X3_78 : Cond.fieldLink RX3 78 "CrossOrName$Land" "picture" "I" ∈ TW := mTW 203 (by decide +kernel) rfl
theorem fl_X4_9 : Cond.fieldLink RX4 9 "CrossOrName$Land" "tried" "[I" ∈ TW := mTW 204 (by decide +kernel) rfl
theorem fl_X5_123 : Cond.fieldLink RX5 123 "CrossOrName$Land" "tried" "[I" ∈ TW := mTW 205 (by decide +kernel) rfl
theorem fl_X10_146 : Cond.fieldLink RX10 146 "CrossOrName$Land" "tried" "[I" ∈ TW := mTW 206 (by decide +kernel) rfl
theorem fl_X4_17 : Cond.fieldLink RX4 17 "CrossOrName$Land" "parish" "[[I" ∈ TW := mTW 207 (by decide +kernel) rfl
theorem fl_X5_102 : Cond.fieldLink RX5 102 "CrossOrName$Land" "parish" "[[I" ∈ TW := mTW 208 (by decide +kernel) rfl
theorem fl_X10_157 : Cond.fieldLink RX10 157 "CrossOrName$Land" "parish" "[[I" ∈ TW := mTW 209 (by decide +kernel) rfl
theorem fl_X4_20 : Cond.fieldLink RX4 20 "CrossOrName$Land" "clerk" "[[I" ∈ TW := mTW 210 (by decide +kernel) rfl
theorem fl_X5_117 : Cond.fieldLink RX5 117 "CrossOrName$Land" "clerk" "[[I" ∈ TW := mTW 211 (by decide +kernel) rfl
theorem fl_X10_160 : Cond.fieldLink RX10 160 "CrossOrName$Land" "clerk" "[[I" ∈ TW := mTW 212 (by decide +kernel) rfl
theorem ac_int : Cond.arrayClass .int ∈ TW := mTW 234 (by decide +kernel) rfl
theorem cl_X10_37 : Cond.classLink RX10 37 RX0 ∈ TW := mTW 235 (by decide +kernel) rfl
theorem inst_X0 : Cond.instantiable RX0 3 ∈ TW := mTW 236 (by decide +kernel) rfl
theorem ml_X10_39 : Cond.methodLink RX10 39 yX0_init ∈ TW := mTW 237 (by decide +kernel) rfl
theorem im_X0_init : Cond.instanceMethod yX0_init ∈ TW := mTW 238 (by decide +kernel) rfl
set_option maxRecDepth 30000 in
theorem cd_X0_init : Cond.code yX0_init cX0_init 1 none ∈ TW := mTW 239 rfl rfl
theorem ml_X0_3 : Cond.methodLink RX0 3 objectInit ∈ TW := mTW 240 (by decide +kernel) rfl
theorem cl_X0_15 : Cond.classLink RX0 15 "[[I" ∈ TW := mTW 241 (by decide +kernel) rfl
theorem fl_X0_9 : Cond.fieldLink RX0 9 "CrossOrName$Books" "size" "I" ∈ TW := mTW 242 (by decide +kernel) rfl
theorem fl_X10_179 : Cond.fieldLink RX10 179 "CrossOrName$Books" "size" "I" ∈ TW := mTW 243 (by decide +kernel) rfl
theorem fl_X0_17 : Cond.fieldLink RX0 17 "CrossOrName$Books" "pair" "[[I" ∈ TW := mTW 244 (by decide +kernel) rfl
theorem fl_X1_35 : Cond.fieldLink RX1 35 "CrossOrName$Books" "pair" "[[I" ∈ TW := mTW 245 (by decide +kernel) rfl
theorem fl_X3_51 : Cond.fieldLink RX3 51 "CrossOrName$Books" "pair" "[[I" ∈ TW := mTW 246 (by decide +kernel) rfl
theorem fl_X10_202 : Cond.fieldLink RX10 202 "CrossOrName$Books" "pair" "[[I" ∈ TW := mTW 247 (by decide +kernel) rfl
theorem fl_X0_20 : Cond.fieldLink RX0 20 "CrossOrName$Books" "side" "[[I" ∈ TW := mTW 248 (by decide +kernel) rfl
theorem fl_X3_40 : Cond.fieldLink RX3 40 "CrossOrName$Books" "side" "[[I" ∈ TW := mTW 249 (by decide +kernel) rfl
theorem fl_X10_196 : Cond.fieldLink RX10 196 "CrossOrName$Books" "side" "[[I" ∈ TW := mTW 250 (by decide +kernel) rfl
theorem cl_X10_44 : Cond.classLink RX10 44 RX3 ∈ TW := mTW 258 (by decide +kernel) rfl
theorem inst_X3 : Cond.instantiable RX3 5 ∈ TW := mTW 259 (by decide +kernel) rfl
theorem ml_X10_46 : Cond.methodLink RX10 46 yX3_init ∈ TW := mTW 260 (by decide +kernel) rfl
theorem im_X3_init : Cond.instanceMethod yX3_init ∈ TW := mTW 261 (by decide +kernel) rfl
set_option maxRecDepth 30000 in
theorem cd_X3_init : Cond.code yX3_init cX3_init 1 none ∈ TW := mTW 262 rfl rfl
theorem ml_X3_3 : Cond.methodLink RX3 3 objectInit ∈ TW := mTW 263 (by decide +kernel) rfl
theorem fl_X3_9 : Cond.fieldLink RX3 9 "CrossOrName$Kinds" "stale" "Z" ∈ TW := mTW 264 (by decide +kernel) rfl
theorem fl_X10_182 : Cond.fieldLink RX10 182 "CrossOrName$Kinds" "stale" "Z" ∈ TW := mTW 265 (by decide +kernel) rfl
theorem fl_X3_15 : Cond.fieldLink RX3 15 "CrossOrName$Kinds" "kind" "[I" ∈ TW := mTW 266 (by decide +kernel) rfl
theorem fl_X10_205 : Cond.fieldLink RX10 205 "CrossOrName$Kinds" "kind" "[I" ∈ TW := mTW 267 (by decide +kernel) rfl
theorem fl_X3_19 : Cond.fieldLink RX3 19 "CrossOrName$Kinds" "writer" "[I" ∈ TW := mTW 268 (by decide +kernel) rfl
theorem fl_X10_208 : Cond.fieldLink RX10 208 "CrossOrName$Kinds" "writer" "[I" ∈ TW := mTW 269 (by decide +kernel) rfl
theorem fl_X3_22 : Cond.fieldLink RX3 22 "CrossOrName$Kinds" "books" "LCrossOrName$Books;" ∈ TW := mTW 270 (by decide +kernel) rfl
theorem fl_X3_26 : Cond.fieldLink RX3 26 "CrossOrName$Kinds" "land" "LCrossOrName$Land;" ∈ TW := mTW 271 (by decide +kernel) rfl
theorem cl_X10_51 : Cond.classLink RX10 51 RX1 ∈ TW := mTW 283 (by decide +kernel) rfl
theorem ao_X1 : Cond.arrayOver (.object RX1) ∈ lw_tbl := mTB 284 (by decide +kernel)
theorem inst_X1 : Cond.instantiable RX1 5 ∈ TW := mTW 285 (by decide +kernel) rfl
theorem ml_X10_53 : Cond.methodLink RX10 53 yX1_init ∈ TW := mTW 286 (by decide +kernel) rfl
theorem im_X1_init : Cond.instanceMethod yX1_init ∈ TW := mTW 287 (by decide +kernel) rfl
set_option maxRecDepth 30000 in
theorem cd_X1_init : Cond.code yX1_init cX1_init 1 none ∈ TW := mTW 288 rfl rfl
theorem ml_X1_3 : Cond.methodLink RX1 3 objectInit ∈ TW := mTW 289 (by decide +kernel) rfl
theorem ml_X1_9 : Cond.methodLink RX1 9 yX1_becomeAll ∈ TW := mTW 290 (by decide +kernel) rfl
theorem im_X1_becomeAll : Cond.instanceMethod yX1_becomeAll ∈ TW := mTW 291 (by decide +kernel) rfl
theorem se_X1_becomeAll : Cond.selects RX1 yX1_becomeAll yX1_becomeAll ∈ TW := mTW 292 (by decide +kernel) rfl
set_option maxRecDepth 30000 in
theorem cd_X1_becomeAll : Cond.code yX1_becomeAll cX1_becomeAll 2 none ∈ TW := mTW 293 rfl rfl
theorem ml_X1_15 : Cond.methodLink RX1 15 yX1_become ∈ TW := mTW 294 (by decide +kernel) rfl
theorem im_X1_become : Cond.instanceMethod yX1_become ∈ TW := mTW 295 (by decide +kernel) rfl
theorem se_X1_become : Cond.selects RX1 yX1_become yX1_become ∈ TW := mTW 296 (by decide +kernel) rfl
set_option maxRecDepth 30000 in
theorem cd_X1_become : Cond.code yX1_become cX1_become 6 none ∈ TW := mTW 297 rfl rfl
theorem fl_X1_19 : Cond.fieldLink RX1 19 "CrossOrName$Choice" "parishes" "I" ∈ TW := mTW 298 (by decide +kernel) rfl
theorem fl_X10_367 : Cond.fieldLink RX10 367 "CrossOrName$Choice" "parishes" "I" ∈ TW := mTW 299 (by decide +kernel) rfl
theorem fl_X1_23 : Cond.fieldLink RX1 23 "CrossOrName$Choice" "from" "I" ∈ TW := mTW 300 (by decide +kernel) rfl
theorem fl_X1_26 : Cond.fieldLink RX1 26 "CrossOrName$Choice" "to" "I" ∈ TW := mTW 301 (by decide +kernel) rfl
theorem fl_X1_29 : Cond.fieldLink RX1 29 "CrossOrName$Choice" "sides" "I" ∈ TW := mTW 302 (by decide +kernel) rfl
theorem fl_X1_32 : Cond.fieldLink RX1 32 "CrossOrName$Choice" "trades" "I" ∈ TW := mTW 303 (by decide +kernel) rfl
theorem cl_X10_58 : Cond.classLink RX10 58 RX2 ∈ TW := mTW 315 (by decide +kernel) rfl
theorem ao_X2 : Cond.arrayOver (.object RX2) ∈ lw_tbl := mTB 316 (by decide +kernel)
theorem inst_X2 : Cond.instantiable RX2 4 ∈ TW := mTW 317 (by decide +kernel) rfl
theorem ml_X10_60 : Cond.methodLink RX10 60 yX2_init ∈ TW := mTW 318 (by decide +kernel) rfl
theorem im_X2_init : Cond.instanceMethod yX2_init ∈ TW := mTW 319 (by decide +kernel) rfl
set_option maxRecDepth 30000 in
theorem cd_X2_init : Cond.code yX2_init cX2_init 1 none ∈ TW := mTW 320 rfl rfl
theorem ml_X2_1 : Cond.methodLink RX2 1 objectInit ∈ TW := mTW 321 (by decide +kernel) rfl
theorem cl_X2_13 : Cond.classLink RX2 13 RX0 ∈ TW := mTW 322 (by decide +kernel) rfl
theorem ml_X2_15 : Cond.methodLink RX2 15 yX0_init ∈ TW := mTW 323 (by decide +kernel) rfl
theorem cl_X2_20 : Cond.classLink RX2 20 RX1 ∈ TW := mTW 324 (by decide +kernel) rfl
theorem ml_X2_22 : Cond.methodLink RX2 22 yX1_init ∈ TW := mTW 325 (by decide +kernel) rfl
theorem fl_X2_7 : Cond.fieldLink RX2 7 "CrossOrName$Image" "kept" "Z" ∈ TW := mTW 326 (by decide +kernel) rfl
theorem fl_X10_346 : Cond.fieldLink RX10 346 "CrossOrName$Image" "kept" "Z" ∈ TW := mTW 327 (by decide +kernel) rfl
theorem fl_X2_16 : Cond.fieldLink RX2 16 "CrossOrName$Image" "books" "LCrossOrName$Books;" ∈ TW := mTW 328 (by decide +kernel) rfl
theorem fl_X10_349 : Cond.fieldLink RX10 349 "CrossOrName$Image" "books" "LCrossOrName$Books;" ∈ TW := mTW 329 (by decide +kernel) rfl
theorem fl_X2_23 : Cond.fieldLink RX2 23 "CrossOrName$Image" "first" "LCrossOrName$Choice;" ∈ TW := mTW 330 (by decide +kernel) rfl
theorem fl_X10_354 : Cond.fieldLink RX10 354 "CrossOrName$Image" "first" "LCrossOrName$Choice;" ∈ TW := mTW 331 (by decide +kernel) rfl
theorem fl_X2_27 : Cond.fieldLink RX2 27 "CrossOrName$Image" "second" "LCrossOrName$Choice;" ∈ TW := mTW 332 (by decide +kernel) rfl
theorem fl_X10_361 : Cond.fieldLink RX10 361 "CrossOrName$Image" "second" "LCrossOrName$Choice;" ∈ TW := mTW 333 (by decide +kernel) rfl
theorem cl_X10_65 : Cond.classLink RX10 65 RX7 ∈ TW := mTW 343 (by decide +kernel) rfl
theorem ao_X7 : Cond.arrayOver (.object RX7) ∈ lw_tbl := mTB 344 (by decide +kernel)
theorem inst_X7 : Cond.instantiable RX7 3 ∈ TW := mTW 345 (by decide +kernel) rfl
theorem ml_X10_67 : Cond.methodLink RX10 67 yX7_init ∈ TW := mTW 346 (by decide +kernel) rfl
theorem im_X7_init : Cond.instanceMethod yX7_init ∈ TW := mTW 347 (by decide +kernel) rfl
set_option maxRecDepth 30000 in
theorem cd_X7_init : Cond.code yX7_init cX7_init 1 none ∈ TW := mTW 348 rfl rfl
theorem ml_X7_3 : Cond.methodLink RX7 3 objectInit ∈ TW := mTW 349 (by decide +kernel) rfl
theorem fl_X7_9 : Cond.fieldLink RX7 9 "CrossOrName$Sheet" "size" "I" ∈ TW := mTW 350 (by decide +kernel) rfl
theorem fl_X10_377 : Cond.fieldLink RX10 377 "CrossOrName$Sheet" "size" "I" ∈ TW := mTW 351 (by decide +kernel) rfl
theorem fl_X7_15 : Cond.fieldLink RX7 15 "CrossOrName$Sheet" "lane" "I" ∈ TW := mTW 352 (by decide +kernel) rfl
theorem fl_X7_18 : Cond.fieldLink RX7 18 "CrossOrName$Sheet" "cells" "[I" ∈ TW := mTW 353 (by decide +kernel) rfl
theorem fl_X10_441 : Cond.fieldLink RX10 441 "CrossOrName$Sheet" "cells" "[I" ∈ TW := mTW 354 (by decide +kernel) rfl
theorem cl_X10_75 : Cond.classLink RX10 75 RX8 ∈ TW := mTW 362 (by decide +kernel) rfl
theorem inst_X8 : Cond.instantiable RX8 3 ∈ TW := mTW 363 (by decide +kernel) rfl
theorem ml_X10_77 : Cond.methodLink RX10 77 yX8_init ∈ TW := mTW 364 (by decide +kernel) rfl
theorem im_X8_init : Cond.instanceMethod yX8_init ∈ TW := mTW 365 (by decide +kernel) rfl
set_option maxRecDepth 30000 in
theorem cd_X8_init : Cond.code yX8_init cX8_init 1 none ∈ TW := mTW 366 rfl rfl
theorem ml_X8_3 : Cond.methodLink RX8 3 objectInit ∈ TW := mTW 367 (by decide +kernel) rfl
theorem fl_X8_9 : Cond.fieldLink RX8 9 "CrossOrName$Tally" "marks" "[I" ∈ TW := mTW 368 (by decide +kernel) rfl
theorem fl_X10_242 : Cond.fieldLink RX10 242 "CrossOrName$Tally" "marks" "[I" ∈ TW := mTW 369 (by decide +kernel) rfl
theorem fl_X8_15 : Cond.fieldLink RX8 15 "CrossOrName$Tally" "able" "[I" ∈ TW := mTW 370 (by decide +kernel) rfl
theorem fl_X10_244 : Cond.fieldLink RX10 244 "CrossOrName$Tally" "able" "[I" ∈ TW := mTW 371 (by decide +kernel) rfl
theorem fl_X8_18 : Cond.fieldLink RX8 18 "CrossOrName$Tally" "allMarks" "I" ∈ TW := mTW 372 (by decide +kernel) rfl
theorem fl_X10_313 : Cond.fieldLink RX10 313 "CrossOrName$Tally" "allMarks" "I" ∈ TW := mTW 373 (by decide +kernel) rfl
theorem cl_X10_85 : Cond.classLink RX10 85 RX6 ∈ TW := mTW 381 (by decide +kernel) rfl
theorem inst_X6 : Cond.instantiable RX6 2 ∈ TW := mTW 382 (by decide +kernel) rfl
theorem ml_X10_87 : Cond.methodLink RX10 87 yX6_init ∈ TW := mTW 383 (by decide +kernel) rfl
theorem im_X6_init : Cond.instanceMethod yX6_init ∈ TW := mTW 384 (by decide +kernel) rfl
set_option maxRecDepth 30000 in
theorem cd_X6_init : Cond.code yX6_init cX6_init 1 none ∈ TW := mTW 385 rfl rfl
theorem ml_X6_1 : Cond.methodLink RX6 1 objectInit ∈ TW := mTW 386 (by decide +kernel) rfl
theorem fl_X6_7 : Cond.fieldLink RX6 7 "CrossOrName$Ratio" "top" "J" ∈ TW := mTW 387 (by decide +kernel) rfl
theorem fl_X10_290 : Cond.fieldLink RX10 290 "CrossOrName$Ratio" "top" "J" ∈ TW := mTW 388 (by decide +kernel) rfl
theorem fl_X6_13 : Cond.fieldLink RX6 13 "CrossOrName$Ratio" "bottom" "J" ∈ TW := mTW 389 (by decide +kernel) rfl
theorem fl_X10_294 : Cond.fieldLink RX10 294 "CrossOrName$Ratio" "bottom" "J" ∈ TW := mTW 390 (by decide +kernel) rfl
theorem cl_X10_96 : Cond.classLink RX10 96 "[[I" ∈ TW := mTW 396 (by decide +kernel) rfl
theorem fl_X10_10 : Cond.fieldLink RX10 10 "CrossOrName" "tape" "LCrossOrName$Tape;" ∈ TW := mTW 397 (by decide +kernel) rfl
theorem fl_X10_19 : Cond.fieldLink RX10 19 "CrossOrName" "reader" "LCrossOrName$LandReader;" ∈ TW := mTW 398 (by decide +kernel) rfl
theorem fl_X10_26 : Cond.fieldLink RX10 26 "CrossOrName" "ours" "LCrossOrName$Land;" ∈ TW := mTW 399 (by decide +kernel) rfl
theorem fl_X10_30 : Cond.fieldLink RX10 30 "CrossOrName" "draft" "LCrossOrName$Land;" ∈ TW := mTW 400 (by decide +kernel) rfl
theorem fl_X10_33 : Cond.fieldLink RX10 33 "CrossOrName" "latestFault" "I" ∈ TW := mTW 401 (by decide +kernel) rfl
theorem fl_X10_40 : Cond.fieldLink RX10 40 "CrossOrName" "books" "LCrossOrName$Books;" ∈ TW := mTW 402 (by decide +kernel) rfl
theorem fl_X10_47 : Cond.fieldLink RX10 47 "CrossOrName" "kinds" "LCrossOrName$Kinds;" ∈ TW := mTW 403 (by decide +kernel) rfl
theorem fl_X10_54 : Cond.fieldLink RX10 54 "CrossOrName" "choices" "[LCrossOrName$Choice;" ∈ TW := mTW 404 (by decide +kernel) rfl
theorem fl_X10_61 : Cond.fieldLink RX10 61 "CrossOrName" "images" "[LCrossOrName$Image;" ∈ TW := mTW 405 (by decide +kernel) rfl
theorem fl_X10_68 : Cond.fieldLink RX10 68 "CrossOrName" "sheets" "[LCrossOrName$Sheet;" ∈ TW := mTW 406 (by decide +kernel) rfl
theorem fl_X10_72 : Cond.fieldLink RX10 72 "CrossOrName" "latestTorn" "I" ∈ TW := mTW 407 (by decide +kernel) rfl
theorem fl_X10_78 : Cond.fieldLink RX10 78 "CrossOrName" "before" "LCrossOrName$Tally;" ∈ TW := mTW 408 (by decide +kernel) rfl
theorem fl_X10_82 : Cond.fieldLink RX10 82 "CrossOrName" "after" "LCrossOrName$Tally;" ∈ TW := mTW 409 (by decide +kernel) rfl
theorem fl_X10_88 : Cond.fieldLink RX10 88 "CrossOrName" "ratio" "LCrossOrName$Ratio;" ∈ TW := mTW 410 (by decide +kernel) rfl
theorem fl_X10_92 : Cond.fieldLink RX10 92 "CrossOrName" "handsFound" "[I" ∈ TW := mTW 411 (by decide +kernel) rfl
theorem fl_X10_98 : Cond.fieldLink RX10 98 "CrossOrName" "standing" "[[I" ∈ TW := mTW 412 (by decide +kernel) rfl
theorem ml_L_15 : Cond.methodLink RL 15 yX10_feed ∈ TW := mTW 446 (by decide +kernel) rfl
theorem im_X10_feed : Cond.instanceMethod yX10_feed ∈ TW := mTW 447 (by decide +kernel) rfl
theorem se_X10_feed : Cond.selects RX10 yX10_feed yX10_feed ∈ TW := mTW 448 (by decide +kernel) rfl
set_option maxRecDepth 30000 in
theorem cd_X10_feed : Cond.code yX10_feed cX10_feed 3 (some .int) ∈ TW := mTW 449 rfl rfl
theorem ml_X10_101 : Cond.methodLink RX10 101 yX9_append ∈ TW := mTW 450 (by decide +kernel) rfl
theorem im_X9_append : Cond.instanceMethod yX9_append ∈ TW := mTW 451 (by decide +kernel) rfl
theorem se_X9_append : Cond.selects RX9 yX9_append yX9_append ∈ TW := mTW 452 (by decide +kernel) rfl
set_option maxRecDepth 30000 in
theorem cd_X9_append : Cond.code yX9_append cX9_append 4 (some .boolean) ∈ TW := mTW 453 rfl rfl
theorem ml_L_20 : Cond.methodLink RL 20 yX10_end ∈ TW := mTW 454 (by decide +kernel) rfl
theorem im_X10_end : Cond.instanceMethod yX10_end ∈ TW := mTW 455 (by decide +kernel) rfl
theorem se_X10_end : Cond.selects RX10 yX10_end yX10_end ∈ TW := mTW 456 (by decide +kernel) rfl
set_option maxRecDepth 30000 in
theorem cd_X10_end : Cond.code yX10_end cX10_end 3 (some .int) ∈ TW := mTW 457 rfl rfl
theorem ml_X10_108 : Cond.methodLink RX10 108 yX10_within ∈ TW := mTW 458 (by decide +kernel) rfl
theorem st_X10_within : Cond.static yX10_within ∈ TW := mTW 459 (by decide +kernel) rfl
set_option maxRecDepth 30000 in
theorem cd_X10_within : Cond.code yX10_within cX10_within 3 (some .boolean) ∈ TW := mTW 460 rfl rfl
theorem ml_L_25 : Cond.methodLink RL 25 yX10_land ∈ TW := mTW 461 (by decide +kernel) rfl
theorem im_X10_land : Cond.instanceMethod yX10_land ∈ TW := mTW 462 (by decide +kernel) rfl
theorem se_X10_land : Cond.selects RX10 yX10_land yX10_land ∈ TW := mTW 463 (by decide +kernel) rfl
set_option maxRecDepth 30000 in
theorem cd_X10_land : Cond.code yX10_land cX10_land 2 (some .int) ∈ TW := mTW 464 rfl rfl
theorem ml_X10_112 : Cond.methodLink RX10 112 yX5_readLines ∈ TW := mTW 465 (by decide +kernel) rfl
theorem im_X5_readLines : Cond.instanceMethod yX5_readLines ∈ TW := mTW 466 (by decide +kernel) rfl
theorem se_X5_readLines : Cond.selects RX5 yX5_readLines yX5_readLines ∈ TW := mTW 467 (by decide +kernel) rfl
set_option maxRecDepth 30000 in
theorem cd_X5_readLines : Cond.code yX5_readLines cX5_readLines 4 (some .int) ∈ TW := mTW 468 rfl rfl
theorem ml_X5_19 : Cond.methodLink RX5 19 yX4_clear ∈ TW := mTW 469 (by decide +kernel) rfl
theorem ml_X5_37 : Cond.methodLink RX5 37 yX5_advance ∈ TW := mTW 470 (by decide +kernel) rfl
theorem im_X5_advance : Cond.instanceMethod yX5_advance ∈ TW := mTW 472 (by decide +kernel) rfl
set_option maxRecDepth 30000 in
theorem cd_X5_advance : Cond.code yX5_advance cX5_advance 1 none ∈ TW := mTW 473 rfl rfl
theorem ml_X5_146 : Cond.methodLink RX5 146 yX5_sortAt ∈ TW := mTW 474 (by decide +kernel) rfl
theorem im_X5_sortAt : Cond.instanceMethod yX5_sortAt ∈ TW := mTW 476 (by decide +kernel) rfl
set_option maxRecDepth 30000 in
theorem cd_X5_sortAt : Cond.code yX5_sortAt cX5_sortAt 3 (some .int) ∈ TW := mTW 477 rfl rfl
theorem ml_X5_93 : Cond.methodLink RX5 93 yX5_refuse ∈ TW := mTW 478 (by decide +kernel) rfl
theorem im_X5_refuse : Cond.instanceMethod yX5_refuse ∈ TW := mTW 480 (by decide +kernel) rfl
set_option maxRecDepth 30000 in
theorem cd_X5_refuse : Cond.code yX5_refuse cX5_refuse 2 none ∈ TW := mTW 481 rfl rfl
theorem ml_X5_150 : Cond.methodLink RX5 150 yX5_readRow ∈ TW := mTW 482 (by decide +kernel) rfl
theorem im_X5_readRow : Cond.instanceMethod yX5_readRow ∈ TW := mTW 484 (by decide +kernel) rfl
set_option maxRecDepth 30000 in
theorem cd_X5_readRow : Cond.code yX5_readRow cX5_readRow 1 none ∈ TW := mTW 485 rfl rfl
theorem ml_X5_43 : Cond.methodLink RX5 43 yX5_takeLine ∈ TW := mTW 486 (by decide +kernel) rfl
theorem im_X5_takeLine : Cond.instanceMethod yX5_takeLine ∈ TW := mTW 488 (by decide +kernel) rfl
set_option maxRecDepth 30000 in
theorem cd_X5_takeLine : Cond.code yX5_takeLine cX5_takeLine 1 none ∈ TW := mTW 489 rfl rfl
theorem sr_parish : Cond.stringRef RX5 46 "parish" ∈ lw_tbl := mTB 490 (by decide +kernel)
theorem ml_X5_48 : Cond.methodLink RX5 48 yX5_isWord ∈ TW := mTW 491 (by decide +kernel) rfl
theorem im_X5_isWord : Cond.instanceMethod yX5_isWord ∈ TW := mTW 493 (by decide +kernel) rfl
set_option maxRecDepth 30000 in
theorem cd_X5_isWord : Cond.code yX5_isWord cX5_isWord 3 (some .boolean) ∈ TW := mTW 494 rfl rfl
theorem ml_X5_157 : Cond.methodLink RX5 157 yJ0_length_8abf5 ∈ TW := mTW 495 (by decide +kernel) rfl
theorem im_J0_length_8abf5 : Cond.instanceMethod yJ0_length_8abf5 ∈ TW := mTW 496 (by decide +kernel) rfl
theorem se_J0_length_8abf5 : Cond.selects RJ0 yJ0_length_8abf5 yJ0_length_8abf5 ∈ TW := mTW 497 (by decide +kernel) rfl
set_option maxRecDepth 30000 in
theorem cd_J0_length_8abf5 : Cond.code yJ0_length_8abf5 cJ0_length_8abf5 1 (some .int) ∈ TW := mTW 498 rfl rfl
theorem ml_J0_335 : Cond.methodLink RJ0 335 yJ0_coder_7d493 ∈ TW := mTW 499 (by decide +kernel) rfl
theorem im_J0_coder_7d493 : Cond.instanceMethod yJ0_coder_7d493 ∈ TW := mTW 500 (by decide +kernel) rfl
theorem se_J0_coder_7d493 : Cond.selects RJ0 yJ0_coder_7d493 yJ0_coder_7d493 ∈ TW := mTW 501 (by decide +kernel) rfl
set_option maxRecDepth 30000 in
theorem cd_J0_coder_7d493 : Cond.code yJ0_coder_7d493 cJ0_coder_7d493 1 (some .byte) ∈ TW := mTW 502 rfl rfl
theorem fl_J0_38 : Cond.fieldLink RJ0 38 "java/lang/String" "COMPACT_STRINGS" "Z" ∈ TW := mTW 503 (by decide +kernel) rfl
theorem ls_COMPACT_STRINGS : Cond.laysStatic RJ0 "COMPACT_STRINGS" "Z" ∈ lw_tbl := mTB 504 (by decide +kernel)
theorem ml_X5_162 : Cond.methodLink RX5 162 yJ0_charAt_5068e ∈ TW := mTW 505 (by decide +kernel) rfl
theorem im_J0_charAt_5068e : Cond.instanceMethod yJ0_charAt_5068e ∈ TW := mTW 506 (by decide +kernel) rfl
theorem se_J0_charAt_5068e : Cond.selects RJ0 yJ0_charAt_5068e yJ0_charAt_5068e ∈ TW := mTW 507 (by decide +kernel) rfl
set_option maxRecDepth 30000 in
theorem cd_J0_charAt_5068e : Cond.code yJ0_charAt_5068e cJ0_charAt_5068e 2 (some .char) ∈ TW := mTW 508 rfl rfl
theorem ml_J0_492 : Cond.methodLink RJ0 492 yJ0_isLatin1_aae02 ∈ TW := mTW 509 (by decide +kernel) rfl
theorem im_J0_isLatin1_aae02 : Cond.instanceMethod yJ0_isLatin1_aae02 ∈ TW := mTW 510 (by decide +kernel) rfl
theorem se_J0_isLatin1_aae02 : Cond.selects RJ0 yJ0_isLatin1_aae02 yJ0_isLatin1_aae02 ∈ TW := mTW 511 (by decide +kernel) rfl
set_option maxRecDepth 30000 in
theorem cd_J0_isLatin1_aae02 : Cond.code yJ0_isLatin1_aae02 cJ0_isLatin1_aae02 1 (some .boolean) ∈ TW := mTW 512 rfl rfl
theorem ml_J0_495 : Cond.methodLink RJ0 495 yJ1_charAt_3b067 ∈ TW := mTW 513 (by decide +kernel) rfl
theorem st_J1_charAt_3b067 : Cond.static yJ1_charAt_3b067 ∈ TW := mTW 514 (by decide +kernel) rfl
set_option maxRecDepth 30000 in
theorem cd_J1_charAt_3b067 : Cond.code yJ1_charAt_3b067 cJ1_charAt_3b067 2 (some .char) ∈ TW := mTW 515 rfl rfl
theorem ml_J1_9 : Cond.methodLink RJ1 9 yJ0_checkIndex_df160 ∈ TW := mTW 516 (by decide +kernel) rfl
theorem st_J0_checkIndex_df160 : Cond.static yJ0_checkIndex_df160 ∈ TW := mTW 517 (by decide +kernel) rfl
set_option maxRecDepth 30000 in
theorem cd_J0_checkIndex_df160 : Cond.code yJ0_checkIndex_df160 cJ0_checkIndex_df160 2 none ∈ TW := mTW 518 rfl rfl
theorem fl_J0_1053 : Cond.fieldLink RJ0 1053 "jdk/internal/util/Preconditions" "SIOOBE_FORMATTER" "Ljava/util/function/BiFunction;" ∈ TW := mTW 519 (by decide +kernel) rfl
theorem ls_SIOOBE_FORMATTER : Cond.laysStatic RJ3 "SIOOBE_FORMATTER" "Ljava/util/function/BiFunction;" ∈ lw_tbl := mTB 520 (by decide +kernel)
theorem ml_J0_1059 : Cond.methodLink RJ0 1059 yJ3_checkIndex_8e157 ∈ TW := mTW 521 (by decide +kernel) rfl
theorem st_J3_checkIndex_8e157 : Cond.static yJ3_checkIndex_8e157 ∈ TW := mTW 522 (by decide +kernel) rfl
set_option maxRecDepth 30000 in
theorem cd_J3_checkIndex_8e157 : Cond.code yJ3_checkIndex_8e157 cJ3_checkIndex_8e157 3 (some .int) ∈ TW := mTW 523 rfl rfl
theorem ml_J0_498 : Cond.methodLink RJ0 498 yJ2_charAt_3b067 ∈ TW := mTW 524 (by decide +kernel) rfl
theorem st_J2_charAt_3b067 : Cond.static yJ2_charAt_3b067 ∈ TW := mTW 525 (by decide +kernel) rfl
set_option maxRecDepth 30000 in
theorem cd_J2_charAt_3b067 : Cond.code yJ2_charAt_3b067 cJ2_charAt_3b067 2 (some .char) ∈ TW := mTW 526 rfl rfl
theorem ml_J2_67 : Cond.methodLink RJ2 67 yJ2_checkIndex_2214a ∈ TW := mTW 527 (by decide +kernel) rfl
theorem st_J2_checkIndex_2214a : Cond.static yJ2_checkIndex_2214a ∈ TW := mTW 528 (by decide +kernel) rfl
set_option maxRecDepth 30000 in
theorem cd_J2_checkIndex_2214a : Cond.code yJ2_checkIndex_2214a cJ2_checkIndex_2214a 2 none ∈ TW := mTW 529 rfl rfl
theorem ml_J2_48 : Cond.methodLink RJ2 48 yJ2_length_9d52b ∈ TW := mTW 530 (by decide +kernel) rfl
theorem st_J2_length_9d52b : Cond.static yJ2_length_9d52b ∈ TW := mTW 531 (by decide +kernel) rfl
set_option maxRecDepth 30000 in
theorem cd_J2_length_9d52b : Cond.code yJ2_length_9d52b cJ2_length_9d52b 1 (some .int) ∈ TW := mTW 532 rfl rfl
theorem ml_J2_414 : Cond.methodLink RJ2 414 yJ0_checkIndex_df160 ∈ TW := mTW 533 (by decide +kernel) rfl
theorem ml_J2_71 : Cond.methodLink RJ2 71 yJ2_getChar_3b067 ∈ TW := mTW 534 (by decide +kernel) rfl
theorem st_J2_getChar_3b067 : Cond.static yJ2_getChar_3b067 ∈ TW := mTW 535 (by decide +kernel) rfl
set_option maxRecDepth 30000 in
theorem cd_J2_getChar_3b067 : Cond.code yJ2_getChar_3b067 cJ2_getChar_3b067 2 (some .char) ∈ TW := mTW 536 rfl rfl
theorem fl_J2_44 : Cond.fieldLink RJ2 44 "java/lang/StringUTF16" "$assertionsDisabled" "Z" ∈ TW := mTW 537 (by decide +kernel) rfl
theorem ls__assertionsDisabled : Cond.laysStatic RJ2 "$assertionsDisabled" "Z" ∈ lw_tbl := mTB 538 (by decide +kernel)
theorem fl_J2_59 : Cond.fieldLink RJ2 59 "java/lang/StringUTF16" "HI_BYTE_SHIFT" "I" ∈ TW := mTW 539 (by decide +kernel) rfl
theorem ls_HI_BYTE_SHIFT : Cond.laysStatic RJ2 "HI_BYTE_SHIFT" "I" ∈ lw_tbl := mTB 540 (by decide +kernel)
theorem fl_J2_63 : Cond.fieldLink RJ2 63 "java/lang/StringUTF16" "LO_BYTE_SHIFT" "I" ∈ TW := mTW 541 (by decide +kernel) rfl
theorem ls_LO_BYTE_SHIFT : Cond.laysStatic RJ2 "LO_BYTE_SHIFT" "I" ∈ lw_tbl := mTB 542 (by decide +kernel)
theorem ml_X5_52 : Cond.methodLink RX5 52 yX5_takeParish ∈ TW := mTW 543 (by decide +kernel) rfl
theorem im_X5_takeParish : Cond.instanceMethod yX5_takeParish ∈ TW := mTW 545 (by decide +kernel) rfl
set_option maxRecDepth 30000 in
theorem cd_X5_takeParish : Cond.code yX5_takeParish cX5_takeParish 2 none ∈ TW := mTW 546 rfl rfl
theorem ml_X5_71 : Cond.methodLink RX5 71 yX5_takeNumber ∈ TW := mTW 547 (by decide +kernel) rfl
theorem im_X5_takeNumber : Cond.instanceMethod yX5_takeNumber ∈ TW := mTW 549 (by decide +kernel) rfl
set_option maxRecDepth 30000 in
theorem cd_X5_takeNumber : Cond.code yX5_takeNumber cX5_takeNumber 4 (some .int) ∈ TW := mTW 550 rfl rfl
theorem mn_X5_134 : Cond.methodLinkNest RX5 134 yX10_within RX10 ∈ lw_tbl := mTB 551 (by decide +kernel)
theorem sr_town : Cond.stringRef RX5 105 "town" ∈ lw_tbl := mTB 552 (by decide +kernel)
theorem ml_X5_107 : Cond.methodLink RX5 107 yX5_takeWord ∈ TW := mTW 553 (by decide +kernel) rfl
theorem im_X5_takeWord : Cond.instanceMethod yX5_takeWord ∈ TW := mTW 555 (by decide +kernel) rfl
set_option maxRecDepth 30000 in
theorem cd_X5_takeWord : Cond.code yX5_takeWord cX5_takeWord 2 (some .boolean) ∈ TW := mTW 556 rfl rfl
theorem sr_mill : Cond.stringRef RX5 110 "mill" ∈ lw_tbl := mTB 557 (by decide +kernel)
theorem sr_school : Cond.stringRef RX5 112 "school" ∈ lw_tbl := mTB 558 (by decide +kernel)
theorem sr_clerk : Cond.stringRef RX5 55 "clerk" ∈ lw_tbl := mTB 559 (by decide +kernel)
theorem ml_X5_57 : Cond.methodLink RX5 57 yX5_takeClerk ∈ TW := mTW 560 (by decide +kernel) rfl
theorem im_X5_takeClerk : Cond.instanceMethod yX5_takeClerk ∈ TW := mTW 562 (by decide +kernel) rfl
set_option maxRecDepth 30000 in
theorem cd_X5_takeClerk : Cond.code yX5_takeClerk cX5_takeClerk 2 none ∈ TW := mTW 563 rfl rfl
theorem sr_tried : Cond.stringRef RX5 60 "tried" ∈ lw_tbl := mTB 564 (by decide +kernel)
theorem ml_X5_62 : Cond.methodLink RX5 62 yX5_takeTried ∈ TW := mTW 565 (by decide +kernel) rfl
theorem im_X5_takeTried : Cond.instanceMethod yX5_takeTried ∈ TW := mTW 567 (by decide +kernel) rfl
set_option maxRecDepth 30000 in
theorem cd_X5_takeTried : Cond.code yX5_takeTried cX5_takeTried 2 none ∈ TW := mTW 568 rfl rfl
theorem sr_name : Cond.stringRef RX5 119 "name" ∈ lw_tbl := mTB 569 (by decide +kernel)
theorem sr_cross : Cond.stringRef RX5 121 "cross" ∈ lw_tbl := mTB 570 (by decide +kernel)
theorem ml_X5_67 : Cond.methodLink RX5 67 yX5_takeOnce ∈ TW := mTW 571 (by decide +kernel) rfl
theorem im_X5_takeOnce : Cond.instanceMethod yX5_takeOnce ∈ TW := mTW 573 (by decide +kernel) rfl
set_option maxRecDepth 30000 in
theorem cd_X5_takeOnce : Cond.code yX5_takeOnce cX5_takeOnce 2 none ∈ TW := mTW 574 rfl rfl
theorem ml_X5_126 : Cond.methodLink RX5 126 yJ9_max_7cf53 ∈ TW := mTW 575 (by decide +kernel) rfl
theorem st_J9_max_7cf53 : Cond.static yJ9_max_7cf53 ∈ TW := mTW 576 (by decide +kernel) rfl
set_option maxRecDepth 30000 in
theorem cd_J9_max_7cf53 : Cond.code yJ9_max_7cf53 cJ9_max_7cf53 2 (some .int) ∈ TW := mTW 577 rfl rfl
theorem sr_learn : Cond.stringRef RX5 65 "learn" ∈ lw_tbl := mTB 578 (by decide +kernel)
theorem sr_ages : Cond.stringRef RX5 77 "ages" ∈ lw_tbl := mTB 579 (by decide +kernel)
theorem sr_never : Cond.stringRef RX5 85 "never" ∈ lw_tbl := mTB 580 (by decide +kernel)
theorem sr_picture : Cond.stringRef RX5 89 "picture" ∈ lw_tbl := mTB 581 (by decide +kernel)
theorem ml_X5_96 : Cond.methodLink RX5 96 yX5_takeStop ∈ TW := mTW 582 (by decide +kernel) rfl
theorem im_X5_takeStop : Cond.instanceMethod yX5_takeStop ∈ TW := mTW 584 (by decide +kernel) rfl
set_option maxRecDepth 30000 in
theorem cd_X5_takeStop : Cond.code yX5_takeStop cX5_takeStop 1 none ∈ TW := mTW 585 rfl rfl
theorem ml_X10_122 : Cond.methodLink RX10 122 yX10_takeDraft ∈ TW := mTW 586 (by decide +kernel) rfl
theorem im_X10_takeDraft : Cond.instanceMethod yX10_takeDraft ∈ TW := mTW 588 (by decide +kernel) rfl
set_option maxRecDepth 30000 in
theorem cd_X10_takeDraft : Cond.code yX10_takeDraft cX10_takeDraft 2 none ∈ TW := mTW 589 rfl rfl
theorem ml_X10_273 : Cond.methodLink RX10 273 yX4_allParishes ∈ TW := mTW 590 (by decide +kernel) rfl
theorem im_X4_allParishes : Cond.instanceMethod yX4_allParishes ∈ TW := mTW 591 (by decide +kernel) rfl
theorem se_X4_allParishes : Cond.selects RX4 yX4_allParishes yX4_allParishes ∈ TW := mTW 592 (by decide +kernel) rfl
set_option maxRecDepth 30000 in
theorem cd_X4_allParishes : Cond.code yX4_allParishes cX4_allParishes 1 (some .int) ∈ TW := mTW 593 rfl rfl
theorem ml_X10_403 : Cond.methodLink RX10 403 yX1_becomeAll ∈ TW := mTW 594 (by decide +kernel) rfl
theorem ml_L_30 : Cond.methodLink RL 30 yX10_fault ∈ TW := mTW 595 (by decide +kernel) rfl
theorem im_X10_fault : Cond.instanceMethod yX10_fault ∈ TW := mTW 596 (by decide +kernel) rfl
theorem se_X10_fault : Cond.selects RX10 yX10_fault yX10_fault ∈ TW := mTW 597 (by decide +kernel) rfl
set_option maxRecDepth 30000 in
theorem cd_X10_fault : Cond.code yX10_fault cX10_fault 1 (some .int) ∈ TW := mTW 598 rfl rfl
theorem ml_L_34 : Cond.methodLink RL 34 yX10_told ∈ TW := mTW 599 (by decide +kernel) rfl
theorem im_X10_told : Cond.instanceMethod yX10_told ∈ TW := mTW 600 (by decide +kernel) rfl
theorem se_X10_told : Cond.selects RX10 yX10_told yX10_told ∈ TW := mTW 601 (by decide +kernel) rfl
set_option maxRecDepth 30000 in
theorem cd_X10_told : Cond.code yX10_told cX10_told 2 (some .int) ∈ TW := mTW 602 rfl rfl
theorem ml_L_38 : Cond.methodLink RL 38 yX10_parish ∈ TW := mTW 603 (by decide +kernel) rfl
theorem im_X10_parish : Cond.instanceMethod yX10_parish ∈ TW := mTW 604 (by decide +kernel) rfl
theorem se_X10_parish : Cond.selects RX10 yX10_parish yX10_parish ∈ TW := mTW 605 (by decide +kernel) rfl
set_option maxRecDepth 30000 in
theorem cd_X10_parish : Cond.code yX10_parish cX10_parish 3 (some .int) ∈ TW := mTW 606 rfl rfl
theorem ml_X10_149 : Cond.methodLink RX10 149 yX10_isParish ∈ TW := mTW 607 (by decide +kernel) rfl
theorem im_X10_isParish : Cond.instanceMethod yX10_isParish ∈ TW := mTW 609 (by decide +kernel) rfl
set_option maxRecDepth 30000 in
theorem cd_X10_isParish : Cond.code yX10_isParish cX10_isParish 2 (some .boolean) ∈ TW := mTW 610 rfl rfl
theorem ml_X10_153 : Cond.methodLink RX10 153 yX0_marriagesIn ∈ TW := mTW 611 (by decide +kernel) rfl
theorem im_X0_marriagesIn : Cond.instanceMethod yX0_marriagesIn ∈ TW := mTW 612 (by decide +kernel) rfl
theorem se_X0_marriagesIn : Cond.selects RX0 yX0_marriagesIn yX0_marriagesIn ∈ TW := mTW 613 (by decide +kernel) rfl
set_option maxRecDepth 30000 in
theorem cd_X0_marriagesIn : Cond.code yX0_marriagesIn cX0_marriagesIn 4 (some .int) ∈ TW := mTW 614 rfl rfl
theorem ml_L_43 : Cond.methodLink RL 43 yX10_clerk ∈ TW := mTW 615 (by decide +kernel) rfl
theorem im_X10_clerk : Cond.instanceMethod yX10_clerk ∈ TW := mTW 616 (by decide +kernel) rfl
theorem se_X10_clerk : Cond.selects RX10 yX10_clerk yX10_clerk ∈ TW := mTW 617 (by decide +kernel) rfl
set_option maxRecDepth 30000 in
theorem cd_X10_clerk : Cond.code yX10_clerk cX10_clerk 3 (some .int) ∈ TW := mTW 618 rfl rfl
theorem ml_X10_163 : Cond.methodLink RX10 163 yX3_renew ∈ TW := mTW 619 (by decide +kernel) rfl
theorem im_X3_renew : Cond.instanceMethod yX3_renew ∈ TW := mTW 620 (by decide +kernel) rfl
theorem se_X3_renew : Cond.selects RX3 yX3_renew yX3_renew ∈ TW := mTW 621 (by decide +kernel) rfl
set_option maxRecDepth 30000 in
theorem cd_X3_renew : Cond.code yX3_renew cX3_renew 4 none ∈ TW := mTW 622 rfl rfl
theorem ml_X3_30 : Cond.methodLink RX3 30 yX0_marks ∈ TW := mTW 623 (by decide +kernel) rfl
theorem im_X0_marks : Cond.instanceMethod yX0_marks ∈ TW := mTW 624 (by decide +kernel) rfl
theorem se_X0_marks : Cond.selects RX0 yX0_marks yX0_marks ∈ TW := mTW 625 (by decide +kernel) rfl
set_option maxRecDepth 30000 in
theorem cd_X0_marks : Cond.code yX0_marks cX0_marks 1 (some .int) ∈ TW := mTW 626 rfl rfl
theorem ml_X3_36 : Cond.methodLink RX3 36 yX3_firstWriter ∈ TW := mTW 627 (by decide +kernel) rfl
theorem im_X3_firstWriter : Cond.instanceMethod yX3_firstWriter ∈ TW := mTW 629 (by decide +kernel) rfl
set_option maxRecDepth 30000 in
theorem cd_X3_firstWriter : Cond.code yX3_firstWriter cX3_firstWriter 4 (some .int) ∈ TW := mTW 630 rfl rfl
theorem ml_X3_60 : Cond.methodLink RX3 60 yX0_yearOf ∈ TW := mTW 631 (by decide +kernel) rfl
theorem im_X0_yearOf : Cond.instanceMethod yX0_yearOf ∈ TW := mTW 632 (by decide +kernel) rfl
theorem se_X0_yearOf : Cond.selects RX0 yX0_yearOf yX0_yearOf ∈ TW := mTW 633 (by decide +kernel) rfl
set_option maxRecDepth 30000 in
theorem cd_X0_yearOf : Cond.code yX0_yearOf cX0_yearOf 2 (some .int) ∈ TW := mTW 634 rfl rfl
theorem ml_X3_63 : Cond.methodLink RX3 63 yX4_writes ∈ TW := mTW 635 (by decide +kernel) rfl
theorem im_X4_writes : Cond.instanceMethod yX4_writes ∈ TW := mTW 636 (by decide +kernel) rfl
theorem se_X4_writes : Cond.selects RX4 yX4_writes yX4_writes ∈ TW := mTW 637 (by decide +kernel) rfl
set_option maxRecDepth 30000 in
theorem cd_X4_writes : Cond.code yX4_writes cX4_writes 5 (some .boolean) ∈ TW := mTW 638 rfl rfl
theorem mn_X4_52 : Cond.methodLinkNest RX4 52 yX10_within RX10 ∈ lw_tbl := mTB 639 (by decide +kernel)
theorem mn_X4_56 : Cond.methodLinkNest RX4 56 yX10_bitsApart RX10 ∈ lw_tbl := mTB 640 (by decide +kernel)
theorem st_X10_bitsApart : Cond.static yX10_bitsApart ∈ TW := mTW 641 (by decide +kernel) rfl
set_option maxRecDepth 30000 in
theorem cd_X10_bitsApart : Cond.code yX10_bitsApart cX10_bitsApart 2 (some .int) ∈ TW := mTW 642 rfl rfl
theorem ml_X10_398 : Cond.methodLink RX10 398 yJ6_bitCount_0f7a4 ∈ TW := mTW 643 (by decide +kernel) rfl
theorem st_J6_bitCount_0f7a4 : Cond.static yJ6_bitCount_0f7a4 ∈ TW := mTW 644 (by decide +kernel) rfl
set_option maxRecDepth 30000 in
theorem cd_J6_bitCount_0f7a4 : Cond.code yJ6_bitCount_0f7a4 cJ6_bitCount_0f7a4 1 (some .int) ∈ TW := mTW 645 rfl rfl
theorem kc_J6_265 : Cond.constant RJ6 265 (1431655765) ∈ TW := mTW 646 (by decide +kernel) rfl
theorem kc_J6_266 : Cond.constant RJ6 266 (858993459) ∈ TW := mTW 647 (by decide +kernel) rfl
theorem kc_J6_267 : Cond.constant RJ6 267 (252645135) ∈ TW := mTW 648 (by decide +kernel) rfl
theorem ml_X3_44 : Cond.methodLink RX3 44 yX3_kindOfName ∈ TW := mTW 649 (by decide +kernel) rfl
theorem im_X3_kindOfName : Cond.instanceMethod yX3_kindOfName ∈ TW := mTW 651 (by decide +kernel) rfl
set_option maxRecDepth 30000 in
theorem cd_X3_kindOfName : Cond.code yX3_kindOfName cX3_kindOfName 2 (some .int) ∈ TW := mTW 652 rfl rfl
theorem ml_X3_67 : Cond.methodLink RX3 67 yX3_isDrawn ∈ TW := mTW 653 (by decide +kernel) rfl
theorem im_X3_isDrawn : Cond.instanceMethod yX3_isDrawn ∈ TW := mTW 655 (by decide +kernel) rfl
set_option maxRecDepth 30000 in
theorem cd_X3_isDrawn : Cond.code yX3_isDrawn cX3_isDrawn 5 (some .boolean) ∈ TW := mTW 656 rfl rfl
theorem ml_X3_70 : Cond.methodLink RX3 70 yX0_isOf ∈ TW := mTW 657 (by decide +kernel) rfl
theorem im_X0_isOf : Cond.instanceMethod yX0_isOf ∈ TW := mTW 658 (by decide +kernel) rfl
theorem se_X0_isOf : Cond.selects RX0 yX0_isOf yX0_isOf ∈ TW := mTW 659 (by decide +kernel) rfl
set_option maxRecDepth 30000 in
theorem cd_X0_isOf : Cond.code yX0_isOf cX0_isOf 4 (some .boolean) ∈ TW := mTW 660 rfl rfl
theorem mn_X3_74 : Cond.methodLinkNest RX3 74 yX10_bitsApart RX10 ∈ lw_tbl := mTB 661 (by decide +kernel)
theorem ml_X3_47 : Cond.methodLink RX3 47 yX3_wasNamedBefore ∈ TW := mTW 662 (by decide +kernel) rfl
theorem im_X3_wasNamedBefore : Cond.instanceMethod yX3_wasNamedBefore ∈ TW := mTW 664 (by decide +kernel) rfl
set_option maxRecDepth 30000 in
theorem cd_X3_wasNamedBefore : Cond.code yX3_wasNamedBefore cX3_wasNamedBefore 4 (some .boolean) ∈ TW := mTW 665 rfl rfl
theorem ml_X10_167 : Cond.methodLink RX10 167 yX0_marks ∈ TW := mTW 666 (by decide +kernel) rfl
theorem ml_X10_171 : Cond.methodLink RX10 171 yX3_writtenBy ∈ TW := mTW 667 (by decide +kernel) rfl
theorem im_X3_writtenBy : Cond.instanceMethod yX3_writtenBy ∈ TW := mTW 668 (by decide +kernel) rfl
theorem se_X3_writtenBy : Cond.selects RX3 yX3_writtenBy yX3_writtenBy ∈ TW := mTW 669 (by decide +kernel) rfl
set_option maxRecDepth 30000 in
theorem cd_X3_writtenBy : Cond.code yX3_writtenBy cX3_writtenBy 5 (some .int) ∈ TW := mTW 670 rfl rfl
theorem ml_L_47 : Cond.methodLink RL 47 yX10_marry ∈ TW := mTW 671 (by decide +kernel) rfl
theorem im_X10_marry : Cond.instanceMethod yX10_marry ∈ TW := mTW 672 (by decide +kernel) rfl
theorem se_X10_marry : Cond.selects RX10 yX10_marry yX10_marry ∈ TW := mTW 673 (by decide +kernel) rfl
set_option maxRecDepth 30000 in
theorem cd_X10_marry : Cond.code yX10_marry cX10_marry 6 (some .int) ∈ TW := mTW 674 rfl rfl
theorem ml_X10_175 : Cond.methodLink RX10 175 yX10_isMarriage ∈ TW := mTW 675 (by decide +kernel) rfl
theorem im_X10_isMarriage : Cond.instanceMethod yX10_isMarriage ∈ TW := mTW 677 (by decide +kernel) rfl
set_option maxRecDepth 30000 in
theorem cd_X10_isMarriage : Cond.code yX10_isMarriage cX10_isMarriage 6 (some .boolean) ∈ TW := mTW 678 rfl rfl
theorem ml_X10_186 : Cond.methodLink RX10 186 yX0_append ∈ TW := mTW 679 (by decide +kernel) rfl
theorem im_X0_append : Cond.instanceMethod yX0_append ∈ TW := mTW 680 (by decide +kernel) rfl
theorem se_X0_append : Cond.selects RX0 yX0_append yX0_append ∈ TW := mTW 681 (by decide +kernel) rfl
set_option maxRecDepth 30000 in
theorem cd_X0_append : Cond.code yX0_append cX0_append 7 (some .int) ∈ TW := mTW 682 rfl rfl
theorem ml_X0_23 : Cond.methodLink RX0 23 yX0_startSide ∈ TW := mTW 683 (by decide +kernel) rfl
theorem im_X0_startSide : Cond.instanceMethod yX0_startSide ∈ TW := mTW 685 (by decide +kernel) rfl
set_option maxRecDepth 30000 in
theorem cd_X0_startSide : Cond.code yX0_startSide cX0_startSide 3 none ∈ TW := mTW 686 rfl rfl
theorem ml_L_52 : Cond.methodLink RL 52 yX10_set ∈ TW := mTW 687 (by decide +kernel) rfl
theorem im_X10_set : Cond.instanceMethod yX10_set ∈ TW := mTW 688 (by decide +kernel) rfl
theorem se_X10_set : Cond.selects RX10 yX10_set yX10_set ∈ TW := mTW 689 (by decide +kernel) rfl
set_option maxRecDepth 30000 in
theorem cd_X10_set : Cond.code yX10_set cX10_set 7 (some .int) ∈ TW := mTW 690 rfl rfl
theorem ml_X10_189 : Cond.methodLink RX10 189 yX10_isMark ∈ TW := mTW 691 (by decide +kernel) rfl
theorem im_X10_isMark : Cond.instanceMethod yX10_isMark ∈ TW := mTW 693 (by decide +kernel) rfl
set_option maxRecDepth 30000 in
theorem cd_X10_isMark : Cond.code yX10_isMark cX10_isMark 3 (some .boolean) ∈ TW := mTW 694 rfl rfl
theorem ml_X10_199 : Cond.methodLink RX10 199 yX10_isInBooks ∈ TW := mTW 695 (by decide +kernel) rfl
theorem im_X10_isInBooks : Cond.instanceMethod yX10_isInBooks ∈ TW := mTW 697 (by decide +kernel) rfl
set_option maxRecDepth 30000 in
theorem cd_X10_isInBooks : Cond.code yX10_isInBooks cX10_isInBooks 2 (some .boolean) ∈ TW := mTW 698 rfl rfl
theorem ml_X10_193 : Cond.methodLink RX10 193 yX10_mayBe ∈ TW := mTW 699 (by decide +kernel) rfl
theorem st_X10_mayBe : Cond.static yX10_mayBe ∈ TW := mTW 700 (by decide +kernel) rfl
set_option maxRecDepth 30000 in
theorem cd_X10_mayBe : Cond.code yX10_mayBe cX10_mayBe 2 (some .boolean) ∈ TW := mTW 701 rfl rfl
theorem ml_L_57 : Cond.methodLink RL 57 yX10_of ∈ TW := mTW 702 (by decide +kernel) rfl
theorem im_X10_of : Cond.instanceMethod yX10_of ∈ TW := mTW 703 (by decide +kernel) rfl
theorem se_X10_of : Cond.selects RX10 yX10_of yX10_of ∈ TW := mTW 704 (by decide +kernel) rfl
set_option maxRecDepth 30000 in
theorem cd_X10_of : Cond.code yX10_of cX10_of 3 (some .int) ∈ TW := mTW 705 rfl rfl
theorem ml_L_61 : Cond.methodLink RL 61 yX10_has ∈ TW := mTW 706 (by decide +kernel) rfl
theorem im_X10_has : Cond.instanceMethod yX10_has ∈ TW := mTW 707 (by decide +kernel) rfl
theorem se_X10_has : Cond.selects RX10 yX10_has yX10_has ∈ TW := mTW 708 (by decide +kernel) rfl
set_option maxRecDepth 30000 in
theorem cd_X10_has : Cond.code yX10_has cX10_has 4 (some .int) ∈ TW := mTW 709 rfl rfl
theorem ml_L_66 : Cond.methodLink RL 66 yX10_kind ∈ TW := mTW 710 (by decide +kernel) rfl
theorem im_X10_kind : Cond.instanceMethod yX10_kind ∈ TW := mTW 711 (by decide +kernel) rfl
theorem se_X10_kind : Cond.selects RX10 yX10_kind yX10_kind ∈ TW := mTW 712 (by decide +kernel) rfl
set_option maxRecDepth 30000 in
theorem cd_X10_kind : Cond.code yX10_kind cX10_kind 3 (some .int) ∈ TW := mTW 713 rfl rfl
theorem ml_L_70 : Cond.methodLink RL 70 yX10_writer ∈ TW := mTW 714 (by decide +kernel) rfl
theorem im_X10_writer : Cond.instanceMethod yX10_writer ∈ TW := mTW 715 (by decide +kernel) rfl
theorem se_X10_writer : Cond.selects RX10 yX10_writer yX10_writer ∈ TW := mTW 716 (by decide +kernel) rfl
set_option maxRecDepth 30000 in
theorem cd_X10_writer : Cond.code yX10_writer cX10_writer 3 (some .int) ∈ TW := mTW 717 rfl rfl
theorem ml_L_74 : Cond.methodLink RL 74 yX10_apart ∈ TW := mTW 718 (by decide +kernel) rfl
theorem im_X10_apart : Cond.instanceMethod yX10_apart ∈ TW := mTW 719 (by decide +kernel) rfl
theorem se_X10_apart : Cond.selects RX10 yX10_apart yX10_apart ∈ TW := mTW 720 (by decide +kernel) rfl
set_option maxRecDepth 30000 in
theorem cd_X10_apart : Cond.code yX10_apart cX10_apart 3 (some .int) ∈ TW := mTW 721 rfl rfl
theorem ml_X10_211 : Cond.methodLink RX10 211 yX10_bitsApart ∈ TW := mTW 722 (by decide +kernel) rfl
theorem ml_L_78 : Cond.methodLink RL 78 yX10_tear ∈ TW := mTW 723 (by decide +kernel) rfl
theorem im_X10_tear : Cond.instanceMethod yX10_tear ∈ TW := mTW 724 (by decide +kernel) rfl
theorem se_X10_tear : Cond.selects RX10 yX10_tear yX10_tear ∈ TW := mTW 725 (by decide +kernel) rfl
set_option maxRecDepth 30000 in
theorem cd_X10_tear : Cond.code yX10_tear cX10_tear 2 (some .int) ∈ TW := mTW 726 rfl rfl
theorem ml_X10_214 : Cond.methodLink RX10 214 yX0_drop ∈ TW := mTW 727 (by decide +kernel) rfl
theorem im_X0_drop : Cond.instanceMethod yX0_drop ∈ TW := mTW 728 (by decide +kernel) rfl
theorem se_X0_drop : Cond.selects RX0 yX0_drop yX0_drop ∈ TW := mTW 729 (by decide +kernel) rfl
set_option maxRecDepth 30000 in
theorem cd_X0_drop : Cond.code yX0_drop cX0_drop 4 none ∈ TW := mTW 730 rfl rfl
theorem ml_X0_27 : Cond.methodLink RX0 27 ⟨"java/lang/System", "arraycopy", "(Ljava/lang/Object;ILjava/lang/Object;II)V"⟩ ∈ TW := mTW 731 (by decide +kernel) rfl
theorem st_arraycopy : Cond.static ⟨"java/lang/System", "arraycopy", "(Ljava/lang/Object;ILjava/lang/Object;II)V"⟩ ∈ TW := mTW 732 (by decide +kernel) rfl
theorem nat_arraycopy : Cond.native ⟨"java/lang/System", "arraycopy", "(Ljava/lang/Object;ILjava/lang/Object;II)V"⟩ ∈ TW := mTW 733 (by decide +kernel) rfl
theorem ml_L_82 : Cond.methodLink RL 82 yX10_choose ∈ TW := mTW 734 (by decide +kernel) rfl
theorem im_X10_choose : Cond.instanceMethod yX10_choose ∈ TW := mTW 735 (by decide +kernel) rfl
theorem se_X10_choose : Cond.selects RX10 yX10_choose yX10_choose ∈ TW := mTW 736 (by decide +kernel) rfl
set_option maxRecDepth 30000 in
theorem cd_X10_choose : Cond.code yX10_choose cX10_choose 7 (some .int) ∈ TW := mTW 737 rfl rfl
theorem ml_X10_218 : Cond.methodLink RX10 218 yX10_isChoice ∈ TW := mTW 738 (by decide +kernel) rfl
theorem st_X10_isChoice : Cond.static yX10_isChoice ∈ TW := mTW 739 (by decide +kernel) rfl
set_option maxRecDepth 30000 in
theorem cd_X10_isChoice : Cond.code yX10_isChoice cX10_isChoice 1 (some .boolean) ∈ TW := mTW 740 rfl rfl
theorem ml_X10_221 : Cond.methodLink RX10 221 yX10_areParishes ∈ TW := mTW 741 (by decide +kernel) rfl
theorem im_X10_areParishes : Cond.instanceMethod yX10_areParishes ∈ TW := mTW 743 (by decide +kernel) rfl
set_option maxRecDepth 30000 in
theorem cd_X10_areParishes : Cond.code yX10_areParishes cX10_areParishes 2 (some .boolean) ∈ TW := mTW 744 rfl rfl
theorem ml_X10_224 : Cond.methodLink RX10 224 yX1_become ∈ TW := mTW 745 (by decide +kernel) rfl
theorem ml_X10_228 : Cond.methodLink RX10 228 yX10_howMany ∈ TW := mTW 746 (by decide +kernel) rfl
theorem im_X10_howMany : Cond.instanceMethod yX10_howMany ∈ TW := mTW 748 (by decide +kernel) rfl
set_option maxRecDepth 30000 in
theorem cd_X10_howMany : Cond.code yX10_howMany cX10_howMany 5 (some .int) ∈ TW := mTW 749 rfl rfl
theorem ml_X10_406 : Cond.methodLink RX10 406 yX1_takes ∈ TW := mTW 750 (by decide +kernel) rfl
theorem im_X1_takes : Cond.instanceMethod yX1_takes ∈ TW := mTW 751 (by decide +kernel) rfl
theorem se_X1_takes : Cond.selects RX1 yX1_takes yX1_takes ∈ TW := mTW 752 (by decide +kernel) rfl
set_option maxRecDepth 30000 in
theorem cd_X1_takes : Cond.code yX1_takes cX1_takes 4 (some .boolean) ∈ TW := mTW 753 rfl rfl
theorem mn_X1_41 : Cond.methodLinkNest RX1 41 yX10_hasBit RX10 ∈ lw_tbl := mTB 754 (by decide +kernel)
theorem st_X10_hasBit : Cond.static yX10_hasBit ∈ TW := mTW 755 (by decide +kernel) rfl
set_option maxRecDepth 30000 in
theorem cd_X10_hasBit : Cond.code yX10_hasBit cX10_hasBit 2 (some .boolean) ∈ TW := mTW 756 rfl rfl
theorem mn_X1_45 : Cond.methodLinkNest RX1 45 yX10_within RX10 ∈ lw_tbl := mTB 757 (by decide +kernel)
theorem ml_X10_410 : Cond.methodLink RX10 410 yX10_isOfSort ∈ TW := mTW 758 (by decide +kernel) rfl
theorem im_X10_isOfSort : Cond.instanceMethod yX10_isOfSort ∈ TW := mTW 760 (by decide +kernel) rfl
set_option maxRecDepth 30000 in
theorem cd_X10_isOfSort : Cond.code yX10_isOfSort cX10_isOfSort 3 (some .boolean) ∈ TW := mTW 761 rfl rfl
theorem ml_X10_413 : Cond.methodLink RX10 413 yX3_isAble ∈ TW := mTW 762 (by decide +kernel) rfl
theorem im_X3_isAble : Cond.instanceMethod yX3_isAble ∈ TW := mTW 763 (by decide +kernel) rfl
theorem se_X3_isAble : Cond.selects RX3 yX3_isAble yX3_isAble ∈ TW := mTW 764 (by decide +kernel) rfl
set_option maxRecDepth 30000 in
theorem cd_X3_isAble : Cond.code yX3_isAble cX3_isAble 2 (some .boolean) ∈ TW := mTW 765 rfl rfl
theorem ml_L_87 : Cond.methodLink RL 87 yX10_many ∈ TW := mTW 766 (by decide +kernel) rfl
theorem im_X10_many : Cond.instanceMethod yX10_many ∈ TW := mTW 767 (by decide +kernel) rfl
theorem se_X10_many : Cond.selects RX10 yX10_many yX10_many ∈ TW := mTW 768 (by decide +kernel) rfl
set_option maxRecDepth 30000 in
theorem cd_X10_many : Cond.code yX10_many cX10_many 3 (some .int) ∈ TW := mTW 769 rfl rfl
theorem ml_L_91 : Cond.methodLink RL 91 yX10_share ∈ TW := mTW 770 (by decide +kernel) rfl
theorem im_X10_share : Cond.instanceMethod yX10_share ∈ TW := mTW 771 (by decide +kernel) rfl
theorem se_X10_share : Cond.selects RX10 yX10_share yX10_share ∈ TW := mTW 772 (by decide +kernel) rfl
set_option maxRecDepth 30000 in
theorem cd_X10_share : Cond.code yX10_share cX10_share 3 (some .int) ∈ TW := mTW 773 rfl rfl
theorem ml_X10_231 : Cond.methodLink RX10 231 yX10_fractionOrNone ∈ TW := mTW 774 (by decide +kernel) rfl
theorem im_X10_fractionOrNone : Cond.instanceMethod yX10_fractionOrNone ∈ TW := mTW 776 (by decide +kernel) rfl
set_option maxRecDepth 30000 in
theorem cd_X10_fractionOrNone : Cond.code yX10_fractionOrNone cX10_fractionOrNone 4 (some .int) ∈ TW := mTW 777 rfl rfl
theorem ml_X10_281 : Cond.methodLink RX10 281 yX6_become ∈ TW := mTW 778 (by decide +kernel) rfl
theorem im_X6_become : Cond.instanceMethod yX6_become ∈ TW := mTW 779 (by decide +kernel) rfl
theorem se_X6_become : Cond.selects RX6 yX6_become yX6_become ∈ TW := mTW 780 (by decide +kernel) rfl
set_option maxRecDepth 30000 in
theorem cd_X6_become : Cond.code yX6_become cX6_become 7 none ∈ TW := mTW 781 rfl rfl
theorem ml_X6_16 : Cond.methodLink RX6 16 yJ9_abs_067f4 ∈ TW := mTW 782 (by decide +kernel) rfl
theorem st_J9_abs_067f4 : Cond.static yJ9_abs_067f4 ∈ TW := mTW 783 (by decide +kernel) rfl
set_option maxRecDepth 30000 in
theorem cd_J9_abs_067f4 : Cond.code yJ9_abs_067f4 cJ9_abs_067f4 2 (some .long) ∈ TW := mTW 784 rfl rfl
theorem ml_X6_22 : Cond.methodLink RX6 22 yX6_commonOf ∈ TW := mTW 785 (by decide +kernel) rfl
theorem st_X6_commonOf : Cond.static yX6_commonOf ∈ TW := mTW 786 (by decide +kernel) rfl
set_option maxRecDepth 30000 in
theorem cd_X6_commonOf : Cond.code yX6_commonOf cX6_commonOf 11 (some .long) ∈ TW := mTW 787 rfl rfl
theorem ml_X10_297 : Cond.methodLink RX10 297 yX6_part ∈ TW := mTW 788 (by decide +kernel) rfl
theorem im_X6_part : Cond.instanceMethod yX6_part ∈ TW := mTW 789 (by decide +kernel) rfl
theorem se_X6_part : Cond.selects RX6 yX6_part yX6_part ∈ TW := mTW 790 (by decide +kernel) rfl
set_option maxRecDepth 30000 in
theorem cd_X6_part : Cond.code yX6_part cX6_part 2 (some .long) ∈ TW := mTW 791 rfl rfl
theorem ml_L_95 : Cond.methodLink RL 95 yX10_best ∈ TW := mTW 792 (by decide +kernel) rfl
theorem im_X10_best : Cond.instanceMethod yX10_best ∈ TW := mTW 793 (by decide +kernel) rfl
theorem se_X10_best : Cond.selects RX10 yX10_best yX10_best ∈ TW := mTW 794 (by decide +kernel) rfl
set_option maxRecDepth 30000 in
theorem cd_X10_best : Cond.code yX10_best cX10_best 6 (some .int) ∈ TW := mTW 795 rfl rfl
theorem ml_X10_235 : Cond.methodLink RX10 235 yX10_tallyGroups ∈ TW := mTW 796 (by decide +kernel) rfl
theorem im_X10_tallyGroups : Cond.instanceMethod yX10_tallyGroups ∈ TW := mTW 798 (by decide +kernel) rfl
set_option maxRecDepth 30000 in
theorem cd_X10_tallyGroups : Cond.code yX10_tallyGroups cX10_tallyGroups 5 none ∈ TW := mTW 799 rfl rfl
theorem ml_X10_422 : Cond.methodLink RX10 422 yX8_clear ∈ TW := mTW 800 (by decide +kernel) rfl
theorem im_X8_clear : Cond.instanceMethod yX8_clear ∈ TW := mTW 801 (by decide +kernel) rfl
theorem se_X8_clear : Cond.selects RX8 yX8_clear yX8_clear ∈ TW := mTW 802 (by decide +kernel) rfl
set_option maxRecDepth 30000 in
theorem cd_X8_clear : Cond.code yX8_clear cX8_clear 2 none ∈ TW := mTW 803 rfl rfl
theorem ml_X10_424 : Cond.methodLink RX10 424 yX0_groupOf ∈ TW := mTW 804 (by decide +kernel) rfl
theorem im_X0_groupOf : Cond.instanceMethod yX0_groupOf ∈ TW := mTW 805 (by decide +kernel) rfl
theorem se_X0_groupOf : Cond.selects RX0 yX0_groupOf yX0_groupOf ∈ TW := mTW 806 (by decide +kernel) rfl
set_option maxRecDepth 30000 in
theorem cd_X0_groupOf : Cond.code yX0_groupOf cX0_groupOf 3 (some .int) ∈ TW := mTW 807 rfl rfl
theorem ml_X10_427 : Cond.methodLink RX10 427 yX8_add ∈ TW := mTW 808 (by decide +kernel) rfl
theorem im_X8_add : Cond.instanceMethod yX8_add ∈ TW := mTW 809 (by decide +kernel) rfl
theorem se_X8_add : Cond.selects RX8 yX8_add yX8_add ∈ TW := mTW 810 (by decide +kernel) rfl
set_option maxRecDepth 30000 in
theorem cd_X8_add : Cond.code yX8_add cX8_add 3 none ∈ TW := mTW 811 rfl rfl
theorem ml_X10_239 : Cond.methodLink RX10 239 yX8_greatestShare ∈ TW := mTW 812 (by decide +kernel) rfl
theorem im_X8_greatestShare : Cond.instanceMethod yX8_greatestShare ∈ TW := mTW 813 (by decide +kernel) rfl
theorem se_X8_greatestShare : Cond.selects RX8 yX8_greatestShare yX8_greatestShare ∈ TW := mTW 814 (by decide +kernel) rfl
set_option maxRecDepth 30000 in
theorem cd_X8_greatestShare : Cond.code yX8_greatestShare cX8_greatestShare 4 (some .int) ∈ TW := mTW 815 rfl rfl
theorem ml_L_99 : Cond.methodLink RL 99 yX10_pairs ∈ TW := mTW 816 (by decide +kernel) rfl
theorem im_X10_pairs : Cond.instanceMethod yX10_pairs ∈ TW := mTW 817 (by decide +kernel) rfl
theorem se_X10_pairs : Cond.selects RX10 yX10_pairs yX10_pairs ∈ TW := mTW 818 (by decide +kernel) rfl
set_option maxRecDepth 30000 in
theorem cd_X10_pairs : Cond.code yX10_pairs cX10_pairs 3 (some .int) ∈ TW := mTW 819 rfl rfl
theorem ml_X10_247 : Cond.methodLink RX10 247 yX10_howManyPairs ∈ TW := mTW 820 (by decide +kernel) rfl
theorem im_X10_howManyPairs : Cond.instanceMethod yX10_howManyPairs ∈ TW := mTW 822 (by decide +kernel) rfl
set_option maxRecDepth 30000 in
theorem cd_X10_howManyPairs : Cond.code yX10_howManyPairs cX10_howManyPairs 6 (some .int) ∈ TW := mTW 823 rfl rfl
theorem ml_L_103 : Cond.methodLink RL 103 yX10_spared ∈ TW := mTW 824 (by decide +kernel) rfl
theorem im_X10_spared : Cond.instanceMethod yX10_spared ∈ TW := mTW 825 (by decide +kernel) rfl
theorem se_X10_spared : Cond.selects RX10 yX10_spared yX10_spared ∈ TW := mTW 826 (by decide +kernel) rfl
set_option maxRecDepth 30000 in
theorem cd_X10_spared : Cond.code yX10_spared cX10_spared 8 (some .int) ∈ TW := mTW 827 rfl rfl
theorem ml_X10_250 : Cond.methodLink RX10 250 yJ9_max_7cf53 ∈ TW := mTW 828 (by decide +kernel) rfl
theorem ml_L_107 : Cond.methodLink RL 107 yX10_learnt ∈ TW := mTW 829 (by decide +kernel) rfl
theorem im_X10_learnt : Cond.instanceMethod yX10_learnt ∈ TW := mTW 830 (by decide +kernel) rfl
theorem se_X10_learnt : Cond.selects RX10 yX10_learnt yX10_learnt ∈ TW := mTW 831 (by decide +kernel) rfl
set_option maxRecDepth 30000 in
theorem cd_X10_learnt : Cond.code yX10_learnt cX10_learnt 5 (some .int) ∈ TW := mTW 832 rfl rfl
theorem ml_X10_255 : Cond.methodLink RX10 255 yX10_areLearntYears ∈ TW := mTW 833 (by decide +kernel) rfl
theorem st_X10_areLearntYears : Cond.static yX10_areLearntYears ∈ TW := mTW 834 (by decide +kernel) rfl
set_option maxRecDepth 30000 in
theorem cd_X10_areLearntYears : Cond.code yX10_areLearntYears cX10_areLearntYears 2 (some .boolean) ∈ TW := mTW 835 rfl rfl
theorem ml_X10_258 : Cond.methodLink RX10 258 yX10_howManyLearnt ∈ TW := mTW 836 (by decide +kernel) rfl
theorem im_X10_howManyLearnt : Cond.instanceMethod yX10_howManyLearnt ∈ TW := mTW 838 (by decide +kernel) rfl
set_option maxRecDepth 30000 in
theorem cd_X10_howManyLearnt : Cond.code yX10_howManyLearnt cX10_howManyLearnt 8 (some .int) ∈ TW := mTW 839 rfl rfl
theorem ml_X10_416 : Cond.methodLink RX10 416 yX10_howSurelyLearnt ∈ TW := mTW 840 (by decide +kernel) rfl
theorem im_X10_howSurelyLearnt : Cond.instanceMethod yX10_howSurelyLearnt ∈ TW := mTW 842 (by decide +kernel) rfl
set_option maxRecDepth 30000 in
theorem cd_X10_howSurelyLearnt : Cond.code yX10_howSurelyLearnt cX10_howSurelyLearnt 8 (some .int) ∈ TW := mTW 843 rfl rfl
theorem ml_X10_419 : Cond.methodLink RX10 419 yX0_yearOf ∈ TW := mTW 844 (by decide +kernel) rfl
theorem ml_L_111 : Cond.methodLink RL 111 yX10_bounds ∈ TW := mTW 845 (by decide +kernel) rfl
theorem im_X10_bounds : Cond.instanceMethod yX10_bounds ∈ TW := mTW 846 (by decide +kernel) rfl
theorem se_X10_bounds : Cond.selects RX10 yX10_bounds yX10_bounds ∈ TW := mTW 847 (by decide +kernel) rfl
set_option maxRecDepth 30000 in
theorem cd_X10_bounds : Cond.code yX10_bounds cX10_bounds 9 (some .int) ∈ TW := mTW 848 rfl rfl
theorem ml_L_115 : Cond.methodLink RL 115 yX10_tens ∈ TW := mTW 849 (by decide +kernel) rfl
theorem im_X10_tens : Cond.instanceMethod yX10_tens ∈ TW := mTW 850 (by decide +kernel) rfl
theorem se_X10_tens : Cond.selects RX10 yX10_tens yX10_tens ∈ TW := mTW 851 (by decide +kernel) rfl
set_option maxRecDepth 30000 in
theorem cd_X10_tens : Cond.code yX10_tens cX10_tens 4 (some .int) ∈ TW := mTW 852 rfl rfl
theorem ml_X10_262 : Cond.methodLink RX10 262 yX10_tallyTens ∈ TW := mTW 853 (by decide +kernel) rfl
theorem im_X10_tallyTens : Cond.instanceMethod yX10_tallyTens ∈ TW := mTW 855 (by decide +kernel) rfl
set_option maxRecDepth 30000 in
theorem cd_X10_tallyTens : Cond.code yX10_tallyTens cX10_tallyTens 5 none ∈ TW := mTW 856 rfl rfl
theorem ml_X10_265 : Cond.methodLink RX10 265 yX8_mostMarks ∈ TW := mTW 857 (by decide +kernel) rfl
theorem im_X8_mostMarks : Cond.instanceMethod yX8_mostMarks ∈ TW := mTW 858 (by decide +kernel) rfl
theorem se_X8_mostMarks : Cond.selects RX8 yX8_mostMarks yX8_mostMarks ∈ TW := mTW 859 (by decide +kernel) rfl
set_option maxRecDepth 30000 in
theorem cd_X8_mostMarks : Cond.code yX8_mostMarks cX8_mostMarks 3 (some .int) ∈ TW := mTW 860 rfl rfl
theorem ml_L_119 : Cond.methodLink RL 119 yX10_span ∈ TW := mTW 861 (by decide +kernel) rfl
theorem im_X10_span : Cond.instanceMethod yX10_span ∈ TW := mTW 862 (by decide +kernel) rfl
theorem se_X10_span : Cond.selects RX10 yX10_span yX10_span ∈ TW := mTW 863 (by decide +kernel) rfl
set_option maxRecDepth 30000 in
theorem cd_X10_span : Cond.code yX10_span cX10_span 5 (some .long) ∈ TW := mTW 864 rfl rfl
theorem kl_X10_268 : Cond.constantLong RX10 268 (-1) ∈ TW := mTW 865 (by decide +kernel) rfl
theorem ml_X10_270 : Cond.methodLink RX10 270 yX10_allHaveMarks ∈ TW := mTW 866 (by decide +kernel) rfl
theorem im_X10_allHaveMarks : Cond.instanceMethod yX10_allHaveMarks ∈ TW := mTW 868 (by decide +kernel) rfl
set_option maxRecDepth 30000 in
theorem cd_X10_allHaveMarks : Cond.code yX10_allHaveMarks cX10_allHaveMarks 3 (some .boolean) ∈ TW := mTW 869 rfl rfl
theorem ml_X10_284 : Cond.methodLink RX10 284 yX10_hasBit ∈ TW := mTW 870 (by decide +kernel) rfl
theorem ml_X10_276 : Cond.methodLink RX10 276 yX4_marriagesOf ∈ TW := mTW 871 (by decide +kernel) rfl
theorem im_X4_marriagesOf : Cond.instanceMethod yX4_marriagesOf ∈ TW := mTW 872 (by decide +kernel) rfl
theorem se_X4_marriagesOf : Cond.selects RX4 yX4_marriagesOf yX4_marriagesOf ∈ TW := mTW 873 (by decide +kernel) rfl
set_option maxRecDepth 30000 in
theorem cd_X4_marriagesOf : Cond.code yX4_marriagesOf cX4_marriagesOf 4 (some .int) ∈ TW := mTW 874 rfl rfl
theorem mn_X4_48 : Cond.methodLinkNest RX4 48 yX10_hasBit RX10 ∈ lw_tbl := mTB 875 (by decide +kernel)
theorem kl_X10_279 : Cond.constantLong RX10 279 (-4) ∈ TW := mTW 876 (by decide +kernel) rfl
theorem ml_X10_287 : Cond.methodLink RX10 287 yX6_add ∈ TW := mTW 877 (by decide +kernel) rfl
theorem im_X6_add : Cond.instanceMethod yX6_add ∈ TW := mTW 878 (by decide +kernel) rfl
theorem se_X6_add : Cond.selects RX6 yX6_add yX6_add ∈ TW := mTW 879 (by decide +kernel) rfl
set_option maxRecDepth 30000 in
theorem cd_X6_add : Cond.code yX6_add cX6_add 7 none ∈ TW := mTW 880 rfl rfl
theorem ml_X6_26 : Cond.methodLink RX6 26 yX6_become ∈ TW := mTW 881 (by decide +kernel) rfl
theorem ml_L_124 : Cond.methodLink RL 124 yX10_next ∈ TW := mTW 882 (by decide +kernel) rfl
theorem im_X10_next : Cond.instanceMethod yX10_next ∈ TW := mTW 883 (by decide +kernel) rfl
theorem se_X10_next : Cond.selects RX10 yX10_next yX10_next ∈ TW := mTW 884 (by decide +kernel) rfl
set_option maxRecDepth 30000 in
theorem cd_X10_next : Cond.code yX10_next cX10_next 3 (some .int) ∈ TW := mTW 885 rfl rfl
theorem ml_X10_301 : Cond.methodLink RX10 301 yX10_largestBelow ∈ TW := mTW 886 (by decide +kernel) rfl
theorem im_X10_largestBelow : Cond.instanceMethod yX10_largestBelow ∈ TW := mTW 888 (by decide +kernel) rfl
set_option maxRecDepth 30000 in
theorem cd_X10_largestBelow : Cond.code yX10_largestBelow cX10_largestBelow 6 (some .int) ∈ TW := mTW 889 rfl rfl
theorem ml_L_128 : Cond.methodLink RL 128 yX10_enough ∈ TW := mTW 890 (by decide +kernel) rfl
theorem im_X10_enough : Cond.instanceMethod yX10_enough ∈ TW := mTW 891 (by decide +kernel) rfl
theorem se_X10_enough : Cond.selects RX10 yX10_enough yX10_enough ∈ TW := mTW 892 (by decide +kernel) rfl
set_option maxRecDepth 30000 in
theorem cd_X10_enough : Cond.code yX10_enough cX10_enough 7 (some .int) ∈ TW := mTW 893 rfl rfl
theorem ml_X10_304 : Cond.methodLink RX10 304 yX10_leastDrawn ∈ TW := mTW 894 (by decide +kernel) rfl
theorem st_X10_leastDrawn : Cond.static yX10_leastDrawn ∈ TW := mTW 895 (by decide +kernel) rfl
set_option maxRecDepth 30000 in
theorem cd_X10_leastDrawn : Cond.code yX10_leastDrawn cX10_leastDrawn 3 (some .int) ∈ TW := mTW 896 rfl rfl
theorem ml_X10_307 : Cond.methodLink RX10 307 yX10_fewestBelow ∈ TW := mTW 897 (by decide +kernel) rfl
theorem im_X10_fewestBelow : Cond.instanceMethod yX10_fewestBelow ∈ TW := mTW 899 (by decide +kernel) rfl
set_option maxRecDepth 30000 in
theorem cd_X10_fewestBelow : Cond.code yX10_fewestBelow cX10_fewestBelow 7 (some .int) ∈ TW := mTW 900 rfl rfl
theorem ml_X10_310 : Cond.methodLink RX10 310 yX10_leastBits ∈ TW := mTW 901 (by decide +kernel) rfl
theorem im_X10_leastBits : Cond.instanceMethod yX10_leastBits ∈ TW := mTW 903 (by decide +kernel) rfl
set_option maxRecDepth 30000 in
theorem cd_X10_leastBits : Cond.code yX10_leastBits cX10_leastBits 8 (some .int) ∈ TW := mTW 904 rfl rfl
theorem ml_L_132 : Cond.methodLink RL 132 yX10_reading ∈ TW := mTW 905 (by decide +kernel) rfl
theorem im_X10_reading : Cond.instanceMethod yX10_reading ∈ TW := mTW 906 (by decide +kernel) rfl
theorem se_X10_reading : Cond.selects RX10 yX10_reading yX10_reading ∈ TW := mTW 907 (by decide +kernel) rfl
set_option maxRecDepth 30000 in
theorem cd_X10_reading : Cond.code yX10_reading cX10_reading 5 (some .long) ∈ TW := mTW 908 rfl rfl
theorem ml_L_136 : Cond.methodLink RL 136 yX10_unwed ∈ TW := mTW 909 (by decide +kernel) rfl
theorem im_X10_unwed : Cond.instanceMethod yX10_unwed ∈ TW := mTW 910 (by decide +kernel) rfl
theorem se_X10_unwed : Cond.selects RX10 yX10_unwed yX10_unwed ∈ TW := mTW 911 (by decide +kernel) rfl
set_option maxRecDepth 30000 in
theorem cd_X10_unwed : Cond.code yX10_unwed cX10_unwed 5 (some .int) ∈ TW := mTW 912 rfl rfl
theorem ml_L_140 : Cond.methodLink RL 140 yX10_parts ∈ TW := mTW 913 (by decide +kernel) rfl
theorem im_X10_parts : Cond.instanceMethod yX10_parts ∈ TW := mTW 914 (by decide +kernel) rfl
theorem se_X10_parts : Cond.selects RX10 yX10_parts yX10_parts ∈ TW := mTW 915 (by decide +kernel) rfl
set_option maxRecDepth 30000 in
theorem cd_X10_parts : Cond.code yX10_parts cX10_parts 4 (some .long) ∈ TW := mTW 916 rfl rfl
theorem ml_X10_316 : Cond.methodLink RX10 316 yX10_addMore ∈ TW := mTW 917 (by decide +kernel) rfl
theorem im_X10_addMore : Cond.instanceMethod yX10_addMore ∈ TW := mTW 919 (by decide +kernel) rfl
set_option maxRecDepth 30000 in
theorem cd_X10_addMore : Cond.code yX10_addMore cX10_addMore 6 none ∈ TW := mTW 920 rfl rfl
theorem ml_X10_435 : Cond.methodLink RX10 435 yX10_ableOf ∈ TW := mTW 921 (by decide +kernel) rfl
theorem st_X10_ableOf : Cond.static yX10_ableOf ∈ TW := mTW 922 (by decide +kernel) rfl
set_option maxRecDepth 30000 in
theorem cd_X10_ableOf : Cond.code yX10_ableOf cX10_ableOf 3 (some .int) ∈ TW := mTW 923 rfl rfl
theorem ml_X10_432 : Cond.methodLink RX10 432 yX10_marksOf ∈ TW := mTW 924 (by decide +kernel) rfl
theorem st_X10_marksOf : Cond.static yX10_marksOf ∈ TW := mTW 925 (by decide +kernel) rfl
set_option maxRecDepth 30000 in
theorem cd_X10_marksOf : Cond.code yX10_marksOf cX10_marksOf 3 (some .int) ∈ TW := mTW 926 rfl rfl
theorem ml_X10_438 : Cond.methodLink RX10 438 yX10_bottomOf ∈ TW := mTW 927 (by decide +kernel) rfl
theorem im_X10_bottomOf : Cond.instanceMethod yX10_bottomOf ∈ TW := mTW 929 (by decide +kernel) rfl
set_option maxRecDepth 30000 in
theorem cd_X10_bottomOf : Cond.code yX10_bottomOf cX10_bottomOf 2 (some .long) ∈ TW := mTW 930 rfl rfl
theorem kl_X10_430 : Cond.constantLong RX10 430 (2) ∈ TW := mTW 931 (by decide +kernel) rfl
theorem ml_X10_319 : Cond.methodLink RX10 319 yX10_addBetter ∈ TW := mTW 932 (by decide +kernel) rfl
theorem im_X10_addBetter : Cond.instanceMethod yX10_addBetter ∈ TW := mTW 934 (by decide +kernel) rfl
set_option maxRecDepth 30000 in
theorem cd_X10_addBetter : Cond.code yX10_addBetter cX10_addBetter 6 none ∈ TW := mTW 935 rfl rfl
theorem ml_L_144 : Cond.methodLink RL 144 yX10_worth ∈ TW := mTW 936 (by decide +kernel) rfl
theorem im_X10_worth : Cond.instanceMethod yX10_worth ∈ TW := mTW 937 (by decide +kernel) rfl
theorem se_X10_worth : Cond.selects RX10 yX10_worth yX10_worth ∈ TW := mTW 938 (by decide +kernel) rfl
set_option maxRecDepth 30000 in
theorem cd_X10_worth : Cond.code yX10_worth cX10_worth 5 (some .int) ∈ TW := mTW 939 rfl rfl
theorem kc_X10_322 : Cond.constant RX10 322 (-1000000) ∈ TW := mTW 940 (by decide +kernel) rfl
theorem ml_X10_323 : Cond.methodLink RX10 323 yX10_tallyQuarters ∈ TW := mTW 941 (by decide +kernel) rfl
theorem im_X10_tallyQuarters : Cond.instanceMethod yX10_tallyQuarters ∈ TW := mTW 943 (by decide +kernel) rfl
set_option maxRecDepth 30000 in
theorem cd_X10_tallyQuarters : Cond.code yX10_tallyQuarters cX10_tallyQuarters 6 none ∈ TW := mTW 944 rfl rfl
theorem kc_X10_327 : Cond.constant RX10 327 (-1000004) ∈ TW := mTW 945 (by decide +kernel) rfl
theorem ml_L_148 : Cond.methodLink RL 148 yX10_person ∈ TW := mTW 946 (by decide +kernel) rfl
theorem im_X10_person : Cond.instanceMethod yX10_person ∈ TW := mTW 947 (by decide +kernel) rfl
theorem se_X10_person : Cond.selects RX10 yX10_person yX10_person ∈ TW := mTW 948 (by decide +kernel) rfl
set_option maxRecDepth 30000 in
theorem cd_X10_person : Cond.code yX10_person cX10_person 4 (some .int) ∈ TW := mTW 949 rfl rfl
theorem ml_X10_328 : Cond.methodLink RX10 328 yX0_marksOf ∈ TW := mTW 950 (by decide +kernel) rfl
theorem im_X0_marksOf : Cond.instanceMethod yX0_marksOf ∈ TW := mTW 951 (by decide +kernel) rfl
theorem se_X0_marksOf : Cond.selects RX0 yX0_marksOf yX0_marksOf ∈ TW := mTW 952 (by decide +kernel) rfl
set_option maxRecDepth 30000 in
theorem cd_X0_marksOf : Cond.code yX0_marksOf cX0_marksOf 5 (some .int) ∈ TW := mTW 953 rfl rfl
theorem ml_X0_33 : Cond.methodLink RX0 33 yX0_marks ∈ TW := mTW 954 (by decide +kernel) rfl
theorem ml_X0_37 : Cond.methodLink RX0 37 yX0_isOf ∈ TW := mTW 955 (by decide +kernel) rfl
theorem ml_X10_331 : Cond.methodLink RX10 331 yX0_changedFrom ∈ TW := mTW 956 (by decide +kernel) rfl
theorem im_X0_changedFrom : Cond.instanceMethod yX0_changedFrom ∈ TW := mTW 957 (by decide +kernel) rfl
theorem se_X0_changedFrom : Cond.selects RX0 yX0_changedFrom yX0_changedFrom ∈ TW := mTW 958 (by decide +kernel) rfl
set_option maxRecDepth 30000 in
theorem cd_X0_changedFrom : Cond.code yX0_changedFrom cX0_changedFrom 6 (some .boolean) ∈ TW := mTW 959 rfl rfl
theorem ml_X0_41 : Cond.methodLink RX0 41 yX0_yearOf ∈ TW := mTW 960 (by decide +kernel) rfl
theorem ml_X0_45 : Cond.methodLink RX0 45 yJ9_min_7cf53 ∈ TW := mTW 961 (by decide +kernel) rfl
theorem st_J9_min_7cf53 : Cond.static yJ9_min_7cf53 ∈ TW := mTW 962 (by decide +kernel) rfl
set_option maxRecDepth 30000 in
theorem cd_J9_min_7cf53 : Cond.code yJ9_min_7cf53 cJ9_min_7cf53 2 (some .int) ∈ TW := mTW 963 rfl rfl
theorem ml_X0_51 : Cond.methodLink RX0 51 yJ9_max_7cf53 ∈ TW := mTW 964 (by decide +kernel) rfl
theorem ml_X10_334 : Cond.methodLink RX10 334 yX0_mostApart ∈ TW := mTW 965 (by decide +kernel) rfl
theorem im_X0_mostApart : Cond.instanceMethod yX0_mostApart ∈ TW := mTW 966 (by decide +kernel) rfl
theorem se_X0_mostApart : Cond.selects RX0 yX0_mostApart yX0_mostApart ∈ TW := mTW 967 (by decide +kernel) rfl
set_option maxRecDepth 30000 in
theorem cd_X0_mostApart : Cond.code yX0_mostApart cX0_mostApart 5 (some .int) ∈ TW := mTW 968 rfl rfl
theorem mn_X0_54 : Cond.methodLinkNest RX0 54 yX10_bitsApart RX10 ∈ lw_tbl := mTB 969 (by decide +kernel)
theorem ml_L_152 : Cond.methodLink RL 152 yX10_twice ∈ TW := mTW 970 (by decide +kernel) rfl
theorem im_X10_twice : Cond.instanceMethod yX10_twice ∈ TW := mTW 971 (by decide +kernel) rfl
theorem se_X10_twice : Cond.selects RX10 yX10_twice yX10_twice ∈ TW := mTW 972 (by decide +kernel) rfl
set_option maxRecDepth 30000 in
theorem cd_X10_twice : Cond.code yX10_twice cX10_twice 6 (some .int) ∈ TW := mTW 973 rfl rfl
theorem ml_X10_337 : Cond.methodLink RX10 337 yX10_tallyPersons ∈ TW := mTW 974 (by decide +kernel) rfl
theorem im_X10_tallyPersons : Cond.instanceMethod yX10_tallyPersons ∈ TW := mTW 976 (by decide +kernel) rfl
set_option maxRecDepth 30000 in
theorem cd_X10_tallyPersons : Cond.code yX10_tallyPersons cX10_tallyPersons 2 none ∈ TW := mTW 977 rfl rfl
theorem ml_L_156 : Cond.methodLink RL 156 yX10_find ∈ TW := mTW 978 (by decide +kernel) rfl
theorem im_X10_find : Cond.instanceMethod yX10_find ∈ TW := mTW 979 (by decide +kernel) rfl
theorem se_X10_find : Cond.selects RX10 yX10_find yX10_find ∈ TW := mTW 980 (by decide +kernel) rfl
set_option maxRecDepth 30000 in
theorem cd_X10_find : Cond.code yX10_find cX10_find 9 (some .int) ∈ TW := mTW 981 rfl rfl
theorem ml_X10_340 : Cond.methodLink RX10 340 yX10_gatherHands ∈ TW := mTW 982 (by decide +kernel) rfl
theorem im_X10_gatherHands : Cond.instanceMethod yX10_gatherHands ∈ TW := mTW 984 (by decide +kernel) rfl
set_option maxRecDepth 30000 in
theorem cd_X10_gatherHands : Cond.code yX10_gatherHands cX10_gatherHands 4 (some .int) ∈ TW := mTW 985 rfl rfl
theorem ml_X10_343 : Cond.methodLink RX10 343 yX10_howManyNear ∈ TW := mTW 986 (by decide +kernel) rfl
theorem im_X10_howManyNear : Cond.instanceMethod yX10_howManyNear ∈ TW := mTW 988 (by decide +kernel) rfl
set_option maxRecDepth 30000 in
theorem cd_X10_howManyNear : Cond.code yX10_howManyNear cX10_howManyNear 6 (some .int) ∈ TW := mTW 989 rfl rfl
theorem ml_L_160 : Cond.methodLink RL 160 yX10_keep ∈ TW := mTW 990 (by decide +kernel) rfl
theorem im_X10_keep : Cond.instanceMethod yX10_keep ∈ TW := mTW 991 (by decide +kernel) rfl
theorem se_X10_keep : Cond.selects RX10 yX10_keep yX10_keep ∈ TW := mTW 992 (by decide +kernel) rfl
set_option maxRecDepth 30000 in
theorem cd_X10_keep : Cond.code yX10_keep cX10_keep 4 (some .int) ∈ TW := mTW 993 rfl rfl
theorem ml_X10_350 : Cond.methodLink RX10 350 yX0_copy ∈ TW := mTW 994 (by decide +kernel) rfl
theorem im_X0_copy : Cond.instanceMethod yX0_copy ∈ TW := mTW 995 (by decide +kernel) rfl
theorem se_X0_copy : Cond.selects RX0 yX0_copy yX0_copy ∈ TW := mTW 996 (by decide +kernel) rfl
set_option maxRecDepth 30000 in
theorem cd_X0_copy : Cond.code yX0_copy cX0_copy 3 none ∈ TW := mTW 997 rfl rfl
theorem ml_X10_358 : Cond.methodLink RX10 358 yX1_copy ∈ TW := mTW 998 (by decide +kernel) rfl
theorem im_X1_copy : Cond.instanceMethod yX1_copy ∈ TW := mTW 999 (by decide +kernel) rfl
theorem se_X1_copy : Cond.selects RX1 yX1_copy yX1_copy ∈ TW := mTW 1000 (by decide +kernel) rfl
set_option maxRecDepth 30000 in
theorem cd_X1_copy : Cond.code yX1_copy cX1_copy 2 none ∈ TW := mTW 1001 rfl rfl
theorem ml_L_164 : Cond.methodLink RL 164 yX10_back ∈ TW := mTW 1002 (by decide +kernel) rfl
theorem im_X10_back : Cond.instanceMethod yX10_back ∈ TW := mTW 1003 (by decide +kernel) rfl
theorem se_X10_back : Cond.selects RX10 yX10_back yX10_back ∈ TW := mTW 1004 (by decide +kernel) rfl
set_option maxRecDepth 30000 in
theorem cd_X10_back : Cond.code yX10_back cX10_back 3 (some .int) ∈ TW := mTW 1005 rfl rfl
theorem ml_X10_364 : Cond.methodLink RX10 364 yX0_areAllBelow ∈ TW := mTW 1006 (by decide +kernel) rfl
theorem im_X0_areAllBelow : Cond.instanceMethod yX0_areAllBelow ∈ TW := mTW 1007 (by decide +kernel) rfl
theorem se_X0_areAllBelow : Cond.selects RX0 yX0_areAllBelow yX0_areAllBelow ∈ TW := mTW 1008 (by decide +kernel) rfl
set_option maxRecDepth 30000 in
theorem cd_X0_areAllBelow : Cond.code yX0_areAllBelow cX0_areAllBelow 3 (some .boolean) ∈ TW := mTW 1009 rfl rfl
theorem ml_L_168 : Cond.methodLink RL 168 yX10_sheet ∈ TW := mTW 1010 (by decide +kernel) rfl
theorem im_X10_sheet : Cond.instanceMethod yX10_sheet ∈ TW := mTW 1011 (by decide +kernel) rfl
theorem se_X10_sheet : Cond.selects RX10 yX10_sheet yX10_sheet ∈ TW := mTW 1012 (by decide +kernel) rfl
set_option maxRecDepth 30000 in
theorem cd_X10_sheet : Cond.code yX10_sheet cX10_sheet 4 (some .int) ∈ TW := mTW 1013 rfl rfl
theorem ml_X10_368 : Cond.methodLink RX10 368 yX10_isSheet ∈ TW := mTW 1014 (by decide +kernel) rfl
theorem st_X10_isSheet : Cond.static yX10_isSheet ∈ TW := mTW 1015 (by decide +kernel) rfl
set_option maxRecDepth 30000 in
theorem cd_X10_isSheet : Cond.code yX10_isSheet cX10_isSheet 1 (some .boolean) ∈ TW := mTW 1016 rfl rfl
theorem ml_X10_371 : Cond.methodLink RX10 371 yX10_isLane ∈ TW := mTW 1017 (by decide +kernel) rfl
theorem st_X10_isLane : Cond.static yX10_isLane ∈ TW := mTW 1018 (by decide +kernel) rfl
set_option maxRecDepth 30000 in
theorem cd_X10_isLane : Cond.code yX10_isLane cX10_isLane 1 (some .boolean) ∈ TW := mTW 1019 rfl rfl
theorem ml_X10_374 : Cond.methodLink RX10 374 yX7_clear ∈ TW := mTW 1020 (by decide +kernel) rfl
theorem im_X7_clear : Cond.instanceMethod yX7_clear ∈ TW := mTW 1021 (by decide +kernel) rfl
theorem se_X7_clear : Cond.selects RX7 yX7_clear yX7_clear ∈ TW := mTW 1022 (by decide +kernel) rfl
set_option maxRecDepth 30000 in
theorem cd_X7_clear : Cond.code yX7_clear cX7_clear 4 none ∈ TW := mTW 1023 rfl rfl
theorem ml_L_172 : Cond.methodLink RL 172 yX10_lay ∈ TW := mTW 1024 (by decide +kernel) rfl
theorem im_X10_lay : Cond.instanceMethod yX10_lay ∈ TW := mTW 1025 (by decide +kernel) rfl
theorem se_X10_lay : Cond.selects RX10 yX10_lay yX10_lay ∈ TW := mTW 1026 (by decide +kernel) rfl
set_option maxRecDepth 30000 in
theorem cd_X10_lay : Cond.code yX10_lay cX10_lay 5 (some .int) ∈ TW := mTW 1027 rfl rfl
theorem ml_X10_378 : Cond.methodLink RX10 378 yX7_put ∈ TW := mTW 1028 (by decide +kernel) rfl
theorem im_X7_put : Cond.instanceMethod yX7_put ∈ TW := mTW 1029 (by decide +kernel) rfl
theorem se_X7_put : Cond.selects RX7 yX7_put yX7_put ∈ TW := mTW 1030 (by decide +kernel) rfl
set_option maxRecDepth 30000 in
theorem cd_X7_put : Cond.code yX7_put cX7_put 3 none ∈ TW := mTW 1031 rfl rfl
theorem ml_L_176 : Cond.methodLink RL 176 yX10_read ∈ TW := mTW 1032 (by decide +kernel) rfl
theorem im_X10_read : Cond.instanceMethod yX10_read ∈ TW := mTW 1033 (by decide +kernel) rfl
theorem se_X10_read : Cond.selects RX10 yX10_read yX10_read ∈ TW := mTW 1034 (by decide +kernel) rfl
set_option maxRecDepth 30000 in
theorem cd_X10_read : Cond.code yX10_read cX10_read 9 (some .int) ∈ TW := mTW 1035 rfl rfl
theorem ml_X10_381 : Cond.methodLink RX10 381 yX7_faultAs ∈ TW := mTW 1036 (by decide +kernel) rfl
theorem im_X7_faultAs : Cond.instanceMethod yX7_faultAs ∈ TW := mTW 1037 (by decide +kernel) rfl
theorem se_X7_faultAs : Cond.selects RX7 yX7_faultAs yX7_faultAs ∈ TW := mTW 1038 (by decide +kernel) rfl
set_option maxRecDepth 30000 in
theorem cd_X7_faultAs : Cond.code yX7_faultAs cX7_faultAs 2 (some .int) ∈ TW := mTW 1039 rfl rfl
theorem ml_X10_384 : Cond.methodLink RX10 384 yX7_wholeMarriages ∈ TW := mTW 1040 (by decide +kernel) rfl
theorem im_X7_wholeMarriages : Cond.instanceMethod yX7_wholeMarriages ∈ TW := mTW 1041 (by decide +kernel) rfl
theorem se_X7_wholeMarriages : Cond.selects RX7 yX7_wholeMarriages yX7_wholeMarriages ∈ TW := mTW 1042 (by decide +kernel) rfl
set_option maxRecDepth 30000 in
theorem cd_X7_wholeMarriages : Cond.code yX7_wholeMarriages cX7_wholeMarriages 3 (some .int) ∈ TW := mTW 1043 rfl rfl
theorem mn_X7_22 : Cond.methodLinkNest RX7 22 yX10_within RX10 ∈ lw_tbl := mTB 1044 (by decide +kernel)
theorem ml_X7_26 : Cond.methodLink RX7 26 yJ9_min_7cf53 ∈ TW := mTW 1045 (by decide +kernel) rfl
theorem ml_X10_387 : Cond.methodLink RX10 387 yX10_refusalOf ∈ TW := mTW 1046 (by decide +kernel) rfl
theorem im_X10_refusalOf : Cond.instanceMethod yX10_refusalOf ∈ TW := mTW 1048 (by decide +kernel) rfl
set_option maxRecDepth 30000 in
theorem cd_X10_refusalOf : Cond.code yX10_refusalOf cX10_refusalOf 6 (some .int) ∈ TW := mTW 1049 rfl rfl
theorem ml_X10_391 : Cond.methodLink RX10 391 yX10_appendFrom ∈ TW := mTW 1050 (by decide +kernel) rfl
theorem im_X10_appendFrom : Cond.instanceMethod yX10_appendFrom ∈ TW := mTW 1052 (by decide +kernel) rfl
set_option maxRecDepth 30000 in
theorem cd_X10_appendFrom : Cond.code yX10_appendFrom cX10_appendFrom 6 none ∈ TW := mTW 1053 rfl rfl
theorem ml_L_180 : Cond.methodLink RL 180 yX10_torn ∈ TW := mTW 1054 (by decide +kernel) rfl
theorem im_X10_torn : Cond.instanceMethod yX10_torn ∈ TW := mTW 1055 (by decide +kernel) rfl
theorem se_X10_torn : Cond.selects RX10 yX10_torn yX10_torn ∈ TW := mTW 1056 (by decide +kernel) rfl
set_option maxRecDepth 30000 in
theorem cd_X10_torn : Cond.code yX10_torn cX10_torn 1 (some .int) ∈ TW := mTW 1057 rfl rfl
theorem ml_L_184 : Cond.methodLink RL 184 yX10_count ∈ TW := mTW 1058 (by decide +kernel) rfl
theorem im_X10_count : Cond.instanceMethod yX10_count ∈ TW := mTW 1059 (by decide +kernel) rfl
theorem se_X10_count : Cond.selects RX10 yX10_count yX10_count ∈ TW := mTW 1060 (by decide +kernel) rfl
set_option maxRecDepth 30000 in
theorem cd_X10_count : Cond.code yX10_count cX10_count 2 (some .int) ∈ TW := mTW 1061 rfl rfl
theorem ml_X10_395 : Cond.methodLink RX10 395 yX4_towns ∈ TW := mTW 1062 (by decide +kernel) rfl
theorem im_X4_towns : Cond.instanceMethod yX4_towns ∈ TW := mTW 1063 (by decide +kernel) rfl
theorem se_X4_towns : Cond.selects RX4 yX4_towns yX4_towns ∈ TW := mTW 1064 (by decide +kernel) rfl
set_option maxRecDepth 30000 in
theorem cd_X4_towns : Cond.code yX4_towns cX4_towns 3 (some .int) ∈ TW := mTW 1065 rfl rfl
theorem cl_L_10 : Cond.classLink RL 10 RX11 ∈ TW := mTW 1066 (by decide +kernel) rfl
theorem inst_X11 : Cond.instantiable RX11 35 ∈ TW := mTW 1067 (by decide +kernel) rfl
theorem ml_L_12 : Cond.methodLink RL 12 yX11_init ∈ TW := mTW 1068 (by decide +kernel) rfl
theorem im_X11_init : Cond.instanceMethod yX11_init ∈ TW := mTW 1069 (by decide +kernel) rfl
set_option maxRecDepth 30000 in
theorem cd_X11_init : Cond.code yX11_init cX11_init 1 none ∈ TW := mTW 1070 rfl rfl
theorem ml_X11_1 : Cond.methodLink RX11 1 objectInit ∈ TW := mTW 1071 (by decide +kernel) rfl
theorem fl_X11_7 : Cond.fieldLink RX11 7 "CrossOrNameModel" "tape" "[I" ∈ TW := mTW 1072 (by decide +kernel) rfl
theorem fl_X11_59 : Cond.fieldLink RX11 59 "CrossOrNameModel" "taped" "I" ∈ TW := mTW 1073 (by decide +kernel) rfl
theorem fl_X11_135 : Cond.fieldLink RX11 135 "CrossOrNameModel" "fault" "I" ∈ TW := mTW 1074 (by decide +kernel) rfl
theorem fl_X11_67 : Cond.fieldLink RX11 67 "CrossOrNameModel" "wrong" "I" ∈ TW := mTW 1075 (by decide +kernel) rfl
theorem fl_X11_73 : Cond.fieldLink RX11 73 "CrossOrNameModel" "wrongAt" "I" ∈ TW := mTW 1076 (by decide +kernel) rfl
theorem fl_X11_79 : Cond.fieldLink RX11 79 "CrossOrNameModel" "spot" "I" ∈ TW := mTW 1077 (by decide +kernel) rfl
theorem fl_X11_70 : Cond.fieldLink RX11 70 "CrossOrNameModel" "place" "I" ∈ TW := mTW 1078 (by decide +kernel) rfl
theorem fl_X11_76 : Cond.fieldLink RX11 76 "CrossOrNameModel" "token" "I" ∈ TW := mTW 1079 (by decide +kernel) rfl
theorem fl_X11_86 : Cond.fieldLink RX11 86 "CrossOrNameModel" "value" "I" ∈ TW := mTW 1080 (by decide +kernel) rfl
theorem fl_X11_13 : Cond.fieldLink RX11 13 "CrossOrNameModel" "cuts" "[I" ∈ TW := mTW 1081 (by decide +kernel) rfl
theorem fl_X11_16 : Cond.fieldLink RX11 16 "CrossOrNameModel" "letters" "[I" ∈ TW := mTW 1082 (by decide +kernel) rfl
theorem fl_X11_19 : Cond.fieldLink RX11 19 "CrossOrNameModel" "plain" "[I" ∈ TW := mTW 1083 (by decide +kernel) rfl
theorem fl_X11_22 : Cond.fieldLink RX11 22 "CrossOrNameModel" "rules" "[I" ∈ TW := mTW 1084 (by decide +kernel) rfl
theorem fl_X11_25 : Cond.fieldLink RX11 25 "CrossOrNameModel" "parishes" "[I" ∈ TW := mTW 1085 (by decide +kernel) rfl
theorem fl_X11_28 : Cond.fieldLink RX11 28 "CrossOrNameModel" "clerks" "[I" ∈ TW := mTW 1086 (by decide +kernel) rfl
theorem fl_X11_31 : Cond.fieldLink RX11 31 "CrossOrNameModel" "readRules" "[I" ∈ TW := mTW 1087 (by decide +kernel) rfl
theorem fl_X11_34 : Cond.fieldLink RX11 34 "CrossOrNameModel" "readParishes" "[I" ∈ TW := mTW 1088 (by decide +kernel) rfl
theorem fl_X11_37 : Cond.fieldLink RX11 37 "CrossOrNameModel" "readClerks" "[I" ∈ TW := mTW 1089 (by decide +kernel) rfl
theorem fl_X11_115 : Cond.fieldLink RX11 115 "CrossOrNameModel" "toldOnes" "I" ∈ TW := mTW 1090 (by decide +kernel) rfl
theorem fl_X11_40 : Cond.fieldLink RX11 40 "CrossOrNameModel" "state" "[I" ∈ TW := mTW 1091 (by decide +kernel) rfl
theorem fl_X11_167 : Cond.fieldLink RX11 167 "CrossOrNameModel" "isAwake" "Z" ∈ TW := mTW 1092 (by decide +kernel) rfl
theorem fl_X11_43 : Cond.fieldLink RX11 43 "CrossOrNameModel" "kinds" "[I" ∈ TW := mTW 1093 (by decide +kernel) rfl
theorem fl_X11_234 : Cond.fieldLink RX11 234 "CrossOrNameModel" "all" "I" ∈ TW := mTW 1094 (by decide +kernel) rfl
theorem fl_X11_237 : Cond.fieldLink RX11 237 "CrossOrNameModel" "able" "I" ∈ TW := mTW 1095 (by decide +kernel) rfl
theorem fl_X11_267 : Cond.fieldLink RX11 267 "CrossOrNameModel" "surely" "I" ∈ TW := mTW 1096 (by decide +kernel) rfl
theorem fl_X11_270 : Cond.fieldLink RX11 270 "CrossOrNameModel" "perhaps" "I" ∈ TW := mTW 1097 (by decide +kernel) rfl
theorem fl_X11_273 : Cond.fieldLink RX11 273 "CrossOrNameModel" "surelyAble" "I" ∈ TW := mTW 1098 (by decide +kernel) rfl
theorem fl_X11_276 : Cond.fieldLink RX11 276 "CrossOrNameModel" "perhapsAble" "I" ∈ TW := mTW 1099 (by decide +kernel) rfl
theorem fl_X11_287 : Cond.fieldLink RX11 287 "CrossOrNameModel" "sumUp" "J" ∈ TW := mTW 1100 (by decide +kernel) rfl
theorem fl_X11_291 : Cond.fieldLink RX11 291 "CrossOrNameModel" "sumDown" "J" ∈ TW := mTW 1101 (by decide +kernel) rfl
theorem fl_X11_46 : Cond.fieldLink RX11 46 "CrossOrNameModel" "isKept" "[Z" ∈ TW := mTW 1102 (by decide +kernel) rfl
theorem fl_X11_50 : Cond.fieldLink RX11 50 "CrossOrNameModel" "lanes" "[I" ∈ TW := mTW 1103 (by decide +kernel) rfl
theorem fl_X11_53 : Cond.fieldLink RX11 53 "CrossOrNameModel" "lengths" "[I" ∈ TW := mTW 1104 (by decide +kernel) rfl
theorem fl_X11_56 : Cond.fieldLink RX11 56 "CrossOrNameModel" "cells" "[I" ∈ TW := mTW 1105 (by decide +kernel) rfl
theorem fl_X11_330 : Cond.fieldLink RX11 330 "CrossOrNameModel" "torn" "I" ∈ TW := mTW 1106 (by decide +kernel) rfl
theorem ac_boolean : Cond.arrayClass .boolean ∈ TW := mTW 1178 (by decide +kernel) rfl
theorem ml_L_19 : Cond.methodLink RL 19 yX11_feed ∈ TW := mTW 1179 (by decide +kernel) rfl
theorem im_X11_feed : Cond.instanceMethod yX11_feed ∈ TW := mTW 1180 (by decide +kernel) rfl
theorem se_X11_feed : Cond.selects RX11 yX11_feed yX11_feed ∈ TW := mTW 1181 (by decide +kernel) rfl
set_option maxRecDepth 30000 in
theorem cd_X11_feed : Cond.code yX11_feed cX11_feed 4 (some .int) ∈ TW := mTW 1182 rfl rfl
theorem ml_L_24 : Cond.methodLink RL 24 yX11_end ∈ TW := mTW 1183 (by decide +kernel) rfl
theorem im_X11_end : Cond.instanceMethod yX11_end ∈ TW := mTW 1184 (by decide +kernel) rfl
theorem se_X11_end : Cond.selects RX11 yX11_end yX11_end ∈ TW := mTW 1185 (by decide +kernel) rfl
set_option maxRecDepth 30000 in
theorem cd_X11_end : Cond.code yX11_end cX11_end 3 (some .int) ∈ TW := mTW 1186 rfl rfl
theorem ml_X11_63 : Cond.methodLink RX11 63 yX11_in ∈ TW := mTW 1187 (by decide +kernel) rfl
theorem st_X11_in : Cond.static yX11_in ∈ TW := mTW 1188 (by decide +kernel) rfl
set_option maxRecDepth 30000 in
theorem cd_X11_in : Cond.code yX11_in cX11_in 6 (some .boolean) ∈ TW := mTW 1189 rfl rfl
theorem ml_L_29 : Cond.methodLink RL 29 yX11_land ∈ TW := mTW 1190 (by decide +kernel) rfl
theorem im_X11_land : Cond.instanceMethod yX11_land ∈ TW := mTW 1191 (by decide +kernel) rfl
theorem se_X11_land : Cond.selects RX11 yX11_land yX11_land ∈ TW := mTW 1192 (by decide +kernel) rfl
set_option maxRecDepth 30000 in
theorem cd_X11_land : Cond.code yX11_land cX11_land 3 (some .int) ∈ TW := mTW 1193 rfl rfl
theorem ml_X11_101 : Cond.methodLink RX11 101 yX11_next2 ∈ TW := mTW 1194 (by decide +kernel) rfl
theorem im_X11_next2 : Cond.instanceMethod yX11_next2 ∈ TW := mTW 1196 (by decide +kernel) rfl
set_option maxRecDepth 30000 in
theorem cd_X11_next2 : Cond.code yX11_next2 cX11_next2 2 none ∈ TW := mTW 1197 rfl rfl
theorem ml_X11_82 : Cond.methodLink RX11 82 yX11_byteAt ∈ TW := mTW 1198 (by decide +kernel) rfl
theorem im_X11_byteAt : Cond.instanceMethod yX11_byteAt ∈ TW := mTW 1200 (by decide +kernel) rfl
set_option maxRecDepth 30000 in
theorem cd_X11_byteAt : Cond.code yX11_byteAt cX11_byteAt 2 (some .int) ∈ TW := mTW 1201 rfl rfl
theorem kl_X11_89 : Cond.constantLong RX11 89 (97) ∈ TW := mTW 1202 (by decide +kernel) rfl
theorem kl_X11_91 : Cond.constantLong RX11 91 (122) ∈ TW := mTW 1203 (by decide +kernel) rfl
theorem kl_X11_93 : Cond.constantLong RX11 93 (48) ∈ TW := mTW 1204 (by decide +kernel) rfl
theorem kl_X11_95 : Cond.constantLong RX11 95 (57) ∈ TW := mTW 1205 (by decide +kernel) rfl
theorem ml_X11_97 : Cond.methodLink RX11 97 yX11_fails ∈ TW := mTW 1206 (by decide +kernel) rfl
theorem im_X11_fails : Cond.instanceMethod yX11_fails ∈ TW := mTW 1208 (by decide +kernel) rfl
set_option maxRecDepth 30000 in
theorem cd_X11_fails : Cond.code yX11_fails cX11_fails 2 none ∈ TW := mTW 1209 rfl rfl
theorem ml_X11_132 : Cond.methodLink RX11 132 yX11_readLine ∈ TW := mTW 1210 (by decide +kernel) rfl
theorem im_X11_readLine : Cond.instanceMethod yX11_readLine ∈ TW := mTW 1212 (by decide +kernel) rfl
set_option maxRecDepth 30000 in
theorem cd_X11_readLine : Cond.code yX11_readLine cX11_readLine 2 none ∈ TW := mTW 1213 rfl rfl
theorem ml_X11_104 : Cond.methodLink RX11 104 yX11_nameHere ∈ TW := mTW 1214 (by decide +kernel) rfl
theorem im_X11_nameHere : Cond.instanceMethod yX11_nameHere ∈ TW := mTW 1216 (by decide +kernel) rfl
set_option maxRecDepth 30000 in
theorem cd_X11_nameHere : Cond.code yX11_nameHere cX11_nameHere 4 (some .int) ∈ TW := mTW 1217 rfl rfl
theorem kl_X11_118 : Cond.constantLong RX11 118 (6) ∈ TW := mTW 1218 (by decide +kernel) rfl
theorem ml_X11_120 : Cond.methodLink RX11 120 yX11_readParish ∈ TW := mTW 1219 (by decide +kernel) rfl
theorem im_X11_readParish : Cond.instanceMethod yX11_readParish ∈ TW := mTW 1221 (by decide +kernel) rfl
set_option maxRecDepth 30000 in
theorem cd_X11_readParish : Cond.code yX11_readParish cX11_readParish 6 none ∈ TW := mTW 1222 rfl rfl
theorem ml_X11_108 : Cond.methodLink RX11 108 yX11_number ∈ TW := mTW 1223 (by decide +kernel) rfl
theorem im_X11_number : Cond.instanceMethod yX11_number ∈ TW := mTW 1225 (by decide +kernel) rfl
set_option maxRecDepth 30000 in
theorem cd_X11_number : Cond.code yX11_number cX11_number 4 (some .int) ∈ TW := mTW 1226 rfl rfl
theorem ml_X11_112 : Cond.methodLink RX11 112 yX11_yearBehind ∈ TW := mTW 1227 (by decide +kernel) rfl
theorem im_X11_yearBehind : Cond.instanceMethod yX11_yearBehind ∈ TW := mTW 1229 (by decide +kernel) rfl
set_option maxRecDepth 30000 in
theorem cd_X11_yearBehind : Cond.code yX11_yearBehind cX11_yearBehind 2 (some .int) ∈ TW := mTW 1230 rfl rfl
theorem ml_X11_123 : Cond.methodLink RX11 123 yX11_readClerk ∈ TW := mTW 1231 (by decide +kernel) rfl
theorem im_X11_readClerk : Cond.instanceMethod yX11_readClerk ∈ TW := mTW 1233 (by decide +kernel) rfl
set_option maxRecDepth 30000 in
theorem cd_X11_readClerk : Cond.code yX11_readClerk cX11_readClerk 7 none ∈ TW := mTW 1234 rfl rfl
theorem ml_X11_126 : Cond.methodLink RX11 126 yX11_readTried ∈ TW := mTW 1235 (by decide +kernel) rfl
theorem im_X11_readTried : Cond.instanceMethod yX11_readTried ∈ TW := mTW 1237 (by decide +kernel) rfl
set_option maxRecDepth 30000 in
theorem cd_X11_readTried : Cond.code yX11_readTried cX11_readTried 3 none ∈ TW := mTW 1238 rfl rfl
theorem ml_X11_129 : Cond.methodLink RX11 129 yX11_readRule ∈ TW := mTW 1239 (by decide +kernel) rfl
theorem im_X11_readRule : Cond.instanceMethod yX11_readRule ∈ TW := mTW 1241 (by decide +kernel) rfl
set_option maxRecDepth 30000 in
theorem cd_X11_readRule : Cond.code yX11_readRule cX11_readRule 2 none ∈ TW := mTW 1242 rfl rfl
theorem ml_X11_138 : Cond.methodLink RX11 138 yX11_setChoice ∈ TW := mTW 1243 (by decide +kernel) rfl
theorem im_X11_setChoice : Cond.instanceMethod yX11_setChoice ∈ TW := mTW 1245 (by decide +kernel) rfl
set_option maxRecDepth 30000 in
theorem cd_X11_setChoice : Cond.code yX11_setChoice cX11_setChoice 8 none ∈ TW := mTW 1246 rfl rfl
theorem ml_L_33 : Cond.methodLink RL 33 yX11_fault ∈ TW := mTW 1247 (by decide +kernel) rfl
theorem im_X11_fault : Cond.instanceMethod yX11_fault ∈ TW := mTW 1248 (by decide +kernel) rfl
theorem se_X11_fault : Cond.selects RX11 yX11_fault yX11_fault ∈ TW := mTW 1249 (by decide +kernel) rfl
set_option maxRecDepth 30000 in
theorem cd_X11_fault : Cond.code yX11_fault cX11_fault 1 (some .int) ∈ TW := mTW 1250 rfl rfl
theorem ml_L_37 : Cond.methodLink RL 37 yX11_told ∈ TW := mTW 1251 (by decide +kernel) rfl
theorem im_X11_told : Cond.instanceMethod yX11_told ∈ TW := mTW 1252 (by decide +kernel) rfl
theorem se_X11_told : Cond.selects RX11 yX11_told yX11_told ∈ TW := mTW 1253 (by decide +kernel) rfl
set_option maxRecDepth 30000 in
theorem cd_X11_told : Cond.code yX11_told cX11_told 2 (some .int) ∈ TW := mTW 1254 rfl rfl
theorem kl_X11_142 : Cond.constantLong RX11 142 (10) ∈ TW := mTW 1255 (by decide +kernel) rfl
theorem ml_L_42 : Cond.methodLink RL 42 yX11_parish ∈ TW := mTW 1256 (by decide +kernel) rfl
theorem im_X11_parish : Cond.instanceMethod yX11_parish ∈ TW := mTW 1257 (by decide +kernel) rfl
theorem se_X11_parish : Cond.selects RX11 yX11_parish yX11_parish ∈ TW := mTW 1258 (by decide +kernel) rfl
set_option maxRecDepth 30000 in
theorem cd_X11_parish : Cond.code yX11_parish cX11_parish 5 (some .int) ∈ TW := mTW 1259 rfl rfl
theorem ml_X11_144 : Cond.methodLink RX11 144 yX11_isParish ∈ TW := mTW 1260 (by decide +kernel) rfl
theorem im_X11_isParish : Cond.instanceMethod yX11_isParish ∈ TW := mTW 1262 (by decide +kernel) rfl
set_option maxRecDepth 30000 in
theorem cd_X11_isParish : Cond.code yX11_isParish cX11_isParish 2 (some .boolean) ∈ TW := mTW 1263 rfl rfl
theorem kl_X11_148 : Cond.constantLong RX11 148 (4) ∈ TW := mTW 1264 (by decide +kernel) rfl
theorem ml_X11_150 : Cond.methodLink RX11 150 yX11_size ∈ TW := mTW 1265 (by decide +kernel) rfl
theorem im_X11_size : Cond.instanceMethod yX11_size ∈ TW := mTW 1267 (by decide +kernel) rfl
set_option maxRecDepth 30000 in
theorem cd_X11_size : Cond.code yX11_size cX11_size 1 (some .int) ∈ TW := mTW 1268 rfl rfl
theorem ml_X11_153 : Cond.methodLink RX11 153 yX11_its ∈ TW := mTW 1269 (by decide +kernel) rfl
theorem im_X11_its : Cond.instanceMethod yX11_its ∈ TW := mTW 1271 (by decide +kernel) rfl
set_option maxRecDepth 30000 in
theorem cd_X11_its : Cond.code yX11_its cX11_its 3 (some .int) ∈ TW := mTW 1272 rfl rfl
theorem ml_X11_156 : Cond.methodLink RX11 156 yX11_parishOf ∈ TW := mTW 1273 (by decide +kernel) rfl
theorem im_X11_parishOf : Cond.instanceMethod yX11_parishOf ∈ TW := mTW 1275 (by decide +kernel) rfl
set_option maxRecDepth 30000 in
theorem cd_X11_parishOf : Cond.code yX11_parishOf cX11_parishOf 3 (some .int) ∈ TW := mTW 1276 rfl rfl
theorem ml_L_46 : Cond.methodLink RL 46 yX11_clerk ∈ TW := mTW 1277 (by decide +kernel) rfl
theorem im_X11_clerk : Cond.instanceMethod yX11_clerk ∈ TW := mTW 1278 (by decide +kernel) rfl
theorem se_X11_clerk : Cond.selects RX11 yX11_clerk yX11_clerk ∈ TW := mTW 1279 (by decide +kernel) rfl
set_option maxRecDepth 30000 in
theorem cd_X11_clerk : Cond.code yX11_clerk cX11_clerk 5 (some .int) ∈ TW := mTW 1280 rfl rfl
theorem ml_X11_159 : Cond.methodLink RX11 159 yX11_isClerk ∈ TW := mTW 1281 (by decide +kernel) rfl
theorem im_X11_isClerk : Cond.instanceMethod yX11_isClerk ∈ TW := mTW 1283 (by decide +kernel) rfl
set_option maxRecDepth 30000 in
theorem cd_X11_isClerk : Cond.code yX11_isClerk cX11_isClerk 2 (some .boolean) ∈ TW := mTW 1284 rfl rfl
theorem kl_X11_162 : Cond.constantLong RX11 162 (5) ∈ TW := mTW 1285 (by decide +kernel) rfl
theorem ml_X11_164 : Cond.methodLink RX11 164 yX11_writerOf ∈ TW := mTW 1286 (by decide +kernel) rfl
theorem im_X11_writerOf : Cond.instanceMethod yX11_writerOf ∈ TW := mTW 1288 (by decide +kernel) rfl
set_option maxRecDepth 30000 in
theorem cd_X11_writerOf : Cond.code yX11_writerOf cX11_writerOf 6 (some .int) ∈ TW := mTW 1289 rfl rfl
theorem ml_X11_198 : Cond.methodLink RX11 198 yX11_of5 ∈ TW := mTW 1290 (by decide +kernel) rfl
theorem im_X11_of5 : Cond.instanceMethod yX11_of5 ∈ TW := mTW 1292 (by decide +kernel) rfl
set_option maxRecDepth 30000 in
theorem cd_X11_of5 : Cond.code yX11_of5 cX11_of5 4 (some .int) ∈ TW := mTW 1293 rfl rfl
theorem ml_X11_204 : Cond.methodLink RX11 204 yX11_bitsOf ∈ TW := mTW 1294 (by decide +kernel) rfl
theorem st_X11_bitsOf : Cond.static yX11_bitsOf ∈ TW := mTW 1295 (by decide +kernel) rfl
set_option maxRecDepth 30000 in
theorem cd_X11_bitsOf : Cond.code yX11_bitsOf cX11_bitsOf 3 (some .int) ∈ TW := mTW 1296 rfl rfl
theorem ml_L_51 : Cond.methodLink RL 51 yX11_marry ∈ TW := mTW 1297 (by decide +kernel) rfl
theorem im_X11_marry : Cond.instanceMethod yX11_marry ∈ TW := mTW 1298 (by decide +kernel) rfl
theorem se_X11_marry : Cond.selects RX11 yX11_marry yX11_marry ∈ TW := mTW 1299 (by decide +kernel) rfl
set_option maxRecDepth 30000 in
theorem cd_X11_marry : Cond.code yX11_marry cX11_marry 6 (some .int) ∈ TW := mTW 1300 rfl rfl
theorem ml_X11_175 : Cond.methodLink RX11 175 yX11_isMarry ∈ TW := mTW 1301 (by decide +kernel) rfl
theorem im_X11_isMarry : Cond.instanceMethod yX11_isMarry ∈ TW := mTW 1303 (by decide +kernel) rfl
set_option maxRecDepth 30000 in
theorem cd_X11_isMarry : Cond.code yX11_isMarry cX11_isMarry 6 (some .boolean) ∈ TW := mTW 1304 rfl rfl
theorem kl_X11_171 : Cond.constantLong RX11 171 (89) ∈ TW := mTW 1305 (by decide +kernel) rfl
theorem kl_X11_173 : Cond.constantLong RX11 173 (7) ∈ TW := mTW 1306 (by decide +kernel) rfl
theorem ml_X11_179 : Cond.methodLink RX11 179 yX11_adds ∈ TW := mTW 1307 (by decide +kernel) rfl
theorem im_X11_adds : Cond.instanceMethod yX11_adds ∈ TW := mTW 1309 (by decide +kernel) rfl
set_option maxRecDepth 30000 in
theorem cd_X11_adds : Cond.code yX11_adds cX11_adds 8 none ∈ TW := mTW 1310 rfl rfl
theorem ml_L_56 : Cond.methodLink RL 56 yX11_set ∈ TW := mTW 1311 (by decide +kernel) rfl
theorem im_X11_set : Cond.instanceMethod yX11_set ∈ TW := mTW 1312 (by decide +kernel) rfl
theorem se_X11_set : Cond.selects RX11 yX11_set yX11_set ∈ TW := mTW 1313 (by decide +kernel) rfl
set_option maxRecDepth 30000 in
theorem cd_X11_set : Cond.code yX11_set cX11_set 7 (some .int) ∈ TW := mTW 1314 rfl rfl
theorem ml_X11_191 : Cond.methodLink RX11 191 yX11_isMark ∈ TW := mTW 1315 (by decide +kernel) rfl
theorem im_X11_isMark : Cond.instanceMethod yX11_isMark ∈ TW := mTW 1317 (by decide +kernel) rfl
set_option maxRecDepth 30000 in
theorem cd_X11_isMark : Cond.code yX11_isMark cX11_isMark 3 (some .boolean) ∈ TW := mTW 1318 rfl rfl
theorem ml_X11_195 : Cond.methodLink RX11 195 yX11_isValue ∈ TW := mTW 1319 (by decide +kernel) rfl
theorem st_X11_isValue : Cond.static yX11_isValue ∈ TW := mTW 1320 (by decide +kernel) rfl
set_option maxRecDepth 30000 in
theorem cd_X11_isValue : Cond.code yX11_isValue cX11_isValue 2 (some .boolean) ∈ TW := mTW 1321 rfl rfl
theorem kl_X11_183 : Cond.constantLong RX11 183 (16) ∈ TW := mTW 1322 (by decide +kernel) rfl
theorem kl_X11_185 : Cond.constantLong RX11 185 (60) ∈ TW := mTW 1323 (by decide +kernel) rfl
theorem kl_X11_187 : Cond.constantLong RX11 187 (255) ∈ TW := mTW 1324 (by decide +kernel) rfl
theorem kl_X11_189 : Cond.constantLong RX11 189 (99) ∈ TW := mTW 1325 (by decide +kernel) rfl
theorem ml_L_60 : Cond.methodLink RL 60 yX11_of ∈ TW := mTW 1326 (by decide +kernel) rfl
theorem im_X11_of : Cond.instanceMethod yX11_of ∈ TW := mTW 1327 (by decide +kernel) rfl
theorem se_X11_of : Cond.selects RX11 yX11_of yX11_of ∈ TW := mTW 1328 (by decide +kernel) rfl
set_option maxRecDepth 30000 in
theorem cd_X11_of : Cond.code yX11_of cX11_of 3 (some .int) ∈ TW := mTW 1329 rfl rfl
theorem kl_X11_202 : Cond.constantLong RX11 202 (2) ∈ TW := mTW 1330 (by decide +kernel) rfl
theorem ml_L_65 : Cond.methodLink RL 65 yX11_has ∈ TW := mTW 1331 (by decide +kernel) rfl
theorem im_X11_has : Cond.instanceMethod yX11_has ∈ TW := mTW 1332 (by decide +kernel) rfl
theorem se_X11_has : Cond.selects RX11 yX11_has yX11_has ∈ TW := mTW 1333 (by decide +kernel) rfl
set_option maxRecDepth 30000 in
theorem cd_X11_has : Cond.code yX11_has cX11_has 4 (some .int) ∈ TW := mTW 1334 rfl rfl
theorem ml_L_69 : Cond.methodLink RL 69 yX11_kind ∈ TW := mTW 1335 (by decide +kernel) rfl
theorem im_X11_kind : Cond.instanceMethod yX11_kind ∈ TW := mTW 1336 (by decide +kernel) rfl
theorem se_X11_kind : Cond.selects RX11 yX11_kind yX11_kind ∈ TW := mTW 1337 (by decide +kernel) rfl
set_option maxRecDepth 30000 in
theorem cd_X11_kind : Cond.code yX11_kind cX11_kind 3 (some .int) ∈ TW := mTW 1338 rfl rfl
theorem ml_X11_216 : Cond.methodLink RX11 216 yX11_kindOf ∈ TW := mTW 1339 (by decide +kernel) rfl
theorem im_X11_kindOf : Cond.instanceMethod yX11_kindOf ∈ TW := mTW 1341 (by decide +kernel) rfl
set_option maxRecDepth 30000 in
theorem cd_X11_kindOf : Cond.code yX11_kindOf cX11_kindOf 6 (some .int) ∈ TW := mTW 1342 rfl rfl
theorem ml_X11_213 : Cond.methodLink RX11 213 yX11_nameKind ∈ TW := mTW 1343 (by decide +kernel) rfl
theorem im_X11_nameKind : Cond.instanceMethod yX11_nameKind ∈ TW := mTW 1345 (by decide +kernel) rfl
set_option maxRecDepth 30000 in
theorem cd_X11_nameKind : Cond.code yX11_nameKind cX11_nameKind 3 (some .int) ∈ TW := mTW 1346 rfl rfl
theorem ml_X11_210 : Cond.methodLink RX11 210 yX11_isDrawn ∈ TW := mTW 1347 (by decide +kernel) rfl
theorem im_X11_isDrawn : Cond.instanceMethod yX11_isDrawn ∈ TW := mTW 1349 (by decide +kernel) rfl
set_option maxRecDepth 30000 in
theorem cd_X11_isDrawn : Cond.code yX11_isDrawn cX11_isDrawn 8 (some .boolean) ∈ TW := mTW 1350 rfl rfl
theorem ml_X11_207 : Cond.methodLink RX11 207 yX11_isOwnName ∈ TW := mTW 1351 (by decide +kernel) rfl
theorem im_X11_isOwnName : Cond.instanceMethod yX11_isOwnName ∈ TW := mTW 1353 (by decide +kernel) rfl
set_option maxRecDepth 30000 in
theorem cd_X11_isOwnName : Cond.code yX11_isOwnName cX11_isOwnName 3 (some .boolean) ∈ TW := mTW 1354 rfl rfl
theorem ml_L_73 : Cond.methodLink RL 73 yX11_writer ∈ TW := mTW 1355 (by decide +kernel) rfl
theorem im_X11_writer : Cond.instanceMethod yX11_writer ∈ TW := mTW 1356 (by decide +kernel) rfl
theorem se_X11_writer : Cond.selects RX11 yX11_writer yX11_writer ∈ TW := mTW 1357 (by decide +kernel) rfl
set_option maxRecDepth 30000 in
theorem cd_X11_writer : Cond.code yX11_writer cX11_writer 3 (some .int) ∈ TW := mTW 1358 rfl rfl
theorem ml_L_77 : Cond.methodLink RL 77 yX11_apart ∈ TW := mTW 1359 (by decide +kernel) rfl
theorem im_X11_apart : Cond.instanceMethod yX11_apart ∈ TW := mTW 1360 (by decide +kernel) rfl
theorem se_X11_apart : Cond.selects RX11 yX11_apart yX11_apart ∈ TW := mTW 1361 (by decide +kernel) rfl
set_option maxRecDepth 30000 in
theorem cd_X11_apart : Cond.code yX11_apart cX11_apart 3 (some .int) ∈ TW := mTW 1362 rfl rfl
theorem ml_L_81 : Cond.methodLink RL 81 yX11_tear ∈ TW := mTW 1363 (by decide +kernel) rfl
theorem im_X11_tear : Cond.instanceMethod yX11_tear ∈ TW := mTW 1364 (by decide +kernel) rfl
theorem se_X11_tear : Cond.selects RX11 yX11_tear yX11_tear ∈ TW := mTW 1365 (by decide +kernel) rfl
set_option maxRecDepth 30000 in
theorem cd_X11_tear : Cond.code yX11_tear cX11_tear 3 (some .int) ∈ TW := mTW 1366 rfl rfl
theorem ml_L_86 : Cond.methodLink RL 86 yX11_choose ∈ TW := mTW 1367 (by decide +kernel) rfl
theorem im_X11_choose : Cond.instanceMethod yX11_choose ∈ TW := mTW 1368 (by decide +kernel) rfl
theorem se_X11_choose : Cond.selects RX11 yX11_choose yX11_choose ∈ TW := mTW 1369 (by decide +kernel) rfl
set_option maxRecDepth 30000 in
theorem cd_X11_choose : Cond.code yX11_choose cX11_choose 7 (some .int) ∈ TW := mTW 1370 rfl rfl
theorem ml_X11_222 : Cond.methodLink RX11 222 yX11_isChoice ∈ TW := mTW 1371 (by decide +kernel) rfl
theorem st_X11_isChoice : Cond.static yX11_isChoice ∈ TW := mTW 1372 (by decide +kernel) rfl
set_option maxRecDepth 30000 in
theorem cd_X11_isChoice : Cond.code yX11_isChoice cX11_isChoice 1 (some .boolean) ∈ TW := mTW 1373 rfl rfl
theorem kl_X11_225 : Cond.constantLong RX11 225 (3) ∈ TW := mTW 1374 (by decide +kernel) rfl
theorem ml_X11_219 : Cond.methodLink RX11 219 yX11_awake ∈ TW := mTW 1375 (by decide +kernel) rfl
theorem im_X11_awake : Cond.instanceMethod yX11_awake ∈ TW := mTW 1377 (by decide +kernel) rfl
set_option maxRecDepth 30000 in
theorem cd_X11_awake : Cond.code yX11_awake cX11_awake 1 none ∈ TW := mTW 1378 rfl rfl
theorem ml_X11_227 : Cond.methodLink RX11 227 yX11_layKinds ∈ TW := mTW 1379 (by decide +kernel) rfl
theorem im_X11_layKinds : Cond.instanceMethod yX11_layKinds ∈ TW := mTW 1381 (by decide +kernel) rfl
set_option maxRecDepth 30000 in
theorem cd_X11_layKinds : Cond.code yX11_layKinds cX11_layKinds 2 none ∈ TW := mTW 1382 rfl rfl
theorem ml_X11_230 : Cond.methodLink RX11 230 yX11_tally ∈ TW := mTW 1383 (by decide +kernel) rfl
theorem im_X11_tally : Cond.instanceMethod yX11_tally ∈ TW := mTW 1385 (by decide +kernel) rfl
set_option maxRecDepth 30000 in
theorem cd_X11_tally : Cond.code yX11_tally cX11_tally 5 none ∈ TW := mTW 1386 rfl rfl
theorem ml_X11_240 : Cond.methodLink RX11 240 yX11_isIn ∈ TW := mTW 1387 (by decide +kernel) rfl
theorem im_X11_isIn : Cond.instanceMethod yX11_isIn ∈ TW := mTW 1389 (by decide +kernel) rfl
set_option maxRecDepth 30000 in
theorem cd_X11_isIn : Cond.code yX11_isIn cX11_isIn 5 (some .boolean) ∈ TW := mTW 1390 rfl rfl
theorem ml_X11_243 : Cond.methodLink RX11 243 yX11_groupOf ∈ TW := mTW 1391 (by decide +kernel) rfl
theorem im_X11_groupOf : Cond.instanceMethod yX11_groupOf ∈ TW := mTW 1393 (by decide +kernel) rfl
set_option maxRecDepth 30000 in
theorem cd_X11_groupOf : Cond.code yX11_groupOf cX11_groupOf 4 (some .int) ∈ TW := mTW 1394 rfl rfl
theorem ml_X11_246 : Cond.methodLink RX11 246 yX11_isAble ∈ TW := mTW 1395 (by decide +kernel) rfl
theorem im_X11_isAble : Cond.instanceMethod yX11_isAble ∈ TW := mTW 1397 (by decide +kernel) rfl
set_option maxRecDepth 30000 in
theorem cd_X11_isAble : Cond.code yX11_isAble cX11_isAble 2 (some .boolean) ∈ TW := mTW 1398 rfl rfl
theorem ml_L_90 : Cond.methodLink RL 90 yX11_many ∈ TW := mTW 1399 (by decide +kernel) rfl
theorem im_X11_many : Cond.instanceMethod yX11_many ∈ TW := mTW 1400 (by decide +kernel) rfl
theorem se_X11_many : Cond.selects RX11 yX11_many yX11_many ∈ TW := mTW 1401 (by decide +kernel) rfl
set_option maxRecDepth 30000 in
theorem cd_X11_many : Cond.code yX11_many cX11_many 6 (some .int) ∈ TW := mTW 1402 rfl rfl
theorem kl_X11_249 : Cond.constantLong RX11 249 (11) ∈ TW := mTW 1403 (by decide +kernel) rfl
theorem kl_X11_251 : Cond.constantLong RX11 251 (15) ∈ TW := mTW 1404 (by decide +kernel) rfl
theorem ml_L_94 : Cond.methodLink RL 94 yX11_share ∈ TW := mTW 1405 (by decide +kernel) rfl
theorem im_X11_share : Cond.instanceMethod yX11_share ∈ TW := mTW 1406 (by decide +kernel) rfl
theorem se_X11_share : Cond.selects RX11 yX11_share yX11_share ∈ TW := mTW 1407 (by decide +kernel) rfl
set_option maxRecDepth 30000 in
theorem cd_X11_share : Cond.code yX11_share cX11_share 3 (some .int) ∈ TW := mTW 1408 rfl rfl
theorem ml_X11_257 : Cond.methodLink RX11 257 yX11_lowest ∈ TW := mTW 1409 (by decide +kernel) rfl
theorem st_X11_lowest : Cond.static yX11_lowest ∈ TW := mTW 1410 (by decide +kernel) rfl
set_option maxRecDepth 30000 in
theorem cd_X11_lowest : Cond.code yX11_lowest cX11_lowest 5 (some .long) ∈ TW := mTW 1411 rfl rfl
theorem ml_X11_253 : Cond.methodLink RX11 253 yX11_common ∈ TW := mTW 1412 (by decide +kernel) rfl
theorem st_X11_common : Cond.static yX11_common ∈ TW := mTW 1413 (by decide +kernel) rfl
set_option maxRecDepth 30000 in
theorem cd_X11_common : Cond.code yX11_common cX11_common 10 (some .long) ∈ TW := mTW 1414 rfl rfl
theorem ml_L_98 : Cond.methodLink RL 98 yX11_best ∈ TW := mTW 1415 (by decide +kernel) rfl
theorem im_X11_best : Cond.instanceMethod yX11_best ∈ TW := mTW 1416 (by decide +kernel) rfl
theorem se_X11_best : Cond.selects RX11 yX11_best yX11_best ∈ TW := mTW 1417 (by decide +kernel) rfl
set_option maxRecDepth 30000 in
theorem cd_X11_best : Cond.code yX11_best cX11_best 9 (some .int) ∈ TW := mTW 1418 rfl rfl
theorem ml_X11_261 : Cond.methodLink RX11 261 yX11_groupMany ∈ TW := mTW 1419 (by decide +kernel) rfl
theorem im_X11_groupMany : Cond.instanceMethod yX11_groupMany ∈ TW := mTW 1421 (by decide +kernel) rfl
set_option maxRecDepth 30000 in
theorem cd_X11_groupMany : Cond.code yX11_groupMany cX11_groupMany 2 (some .int) ∈ TW := mTW 1422 rfl rfl
theorem ml_L_102 : Cond.methodLink RL 102 yX11_pairs ∈ TW := mTW 1423 (by decide +kernel) rfl
theorem im_X11_pairs : Cond.instanceMethod yX11_pairs ∈ TW := mTW 1424 (by decide +kernel) rfl
theorem se_X11_pairs : Cond.selects RX11 yX11_pairs yX11_pairs ∈ TW := mTW 1425 (by decide +kernel) rfl
set_option maxRecDepth 30000 in
theorem cd_X11_pairs : Cond.code yX11_pairs cX11_pairs 3 (some .int) ∈ TW := mTW 1426 rfl rfl
theorem ml_X11_264 : Cond.methodLink RX11 264 yX11_pairsOf ∈ TW := mTW 1427 (by decide +kernel) rfl
theorem im_X11_pairsOf : Cond.instanceMethod yX11_pairsOf ∈ TW := mTW 1429 (by decide +kernel) rfl
set_option maxRecDepth 30000 in
theorem cd_X11_pairsOf : Cond.code yX11_pairsOf cX11_pairsOf 7 (some .int) ∈ TW := mTW 1430 rfl rfl
theorem ml_L_106 : Cond.methodLink RL 106 yX11_spared ∈ TW := mTW 1431 (by decide +kernel) rfl
theorem im_X11_spared : Cond.instanceMethod yX11_spared ∈ TW := mTW 1432 (by decide +kernel) rfl
theorem se_X11_spared : Cond.selects RX11 yX11_spared yX11_spared ∈ TW := mTW 1433 (by decide +kernel) rfl
set_option maxRecDepth 30000 in
theorem cd_X11_spared : Cond.code yX11_spared cX11_spared 8 (some .int) ∈ TW := mTW 1434 rfl rfl
theorem ml_L_110 : Cond.methodLink RL 110 yX11_learnt ∈ TW := mTW 1435 (by decide +kernel) rfl
theorem im_X11_learnt : Cond.instanceMethod yX11_learnt ∈ TW := mTW 1436 (by decide +kernel) rfl
theorem se_X11_learnt : Cond.selects RX11 yX11_learnt yX11_learnt ∈ TW := mTW 1437 (by decide +kernel) rfl
set_option maxRecDepth 30000 in
theorem cd_X11_learnt : Cond.code yX11_learnt cX11_learnt 5 (some .int) ∈ TW := mTW 1438 rfl rfl
theorem ml_X11_281 : Cond.methodLink RX11 281 yX11_isSpan ∈ TW := mTW 1439 (by decide +kernel) rfl
theorem st_X11_isSpan : Cond.static yX11_isSpan ∈ TW := mTW 1440 (by decide +kernel) rfl
set_option maxRecDepth 30000 in
theorem cd_X11_isSpan : Cond.code yX11_isSpan cX11_isSpan 2 (some .boolean) ∈ TW := mTW 1441 rfl rfl
theorem kl_X11_279 : Cond.constantLong RX11 279 (-60) ∈ TW := mTW 1442 (by decide +kernel) rfl
theorem ml_X11_284 : Cond.methodLink RX11 284 yX11_layLearnt ∈ TW := mTW 1443 (by decide +kernel) rfl
theorem im_X11_layLearnt : Cond.instanceMethod yX11_layLearnt ∈ TW := mTW 1445 (by decide +kernel) rfl
set_option maxRecDepth 30000 in
theorem cd_X11_layLearnt : Cond.code yX11_layLearnt cX11_layLearnt 11 none ∈ TW := mTW 1446 rfl rfl
theorem ml_L_114 : Cond.methodLink RL 114 yX11_bounds ∈ TW := mTW 1447 (by decide +kernel) rfl
theorem im_X11_bounds : Cond.instanceMethod yX11_bounds ∈ TW := mTW 1448 (by decide +kernel) rfl
theorem se_X11_bounds : Cond.selects RX11 yX11_bounds yX11_bounds ∈ TW := mTW 1449 (by decide +kernel) rfl
set_option maxRecDepth 30000 in
theorem cd_X11_bounds : Cond.code yX11_bounds cX11_bounds 7 (some .int) ∈ TW := mTW 1450 rfl rfl
theorem ml_L_118 : Cond.methodLink RL 118 yX11_tens ∈ TW := mTW 1451 (by decide +kernel) rfl
theorem im_X11_tens : Cond.instanceMethod yX11_tens ∈ TW := mTW 1452 (by decide +kernel) rfl
theorem se_X11_tens : Cond.selects RX11 yX11_tens yX11_tens ∈ TW := mTW 1453 (by decide +kernel) rfl
set_option maxRecDepth 30000 in
theorem cd_X11_tens : Cond.code yX11_tens cX11_tens 9 (some .int) ∈ TW := mTW 1454 rfl rfl
theorem ml_L_123 : Cond.methodLink RL 123 yX11_span ∈ TW := mTW 1455 (by decide +kernel) rfl
theorem im_X11_span : Cond.instanceMethod yX11_span ∈ TW := mTW 1456 (by decide +kernel) rfl
theorem se_X11_span : Cond.selects RX11 yX11_span yX11_span ∈ TW := mTW 1457 (by decide +kernel) rfl
set_option maxRecDepth 30000 in
theorem cd_X11_span : Cond.code yX11_span cX11_span 5 (some .long) ∈ TW := mTW 1458 rfl rfl
theorem ml_X11_297 : Cond.methodLink RX11 297 yX11_areDrawn ∈ TW := mTW 1459 (by decide +kernel) rfl
theorem im_X11_areDrawn : Cond.instanceMethod yX11_areDrawn ∈ TW := mTW 1461 (by decide +kernel) rfl
set_option maxRecDepth 30000 in
theorem cd_X11_areDrawn : Cond.code yX11_areDrawn cX11_areDrawn 2 (some .boolean) ∈ TW := mTW 1462 rfl rfl
theorem ml_X11_294 : Cond.methodLink RX11 294 yX11_marked ∈ TW := mTW 1463 (by decide +kernel) rfl
theorem im_X11_marked : Cond.instanceMethod yX11_marked ∈ TW := mTW 1465 (by decide +kernel) rfl
set_option maxRecDepth 30000 in
theorem cd_X11_marked : Cond.code yX11_marked cX11_marked 3 (some .int) ∈ TW := mTW 1466 rfl rfl
theorem kl_X11_300 : Cond.constantLong RX11 300 (-1) ∈ TW := mTW 1467 (by decide +kernel) rfl
theorem kl_X11_302 : Cond.constantLong RX11 302 (-4) ∈ TW := mTW 1468 (by decide +kernel) rfl
theorem ml_X11_304 : Cond.methodLink RX11 304 yX11_nothing ∈ TW := mTW 1469 (by decide +kernel) rfl
theorem im_X11_nothing : Cond.instanceMethod yX11_nothing ∈ TW := mTW 1471 (by decide +kernel) rfl
set_option maxRecDepth 30000 in
theorem cd_X11_nothing : Cond.code yX11_nothing cX11_nothing 1 none ∈ TW := mTW 1472 rfl rfl
theorem ml_X11_307 : Cond.methodLink RX11 307 yX11_allMarriages ∈ TW := mTW 1473 (by decide +kernel) rfl
theorem im_X11_allMarriages : Cond.instanceMethod yX11_allMarriages ∈ TW := mTW 1475 (by decide +kernel) rfl
set_option maxRecDepth 30000 in
theorem cd_X11_allMarriages : Cond.code yX11_allMarriages cX11_allMarriages 3 (some .int) ∈ TW := mTW 1476 rfl rfl
theorem ml_X11_310 : Cond.methodLink RX11 310 yX11_plus ∈ TW := mTW 1477 (by decide +kernel) rfl
theorem im_X11_plus : Cond.instanceMethod yX11_plus ∈ TW := mTW 1479 (by decide +kernel) rfl
set_option maxRecDepth 30000 in
theorem cd_X11_plus : Cond.code yX11_plus cX11_plus 15 none ∈ TW := mTW 1480 rfl rfl
theorem ml_L_127 : Cond.methodLink RL 127 yX11_next ∈ TW := mTW 1481 (by decide +kernel) rfl
theorem im_X11_next : Cond.instanceMethod yX11_next ∈ TW := mTW 1482 (by decide +kernel) rfl
theorem se_X11_next : Cond.selects RX11 yX11_next yX11_next ∈ TW := mTW 1483 (by decide +kernel) rfl
set_option maxRecDepth 30000 in
theorem cd_X11_next : Cond.code yX11_next cX11_next 5 (some .int) ∈ TW := mTW 1484 rfl rfl
theorem ml_L_131 : Cond.methodLink RL 131 yX11_enough ∈ TW := mTW 1485 (by decide +kernel) rfl
theorem im_X11_enough : Cond.instanceMethod yX11_enough ∈ TW := mTW 1486 (by decide +kernel) rfl
theorem se_X11_enough : Cond.selects RX11 yX11_enough yX11_enough ∈ TW := mTW 1487 (by decide +kernel) rfl
set_option maxRecDepth 30000 in
theorem cd_X11_enough : Cond.code yX11_enough cX11_enough 10 (some .int) ∈ TW := mTW 1488 rfl rfl
theorem kl_X11_314 : Cond.constantLong RX11 314 (999) ∈ TW := mTW 1489 (by decide +kernel) rfl
theorem ml_L_135 : Cond.methodLink RL 135 yX11_reading ∈ TW := mTW 1490 (by decide +kernel) rfl
theorem im_X11_reading : Cond.instanceMethod yX11_reading ∈ TW := mTW 1491 (by decide +kernel) rfl
theorem se_X11_reading : Cond.selects RX11 yX11_reading yX11_reading ∈ TW := mTW 1492 (by decide +kernel) rfl
set_option maxRecDepth 30000 in
theorem cd_X11_reading : Cond.code yX11_reading cX11_reading 5 (some .long) ∈ TW := mTW 1493 rfl rfl
theorem ml_L_139 : Cond.methodLink RL 139 yX11_unwed ∈ TW := mTW 1494 (by decide +kernel) rfl
theorem im_X11_unwed : Cond.instanceMethod yX11_unwed ∈ TW := mTW 1495 (by decide +kernel) rfl
theorem se_X11_unwed : Cond.selects RX11 yX11_unwed yX11_unwed ∈ TW := mTW 1496 (by decide +kernel) rfl
set_option maxRecDepth 30000 in
theorem cd_X11_unwed : Cond.code yX11_unwed cX11_unwed 4 (some .int) ∈ TW := mTW 1497 rfl rfl
theorem ml_L_143 : Cond.methodLink RL 143 yX11_parts ∈ TW := mTW 1498 (by decide +kernel) rfl
theorem im_X11_parts : Cond.instanceMethod yX11_parts ∈ TW := mTW 1499 (by decide +kernel) rfl
theorem se_X11_parts : Cond.selects RX11 yX11_parts yX11_parts ∈ TW := mTW 1500 (by decide +kernel) rfl
set_option maxRecDepth 30000 in
theorem cd_X11_parts : Cond.code yX11_parts cX11_parts 30 (some .long) ∈ TW := mTW 1501 rfl rfl
theorem ml_L_147 : Cond.methodLink RL 147 yX11_worth ∈ TW := mTW 1502 (by decide +kernel) rfl
theorem im_X11_worth : Cond.instanceMethod yX11_worth ∈ TW := mTW 1503 (by decide +kernel) rfl
theorem se_X11_worth : Cond.selects RX11 yX11_worth yX11_worth ∈ TW := mTW 1504 (by decide +kernel) rfl
set_option maxRecDepth 30000 in
theorem cd_X11_worth : Cond.code yX11_worth cX11_worth 14 (some .int) ∈ TW := mTW 1505 rfl rfl
theorem kc_X11_316 : Cond.constant RX11 316 (-1000000) ∈ TW := mTW 1506 (by decide +kernel) rfl
theorem kc_X11_317 : Cond.constant RX11 317 (-1000004) ∈ TW := mTW 1507 (by decide +kernel) rfl
theorem ml_L_151 : Cond.methodLink RL 151 yX11_person ∈ TW := mTW 1508 (by decide +kernel) rfl
theorem im_X11_person : Cond.instanceMethod yX11_person ∈ TW := mTW 1509 (by decide +kernel) rfl
theorem se_X11_person : Cond.selects RX11 yX11_person yX11_person ∈ TW := mTW 1510 (by decide +kernel) rfl
set_option maxRecDepth 30000 in
theorem cd_X11_person : Cond.code yX11_person cX11_person 3 (some .int) ∈ TW := mTW 1511 rfl rfl
theorem ml_X11_318 : Cond.methodLink RX11 318 yX11_marksOf ∈ TW := mTW 1512 (by decide +kernel) rfl
theorem im_X11_marksOf : Cond.instanceMethod yX11_marksOf ∈ TW := mTW 1514 (by decide +kernel) rfl
set_option maxRecDepth 30000 in
theorem cd_X11_marksOf : Cond.code yX11_marksOf cX11_marksOf 5 (some .int) ∈ TW := mTW 1515 rfl rfl
theorem ml_X11_321 : Cond.methodLink RX11 321 yX11_isLater ∈ TW := mTW 1516 (by decide +kernel) rfl
theorem im_X11_isLater : Cond.instanceMethod yX11_isLater ∈ TW := mTW 1518 (by decide +kernel) rfl
set_option maxRecDepth 30000 in
theorem cd_X11_isLater : Cond.code yX11_isLater cX11_isLater 8 (some .boolean) ∈ TW := mTW 1519 rfl rfl
theorem ml_X11_325 : Cond.methodLink RX11 325 yX11_widest ∈ TW := mTW 1520 (by decide +kernel) rfl
theorem im_X11_widest : Cond.instanceMethod yX11_widest ∈ TW := mTW 1522 (by decide +kernel) rfl
set_option maxRecDepth 30000 in
theorem cd_X11_widest : Cond.code yX11_widest cX11_widest 7 (some .int) ∈ TW := mTW 1523 rfl rfl
theorem ml_L_155 : Cond.methodLink RL 155 yX11_twice ∈ TW := mTW 1524 (by decide +kernel) rfl
theorem im_X11_twice : Cond.instanceMethod yX11_twice ∈ TW := mTW 1525 (by decide +kernel) rfl
theorem se_X11_twice : Cond.selects RX11 yX11_twice yX11_twice ∈ TW := mTW 1526 (by decide +kernel) rfl
set_option maxRecDepth 30000 in
theorem cd_X11_twice : Cond.code yX11_twice cX11_twice 8 (some .int) ∈ TW := mTW 1527 rfl rfl
theorem ml_L_159 : Cond.methodLink RL 159 yX11_find ∈ TW := mTW 1528 (by decide +kernel) rfl
theorem im_X11_find : Cond.instanceMethod yX11_find ∈ TW := mTW 1529 (by decide +kernel) rfl
theorem se_X11_find : Cond.selects RX11 yX11_find yX11_find ∈ TW := mTW 1530 (by decide +kernel) rfl
set_option maxRecDepth 30000 in
theorem cd_X11_find : Cond.code yX11_find cX11_find 10 (some .int) ∈ TW := mTW 1531 rfl rfl
theorem ml_L_163 : Cond.methodLink RL 163 yX11_keep ∈ TW := mTW 1532 (by decide +kernel) rfl
theorem im_X11_keep : Cond.instanceMethod yX11_keep ∈ TW := mTW 1533 (by decide +kernel) rfl
theorem se_X11_keep : Cond.selects RX11 yX11_keep yX11_keep ∈ TW := mTW 1534 (by decide +kernel) rfl
set_option maxRecDepth 30000 in
theorem cd_X11_keep : Cond.code yX11_keep cX11_keep 3 (some .int) ∈ TW := mTW 1535 rfl rfl
theorem ml_L_167 : Cond.methodLink RL 167 yX11_back ∈ TW := mTW 1536 (by decide +kernel) rfl
theorem im_X11_back : Cond.instanceMethod yX11_back ∈ TW := mTW 1537 (by decide +kernel) rfl
theorem se_X11_back : Cond.selects RX11 yX11_back yX11_back ∈ TW := mTW 1538 (by decide +kernel) rfl
set_option maxRecDepth 30000 in
theorem cd_X11_back : Cond.code yX11_back cX11_back 5 (some .int) ∈ TW := mTW 1539 rfl rfl
theorem ml_L_171 : Cond.methodLink RL 171 yX11_sheet ∈ TW := mTW 1540 (by decide +kernel) rfl
theorem im_X11_sheet : Cond.instanceMethod yX11_sheet ∈ TW := mTW 1541 (by decide +kernel) rfl
theorem se_X11_sheet : Cond.selects RX11 yX11_sheet yX11_sheet ∈ TW := mTW 1542 (by decide +kernel) rfl
set_option maxRecDepth 30000 in
theorem cd_X11_sheet : Cond.code yX11_sheet cX11_sheet 5 (some .int) ∈ TW := mTW 1543 rfl rfl
theorem ml_L_175 : Cond.methodLink RL 175 yX11_lay ∈ TW := mTW 1544 (by decide +kernel) rfl
theorem im_X11_lay : Cond.instanceMethod yX11_lay ∈ TW := mTW 1545 (by decide +kernel) rfl
theorem se_X11_lay : Cond.selects RX11 yX11_lay yX11_lay ∈ TW := mTW 1546 (by decide +kernel) rfl
set_option maxRecDepth 30000 in
theorem cd_X11_lay : Cond.code yX11_lay cX11_lay 4 (some .int) ∈ TW := mTW 1547 rfl rfl
theorem ml_L_179 : Cond.methodLink RL 179 yX11_read ∈ TW := mTW 1548 (by decide +kernel) rfl
theorem im_X11_read : Cond.instanceMethod yX11_read ∈ TW := mTW 1549 (by decide +kernel) rfl
theorem se_X11_read : Cond.selects RX11 yX11_read yX11_read ∈ TW := mTW 1550 (by decide +kernel) rfl
set_option maxRecDepth 30000 in
theorem cd_X11_read : Cond.code yX11_read cX11_read 9 (some .int) ∈ TW := mTW 1551 rfl rfl
theorem kl_X11_328 : Cond.constantLong RX11 328 (12) ∈ TW := mTW 1552 (by decide +kernel) rfl
theorem ml_L_183 : Cond.methodLink RL 183 yX11_torn ∈ TW := mTW 1553 (by decide +kernel) rfl
theorem im_X11_torn : Cond.instanceMethod yX11_torn ∈ TW := mTW 1554 (by decide +kernel) rfl
theorem se_X11_torn : Cond.selects RX11 yX11_torn yX11_torn ∈ TW := mTW 1555 (by decide +kernel) rfl
set_option maxRecDepth 30000 in
theorem cd_X11_torn : Cond.code yX11_torn cX11_torn 1 (some .int) ∈ TW := mTW 1556 rfl rfl
theorem ml_L_187 : Cond.methodLink RL 187 yX11_count ∈ TW := mTW 1557 (by decide +kernel) rfl
theorem im_X11_count : Cond.instanceMethod yX11_count ∈ TW := mTW 1558 (by decide +kernel) rfl
theorem se_X11_count : Cond.selects RX11 yX11_count yX11_count ∈ TW := mTW 1559 (by decide +kernel) rfl
set_option maxRecDepth 30000 in
theorem cd_X11_count : Cond.code yX11_count cX11_count 4 (some .int) ∈ TW := mTW 1560 rfl rfl
theorem kl_L_13 : Cond.constantLong RL 13 (4294967295) ∈ TW := mTW 1561 (by decide +kernel) rfl
theorem fl_J0_9 : Cond.fieldLink RJ0 9 "java/lang/String" "value" "[B" ∈ TW := mTW 1562 (by decide +kernel) rfl
theorem fl_J0_15 : Cond.fieldLink RJ0 15 "java/lang/String" "coder" "B" ∈ TW := mTW 1563 (by decide +kernel) rfl
theorem uw_X0 : ∀ w ∈ wsX00, w ∈ TW := fun w hw => by
  have h1 : wsX00 = ([251, 253, 255] : List Nat).filterMap (fun i => lw_tbl[i]?) := by decide +kernel
  have h2 : wsX00.all goodWord = true := by decide +kernel
  refine List.mem_filter.mpr ⟨?_, List.all_eq_true.mp h2 w hw⟩
  rw [h1] at hw
  obtain ⟨i, -, hi⟩ := List.mem_filterMap.mp hw
  exact List.mem_of_getElem? hi
theorem uw_X1 : ∀ w ∈ wsX10, w ∈ TW := fun w hw => by
  have h1 : wsX10 = ([304, 306, 308, 310, 312] : List Nat).filterMap (fun i => lw_tbl[i]?) := by decide +kernel
  have h2 : wsX10.all goodWord = true := by decide +kernel
  refine List.mem_filter.mpr ⟨?_, List.all_eq_true.mp h2 w hw⟩
  rw [h1] at hw
  obtain ⟨i, -, hi⟩ := List.mem_filterMap.mp hw
  exact List.mem_of_getElem? hi
theorem uw_X2 : ∀ w ∈ wsX20, w ∈ TW := fun w hw => by
  have h1 : wsX20 = ([334, 336, 338, 340] : List Nat).filterMap (fun i => lw_tbl[i]?) := by decide +kernel
  have h2 : wsX20.all goodWord = true := by decide +kernel
  refine List.mem_filter.mpr ⟨?_, List.all_eq_true.mp h2 w hw⟩
  rw [h1] at hw
  obtain ⟨i, -, hi⟩ := List.mem_filterMap.mp hw
  exact List.mem_of_getElem? hi
theorem uw_X3 : ∀ w ∈ wsX30, w ∈ TW := fun w hw => by
  have h1 : wsX30 = ([272, 274, 276, 278, 280] : List Nat).filterMap (fun i => lw_tbl[i]?) := by decide +kernel
  have h2 : wsX30.all goodWord = true := by decide +kernel
  refine List.mem_filter.mpr ⟨?_, List.all_eq_true.mp h2 w hw⟩
  rw [h1] at hw
  obtain ⟨i, -, hi⟩ := List.mem_filterMap.mp hw
  exact List.mem_of_getElem? hi
theorem uw_X4 : ∀ w ∈ wsX40, w ∈ TW := fun w hw => by
  have h1 : wsX40 = ([213, 215, 217, 219, 221, 223, 225, 227, 229, 231] : List Nat).filterMap (fun i => lw_tbl[i]?) := by decide +kernel
  have h2 : wsX40.all goodWord = true := by decide +kernel
  refine List.mem_filter.mpr ⟨?_, List.all_eq_true.mp h2 w hw⟩
  rw [h1] at hw
  obtain ⟨i, -, hi⟩ := List.mem_filterMap.mp hw
  exact List.mem_of_getElem? hi
theorem uw_X5 : ∀ w ∈ wsX50, w ∈ TW := fun w hw => by
  have h1 : wsX50 = ([150, 152, 154, 156, 158, 160, 162, 164, 166] : List Nat).filterMap (fun i => lw_tbl[i]?) := by decide +kernel
  have h2 : wsX50.all goodWord = true := by decide +kernel
  refine List.mem_filter.mpr ⟨?_, List.all_eq_true.mp h2 w hw⟩
  rw [h1] at hw
  obtain ⟨i, -, hi⟩ := List.mem_filterMap.mp hw
  exact List.mem_of_getElem? hi
theorem uw_X6 : ∀ w ∈ wsX60, w ∈ TW := fun w hw => by
  have h1 : wsX60 = ([391, 393] : List Nat).filterMap (fun i => lw_tbl[i]?) := by decide +kernel
  have h2 : wsX60.all goodWord = true := by decide +kernel
  refine List.mem_filter.mpr ⟨?_, List.all_eq_true.mp h2 w hw⟩
  rw [h1] at hw
  obtain ⟨i, -, hi⟩ := List.mem_filterMap.mp hw
  exact List.mem_of_getElem? hi
theorem uw_X7 : ∀ w ∈ wsX70, w ∈ TW := fun w hw => by
  have h1 : wsX70 = ([355, 357, 359] : List Nat).filterMap (fun i => lw_tbl[i]?) := by decide +kernel
  have h2 : wsX70.all goodWord = true := by decide +kernel
  refine List.mem_filter.mpr ⟨?_, List.all_eq_true.mp h2 w hw⟩
  rw [h1] at hw
  obtain ⟨i, -, hi⟩ := List.mem_filterMap.mp hw
  exact List.mem_of_getElem? hi
theorem uw_X8 : ∀ w ∈ wsX80, w ∈ TW := fun w hw => by
  have h1 : wsX80 = ([374, 376, 378] : List Nat).filterMap (fun i => lw_tbl[i]?) := by decide +kernel
  have h2 : wsX80.all goodWord = true := by decide +kernel
  refine List.mem_filter.mpr ⟨?_, List.all_eq_true.mp h2 w hw⟩
  rw [h1] at hw
  obtain ⟨i, -, hi⟩ := List.mem_filterMap.mp hw
  exact List.mem_of_getElem? hi
theorem uw_X9 : ∀ w ∈ wsX90, w ∈ TW := fun w hw => by
  have h1 : wsX90 = ([127, 129] : List Nat).filterMap (fun i => lw_tbl[i]?) := by decide +kernel
  have h2 : wsX90.all goodWord = true := by decide +kernel
  refine List.mem_filter.mpr ⟨?_, List.all_eq_true.mp h2 w hw⟩
  rw [h1] at hw
  obtain ⟨i, -, hi⟩ := List.mem_filterMap.mp hw
  exact List.mem_of_getElem? hi
theorem uw_X10 : ∀ w ∈ wsX100, w ∈ TW := fun w hw => by
  have h1 : wsX100 = ([413, 415, 417, 419, 421, 423, 425, 427, 429, 431, 433, 435, 437, 439, 441, 443] : List Nat).filterMap (fun i => lw_tbl[i]?) := by decide +kernel
  have h2 : wsX100.all goodWord = true := by decide +kernel
  refine List.mem_filter.mpr ⟨?_, List.all_eq_true.mp h2 w hw⟩
  rw [h1] at hw
  obtain ⟨i, -, hi⟩ := List.mem_filterMap.mp hw
  exact List.mem_of_getElem? hi
theorem uw_X11 : ∀ w ∈ wsX110, w ∈ TW := fun w hw => by
  have h1 : wsX110 = ([1107, 1109, 1111, 1113, 1115, 1117, 1119, 1121, 1123, 1125, 1127, 1129, 1131, 1133, 1135, 1137, 1139, 1141, 1143, 1145, 1147, 1149, 1151, 1153, 1155, 1157, 1159, 1161, 1163, 1165, 1167, 1169, 1171, 1173, 1175] : List Nat).filterMap (fun i => lw_tbl[i]?) := by decide +kernel
  have h2 : wsX110.all goodWord = true := by decide +kernel
  refine List.mem_filter.mpr ⟨?_, List.all_eq_true.mp h2 w hw⟩
  rw [h1] at hw
  obtain ⟨i, -, hi⟩ := List.mem_filterMap.mp hw
  exact List.mem_of_getElem? hi
