theorem tbl_good : ∀ w ∈ gtbl, goodWord w = true := fun w h => (List.mem_filter.mp h).2
theorem inX0 : ∀ w ∈ wsX00, w ∈ gtbl := fun w h => List.mem_filter.mpr ⟨(show ∀ w ∈ wsX00, w ∈ lw_tbl by decide +kernel) w h, (show ∀ w ∈ wsX00, goodWord w = true by decide +kernel) w h⟩
theorem inX1 : ∀ w ∈ wsX10, w ∈ gtbl := fun w h => List.mem_filter.mpr ⟨(show ∀ w ∈ wsX10, w ∈ lw_tbl by decide +kernel) w h, (show ∀ w ∈ wsX10, goodWord w = true by decide +kernel) w h⟩
theorem inX2 : ∀ w ∈ wsX20, w ∈ gtbl := fun w h => List.mem_filter.mpr ⟨(show ∀ w ∈ wsX20, w ∈ lw_tbl by decide +kernel) w h, (show ∀ w ∈ wsX20, goodWord w = true by decide +kernel) w h⟩
theorem inX3 : ∀ w ∈ wsX30, w ∈ gtbl := fun w h => List.mem_filter.mpr ⟨(show ∀ w ∈ wsX30, w ∈ lw_tbl by decide +kernel) w h, (show ∀ w ∈ wsX30, goodWord w = true by decide +kernel) w h⟩
theorem inX4 : ∀ w ∈ wsX40, w ∈ gtbl := fun w h => List.mem_filter.mpr ⟨(show ∀ w ∈ wsX40, w ∈ lw_tbl by decide +kernel) w h, (show ∀ w ∈ wsX40, goodWord w = true by decide +kernel) w h⟩
theorem inX5 : ∀ w ∈ wsX50, w ∈ gtbl := fun w h => List.mem_filter.mpr ⟨(show ∀ w ∈ wsX50, w ∈ lw_tbl by decide +kernel) w h, (show ∀ w ∈ wsX50, goodWord w = true by decide +kernel) w h⟩
theorem inX6 : ∀ w ∈ wsX60, w ∈ gtbl := fun w h => List.mem_filter.mpr ⟨(show ∀ w ∈ wsX60, w ∈ lw_tbl by decide +kernel) w h, (show ∀ w ∈ wsX60, goodWord w = true by decide +kernel) w h⟩
theorem inX7 : ∀ w ∈ wsX70, w ∈ gtbl := fun w h => List.mem_filter.mpr ⟨(show ∀ w ∈ wsX70, w ∈ lw_tbl by decide +kernel) w h, (show ∀ w ∈ wsX70, goodWord w = true by decide +kernel) w h⟩
theorem inX8 : ∀ w ∈ wsX80, w ∈ gtbl := fun w h => List.mem_filter.mpr ⟨(show ∀ w ∈ wsX80, w ∈ lw_tbl by decide +kernel) w h, (show ∀ w ∈ wsX80, goodWord w = true by decide +kernel) w h⟩
theorem se_yX0_readStep : Cond.selects RX0 yX0_readStep yX0_readStep ∈ gtbl := List.mem_filter.mpr ⟨List.mem_of_getElem? (i := 0) (by decide +kernel), rfl⟩
theorem se_yX0_readFrom : Cond.selects RX0 yX0_readFrom yX0_readFrom ∈ gtbl := List.mem_filter.mpr ⟨List.mem_of_getElem? (i := 1) (by decide +kernel), rfl⟩
theorem se_yX0_readNumber : Cond.selects RX0 yX0_readNumber yX0_readNumber ∈ gtbl := List.mem_filter.mpr ⟨List.mem_of_getElem? (i := 2) (by decide +kernel), rfl⟩
theorem se_yX0_digitAtPlace : Cond.selects RX0 yX0_digitAtPlace yX0_digitAtPlace ∈ gtbl := List.mem_filter.mpr ⟨List.mem_of_getElem? (i := 3) (by decide +kernel), rfl⟩
theorem se_yX0_readSpan : Cond.selects RX0 yX0_readSpan yX0_readSpan ∈ gtbl := List.mem_filter.mpr ⟨List.mem_of_getElem? (i := 4) (by decide +kernel), rfl⟩
theorem se_yX3_inForce : Cond.selects RX3 yX3_inForce yX3_inForce ∈ gtbl := List.mem_filter.mpr ⟨List.mem_of_getElem? (i := 5) (by decide +kernel), rfl⟩
theorem se_yX7_straightPull : Cond.selects RX7 yX7_straightPull yX7_straightPull ∈ gtbl := List.mem_filter.mpr ⟨List.mem_of_getElem? (i := 6) (by decide +kernel), rfl⟩
theorem se_yX7_bentPull : Cond.selects RX7 yX7_bentPull yX7_bentPull ∈ gtbl := List.mem_filter.mpr ⟨List.mem_of_getElem? (i := 7) (by decide +kernel), rfl⟩
theorem se_yX7_sharedPull : Cond.selects RX7 yX7_sharedPull yX7_sharedPull ∈ gtbl := List.mem_filter.mpr ⟨List.mem_of_getElem? (i := 8) (by decide +kernel), rfl⟩
theorem se_yX7_sweptBy : Cond.selects RX7 yX7_sweptBy yX7_sweptBy ∈ gtbl := List.mem_filter.mpr ⟨List.mem_of_getElem? (i := 9) (by decide +kernel), rfl⟩
theorem se_yX7_isForbidden : Cond.selects RX7 yX7_isForbidden yX7_isForbidden ∈ gtbl := List.mem_filter.mpr ⟨List.mem_of_getElem? (i := 10) (by decide +kernel), rfl⟩
theorem se_yX7_doerOf : Cond.selects RX7 yX7_doerOf yX7_doerOf ∈ gtbl := List.mem_filter.mpr ⟨List.mem_of_getElem? (i := 11) (by decide +kernel), rfl⟩
theorem se_yX7_nearestHand : Cond.selects RX7 yX7_nearestHand yX7_nearestHand ∈ gtbl := List.mem_filter.mpr ⟨List.mem_of_getElem? (i := 12) (by decide +kernel), rfl⟩
theorem se_yX7_leastHandNotIll : Cond.selects RX7 yX7_leastHandNotIll yX7_leastHandNotIll ∈ gtbl := List.mem_filter.mpr ⟨List.mem_of_getElem? (i := 13) (by decide +kernel), rfl⟩
theorem se_yX7_dueOf : Cond.selects RX7 yX7_dueOf yX7_dueOf ∈ gtbl := List.mem_filter.mpr ⟨List.mem_of_getElem? (i := 14) (by decide +kernel), rfl⟩
theorem se_yX7_wasBeyond : Cond.selects RX7 yX7_wasBeyond yX7_wasBeyond ∈ gtbl := List.mem_filter.mpr ⟨List.mem_of_getElem? (i := 15) (by decide +kernel), rfl⟩
theorem se_yX7_sweeperBy : Cond.selects RX7 yX7_sweeperBy yX7_sweeperBy ∈ gtbl := List.mem_filter.mpr ⟨List.mem_of_getElem? (i := 16) (by decide +kernel), rfl⟩
theorem se_yX7_waitingSince : Cond.selects RX7 yX7_waitingSince yX7_waitingSince ∈ gtbl := List.mem_filter.mpr ⟨List.mem_of_getElem? (i := 17) (by decide +kernel), rfl⟩
theorem se_yX6_keepTried : Cond.selects RX6 yX6_keepTried yX6_keepTried ∈ gtbl := List.mem_filter.mpr ⟨List.mem_of_getElem? (i := 18) (by decide +kernel), rfl⟩
theorem se_yX8_faultAlone : Cond.selects RX8 yX8_faultAlone yX8_faultAlone ∈ gtbl := List.mem_filter.mpr ⟨List.mem_of_getElem? (i := 19) (by decide +kernel), rfl⟩
theorem se_yX8_reads : Cond.selects RX8 yX8_reads yX8_reads ∈ gtbl := List.mem_filter.mpr ⟨List.mem_of_getElem? (i := 20) (by decide +kernel), rfl⟩
theorem se_yX8_isDigit : Cond.selects RX8 yX8_isDigit yX8_isDigit ∈ gtbl := List.mem_filter.mpr ⟨List.mem_of_getElem? (i := 21) (by decide +kernel), rfl⟩
theorem se_yX8_spanBy : Cond.selects RX8 yX8_spanBy yX8_spanBy ∈ gtbl := List.mem_filter.mpr ⟨List.mem_of_getElem? (i := 22) (by decide +kernel), rfl⟩
theorem se_yX8_isFlue : Cond.selects RX8 yX8_isFlue yX8_isFlue ∈ gtbl := List.mem_filter.mpr ⟨List.mem_of_getElem? (i := 23) (by decide +kernel), rfl⟩
theorem se_yX8_of : Cond.selects RX8 yX8_of yX8_of ∈ gtbl := List.mem_filter.mpr ⟨List.mem_of_getElem? (i := 24) (by decide +kernel), rfl⟩
theorem se_yX8_isForbidden : Cond.selects RX8 yX8_isForbidden yX8_isForbidden ∈ gtbl := List.mem_filter.mpr ⟨List.mem_of_getElem? (i := 25) (by decide +kernel), rfl⟩
theorem se_yX8_knownOn : Cond.selects RX8 yX8_knownOn yX8_knownOn ∈ gtbl := List.mem_filter.mpr ⟨List.mem_of_getElem? (i := 26) (by decide +kernel), rfl⟩
theorem se_yX8_doer : Cond.selects RX8 yX8_doer yX8_doer ∈ gtbl := List.mem_filter.mpr ⟨List.mem_of_getElem? (i := 27) (by decide +kernel), rfl⟩
theorem se_yX8_dueBy : Cond.selects RX8 yX8_dueBy yX8_dueBy ∈ gtbl := List.mem_filter.mpr ⟨List.mem_of_getElem? (i := 28) (by decide +kernel), rfl⟩
theorem se_yX8_wayOf : Cond.selects RX8 yX8_wayOf yX8_wayOf ∈ gtbl := List.mem_filter.mpr ⟨List.mem_of_getElem? (i := 29) (by decide +kernel), rfl⟩
theorem se_yX8_goesOn : Cond.selects RX8 yX8_goesOn yX8_goesOn ∈ gtbl := List.mem_filter.mpr ⟨List.mem_of_getElem? (i := 30) (by decide +kernel), rfl⟩
theorem in_L : Cond.initialized RL ∈ gtbl := List.mem_filter.mpr ⟨List.mem_of_getElem? (i := 31) (by decide +kernel), rfl⟩
theorem in_X7 : Cond.initialized RX7 ∈ gtbl := List.mem_filter.mpr ⟨List.mem_of_getElem? (i := 32) (by decide +kernel), rfl⟩
theorem in_X0 : Cond.initialized RX0 ∈ gtbl := List.mem_filter.mpr ⟨List.mem_of_getElem? (i := 33) (by decide +kernel), rfl⟩
theorem in_X3 : Cond.initialized RX3 ∈ gtbl := List.mem_filter.mpr ⟨List.mem_of_getElem? (i := 34) (by decide +kernel), rfl⟩
theorem in_X2 : Cond.initialized RX2 ∈ gtbl := List.mem_filter.mpr ⟨List.mem_of_getElem? (i := 35) (by decide +kernel), rfl⟩
theorem in_X4 : Cond.initialized RX4 ∈ gtbl := List.mem_filter.mpr ⟨List.mem_of_getElem? (i := 36) (by decide +kernel), rfl⟩
theorem in_X1 : Cond.initialized RX1 ∈ gtbl := List.mem_filter.mpr ⟨List.mem_of_getElem? (i := 37) (by decide +kernel), rfl⟩
theorem in_X5 : Cond.initialized RX5 ∈ gtbl := List.mem_filter.mpr ⟨List.mem_of_getElem? (i := 38) (by decide +kernel), rfl⟩
theorem in_X6 : Cond.initialized RX6 ∈ gtbl := List.mem_filter.mpr ⟨List.mem_of_getElem? (i := 39) (by decide +kernel), rfl⟩
theorem in_X8 : Cond.initialized RX8 ∈ gtbl := List.mem_filter.mpr ⟨List.mem_of_getElem? (i := 40) (by decide +kernel), rfl⟩
theorem in_J9 : Cond.initialized RJ9 ∈ gtbl := List.mem_filter.mpr ⟨List.mem_of_getElem? (i := 41) (by decide +kernel), rfl⟩
theorem kl_L_7 : Cond.classLink RL 7 RX7 ∈ gtbl := List.mem_filter.mpr ⟨List.mem_of_getElem? (i := 42) (by decide +kernel), rfl⟩
theorem ia_X7 : Cond.instantiable RX7 11 ∈ gtbl := List.mem_filter.mpr ⟨List.mem_of_getElem? (i := 43) (by decide +kernel), rfl⟩
theorem ml_L_9 : Cond.methodLink RL 9 yX7_init ∈ gtbl := List.mem_filter.mpr ⟨List.mem_of_getElem? (i := 44) (by decide +kernel), rfl⟩
theorem im_yX7_init : Cond.instanceMethod yX7_init ∈ gtbl := List.mem_filter.mpr ⟨List.mem_of_getElem? (i := 45) (by decide +kernel), rfl⟩
theorem co_yX7_init : Cond.code yX7_init cX7_init 1 none ∈ gtbl := List.mem_filter.mpr ⟨List.mem_of_getElem? (i := 46) (by decide +kernel), rfl⟩
theorem ml_X7_1 : Cond.methodLink RX7 1 Lib.objectInit ∈ gtbl := List.mem_filter.mpr ⟨List.mem_of_getElem? (i := 47) (by decide +kernel), rfl⟩
theorem im_Lib_objectInit : Cond.instanceMethod Lib.objectInit ∈ gtbl := List.mem_filter.mpr ⟨List.mem_of_getElem? (i := 48) (by decide +kernel), rfl⟩
theorem co_objinit : Cond.code Lib.objectInit ⟨#[0xb1]⟩ 1 none ∈ gtbl := List.mem_filter.mpr ⟨List.mem_of_getElem? (i := 49) (by decide +kernel), rfl⟩
theorem kl_X7_7 : Cond.classLink RX7 7 RX0 ∈ gtbl := List.mem_filter.mpr ⟨List.mem_of_getElem? (i := 50) (by decide +kernel), rfl⟩
theorem ia_X0 : Cond.instantiable RX0 9 ∈ gtbl := List.mem_filter.mpr ⟨List.mem_of_getElem? (i := 51) (by decide +kernel), rfl⟩
theorem mn_X7_9 : Cond.methodLinkNest RX7 9 yX0_init "FlueRounds" ∈ lw_tbl := List.mem_of_getElem? (i := 52) (by decide +kernel)
theorem im_yX0_init : Cond.instanceMethod yX0_init ∈ gtbl := List.mem_filter.mpr ⟨List.mem_of_getElem? (i := 53) (by decide +kernel), rfl⟩
theorem co_yX0_init : Cond.code yX0_init cX0_init 1 none ∈ gtbl := List.mem_filter.mpr ⟨List.mem_of_getElem? (i := 54) (by decide +kernel), rfl⟩
theorem ml_X0_3 : Cond.methodLink RX0 3 Lib.objectInit ∈ gtbl := List.mem_filter.mpr ⟨List.mem_of_getElem? (i := 55) (by decide +kernel), rfl⟩
theorem fl_X0_11 : Cond.fieldLink RX0 11 "FlueRounds$Draft" "bytes" "[I" ∈ gtbl := List.mem_filter.mpr ⟨List.mem_of_getElem? (i := 56) (by decide +kernel), rfl⟩
theorem fl_X0_15 : Cond.fieldLink RX0 15 "FlueRounds$Draft" "size" "I" ∈ gtbl := List.mem_filter.mpr ⟨List.mem_of_getElem? (i := 57) (by decide +kernel), rfl⟩
theorem fl_X7_85 : Cond.fieldLink RX7 85 "FlueRounds$Draft" "size" "I" ∈ gtbl := List.mem_filter.mpr ⟨List.mem_of_getElem? (i := 58) (by decide +kernel), rfl⟩
theorem fl_X0_19 : Cond.fieldLink RX0 19 "FlueRounds$Draft" "itemFuel" "[I" ∈ gtbl := List.mem_filter.mpr ⟨List.mem_of_getElem? (i := 59) (by decide +kernel), rfl⟩
theorem fl_X3_36 : Cond.fieldLink RX3 36 "FlueRounds$Draft" "itemFuel" "[I" ∈ gtbl := List.mem_filter.mpr ⟨List.mem_of_getElem? (i := 60) (by decide +kernel), rfl⟩
theorem fl_X0_22 : Cond.fieldLink RX0 22 "FlueRounds$Draft" "itemSpan" "[I" ∈ gtbl := List.mem_filter.mpr ⟨List.mem_of_getElem? (i := 61) (by decide +kernel), rfl⟩
theorem fl_X3_37 : Cond.fieldLink RX3 37 "FlueRounds$Draft" "itemSpan" "[I" ∈ gtbl := List.mem_filter.mpr ⟨List.mem_of_getElem? (i := 62) (by decide +kernel), rfl⟩
theorem fl_X0_25 : Cond.fieldLink RX0 25 "FlueRounds$Draft" "itemFrom" "[I" ∈ gtbl := List.mem_filter.mpr ⟨List.mem_of_getElem? (i := 63) (by decide +kernel), rfl⟩
theorem fl_X3_38 : Cond.fieldLink RX3 38 "FlueRounds$Draft" "itemFrom" "[I" ∈ gtbl := List.mem_filter.mpr ⟨List.mem_of_getElem? (i := 64) (by decide +kernel), rfl⟩
theorem fl_X0_28 : Cond.fieldLink RX0 28 "FlueRounds$Draft" "items" "I" ∈ gtbl := List.mem_filter.mpr ⟨List.mem_of_getElem? (i := 65) (by decide +kernel), rfl⟩
theorem fl_X3_33 : Cond.fieldLink RX3 33 "FlueRounds$Draft" "items" "I" ∈ gtbl := List.mem_filter.mpr ⟨List.mem_of_getElem? (i := 66) (by decide +kernel), rfl⟩
theorem fl_X0_31 : Cond.fieldLink RX0 31 "FlueRounds$Draft" "place" "I" ∈ gtbl := List.mem_filter.mpr ⟨List.mem_of_getElem? (i := 67) (by decide +kernel), rfl⟩
theorem fl_X0_34 : Cond.fieldLink RX0 34 "FlueRounds$Draft" "number" "I" ∈ gtbl := List.mem_filter.mpr ⟨List.mem_of_getElem? (i := 68) (by decide +kernel), rfl⟩
theorem fl_X0_37 : Cond.fieldLink RX0 37 "FlueRounds$Draft" "from" "I" ∈ gtbl := List.mem_filter.mpr ⟨List.mem_of_getElem? (i := 69) (by decide +kernel), rfl⟩
theorem ac_int : Cond.arrayClass .int ∈ gtbl := List.mem_filter.mpr ⟨List.mem_of_getElem? (i := 89) (by decide +kernel), rfl⟩
theorem kl_X7_16 : Cond.classLink RX7 16 RX3 ∈ gtbl := List.mem_filter.mpr ⟨List.mem_of_getElem? (i := 90) (by decide +kernel), rfl⟩
theorem ia_X3 : Cond.instantiable RX3 6 ∈ gtbl := List.mem_filter.mpr ⟨List.mem_of_getElem? (i := 91) (by decide +kernel), rfl⟩
theorem mn_X7_18 : Cond.methodLinkNest RX7 18 yX3_init "FlueRounds" ∈ lw_tbl := List.mem_of_getElem? (i := 92) (by decide +kernel)
theorem im_yX3_init : Cond.instanceMethod yX3_init ∈ gtbl := List.mem_filter.mpr ⟨List.mem_of_getElem? (i := 93) (by decide +kernel), rfl⟩
theorem co_yX3_init : Cond.code yX3_init cX3_init 1 none ∈ gtbl := List.mem_filter.mpr ⟨List.mem_of_getElem? (i := 94) (by decide +kernel), rfl⟩
theorem ml_X3_3 : Cond.methodLink RX3 3 Lib.objectInit ∈ gtbl := List.mem_filter.mpr ⟨List.mem_of_getElem? (i := 95) (by decide +kernel), rfl⟩
theorem fl_X3_11 : Cond.fieldLink RX3 11 "FlueRounds$LawBook" "told" "[I" ∈ gtbl := List.mem_filter.mpr ⟨List.mem_of_getElem? (i := 96) (by decide +kernel), rfl⟩
theorem fl_X3_15 : Cond.fieldLink RX3 15 "FlueRounds$LawBook" "start" "[I" ∈ gtbl := List.mem_filter.mpr ⟨List.mem_of_getElem? (i := 97) (by decide +kernel), rfl⟩
theorem fl_X3_20 : Cond.fieldLink RX3 20 "FlueRounds$LawBook" "itemFuel" "[I" ∈ gtbl := List.mem_filter.mpr ⟨List.mem_of_getElem? (i := 98) (by decide +kernel), rfl⟩
theorem fl_X3_23 : Cond.fieldLink RX3 23 "FlueRounds$LawBook" "itemSpan" "[I" ∈ gtbl := List.mem_filter.mpr ⟨List.mem_of_getElem? (i := 99) (by decide +kernel), rfl⟩
theorem fl_X3_26 : Cond.fieldLink RX3 26 "FlueRounds$LawBook" "itemFrom" "[I" ∈ gtbl := List.mem_filter.mpr ⟨List.mem_of_getElem? (i := 100) (by decide +kernel), rfl⟩
theorem fl_X3_29 : Cond.fieldLink RX3 29 "FlueRounds$LawBook" "size" "I" ∈ gtbl := List.mem_filter.mpr ⟨List.mem_of_getElem? (i := 101) (by decide +kernel), rfl⟩
theorem fl_X7_243 : Cond.fieldLink RX7 243 "FlueRounds$LawBook" "size" "I" ∈ gtbl := List.mem_filter.mpr ⟨List.mem_of_getElem? (i := 102) (by decide +kernel), rfl⟩
theorem kl_X7_23 : Cond.classLink RX7 23 RX2 ∈ gtbl := List.mem_filter.mpr ⟨List.mem_of_getElem? (i := 116) (by decide +kernel), rfl⟩
theorem ia_X2 : Cond.instantiable RX2 12 ∈ gtbl := List.mem_filter.mpr ⟨List.mem_of_getElem? (i := 117) (by decide +kernel), rfl⟩
theorem mn_X7_25 : Cond.methodLinkNest RX7 25 yX2_init "FlueRounds" ∈ lw_tbl := List.mem_of_getElem? (i := 118) (by decide +kernel)
theorem im_yX2_init : Cond.instanceMethod yX2_init ∈ gtbl := List.mem_filter.mpr ⟨List.mem_of_getElem? (i := 119) (by decide +kernel), rfl⟩
theorem co_yX2_init : Cond.code yX2_init cX2_init 1 none ∈ gtbl := List.mem_filter.mpr ⟨List.mem_of_getElem? (i := 120) (by decide +kernel), rfl⟩
theorem ml_X2_3 : Cond.methodLink RX2 3 Lib.objectInit ∈ gtbl := List.mem_filter.mpr ⟨List.mem_of_getElem? (i := 121) (by decide +kernel), rfl⟩
theorem fl_X2_11 : Cond.fieldLink RX2 11 "FlueRounds$Flues" "kind" "[I" ∈ gtbl := List.mem_filter.mpr ⟨List.mem_of_getElem? (i := 122) (by decide +kernel), rfl⟩
theorem fl_X7_132 : Cond.fieldLink RX7 132 "FlueRounds$Flues" "kind" "[I" ∈ gtbl := List.mem_filter.mpr ⟨List.mem_of_getElem? (i := 123) (by decide +kernel), rfl⟩
theorem fl_X2_15 : Cond.fieldLink RX2 15 "FlueRounds$Flues" "fuel" "[I" ∈ gtbl := List.mem_filter.mpr ⟨List.mem_of_getElem? (i := 124) (by decide +kernel), rfl⟩
theorem fl_X7_146 : Cond.fieldLink RX7 146 "FlueRounds$Flues" "fuel" "[I" ∈ gtbl := List.mem_filter.mpr ⟨List.mem_of_getElem? (i := 125) (by decide +kernel), rfl⟩
theorem fl_X2_18 : Cond.fieldLink RX2 18 "FlueRounds$Flues" "height" "[I" ∈ gtbl := List.mem_filter.mpr ⟨List.mem_of_getElem? (i := 126) (by decide +kernel), rfl⟩
theorem fl_X7_149 : Cond.fieldLink RX7 149 "FlueRounds$Flues" "height" "[I" ∈ gtbl := List.mem_filter.mpr ⟨List.mem_of_getElem? (i := 127) (by decide +kernel), rfl⟩
theorem fl_X2_21 : Cond.fieldLink RX2 21 "FlueRounds$Flues" "width" "[I" ∈ gtbl := List.mem_filter.mpr ⟨List.mem_of_getElem? (i := 128) (by decide +kernel), rfl⟩
theorem fl_X2_24 : Cond.fieldLink RX2 24 "FlueRounds$Flues" "bends" "[I" ∈ gtbl := List.mem_filter.mpr ⟨List.mem_of_getElem? (i := 129) (by decide +kernel), rfl⟩
theorem fl_X7_252 : Cond.fieldLink RX7 252 "FlueRounds$Flues" "bends" "[I" ∈ gtbl := List.mem_filter.mpr ⟨List.mem_of_getElem? (i := 130) (by decide +kernel), rfl⟩
theorem fl_X2_27 : Cond.fieldLink RX2 27 "FlueRounds$Flues" "x" "[I" ∈ gtbl := List.mem_filter.mpr ⟨List.mem_of_getElem? (i := 131) (by decide +kernel), rfl⟩
theorem fl_X7_223 : Cond.fieldLink RX7 223 "FlueRounds$Flues" "x" "[I" ∈ gtbl := List.mem_filter.mpr ⟨List.mem_of_getElem? (i := 132) (by decide +kernel), rfl⟩
theorem fl_X2_30 : Cond.fieldLink RX2 30 "FlueRounds$Flues" "y" "[I" ∈ gtbl := List.mem_filter.mpr ⟨List.mem_of_getElem? (i := 133) (by decide +kernel), rfl⟩
theorem fl_X7_226 : Cond.fieldLink RX7 226 "FlueRounds$Flues" "y" "[I" ∈ gtbl := List.mem_filter.mpr ⟨List.mem_of_getElem? (i := 134) (by decide +kernel), rfl⟩
theorem fl_X2_33 : Cond.fieldLink RX2 33 "FlueRounds$Flues" "hand" "[I" ∈ gtbl := List.mem_filter.mpr ⟨List.mem_of_getElem? (i := 135) (by decide +kernel), rfl⟩
theorem fl_X7_152 : Cond.fieldLink RX7 152 "FlueRounds$Flues" "hand" "[I" ∈ gtbl := List.mem_filter.mpr ⟨List.mem_of_getElem? (i := 136) (by decide +kernel), rfl⟩
theorem fl_X2_36 : Cond.fieldLink RX2 36 "FlueRounds$Flues" "came" "[I" ∈ gtbl := List.mem_filter.mpr ⟨List.mem_of_getElem? (i := 137) (by decide +kernel), rfl⟩
theorem fl_X7_181 : Cond.fieldLink RX7 181 "FlueRounds$Flues" "came" "[I" ∈ gtbl := List.mem_filter.mpr ⟨List.mem_of_getElem? (i := 138) (by decide +kernel), rfl⟩
theorem fl_X2_39 : Cond.fieldLink RX2 39 "FlueRounds$Flues" "refusals" "[I" ∈ gtbl := List.mem_filter.mpr ⟨List.mem_of_getElem? (i := 139) (by decide +kernel), rfl⟩
theorem fl_X7_158 : Cond.fieldLink RX7 158 "FlueRounds$Flues" "refusals" "[I" ∈ gtbl := List.mem_filter.mpr ⟨List.mem_of_getElem? (i := 140) (by decide +kernel), rfl⟩
theorem fl_X2_42 : Cond.fieldLink RX2 42 "FlueRounds$Flues" "waiting" "[I" ∈ gtbl := List.mem_filter.mpr ⟨List.mem_of_getElem? (i := 141) (by decide +kernel), rfl⟩
theorem fl_X7_210 : Cond.fieldLink RX7 210 "FlueRounds$Flues" "waiting" "[I" ∈ gtbl := List.mem_filter.mpr ⟨List.mem_of_getElem? (i := 142) (by decide +kernel), rfl⟩
theorem fl_X2_45 : Cond.fieldLink RX2 45 "FlueRounds$Flues" "size" "I" ∈ gtbl := List.mem_filter.mpr ⟨List.mem_of_getElem? (i := 143) (by decide +kernel), rfl⟩
theorem fl_X7_174 : Cond.fieldLink RX7 174 "FlueRounds$Flues" "size" "I" ∈ gtbl := List.mem_filter.mpr ⟨List.mem_of_getElem? (i := 144) (by decide +kernel), rfl⟩
theorem kl_X7_30 : Cond.classLink RX7 30 RX4 ∈ gtbl := List.mem_filter.mpr ⟨List.mem_of_getElem? (i := 170) (by decide +kernel), rfl⟩
theorem ia_X4 : Cond.instantiable RX4 5 ∈ gtbl := List.mem_filter.mpr ⟨List.mem_of_getElem? (i := 171) (by decide +kernel), rfl⟩
theorem mn_X7_32 : Cond.methodLinkNest RX7 32 yX4_init "FlueRounds" ∈ lw_tbl := List.mem_of_getElem? (i := 172) (by decide +kernel)
theorem im_yX4_init : Cond.instanceMethod yX4_init ∈ gtbl := List.mem_filter.mpr ⟨List.mem_of_getElem? (i := 173) (by decide +kernel), rfl⟩
theorem co_yX4_init : Cond.code yX4_init cX4_init 1 none ∈ gtbl := List.mem_filter.mpr ⟨List.mem_of_getElem? (i := 174) (by decide +kernel), rfl⟩
theorem ml_X4_3 : Cond.methodLink RX4 3 Lib.objectInit ∈ gtbl := List.mem_filter.mpr ⟨List.mem_of_getElem? (i := 175) (by decide +kernel), rfl⟩
theorem fl_X4_11 : Cond.fieldLink RX4 11 "FlueRounds$Looks" "flue" "[I" ∈ gtbl := List.mem_filter.mpr ⟨List.mem_of_getElem? (i := 176) (by decide +kernel), rfl⟩
theorem fl_X4_15 : Cond.fieldLink RX4 15 "FlueRounds$Looks" "day" "[I" ∈ gtbl := List.mem_filter.mpr ⟨List.mem_of_getElem? (i := 177) (by decide +kernel), rfl⟩
theorem fl_X4_18 : Cond.fieldLink RX4 18 "FlueRounds$Looks" "told" "[I" ∈ gtbl := List.mem_filter.mpr ⟨List.mem_of_getElem? (i := 178) (by decide +kernel), rfl⟩
theorem fl_X4_21 : Cond.fieldLink RX4 21 "FlueRounds$Looks" "finding" "[I" ∈ gtbl := List.mem_filter.mpr ⟨List.mem_of_getElem? (i := 179) (by decide +kernel), rfl⟩
theorem fl_X4_24 : Cond.fieldLink RX4 24 "FlueRounds$Looks" "size" "I" ∈ gtbl := List.mem_filter.mpr ⟨List.mem_of_getElem? (i := 180) (by decide +kernel), rfl⟩
theorem fl_X7_244 : Cond.fieldLink RX7 244 "FlueRounds$Looks" "size" "I" ∈ gtbl := List.mem_filter.mpr ⟨List.mem_of_getElem? (i := 181) (by decide +kernel), rfl⟩
theorem kl_X7_37 : Cond.classLink RX7 37 RX1 ∈ gtbl := List.mem_filter.mpr ⟨List.mem_of_getElem? (i := 193) (by decide +kernel), rfl⟩
theorem ia_X1 : Cond.instantiable RX1 3 ∈ gtbl := List.mem_filter.mpr ⟨List.mem_of_getElem? (i := 194) (by decide +kernel), rfl⟩
theorem mn_X7_39 : Cond.methodLinkNest RX7 39 yX1_init "FlueRounds" ∈ lw_tbl := List.mem_of_getElem? (i := 195) (by decide +kernel)
theorem im_yX1_init : Cond.instanceMethod yX1_init ∈ gtbl := List.mem_filter.mpr ⟨List.mem_of_getElem? (i := 196) (by decide +kernel), rfl⟩
theorem co_yX1_init : Cond.code yX1_init cX1_init 1 none ∈ gtbl := List.mem_filter.mpr ⟨List.mem_of_getElem? (i := 197) (by decide +kernel), rfl⟩
theorem ml_X1_1 : Cond.methodLink RX1 1 Lib.objectInit ∈ gtbl := List.mem_filter.mpr ⟨List.mem_of_getElem? (i := 198) (by decide +kernel), rfl⟩
theorem fl_X1_9 : Cond.fieldLink RX1 9 "FlueRounds$Fires" "flue" "[I" ∈ gtbl := List.mem_filter.mpr ⟨List.mem_of_getElem? (i := 199) (by decide +kernel), rfl⟩
theorem fl_X7_195 : Cond.fieldLink RX7 195 "FlueRounds$Fires" "flue" "[I" ∈ gtbl := List.mem_filter.mpr ⟨List.mem_of_getElem? (i := 200) (by decide +kernel), rfl⟩
theorem fl_X1_13 : Cond.fieldLink RX1 13 "FlueRounds$Fires" "day" "[I" ∈ gtbl := List.mem_filter.mpr ⟨List.mem_of_getElem? (i := 201) (by decide +kernel), rfl⟩
theorem fl_X7_198 : Cond.fieldLink RX7 198 "FlueRounds$Fires" "day" "[I" ∈ gtbl := List.mem_filter.mpr ⟨List.mem_of_getElem? (i := 202) (by decide +kernel), rfl⟩
theorem fl_X1_16 : Cond.fieldLink RX1 16 "FlueRounds$Fires" "size" "I" ∈ gtbl := List.mem_filter.mpr ⟨List.mem_of_getElem? (i := 203) (by decide +kernel), rfl⟩
theorem fl_X7_245 : Cond.fieldLink RX7 245 "FlueRounds$Fires" "size" "I" ∈ gtbl := List.mem_filter.mpr ⟨List.mem_of_getElem? (i := 204) (by decide +kernel), rfl⟩
theorem kl_X7_44 : Cond.classLink RX7 44 RX5 ∈ gtbl := List.mem_filter.mpr ⟨List.mem_of_getElem? (i := 212) (by decide +kernel), rfl⟩
theorem ia_X5 : Cond.instantiable RX5 5 ∈ gtbl := List.mem_filter.mpr ⟨List.mem_of_getElem? (i := 213) (by decide +kernel), rfl⟩
theorem mn_X7_46 : Cond.methodLinkNest RX7 46 yX5_init "FlueRounds" ∈ lw_tbl := List.mem_of_getElem? (i := 214) (by decide +kernel)
theorem im_yX5_init : Cond.instanceMethod yX5_init ∈ gtbl := List.mem_filter.mpr ⟨List.mem_of_getElem? (i := 215) (by decide +kernel), rfl⟩
theorem co_yX5_init : Cond.code yX5_init cX5_init 1 none ∈ gtbl := List.mem_filter.mpr ⟨List.mem_of_getElem? (i := 216) (by decide +kernel), rfl⟩
theorem ml_X5_3 : Cond.methodLink RX5 3 Lib.objectInit ∈ gtbl := List.mem_filter.mpr ⟨List.mem_of_getElem? (i := 217) (by decide +kernel), rfl⟩
theorem fl_X5_11 : Cond.fieldLink RX5 11 "FlueRounds$Sweeps" "flue" "[I" ∈ gtbl := List.mem_filter.mpr ⟨List.mem_of_getElem? (i := 218) (by decide +kernel), rfl⟩
theorem fl_X5_15 : Cond.fieldLink RX5 15 "FlueRounds$Sweeps" "day" "[I" ∈ gtbl := List.mem_filter.mpr ⟨List.mem_of_getElem? (i := 219) (by decide +kernel), rfl⟩
theorem fl_X7_265 : Cond.fieldLink RX7 265 "FlueRounds$Sweeps" "day" "[I" ∈ gtbl := List.mem_filter.mpr ⟨List.mem_of_getElem? (i := 220) (by decide +kernel), rfl⟩
theorem fl_X5_18 : Cond.fieldLink RX5 18 "FlueRounds$Sweeps" "hand" "[I" ∈ gtbl := List.mem_filter.mpr ⟨List.mem_of_getElem? (i := 221) (by decide +kernel), rfl⟩
theorem fl_X7_266 : Cond.fieldLink RX7 266 "FlueRounds$Sweeps" "hand" "[I" ∈ gtbl := List.mem_filter.mpr ⟨List.mem_of_getElem? (i := 222) (by decide +kernel), rfl⟩
theorem fl_X5_21 : Cond.fieldLink RX5 21 "FlueRounds$Sweeps" "fee" "[I" ∈ gtbl := List.mem_filter.mpr ⟨List.mem_of_getElem? (i := 223) (by decide +kernel), rfl⟩
theorem fl_X5_24 : Cond.fieldLink RX5 24 "FlueRounds$Sweeps" "size" "I" ∈ gtbl := List.mem_filter.mpr ⟨List.mem_of_getElem? (i := 224) (by decide +kernel), rfl⟩
theorem fl_X7_246 : Cond.fieldLink RX7 246 "FlueRounds$Sweeps" "size" "I" ∈ gtbl := List.mem_filter.mpr ⟨List.mem_of_getElem? (i := 225) (by decide +kernel), rfl⟩
theorem kl_X7_51 : Cond.classLink RX7 51 RX6 ∈ gtbl := List.mem_filter.mpr ⟨List.mem_of_getElem? (i := 237) (by decide +kernel), rfl⟩
theorem ia_X6 : Cond.instantiable RX6 8 ∈ gtbl := List.mem_filter.mpr ⟨List.mem_of_getElem? (i := 238) (by decide +kernel), rfl⟩
theorem mn_X7_53 : Cond.methodLinkNest RX7 53 yX6_init "FlueRounds" ∈ lw_tbl := List.mem_of_getElem? (i := 239) (by decide +kernel)
theorem im_yX6_init : Cond.instanceMethod yX6_init ∈ gtbl := List.mem_filter.mpr ⟨List.mem_of_getElem? (i := 240) (by decide +kernel), rfl⟩
theorem co_yX6_init : Cond.code yX6_init cX6_init 1 none ∈ gtbl := List.mem_filter.mpr ⟨List.mem_of_getElem? (i := 241) (by decide +kernel), rfl⟩
theorem ml_X6_3 : Cond.methodLink RX6 3 Lib.objectInit ∈ gtbl := List.mem_filter.mpr ⟨List.mem_of_getElem? (i := 242) (by decide +kernel), rfl⟩
theorem fl_X6_11 : Cond.fieldLink RX6 11 "FlueRounds$Tour" "flue" "[I" ∈ gtbl := List.mem_filter.mpr ⟨List.mem_of_getElem? (i := 243) (by decide +kernel), rfl⟩
theorem fl_X6_15 : Cond.fieldLink RX6 15 "FlueRounds$Tour" "x" "[I" ∈ gtbl := List.mem_filter.mpr ⟨List.mem_of_getElem? (i := 244) (by decide +kernel), rfl⟩
theorem fl_X6_18 : Cond.fieldLink RX6 18 "FlueRounds$Tour" "y" "[I" ∈ gtbl := List.mem_filter.mpr ⟨List.mem_of_getElem? (i := 245) (by decide +kernel), rfl⟩
theorem fl_X6_21 : Cond.fieldLink RX6 21 "FlueRounds$Tour" "passed" "[Z" ∈ gtbl := List.mem_filter.mpr ⟨List.mem_of_getElem? (i := 246) (by decide +kernel), rfl⟩
theorem fl_X6_25 : Cond.fieldLink RX6 25 "FlueRounds$Tour" "tried" "[I" ∈ gtbl := List.mem_filter.mpr ⟨List.mem_of_getElem? (i := 247) (by decide +kernel), rfl⟩
theorem fl_X6_28 : Cond.fieldLink RX6 28 "FlueRounds$Tour" "best" "[I" ∈ gtbl := List.mem_filter.mpr ⟨List.mem_of_getElem? (i := 248) (by decide +kernel), rfl⟩
theorem fl_X6_31 : Cond.fieldLink RX6 31 "FlueRounds$Tour" "size" "I" ∈ gtbl := List.mem_filter.mpr ⟨List.mem_of_getElem? (i := 249) (by decide +kernel), rfl⟩
theorem fl_X7_236 : Cond.fieldLink RX7 236 "FlueRounds$Tour" "size" "I" ∈ gtbl := List.mem_filter.mpr ⟨List.mem_of_getElem? (i := 250) (by decide +kernel), rfl⟩
theorem fl_X6_35 : Cond.fieldLink RX6 35 "FlueRounds$Tour" "way" "I" ∈ gtbl := List.mem_filter.mpr ⟨List.mem_of_getElem? (i := 251) (by decide +kernel), rfl⟩
theorem fl_X7_237 : Cond.fieldLink RX7 237 "FlueRounds$Tour" "way" "I" ∈ gtbl := List.mem_filter.mpr ⟨List.mem_of_getElem? (i := 252) (by decide +kernel), rfl⟩
theorem ac_boolean : Cond.arrayClass .boolean ∈ gtbl := List.mem_filter.mpr ⟨List.mem_of_getElem? (i := 270) (by decide +kernel), rfl⟩
theorem fl_X7_10 : Cond.fieldLink RX7 10 "FlueRounds" "draft" "LFlueRounds$Draft;" ∈ gtbl := List.mem_filter.mpr ⟨List.mem_of_getElem? (i := 271) (by decide +kernel), rfl⟩
theorem fl_X7_19 : Cond.fieldLink RX7 19 "FlueRounds" "book" "LFlueRounds$LawBook;" ∈ gtbl := List.mem_filter.mpr ⟨List.mem_of_getElem? (i := 272) (by decide +kernel), rfl⟩
theorem fl_X7_26 : Cond.fieldLink RX7 26 "FlueRounds" "flues" "LFlueRounds$Flues;" ∈ gtbl := List.mem_filter.mpr ⟨List.mem_of_getElem? (i := 273) (by decide +kernel), rfl⟩
theorem fl_X7_33 : Cond.fieldLink RX7 33 "FlueRounds" "looks" "LFlueRounds$Looks;" ∈ gtbl := List.mem_filter.mpr ⟨List.mem_of_getElem? (i := 274) (by decide +kernel), rfl⟩
theorem fl_X7_40 : Cond.fieldLink RX7 40 "FlueRounds" "fires" "LFlueRounds$Fires;" ∈ gtbl := List.mem_filter.mpr ⟨List.mem_of_getElem? (i := 275) (by decide +kernel), rfl⟩
theorem fl_X7_47 : Cond.fieldLink RX7 47 "FlueRounds" "sweeps" "LFlueRounds$Sweeps;" ∈ gtbl := List.mem_filter.mpr ⟨List.mem_of_getElem? (i := 276) (by decide +kernel), rfl⟩
theorem fl_X7_54 : Cond.fieldLink RX7 54 "FlueRounds" "tour" "LFlueRounds$Tour;" ∈ gtbl := List.mem_filter.mpr ⟨List.mem_of_getElem? (i := 277) (by decide +kernel), rfl⟩
theorem fl_X7_58 : Cond.fieldLink RX7 58 "FlueRounds" "handIsIll" "[Z" ∈ gtbl := List.mem_filter.mpr ⟨List.mem_of_getElem? (i := 278) (by decide +kernel), rfl⟩
theorem fl_X7_62 : Cond.fieldLink RX7 62 "FlueRounds" "today" "I" ∈ gtbl := List.mem_filter.mpr ⟨List.mem_of_getElem? (i := 279) (by decide +kernel), rfl⟩
theorem fl_X7_66 : Cond.fieldLink RX7 66 "FlueRounds" "feeRate" "I" ∈ gtbl := List.mem_filter.mpr ⟨List.mem_of_getElem? (i := 280) (by decide +kernel), rfl⟩
theorem fl_X7_69 : Cond.fieldLink RX7 69 "FlueRounds" "asked" "J" ∈ gtbl := List.mem_filter.mpr ⟨List.mem_of_getElem? (i := 281) (by decide +kernel), rfl⟩
theorem ml_L_15 : Cond.methodLink RL 15 yX7_type ∈ gtbl := List.mem_filter.mpr ⟨List.mem_of_getElem? (i := 305) (by decide +kernel), rfl⟩
theorem im_yX7_type : Cond.instanceMethod yX7_type ∈ gtbl := List.mem_filter.mpr ⟨List.mem_of_getElem? (i := 306) (by decide +kernel), rfl⟩
theorem se_yX7_type : Cond.selects RX7 yX7_type yX7_type ∈ gtbl := List.mem_filter.mpr ⟨List.mem_of_getElem? (i := 307) (by decide +kernel), rfl⟩
theorem co_yX7_type : Cond.code yX7_type cX7_type 4 (some .int) ∈ gtbl := List.mem_filter.mpr ⟨List.mem_of_getElem? (i := 308) (by decide +kernel), rfl⟩
theorem ml_X7_73 : Cond.methodLink RX7 73 yX7_within ∈ gtbl := List.mem_filter.mpr ⟨List.mem_of_getElem? (i := 309) (by decide +kernel), rfl⟩
theorem sm_yX7_within : Cond.static yX7_within ∈ gtbl := List.mem_filter.mpr ⟨List.mem_of_getElem? (i := 310) (by decide +kernel), rfl⟩
theorem co_yX7_within : Cond.code yX7_within cX7_within 3 (some .boolean) ∈ gtbl := List.mem_filter.mpr ⟨List.mem_of_getElem? (i := 311) (by decide +kernel), rfl⟩
theorem ml_X7_77 : Cond.methodLink RX7 77 yX0_hasRoomFor ∈ gtbl := List.mem_filter.mpr ⟨List.mem_of_getElem? (i := 312) (by decide +kernel), rfl⟩
theorem im_yX0_hasRoomFor : Cond.instanceMethod yX0_hasRoomFor ∈ gtbl := List.mem_filter.mpr ⟨List.mem_of_getElem? (i := 313) (by decide +kernel), rfl⟩
theorem se_yX0_hasRoomFor : Cond.selects RX0 yX0_hasRoomFor yX0_hasRoomFor ∈ gtbl := List.mem_filter.mpr ⟨List.mem_of_getElem? (i := 314) (by decide +kernel), rfl⟩
theorem co_yX0_hasRoomFor : Cond.code yX0_hasRoomFor cX0_hasRoomFor 2 (some .boolean) ∈ gtbl := List.mem_filter.mpr ⟨List.mem_of_getElem? (i := 315) (by decide +kernel), rfl⟩
theorem ml_X7_81 : Cond.methodLink RX7 81 yX0_append ∈ gtbl := List.mem_filter.mpr ⟨List.mem_of_getElem? (i := 316) (by decide +kernel), rfl⟩
theorem im_yX0_append : Cond.instanceMethod yX0_append ∈ gtbl := List.mem_filter.mpr ⟨List.mem_of_getElem? (i := 317) (by decide +kernel), rfl⟩
theorem se_yX0_append : Cond.selects RX0 yX0_append yX0_append ∈ gtbl := List.mem_filter.mpr ⟨List.mem_of_getElem? (i := 318) (by decide +kernel), rfl⟩
theorem co_yX0_append : Cond.code yX0_append cX0_append 5 none ∈ gtbl := List.mem_filter.mpr ⟨List.mem_of_getElem? (i := 319) (by decide +kernel), rfl⟩
theorem ml_L_20 : Cond.methodLink RL 20 yX7_clear ∈ gtbl := List.mem_filter.mpr ⟨List.mem_of_getElem? (i := 320) (by decide +kernel), rfl⟩
theorem im_yX7_clear : Cond.instanceMethod yX7_clear ∈ gtbl := List.mem_filter.mpr ⟨List.mem_of_getElem? (i := 321) (by decide +kernel), rfl⟩
theorem se_yX7_clear : Cond.selects RX7 yX7_clear yX7_clear ∈ gtbl := List.mem_filter.mpr ⟨List.mem_of_getElem? (i := 322) (by decide +kernel), rfl⟩
theorem co_yX7_clear : Cond.code yX7_clear cX7_clear 1 (some .int) ∈ gtbl := List.mem_filter.mpr ⟨List.mem_of_getElem? (i := 323) (by decide +kernel), rfl⟩
theorem ml_X7_88 : Cond.methodLink RX7 88 yX0_empty ∈ gtbl := List.mem_filter.mpr ⟨List.mem_of_getElem? (i := 324) (by decide +kernel), rfl⟩
theorem im_yX0_empty : Cond.instanceMethod yX0_empty ∈ gtbl := List.mem_filter.mpr ⟨List.mem_of_getElem? (i := 325) (by decide +kernel), rfl⟩
theorem se_yX0_empty : Cond.selects RX0 yX0_empty yX0_empty ∈ gtbl := List.mem_filter.mpr ⟨List.mem_of_getElem? (i := 326) (by decide +kernel), rfl⟩
theorem co_yX0_empty : Cond.code yX0_empty cX0_empty 2 (some .int) ∈ gtbl := List.mem_filter.mpr ⟨List.mem_of_getElem? (i := 327) (by decide +kernel), rfl⟩
theorem ml_L_25 : Cond.methodLink RL 25 yX7_law ∈ gtbl := List.mem_filter.mpr ⟨List.mem_of_getElem? (i := 328) (by decide +kernel), rfl⟩
theorem im_yX7_law : Cond.instanceMethod yX7_law ∈ gtbl := List.mem_filter.mpr ⟨List.mem_of_getElem? (i := 329) (by decide +kernel), rfl⟩
theorem se_yX7_law : Cond.selects RX7 yX7_law yX7_law ∈ gtbl := List.mem_filter.mpr ⟨List.mem_of_getElem? (i := 330) (by decide +kernel), rfl⟩
theorem co_yX7_law : Cond.code yX7_law cX7_law 3 (some .int) ∈ gtbl := List.mem_filter.mpr ⟨List.mem_of_getElem? (i := 331) (by decide +kernel), rfl⟩
theorem ml_X7_92 : Cond.methodLink RX7 92 yX0_readItems ∈ gtbl := List.mem_filter.mpr ⟨List.mem_of_getElem? (i := 332) (by decide +kernel), rfl⟩
theorem im_yX0_readItems : Cond.instanceMethod yX0_readItems ∈ gtbl := List.mem_filter.mpr ⟨List.mem_of_getElem? (i := 333) (by decide +kernel), rfl⟩
theorem se_yX0_readItems : Cond.selects RX0 yX0_readItems yX0_readItems ∈ gtbl := List.mem_filter.mpr ⟨List.mem_of_getElem? (i := 334) (by decide +kernel), rfl⟩
theorem co_yX0_readItems : Cond.code yX0_readItems cX0_readItems 2 (some .int) ∈ gtbl := List.mem_filter.mpr ⟨List.mem_of_getElem? (i := 335) (by decide +kernel), rfl⟩
theorem ml_X0_40 : Cond.methodLink RX0 40 yX0_readStep ∈ gtbl := List.mem_filter.mpr ⟨List.mem_of_getElem? (i := 336) (by decide +kernel), rfl⟩
theorem im_yX0_readStep : Cond.instanceMethod yX0_readStep ∈ gtbl := List.mem_filter.mpr ⟨List.mem_of_getElem? (i := 338) (by decide +kernel), rfl⟩
theorem co_yX0_readStep : Cond.code yX0_readStep cX0_readStep 2 (some .boolean) ∈ gtbl := List.mem_filter.mpr ⟨List.mem_of_getElem? (i := 339) (by decide +kernel), rfl⟩
theorem ml_X0_44 : Cond.methodLink RX0 44 yX0_readFrom ∈ gtbl := List.mem_filter.mpr ⟨List.mem_of_getElem? (i := 340) (by decide +kernel), rfl⟩
theorem im_yX0_readFrom : Cond.instanceMethod yX0_readFrom ∈ gtbl := List.mem_filter.mpr ⟨List.mem_of_getElem? (i := 342) (by decide +kernel), rfl⟩
theorem co_yX0_readFrom : Cond.code yX0_readFrom cX0_readFrom 1 (some .boolean) ∈ gtbl := List.mem_filter.mpr ⟨List.mem_of_getElem? (i := 343) (by decide +kernel), rfl⟩
theorem ml_X0_51 : Cond.methodLink RX0 51 yX0_readNumber ∈ gtbl := List.mem_filter.mpr ⟨List.mem_of_getElem? (i := 344) (by decide +kernel), rfl⟩
theorem im_yX0_readNumber : Cond.instanceMethod yX0_readNumber ∈ gtbl := List.mem_filter.mpr ⟨List.mem_of_getElem? (i := 346) (by decide +kernel), rfl⟩
theorem co_yX0_readNumber : Cond.code yX0_readNumber cX0_readNumber 4 (some .boolean) ∈ gtbl := List.mem_filter.mpr ⟨List.mem_of_getElem? (i := 347) (by decide +kernel), rfl⟩
theorem ml_X0_55 : Cond.methodLink RX0 55 yX0_digitAtPlace ∈ gtbl := List.mem_filter.mpr ⟨List.mem_of_getElem? (i := 348) (by decide +kernel), rfl⟩
theorem im_yX0_digitAtPlace : Cond.instanceMethod yX0_digitAtPlace ∈ gtbl := List.mem_filter.mpr ⟨List.mem_of_getElem? (i := 350) (by decide +kernel), rfl⟩
theorem co_yX0_digitAtPlace : Cond.code yX0_digitAtPlace cX0_digitAtPlace 2 (some .int) ∈ gtbl := List.mem_filter.mpr ⟨List.mem_of_getElem? (i := 351) (by decide +kernel), rfl⟩
theorem ml_X0_48 : Cond.methodLink RX0 48 yX0_readSpan ∈ gtbl := List.mem_filter.mpr ⟨List.mem_of_getElem? (i := 352) (by decide +kernel), rfl⟩
theorem im_yX0_readSpan : Cond.instanceMethod yX0_readSpan ∈ gtbl := List.mem_filter.mpr ⟨List.mem_of_getElem? (i := 354) (by decide +kernel), rfl⟩
theorem co_yX0_readSpan : Cond.code yX0_readSpan cX0_readSpan 2 (some .boolean) ∈ gtbl := List.mem_filter.mpr ⟨List.mem_of_getElem? (i := 355) (by decide +kernel), rfl⟩
theorem ml_X7_95 : Cond.methodLink RX7 95 yX3_isFull ∈ gtbl := List.mem_filter.mpr ⟨List.mem_of_getElem? (i := 356) (by decide +kernel), rfl⟩
theorem im_yX3_isFull : Cond.instanceMethod yX3_isFull ∈ gtbl := List.mem_filter.mpr ⟨List.mem_of_getElem? (i := 357) (by decide +kernel), rfl⟩
theorem se_yX3_isFull : Cond.selects RX3 yX3_isFull yX3_isFull ∈ gtbl := List.mem_filter.mpr ⟨List.mem_of_getElem? (i := 358) (by decide +kernel), rfl⟩
theorem co_yX3_isFull : Cond.code yX3_isFull cX3_isFull 1 (some .boolean) ∈ gtbl := List.mem_filter.mpr ⟨List.mem_of_getElem? (i := 359) (by decide +kernel), rfl⟩
theorem ml_X7_99 : Cond.methodLink RX7 99 yX3_add ∈ gtbl := List.mem_filter.mpr ⟨List.mem_of_getElem? (i := 360) (by decide +kernel), rfl⟩
theorem im_yX3_add : Cond.instanceMethod yX3_add ∈ gtbl := List.mem_filter.mpr ⟨List.mem_of_getElem? (i := 361) (by decide +kernel), rfl⟩
theorem se_yX3_add : Cond.selects RX3 yX3_add yX3_add ∈ gtbl := List.mem_filter.mpr ⟨List.mem_of_getElem? (i := 362) (by decide +kernel), rfl⟩
theorem co_yX3_add : Cond.code yX3_add cX3_add 5 (some .int) ∈ gtbl := List.mem_filter.mpr ⟨List.mem_of_getElem? (i := 363) (by decide +kernel), rfl⟩
theorem ml_L_29 : Cond.methodLink RL 29 yX7_span ∈ gtbl := List.mem_filter.mpr ⟨List.mem_of_getElem? (i := 364) (by decide +kernel), rfl⟩
theorem im_yX7_span : Cond.instanceMethod yX7_span ∈ gtbl := List.mem_filter.mpr ⟨List.mem_of_getElem? (i := 365) (by decide +kernel), rfl⟩
theorem se_yX7_span : Cond.selects RX7 yX7_span yX7_span ∈ gtbl := List.mem_filter.mpr ⟨List.mem_of_getElem? (i := 366) (by decide +kernel), rfl⟩
theorem co_yX7_span : Cond.code yX7_span cX7_span 3 (some .int) ∈ gtbl := List.mem_filter.mpr ⟨List.mem_of_getElem? (i := 367) (by decide +kernel), rfl⟩
theorem ml_X7_103 : Cond.methodLink RX7 103 yX3_spanOn ∈ gtbl := List.mem_filter.mpr ⟨List.mem_of_getElem? (i := 368) (by decide +kernel), rfl⟩
theorem im_yX3_spanOn : Cond.instanceMethod yX3_spanOn ∈ gtbl := List.mem_filter.mpr ⟨List.mem_of_getElem? (i := 369) (by decide +kernel), rfl⟩
theorem se_yX3_spanOn : Cond.selects RX3 yX3_spanOn yX3_spanOn ∈ gtbl := List.mem_filter.mpr ⟨List.mem_of_getElem? (i := 370) (by decide +kernel), rfl⟩
theorem co_yX3_spanOn : Cond.code yX3_spanOn cX3_spanOn 5 (some .int) ∈ gtbl := List.mem_filter.mpr ⟨List.mem_of_getElem? (i := 371) (by decide +kernel), rfl⟩
theorem ml_X3_39 : Cond.methodLink RX3 39 yX3_inForce ∈ gtbl := List.mem_filter.mpr ⟨List.mem_of_getElem? (i := 372) (by decide +kernel), rfl⟩
theorem im_yX3_inForce : Cond.instanceMethod yX3_inForce ∈ gtbl := List.mem_filter.mpr ⟨List.mem_of_getElem? (i := 374) (by decide +kernel), rfl⟩
theorem co_yX3_inForce : Cond.code yX3_inForce cX3_inForce 3 (some .int) ∈ gtbl := List.mem_filter.mpr ⟨List.mem_of_getElem? (i := 375) (by decide +kernel), rfl⟩
theorem ml_L_34 : Cond.methodLink RL 34 yX7_days ∈ gtbl := List.mem_filter.mpr ⟨List.mem_of_getElem? (i := 376) (by decide +kernel), rfl⟩
theorem im_yX7_days : Cond.instanceMethod yX7_days ∈ gtbl := List.mem_filter.mpr ⟨List.mem_of_getElem? (i := 377) (by decide +kernel), rfl⟩
theorem se_yX7_days : Cond.selects RX7 yX7_days yX7_days ∈ gtbl := List.mem_filter.mpr ⟨List.mem_of_getElem? (i := 378) (by decide +kernel), rfl⟩
theorem co_yX7_days : Cond.code yX7_days cX7_days 2 (some .int) ∈ gtbl := List.mem_filter.mpr ⟨List.mem_of_getElem? (i := 379) (by decide +kernel), rfl⟩
theorem ml_L_39 : Cond.methodLink RL 39 yX7_flue ∈ gtbl := List.mem_filter.mpr ⟨List.mem_of_getElem? (i := 380) (by decide +kernel), rfl⟩
theorem im_yX7_flue : Cond.instanceMethod yX7_flue ∈ gtbl := List.mem_filter.mpr ⟨List.mem_of_getElem? (i := 381) (by decide +kernel), rfl⟩
theorem se_yX7_flue : Cond.selects RX7 yX7_flue yX7_flue ∈ gtbl := List.mem_filter.mpr ⟨List.mem_of_getElem? (i := 382) (by decide +kernel), rfl⟩
theorem co_yX7_flue : Cond.code yX7_flue cX7_flue 9 (some .int) ∈ gtbl := List.mem_filter.mpr ⟨List.mem_of_getElem? (i := 383) (by decide +kernel), rfl⟩
theorem ml_X7_107 : Cond.methodLink RX7 107 yX7_isBody ∈ gtbl := List.mem_filter.mpr ⟨List.mem_of_getElem? (i := 384) (by decide +kernel), rfl⟩
theorem sm_yX7_isBody : Cond.static yX7_isBody ∈ gtbl := List.mem_filter.mpr ⟨List.mem_of_getElem? (i := 385) (by decide +kernel), rfl⟩
theorem co_yX7_isBody : Cond.code yX7_isBody cX7_isBody 5 (some .boolean) ∈ gtbl := List.mem_filter.mpr ⟨List.mem_of_getElem? (i := 386) (by decide +kernel), rfl⟩
theorem ml_X7_111 : Cond.methodLink RX7 111 yX7_isPlace ∈ gtbl := List.mem_filter.mpr ⟨List.mem_of_getElem? (i := 387) (by decide +kernel), rfl⟩
theorem sm_yX7_isPlace : Cond.static yX7_isPlace ∈ gtbl := List.mem_filter.mpr ⟨List.mem_of_getElem? (i := 388) (by decide +kernel), rfl⟩
theorem co_yX7_isPlace : Cond.code yX7_isPlace cX7_isPlace 2 (some .boolean) ∈ gtbl := List.mem_filter.mpr ⟨List.mem_of_getElem? (i := 389) (by decide +kernel), rfl⟩
theorem ml_X7_115 : Cond.methodLink RX7 115 yX7_isHand ∈ gtbl := List.mem_filter.mpr ⟨List.mem_of_getElem? (i := 390) (by decide +kernel), rfl⟩
theorem sm_yX7_isHand : Cond.static yX7_isHand ∈ gtbl := List.mem_filter.mpr ⟨List.mem_of_getElem? (i := 391) (by decide +kernel), rfl⟩
theorem co_yX7_isHand : Cond.code yX7_isHand cX7_isHand 1 (some .boolean) ∈ gtbl := List.mem_filter.mpr ⟨List.mem_of_getElem? (i := 392) (by decide +kernel), rfl⟩
theorem ml_X7_118 : Cond.methodLink RX7 118 yX2_isFull ∈ gtbl := List.mem_filter.mpr ⟨List.mem_of_getElem? (i := 393) (by decide +kernel), rfl⟩
theorem im_yX2_isFull : Cond.instanceMethod yX2_isFull ∈ gtbl := List.mem_filter.mpr ⟨List.mem_of_getElem? (i := 394) (by decide +kernel), rfl⟩
theorem se_yX2_isFull : Cond.selects RX2 yX2_isFull yX2_isFull ∈ gtbl := List.mem_filter.mpr ⟨List.mem_of_getElem? (i := 395) (by decide +kernel), rfl⟩
theorem co_yX2_isFull : Cond.code yX2_isFull cX2_isFull 1 (some .boolean) ∈ gtbl := List.mem_filter.mpr ⟨List.mem_of_getElem? (i := 396) (by decide +kernel), rfl⟩
theorem ml_X7_119 : Cond.methodLink RX7 119 yX2_setBody ∈ gtbl := List.mem_filter.mpr ⟨List.mem_of_getElem? (i := 397) (by decide +kernel), rfl⟩
theorem im_yX2_setBody : Cond.instanceMethod yX2_setBody ∈ gtbl := List.mem_filter.mpr ⟨List.mem_of_getElem? (i := 398) (by decide +kernel), rfl⟩
theorem se_yX2_setBody : Cond.selects RX2 yX2_setBody yX2_setBody ∈ gtbl := List.mem_filter.mpr ⟨List.mem_of_getElem? (i := 399) (by decide +kernel), rfl⟩
theorem co_yX2_setBody : Cond.code yX2_setBody cX2_setBody 6 none ∈ gtbl := List.mem_filter.mpr ⟨List.mem_of_getElem? (i := 400) (by decide +kernel), rfl⟩
theorem ml_X7_123 : Cond.methodLink RX7 123 yX2_setPlace ∈ gtbl := List.mem_filter.mpr ⟨List.mem_of_getElem? (i := 401) (by decide +kernel), rfl⟩
theorem im_yX2_setPlace : Cond.instanceMethod yX2_setPlace ∈ gtbl := List.mem_filter.mpr ⟨List.mem_of_getElem? (i := 402) (by decide +kernel), rfl⟩
theorem se_yX2_setPlace : Cond.selects RX2 yX2_setPlace yX2_setPlace ∈ gtbl := List.mem_filter.mpr ⟨List.mem_of_getElem? (i := 403) (by decide +kernel), rfl⟩
theorem co_yX2_setPlace : Cond.code yX2_setPlace cX2_setPlace 5 none ∈ gtbl := List.mem_filter.mpr ⟨List.mem_of_getElem? (i := 404) (by decide +kernel), rfl⟩
theorem ml_X7_127 : Cond.methodLink RX7 127 yX2_add ∈ gtbl := List.mem_filter.mpr ⟨List.mem_of_getElem? (i := 405) (by decide +kernel), rfl⟩
theorem im_yX2_add : Cond.instanceMethod yX2_add ∈ gtbl := List.mem_filter.mpr ⟨List.mem_of_getElem? (i := 406) (by decide +kernel), rfl⟩
theorem se_yX2_add : Cond.selects RX2 yX2_add yX2_add ∈ gtbl := List.mem_filter.mpr ⟨List.mem_of_getElem? (i := 407) (by decide +kernel), rfl⟩
theorem co_yX2_add : Cond.code yX2_add cX2_add 1 (some .int) ∈ gtbl := List.mem_filter.mpr ⟨List.mem_of_getElem? (i := 408) (by decide +kernel), rfl⟩
theorem ml_L_44 : Cond.methodLink RL 44 yX7_draught ∈ gtbl := List.mem_filter.mpr ⟨List.mem_of_getElem? (i := 409) (by decide +kernel), rfl⟩
theorem im_yX7_draught : Cond.instanceMethod yX7_draught ∈ gtbl := List.mem_filter.mpr ⟨List.mem_of_getElem? (i := 410) (by decide +kernel), rfl⟩
theorem se_yX7_draught : Cond.selects RX7 yX7_draught yX7_draught ∈ gtbl := List.mem_filter.mpr ⟨List.mem_of_getElem? (i := 411) (by decide +kernel), rfl⟩
theorem co_yX7_draught : Cond.code yX7_draught cX7_draught 2 (some .int) ∈ gtbl := List.mem_filter.mpr ⟨List.mem_of_getElem? (i := 412) (by decide +kernel), rfl⟩
theorem ml_X7_129 : Cond.methodLink RX7 129 yX2_has ∈ gtbl := List.mem_filter.mpr ⟨List.mem_of_getElem? (i := 413) (by decide +kernel), rfl⟩
theorem im_yX2_has : Cond.instanceMethod yX2_has ∈ gtbl := List.mem_filter.mpr ⟨List.mem_of_getElem? (i := 414) (by decide +kernel), rfl⟩
theorem se_yX2_has : Cond.selects RX2 yX2_has yX2_has ∈ gtbl := List.mem_filter.mpr ⟨List.mem_of_getElem? (i := 415) (by decide +kernel), rfl⟩
theorem co_yX2_has : Cond.code yX2_has cX2_has 2 (some .boolean) ∈ gtbl := List.mem_filter.mpr ⟨List.mem_of_getElem? (i := 416) (by decide +kernel), rfl⟩
theorem ml_X7_136 : Cond.methodLink RX7 136 yX7_straightPull ∈ gtbl := List.mem_filter.mpr ⟨List.mem_of_getElem? (i := 417) (by decide +kernel), rfl⟩
theorem im_yX7_straightPull : Cond.instanceMethod yX7_straightPull ∈ gtbl := List.mem_filter.mpr ⟨List.mem_of_getElem? (i := 419) (by decide +kernel), rfl⟩
theorem co_yX7_straightPull : Cond.code yX7_straightPull cX7_straightPull 2 (some .int) ∈ gtbl := List.mem_filter.mpr ⟨List.mem_of_getElem? (i := 420) (by decide +kernel), rfl⟩
theorem ml_X7_247 : Cond.methodLink RX7 247 yX2_openPull ∈ gtbl := List.mem_filter.mpr ⟨List.mem_of_getElem? (i := 421) (by decide +kernel), rfl⟩
theorem im_yX2_openPull : Cond.instanceMethod yX2_openPull ∈ gtbl := List.mem_filter.mpr ⟨List.mem_of_getElem? (i := 422) (by decide +kernel), rfl⟩
theorem se_yX2_openPull : Cond.selects RX2 yX2_openPull yX2_openPull ∈ gtbl := List.mem_filter.mpr ⟨List.mem_of_getElem? (i := 423) (by decide +kernel), rfl⟩
theorem co_yX2_openPull : Cond.code yX2_openPull cX2_openPull 3 (some .int) ∈ gtbl := List.mem_filter.mpr ⟨List.mem_of_getElem? (i := 424) (by decide +kernel), rfl⟩
theorem fl_X2_49 : Cond.fieldLink RX2 49 "FlueRounds$Flues" "PULL_OF_FUEL" "[I" ∈ gtbl := List.mem_filter.mpr ⟨List.mem_of_getElem? (i := 425) (by decide +kernel), rfl⟩
theorem ls_pull : Cond.laysStatic "FlueRounds$Flues" "PULL_OF_FUEL" "[I" ∈ lw_tbl := List.mem_of_getElem? (i := 426) (by decide +kernel)
theorem ml_X7_140 : Cond.methodLink RX7 140 yX7_bentPull ∈ gtbl := List.mem_filter.mpr ⟨List.mem_of_getElem? (i := 427) (by decide +kernel), rfl⟩
theorem im_yX7_bentPull : Cond.instanceMethod yX7_bentPull ∈ gtbl := List.mem_filter.mpr ⟨List.mem_of_getElem? (i := 429) (by decide +kernel), rfl⟩
theorem co_yX7_bentPull : Cond.code yX7_bentPull cX7_bentPull 2 (some .int) ∈ gtbl := List.mem_filter.mpr ⟨List.mem_of_getElem? (i := 430) (by decide +kernel), rfl⟩
theorem kc_X7_250 : Cond.constantLong RX7 250 (10) ∈ gtbl := List.mem_filter.mpr ⟨List.mem_of_getElem? (i := 431) (by decide +kernel), rfl⟩
theorem ml_X7_255 : Cond.methodLink RX7 255 yJ9_max_7cf53 ∈ gtbl := List.mem_filter.mpr ⟨List.mem_of_getElem? (i := 432) (by decide +kernel), rfl⟩
theorem sm_yJ9_max_7cf53 : Cond.static yJ9_max_7cf53 ∈ gtbl := List.mem_filter.mpr ⟨List.mem_of_getElem? (i := 433) (by decide +kernel), rfl⟩
theorem co_yJ9_max_7cf53 : Cond.code yJ9_max_7cf53 cJ9_max_7cf53 2 (some .int) ∈ gtbl := List.mem_filter.mpr ⟨List.mem_of_getElem? (i := 434) (by decide +kernel), rfl⟩
theorem ml_X7_143 : Cond.methodLink RX7 143 yX7_sharedPull ∈ gtbl := List.mem_filter.mpr ⟨List.mem_of_getElem? (i := 435) (by decide +kernel), rfl⟩
theorem im_yX7_sharedPull : Cond.instanceMethod yX7_sharedPull ∈ gtbl := List.mem_filter.mpr ⟨List.mem_of_getElem? (i := 437) (by decide +kernel), rfl⟩
theorem co_yX7_sharedPull : Cond.code yX7_sharedPull cX7_sharedPull 2 (some .int) ∈ gtbl := List.mem_filter.mpr ⟨List.mem_of_getElem? (i := 438) (by decide +kernel), rfl⟩
theorem kc_X7_260 : Cond.constantLong RX7 260 (100) ∈ gtbl := List.mem_filter.mpr ⟨List.mem_of_getElem? (i := 439) (by decide +kernel), rfl⟩
theorem ml_L_48 : Cond.methodLink RL 48 yX7_about ∈ gtbl := List.mem_filter.mpr ⟨List.mem_of_getElem? (i := 440) (by decide +kernel), rfl⟩
theorem im_yX7_about : Cond.instanceMethod yX7_about ∈ gtbl := List.mem_filter.mpr ⟨List.mem_of_getElem? (i := 441) (by decide +kernel), rfl⟩
theorem se_yX7_about : Cond.selects RX7 yX7_about yX7_about ∈ gtbl := List.mem_filter.mpr ⟨List.mem_of_getElem? (i := 442) (by decide +kernel), rfl⟩
theorem co_yX7_about : Cond.code yX7_about cX7_about 3 (some .int) ∈ gtbl := List.mem_filter.mpr ⟨List.mem_of_getElem? (i := 443) (by decide +kernel), rfl⟩
theorem ml_X7_155 : Cond.methodLink RX7 155 yX7_sweptBy ∈ gtbl := List.mem_filter.mpr ⟨List.mem_of_getElem? (i := 444) (by decide +kernel), rfl⟩
theorem im_yX7_sweptBy : Cond.instanceMethod yX7_sweptBy ∈ gtbl := List.mem_filter.mpr ⟨List.mem_of_getElem? (i := 446) (by decide +kernel), rfl⟩
theorem co_yX7_sweptBy : Cond.code yX7_sweptBy cX7_sweptBy 4 (some .int) ∈ gtbl := List.mem_filter.mpr ⟨List.mem_of_getElem? (i := 447) (by decide +kernel), rfl⟩
theorem ml_X7_262 : Cond.methodLink RX7 262 yX5_latest ∈ gtbl := List.mem_filter.mpr ⟨List.mem_of_getElem? (i := 448) (by decide +kernel), rfl⟩
theorem im_yX5_latest : Cond.instanceMethod yX5_latest ∈ gtbl := List.mem_filter.mpr ⟨List.mem_of_getElem? (i := 449) (by decide +kernel), rfl⟩
theorem se_yX5_latest : Cond.selects RX5 yX5_latest yX5_latest ∈ gtbl := List.mem_filter.mpr ⟨List.mem_of_getElem? (i := 450) (by decide +kernel), rfl⟩
theorem co_yX5_latest : Cond.code yX5_latest cX5_latest 4 (some .int) ∈ gtbl := List.mem_filter.mpr ⟨List.mem_of_getElem? (i := 451) (by decide +kernel), rfl⟩
theorem ml_X7_161 : Cond.methodLink RX7 161 yX7_isForbidden ∈ gtbl := List.mem_filter.mpr ⟨List.mem_of_getElem? (i := 452) (by decide +kernel), rfl⟩
theorem im_yX7_isForbidden : Cond.instanceMethod yX7_isForbidden ∈ gtbl := List.mem_filter.mpr ⟨List.mem_of_getElem? (i := 454) (by decide +kernel), rfl⟩
theorem co_yX7_isForbidden : Cond.code yX7_isForbidden cX7_isForbidden 2 (some .boolean) ∈ gtbl := List.mem_filter.mpr ⟨List.mem_of_getElem? (i := 455) (by decide +kernel), rfl⟩
theorem ml_X7_188 : Cond.methodLink RX7 188 yX4_asKnown ∈ gtbl := List.mem_filter.mpr ⟨List.mem_of_getElem? (i := 456) (by decide +kernel), rfl⟩
theorem im_yX4_asKnown : Cond.instanceMethod yX4_asKnown ∈ gtbl := List.mem_filter.mpr ⟨List.mem_of_getElem? (i := 457) (by decide +kernel), rfl⟩
theorem se_yX4_asKnown : Cond.selects RX4 yX4_asKnown yX4_asKnown ∈ gtbl := List.mem_filter.mpr ⟨List.mem_of_getElem? (i := 458) (by decide +kernel), rfl⟩
theorem co_yX4_asKnown : Cond.code yX4_asKnown cX4_asKnown 7 (some .int) ∈ gtbl := List.mem_filter.mpr ⟨List.mem_of_getElem? (i := 459) (by decide +kernel), rfl⟩
theorem ml_X7_164 : Cond.methodLink RX7 164 yX7_asNumber ∈ gtbl := List.mem_filter.mpr ⟨List.mem_of_getElem? (i := 460) (by decide +kernel), rfl⟩
theorem sm_yX7_asNumber : Cond.static yX7_asNumber ∈ gtbl := List.mem_filter.mpr ⟨List.mem_of_getElem? (i := 461) (by decide +kernel), rfl⟩
theorem co_yX7_asNumber : Cond.code yX7_asNumber cX7_asNumber 1 (some .int) ∈ gtbl := List.mem_filter.mpr ⟨List.mem_of_getElem? (i := 462) (by decide +kernel), rfl⟩
theorem ml_X7_168 : Cond.methodLink RX7 168 yX7_doerOf ∈ gtbl := List.mem_filter.mpr ⟨List.mem_of_getElem? (i := 463) (by decide +kernel), rfl⟩
theorem im_yX7_doerOf : Cond.instanceMethod yX7_doerOf ∈ gtbl := List.mem_filter.mpr ⟨List.mem_of_getElem? (i := 465) (by decide +kernel), rfl⟩
theorem co_yX7_doerOf : Cond.code yX7_doerOf cX7_doerOf 4 (some .int) ∈ gtbl := List.mem_filter.mpr ⟨List.mem_of_getElem? (i := 466) (by decide +kernel), rfl⟩
theorem ml_X7_270 : Cond.methodLink RX7 270 yX7_nearestHand ∈ gtbl := List.mem_filter.mpr ⟨List.mem_of_getElem? (i := 467) (by decide +kernel), rfl⟩
theorem im_yX7_nearestHand : Cond.instanceMethod yX7_nearestHand ∈ gtbl := List.mem_filter.mpr ⟨List.mem_of_getElem? (i := 469) (by decide +kernel), rfl⟩
theorem co_yX7_nearestHand : Cond.code yX7_nearestHand cX7_nearestHand 7 (some .int) ∈ gtbl := List.mem_filter.mpr ⟨List.mem_of_getElem? (i := 470) (by decide +kernel), rfl⟩
theorem kc_X7_276 : Cond.constant RX7 276 (1000000) ∈ gtbl := List.mem_filter.mpr ⟨List.mem_of_getElem? (i := 471) (by decide +kernel), rfl⟩
theorem ml_X7_277 : Cond.methodLink RX7 277 yX2_wayBetween ∈ gtbl := List.mem_filter.mpr ⟨List.mem_of_getElem? (i := 472) (by decide +kernel), rfl⟩
theorem im_yX2_wayBetween : Cond.instanceMethod yX2_wayBetween ∈ gtbl := List.mem_filter.mpr ⟨List.mem_of_getElem? (i := 473) (by decide +kernel), rfl⟩
theorem se_yX2_wayBetween : Cond.selects RX2 yX2_wayBetween yX2_wayBetween ∈ gtbl := List.mem_filter.mpr ⟨List.mem_of_getElem? (i := 474) (by decide +kernel), rfl⟩
theorem co_yX2_wayBetween : Cond.code yX2_wayBetween cX2_wayBetween 3 (some .int) ∈ gtbl := List.mem_filter.mpr ⟨List.mem_of_getElem? (i := 475) (by decide +kernel), rfl⟩
theorem ml_X2_52 : Cond.methodLink RX2 52 yJ9_abs_0f7a4 ∈ gtbl := List.mem_filter.mpr ⟨List.mem_of_getElem? (i := 476) (by decide +kernel), rfl⟩
theorem sm_yJ9_abs_0f7a4 : Cond.static yJ9_abs_0f7a4 ∈ gtbl := List.mem_filter.mpr ⟨List.mem_of_getElem? (i := 477) (by decide +kernel), rfl⟩
theorem co_yJ9_abs_0f7a4 : Cond.code yJ9_abs_0f7a4 cJ9_abs_0f7a4 1 (some .int) ∈ gtbl := List.mem_filter.mpr ⟨List.mem_of_getElem? (i := 478) (by decide +kernel), rfl⟩
theorem ml_X7_273 : Cond.methodLink RX7 273 yX7_leastHandNotIll ∈ gtbl := List.mem_filter.mpr ⟨List.mem_of_getElem? (i := 479) (by decide +kernel), rfl⟩
theorem im_yX7_leastHandNotIll : Cond.instanceMethod yX7_leastHandNotIll ∈ gtbl := List.mem_filter.mpr ⟨List.mem_of_getElem? (i := 481) (by decide +kernel), rfl⟩
theorem co_yX7_leastHandNotIll : Cond.code yX7_leastHandNotIll cX7_leastHandNotIll 2 (some .int) ∈ gtbl := List.mem_filter.mpr ⟨List.mem_of_getElem? (i := 482) (by decide +kernel), rfl⟩
theorem ml_L_52 : Cond.methodLink RL 52 yX7_due ∈ gtbl := List.mem_filter.mpr ⟨List.mem_of_getElem? (i := 483) (by decide +kernel), rfl⟩
theorem im_yX7_due : Cond.instanceMethod yX7_due ∈ gtbl := List.mem_filter.mpr ⟨List.mem_of_getElem? (i := 484) (by decide +kernel), rfl⟩
theorem se_yX7_due : Cond.selects RX7 yX7_due yX7_due ∈ gtbl := List.mem_filter.mpr ⟨List.mem_of_getElem? (i := 485) (by decide +kernel), rfl⟩
theorem co_yX7_due : Cond.code yX7_due cX7_due 2 (some .int) ∈ gtbl := List.mem_filter.mpr ⟨List.mem_of_getElem? (i := 486) (by decide +kernel), rfl⟩
theorem ml_X7_171 : Cond.methodLink RX7 171 yX7_dueOf ∈ gtbl := List.mem_filter.mpr ⟨List.mem_of_getElem? (i := 487) (by decide +kernel), rfl⟩
theorem im_yX7_dueOf : Cond.instanceMethod yX7_dueOf ∈ gtbl := List.mem_filter.mpr ⟨List.mem_of_getElem? (i := 489) (by decide +kernel), rfl⟩
theorem co_yX7_dueOf : Cond.code yX7_dueOf cX7_dueOf 2 (some .int) ∈ gtbl := List.mem_filter.mpr ⟨List.mem_of_getElem? (i := 490) (by decide +kernel), rfl⟩
theorem ml_X7_267 : Cond.methodLink RX7 267 yX3_firstDue ∈ gtbl := List.mem_filter.mpr ⟨List.mem_of_getElem? (i := 491) (by decide +kernel), rfl⟩
theorem im_yX3_firstDue : Cond.instanceMethod yX3_firstDue ∈ gtbl := List.mem_filter.mpr ⟨List.mem_of_getElem? (i := 492) (by decide +kernel), rfl⟩
theorem se_yX3_firstDue : Cond.selects RX3 yX3_firstDue yX3_firstDue ∈ gtbl := List.mem_filter.mpr ⟨List.mem_of_getElem? (i := 493) (by decide +kernel), rfl⟩
theorem co_yX3_firstDue : Cond.code yX3_firstDue cX3_firstDue 4 (some .int) ∈ gtbl := List.mem_filter.mpr ⟨List.mem_of_getElem? (i := 494) (by decide +kernel), rfl⟩
theorem ml_X3_43 : Cond.methodLink RX3 43 yX3_spanOn ∈ gtbl := List.mem_filter.mpr ⟨List.mem_of_getElem? (i := 495) (by decide +kernel), rfl⟩
theorem ml_L_56 : Cond.methodLink RL 56 yX7_beyond ∈ gtbl := List.mem_filter.mpr ⟨List.mem_of_getElem? (i := 496) (by decide +kernel), rfl⟩
theorem im_yX7_beyond : Cond.instanceMethod yX7_beyond ∈ gtbl := List.mem_filter.mpr ⟨List.mem_of_getElem? (i := 497) (by decide +kernel), rfl⟩
theorem se_yX7_beyond : Cond.selects RX7 yX7_beyond yX7_beyond ∈ gtbl := List.mem_filter.mpr ⟨List.mem_of_getElem? (i := 498) (by decide +kernel), rfl⟩
theorem co_yX7_beyond : Cond.code yX7_beyond cX7_beyond 3 (some .int) ∈ gtbl := List.mem_filter.mpr ⟨List.mem_of_getElem? (i := 499) (by decide +kernel), rfl⟩
theorem ml_X7_175 : Cond.methodLink RX7 175 yX7_wasBeyond ∈ gtbl := List.mem_filter.mpr ⟨List.mem_of_getElem? (i := 500) (by decide +kernel), rfl⟩
theorem im_yX7_wasBeyond : Cond.instanceMethod yX7_wasBeyond ∈ gtbl := List.mem_filter.mpr ⟨List.mem_of_getElem? (i := 502) (by decide +kernel), rfl⟩
theorem co_yX7_wasBeyond : Cond.code yX7_wasBeyond cX7_wasBeyond 3 (some .boolean) ∈ gtbl := List.mem_filter.mpr ⟨List.mem_of_getElem? (i := 503) (by decide +kernel), rfl⟩
theorem ml_L_60 : Cond.methodLink RL 60 yX7_sweep ∈ gtbl := List.mem_filter.mpr ⟨List.mem_of_getElem? (i := 504) (by decide +kernel), rfl⟩
theorem im_yX7_sweep : Cond.instanceMethod yX7_sweep ∈ gtbl := List.mem_filter.mpr ⟨List.mem_of_getElem? (i := 505) (by decide +kernel), rfl⟩
theorem se_yX7_sweep : Cond.selects RX7 yX7_sweep yX7_sweep ∈ gtbl := List.mem_filter.mpr ⟨List.mem_of_getElem? (i := 506) (by decide +kernel), rfl⟩
theorem co_yX7_sweep : Cond.code yX7_sweep cX7_sweep 4 (some .int) ∈ gtbl := List.mem_filter.mpr ⟨List.mem_of_getElem? (i := 507) (by decide +kernel), rfl⟩
theorem ml_X7_178 : Cond.methodLink RX7 178 yX5_isFull ∈ gtbl := List.mem_filter.mpr ⟨List.mem_of_getElem? (i := 508) (by decide +kernel), rfl⟩
theorem im_yX5_isFull : Cond.instanceMethod yX5_isFull ∈ gtbl := List.mem_filter.mpr ⟨List.mem_of_getElem? (i := 509) (by decide +kernel), rfl⟩
theorem se_yX5_isFull : Cond.selects RX5 yX5_isFull yX5_isFull ∈ gtbl := List.mem_filter.mpr ⟨List.mem_of_getElem? (i := 510) (by decide +kernel), rfl⟩
theorem co_yX5_isFull : Cond.code yX5_isFull cX5_isFull 1 (some .boolean) ∈ gtbl := List.mem_filter.mpr ⟨List.mem_of_getElem? (i := 511) (by decide +kernel), rfl⟩
theorem ml_X7_179 : Cond.methodLink RX7 179 yX5_add ∈ gtbl := List.mem_filter.mpr ⟨List.mem_of_getElem? (i := 512) (by decide +kernel), rfl⟩
theorem im_yX5_add : Cond.instanceMethod yX5_add ∈ gtbl := List.mem_filter.mpr ⟨List.mem_of_getElem? (i := 513) (by decide +kernel), rfl⟩
theorem se_yX5_add : Cond.selects RX5 yX5_add yX5_add ∈ gtbl := List.mem_filter.mpr ⟨List.mem_of_getElem? (i := 514) (by decide +kernel), rfl⟩
theorem co_yX5_add : Cond.code yX5_add cX5_add 5 none ∈ gtbl := List.mem_filter.mpr ⟨List.mem_of_getElem? (i := 515) (by decide +kernel), rfl⟩
theorem ml_L_64 : Cond.methodLink RL 64 yX7_refuse ∈ gtbl := List.mem_filter.mpr ⟨List.mem_of_getElem? (i := 516) (by decide +kernel), rfl⟩
theorem im_yX7_refuse : Cond.instanceMethod yX7_refuse ∈ gtbl := List.mem_filter.mpr ⟨List.mem_of_getElem? (i := 517) (by decide +kernel), rfl⟩
theorem se_yX7_refuse : Cond.selects RX7 yX7_refuse yX7_refuse ∈ gtbl := List.mem_filter.mpr ⟨List.mem_of_getElem? (i := 518) (by decide +kernel), rfl⟩
theorem co_yX7_refuse : Cond.code yX7_refuse cX7_refuse 2 (some .int) ∈ gtbl := List.mem_filter.mpr ⟨List.mem_of_getElem? (i := 519) (by decide +kernel), rfl⟩
theorem ml_L_68 : Cond.methodLink RL 68 yX7_look ∈ gtbl := List.mem_filter.mpr ⟨List.mem_of_getElem? (i := 520) (by decide +kernel), rfl⟩
theorem im_yX7_look : Cond.instanceMethod yX7_look ∈ gtbl := List.mem_filter.mpr ⟨List.mem_of_getElem? (i := 521) (by decide +kernel), rfl⟩
theorem se_yX7_look : Cond.selects RX7 yX7_look yX7_look ∈ gtbl := List.mem_filter.mpr ⟨List.mem_of_getElem? (i := 522) (by decide +kernel), rfl⟩
theorem co_yX7_look : Cond.code yX7_look cX7_look 4 (some .int) ∈ gtbl := List.mem_filter.mpr ⟨List.mem_of_getElem? (i := 523) (by decide +kernel), rfl⟩
theorem ml_X7_184 : Cond.methodLink RX7 184 yX4_isFull ∈ gtbl := List.mem_filter.mpr ⟨List.mem_of_getElem? (i := 524) (by decide +kernel), rfl⟩
theorem im_yX4_isFull : Cond.instanceMethod yX4_isFull ∈ gtbl := List.mem_filter.mpr ⟨List.mem_of_getElem? (i := 525) (by decide +kernel), rfl⟩
theorem se_yX4_isFull : Cond.selects RX4 yX4_isFull yX4_isFull ∈ gtbl := List.mem_filter.mpr ⟨List.mem_of_getElem? (i := 526) (by decide +kernel), rfl⟩
theorem co_yX4_isFull : Cond.code yX4_isFull cX4_isFull 1 (some .boolean) ∈ gtbl := List.mem_filter.mpr ⟨List.mem_of_getElem? (i := 527) (by decide +kernel), rfl⟩
theorem ml_X7_185 : Cond.methodLink RX7 185 yX4_add ∈ gtbl := List.mem_filter.mpr ⟨List.mem_of_getElem? (i := 528) (by decide +kernel), rfl⟩
theorem im_yX4_add : Cond.instanceMethod yX4_add ∈ gtbl := List.mem_filter.mpr ⟨List.mem_of_getElem? (i := 529) (by decide +kernel), rfl⟩
theorem se_yX4_add : Cond.selects RX4 yX4_add yX4_add ∈ gtbl := List.mem_filter.mpr ⟨List.mem_of_getElem? (i := 530) (by decide +kernel), rfl⟩
theorem co_yX4_add : Cond.code yX4_add cX4_add 5 (some .int) ∈ gtbl := List.mem_filter.mpr ⟨List.mem_of_getElem? (i := 531) (by decide +kernel), rfl⟩
theorem ml_L_73 : Cond.methodLink RL 73 yX7_known ∈ gtbl := List.mem_filter.mpr ⟨List.mem_of_getElem? (i := 532) (by decide +kernel), rfl⟩
theorem im_yX7_known : Cond.instanceMethod yX7_known ∈ gtbl := List.mem_filter.mpr ⟨List.mem_of_getElem? (i := 533) (by decide +kernel), rfl⟩
theorem se_yX7_known : Cond.selects RX7 yX7_known yX7_known ∈ gtbl := List.mem_filter.mpr ⟨List.mem_of_getElem? (i := 534) (by decide +kernel), rfl⟩
theorem co_yX7_known : Cond.code yX7_known cX7_known 3 (some .int) ∈ gtbl := List.mem_filter.mpr ⟨List.mem_of_getElem? (i := 535) (by decide +kernel), rfl⟩
theorem ml_L_77 : Cond.methodLink RL 77 yX7_fire ∈ gtbl := List.mem_filter.mpr ⟨List.mem_of_getElem? (i := 536) (by decide +kernel), rfl⟩
theorem im_yX7_fire : Cond.instanceMethod yX7_fire ∈ gtbl := List.mem_filter.mpr ⟨List.mem_of_getElem? (i := 537) (by decide +kernel), rfl⟩
theorem se_yX7_fire : Cond.selects RX7 yX7_fire yX7_fire ∈ gtbl := List.mem_filter.mpr ⟨List.mem_of_getElem? (i := 538) (by decide +kernel), rfl⟩
theorem co_yX7_fire : Cond.code yX7_fire cX7_fire 3 (some .int) ∈ gtbl := List.mem_filter.mpr ⟨List.mem_of_getElem? (i := 539) (by decide +kernel), rfl⟩
theorem ml_X7_191 : Cond.methodLink RX7 191 yX1_isFull ∈ gtbl := List.mem_filter.mpr ⟨List.mem_of_getElem? (i := 540) (by decide +kernel), rfl⟩
theorem im_yX1_isFull : Cond.instanceMethod yX1_isFull ∈ gtbl := List.mem_filter.mpr ⟨List.mem_of_getElem? (i := 541) (by decide +kernel), rfl⟩
theorem se_yX1_isFull : Cond.selects RX1 yX1_isFull yX1_isFull ∈ gtbl := List.mem_filter.mpr ⟨List.mem_of_getElem? (i := 542) (by decide +kernel), rfl⟩
theorem co_yX1_isFull : Cond.code yX1_isFull cX1_isFull 1 (some .boolean) ∈ gtbl := List.mem_filter.mpr ⟨List.mem_of_getElem? (i := 543) (by decide +kernel), rfl⟩
theorem ml_X7_192 : Cond.methodLink RX7 192 yX1_add ∈ gtbl := List.mem_filter.mpr ⟨List.mem_of_getElem? (i := 544) (by decide +kernel), rfl⟩
theorem im_yX1_add : Cond.instanceMethod yX1_add ∈ gtbl := List.mem_filter.mpr ⟨List.mem_of_getElem? (i := 545) (by decide +kernel), rfl⟩
theorem se_yX1_add : Cond.selects RX1 yX1_add yX1_add ∈ gtbl := List.mem_filter.mpr ⟨List.mem_of_getElem? (i := 546) (by decide +kernel), rfl⟩
theorem co_yX1_add : Cond.code yX1_add cX1_add 3 (some .int) ∈ gtbl := List.mem_filter.mpr ⟨List.mem_of_getElem? (i := 547) (by decide +kernel), rfl⟩
theorem ml_L_81 : Cond.methodLink RL 81 yX7_back ∈ gtbl := List.mem_filter.mpr ⟨List.mem_of_getElem? (i := 548) (by decide +kernel), rfl⟩
theorem im_yX7_back : Cond.instanceMethod yX7_back ∈ gtbl := List.mem_filter.mpr ⟨List.mem_of_getElem? (i := 549) (by decide +kernel), rfl⟩
theorem se_yX7_back : Cond.selects RX7 yX7_back yX7_back ∈ gtbl := List.mem_filter.mpr ⟨List.mem_of_getElem? (i := 550) (by decide +kernel), rfl⟩
theorem co_yX7_back : Cond.code yX7_back cX7_back 5 (some .int) ∈ gtbl := List.mem_filter.mpr ⟨List.mem_of_getElem? (i := 551) (by decide +kernel), rfl⟩
theorem ml_X7_194 : Cond.methodLink RX7 194 yX1_has ∈ gtbl := List.mem_filter.mpr ⟨List.mem_of_getElem? (i := 552) (by decide +kernel), rfl⟩
theorem im_yX1_has : Cond.instanceMethod yX1_has ∈ gtbl := List.mem_filter.mpr ⟨List.mem_of_getElem? (i := 553) (by decide +kernel), rfl⟩
theorem se_yX1_has : Cond.selects RX1 yX1_has yX1_has ∈ gtbl := List.mem_filter.mpr ⟨List.mem_of_getElem? (i := 554) (by decide +kernel), rfl⟩
theorem co_yX1_has : Cond.code yX1_has cX1_has 2 (some .boolean) ∈ gtbl := List.mem_filter.mpr ⟨List.mem_of_getElem? (i := 555) (by decide +kernel), rfl⟩
theorem ml_X7_201 : Cond.methodLink RX7 201 yX7_sweeperBy ∈ gtbl := List.mem_filter.mpr ⟨List.mem_of_getElem? (i := 556) (by decide +kernel), rfl⟩
theorem im_yX7_sweeperBy : Cond.instanceMethod yX7_sweeperBy ∈ gtbl := List.mem_filter.mpr ⟨List.mem_of_getElem? (i := 558) (by decide +kernel), rfl⟩
theorem co_yX7_sweeperBy : Cond.code yX7_sweeperBy cX7_sweeperBy 4 (some .int) ∈ gtbl := List.mem_filter.mpr ⟨List.mem_of_getElem? (i := 559) (by decide +kernel), rfl⟩
theorem ml_L_85 : Cond.methodLink RL 85 yX7_rate ∈ gtbl := List.mem_filter.mpr ⟨List.mem_of_getElem? (i := 560) (by decide +kernel), rfl⟩
theorem im_yX7_rate : Cond.instanceMethod yX7_rate ∈ gtbl := List.mem_filter.mpr ⟨List.mem_of_getElem? (i := 561) (by decide +kernel), rfl⟩
theorem se_yX7_rate : Cond.selects RX7 yX7_rate yX7_rate ∈ gtbl := List.mem_filter.mpr ⟨List.mem_of_getElem? (i := 562) (by decide +kernel), rfl⟩
theorem co_yX7_rate : Cond.code yX7_rate cX7_rate 3 (some .int) ∈ gtbl := List.mem_filter.mpr ⟨List.mem_of_getElem? (i := 563) (by decide +kernel), rfl⟩
theorem ml_L_89 : Cond.methodLink RL 89 yX7_ill ∈ gtbl := List.mem_filter.mpr ⟨List.mem_of_getElem? (i := 564) (by decide +kernel), rfl⟩
theorem im_yX7_ill : Cond.instanceMethod yX7_ill ∈ gtbl := List.mem_filter.mpr ⟨List.mem_of_getElem? (i := 565) (by decide +kernel), rfl⟩
theorem se_yX7_ill : Cond.selects RX7 yX7_ill yX7_ill ∈ gtbl := List.mem_filter.mpr ⟨List.mem_of_getElem? (i := 566) (by decide +kernel), rfl⟩
theorem co_yX7_ill : Cond.code yX7_ill cX7_ill 4 (some .int) ∈ gtbl := List.mem_filter.mpr ⟨List.mem_of_getElem? (i := 567) (by decide +kernel), rfl⟩
theorem ml_L_94 : Cond.methodLink RL 94 yX7_fees ∈ gtbl := List.mem_filter.mpr ⟨List.mem_of_getElem? (i := 568) (by decide +kernel), rfl⟩
theorem im_yX7_fees : Cond.instanceMethod yX7_fees ∈ gtbl := List.mem_filter.mpr ⟨List.mem_of_getElem? (i := 569) (by decide +kernel), rfl⟩
theorem se_yX7_fees : Cond.selects RX7 yX7_fees yX7_fees ∈ gtbl := List.mem_filter.mpr ⟨List.mem_of_getElem? (i := 570) (by decide +kernel), rfl⟩
theorem co_yX7_fees : Cond.code yX7_fees cX7_fees 3 (some .int) ∈ gtbl := List.mem_filter.mpr ⟨List.mem_of_getElem? (i := 571) (by decide +kernel), rfl⟩
theorem ml_X7_204 : Cond.methodLink RX7 204 yX5_earnedBy ∈ gtbl := List.mem_filter.mpr ⟨List.mem_of_getElem? (i := 572) (by decide +kernel), rfl⟩
theorem im_yX5_earnedBy : Cond.instanceMethod yX5_earnedBy ∈ gtbl := List.mem_filter.mpr ⟨List.mem_of_getElem? (i := 573) (by decide +kernel), rfl⟩
theorem se_yX5_earnedBy : Cond.selects RX5 yX5_earnedBy yX5_earnedBy ∈ gtbl := List.mem_filter.mpr ⟨List.mem_of_getElem? (i := 574) (by decide +kernel), rfl⟩
theorem co_yX5_earnedBy : Cond.code yX5_earnedBy cX5_earnedBy 4 (some .int) ∈ gtbl := List.mem_filter.mpr ⟨List.mem_of_getElem? (i := 575) (by decide +kernel), rfl⟩
theorem ml_X7_207 : Cond.methodLink RX7 207 yX5_doneBy ∈ gtbl := List.mem_filter.mpr ⟨List.mem_of_getElem? (i := 576) (by decide +kernel), rfl⟩
theorem im_yX5_doneBy : Cond.instanceMethod yX5_doneBy ∈ gtbl := List.mem_filter.mpr ⟨List.mem_of_getElem? (i := 577) (by decide +kernel), rfl⟩
theorem se_yX5_doneBy : Cond.selects RX5 yX5_doneBy yX5_doneBy ∈ gtbl := List.mem_filter.mpr ⟨List.mem_of_getElem? (i := 578) (by decide +kernel), rfl⟩
theorem co_yX5_doneBy : Cond.code yX5_doneBy cX5_doneBy 4 (some .int) ∈ gtbl := List.mem_filter.mpr ⟨List.mem_of_getElem? (i := 579) (by decide +kernel), rfl⟩
theorem ml_L_98 : Cond.methodLink RL 98 yX7_round ∈ gtbl := List.mem_filter.mpr ⟨List.mem_of_getElem? (i := 580) (by decide +kernel), rfl⟩
theorem im_yX7_round : Cond.instanceMethod yX7_round ∈ gtbl := List.mem_filter.mpr ⟨List.mem_of_getElem? (i := 581) (by decide +kernel), rfl⟩
theorem se_yX7_round : Cond.selects RX7 yX7_round yX7_round ∈ gtbl := List.mem_filter.mpr ⟨List.mem_of_getElem? (i := 582) (by decide +kernel), rfl⟩
theorem co_yX7_round : Cond.code yX7_round cX7_round 5 (some .int) ∈ gtbl := List.mem_filter.mpr ⟨List.mem_of_getElem? (i := 583) (by decide +kernel), rfl⟩
theorem ml_X7_213 : Cond.methodLink RX7 213 yX7_waitingSince ∈ gtbl := List.mem_filter.mpr ⟨List.mem_of_getElem? (i := 584) (by decide +kernel), rfl⟩
theorem im_yX7_waitingSince : Cond.instanceMethod yX7_waitingSince ∈ gtbl := List.mem_filter.mpr ⟨List.mem_of_getElem? (i := 586) (by decide +kernel), rfl⟩
theorem co_yX7_waitingSince : Cond.code yX7_waitingSince cX7_waitingSince 5 (some .int) ∈ gtbl := List.mem_filter.mpr ⟨List.mem_of_getElem? (i := 587) (by decide +kernel), rfl⟩
theorem ml_X7_217 : Cond.methodLink RX7 217 yX6_restart ∈ gtbl := List.mem_filter.mpr ⟨List.mem_of_getElem? (i := 588) (by decide +kernel), rfl⟩
theorem im_yX6_restart : Cond.instanceMethod yX6_restart ∈ gtbl := List.mem_filter.mpr ⟨List.mem_of_getElem? (i := 589) (by decide +kernel), rfl⟩
theorem se_yX6_restart : Cond.selects RX6 yX6_restart yX6_restart ∈ gtbl := List.mem_filter.mpr ⟨List.mem_of_getElem? (i := 590) (by decide +kernel), rfl⟩
theorem co_yX6_restart : Cond.code yX6_restart cX6_restart 1 none ∈ gtbl := List.mem_filter.mpr ⟨List.mem_of_getElem? (i := 591) (by decide +kernel), rfl⟩
theorem ml_X7_220 : Cond.methodLink RX7 220 yX2_waitingAheadOf ∈ gtbl := List.mem_filter.mpr ⟨List.mem_of_getElem? (i := 592) (by decide +kernel), rfl⟩
theorem im_yX2_waitingAheadOf : Cond.instanceMethod yX2_waitingAheadOf ∈ gtbl := List.mem_filter.mpr ⟨List.mem_of_getElem? (i := 593) (by decide +kernel), rfl⟩
theorem se_yX2_waitingAheadOf : Cond.selects RX2 yX2_waitingAheadOf yX2_waitingAheadOf ∈ gtbl := List.mem_filter.mpr ⟨List.mem_of_getElem? (i := 594) (by decide +kernel), rfl⟩
theorem co_yX2_waitingAheadOf : Cond.code yX2_waitingAheadOf cX2_waitingAheadOf 5 (some .int) ∈ gtbl := List.mem_filter.mpr ⟨List.mem_of_getElem? (i := 595) (by decide +kernel), rfl⟩
theorem ml_X7_229 : Cond.methodLink RX7 229 yX6_addStop ∈ gtbl := List.mem_filter.mpr ⟨List.mem_of_getElem? (i := 596) (by decide +kernel), rfl⟩
theorem im_yX6_addStop : Cond.instanceMethod yX6_addStop ∈ gtbl := List.mem_filter.mpr ⟨List.mem_of_getElem? (i := 597) (by decide +kernel), rfl⟩
theorem se_yX6_addStop : Cond.selects RX6 yX6_addStop yX6_addStop ∈ gtbl := List.mem_filter.mpr ⟨List.mem_of_getElem? (i := 598) (by decide +kernel), rfl⟩
theorem co_yX6_addStop : Cond.code yX6_addStop cX6_addStop 4 none ∈ gtbl := List.mem_filter.mpr ⟨List.mem_of_getElem? (i := 599) (by decide +kernel), rfl⟩
theorem ml_X7_233 : Cond.methodLink RX7 233 yX6_findLeastWay ∈ gtbl := List.mem_filter.mpr ⟨List.mem_of_getElem? (i := 600) (by decide +kernel), rfl⟩
theorem im_yX6_findLeastWay : Cond.instanceMethod yX6_findLeastWay ∈ gtbl := List.mem_filter.mpr ⟨List.mem_of_getElem? (i := 601) (by decide +kernel), rfl⟩
theorem se_yX6_findLeastWay : Cond.selects RX6 yX6_findLeastWay yX6_findLeastWay ∈ gtbl := List.mem_filter.mpr ⟨List.mem_of_getElem? (i := 602) (by decide +kernel), rfl⟩
theorem co_yX6_findLeastWay : Cond.code yX6_findLeastWay cX6_findLeastWay 1 none ∈ gtbl := List.mem_filter.mpr ⟨List.mem_of_getElem? (i := 603) (by decide +kernel), rfl⟩
theorem kc_X6_38 : Cond.constant RX6 38 (1000000) ∈ gtbl := List.mem_filter.mpr ⟨List.mem_of_getElem? (i := 604) (by decide +kernel), rfl⟩
theorem ml_X6_39 : Cond.methodLink RX6 39 yX6_extend ∈ gtbl := List.mem_filter.mpr ⟨List.mem_of_getElem? (i := 605) (by decide +kernel), rfl⟩
theorem sm_yX6_extend : Cond.static yX6_extend ∈ gtbl := List.mem_filter.mpr ⟨List.mem_of_getElem? (i := 606) (by decide +kernel), rfl⟩
theorem co_yX6_extend : Cond.code yX6_extend cX6_extend 8 none ∈ gtbl := List.mem_filter.mpr ⟨List.mem_of_getElem? (i := 607) (by decide +kernel), rfl⟩
theorem ml_X6_43 : Cond.methodLink RX6 43 yX6_keepTried ∈ gtbl := List.mem_filter.mpr ⟨List.mem_of_getElem? (i := 608) (by decide +kernel), rfl⟩
theorem im_yX6_keepTried : Cond.instanceMethod yX6_keepTried ∈ gtbl := List.mem_filter.mpr ⟨List.mem_of_getElem? (i := 610) (by decide +kernel), rfl⟩
theorem co_yX6_keepTried : Cond.code yX6_keepTried cX6_keepTried 3 none ∈ gtbl := List.mem_filter.mpr ⟨List.mem_of_getElem? (i := 611) (by decide +kernel), rfl⟩
theorem ml_X6_47 : Cond.methodLink RX6 47 yJ9_abs_0f7a4 ∈ gtbl := List.mem_filter.mpr ⟨List.mem_of_getElem? (i := 612) (by decide +kernel), rfl⟩
theorem ml_L_103 : Cond.methodLink RL 103 yX7_at ∈ gtbl := List.mem_filter.mpr ⟨List.mem_of_getElem? (i := 613) (by decide +kernel), rfl⟩
theorem im_yX7_at : Cond.instanceMethod yX7_at ∈ gtbl := List.mem_filter.mpr ⟨List.mem_of_getElem? (i := 614) (by decide +kernel), rfl⟩
theorem se_yX7_at : Cond.selects RX7 yX7_at yX7_at ∈ gtbl := List.mem_filter.mpr ⟨List.mem_of_getElem? (i := 615) (by decide +kernel), rfl⟩
theorem co_yX7_at : Cond.code yX7_at cX7_at 2 (some .int) ∈ gtbl := List.mem_filter.mpr ⟨List.mem_of_getElem? (i := 616) (by decide +kernel), rfl⟩
theorem ml_X7_240 : Cond.methodLink RX7 240 yX6_flueAt ∈ gtbl := List.mem_filter.mpr ⟨List.mem_of_getElem? (i := 617) (by decide +kernel), rfl⟩
theorem im_yX6_flueAt : Cond.instanceMethod yX6_flueAt ∈ gtbl := List.mem_filter.mpr ⟨List.mem_of_getElem? (i := 618) (by decide +kernel), rfl⟩
theorem se_yX6_flueAt : Cond.selects RX6 yX6_flueAt yX6_flueAt ∈ gtbl := List.mem_filter.mpr ⟨List.mem_of_getElem? (i := 619) (by decide +kernel), rfl⟩
theorem co_yX6_flueAt : Cond.code yX6_flueAt cX6_flueAt 2 (some .int) ∈ gtbl := List.mem_filter.mpr ⟨List.mem_of_getElem? (i := 620) (by decide +kernel), rfl⟩
theorem ml_L_107 : Cond.methodLink RL 107 yX7_count ∈ gtbl := List.mem_filter.mpr ⟨List.mem_of_getElem? (i := 621) (by decide +kernel), rfl⟩
theorem im_yX7_count : Cond.instanceMethod yX7_count ∈ gtbl := List.mem_filter.mpr ⟨List.mem_of_getElem? (i := 622) (by decide +kernel), rfl⟩
theorem se_yX7_count : Cond.selects RX7 yX7_count yX7_count ∈ gtbl := List.mem_filter.mpr ⟨List.mem_of_getElem? (i := 623) (by decide +kernel), rfl⟩
theorem co_yX7_count : Cond.code yX7_count cX7_count 2 (some .int) ∈ gtbl := List.mem_filter.mpr ⟨List.mem_of_getElem? (i := 624) (by decide +kernel), rfl⟩
theorem ml_L_111 : Cond.methodLink RL 111 yX7_trace ∈ gtbl := List.mem_filter.mpr ⟨List.mem_of_getElem? (i := 625) (by decide +kernel), rfl⟩
theorem im_yX7_trace : Cond.instanceMethod yX7_trace ∈ gtbl := List.mem_filter.mpr ⟨List.mem_of_getElem? (i := 626) (by decide +kernel), rfl⟩
theorem se_yX7_trace : Cond.selects RX7 yX7_trace yX7_trace ∈ gtbl := List.mem_filter.mpr ⟨List.mem_of_getElem? (i := 627) (by decide +kernel), rfl⟩
theorem co_yX7_trace : Cond.code yX7_trace cX7_trace 1 (some .long) ∈ gtbl := List.mem_filter.mpr ⟨List.mem_of_getElem? (i := 628) (by decide +kernel), rfl⟩
theorem kl_L_10 : Cond.classLink RL 10 RX8 ∈ gtbl := List.mem_filter.mpr ⟨List.mem_of_getElem? (i := 629) (by decide +kernel), rfl⟩
theorem ia_X8 : Cond.instantiable RX8 27 ∈ gtbl := List.mem_filter.mpr ⟨List.mem_of_getElem? (i := 630) (by decide +kernel), rfl⟩
theorem ml_L_12 : Cond.methodLink RL 12 yX8_init ∈ gtbl := List.mem_filter.mpr ⟨List.mem_of_getElem? (i := 631) (by decide +kernel), rfl⟩
theorem im_yX8_init : Cond.instanceMethod yX8_init ∈ gtbl := List.mem_filter.mpr ⟨List.mem_of_getElem? (i := 632) (by decide +kernel), rfl⟩
theorem co_yX8_init : Cond.code yX8_init cX8_init 1 none ∈ gtbl := List.mem_filter.mpr ⟨List.mem_of_getElem? (i := 633) (by decide +kernel), rfl⟩
theorem ml_X8_1 : Cond.methodLink RX8 1 Lib.objectInit ∈ gtbl := List.mem_filter.mpr ⟨List.mem_of_getElem? (i := 634) (by decide +kernel), rfl⟩
theorem fl_X8_57 : Cond.fieldLink RX8 57 "FlueRoundsModel" "thrown" "I" ∈ gtbl := List.mem_filter.mpr ⟨List.mem_of_getElem? (i := 635) (by decide +kernel), rfl⟩
theorem fl_X8_86 : Cond.fieldLink RX8 86 "FlueRoundsModel" "today" "I" ∈ gtbl := List.mem_filter.mpr ⟨List.mem_of_getElem? (i := 636) (by decide +kernel), rfl⟩
theorem fl_X8_7 : Cond.fieldLink RX8 7 "FlueRoundsModel" "draft" "[I" ∈ gtbl := List.mem_filter.mpr ⟨List.mem_of_getElem? (i := 637) (by decide +kernel), rfl⟩
theorem fl_X8_64 : Cond.fieldLink RX8 64 "FlueRoundsModel" "drafted" "I" ∈ gtbl := List.mem_filter.mpr ⟨List.mem_of_getElem? (i := 638) (by decide +kernel), rfl⟩
theorem fl_X8_69 : Cond.fieldLink RX8 69 "FlueRoundsModel" "laws" "I" ∈ gtbl := List.mem_filter.mpr ⟨List.mem_of_getElem? (i := 639) (by decide +kernel), rfl⟩
theorem fl_X8_13 : Cond.fieldLink RX8 13 "FlueRoundsModel" "lawOn" "[I" ∈ gtbl := List.mem_filter.mpr ⟨List.mem_of_getElem? (i := 640) (by decide +kernel), rfl⟩
theorem fl_X8_16 : Cond.fieldLink RX8 16 "FlueRoundsModel" "begins" "[I" ∈ gtbl := List.mem_filter.mpr ⟨List.mem_of_getElem? (i := 641) (by decide +kernel), rfl⟩
theorem fl_X8_19 : Cond.fieldLink RX8 19 "FlueRoundsModel" "fuelOf" "[I" ∈ gtbl := List.mem_filter.mpr ⟨List.mem_of_getElem? (i := 642) (by decide +kernel), rfl⟩
theorem fl_X8_22 : Cond.fieldLink RX8 22 "FlueRoundsModel" "spanOf" "[I" ∈ gtbl := List.mem_filter.mpr ⟨List.mem_of_getElem? (i := 643) (by decide +kernel), rfl⟩
theorem fl_X8_25 : Cond.fieldLink RX8 25 "FlueRoundsModel" "fromOf" "[I" ∈ gtbl := List.mem_filter.mpr ⟨List.mem_of_getElem? (i := 644) (by decide +kernel), rfl⟩
theorem fl_X8_76 : Cond.fieldLink RX8 76 "FlueRoundsModel" "items" "I" ∈ gtbl := List.mem_filter.mpr ⟨List.mem_of_getElem? (i := 645) (by decide +kernel), rfl⟩
theorem fl_X8_93 : Cond.fieldLink RX8 93 "FlueRoundsModel" "flues" "I" ∈ gtbl := List.mem_filter.mpr ⟨List.mem_of_getElem? (i := 646) (by decide +kernel), rfl⟩
theorem fl_X8_28 : Cond.fieldLink RX8 28 "FlueRoundsModel" "flue" "[I" ∈ gtbl := List.mem_filter.mpr ⟨List.mem_of_getElem? (i := 647) (by decide +kernel), rfl⟩
theorem fl_X8_110 : Cond.fieldLink RX8 110 "FlueRoundsModel" "looks" "I" ∈ gtbl := List.mem_filter.mpr ⟨List.mem_of_getElem? (i := 648) (by decide +kernel), rfl⟩
theorem fl_X8_31 : Cond.fieldLink RX8 31 "FlueRoundsModel" "look" "[I" ∈ gtbl := List.mem_filter.mpr ⟨List.mem_of_getElem? (i := 649) (by decide +kernel), rfl⟩
theorem fl_X8_129 : Cond.fieldLink RX8 129 "FlueRoundsModel" "fires" "I" ∈ gtbl := List.mem_filter.mpr ⟨List.mem_of_getElem? (i := 650) (by decide +kernel), rfl⟩
theorem fl_X8_34 : Cond.fieldLink RX8 34 "FlueRoundsModel" "fire" "[I" ∈ gtbl := List.mem_filter.mpr ⟨List.mem_of_getElem? (i := 651) (by decide +kernel), rfl⟩
theorem fl_X8_126 : Cond.fieldLink RX8 126 "FlueRoundsModel" "sweeps" "I" ∈ gtbl := List.mem_filter.mpr ⟨List.mem_of_getElem? (i := 652) (by decide +kernel), rfl⟩
theorem fl_X8_37 : Cond.fieldLink RX8 37 "FlueRoundsModel" "sweep" "[I" ∈ gtbl := List.mem_filter.mpr ⟨List.mem_of_getElem? (i := 653) (by decide +kernel), rfl⟩
theorem fl_X8_40 : Cond.fieldLink RX8 40 "FlueRoundsModel" "rate" "I" ∈ gtbl := List.mem_filter.mpr ⟨List.mem_of_getElem? (i := 654) (by decide +kernel), rfl⟩
theorem fl_X8_44 : Cond.fieldLink RX8 44 "FlueRoundsModel" "isIll" "[Z" ∈ gtbl := List.mem_filter.mpr ⟨List.mem_of_getElem? (i := 655) (by decide +kernel), rfl⟩
theorem fl_X8_135 : Cond.fieldLink RX8 135 "FlueRoundsModel" "roundMany" "I" ∈ gtbl := List.mem_filter.mpr ⟨List.mem_of_getElem? (i := 656) (by decide +kernel), rfl⟩
theorem fl_X8_48 : Cond.fieldLink RX8 48 "FlueRoundsModel" "row" "[I" ∈ gtbl := List.mem_filter.mpr ⟨List.mem_of_getElem? (i := 657) (by decide +kernel), rfl⟩
theorem fl_X8_51 : Cond.fieldLink RX8 51 "FlueRoundsModel" "chosen" "[I" ∈ gtbl := List.mem_filter.mpr ⟨List.mem_of_getElem? (i := 658) (by decide +kernel), rfl⟩
theorem fl_X8_54 : Cond.fieldLink RX8 54 "FlueRoundsModel" "tried" "[I" ∈ gtbl := List.mem_filter.mpr ⟨List.mem_of_getElem? (i := 659) (by decide +kernel), rfl⟩
theorem fl_X8_139 : Cond.fieldLink RX8 139 "FlueRoundsModel" "way" "I" ∈ gtbl := List.mem_filter.mpr ⟨List.mem_of_getElem? (i := 660) (by decide +kernel), rfl⟩
theorem fl_X8_102 : Cond.fieldLink RX8 102 "FlueRoundsModel" "trace" "J" ∈ gtbl := List.mem_filter.mpr ⟨List.mem_of_getElem? (i := 661) (by decide +kernel), rfl⟩
theorem ml_L_19 : Cond.methodLink RL 19 yX8_type ∈ gtbl := List.mem_filter.mpr ⟨List.mem_of_getElem? (i := 717) (by decide +kernel), rfl⟩
theorem im_yX8_type : Cond.instanceMethod yX8_type ∈ gtbl := List.mem_filter.mpr ⟨List.mem_of_getElem? (i := 718) (by decide +kernel), rfl⟩
theorem se_yX8_type : Cond.selects RX8 yX8_type yX8_type ∈ gtbl := List.mem_filter.mpr ⟨List.mem_of_getElem? (i := 719) (by decide +kernel), rfl⟩
theorem co_yX8_type : Cond.code yX8_type cX8_type 5 (some .int) ∈ gtbl := List.mem_filter.mpr ⟨List.mem_of_getElem? (i := 720) (by decide +kernel), rfl⟩
theorem ml_X8_60 : Cond.methodLink RX8 60 yX8_in ∈ gtbl := List.mem_filter.mpr ⟨List.mem_of_getElem? (i := 721) (by decide +kernel), rfl⟩
theorem sm_yX8_in : Cond.static yX8_in ∈ gtbl := List.mem_filter.mpr ⟨List.mem_of_getElem? (i := 722) (by decide +kernel), rfl⟩
theorem co_yX8_in : Cond.code yX8_in cX8_in 3 (some .boolean) ∈ gtbl := List.mem_filter.mpr ⟨List.mem_of_getElem? (i := 723) (by decide +kernel), rfl⟩
theorem kc_X8_67 : Cond.constantLong RX8 67 (255) ∈ gtbl := List.mem_filter.mpr ⟨List.mem_of_getElem? (i := 724) (by decide +kernel), rfl⟩
theorem ml_L_24 : Cond.methodLink RL 24 yX8_clear ∈ gtbl := List.mem_filter.mpr ⟨List.mem_of_getElem? (i := 725) (by decide +kernel), rfl⟩
theorem im_yX8_clear : Cond.instanceMethod yX8_clear ∈ gtbl := List.mem_filter.mpr ⟨List.mem_of_getElem? (i := 726) (by decide +kernel), rfl⟩
theorem se_yX8_clear : Cond.selects RX8 yX8_clear yX8_clear ∈ gtbl := List.mem_filter.mpr ⟨List.mem_of_getElem? (i := 727) (by decide +kernel), rfl⟩
theorem co_yX8_clear : Cond.code yX8_clear cX8_clear 2 (some .int) ∈ gtbl := List.mem_filter.mpr ⟨List.mem_of_getElem? (i := 728) (by decide +kernel), rfl⟩
theorem ml_L_28 : Cond.methodLink RL 28 yX8_law ∈ gtbl := List.mem_filter.mpr ⟨List.mem_of_getElem? (i := 729) (by decide +kernel), rfl⟩
theorem im_yX8_law : Cond.instanceMethod yX8_law ∈ gtbl := List.mem_filter.mpr ⟨List.mem_of_getElem? (i := 730) (by decide +kernel), rfl⟩
theorem se_yX8_law : Cond.selects RX8 yX8_law yX8_law ∈ gtbl := List.mem_filter.mpr ⟨List.mem_of_getElem? (i := 731) (by decide +kernel), rfl⟩
theorem co_yX8_law : Cond.code yX8_law cX8_law 2 (some .int) ∈ gtbl := List.mem_filter.mpr ⟨List.mem_of_getElem? (i := 732) (by decide +kernel), rfl⟩
theorem ml_X8_79 : Cond.methodLink RX8 79 yX8_faultAlone ∈ gtbl := List.mem_filter.mpr ⟨List.mem_of_getElem? (i := 733) (by decide +kernel), rfl⟩
theorem im_yX8_faultAlone : Cond.instanceMethod yX8_faultAlone ∈ gtbl := List.mem_filter.mpr ⟨List.mem_of_getElem? (i := 735) (by decide +kernel), rfl⟩
theorem co_yX8_faultAlone : Cond.code yX8_faultAlone cX8_faultAlone 3 (some .int) ∈ gtbl := List.mem_filter.mpr ⟨List.mem_of_getElem? (i := 736) (by decide +kernel), rfl⟩
theorem ml_X8_83 : Cond.methodLink RX8 83 yX8_reads ∈ gtbl := List.mem_filter.mpr ⟨List.mem_of_getElem? (i := 737) (by decide +kernel), rfl⟩
theorem im_yX8_reads : Cond.instanceMethod yX8_reads ∈ gtbl := List.mem_filter.mpr ⟨List.mem_of_getElem? (i := 739) (by decide +kernel), rfl⟩
theorem co_yX8_reads : Cond.code yX8_reads cX8_reads 8 (some .int) ∈ gtbl := List.mem_filter.mpr ⟨List.mem_of_getElem? (i := 740) (by decide +kernel), rfl⟩
theorem ml_X8_72 : Cond.methodLink RX8 72 yX8_isDigit ∈ gtbl := List.mem_filter.mpr ⟨List.mem_of_getElem? (i := 741) (by decide +kernel), rfl⟩
theorem im_yX8_isDigit : Cond.instanceMethod yX8_isDigit ∈ gtbl := List.mem_filter.mpr ⟨List.mem_of_getElem? (i := 743) (by decide +kernel), rfl⟩
theorem co_yX8_isDigit : Cond.code yX8_isDigit cX8_isDigit 2 (some .boolean) ∈ gtbl := List.mem_filter.mpr ⟨List.mem_of_getElem? (i := 744) (by decide +kernel), rfl⟩
theorem ml_L_33 : Cond.methodLink RL 33 yX8_span ∈ gtbl := List.mem_filter.mpr ⟨List.mem_of_getElem? (i := 745) (by decide +kernel), rfl⟩
theorem im_yX8_span : Cond.instanceMethod yX8_span ∈ gtbl := List.mem_filter.mpr ⟨List.mem_of_getElem? (i := 746) (by decide +kernel), rfl⟩
theorem se_yX8_span : Cond.selects RX8 yX8_span yX8_span ∈ gtbl := List.mem_filter.mpr ⟨List.mem_of_getElem? (i := 747) (by decide +kernel), rfl⟩
theorem co_yX8_span : Cond.code yX8_span cX8_span 3 (some .int) ∈ gtbl := List.mem_filter.mpr ⟨List.mem_of_getElem? (i := 748) (by decide +kernel), rfl⟩
theorem ml_X8_89 : Cond.methodLink RX8 89 yX8_spanBy ∈ gtbl := List.mem_filter.mpr ⟨List.mem_of_getElem? (i := 749) (by decide +kernel), rfl⟩
theorem im_yX8_spanBy : Cond.instanceMethod yX8_spanBy ∈ gtbl := List.mem_filter.mpr ⟨List.mem_of_getElem? (i := 751) (by decide +kernel), rfl⟩
theorem co_yX8_spanBy : Cond.code yX8_spanBy cX8_spanBy 6 (some .int) ∈ gtbl := List.mem_filter.mpr ⟨List.mem_of_getElem? (i := 752) (by decide +kernel), rfl⟩
theorem ml_L_38 : Cond.methodLink RL 38 yX8_days ∈ gtbl := List.mem_filter.mpr ⟨List.mem_of_getElem? (i := 753) (by decide +kernel), rfl⟩
theorem im_yX8_days : Cond.instanceMethod yX8_days ∈ gtbl := List.mem_filter.mpr ⟨List.mem_of_getElem? (i := 754) (by decide +kernel), rfl⟩
theorem se_yX8_days : Cond.selects RX8 yX8_days yX8_days ∈ gtbl := List.mem_filter.mpr ⟨List.mem_of_getElem? (i := 755) (by decide +kernel), rfl⟩
theorem co_yX8_days : Cond.code yX8_days cX8_days 2 (some .int) ∈ gtbl := List.mem_filter.mpr ⟨List.mem_of_getElem? (i := 756) (by decide +kernel), rfl⟩
theorem ml_L_43 : Cond.methodLink RL 43 yX8_flue ∈ gtbl := List.mem_filter.mpr ⟨List.mem_of_getElem? (i := 757) (by decide +kernel), rfl⟩
theorem im_yX8_flue : Cond.instanceMethod yX8_flue ∈ gtbl := List.mem_filter.mpr ⟨List.mem_of_getElem? (i := 758) (by decide +kernel), rfl⟩
theorem se_yX8_flue : Cond.selects RX8 yX8_flue yX8_flue ∈ gtbl := List.mem_filter.mpr ⟨List.mem_of_getElem? (i := 759) (by decide +kernel), rfl⟩
theorem co_yX8_flue : Cond.code yX8_flue cX8_flue 10 (some .int) ∈ gtbl := List.mem_filter.mpr ⟨List.mem_of_getElem? (i := 760) (by decide +kernel), rfl⟩
theorem ml_L_47 : Cond.methodLink RL 47 yX8_draught ∈ gtbl := List.mem_filter.mpr ⟨List.mem_of_getElem? (i := 761) (by decide +kernel), rfl⟩
theorem im_yX8_draught : Cond.instanceMethod yX8_draught ∈ gtbl := List.mem_filter.mpr ⟨List.mem_of_getElem? (i := 762) (by decide +kernel), rfl⟩
theorem se_yX8_draught : Cond.selects RX8 yX8_draught yX8_draught ∈ gtbl := List.mem_filter.mpr ⟨List.mem_of_getElem? (i := 763) (by decide +kernel), rfl⟩
theorem co_yX8_draught : Cond.code yX8_draught cX8_draught 5 (some .int) ∈ gtbl := List.mem_filter.mpr ⟨List.mem_of_getElem? (i := 764) (by decide +kernel), rfl⟩
theorem ml_X8_96 : Cond.methodLink RX8 96 yX8_isFlue ∈ gtbl := List.mem_filter.mpr ⟨List.mem_of_getElem? (i := 765) (by decide +kernel), rfl⟩
theorem im_yX8_isFlue : Cond.instanceMethod yX8_isFlue ∈ gtbl := List.mem_filter.mpr ⟨List.mem_of_getElem? (i := 767) (by decide +kernel), rfl⟩
theorem co_yX8_isFlue : Cond.code yX8_isFlue cX8_isFlue 2 (some .boolean) ∈ gtbl := List.mem_filter.mpr ⟨List.mem_of_getElem? (i := 768) (by decide +kernel), rfl⟩
theorem ml_X8_99 : Cond.methodLink RX8 99 yX8_of ∈ gtbl := List.mem_filter.mpr ⟨List.mem_of_getElem? (i := 769) (by decide +kernel), rfl⟩
theorem im_yX8_of : Cond.instanceMethod yX8_of ∈ gtbl := List.mem_filter.mpr ⟨List.mem_of_getElem? (i := 771) (by decide +kernel), rfl⟩
theorem co_yX8_of : Cond.code yX8_of cX8_of 3 (some .int) ∈ gtbl := List.mem_filter.mpr ⟨List.mem_of_getElem? (i := 772) (by decide +kernel), rfl⟩
theorem kc_X8_106 : Cond.constantLong RX8 106 (11) ∈ gtbl := List.mem_filter.mpr ⟨List.mem_of_getElem? (i := 773) (by decide +kernel), rfl⟩
theorem kc_X8_108 : Cond.constantLong RX8 108 (111) ∈ gtbl := List.mem_filter.mpr ⟨List.mem_of_getElem? (i := 774) (by decide +kernel), rfl⟩
theorem ml_L_51 : Cond.methodLink RL 51 yX8_about ∈ gtbl := List.mem_filter.mpr ⟨List.mem_of_getElem? (i := 775) (by decide +kernel), rfl⟩
theorem im_yX8_about : Cond.instanceMethod yX8_about ∈ gtbl := List.mem_filter.mpr ⟨List.mem_of_getElem? (i := 776) (by decide +kernel), rfl⟩
theorem se_yX8_about : Cond.selects RX8 yX8_about yX8_about ∈ gtbl := List.mem_filter.mpr ⟨List.mem_of_getElem? (i := 777) (by decide +kernel), rfl⟩
theorem co_yX8_about : Cond.code yX8_about cX8_about 3 (some .int) ∈ gtbl := List.mem_filter.mpr ⟨List.mem_of_getElem? (i := 778) (by decide +kernel), rfl⟩
theorem ml_X8_116 : Cond.methodLink RX8 116 yX8_isForbidden ∈ gtbl := List.mem_filter.mpr ⟨List.mem_of_getElem? (i := 779) (by decide +kernel), rfl⟩
theorem im_yX8_isForbidden : Cond.instanceMethod yX8_isForbidden ∈ gtbl := List.mem_filter.mpr ⟨List.mem_of_getElem? (i := 781) (by decide +kernel), rfl⟩
theorem co_yX8_isForbidden : Cond.code yX8_isForbidden cX8_isForbidden 2 (some .boolean) ∈ gtbl := List.mem_filter.mpr ⟨List.mem_of_getElem? (i := 782) (by decide +kernel), rfl⟩
theorem ml_X8_113 : Cond.methodLink RX8 113 yX8_knownOn ∈ gtbl := List.mem_filter.mpr ⟨List.mem_of_getElem? (i := 783) (by decide +kernel), rfl⟩
theorem im_yX8_knownOn : Cond.instanceMethod yX8_knownOn ∈ gtbl := List.mem_filter.mpr ⟨List.mem_of_getElem? (i := 785) (by decide +kernel), rfl⟩
theorem co_yX8_knownOn : Cond.code yX8_knownOn cX8_knownOn 6 (some .int) ∈ gtbl := List.mem_filter.mpr ⟨List.mem_of_getElem? (i := 786) (by decide +kernel), rfl⟩
theorem ml_X8_119 : Cond.methodLink RX8 119 yX8_doer ∈ gtbl := List.mem_filter.mpr ⟨List.mem_of_getElem? (i := 787) (by decide +kernel), rfl⟩
theorem im_yX8_doer : Cond.instanceMethod yX8_doer ∈ gtbl := List.mem_filter.mpr ⟨List.mem_of_getElem? (i := 789) (by decide +kernel), rfl⟩
theorem co_yX8_doer : Cond.code yX8_doer cX8_doer 11 (some .int) ∈ gtbl := List.mem_filter.mpr ⟨List.mem_of_getElem? (i := 790) (by decide +kernel), rfl⟩
theorem ml_L_55 : Cond.methodLink RL 55 yX8_due ∈ gtbl := List.mem_filter.mpr ⟨List.mem_of_getElem? (i := 791) (by decide +kernel), rfl⟩
theorem im_yX8_due : Cond.instanceMethod yX8_due ∈ gtbl := List.mem_filter.mpr ⟨List.mem_of_getElem? (i := 792) (by decide +kernel), rfl⟩
theorem se_yX8_due : Cond.selects RX8 yX8_due yX8_due ∈ gtbl := List.mem_filter.mpr ⟨List.mem_of_getElem? (i := 793) (by decide +kernel), rfl⟩
theorem co_yX8_due : Cond.code yX8_due cX8_due 2 (some .int) ∈ gtbl := List.mem_filter.mpr ⟨List.mem_of_getElem? (i := 794) (by decide +kernel), rfl⟩
theorem ml_X8_123 : Cond.methodLink RX8 123 yX8_dueBy ∈ gtbl := List.mem_filter.mpr ⟨List.mem_of_getElem? (i := 795) (by decide +kernel), rfl⟩
theorem im_yX8_dueBy : Cond.instanceMethod yX8_dueBy ∈ gtbl := List.mem_filter.mpr ⟨List.mem_of_getElem? (i := 797) (by decide +kernel), rfl⟩
theorem co_yX8_dueBy : Cond.code yX8_dueBy cX8_dueBy 4 (some .int) ∈ gtbl := List.mem_filter.mpr ⟨List.mem_of_getElem? (i := 798) (by decide +kernel), rfl⟩
theorem ml_L_59 : Cond.methodLink RL 59 yX8_beyond ∈ gtbl := List.mem_filter.mpr ⟨List.mem_of_getElem? (i := 799) (by decide +kernel), rfl⟩
theorem im_yX8_beyond : Cond.instanceMethod yX8_beyond ∈ gtbl := List.mem_filter.mpr ⟨List.mem_of_getElem? (i := 800) (by decide +kernel), rfl⟩
theorem se_yX8_beyond : Cond.selects RX8 yX8_beyond yX8_beyond ∈ gtbl := List.mem_filter.mpr ⟨List.mem_of_getElem? (i := 801) (by decide +kernel), rfl⟩
theorem co_yX8_beyond : Cond.code yX8_beyond cX8_beyond 3 (some .int) ∈ gtbl := List.mem_filter.mpr ⟨List.mem_of_getElem? (i := 802) (by decide +kernel), rfl⟩
theorem ml_L_63 : Cond.methodLink RL 63 yX8_sweep ∈ gtbl := List.mem_filter.mpr ⟨List.mem_of_getElem? (i := 803) (by decide +kernel), rfl⟩
theorem im_yX8_sweep : Cond.instanceMethod yX8_sweep ∈ gtbl := List.mem_filter.mpr ⟨List.mem_of_getElem? (i := 804) (by decide +kernel), rfl⟩
theorem se_yX8_sweep : Cond.selects RX8 yX8_sweep yX8_sweep ∈ gtbl := List.mem_filter.mpr ⟨List.mem_of_getElem? (i := 805) (by decide +kernel), rfl⟩
theorem co_yX8_sweep : Cond.code yX8_sweep cX8_sweep 4 (some .int) ∈ gtbl := List.mem_filter.mpr ⟨List.mem_of_getElem? (i := 806) (by decide +kernel), rfl⟩
theorem ml_L_67 : Cond.methodLink RL 67 yX8_refuse ∈ gtbl := List.mem_filter.mpr ⟨List.mem_of_getElem? (i := 807) (by decide +kernel), rfl⟩
theorem im_yX8_refuse : Cond.instanceMethod yX8_refuse ∈ gtbl := List.mem_filter.mpr ⟨List.mem_of_getElem? (i := 808) (by decide +kernel), rfl⟩
theorem se_yX8_refuse : Cond.selects RX8 yX8_refuse yX8_refuse ∈ gtbl := List.mem_filter.mpr ⟨List.mem_of_getElem? (i := 809) (by decide +kernel), rfl⟩
theorem co_yX8_refuse : Cond.code yX8_refuse cX8_refuse 2 (some .int) ∈ gtbl := List.mem_filter.mpr ⟨List.mem_of_getElem? (i := 810) (by decide +kernel), rfl⟩
theorem ml_L_72 : Cond.methodLink RL 72 yX8_look ∈ gtbl := List.mem_filter.mpr ⟨List.mem_of_getElem? (i := 811) (by decide +kernel), rfl⟩
theorem im_yX8_look : Cond.instanceMethod yX8_look ∈ gtbl := List.mem_filter.mpr ⟨List.mem_of_getElem? (i := 812) (by decide +kernel), rfl⟩
theorem se_yX8_look : Cond.selects RX8 yX8_look yX8_look ∈ gtbl := List.mem_filter.mpr ⟨List.mem_of_getElem? (i := 813) (by decide +kernel), rfl⟩
theorem co_yX8_look : Cond.code yX8_look cX8_look 4 (some .int) ∈ gtbl := List.mem_filter.mpr ⟨List.mem_of_getElem? (i := 814) (by decide +kernel), rfl⟩
theorem ml_L_76 : Cond.methodLink RL 76 yX8_known ∈ gtbl := List.mem_filter.mpr ⟨List.mem_of_getElem? (i := 815) (by decide +kernel), rfl⟩
theorem im_yX8_known : Cond.instanceMethod yX8_known ∈ gtbl := List.mem_filter.mpr ⟨List.mem_of_getElem? (i := 816) (by decide +kernel), rfl⟩
theorem se_yX8_known : Cond.selects RX8 yX8_known yX8_known ∈ gtbl := List.mem_filter.mpr ⟨List.mem_of_getElem? (i := 817) (by decide +kernel), rfl⟩
theorem co_yX8_known : Cond.code yX8_known cX8_known 3 (some .int) ∈ gtbl := List.mem_filter.mpr ⟨List.mem_of_getElem? (i := 818) (by decide +kernel), rfl⟩
theorem ml_L_80 : Cond.methodLink RL 80 yX8_fire ∈ gtbl := List.mem_filter.mpr ⟨List.mem_of_getElem? (i := 819) (by decide +kernel), rfl⟩
theorem im_yX8_fire : Cond.instanceMethod yX8_fire ∈ gtbl := List.mem_filter.mpr ⟨List.mem_of_getElem? (i := 820) (by decide +kernel), rfl⟩
theorem se_yX8_fire : Cond.selects RX8 yX8_fire yX8_fire ∈ gtbl := List.mem_filter.mpr ⟨List.mem_of_getElem? (i := 821) (by decide +kernel), rfl⟩
theorem co_yX8_fire : Cond.code yX8_fire cX8_fire 3 (some .int) ∈ gtbl := List.mem_filter.mpr ⟨List.mem_of_getElem? (i := 822) (by decide +kernel), rfl⟩
theorem ml_L_84 : Cond.methodLink RL 84 yX8_back ∈ gtbl := List.mem_filter.mpr ⟨List.mem_of_getElem? (i := 823) (by decide +kernel), rfl⟩
theorem im_yX8_back : Cond.instanceMethod yX8_back ∈ gtbl := List.mem_filter.mpr ⟨List.mem_of_getElem? (i := 824) (by decide +kernel), rfl⟩
theorem se_yX8_back : Cond.selects RX8 yX8_back yX8_back ∈ gtbl := List.mem_filter.mpr ⟨List.mem_of_getElem? (i := 825) (by decide +kernel), rfl⟩
theorem co_yX8_back : Cond.code yX8_back cX8_back 8 (some .int) ∈ gtbl := List.mem_filter.mpr ⟨List.mem_of_getElem? (i := 826) (by decide +kernel), rfl⟩
theorem ml_L_88 : Cond.methodLink RL 88 yX8_rate ∈ gtbl := List.mem_filter.mpr ⟨List.mem_of_getElem? (i := 827) (by decide +kernel), rfl⟩
theorem im_yX8_rate : Cond.instanceMethod yX8_rate ∈ gtbl := List.mem_filter.mpr ⟨List.mem_of_getElem? (i := 828) (by decide +kernel), rfl⟩
theorem se_yX8_rate : Cond.selects RX8 yX8_rate yX8_rate ∈ gtbl := List.mem_filter.mpr ⟨List.mem_of_getElem? (i := 829) (by decide +kernel), rfl⟩
theorem co_yX8_rate : Cond.code yX8_rate cX8_rate 3 (some .int) ∈ gtbl := List.mem_filter.mpr ⟨List.mem_of_getElem? (i := 830) (by decide +kernel), rfl⟩
theorem ml_L_93 : Cond.methodLink RL 93 yX8_ill ∈ gtbl := List.mem_filter.mpr ⟨List.mem_of_getElem? (i := 831) (by decide +kernel), rfl⟩
theorem im_yX8_ill : Cond.instanceMethod yX8_ill ∈ gtbl := List.mem_filter.mpr ⟨List.mem_of_getElem? (i := 832) (by decide +kernel), rfl⟩
theorem se_yX8_ill : Cond.selects RX8 yX8_ill yX8_ill ∈ gtbl := List.mem_filter.mpr ⟨List.mem_of_getElem? (i := 833) (by decide +kernel), rfl⟩
theorem co_yX8_ill : Cond.code yX8_ill cX8_ill 4 (some .int) ∈ gtbl := List.mem_filter.mpr ⟨List.mem_of_getElem? (i := 834) (by decide +kernel), rfl⟩
theorem ml_X8_132 : Cond.methodLink RX8 132 yX8_isHand ∈ gtbl := List.mem_filter.mpr ⟨List.mem_of_getElem? (i := 835) (by decide +kernel), rfl⟩
theorem sm_yX8_isHand : Cond.static yX8_isHand ∈ gtbl := List.mem_filter.mpr ⟨List.mem_of_getElem? (i := 836) (by decide +kernel), rfl⟩
theorem co_yX8_isHand : Cond.code yX8_isHand cX8_isHand 1 (some .boolean) ∈ gtbl := List.mem_filter.mpr ⟨List.mem_of_getElem? (i := 837) (by decide +kernel), rfl⟩
theorem ml_L_97 : Cond.methodLink RL 97 yX8_fees ∈ gtbl := List.mem_filter.mpr ⟨List.mem_of_getElem? (i := 838) (by decide +kernel), rfl⟩
theorem im_yX8_fees : Cond.instanceMethod yX8_fees ∈ gtbl := List.mem_filter.mpr ⟨List.mem_of_getElem? (i := 839) (by decide +kernel), rfl⟩
theorem se_yX8_fees : Cond.selects RX8 yX8_fees yX8_fees ∈ gtbl := List.mem_filter.mpr ⟨List.mem_of_getElem? (i := 840) (by decide +kernel), rfl⟩
theorem co_yX8_fees : Cond.code yX8_fees cX8_fees 5 (some .int) ∈ gtbl := List.mem_filter.mpr ⟨List.mem_of_getElem? (i := 841) (by decide +kernel), rfl⟩
theorem ml_L_102 : Cond.methodLink RL 102 yX8_round ∈ gtbl := List.mem_filter.mpr ⟨List.mem_of_getElem? (i := 842) (by decide +kernel), rfl⟩
theorem im_yX8_round : Cond.instanceMethod yX8_round ∈ gtbl := List.mem_filter.mpr ⟨List.mem_of_getElem? (i := 843) (by decide +kernel), rfl⟩
theorem se_yX8_round : Cond.selects RX8 yX8_round yX8_round ∈ gtbl := List.mem_filter.mpr ⟨List.mem_of_getElem? (i := 844) (by decide +kernel), rfl⟩
theorem co_yX8_round : Cond.code yX8_round cX8_round 11 (some .int) ∈ gtbl := List.mem_filter.mpr ⟨List.mem_of_getElem? (i := 845) (by decide +kernel), rfl⟩
theorem kc_X8_138 : Cond.constant RX8 138 (100000) ∈ gtbl := List.mem_filter.mpr ⟨List.mem_of_getElem? (i := 846) (by decide +kernel), rfl⟩
theorem ml_X8_142 : Cond.methodLink RX8 142 yX8_wayOf ∈ gtbl := List.mem_filter.mpr ⟨List.mem_of_getElem? (i := 847) (by decide +kernel), rfl⟩
theorem im_yX8_wayOf : Cond.instanceMethod yX8_wayOf ∈ gtbl := List.mem_filter.mpr ⟨List.mem_of_getElem? (i := 849) (by decide +kernel), rfl⟩
theorem co_yX8_wayOf : Cond.code yX8_wayOf cX8_wayOf 8 (some .int) ∈ gtbl := List.mem_filter.mpr ⟨List.mem_of_getElem? (i := 850) (by decide +kernel), rfl⟩
theorem ml_X8_145 : Cond.methodLink RX8 145 yX8_goesOn ∈ gtbl := List.mem_filter.mpr ⟨List.mem_of_getElem? (i := 851) (by decide +kernel), rfl⟩
theorem im_yX8_goesOn : Cond.instanceMethod yX8_goesOn ∈ gtbl := List.mem_filter.mpr ⟨List.mem_of_getElem? (i := 853) (by decide +kernel), rfl⟩
theorem co_yX8_goesOn : Cond.code yX8_goesOn cX8_goesOn 7 (some .boolean) ∈ gtbl := List.mem_filter.mpr ⟨List.mem_of_getElem? (i := 854) (by decide +kernel), rfl⟩
theorem ml_L_106 : Cond.methodLink RL 106 yX8_at ∈ gtbl := List.mem_filter.mpr ⟨List.mem_of_getElem? (i := 855) (by decide +kernel), rfl⟩
theorem im_yX8_at : Cond.instanceMethod yX8_at ∈ gtbl := List.mem_filter.mpr ⟨List.mem_of_getElem? (i := 856) (by decide +kernel), rfl⟩
theorem se_yX8_at : Cond.selects RX8 yX8_at yX8_at ∈ gtbl := List.mem_filter.mpr ⟨List.mem_of_getElem? (i := 857) (by decide +kernel), rfl⟩
theorem co_yX8_at : Cond.code yX8_at cX8_at 2 (some .int) ∈ gtbl := List.mem_filter.mpr ⟨List.mem_of_getElem? (i := 858) (by decide +kernel), rfl⟩
theorem ml_L_110 : Cond.methodLink RL 110 yX8_count ∈ gtbl := List.mem_filter.mpr ⟨List.mem_of_getElem? (i := 859) (by decide +kernel), rfl⟩
theorem im_yX8_count : Cond.instanceMethod yX8_count ∈ gtbl := List.mem_filter.mpr ⟨List.mem_of_getElem? (i := 860) (by decide +kernel), rfl⟩
theorem se_yX8_count : Cond.selects RX8 yX8_count yX8_count ∈ gtbl := List.mem_filter.mpr ⟨List.mem_of_getElem? (i := 861) (by decide +kernel), rfl⟩
theorem co_yX8_count : Cond.code yX8_count cX8_count 2 (some .int) ∈ gtbl := List.mem_filter.mpr ⟨List.mem_of_getElem? (i := 862) (by decide +kernel), rfl⟩
theorem ml_L_115 : Cond.methodLink RL 115 yX8_trace ∈ gtbl := List.mem_filter.mpr ⟨List.mem_of_getElem? (i := 863) (by decide +kernel), rfl⟩
theorem im_yX8_trace : Cond.instanceMethod yX8_trace ∈ gtbl := List.mem_filter.mpr ⟨List.mem_of_getElem? (i := 864) (by decide +kernel), rfl⟩
theorem se_yX8_trace : Cond.selects RX8 yX8_trace yX8_trace ∈ gtbl := List.mem_filter.mpr ⟨List.mem_of_getElem? (i := 865) (by decide +kernel), rfl⟩
theorem co_yX8_trace : Cond.code yX8_trace cX8_trace 1 (some .long) ∈ gtbl := List.mem_filter.mpr ⟨List.mem_of_getElem? (i := 866) (by decide +kernel), rfl⟩
theorem kc_L_13 : Cond.constantLong RL 13 (4294967295) ∈ gtbl := List.mem_filter.mpr ⟨List.mem_of_getElem? (i := 867) (by decide +kernel), rfl⟩
