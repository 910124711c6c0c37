def TW : List Cond := lw_tbl.filter goodWord
abbrev i32 (n : Int) : Int32 := Int32.ofInt n
abbrev i64 (n : Int) : Int64 := Int64.ofInt n
theorem tw_sel_X0_renew : Cond.selects RX0 yX0_renew yX0_renew ∈ TW := List.mem_filter.mpr ⟨List.mem_of_getElem? (i := 0) (by decide +kernel), by decide +kernel⟩
theorem tw_sel_X0_hasPoint : Cond.selects RX0 yX0_hasPoint yX0_hasPoint ∈ TW := List.mem_filter.mpr ⟨List.mem_of_getElem? (i := 1) (by decide +kernel), by decide +kernel⟩
theorem tw_sel_X0_put : Cond.selects RX0 yX0_put yX0_put ∈ TW := List.mem_filter.mpr ⟨List.mem_of_getElem? (i := 2) (by decide +kernel), by decide +kernel⟩
theorem tw_sel_X0_movedBy : Cond.selects RX0 yX0_movedBy yX0_movedBy ∈ TW := List.mem_filter.mpr ⟨List.mem_of_getElem? (i := 3) (by decide +kernel), by decide +kernel⟩
theorem tw_sel_X4_refusalOfLine : Cond.selects RX4 yX4_refusalOfLine yX4_refusalOfLine ∈ TW := List.mem_filter.mpr ⟨List.mem_of_getElem? (i := 4) (by decide +kernel), by decide +kernel⟩
theorem tw_sel_X0_linesOf : Cond.selects RX0 yX0_linesOf yX0_linesOf ∈ TW := List.mem_filter.mpr ⟨List.mem_of_getElem? (i := 5) (by decide +kernel), by decide +kernel⟩
theorem tw_sel_X4_takeLine : Cond.selects RX4 yX4_takeLine yX4_takeLine ∈ TW := List.mem_filter.mpr ⟨List.mem_of_getElem? (i := 6) (by decide +kernel), by decide +kernel⟩
theorem tw_sel_X0_layOut : Cond.selects RX0 yX0_layOut yX0_layOut ∈ TW := List.mem_filter.mpr ⟨List.mem_of_getElem? (i := 7) (by decide +kernel), by decide +kernel⟩
theorem tw_sel_X0_pointsOf : Cond.selects RX0 yX0_pointsOf yX0_pointsOf ∈ TW := List.mem_filter.mpr ⟨List.mem_of_getElem? (i := 8) (by decide +kernel), by decide +kernel⟩
theorem tw_sel_X0_cell : Cond.selects RX0 yX0_cell yX0_cell ∈ TW := List.mem_filter.mpr ⟨List.mem_of_getElem? (i := 9) (by decide +kernel), by decide +kernel⟩
theorem tw_sel_X3_bendAt : Cond.selects RX3 yX3_bendAt yX3_bendAt ∈ TW := List.mem_filter.mpr ⟨List.mem_of_getElem? (i := 10) (by decide +kernel), by decide +kernel⟩
theorem tw_sel_X3_jumpAt : Cond.selects RX3 yX3_jumpAt yX3_jumpAt ∈ TW := List.mem_filter.mpr ⟨List.mem_of_getElem? (i := 11) (by decide +kernel), by decide +kernel⟩
theorem tw_sel_X3_farthestJump : Cond.selects RX3 yX3_farthestJump yX3_farthestJump ∈ TW := List.mem_filter.mpr ⟨List.mem_of_getElem? (i := 12) (by decide +kernel), by decide +kernel⟩
theorem tw_sel_X3_firstJumpThatFar : Cond.selects RX3 yX3_firstJumpThatFar yX3_firstJumpThatFar ∈ TW := List.mem_filter.mpr ⟨List.mem_of_getElem? (i := 13) (by decide +kernel), by decide +kernel⟩
theorem tw_sel_X3_countJumpsBeyond : Cond.selects RX3 yX3_countJumpsBeyond yX3_countJumpsBeyond ∈ TW := List.mem_filter.mpr ⟨List.mem_of_getElem? (i := 14) (by decide +kernel), by decide +kernel⟩
theorem tw_sel_X4_seekLeast : Cond.selects RX4 yX4_seekLeast yX4_seekLeast ∈ TW := List.mem_filter.mpr ⟨List.mem_of_getElem? (i := 15) (by decide +kernel), by decide +kernel⟩
theorem tw_sel_X2_stay : Cond.selects RX2 yX2_stay yX2_stay ∈ TW := List.mem_filter.mpr ⟨List.mem_of_getElem? (i := 16) (by decide +kernel), by decide +kernel⟩
theorem tw_sel_X2_place : Cond.selects RX2 yX2_place yX2_place ∈ TW := List.mem_filter.mpr ⟨List.mem_of_getElem? (i := 17) (by decide +kernel), by decide +kernel⟩
theorem tw_sel_X2_seek : Cond.selects RX2 yX2_seek yX2_seek ∈ TW := List.mem_filter.mpr ⟨List.mem_of_getElem? (i := 18) (by decide +kernel), by decide +kernel⟩
theorem tw_sel_X2_keepFewest : Cond.selects RX2 yX2_keepFewest yX2_keepFewest ∈ TW := List.mem_filter.mpr ⟨List.mem_of_getElem? (i := 19) (by decide +kernel), by decide +kernel⟩
theorem tw_sel_X2_slot : Cond.selects RX2 yX2_slot yX2_slot ∈ TW := List.mem_filter.mpr ⟨List.mem_of_getElem? (i := 20) (by decide +kernel), by decide +kernel⟩
theorem tw_sel_X2_fewestFrom : Cond.selects RX2 yX2_fewestFrom yX2_fewestFrom ∈ TW := List.mem_filter.mpr ⟨List.mem_of_getElem? (i := 21) (by decide +kernel), by decide +kernel⟩
theorem tw_sel_X2_jumpUnmoved : Cond.selects RX2 yX2_jumpUnmoved yX2_jumpUnmoved ∈ TW := List.mem_filter.mpr ⟨List.mem_of_getElem? (i := 22) (by decide +kernel), by decide +kernel⟩
theorem tw_sel_X2_lastFit : Cond.selects RX2 yX2_lastFit yX2_lastFit ∈ TW := List.mem_filter.mpr ⟨List.mem_of_getElem? (i := 23) (by decide +kernel), by decide +kernel⟩
theorem tw_sel_X2_firstFit : Cond.selects RX2 yX2_firstFit yX2_firstFit ∈ TW := List.mem_filter.mpr ⟨List.mem_of_getElem? (i := 24) (by decide +kernel), by decide +kernel⟩
theorem tw_sel_X2_firstLeading : Cond.selects RX2 yX2_firstLeading yX2_firstLeading ∈ TW := List.mem_filter.mpr ⟨List.mem_of_getElem? (i := 25) (by decide +kernel), by decide +kernel⟩
theorem tw_sel_X2_moveOf : Cond.selects RX2 yX2_moveOf yX2_moveOf ∈ TW := List.mem_filter.mpr ⟨List.mem_of_getElem? (i := 26) (by decide +kernel), by decide +kernel⟩
theorem tw_sel_X4_addMoves : Cond.selects RX4 yX4_addMoves yX4_addMoves ∈ TW := List.mem_filter.mpr ⟨List.mem_of_getElem? (i := 27) (by decide +kernel), by decide +kernel⟩
theorem tw_sel_X4_roundChanges : Cond.selects RX4 yX4_roundChanges yX4_roundChanges ∈ TW := List.mem_filter.mpr ⟨List.mem_of_getElem? (i := 28) (by decide +kernel), by decide +kernel⟩
theorem tw_sel_X4_areaInSixths : Cond.selects RX4 yX4_areaInSixths yX4_areaInSixths ∈ TW := List.mem_filter.mpr ⟨List.mem_of_getElem? (i := 29) (by decide +kernel), by decide +kernel⟩
theorem tw_sel_X1_measure : Cond.selects RX1 yX1_measure yX1_measure ∈ TW := List.mem_filter.mpr ⟨List.mem_of_getElem? (i := 30) (by decide +kernel), by decide +kernel⟩
theorem tw_sel_X1_isThere : Cond.selects RX1 yX1_isThere yX1_isThere ∈ TW := List.mem_filter.mpr ⟨List.mem_of_getElem? (i := 31) (by decide +kernel), by decide +kernel⟩
theorem tw_sel_X1_countBreaks : Cond.selects RX1 yX1_countBreaks yX1_countBreaks ∈ TW := List.mem_filter.mpr ⟨List.mem_of_getElem? (i := 32) (by decide +kernel), by decide +kernel⟩
theorem tw_sel_X1_isBreak : Cond.selects RX1 yX1_isBreak yX1_isBreak ∈ TW := List.mem_filter.mpr ⟨List.mem_of_getElem? (i := 33) (by decide +kernel), by decide +kernel⟩
theorem tw_sel_X0_broadest : Cond.selects RX0 yX0_broadest yX0_broadest ∈ TW := List.mem_filter.mpr ⟨List.mem_of_getElem? (i := 34) (by decide +kernel), by decide +kernel⟩
theorem tw_sel_X0_countHeld : Cond.selects RX0 yX0_countHeld yX0_countHeld ∈ TW := List.mem_filter.mpr ⟨List.mem_of_getElem? (i := 35) (by decide +kernel), by decide +kernel⟩
theorem tw_sel_X4_countUnfair : Cond.selects RX4 yX4_countUnfair yX4_countUnfair ∈ TW := List.mem_filter.mpr ⟨List.mem_of_getElem? (i := 36) (by decide +kernel), by decide +kernel⟩
theorem tw_sel_X0_farFromPuts : Cond.selects RX0 yX0_farFromPuts yX0_farFromPuts ∈ TW := List.mem_filter.mpr ⟨List.mem_of_getElem? (i := 37) (by decide +kernel), by decide +kernel⟩
theorem tw_sel_X5_isPoint : Cond.selects RX5 yX5_isPoint yX5_isPoint ∈ TW := List.mem_filter.mpr ⟨List.mem_of_getElem? (i := 38) (by decide +kernel), by decide +kernel⟩
theorem tw_sel_X5_barred : Cond.selects RX5 yX5_barred yX5_barred ∈ TW := List.mem_filter.mpr ⟨List.mem_of_getElem? (i := 39) (by decide +kernel), by decide +kernel⟩
theorem tw_sel_X5_isLine : Cond.selects RX5 yX5_isLine yX5_isLine ∈ TW := List.mem_filter.mpr ⟨List.mem_of_getElem? (i := 40) (by decide +kernel), by decide +kernel⟩
theorem tw_sel_X5_linesOf : Cond.selects RX5 yX5_linesOf yX5_linesOf ∈ TW := List.mem_filter.mpr ⟨List.mem_of_getElem? (i := 41) (by decide +kernel), by decide +kernel⟩
theorem tw_sel_X5_lays : Cond.selects RX5 yX5_lays yX5_lays ∈ TW := List.mem_filter.mpr ⟨List.mem_of_getElem? (i := 42) (by decide +kernel), by decide +kernel⟩
theorem tw_sel_X5_bendAt : Cond.selects RX5 yX5_bendAt yX5_bendAt ∈ TW := List.mem_filter.mpr ⟨List.mem_of_getElem? (i := 43) (by decide +kernel), by decide +kernel⟩
theorem tw_sel_X5_jumpAt : Cond.selects RX5 yX5_jumpAt yX5_jumpAt ∈ TW := List.mem_filter.mpr ⟨List.mem_of_getElem? (i := 44) (by decide +kernel), by decide +kernel⟩
theorem tw_sel_X5_roughNow : Cond.selects RX5 yX5_roughNow yX5_roughNow ∈ TW := List.mem_filter.mpr ⟨List.mem_of_getElem? (i := 45) (by decide +kernel), by decide +kernel⟩
theorem tw_sel_X5_findLeast : Cond.selects RX5 yX5_findLeast yX5_findLeast ∈ TW := List.mem_filter.mpr ⟨List.mem_of_getElem? (i := 46) (by decide +kernel), by decide +kernel⟩
theorem tw_sel_X5_findNeeds : Cond.selects RX5 yX5_findNeeds yX5_findNeeds ∈ TW := List.mem_filter.mpr ⟨List.mem_of_getElem? (i := 47) (by decide +kernel), by decide +kernel⟩
theorem tw_sel_X5_may : Cond.selects RX5 yX5_may yX5_may ∈ TW := List.mem_filter.mpr ⟨List.mem_of_getElem? (i := 48) (by decide +kernel), by decide +kernel⟩
theorem tw_sel_X5_needFrom : Cond.selects RX5 yX5_needFrom yX5_needFrom ∈ TW := List.mem_filter.mpr ⟨List.mem_of_getElem? (i := 49) (by decide +kernel), by decide +kernel⟩
theorem tw_sel_X5_isFair : Cond.selects RX5 yX5_isFair yX5_isFair ∈ TW := List.mem_filter.mpr ⟨List.mem_of_getElem? (i := 50) (by decide +kernel), by decide +kernel⟩
theorem tw_sel_X5_begins : Cond.selects RX5 yX5_begins yX5_begins ∈ TW := List.mem_filter.mpr ⟨List.mem_of_getElem? (i := 51) (by decide +kernel), by decide +kernel⟩
theorem tw_sel_X5_nextMove : Cond.selects RX5 yX5_nextMove yX5_nextMove ∈ TW := List.mem_filter.mpr ⟨List.mem_of_getElem? (i := 52) (by decide +kernel), by decide +kernel⟩
theorem tw_sel_X5_fairs : Cond.selects RX5 yX5_fairs yX5_fairs ∈ TW := List.mem_filter.mpr ⟨List.mem_of_getElem? (i := 53) (by decide +kernel), by decide +kernel⟩
theorem tw_sel_X5_round : Cond.selects RX5 yX5_round yX5_round ∈ TW := List.mem_filter.mpr ⟨List.mem_of_getElem? (i := 54) (by decide +kernel), by decide +kernel⟩
theorem tw_sel_X5_sumOf : Cond.selects RX5 yX5_sumOf yX5_sumOf ∈ TW := List.mem_filter.mpr ⟨List.mem_of_getElem? (i := 55) (by decide +kernel), by decide +kernel⟩
theorem tw_sel_X5_sixths : Cond.selects RX5 yX5_sixths yX5_sixths ∈ TW := List.mem_filter.mpr ⟨List.mem_of_getElem? (i := 56) (by decide +kernel), by decide +kernel⟩
theorem tw_sel_X5_findHeight : Cond.selects RX5 yX5_findHeight yX5_findHeight ∈ TW := List.mem_filter.mpr ⟨List.mem_of_getElem? (i := 57) (by decide +kernel), by decide +kernel⟩
theorem tw_sel_X5_breaksAt : Cond.selects RX5 yX5_breaksAt yX5_breaksAt ∈ TW := List.mem_filter.mpr ⟨List.mem_of_getElem? (i := 58) (by decide +kernel), by decide +kernel⟩
theorem tw_sel_X5_isBreak : Cond.selects RX5 yX5_isBreak yX5_isBreak ∈ TW := List.mem_filter.mpr ⟨List.mem_of_getElem? (i := 59) (by decide +kernel), by decide +kernel⟩
theorem tw_sel_X5_manyHeld : Cond.selects RX5 yX5_manyHeld yX5_manyHeld ∈ TW := List.mem_filter.mpr ⟨List.mem_of_getElem? (i := 60) (by decide +kernel), by decide +kernel⟩
theorem tw_sel_X5_manyRough : Cond.selects RX5 yX5_manyRough yX5_manyRough ∈ TW := List.mem_filter.mpr ⟨List.mem_of_getElem? (i := 61) (by decide +kernel), by decide +kernel⟩
theorem tw_sel_X5_farOff : Cond.selects RX5 yX5_farOff yX5_farOff ∈ TW := List.mem_filter.mpr ⟨List.mem_of_getElem? (i := 62) (by decide +kernel), by decide +kernel⟩
theorem tw_ini_L : Cond.initialized RL ∈ TW := List.mem_filter.mpr ⟨List.mem_of_getElem? (i := 63) (by decide +kernel), by decide +kernel⟩
theorem tw_ini_X4 : Cond.initialized RX4 ∈ TW := List.mem_filter.mpr ⟨List.mem_of_getElem? (i := 64) (by decide +kernel), by decide +kernel⟩
theorem tw_ini_X0 : Cond.initialized RX0 ∈ TW := List.mem_filter.mpr ⟨List.mem_of_getElem? (i := 65) (by decide +kernel), by decide +kernel⟩
theorem tw_ini_X3 : Cond.initialized RX3 ∈ TW := List.mem_filter.mpr ⟨List.mem_of_getElem? (i := 66) (by decide +kernel), by decide +kernel⟩
theorem tw_ini_X2 : Cond.initialized RX2 ∈ TW := List.mem_filter.mpr ⟨List.mem_of_getElem? (i := 67) (by decide +kernel), by decide +kernel⟩
theorem tw_ini_X1 : Cond.initialized RX1 ∈ TW := List.mem_filter.mpr ⟨List.mem_of_getElem? (i := 68) (by decide +kernel), by decide +kernel⟩
theorem tw_ini_X5 : Cond.initialized RX5 ∈ TW := List.mem_filter.mpr ⟨List.mem_of_getElem? (i := 69) (by decide +kernel), by decide +kernel⟩
theorem tw_ini_java_lang_Math : Cond.initialized "java/lang/Math" ∈ TW := List.mem_filter.mpr ⟨List.mem_of_getElem? (i := 70) (by decide +kernel), by decide +kernel⟩
theorem tw_ini_java_lang_System : Cond.initialized "java/lang/System" ∈ TW := List.mem_filter.mpr ⟨List.mem_of_getElem? (i := 71) (by decide +kernel), by decide +kernel⟩
theorem tw_kl_L_7 : Cond.classLink RL 7 RX4 ∈ TW := List.mem_filter.mpr ⟨List.mem_of_getElem? (i := 72) (by decide +kernel), by decide +kernel⟩
theorem tw_mk_X4 : Cond.instantiable RX4 7 ∈ TW := List.mem_filter.mpr ⟨List.mem_of_getElem? (i := 73) (by decide +kernel), by decide +kernel⟩
theorem tw_ml_L_9 : Cond.methodLink RL 9 yX4_init ∈ TW := List.mem_filter.mpr ⟨List.mem_of_getElem? (i := 74) (by decide +kernel), by decide +kernel⟩
theorem tw_ins_X4_init : Cond.instanceMethod yX4_init ∈ TW := List.mem_filter.mpr ⟨List.mem_of_getElem? (i := 75) (by decide +kernel), by decide +kernel⟩
theorem tw_cod_X4_init : Cond.code yX4_init cX4_init 1 none ∈ TW := List.mem_filter.mpr ⟨List.mem_of_getElem? (i := 76) (by decide +kernel), by decide +kernel⟩
theorem tw_ml_X4_5 : Cond.methodLink RX4 5 objectInit ∈ TW := List.mem_filter.mpr ⟨List.mem_of_getElem? (i := 77) (by decide +kernel), by decide +kernel⟩
theorem tw_ins_Object__init_ : Cond.instanceMethod objectInit ∈ TW := List.mem_filter.mpr ⟨List.mem_of_getElem? (i := 78) (by decide +kernel), by decide +kernel⟩
theorem tw_cod_Object__init_ : Cond.code objectInit ⟨#[0xb1]⟩ 1 none ∈ TW := List.mem_filter.mpr ⟨List.mem_of_getElem? (i := 79) (by decide +kernel), by decide +kernel⟩
theorem tw_kl_X4_11 : Cond.classLink RX4 11 RX0 ∈ TW := List.mem_filter.mpr ⟨List.mem_of_getElem? (i := 80) (by decide +kernel), by decide +kernel⟩
theorem tw_mk_X0 : Cond.instantiable RX0 5 ∈ TW := List.mem_filter.mpr ⟨List.mem_of_getElem? (i := 81) (by decide +kernel), by decide +kernel⟩
theorem tw_ins_X0_init : Cond.instanceMethod yX0_init ∈ TW := List.mem_filter.mpr ⟨List.mem_of_getElem? (i := 83) (by decide +kernel), by decide +kernel⟩
theorem tw_cod_X0_init : Cond.code yX0_init cX0_init 1 none ∈ TW := List.mem_filter.mpr ⟨List.mem_of_getElem? (i := 84) (by decide +kernel), by decide +kernel⟩
theorem tw_ml_X0_3 : Cond.methodLink RX0 3 objectInit ∈ TW := List.mem_filter.mpr ⟨List.mem_of_getElem? (i := 85) (by decide +kernel), by decide +kernel⟩
theorem tw_fl_X0_9 : Cond.fieldLink RX0 9 "HullOffsets$Grid" "offsets" "[I" ∈ TW := List.mem_filter.mpr ⟨List.mem_of_getElem? (i := 86) (by decide +kernel), by decide +kernel⟩
theorem tw_fl_X0_15 : Cond.fieldLink RX0 15 "HullOffsets$Grid" "puts" "[I" ∈ TW := List.mem_filter.mpr ⟨List.mem_of_getElem? (i := 89) (by decide +kernel), by decide +kernel⟩
theorem tw_fl_X0_18 : Cond.fieldLink RX0 18 "HullOffsets$Grid" "held" "[Z" ∈ TW := List.mem_filter.mpr ⟨List.mem_of_getElem? (i := 91) (by decide +kernel), by decide +kernel⟩
theorem tw_fl_X0_22 : Cond.fieldLink RX0 22 "HullOffsets$Grid" "stations" "I" ∈ TW := List.mem_filter.mpr ⟨List.mem_of_getElem? (i := 93) (by decide +kernel), by decide +kernel⟩
theorem tw_fl_X0_26 : Cond.fieldLink RX0 26 "HullOffsets$Grid" "lines" "I" ∈ TW := List.mem_filter.mpr ⟨List.mem_of_getElem? (i := 96) (by decide +kernel), by decide +kernel⟩
theorem tw_arr_int : Cond.arrayClass .int ∈ TW := List.mem_filter.mpr ⟨List.mem_of_getElem? (i := 110) (by decide +kernel), by decide +kernel⟩
theorem tw_arr_boolean : Cond.arrayClass .boolean ∈ TW := List.mem_filter.mpr ⟨List.mem_of_getElem? (i := 111) (by decide +kernel), by decide +kernel⟩
theorem tw_kl_X4_18 : Cond.classLink RX4 18 RX3 ∈ TW := List.mem_filter.mpr ⟨List.mem_of_getElem? (i := 112) (by decide +kernel), by decide +kernel⟩
theorem tw_mk_X3 : Cond.instantiable RX3 2 ∈ TW := List.mem_filter.mpr ⟨List.mem_of_getElem? (i := 113) (by decide +kernel), by decide +kernel⟩
theorem tw_ins_X3_init : Cond.instanceMethod yX3_init ∈ TW := List.mem_filter.mpr ⟨List.mem_of_getElem? (i := 115) (by decide +kernel), by decide +kernel⟩
theorem tw_cod_X3_init : Cond.code yX3_init cX3_init 1 none ∈ TW := List.mem_filter.mpr ⟨List.mem_of_getElem? (i := 116) (by decide +kernel), by decide +kernel⟩
theorem tw_ml_X3_3 : Cond.methodLink RX3 3 objectInit ∈ TW := List.mem_filter.mpr ⟨List.mem_of_getElem? (i := 117) (by decide +kernel), by decide +kernel⟩
theorem tw_fl_X3_9 : Cond.fieldLink RX3 9 "HullOffsets$Line" "offsets" "[I" ∈ TW := List.mem_filter.mpr ⟨List.mem_of_getElem? (i := 118) (by decide +kernel), by decide +kernel⟩
theorem tw_fl_X3_19 : Cond.fieldLink RX3 19 "HullOffsets$Line" "points" "I" ∈ TW := List.mem_filter.mpr ⟨List.mem_of_getElem? (i := 121) (by decide +kernel), by decide +kernel⟩
theorem tw_kl_X4_25 : Cond.classLink RX4 25 RX2 ∈ TW := List.mem_filter.mpr ⟨List.mem_of_getElem? (i := 129) (by decide +kernel), by decide +kernel⟩
theorem tw_mk_X2 : Cond.instantiable RX2 7 ∈ TW := List.mem_filter.mpr ⟨List.mem_of_getElem? (i := 130) (by decide +kernel), by decide +kernel⟩
theorem tw_ins_X2_init : Cond.instanceMethod yX2_init ∈ TW := List.mem_filter.mpr ⟨List.mem_of_getElem? (i := 132) (by decide +kernel), by decide +kernel⟩
theorem tw_cod_X2_init : Cond.code yX2_init cX2_init 1 none ∈ TW := List.mem_filter.mpr ⟨List.mem_of_getElem? (i := 133) (by decide +kernel), by decide +kernel⟩
theorem tw_ml_X2_5 : Cond.methodLink RX2 5 objectInit ∈ TW := List.mem_filter.mpr ⟨List.mem_of_getElem? (i := 134) (by decide +kernel), by decide +kernel⟩
theorem tw_fl_X2_11 : Cond.fieldLink RX2 11 "HullOffsets$LeastMoves" "from" "[I" ∈ TW := List.mem_filter.mpr ⟨List.mem_of_getElem? (i := 135) (by decide +kernel), by decide +kernel⟩
theorem tw_fl_X2_15 : Cond.fieldLink RX2 15 "HullOffsets$LeastMoves" "low" "[I" ∈ TW := List.mem_filter.mpr ⟨List.mem_of_getElem? (i := 136) (by decide +kernel), by decide +kernel⟩
theorem tw_fl_X2_18 : Cond.fieldLink RX2 18 "HullOffsets$LeastMoves" "top" "[I" ∈ TW := List.mem_filter.mpr ⟨List.mem_of_getElem? (i := 137) (by decide +kernel), by decide +kernel⟩
theorem tw_fl_X2_21 : Cond.fieldLink RX2 21 "HullOffsets$LeastMoves" "moves" "[I" ∈ TW := List.mem_filter.mpr ⟨List.mem_of_getElem? (i := 138) (by decide +kernel), by decide +kernel⟩
theorem tw_fl_X2_24 : Cond.fieldLink RX2 24 "HullOffsets$LeastMoves" "fewest" "[I" ∈ TW := List.mem_filter.mpr ⟨List.mem_of_getElem? (i := 139) (by decide +kernel), by decide +kernel⟩
theorem tw_fl_X2_36 : Cond.fieldLink RX2 36 "HullOffsets$LeastMoves" "points" "I" ∈ TW := List.mem_filter.mpr ⟨List.mem_of_getElem? (i := 140) (by decide +kernel), by decide +kernel⟩
theorem tw_fl_X2_40 : Cond.fieldLink RX2 40 "HullOffsets$LeastMoves" "bound" "I" ∈ TW := List.mem_filter.mpr ⟨List.mem_of_getElem? (i := 141) (by decide +kernel), by decide +kernel⟩
theorem tw_kl_X4_32 : Cond.classLink RX4 32 RX1 ∈ TW := List.mem_filter.mpr ⟨List.mem_of_getElem? (i := 157) (by decide +kernel), by decide +kernel⟩
theorem tw_mk_X1 : Cond.instantiable RX1 2 ∈ TW := List.mem_filter.mpr ⟨List.mem_of_getElem? (i := 158) (by decide +kernel), by decide +kernel⟩
theorem tw_ins_X1_init : Cond.instanceMethod yX1_init ∈ TW := List.mem_filter.mpr ⟨List.mem_of_getElem? (i := 160) (by decide +kernel), by decide +kernel⟩
theorem tw_cod_X1_init : Cond.code yX1_init cX1_init 1 none ∈ TW := List.mem_filter.mpr ⟨List.mem_of_getElem? (i := 161) (by decide +kernel), by decide +kernel⟩
theorem tw_ml_X1_3 : Cond.methodLink RX1 3 objectInit ∈ TW := List.mem_filter.mpr ⟨List.mem_of_getElem? (i := 162) (by decide +kernel), by decide +kernel⟩
theorem tw_fl_X1_9 : Cond.fieldLink RX1 9 "HullOffsets$Heights" "upper" "[J" ∈ TW := List.mem_filter.mpr ⟨List.mem_of_getElem? (i := 163) (by decide +kernel), by decide +kernel⟩
theorem tw_fl_X1_15 : Cond.fieldLink RX1 15 "HullOffsets$Heights" "lower" "[J" ∈ TW := List.mem_filter.mpr ⟨List.mem_of_getElem? (i := 165) (by decide +kernel), by decide +kernel⟩
theorem tw_arr_long : Cond.arrayClass .long ∈ TW := List.mem_filter.mpr ⟨List.mem_of_getElem? (i := 172) (by decide +kernel), by decide +kernel⟩
theorem tw_fl_X4_39 : Cond.fieldLink RX4 39 "HullOffsets" "SETTING_FIRST" "[I" ∈ TW := List.mem_filter.mpr ⟨List.mem_of_getElem? (i := 173) (by decide +kernel), by decide +kernel⟩
theorem tw_ls_SETTING_FIRST : Cond.laysStatic "HullOffsets" "SETTING_FIRST" "[I" ∈ lw_tbl := List.mem_of_getElem? (i := 174) (by decide +kernel)
theorem tw_ml_X4_43 : Cond.methodLink RX4 43 ⟨"[I", "clone", "()Ljava/lang/Object;"⟩ ∈ TW := List.mem_filter.mpr ⟨List.mem_of_getElem? (i := 175) (by decide +kernel), by decide +kernel⟩
theorem tw_sam_clone : Cond.sameMethod "[I" "java/lang/Object" "clone" "()Ljava/lang/Object;" ∈ TW := List.mem_filter.mpr ⟨List.mem_of_getElem? (i := 176) (by decide +kernel), by decide +kernel⟩
theorem tw_nat_Object_clone : Cond.native ⟨"java/lang/Object", "clone", "()Ljava/lang/Object;"⟩ ∈ TW := List.mem_filter.mpr ⟨List.mem_of_getElem? (i := 177) (by decide +kernel), by decide +kernel⟩
theorem tw_ins_Object_clone : Cond.instanceMethod ⟨"java/lang/Object", "clone", "()Ljava/lang/Object;"⟩ ∈ TW := List.mem_filter.mpr ⟨List.mem_of_getElem? (i := 178) (by decide +kernel), by decide +kernel⟩
theorem tw_sel__I_clone : Cond.selects "[I" ⟨"[I", "clone", "()Ljava/lang/Object;"⟩ ⟨"java/lang/Object", "clone", "()Ljava/lang/Object;"⟩ ∈ TW := List.mem_filter.mpr ⟨List.mem_of_getElem? (i := 179) (by decide +kernel), by decide +kernel⟩
theorem tw_kl_X4_44 : Cond.classLink RX4 44 "[I" ∈ TW := List.mem_filter.mpr ⟨List.mem_of_getElem? (i := 181) (by decide +kernel), by decide +kernel⟩
theorem tw_ins_X0_renew : Cond.instanceMethod yX0_renew ∈ TW := List.mem_filter.mpr ⟨List.mem_of_getElem? (i := 184) (by decide +kernel), by decide +kernel⟩
theorem tw_cod_X0_renew : Cond.code yX0_renew cX0_renew 4 none ∈ TW := List.mem_filter.mpr ⟨List.mem_of_getElem? (i := 185) (by decide +kernel), by decide +kernel⟩
theorem tw_fl_X4_14 : Cond.fieldLink RX4 14 "HullOffsets" "grid" "LHullOffsets$Grid;" ∈ TW := List.mem_filter.mpr ⟨List.mem_of_getElem? (i := 186) (by decide +kernel), by decide +kernel⟩
theorem tw_fl_X4_21 : Cond.fieldLink RX4 21 "HullOffsets" "taken" "LHullOffsets$Line;" ∈ TW := List.mem_filter.mpr ⟨List.mem_of_getElem? (i := 187) (by decide +kernel), by decide +kernel⟩
theorem tw_fl_X4_28 : Cond.fieldLink RX4 28 "HullOffsets" "search" "LHullOffsets$LeastMoves;" ∈ TW := List.mem_filter.mpr ⟨List.mem_of_getElem? (i := 188) (by decide +kernel), by decide +kernel⟩
theorem tw_fl_X4_35 : Cond.fieldLink RX4 35 "HullOffsets" "heights" "LHullOffsets$Heights;" ∈ TW := List.mem_filter.mpr ⟨List.mem_of_getElem? (i := 189) (by decide +kernel), by decide +kernel⟩
theorem tw_fl_X4_48 : Cond.fieldLink RX4 48 "HullOffsets" "settings" "[I" ∈ TW := List.mem_filter.mpr ⟨List.mem_of_getElem? (i := 190) (by decide +kernel), by decide +kernel⟩
theorem tw_fl_X4_51 : Cond.fieldLink RX4 51 "HullOffsets" "asBegun" "[I" ∈ TW := List.mem_filter.mpr ⟨List.mem_of_getElem? (i := 191) (by decide +kernel), by decide +kernel⟩
theorem tw_fl_X4_54 : Cond.fieldLink RX4 54 "HullOffsets" "values" "[I" ∈ TW := List.mem_filter.mpr ⟨List.mem_of_getElem? (i := 192) (by decide +kernel), by decide +kernel⟩
theorem tw_ml_L_13 : Cond.methodLink RL 13 yX4_hull ∈ TW := List.mem_filter.mpr ⟨List.mem_of_getElem? (i := 208) (by decide +kernel), by decide +kernel⟩
theorem tw_ins_X4_hull : Cond.instanceMethod yX4_hull ∈ TW := List.mem_filter.mpr ⟨List.mem_of_getElem? (i := 209) (by decide +kernel), by decide +kernel⟩
theorem tw_sel_X4_hull : Cond.selects RX4 yX4_hull yX4_hull ∈ TW := List.mem_filter.mpr ⟨List.mem_of_getElem? (i := 210) (by decide +kernel), by decide +kernel⟩
theorem tw_cod_X4_hull : Cond.code yX4_hull cX4_hull 3 (some .int) ∈ TW := List.mem_filter.mpr ⟨List.mem_of_getElem? (i := 211) (by decide +kernel), by decide +kernel⟩
theorem tw_ml_X4_61 : Cond.methodLink RX4 61 yX4_isNot ∈ TW := List.mem_filter.mpr ⟨List.mem_of_getElem? (i := 212) (by decide +kernel), by decide +kernel⟩
theorem tw_sta_X4_isNot : Cond.static yX4_isNot ∈ TW := List.mem_filter.mpr ⟨List.mem_of_getElem? (i := 213) (by decide +kernel), by decide +kernel⟩
theorem tw_cod_X4_isNot : Cond.code yX4_isNot cX4_isNot 3 (some .boolean) ∈ TW := List.mem_filter.mpr ⟨List.mem_of_getElem? (i := 214) (by decide +kernel), by decide +kernel⟩
theorem tw_ml_L_18 : Cond.methodLink RL 18 yX4_offset ∈ TW := List.mem_filter.mpr ⟨List.mem_of_getElem? (i := 215) (by decide +kernel), by decide +kernel⟩
theorem tw_ins_X4_offset : Cond.instanceMethod yX4_offset ∈ TW := List.mem_filter.mpr ⟨List.mem_of_getElem? (i := 216) (by decide +kernel), by decide +kernel⟩
theorem tw_sel_X4_offset : Cond.selects RX4 yX4_offset yX4_offset ∈ TW := List.mem_filter.mpr ⟨List.mem_of_getElem? (i := 217) (by decide +kernel), by decide +kernel⟩
theorem tw_cod_X4_offset : Cond.code yX4_offset cX4_offset 4 (some .int) ∈ TW := List.mem_filter.mpr ⟨List.mem_of_getElem? (i := 218) (by decide +kernel), by decide +kernel⟩
theorem tw_ins_X0_hasPoint : Cond.instanceMethod yX0_hasPoint ∈ TW := List.mem_filter.mpr ⟨List.mem_of_getElem? (i := 221) (by decide +kernel), by decide +kernel⟩
theorem tw_cod_X0_hasPoint : Cond.code yX0_hasPoint cX0_hasPoint 3 (some .boolean) ∈ TW := List.mem_filter.mpr ⟨List.mem_of_getElem? (i := 222) (by decide +kernel), by decide +kernel⟩
theorem tw_ml_X4_69 : Cond.methodLink RX4 69 yX4_cellOf ∈ TW := List.mem_filter.mpr ⟨List.mem_of_getElem? (i := 223) (by decide +kernel), by decide +kernel⟩
theorem tw_sta_X4_cellOf : Cond.static yX4_cellOf ∈ TW := List.mem_filter.mpr ⟨List.mem_of_getElem? (i := 224) (by decide +kernel), by decide +kernel⟩
theorem tw_cod_X4_cellOf : Cond.code yX4_cellOf cX4_cellOf 2 (some .int) ∈ TW := List.mem_filter.mpr ⟨List.mem_of_getElem? (i := 225) (by decide +kernel), by decide +kernel⟩
theorem tw_ins_X0_put : Cond.instanceMethod yX0_put ∈ TW := List.mem_filter.mpr ⟨List.mem_of_getElem? (i := 228) (by decide +kernel), by decide +kernel⟩
theorem tw_cod_X0_put : Cond.code yX0_put cX0_put 4 (some .int) ∈ TW := List.mem_filter.mpr ⟨List.mem_of_getElem? (i := 229) (by decide +kernel), by decide +kernel⟩
theorem tw_ml_L_23 : Cond.methodLink RL 23 yX4_hold ∈ TW := List.mem_filter.mpr ⟨List.mem_of_getElem? (i := 230) (by decide +kernel), by decide +kernel⟩
theorem tw_ins_X4_hold : Cond.instanceMethod yX4_hold ∈ TW := List.mem_filter.mpr ⟨List.mem_of_getElem? (i := 231) (by decide +kernel), by decide +kernel⟩
theorem tw_sel_X4_hold : Cond.selects RX4 yX4_hold yX4_hold ∈ TW := List.mem_filter.mpr ⟨List.mem_of_getElem? (i := 232) (by decide +kernel), by decide +kernel⟩
theorem tw_cod_X4_hold : Cond.code yX4_hold cX4_hold 5 (some .int) ∈ TW := List.mem_filter.mpr ⟨List.mem_of_getElem? (i := 233) (by decide +kernel), by decide +kernel⟩
theorem tw_ml_L_28 : Cond.methodLink RL 28 yX4_setting ∈ TW := List.mem_filter.mpr ⟨List.mem_of_getElem? (i := 234) (by decide +kernel), by decide +kernel⟩
theorem tw_ins_X4_setting : Cond.instanceMethod yX4_setting ∈ TW := List.mem_filter.mpr ⟨List.mem_of_getElem? (i := 235) (by decide +kernel), by decide +kernel⟩
theorem tw_sel_X4_setting : Cond.selects RX4 yX4_setting yX4_setting ∈ TW := List.mem_filter.mpr ⟨List.mem_of_getElem? (i := 236) (by decide +kernel), by decide +kernel⟩
theorem tw_cod_X4_setting : Cond.code yX4_setting cX4_setting 4 (some .int) ∈ TW := List.mem_filter.mpr ⟨List.mem_of_getElem? (i := 237) (by decide +kernel), by decide +kernel⟩
theorem tw_fl_X4_80 : Cond.fieldLink RX4 80 "HullOffsets" "SETTING_LOW" "[I" ∈ TW := List.mem_filter.mpr ⟨List.mem_of_getElem? (i := 238) (by decide +kernel), by decide +kernel⟩
theorem tw_ls_SETTING_LOW : Cond.laysStatic "HullOffsets" "SETTING_LOW" "[I" ∈ lw_tbl := List.mem_of_getElem? (i := 239) (by decide +kernel)
theorem tw_fl_X4_83 : Cond.fieldLink RX4 83 "HullOffsets" "SETTING_TOP" "[I" ∈ TW := List.mem_filter.mpr ⟨List.mem_of_getElem? (i := 240) (by decide +kernel), by decide +kernel⟩
theorem tw_ls_SETTING_TOP : Cond.laysStatic "HullOffsets" "SETTING_TOP" "[I" ∈ lw_tbl := List.mem_of_getElem? (i := 241) (by decide +kernel)
theorem tw_ml_L_32 : Cond.methodLink RL 32 yX4_ofPoint ∈ TW := List.mem_filter.mpr ⟨List.mem_of_getElem? (i := 242) (by decide +kernel), by decide +kernel⟩
theorem tw_ins_X4_ofPoint : Cond.instanceMethod yX4_ofPoint ∈ TW := List.mem_filter.mpr ⟨List.mem_of_getElem? (i := 243) (by decide +kernel), by decide +kernel⟩
theorem tw_sel_X4_ofPoint : Cond.selects RX4 yX4_ofPoint yX4_ofPoint ∈ TW := List.mem_filter.mpr ⟨List.mem_of_getElem? (i := 244) (by decide +kernel), by decide +kernel⟩
theorem tw_cod_X4_ofPoint : Cond.code yX4_ofPoint cX4_ofPoint 5 (some .int) ∈ TW := List.mem_filter.mpr ⟨List.mem_of_getElem? (i := 245) (by decide +kernel), by decide +kernel⟩
theorem tw_ins_X0_movedBy : Cond.instanceMethod yX0_movedBy ∈ TW := List.mem_filter.mpr ⟨List.mem_of_getElem? (i := 248) (by decide +kernel), by decide +kernel⟩
theorem tw_cod_X0_movedBy : Cond.code yX0_movedBy cX0_movedBy 2 (some .int) ∈ TW := List.mem_filter.mpr ⟨List.mem_of_getElem? (i := 249) (by decide +kernel), by decide +kernel⟩
theorem tw_ml_L_36 : Cond.methodLink RL 36 yX4_bend ∈ TW := List.mem_filter.mpr ⟨List.mem_of_getElem? (i := 250) (by decide +kernel), by decide +kernel⟩
theorem tw_ins_X4_bend : Cond.instanceMethod yX4_bend ∈ TW := List.mem_filter.mpr ⟨List.mem_of_getElem? (i := 251) (by decide +kernel), by decide +kernel⟩
theorem tw_sel_X4_bend : Cond.selects RX4 yX4_bend yX4_bend ∈ TW := List.mem_filter.mpr ⟨List.mem_of_getElem? (i := 252) (by decide +kernel), by decide +kernel⟩
theorem tw_cod_X4_bend : Cond.code yX4_bend cX4_bend 5 (some .int) ∈ TW := List.mem_filter.mpr ⟨List.mem_of_getElem? (i := 253) (by decide +kernel), by decide +kernel⟩
theorem tw_ml_X4_93 : Cond.methodLink RX4 93 yX4_refusalOfLine ∈ TW := List.mem_filter.mpr ⟨List.mem_of_getElem? (i := 254) (by decide +kernel), by decide +kernel⟩
theorem tw_ins_X4_refusalOfLine : Cond.instanceMethod yX4_refusalOfLine ∈ TW := List.mem_filter.mpr ⟨List.mem_of_getElem? (i := 256) (by decide +kernel), by decide +kernel⟩
theorem tw_cod_X4_refusalOfLine : Cond.code yX4_refusalOfLine cX4_refusalOfLine 3 (some .int) ∈ TW := List.mem_filter.mpr ⟨List.mem_of_getElem? (i := 257) (by decide +kernel), by decide +kernel⟩
theorem tw_ins_X0_linesOf : Cond.instanceMethod yX0_linesOf ∈ TW := List.mem_filter.mpr ⟨List.mem_of_getElem? (i := 260) (by decide +kernel), by decide +kernel⟩
theorem tw_cod_X0_linesOf : Cond.code yX0_linesOf cX0_linesOf 2 (some .int) ∈ TW := List.mem_filter.mpr ⟨List.mem_of_getElem? (i := 261) (by decide +kernel), by decide +kernel⟩
theorem tw_ml_X4_96 : Cond.methodLink RX4 96 yX4_takeLine ∈ TW := List.mem_filter.mpr ⟨List.mem_of_getElem? (i := 262) (by decide +kernel), by decide +kernel⟩
theorem tw_ins_X4_takeLine : Cond.instanceMethod yX4_takeLine ∈ TW := List.mem_filter.mpr ⟨List.mem_of_getElem? (i := 264) (by decide +kernel), by decide +kernel⟩
theorem tw_cod_X4_takeLine : Cond.code yX4_takeLine cX4_takeLine 3 none ∈ TW := List.mem_filter.mpr ⟨List.mem_of_getElem? (i := 265) (by decide +kernel), by decide +kernel⟩
theorem tw_ins_X0_layOut : Cond.instanceMethod yX0_layOut ∈ TW := List.mem_filter.mpr ⟨List.mem_of_getElem? (i := 268) (by decide +kernel), by decide +kernel⟩
theorem tw_cod_X0_layOut : Cond.code yX0_layOut cX0_layOut 5 none ∈ TW := List.mem_filter.mpr ⟨List.mem_of_getElem? (i := 269) (by decide +kernel), by decide +kernel⟩
theorem tw_ml_X0_33 : Cond.methodLink RX0 33 yX0_pointsOf ∈ TW := List.mem_filter.mpr ⟨List.mem_of_getElem? (i := 270) (by decide +kernel), by decide +kernel⟩
theorem tw_ins_X0_pointsOf : Cond.instanceMethod yX0_pointsOf ∈ TW := List.mem_filter.mpr ⟨List.mem_of_getElem? (i := 272) (by decide +kernel), by decide +kernel⟩
theorem tw_cod_X0_pointsOf : Cond.code yX0_pointsOf cX0_pointsOf 2 (some .int) ∈ TW := List.mem_filter.mpr ⟨List.mem_of_getElem? (i := 273) (by decide +kernel), by decide +kernel⟩
theorem tw_ml_X0_43 : Cond.methodLink RX0 43 yX0_cell ∈ TW := List.mem_filter.mpr ⟨List.mem_of_getElem? (i := 274) (by decide +kernel), by decide +kernel⟩
theorem tw_ins_X0_cell : Cond.instanceMethod yX0_cell ∈ TW := List.mem_filter.mpr ⟨List.mem_of_getElem? (i := 276) (by decide +kernel), by decide +kernel⟩
theorem tw_cod_X0_cell : Cond.code yX0_cell cX0_cell 4 (some .int) ∈ TW := List.mem_filter.mpr ⟨List.mem_of_getElem? (i := 277) (by decide +kernel), by decide +kernel⟩
theorem tw_ins_X3_bendAt : Cond.instanceMethod yX3_bendAt ∈ TW := List.mem_filter.mpr ⟨List.mem_of_getElem? (i := 281) (by decide +kernel), by decide +kernel⟩
theorem tw_cod_X3_bendAt : Cond.code yX3_bendAt cX3_bendAt 2 (some .int) ∈ TW := List.mem_filter.mpr ⟨List.mem_of_getElem? (i := 282) (by decide +kernel), by decide +kernel⟩
theorem tw_ml_L_40 : Cond.methodLink RL 40 yX4_jump ∈ TW := List.mem_filter.mpr ⟨List.mem_of_getElem? (i := 283) (by decide +kernel), by decide +kernel⟩
theorem tw_ins_X4_jump : Cond.instanceMethod yX4_jump ∈ TW := List.mem_filter.mpr ⟨List.mem_of_getElem? (i := 284) (by decide +kernel), by decide +kernel⟩
theorem tw_sel_X4_jump : Cond.selects RX4 yX4_jump yX4_jump ∈ TW := List.mem_filter.mpr ⟨List.mem_of_getElem? (i := 285) (by decide +kernel), by decide +kernel⟩
theorem tw_cod_X4_jump : Cond.code yX4_jump cX4_jump 5 (some .int) ∈ TW := List.mem_filter.mpr ⟨List.mem_of_getElem? (i := 286) (by decide +kernel), by decide +kernel⟩
theorem tw_ins_X3_jumpAt : Cond.instanceMethod yX3_jumpAt ∈ TW := List.mem_filter.mpr ⟨List.mem_of_getElem? (i := 289) (by decide +kernel), by decide +kernel⟩
theorem tw_cod_X3_jumpAt : Cond.code yX3_jumpAt cX3_jumpAt 2 (some .int) ∈ TW := List.mem_filter.mpr ⟨List.mem_of_getElem? (i := 290) (by decide +kernel), by decide +kernel⟩
theorem tw_ml_X3_15 : Cond.methodLink RX3 15 yX3_bendAt ∈ TW := List.mem_filter.mpr ⟨List.mem_of_getElem? (i := 291) (by decide +kernel), by decide +kernel⟩
theorem tw_ml_L_44 : Cond.methodLink RL 44 yX4_roughest ∈ TW := List.mem_filter.mpr ⟨List.mem_of_getElem? (i := 292) (by decide +kernel), by decide +kernel⟩
theorem tw_ins_X4_roughest : Cond.instanceMethod yX4_roughest ∈ TW := List.mem_filter.mpr ⟨List.mem_of_getElem? (i := 293) (by decide +kernel), by decide +kernel⟩
theorem tw_sel_X4_roughest : Cond.selects RX4 yX4_roughest yX4_roughest ∈ TW := List.mem_filter.mpr ⟨List.mem_of_getElem? (i := 294) (by decide +kernel), by decide +kernel⟩
theorem tw_cod_X4_roughest : Cond.code yX4_roughest cX4_roughest 7 (some .int) ∈ TW := List.mem_filter.mpr ⟨List.mem_of_getElem? (i := 295) (by decide +kernel), by decide +kernel⟩
theorem tw_ins_X3_farthestJump : Cond.instanceMethod yX3_farthestJump ∈ TW := List.mem_filter.mpr ⟨List.mem_of_getElem? (i := 298) (by decide +kernel), by decide +kernel⟩
theorem tw_cod_X3_farthestJump : Cond.code yX3_farthestJump cX3_farthestJump 3 (some .int) ∈ TW := List.mem_filter.mpr ⟨List.mem_of_getElem? (i := 299) (by decide +kernel), by decide +kernel⟩
theorem tw_ml_X3_23 : Cond.methodLink RX3 23 yX3_jumpAt ∈ TW := List.mem_filter.mpr ⟨List.mem_of_getElem? (i := 300) (by decide +kernel), by decide +kernel⟩
theorem tw_ml_X3_26 : Cond.methodLink RX3 26 Lib.Math.abs.name ∈ TW := List.mem_filter.mpr ⟨List.mem_of_getElem? (i := 301) (by decide +kernel), by decide +kernel⟩
theorem tw_sta_Math_abs : Cond.static Lib.Math.abs.name ∈ TW := List.mem_filter.mpr ⟨List.mem_of_getElem? (i := 302) (by decide +kernel), by decide +kernel⟩
theorem tw_cod_Math_abs : Cond.code Lib.Math.abs.name Lib.Math.abs.code 1 (some .int) ∈ TW := List.mem_filter.mpr ⟨List.mem_of_getElem? (i := 303) (by decide +kernel), by decide +kernel⟩
theorem tw_ml_X3_31 : Cond.methodLink RX3 31 Lib.Math.max.name ∈ TW := List.mem_filter.mpr ⟨List.mem_of_getElem? (i := 304) (by decide +kernel), by decide +kernel⟩
theorem tw_sta_Math_max : Cond.static Lib.Math.max.name ∈ TW := List.mem_filter.mpr ⟨List.mem_of_getElem? (i := 305) (by decide +kernel), by decide +kernel⟩
theorem tw_cod_Math_max : Cond.code Lib.Math.max.name Lib.Math.max.code 2 (some .int) ∈ TW := List.mem_filter.mpr ⟨List.mem_of_getElem? (i := 306) (by decide +kernel), by decide +kernel⟩
theorem tw_ins_X3_firstJumpThatFar : Cond.instanceMethod yX3_firstJumpThatFar ∈ TW := List.mem_filter.mpr ⟨List.mem_of_getElem? (i := 309) (by decide +kernel), by decide +kernel⟩
theorem tw_cod_X3_firstJumpThatFar : Cond.code yX3_firstJumpThatFar cX3_firstJumpThatFar 3 (some .int) ∈ TW := List.mem_filter.mpr ⟨List.mem_of_getElem? (i := 310) (by decide +kernel), by decide +kernel⟩
theorem tw_ml_L_49 : Cond.methodLink RL 49 yX4_rough ∈ TW := List.mem_filter.mpr ⟨List.mem_of_getElem? (i := 311) (by decide +kernel), by decide +kernel⟩
theorem tw_ins_X4_rough : Cond.instanceMethod yX4_rough ∈ TW := List.mem_filter.mpr ⟨List.mem_of_getElem? (i := 312) (by decide +kernel), by decide +kernel⟩
theorem tw_sel_X4_rough : Cond.selects RX4 yX4_rough yX4_rough ∈ TW := List.mem_filter.mpr ⟨List.mem_of_getElem? (i := 313) (by decide +kernel), by decide +kernel⟩
theorem tw_cod_X4_rough : Cond.code yX4_rough cX4_rough 4 (some .int) ∈ TW := List.mem_filter.mpr ⟨List.mem_of_getElem? (i := 314) (by decide +kernel), by decide +kernel⟩
theorem tw_ins_X3_countJumpsBeyond : Cond.instanceMethod yX3_countJumpsBeyond ∈ TW := List.mem_filter.mpr ⟨List.mem_of_getElem? (i := 317) (by decide +kernel), by decide +kernel⟩
theorem tw_cod_X3_countJumpsBeyond : Cond.code yX3_countJumpsBeyond cX3_countJumpsBeyond 4 (some .int) ∈ TW := List.mem_filter.mpr ⟨List.mem_of_getElem? (i := 318) (by decide +kernel), by decide +kernel⟩
theorem tw_ml_L_53 : Cond.methodLink RL 53 yX4_least ∈ TW := List.mem_filter.mpr ⟨List.mem_of_getElem? (i := 319) (by decide +kernel), by decide +kernel⟩
theorem tw_ins_X4_least : Cond.instanceMethod yX4_least ∈ TW := List.mem_filter.mpr ⟨List.mem_of_getElem? (i := 320) (by decide +kernel), by decide +kernel⟩
theorem tw_sel_X4_least : Cond.selects RX4 yX4_least yX4_least ∈ TW := List.mem_filter.mpr ⟨List.mem_of_getElem? (i := 321) (by decide +kernel), by decide +kernel⟩
theorem tw_cod_X4_least : Cond.code yX4_least cX4_least 6 (some .int) ∈ TW := List.mem_filter.mpr ⟨List.mem_of_getElem? (i := 322) (by decide +kernel), by decide +kernel⟩
theorem tw_ml_X4_125 : Cond.methodLink RX4 125 yX4_seekLeast ∈ TW := List.mem_filter.mpr ⟨List.mem_of_getElem? (i := 324) (by decide +kernel), by decide +kernel⟩
theorem tw_ins_X4_seekLeast : Cond.instanceMethod yX4_seekLeast ∈ TW := List.mem_filter.mpr ⟨List.mem_of_getElem? (i := 326) (by decide +kernel), by decide +kernel⟩
theorem tw_cod_X4_seekLeast : Cond.code yX4_seekLeast cX4_seekLeast 8 (some .int) ∈ TW := List.mem_filter.mpr ⟨List.mem_of_getElem? (i := 327) (by decide +kernel), by decide +kernel⟩
theorem tw_ins_X2_stay : Cond.instanceMethod yX2_stay ∈ TW := List.mem_filter.mpr ⟨List.mem_of_getElem? (i := 330) (by decide +kernel), by decide +kernel⟩
theorem tw_cod_X2_stay : Cond.code yX2_stay cX2_stay 2 none ∈ TW := List.mem_filter.mpr ⟨List.mem_of_getElem? (i := 331) (by decide +kernel), by decide +kernel⟩
theorem tw_ins_X2_place : Cond.instanceMethod yX2_place ∈ TW := List.mem_filter.mpr ⟨List.mem_of_getElem? (i := 335) (by decide +kernel), by decide +kernel⟩
theorem tw_cod_X2_place : Cond.code yX2_place cX2_place 4 none ∈ TW := List.mem_filter.mpr ⟨List.mem_of_getElem? (i := 336) (by decide +kernel), by decide +kernel⟩
theorem tw_ml_X2_27 : Cond.methodLink RX2 27 Lib.Math.max.name ∈ TW := List.mem_filter.mpr ⟨List.mem_of_getElem? (i := 337) (by decide +kernel), by decide +kernel⟩
theorem tw_ml_X2_33 : Cond.methodLink RX2 33 Lib.Math.min.name ∈ TW := List.mem_filter.mpr ⟨List.mem_of_getElem? (i := 338) (by decide +kernel), by decide +kernel⟩
theorem tw_sta_Math_min : Cond.static Lib.Math.min.name ∈ TW := List.mem_filter.mpr ⟨List.mem_of_getElem? (i := 339) (by decide +kernel), by decide +kernel⟩
theorem tw_cod_Math_min : Cond.code Lib.Math.min.name Lib.Math.min.code 2 (some .int) ∈ TW := List.mem_filter.mpr ⟨List.mem_of_getElem? (i := 340) (by decide +kernel), by decide +kernel⟩
theorem tw_ins_X2_seek : Cond.instanceMethod yX2_seek ∈ TW := List.mem_filter.mpr ⟨List.mem_of_getElem? (i := 343) (by decide +kernel), by decide +kernel⟩
theorem tw_cod_X2_seek : Cond.code yX2_seek cX2_seek 5 (some .int) ∈ TW := List.mem_filter.mpr ⟨List.mem_of_getElem? (i := 344) (by decide +kernel), by decide +kernel⟩
theorem tw_ml_X2_43 : Cond.methodLink RX2 43 yX2_keepFewest ∈ TW := List.mem_filter.mpr ⟨List.mem_of_getElem? (i := 345) (by decide +kernel), by decide +kernel⟩
theorem tw_ins_X2_keepFewest : Cond.instanceMethod yX2_keepFewest ∈ TW := List.mem_filter.mpr ⟨List.mem_of_getElem? (i := 347) (by decide +kernel), by decide +kernel⟩
theorem tw_cod_X2_keepFewest : Cond.code yX2_keepFewest cX2_keepFewest 5 none ∈ TW := List.mem_filter.mpr ⟨List.mem_of_getElem? (i := 348) (by decide +kernel), by decide +kernel⟩
theorem tw_ml_X2_47 : Cond.methodLink RX2 47 yX2_slot ∈ TW := List.mem_filter.mpr ⟨List.mem_of_getElem? (i := 349) (by decide +kernel), by decide +kernel⟩
theorem tw_ins_X2_slot : Cond.instanceMethod yX2_slot ∈ TW := List.mem_filter.mpr ⟨List.mem_of_getElem? (i := 351) (by decide +kernel), by decide +kernel⟩
theorem tw_cod_X2_slot : Cond.code yX2_slot cX2_slot 6 (some .int) ∈ TW := List.mem_filter.mpr ⟨List.mem_of_getElem? (i := 352) (by decide +kernel), by decide +kernel⟩
theorem tw_ml_X2_54 : Cond.methodLink RX2 54 yX2_fewestFrom ∈ TW := List.mem_filter.mpr ⟨List.mem_of_getElem? (i := 353) (by decide +kernel), by decide +kernel⟩
theorem tw_ins_X2_fewestFrom : Cond.instanceMethod yX2_fewestFrom ∈ TW := List.mem_filter.mpr ⟨List.mem_of_getElem? (i := 355) (by decide +kernel), by decide +kernel⟩
theorem tw_cod_X2_fewestFrom : Cond.code yX2_fewestFrom cX2_fewestFrom 10 (some .int) ∈ TW := List.mem_filter.mpr ⟨List.mem_of_getElem? (i := 356) (by decide +kernel), by decide +kernel⟩
theorem tw_ml_X2_57 : Cond.methodLink RX2 57 yX2_jumpUnmoved ∈ TW := List.mem_filter.mpr ⟨List.mem_of_getElem? (i := 357) (by decide +kernel), by decide +kernel⟩
theorem tw_ins_X2_jumpUnmoved : Cond.instanceMethod yX2_jumpUnmoved ∈ TW := List.mem_filter.mpr ⟨List.mem_of_getElem? (i := 359) (by decide +kernel), by decide +kernel⟩
theorem tw_cod_X2_jumpUnmoved : Cond.code yX2_jumpUnmoved cX2_jumpUnmoved 5 (some .int) ∈ TW := List.mem_filter.mpr ⟨List.mem_of_getElem? (i := 360) (by decide +kernel), by decide +kernel⟩
theorem tw_ml_X2_60 : Cond.methodLink RX2 60 yX2_lastFit ∈ TW := List.mem_filter.mpr ⟨List.mem_of_getElem? (i := 361) (by decide +kernel), by decide +kernel⟩
theorem tw_ins_X2_lastFit : Cond.instanceMethod yX2_lastFit ∈ TW := List.mem_filter.mpr ⟨List.mem_of_getElem? (i := 363) (by decide +kernel), by decide +kernel⟩
theorem tw_cod_X2_lastFit : Cond.code yX2_lastFit cX2_lastFit 4 (some .int) ∈ TW := List.mem_filter.mpr ⟨List.mem_of_getElem? (i := 364) (by decide +kernel), by decide +kernel⟩
theorem tw_ml_X2_63 : Cond.methodLink RX2 63 yX2_firstFit ∈ TW := List.mem_filter.mpr ⟨List.mem_of_getElem? (i := 365) (by decide +kernel), by decide +kernel⟩
theorem tw_ins_X2_firstFit : Cond.instanceMethod yX2_firstFit ∈ TW := List.mem_filter.mpr ⟨List.mem_of_getElem? (i := 367) (by decide +kernel), by decide +kernel⟩
theorem tw_cod_X2_firstFit : Cond.code yX2_firstFit cX2_firstFit 4 (some .int) ∈ TW := List.mem_filter.mpr ⟨List.mem_of_getElem? (i := 368) (by decide +kernel), by decide +kernel⟩
theorem tw_ml_X2_66 : Cond.methodLink RX2 66 Lib.Math.abs.name ∈ TW := List.mem_filter.mpr ⟨List.mem_of_getElem? (i := 369) (by decide +kernel), by decide +kernel⟩
theorem tw_ml_X2_51 : Cond.methodLink RX2 51 yX2_firstLeading ∈ TW := List.mem_filter.mpr ⟨List.mem_of_getElem? (i := 370) (by decide +kernel), by decide +kernel⟩
theorem tw_ins_X2_firstLeading : Cond.instanceMethod yX2_firstLeading ∈ TW := List.mem_filter.mpr ⟨List.mem_of_getElem? (i := 372) (by decide +kernel), by decide +kernel⟩
theorem tw_cod_X2_firstLeading : Cond.code yX2_firstLeading cX2_firstLeading 10 (some .int) ∈ TW := List.mem_filter.mpr ⟨List.mem_of_getElem? (i := 373) (by decide +kernel), by decide +kernel⟩
theorem tw_ins_X2_moveOf : Cond.instanceMethod yX2_moveOf ∈ TW := List.mem_filter.mpr ⟨List.mem_of_getElem? (i := 376) (by decide +kernel), by decide +kernel⟩
theorem tw_cod_X2_moveOf : Cond.code yX2_moveOf cX2_moveOf 2 (some .int) ∈ TW := List.mem_filter.mpr ⟨List.mem_of_getElem? (i := 377) (by decide +kernel), by decide +kernel⟩
theorem tw_ml_L_57 : Cond.methodLink RL 57 yX4_fair ∈ TW := List.mem_filter.mpr ⟨List.mem_of_getElem? (i := 378) (by decide +kernel), by decide +kernel⟩
theorem tw_ins_X4_fair : Cond.instanceMethod yX4_fair ∈ TW := List.mem_filter.mpr ⟨List.mem_of_getElem? (i := 379) (by decide +kernel), by decide +kernel⟩
theorem tw_sel_X4_fair : Cond.selects RX4 yX4_fair yX4_fair ∈ TW := List.mem_filter.mpr ⟨List.mem_of_getElem? (i := 380) (by decide +kernel), by decide +kernel⟩
theorem tw_cod_X4_fair : Cond.code yX4_fair cX4_fair 5 (some .int) ∈ TW := List.mem_filter.mpr ⟨List.mem_of_getElem? (i := 381) (by decide +kernel), by decide +kernel⟩
theorem tw_ml_X4_131 : Cond.methodLink RX4 131 yX4_addMoves ∈ TW := List.mem_filter.mpr ⟨List.mem_of_getElem? (i := 382) (by decide +kernel), by decide +kernel⟩
theorem tw_ins_X4_addMoves : Cond.instanceMethod yX4_addMoves ∈ TW := List.mem_filter.mpr ⟨List.mem_of_getElem? (i := 384) (by decide +kernel), by decide +kernel⟩
theorem tw_cod_X4_addMoves : Cond.code yX4_addMoves cX4_addMoves 5 none ∈ TW := List.mem_filter.mpr ⟨List.mem_of_getElem? (i := 385) (by decide +kernel), by decide +kernel⟩
theorem tw_ml_L_61 : Cond.methodLink RL 61 yX4_rounds ∈ TW := List.mem_filter.mpr ⟨List.mem_of_getElem? (i := 386) (by decide +kernel), by decide +kernel⟩
theorem tw_ins_X4_rounds : Cond.instanceMethod yX4_rounds ∈ TW := List.mem_filter.mpr ⟨List.mem_of_getElem? (i := 387) (by decide +kernel), by decide +kernel⟩
theorem tw_sel_X4_rounds : Cond.selects RX4 yX4_rounds yX4_rounds ∈ TW := List.mem_filter.mpr ⟨List.mem_of_getElem? (i := 388) (by decide +kernel), by decide +kernel⟩
theorem tw_cod_X4_rounds : Cond.code yX4_rounds cX4_rounds 3 (some .int) ∈ TW := List.mem_filter.mpr ⟨List.mem_of_getElem? (i := 389) (by decide +kernel), by decide +kernel⟩
theorem tw_ml_X4_134 : Cond.methodLink RX4 134 yX4_roundChanges ∈ TW := List.mem_filter.mpr ⟨List.mem_of_getElem? (i := 390) (by decide +kernel), by decide +kernel⟩
theorem tw_ins_X4_roundChanges : Cond.instanceMethod yX4_roundChanges ∈ TW := List.mem_filter.mpr ⟨List.mem_of_getElem? (i := 392) (by decide +kernel), by decide +kernel⟩
theorem tw_cod_X4_roundChanges : Cond.code yX4_roundChanges cX4_roundChanges 3 (some .boolean) ∈ TW := List.mem_filter.mpr ⟨List.mem_of_getElem? (i := 393) (by decide +kernel), by decide +kernel⟩
theorem tw_ml_X4_214 : Cond.methodLink RX4 214 arraycopyName ∈ TW := List.mem_filter.mpr ⟨List.mem_of_getElem? (i := 394) (by decide +kernel), by decide +kernel⟩
theorem tw_sta_System_arraycopy : Cond.static arraycopyName ∈ TW := List.mem_filter.mpr ⟨List.mem_of_getElem? (i := 395) (by decide +kernel), by decide +kernel⟩
theorem tw_nat_System_arraycopy : Cond.native arraycopyName ∈ TW := List.mem_filter.mpr ⟨List.mem_of_getElem? (i := 396) (by decide +kernel), by decide +kernel⟩
theorem tw_ml_L_65 : Cond.methodLink RL 65 yX4_back ∈ TW := List.mem_filter.mpr ⟨List.mem_of_getElem? (i := 397) (by decide +kernel), by decide +kernel⟩
theorem tw_ins_X4_back : Cond.instanceMethod yX4_back ∈ TW := List.mem_filter.mpr ⟨List.mem_of_getElem? (i := 398) (by decide +kernel), by decide +kernel⟩
theorem tw_sel_X4_back : Cond.selects RX4 yX4_back yX4_back ∈ TW := List.mem_filter.mpr ⟨List.mem_of_getElem? (i := 399) (by decide +kernel), by decide +kernel⟩
theorem tw_cod_X4_back : Cond.code yX4_back cX4_back 3 (some .int) ∈ TW := List.mem_filter.mpr ⟨List.mem_of_getElem? (i := 400) (by decide +kernel), by decide +kernel⟩
theorem tw_ml_L_70 : Cond.methodLink RL 70 yX4_area ∈ TW := List.mem_filter.mpr ⟨List.mem_of_getElem? (i := 401) (by decide +kernel), by decide +kernel⟩
theorem tw_ins_X4_area : Cond.instanceMethod yX4_area ∈ TW := List.mem_filter.mpr ⟨List.mem_of_getElem? (i := 402) (by decide +kernel), by decide +kernel⟩
theorem tw_sel_X4_area : Cond.selects RX4 yX4_area yX4_area ∈ TW := List.mem_filter.mpr ⟨List.mem_of_getElem? (i := 403) (by decide +kernel), by decide +kernel⟩
theorem tw_cod_X4_area : Cond.code yX4_area cX4_area 4 (some .long) ∈ TW := List.mem_filter.mpr ⟨List.mem_of_getElem? (i := 404) (by decide +kernel), by decide +kernel⟩
theorem tw_cl_X4_141 : Cond.constantLong RX4 141 (i64 (-9223372036854775808)) ∈ TW := List.mem_filter.mpr ⟨List.mem_of_getElem? (i := 405) (by decide +kernel), by decide +kernel⟩
theorem tw_ml_X4_143 : Cond.methodLink RX4 143 yX4_areaInSixths ∈ TW := List.mem_filter.mpr ⟨List.mem_of_getElem? (i := 406) (by decide +kernel), by decide +kernel⟩
theorem tw_ins_X4_areaInSixths : Cond.instanceMethod yX4_areaInSixths ∈ TW := List.mem_filter.mpr ⟨List.mem_of_getElem? (i := 408) (by decide +kernel), by decide +kernel⟩
theorem tw_cod_X4_areaInSixths : Cond.code yX4_areaInSixths cX4_areaInSixths 4 (some .int) ∈ TW := List.mem_filter.mpr ⟨List.mem_of_getElem? (i := 409) (by decide +kernel), by decide +kernel⟩
theorem tw_ml_X4_153 : Cond.methodLink RX4 153 yX4_sumInSixths ∈ TW := List.mem_filter.mpr ⟨List.mem_of_getElem? (i := 410) (by decide +kernel), by decide +kernel⟩
theorem tw_sta_X4_sumInSixths : Cond.static yX4_sumInSixths ∈ TW := List.mem_filter.mpr ⟨List.mem_of_getElem? (i := 411) (by decide +kernel), by decide +kernel⟩
theorem tw_cod_X4_sumInSixths : Cond.code yX4_sumInSixths cX4_sumInSixths 5 (some .int) ∈ TW := List.mem_filter.mpr ⟨List.mem_of_getElem? (i := 412) (by decide +kernel), by decide +kernel⟩
theorem tw_cl_X4_146 : Cond.constantLong RX4 146 (i64 (6)) ∈ TW := List.mem_filter.mpr ⟨List.mem_of_getElem? (i := 413) (by decide +kernel), by decide +kernel⟩
theorem tw_ml_X4_148 : Cond.methodLink RX4 148 yX4_toldShare ∈ TW := List.mem_filter.mpr ⟨List.mem_of_getElem? (i := 414) (by decide +kernel), by decide +kernel⟩
theorem tw_sta_X4_toldShare : Cond.static yX4_toldShare ∈ TW := List.mem_filter.mpr ⟨List.mem_of_getElem? (i := 415) (by decide +kernel), by decide +kernel⟩
theorem tw_cod_X4_toldShare : Cond.code yX4_toldShare cX4_toldShare 7 (some .long) ∈ TW := List.mem_filter.mpr ⟨List.mem_of_getElem? (i := 416) (by decide +kernel), by decide +kernel⟩
theorem tw_ml_X4_220 : Cond.methodLink RX4 220 yX4_commonDivisor ∈ TW := List.mem_filter.mpr ⟨List.mem_of_getElem? (i := 417) (by decide +kernel), by decide +kernel⟩
theorem tw_sta_X4_commonDivisor : Cond.static yX4_commonDivisor ∈ TW := List.mem_filter.mpr ⟨List.mem_of_getElem? (i := 418) (by decide +kernel), by decide +kernel⟩
theorem tw_cod_X4_commonDivisor : Cond.code yX4_commonDivisor cX4_commonDivisor 11 (some .long) ∈ TW := List.mem_filter.mpr ⟨List.mem_of_getElem? (i := 419) (by decide +kernel), by decide +kernel⟩
theorem tw_ml_L_75 : Cond.methodLink RL 75 yX4_centre ∈ TW := List.mem_filter.mpr ⟨List.mem_of_getElem? (i := 420) (by decide +kernel), by decide +kernel⟩
theorem tw_ins_X4_centre : Cond.instanceMethod yX4_centre ∈ TW := List.mem_filter.mpr ⟨List.mem_of_getElem? (i := 421) (by decide +kernel), by decide +kernel⟩
theorem tw_sel_X4_centre : Cond.selects RX4 yX4_centre yX4_centre ∈ TW := List.mem_filter.mpr ⟨List.mem_of_getElem? (i := 422) (by decide +kernel), by decide +kernel⟩
theorem tw_cod_X4_centre : Cond.code yX4_centre cX4_centre 6 (some .long) ∈ TW := List.mem_filter.mpr ⟨List.mem_of_getElem? (i := 423) (by decide +kernel), by decide +kernel⟩
theorem tw_ml_L_79 : Cond.methodLink RL 79 yX4_volume ∈ TW := List.mem_filter.mpr ⟨List.mem_of_getElem? (i := 424) (by decide +kernel), by decide +kernel⟩
theorem tw_ins_X4_volume : Cond.instanceMethod yX4_volume ∈ TW := List.mem_filter.mpr ⟨List.mem_of_getElem? (i := 425) (by decide +kernel), by decide +kernel⟩
theorem tw_sel_X4_volume : Cond.selects RX4 yX4_volume yX4_volume ∈ TW := List.mem_filter.mpr ⟨List.mem_of_getElem? (i := 426) (by decide +kernel), by decide +kernel⟩
theorem tw_cod_X4_volume : Cond.code yX4_volume cX4_volume 6 (some .long) ∈ TW := List.mem_filter.mpr ⟨List.mem_of_getElem? (i := 427) (by decide +kernel), by decide +kernel⟩
theorem tw_cl_X4_157 : Cond.constantLong RX4 157 (i64 (36)) ∈ TW := List.mem_filter.mpr ⟨List.mem_of_getElem? (i := 428) (by decide +kernel), by decide +kernel⟩
theorem tw_ml_L_84 : Cond.methodLink RL 84 yX4_height ∈ TW := List.mem_filter.mpr ⟨List.mem_of_getElem? (i := 429) (by decide +kernel), by decide +kernel⟩
theorem tw_ins_X4_height : Cond.instanceMethod yX4_height ∈ TW := List.mem_filter.mpr ⟨List.mem_of_getElem? (i := 430) (by decide +kernel), by decide +kernel⟩
theorem tw_sel_X4_height : Cond.selects RX4 yX4_height yX4_height ∈ TW := List.mem_filter.mpr ⟨List.mem_of_getElem? (i := 431) (by decide +kernel), by decide +kernel⟩
theorem tw_cod_X4_height : Cond.code yX4_height cX4_height 4 (some .long) ∈ TW := List.mem_filter.mpr ⟨List.mem_of_getElem? (i := 432) (by decide +kernel), by decide +kernel⟩
theorem tw_ins_X1_measure : Cond.instanceMethod yX1_measure ∈ TW := List.mem_filter.mpr ⟨List.mem_of_getElem? (i := 435) (by decide +kernel), by decide +kernel⟩
theorem tw_cod_X1_measure : Cond.code yX1_measure cX1_measure 6 none ∈ TW := List.mem_filter.mpr ⟨List.mem_of_getElem? (i := 436) (by decide +kernel), by decide +kernel⟩
theorem tw_ins_X1_isThere : Cond.instanceMethod yX1_isThere ∈ TW := List.mem_filter.mpr ⟨List.mem_of_getElem? (i := 440) (by decide +kernel), by decide +kernel⟩
theorem tw_cod_X1_isThere : Cond.code yX1_isThere cX1_isThere 2 (some .boolean) ∈ TW := List.mem_filter.mpr ⟨List.mem_of_getElem? (i := 441) (by decide +kernel), by decide +kernel⟩
theorem tw_ml_L_88 : Cond.methodLink RL 88 yX4_breaks ∈ TW := List.mem_filter.mpr ⟨List.mem_of_getElem? (i := 442) (by decide +kernel), by decide +kernel⟩
theorem tw_ins_X4_breaks : Cond.instanceMethod yX4_breaks ∈ TW := List.mem_filter.mpr ⟨List.mem_of_getElem? (i := 443) (by decide +kernel), by decide +kernel⟩
theorem tw_sel_X4_breaks : Cond.selects RX4 yX4_breaks yX4_breaks ∈ TW := List.mem_filter.mpr ⟨List.mem_of_getElem? (i := 444) (by decide +kernel), by decide +kernel⟩
theorem tw_cod_X4_breaks : Cond.code yX4_breaks cX4_breaks 2 (some .int) ∈ TW := List.mem_filter.mpr ⟨List.mem_of_getElem? (i := 445) (by decide +kernel), by decide +kernel⟩
theorem tw_ins_X1_countBreaks : Cond.instanceMethod yX1_countBreaks ∈ TW := List.mem_filter.mpr ⟨List.mem_of_getElem? (i := 448) (by decide +kernel), by decide +kernel⟩
theorem tw_cod_X1_countBreaks : Cond.code yX1_countBreaks cX1_countBreaks 6 (some .int) ∈ TW := List.mem_filter.mpr ⟨List.mem_of_getElem? (i := 449) (by decide +kernel), by decide +kernel⟩
theorem tw_ml_X1_35 : Cond.methodLink RX1 35 yX1_measure ∈ TW := List.mem_filter.mpr ⟨List.mem_of_getElem? (i := 450) (by decide +kernel), by decide +kernel⟩
theorem tw_ml_X1_39 : Cond.methodLink RX1 39 yX1_isBreak ∈ TW := List.mem_filter.mpr ⟨List.mem_of_getElem? (i := 451) (by decide +kernel), by decide +kernel⟩
theorem tw_ins_X1_isBreak : Cond.instanceMethod yX1_isBreak ∈ TW := List.mem_filter.mpr ⟨List.mem_of_getElem? (i := 453) (by decide +kernel), by decide +kernel⟩
theorem tw_cod_X1_isBreak : Cond.code yX1_isBreak cX1_isBreak 11 (some .boolean) ∈ TW := List.mem_filter.mpr ⟨List.mem_of_getElem? (i := 454) (by decide +kernel), by decide +kernel⟩
theorem tw_ml_X1_43 : Cond.methodLink RX1 43 yX1_isThere ∈ TW := List.mem_filter.mpr ⟨List.mem_of_getElem? (i := 455) (by decide +kernel), by decide +kernel⟩
theorem tw_cl_X1_47 : Cond.constantLong RX1 47 (i64 (3)) ∈ TW := List.mem_filter.mpr ⟨List.mem_of_getElem? (i := 456) (by decide +kernel), by decide +kernel⟩
theorem tw_cl_X1_49 : Cond.constantLong RX1 49 (i64 (100)) ∈ TW := List.mem_filter.mpr ⟨List.mem_of_getElem? (i := 457) (by decide +kernel), by decide +kernel⟩
theorem tw_ml_X1_51 : Cond.methodLink RX1 51 Lib.MathLoose.abs_long.x ∈ TW := List.mem_filter.mpr ⟨List.mem_of_getElem? (i := 458) (by decide +kernel), by decide +kernel⟩
theorem tw_sta_Math_absL : Cond.static Lib.MathLoose.abs_long.x ∈ TW := List.mem_filter.mpr ⟨List.mem_of_getElem? (i := 459) (by decide +kernel), by decide +kernel⟩
theorem tw_cod_Math_absL : Cond.code Lib.MathLoose.abs_long.x Lib.MathLoose.abs_long.code 2 (some .long) ∈ TW := List.mem_filter.mpr ⟨List.mem_of_getElem? (i := 460) (by decide +kernel), by decide +kernel⟩
theorem tw_ml_L_92 : Cond.methodLink RL 92 yX4_worst ∈ TW := List.mem_filter.mpr ⟨List.mem_of_getElem? (i := 461) (by decide +kernel), by decide +kernel⟩
theorem tw_ins_X4_worst : Cond.instanceMethod yX4_worst ∈ TW := List.mem_filter.mpr ⟨List.mem_of_getElem? (i := 462) (by decide +kernel), by decide +kernel⟩
theorem tw_sel_X4_worst : Cond.selects RX4 yX4_worst yX4_worst ∈ TW := List.mem_filter.mpr ⟨List.mem_of_getElem? (i := 463) (by decide +kernel), by decide +kernel⟩
theorem tw_cod_X4_worst : Cond.code yX4_worst cX4_worst 6 (some .int) ∈ TW := List.mem_filter.mpr ⟨List.mem_of_getElem? (i := 464) (by decide +kernel), by decide +kernel⟩
theorem tw_ins_X0_broadest : Cond.instanceMethod yX0_broadest ∈ TW := List.mem_filter.mpr ⟨List.mem_of_getElem? (i := 467) (by decide +kernel), by decide +kernel⟩
theorem tw_cod_X0_broadest : Cond.code yX0_broadest cX0_broadest 3 (some .int) ∈ TW := List.mem_filter.mpr ⟨List.mem_of_getElem? (i := 468) (by decide +kernel), by decide +kernel⟩
theorem tw_ml_X0_55 : Cond.methodLink RX0 55 Lib.Math.max.name ∈ TW := List.mem_filter.mpr ⟨List.mem_of_getElem? (i := 469) (by decide +kernel), by decide +kernel⟩
theorem tw_ml_L_96 : Cond.methodLink RL 96 yX4_many ∈ TW := List.mem_filter.mpr ⟨List.mem_of_getElem? (i := 470) (by decide +kernel), by decide +kernel⟩
theorem tw_ins_X4_many : Cond.instanceMethod yX4_many ∈ TW := List.mem_filter.mpr ⟨List.mem_of_getElem? (i := 471) (by decide +kernel), by decide +kernel⟩
theorem tw_sel_X4_many : Cond.selects RX4 yX4_many yX4_many ∈ TW := List.mem_filter.mpr ⟨List.mem_of_getElem? (i := 472) (by decide +kernel), by decide +kernel⟩
theorem tw_cod_X4_many : Cond.code yX4_many cX4_many 2 (some .int) ∈ TW := List.mem_filter.mpr ⟨List.mem_of_getElem? (i := 473) (by decide +kernel), by decide +kernel⟩
theorem tw_ins_X0_countHeld : Cond.instanceMethod yX0_countHeld ∈ TW := List.mem_filter.mpr ⟨List.mem_of_getElem? (i := 476) (by decide +kernel), by decide +kernel⟩
theorem tw_cod_X0_countHeld : Cond.code yX0_countHeld cX0_countHeld 3 (some .int) ∈ TW := List.mem_filter.mpr ⟨List.mem_of_getElem? (i := 477) (by decide +kernel), by decide +kernel⟩
theorem tw_ml_X4_190 : Cond.methodLink RX4 190 yX4_countUnfair ∈ TW := List.mem_filter.mpr ⟨List.mem_of_getElem? (i := 478) (by decide +kernel), by decide +kernel⟩
theorem tw_ins_X4_countUnfair : Cond.instanceMethod yX4_countUnfair ∈ TW := List.mem_filter.mpr ⟨List.mem_of_getElem? (i := 480) (by decide +kernel), by decide +kernel⟩
theorem tw_cod_X4_countUnfair : Cond.code yX4_countUnfair cX4_countUnfair 4 (some .int) ∈ TW := List.mem_filter.mpr ⟨List.mem_of_getElem? (i := 481) (by decide +kernel), by decide +kernel⟩
theorem tw_ins_X0_farFromPuts : Cond.instanceMethod yX0_farFromPuts ∈ TW := List.mem_filter.mpr ⟨List.mem_of_getElem? (i := 484) (by decide +kernel), by decide +kernel⟩
theorem tw_cod_X0_farFromPuts : Cond.code yX0_farFromPuts cX0_farFromPuts 3 (some .int) ∈ TW := List.mem_filter.mpr ⟨List.mem_of_getElem? (i := 485) (by decide +kernel), by decide +kernel⟩
theorem tw_ml_X0_47 : Cond.methodLink RX0 47 yX0_movedBy ∈ TW := List.mem_filter.mpr ⟨List.mem_of_getElem? (i := 486) (by decide +kernel), by decide +kernel⟩
theorem tw_ml_X0_50 : Cond.methodLink RX0 50 Lib.Math.abs.name ∈ TW := List.mem_filter.mpr ⟨List.mem_of_getElem? (i := 487) (by decide +kernel), by decide +kernel⟩
theorem tw_kl_L_10 : Cond.classLink RL 10 RX5 ∈ TW := List.mem_filter.mpr ⟨List.mem_of_getElem? (i := 488) (by decide +kernel), by decide +kernel⟩
theorem tw_mk_X5 : Cond.instantiable RX5 22 ∈ TW := List.mem_filter.mpr ⟨List.mem_of_getElem? (i := 489) (by decide +kernel), by decide +kernel⟩
theorem tw_ml_L_12 : Cond.methodLink RL 12 yX5_init ∈ TW := List.mem_filter.mpr ⟨List.mem_of_getElem? (i := 490) (by decide +kernel), by decide +kernel⟩
theorem tw_ins_X5_init : Cond.instanceMethod yX5_init ∈ TW := List.mem_filter.mpr ⟨List.mem_of_getElem? (i := 491) (by decide +kernel), by decide +kernel⟩
theorem tw_cod_X5_init : Cond.code yX5_init cX5_init 1 none ∈ TW := List.mem_filter.mpr ⟨List.mem_of_getElem? (i := 492) (by decide +kernel), by decide +kernel⟩
theorem tw_ml_X5_1 : Cond.methodLink RX5 1 objectInit ∈ TW := List.mem_filter.mpr ⟨List.mem_of_getElem? (i := 493) (by decide +kernel), by decide +kernel⟩
theorem tw_fl_X5_61 : Cond.fieldLink RX5 61 "HullOffsetsModel" "stations" "I" ∈ TW := List.mem_filter.mpr ⟨List.mem_of_getElem? (i := 494) (by decide +kernel), by decide +kernel⟩
theorem tw_fl_X5_64 : Cond.fieldLink RX5 64 "HullOffsetsModel" "waters" "I" ∈ TW := List.mem_filter.mpr ⟨List.mem_of_getElem? (i := 495) (by decide +kernel), by decide +kernel⟩
theorem tw_fl_X5_7 : Cond.fieldLink RX5 7 "HullOffsetsModel" "bound" "I" ∈ TW := List.mem_filter.mpr ⟨List.mem_of_getElem? (i := 496) (by decide +kernel), by decide +kernel⟩
theorem tw_fl_X5_13 : Cond.fieldLink RX5 13 "HullOffsetsModel" "reach" "I" ∈ TW := List.mem_filter.mpr ⟨List.mem_of_getElem? (i := 497) (by decide +kernel), by decide +kernel⟩
theorem tw_fl_X5_16 : Cond.fieldLink RX5 16 "HullOffsetsModel" "longBy" "I" ∈ TW := List.mem_filter.mpr ⟨List.mem_of_getElem? (i := 498) (by decide +kernel), by decide +kernel⟩
theorem tw_fl_X5_19 : Cond.fieldLink RX5 19 "HullOffsetsModel" "highBy" "I" ∈ TW := List.mem_filter.mpr ⟨List.mem_of_getElem? (i := 499) (by decide +kernel), by decide +kernel⟩
theorem tw_fl_X5_22 : Cond.fieldLink RX5 22 "HullOffsetsModel" "offset" "[I" ∈ TW := List.mem_filter.mpr ⟨List.mem_of_getElem? (i := 500) (by decide +kernel), by decide +kernel⟩
theorem tw_fl_X5_26 : Cond.fieldLink RX5 26 "HullOffsetsModel" "put" "[I" ∈ TW := List.mem_filter.mpr ⟨List.mem_of_getElem? (i := 501) (by decide +kernel), by decide +kernel⟩
theorem tw_fl_X5_29 : Cond.fieldLink RX5 29 "HullOffsetsModel" "held" "[Z" ∈ TW := List.mem_filter.mpr ⟨List.mem_of_getElem? (i := 502) (by decide +kernel), by decide +kernel⟩
theorem tw_fl_X5_97 : Cond.fieldLink RX5 97 "HullOffsetsModel" "points" "I" ∈ TW := List.mem_filter.mpr ⟨List.mem_of_getElem? (i := 503) (by decide +kernel), by decide +kernel⟩
theorem tw_fl_X5_33 : Cond.fieldLink RX5 33 "HullOffsetsModel" "pointOf" "[I" ∈ TW := List.mem_filter.mpr ⟨List.mem_of_getElem? (i := 504) (by decide +kernel), by decide +kernel⟩
theorem tw_fl_X5_36 : Cond.fieldLink RX5 36 "HullOffsetsModel" "at" "[I" ∈ TW := List.mem_filter.mpr ⟨List.mem_of_getElem? (i := 505) (by decide +kernel), by decide +kernel⟩
theorem tw_fl_X5_39 : Cond.fieldLink RX5 39 "HullOffsetsModel" "need" "[I" ∈ TW := List.mem_filter.mpr ⟨List.mem_of_getElem? (i := 506) (by decide +kernel), by decide +kernel⟩
theorem tw_fl_X5_42 : Cond.fieldLink RX5 42 "HullOffsetsModel" "move" "[I" ∈ TW := List.mem_filter.mpr ⟨List.mem_of_getElem? (i := 507) (by decide +kernel), by decide +kernel⟩
theorem tw_fl_X5_142 : Cond.fieldLink RX5 142 "HullOffsetsModel" "together" "I" ∈ TW := List.mem_filter.mpr ⟨List.mem_of_getElem? (i := 508) (by decide +kernel), by decide +kernel⟩
theorem tw_fl_X5_45 : Cond.fieldLink RX5 45 "HullOffsetsModel" "before" "[I" ∈ TW := List.mem_filter.mpr ⟨List.mem_of_getElem? (i := 509) (by decide +kernel), by decide +kernel⟩
theorem tw_fl_X5_48 : Cond.fieldLink RX5 48 "HullOffsetsModel" "row" "[J" ∈ TW := List.mem_filter.mpr ⟨List.mem_of_getElem? (i := 510) (by decide +kernel), by decide +kernel⟩
theorem tw_fl_X5_52 : Cond.fieldLink RX5 52 "HullOffsetsModel" "sums" "[J" ∈ TW := List.mem_filter.mpr ⟨List.mem_of_getElem? (i := 511) (by decide +kernel), by decide +kernel⟩
theorem tw_fl_X5_195 : Cond.fieldLink RX5 195 "HullOffsetsModel" "upper" "J" ∈ TW := List.mem_filter.mpr ⟨List.mem_of_getElem? (i := 512) (by decide +kernel), by decide +kernel⟩
theorem tw_fl_X5_191 : Cond.fieldLink RX5 191 "HullOffsetsModel" "lower" "J" ∈ TW := List.mem_filter.mpr ⟨List.mem_of_getElem? (i := 513) (by decide +kernel), by decide +kernel⟩
theorem tw_fl_X5_55 : Cond.fieldLink RX5 55 "HullOffsetsModel" "uppers" "[J" ∈ TW := List.mem_filter.mpr ⟨List.mem_of_getElem? (i := 514) (by decide +kernel), by decide +kernel⟩
theorem tw_fl_X5_58 : Cond.fieldLink RX5 58 "HullOffsetsModel" "lowers" "[J" ∈ TW := List.mem_filter.mpr ⟨List.mem_of_getElem? (i := 515) (by decide +kernel), by decide +kernel⟩
theorem tw_ml_L_17 : Cond.methodLink RL 17 yX5_hull ∈ TW := List.mem_filter.mpr ⟨List.mem_of_getElem? (i := 561) (by decide +kernel), by decide +kernel⟩
theorem tw_ins_X5_hull : Cond.instanceMethod yX5_hull ∈ TW := List.mem_filter.mpr ⟨List.mem_of_getElem? (i := 562) (by decide +kernel), by decide +kernel⟩
theorem tw_sel_X5_hull : Cond.selects RX5 yX5_hull yX5_hull ∈ TW := List.mem_filter.mpr ⟨List.mem_of_getElem? (i := 563) (by decide +kernel), by decide +kernel⟩
theorem tw_cod_X5_hull : Cond.code yX5_hull cX5_hull 4 (some .int) ∈ TW := List.mem_filter.mpr ⟨List.mem_of_getElem? (i := 564) (by decide +kernel), by decide +kernel⟩
theorem tw_cl_X5_73 : Cond.constantLong RX5 73 (i64 (5)) ∈ TW := List.mem_filter.mpr ⟨List.mem_of_getElem? (i := 565) (by decide +kernel), by decide +kernel⟩
theorem tw_cl_X5_75 : Cond.constantLong RX5 75 (i64 (9)) ∈ TW := List.mem_filter.mpr ⟨List.mem_of_getElem? (i := 566) (by decide +kernel), by decide +kernel⟩
theorem tw_ml_X5_67 : Cond.methodLink RX5 67 yX5_within ∈ TW := List.mem_filter.mpr ⟨List.mem_of_getElem? (i := 567) (by decide +kernel), by decide +kernel⟩
theorem tw_sta_X5_within : Cond.static yX5_within ∈ TW := List.mem_filter.mpr ⟨List.mem_of_getElem? (i := 568) (by decide +kernel), by decide +kernel⟩
theorem tw_cod_X5_within : Cond.code yX5_within cX5_within 6 (some .boolean) ∈ TW := List.mem_filter.mpr ⟨List.mem_of_getElem? (i := 569) (by decide +kernel), by decide +kernel⟩
theorem tw_cl_X5_77 : Cond.constantLong RX5 77 (i64 (4)) ∈ TW := List.mem_filter.mpr ⟨List.mem_of_getElem? (i := 570) (by decide +kernel), by decide +kernel⟩
theorem tw_cl_X5_79 : Cond.constantLong RX5 79 (i64 (7)) ∈ TW := List.mem_filter.mpr ⟨List.mem_of_getElem? (i := 571) (by decide +kernel), by decide +kernel⟩
theorem tw_ml_L_22 : Cond.methodLink RL 22 yX5_offset ∈ TW := List.mem_filter.mpr ⟨List.mem_of_getElem? (i := 572) (by decide +kernel), by decide +kernel⟩
theorem tw_ins_X5_offset : Cond.instanceMethod yX5_offset ∈ TW := List.mem_filter.mpr ⟨List.mem_of_getElem? (i := 573) (by decide +kernel), by decide +kernel⟩
theorem tw_sel_X5_offset : Cond.selects RX5 yX5_offset yX5_offset ∈ TW := List.mem_filter.mpr ⟨List.mem_of_getElem? (i := 574) (by decide +kernel), by decide +kernel⟩
theorem tw_cod_X5_offset : Cond.code yX5_offset cX5_offset 5 (some .int) ∈ TW := List.mem_filter.mpr ⟨List.mem_of_getElem? (i := 575) (by decide +kernel), by decide +kernel⟩
theorem tw_ml_X5_81 : Cond.methodLink RX5 81 yX5_isPoint ∈ TW := List.mem_filter.mpr ⟨List.mem_of_getElem? (i := 576) (by decide +kernel), by decide +kernel⟩
theorem tw_ins_X5_isPoint : Cond.instanceMethod yX5_isPoint ∈ TW := List.mem_filter.mpr ⟨List.mem_of_getElem? (i := 578) (by decide +kernel), by decide +kernel⟩
theorem tw_cod_X5_isPoint : Cond.code yX5_isPoint cX5_isPoint 3 (some .boolean) ∈ TW := List.mem_filter.mpr ⟨List.mem_of_getElem? (i := 579) (by decide +kernel), by decide +kernel⟩
theorem tw_ml_X5_85 : Cond.methodLink RX5 85 yX5_isOffset ∈ TW := List.mem_filter.mpr ⟨List.mem_of_getElem? (i := 580) (by decide +kernel), by decide +kernel⟩
theorem tw_sta_X5_isOffset : Cond.static yX5_isOffset ∈ TW := List.mem_filter.mpr ⟨List.mem_of_getElem? (i := 581) (by decide +kernel), by decide +kernel⟩
theorem tw_cod_X5_isOffset : Cond.code yX5_isOffset cX5_isOffset 1 (some .boolean) ∈ TW := List.mem_filter.mpr ⟨List.mem_of_getElem? (i := 582) (by decide +kernel), by decide +kernel⟩
theorem tw_cl_X5_71 : Cond.constantLong RX5 71 (i64 (999)) ∈ TW := List.mem_filter.mpr ⟨List.mem_of_getElem? (i := 583) (by decide +kernel), by decide +kernel⟩
theorem tw_ml_L_27 : Cond.methodLink RL 27 yX5_hold ∈ TW := List.mem_filter.mpr ⟨List.mem_of_getElem? (i := 584) (by decide +kernel), by decide +kernel⟩
theorem tw_ins_X5_hold : Cond.instanceMethod yX5_hold ∈ TW := List.mem_filter.mpr ⟨List.mem_of_getElem? (i := 585) (by decide +kernel), by decide +kernel⟩
theorem tw_sel_X5_hold : Cond.selects RX5 yX5_hold yX5_hold ∈ TW := List.mem_filter.mpr ⟨List.mem_of_getElem? (i := 586) (by decide +kernel), by decide +kernel⟩
theorem tw_cod_X5_hold : Cond.code yX5_hold cX5_hold 5 (some .int) ∈ TW := List.mem_filter.mpr ⟨List.mem_of_getElem? (i := 587) (by decide +kernel), by decide +kernel⟩
theorem tw_ml_L_31 : Cond.methodLink RL 31 yX5_setting ∈ TW := List.mem_filter.mpr ⟨List.mem_of_getElem? (i := 588) (by decide +kernel), by decide +kernel⟩
theorem tw_ins_X5_setting : Cond.instanceMethod yX5_setting ∈ TW := List.mem_filter.mpr ⟨List.mem_of_getElem? (i := 589) (by decide +kernel), by decide +kernel⟩
theorem tw_sel_X5_setting : Cond.selects RX5 yX5_setting yX5_setting ∈ TW := List.mem_filter.mpr ⟨List.mem_of_getElem? (i := 590) (by decide +kernel), by decide +kernel⟩
theorem tw_cod_X5_setting : Cond.code yX5_setting cX5_setting 4 (some .int) ∈ TW := List.mem_filter.mpr ⟨List.mem_of_getElem? (i := 591) (by decide +kernel), by decide +kernel⟩
theorem tw_cl_X5_89 : Cond.constantLong RX5 89 (i64 (3)) ∈ TW := List.mem_filter.mpr ⟨List.mem_of_getElem? (i := 592) (by decide +kernel), by decide +kernel⟩
theorem tw_cl_X5_91 : Cond.constantLong RX5 91 (i64 (99)) ∈ TW := List.mem_filter.mpr ⟨List.mem_of_getElem? (i := 593) (by decide +kernel), by decide +kernel⟩
theorem tw_ml_L_35 : Cond.methodLink RL 35 yX5_ofPoint ∈ TW := List.mem_filter.mpr ⟨List.mem_of_getElem? (i := 594) (by decide +kernel), by decide +kernel⟩
theorem tw_ins_X5_ofPoint : Cond.instanceMethod yX5_ofPoint ∈ TW := List.mem_filter.mpr ⟨List.mem_of_getElem? (i := 595) (by decide +kernel), by decide +kernel⟩
theorem tw_sel_X5_ofPoint : Cond.selects RX5 yX5_ofPoint yX5_ofPoint ∈ TW := List.mem_filter.mpr ⟨List.mem_of_getElem? (i := 596) (by decide +kernel), by decide +kernel⟩
theorem tw_cod_X5_ofPoint : Cond.code yX5_ofPoint cX5_ofPoint 5 (some .int) ∈ TW := List.mem_filter.mpr ⟨List.mem_of_getElem? (i := 597) (by decide +kernel), by decide +kernel⟩
theorem tw_ml_L_39 : Cond.methodLink RL 39 yX5_bend ∈ TW := List.mem_filter.mpr ⟨List.mem_of_getElem? (i := 598) (by decide +kernel), by decide +kernel⟩
theorem tw_ins_X5_bend : Cond.instanceMethod yX5_bend ∈ TW := List.mem_filter.mpr ⟨List.mem_of_getElem? (i := 599) (by decide +kernel), by decide +kernel⟩
theorem tw_sel_X5_bend : Cond.selects RX5 yX5_bend yX5_bend ∈ TW := List.mem_filter.mpr ⟨List.mem_of_getElem? (i := 600) (by decide +kernel), by decide +kernel⟩
theorem tw_cod_X5_bend : Cond.code yX5_bend cX5_bend 5 (some .int) ∈ TW := List.mem_filter.mpr ⟨List.mem_of_getElem? (i := 601) (by decide +kernel), by decide +kernel⟩
theorem tw_ml_X5_113 : Cond.methodLink RX5 113 yX5_barred ∈ TW := List.mem_filter.mpr ⟨List.mem_of_getElem? (i := 602) (by decide +kernel), by decide +kernel⟩
theorem tw_ins_X5_barred : Cond.instanceMethod yX5_barred ∈ TW := List.mem_filter.mpr ⟨List.mem_of_getElem? (i := 604) (by decide +kernel), by decide +kernel⟩
theorem tw_cod_X5_barred : Cond.code yX5_barred cX5_barred 5 (some .int) ∈ TW := List.mem_filter.mpr ⟨List.mem_of_getElem? (i := 605) (by decide +kernel), by decide +kernel⟩
theorem tw_ml_X5_103 : Cond.methodLink RX5 103 yX5_isView ∈ TW := List.mem_filter.mpr ⟨List.mem_of_getElem? (i := 606) (by decide +kernel), by decide +kernel⟩
theorem tw_sta_X5_isView : Cond.static yX5_isView ∈ TW := List.mem_filter.mpr ⟨List.mem_of_getElem? (i := 607) (by decide +kernel), by decide +kernel⟩
theorem tw_cod_X5_isView : Cond.code yX5_isView cX5_isView 1 (some .boolean) ∈ TW := List.mem_filter.mpr ⟨List.mem_of_getElem? (i := 608) (by decide +kernel), by decide +kernel⟩
theorem tw_ml_X5_106 : Cond.methodLink RX5 106 yX5_isLine ∈ TW := List.mem_filter.mpr ⟨List.mem_of_getElem? (i := 609) (by decide +kernel), by decide +kernel⟩
theorem tw_ins_X5_isLine : Cond.instanceMethod yX5_isLine ∈ TW := List.mem_filter.mpr ⟨List.mem_of_getElem? (i := 611) (by decide +kernel), by decide +kernel⟩
theorem tw_cod_X5_isLine : Cond.code yX5_isLine cX5_isLine 3 (some .boolean) ∈ TW := List.mem_filter.mpr ⟨List.mem_of_getElem? (i := 612) (by decide +kernel), by decide +kernel⟩
theorem tw_ml_X5_93 : Cond.methodLink RX5 93 yX5_linesOf ∈ TW := List.mem_filter.mpr ⟨List.mem_of_getElem? (i := 613) (by decide +kernel), by decide +kernel⟩
theorem tw_ins_X5_linesOf : Cond.instanceMethod yX5_linesOf ∈ TW := List.mem_filter.mpr ⟨List.mem_of_getElem? (i := 615) (by decide +kernel), by decide +kernel⟩
theorem tw_cod_X5_linesOf : Cond.code yX5_linesOf cX5_linesOf 2 (some .int) ∈ TW := List.mem_filter.mpr ⟨List.mem_of_getElem? (i := 616) (by decide +kernel), by decide +kernel⟩
theorem tw_ml_X5_109 : Cond.methodLink RX5 109 yX5_lays ∈ TW := List.mem_filter.mpr ⟨List.mem_of_getElem? (i := 617) (by decide +kernel), by decide +kernel⟩
theorem tw_ins_X5_lays : Cond.instanceMethod yX5_lays ∈ TW := List.mem_filter.mpr ⟨List.mem_of_getElem? (i := 619) (by decide +kernel), by decide +kernel⟩
theorem tw_cod_X5_lays : Cond.code yX5_lays cX5_lays 4 none ∈ TW := List.mem_filter.mpr ⟨List.mem_of_getElem? (i := 620) (by decide +kernel), by decide +kernel⟩
theorem tw_ml_X5_100 : Cond.methodLink RX5 100 yX5_bendAt ∈ TW := List.mem_filter.mpr ⟨List.mem_of_getElem? (i := 621) (by decide +kernel), by decide +kernel⟩
theorem tw_ins_X5_bendAt : Cond.instanceMethod yX5_bendAt ∈ TW := List.mem_filter.mpr ⟨List.mem_of_getElem? (i := 623) (by decide +kernel), by decide +kernel⟩
theorem tw_cod_X5_bendAt : Cond.code yX5_bendAt cX5_bendAt 2 (some .int) ∈ TW := List.mem_filter.mpr ⟨List.mem_of_getElem? (i := 624) (by decide +kernel), by decide +kernel⟩
theorem tw_ml_L_43 : Cond.methodLink RL 43 yX5_jump ∈ TW := List.mem_filter.mpr ⟨List.mem_of_getElem? (i := 625) (by decide +kernel), by decide +kernel⟩
theorem tw_ins_X5_jump : Cond.instanceMethod yX5_jump ∈ TW := List.mem_filter.mpr ⟨List.mem_of_getElem? (i := 626) (by decide +kernel), by decide +kernel⟩
theorem tw_sel_X5_jump : Cond.selects RX5 yX5_jump yX5_jump ∈ TW := List.mem_filter.mpr ⟨List.mem_of_getElem? (i := 627) (by decide +kernel), by decide +kernel⟩
theorem tw_cod_X5_jump : Cond.code yX5_jump cX5_jump 5 (some .int) ∈ TW := List.mem_filter.mpr ⟨List.mem_of_getElem? (i := 628) (by decide +kernel), by decide +kernel⟩
theorem tw_ml_X5_117 : Cond.methodLink RX5 117 yX5_jumpAt ∈ TW := List.mem_filter.mpr ⟨List.mem_of_getElem? (i := 629) (by decide +kernel), by decide +kernel⟩
theorem tw_ins_X5_jumpAt : Cond.instanceMethod yX5_jumpAt ∈ TW := List.mem_filter.mpr ⟨List.mem_of_getElem? (i := 631) (by decide +kernel), by decide +kernel⟩
theorem tw_cod_X5_jumpAt : Cond.code yX5_jumpAt cX5_jumpAt 2 (some .int) ∈ TW := List.mem_filter.mpr ⟨List.mem_of_getElem? (i := 632) (by decide +kernel), by decide +kernel⟩
theorem tw_ml_L_48 : Cond.methodLink RL 48 yX5_roughest ∈ TW := List.mem_filter.mpr ⟨List.mem_of_getElem? (i := 633) (by decide +kernel), by decide +kernel⟩
theorem tw_ins_X5_roughest : Cond.instanceMethod yX5_roughest ∈ TW := List.mem_filter.mpr ⟨List.mem_of_getElem? (i := 634) (by decide +kernel), by decide +kernel⟩
theorem tw_sel_X5_roughest : Cond.selects RX5 yX5_roughest yX5_roughest ∈ TW := List.mem_filter.mpr ⟨List.mem_of_getElem? (i := 635) (by decide +kernel), by decide +kernel⟩
theorem tw_cod_X5_roughest : Cond.code yX5_roughest cX5_roughest 8 (some .int) ∈ TW := List.mem_filter.mpr ⟨List.mem_of_getElem? (i := 636) (by decide +kernel), by decide +kernel⟩
theorem tw_ml_X5_120 : Cond.methodLink RX5 120 yX5_far ∈ TW := List.mem_filter.mpr ⟨List.mem_of_getElem? (i := 637) (by decide +kernel), by decide +kernel⟩
theorem tw_sta_X5_far : Cond.static yX5_far ∈ TW := List.mem_filter.mpr ⟨List.mem_of_getElem? (i := 638) (by decide +kernel), by decide +kernel⟩
theorem tw_cod_X5_far : Cond.code yX5_far cX5_far 1 (some .int) ∈ TW := List.mem_filter.mpr ⟨List.mem_of_getElem? (i := 639) (by decide +kernel), by decide +kernel⟩
theorem tw_ml_L_52 : Cond.methodLink RL 52 yX5_rough ∈ TW := List.mem_filter.mpr ⟨List.mem_of_getElem? (i := 640) (by decide +kernel), by decide +kernel⟩
theorem tw_ins_X5_rough : Cond.instanceMethod yX5_rough ∈ TW := List.mem_filter.mpr ⟨List.mem_of_getElem? (i := 641) (by decide +kernel), by decide +kernel⟩
theorem tw_sel_X5_rough : Cond.selects RX5 yX5_rough yX5_rough ∈ TW := List.mem_filter.mpr ⟨List.mem_of_getElem? (i := 642) (by decide +kernel), by decide +kernel⟩
theorem tw_cod_X5_rough : Cond.code yX5_rough cX5_rough 3 (some .int) ∈ TW := List.mem_filter.mpr ⟨List.mem_of_getElem? (i := 643) (by decide +kernel), by decide +kernel⟩
theorem tw_ml_X5_123 : Cond.methodLink RX5 123 yX5_roughNow ∈ TW := List.mem_filter.mpr ⟨List.mem_of_getElem? (i := 644) (by decide +kernel), by decide +kernel⟩
theorem tw_ins_X5_roughNow : Cond.instanceMethod yX5_roughNow ∈ TW := List.mem_filter.mpr ⟨List.mem_of_getElem? (i := 646) (by decide +kernel), by decide +kernel⟩
theorem tw_cod_X5_roughNow : Cond.code yX5_roughNow cX5_roughNow 3 (some .int) ∈ TW := List.mem_filter.mpr ⟨List.mem_of_getElem? (i := 647) (by decide +kernel), by decide +kernel⟩
theorem tw_ml_L_56 : Cond.methodLink RL 56 yX5_least ∈ TW := List.mem_filter.mpr ⟨List.mem_of_getElem? (i := 648) (by decide +kernel), by decide +kernel⟩
theorem tw_ins_X5_least : Cond.instanceMethod yX5_least ∈ TW := List.mem_filter.mpr ⟨List.mem_of_getElem? (i := 649) (by decide +kernel), by decide +kernel⟩
theorem tw_sel_X5_least : Cond.selects RX5 yX5_least yX5_least ∈ TW := List.mem_filter.mpr ⟨List.mem_of_getElem? (i := 650) (by decide +kernel), by decide +kernel⟩
theorem tw_cod_X5_least : Cond.code yX5_least cX5_least 4 (some .int) ∈ TW := List.mem_filter.mpr ⟨List.mem_of_getElem? (i := 651) (by decide +kernel), by decide +kernel⟩
theorem tw_cl_X5_155 : Cond.constantLong RX5 155 (i64 (-1)) ∈ TW := List.mem_filter.mpr ⟨List.mem_of_getElem? (i := 652) (by decide +kernel), by decide +kernel⟩
theorem tw_ml_X5_157 : Cond.methodLink RX5 157 yX5_findLeast ∈ TW := List.mem_filter.mpr ⟨List.mem_of_getElem? (i := 653) (by decide +kernel), by decide +kernel⟩
theorem tw_ins_X5_findLeast : Cond.instanceMethod yX5_findLeast ∈ TW := List.mem_filter.mpr ⟨List.mem_of_getElem? (i := 655) (by decide +kernel), by decide +kernel⟩
theorem tw_cod_X5_findLeast : Cond.code yX5_findLeast cX5_findLeast 2 (some .boolean) ∈ TW := List.mem_filter.mpr ⟨List.mem_of_getElem? (i := 656) (by decide +kernel), by decide +kernel⟩
theorem tw_ml_X5_145 : Cond.methodLink RX5 145 yX5_findNeeds ∈ TW := List.mem_filter.mpr ⟨List.mem_of_getElem? (i := 657) (by decide +kernel), by decide +kernel⟩
theorem tw_ins_X5_findNeeds : Cond.instanceMethod yX5_findNeeds ∈ TW := List.mem_filter.mpr ⟨List.mem_of_getElem? (i := 659) (by decide +kernel), by decide +kernel⟩
theorem tw_cod_X5_findNeeds : Cond.code yX5_findNeeds cX5_findNeeds 7 none ∈ TW := List.mem_filter.mpr ⟨List.mem_of_getElem? (i := 660) (by decide +kernel), by decide +kernel⟩
theorem tw_ml_X5_128 : Cond.methodLink RX5 128 yX5_may ∈ TW := List.mem_filter.mpr ⟨List.mem_of_getElem? (i := 661) (by decide +kernel), by decide +kernel⟩
theorem tw_ins_X5_may : Cond.instanceMethod yX5_may ∈ TW := List.mem_filter.mpr ⟨List.mem_of_getElem? (i := 663) (by decide +kernel), by decide +kernel⟩
theorem tw_cod_X5_may : Cond.code yX5_may cX5_may 3 (some .boolean) ∈ TW := List.mem_filter.mpr ⟨List.mem_of_getElem? (i := 664) (by decide +kernel), by decide +kernel⟩
theorem tw_ci_X5_127 : Cond.constant RX5 127 (i32 (1000000)) ∈ TW := List.mem_filter.mpr ⟨List.mem_of_getElem? (i := 665) (by decide +kernel), by decide +kernel⟩
theorem tw_ml_X5_139 : Cond.methodLink RX5 139 yX5_needFrom ∈ TW := List.mem_filter.mpr ⟨List.mem_of_getElem? (i := 666) (by decide +kernel), by decide +kernel⟩
theorem tw_ins_X5_needFrom : Cond.instanceMethod yX5_needFrom ∈ TW := List.mem_filter.mpr ⟨List.mem_of_getElem? (i := 668) (by decide +kernel), by decide +kernel⟩
theorem tw_cod_X5_needFrom : Cond.code yX5_needFrom cX5_needFrom 8 (some .int) ∈ TW := List.mem_filter.mpr ⟨List.mem_of_getElem? (i := 669) (by decide +kernel), by decide +kernel⟩
theorem tw_ml_X5_131 : Cond.methodLink RX5 131 yX5_isFair ∈ TW := List.mem_filter.mpr ⟨List.mem_of_getElem? (i := 670) (by decide +kernel), by decide +kernel⟩
theorem tw_ins_X5_isFair : Cond.instanceMethod yX5_isFair ∈ TW := List.mem_filter.mpr ⟨List.mem_of_getElem? (i := 672) (by decide +kernel), by decide +kernel⟩
theorem tw_cod_X5_isFair : Cond.code yX5_isFair cX5_isFair 7 (some .boolean) ∈ TW := List.mem_filter.mpr ⟨List.mem_of_getElem? (i := 673) (by decide +kernel), by decide +kernel⟩
theorem tw_ml_X5_135 : Cond.methodLink RX5 135 yX5_triple ∈ TW := List.mem_filter.mpr ⟨List.mem_of_getElem? (i := 674) (by decide +kernel), by decide +kernel⟩
theorem tw_sta_X5_triple : Cond.static yX5_triple ∈ TW := List.mem_filter.mpr ⟨List.mem_of_getElem? (i := 675) (by decide +kernel), by decide +kernel⟩
theorem tw_cod_X5_triple : Cond.code yX5_triple cX5_triple 3 (some .int) ∈ TW := List.mem_filter.mpr ⟨List.mem_of_getElem? (i := 676) (by decide +kernel), by decide +kernel⟩
theorem tw_ml_X5_148 : Cond.methodLink RX5 148 yX5_begins ∈ TW := List.mem_filter.mpr ⟨List.mem_of_getElem? (i := 677) (by decide +kernel), by decide +kernel⟩
theorem tw_ins_X5_begins : Cond.instanceMethod yX5_begins ∈ TW := List.mem_filter.mpr ⟨List.mem_of_getElem? (i := 679) (by decide +kernel), by decide +kernel⟩
theorem tw_cod_X5_begins : Cond.code yX5_begins cX5_begins 5 (some .boolean) ∈ TW := List.mem_filter.mpr ⟨List.mem_of_getElem? (i := 680) (by decide +kernel), by decide +kernel⟩
theorem tw_ml_X5_152 : Cond.methodLink RX5 152 yX5_nextMove ∈ TW := List.mem_filter.mpr ⟨List.mem_of_getElem? (i := 681) (by decide +kernel), by decide +kernel⟩
theorem tw_ins_X5_nextMove : Cond.instanceMethod yX5_nextMove ∈ TW := List.mem_filter.mpr ⟨List.mem_of_getElem? (i := 683) (by decide +kernel), by decide +kernel⟩
theorem tw_cod_X5_nextMove : Cond.code yX5_nextMove cX5_nextMove 4 (some .int) ∈ TW := List.mem_filter.mpr ⟨List.mem_of_getElem? (i := 684) (by decide +kernel), by decide +kernel⟩
theorem tw_ml_L_60 : Cond.methodLink RL 60 yX5_fair ∈ TW := List.mem_filter.mpr ⟨List.mem_of_getElem? (i := 685) (by decide +kernel), by decide +kernel⟩
theorem tw_ins_X5_fair : Cond.instanceMethod yX5_fair ∈ TW := List.mem_filter.mpr ⟨List.mem_of_getElem? (i := 686) (by decide +kernel), by decide +kernel⟩
theorem tw_sel_X5_fair : Cond.selects RX5 yX5_fair yX5_fair ∈ TW := List.mem_filter.mpr ⟨List.mem_of_getElem? (i := 687) (by decide +kernel), by decide +kernel⟩
theorem tw_cod_X5_fair : Cond.code yX5_fair cX5_fair 3 (some .int) ∈ TW := List.mem_filter.mpr ⟨List.mem_of_getElem? (i := 688) (by decide +kernel), by decide +kernel⟩
theorem tw_ml_X5_160 : Cond.methodLink RX5 160 yX5_fairs ∈ TW := List.mem_filter.mpr ⟨List.mem_of_getElem? (i := 689) (by decide +kernel), by decide +kernel⟩
theorem tw_ins_X5_fairs : Cond.instanceMethod yX5_fairs ∈ TW := List.mem_filter.mpr ⟨List.mem_of_getElem? (i := 691) (by decide +kernel), by decide +kernel⟩
theorem tw_cod_X5_fairs : Cond.code yX5_fairs cX5_fairs 4 (some .boolean) ∈ TW := List.mem_filter.mpr ⟨List.mem_of_getElem? (i := 692) (by decide +kernel), by decide +kernel⟩
theorem tw_ml_L_64 : Cond.methodLink RL 64 yX5_rounds ∈ TW := List.mem_filter.mpr ⟨List.mem_of_getElem? (i := 693) (by decide +kernel), by decide +kernel⟩
theorem tw_ins_X5_rounds : Cond.instanceMethod yX5_rounds ∈ TW := List.mem_filter.mpr ⟨List.mem_of_getElem? (i := 694) (by decide +kernel), by decide +kernel⟩
theorem tw_sel_X5_rounds : Cond.selects RX5 yX5_rounds yX5_rounds ∈ TW := List.mem_filter.mpr ⟨List.mem_of_getElem? (i := 695) (by decide +kernel), by decide +kernel⟩
theorem tw_cod_X5_rounds : Cond.code yX5_rounds cX5_rounds 3 (some .int) ∈ TW := List.mem_filter.mpr ⟨List.mem_of_getElem? (i := 696) (by decide +kernel), by decide +kernel⟩
theorem tw_cl_X5_163 : Cond.constantLong RX5 163 (i64 (20)) ∈ TW := List.mem_filter.mpr ⟨List.mem_of_getElem? (i := 697) (by decide +kernel), by decide +kernel⟩
theorem tw_ml_X5_165 : Cond.methodLink RX5 165 yX5_round ∈ TW := List.mem_filter.mpr ⟨List.mem_of_getElem? (i := 698) (by decide +kernel), by decide +kernel⟩
theorem tw_ins_X5_round : Cond.instanceMethod yX5_round ∈ TW := List.mem_filter.mpr ⟨List.mem_of_getElem? (i := 700) (by decide +kernel), by decide +kernel⟩
theorem tw_cod_X5_round : Cond.code yX5_round cX5_round 3 (some .boolean) ∈ TW := List.mem_filter.mpr ⟨List.mem_of_getElem? (i := 701) (by decide +kernel), by decide +kernel⟩
theorem tw_ml_L_69 : Cond.methodLink RL 69 yX5_back ∈ TW := List.mem_filter.mpr ⟨List.mem_of_getElem? (i := 702) (by decide +kernel), by decide +kernel⟩
theorem tw_ins_X5_back : Cond.instanceMethod yX5_back ∈ TW := List.mem_filter.mpr ⟨List.mem_of_getElem? (i := 703) (by decide +kernel), by decide +kernel⟩
theorem tw_sel_X5_back : Cond.selects RX5 yX5_back yX5_back ∈ TW := List.mem_filter.mpr ⟨List.mem_of_getElem? (i := 704) (by decide +kernel), by decide +kernel⟩
theorem tw_cod_X5_back : Cond.code yX5_back cX5_back 3 (some .int) ∈ TW := List.mem_filter.mpr ⟨List.mem_of_getElem? (i := 705) (by decide +kernel), by decide +kernel⟩
theorem tw_ml_L_74 : Cond.methodLink RL 74 yX5_area ∈ TW := List.mem_filter.mpr ⟨List.mem_of_getElem? (i := 706) (by decide +kernel), by decide +kernel⟩
theorem tw_ins_X5_area : Cond.instanceMethod yX5_area ∈ TW := List.mem_filter.mpr ⟨List.mem_of_getElem? (i := 707) (by decide +kernel), by decide +kernel⟩
theorem tw_sel_X5_area : Cond.selects RX5 yX5_area yX5_area ∈ TW := List.mem_filter.mpr ⟨List.mem_of_getElem? (i := 708) (by decide +kernel), by decide +kernel⟩
theorem tw_cod_X5_area : Cond.code yX5_area cX5_area 4 (some .long) ∈ TW := List.mem_filter.mpr ⟨List.mem_of_getElem? (i := 709) (by decide +kernel), by decide +kernel⟩
theorem tw_ml_X5_174 : Cond.methodLink RX5 174 yX5_isWhich ∈ TW := List.mem_filter.mpr ⟨List.mem_of_getElem? (i := 710) (by decide +kernel), by decide +kernel⟩
theorem tw_sta_X5_isWhich : Cond.static yX5_isWhich ∈ TW := List.mem_filter.mpr ⟨List.mem_of_getElem? (i := 711) (by decide +kernel), by decide +kernel⟩
theorem tw_cod_X5_isWhich : Cond.code yX5_isWhich cX5_isWhich 1 (some .boolean) ∈ TW := List.mem_filter.mpr ⟨List.mem_of_getElem? (i := 712) (by decide +kernel), by decide +kernel⟩
theorem tw_cl_X5_177 : Cond.constantLong RX5 177 (i64 (-9223372036854775808)) ∈ TW := List.mem_filter.mpr ⟨List.mem_of_getElem? (i := 713) (by decide +kernel), by decide +kernel⟩
theorem tw_ml_X5_179 : Cond.methodLink RX5 179 yX5_sumOf ∈ TW := List.mem_filter.mpr ⟨List.mem_of_getElem? (i := 714) (by decide +kernel), by decide +kernel⟩
theorem tw_ins_X5_sumOf : Cond.instanceMethod yX5_sumOf ∈ TW := List.mem_filter.mpr ⟨List.mem_of_getElem? (i := 716) (by decide +kernel), by decide +kernel⟩
theorem tw_cod_X5_sumOf : Cond.code yX5_sumOf cX5_sumOf 4 (some .long) ∈ TW := List.mem_filter.mpr ⟨List.mem_of_getElem? (i := 717) (by decide +kernel), by decide +kernel⟩
theorem tw_ml_X5_170 : Cond.methodLink RX5 170 yX5_sixths ∈ TW := List.mem_filter.mpr ⟨List.mem_of_getElem? (i := 718) (by decide +kernel), by decide +kernel⟩
theorem tw_ins_X5_sixths : Cond.instanceMethod yX5_sixths ∈ TW := List.mem_filter.mpr ⟨List.mem_of_getElem? (i := 720) (by decide +kernel), by decide +kernel⟩
theorem tw_cod_X5_sixths : Cond.code yX5_sixths cX5_sixths 6 (some .long) ∈ TW := List.mem_filter.mpr ⟨List.mem_of_getElem? (i := 721) (by decide +kernel), by decide +kernel⟩
theorem tw_cl_X5_168 : Cond.constantLong RX5 168 (i64 (2)) ∈ TW := List.mem_filter.mpr ⟨List.mem_of_getElem? (i := 722) (by decide +kernel), by decide +kernel⟩
theorem tw_cl_X5_183 : Cond.constantLong RX5 183 (i64 (6)) ∈ TW := List.mem_filter.mpr ⟨List.mem_of_getElem? (i := 723) (by decide +kernel), by decide +kernel⟩
theorem tw_ml_X5_185 : Cond.methodLink RX5 185 yX5_told ∈ TW := List.mem_filter.mpr ⟨List.mem_of_getElem? (i := 724) (by decide +kernel), by decide +kernel⟩
theorem tw_sta_X5_told : Cond.static yX5_told ∈ TW := List.mem_filter.mpr ⟨List.mem_of_getElem? (i := 725) (by decide +kernel), by decide +kernel⟩
theorem tw_cod_X5_told : Cond.code yX5_told cX5_told 11 (some .long) ∈ TW := List.mem_filter.mpr ⟨List.mem_of_getElem? (i := 726) (by decide +kernel), by decide +kernel⟩
theorem tw_ml_L_78 : Cond.methodLink RL 78 yX5_centre ∈ TW := List.mem_filter.mpr ⟨List.mem_of_getElem? (i := 727) (by decide +kernel), by decide +kernel⟩
theorem tw_ins_X5_centre : Cond.instanceMethod yX5_centre ∈ TW := List.mem_filter.mpr ⟨List.mem_of_getElem? (i := 728) (by decide +kernel), by decide +kernel⟩
theorem tw_sel_X5_centre : Cond.selects RX5 yX5_centre yX5_centre ∈ TW := List.mem_filter.mpr ⟨List.mem_of_getElem? (i := 729) (by decide +kernel), by decide +kernel⟩
theorem tw_cod_X5_centre : Cond.code yX5_centre cX5_centre 7 (some .long) ∈ TW := List.mem_filter.mpr ⟨List.mem_of_getElem? (i := 730) (by decide +kernel), by decide +kernel⟩
theorem tw_ml_L_83 : Cond.methodLink RL 83 yX5_volume ∈ TW := List.mem_filter.mpr ⟨List.mem_of_getElem? (i := 731) (by decide +kernel), by decide +kernel⟩
theorem tw_ins_X5_volume : Cond.instanceMethod yX5_volume ∈ TW := List.mem_filter.mpr ⟨List.mem_of_getElem? (i := 732) (by decide +kernel), by decide +kernel⟩
theorem tw_sel_X5_volume : Cond.selects RX5 yX5_volume yX5_volume ∈ TW := List.mem_filter.mpr ⟨List.mem_of_getElem? (i := 733) (by decide +kernel), by decide +kernel⟩
theorem tw_cod_X5_volume : Cond.code yX5_volume cX5_volume 5 (some .long) ∈ TW := List.mem_filter.mpr ⟨List.mem_of_getElem? (i := 734) (by decide +kernel), by decide +kernel⟩
theorem tw_cl_X5_189 : Cond.constantLong RX5 189 (i64 (36)) ∈ TW := List.mem_filter.mpr ⟨List.mem_of_getElem? (i := 735) (by decide +kernel), by decide +kernel⟩
theorem tw_ml_L_87 : Cond.methodLink RL 87 yX5_height ∈ TW := List.mem_filter.mpr ⟨List.mem_of_getElem? (i := 736) (by decide +kernel), by decide +kernel⟩
theorem tw_ins_X5_height : Cond.instanceMethod yX5_height ∈ TW := List.mem_filter.mpr ⟨List.mem_of_getElem? (i := 737) (by decide +kernel), by decide +kernel⟩
theorem tw_sel_X5_height : Cond.selects RX5 yX5_height yX5_height ∈ TW := List.mem_filter.mpr ⟨List.mem_of_getElem? (i := 738) (by decide +kernel), by decide +kernel⟩
theorem tw_cod_X5_height : Cond.code yX5_height cX5_height 4 (some .long) ∈ TW := List.mem_filter.mpr ⟨List.mem_of_getElem? (i := 739) (by decide +kernel), by decide +kernel⟩
theorem tw_ml_X5_198 : Cond.methodLink RX5 198 yX5_isBreadth ∈ TW := List.mem_filter.mpr ⟨List.mem_of_getElem? (i := 740) (by decide +kernel), by decide +kernel⟩
theorem tw_sta_X5_isBreadth : Cond.static yX5_isBreadth ∈ TW := List.mem_filter.mpr ⟨List.mem_of_getElem? (i := 741) (by decide +kernel), by decide +kernel⟩
theorem tw_cod_X5_isBreadth : Cond.code yX5_isBreadth cX5_isBreadth 1 (some .boolean) ∈ TW := List.mem_filter.mpr ⟨List.mem_of_getElem? (i := 742) (by decide +kernel), by decide +kernel⟩
theorem tw_ml_X5_201 : Cond.methodLink RX5 201 yX5_findHeight ∈ TW := List.mem_filter.mpr ⟨List.mem_of_getElem? (i := 743) (by decide +kernel), by decide +kernel⟩
theorem tw_ins_X5_findHeight : Cond.instanceMethod yX5_findHeight ∈ TW := List.mem_filter.mpr ⟨List.mem_of_getElem? (i := 745) (by decide +kernel), by decide +kernel⟩
theorem tw_cod_X5_findHeight : Cond.code yX5_findHeight cX5_findHeight 6 (some .boolean) ∈ TW := List.mem_filter.mpr ⟨List.mem_of_getElem? (i := 746) (by decide +kernel), by decide +kernel⟩
theorem tw_ml_L_91 : Cond.methodLink RL 91 yX5_breaks ∈ TW := List.mem_filter.mpr ⟨List.mem_of_getElem? (i := 747) (by decide +kernel), by decide +kernel⟩
theorem tw_ins_X5_breaks : Cond.instanceMethod yX5_breaks ∈ TW := List.mem_filter.mpr ⟨List.mem_of_getElem? (i := 748) (by decide +kernel), by decide +kernel⟩
theorem tw_sel_X5_breaks : Cond.selects RX5 yX5_breaks yX5_breaks ∈ TW := List.mem_filter.mpr ⟨List.mem_of_getElem? (i := 749) (by decide +kernel), by decide +kernel⟩
theorem tw_cod_X5_breaks : Cond.code yX5_breaks cX5_breaks 2 (some .int) ∈ TW := List.mem_filter.mpr ⟨List.mem_of_getElem? (i := 750) (by decide +kernel), by decide +kernel⟩
theorem tw_ml_X5_211 : Cond.methodLink RX5 211 yX5_breaksAt ∈ TW := List.mem_filter.mpr ⟨List.mem_of_getElem? (i := 751) (by decide +kernel), by decide +kernel⟩
theorem tw_ins_X5_breaksAt : Cond.instanceMethod yX5_breaksAt ∈ TW := List.mem_filter.mpr ⟨List.mem_of_getElem? (i := 753) (by decide +kernel), by decide +kernel⟩
theorem tw_cod_X5_breaksAt : Cond.code yX5_breaksAt cX5_breaksAt 4 (some .int) ∈ TW := List.mem_filter.mpr ⟨List.mem_of_getElem? (i := 754) (by decide +kernel), by decide +kernel⟩
theorem tw_ml_X5_208 : Cond.methodLink RX5 208 yX5_isBreak ∈ TW := List.mem_filter.mpr ⟨List.mem_of_getElem? (i := 755) (by decide +kernel), by decide +kernel⟩
theorem tw_ins_X5_isBreak : Cond.instanceMethod yX5_isBreak ∈ TW := List.mem_filter.mpr ⟨List.mem_of_getElem? (i := 757) (by decide +kernel), by decide +kernel⟩
theorem tw_cod_X5_isBreak : Cond.code yX5_isBreak cX5_isBreak 9 (some .boolean) ∈ TW := List.mem_filter.mpr ⟨List.mem_of_getElem? (i := 758) (by decide +kernel), by decide +kernel⟩
theorem tw_cl_X5_204 : Cond.constantLong RX5 204 (i64 (-3)) ∈ TW := List.mem_filter.mpr ⟨List.mem_of_getElem? (i := 759) (by decide +kernel), by decide +kernel⟩
theorem tw_cl_X5_206 : Cond.constantLong RX5 206 (i64 (100)) ∈ TW := List.mem_filter.mpr ⟨List.mem_of_getElem? (i := 760) (by decide +kernel), by decide +kernel⟩
theorem tw_ml_L_95 : Cond.methodLink RL 95 yX5_worst ∈ TW := List.mem_filter.mpr ⟨List.mem_of_getElem? (i := 761) (by decide +kernel), by decide +kernel⟩
theorem tw_ins_X5_worst : Cond.instanceMethod yX5_worst ∈ TW := List.mem_filter.mpr ⟨List.mem_of_getElem? (i := 762) (by decide +kernel), by decide +kernel⟩
theorem tw_sel_X5_worst : Cond.selects RX5 yX5_worst yX5_worst ∈ TW := List.mem_filter.mpr ⟨List.mem_of_getElem? (i := 763) (by decide +kernel), by decide +kernel⟩
theorem tw_cod_X5_worst : Cond.code yX5_worst cX5_worst 5 (some .int) ∈ TW := List.mem_filter.mpr ⟨List.mem_of_getElem? (i := 764) (by decide +kernel), by decide +kernel⟩
theorem tw_ml_L_99 : Cond.methodLink RL 99 yX5_many ∈ TW := List.mem_filter.mpr ⟨List.mem_of_getElem? (i := 765) (by decide +kernel), by decide +kernel⟩
theorem tw_ins_X5_many : Cond.instanceMethod yX5_many ∈ TW := List.mem_filter.mpr ⟨List.mem_of_getElem? (i := 766) (by decide +kernel), by decide +kernel⟩
theorem tw_sel_X5_many : Cond.selects RX5 yX5_many yX5_many ∈ TW := List.mem_filter.mpr ⟨List.mem_of_getElem? (i := 767) (by decide +kernel), by decide +kernel⟩
theorem tw_cod_X5_many : Cond.code yX5_many cX5_many 2 (some .int) ∈ TW := List.mem_filter.mpr ⟨List.mem_of_getElem? (i := 768) (by decide +kernel), by decide +kernel⟩
theorem tw_ml_X5_214 : Cond.methodLink RX5 214 yX5_manyHeld ∈ TW := List.mem_filter.mpr ⟨List.mem_of_getElem? (i := 769) (by decide +kernel), by decide +kernel⟩
theorem tw_ins_X5_manyHeld : Cond.instanceMethod yX5_manyHeld ∈ TW := List.mem_filter.mpr ⟨List.mem_of_getElem? (i := 771) (by decide +kernel), by decide +kernel⟩
theorem tw_cod_X5_manyHeld : Cond.code yX5_manyHeld cX5_manyHeld 3 (some .int) ∈ TW := List.mem_filter.mpr ⟨List.mem_of_getElem? (i := 772) (by decide +kernel), by decide +kernel⟩
theorem tw_ml_X5_217 : Cond.methodLink RX5 217 yX5_manyRough ∈ TW := List.mem_filter.mpr ⟨List.mem_of_getElem? (i := 773) (by decide +kernel), by decide +kernel⟩
theorem tw_ins_X5_manyRough : Cond.instanceMethod yX5_manyRough ∈ TW := List.mem_filter.mpr ⟨List.mem_of_getElem? (i := 775) (by decide +kernel), by decide +kernel⟩
theorem tw_cod_X5_manyRough : Cond.code yX5_manyRough cX5_manyRough 4 (some .int) ∈ TW := List.mem_filter.mpr ⟨List.mem_of_getElem? (i := 776) (by decide +kernel), by decide +kernel⟩
theorem tw_ml_X5_220 : Cond.methodLink RX5 220 yX5_farOff ∈ TW := List.mem_filter.mpr ⟨List.mem_of_getElem? (i := 777) (by decide +kernel), by decide +kernel⟩
theorem tw_ins_X5_farOff : Cond.instanceMethod yX5_farOff ∈ TW := List.mem_filter.mpr ⟨List.mem_of_getElem? (i := 779) (by decide +kernel), by decide +kernel⟩
theorem tw_cod_X5_farOff : Cond.code yX5_farOff cX5_farOff 3 (some .int) ∈ TW := List.mem_filter.mpr ⟨List.mem_of_getElem? (i := 780) (by decide +kernel), by decide +kernel⟩
theorem in_X0 : ∀ w ∈ u_ws RX0 TX0 5, w ∈ TW := by
  intro w hw
  have e : u_ws RX0 TX0 5 = [99, 101, 103, 105, 107].filterMap (fun i => lw_tbl[i]?) := by decide +kernel
  have g : (u_ws RX0 TX0 5).all goodWord = true := by decide +kernel
  have g1 := List.all_eq_true.mp g w hw
  rw [e] at hw
  obtain ⟨i, -, hi⟩ := List.mem_filterMap.mp hw
  exact List.mem_filter.mpr ⟨List.mem_of_getElem? hi, g1⟩
theorem in_X1 : ∀ w ∈ u_ws RX1 TX1 2, w ∈ TW := by
  intro w hw
  have e : u_ws RX1 TX1 2 = [167, 169].filterMap (fun i => lw_tbl[i]?) := by decide +kernel
  have g : (u_ws RX1 TX1 2).all goodWord = true := by decide +kernel
  have g1 := List.all_eq_true.mp g w hw
  rw [e] at hw
  obtain ⟨i, -, hi⟩ := List.mem_filterMap.mp hw
  exact List.mem_filter.mpr ⟨List.mem_of_getElem? hi, g1⟩
theorem in_X2 : ∀ w ∈ u_ws RX2 TX2 7, w ∈ TW := by
  intro w hw
  have e : u_ws RX2 TX2 7 = [142, 144, 146, 148, 150, 152, 154].filterMap (fun i => lw_tbl[i]?) := by decide +kernel
  have g : (u_ws RX2 TX2 7).all goodWord = true := by decide +kernel
  have g1 := List.all_eq_true.mp g w hw
  rw [e] at hw
  obtain ⟨i, -, hi⟩ := List.mem_filterMap.mp hw
  exact List.mem_filter.mpr ⟨List.mem_of_getElem? hi, g1⟩
theorem in_X3 : ∀ w ∈ u_ws RX3 TX3 2, w ∈ TW := by
  intro w hw
  have e : u_ws RX3 TX3 2 = [124, 126].filterMap (fun i => lw_tbl[i]?) := by decide +kernel
  have g : (u_ws RX3 TX3 2).all goodWord = true := by decide +kernel
  have g1 := List.all_eq_true.mp g w hw
  rw [e] at hw
  obtain ⟨i, -, hi⟩ := List.mem_filterMap.mp hw
  exact List.mem_filter.mpr ⟨List.mem_of_getElem? hi, g1⟩
theorem in_X4 : ∀ w ∈ u_ws RX4 TX4 7, w ∈ TW := by
  intro w hw
  have e : u_ws RX4 TX4 7 = [193, 195, 197, 199, 201, 203, 205].filterMap (fun i => lw_tbl[i]?) := by decide +kernel
  have g : (u_ws RX4 TX4 7).all goodWord = true := by decide +kernel
  have g1 := List.all_eq_true.mp g w hw
  rw [e] at hw
  obtain ⟨i, -, hi⟩ := List.mem_filterMap.mp hw
  exact List.mem_filter.mpr ⟨List.mem_of_getElem? hi, g1⟩
theorem in_X5 : ∀ w ∈ u_ws RX5 TX5 22, w ∈ TW := by
  intro w hw
  have e : u_ws RX5 TX5 22 = [516, 518, 520, 522, 524, 526, 528, 530, 532, 534, 536, 538, 540, 542, 544, 546, 548, 550, 552, 554, 556, 558].filterMap (fun i => lw_tbl[i]?) := by decide +kernel
  have g : (u_ws RX5 TX5 22).all goodWord = true := by decide +kernel
  have g1 := List.all_eq_true.mp g w hw
  rw [e] at hw
  obtain ⟨i, -, hi⟩ := List.mem_filterMap.mp hw
  exact List.mem_filter.mpr ⟨List.mem_of_getElem? hi, g1⟩
def nwL : List Cond := [Cond.methodLinkNest RX4 13 yX0_init "HullOffsets", Cond.fieldLinkNest RX1 24 "HullOffsets$Grid" "offsets" "[I" "HullOffsets", Cond.fieldLinkNest RX4 86 "HullOffsets$Grid" "offsets" "[I" "HullOffsets", Cond.fieldLinkNest RX4 138 "HullOffsets$Grid" "puts" "[I" "HullOffsets", Cond.fieldLinkNest RX4 76 "HullOffsets$Grid" "held" "[Z" "HullOffsets", Cond.fieldLinkNest RX1 32 "HullOffsets$Grid" "stations" "I" "HullOffsets", Cond.fieldLinkNest RX4 159 "HullOffsets$Grid" "stations" "I" "HullOffsets", Cond.fieldLinkNest RX1 18 "HullOffsets$Grid" "lines" "I" "HullOffsets", Cond.fieldLinkNest RX4 184 "HullOffsets$Grid" "lines" "I" "HullOffsets", Cond.methodLinkNest RX4 20 yX3_init "HullOffsets", Cond.fieldLinkNest RX0 42 "HullOffsets$Line" "offsets" "[I" "HullOffsets", Cond.fieldLinkNest RX4 152 "HullOffsets$Line" "offsets" "[I" "HullOffsets", Cond.fieldLinkNest RX4 99 "HullOffsets$Line" "points" "I" "HullOffsets", Cond.fieldLinkNest RX0 37 "HullOffsets$Line" "points" "I" "HullOffsets", Cond.methodLinkNest RX4 27 yX2_init "HullOffsets", Cond.methodLinkNest RX4 34 yX1_init "HullOffsets", Cond.fieldLinkNest RX4 170 "HullOffsets$Heights" "upper" "[J" "HullOffsets", Cond.fieldLinkNest RX4 174 "HullOffsets$Heights" "lower" "[J" "HullOffsets", Cond.methodLinkNest RX4 57 yX0_renew "HullOffsets", Cond.methodLinkNest RX4 65 yX0_hasPoint "HullOffsets", Cond.methodLinkNest RX4 73 yX0_put "HullOffsets", Cond.methodLinkNest RX4 89 yX0_movedBy "HullOffsets", Cond.methodLinkNest RX4 109 yX0_linesOf "HullOffsets", Cond.methodLinkNest RX4 196 yX0_layOut "HullOffsets", Cond.methodLinkNest RX0 29 yX4_cellOf "HullOffsets", Cond.methodLinkNest RX4 103 yX3_bendAt "HullOffsets", Cond.methodLinkNest RX4 106 yX3_jumpAt "HullOffsets", Cond.methodLinkNest RX4 112 yX3_farthestJump "HullOffsets", Cond.methodLinkNest RX4 116 yX3_firstJumpThatFar "HullOffsets", Cond.methodLinkNest RX4 119 yX3_countJumpsBeyond "HullOffsets", Cond.methodLinkNest RX4 122 yX0_pointsOf "HullOffsets", Cond.methodLinkNest RX4 200 yX2_stay "HullOffsets", Cond.methodLinkNest RX4 203 yX0_cell "HullOffsets", Cond.methodLinkNest RX4 207 yX2_place "HullOffsets", Cond.methodLinkNest RX4 211 yX2_seek "HullOffsets", Cond.methodLinkNest RX4 128 yX2_moveOf "HullOffsets", Cond.methodLinkNest RX4 162 yX1_measure "HullOffsets", Cond.methodLinkNest RX1 28 yX4_cellOf "HullOffsets", Cond.methodLinkNest RX4 166 yX1_isThere "HullOffsets", Cond.methodLinkNest RX4 177 yX1_countBreaks "HullOffsets", Cond.methodLinkNest RX4 181 yX0_broadest "HullOffsets", Cond.methodLinkNest RX4 187 yX0_countHeld "HullOffsets", Cond.methodLinkNest RX4 193 yX0_farFromPuts "HullOffsets"]
theorem nwL_in : ∀ w ∈ nwL, w ∈ lw_tbl := by
  intro w hw
  have e : nwL = [82, 87, 88, 90, 92, 94, 95, 97, 98, 114, 119, 120, 122, 123, 131, 159, 164, 166, 182, 219, 226, 246, 258, 266, 278, 279, 287, 296, 307, 315, 323, 328, 332, 333, 341, 374, 433, 437, 438, 446, 465, 474, 482].filterMap (fun i => lw_tbl[i]?) := by decide +kernel
  rw [e] at hw
  obtain ⟨i, -, hi⟩ := List.mem_filterMap.mp hw
  exact List.mem_of_getElem? hi
def isNest : Cond → Bool
  | .fieldLinkNest _ _ _ _ _ _ => true
  | .methodLinkNest _ _ _ _ => true
  | _ => false
theorem nwL_kinds : ∀ w ∈ nwL, (∃ a i b n d h, w = Cond.fieldLinkNest a i b n d h) ∨ (∃ a i x h, w = Cond.methodLinkNest a i x h) := by
  intro w hw
  have g : nwL.all isNest = true := by decide +kernel
  have g1 := List.all_eq_true.mp g w hw
  cases w <;> first | (simp [isNest] at g1; done) | exact Or.inl ⟨_, _, _, _, _, _, rfl⟩ | exact Or.inr ⟨_, _, _, _, rfl⟩
theorem nw_ml_X4_13 : Cond.methodLinkNest RX4 13 yX0_init "HullOffsets" ∈ nwL := List.mem_of_getElem? (i := 0) (by decide +kernel)
theorem nw_fl_X1_24 : Cond.fieldLinkNest RX1 24 "HullOffsets$Grid" "offsets" "[I" "HullOffsets" ∈ nwL := List.mem_of_getElem? (i := 1) (by decide +kernel)
theorem nw_fl_X4_86 : Cond.fieldLinkNest RX4 86 "HullOffsets$Grid" "offsets" "[I" "HullOffsets" ∈ nwL := List.mem_of_getElem? (i := 2) (by decide +kernel)
theorem nw_fl_X4_138 : Cond.fieldLinkNest RX4 138 "HullOffsets$Grid" "puts" "[I" "HullOffsets" ∈ nwL := List.mem_of_getElem? (i := 3) (by decide +kernel)
theorem nw_fl_X4_76 : Cond.fieldLinkNest RX4 76 "HullOffsets$Grid" "held" "[Z" "HullOffsets" ∈ nwL := List.mem_of_getElem? (i := 4) (by decide +kernel)
theorem nw_fl_X1_32 : Cond.fieldLinkNest RX1 32 "HullOffsets$Grid" "stations" "I" "HullOffsets" ∈ nwL := List.mem_of_getElem? (i := 5) (by decide +kernel)
theorem nw_fl_X4_159 : Cond.fieldLinkNest RX4 159 "HullOffsets$Grid" "stations" "I" "HullOffsets" ∈ nwL := List.mem_of_getElem? (i := 6) (by decide +kernel)
theorem nw_fl_X1_18 : Cond.fieldLinkNest RX1 18 "HullOffsets$Grid" "lines" "I" "HullOffsets" ∈ nwL := List.mem_of_getElem? (i := 7) (by decide +kernel)
theorem nw_fl_X4_184 : Cond.fieldLinkNest RX4 184 "HullOffsets$Grid" "lines" "I" "HullOffsets" ∈ nwL := List.mem_of_getElem? (i := 8) (by decide +kernel)
theorem nw_ml_X4_20 : Cond.methodLinkNest RX4 20 yX3_init "HullOffsets" ∈ nwL := List.mem_of_getElem? (i := 9) (by decide +kernel)
theorem nw_fl_X0_42 : Cond.fieldLinkNest RX0 42 "HullOffsets$Line" "offsets" "[I" "HullOffsets" ∈ nwL := List.mem_of_getElem? (i := 10) (by decide +kernel)
theorem nw_fl_X4_152 : Cond.fieldLinkNest RX4 152 "HullOffsets$Line" "offsets" "[I" "HullOffsets" ∈ nwL := List.mem_of_getElem? (i := 11) (by decide +kernel)
theorem nw_fl_X4_99 : Cond.fieldLinkNest RX4 99 "HullOffsets$Line" "points" "I" "HullOffsets" ∈ nwL := List.mem_of_getElem? (i := 12) (by decide +kernel)
theorem nw_fl_X0_37 : Cond.fieldLinkNest RX0 37 "HullOffsets$Line" "points" "I" "HullOffsets" ∈ nwL := List.mem_of_getElem? (i := 13) (by decide +kernel)
theorem nw_ml_X4_27 : Cond.methodLinkNest RX4 27 yX2_init "HullOffsets" ∈ nwL := List.mem_of_getElem? (i := 14) (by decide +kernel)
theorem nw_ml_X4_34 : Cond.methodLinkNest RX4 34 yX1_init "HullOffsets" ∈ nwL := List.mem_of_getElem? (i := 15) (by decide +kernel)
theorem nw_fl_X4_170 : Cond.fieldLinkNest RX4 170 "HullOffsets$Heights" "upper" "[J" "HullOffsets" ∈ nwL := List.mem_of_getElem? (i := 16) (by decide +kernel)
theorem nw_fl_X4_174 : Cond.fieldLinkNest RX4 174 "HullOffsets$Heights" "lower" "[J" "HullOffsets" ∈ nwL := List.mem_of_getElem? (i := 17) (by decide +kernel)
theorem nw_ml_X4_57 : Cond.methodLinkNest RX4 57 yX0_renew "HullOffsets" ∈ nwL := List.mem_of_getElem? (i := 18) (by decide +kernel)
theorem nw_ml_X4_65 : Cond.methodLinkNest RX4 65 yX0_hasPoint "HullOffsets" ∈ nwL := List.mem_of_getElem? (i := 19) (by decide +kernel)
theorem nw_ml_X4_73 : Cond.methodLinkNest RX4 73 yX0_put "HullOffsets" ∈ nwL := List.mem_of_getElem? (i := 20) (by decide +kernel)
theorem nw_ml_X4_89 : Cond.methodLinkNest RX4 89 yX0_movedBy "HullOffsets" ∈ nwL := List.mem_of_getElem? (i := 21) (by decide +kernel)
theorem nw_ml_X4_109 : Cond.methodLinkNest RX4 109 yX0_linesOf "HullOffsets" ∈ nwL := List.mem_of_getElem? (i := 22) (by decide +kernel)
theorem nw_ml_X4_196 : Cond.methodLinkNest RX4 196 yX0_layOut "HullOffsets" ∈ nwL := List.mem_of_getElem? (i := 23) (by decide +kernel)
theorem nw_ml_X0_29 : Cond.methodLinkNest RX0 29 yX4_cellOf "HullOffsets" ∈ nwL := List.mem_of_getElem? (i := 24) (by decide +kernel)
theorem nw_ml_X4_103 : Cond.methodLinkNest RX4 103 yX3_bendAt "HullOffsets" ∈ nwL := List.mem_of_getElem? (i := 25) (by decide +kernel)
theorem nw_ml_X4_106 : Cond.methodLinkNest RX4 106 yX3_jumpAt "HullOffsets" ∈ nwL := List.mem_of_getElem? (i := 26) (by decide +kernel)
theorem nw_ml_X4_112 : Cond.methodLinkNest RX4 112 yX3_farthestJump "HullOffsets" ∈ nwL := List.mem_of_getElem? (i := 27) (by decide +kernel)
theorem nw_ml_X4_116 : Cond.methodLinkNest RX4 116 yX3_firstJumpThatFar "HullOffsets" ∈ nwL := List.mem_of_getElem? (i := 28) (by decide +kernel)
theorem nw_ml_X4_119 : Cond.methodLinkNest RX4 119 yX3_countJumpsBeyond "HullOffsets" ∈ nwL := List.mem_of_getElem? (i := 29) (by decide +kernel)
theorem nw_ml_X4_122 : Cond.methodLinkNest RX4 122 yX0_pointsOf "HullOffsets" ∈ nwL := List.mem_of_getElem? (i := 30) (by decide +kernel)
theorem nw_ml_X4_200 : Cond.methodLinkNest RX4 200 yX2_stay "HullOffsets" ∈ nwL := List.mem_of_getElem? (i := 31) (by decide +kernel)
theorem nw_ml_X4_203 : Cond.methodLinkNest RX4 203 yX0_cell "HullOffsets" ∈ nwL := List.mem_of_getElem? (i := 32) (by decide +kernel)
theorem nw_ml_X4_207 : Cond.methodLinkNest RX4 207 yX2_place "HullOffsets" ∈ nwL := List.mem_of_getElem? (i := 33) (by decide +kernel)
theorem nw_ml_X4_211 : Cond.methodLinkNest RX4 211 yX2_seek "HullOffsets" ∈ nwL := List.mem_of_getElem? (i := 34) (by decide +kernel)
theorem nw_ml_X4_128 : Cond.methodLinkNest RX4 128 yX2_moveOf "HullOffsets" ∈ nwL := List.mem_of_getElem? (i := 35) (by decide +kernel)
theorem nw_ml_X4_162 : Cond.methodLinkNest RX4 162 yX1_measure "HullOffsets" ∈ nwL := List.mem_of_getElem? (i := 36) (by decide +kernel)
theorem nw_ml_X1_28 : Cond.methodLinkNest RX1 28 yX4_cellOf "HullOffsets" ∈ nwL := List.mem_of_getElem? (i := 37) (by decide +kernel)
theorem nw_ml_X4_166 : Cond.methodLinkNest RX4 166 yX1_isThere "HullOffsets" ∈ nwL := List.mem_of_getElem? (i := 38) (by decide +kernel)
theorem nw_ml_X4_177 : Cond.methodLinkNest RX4 177 yX1_countBreaks "HullOffsets" ∈ nwL := List.mem_of_getElem? (i := 39) (by decide +kernel)
theorem nw_ml_X4_181 : Cond.methodLinkNest RX4 181 yX0_broadest "HullOffsets" ∈ nwL := List.mem_of_getElem? (i := 40) (by decide +kernel)
theorem nw_ml_X4_187 : Cond.methodLinkNest RX4 187 yX0_countHeld "HullOffsets" ∈ nwL := List.mem_of_getElem? (i := 41) (by decide +kernel)
theorem nw_ml_X4_193 : Cond.methodLinkNest RX4 193 yX0_farFromPuts "HullOffsets" ∈ nwL := List.mem_of_getElem? (i := 42) (by decide +kernel)
theorem tw_max_static : Cond.static Lib.Math.max.name ∈ TW := tw_sta_Math_max
theorem tw_min_static : Cond.static Lib.Math.min.name ∈ TW := tw_sta_Math_min
theorem tw_abs_static : Cond.static Lib.Math.abs.name ∈ TW := tw_sta_Math_abs
theorem tw_absL_static : Cond.static Lib.MathLoose.abs_long.x ∈ TW := tw_sta_Math_absL
theorem tw_max_code : Cond.code Lib.Math.max.name Lib.Math.max.code 2 (some .int) ∈ TW := tw_cod_Math_max
theorem tw_min_code : Cond.code Lib.Math.min.name Lib.Math.min.code 2 (some .int) ∈ TW := tw_cod_Math_min
theorem tw_abs_code : Cond.code Lib.Math.abs.name Lib.Math.abs.code 1 (some .int) ∈ TW := tw_cod_Math_abs
theorem tw_absL_code : Cond.code Lib.MathLoose.abs_long.x Lib.MathLoose.abs_long.code 2 (some .long) ∈ TW := tw_cod_Math_absL
theorem tw_math_init : Cond.initialized "java/lang/Math" ∈ TW := tw_ini_java_lang_Math
theorem tw_sys_init : Cond.initialized "java/lang/System" ∈ TW := tw_ini_java_lang_System
theorem tw_copy_static : Cond.static arraycopyName ∈ TW := tw_sta_System_arraycopy
theorem tw_copy_native : Cond.native arraycopyName ∈ TW := tw_nat_System_arraycopy
