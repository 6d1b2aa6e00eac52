theorem wm_in_L : Cond.initialized RL ∈ wA := wA_mem (List.mem_of_getElem? (i := 11) (by decide +kernel)) (by decide +kernel)
theorem wm_in_X4 : Cond.initialized RX4 ∈ wA := wA_mem (List.mem_of_getElem? (i := 12) (by decide +kernel)) (by decide +kernel)
theorem wm_in_X3 : Cond.initialized RX3 ∈ wA := wA_mem (List.mem_of_getElem? (i := 13) (by decide +kernel)) (by decide +kernel)
theorem wm_in_X0 : Cond.initialized RX0 ∈ wA := wA_mem (List.mem_of_getElem? (i := 14) (by decide +kernel)) (by decide +kernel)
theorem wm_in_X5 : Cond.initialized RX5 ∈ wA := wA_mem (List.mem_of_getElem? (i := 15) (by decide +kernel)) (by decide +kernel)
theorem wm_in_X2 : Cond.initialized RX2 ∈ wA := wA_mem (List.mem_of_getElem? (i := 16) (by decide +kernel)) (by decide +kernel)
theorem wm_in_X1 : Cond.initialized RX1 ∈ wA := wA_mem (List.mem_of_getElem? (i := 17) (by decide +kernel)) (by decide +kernel)
theorem wm_in_Throwable : Cond.initialized "java/lang/Throwable" ∈ wA := wA_mem (List.mem_of_getElem? (i := 18) (by decide +kernel)) (by decide +kernel)
theorem wm_in_Exception : Cond.initialized "java/lang/Exception" ∈ wA := wA_mem (List.mem_of_getElem? (i := 19) (by decide +kernel)) (by decide +kernel)
theorem wm_in_RuntimeException : Cond.initialized "java/lang/RuntimeException" ∈ wA := wA_mem (List.mem_of_getElem? (i := 20) (by decide +kernel)) (by decide +kernel)
theorem wm_in_IllegalArgumentException : Cond.initialized "java/lang/IllegalArgumentException" ∈ wA := wA_mem (List.mem_of_getElem? (i := 21) (by decide +kernel)) (by decide +kernel)
theorem wm_in_IllegalStateException : Cond.initialized "java/lang/IllegalStateException" ∈ wA := wA_mem (List.mem_of_getElem? (i := 22) (by decide +kernel)) (by decide +kernel)
theorem wm_in_Math : Cond.initialized "java/lang/Math" ∈ wA := wA_mem (List.mem_of_getElem? (i := 23) (by decide +kernel)) (by decide +kernel)
theorem wm_in_NoSuchElementException : Cond.initialized "java/util/NoSuchElementException" ∈ wA := wA_mem (List.mem_of_getElem? (i := 24) (by decide +kernel)) (by decide +kernel)
theorem wm_cl_L_8 : Cond.classLink RL 8 RX4 ∈ wA := wA_mem (List.mem_of_getElem? (i := 25) (by decide +kernel)) (by decide +kernel)
theorem wm_it_X4 : Cond.instantiable RX4 5 ∈ wA := wA_mem (List.mem_of_getElem? (i := 26) (by decide +kernel)) (by decide +kernel)
theorem wm_ml_L_40 : Cond.methodLink RL 40 yX4_init ∈ wA := wA_mem (List.mem_of_getElem? (i := 27) (by decide +kernel)) (by decide +kernel)
theorem wm_im_X4_init : Cond.instanceMethod yX4_init ∈ wA := wA_mem (List.mem_of_getElem? (i := 28) (by decide +kernel)) (by decide +kernel)
theorem wm_cd_X4_init : Cond.code yX4_init cX4_init 1 none ∈ wA := wA_mem (List.mem_of_getElem? (i := 29) (by decide +kernel)) (by decide +kernel)
theorem wm_ml_X4_1 : Cond.methodLink RX4 1 objectInit ∈ wA := wA_mem (List.mem_of_getElem? (i := 30) (by decide +kernel)) (by decide +kernel)
theorem wm_im_obj_init : Cond.instanceMethod objectInit ∈ wA := wA_mem (List.mem_of_getElem? (i := 31) (by decide +kernel)) (by decide +kernel)
theorem wm_cd_obj_init : Cond.code objectInit ⟨#[0xb1]⟩ 1 none ∈ wA := wA_mem (List.mem_of_getElem? (i := 32) (by decide +kernel)) (by decide +kernel)
theorem wm_cl_X4_7 : Cond.classLink RX4 7 RX3 ∈ wA := wA_mem (List.mem_of_getElem? (i := 33) (by decide +kernel)) (by decide +kernel)
theorem wm_it_X3 : Cond.instantiable RX3 8 ∈ wA := wA_mem (List.mem_of_getElem? (i := 34) (by decide +kernel)) (by decide +kernel)
theorem wl_mn_X4_9 : Cond.methodLinkNest RX4 9 yX3_init RX4 ∈ lw_tbl := List.mem_of_getElem? (i := 35) (by decide +kernel)
theorem wm_im_X3_init : Cond.instanceMethod yX3_init ∈ wA := wA_mem (List.mem_of_getElem? (i := 36) (by decide +kernel)) (by decide +kernel)
theorem wm_cd_X3_init : Cond.code yX3_init cX3_init 1 none ∈ wA := wA_mem (List.mem_of_getElem? (i := 37) (by decide +kernel)) (by decide +kernel)
theorem wm_ml_X3_3 : Cond.methodLink RX3 3 objectInit ∈ wA := wA_mem (List.mem_of_getElem? (i := 38) (by decide +kernel)) (by decide +kernel)
theorem wm_fl_X3_9 : Cond.fieldLink RX3 9 "FloatSolver$TermTable" "kinds" "[I" ∈ wA := wA_mem (List.mem_of_getElem? (i := 39) (by decide +kernel)) (by decide +kernel)
theorem wm_fl_X3_15 : Cond.fieldLink RX3 15 "FloatSolver$TermTable" "firsts" "[I" ∈ wA := wA_mem (List.mem_of_getElem? (i := 40) (by decide +kernel)) (by decide +kernel)
theorem wm_fl_X3_18 : Cond.fieldLink RX3 18 "FloatSolver$TermTable" "seconds" "[I" ∈ wA := wA_mem (List.mem_of_getElem? (i := 41) (by decide +kernel)) (by decide +kernel)
theorem wm_fl_X3_21 : Cond.fieldLink RX3 21 "FloatSolver$TermTable" "thirds" "[I" ∈ wA := wA_mem (List.mem_of_getElem? (i := 42) (by decide +kernel)) (by decide +kernel)
theorem wm_fl_X3_24 : Cond.fieldLink RX3 24 "FloatSolver$TermTable" "parts" "[I" ∈ wA := wA_mem (List.mem_of_getElem? (i := 43) (by decide +kernel)) (by decide +kernel)
theorem wm_fl_X3_27 : Cond.fieldLink RX3 27 "FloatSolver$TermTable" "varying" "[I" ∈ wA := wA_mem (List.mem_of_getElem? (i := 44) (by decide +kernel)) (by decide +kernel)
theorem wm_fl_X3_30 : Cond.fieldLink RX3 30 "FloatSolver$TermTable" "answers" "[I" ∈ wA := wA_mem (List.mem_of_getElem? (i := 45) (by decide +kernel)) (by decide +kernel)
theorem wm_fl_X3_33 : Cond.fieldLink RX3 33 "FloatSolver$TermTable" "size" "I" ∈ wA := wA_mem (List.mem_of_getElem? (i := 46) (by decide +kernel)) (by decide +kernel)
theorem wm_ac_int : Cond.arrayClass .int ∈ wA := wA_mem (List.mem_of_getElem? (i := 64) (by decide +kernel)) (by decide +kernel)
theorem wm_cl_X4_16 : Cond.classLink RX4 16 RX0 ∈ wA := wA_mem (List.mem_of_getElem? (i := 65) (by decide +kernel)) (by decide +kernel)
theorem wm_it_X0 : Cond.instantiable RX0 4 ∈ wA := wA_mem (List.mem_of_getElem? (i := 66) (by decide +kernel)) (by decide +kernel)
theorem wl_mn_X4_18 : Cond.methodLinkNest RX4 18 yX0_init RX4 ∈ lw_tbl := List.mem_of_getElem? (i := 67) (by decide +kernel)
theorem wm_im_X0_init : Cond.instanceMethod yX0_init ∈ wA := wA_mem (List.mem_of_getElem? (i := 68) (by decide +kernel)) (by decide +kernel)
theorem wm_cd_X0_init : Cond.code yX0_init cX0_init 1 none ∈ wA := wA_mem (List.mem_of_getElem? (i := 69) (by decide +kernel)) (by decide +kernel)
theorem wm_ml_X0_3 : Cond.methodLink RX0 3 objectInit ∈ wA := wA_mem (List.mem_of_getElem? (i := 70) (by decide +kernel)) (by decide +kernel)
theorem wm_fl_X0_9 : Cond.fieldLink RX0 9 "FloatSolver$ClaimStack" "claimed" "[I" ∈ wA := wA_mem (List.mem_of_getElem? (i := 71) (by decide +kernel)) (by decide +kernel)
theorem wm_fl_X0_15 : Cond.fieldLink RX0 15 "FloatSolver$ClaimStack" "starts" "[I" ∈ wA := wA_mem (List.mem_of_getElem? (i := 72) (by decide +kernel)) (by decide +kernel)
theorem wm_fl_X0_18 : Cond.fieldLink RX0 18 "FloatSolver$ClaimStack" "size" "I" ∈ wA := wA_mem (List.mem_of_getElem? (i := 73) (by decide +kernel)) (by decide +kernel)
theorem wm_fl_X0_22 : Cond.fieldLink RX0 22 "FloatSolver$ClaimStack" "highest" "I" ∈ wA := wA_mem (List.mem_of_getElem? (i := 74) (by decide +kernel)) (by decide +kernel)
theorem wm_fl_X4_10 : Cond.fieldLink RX4 10 "FloatSolver" "table" "LFloatSolver$TermTable;" ∈ wA := wA_mem (List.mem_of_getElem? (i := 84) (by decide +kernel)) (by decide +kernel)
theorem wm_fl_X4_19 : Cond.fieldLink RX4 19 "FloatSolver" "stack" "LFloatSolver$ClaimStack;" ∈ wA := wA_mem (List.mem_of_getElem? (i := 85) (by decide +kernel)) (by decide +kernel)
theorem wm_fl_X4_23 : Cond.fieldLink RX4 23 "FloatSolver" "found" "[I" ∈ wA := wA_mem (List.mem_of_getElem? (i := 86) (by decide +kernel)) (by decide +kernel)
theorem wm_fl_X4_27 : Cond.fieldLink RX4 27 "FloatSolver" "modelStands" "Z" ∈ wA := wA_mem (List.mem_of_getElem? (i := 87) (by decide +kernel)) (by decide +kernel)
theorem wm_fl_X4_31 : Cond.fieldLink RX4 31 "FloatSolver" "checkCount" "I" ∈ wA := wA_mem (List.mem_of_getElem? (i := 88) (by decide +kernel)) (by decide +kernel)
theorem wm_ml_L_64 : Cond.methodLink RL 64 yX4_check ∈ wA := wA_mem (List.mem_of_getElem? (i := 100) (by decide +kernel)) (by decide +kernel)
theorem wm_im_X4_check : Cond.instanceMethod yX4_check ∈ wA := wA_mem (List.mem_of_getElem? (i := 101) (by decide +kernel)) (by decide +kernel)
theorem wm_se_X4_check : Cond.selects RX4 yX4_check yX4_check ∈ wA := wA_mem (List.mem_of_getElem? (i := 102) (by decide +kernel)) (by decide +kernel)
theorem wm_cd_X4_check : Cond.code yX4_check cX4_check 1 (some .boolean) ∈ wA := wA_mem (List.mem_of_getElem? (i := 103) (by decide +kernel)) (by decide +kernel)
theorem wm_ml_X4_97 : Cond.methodLink RX4 97 yX4_search ∈ wA := wA_mem (List.mem_of_getElem? (i := 104) (by decide +kernel)) (by decide +kernel)
theorem wm_im_X4_search : Cond.instanceMethod yX4_search ∈ wA := wA_mem (List.mem_of_getElem? (i := 106) (by decide +kernel)) (by decide +kernel)
theorem wm_cd_X4_search : Cond.code yX4_search cX4_search 9 (some .boolean) ∈ wA := wA_mem (List.mem_of_getElem? (i := 107) (by decide +kernel)) (by decide +kernel)
theorem wm_ml_X4_133 : Cond.methodLink RX4 133 yX0_claimedTerms ∈ wA := wA_mem (List.mem_of_getElem? (i := 108) (by decide +kernel)) (by decide +kernel)
theorem wm_im_X0_claimedTerms : Cond.instanceMethod yX0_claimedTerms ∈ wA := wA_mem (List.mem_of_getElem? (i := 109) (by decide +kernel)) (by decide +kernel)
theorem wm_se_X0_claimedTerms : Cond.selects RX0 yX0_claimedTerms yX0_claimedTerms ∈ wA := wA_mem (List.mem_of_getElem? (i := 110) (by decide +kernel)) (by decide +kernel)
theorem wm_cd_X0_claimedTerms : Cond.code yX0_claimedTerms cX0_claimedTerms 3 (some .int) ∈ wA := wA_mem (List.mem_of_getElem? (i := 111) (by decide +kernel)) (by decide +kernel)
theorem wm_ml_X4_136 : Cond.methodLink RX4 136 yX3_partsOf ∈ wA := wA_mem (List.mem_of_getElem? (i := 112) (by decide +kernel)) (by decide +kernel)
theorem wm_im_X3_partsOf : Cond.instanceMethod yX3_partsOf ∈ wA := wA_mem (List.mem_of_getElem? (i := 113) (by decide +kernel)) (by decide +kernel)
theorem wm_se_X3_partsOf : Cond.selects RX3 yX3_partsOf yX3_partsOf ∈ wA := wA_mem (List.mem_of_getElem? (i := 114) (by decide +kernel)) (by decide +kernel)
theorem wm_cd_X3_partsOf : Cond.code yX3_partsOf cX3_partsOf 4 (some .int) ∈ wA := wA_mem (List.mem_of_getElem? (i := 115) (by decide +kernel)) (by decide +kernel)
theorem wm_ml_X4_139 : Cond.methodLink RX4 139 yX3_varyingWith ∈ wA := wA_mem (List.mem_of_getElem? (i := 116) (by decide +kernel)) (by decide +kernel)
theorem wm_im_X3_varyingWith : Cond.instanceMethod yX3_varyingWith ∈ wA := wA_mem (List.mem_of_getElem? (i := 117) (by decide +kernel)) (by decide +kernel)
theorem wm_se_X3_varyingWith : Cond.selects RX3 yX3_varyingWith yX3_varyingWith ∈ wA := wA_mem (List.mem_of_getElem? (i := 118) (by decide +kernel)) (by decide +kernel)
theorem wm_cd_X3_varyingWith : Cond.code yX3_varyingWith cX3_varyingWith 2 (some .int) ∈ wA := wA_mem (List.mem_of_getElem? (i := 119) (by decide +kernel)) (by decide +kernel)
theorem wm_ml_X4_142 : Cond.methodLink RX4 142 yX3_allHold ∈ wA := wA_mem (List.mem_of_getElem? (i := 120) (by decide +kernel)) (by decide +kernel)
theorem wm_im_X3_allHold : Cond.instanceMethod yX3_allHold ∈ wA := wA_mem (List.mem_of_getElem? (i := 121) (by decide +kernel)) (by decide +kernel)
theorem wm_se_X3_allHold : Cond.selects RX3 yX3_allHold yX3_allHold ∈ wA := wA_mem (List.mem_of_getElem? (i := 122) (by decide +kernel)) (by decide +kernel)
theorem wm_cd_X3_allHold : Cond.code yX3_allHold cX3_allHold 7 (some .boolean) ∈ wA := wA_mem (List.mem_of_getElem? (i := 123) (by decide +kernel)) (by decide +kernel)
theorem wm_ml_X3_85 : Cond.methodLink RX3 85 yX3_workOut ∈ wA := wA_mem (List.mem_of_getElem? (i := 124) (by decide +kernel)) (by decide +kernel)
theorem wm_im_X3_workOut : Cond.instanceMethod yX3_workOut ∈ wA := wA_mem (List.mem_of_getElem? (i := 126) (by decide +kernel)) (by decide +kernel)
theorem wm_cd_X3_workOut : Cond.code yX3_workOut cX3_workOut 8 (some .int) ∈ wA := wA_mem (List.mem_of_getElem? (i := 127) (by decide +kernel)) (by decide +kernel)
theorem wm_ml_X3_93 : Cond.methodLink RX3 93 yX1_operate ∈ wA := wA_mem (List.mem_of_getElem? (i := 128) (by decide +kernel)) (by decide +kernel)
theorem wm_st_X1_operate : Cond.static yX1_operate ∈ wA := wA_mem (List.mem_of_getElem? (i := 129) (by decide +kernel)) (by decide +kernel)
theorem wm_cd_X1_operate : Cond.code yX1_operate cX1_operate 3 (some .int) ∈ wA := wA_mem (List.mem_of_getElem? (i := 130) (by decide +kernel)) (by decide +kernel)
theorem wm_ml_X1_9 : Cond.methodLink RX1 9 yX1_negate ∈ wA := wA_mem (List.mem_of_getElem? (i := 131) (by decide +kernel)) (by decide +kernel)
theorem wm_st_X1_negate : Cond.static yX1_negate ∈ wA := wA_mem (List.mem_of_getElem? (i := 132) (by decide +kernel)) (by decide +kernel)
theorem wm_cd_X1_negate : Cond.code yX1_negate cX1_negate 1 (some .int) ∈ wA := wA_mem (List.mem_of_getElem? (i := 133) (by decide +kernel)) (by decide +kernel)
theorem wm_ml_X1_15 : Cond.methodLink RX1 15 yX1_add ∈ wA := wA_mem (List.mem_of_getElem? (i := 134) (by decide +kernel)) (by decide +kernel)
theorem wm_st_X1_add : Cond.static yX1_add ∈ wA := wA_mem (List.mem_of_getElem? (i := 135) (by decide +kernel)) (by decide +kernel)
theorem wm_cd_X1_add : Cond.code yX1_add cX1_add 3 (some .int) ∈ wA := wA_mem (List.mem_of_getElem? (i := 136) (by decide +kernel)) (by decide +kernel)
theorem wm_ml_X1_22 : Cond.methodLink RX1 22 yX1_isNan ∈ wA := wA_mem (List.mem_of_getElem? (i := 137) (by decide +kernel)) (by decide +kernel)
theorem wm_st_X1_isNan : Cond.static yX1_isNan ∈ wA := wA_mem (List.mem_of_getElem? (i := 138) (by decide +kernel)) (by decide +kernel)
theorem wm_cd_X1_isNan : Cond.code yX1_isNan cX1_isNan 1 (some .boolean) ∈ wA := wA_mem (List.mem_of_getElem? (i := 139) (by decide +kernel)) (by decide +kernel)
theorem wm_ml_X1_33 : Cond.methodLink RX1 33 yX1_isInfinite ∈ wA := wA_mem (List.mem_of_getElem? (i := 140) (by decide +kernel)) (by decide +kernel)
theorem wm_st_X1_isInfinite : Cond.static yX1_isInfinite ∈ wA := wA_mem (List.mem_of_getElem? (i := 141) (by decide +kernel)) (by decide +kernel)
theorem wm_cd_X1_isInfinite : Cond.code yX1_isInfinite cX1_isInfinite 1 (some .boolean) ∈ wA := wA_mem (List.mem_of_getElem? (i := 142) (by decide +kernel)) (by decide +kernel)
theorem wm_ml_X1_39 : Cond.methodLink RX1 39 yX1_signedQuarters ∈ wA := wA_mem (List.mem_of_getElem? (i := 143) (by decide +kernel)) (by decide +kernel)
theorem wm_st_X1_signedQuarters : Cond.static yX1_signedQuarters ∈ wA := wA_mem (List.mem_of_getElem? (i := 144) (by decide +kernel)) (by decide +kernel)
theorem wm_cd_X1_signedQuarters : Cond.code yX1_signedQuarters cX1_signedQuarters 3 (some .int) ∈ wA := wA_mem (List.mem_of_getElem? (i := 145) (by decide +kernel)) (by decide +kernel)
theorem wm_ml_X1_42 : Cond.methodLink RX1 42 ⟨"java/lang/Math", "abs", "(I)I"⟩ ∈ wA := wA_mem (List.mem_of_getElem? (i := 146) (by decide +kernel)) (by decide +kernel)
theorem wm_st_abs : Cond.static Lib.Math.abs.name ∈ wA := wA_mem (List.mem_of_getElem? (i := 147) (by decide +kernel)) (by decide +kernel)
theorem wm_cd_abs : Cond.code Lib.Math.abs.name Lib.Math.abs.code 1 (some .int) ∈ wA := wA_mem (List.mem_of_getElem? (i := 148) (by decide +kernel)) (by decide +kernel)
theorem wm_ml_X1_47 : Cond.methodLink RX1 47 yX1_rounded ∈ wA := wA_mem (List.mem_of_getElem? (i := 149) (by decide +kernel)) (by decide +kernel)
theorem wm_st_X1_rounded : Cond.static yX1_rounded ∈ wA := wA_mem (List.mem_of_getElem? (i := 150) (by decide +kernel)) (by decide +kernel)
theorem wm_cd_X1_rounded : Cond.code yX1_rounded cX1_rounded 5 (some .int) ∈ wA := wA_mem (List.mem_of_getElem? (i := 151) (by decide +kernel)) (by decide +kernel)
theorem wm_ml_X1_19 : Cond.methodLink RX1 19 yX1_multiply ∈ wA := wA_mem (List.mem_of_getElem? (i := 152) (by decide +kernel)) (by decide +kernel)
theorem wm_st_X1_multiply : Cond.static yX1_multiply ∈ wA := wA_mem (List.mem_of_getElem? (i := 153) (by decide +kernel)) (by decide +kernel)
theorem wm_cd_X1_multiply : Cond.code yX1_multiply cX1_multiply 3 (some .int) ∈ wA := wA_mem (List.mem_of_getElem? (i := 154) (by decide +kernel)) (by decide +kernel)
theorem wm_ml_X1_36 : Cond.methodLink RX1 36 yX1_isZero ∈ wA := wA_mem (List.mem_of_getElem? (i := 155) (by decide +kernel)) (by decide +kernel)
theorem wm_st_X1_isZero : Cond.static yX1_isZero ∈ wA := wA_mem (List.mem_of_getElem? (i := 156) (by decide +kernel)) (by decide +kernel)
theorem wm_cd_X1_isZero : Cond.code yX1_isZero cX1_isZero 1 (some .boolean) ∈ wA := wA_mem (List.mem_of_getElem? (i := 157) (by decide +kernel)) (by decide +kernel)
theorem wm_ml_X1_26 : Cond.methodLink RX1 26 yX1_isLess ∈ wA := wA_mem (List.mem_of_getElem? (i := 158) (by decide +kernel)) (by decide +kernel)
theorem wm_st_X1_isLess : Cond.static yX1_isLess ∈ wA := wA_mem (List.mem_of_getElem? (i := 159) (by decide +kernel)) (by decide +kernel)
theorem wm_cd_X1_isLess : Cond.code yX1_isLess cX1_isLess 2 (some .boolean) ∈ wA := wA_mem (List.mem_of_getElem? (i := 160) (by decide +kernel)) (by decide +kernel)
theorem wm_ml_X1_30 : Cond.methodLink RX1 30 yX1_isEqual ∈ wA := wA_mem (List.mem_of_getElem? (i := 161) (by decide +kernel)) (by decide +kernel)
theorem wm_st_X1_isEqual : Cond.static yX1_isEqual ∈ wA := wA_mem (List.mem_of_getElem? (i := 162) (by decide +kernel)) (by decide +kernel)
theorem wm_cd_X1_isEqual : Cond.code yX1_isEqual cX1_isEqual 2 (some .boolean) ∈ wA := wA_mem (List.mem_of_getElem? (i := 163) (by decide +kernel)) (by decide +kernel)
theorem wm_ml_L_79 : Cond.methodLink RL 79 yX4_terms ∈ wA := wA_mem (List.mem_of_getElem? (i := 164) (by decide +kernel)) (by decide +kernel)
theorem wm_im_X4_terms : Cond.instanceMethod yX4_terms ∈ wA := wA_mem (List.mem_of_getElem? (i := 165) (by decide +kernel)) (by decide +kernel)
theorem wm_se_X4_terms : Cond.selects RX4 yX4_terms yX4_terms ∈ wA := wA_mem (List.mem_of_getElem? (i := 166) (by decide +kernel)) (by decide +kernel)
theorem wm_cd_X4_terms : Cond.code yX4_terms cX4_terms 1 (some .int) ∈ wA := wA_mem (List.mem_of_getElem? (i := 167) (by decide +kernel)) (by decide +kernel)
theorem wm_ml_X4_129 : Cond.methodLink RX4 129 yX3_count ∈ wA := wA_mem (List.mem_of_getElem? (i := 168) (by decide +kernel)) (by decide +kernel)
theorem wm_im_X3_count : Cond.instanceMethod yX3_count ∈ wA := wA_mem (List.mem_of_getElem? (i := 169) (by decide +kernel)) (by decide +kernel)
theorem wm_se_X3_count : Cond.selects RX3 yX3_count yX3_count ∈ wA := wA_mem (List.mem_of_getElem? (i := 170) (by decide +kernel)) (by decide +kernel)
theorem wm_cd_X3_count : Cond.code yX3_count cX3_count 1 (some .int) ∈ wA := wA_mem (List.mem_of_getElem? (i := 171) (by decide +kernel)) (by decide +kernel)
theorem wm_ml_L_83 : Cond.methodLink RL 83 yX4_claims ∈ wA := wA_mem (List.mem_of_getElem? (i := 172) (by decide +kernel)) (by decide +kernel)
theorem wm_im_X4_claims : Cond.instanceMethod yX4_claims ∈ wA := wA_mem (List.mem_of_getElem? (i := 173) (by decide +kernel)) (by decide +kernel)
theorem wm_se_X4_claims : Cond.selects RX4 yX4_claims yX4_claims ∈ wA := wA_mem (List.mem_of_getElem? (i := 174) (by decide +kernel)) (by decide +kernel)
theorem wm_cd_X4_claims : Cond.code yX4_claims cX4_claims 1 (some .int) ∈ wA := wA_mem (List.mem_of_getElem? (i := 175) (by decide +kernel)) (by decide +kernel)
theorem wm_ml_X4_132 : Cond.methodLink RX4 132 yX0_count ∈ wA := wA_mem (List.mem_of_getElem? (i := 176) (by decide +kernel)) (by decide +kernel)
theorem wm_im_X0_count : Cond.instanceMethod yX0_count ∈ wA := wA_mem (List.mem_of_getElem? (i := 177) (by decide +kernel)) (by decide +kernel)
theorem wm_se_X0_count : Cond.selects RX0 yX0_count yX0_count ∈ wA := wA_mem (List.mem_of_getElem? (i := 178) (by decide +kernel)) (by decide +kernel)
theorem wm_cd_X0_count : Cond.code yX0_count cX0_count 1 (some .int) ∈ wA := wA_mem (List.mem_of_getElem? (i := 179) (by decide +kernel)) (by decide +kernel)
theorem wm_ml_L_87 : Cond.methodLink RL 87 yX4_level ∈ wA := wA_mem (List.mem_of_getElem? (i := 180) (by decide +kernel)) (by decide +kernel)
theorem wm_im_X4_level : Cond.instanceMethod yX4_level ∈ wA := wA_mem (List.mem_of_getElem? (i := 181) (by decide +kernel)) (by decide +kernel)
theorem wm_se_X4_level : Cond.selects RX4 yX4_level yX4_level ∈ wA := wA_mem (List.mem_of_getElem? (i := 182) (by decide +kernel)) (by decide +kernel)
theorem wm_cd_X4_level : Cond.code yX4_level cX4_level 1 (some .int) ∈ wA := wA_mem (List.mem_of_getElem? (i := 183) (by decide +kernel)) (by decide +kernel)
theorem wm_ml_X4_83 : Cond.methodLink RX4 83 yX0_top ∈ wA := wA_mem (List.mem_of_getElem? (i := 184) (by decide +kernel)) (by decide +kernel)
theorem wm_im_X0_top : Cond.instanceMethod yX0_top ∈ wA := wA_mem (List.mem_of_getElem? (i := 185) (by decide +kernel)) (by decide +kernel)
theorem wm_se_X0_top : Cond.selects RX0 yX0_top yX0_top ∈ wA := wA_mem (List.mem_of_getElem? (i := 186) (by decide +kernel)) (by decide +kernel)
theorem wm_cd_X0_top : Cond.code yX0_top cX0_top 1 (some .int) ∈ wA := wA_mem (List.mem_of_getElem? (i := 187) (by decide +kernel)) (by decide +kernel)
theorem wm_ml_L_91 : Cond.methodLink RL 91 yX4_checks ∈ wA := wA_mem (List.mem_of_getElem? (i := 188) (by decide +kernel)) (by decide +kernel)
theorem wm_im_X4_checks : Cond.instanceMethod yX4_checks ∈ wA := wA_mem (List.mem_of_getElem? (i := 189) (by decide +kernel)) (by decide +kernel)
theorem wm_se_X4_checks : Cond.selects RX4 yX4_checks yX4_checks ∈ wA := wA_mem (List.mem_of_getElem? (i := 190) (by decide +kernel)) (by decide +kernel)
theorem wm_cd_X4_checks : Cond.code yX4_checks cX4_checks 1 (some .int) ∈ wA := wA_mem (List.mem_of_getElem? (i := 191) (by decide +kernel)) (by decide +kernel)
theorem wm_ml_L_44 : Cond.methodLink RL 44 yL_term ∈ wA := wA_mem (List.mem_of_getElem? (i := 192) (by decide +kernel)) (by decide +kernel)
theorem wm_st_L_term : Cond.static yL_term ∈ wA := wA_mem (List.mem_of_getElem? (i := 193) (by decide +kernel)) (by decide +kernel)
theorem wm_cl_L_13 : Cond.classLink RL 13 "java/lang/IllegalArgumentException" ∈ wA := wA_mem (List.mem_of_getElem? (i := 195) (by decide +kernel)) (by decide +kernel)
theorem wm_cl_L_15 : Cond.classLink RL 15 "java/lang/IllegalStateException" ∈ wA := wA_mem (List.mem_of_getElem? (i := 196) (by decide +kernel)) (by decide +kernel)
theorem wm_ml_L_7 : Cond.methodLink RL 7 yX4_term ∈ wA := wA_mem (List.mem_of_getElem? (i := 197) (by decide +kernel)) (by decide +kernel)
theorem wm_im_X4_term : Cond.instanceMethod yX4_term ∈ wA := wA_mem (List.mem_of_getElem? (i := 198) (by decide +kernel)) (by decide +kernel)
theorem wm_se_X4_term : Cond.selects RX4 yX4_term yX4_term ∈ wA := wA_mem (List.mem_of_getElem? (i := 199) (by decide +kernel)) (by decide +kernel)
theorem wm_cd_X4_term : Cond.code yX4_term cX4_term 8 (some .int) ∈ wA := wA_mem (List.mem_of_getElem? (i := 200) (by decide +kernel)) (by decide +kernel)
theorem wm_ml_X4_35 : Cond.methodLink RX4 35 yX3_allows ∈ wA := wA_mem (List.mem_of_getElem? (i := 201) (by decide +kernel)) (by decide +kernel)
theorem wm_im_X3_allows : Cond.instanceMethod yX3_allows ∈ wA := wA_mem (List.mem_of_getElem? (i := 202) (by decide +kernel)) (by decide +kernel)
theorem wm_se_X3_allows : Cond.selects RX3 yX3_allows yX3_allows ∈ wA := wA_mem (List.mem_of_getElem? (i := 203) (by decide +kernel)) (by decide +kernel)
theorem wm_cd_X3_allows : Cond.code yX3_allows cX3_allows 5 (some .boolean) ∈ wA := wA_mem (List.mem_of_getElem? (i := 204) (by decide +kernel)) (by decide +kernel)
theorem wm_ml_X3_46 : Cond.methodLink RX3 46 yX2_isKind ∈ wA := wA_mem (List.mem_of_getElem? (i := 205) (by decide +kernel)) (by decide +kernel)
theorem wm_st_X2_isKind : Cond.static yX2_isKind ∈ wA := wA_mem (List.mem_of_getElem? (i := 206) (by decide +kernel)) (by decide +kernel)
theorem wm_cd_X2_isKind : Cond.code yX2_isKind cX2_isKind 1 (some .boolean) ∈ wA := wA_mem (List.mem_of_getElem? (i := 207) (by decide +kernel)) (by decide +kernel)
theorem wm_ml_X3_49 : Cond.methodLink RX3 49 yX2_ofFirst ∈ wA := wA_mem (List.mem_of_getElem? (i := 208) (by decide +kernel)) (by decide +kernel)
theorem wm_st_X2_ofFirst : Cond.static yX2_ofFirst ∈ wA := wA_mem (List.mem_of_getElem? (i := 209) (by decide +kernel)) (by decide +kernel)
theorem wm_cd_X2_ofFirst : Cond.code yX2_ofFirst cX2_ofFirst 1 (some .int) ∈ wA := wA_mem (List.mem_of_getElem? (i := 210) (by decide +kernel)) (by decide +kernel)
theorem wm_ml_X3_53 : Cond.methodLink RX3 53 yX3_fits ∈ wA := wA_mem (List.mem_of_getElem? (i := 211) (by decide +kernel)) (by decide +kernel)
theorem wm_im_X3_fits : Cond.instanceMethod yX3_fits ∈ wA := wA_mem (List.mem_of_getElem? (i := 213) (by decide +kernel)) (by decide +kernel)
theorem wm_cd_X3_fits : Cond.code yX3_fits cX3_fits 3 (some .boolean) ∈ wA := wA_mem (List.mem_of_getElem? (i := 214) (by decide +kernel)) (by decide +kernel)
theorem wm_ml_X3_63 : Cond.methodLink RX3 63 yX1_isNumber ∈ wA := wA_mem (List.mem_of_getElem? (i := 215) (by decide +kernel)) (by decide +kernel)
theorem wm_st_X1_isNumber : Cond.static yX1_isNumber ∈ wA := wA_mem (List.mem_of_getElem? (i := 216) (by decide +kernel)) (by decide +kernel)
theorem wm_cd_X1_isNumber : Cond.code yX1_isNumber cX1_isNumber 1 (some .boolean) ∈ wA := wA_mem (List.mem_of_getElem? (i := 217) (by decide +kernel)) (by decide +kernel)
theorem wm_ml_X3_68 : Cond.methodLink RX3 68 yX3_isNumberTerm ∈ wA := wA_mem (List.mem_of_getElem? (i := 218) (by decide +kernel)) (by decide +kernel)
theorem wm_im_X3_isNumberTerm : Cond.instanceMethod yX3_isNumberTerm ∈ wA := wA_mem (List.mem_of_getElem? (i := 219) (by decide +kernel)) (by decide +kernel)
theorem wm_se_X3_isNumberTerm : Cond.selects RX3 yX3_isNumberTerm yX3_isNumberTerm ∈ wA := wA_mem (List.mem_of_getElem? (i := 220) (by decide +kernel)) (by decide +kernel)
theorem wm_cd_X3_isNumberTerm : Cond.code yX3_isNumberTerm cX3_isNumberTerm 2 (some .boolean) ∈ wA := wA_mem (List.mem_of_getElem? (i := 221) (by decide +kernel)) (by decide +kernel)
theorem wm_ml_X3_37 : Cond.methodLink RX3 37 yX3_has ∈ wA := wA_mem (List.mem_of_getElem? (i := 222) (by decide +kernel)) (by decide +kernel)
theorem wm_im_X3_has : Cond.instanceMethod yX3_has ∈ wA := wA_mem (List.mem_of_getElem? (i := 223) (by decide +kernel)) (by decide +kernel)
theorem wm_se_X3_has : Cond.selects RX3 yX3_has yX3_has ∈ wA := wA_mem (List.mem_of_getElem? (i := 224) (by decide +kernel)) (by decide +kernel)
theorem wm_cd_X3_has : Cond.code yX3_has cX3_has 2 (some .boolean) ∈ wA := wA_mem (List.mem_of_getElem? (i := 225) (by decide +kernel)) (by decide +kernel)
theorem wm_ml_X3_41 : Cond.methodLink RX3 41 yX2_givesTruth ∈ wA := wA_mem (List.mem_of_getElem? (i := 226) (by decide +kernel)) (by decide +kernel)
theorem wm_st_X2_givesTruth : Cond.static yX2_givesTruth ∈ wA := wA_mem (List.mem_of_getElem? (i := 227) (by decide +kernel)) (by decide +kernel)
theorem wm_cd_X2_givesTruth : Cond.code yX2_givesTruth cX2_givesTruth 1 (some .boolean) ∈ wA := wA_mem (List.mem_of_getElem? (i := 228) (by decide +kernel)) (by decide +kernel)
theorem wm_ml_X3_71 : Cond.methodLink RX3 71 yX3_isTruth ∈ wA := wA_mem (List.mem_of_getElem? (i := 229) (by decide +kernel)) (by decide +kernel)
theorem wm_im_X3_isTruth : Cond.instanceMethod yX3_isTruth ∈ wA := wA_mem (List.mem_of_getElem? (i := 230) (by decide +kernel)) (by decide +kernel)
theorem wm_se_X3_isTruth : Cond.selects RX3 yX3_isTruth yX3_isTruth ∈ wA := wA_mem (List.mem_of_getElem? (i := 231) (by decide +kernel)) (by decide +kernel)
theorem wm_cd_X3_isTruth : Cond.code yX3_isTruth cX3_isTruth 2 (some .boolean) ∈ wA := wA_mem (List.mem_of_getElem? (i := 232) (by decide +kernel)) (by decide +kernel)
theorem wm_ml_X3_57 : Cond.methodLink RX3 57 yX2_ofSecond ∈ wA := wA_mem (List.mem_of_getElem? (i := 233) (by decide +kernel)) (by decide +kernel)
theorem wm_st_X2_ofSecond : Cond.static yX2_ofSecond ∈ wA := wA_mem (List.mem_of_getElem? (i := 234) (by decide +kernel)) (by decide +kernel)
theorem wm_cd_X2_ofSecond : Cond.code yX2_ofSecond cX2_ofSecond 1 (some .int) ∈ wA := wA_mem (List.mem_of_getElem? (i := 235) (by decide +kernel)) (by decide +kernel)
theorem wm_ml_X3_60 : Cond.methodLink RX3 60 yX2_ofThird ∈ wA := wA_mem (List.mem_of_getElem? (i := 236) (by decide +kernel)) (by decide +kernel)
theorem wm_st_X2_ofThird : Cond.static yX2_ofThird ∈ wA := wA_mem (List.mem_of_getElem? (i := 237) (by decide +kernel)) (by decide +kernel)
theorem wm_cd_X2_ofThird : Cond.code yX2_ofThird cX2_ofThird 1 (some .int) ∈ wA := wA_mem (List.mem_of_getElem? (i := 238) (by decide +kernel)) (by decide +kernel)
theorem wm_cl_X4_39 : Cond.classLink RX4 39 "java/lang/IllegalArgumentException" ∈ wA := wA_mem (List.mem_of_getElem? (i := 239) (by decide +kernel)) (by decide +kernel)
theorem wm_it_IllegalArgumentException : Cond.instantiable "java/lang/IllegalArgumentException" 6 ∈ wA := wA_mem (List.mem_of_getElem? (i := 240) (by decide +kernel)) (by decide +kernel)
theorem wm_it_Throwable : Cond.instantiable "java/lang/Throwable" 6 ∈ wA := wA_mem (List.mem_of_getElem? (i := 278) (by decide +kernel)) (by decide +kernel)
theorem wm_ml_X4_43 : Cond.methodLink RX4 43 ⟨"java/lang/IllegalArgumentException", "<init>", "(Ljava/lang/String;)V"⟩ ∈ wA := wA_mem (List.mem_of_getElem? (i := 281) (by decide +kernel)) (by decide +kernel)
theorem wm_ac_byte : Cond.arrayClass .byte ∈ wA := wA_mem (List.mem_of_getElem? (i := 306) (by decide +kernel)) (by decide +kernel)
theorem wm_ml_X4_46 : Cond.methodLink RX4 46 yX2_ofSecond ∈ wA := wA_mem (List.mem_of_getElem? (i := 307) (by decide +kernel)) (by decide +kernel)
theorem wm_ml_X4_52 : Cond.methodLink RX4 52 yX2_ofThird ∈ wA := wA_mem (List.mem_of_getElem? (i := 308) (by decide +kernel)) (by decide +kernel)
theorem wm_ml_X4_55 : Cond.methodLink RX4 55 yX3_find ∈ wA := wA_mem (List.mem_of_getElem? (i := 309) (by decide +kernel)) (by decide +kernel)
theorem wm_im_X3_find : Cond.instanceMethod yX3_find ∈ wA := wA_mem (List.mem_of_getElem? (i := 310) (by decide +kernel)) (by decide +kernel)
theorem wm_se_X3_find : Cond.selects RX3 yX3_find yX3_find ∈ wA := wA_mem (List.mem_of_getElem? (i := 311) (by decide +kernel)) (by decide +kernel)
theorem wm_cd_X3_find : Cond.code yX3_find cX3_find 6 (some .int) ∈ wA := wA_mem (List.mem_of_getElem? (i := 312) (by decide +kernel)) (by decide +kernel)
theorem wm_ml_X4_59 : Cond.methodLink RX4 59 yX3_isFull ∈ wA := wA_mem (List.mem_of_getElem? (i := 313) (by decide +kernel)) (by decide +kernel)
theorem wm_im_X3_isFull : Cond.instanceMethod yX3_isFull ∈ wA := wA_mem (List.mem_of_getElem? (i := 314) (by decide +kernel)) (by decide +kernel)
theorem wm_se_X3_isFull : Cond.selects RX3 yX3_isFull yX3_isFull ∈ wA := wA_mem (List.mem_of_getElem? (i := 315) (by decide +kernel)) (by decide +kernel)
theorem wm_cd_X3_isFull : Cond.code yX3_isFull cX3_isFull 1 (some .boolean) ∈ wA := wA_mem (List.mem_of_getElem? (i := 316) (by decide +kernel)) (by decide +kernel)
theorem wm_cl_X4_63 : Cond.classLink RX4 63 "java/lang/IllegalStateException" ∈ wA := wA_mem (List.mem_of_getElem? (i := 317) (by decide +kernel)) (by decide +kernel)
theorem wm_it_IllegalStateException : Cond.instantiable "java/lang/IllegalStateException" 6 ∈ wA := wA_mem (List.mem_of_getElem? (i := 318) (by decide +kernel)) (by decide +kernel)
theorem wm_ml_X4_67 : Cond.methodLink RX4 67 ⟨"java/lang/IllegalStateException", "<init>", "(Ljava/lang/String;)V"⟩ ∈ wA := wA_mem (List.mem_of_getElem? (i := 327) (by decide +kernel)) (by decide +kernel)
theorem wm_ml_X4_68 : Cond.methodLink RX4 68 yX3_append ∈ wA := wA_mem (List.mem_of_getElem? (i := 333) (by decide +kernel)) (by decide +kernel)
theorem wm_im_X3_append : Cond.instanceMethod yX3_append ∈ wA := wA_mem (List.mem_of_getElem? (i := 334) (by decide +kernel)) (by decide +kernel)
theorem wm_se_X3_append : Cond.selects RX3 yX3_append yX3_append ∈ wA := wA_mem (List.mem_of_getElem? (i := 335) (by decide +kernel)) (by decide +kernel)
theorem wm_cd_X3_append : Cond.code yX3_append cX3_append 6 (some .int) ∈ wA := wA_mem (List.mem_of_getElem? (i := 336) (by decide +kernel)) (by decide +kernel)
theorem wm_ml_X3_74 : Cond.methodLink RX3 74 yX3_partsBelow ∈ wA := wA_mem (List.mem_of_getElem? (i := 337) (by decide +kernel)) (by decide +kernel)
theorem wm_im_X3_partsBelow : Cond.instanceMethod yX3_partsBelow ∈ wA := wA_mem (List.mem_of_getElem? (i := 339) (by decide +kernel)) (by decide +kernel)
theorem wm_cd_X3_partsBelow : Cond.code yX3_partsBelow cX3_partsBelow 3 (some .int) ∈ wA := wA_mem (List.mem_of_getElem? (i := 340) (by decide +kernel)) (by decide +kernel)
theorem wm_ml_X3_82 : Cond.methodLink RX3 82 yX2_isTerm ∈ wA := wA_mem (List.mem_of_getElem? (i := 341) (by decide +kernel)) (by decide +kernel)
theorem wm_st_X2_isTerm : Cond.static yX2_isTerm ∈ wA := wA_mem (List.mem_of_getElem? (i := 342) (by decide +kernel)) (by decide +kernel)
theorem wm_cd_X2_isTerm : Cond.code yX2_isTerm cX2_isTerm 1 (some .boolean) ∈ wA := wA_mem (List.mem_of_getElem? (i := 343) (by decide +kernel)) (by decide +kernel)
theorem wm_ml_X3_78 : Cond.methodLink RX3 78 yX3_noteVariables ∈ wA := wA_mem (List.mem_of_getElem? (i := 344) (by decide +kernel)) (by decide +kernel)
theorem wm_im_X3_noteVariables : Cond.instanceMethod yX3_noteVariables ∈ wA := wA_mem (List.mem_of_getElem? (i := 346) (by decide +kernel)) (by decide +kernel)
theorem wm_cd_X3_noteVariables : Cond.code yX3_noteVariables cX3_noteVariables 4 none ∈ wA := wA_mem (List.mem_of_getElem? (i := 347) (by decide +kernel)) (by decide +kernel)
theorem wm_ml_L_53 : Cond.methodLink RL 53 yL_claim ∈ wA := wA_mem (List.mem_of_getElem? (i := 348) (by decide +kernel)) (by decide +kernel)
theorem wm_st_L_claim : Cond.static yL_claim ∈ wA := wA_mem (List.mem_of_getElem? (i := 349) (by decide +kernel)) (by decide +kernel)
theorem wm_ml_L_17 : Cond.methodLink RL 17 yX4_claim ∈ wA := wA_mem (List.mem_of_getElem? (i := 351) (by decide +kernel)) (by decide +kernel)
theorem wm_im_X4_claim : Cond.instanceMethod yX4_claim ∈ wA := wA_mem (List.mem_of_getElem? (i := 352) (by decide +kernel)) (by decide +kernel)
theorem wm_se_X4_claim : Cond.selects RX4 yX4_claim yX4_claim ∈ wA := wA_mem (List.mem_of_getElem? (i := 353) (by decide +kernel)) (by decide +kernel)
theorem wm_cd_X4_claim : Cond.code yX4_claim cX4_claim 2 (some .int) ∈ wA := wA_mem (List.mem_of_getElem? (i := 354) (by decide +kernel)) (by decide +kernel)
theorem wm_ml_X4_71 : Cond.methodLink RX4 71 yX3_isTruth ∈ wA := wA_mem (List.mem_of_getElem? (i := 355) (by decide +kernel)) (by decide +kernel)
theorem wm_ml_X4_77 : Cond.methodLink RX4 77 yX0_isFull ∈ wA := wA_mem (List.mem_of_getElem? (i := 357) (by decide +kernel)) (by decide +kernel)
theorem wm_im_X0_isFull : Cond.instanceMethod yX0_isFull ∈ wA := wA_mem (List.mem_of_getElem? (i := 358) (by decide +kernel)) (by decide +kernel)
theorem wm_se_X0_isFull : Cond.selects RX0 yX0_isFull yX0_isFull ∈ wA := wA_mem (List.mem_of_getElem? (i := 359) (by decide +kernel)) (by decide +kernel)
theorem wm_cd_X0_isFull : Cond.code yX0_isFull cX0_isFull 1 (some .boolean) ∈ wA := wA_mem (List.mem_of_getElem? (i := 360) (by decide +kernel)) (by decide +kernel)
theorem wm_ml_X4_80 : Cond.methodLink RX4 80 yX0_push ∈ wA := wA_mem (List.mem_of_getElem? (i := 362) (by decide +kernel)) (by decide +kernel)
theorem wm_im_X0_push : Cond.instanceMethod yX0_push ∈ wA := wA_mem (List.mem_of_getElem? (i := 363) (by decide +kernel)) (by decide +kernel)
theorem wm_se_X0_push : Cond.selects RX0 yX0_push yX0_push ∈ wA := wA_mem (List.mem_of_getElem? (i := 364) (by decide +kernel)) (by decide +kernel)
theorem wm_cd_X0_push : Cond.code yX0_push cX0_push 2 (some .int) ∈ wA := wA_mem (List.mem_of_getElem? (i := 365) (by decide +kernel)) (by decide +kernel)
theorem wm_ml_L_57 : Cond.methodLink RL 57 yL_open ∈ wA := wA_mem (List.mem_of_getElem? (i := 366) (by decide +kernel)) (by decide +kernel)
theorem wm_st_L_open : Cond.static yL_open ∈ wA := wA_mem (List.mem_of_getElem? (i := 367) (by decide +kernel)) (by decide +kernel)
theorem wm_ml_L_21 : Cond.methodLink RL 21 yX4_open ∈ wA := wA_mem (List.mem_of_getElem? (i := 369) (by decide +kernel)) (by decide +kernel)
theorem wm_im_X4_open : Cond.instanceMethod yX4_open ∈ wA := wA_mem (List.mem_of_getElem? (i := 370) (by decide +kernel)) (by decide +kernel)
theorem wm_se_X4_open : Cond.selects RX4 yX4_open yX4_open ∈ wA := wA_mem (List.mem_of_getElem? (i := 371) (by decide +kernel)) (by decide +kernel)
theorem wm_cd_X4_open : Cond.code yX4_open cX4_open 1 (some .int) ∈ wA := wA_mem (List.mem_of_getElem? (i := 372) (by decide +kernel)) (by decide +kernel)
theorem wm_ml_X4_89 : Cond.methodLink RX4 89 yX0_raise ∈ wA := wA_mem (List.mem_of_getElem? (i := 374) (by decide +kernel)) (by decide +kernel)
theorem wm_im_X0_raise : Cond.instanceMethod yX0_raise ∈ wA := wA_mem (List.mem_of_getElem? (i := 375) (by decide +kernel)) (by decide +kernel)
theorem wm_se_X0_raise : Cond.selects RX0 yX0_raise yX0_raise ∈ wA := wA_mem (List.mem_of_getElem? (i := 376) (by decide +kernel)) (by decide +kernel)
theorem wm_cd_X0_raise : Cond.code yX0_raise cX0_raise 1 (some .int) ∈ wA := wA_mem (List.mem_of_getElem? (i := 377) (by decide +kernel)) (by decide +kernel)
theorem wm_ml_L_61 : Cond.methodLink RL 61 yL_close ∈ wA := wA_mem (List.mem_of_getElem? (i := 378) (by decide +kernel)) (by decide +kernel)
theorem wm_st_L_close : Cond.static yL_close ∈ wA := wA_mem (List.mem_of_getElem? (i := 379) (by decide +kernel)) (by decide +kernel)
theorem wm_ml_L_25 : Cond.methodLink RL 25 yX4_close ∈ wA := wA_mem (List.mem_of_getElem? (i := 381) (by decide +kernel)) (by decide +kernel)
theorem wm_im_X4_close : Cond.instanceMethod yX4_close ∈ wA := wA_mem (List.mem_of_getElem? (i := 382) (by decide +kernel)) (by decide +kernel)
theorem wm_se_X4_close : Cond.selects RX4 yX4_close yX4_close ∈ wA := wA_mem (List.mem_of_getElem? (i := 383) (by decide +kernel)) (by decide +kernel)
theorem wm_cd_X4_close : Cond.code yX4_close cX4_close 1 (some .int) ∈ wA := wA_mem (List.mem_of_getElem? (i := 384) (by decide +kernel)) (by decide +kernel)
theorem wm_ml_X4_94 : Cond.methodLink RX4 94 yX0_drop ∈ wA := wA_mem (List.mem_of_getElem? (i := 386) (by decide +kernel)) (by decide +kernel)
theorem wm_im_X0_drop : Cond.instanceMethod yX0_drop ∈ wA := wA_mem (List.mem_of_getElem? (i := 387) (by decide +kernel)) (by decide +kernel)
theorem wm_se_X0_drop : Cond.selects RX0 yX0_drop yX0_drop ∈ wA := wA_mem (List.mem_of_getElem? (i := 388) (by decide +kernel)) (by decide +kernel)
theorem wm_cd_X0_drop : Cond.code yX0_drop cX0_drop 2 (some .int) ∈ wA := wA_mem (List.mem_of_getElem? (i := 389) (by decide +kernel)) (by decide +kernel)
theorem wm_ml_L_69 : Cond.methodLink RL 69 yL_model ∈ wA := wA_mem (List.mem_of_getElem? (i := 390) (by decide +kernel)) (by decide +kernel)
theorem wm_st_L_model : Cond.static yL_model ∈ wA := wA_mem (List.mem_of_getElem? (i := 391) (by decide +kernel)) (by decide +kernel)
theorem wm_cl_L_31 : Cond.classLink RL 31 "java/util/NoSuchElementException" ∈ wA := wA_mem (List.mem_of_getElem? (i := 393) (by decide +kernel)) (by decide +kernel)
theorem wm_ml_L_28 : Cond.methodLink RL 28 yX4_model ∈ wA := wA_mem (List.mem_of_getElem? (i := 394) (by decide +kernel)) (by decide +kernel)
theorem wm_im_X4_model : Cond.instanceMethod yX4_model ∈ wA := wA_mem (List.mem_of_getElem? (i := 395) (by decide +kernel)) (by decide +kernel)
theorem wm_se_X4_model : Cond.selects RX4 yX4_model yX4_model ∈ wA := wA_mem (List.mem_of_getElem? (i := 396) (by decide +kernel)) (by decide +kernel)
theorem wm_cd_X4_model : Cond.code yX4_model cX4_model 2 (some .int) ∈ wA := wA_mem (List.mem_of_getElem? (i := 397) (by decide +kernel)) (by decide +kernel)
theorem wm_cl_X4_102 : Cond.classLink RX4 102 "java/util/NoSuchElementException" ∈ wA := wA_mem (List.mem_of_getElem? (i := 399) (by decide +kernel)) (by decide +kernel)
theorem wm_it_NoSuchElementException : Cond.instantiable "java/util/NoSuchElementException" 6 ∈ wA := wA_mem (List.mem_of_getElem? (i := 400) (by decide +kernel)) (by decide +kernel)
theorem wm_ml_X4_106 : Cond.methodLink RX4 106 ⟨"java/util/NoSuchElementException", "<init>", "(Ljava/lang/String;)V"⟩ ∈ wA := wA_mem (List.mem_of_getElem? (i := 409) (by decide +kernel)) (by decide +kernel)
theorem wm_ml_L_72 : Cond.methodLink RL 72 yL_value ∈ wA := wA_mem (List.mem_of_getElem? (i := 415) (by decide +kernel)) (by decide +kernel)
theorem wm_st_L_value : Cond.static yL_value ∈ wA := wA_mem (List.mem_of_getElem? (i := 416) (by decide +kernel)) (by decide +kernel)
theorem wm_ml_L_33 : Cond.methodLink RL 33 yX4_value ∈ wA := wA_mem (List.mem_of_getElem? (i := 418) (by decide +kernel)) (by decide +kernel)
theorem wm_im_X4_value : Cond.instanceMethod yX4_value ∈ wA := wA_mem (List.mem_of_getElem? (i := 419) (by decide +kernel)) (by decide +kernel)
theorem wm_se_X4_value : Cond.selects RX4 yX4_value yX4_value ∈ wA := wA_mem (List.mem_of_getElem? (i := 420) (by decide +kernel)) (by decide +kernel)
theorem wm_cd_X4_value : Cond.code yX4_value cX4_value 2 (some .int) ∈ wA := wA_mem (List.mem_of_getElem? (i := 421) (by decide +kernel)) (by decide +kernel)
theorem wm_ml_X4_107 : Cond.methodLink RX4 107 yX3_has ∈ wA := wA_mem (List.mem_of_getElem? (i := 422) (by decide +kernel)) (by decide +kernel)
theorem wm_ml_X4_112 : Cond.methodLink RX4 112 yX3_answer ∈ wA := wA_mem (List.mem_of_getElem? (i := 424) (by decide +kernel)) (by decide +kernel)
theorem wm_im_X3_answer : Cond.instanceMethod yX3_answer ∈ wA := wA_mem (List.mem_of_getElem? (i := 425) (by decide +kernel)) (by decide +kernel)
theorem wm_se_X3_answer : Cond.selects RX3 yX3_answer yX3_answer ∈ wA := wA_mem (List.mem_of_getElem? (i := 426) (by decide +kernel)) (by decide +kernel)
theorem wm_cd_X3_answer : Cond.code yX3_answer cX3_answer 4 (some .int) ∈ wA := wA_mem (List.mem_of_getElem? (i := 427) (by decide +kernel)) (by decide +kernel)
theorem wm_ml_X3_89 : Cond.methodLink RX3 89 yX3_allHold ∈ wA := wA_mem (List.mem_of_getElem? (i := 428) (by decide +kernel)) (by decide +kernel)
theorem wm_ml_L_75 : Cond.methodLink RL 75 yL_reckon ∈ wA := wA_mem (List.mem_of_getElem? (i := 429) (by decide +kernel)) (by decide +kernel)
theorem wm_st_L_reckon : Cond.static yL_reckon ∈ wA := wA_mem (List.mem_of_getElem? (i := 430) (by decide +kernel)) (by decide +kernel)
theorem wm_ml_L_36 : Cond.methodLink RL 36 yX4_reckon ∈ wA := wA_mem (List.mem_of_getElem? (i := 432) (by decide +kernel)) (by decide +kernel)
theorem wm_im_X4_reckon : Cond.instanceMethod yX4_reckon ∈ wA := wA_mem (List.mem_of_getElem? (i := 433) (by decide +kernel)) (by decide +kernel)
theorem wm_se_X4_reckon : Cond.selects RX4 yX4_reckon yX4_reckon ∈ wA := wA_mem (List.mem_of_getElem? (i := 434) (by decide +kernel)) (by decide +kernel)
theorem wm_cd_X4_reckon : Cond.code yX4_reckon cX4_reckon 4 (some .int) ∈ wA := wA_mem (List.mem_of_getElem? (i := 435) (by decide +kernel)) (by decide +kernel)
theorem wm_ml_X4_116 : Cond.methodLink RX4 116 yX1_isOperation ∈ wA := wA_mem (List.mem_of_getElem? (i := 436) (by decide +kernel)) (by decide +kernel)
theorem wm_st_X1_isOperation : Cond.static yX1_isOperation ∈ wA := wA_mem (List.mem_of_getElem? (i := 437) (by decide +kernel)) (by decide +kernel)
theorem wm_cd_X1_isOperation : Cond.code yX1_isOperation cX1_isOperation 1 (some .boolean) ∈ wA := wA_mem (List.mem_of_getElem? (i := 438) (by decide +kernel)) (by decide +kernel)
theorem wm_ml_X4_121 : Cond.methodLink RX4 121 yX1_isNumber ∈ wA := wA_mem (List.mem_of_getElem? (i := 439) (by decide +kernel)) (by decide +kernel)
theorem wm_ml_X4_126 : Cond.methodLink RX4 126 yX1_operate ∈ wA := wA_mem (List.mem_of_getElem? (i := 441) (by decide +kernel)) (by decide +kernel)
theorem wm_cl_L_41 : Cond.classLink RL 41 RX5 ∈ wA := wA_mem (List.mem_of_getElem? (i := 442) (by decide +kernel)) (by decide +kernel)
theorem wm_it_X5 : Cond.instantiable RX5 14 ∈ wA := wA_mem (List.mem_of_getElem? (i := 443) (by decide +kernel)) (by decide +kernel)
theorem wm_ml_L_43 : Cond.methodLink RL 43 yX5_init ∈ wA := wA_mem (List.mem_of_getElem? (i := 444) (by decide +kernel)) (by decide +kernel)
theorem wm_im_X5_init : Cond.instanceMethod yX5_init ∈ wA := wA_mem (List.mem_of_getElem? (i := 445) (by decide +kernel)) (by decide +kernel)
theorem wm_cd_X5_init : Cond.code yX5_init cX5_init 1 none ∈ wA := wA_mem (List.mem_of_getElem? (i := 446) (by decide +kernel)) (by decide +kernel)
theorem wm_ml_X5_1 : Cond.methodLink RX5 1 objectInit ∈ wA := wA_mem (List.mem_of_getElem? (i := 447) (by decide +kernel)) (by decide +kernel)
theorem wm_fl_X5_34 : Cond.fieldLink RX5 34 "FloatSolverModel" "thrown" "I" ∈ wA := wA_mem (List.mem_of_getElem? (i := 448) (by decide +kernel)) (by decide +kernel)
theorem wm_fl_X5_76 : Cond.fieldLink RX5 76 "FloatSolverModel" "terms" "I" ∈ wA := wA_mem (List.mem_of_getElem? (i := 449) (by decide +kernel)) (by decide +kernel)
theorem wm_fl_X5_7 : Cond.fieldLink RX5 7 "FloatSolverModel" "kindOf" "[I" ∈ wA := wA_mem (List.mem_of_getElem? (i := 450) (by decide +kernel)) (by decide +kernel)
theorem wm_fl_X5_13 : Cond.fieldLink RX5 13 "FloatSolverModel" "first" "[I" ∈ wA := wA_mem (List.mem_of_getElem? (i := 451) (by decide +kernel)) (by decide +kernel)
theorem wm_fl_X5_16 : Cond.fieldLink RX5 16 "FloatSolverModel" "second" "[I" ∈ wA := wA_mem (List.mem_of_getElem? (i := 452) (by decide +kernel)) (by decide +kernel)
theorem wm_fl_X5_19 : Cond.fieldLink RX5 19 "FloatSolverModel" "third" "[I" ∈ wA := wA_mem (List.mem_of_getElem? (i := 453) (by decide +kernel)) (by decide +kernel)
theorem wm_fl_X5_99 : Cond.fieldLink RX5 99 "FloatSolverModel" "claims" "I" ∈ wA := wA_mem (List.mem_of_getElem? (i := 454) (by decide +kernel)) (by decide +kernel)
theorem wm_fl_X5_22 : Cond.fieldLink RX5 22 "FloatSolverModel" "claimed" "[I" ∈ wA := wA_mem (List.mem_of_getElem? (i := 455) (by decide +kernel)) (by decide +kernel)
theorem wm_fl_X5_102 : Cond.fieldLink RX5 102 "FloatSolverModel" "level" "I" ∈ wA := wA_mem (List.mem_of_getElem? (i := 456) (by decide +kernel)) (by decide +kernel)
theorem wm_fl_X5_25 : Cond.fieldLink RX5 25 "FloatSolverModel" "under" "[I" ∈ wA := wA_mem (List.mem_of_getElem? (i := 457) (by decide +kernel)) (by decide +kernel)
theorem wm_fl_X5_105 : Cond.fieldLink RX5 105 "FloatSolverModel" "checks" "I" ∈ wA := wA_mem (List.mem_of_getElem? (i := 458) (by decide +kernel)) (by decide +kernel)
theorem wm_fl_X5_108 : Cond.fieldLink RX5 108 "FloatSolverModel" "found" "Z" ∈ wA := wA_mem (List.mem_of_getElem? (i := 459) (by decide +kernel)) (by decide +kernel)
theorem wm_fl_X5_28 : Cond.fieldLink RX5 28 "FloatSolverModel" "numbers" "[I" ∈ wA := wA_mem (List.mem_of_getElem? (i := 460) (by decide +kernel)) (by decide +kernel)
theorem wm_fl_X5_31 : Cond.fieldLink RX5 31 "FloatSolverModel" "worth" "[I" ∈ wA := wA_mem (List.mem_of_getElem? (i := 461) (by decide +kernel)) (by decide +kernel)
theorem wm_ml_L_50 : Cond.methodLink RL 50 yX5_thrown ∈ wA := wA_mem (List.mem_of_getElem? (i := 491) (by decide +kernel)) (by decide +kernel)
theorem wm_im_X5_thrown : Cond.instanceMethod yX5_thrown ∈ wA := wA_mem (List.mem_of_getElem? (i := 492) (by decide +kernel)) (by decide +kernel)
theorem wm_se_X5_thrown : Cond.selects RX5 yX5_thrown yX5_thrown ∈ wA := wA_mem (List.mem_of_getElem? (i := 493) (by decide +kernel)) (by decide +kernel)
theorem wm_cd_X5_thrown : Cond.code yX5_thrown cX5_thrown 1 (some .int) ∈ wA := wA_mem (List.mem_of_getElem? (i := 494) (by decide +kernel)) (by decide +kernel)
theorem wm_ml_L_49 : Cond.methodLink RL 49 yX5_term ∈ wA := wA_mem (List.mem_of_getElem? (i := 495) (by decide +kernel)) (by decide +kernel)
theorem wm_im_X5_term : Cond.instanceMethod yX5_term ∈ wA := wA_mem (List.mem_of_getElem? (i := 496) (by decide +kernel)) (by decide +kernel)
theorem wm_se_X5_term : Cond.selects RX5 yX5_term yX5_term ∈ wA := wA_mem (List.mem_of_getElem? (i := 497) (by decide +kernel)) (by decide +kernel)
theorem wm_cd_X5_term : Cond.code yX5_term cX5_term 7 (some .int) ∈ wA := wA_mem (List.mem_of_getElem? (i := 498) (by decide +kernel)) (by decide +kernel)
theorem wm_ml_X5_91 : Cond.methodLink RX5 91 yX5_fits ∈ wA := wA_mem (List.mem_of_getElem? (i := 499) (by decide +kernel)) (by decide +kernel)
theorem wm_im_X5_fits : Cond.instanceMethod yX5_fits ∈ wA := wA_mem (List.mem_of_getElem? (i := 501) (by decide +kernel)) (by decide +kernel)
theorem wm_cd_X5_fits : Cond.code yX5_fits cX5_fits 5 (some .boolean) ∈ wA := wA_mem (List.mem_of_getElem? (i := 502) (by decide +kernel)) (by decide +kernel)
theorem wm_ml_X5_79 : Cond.methodLink RX5 79 yX5_out ∈ wA := wA_mem (List.mem_of_getElem? (i := 503) (by decide +kernel)) (by decide +kernel)
theorem wm_st_X5_out : Cond.static yX5_out ∈ wA := wA_mem (List.mem_of_getElem? (i := 504) (by decide +kernel)) (by decide +kernel)
theorem wm_cd_X5_out : Cond.code yX5_out cX5_out 2 (some .boolean) ∈ wA := wA_mem (List.mem_of_getElem? (i := 505) (by decide +kernel)) (by decide +kernel)
theorem wm_ml_X5_82 : Cond.methodLink RX5 82 yX5_isTruth ∈ wA := wA_mem (List.mem_of_getElem? (i := 506) (by decide +kernel)) (by decide +kernel)
theorem wm_im_X5_isTruth : Cond.instanceMethod yX5_isTruth ∈ wA := wA_mem (List.mem_of_getElem? (i := 508) (by decide +kernel)) (by decide +kernel)
theorem wm_cd_X5_isTruth : Cond.code yX5_isTruth cX5_isTruth 2 (some .boolean) ∈ wA := wA_mem (List.mem_of_getElem? (i := 509) (by decide +kernel)) (by decide +kernel)
theorem wm_ml_X5_85 : Cond.methodLink RX5 85 yX5_isNumber ∈ wA := wA_mem (List.mem_of_getElem? (i := 510) (by decide +kernel)) (by decide +kernel)
theorem wm_im_X5_isNumber : Cond.instanceMethod yX5_isNumber ∈ wA := wA_mem (List.mem_of_getElem? (i := 512) (by decide +kernel)) (by decide +kernel)
theorem wm_cd_X5_isNumber : Cond.code yX5_isNumber cX5_isNumber 2 (some .boolean) ∈ wA := wA_mem (List.mem_of_getElem? (i := 513) (by decide +kernel)) (by decide +kernel)
theorem wm_ml_X5_88 : Cond.methodLink RX5 88 yX5_names ∈ wA := wA_mem (List.mem_of_getElem? (i := 514) (by decide +kernel)) (by decide +kernel)
theorem wm_st_X5_names : Cond.static yX5_names ∈ wA := wA_mem (List.mem_of_getElem? (i := 515) (by decide +kernel)) (by decide +kernel)
theorem wm_cd_X5_names : Cond.code yX5_names cX5_names 1 (some .int) ∈ wA := wA_mem (List.mem_of_getElem? (i := 516) (by decide +kernel)) (by decide +kernel)
theorem wm_ml_L_56 : Cond.methodLink RL 56 yX5_claim ∈ wA := wA_mem (List.mem_of_getElem? (i := 517) (by decide +kernel)) (by decide +kernel)
theorem wm_im_X5_claim : Cond.instanceMethod yX5_claim ∈ wA := wA_mem (List.mem_of_getElem? (i := 518) (by decide +kernel)) (by decide +kernel)
theorem wm_se_X5_claim : Cond.selects RX5 yX5_claim yX5_claim ∈ wA := wA_mem (List.mem_of_getElem? (i := 519) (by decide +kernel)) (by decide +kernel)
theorem wm_cd_X5_claim : Cond.code yX5_claim cX5_claim 2 (some .int) ∈ wA := wA_mem (List.mem_of_getElem? (i := 520) (by decide +kernel)) (by decide +kernel)
theorem wm_ml_L_60 : Cond.methodLink RL 60 yX5_open ∈ wA := wA_mem (List.mem_of_getElem? (i := 521) (by decide +kernel)) (by decide +kernel)
theorem wm_im_X5_open : Cond.instanceMethod yX5_open ∈ wA := wA_mem (List.mem_of_getElem? (i := 522) (by decide +kernel)) (by decide +kernel)
theorem wm_se_X5_open : Cond.selects RX5 yX5_open yX5_open ∈ wA := wA_mem (List.mem_of_getElem? (i := 523) (by decide +kernel)) (by decide +kernel)
theorem wm_cd_X5_open : Cond.code yX5_open cX5_open 1 (some .int) ∈ wA := wA_mem (List.mem_of_getElem? (i := 524) (by decide +kernel)) (by decide +kernel)
theorem wm_ml_L_63 : Cond.methodLink RL 63 yX5_close ∈ wA := wA_mem (List.mem_of_getElem? (i := 525) (by decide +kernel)) (by decide +kernel)
theorem wm_im_X5_close : Cond.instanceMethod yX5_close ∈ wA := wA_mem (List.mem_of_getElem? (i := 526) (by decide +kernel)) (by decide +kernel)
theorem wm_se_X5_close : Cond.selects RX5 yX5_close yX5_close ∈ wA := wA_mem (List.mem_of_getElem? (i := 527) (by decide +kernel)) (by decide +kernel)
theorem wm_cd_X5_close : Cond.code yX5_close cX5_close 2 (some .int) ∈ wA := wA_mem (List.mem_of_getElem? (i := 528) (by decide +kernel)) (by decide +kernel)
theorem wm_ml_L_68 : Cond.methodLink RL 68 yX5_check ∈ wA := wA_mem (List.mem_of_getElem? (i := 529) (by decide +kernel)) (by decide +kernel)
theorem wm_im_X5_check : Cond.instanceMethod yX5_check ∈ wA := wA_mem (List.mem_of_getElem? (i := 530) (by decide +kernel)) (by decide +kernel)
theorem wm_se_X5_check : Cond.selects RX5 yX5_check yX5_check ∈ wA := wA_mem (List.mem_of_getElem? (i := 531) (by decide +kernel)) (by decide +kernel)
theorem wm_cd_X5_check : Cond.code yX5_check cX5_check 2 (some .boolean) ∈ wA := wA_mem (List.mem_of_getElem? (i := 532) (by decide +kernel)) (by decide +kernel)
theorem wm_ml_X5_112 : Cond.methodLink RX5 112 yX5_reckonAll ∈ wA := wA_mem (List.mem_of_getElem? (i := 533) (by decide +kernel)) (by decide +kernel)
theorem wm_im_X5_reckonAll : Cond.instanceMethod yX5_reckonAll ∈ wA := wA_mem (List.mem_of_getElem? (i := 535) (by decide +kernel)) (by decide +kernel)
theorem wm_cd_X5_reckonAll : Cond.code yX5_reckonAll cX5_reckonAll 6 none ∈ wA := wA_mem (List.mem_of_getElem? (i := 536) (by decide +kernel)) (by decide +kernel)
theorem wm_ml_X5_95 : Cond.methodLink RX5 95 yX5_operate ∈ wA := wA_mem (List.mem_of_getElem? (i := 537) (by decide +kernel)) (by decide +kernel)
theorem wm_st_X5_operate : Cond.static yX5_operate ∈ wA := wA_mem (List.mem_of_getElem? (i := 538) (by decide +kernel)) (by decide +kernel)
theorem wm_cd_X5_operate : Cond.code yX5_operate cX5_operate 3 (some .int) ∈ wA := wA_mem (List.mem_of_getElem? (i := 539) (by decide +kernel)) (by decide +kernel)
theorem wm_ml_X5_58 : Cond.methodLink RX5 58 yX5_add ∈ wA := wA_mem (List.mem_of_getElem? (i := 540) (by decide +kernel)) (by decide +kernel)
theorem wm_st_X5_add : Cond.static yX5_add ∈ wA := wA_mem (List.mem_of_getElem? (i := 541) (by decide +kernel)) (by decide +kernel)
theorem wm_cd_X5_add : Cond.code yX5_add cX5_add 3 (some .int) ∈ wA := wA_mem (List.mem_of_getElem? (i := 542) (by decide +kernel)) (by decide +kernel)
theorem wm_ml_X5_46 : Cond.methodLink RX5 46 yX5_nan ∈ wA := wA_mem (List.mem_of_getElem? (i := 543) (by decide +kernel)) (by decide +kernel)
theorem wm_st_X5_nan : Cond.static yX5_nan ∈ wA := wA_mem (List.mem_of_getElem? (i := 544) (by decide +kernel)) (by decide +kernel)
theorem wm_cd_X5_nan : Cond.code yX5_nan cX5_nan 1 (some .boolean) ∈ wA := wA_mem (List.mem_of_getElem? (i := 545) (by decide +kernel)) (by decide +kernel)
theorem wm_ml_X5_38 : Cond.methodLink RX5 38 yX5_infinite ∈ wA := wA_mem (List.mem_of_getElem? (i := 546) (by decide +kernel)) (by decide +kernel)
theorem wm_st_X5_infinite : Cond.static yX5_infinite ∈ wA := wA_mem (List.mem_of_getElem? (i := 547) (by decide +kernel)) (by decide +kernel)
theorem wm_cd_X5_infinite : Cond.code yX5_infinite cX5_infinite 1 (some .boolean) ∈ wA := wA_mem (List.mem_of_getElem? (i := 548) (by decide +kernel)) (by decide +kernel)
theorem wm_ml_X5_49 : Cond.methodLink RX5 49 yX5_worthOf ∈ wA := wA_mem (List.mem_of_getElem? (i := 549) (by decide +kernel)) (by decide +kernel)
theorem wm_st_X5_worthOf : Cond.static yX5_worthOf ∈ wA := wA_mem (List.mem_of_getElem? (i := 550) (by decide +kernel)) (by decide +kernel)
theorem wm_cd_X5_worthOf : Cond.code yX5_worthOf cX5_worthOf 2 (some .int) ∈ wA := wA_mem (List.mem_of_getElem? (i := 551) (by decide +kernel)) (by decide +kernel)
theorem wm_ml_X5_42 : Cond.methodLink RX5 42 yX5_quarters ∈ wA := wA_mem (List.mem_of_getElem? (i := 552) (by decide +kernel)) (by decide +kernel)
theorem wm_st_X5_quarters : Cond.static yX5_quarters ∈ wA := wA_mem (List.mem_of_getElem? (i := 553) (by decide +kernel)) (by decide +kernel)
theorem wm_cd_X5_quarters : Cond.code yX5_quarters cX5_quarters 1 (some .int) ∈ wA := wA_mem (List.mem_of_getElem? (i := 554) (by decide +kernel)) (by decide +kernel)
theorem wm_ml_X5_52 : Cond.methodLink RX5 52 yX5_round ∈ wA := wA_mem (List.mem_of_getElem? (i := 555) (by decide +kernel)) (by decide +kernel)
theorem wm_st_X5_round : Cond.static yX5_round ∈ wA := wA_mem (List.mem_of_getElem? (i := 556) (by decide +kernel)) (by decide +kernel)
theorem wm_cd_X5_round : Cond.code yX5_round cX5_round 7 (some .int) ∈ wA := wA_mem (List.mem_of_getElem? (i := 557) (by decide +kernel)) (by decide +kernel)
theorem wm_ml_X5_62 : Cond.methodLink RX5 62 yX5_multiply ∈ wA := wA_mem (List.mem_of_getElem? (i := 558) (by decide +kernel)) (by decide +kernel)
theorem wm_st_X5_multiply : Cond.static yX5_multiply ∈ wA := wA_mem (List.mem_of_getElem? (i := 559) (by decide +kernel)) (by decide +kernel)
theorem wm_cd_X5_multiply : Cond.code yX5_multiply cX5_multiply 3 (some .int) ∈ wA := wA_mem (List.mem_of_getElem? (i := 560) (by decide +kernel)) (by decide +kernel)
theorem wm_ml_X5_55 : Cond.methodLink RX5 55 yX5_zero ∈ wA := wA_mem (List.mem_of_getElem? (i := 561) (by decide +kernel)) (by decide +kernel)
theorem wm_st_X5_zero : Cond.static yX5_zero ∈ wA := wA_mem (List.mem_of_getElem? (i := 562) (by decide +kernel)) (by decide +kernel)
theorem wm_cd_X5_zero : Cond.code yX5_zero cX5_zero 1 (some .boolean) ∈ wA := wA_mem (List.mem_of_getElem? (i := 563) (by decide +kernel)) (by decide +kernel)
theorem wm_ml_X5_65 : Cond.methodLink RX5 65 yX5_less ∈ wA := wA_mem (List.mem_of_getElem? (i := 564) (by decide +kernel)) (by decide +kernel)
theorem wm_st_X5_less : Cond.static yX5_less ∈ wA := wA_mem (List.mem_of_getElem? (i := 565) (by decide +kernel)) (by decide +kernel)
theorem wm_cd_X5_less : Cond.code yX5_less cX5_less 2 (some .boolean) ∈ wA := wA_mem (List.mem_of_getElem? (i := 566) (by decide +kernel)) (by decide +kernel)
theorem wm_ml_X5_69 : Cond.methodLink RX5 69 yX5_truth ∈ wA := wA_mem (List.mem_of_getElem? (i := 567) (by decide +kernel)) (by decide +kernel)
theorem wm_st_X5_truth : Cond.static yX5_truth ∈ wA := wA_mem (List.mem_of_getElem? (i := 568) (by decide +kernel)) (by decide +kernel)
theorem wm_cd_X5_truth : Cond.code yX5_truth cX5_truth 1 (some .int) ∈ wA := wA_mem (List.mem_of_getElem? (i := 569) (by decide +kernel)) (by decide +kernel)
theorem wm_ml_X5_73 : Cond.methodLink RX5 73 yX5_equal ∈ wA := wA_mem (List.mem_of_getElem? (i := 570) (by decide +kernel)) (by decide +kernel)
theorem wm_st_X5_equal : Cond.static yX5_equal ∈ wA := wA_mem (List.mem_of_getElem? (i := 571) (by decide +kernel)) (by decide +kernel)
theorem wm_cd_X5_equal : Cond.code yX5_equal cX5_equal 2 (some .boolean) ∈ wA := wA_mem (List.mem_of_getElem? (i := 572) (by decide +kernel)) (by decide +kernel)
theorem wm_ml_X5_116 : Cond.methodLink RX5 116 yX5_allHold ∈ wA := wA_mem (List.mem_of_getElem? (i := 573) (by decide +kernel)) (by decide +kernel)
theorem wm_im_X5_allHold : Cond.instanceMethod yX5_allHold ∈ wA := wA_mem (List.mem_of_getElem? (i := 575) (by decide +kernel)) (by decide +kernel)
theorem wm_cd_X5_allHold : Cond.code yX5_allHold cX5_allHold 3 (some .boolean) ∈ wA := wA_mem (List.mem_of_getElem? (i := 576) (by decide +kernel)) (by decide +kernel)
theorem wm_ml_L_71 : Cond.methodLink RL 71 yX5_model ∈ wA := wA_mem (List.mem_of_getElem? (i := 577) (by decide +kernel)) (by decide +kernel)
theorem wm_im_X5_model : Cond.instanceMethod yX5_model ∈ wA := wA_mem (List.mem_of_getElem? (i := 578) (by decide +kernel)) (by decide +kernel)
theorem wm_se_X5_model : Cond.selects RX5 yX5_model yX5_model ∈ wA := wA_mem (List.mem_of_getElem? (i := 579) (by decide +kernel)) (by decide +kernel)
theorem wm_cd_X5_model : Cond.code yX5_model cX5_model 2 (some .int) ∈ wA := wA_mem (List.mem_of_getElem? (i := 580) (by decide +kernel)) (by decide +kernel)
theorem wm_ml_L_74 : Cond.methodLink RL 74 yX5_value ∈ wA := wA_mem (List.mem_of_getElem? (i := 581) (by decide +kernel)) (by decide +kernel)
theorem wm_im_X5_value : Cond.instanceMethod yX5_value ∈ wA := wA_mem (List.mem_of_getElem? (i := 582) (by decide +kernel)) (by decide +kernel)
theorem wm_se_X5_value : Cond.selects RX5 yX5_value yX5_value ∈ wA := wA_mem (List.mem_of_getElem? (i := 583) (by decide +kernel)) (by decide +kernel)
theorem wm_cd_X5_value : Cond.code yX5_value cX5_value 2 (some .int) ∈ wA := wA_mem (List.mem_of_getElem? (i := 584) (by decide +kernel)) (by decide +kernel)
theorem wm_ml_L_78 : Cond.methodLink RL 78 yX5_reckon ∈ wA := wA_mem (List.mem_of_getElem? (i := 585) (by decide +kernel)) (by decide +kernel)
theorem wm_im_X5_reckon : Cond.instanceMethod yX5_reckon ∈ wA := wA_mem (List.mem_of_getElem? (i := 586) (by decide +kernel)) (by decide +kernel)
theorem wm_se_X5_reckon : Cond.selects RX5 yX5_reckon yX5_reckon ∈ wA := wA_mem (List.mem_of_getElem? (i := 587) (by decide +kernel)) (by decide +kernel)
theorem wm_cd_X5_reckon : Cond.code yX5_reckon cX5_reckon 4 (some .int) ∈ wA := wA_mem (List.mem_of_getElem? (i := 588) (by decide +kernel)) (by decide +kernel)
theorem wm_ml_L_82 : Cond.methodLink RL 82 yX5_terms ∈ wA := wA_mem (List.mem_of_getElem? (i := 589) (by decide +kernel)) (by decide +kernel)
theorem wm_im_X5_terms : Cond.instanceMethod yX5_terms ∈ wA := wA_mem (List.mem_of_getElem? (i := 590) (by decide +kernel)) (by decide +kernel)
theorem wm_se_X5_terms : Cond.selects RX5 yX5_terms yX5_terms ∈ wA := wA_mem (List.mem_of_getElem? (i := 591) (by decide +kernel)) (by decide +kernel)
theorem wm_cd_X5_terms : Cond.code yX5_terms cX5_terms 1 (some .int) ∈ wA := wA_mem (List.mem_of_getElem? (i := 592) (by decide +kernel)) (by decide +kernel)
theorem wm_ml_L_86 : Cond.methodLink RL 86 yX5_claims ∈ wA := wA_mem (List.mem_of_getElem? (i := 593) (by decide +kernel)) (by decide +kernel)
theorem wm_im_X5_claims : Cond.instanceMethod yX5_claims ∈ wA := wA_mem (List.mem_of_getElem? (i := 594) (by decide +kernel)) (by decide +kernel)
theorem wm_se_X5_claims : Cond.selects RX5 yX5_claims yX5_claims ∈ wA := wA_mem (List.mem_of_getElem? (i := 595) (by decide +kernel)) (by decide +kernel)
theorem wm_cd_X5_claims : Cond.code yX5_claims cX5_claims 1 (some .int) ∈ wA := wA_mem (List.mem_of_getElem? (i := 596) (by decide +kernel)) (by decide +kernel)
theorem wm_ml_L_90 : Cond.methodLink RL 90 yX5_level ∈ wA := wA_mem (List.mem_of_getElem? (i := 597) (by decide +kernel)) (by decide +kernel)
theorem wm_im_X5_level : Cond.instanceMethod yX5_level ∈ wA := wA_mem (List.mem_of_getElem? (i := 598) (by decide +kernel)) (by decide +kernel)
theorem wm_se_X5_level : Cond.selects RX5 yX5_level yX5_level ∈ wA := wA_mem (List.mem_of_getElem? (i := 599) (by decide +kernel)) (by decide +kernel)
theorem wm_cd_X5_level : Cond.code yX5_level cX5_level 1 (some .int) ∈ wA := wA_mem (List.mem_of_getElem? (i := 600) (by decide +kernel)) (by decide +kernel)
theorem wm_ml_L_94 : Cond.methodLink RL 94 yX5_checks ∈ wA := wA_mem (List.mem_of_getElem? (i := 601) (by decide +kernel)) (by decide +kernel)
theorem wm_im_X5_checks : Cond.instanceMethod yX5_checks ∈ wA := wA_mem (List.mem_of_getElem? (i := 602) (by decide +kernel)) (by decide +kernel)
theorem wm_se_X5_checks : Cond.selects RX5 yX5_checks yX5_checks ∈ wA := wA_mem (List.mem_of_getElem? (i := 603) (by decide +kernel)) (by decide +kernel)
theorem wm_cd_X5_checks : Cond.code yX5_checks cX5_checks 1 (some .int) ∈ wA := wA_mem (List.mem_of_getElem? (i := 604) (by decide +kernel)) (by decide +kernel)
theorem wm_ac_long : Cond.arrayClass .long ∈ wA := wA_mem (List.mem_of_getElem? (i := 605) (by decide +kernel)) (by decide +kernel)
theorem wm_se_X4_search : Cond.selects RX4 yX4_search yX4_search ∈ wA := wA_mem (List.mem_of_getElem? (i := 0) (by decide +kernel)) (by decide +kernel)
theorem wm_se_X3_workOut : Cond.selects RX3 yX3_workOut yX3_workOut ∈ wA := wA_mem (List.mem_of_getElem? (i := 1) (by decide +kernel)) (by decide +kernel)
theorem wm_se_X3_fits : Cond.selects RX3 yX3_fits yX3_fits ∈ wA := wA_mem (List.mem_of_getElem? (i := 2) (by decide +kernel)) (by decide +kernel)
theorem wm_se_X3_partsBelow : Cond.selects RX3 yX3_partsBelow yX3_partsBelow ∈ wA := wA_mem (List.mem_of_getElem? (i := 4) (by decide +kernel)) (by decide +kernel)
theorem wm_se_X3_noteVariables : Cond.selects RX3 yX3_noteVariables yX3_noteVariables ∈ wA := wA_mem (List.mem_of_getElem? (i := 5) (by decide +kernel)) (by decide +kernel)
theorem wm_se_X5_fits : Cond.selects RX5 yX5_fits yX5_fits ∈ wA := wA_mem (List.mem_of_getElem? (i := 6) (by decide +kernel)) (by decide +kernel)
theorem wm_se_X5_isTruth : Cond.selects RX5 yX5_isTruth yX5_isTruth ∈ wA := wA_mem (List.mem_of_getElem? (i := 7) (by decide +kernel)) (by decide +kernel)
theorem wm_se_X5_isNumber : Cond.selects RX5 yX5_isNumber yX5_isNumber ∈ wA := wA_mem (List.mem_of_getElem? (i := 8) (by decide +kernel)) (by decide +kernel)
theorem wm_se_X5_reckonAll : Cond.selects RX5 yX5_reckonAll yX5_reckonAll ∈ wA := wA_mem (List.mem_of_getElem? (i := 9) (by decide +kernel)) (by decide +kernel)
theorem wm_se_X5_allHold : Cond.selects RX5 yX5_allHold yX5_allHold ∈ wA := wA_mem (List.mem_of_getElem? (i := 10) (by decide +kernel)) (by decide +kernel)
-- X0 lays at [75, 77, 79, 81]
theorem wf_X0 : ∀ w ∈ u_ws RX0 TX0 4, w ∈ wA := by decide +kernel
-- X3 lays at [47, 49, 51, 53, 55, 57, 59, 61]
theorem wf_X3 : ∀ w ∈ u_ws RX3 TX3 8, w ∈ wA := by decide +kernel
-- X4 lays at [89, 91, 93, 95, 97]
theorem wf_X4 : ∀ w ∈ u_ws RX4 TX4 5, w ∈ wA := by decide +kernel
-- X5 lays at [462, 464, 466, 468, 470, 472, 474, 476, 478, 480, 482, 484, 486, 488]
theorem wf_X5 : ∀ w ∈ u_ws RX5 TX5 14, w ∈ wA := by decide +kernel
abbrev wsX4_init : List Cond := .code yX4_init cX4_init 1 none :: wA
abbrev wsX3_init : List Cond := .code yX3_init cX3_init 1 none :: wA
abbrev wsX0_init : List Cond := .code yX0_init cX0_init 1 none :: wA
abbrev wsX4_check : List Cond := .code yX4_check cX4_check 1 (some .boolean) :: wA
abbrev wsX4_search : List Cond := .code yX4_search cX4_search 9 (some .boolean) :: wA
abbrev wsX0_claimedTerms : List Cond := .code yX0_claimedTerms cX0_claimedTerms 3 (some .int) :: wA
abbrev wsX3_partsOf : List Cond := .code yX3_partsOf cX3_partsOf 4 (some .int) :: wA
abbrev wsX3_varyingWith : List Cond := .code yX3_varyingWith cX3_varyingWith 2 (some .int) :: wA
abbrev wsX3_allHold : List Cond := .code yX3_allHold cX3_allHold 7 (some .boolean) :: wA
abbrev wsX3_workOut : List Cond := .code yX3_workOut cX3_workOut 8 (some .int) :: wA
abbrev wsX1_operate : List Cond := .code yX1_operate cX1_operate 3 (some .int) :: wA
abbrev wsX1_negate : List Cond := .code yX1_negate cX1_negate 1 (some .int) :: wA
abbrev wsX1_add : List Cond := .code yX1_add cX1_add 3 (some .int) :: wA
abbrev wsX1_isNan : List Cond := .code yX1_isNan cX1_isNan 1 (some .boolean) :: wA
abbrev wsX1_isInfinite : List Cond := .code yX1_isInfinite cX1_isInfinite 1 (some .boolean) :: wA
abbrev wsX1_signedQuarters : List Cond := .code yX1_signedQuarters cX1_signedQuarters 3 (some .int) :: wA
abbrev wsX1_rounded : List Cond := .code yX1_rounded cX1_rounded 5 (some .int) :: wA
abbrev wsX1_multiply : List Cond := .code yX1_multiply cX1_multiply 3 (some .int) :: wA
abbrev wsX1_isZero : List Cond := .code yX1_isZero cX1_isZero 1 (some .boolean) :: wA
abbrev wsX1_isLess : List Cond := .code yX1_isLess cX1_isLess 2 (some .boolean) :: wA
abbrev wsX1_isEqual : List Cond := .code yX1_isEqual cX1_isEqual 2 (some .boolean) :: wA
abbrev wsX4_terms : List Cond := .code yX4_terms cX4_terms 1 (some .int) :: wA
abbrev wsX3_count : List Cond := .code yX3_count cX3_count 1 (some .int) :: wA
abbrev wsX4_claims : List Cond := .code yX4_claims cX4_claims 1 (some .int) :: wA
abbrev wsX0_count : List Cond := .code yX0_count cX0_count 1 (some .int) :: wA
abbrev wsX4_level : List Cond := .code yX4_level cX4_level 1 (some .int) :: wA
abbrev wsX0_top : List Cond := .code yX0_top cX0_top 1 (some .int) :: wA
abbrev wsX4_checks : List Cond := .code yX4_checks cX4_checks 1 (some .int) :: wA
abbrev wsL_term : List Cond := .codeWith yL_term cL_term 7 (some .int) [(0, 14, 17, 13), (0, 14, 21, 15)] :: wA
abbrev wsX4_term : List Cond := .code yX4_term cX4_term 8 (some .int) :: wA
abbrev wsX3_allows : List Cond := .code yX3_allows cX3_allows 5 (some .boolean) :: wA
abbrev wsX2_isKind : List Cond := .code yX2_isKind cX2_isKind 1 (some .boolean) :: wA
abbrev wsX2_ofFirst : List Cond := .code yX2_ofFirst cX2_ofFirst 1 (some .int) :: wA
abbrev wsX3_fits : List Cond := .code yX3_fits cX3_fits 3 (some .boolean) :: wA
abbrev wsX1_isNumber : List Cond := .code yX1_isNumber cX1_isNumber 1 (some .boolean) :: wA
abbrev wsX3_isNumberTerm : List Cond := .code yX3_isNumberTerm cX3_isNumberTerm 2 (some .boolean) :: wA
abbrev wsX3_has : List Cond := .code yX3_has cX3_has 2 (some .boolean) :: wA
abbrev wsX2_givesTruth : List Cond := .code yX2_givesTruth cX2_givesTruth 1 (some .boolean) :: wA
abbrev wsX3_isTruth : List Cond := .code yX3_isTruth cX3_isTruth 2 (some .boolean) :: wA
abbrev wsX2_ofSecond : List Cond := .code yX2_ofSecond cX2_ofSecond 1 (some .int) :: wA
abbrev wsX2_ofThird : List Cond := .code yX2_ofThird cX2_ofThird 1 (some .int) :: wA
abbrev wsX3_find : List Cond := .code yX3_find cX3_find 6 (some .int) :: wA
abbrev wsX3_isFull : List Cond := .code yX3_isFull cX3_isFull 1 (some .boolean) :: wA
abbrev wsX3_append : List Cond := .code yX3_append cX3_append 6 (some .int) :: wA
abbrev wsX3_partsBelow : List Cond := .code yX3_partsBelow cX3_partsBelow 3 (some .int) :: wA
abbrev wsX2_isTerm : List Cond := .code yX2_isTerm cX2_isTerm 1 (some .boolean) :: wA
abbrev wsX3_noteVariables : List Cond := .code yX3_noteVariables cX3_noteVariables 4 none :: wA
abbrev wsL_claim : List Cond := .codeWith yL_claim cL_claim 4 (some .int) [(0, 9, 12, 13), (0, 9, 15, 15)] :: wA
abbrev wsX4_claim : List Cond := .code yX4_claim cX4_claim 2 (some .int) :: wA
abbrev wsX0_isFull : List Cond := .code yX0_isFull cX0_isFull 1 (some .boolean) :: wA
abbrev wsX0_push : List Cond := .code yX0_push cX0_push 2 (some .int) :: wA
abbrev wsL_open : List Cond := .codeWith yL_open cL_open 3 (some .int) [(0, 8, 11, 15)] :: wA
abbrev wsX4_open : List Cond := .code yX4_open cX4_open 1 (some .int) :: wA
abbrev wsX0_raise : List Cond := .code yX0_raise cX0_raise 1 (some .int) :: wA
abbrev wsL_close : List Cond := .codeWith yL_close cL_close 3 (some .int) [(0, 8, 11, 15)] :: wA
abbrev wsX4_close : List Cond := .code yX4_close cX4_close 1 (some .int) :: wA
abbrev wsX0_drop : List Cond := .code yX0_drop cX0_drop 2 (some .int) :: wA
abbrev wsL_model : List Cond := .codeWith yL_model cL_model 4 (some .int) [(0, 9, 12, 13), (0, 9, 15, 31)] :: wA
abbrev wsX4_model : List Cond := .code yX4_model cX4_model 2 (some .int) :: wA
abbrev wsL_value : List Cond := .codeWith yL_value cL_value 4 (some .int) [(0, 9, 12, 13), (0, 9, 15, 31)] :: wA
abbrev wsX4_value : List Cond := .code yX4_value cX4_value 2 (some .int) :: wA
abbrev wsX3_answer : List Cond := .code yX3_answer cX3_answer 4 (some .int) :: wA
abbrev wsL_reckon : List Cond := .codeWith yL_reckon cL_reckon 6 (some .int) [(0, 12, 15, 13)] :: wA
abbrev wsX4_reckon : List Cond := .code yX4_reckon cX4_reckon 4 (some .int) :: wA
abbrev wsX1_isOperation : List Cond := .code yX1_isOperation cX1_isOperation 1 (some .boolean) :: wA
abbrev wsX5_init : List Cond := .code yX5_init cX5_init 1 none :: wA
abbrev wsX5_thrown : List Cond := .code yX5_thrown cX5_thrown 1 (some .int) :: wA
abbrev wsX5_term : List Cond := .code yX5_term cX5_term 7 (some .int) :: wA
abbrev wsX5_fits : List Cond := .code yX5_fits cX5_fits 5 (some .boolean) :: wA
abbrev wsX5_out : List Cond := .code yX5_out cX5_out 2 (some .boolean) :: wA
abbrev wsX5_isTruth : List Cond := .code yX5_isTruth cX5_isTruth 2 (some .boolean) :: wA
abbrev wsX5_isNumber : List Cond := .code yX5_isNumber cX5_isNumber 2 (some .boolean) :: wA
abbrev wsX5_names : List Cond := .code yX5_names cX5_names 1 (some .int) :: wA
abbrev wsX5_claim : List Cond := .code yX5_claim cX5_claim 2 (some .int) :: wA
abbrev wsX5_open : List Cond := .code yX5_open cX5_open 1 (some .int) :: wA
abbrev wsX5_close : List Cond := .code yX5_close cX5_close 2 (some .int) :: wA
abbrev wsX5_check : List Cond := .code yX5_check cX5_check 2 (some .boolean) :: wA
abbrev wsX5_reckonAll : List Cond := .code yX5_reckonAll cX5_reckonAll 6 none :: wA
abbrev wsX5_operate : List Cond := .code yX5_operate cX5_operate 3 (some .int) :: wA
abbrev wsX5_add : List Cond := .code yX5_add cX5_add 3 (some .int) :: wA
abbrev wsX5_nan : List Cond := .code yX5_nan cX5_nan 1 (some .boolean) :: wA
abbrev wsX5_infinite : List Cond := .code yX5_infinite cX5_infinite 1 (some .boolean) :: wA
abbrev wsX5_worthOf : List Cond := .code yX5_worthOf cX5_worthOf 2 (some .int) :: wA
abbrev wsX5_quarters : List Cond := .code yX5_quarters cX5_quarters 1 (some .int) :: wA
abbrev wsX5_round : List Cond := .code yX5_round cX5_round 7 (some .int) :: wA
abbrev wsX5_multiply : List Cond := .code yX5_multiply cX5_multiply 3 (some .int) :: wA
abbrev wsX5_zero : List Cond := .code yX5_zero cX5_zero 1 (some .boolean) :: wA
abbrev wsX5_less : List Cond := .code yX5_less cX5_less 2 (some .boolean) :: wA
abbrev wsX5_truth : List Cond := .code yX5_truth cX5_truth 1 (some .int) :: wA
abbrev wsX5_equal : List Cond := .code yX5_equal cX5_equal 2 (some .boolean) :: wA
abbrev wsX5_allHold : List Cond := .code yX5_allHold cX5_allHold 3 (some .boolean) :: wA
abbrev wsX5_model : List Cond := .code yX5_model cX5_model 2 (some .int) :: wA
abbrev wsX5_value : List Cond := .code yX5_value cX5_value 2 (some .int) :: wA
abbrev wsX5_reckon : List Cond := .code yX5_reckon cX5_reckon 4 (some .int) :: wA
abbrev wsX5_terms : List Cond := .code yX5_terms cX5_terms 1 (some .int) :: wA
abbrev wsX5_claims : List Cond := .code yX5_claims cX5_claims 1 (some .int) :: wA
abbrev wsX5_level : List Cond := .code yX5_level cX5_level 1 (some .int) :: wA
abbrev wsX5_checks : List Cond := .code yX5_checks cX5_checks 1 (some .int) :: wA
