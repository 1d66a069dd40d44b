theorem cl_L_7 : Cond.classLink RL 7 RX3 ∈ tb := List.mem_filter.mpr ⟨List.mem_of_getElem? (i := 51) (by decide +kernel), by decide +kernel⟩
theorem ins_RX3_10 : Cond.instantiable RX3 10 ∈ tb := List.mem_filter.mpr ⟨List.mem_of_getElem? (i := 52) (by decide +kernel), by decide +kernel⟩
theorem ini_RX3 : Cond.initialized RX3 ∈ tb := List.mem_filter.mpr ⟨List.mem_of_getElem? (i := 38) (by decide +kernel), by decide +kernel⟩
theorem cl_L_10 : Cond.classLink RL 10 RX4 ∈ tb := List.mem_filter.mpr ⟨List.mem_of_getElem? (i := 576) (by decide +kernel), by decide +kernel⟩
theorem ins_RX4_17 : Cond.instantiable RX4 17 ∈ tb := List.mem_filter.mpr ⟨List.mem_of_getElem? (i := 577) (by decide +kernel), by decide +kernel⟩
theorem ini_RX4 : Cond.initialized RX4 ∈ tb := List.mem_filter.mpr ⟨List.mem_of_getElem? (i := 43) (by decide +kernel), by decide +kernel⟩
theorem ml_L_9 : Cond.methodLink RL 9 yX3_init ∈ tb := List.mem_filter.mpr ⟨List.mem_of_getElem? (i := 53) (by decide +kernel), by decide +kernel⟩
theorem im_yX3_init : Cond.instanceMethod yX3_init ∈ tb := List.mem_filter.mpr ⟨List.mem_of_getElem? (i := 54) (by decide +kernel), by decide +kernel⟩
theorem co_yX3_init : Cond.code yX3_init cX3_init 2 none ∈ tb := List.mem_filter.mpr ⟨List.mem_of_getElem? (i := 55) (by decide +kernel), by decide +kernel⟩
theorem ml_X3_1 : Cond.methodLink RX3 1 objectInit ∈ tb := List.mem_filter.mpr ⟨List.mem_of_getElem? (i := 56) (by decide +kernel), by decide +kernel⟩
theorem im_objectInit : Cond.instanceMethod objectInit ∈ tb := List.mem_filter.mpr ⟨List.mem_of_getElem? (i := 57) (by decide +kernel), by decide +kernel⟩
theorem co_objectInit : Cond.code objectInit ⟨#[0xb1]⟩ 1 none ∈ tb := List.mem_filter.mpr ⟨List.mem_of_getElem? (i := 58) (by decide +kernel), by decide +kernel⟩
theorem cl_X3_7 : Cond.classLink RX3 7 RX1 ∈ tb := List.mem_filter.mpr ⟨List.mem_of_getElem? (i := 59) (by decide +kernel), by decide +kernel⟩
theorem ins_RX1_13 : Cond.instantiable RX1 13 ∈ tb := List.mem_filter.mpr ⟨List.mem_of_getElem? (i := 60) (by decide +kernel), by decide +kernel⟩
theorem ini_RX1 : Cond.initialized RX1 ∈ tb := List.mem_filter.mpr ⟨List.mem_of_getElem? (i := 39) (by decide +kernel), by decide +kernel⟩
theorem fl_X3_10 : Cond.fieldLink RX3 10 "StaleBounds" "now" "LStaleBounds$Ledger;" ∈ tb := List.mem_filter.mpr ⟨List.mem_of_getElem? (i := 189) (by decide +kernel), by decide +kernel⟩
theorem fl_X3_16 : Cond.fieldLink RX3 16 "StaleBounds" "trial" "LStaleBounds$Ledger;" ∈ tb := List.mem_filter.mpr ⟨List.mem_of_getElem? (i := 190) (by decide +kernel), by decide +kernel⟩
theorem cl_X3_19 : Cond.classLink RX3 19 RX0 ∈ tb := List.mem_filter.mpr ⟨List.mem_of_getElem? (i := 142) (by decide +kernel), by decide +kernel⟩
theorem ins_RX0_3 : Cond.instantiable RX0 3 ∈ tb := List.mem_filter.mpr ⟨List.mem_of_getElem? (i := 143) (by decide +kernel), by decide +kernel⟩
theorem ini_RX0 : Cond.initialized RX0 ∈ tb := List.mem_filter.mpr ⟨List.mem_of_getElem? (i := 41) (by decide +kernel), by decide +kernel⟩
theorem fl_X3_22 : Cond.fieldLink RX3 22 "StaleBounds" "history" "LStaleBounds$History;" ∈ tb := List.mem_filter.mpr ⟨List.mem_of_getElem? (i := 191) (by decide +kernel), by decide +kernel⟩
theorem cl_X3_26 : Cond.classLink RX3 26 RX2 ∈ tb := List.mem_filter.mpr ⟨List.mem_of_getElem? (i := 162) (by decide +kernel), by decide +kernel⟩
theorem ins_RX2_6 : Cond.instantiable RX2 6 ∈ tb := List.mem_filter.mpr ⟨List.mem_of_getElem? (i := 163) (by decide +kernel), by decide +kernel⟩
theorem ini_RX2 : Cond.initialized RX2 ∈ tb := List.mem_filter.mpr ⟨List.mem_of_getElem? (i := 42) (by decide +kernel), by decide +kernel⟩
theorem fl_X3_29 : Cond.fieldLink RX3 29 "StaleBounds" "text" "LStaleBounds$Text;" ∈ tb := List.mem_filter.mpr ⟨List.mem_of_getElem? (i := 192) (by decide +kernel), by decide +kernel⟩
theorem fl_X3_33 : Cond.fieldLink RX3 33 "StaleBounds" "images" "[LStaleBounds$Ledger;" ∈ tb := List.mem_filter.mpr ⟨List.mem_of_getElem? (i := 193) (by decide +kernel), by decide +kernel⟩
theorem arr__boolean : Cond.arrayClass .boolean ∈ tb := List.mem_filter.mpr ⟨List.mem_of_getElem? (i := 220) (by decide +kernel), by decide +kernel⟩
theorem fl_X3_37 : Cond.fieldLink RX3 37 "StaleBounds" "kept" "[Z" ∈ tb := List.mem_filter.mpr ⟨List.mem_of_getElem? (i := 194) (by decide +kernel), by decide +kernel⟩
theorem arr__int : Cond.arrayClass .int ∈ tb := List.mem_filter.mpr ⟨List.mem_of_getElem? (i := 141) (by decide +kernel), by decide +kernel⟩
theorem fl_X3_41 : Cond.fieldLink RX3 41 "StaleBounds" "seenWhat" "[I" ∈ tb := List.mem_filter.mpr ⟨List.mem_of_getElem? (i := 195) (by decide +kernel), by decide +kernel⟩
theorem fl_X3_45 : Cond.fieldLink RX3 45 "StaleBounds" "seenNumber" "[I" ∈ tb := List.mem_filter.mpr ⟨List.mem_of_getElem? (i := 196) (by decide +kernel), by decide +kernel⟩
theorem fl_X3_48 : Cond.fieldLink RX3 48 "StaleBounds" "seen" "I" ∈ tb := List.mem_filter.mpr ⟨List.mem_of_getElem? (i := 197) (by decide +kernel), by decide +kernel⟩
theorem fl_X3_52 : Cond.fieldLink RX3 52 "StaleBounds" "answers" "[I" ∈ tb := List.mem_filter.mpr ⟨List.mem_of_getElem? (i := 198) (by decide +kernel), by decide +kernel⟩
theorem ml_X3_9 : Cond.methodLink RX3 9 yX1_init ∈ tb := List.mem_filter.mpr ⟨List.mem_of_getElem? (i := 61) (by decide +kernel), by decide +kernel⟩
theorem im_yX1_init : Cond.instanceMethod yX1_init ∈ tb := List.mem_filter.mpr ⟨List.mem_of_getElem? (i := 62) (by decide +kernel), by decide +kernel⟩
theorem co_yX1_init : Cond.code yX1_init cX1_init 1 none ∈ tb := List.mem_filter.mpr ⟨List.mem_of_getElem? (i := 63) (by decide +kernel), by decide +kernel⟩
theorem ml_X1_3 : Cond.methodLink RX1 3 objectInit ∈ tb := List.mem_filter.mpr ⟨List.mem_of_getElem? (i := 64) (by decide +kernel), by decide +kernel⟩
theorem fl_X1_9 : Cond.fieldLink RX1 9 "StaleBounds$Ledger" "number" "[I" ∈ tb := List.mem_filter.mpr ⟨List.mem_of_getElem? (i := 94) (by decide +kernel), by decide +kernel⟩
theorem fl_X1_15 : Cond.fieldLink RX1 15 "StaleBounds$Ledger" "order" "[I" ∈ tb := List.mem_filter.mpr ⟨List.mem_of_getElem? (i := 96) (by decide +kernel), by decide +kernel⟩
theorem fl_X1_18 : Cond.fieldLink RX1 18 "StaleBounds$Ledger" "age" "[I" ∈ tb := List.mem_filter.mpr ⟨List.mem_of_getElem? (i := 98) (by decide +kernel), by decide +kernel⟩
theorem fl_X1_21 : Cond.fieldLink RX1 21 "StaleBounds$Ledger" "knows" "[I" ∈ tb := List.mem_filter.mpr ⟨List.mem_of_getElem? (i := 100) (by decide +kernel), by decide +kernel⟩
theorem fl_X1_24 : Cond.fieldLink RX1 24 "StaleBounds$Ledger" "fast" "[I" ∈ tb := List.mem_filter.mpr ⟨List.mem_of_getElem? (i := 102) (by decide +kernel), by decide +kernel⟩
theorem fl_X1_27 : Cond.fieldLink RX1 27 "StaleBounds$Ledger" "heard" "[I" ∈ tb := List.mem_filter.mpr ⟨List.mem_of_getElem? (i := 104) (by decide +kernel), by decide +kernel⟩
theorem fl_X1_30 : Cond.fieldLink RX1 30 "StaleBounds$Ledger" "budget" "[I" ∈ tb := List.mem_filter.mpr ⟨List.mem_of_getElem? (i := 106) (by decide +kernel), by decide +kernel⟩
theorem fl_X1_33 : Cond.fieldLink RX1 33 "StaleBounds$Ledger" "acceptedBy" "[I" ∈ tb := List.mem_filter.mpr ⟨List.mem_of_getElem? (i := 108) (by decide +kernel), by decide +kernel⟩
theorem fl_X1_36 : Cond.fieldLink RX1 36 "StaleBounds$Ledger" "acceptedAt" "[I" ∈ tb := List.mem_filter.mpr ⟨List.mem_of_getElem? (i := 110) (by decide +kernel), by decide +kernel⟩
theorem fl_X1_39 : Cond.fieldLink RX1 39 "StaleBounds$Ledger" "weight" "[I" ∈ tb := List.mem_filter.mpr ⟨List.mem_of_getElem? (i := 112) (by decide +kernel), by decide +kernel⟩
theorem ml_X1_42 : Cond.methodLink RX1 42 yX1_startAnew ∈ tb := List.mem_filter.mpr ⟨List.mem_of_getElem? (i := 65) (by decide +kernel), by decide +kernel⟩
theorem im_yX1_startAnew : Cond.instanceMethod yX1_startAnew ∈ tb := List.mem_filter.mpr ⟨List.mem_of_getElem? (i := 66) (by decide +kernel), by decide +kernel⟩
theorem se_RX1_yX1_startAnew : Cond.selects RX1 yX1_startAnew yX1_startAnew ∈ tb := List.mem_filter.mpr ⟨List.mem_of_getElem? (i := 67) (by decide +kernel), by decide +kernel⟩
theorem co_yX1_startAnew : Cond.code yX1_startAnew cX1_startAnew 1 none ∈ tb := List.mem_filter.mpr ⟨List.mem_of_getElem? (i := 68) (by decide +kernel), by decide +kernel⟩
theorem fl_X1_48 : Cond.fieldLink RX1 48 "StaleBounds$Ledger" "copies" "I" ∈ tb := List.mem_filter.mpr ⟨List.mem_of_getElem? (i := 87) (by decide +kernel), by decide +kernel⟩
theorem fl_X1_52 : Cond.fieldLink RX1 52 "StaleBounds$Ledger" "time" "I" ∈ tb := List.mem_filter.mpr ⟨List.mem_of_getElem? (i := 90) (by decide +kernel), by decide +kernel⟩
theorem fl_X1_55 : Cond.fieldLink RX1 55 "StaleBounds$Ledger" "writes" "I" ∈ tb := List.mem_filter.mpr ⟨List.mem_of_getElem? (i := 92) (by decide +kernel), by decide +kernel⟩
theorem ml_X1_58 : Cond.methodLink RX1 58 yJ7_fill_53178 ∈ tb := List.mem_filter.mpr ⟨List.mem_of_getElem? (i := 69) (by decide +kernel), by decide +kernel⟩
theorem sm_yJ7_fill_53178 : Cond.static yJ7_fill_53178 ∈ tb := List.mem_filter.mpr ⟨List.mem_of_getElem? (i := 70) (by decide +kernel), by decide +kernel⟩
theorem ini_RJ7 : Cond.initialized RJ7 ∈ tb := List.mem_filter.mpr ⟨List.mem_of_getElem? (i := 40) (by decide +kernel), by decide +kernel⟩
theorem co_yJ7_fill_53178 : Cond.code yJ7_fill_53178 cJ7_fill_53178 4 none ∈ tb := List.mem_filter.mpr ⟨List.mem_of_getElem? (i := 71) (by decide +kernel), by decide +kernel⟩
theorem ml_X1_45 : Cond.methodLink RX1 45 yX1_splitAllNumbers ∈ tb := List.mem_filter.mpr ⟨List.mem_of_getElem? (i := 72) (by decide +kernel), by decide +kernel⟩
theorem im_yX1_splitAllNumbers : Cond.instanceMethod yX1_splitAllNumbers ∈ tb := List.mem_filter.mpr ⟨List.mem_of_getElem? (i := 73) (by decide +kernel), by decide +kernel⟩
theorem se_RX1_yX1_splitAllNumbers : Cond.selects RX1 yX1_splitAllNumbers yX1_splitAllNumbers ∈ tb := List.mem_filter.mpr ⟨List.mem_of_getElem? (i := 74) (by decide +kernel), by decide +kernel⟩
theorem co_yX1_splitAllNumbers : Cond.code yX1_splitAllNumbers cX1_splitAllNumbers 2 none ∈ tb := List.mem_filter.mpr ⟨List.mem_of_getElem? (i := 75) (by decide +kernel), by decide +kernel⟩
theorem ml_X1_70 : Cond.methodLink RX1 70 yX1_splitNumber ∈ tb := List.mem_filter.mpr ⟨List.mem_of_getElem? (i := 76) (by decide +kernel), by decide +kernel⟩
theorem im_yX1_splitNumber : Cond.instanceMethod yX1_splitNumber ∈ tb := List.mem_filter.mpr ⟨List.mem_of_getElem? (i := 77) (by decide +kernel), by decide +kernel⟩
theorem se_RX1_yX1_splitNumber : Cond.selects RX1 yX1_splitNumber yX1_splitNumber ∈ tb := List.mem_filter.mpr ⟨List.mem_of_getElem? (i := 78) (by decide +kernel), by decide +kernel⟩
theorem co_yX1_splitNumber : Cond.code yX1_splitNumber cX1_splitNumber 3 none ∈ tb := List.mem_filter.mpr ⟨List.mem_of_getElem? (i := 79) (by decide +kernel), by decide +kernel⟩
theorem sm_yX3_slot : Cond.static yX3_slot ∈ tb := List.mem_filter.mpr ⟨List.mem_of_getElem? (i := 81) (by decide +kernel), by decide +kernel⟩
theorem co_yX3_slot : Cond.code yX3_slot cX3_slot 2 (some .int) ∈ tb := List.mem_filter.mpr ⟨List.mem_of_getElem? (i := 82) (by decide +kernel), by decide +kernel⟩
theorem ml_X1_78 : Cond.methodLink RX1 78 yX1_shareOf ∈ tb := List.mem_filter.mpr ⟨List.mem_of_getElem? (i := 83) (by decide +kernel), by decide +kernel⟩
theorem im_yX1_shareOf : Cond.instanceMethod yX1_shareOf ∈ tb := List.mem_filter.mpr ⟨List.mem_of_getElem? (i := 84) (by decide +kernel), by decide +kernel⟩
theorem se_RX1_yX1_shareOf : Cond.selects RX1 yX1_shareOf yX1_shareOf ∈ tb := List.mem_filter.mpr ⟨List.mem_of_getElem? (i := 85) (by decide +kernel), by decide +kernel⟩
theorem co_yX1_shareOf : Cond.code yX1_shareOf cX1_shareOf 6 (some .int) ∈ tb := List.mem_filter.mpr ⟨List.mem_of_getElem? (i := 86) (by decide +kernel), by decide +kernel⟩
theorem ml_X3_21 : Cond.methodLink RX3 21 yX0_init ∈ tb := List.mem_filter.mpr ⟨List.mem_of_getElem? (i := 144) (by decide +kernel), by decide +kernel⟩
theorem im_yX0_init : Cond.instanceMethod yX0_init ∈ tb := List.mem_filter.mpr ⟨List.mem_of_getElem? (i := 145) (by decide +kernel), by decide +kernel⟩
theorem co_yX0_init : Cond.code yX0_init cX0_init 2 none ∈ tb := List.mem_filter.mpr ⟨List.mem_of_getElem? (i := 146) (by decide +kernel), by decide +kernel⟩
theorem ml_X0_3 : Cond.methodLink RX0 3 objectInit ∈ tb := List.mem_filter.mpr ⟨List.mem_of_getElem? (i := 147) (by decide +kernel), by decide +kernel⟩
theorem cl_X0_9 : Cond.classLink RX0 9 RX1 ∈ tb := List.mem_filter.mpr ⟨List.mem_of_getElem? (i := 148) (by decide +kernel), by decide +kernel⟩
theorem fl_X0_11 : Cond.fieldLink RX0 11 "StaleBounds$History" "earlier" "[LStaleBounds$Ledger;" ∈ tb := List.mem_filter.mpr ⟨List.mem_of_getElem? (i := 151) (by decide +kernel), by decide +kernel⟩
theorem fl_X0_17 : Cond.fieldLink RX0 17 "StaleBounds$History" "next" "I" ∈ tb := List.mem_filter.mpr ⟨List.mem_of_getElem? (i := 152) (by decide +kernel), by decide +kernel⟩
theorem fl_X0_21 : Cond.fieldLink RX0 21 "StaleBounds$History" "known" "I" ∈ tb := List.mem_filter.mpr ⟨List.mem_of_getElem? (i := 153) (by decide +kernel), by decide +kernel⟩
theorem ml_X0_24 : Cond.methodLink RX0 24 yX1_init ∈ tb := List.mem_filter.mpr ⟨List.mem_of_getElem? (i := 150) (by decide +kernel), by decide +kernel⟩
theorem im_yX2_init : Cond.instanceMethod yX2_init ∈ tb := List.mem_filter.mpr ⟨List.mem_of_getElem? (i := 165) (by decide +kernel), by decide +kernel⟩
theorem co_yX2_init : Cond.code yX2_init cX2_init 1 none ∈ tb := List.mem_filter.mpr ⟨List.mem_of_getElem? (i := 166) (by decide +kernel), by decide +kernel⟩
theorem ml_X2_3 : Cond.methodLink RX2 3 objectInit ∈ tb := List.mem_filter.mpr ⟨List.mem_of_getElem? (i := 167) (by decide +kernel), by decide +kernel⟩
theorem arr__char : Cond.arrayClass .char ∈ tb := List.mem_filter.mpr ⟨List.mem_of_getElem? (i := 188) (by decide +kernel), by decide +kernel⟩
theorem fl_X2_9 : Cond.fieldLink RX2 9 "StaleBounds$Text" "letters" "[C" ∈ tb := List.mem_filter.mpr ⟨List.mem_of_getElem? (i := 168) (by decide +kernel), by decide +kernel⟩
theorem fl_X2_15 : Cond.fieldLink RX2 15 "StaleBounds$Text" "length" "I" ∈ tb := List.mem_filter.mpr ⟨List.mem_of_getElem? (i := 169) (by decide +kernel), by decide +kernel⟩
theorem fl_X2_19 : Cond.fieldLink RX2 19 "StaleBounds$Text" "kinds" "[I" ∈ tb := List.mem_filter.mpr ⟨List.mem_of_getElem? (i := 171) (by decide +kernel), by decide +kernel⟩
theorem fl_X2_23 : Cond.fieldLink RX2 23 "StaleBounds$Text" "starts" "[I" ∈ tb := List.mem_filter.mpr ⟨List.mem_of_getElem? (i := 172) (by decide +kernel), by decide +kernel⟩
theorem fl_X2_26 : Cond.fieldLink RX2 26 "StaleBounds$Text" "values" "[I" ∈ tb := List.mem_filter.mpr ⟨List.mem_of_getElem? (i := 173) (by decide +kernel), by decide +kernel⟩
theorem fl_X2_29 : Cond.fieldLink RX2 29 "StaleBounds$Text" "token" "I" ∈ tb := List.mem_filter.mpr ⟨List.mem_of_getElem? (i := 174) (by decide +kernel), by decide +kernel⟩
theorem ml_L_12 : Cond.methodLink RL 12 yX4_init ∈ tb := List.mem_filter.mpr ⟨List.mem_of_getElem? (i := 578) (by decide +kernel), by decide +kernel⟩
theorem im_yX4_init : Cond.instanceMethod yX4_init ∈ tb := List.mem_filter.mpr ⟨List.mem_of_getElem? (i := 579) (by decide +kernel), by decide +kernel⟩
theorem co_yX4_init : Cond.code yX4_init cX4_init 1 none ∈ tb := List.mem_filter.mpr ⟨List.mem_of_getElem? (i := 580) (by decide +kernel), by decide +kernel⟩
theorem ml_X4_1 : Cond.methodLink RX4 1 objectInit ∈ tb := List.mem_filter.mpr ⟨List.mem_of_getElem? (i := 581) (by decide +kernel), by decide +kernel⟩
theorem fl_X4_7 : Cond.fieldLink RX4 7 "StaleBoundsModel" "now" "[I" ∈ tb := List.mem_filter.mpr ⟨List.mem_of_getElem? (i := 595) (by decide +kernel), by decide +kernel⟩
theorem fl_X4_13 : Cond.fieldLink RX4 13 "StaleBoundsModel" "read" "[I" ∈ tb := List.mem_filter.mpr ⟨List.mem_of_getElem? (i := 596) (by decide +kernel), by decide +kernel⟩
theorem fl_X4_16 : Cond.fieldLink RX4 16 "StaleBoundsModel" "saved" "[I" ∈ tb := List.mem_filter.mpr ⟨List.mem_of_getElem? (i := 597) (by decide +kernel), by decide +kernel⟩
theorem fl_X4_19 : Cond.fieldLink RX4 19 "StaleBoundsModel" "history" "[I" ∈ tb := List.mem_filter.mpr ⟨List.mem_of_getElem? (i := 598) (by decide +kernel), by decide +kernel⟩
theorem fl_X4_22 : Cond.fieldLink RX4 22 "StaleBoundsModel" "images" "[I" ∈ tb := List.mem_filter.mpr ⟨List.mem_of_getElem? (i := 600) (by decide +kernel), by decide +kernel⟩
theorem fl_X4_25 : Cond.fieldLink RX4 25 "StaleBoundsModel" "hasImage" "[Z" ∈ tb := List.mem_filter.mpr ⟨List.mem_of_getElem? (i := 601) (by decide +kernel), by decide +kernel⟩
theorem fl_X4_29 : Cond.fieldLink RX4 29 "StaleBoundsModel" "text" "[I" ∈ tb := List.mem_filter.mpr ⟨List.mem_of_getElem? (i := 602) (by decide +kernel), by decide +kernel⟩
theorem fl_X4_32 : Cond.fieldLink RX4 32 "StaleBoundsModel" "factKind" "[I" ∈ tb := List.mem_filter.mpr ⟨List.mem_of_getElem? (i := 608) (by decide +kernel), by decide +kernel⟩
theorem fl_X4_35 : Cond.fieldLink RX4 35 "StaleBoundsModel" "factValue" "[I" ∈ tb := List.mem_filter.mpr ⟨List.mem_of_getElem? (i := 609) (by decide +kernel), by decide +kernel⟩
theorem ml_X4_38 : Cond.methodLink RX4 38 yX4_beginRead ∈ tb := List.mem_filter.mpr ⟨List.mem_of_getElem? (i := 582) (by decide +kernel), by decide +kernel⟩
theorem im_yX4_beginRead : Cond.instanceMethod yX4_beginRead ∈ tb := List.mem_filter.mpr ⟨List.mem_of_getElem? (i := 584) (by decide +kernel), by decide +kernel⟩
theorem se_RX4_yX4_beginRead : Cond.selects RX4 yX4_beginRead yX4_beginRead ∈ tb := List.mem_filter.mpr ⟨List.mem_of_getElem? (i := 6) (by decide +kernel), by decide +kernel⟩
theorem co_yX4_beginRead : Cond.code yX4_beginRead cX4_beginRead 2 none ∈ tb := List.mem_filter.mpr ⟨List.mem_of_getElem? (i := 585) (by decide +kernel), by decide +kernel⟩
theorem ml_X4_41 : Cond.methodLink RX4 41 yX4_setBudgets ∈ tb := List.mem_filter.mpr ⟨List.mem_of_getElem? (i := 586) (by decide +kernel), by decide +kernel⟩
theorem sm_yX4_setBudgets : Cond.static yX4_setBudgets ∈ tb := List.mem_filter.mpr ⟨List.mem_of_getElem? (i := 587) (by decide +kernel), by decide +kernel⟩
theorem co_yX4_setBudgets : Cond.code yX4_setBudgets cX4_setBudgets 2 none ∈ tb := List.mem_filter.mpr ⟨List.mem_of_getElem? (i := 588) (by decide +kernel), by decide +kernel⟩
theorem ml_X4_53 : Cond.methodLink RX4 53 yX4_setBudgetsFor ∈ tb := List.mem_filter.mpr ⟨List.mem_of_getElem? (i := 589) (by decide +kernel), by decide +kernel⟩
theorem sm_yX4_setBudgetsFor : Cond.static yX4_setBudgetsFor ∈ tb := List.mem_filter.mpr ⟨List.mem_of_getElem? (i := 590) (by decide +kernel), by decide +kernel⟩
theorem co_yX4_setBudgetsFor : Cond.code yX4_setBudgetsFor cX4_setBudgetsFor 6 none ∈ tb := List.mem_filter.mpr ⟨List.mem_of_getElem? (i := 591) (by decide +kernel), by decide +kernel⟩
theorem ml_X4_45 : Cond.methodLink RX4 45 yX4_copyState ∈ tb := List.mem_filter.mpr ⟨List.mem_of_getElem? (i := 592) (by decide +kernel), by decide +kernel⟩
theorem sm_yX4_copyState : Cond.static yX4_copyState ∈ tb := List.mem_filter.mpr ⟨List.mem_of_getElem? (i := 593) (by decide +kernel), by decide +kernel⟩
theorem co_yX4_copyState : Cond.code yX4_copyState cX4_copyState 5 none ∈ tb := List.mem_filter.mpr ⟨List.mem_of_getElem? (i := 594) (by decide +kernel), by decide +kernel⟩
theorem ml_L_13 : Cond.methodLink RL 13 yX3_type ∈ tb := List.mem_filter.mpr ⟨List.mem_of_getElem? (i := 221) (by decide +kernel), by decide +kernel⟩
theorem im_yX3_type : Cond.instanceMethod yX3_type ∈ tb := List.mem_filter.mpr ⟨List.mem_of_getElem? (i := 222) (by decide +kernel), by decide +kernel⟩
theorem se_RX3_yX3_type : Cond.selects RX3 yX3_type yX3_type ∈ tb := List.mem_filter.mpr ⟨List.mem_of_getElem? (i := 223) (by decide +kernel), by decide +kernel⟩
theorem co_yX3_type : Cond.code yX3_type cX3_type 2 (some .int) ∈ tb := List.mem_filter.mpr ⟨List.mem_of_getElem? (i := 224) (by decide +kernel), by decide +kernel⟩
theorem fl_X3_55 : Cond.fieldLink RX3 55 "StaleBounds$Text" "length" "I" ∈ tb := List.mem_filter.mpr ⟨List.mem_of_getElem? (i := 170) (by decide +kernel), by decide +kernel⟩
theorem ml_X3_58 : Cond.methodLink RX3 58 yX2_add ∈ tb := List.mem_filter.mpr ⟨List.mem_of_getElem? (i := 225) (by decide +kernel), by decide +kernel⟩
theorem im_yX2_add : Cond.instanceMethod yX2_add ∈ tb := List.mem_filter.mpr ⟨List.mem_of_getElem? (i := 226) (by decide +kernel), by decide +kernel⟩
theorem se_RX2_yX2_add : Cond.selects RX2 yX2_add yX2_add ∈ tb := List.mem_filter.mpr ⟨List.mem_of_getElem? (i := 227) (by decide +kernel), by decide +kernel⟩
theorem co_yX2_add : Cond.code yX2_add cX2_add 2 none ∈ tb := List.mem_filter.mpr ⟨List.mem_of_getElem? (i := 228) (by decide +kernel), by decide +kernel⟩
theorem ml_L_17 : Cond.methodLink RL 17 yX4_type ∈ tb := List.mem_filter.mpr ⟨List.mem_of_getElem? (i := 647) (by decide +kernel), by decide +kernel⟩
theorem im_yX4_type : Cond.instanceMethod yX4_type ∈ tb := List.mem_filter.mpr ⟨List.mem_of_getElem? (i := 648) (by decide +kernel), by decide +kernel⟩
theorem se_RX4_yX4_type : Cond.selects RX4 yX4_type yX4_type ∈ tb := List.mem_filter.mpr ⟨List.mem_of_getElem? (i := 649) (by decide +kernel), by decide +kernel⟩
theorem co_yX4_type : Cond.code yX4_type cX4_type 2 (some .int) ∈ tb := List.mem_filter.mpr ⟨List.mem_of_getElem? (i := 650) (by decide +kernel), by decide +kernel⟩
theorem fl_X4_60 : Cond.fieldLink RX4 60 "StaleBoundsModel" "length" "I" ∈ tb := List.mem_filter.mpr ⟨List.mem_of_getElem? (i := 603) (by decide +kernel), by decide +kernel⟩
theorem ml_X4_63 : Cond.methodLink RX4 63 yX4_in ∈ tb := List.mem_filter.mpr ⟨List.mem_of_getElem? (i := 651) (by decide +kernel), by decide +kernel⟩
theorem sm_yX4_in : Cond.static yX4_in ∈ tb := List.mem_filter.mpr ⟨List.mem_of_getElem? (i := 652) (by decide +kernel), by decide +kernel⟩
theorem co_yX4_in : Cond.code yX4_in cX4_in 3 (some .boolean) ∈ tb := List.mem_filter.mpr ⟨List.mem_of_getElem? (i := 653) (by decide +kernel), by decide +kernel⟩
theorem ml_L_18 : Cond.methodLink RL 18 yX3_clear ∈ tb := List.mem_filter.mpr ⟨List.mem_of_getElem? (i := 229) (by decide +kernel), by decide +kernel⟩
theorem im_yX3_clear : Cond.instanceMethod yX3_clear ∈ tb := List.mem_filter.mpr ⟨List.mem_of_getElem? (i := 230) (by decide +kernel), by decide +kernel⟩
theorem se_RX3_yX3_clear : Cond.selects RX3 yX3_clear yX3_clear ∈ tb := List.mem_filter.mpr ⟨List.mem_of_getElem? (i := 231) (by decide +kernel), by decide +kernel⟩
theorem co_yX3_clear : Cond.code yX3_clear cX3_clear 1 (some .int) ∈ tb := List.mem_filter.mpr ⟨List.mem_of_getElem? (i := 232) (by decide +kernel), by decide +kernel⟩
theorem ml_X3_62 : Cond.methodLink RX3 62 yX2_drop ∈ tb := List.mem_filter.mpr ⟨List.mem_of_getElem? (i := 233) (by decide +kernel), by decide +kernel⟩
theorem im_yX2_drop : Cond.instanceMethod yX2_drop ∈ tb := List.mem_filter.mpr ⟨List.mem_of_getElem? (i := 234) (by decide +kernel), by decide +kernel⟩
theorem se_RX2_yX2_drop : Cond.selects RX2 yX2_drop yX2_drop ∈ tb := List.mem_filter.mpr ⟨List.mem_of_getElem? (i := 235) (by decide +kernel), by decide +kernel⟩
theorem co_yX2_drop : Cond.code yX2_drop cX2_drop 2 (some .int) ∈ tb := List.mem_filter.mpr ⟨List.mem_of_getElem? (i := 236) (by decide +kernel), by decide +kernel⟩
theorem ml_L_22 : Cond.methodLink RL 22 yX4_clear ∈ tb := List.mem_filter.mpr ⟨List.mem_of_getElem? (i := 654) (by decide +kernel), by decide +kernel⟩
theorem im_yX4_clear : Cond.instanceMethod yX4_clear ∈ tb := List.mem_filter.mpr ⟨List.mem_of_getElem? (i := 655) (by decide +kernel), by decide +kernel⟩
theorem se_RX4_yX4_clear : Cond.selects RX4 yX4_clear yX4_clear ∈ tb := List.mem_filter.mpr ⟨List.mem_of_getElem? (i := 656) (by decide +kernel), by decide +kernel⟩
theorem co_yX4_clear : Cond.code yX4_clear cX4_clear 2 (some .int) ∈ tb := List.mem_filter.mpr ⟨List.mem_of_getElem? (i := 657) (by decide +kernel), by decide +kernel⟩
theorem ml_L_23 : Cond.methodLink RL 23 yX3_tells ∈ tb := List.mem_filter.mpr ⟨List.mem_of_getElem? (i := 237) (by decide +kernel), by decide +kernel⟩
theorem im_yX3_tells : Cond.instanceMethod yX3_tells ∈ tb := List.mem_filter.mpr ⟨List.mem_of_getElem? (i := 238) (by decide +kernel), by decide +kernel⟩
theorem se_RX3_yX3_tells : Cond.selects RX3 yX3_tells yX3_tells ∈ tb := List.mem_filter.mpr ⟨List.mem_of_getElem? (i := 239) (by decide +kernel), by decide +kernel⟩
theorem co_yX3_tells : Cond.code yX3_tells cX3_tells 2 (some .int) ∈ tb := List.mem_filter.mpr ⟨List.mem_of_getElem? (i := 240) (by decide +kernel), by decide +kernel⟩
theorem ml_X3_66 : Cond.methodLink RX3 66 yX2_tellInto ∈ tb := List.mem_filter.mpr ⟨List.mem_of_getElem? (i := 241) (by decide +kernel), by decide +kernel⟩
theorem im_yX2_tellInto : Cond.instanceMethod yX2_tellInto ∈ tb := List.mem_filter.mpr ⟨List.mem_of_getElem? (i := 242) (by decide +kernel), by decide +kernel⟩
theorem se_RX2_yX2_tellInto : Cond.selects RX2 yX2_tellInto yX2_tellInto ∈ tb := List.mem_filter.mpr ⟨List.mem_of_getElem? (i := 243) (by decide +kernel), by decide +kernel⟩
theorem co_yX2_tellInto : Cond.code yX2_tellInto cX2_tellInto 3 (some .int) ∈ tb := List.mem_filter.mpr ⟨List.mem_of_getElem? (i := 244) (by decide +kernel), by decide +kernel⟩
theorem ml_X2_32 : Cond.methodLink RX2 32 yX2_findTokens ∈ tb := List.mem_filter.mpr ⟨List.mem_of_getElem? (i := 245) (by decide +kernel), by decide +kernel⟩
theorem im_yX2_findTokens : Cond.instanceMethod yX2_findTokens ∈ tb := List.mem_filter.mpr ⟨List.mem_of_getElem? (i := 246) (by decide +kernel), by decide +kernel⟩
theorem se_RX2_yX2_findTokens : Cond.selects RX2 yX2_findTokens yX2_findTokens ∈ tb := List.mem_filter.mpr ⟨List.mem_of_getElem? (i := 247) (by decide +kernel), by decide +kernel⟩
theorem co_yX2_findTokens : Cond.code yX2_findTokens cX2_findTokens 3 none ∈ tb := List.mem_filter.mpr ⟨List.mem_of_getElem? (i := 248) (by decide +kernel), by decide +kernel⟩
theorem ml_X2_69 : Cond.methodLink RX2 69 yX2_takeToken ∈ tb := List.mem_filter.mpr ⟨List.mem_of_getElem? (i := 249) (by decide +kernel), by decide +kernel⟩
theorem im_yX2_takeToken : Cond.instanceMethod yX2_takeToken ∈ tb := List.mem_filter.mpr ⟨List.mem_of_getElem? (i := 250) (by decide +kernel), by decide +kernel⟩
theorem se_RX2_yX2_takeToken : Cond.selects RX2 yX2_takeToken yX2_takeToken ∈ tb := List.mem_filter.mpr ⟨List.mem_of_getElem? (i := 251) (by decide +kernel), by decide +kernel⟩
theorem co_yX2_takeToken : Cond.code yX2_takeToken cX2_takeToken 3 (some .int) ∈ tb := List.mem_filter.mpr ⟨List.mem_of_getElem? (i := 252) (by decide +kernel), by decide +kernel⟩
theorem ml_X2_73 : Cond.methodLink RX2 73 yX2_isSmallLetter ∈ tb := List.mem_filter.mpr ⟨List.mem_of_getElem? (i := 253) (by decide +kernel), by decide +kernel⟩
theorem sm_yX2_isSmallLetter : Cond.static yX2_isSmallLetter ∈ tb := List.mem_filter.mpr ⟨List.mem_of_getElem? (i := 254) (by decide +kernel), by decide +kernel⟩
theorem co_yX2_isSmallLetter : Cond.code yX2_isSmallLetter cX2_isSmallLetter 1 (some .boolean) ∈ tb := List.mem_filter.mpr ⟨List.mem_of_getElem? (i := 255) (by decide +kernel), by decide +kernel⟩
theorem ml_X2_77 : Cond.methodLink RX2 77 yX2_takeWord ∈ tb := List.mem_filter.mpr ⟨List.mem_of_getElem? (i := 256) (by decide +kernel), by decide +kernel⟩
theorem im_yX2_takeWord : Cond.instanceMethod yX2_takeWord ∈ tb := List.mem_filter.mpr ⟨List.mem_of_getElem? (i := 257) (by decide +kernel), by decide +kernel⟩
theorem se_RX2_yX2_takeWord : Cond.selects RX2 yX2_takeWord yX2_takeWord ∈ tb := List.mem_filter.mpr ⟨List.mem_of_getElem? (i := 258) (by decide +kernel), by decide +kernel⟩
theorem co_yX2_takeWord : Cond.code yX2_takeWord cX2_takeWord 4 (some .int) ∈ tb := List.mem_filter.mpr ⟨List.mem_of_getElem? (i := 259) (by decide +kernel), by decide +kernel⟩
theorem ml_X2_87 : Cond.methodLink RX2 87 yX2_spells ∈ tb := List.mem_filter.mpr ⟨List.mem_of_getElem? (i := 261) (by decide +kernel), by decide +kernel⟩
theorem im_yX2_spells : Cond.instanceMethod yX2_spells ∈ tb := List.mem_filter.mpr ⟨List.mem_of_getElem? (i := 262) (by decide +kernel), by decide +kernel⟩
theorem se_RX2_yX2_spells : Cond.selects RX2 yX2_spells yX2_spells ∈ tb := List.mem_filter.mpr ⟨List.mem_of_getElem? (i := 263) (by decide +kernel), by decide +kernel⟩
theorem co_yX2_spells : Cond.code yX2_spells cX2_spells 5 (some .boolean) ∈ tb := List.mem_filter.mpr ⟨List.mem_of_getElem? (i := 264) (by decide +kernel), by decide +kernel⟩
theorem ml_X2_93 : Cond.methodLink RX2 93 yJ0_length_8abf5 ∈ tb := List.mem_filter.mpr ⟨List.mem_of_getElem? (i := 265) (by decide +kernel), by decide +kernel⟩
theorem im_yJ0_length_8abf5 : Cond.instanceMethod yJ0_length_8abf5 ∈ tb := List.mem_filter.mpr ⟨List.mem_of_getElem? (i := 266) (by decide +kernel), by decide +kernel⟩
theorem se_RJ0_yJ0_length_8abf5 : Cond.selects RJ0 yJ0_length_8abf5 yJ0_length_8abf5 ∈ tb := List.mem_filter.mpr ⟨List.mem_of_getElem? (i := 267) (by decide +kernel), by decide +kernel⟩
theorem ini_RJ0 : Cond.initialized RJ0 ∈ tb := List.mem_filter.mpr ⟨List.mem_of_getElem? (i := 44) (by decide +kernel), by decide +kernel⟩
theorem co_yJ0_length_8abf5 : Cond.code yJ0_length_8abf5 cJ0_length_8abf5 1 (some .int) ∈ tb := List.mem_filter.mpr ⟨List.mem_of_getElem? (i := 268) (by decide +kernel), by decide +kernel⟩
theorem fl_J0_9 : Cond.fieldLink RJ0 9 "java/lang/String" "value" "[B" ∈ tb := List.mem_filter.mpr ⟨List.mem_of_getElem? (i := 865) (by decide +kernel), by decide +kernel⟩
theorem ml_J0_335 : Cond.methodLink RJ0 335 yJ0_coder_7d493 ∈ tb := List.mem_filter.mpr ⟨List.mem_of_getElem? (i := 269) (by decide +kernel), by decide +kernel⟩
theorem im_yJ0_coder_7d493 : Cond.instanceMethod yJ0_coder_7d493 ∈ tb := List.mem_filter.mpr ⟨List.mem_of_getElem? (i := 270) (by decide +kernel), by decide +kernel⟩
theorem se_RJ0_yJ0_coder_7d493 : Cond.selects RJ0 yJ0_coder_7d493 yJ0_coder_7d493 ∈ tb := List.mem_filter.mpr ⟨List.mem_of_getElem? (i := 271) (by decide +kernel), by decide +kernel⟩
theorem co_yJ0_coder_7d493 : Cond.code yJ0_coder_7d493 cJ0_coder_7d493 1 (some .byte) ∈ tb := List.mem_filter.mpr ⟨List.mem_of_getElem? (i := 272) (by decide +kernel), by decide +kernel⟩
theorem fl_J0_38 : Cond.fieldLink RJ0 38 "java/lang/String" "COMPACT_STRINGS" "Z" ∈ tb := List.mem_filter.mpr ⟨List.mem_of_getElem? (i := 273) (by decide +kernel), by decide +kernel⟩
theorem fl_J0_15 : Cond.fieldLink RJ0 15 "java/lang/String" "coder" "B" ∈ tb := List.mem_filter.mpr ⟨List.mem_of_getElem? (i := 866) (by decide +kernel), by decide +kernel⟩
theorem ml_X2_98 : Cond.methodLink RX2 98 yJ0_charAt_5068e ∈ tb := List.mem_filter.mpr ⟨List.mem_of_getElem? (i := 275) (by decide +kernel), by decide +kernel⟩
theorem im_yJ0_charAt_5068e : Cond.instanceMethod yJ0_charAt_5068e ∈ tb := List.mem_filter.mpr ⟨List.mem_of_getElem? (i := 276) (by decide +kernel), by decide +kernel⟩
theorem se_RJ0_yJ0_charAt_5068e : Cond.selects RJ0 yJ0_charAt_5068e yJ0_charAt_5068e ∈ tb := List.mem_filter.mpr ⟨List.mem_of_getElem? (i := 277) (by decide +kernel), by decide +kernel⟩
theorem co_yJ0_charAt_5068e : Cond.code yJ0_charAt_5068e cJ0_charAt_5068e 2 (some .char) ∈ tb := List.mem_filter.mpr ⟨List.mem_of_getElem? (i := 278) (by decide +kernel), by decide +kernel⟩
theorem ml_J0_492 : Cond.methodLink RJ0 492 yJ0_isLatin1_aae02 ∈ tb := List.mem_filter.mpr ⟨List.mem_of_getElem? (i := 279) (by decide +kernel), by decide +kernel⟩
theorem im_yJ0_isLatin1_aae02 : Cond.instanceMethod yJ0_isLatin1_aae02 ∈ tb := List.mem_filter.mpr ⟨List.mem_of_getElem? (i := 280) (by decide +kernel), by decide +kernel⟩
theorem se_RJ0_yJ0_isLatin1_aae02 : Cond.selects RJ0 yJ0_isLatin1_aae02 yJ0_isLatin1_aae02 ∈ tb := List.mem_filter.mpr ⟨List.mem_of_getElem? (i := 281) (by decide +kernel), by decide +kernel⟩
theorem co_yJ0_isLatin1_aae02 : Cond.code yJ0_isLatin1_aae02 cJ0_isLatin1_aae02 1 (some .boolean) ∈ tb := List.mem_filter.mpr ⟨List.mem_of_getElem? (i := 282) (by decide +kernel), by decide +kernel⟩
theorem ml_J0_495 : Cond.methodLink RJ0 495 yJ1_charAt_3b067 ∈ tb := List.mem_filter.mpr ⟨List.mem_of_getElem? (i := 283) (by decide +kernel), by decide +kernel⟩
theorem sm_yJ1_charAt_3b067 : Cond.static yJ1_charAt_3b067 ∈ tb := List.mem_filter.mpr ⟨List.mem_of_getElem? (i := 284) (by decide +kernel), by decide +kernel⟩
theorem ini_RJ1 : Cond.initialized RJ1 ∈ tb := List.mem_filter.mpr ⟨List.mem_of_getElem? (i := 45) (by decide +kernel), by decide +kernel⟩
theorem co_yJ1_charAt_3b067 : Cond.code yJ1_charAt_3b067 cJ1_charAt_3b067 2 (some .char) ∈ tb := List.mem_filter.mpr ⟨List.mem_of_getElem? (i := 285) (by decide +kernel), by decide +kernel⟩
theorem ml_J1_9 : Cond.methodLink RJ1 9 yJ0_checkIndex_df160 ∈ tb := List.mem_filter.mpr ⟨List.mem_of_getElem? (i := 286) (by decide +kernel), by decide +kernel⟩
theorem sm_yJ0_checkIndex_df160 : Cond.static yJ0_checkIndex_df160 ∈ tb := List.mem_filter.mpr ⟨List.mem_of_getElem? (i := 287) (by decide +kernel), by decide +kernel⟩
theorem co_yJ0_checkIndex_df160 : Cond.code yJ0_checkIndex_df160 cJ0_checkIndex_df160 2 none ∈ tb := List.mem_filter.mpr ⟨List.mem_of_getElem? (i := 288) (by decide +kernel), by decide +kernel⟩
theorem fl_J0_1053 : Cond.fieldLink RJ0 1053 "jdk/internal/util/Preconditions" "SIOOBE_FORMATTER" "Ljava/util/function/BiFunction;" ∈ tb := List.mem_filter.mpr ⟨List.mem_of_getElem? (i := 289) (by decide +kernel), by decide +kernel⟩
theorem ml_J0_1059 : Cond.methodLink RJ0 1059 yJ3_checkIndex_8e157 ∈ tb := List.mem_filter.mpr ⟨List.mem_of_getElem? (i := 291) (by decide +kernel), by decide +kernel⟩
theorem sm_yJ3_checkIndex_8e157 : Cond.static yJ3_checkIndex_8e157 ∈ tb := List.mem_filter.mpr ⟨List.mem_of_getElem? (i := 292) (by decide +kernel), by decide +kernel⟩
theorem ini_RJ3 : Cond.initialized RJ3 ∈ tb := List.mem_filter.mpr ⟨List.mem_of_getElem? (i := 46) (by decide +kernel), by decide +kernel⟩
theorem co_yJ3_checkIndex_8e157 : Cond.code yJ3_checkIndex_8e157 cJ3_checkIndex_8e157 3 (some .int) ∈ tb := List.mem_filter.mpr ⟨List.mem_of_getElem? (i := 293) (by decide +kernel), by decide +kernel⟩
theorem ml_J0_498 : Cond.methodLink RJ0 498 yJ2_charAt_3b067 ∈ tb := List.mem_filter.mpr ⟨List.mem_of_getElem? (i := 294) (by decide +kernel), by decide +kernel⟩
theorem sm_yJ2_charAt_3b067 : Cond.static yJ2_charAt_3b067 ∈ tb := List.mem_filter.mpr ⟨List.mem_of_getElem? (i := 295) (by decide +kernel), by decide +kernel⟩
theorem ini_RJ2 : Cond.initialized RJ2 ∈ tb := List.mem_filter.mpr ⟨List.mem_of_getElem? (i := 47) (by decide +kernel), by decide +kernel⟩
theorem co_yJ2_charAt_3b067 : Cond.code yJ2_charAt_3b067 cJ2_charAt_3b067 2 (some .char) ∈ tb := List.mem_filter.mpr ⟨List.mem_of_getElem? (i := 296) (by decide +kernel), by decide +kernel⟩
theorem ml_J2_67 : Cond.methodLink RJ2 67 yJ2_checkIndex_2214a ∈ tb := List.mem_filter.mpr ⟨List.mem_of_getElem? (i := 297) (by decide +kernel), by decide +kernel⟩
theorem sm_yJ2_checkIndex_2214a : Cond.static yJ2_checkIndex_2214a ∈ tb := List.mem_filter.mpr ⟨List.mem_of_getElem? (i := 298) (by decide +kernel), by decide +kernel⟩
theorem co_yJ2_checkIndex_2214a : Cond.code yJ2_checkIndex_2214a cJ2_checkIndex_2214a 2 none ∈ tb := List.mem_filter.mpr ⟨List.mem_of_getElem? (i := 299) (by decide +kernel), by decide +kernel⟩
theorem ml_J2_48 : Cond.methodLink RJ2 48 yJ2_length_9d52b ∈ tb := List.mem_filter.mpr ⟨List.mem_of_getElem? (i := 300) (by decide +kernel), by decide +kernel⟩
theorem sm_yJ2_length_9d52b : Cond.static yJ2_length_9d52b ∈ tb := List.mem_filter.mpr ⟨List.mem_of_getElem? (i := 301) (by decide +kernel), by decide +kernel⟩
theorem co_yJ2_length_9d52b : Cond.code yJ2_length_9d52b cJ2_length_9d52b 1 (some .int) ∈ tb := List.mem_filter.mpr ⟨List.mem_of_getElem? (i := 302) (by decide +kernel), by decide +kernel⟩
theorem ml_J2_414 : Cond.methodLink RJ2 414 yJ0_checkIndex_df160 ∈ tb := List.mem_filter.mpr ⟨List.mem_of_getElem? (i := 303) (by decide +kernel), by decide +kernel⟩
theorem ml_J2_71 : Cond.methodLink RJ2 71 yJ2_getChar_3b067 ∈ tb := List.mem_filter.mpr ⟨List.mem_of_getElem? (i := 304) (by decide +kernel), by decide +kernel⟩
theorem sm_yJ2_getChar_3b067 : Cond.static yJ2_getChar_3b067 ∈ tb := List.mem_filter.mpr ⟨List.mem_of_getElem? (i := 305) (by decide +kernel), by decide +kernel⟩
theorem co_yJ2_getChar_3b067 : Cond.code yJ2_getChar_3b067 cJ2_getChar_3b067 2 (some .char) ∈ tb := List.mem_filter.mpr ⟨List.mem_of_getElem? (i := 306) (by decide +kernel), by decide +kernel⟩
theorem fl_J2_44 : Cond.fieldLink RJ2 44 "java/lang/StringUTF16" "$assertionsDisabled" "Z" ∈ tb := List.mem_filter.mpr ⟨List.mem_of_getElem? (i := 307) (by decide +kernel), by decide +kernel⟩
theorem fl_J2_59 : Cond.fieldLink RJ2 59 "java/lang/StringUTF16" "HI_BYTE_SHIFT" "I" ∈ tb := List.mem_filter.mpr ⟨List.mem_of_getElem? (i := 309) (by decide +kernel), by decide +kernel⟩
theorem fl_J2_63 : Cond.fieldLink RJ2 63 "java/lang/StringUTF16" "LO_BYTE_SHIFT" "I" ∈ tb := List.mem_filter.mpr ⟨List.mem_of_getElem? (i := 311) (by decide +kernel), by decide +kernel⟩
theorem ml_X2_80 : Cond.methodLink RX2 80 yX2_isFigure ∈ tb := List.mem_filter.mpr ⟨List.mem_of_getElem? (i := 314) (by decide +kernel), by decide +kernel⟩
theorem sm_yX2_isFigure : Cond.static yX2_isFigure ∈ tb := List.mem_filter.mpr ⟨List.mem_of_getElem? (i := 315) (by decide +kernel), by decide +kernel⟩
theorem co_yX2_isFigure : Cond.code yX2_isFigure cX2_isFigure 1 (some .boolean) ∈ tb := List.mem_filter.mpr ⟨List.mem_of_getElem? (i := 316) (by decide +kernel), by decide +kernel⟩
theorem ml_X2_83 : Cond.methodLink RX2 83 yX2_takeFigures ∈ tb := List.mem_filter.mpr ⟨List.mem_of_getElem? (i := 317) (by decide +kernel), by decide +kernel⟩
theorem im_yX2_takeFigures : Cond.instanceMethod yX2_takeFigures ∈ tb := List.mem_filter.mpr ⟨List.mem_of_getElem? (i := 318) (by decide +kernel), by decide +kernel⟩
theorem se_RX2_yX2_takeFigures : Cond.selects RX2 yX2_takeFigures yX2_takeFigures ∈ tb := List.mem_filter.mpr ⟨List.mem_of_getElem? (i := 319) (by decide +kernel), by decide +kernel⟩
theorem co_yX2_takeFigures : Cond.code yX2_takeFigures cX2_takeFigures 7 (some .int) ∈ tb := List.mem_filter.mpr ⟨List.mem_of_getElem? (i := 320) (by decide +kernel), by decide +kernel⟩
theorem ml_X2_35 : Cond.methodLink RX2 35 yX1_startAnew ∈ tb := List.mem_filter.mpr ⟨List.mem_of_getElem? (i := 321) (by decide +kernel), by decide +kernel⟩
theorem ml_X2_40 : Cond.methodLink RX2 40 yX2_tellItem ∈ tb := List.mem_filter.mpr ⟨List.mem_of_getElem? (i := 322) (by decide +kernel), by decide +kernel⟩
theorem im_yX2_tellItem : Cond.instanceMethod yX2_tellItem ∈ tb := List.mem_filter.mpr ⟨List.mem_of_getElem? (i := 323) (by decide +kernel), by decide +kernel⟩
theorem se_RX2_yX2_tellItem : Cond.selects RX2 yX2_tellItem yX2_tellItem ∈ tb := List.mem_filter.mpr ⟨List.mem_of_getElem? (i := 324) (by decide +kernel), by decide +kernel⟩
theorem co_yX2_tellItem : Cond.code yX2_tellItem cX2_tellItem 3 (some .boolean) ∈ tb := List.mem_filter.mpr ⟨List.mem_of_getElem? (i := 325) (by decide +kernel), by decide +kernel⟩
theorem ml_X2_47 : Cond.methodLink RX2 47 yX2_passKind ∈ tb := List.mem_filter.mpr ⟨List.mem_of_getElem? (i := 326) (by decide +kernel), by decide +kernel⟩
theorem im_yX2_passKind : Cond.instanceMethod yX2_passKind ∈ tb := List.mem_filter.mpr ⟨List.mem_of_getElem? (i := 327) (by decide +kernel), by decide +kernel⟩
theorem se_RX2_yX2_passKind : Cond.selects RX2 yX2_passKind yX2_passKind ∈ tb := List.mem_filter.mpr ⟨List.mem_of_getElem? (i := 328) (by decide +kernel), by decide +kernel⟩
theorem co_yX2_passKind : Cond.code yX2_passKind cX2_passKind 2 (some .boolean) ∈ tb := List.mem_filter.mpr ⟨List.mem_of_getElem? (i := 329) (by decide +kernel), by decide +kernel⟩
theorem ml_X2_51 : Cond.methodLink RX2 51 yX2_tellCopies ∈ tb := List.mem_filter.mpr ⟨List.mem_of_getElem? (i := 330) (by decide +kernel), by decide +kernel⟩
theorem im_yX2_tellCopies : Cond.instanceMethod yX2_tellCopies ∈ tb := List.mem_filter.mpr ⟨List.mem_of_getElem? (i := 331) (by decide +kernel), by decide +kernel⟩
theorem se_RX2_yX2_tellCopies : Cond.selects RX2 yX2_tellCopies yX2_tellCopies ∈ tb := List.mem_filter.mpr ⟨List.mem_of_getElem? (i := 332) (by decide +kernel), by decide +kernel⟩
theorem co_yX2_tellCopies : Cond.code yX2_tellCopies cX2_tellCopies 2 (some .boolean) ∈ tb := List.mem_filter.mpr ⟨List.mem_of_getElem? (i := 333) (by decide +kernel), by decide +kernel⟩
theorem fl_X2_62 : Cond.fieldLink RX2 62 "StaleBounds$Ledger" "copies" "I" ∈ tb := List.mem_filter.mpr ⟨List.mem_of_getElem? (i := 88) (by decide +kernel), by decide +kernel⟩
theorem ml_X2_58 : Cond.methodLink RX2 58 yX2_passNumber ∈ tb := List.mem_filter.mpr ⟨List.mem_of_getElem? (i := 334) (by decide +kernel), by decide +kernel⟩
theorem im_yX2_passNumber : Cond.instanceMethod yX2_passNumber ∈ tb := List.mem_filter.mpr ⟨List.mem_of_getElem? (i := 335) (by decide +kernel), by decide +kernel⟩
theorem se_RX2_yX2_passNumber : Cond.selects RX2 yX2_passNumber yX2_passNumber ∈ tb := List.mem_filter.mpr ⟨List.mem_of_getElem? (i := 336) (by decide +kernel), by decide +kernel⟩
theorem co_yX2_passNumber : Cond.code yX2_passNumber cX2_passNumber 3 (some .boolean) ∈ tb := List.mem_filter.mpr ⟨List.mem_of_getElem? (i := 337) (by decide +kernel), by decide +kernel⟩
theorem ml_X2_55 : Cond.methodLink RX2 55 yX2_tellBounds ∈ tb := List.mem_filter.mpr ⟨List.mem_of_getElem? (i := 338) (by decide +kernel), by decide +kernel⟩
theorem im_yX2_tellBounds : Cond.instanceMethod yX2_tellBounds ∈ tb := List.mem_filter.mpr ⟨List.mem_of_getElem? (i := 339) (by decide +kernel), by decide +kernel⟩
theorem se_RX2_yX2_tellBounds : Cond.selects RX2 yX2_tellBounds yX2_tellBounds ∈ tb := List.mem_filter.mpr ⟨List.mem_of_getElem? (i := 340) (by decide +kernel), by decide +kernel⟩
theorem co_yX2_tellBounds : Cond.code yX2_tellBounds cX2_tellBounds 3 (some .boolean) ∈ tb := List.mem_filter.mpr ⟨List.mem_of_getElem? (i := 341) (by decide +kernel), by decide +kernel⟩
theorem ml_X2_65 : Cond.methodLink RX2 65 yX1_setBounds ∈ tb := List.mem_filter.mpr ⟨List.mem_of_getElem? (i := 342) (by decide +kernel), by decide +kernel⟩
theorem im_yX1_setBounds : Cond.instanceMethod yX1_setBounds ∈ tb := List.mem_filter.mpr ⟨List.mem_of_getElem? (i := 343) (by decide +kernel), by decide +kernel⟩
theorem se_RX1_yX1_setBounds : Cond.selects RX1 yX1_setBounds yX1_setBounds ∈ tb := List.mem_filter.mpr ⟨List.mem_of_getElem? (i := 344) (by decide +kernel), by decide +kernel⟩
theorem co_yX1_setBounds : Cond.code yX1_setBounds cX1_setBounds 5 none ∈ tb := List.mem_filter.mpr ⟨List.mem_of_getElem? (i := 345) (by decide +kernel), by decide +kernel⟩
theorem ml_X2_44 : Cond.methodLink RX2 44 yX1_splitAllNumbers ∈ tb := List.mem_filter.mpr ⟨List.mem_of_getElem? (i := 346) (by decide +kernel), by decide +kernel⟩
theorem ml_X3_70 : Cond.methodLink RX3 70 yX0_remember ∈ tb := List.mem_filter.mpr ⟨List.mem_of_getElem? (i := 347) (by decide +kernel), by decide +kernel⟩
theorem im_yX0_remember : Cond.instanceMethod yX0_remember ∈ tb := List.mem_filter.mpr ⟨List.mem_of_getElem? (i := 348) (by decide +kernel), by decide +kernel⟩
theorem se_RX0_yX0_remember : Cond.selects RX0 yX0_remember yX0_remember ∈ tb := List.mem_filter.mpr ⟨List.mem_of_getElem? (i := 349) (by decide +kernel), by decide +kernel⟩
theorem co_yX0_remember : Cond.code yX0_remember cX0_remember 2 none ∈ tb := List.mem_filter.mpr ⟨List.mem_of_getElem? (i := 350) (by decide +kernel), by decide +kernel⟩
theorem ml_X0_29 : Cond.methodLink RX0 29 Lib.Math.min.name ∈ tb := List.mem_filter.mpr ⟨List.mem_of_getElem? (i := 358) (by decide +kernel), by decide +kernel⟩
theorem sm_Lib_Math_min_name : Cond.static Lib.Math.min.name ∈ tb := List.mem_filter.mpr ⟨List.mem_of_getElem? (i := 359) (by decide +kernel), by decide +kernel⟩
theorem ini__java_lang_Math_ : Cond.initialized "java/lang/Math" ∈ tb := List.mem_filter.mpr ⟨List.mem_of_getElem? (i := 49) (by decide +kernel), by decide +kernel⟩
theorem co_Lib_Math_min_name : Cond.code Lib.Math.min.name Lib.Math.min.code 2 (some .int) ∈ tb := List.mem_filter.mpr ⟨List.mem_of_getElem? (i := 360) (by decide +kernel), by decide +kernel⟩
theorem ml_X0_25 : Cond.methodLink RX0 25 yX1_takeFrom ∈ tb := List.mem_filter.mpr ⟨List.mem_of_getElem? (i := 351) (by decide +kernel), by decide +kernel⟩
theorem im_yX1_takeFrom : Cond.instanceMethod yX1_takeFrom ∈ tb := List.mem_filter.mpr ⟨List.mem_of_getElem? (i := 352) (by decide +kernel), by decide +kernel⟩
theorem se_RX1_yX1_takeFrom : Cond.selects RX1 yX1_takeFrom yX1_takeFrom ∈ tb := List.mem_filter.mpr ⟨List.mem_of_getElem? (i := 353) (by decide +kernel), by decide +kernel⟩
theorem co_yX1_takeFrom : Cond.code yX1_takeFrom cX1_takeFrom 2 none ∈ tb := List.mem_filter.mpr ⟨List.mem_of_getElem? (i := 354) (by decide +kernel), by decide +kernel⟩
theorem ml_X1_64 : Cond.methodLink RX1 64 arraycopyName ∈ tb := List.mem_filter.mpr ⟨List.mem_of_getElem? (i := 355) (by decide +kernel), by decide +kernel⟩
theorem nat_arraycopyName : Cond.native arraycopyName ∈ tb := List.mem_filter.mpr ⟨List.mem_of_getElem? (i := 357) (by decide +kernel), by decide +kernel⟩
theorem sm_arraycopyName : Cond.static arraycopyName ∈ tb := List.mem_filter.mpr ⟨List.mem_of_getElem? (i := 356) (by decide +kernel), by decide +kernel⟩
theorem ini__java_lang_System_ : Cond.initialized "java/lang/System" ∈ tb := List.mem_filter.mpr ⟨List.mem_of_getElem? (i := 48) (by decide +kernel), by decide +kernel⟩
theorem ml_X3_74 : Cond.methodLink RX3 74 yX1_takeFrom ∈ tb := List.mem_filter.mpr ⟨List.mem_of_getElem? (i := 361) (by decide +kernel), by decide +kernel⟩
theorem ml_L_26 : Cond.methodLink RL 26 yX4_tells ∈ tb := List.mem_filter.mpr ⟨List.mem_of_getElem? (i := 658) (by decide +kernel), by decide +kernel⟩
theorem im_yX4_tells : Cond.instanceMethod yX4_tells ∈ tb := List.mem_filter.mpr ⟨List.mem_of_getElem? (i := 659) (by decide +kernel), by decide +kernel⟩
theorem se_RX4_yX4_tells : Cond.selects RX4 yX4_tells yX4_tells ∈ tb := List.mem_filter.mpr ⟨List.mem_of_getElem? (i := 660) (by decide +kernel), by decide +kernel⟩
theorem co_yX4_tells : Cond.code yX4_tells cX4_tells 2 (some .int) ∈ tb := List.mem_filter.mpr ⟨List.mem_of_getElem? (i := 661) (by decide +kernel), by decide +kernel⟩
theorem fl_X4_105 : Cond.fieldLink RX4 105 "StaleBoundsModel" "items" "I" ∈ tb := List.mem_filter.mpr ⟨List.mem_of_getElem? (i := 611) (by decide +kernel), by decide +kernel⟩
theorem ml_X4_112 : Cond.methodLink RX4 112 yX4_parse ∈ tb := List.mem_filter.mpr ⟨List.mem_of_getElem? (i := 662) (by decide +kernel), by decide +kernel⟩
theorem im_yX4_parse : Cond.instanceMethod yX4_parse ∈ tb := List.mem_filter.mpr ⟨List.mem_of_getElem? (i := 664) (by decide +kernel), by decide +kernel⟩
theorem se_RX4_yX4_parse : Cond.selects RX4 yX4_parse yX4_parse ∈ tb := List.mem_filter.mpr ⟨List.mem_of_getElem? (i := 7) (by decide +kernel), by decide +kernel⟩
theorem co_yX4_parse : Cond.code yX4_parse cX4_parse 1 (some .int) ∈ tb := List.mem_filter.mpr ⟨List.mem_of_getElem? (i := 665) (by decide +kernel), by decide +kernel⟩
theorem fl_X4_57 : Cond.fieldLink RX4 57 "StaleBoundsModel" "at" "I" ∈ tb := List.mem_filter.mpr ⟨List.mem_of_getElem? (i := 604) (by decide +kernel), by decide +kernel⟩
theorem fl_X4_78 : Cond.fieldLink RX4 78 "StaleBoundsModel" "token" "I" ∈ tb := List.mem_filter.mpr ⟨List.mem_of_getElem? (i := 605) (by decide +kernel), by decide +kernel⟩
theorem fl_X4_67 : Cond.fieldLink RX4 67 "StaleBoundsModel" "tokenAt" "I" ∈ tb := List.mem_filter.mpr ⟨List.mem_of_getElem? (i := 606) (by decide +kernel), by decide +kernel⟩
theorem ml_X4_95 : Cond.methodLink RX4 95 yX4_next ∈ tb := List.mem_filter.mpr ⟨List.mem_of_getElem? (i := 666) (by decide +kernel), by decide +kernel⟩
theorem im_yX4_next : Cond.instanceMethod yX4_next ∈ tb := List.mem_filter.mpr ⟨List.mem_of_getElem? (i := 668) (by decide +kernel), by decide +kernel⟩
theorem se_RX4_yX4_next : Cond.selects RX4 yX4_next yX4_next ∈ tb := List.mem_filter.mpr ⟨List.mem_of_getElem? (i := 8) (by decide +kernel), by decide +kernel⟩
theorem co_yX4_next : Cond.code yX4_next cX4_next 1 none ∈ tb := List.mem_filter.mpr ⟨List.mem_of_getElem? (i := 669) (by decide +kernel), by decide +kernel⟩
theorem fl_X4_92 : Cond.fieldLink RX4 92 "StaleBoundsModel" "value" "I" ∈ tb := List.mem_filter.mpr ⟨List.mem_of_getElem? (i := 607) (by decide +kernel), by decide +kernel⟩
theorem ml_X4_81 : Cond.methodLink RX4 81 yX4_isLetter ∈ tb := List.mem_filter.mpr ⟨List.mem_of_getElem? (i := 670) (by decide +kernel), by decide +kernel⟩
theorem im_yX4_isLetter : Cond.instanceMethod yX4_isLetter ∈ tb := List.mem_filter.mpr ⟨List.mem_of_getElem? (i := 672) (by decide +kernel), by decide +kernel⟩
theorem se_RX4_yX4_isLetter : Cond.selects RX4 yX4_isLetter yX4_isLetter ∈ tb := List.mem_filter.mpr ⟨List.mem_of_getElem? (i := 9) (by decide +kernel), by decide +kernel⟩
theorem co_yX4_isLetter : Cond.code yX4_isLetter cX4_isLetter 1 (some .boolean) ∈ tb := List.mem_filter.mpr ⟨List.mem_of_getElem? (i := 673) (by decide +kernel), by decide +kernel⟩
theorem ml_X4_85 : Cond.methodLink RX4 85 yX4_wordToken ∈ tb := List.mem_filter.mpr ⟨List.mem_of_getElem? (i := 674) (by decide +kernel), by decide +kernel⟩
theorem im_yX4_wordToken : Cond.instanceMethod yX4_wordToken ∈ tb := List.mem_filter.mpr ⟨List.mem_of_getElem? (i := 676) (by decide +kernel), by decide +kernel⟩
theorem se_RX4_yX4_wordToken : Cond.selects RX4 yX4_wordToken yX4_wordToken ∈ tb := List.mem_filter.mpr ⟨List.mem_of_getElem? (i := 10) (by decide +kernel), by decide +kernel⟩
theorem co_yX4_wordToken : Cond.code yX4_wordToken cX4_wordToken 4 (some .int) ∈ tb := List.mem_filter.mpr ⟨List.mem_of_getElem? (i := 677) (by decide +kernel), by decide +kernel⟩
theorem con_RX4_70__32_ : Cond.constantLong RX4 70 (32) ∈ tb := List.mem_filter.mpr ⟨List.mem_of_getElem? (i := 678) (by decide +kernel), by decide +kernel⟩
theorem con_RX4_72__97_ : Cond.constantLong RX4 72 (97) ∈ tb := List.mem_filter.mpr ⟨List.mem_of_getElem? (i := 679) (by decide +kernel), by decide +kernel⟩
theorem con_RX4_74__643088867_ : Cond.constantLong RX4 74 (643088867) ∈ tb := List.mem_filter.mpr ⟨List.mem_of_getElem? (i := 680) (by decide +kernel), by decide +kernel⟩
theorem con_RX4_76__642209250_ : Cond.constantLong RX4 76 (642209250) ∈ tb := List.mem_filter.mpr ⟨List.mem_of_getElem? (i := 681) (by decide +kernel), by decide +kernel⟩
theorem ml_X4_89 : Cond.methodLink RX4 89 yX4_isDigit ∈ tb := List.mem_filter.mpr ⟨List.mem_of_getElem? (i := 682) (by decide +kernel), by decide +kernel⟩
theorem im_yX4_isDigit : Cond.instanceMethod yX4_isDigit ∈ tb := List.mem_filter.mpr ⟨List.mem_of_getElem? (i := 684) (by decide +kernel), by decide +kernel⟩
theorem se_RX4_yX4_isDigit : Cond.selects RX4 yX4_isDigit yX4_isDigit ∈ tb := List.mem_filter.mpr ⟨List.mem_of_getElem? (i := 11) (by decide +kernel), by decide +kernel⟩
theorem co_yX4_isDigit : Cond.code yX4_isDigit cX4_isDigit 1 (some .boolean) ∈ tb := List.mem_filter.mpr ⟨List.mem_of_getElem? (i := 685) (by decide +kernel), by decide +kernel⟩
theorem ml_X4_108 : Cond.methodLink RX4 108 yX4_readItem ∈ tb := List.mem_filter.mpr ⟨List.mem_of_getElem? (i := 686) (by decide +kernel), by decide +kernel⟩
theorem im_yX4_readItem : Cond.instanceMethod yX4_readItem ∈ tb := List.mem_filter.mpr ⟨List.mem_of_getElem? (i := 688) (by decide +kernel), by decide +kernel⟩
theorem se_RX4_yX4_readItem : Cond.selects RX4 yX4_readItem yX4_readItem ∈ tb := List.mem_filter.mpr ⟨List.mem_of_getElem? (i := 12) (by decide +kernel), by decide +kernel⟩
theorem co_yX4_readItem : Cond.code yX4_readItem cX4_readItem 3 (some .boolean) ∈ tb := List.mem_filter.mpr ⟨List.mem_of_getElem? (i := 689) (by decide +kernel), by decide +kernel⟩
theorem ml_X4_98 : Cond.methodLink RX4 98 yX4_readNumber ∈ tb := List.mem_filter.mpr ⟨List.mem_of_getElem? (i := 690) (by decide +kernel), by decide +kernel⟩
theorem im_yX4_readNumber : Cond.instanceMethod yX4_readNumber ∈ tb := List.mem_filter.mpr ⟨List.mem_of_getElem? (i := 692) (by decide +kernel), by decide +kernel⟩
theorem se_RX4_yX4_readNumber : Cond.selects RX4 yX4_readNumber yX4_readNumber ∈ tb := List.mem_filter.mpr ⟨List.mem_of_getElem? (i := 13) (by decide +kernel), by decide +kernel⟩
theorem co_yX4_readNumber : Cond.code yX4_readNumber cX4_readNumber 3 (some .boolean) ∈ tb := List.mem_filter.mpr ⟨List.mem_of_getElem? (i := 693) (by decide +kernel), by decide +kernel⟩
theorem ml_X4_102 : Cond.methodLink RX4 102 yX4_readBounds ∈ tb := List.mem_filter.mpr ⟨List.mem_of_getElem? (i := 694) (by decide +kernel), by decide +kernel⟩
theorem im_yX4_readBounds : Cond.instanceMethod yX4_readBounds ∈ tb := List.mem_filter.mpr ⟨List.mem_of_getElem? (i := 696) (by decide +kernel), by decide +kernel⟩
theorem se_RX4_yX4_readBounds : Cond.selects RX4 yX4_readBounds yX4_readBounds ∈ tb := List.mem_filter.mpr ⟨List.mem_of_getElem? (i := 14) (by decide +kernel), by decide +kernel⟩
theorem co_yX4_readBounds : Cond.code yX4_readBounds cX4_readBounds 3 (some .boolean) ∈ tb := List.mem_filter.mpr ⟨List.mem_of_getElem? (i := 697) (by decide +kernel), by decide +kernel⟩
theorem ml_X4_115 : Cond.methodLink RX4 115 yX4_save ∈ tb := List.mem_filter.mpr ⟨List.mem_of_getElem? (i := 698) (by decide +kernel), by decide +kernel⟩
theorem im_yX4_save : Cond.instanceMethod yX4_save ∈ tb := List.mem_filter.mpr ⟨List.mem_of_getElem? (i := 700) (by decide +kernel), by decide +kernel⟩
theorem se_RX4_yX4_save : Cond.selects RX4 yX4_save yX4_save ∈ tb := List.mem_filter.mpr ⟨List.mem_of_getElem? (i := 15) (by decide +kernel), by decide +kernel⟩
theorem co_yX4_save : Cond.code yX4_save cX4_save 2 none ∈ tb := List.mem_filter.mpr ⟨List.mem_of_getElem? (i := 701) (by decide +kernel), by decide +kernel⟩
theorem fl_X4_49 : Cond.fieldLink RX4 49 "StaleBoundsModel" "historySize" "I" ∈ tb := List.mem_filter.mpr ⟨List.mem_of_getElem? (i := 599) (by decide +kernel), by decide +kernel⟩
theorem ml_L_27 : Cond.methodLink RL 27 yX3_accepts ∈ tb := List.mem_filter.mpr ⟨List.mem_of_getElem? (i := 363) (by decide +kernel), by decide +kernel⟩
theorem im_yX3_accepts : Cond.instanceMethod yX3_accepts ∈ tb := List.mem_filter.mpr ⟨List.mem_of_getElem? (i := 364) (by decide +kernel), by decide +kernel⟩
theorem se_RX3_yX3_accepts : Cond.selects RX3 yX3_accepts yX3_accepts ∈ tb := List.mem_filter.mpr ⟨List.mem_of_getElem? (i := 365) (by decide +kernel), by decide +kernel⟩
theorem co_yX3_accepts : Cond.code yX3_accepts cX3_accepts 3 (some .int) ∈ tb := List.mem_filter.mpr ⟨List.mem_of_getElem? (i := 366) (by decide +kernel), by decide +kernel⟩
theorem fl_X3_81 : Cond.fieldLink RX3 81 "StaleBounds$Ledger" "writes" "I" ∈ tb := List.mem_filter.mpr ⟨List.mem_of_getElem? (i := 93) (by decide +kernel), by decide +kernel⟩
theorem ml_X3_77 : Cond.methodLink RX3 77 yX3_isCopy ∈ tb := List.mem_filter.mpr ⟨List.mem_of_getElem? (i := 367) (by decide +kernel), by decide +kernel⟩
theorem im_yX3_isCopy : Cond.instanceMethod yX3_isCopy ∈ tb := List.mem_filter.mpr ⟨List.mem_of_getElem? (i := 369) (by decide +kernel), by decide +kernel⟩
theorem se_RX3_yX3_isCopy : Cond.selects RX3 yX3_isCopy yX3_isCopy ∈ tb := List.mem_filter.mpr ⟨List.mem_of_getElem? (i := 0) (by decide +kernel), by decide +kernel⟩
theorem co_yX3_isCopy : Cond.code yX3_isCopy cX3_isCopy 2 (some .boolean) ∈ tb := List.mem_filter.mpr ⟨List.mem_of_getElem? (i := 370) (by decide +kernel), by decide +kernel⟩
theorem fl_X3_183 : Cond.fieldLink RX3 183 "StaleBounds$Ledger" "copies" "I" ∈ tb := List.mem_filter.mpr ⟨List.mem_of_getElem? (i := 89) (by decide +kernel), by decide +kernel⟩
theorem ml_X3_84 : Cond.methodLink RX3 84 yX1_accept ∈ tb := List.mem_filter.mpr ⟨List.mem_of_getElem? (i := 371) (by decide +kernel), by decide +kernel⟩
theorem im_yX1_accept : Cond.instanceMethod yX1_accept ∈ tb := List.mem_filter.mpr ⟨List.mem_of_getElem? (i := 372) (by decide +kernel), by decide +kernel⟩
theorem se_RX1_yX1_accept : Cond.selects RX1 yX1_accept yX1_accept ∈ tb := List.mem_filter.mpr ⟨List.mem_of_getElem? (i := 373) (by decide +kernel), by decide +kernel⟩
theorem co_yX1_accept : Cond.code yX1_accept cX1_accept 5 (some .int) ∈ tb := List.mem_filter.mpr ⟨List.mem_of_getElem? (i := 374) (by decide +kernel), by decide +kernel⟩
theorem ml_X1_113 : Cond.methodLink RX1 113 yX1_learn ∈ tb := List.mem_filter.mpr ⟨List.mem_of_getElem? (i := 375) (by decide +kernel), by decide +kernel⟩
theorem im_yX1_learn : Cond.instanceMethod yX1_learn ∈ tb := List.mem_filter.mpr ⟨List.mem_of_getElem? (i := 376) (by decide +kernel), by decide +kernel⟩
theorem se_RX1_yX1_learn : Cond.selects RX1 yX1_learn yX1_learn ∈ tb := List.mem_filter.mpr ⟨List.mem_of_getElem? (i := 377) (by decide +kernel), by decide +kernel⟩
theorem co_yX1_learn : Cond.code yX1_learn cX1_learn 3 none ∈ tb := List.mem_filter.mpr ⟨List.mem_of_getElem? (i := 378) (by decide +kernel), by decide +kernel⟩
theorem ml_X1_117 : Cond.methodLink RX1 117 yX1_pushIfOver ∈ tb := List.mem_filter.mpr ⟨List.mem_of_getElem? (i := 379) (by decide +kernel), by decide +kernel⟩
theorem im_yX1_pushIfOver : Cond.instanceMethod yX1_pushIfOver ∈ tb := List.mem_filter.mpr ⟨List.mem_of_getElem? (i := 380) (by decide +kernel), by decide +kernel⟩
theorem se_RX1_yX1_pushIfOver : Cond.selects RX1 yX1_pushIfOver yX1_pushIfOver ∈ tb := List.mem_filter.mpr ⟨List.mem_of_getElem? (i := 381) (by decide +kernel), by decide +kernel⟩
theorem co_yX1_pushIfOver : Cond.code yX1_pushIfOver cX1_pushIfOver 3 (some .boolean) ∈ tb := List.mem_filter.mpr ⟨List.mem_of_getElem? (i := 382) (by decide +kernel), by decide +kernel⟩
theorem ml_X1_105 : Cond.methodLink RX1 105 yX1_left ∈ tb := List.mem_filter.mpr ⟨List.mem_of_getElem? (i := 383) (by decide +kernel), by decide +kernel⟩
theorem im_yX1_left : Cond.instanceMethod yX1_left ∈ tb := List.mem_filter.mpr ⟨List.mem_of_getElem? (i := 384) (by decide +kernel), by decide +kernel⟩
theorem se_RX1_yX1_left : Cond.selects RX1 yX1_left yX1_left ∈ tb := List.mem_filter.mpr ⟨List.mem_of_getElem? (i := 385) (by decide +kernel), by decide +kernel⟩
theorem co_yX1_left : Cond.code yX1_left cX1_left 3 (some .int) ∈ tb := List.mem_filter.mpr ⟨List.mem_of_getElem? (i := 386) (by decide +kernel), by decide +kernel⟩
theorem ml_X1_102 : Cond.methodLink RX1 102 yX1_owed ∈ tb := List.mem_filter.mpr ⟨List.mem_of_getElem? (i := 387) (by decide +kernel), by decide +kernel⟩
theorem im_yX1_owed : Cond.instanceMethod yX1_owed ∈ tb := List.mem_filter.mpr ⟨List.mem_of_getElem? (i := 388) (by decide +kernel), by decide +kernel⟩
theorem se_RX1_yX1_owed : Cond.selects RX1 yX1_owed yX1_owed ∈ tb := List.mem_filter.mpr ⟨List.mem_of_getElem? (i := 389) (by decide +kernel), by decide +kernel⟩
theorem co_yX1_owed : Cond.code yX1_owed cX1_owed 3 (some .int) ∈ tb := List.mem_filter.mpr ⟨List.mem_of_getElem? (i := 390) (by decide +kernel), by decide +kernel⟩
theorem ml_X1_99 : Cond.methodLink RX1 99 yX1_writesBy ∈ tb := List.mem_filter.mpr ⟨List.mem_of_getElem? (i := 391) (by decide +kernel), by decide +kernel⟩
theorem im_yX1_writesBy : Cond.instanceMethod yX1_writesBy ∈ tb := List.mem_filter.mpr ⟨List.mem_of_getElem? (i := 392) (by decide +kernel), by decide +kernel⟩
theorem se_RX1_yX1_writesBy : Cond.selects RX1 yX1_writesBy yX1_writesBy ∈ tb := List.mem_filter.mpr ⟨List.mem_of_getElem? (i := 393) (by decide +kernel), by decide +kernel⟩
theorem co_yX1_writesBy : Cond.code yX1_writesBy cX1_writesBy 4 (some .int) ∈ tb := List.mem_filter.mpr ⟨List.mem_of_getElem? (i := 394) (by decide +kernel), by decide +kernel⟩
theorem ml_X1_86 : Cond.methodLink RX1 86 yX1_weightOf ∈ tb := List.mem_filter.mpr ⟨List.mem_of_getElem? (i := 395) (by decide +kernel), by decide +kernel⟩
theorem im_yX1_weightOf : Cond.instanceMethod yX1_weightOf ∈ tb := List.mem_filter.mpr ⟨List.mem_of_getElem? (i := 396) (by decide +kernel), by decide +kernel⟩
theorem se_RX1_yX1_weightOf : Cond.selects RX1 yX1_weightOf yX1_weightOf ∈ tb := List.mem_filter.mpr ⟨List.mem_of_getElem? (i := 397) (by decide +kernel), by decide +kernel⟩
theorem co_yX1_weightOf : Cond.code yX1_weightOf cX1_weightOf 4 (some .int) ∈ tb := List.mem_filter.mpr ⟨List.mem_of_getElem? (i := 398) (by decide +kernel), by decide +kernel⟩
theorem sm_yX3_hasBit : Cond.static yX3_hasBit ∈ tb := List.mem_filter.mpr ⟨List.mem_of_getElem? (i := 400) (by decide +kernel), by decide +kernel⟩
theorem co_yX3_hasBit : Cond.code yX3_hasBit cX3_hasBit 2 (some .boolean) ∈ tb := List.mem_filter.mpr ⟨List.mem_of_getElem? (i := 401) (by decide +kernel), by decide +kernel⟩
theorem ml_L_31 : Cond.methodLink RL 31 yX4_accepts ∈ tb := List.mem_filter.mpr ⟨List.mem_of_getElem? (i := 702) (by decide +kernel), by decide +kernel⟩
theorem im_yX4_accepts : Cond.instanceMethod yX4_accepts ∈ tb := List.mem_filter.mpr ⟨List.mem_of_getElem? (i := 703) (by decide +kernel), by decide +kernel⟩
theorem se_RX4_yX4_accepts : Cond.selects RX4 yX4_accepts yX4_accepts ∈ tb := List.mem_filter.mpr ⟨List.mem_of_getElem? (i := 704) (by decide +kernel), by decide +kernel⟩
theorem co_yX4_accepts : Cond.code yX4_accepts cX4_accepts 6 (some .int) ∈ tb := List.mem_filter.mpr ⟨List.mem_of_getElem? (i := 705) (by decide +kernel), by decide +kernel⟩
theorem ml_X4_118 : Cond.methodLink RX4 118 yX4_isCopy ∈ tb := List.mem_filter.mpr ⟨List.mem_of_getElem? (i := 706) (by decide +kernel), by decide +kernel⟩
theorem im_yX4_isCopy : Cond.instanceMethod yX4_isCopy ∈ tb := List.mem_filter.mpr ⟨List.mem_of_getElem? (i := 708) (by decide +kernel), by decide +kernel⟩
theorem se_RX4_yX4_isCopy : Cond.selects RX4 yX4_isCopy yX4_isCopy ∈ tb := List.mem_filter.mpr ⟨List.mem_of_getElem? (i := 16) (by decide +kernel), by decide +kernel⟩
theorem co_yX4_isCopy : Cond.code yX4_isCopy cX4_isCopy 2 (some .boolean) ∈ tb := List.mem_filter.mpr ⟨List.mem_of_getElem? (i := 709) (by decide +kernel), by decide +kernel⟩
theorem ml_X4_145 : Cond.methodLink RX4 145 yX4_keepZeroFast ∈ tb := List.mem_filter.mpr ⟨List.mem_of_getElem? (i := 710) (by decide +kernel), by decide +kernel⟩
theorem im_yX4_keepZeroFast : Cond.instanceMethod yX4_keepZeroFast ∈ tb := List.mem_filter.mpr ⟨List.mem_of_getElem? (i := 712) (by decide +kernel), by decide +kernel⟩
theorem se_RX4_yX4_keepZeroFast : Cond.selects RX4 yX4_keepZeroFast yX4_keepZeroFast ∈ tb := List.mem_filter.mpr ⟨List.mem_of_getElem? (i := 17) (by decide +kernel), by decide +kernel⟩
theorem co_yX4_keepZeroFast : Cond.code yX4_keepZeroFast cX4_keepZeroFast 1 none ∈ tb := List.mem_filter.mpr ⟨List.mem_of_getElem? (i := 713) (by decide +kernel), by decide +kernel⟩
theorem ml_X4_158 : Cond.methodLink RX4 158 yX4_left ∈ tb := List.mem_filter.mpr ⟨List.mem_of_getElem? (i := 714) (by decide +kernel), by decide +kernel⟩
theorem im_yX4_left : Cond.instanceMethod yX4_left ∈ tb := List.mem_filter.mpr ⟨List.mem_of_getElem? (i := 716) (by decide +kernel), by decide +kernel⟩
theorem se_RX4_yX4_left : Cond.selects RX4 yX4_left yX4_left ∈ tb := List.mem_filter.mpr ⟨List.mem_of_getElem? (i := 18) (by decide +kernel), by decide +kernel⟩
theorem co_yX4_left : Cond.code yX4_left cX4_left 3 (some .int) ∈ tb := List.mem_filter.mpr ⟨List.mem_of_getElem? (i := 717) (by decide +kernel), by decide +kernel⟩
theorem ml_X4_132 : Cond.methodLink RX4 132 yX4_budgetCell ∈ tb := List.mem_filter.mpr ⟨List.mem_of_getElem? (i := 718) (by decide +kernel), by decide +kernel⟩
theorem im_yX4_budgetCell : Cond.instanceMethod yX4_budgetCell ∈ tb := List.mem_filter.mpr ⟨List.mem_of_getElem? (i := 720) (by decide +kernel), by decide +kernel⟩
theorem se_RX4_yX4_budgetCell : Cond.selects RX4 yX4_budgetCell yX4_budgetCell ∈ tb := List.mem_filter.mpr ⟨List.mem_of_getElem? (i := 19) (by decide +kernel), by decide +kernel⟩
theorem co_yX4_budgetCell : Cond.code yX4_budgetCell cX4_budgetCell 3 (some .int) ∈ tb := List.mem_filter.mpr ⟨List.mem_of_getElem? (i := 721) (by decide +kernel), by decide +kernel⟩
theorem ml_X4_136 : Cond.methodLink RX4 136 yX4_owed ∈ tb := List.mem_filter.mpr ⟨List.mem_of_getElem? (i := 722) (by decide +kernel), by decide +kernel⟩
theorem im_yX4_owed : Cond.instanceMethod yX4_owed ∈ tb := List.mem_filter.mpr ⟨List.mem_of_getElem? (i := 724) (by decide +kernel), by decide +kernel⟩
theorem se_RX4_yX4_owed : Cond.selects RX4 yX4_owed yX4_owed ∈ tb := List.mem_filter.mpr ⟨List.mem_of_getElem? (i := 20) (by decide +kernel), by decide +kernel⟩
theorem co_yX4_owed : Cond.code yX4_owed cX4_owed 3 (some .int) ∈ tb := List.mem_filter.mpr ⟨List.mem_of_getElem? (i := 725) (by decide +kernel), by decide +kernel⟩
theorem ml_X4_126 : Cond.methodLink RX4 126 yX4_acceptedBy ∈ tb := List.mem_filter.mpr ⟨List.mem_of_getElem? (i := 726) (by decide +kernel), by decide +kernel⟩
theorem im_yX4_acceptedBy : Cond.instanceMethod yX4_acceptedBy ∈ tb := List.mem_filter.mpr ⟨List.mem_of_getElem? (i := 728) (by decide +kernel), by decide +kernel⟩
theorem se_RX4_yX4_acceptedBy : Cond.selects RX4 yX4_acceptedBy yX4_acceptedBy ∈ tb := List.mem_filter.mpr ⟨List.mem_of_getElem? (i := 21) (by decide +kernel), by decide +kernel⟩
theorem co_yX4_acceptedBy : Cond.code yX4_acceptedBy cX4_acceptedBy 4 (some .int) ∈ tb := List.mem_filter.mpr ⟨List.mem_of_getElem? (i := 729) (by decide +kernel), by decide +kernel⟩
theorem ml_X4_129 : Cond.methodLink RX4 129 yX4_sumOf ∈ tb := List.mem_filter.mpr ⟨List.mem_of_getElem? (i := 730) (by decide +kernel), by decide +kernel⟩
theorem im_yX4_sumOf : Cond.instanceMethod yX4_sumOf ∈ tb := List.mem_filter.mpr ⟨List.mem_of_getElem? (i := 732) (by decide +kernel), by decide +kernel⟩
theorem se_RX4_yX4_sumOf : Cond.selects RX4 yX4_sumOf yX4_sumOf ∈ tb := List.mem_filter.mpr ⟨List.mem_of_getElem? (i := 22) (by decide +kernel), by decide +kernel⟩
theorem co_yX4_sumOf : Cond.code yX4_sumOf cX4_sumOf 4 (some .int) ∈ tb := List.mem_filter.mpr ⟨List.mem_of_getElem? (i := 733) (by decide +kernel), by decide +kernel⟩
theorem ml_X4_122 : Cond.methodLink RX4 122 yX4_weight ∈ tb := List.mem_filter.mpr ⟨List.mem_of_getElem? (i := 734) (by decide +kernel), by decide +kernel⟩
theorem im_yX4_weight : Cond.instanceMethod yX4_weight ∈ tb := List.mem_filter.mpr ⟨List.mem_of_getElem? (i := 736) (by decide +kernel), by decide +kernel⟩
theorem se_RX4_yX4_weight : Cond.selects RX4 yX4_weight yX4_weight ∈ tb := List.mem_filter.mpr ⟨List.mem_of_getElem? (i := 23) (by decide +kernel), by decide +kernel⟩
theorem co_yX4_weight : Cond.code yX4_weight cX4_weight 2 (some .int) ∈ tb := List.mem_filter.mpr ⟨List.mem_of_getElem? (i := 737) (by decide +kernel), by decide +kernel⟩
theorem ml_X4_161 : Cond.methodLink RX4 161 yX4_push ∈ tb := List.mem_filter.mpr ⟨List.mem_of_getElem? (i := 738) (by decide +kernel), by decide +kernel⟩
theorem im_yX4_push : Cond.instanceMethod yX4_push ∈ tb := List.mem_filter.mpr ⟨List.mem_of_getElem? (i := 740) (by decide +kernel), by decide +kernel⟩
theorem se_RX4_yX4_push : Cond.selects RX4 yX4_push yX4_push ∈ tb := List.mem_filter.mpr ⟨List.mem_of_getElem? (i := 24) (by decide +kernel), by decide +kernel⟩
theorem co_yX4_push : Cond.code yX4_push cX4_push 3 none ∈ tb := List.mem_filter.mpr ⟨List.mem_of_getElem? (i := 741) (by decide +kernel), by decide +kernel⟩
theorem ml_X4_142 : Cond.methodLink RX4 142 yX4_heardCell ∈ tb := List.mem_filter.mpr ⟨List.mem_of_getElem? (i := 742) (by decide +kernel), by decide +kernel⟩
theorem im_yX4_heardCell : Cond.instanceMethod yX4_heardCell ∈ tb := List.mem_filter.mpr ⟨List.mem_of_getElem? (i := 744) (by decide +kernel), by decide +kernel⟩
theorem se_RX4_yX4_heardCell : Cond.selects RX4 yX4_heardCell yX4_heardCell ∈ tb := List.mem_filter.mpr ⟨List.mem_of_getElem? (i := 25) (by decide +kernel), by decide +kernel⟩
theorem co_yX4_heardCell : Cond.code yX4_heardCell cX4_heardCell 3 (some .int) ∈ tb := List.mem_filter.mpr ⟨List.mem_of_getElem? (i := 745) (by decide +kernel), by decide +kernel⟩
theorem ml_L_32 : Cond.methodLink RL 32 yX3_passes ∈ tb := List.mem_filter.mpr ⟨List.mem_of_getElem? (i := 402) (by decide +kernel), by decide +kernel⟩
theorem im_yX3_passes : Cond.instanceMethod yX3_passes ∈ tb := List.mem_filter.mpr ⟨List.mem_of_getElem? (i := 403) (by decide +kernel), by decide +kernel⟩
theorem se_RX3_yX3_passes : Cond.selects RX3 yX3_passes yX3_passes ∈ tb := List.mem_filter.mpr ⟨List.mem_of_getElem? (i := 404) (by decide +kernel), by decide +kernel⟩
theorem co_yX3_passes : Cond.code yX3_passes cX3_passes 2 (some .int) ∈ tb := List.mem_filter.mpr ⟨List.mem_of_getElem? (i := 405) (by decide +kernel), by decide +kernel⟩
theorem fl_X3_88 : Cond.fieldLink RX3 88 "StaleBounds$Ledger" "time" "I" ∈ tb := List.mem_filter.mpr ⟨List.mem_of_getElem? (i := 91) (by decide +kernel), by decide +kernel⟩
theorem ml_L_35 : Cond.methodLink RL 35 yX4_passes ∈ tb := List.mem_filter.mpr ⟨List.mem_of_getElem? (i := 746) (by decide +kernel), by decide +kernel⟩
theorem im_yX4_passes : Cond.instanceMethod yX4_passes ∈ tb := List.mem_filter.mpr ⟨List.mem_of_getElem? (i := 747) (by decide +kernel), by decide +kernel⟩
theorem se_RX4_yX4_passes : Cond.selects RX4 yX4_passes yX4_passes ∈ tb := List.mem_filter.mpr ⟨List.mem_of_getElem? (i := 748) (by decide +kernel), by decide +kernel⟩
theorem co_yX4_passes : Cond.code yX4_passes cX4_passes 2 (some .int) ∈ tb := List.mem_filter.mpr ⟨List.mem_of_getElem? (i := 749) (by decide +kernel), by decide +kernel⟩
theorem ml_L_36 : Cond.methodLink RL 36 yX3_pulls ∈ tb := List.mem_filter.mpr ⟨List.mem_of_getElem? (i := 406) (by decide +kernel), by decide +kernel⟩
theorem im_yX3_pulls : Cond.instanceMethod yX3_pulls ∈ tb := List.mem_filter.mpr ⟨List.mem_of_getElem? (i := 407) (by decide +kernel), by decide +kernel⟩
theorem se_RX3_yX3_pulls : Cond.selects RX3 yX3_pulls yX3_pulls ∈ tb := List.mem_filter.mpr ⟨List.mem_of_getElem? (i := 408) (by decide +kernel), by decide +kernel⟩
theorem co_yX3_pulls : Cond.code yX3_pulls cX3_pulls 4 (some .int) ∈ tb := List.mem_filter.mpr ⟨List.mem_of_getElem? (i := 409) (by decide +kernel), by decide +kernel⟩
theorem fl_X3_95 : Cond.fieldLink RX3 95 "StaleBounds$Ledger" "knows" "[I" ∈ tb := List.mem_filter.mpr ⟨List.mem_of_getElem? (i := 101) (by decide +kernel), by decide +kernel⟩
theorem ml_X3_91 : Cond.methodLink RX3 91 yX3_arePair ∈ tb := List.mem_filter.mpr ⟨List.mem_of_getElem? (i := 410) (by decide +kernel), by decide +kernel⟩
theorem im_yX3_arePair : Cond.instanceMethod yX3_arePair ∈ tb := List.mem_filter.mpr ⟨List.mem_of_getElem? (i := 412) (by decide +kernel), by decide +kernel⟩
theorem se_RX3_yX3_arePair : Cond.selects RX3 yX3_arePair yX3_arePair ∈ tb := List.mem_filter.mpr ⟨List.mem_of_getElem? (i := 1) (by decide +kernel), by decide +kernel⟩
theorem co_yX3_arePair : Cond.code yX3_arePair cX3_arePair 3 (some .boolean) ∈ tb := List.mem_filter.mpr ⟨List.mem_of_getElem? (i := 413) (by decide +kernel), by decide +kernel⟩
theorem ml_X3_98 : Cond.methodLink RX3 98 yJ6_bitCount_0f7a4 ∈ tb := List.mem_filter.mpr ⟨List.mem_of_getElem? (i := 414) (by decide +kernel), by decide +kernel⟩
theorem sm_yJ6_bitCount_0f7a4 : Cond.static yJ6_bitCount_0f7a4 ∈ tb := List.mem_filter.mpr ⟨List.mem_of_getElem? (i := 415) (by decide +kernel), by decide +kernel⟩
theorem ini_RJ6 : Cond.initialized RJ6 ∈ tb := List.mem_filter.mpr ⟨List.mem_of_getElem? (i := 50) (by decide +kernel), by decide +kernel⟩
theorem co_yJ6_bitCount_0f7a4 : Cond.code yJ6_bitCount_0f7a4 cJ6_bitCount_0f7a4 1 (some .int) ∈ tb := List.mem_filter.mpr ⟨List.mem_of_getElem? (i := 416) (by decide +kernel), by decide +kernel⟩
theorem con_RJ6_265__1431655765_ : Cond.constant RJ6 265 (1431655765) ∈ tb := List.mem_filter.mpr ⟨List.mem_of_getElem? (i := 417) (by decide +kernel), by decide +kernel⟩
theorem con_RJ6_266__858993459_ : Cond.constant RJ6 266 (858993459) ∈ tb := List.mem_filter.mpr ⟨List.mem_of_getElem? (i := 418) (by decide +kernel), by decide +kernel⟩
theorem con_RJ6_267__252645135_ : Cond.constant RJ6 267 (252645135) ∈ tb := List.mem_filter.mpr ⟨List.mem_of_getElem? (i := 419) (by decide +kernel), by decide +kernel⟩
theorem ml_X3_104 : Cond.methodLink RX3 104 yX1_pull ∈ tb := List.mem_filter.mpr ⟨List.mem_of_getElem? (i := 420) (by decide +kernel), by decide +kernel⟩
theorem im_yX1_pull : Cond.instanceMethod yX1_pull ∈ tb := List.mem_filter.mpr ⟨List.mem_of_getElem? (i := 421) (by decide +kernel), by decide +kernel⟩
theorem se_RX1_yX1_pull : Cond.selects RX1 yX1_pull yX1_pull ∈ tb := List.mem_filter.mpr ⟨List.mem_of_getElem? (i := 422) (by decide +kernel), by decide +kernel⟩
theorem co_yX1_pull : Cond.code yX1_pull cX1_pull 4 none ∈ tb := List.mem_filter.mpr ⟨List.mem_of_getElem? (i := 423) (by decide +kernel), by decide +kernel⟩
theorem ml_X1_120 : Cond.methodLink RX1 120 Lib.Math.max.name ∈ tb := List.mem_filter.mpr ⟨List.mem_of_getElem? (i := 424) (by decide +kernel), by decide +kernel⟩
theorem sm_Lib_Math_max_name : Cond.static Lib.Math.max.name ∈ tb := List.mem_filter.mpr ⟨List.mem_of_getElem? (i := 425) (by decide +kernel), by decide +kernel⟩
theorem co_Lib_Math_max_name : Cond.code Lib.Math.max.name Lib.Math.max.code 2 (some .int) ∈ tb := List.mem_filter.mpr ⟨List.mem_of_getElem? (i := 426) (by decide +kernel), by decide +kernel⟩
theorem ml_L_39 : Cond.methodLink RL 39 yX4_pulls ∈ tb := List.mem_filter.mpr ⟨List.mem_of_getElem? (i := 750) (by decide +kernel), by decide +kernel⟩
theorem im_yX4_pulls : Cond.instanceMethod yX4_pulls ∈ tb := List.mem_filter.mpr ⟨List.mem_of_getElem? (i := 751) (by decide +kernel), by decide +kernel⟩
theorem se_RX4_yX4_pulls : Cond.selects RX4 yX4_pulls yX4_pulls ∈ tb := List.mem_filter.mpr ⟨List.mem_of_getElem? (i := 752) (by decide +kernel), by decide +kernel⟩
theorem co_yX4_pulls : Cond.code yX4_pulls cX4_pulls 4 (some .int) ∈ tb := List.mem_filter.mpr ⟨List.mem_of_getElem? (i := 753) (by decide +kernel), by decide +kernel⟩
theorem ml_X4_164 : Cond.methodLink RX4 164 yX4_arePair ∈ tb := List.mem_filter.mpr ⟨List.mem_of_getElem? (i := 754) (by decide +kernel), by decide +kernel⟩
theorem im_yX4_arePair : Cond.instanceMethod yX4_arePair ∈ tb := List.mem_filter.mpr ⟨List.mem_of_getElem? (i := 756) (by decide +kernel), by decide +kernel⟩
theorem se_RX4_yX4_arePair : Cond.selects RX4 yX4_arePair yX4_arePair ∈ tb := List.mem_filter.mpr ⟨List.mem_of_getElem? (i := 26) (by decide +kernel), by decide +kernel⟩
theorem co_yX4_arePair : Cond.code yX4_arePair cX4_arePair 3 (some .boolean) ∈ tb := List.mem_filter.mpr ⟨List.mem_of_getElem? (i := 757) (by decide +kernel), by decide +kernel⟩
theorem ml_X4_139 : Cond.methodLink RX4 139 yX4_countBits ∈ tb := List.mem_filter.mpr ⟨List.mem_of_getElem? (i := 758) (by decide +kernel), by decide +kernel⟩
theorem sm_yX4_countBits : Cond.static yX4_countBits ∈ tb := List.mem_filter.mpr ⟨List.mem_of_getElem? (i := 759) (by decide +kernel), by decide +kernel⟩
theorem co_yX4_countBits : Cond.code yX4_countBits cX4_countBits 3 (some .int) ∈ tb := List.mem_filter.mpr ⟨List.mem_of_getElem? (i := 760) (by decide +kernel), by decide +kernel⟩
theorem ml_X4_148 : Cond.methodLink RX4 148 yX4_pull ∈ tb := List.mem_filter.mpr ⟨List.mem_of_getElem? (i := 761) (by decide +kernel), by decide +kernel⟩
theorem im_yX4_pull : Cond.instanceMethod yX4_pull ∈ tb := List.mem_filter.mpr ⟨List.mem_of_getElem? (i := 763) (by decide +kernel), by decide +kernel⟩
theorem se_RX4_yX4_pull : Cond.selects RX4 yX4_pull yX4_pull ∈ tb := List.mem_filter.mpr ⟨List.mem_of_getElem? (i := 27) (by decide +kernel), by decide +kernel⟩
theorem co_yX4_pull : Cond.code yX4_pull cX4_pull 6 none ∈ tb := List.mem_filter.mpr ⟨List.mem_of_getElem? (i := 764) (by decide +kernel), by decide +kernel⟩
theorem ml_L_40 : Cond.methodLink RL 40 yX3_reads ∈ tb := List.mem_filter.mpr ⟨List.mem_of_getElem? (i := 427) (by decide +kernel), by decide +kernel⟩
theorem im_yX3_reads : Cond.instanceMethod yX3_reads ∈ tb := List.mem_filter.mpr ⟨List.mem_of_getElem? (i := 428) (by decide +kernel), by decide +kernel⟩
theorem se_RX3_yX3_reads : Cond.selects RX3 yX3_reads yX3_reads ∈ tb := List.mem_filter.mpr ⟨List.mem_of_getElem? (i := 429) (by decide +kernel), by decide +kernel⟩
theorem co_yX3_reads : Cond.code yX3_reads cX3_reads 2 (some .int) ∈ tb := List.mem_filter.mpr ⟨List.mem_of_getElem? (i := 430) (by decide +kernel), by decide +kernel⟩
theorem ml_X3_108 : Cond.methodLink RX3 108 yX1_read ∈ tb := List.mem_filter.mpr ⟨List.mem_of_getElem? (i := 431) (by decide +kernel), by decide +kernel⟩
theorem im_yX1_read : Cond.instanceMethod yX1_read ∈ tb := List.mem_filter.mpr ⟨List.mem_of_getElem? (i := 432) (by decide +kernel), by decide +kernel⟩
theorem se_RX1_yX1_read : Cond.selects RX1 yX1_read yX1_read ∈ tb := List.mem_filter.mpr ⟨List.mem_of_getElem? (i := 433) (by decide +kernel), by decide +kernel⟩
theorem co_yX1_read : Cond.code yX1_read cX1_read 4 (some .int) ∈ tb := List.mem_filter.mpr ⟨List.mem_of_getElem? (i := 434) (by decide +kernel), by decide +kernel⟩
theorem ml_X1_123 : Cond.methodLink RX1 123 yX1_pull ∈ tb := List.mem_filter.mpr ⟨List.mem_of_getElem? (i := 435) (by decide +kernel), by decide +kernel⟩
theorem ml_X1_126 : Cond.methodLink RX1 126 yX1_slow ∈ tb := List.mem_filter.mpr ⟨List.mem_of_getElem? (i := 436) (by decide +kernel), by decide +kernel⟩
theorem im_yX1_slow : Cond.instanceMethod yX1_slow ∈ tb := List.mem_filter.mpr ⟨List.mem_of_getElem? (i := 437) (by decide +kernel), by decide +kernel⟩
theorem se_RX1_yX1_slow : Cond.selects RX1 yX1_slow yX1_slow ∈ tb := List.mem_filter.mpr ⟨List.mem_of_getElem? (i := 438) (by decide +kernel), by decide +kernel⟩
theorem co_yX1_slow : Cond.code yX1_slow cX1_slow 2 (some .int) ∈ tb := List.mem_filter.mpr ⟨List.mem_of_getElem? (i := 439) (by decide +kernel), by decide +kernel⟩
theorem ml_X1_94 : Cond.methodLink RX1 94 yJ6_bitCount_0f7a4 ∈ tb := List.mem_filter.mpr ⟨List.mem_of_getElem? (i := 440) (by decide +kernel), by decide +kernel⟩
theorem ml_L_43 : Cond.methodLink RL 43 yX4_reads ∈ tb := List.mem_filter.mpr ⟨List.mem_of_getElem? (i := 765) (by decide +kernel), by decide +kernel⟩
theorem im_yX4_reads : Cond.instanceMethod yX4_reads ∈ tb := List.mem_filter.mpr ⟨List.mem_of_getElem? (i := 766) (by decide +kernel), by decide +kernel⟩
theorem se_RX4_yX4_reads : Cond.selects RX4 yX4_reads yX4_reads ∈ tb := List.mem_filter.mpr ⟨List.mem_of_getElem? (i := 767) (by decide +kernel), by decide +kernel⟩
theorem co_yX4_reads : Cond.code yX4_reads cX4_reads 2 (some .int) ∈ tb := List.mem_filter.mpr ⟨List.mem_of_getElem? (i := 768) (by decide +kernel), by decide +kernel⟩
theorem ml_X4_155 : Cond.methodLink RX4 155 yX4_readBy ∈ tb := List.mem_filter.mpr ⟨List.mem_of_getElem? (i := 769) (by decide +kernel), by decide +kernel⟩
theorem im_yX4_readBy : Cond.instanceMethod yX4_readBy ∈ tb := List.mem_filter.mpr ⟨List.mem_of_getElem? (i := 771) (by decide +kernel), by decide +kernel⟩
theorem se_RX4_yX4_readBy : Cond.selects RX4 yX4_readBy yX4_readBy ∈ tb := List.mem_filter.mpr ⟨List.mem_of_getElem? (i := 28) (by decide +kernel), by decide +kernel⟩
theorem co_yX4_readBy : Cond.code yX4_readBy cX4_readBy 4 (some .int) ∈ tb := List.mem_filter.mpr ⟨List.mem_of_getElem? (i := 772) (by decide +kernel), by decide +kernel⟩
theorem ml_X4_152 : Cond.methodLink RX4 152 yX4_slowCount ∈ tb := List.mem_filter.mpr ⟨List.mem_of_getElem? (i := 773) (by decide +kernel), by decide +kernel⟩
theorem im_yX4_slowCount : Cond.instanceMethod yX4_slowCount ∈ tb := List.mem_filter.mpr ⟨List.mem_of_getElem? (i := 775) (by decide +kernel), by decide +kernel⟩
theorem se_RX4_yX4_slowCount : Cond.selects RX4 yX4_slowCount yX4_slowCount ∈ tb := List.mem_filter.mpr ⟨List.mem_of_getElem? (i := 29) (by decide +kernel), by decide +kernel⟩
theorem co_yX4_slowCount : Cond.code yX4_slowCount cX4_slowCount 2 (some .int) ∈ tb := List.mem_filter.mpr ⟨List.mem_of_getElem? (i := 776) (by decide +kernel), by decide +kernel⟩
theorem ml_L_44 : Cond.methodLink RL 44 yX3_moves ∈ tb := List.mem_filter.mpr ⟨List.mem_of_getElem? (i := 441) (by decide +kernel), by decide +kernel⟩
theorem im_yX3_moves : Cond.instanceMethod yX3_moves ∈ tb := List.mem_filter.mpr ⟨List.mem_of_getElem? (i := 442) (by decide +kernel), by decide +kernel⟩
theorem se_RX3_yX3_moves : Cond.selects RX3 yX3_moves yX3_moves ∈ tb := List.mem_filter.mpr ⟨List.mem_of_getElem? (i := 443) (by decide +kernel), by decide +kernel⟩
theorem co_yX3_moves : Cond.code yX3_moves cX3_moves 5 (some .int) ∈ tb := List.mem_filter.mpr ⟨List.mem_of_getElem? (i := 444) (by decide +kernel), by decide +kernel⟩
theorem ml_X3_111 : Cond.methodLink RX3 111 yX1_left ∈ tb := List.mem_filter.mpr ⟨List.mem_of_getElem? (i := 445) (by decide +kernel), by decide +kernel⟩
theorem ml_X3_114 : Cond.methodLink RX3 114 yX1_move ∈ tb := List.mem_filter.mpr ⟨List.mem_of_getElem? (i := 446) (by decide +kernel), by decide +kernel⟩
theorem im_yX1_move : Cond.instanceMethod yX1_move ∈ tb := List.mem_filter.mpr ⟨List.mem_of_getElem? (i := 447) (by decide +kernel), by decide +kernel⟩
theorem se_RX1_yX1_move : Cond.selects RX1 yX1_move yX1_move ∈ tb := List.mem_filter.mpr ⟨List.mem_of_getElem? (i := 448) (by decide +kernel), by decide +kernel⟩
theorem co_yX1_move : Cond.code yX1_move cX1_move 5 (some .int) ∈ tb := List.mem_filter.mpr ⟨List.mem_of_getElem? (i := 449) (by decide +kernel), by decide +kernel⟩
theorem ml_L_48 : Cond.methodLink RL 48 yX4_moves ∈ tb := List.mem_filter.mpr ⟨List.mem_of_getElem? (i := 777) (by decide +kernel), by decide +kernel⟩
theorem im_yX4_moves : Cond.instanceMethod yX4_moves ∈ tb := List.mem_filter.mpr ⟨List.mem_of_getElem? (i := 778) (by decide +kernel), by decide +kernel⟩
theorem se_RX4_yX4_moves : Cond.selects RX4 yX4_moves yX4_moves ∈ tb := List.mem_filter.mpr ⟨List.mem_of_getElem? (i := 779) (by decide +kernel), by decide +kernel⟩
theorem co_yX4_moves : Cond.code yX4_moves cX4_moves 5 (some .int) ∈ tb := List.mem_filter.mpr ⟨List.mem_of_getElem? (i := 780) (by decide +kernel), by decide +kernel⟩
theorem ml_L_49 : Cond.methodLink RL 49 yX3_evens ∈ tb := List.mem_filter.mpr ⟨List.mem_of_getElem? (i := 450) (by decide +kernel), by decide +kernel⟩
theorem im_yX3_evens : Cond.instanceMethod yX3_evens ∈ tb := List.mem_filter.mpr ⟨List.mem_of_getElem? (i := 451) (by decide +kernel), by decide +kernel⟩
theorem se_RX3_yX3_evens : Cond.selects RX3 yX3_evens yX3_evens ∈ tb := List.mem_filter.mpr ⟨List.mem_of_getElem? (i := 452) (by decide +kernel), by decide +kernel⟩
theorem co_yX3_evens : Cond.code yX3_evens cX3_evens 2 (some .int) ∈ tb := List.mem_filter.mpr ⟨List.mem_of_getElem? (i := 453) (by decide +kernel), by decide +kernel⟩
theorem ml_X3_118 : Cond.methodLink RX3 118 yX1_even ∈ tb := List.mem_filter.mpr ⟨List.mem_of_getElem? (i := 454) (by decide +kernel), by decide +kernel⟩
theorem im_yX1_even : Cond.instanceMethod yX1_even ∈ tb := List.mem_filter.mpr ⟨List.mem_of_getElem? (i := 455) (by decide +kernel), by decide +kernel⟩
theorem se_RX1_yX1_even : Cond.selects RX1 yX1_even yX1_even ∈ tb := List.mem_filter.mpr ⟨List.mem_of_getElem? (i := 456) (by decide +kernel), by decide +kernel⟩
theorem co_yX1_even : Cond.code yX1_even cX1_even 4 (some .int) ∈ tb := List.mem_filter.mpr ⟨List.mem_of_getElem? (i := 457) (by decide +kernel), by decide +kernel⟩
theorem ml_L_52 : Cond.methodLink RL 52 yX4_evens ∈ tb := List.mem_filter.mpr ⟨List.mem_of_getElem? (i := 781) (by decide +kernel), by decide +kernel⟩
theorem im_yX4_evens : Cond.instanceMethod yX4_evens ∈ tb := List.mem_filter.mpr ⟨List.mem_of_getElem? (i := 782) (by decide +kernel), by decide +kernel⟩
theorem se_RX4_yX4_evens : Cond.selects RX4 yX4_evens yX4_evens ∈ tb := List.mem_filter.mpr ⟨List.mem_of_getElem? (i := 783) (by decide +kernel), by decide +kernel⟩
theorem co_yX4_evens : Cond.code yX4_evens cX4_evens 6 (some .int) ∈ tb := List.mem_filter.mpr ⟨List.mem_of_getElem? (i := 784) (by decide +kernel), by decide +kernel⟩
theorem ml_L_53 : Cond.methodLink RL 53 yX3_bounds ∈ tb := List.mem_filter.mpr ⟨List.mem_of_getElem? (i := 458) (by decide +kernel), by decide +kernel⟩
theorem im_yX3_bounds : Cond.instanceMethod yX3_bounds ∈ tb := List.mem_filter.mpr ⟨List.mem_of_getElem? (i := 459) (by decide +kernel), by decide +kernel⟩
theorem se_RX3_yX3_bounds : Cond.selects RX3 yX3_bounds yX3_bounds ∈ tb := List.mem_filter.mpr ⟨List.mem_of_getElem? (i := 460) (by decide +kernel), by decide +kernel⟩
theorem co_yX3_bounds : Cond.code yX3_bounds cX3_bounds 5 (some .int) ∈ tb := List.mem_filter.mpr ⟨List.mem_of_getElem? (i := 461) (by decide +kernel), by decide +kernel⟩
theorem ml_X3_121 : Cond.methodLink RX3 121 yX1_isBound ∈ tb := List.mem_filter.mpr ⟨List.mem_of_getElem? (i := 462) (by decide +kernel), by decide +kernel⟩
theorem im_yX1_isBound : Cond.instanceMethod yX1_isBound ∈ tb := List.mem_filter.mpr ⟨List.mem_of_getElem? (i := 463) (by decide +kernel), by decide +kernel⟩
theorem se_RX1_yX1_isBound : Cond.selects RX1 yX1_isBound yX1_isBound ∈ tb := List.mem_filter.mpr ⟨List.mem_of_getElem? (i := 464) (by decide +kernel), by decide +kernel⟩
theorem co_yX1_isBound : Cond.code yX1_isBound cX1_isBound 5 (some .boolean) ∈ tb := List.mem_filter.mpr ⟨List.mem_of_getElem? (i := 465) (by decide +kernel), by decide +kernel⟩
theorem ml_X3_125 : Cond.methodLink RX3 125 yX1_bindAnew ∈ tb := List.mem_filter.mpr ⟨List.mem_of_getElem? (i := 466) (by decide +kernel), by decide +kernel⟩
theorem im_yX1_bindAnew : Cond.instanceMethod yX1_bindAnew ∈ tb := List.mem_filter.mpr ⟨List.mem_of_getElem? (i := 467) (by decide +kernel), by decide +kernel⟩
theorem se_RX1_yX1_bindAnew : Cond.selects RX1 yX1_bindAnew yX1_bindAnew ∈ tb := List.mem_filter.mpr ⟨List.mem_of_getElem? (i := 468) (by decide +kernel), by decide +kernel⟩
theorem co_yX1_bindAnew : Cond.code yX1_bindAnew cX1_bindAnew 8 (some .int) ∈ tb := List.mem_filter.mpr ⟨List.mem_of_getElem? (i := 469) (by decide +kernel), by decide +kernel⟩
theorem ml_X1_129 : Cond.methodLink RX1 129 yX1_setBounds ∈ tb := List.mem_filter.mpr ⟨List.mem_of_getElem? (i := 470) (by decide +kernel), by decide +kernel⟩
theorem ml_L_56 : Cond.methodLink RL 56 yX4_bounds ∈ tb := List.mem_filter.mpr ⟨List.mem_of_getElem? (i := 785) (by decide +kernel), by decide +kernel⟩
theorem im_yX4_bounds : Cond.instanceMethod yX4_bounds ∈ tb := List.mem_filter.mpr ⟨List.mem_of_getElem? (i := 786) (by decide +kernel), by decide +kernel⟩
theorem se_RX4_yX4_bounds : Cond.selects RX4 yX4_bounds yX4_bounds ∈ tb := List.mem_filter.mpr ⟨List.mem_of_getElem? (i := 787) (by decide +kernel), by decide +kernel⟩
theorem co_yX4_bounds : Cond.code yX4_bounds cX4_bounds 9 (some .int) ∈ tb := List.mem_filter.mpr ⟨List.mem_of_getElem? (i := 788) (by decide +kernel), by decide +kernel⟩
theorem ml_L_57 : Cond.methodLink RL 57 yX3_undo ∈ tb := List.mem_filter.mpr ⟨List.mem_of_getElem? (i := 471) (by decide +kernel), by decide +kernel⟩
theorem im_yX3_undo : Cond.instanceMethod yX3_undo ∈ tb := List.mem_filter.mpr ⟨List.mem_of_getElem? (i := 472) (by decide +kernel), by decide +kernel⟩
theorem se_RX3_yX3_undo : Cond.selects RX3 yX3_undo yX3_undo ∈ tb := List.mem_filter.mpr ⟨List.mem_of_getElem? (i := 473) (by decide +kernel), by decide +kernel⟩
theorem co_yX3_undo : Cond.code yX3_undo cX3_undo 1 (some .int) ∈ tb := List.mem_filter.mpr ⟨List.mem_of_getElem? (i := 474) (by decide +kernel), by decide +kernel⟩
theorem fl_X3_128 : Cond.fieldLink RX3 128 "StaleBounds$History" "known" "I" ∈ tb := List.mem_filter.mpr ⟨List.mem_of_getElem? (i := 154) (by decide +kernel), by decide +kernel⟩
theorem ml_X3_131 : Cond.methodLink RX3 131 yX0_restore ∈ tb := List.mem_filter.mpr ⟨List.mem_of_getElem? (i := 475) (by decide +kernel), by decide +kernel⟩
theorem im_yX0_restore : Cond.instanceMethod yX0_restore ∈ tb := List.mem_filter.mpr ⟨List.mem_of_getElem? (i := 476) (by decide +kernel), by decide +kernel⟩
theorem se_RX0_yX0_restore : Cond.selects RX0 yX0_restore yX0_restore ∈ tb := List.mem_filter.mpr ⟨List.mem_of_getElem? (i := 477) (by decide +kernel), by decide +kernel⟩
theorem co_yX0_restore : Cond.code yX0_restore cX0_restore 2 none ∈ tb := List.mem_filter.mpr ⟨List.mem_of_getElem? (i := 478) (by decide +kernel), by decide +kernel⟩
theorem ml_L_60 : Cond.methodLink RL 60 yX4_undo ∈ tb := List.mem_filter.mpr ⟨List.mem_of_getElem? (i := 789) (by decide +kernel), by decide +kernel⟩
theorem im_yX4_undo : Cond.instanceMethod yX4_undo ∈ tb := List.mem_filter.mpr ⟨List.mem_of_getElem? (i := 790) (by decide +kernel), by decide +kernel⟩
theorem se_RX4_yX4_undo : Cond.selects RX4 yX4_undo yX4_undo ∈ tb := List.mem_filter.mpr ⟨List.mem_of_getElem? (i := 791) (by decide +kernel), by decide +kernel⟩
theorem co_yX4_undo : Cond.code yX4_undo cX4_undo 1 (some .int) ∈ tb := List.mem_filter.mpr ⟨List.mem_of_getElem? (i := 792) (by decide +kernel), by decide +kernel⟩
theorem ml_L_61 : Cond.methodLink RL 61 yX3_copy ∈ tb := List.mem_filter.mpr ⟨List.mem_of_getElem? (i := 479) (by decide +kernel), by decide +kernel⟩
theorem im_yX3_copy : Cond.instanceMethod yX3_copy ∈ tb := List.mem_filter.mpr ⟨List.mem_of_getElem? (i := 480) (by decide +kernel), by decide +kernel⟩
theorem se_RX3_yX3_copy : Cond.selects RX3 yX3_copy yX3_copy ∈ tb := List.mem_filter.mpr ⟨List.mem_of_getElem? (i := 481) (by decide +kernel), by decide +kernel⟩
theorem co_yX3_copy : Cond.code yX3_copy cX3_copy 3 (some .int) ∈ tb := List.mem_filter.mpr ⟨List.mem_of_getElem? (i := 482) (by decide +kernel), by decide +kernel⟩
theorem fl_X3_134 : Cond.fieldLink RX3 134 "StaleBounds$Ledger" "number" "[I" ∈ tb := List.mem_filter.mpr ⟨List.mem_of_getElem? (i := 95) (by decide +kernel), by decide +kernel⟩
theorem fl_X3_137 : Cond.fieldLink RX3 137 "StaleBounds$Ledger" "order" "[I" ∈ tb := List.mem_filter.mpr ⟨List.mem_of_getElem? (i := 97) (by decide +kernel), by decide +kernel⟩
theorem fl_X3_140 : Cond.fieldLink RX3 140 "StaleBounds$Ledger" "age" "[I" ∈ tb := List.mem_filter.mpr ⟨List.mem_of_getElem? (i := 99) (by decide +kernel), by decide +kernel⟩
theorem fl_X3_143 : Cond.fieldLink RX3 143 "StaleBounds$Ledger" "fast" "[I" ∈ tb := List.mem_filter.mpr ⟨List.mem_of_getElem? (i := 103) (by decide +kernel), by decide +kernel⟩
theorem ml_X3_146 : Cond.methodLink RX3 146 yX3_answerOf ∈ tb := List.mem_filter.mpr ⟨List.mem_of_getElem? (i := 483) (by decide +kernel), by decide +kernel⟩
theorem im_yX3_answerOf : Cond.instanceMethod yX3_answerOf ∈ tb := List.mem_filter.mpr ⟨List.mem_of_getElem? (i := 485) (by decide +kernel), by decide +kernel⟩
theorem se_RX3_yX3_answerOf : Cond.selects RX3 yX3_answerOf yX3_answerOf ∈ tb := List.mem_filter.mpr ⟨List.mem_of_getElem? (i := 2) (by decide +kernel), by decide +kernel⟩
theorem co_yX3_answerOf : Cond.code yX3_answerOf cX3_answerOf 3 (some .int) ∈ tb := List.mem_filter.mpr ⟨List.mem_of_getElem? (i := 486) (by decide +kernel), by decide +kernel⟩
theorem ml_X3_204 : Cond.methodLink RX3 204 yX1_sum ∈ tb := List.mem_filter.mpr ⟨List.mem_of_getElem? (i := 487) (by decide +kernel), by decide +kernel⟩
theorem im_yX1_sum : Cond.instanceMethod yX1_sum ∈ tb := List.mem_filter.mpr ⟨List.mem_of_getElem? (i := 488) (by decide +kernel), by decide +kernel⟩
theorem se_RX1_yX1_sum : Cond.selects RX1 yX1_sum yX1_sum ∈ tb := List.mem_filter.mpr ⟨List.mem_of_getElem? (i := 489) (by decide +kernel), by decide +kernel⟩
theorem co_yX1_sum : Cond.code yX1_sum cX1_sum 2 (some .int) ∈ tb := List.mem_filter.mpr ⟨List.mem_of_getElem? (i := 490) (by decide +kernel), by decide +kernel⟩
theorem ml_X3_207 : Cond.methodLink RX3 207 yX1_slow ∈ tb := List.mem_filter.mpr ⟨List.mem_of_getElem? (i := 491) (by decide +kernel), by decide +kernel⟩
theorem ml_X3_149 : Cond.methodLink RX3 149 yX1_lack ∈ tb := List.mem_filter.mpr ⟨List.mem_of_getElem? (i := 492) (by decide +kernel), by decide +kernel⟩
theorem im_yX1_lack : Cond.instanceMethod yX1_lack ∈ tb := List.mem_filter.mpr ⟨List.mem_of_getElem? (i := 493) (by decide +kernel), by decide +kernel⟩
theorem se_RX1_yX1_lack : Cond.selects RX1 yX1_lack yX1_lack ∈ tb := List.mem_filter.mpr ⟨List.mem_of_getElem? (i := 494) (by decide +kernel), by decide +kernel⟩
theorem co_yX1_lack : Cond.code yX1_lack cX1_lack 2 (some .int) ∈ tb := List.mem_filter.mpr ⟨List.mem_of_getElem? (i := 495) (by decide +kernel), by decide +kernel⟩
theorem ml_X1_90 : Cond.methodLink RX1 90 yX1_allWrites ∈ tb := List.mem_filter.mpr ⟨List.mem_of_getElem? (i := 496) (by decide +kernel), by decide +kernel⟩
theorem im_yX1_allWrites : Cond.instanceMethod yX1_allWrites ∈ tb := List.mem_filter.mpr ⟨List.mem_of_getElem? (i := 497) (by decide +kernel), by decide +kernel⟩
theorem se_RX1_yX1_allWrites : Cond.selects RX1 yX1_allWrites yX1_allWrites ∈ tb := List.mem_filter.mpr ⟨List.mem_of_getElem? (i := 498) (by decide +kernel), by decide +kernel⟩
theorem co_yX1_allWrites : Cond.code yX1_allWrites cX1_allWrites 1 (some .int) ∈ tb := List.mem_filter.mpr ⟨List.mem_of_getElem? (i := 499) (by decide +kernel), by decide +kernel⟩
theorem ml_X3_152 : Cond.methodLink RX3 152 yX1_spare ∈ tb := List.mem_filter.mpr ⟨List.mem_of_getElem? (i := 500) (by decide +kernel), by decide +kernel⟩
theorem im_yX1_spare : Cond.instanceMethod yX1_spare ∈ tb := List.mem_filter.mpr ⟨List.mem_of_getElem? (i := 501) (by decide +kernel), by decide +kernel⟩
theorem se_RX1_yX1_spare : Cond.selects RX1 yX1_spare yX1_spare ∈ tb := List.mem_filter.mpr ⟨List.mem_of_getElem? (i := 502) (by decide +kernel), by decide +kernel⟩
theorem co_yX1_spare : Cond.code yX1_spare cX1_spare 4 (some .int) ∈ tb := List.mem_filter.mpr ⟨List.mem_of_getElem? (i := 503) (by decide +kernel), by decide +kernel⟩
theorem ml_X1_108 : Cond.methodLink RX1 108 Lib.Math.min.name ∈ tb := List.mem_filter.mpr ⟨List.mem_of_getElem? (i := 504) (by decide +kernel), by decide +kernel⟩
theorem ml_L_64 : Cond.methodLink RL 64 yX4_copy ∈ tb := List.mem_filter.mpr ⟨List.mem_of_getElem? (i := 793) (by decide +kernel), by decide +kernel⟩
theorem im_yX4_copy : Cond.instanceMethod yX4_copy ∈ tb := List.mem_filter.mpr ⟨List.mem_of_getElem? (i := 794) (by decide +kernel), by decide +kernel⟩
theorem se_RX4_yX4_copy : Cond.selects RX4 yX4_copy yX4_copy ∈ tb := List.mem_filter.mpr ⟨List.mem_of_getElem? (i := 795) (by decide +kernel), by decide +kernel⟩
theorem co_yX4_copy : Cond.code yX4_copy cX4_copy 3 (some .int) ∈ tb := List.mem_filter.mpr ⟨List.mem_of_getElem? (i := 796) (by decide +kernel), by decide +kernel⟩
theorem ml_X4_167 : Cond.methodLink RX4 167 yX4_readCost ∈ tb := List.mem_filter.mpr ⟨List.mem_of_getElem? (i := 797) (by decide +kernel), by decide +kernel⟩
theorem im_yX4_readCost : Cond.instanceMethod yX4_readCost ∈ tb := List.mem_filter.mpr ⟨List.mem_of_getElem? (i := 799) (by decide +kernel), by decide +kernel⟩
theorem se_RX4_yX4_readCost : Cond.selects RX4 yX4_readCost yX4_readCost ∈ tb := List.mem_filter.mpr ⟨List.mem_of_getElem? (i := 30) (by decide +kernel), by decide +kernel⟩
theorem co_yX4_readCost : Cond.code yX4_readCost cX4_readCost 3 (some .int) ∈ tb := List.mem_filter.mpr ⟨List.mem_of_getElem? (i := 800) (by decide +kernel), by decide +kernel⟩
theorem ml_X4_170 : Cond.methodLink RX4 170 yX4_spare ∈ tb := List.mem_filter.mpr ⟨List.mem_of_getElem? (i := 801) (by decide +kernel), by decide +kernel⟩
theorem im_yX4_spare : Cond.instanceMethod yX4_spare ∈ tb := List.mem_filter.mpr ⟨List.mem_of_getElem? (i := 803) (by decide +kernel), by decide +kernel⟩
theorem se_RX4_yX4_spare : Cond.selects RX4 yX4_spare yX4_spare ∈ tb := List.mem_filter.mpr ⟨List.mem_of_getElem? (i := 31) (by decide +kernel), by decide +kernel⟩
theorem co_yX4_spare : Cond.code yX4_spare cX4_spare 5 (some .int) ∈ tb := List.mem_filter.mpr ⟨List.mem_of_getElem? (i := 804) (by decide +kernel), by decide +kernel⟩
theorem ml_L_65 : Cond.methodLink RL 65 yX3_pair ∈ tb := List.mem_filter.mpr ⟨List.mem_of_getElem? (i := 505) (by decide +kernel), by decide +kernel⟩
theorem im_yX3_pair : Cond.instanceMethod yX3_pair ∈ tb := List.mem_filter.mpr ⟨List.mem_of_getElem? (i := 506) (by decide +kernel), by decide +kernel⟩
theorem se_RX3_yX3_pair : Cond.selects RX3 yX3_pair yX3_pair ∈ tb := List.mem_filter.mpr ⟨List.mem_of_getElem? (i := 507) (by decide +kernel), by decide +kernel⟩
theorem co_yX3_pair : Cond.code yX3_pair cX3_pair 4 (some .int) ∈ tb := List.mem_filter.mpr ⟨List.mem_of_getElem? (i := 508) (by decide +kernel), by decide +kernel⟩
theorem fl_X3_155 : Cond.fieldLink RX3 155 "StaleBounds$Ledger" "heard" "[I" ∈ tb := List.mem_filter.mpr ⟨List.mem_of_getElem? (i := 105) (by decide +kernel), by decide +kernel⟩
theorem fl_X3_161 : Cond.fieldLink RX3 161 "StaleBounds$Ledger" "budget" "[I" ∈ tb := List.mem_filter.mpr ⟨List.mem_of_getElem? (i := 107) (by decide +kernel), by decide +kernel⟩
theorem ml_X3_158 : Cond.methodLink RX3 158 yX3_slot ∈ tb := List.mem_filter.mpr ⟨List.mem_of_getElem? (i := 509) (by decide +kernel), by decide +kernel⟩
theorem ml_X3_164 : Cond.methodLink RX3 164 yX1_owed ∈ tb := List.mem_filter.mpr ⟨List.mem_of_getElem? (i := 510) (by decide +kernel), by decide +kernel⟩
theorem ml_L_69 : Cond.methodLink RL 69 yX4_pair ∈ tb := List.mem_filter.mpr ⟨List.mem_of_getElem? (i := 805) (by decide +kernel), by decide +kernel⟩
theorem im_yX4_pair : Cond.instanceMethod yX4_pair ∈ tb := List.mem_filter.mpr ⟨List.mem_of_getElem? (i := 806) (by decide +kernel), by decide +kernel⟩
theorem se_RX4_yX4_pair : Cond.selects RX4 yX4_pair yX4_pair ∈ tb := List.mem_filter.mpr ⟨List.mem_of_getElem? (i := 807) (by decide +kernel), by decide +kernel⟩
theorem co_yX4_pair : Cond.code yX4_pair cX4_pair 4 (some .int) ∈ tb := List.mem_filter.mpr ⟨List.mem_of_getElem? (i := 808) (by decide +kernel), by decide +kernel⟩
theorem ml_L_70 : Cond.methodLink RL 70 yX3_write ∈ tb := List.mem_filter.mpr ⟨List.mem_of_getElem? (i := 511) (by decide +kernel), by decide +kernel⟩
theorem im_yX3_write : Cond.instanceMethod yX3_write ∈ tb := List.mem_filter.mpr ⟨List.mem_of_getElem? (i := 512) (by decide +kernel), by decide +kernel⟩
theorem se_RX3_yX3_write : Cond.selects RX3 yX3_write yX3_write ∈ tb := List.mem_filter.mpr ⟨List.mem_of_getElem? (i := 513) (by decide +kernel), by decide +kernel⟩
theorem co_yX3_write : Cond.code yX3_write cX3_write 3 (some .int) ∈ tb := List.mem_filter.mpr ⟨List.mem_of_getElem? (i := 514) (by decide +kernel), by decide +kernel⟩
theorem fl_X3_167 : Cond.fieldLink RX3 167 "StaleBounds$Ledger" "acceptedBy" "[I" ∈ tb := List.mem_filter.mpr ⟨List.mem_of_getElem? (i := 109) (by decide +kernel), by decide +kernel⟩
theorem fl_X3_170 : Cond.fieldLink RX3 170 "StaleBounds$Ledger" "weight" "[I" ∈ tb := List.mem_filter.mpr ⟨List.mem_of_getElem? (i := 113) (by decide +kernel), by decide +kernel⟩
theorem fl_X3_173 : Cond.fieldLink RX3 173 "StaleBounds$Ledger" "acceptedAt" "[I" ∈ tb := List.mem_filter.mpr ⟨List.mem_of_getElem? (i := 111) (by decide +kernel), by decide +kernel⟩
theorem ml_X3_176 : Cond.methodLink RX3 176 yX1_copiesWith ∈ tb := List.mem_filter.mpr ⟨List.mem_of_getElem? (i := 515) (by decide +kernel), by decide +kernel⟩
theorem im_yX1_copiesWith : Cond.instanceMethod yX1_copiesWith ∈ tb := List.mem_filter.mpr ⟨List.mem_of_getElem? (i := 516) (by decide +kernel), by decide +kernel⟩
theorem se_RX1_yX1_copiesWith : Cond.selects RX1 yX1_copiesWith yX1_copiesWith ∈ tb := List.mem_filter.mpr ⟨List.mem_of_getElem? (i := 517) (by decide +kernel), by decide +kernel⟩
theorem co_yX1_copiesWith : Cond.code yX1_copiesWith cX1_copiesWith 5 (some .int) ∈ tb := List.mem_filter.mpr ⟨List.mem_of_getElem? (i := 518) (by decide +kernel), by decide +kernel⟩
theorem ml_L_73 : Cond.methodLink RL 73 yX4_write ∈ tb := List.mem_filter.mpr ⟨List.mem_of_getElem? (i := 809) (by decide +kernel), by decide +kernel⟩
theorem im_yX4_write : Cond.instanceMethod yX4_write ∈ tb := List.mem_filter.mpr ⟨List.mem_of_getElem? (i := 810) (by decide +kernel), by decide +kernel⟩
theorem se_RX4_yX4_write : Cond.selects RX4 yX4_write yX4_write ∈ tb := List.mem_filter.mpr ⟨List.mem_of_getElem? (i := 811) (by decide +kernel), by decide +kernel⟩
theorem co_yX4_write : Cond.code yX4_write cX4_write 3 (some .int) ∈ tb := List.mem_filter.mpr ⟨List.mem_of_getElem? (i := 812) (by decide +kernel), by decide +kernel⟩
theorem ml_X4_173 : Cond.methodLink RX4 173 yX4_holders ∈ tb := List.mem_filter.mpr ⟨List.mem_of_getElem? (i := 813) (by decide +kernel), by decide +kernel⟩
theorem im_yX4_holders : Cond.instanceMethod yX4_holders ∈ tb := List.mem_filter.mpr ⟨List.mem_of_getElem? (i := 815) (by decide +kernel), by decide +kernel⟩
theorem se_RX4_yX4_holders : Cond.selects RX4 yX4_holders yX4_holders ∈ tb := List.mem_filter.mpr ⟨List.mem_of_getElem? (i := 32) (by decide +kernel), by decide +kernel⟩
theorem co_yX4_holders : Cond.code yX4_holders cX4_holders 5 (some .int) ∈ tb := List.mem_filter.mpr ⟨List.mem_of_getElem? (i := 816) (by decide +kernel), by decide +kernel⟩
theorem ml_L_74 : Cond.methodLink RL 74 yX3_costs ∈ tb := List.mem_filter.mpr ⟨List.mem_of_getElem? (i := 519) (by decide +kernel), by decide +kernel⟩
theorem im_yX3_costs : Cond.instanceMethod yX3_costs ∈ tb := List.mem_filter.mpr ⟨List.mem_of_getElem? (i := 520) (by decide +kernel), by decide +kernel⟩
theorem se_RX3_yX3_costs : Cond.selects RX3 yX3_costs yX3_costs ∈ tb := List.mem_filter.mpr ⟨List.mem_of_getElem? (i := 521) (by decide +kernel), by decide +kernel⟩
theorem co_yX3_costs : Cond.code yX3_costs cX3_costs 3 (some .int) ∈ tb := List.mem_filter.mpr ⟨List.mem_of_getElem? (i := 522) (by decide +kernel), by decide +kernel⟩
theorem ml_X3_180 : Cond.methodLink RX3 180 yX1_pushesFor ∈ tb := List.mem_filter.mpr ⟨List.mem_of_getElem? (i := 523) (by decide +kernel), by decide +kernel⟩
theorem im_yX1_pushesFor : Cond.instanceMethod yX1_pushesFor ∈ tb := List.mem_filter.mpr ⟨List.mem_of_getElem? (i := 524) (by decide +kernel), by decide +kernel⟩
theorem se_RX1_yX1_pushesFor : Cond.selects RX1 yX1_pushesFor yX1_pushesFor ∈ tb := List.mem_filter.mpr ⟨List.mem_of_getElem? (i := 525) (by decide +kernel), by decide +kernel⟩
theorem co_yX1_pushesFor : Cond.code yX1_pushesFor cX1_pushesFor 5 (some .int) ∈ tb := List.mem_filter.mpr ⟨List.mem_of_getElem? (i := 526) (by decide +kernel), by decide +kernel⟩
theorem ml_L_77 : Cond.methodLink RL 77 yX4_costs ∈ tb := List.mem_filter.mpr ⟨List.mem_of_getElem? (i := 817) (by decide +kernel), by decide +kernel⟩
theorem im_yX4_costs : Cond.instanceMethod yX4_costs ∈ tb := List.mem_filter.mpr ⟨List.mem_of_getElem? (i := 818) (by decide +kernel), by decide +kernel⟩
theorem se_RX4_yX4_costs : Cond.selects RX4 yX4_costs yX4_costs ∈ tb := List.mem_filter.mpr ⟨List.mem_of_getElem? (i := 819) (by decide +kernel), by decide +kernel⟩
theorem co_yX4_costs : Cond.code yX4_costs cX4_costs 5 (some .int) ∈ tb := List.mem_filter.mpr ⟨List.mem_of_getElem? (i := 820) (by decide +kernel), by decide +kernel⟩
theorem ml_L_78 : Cond.methodLink RL 78 yX3_sees ∈ tb := List.mem_filter.mpr ⟨List.mem_of_getElem? (i := 527) (by decide +kernel), by decide +kernel⟩
theorem im_yX3_sees : Cond.instanceMethod yX3_sees ∈ tb := List.mem_filter.mpr ⟨List.mem_of_getElem? (i := 528) (by decide +kernel), by decide +kernel⟩
theorem se_RX3_yX3_sees : Cond.selects RX3 yX3_sees yX3_sees ∈ tb := List.mem_filter.mpr ⟨List.mem_of_getElem? (i := 529) (by decide +kernel), by decide +kernel⟩
theorem co_yX3_sees : Cond.code yX3_sees cX3_sees 3 (some .int) ∈ tb := List.mem_filter.mpr ⟨List.mem_of_getElem? (i := 530) (by decide +kernel), by decide +kernel⟩
theorem ml_L_81 : Cond.methodLink RL 81 yX4_sees ∈ tb := List.mem_filter.mpr ⟨List.mem_of_getElem? (i := 821) (by decide +kernel), by decide +kernel⟩
theorem im_yX4_sees : Cond.instanceMethod yX4_sees ∈ tb := List.mem_filter.mpr ⟨List.mem_of_getElem? (i := 822) (by decide +kernel), by decide +kernel⟩
theorem se_RX4_yX4_sees : Cond.selects RX4 yX4_sees yX4_sees ∈ tb := List.mem_filter.mpr ⟨List.mem_of_getElem? (i := 823) (by decide +kernel), by decide +kernel⟩
theorem co_yX4_sees : Cond.code yX4_sees cX4_sees 3 (some .int) ∈ tb := List.mem_filter.mpr ⟨List.mem_of_getElem? (i := 824) (by decide +kernel), by decide +kernel⟩
theorem fl_X4_176 : Cond.fieldLink RX4 176 "StaleBoundsModel" "facts" "I" ∈ tb := List.mem_filter.mpr ⟨List.mem_of_getElem? (i := 610) (by decide +kernel), by decide +kernel⟩
theorem ml_L_82 : Cond.methodLink RL 82 yX3_forget ∈ tb := List.mem_filter.mpr ⟨List.mem_of_getElem? (i := 531) (by decide +kernel), by decide +kernel⟩
theorem im_yX3_forget : Cond.instanceMethod yX3_forget ∈ tb := List.mem_filter.mpr ⟨List.mem_of_getElem? (i := 532) (by decide +kernel), by decide +kernel⟩
theorem se_RX3_yX3_forget : Cond.selects RX3 yX3_forget yX3_forget ∈ tb := List.mem_filter.mpr ⟨List.mem_of_getElem? (i := 533) (by decide +kernel), by decide +kernel⟩
theorem co_yX3_forget : Cond.code yX3_forget cX3_forget 2 (some .int) ∈ tb := List.mem_filter.mpr ⟨List.mem_of_getElem? (i := 534) (by decide +kernel), by decide +kernel⟩
theorem ml_L_85 : Cond.methodLink RL 85 yX4_forget ∈ tb := List.mem_filter.mpr ⟨List.mem_of_getElem? (i := 825) (by decide +kernel), by decide +kernel⟩
theorem im_yX4_forget : Cond.instanceMethod yX4_forget ∈ tb := List.mem_filter.mpr ⟨List.mem_of_getElem? (i := 826) (by decide +kernel), by decide +kernel⟩
theorem se_RX4_yX4_forget : Cond.selects RX4 yX4_forget yX4_forget ∈ tb := List.mem_filter.mpr ⟨List.mem_of_getElem? (i := 827) (by decide +kernel), by decide +kernel⟩
theorem co_yX4_forget : Cond.code yX4_forget cX4_forget 2 (some .int) ∈ tb := List.mem_filter.mpr ⟨List.mem_of_getElem? (i := 828) (by decide +kernel), by decide +kernel⟩
theorem ml_L_86 : Cond.methodLink RL 86 yX3_which ∈ tb := List.mem_filter.mpr ⟨List.mem_of_getElem? (i := 535) (by decide +kernel), by decide +kernel⟩
theorem im_yX3_which : Cond.instanceMethod yX3_which ∈ tb := List.mem_filter.mpr ⟨List.mem_of_getElem? (i := 536) (by decide +kernel), by decide +kernel⟩
theorem se_RX3_yX3_which : Cond.selects RX3 yX3_which yX3_which ∈ tb := List.mem_filter.mpr ⟨List.mem_of_getElem? (i := 537) (by decide +kernel), by decide +kernel⟩
theorem co_yX3_which : Cond.code yX3_which cX3_which 3 (some .int) ∈ tb := List.mem_filter.mpr ⟨List.mem_of_getElem? (i := 538) (by decide +kernel), by decide +kernel⟩
theorem ml_X3_186 : Cond.methodLink RX3 186 yX3_fitsAllSeen ∈ tb := List.mem_filter.mpr ⟨List.mem_of_getElem? (i := 539) (by decide +kernel), by decide +kernel⟩
theorem im_yX3_fitsAllSeen : Cond.instanceMethod yX3_fitsAllSeen ∈ tb := List.mem_filter.mpr ⟨List.mem_of_getElem? (i := 541) (by decide +kernel), by decide +kernel⟩
theorem se_RX3_yX3_fitsAllSeen : Cond.selects RX3 yX3_fitsAllSeen yX3_fitsAllSeen ∈ tb := List.mem_filter.mpr ⟨List.mem_of_getElem? (i := 3) (by decide +kernel), by decide +kernel⟩
theorem co_yX3_fitsAllSeen : Cond.code yX3_fitsAllSeen cX3_fitsAllSeen 3 (some .boolean) ∈ tb := List.mem_filter.mpr ⟨List.mem_of_getElem? (i := 542) (by decide +kernel), by decide +kernel⟩
theorem ml_L_89 : Cond.methodLink RL 89 yX4_which ∈ tb := List.mem_filter.mpr ⟨List.mem_of_getElem? (i := 829) (by decide +kernel), by decide +kernel⟩
theorem im_yX4_which : Cond.instanceMethod yX4_which ∈ tb := List.mem_filter.mpr ⟨List.mem_of_getElem? (i := 830) (by decide +kernel), by decide +kernel⟩
theorem se_RX4_yX4_which : Cond.selects RX4 yX4_which yX4_which ∈ tb := List.mem_filter.mpr ⟨List.mem_of_getElem? (i := 831) (by decide +kernel), by decide +kernel⟩
theorem co_yX4_which : Cond.code yX4_which cX4_which 1 (some .int) ∈ tb := List.mem_filter.mpr ⟨List.mem_of_getElem? (i := 832) (by decide +kernel), by decide +kernel⟩
theorem ml_X4_182 : Cond.methodLink RX4 182 yX4_candidates ∈ tb := List.mem_filter.mpr ⟨List.mem_of_getElem? (i := 833) (by decide +kernel), by decide +kernel⟩
theorem im_yX4_candidates : Cond.instanceMethod yX4_candidates ∈ tb := List.mem_filter.mpr ⟨List.mem_of_getElem? (i := 835) (by decide +kernel), by decide +kernel⟩
theorem se_RX4_yX4_candidates : Cond.selects RX4 yX4_candidates yX4_candidates ∈ tb := List.mem_filter.mpr ⟨List.mem_of_getElem? (i := 33) (by decide +kernel), by decide +kernel⟩
theorem co_yX4_candidates : Cond.code yX4_candidates cX4_candidates 5 (some .int) ∈ tb := List.mem_filter.mpr ⟨List.mem_of_getElem? (i := 836) (by decide +kernel), by decide +kernel⟩
theorem ml_X4_179 : Cond.methodLink RX4 179 yX4_property ∈ tb := List.mem_filter.mpr ⟨List.mem_of_getElem? (i := 837) (by decide +kernel), by decide +kernel⟩
theorem im_yX4_property : Cond.instanceMethod yX4_property ∈ tb := List.mem_filter.mpr ⟨List.mem_of_getElem? (i := 839) (by decide +kernel), by decide +kernel⟩
theorem se_RX4_yX4_property : Cond.selects RX4 yX4_property yX4_property ∈ tb := List.mem_filter.mpr ⟨List.mem_of_getElem? (i := 34) (by decide +kernel), by decide +kernel⟩
theorem co_yX4_property : Cond.code yX4_property cX4_property 3 (some .int) ∈ tb := List.mem_filter.mpr ⟨List.mem_of_getElem? (i := 840) (by decide +kernel), by decide +kernel⟩
theorem ml_L_90 : Cond.methodLink RL 90 yX3_ask ∈ tb := List.mem_filter.mpr ⟨List.mem_of_getElem? (i := 543) (by decide +kernel), by decide +kernel⟩
theorem im_yX3_ask : Cond.instanceMethod yX3_ask ∈ tb := List.mem_filter.mpr ⟨List.mem_of_getElem? (i := 544) (by decide +kernel), by decide +kernel⟩
theorem se_RX3_yX3_ask : Cond.selects RX3 yX3_ask yX3_ask ∈ tb := List.mem_filter.mpr ⟨List.mem_of_getElem? (i := 545) (by decide +kernel), by decide +kernel⟩
theorem co_yX3_ask : Cond.code yX3_ask cX3_ask 6 (some .int) ∈ tb := List.mem_filter.mpr ⟨List.mem_of_getElem? (i := 546) (by decide +kernel), by decide +kernel⟩
theorem ml_X3_189 : Cond.methodLink RX3 189 yX3_which ∈ tb := List.mem_filter.mpr ⟨List.mem_of_getElem? (i := 547) (by decide +kernel), by decide +kernel⟩
theorem ml_X3_192 : Cond.methodLink RX3 192 yX3_mostAlike ∈ tb := List.mem_filter.mpr ⟨List.mem_of_getElem? (i := 548) (by decide +kernel), by decide +kernel⟩
theorem im_yX3_mostAlike : Cond.instanceMethod yX3_mostAlike ∈ tb := List.mem_filter.mpr ⟨List.mem_of_getElem? (i := 550) (by decide +kernel), by decide +kernel⟩
theorem se_RX3_yX3_mostAlike : Cond.selects RX3 yX3_mostAlike yX3_mostAlike ∈ tb := List.mem_filter.mpr ⟨List.mem_of_getElem? (i := 4) (by decide +kernel), by decide +kernel⟩
theorem co_yX3_mostAlike : Cond.code yX3_mostAlike cX3_mostAlike 5 (some .int) ∈ tb := List.mem_filter.mpr ⟨List.mem_of_getElem? (i := 551) (by decide +kernel), by decide +kernel⟩
theorem ml_X3_216 : Cond.methodLink RX3 216 Lib.Math.max.name ∈ tb := List.mem_filter.mpr ⟨List.mem_of_getElem? (i := 557) (by decide +kernel), by decide +kernel⟩
theorem ml_X3_210 : Cond.methodLink RX3 210 yX3_hasBit ∈ tb := List.mem_filter.mpr ⟨List.mem_of_getElem? (i := 552) (by decide +kernel), by decide +kernel⟩
theorem ml_X3_213 : Cond.methodLink RX3 213 yX3_alikeWith ∈ tb := List.mem_filter.mpr ⟨List.mem_of_getElem? (i := 553) (by decide +kernel), by decide +kernel⟩
theorem im_yX3_alikeWith : Cond.instanceMethod yX3_alikeWith ∈ tb := List.mem_filter.mpr ⟨List.mem_of_getElem? (i := 555) (by decide +kernel), by decide +kernel⟩
theorem se_RX3_yX3_alikeWith : Cond.selects RX3 yX3_alikeWith yX3_alikeWith ∈ tb := List.mem_filter.mpr ⟨List.mem_of_getElem? (i := 5) (by decide +kernel), by decide +kernel⟩
theorem co_yX3_alikeWith : Cond.code yX3_alikeWith cX3_alikeWith 5 (some .int) ∈ tb := List.mem_filter.mpr ⟨List.mem_of_getElem? (i := 556) (by decide +kernel), by decide +kernel⟩
theorem ml_L_93 : Cond.methodLink RL 93 yX4_ask ∈ tb := List.mem_filter.mpr ⟨List.mem_of_getElem? (i := 841) (by decide +kernel), by decide +kernel⟩
theorem im_yX4_ask : Cond.instanceMethod yX4_ask ∈ tb := List.mem_filter.mpr ⟨List.mem_of_getElem? (i := 842) (by decide +kernel), by decide +kernel⟩
theorem se_RX4_yX4_ask : Cond.selects RX4 yX4_ask yX4_ask ∈ tb := List.mem_filter.mpr ⟨List.mem_of_getElem? (i := 843) (by decide +kernel), by decide +kernel⟩
theorem co_yX4_ask : Cond.code yX4_ask cX4_ask 6 (some .int) ∈ tb := List.mem_filter.mpr ⟨List.mem_of_getElem? (i := 844) (by decide +kernel), by decide +kernel⟩
theorem ml_X4_185 : Cond.methodLink RX4 185 yX4_largestGroup ∈ tb := List.mem_filter.mpr ⟨List.mem_of_getElem? (i := 845) (by decide +kernel), by decide +kernel⟩
theorem im_yX4_largestGroup : Cond.instanceMethod yX4_largestGroup ∈ tb := List.mem_filter.mpr ⟨List.mem_of_getElem? (i := 847) (by decide +kernel), by decide +kernel⟩
theorem se_RX4_yX4_largestGroup : Cond.selects RX4 yX4_largestGroup yX4_largestGroup ∈ tb := List.mem_filter.mpr ⟨List.mem_of_getElem? (i := 35) (by decide +kernel), by decide +kernel⟩
theorem co_yX4_largestGroup : Cond.code yX4_largestGroup cX4_largestGroup 8 (some .int) ∈ tb := List.mem_filter.mpr ⟨List.mem_of_getElem? (i := 848) (by decide +kernel), by decide +kernel⟩
theorem ml_L_94 : Cond.methodLink RL 94 yX3_keep ∈ tb := List.mem_filter.mpr ⟨List.mem_of_getElem? (i := 558) (by decide +kernel), by decide +kernel⟩
theorem im_yX3_keep : Cond.instanceMethod yX3_keep ∈ tb := List.mem_filter.mpr ⟨List.mem_of_getElem? (i := 559) (by decide +kernel), by decide +kernel⟩
theorem se_RX3_yX3_keep : Cond.selects RX3 yX3_keep yX3_keep ∈ tb := List.mem_filter.mpr ⟨List.mem_of_getElem? (i := 560) (by decide +kernel), by decide +kernel⟩
theorem co_yX3_keep : Cond.code yX3_keep cX3_keep 2 (some .int) ∈ tb := List.mem_filter.mpr ⟨List.mem_of_getElem? (i := 561) (by decide +kernel), by decide +kernel⟩
theorem ml_L_97 : Cond.methodLink RL 97 yX4_keep ∈ tb := List.mem_filter.mpr ⟨List.mem_of_getElem? (i := 849) (by decide +kernel), by decide +kernel⟩
theorem im_yX4_keep : Cond.instanceMethod yX4_keep ∈ tb := List.mem_filter.mpr ⟨List.mem_of_getElem? (i := 850) (by decide +kernel), by decide +kernel⟩
theorem se_RX4_yX4_keep : Cond.selects RX4 yX4_keep yX4_keep ∈ tb := List.mem_filter.mpr ⟨List.mem_of_getElem? (i := 851) (by decide +kernel), by decide +kernel⟩
theorem co_yX4_keep : Cond.code yX4_keep cX4_keep 2 (some .int) ∈ tb := List.mem_filter.mpr ⟨List.mem_of_getElem? (i := 852) (by decide +kernel), by decide +kernel⟩
theorem ml_L_98 : Cond.methodLink RL 98 yX3_back ∈ tb := List.mem_filter.mpr ⟨List.mem_of_getElem? (i := 562) (by decide +kernel), by decide +kernel⟩
theorem im_yX3_back : Cond.instanceMethod yX3_back ∈ tb := List.mem_filter.mpr ⟨List.mem_of_getElem? (i := 563) (by decide +kernel), by decide +kernel⟩
theorem se_RX3_yX3_back : Cond.selects RX3 yX3_back yX3_back ∈ tb := List.mem_filter.mpr ⟨List.mem_of_getElem? (i := 564) (by decide +kernel), by decide +kernel⟩
theorem co_yX3_back : Cond.code yX3_back cX3_back 2 (some .int) ∈ tb := List.mem_filter.mpr ⟨List.mem_of_getElem? (i := 565) (by decide +kernel), by decide +kernel⟩
theorem ml_X3_195 : Cond.methodLink RX3 195 yX0_lose ∈ tb := List.mem_filter.mpr ⟨List.mem_of_getElem? (i := 566) (by decide +kernel), by decide +kernel⟩
theorem im_yX0_lose : Cond.instanceMethod yX0_lose ∈ tb := List.mem_filter.mpr ⟨List.mem_of_getElem? (i := 567) (by decide +kernel), by decide +kernel⟩
theorem se_RX0_yX0_lose : Cond.selects RX0 yX0_lose yX0_lose ∈ tb := List.mem_filter.mpr ⟨List.mem_of_getElem? (i := 568) (by decide +kernel), by decide +kernel⟩
theorem co_yX0_lose : Cond.code yX0_lose cX0_lose 1 none ∈ tb := List.mem_filter.mpr ⟨List.mem_of_getElem? (i := 569) (by decide +kernel), by decide +kernel⟩
theorem ml_L_101 : Cond.methodLink RL 101 yX4_back ∈ tb := List.mem_filter.mpr ⟨List.mem_of_getElem? (i := 853) (by decide +kernel), by decide +kernel⟩
theorem im_yX4_back : Cond.instanceMethod yX4_back ∈ tb := List.mem_filter.mpr ⟨List.mem_of_getElem? (i := 854) (by decide +kernel), by decide +kernel⟩
theorem se_RX4_yX4_back : Cond.selects RX4 yX4_back yX4_back ∈ tb := List.mem_filter.mpr ⟨List.mem_of_getElem? (i := 855) (by decide +kernel), by decide +kernel⟩
theorem co_yX4_back : Cond.code yX4_back cX4_back 2 (some .int) ∈ tb := List.mem_filter.mpr ⟨List.mem_of_getElem? (i := 856) (by decide +kernel), by decide +kernel⟩
theorem ml_L_102 : Cond.methodLink RL 102 yX3_count ∈ tb := List.mem_filter.mpr ⟨List.mem_of_getElem? (i := 570) (by decide +kernel), by decide +kernel⟩
theorem im_yX3_count : Cond.instanceMethod yX3_count ∈ tb := List.mem_filter.mpr ⟨List.mem_of_getElem? (i := 571) (by decide +kernel), by decide +kernel⟩
theorem se_RX3_yX3_count : Cond.selects RX3 yX3_count yX3_count ∈ tb := List.mem_filter.mpr ⟨List.mem_of_getElem? (i := 572) (by decide +kernel), by decide +kernel⟩
theorem co_yX3_count : Cond.code yX3_count cX3_count 2 (some .int) ∈ tb := List.mem_filter.mpr ⟨List.mem_of_getElem? (i := 573) (by decide +kernel), by decide +kernel⟩
theorem ml_X3_198 : Cond.methodLink RX3 198 yX1_allWrites ∈ tb := List.mem_filter.mpr ⟨List.mem_of_getElem? (i := 574) (by decide +kernel), by decide +kernel⟩
theorem ml_X3_201 : Cond.methodLink RX3 201 yX1_weightOf ∈ tb := List.mem_filter.mpr ⟨List.mem_of_getElem? (i := 575) (by decide +kernel), by decide +kernel⟩
theorem ml_L_105 : Cond.methodLink RL 105 yX4_count ∈ tb := List.mem_filter.mpr ⟨List.mem_of_getElem? (i := 857) (by decide +kernel), by decide +kernel⟩
theorem im_yX4_count : Cond.instanceMethod yX4_count ∈ tb := List.mem_filter.mpr ⟨List.mem_of_getElem? (i := 858) (by decide +kernel), by decide +kernel⟩
theorem se_RX4_yX4_count : Cond.selects RX4 yX4_count yX4_count ∈ tb := List.mem_filter.mpr ⟨List.mem_of_getElem? (i := 859) (by decide +kernel), by decide +kernel⟩
theorem co_yX4_count : Cond.code yX4_count cX4_count 2 (some .int) ∈ tb := List.mem_filter.mpr ⟨List.mem_of_getElem? (i := 860) (by decide +kernel), by decide +kernel⟩
theorem ml_X4_188 : Cond.methodLink RX4 188 yX4_fullCopies ∈ tb := List.mem_filter.mpr ⟨List.mem_of_getElem? (i := 861) (by decide +kernel), by decide +kernel⟩
theorem im_yX4_fullCopies : Cond.instanceMethod yX4_fullCopies ∈ tb := List.mem_filter.mpr ⟨List.mem_of_getElem? (i := 863) (by decide +kernel), by decide +kernel⟩
theorem se_RX4_yX4_fullCopies : Cond.selects RX4 yX4_fullCopies yX4_fullCopies ∈ tb := List.mem_filter.mpr ⟨List.mem_of_getElem? (i := 36) (by decide +kernel), by decide +kernel⟩
theorem co_yX4_fullCopies : Cond.code yX4_fullCopies cX4_fullCopies 3 (some .int) ∈ tb := List.mem_filter.mpr ⟨List.mem_of_getElem? (i := 864) (by decide +kernel), by decide +kernel⟩
theorem lay_X0_0 : u_lay RX0 TX0 0 ∈ tb := List.mem_filter.mpr ⟨List.mem_of_getElem? (i := 155) (by decide +kernel), by decide +kernel⟩
theorem lay_X0_1 : u_lay RX0 TX0 1 ∈ tb := List.mem_filter.mpr ⟨List.mem_of_getElem? (i := 157) (by decide +kernel), by decide +kernel⟩
theorem lay_X0_2 : u_lay RX0 TX0 2 ∈ tb := List.mem_filter.mpr ⟨List.mem_of_getElem? (i := 159) (by decide +kernel), by decide +kernel⟩
theorem inX0 : ∀ w ∈ wsX00, w ∈ tb := by
  intro w h
  obtain ⟨k, hk, rfl⟩ := List.mem_map.mp h
  have hk := List.mem_range.mp hk
  rcases (show k = 0 ∨ k = 1 ∨ k = 2 by omega) with rfl | rfl | rfl
  · exact lay_X0_0
  · exact lay_X0_1
  · exact lay_X0_2
theorem lay_X1_0 : u_lay RX1 TX1 0 ∈ tb := List.mem_filter.mpr ⟨List.mem_of_getElem? (i := 114) (by decide +kernel), by decide +kernel⟩
theorem lay_X1_1 : u_lay RX1 TX1 1 ∈ tb := List.mem_filter.mpr ⟨List.mem_of_getElem? (i := 116) (by decide +kernel), by decide +kernel⟩
theorem lay_X1_2 : u_lay RX1 TX1 2 ∈ tb := List.mem_filter.mpr ⟨List.mem_of_getElem? (i := 118) (by decide +kernel), by decide +kernel⟩
theorem lay_X1_3 : u_lay RX1 TX1 3 ∈ tb := List.mem_filter.mpr ⟨List.mem_of_getElem? (i := 120) (by decide +kernel), by decide +kernel⟩
theorem lay_X1_4 : u_lay RX1 TX1 4 ∈ tb := List.mem_filter.mpr ⟨List.mem_of_getElem? (i := 122) (by decide +kernel), by decide +kernel⟩
theorem lay_X1_5 : u_lay RX1 TX1 5 ∈ tb := List.mem_filter.mpr ⟨List.mem_of_getElem? (i := 124) (by decide +kernel), by decide +kernel⟩
theorem lay_X1_6 : u_lay RX1 TX1 6 ∈ tb := List.mem_filter.mpr ⟨List.mem_of_getElem? (i := 126) (by decide +kernel), by decide +kernel⟩
theorem lay_X1_7 : u_lay RX1 TX1 7 ∈ tb := List.mem_filter.mpr ⟨List.mem_of_getElem? (i := 128) (by decide +kernel), by decide +kernel⟩
theorem lay_X1_8 : u_lay RX1 TX1 8 ∈ tb := List.mem_filter.mpr ⟨List.mem_of_getElem? (i := 130) (by decide +kernel), by decide +kernel⟩
theorem lay_X1_9 : u_lay RX1 TX1 9 ∈ tb := List.mem_filter.mpr ⟨List.mem_of_getElem? (i := 132) (by decide +kernel), by decide +kernel⟩
theorem lay_X1_10 : u_lay RX1 TX1 10 ∈ tb := List.mem_filter.mpr ⟨List.mem_of_getElem? (i := 134) (by decide +kernel), by decide +kernel⟩
theorem lay_X1_11 : u_lay RX1 TX1 11 ∈ tb := List.mem_filter.mpr ⟨List.mem_of_getElem? (i := 136) (by decide +kernel), by decide +kernel⟩
theorem lay_X1_12 : u_lay RX1 TX1 12 ∈ tb := List.mem_filter.mpr ⟨List.mem_of_getElem? (i := 138) (by decide +kernel), by decide +kernel⟩
theorem inX1 : ∀ w ∈ wsX10, w ∈ tb := by
  intro w h
  obtain ⟨k, hk, rfl⟩ := List.mem_map.mp h
  have hk := List.mem_range.mp hk
  rcases (show k = 0 ∨ k = 1 ∨ k = 2 ∨ k = 3 ∨ k = 4 ∨ k = 5 ∨ k = 6 ∨ k = 7 ∨ k = 8 ∨ k = 9 ∨ k = 10 ∨ k = 11 ∨ k = 12 by omega) with rfl | rfl | rfl | rfl | rfl | rfl | rfl | rfl | rfl | rfl | rfl | rfl | rfl
  · exact lay_X1_0
  · exact lay_X1_1
  · exact lay_X1_2
  · exact lay_X1_3
  · exact lay_X1_4
  · exact lay_X1_5
  · exact lay_X1_6
  · exact lay_X1_7
  · exact lay_X1_8
  · exact lay_X1_9
  · exact lay_X1_10
  · exact lay_X1_11
  · exact lay_X1_12
theorem lay_X2_0 : u_lay RX2 TX2 0 ∈ tb := List.mem_filter.mpr ⟨List.mem_of_getElem? (i := 175) (by decide +kernel), by decide +kernel⟩
theorem lay_X2_1 : u_lay RX2 TX2 1 ∈ tb := List.mem_filter.mpr ⟨List.mem_of_getElem? (i := 177) (by decide +kernel), by decide +kernel⟩
theorem lay_X2_2 : u_lay RX2 TX2 2 ∈ tb := List.mem_filter.mpr ⟨List.mem_of_getElem? (i := 179) (by decide +kernel), by decide +kernel⟩
theorem lay_X2_3 : u_lay RX2 TX2 3 ∈ tb := List.mem_filter.mpr ⟨List.mem_of_getElem? (i := 181) (by decide +kernel), by decide +kernel⟩
theorem lay_X2_4 : u_lay RX2 TX2 4 ∈ tb := List.mem_filter.mpr ⟨List.mem_of_getElem? (i := 183) (by decide +kernel), by decide +kernel⟩
theorem lay_X2_5 : u_lay RX2 TX2 5 ∈ tb := List.mem_filter.mpr ⟨List.mem_of_getElem? (i := 185) (by decide +kernel), by decide +kernel⟩
theorem inX2 : ∀ w ∈ wsX20, w ∈ tb := by
  intro w h
  obtain ⟨k, hk, rfl⟩ := List.mem_map.mp h
  have hk := List.mem_range.mp hk
  rcases (show k = 0 ∨ k = 1 ∨ k = 2 ∨ k = 3 ∨ k = 4 ∨ k = 5 by omega) with rfl | rfl | rfl | rfl | rfl | rfl
  · exact lay_X2_0
  · exact lay_X2_1
  · exact lay_X2_2
  · exact lay_X2_3
  · exact lay_X2_4
  · exact lay_X2_5
theorem lay_X3_0 : u_lay RX3 TX3 0 ∈ tb := List.mem_filter.mpr ⟨List.mem_of_getElem? (i := 199) (by decide +kernel), by decide +kernel⟩
theorem lay_X3_1 : u_lay RX3 TX3 1 ∈ tb := List.mem_filter.mpr ⟨List.mem_of_getElem? (i := 201) (by decide +kernel), by decide +kernel⟩
theorem lay_X3_2 : u_lay RX3 TX3 2 ∈ tb := List.mem_filter.mpr ⟨List.mem_of_getElem? (i := 203) (by decide +kernel), by decide +kernel⟩
theorem lay_X3_3 : u_lay RX3 TX3 3 ∈ tb := List.mem_filter.mpr ⟨List.mem_of_getElem? (i := 205) (by decide +kernel), by decide +kernel⟩
theorem lay_X3_4 : u_lay RX3 TX3 4 ∈ tb := List.mem_filter.mpr ⟨List.mem_of_getElem? (i := 207) (by decide +kernel), by decide +kernel⟩
theorem lay_X3_5 : u_lay RX3 TX3 5 ∈ tb := List.mem_filter.mpr ⟨List.mem_of_getElem? (i := 209) (by decide +kernel), by decide +kernel⟩
theorem lay_X3_6 : u_lay RX3 TX3 6 ∈ tb := List.mem_filter.mpr ⟨List.mem_of_getElem? (i := 211) (by decide +kernel), by decide +kernel⟩
theorem lay_X3_7 : u_lay RX3 TX3 7 ∈ tb := List.mem_filter.mpr ⟨List.mem_of_getElem? (i := 213) (by decide +kernel), by decide +kernel⟩
theorem lay_X3_8 : u_lay RX3 TX3 8 ∈ tb := List.mem_filter.mpr ⟨List.mem_of_getElem? (i := 215) (by decide +kernel), by decide +kernel⟩
theorem lay_X3_9 : u_lay RX3 TX3 9 ∈ tb := List.mem_filter.mpr ⟨List.mem_of_getElem? (i := 217) (by decide +kernel), by decide +kernel⟩
theorem inX3 : ∀ w ∈ wsX30, w ∈ tb := by
  intro w h
  obtain ⟨k, hk, rfl⟩ := List.mem_map.mp h
  have hk := List.mem_range.mp hk
  rcases (show k = 0 ∨ k = 1 ∨ k = 2 ∨ k = 3 ∨ k = 4 ∨ k = 5 ∨ k = 6 ∨ k = 7 ∨ k = 8 ∨ k = 9 by omega) with rfl | rfl | rfl | rfl | rfl | rfl | rfl | rfl | rfl | rfl
  · exact lay_X3_0
  · exact lay_X3_1
  · exact lay_X3_2
  · exact lay_X3_3
  · exact lay_X3_4
  · exact lay_X3_5
  · exact lay_X3_6
  · exact lay_X3_7
  · exact lay_X3_8
  · exact lay_X3_9
theorem lay_X4_0 : u_lay RX4 TX4 0 ∈ tb := List.mem_filter.mpr ⟨List.mem_of_getElem? (i := 612) (by decide +kernel), by decide +kernel⟩
theorem lay_X4_1 : u_lay RX4 TX4 1 ∈ tb := List.mem_filter.mpr ⟨List.mem_of_getElem? (i := 614) (by decide +kernel), by decide +kernel⟩
theorem lay_X4_2 : u_lay RX4 TX4 2 ∈ tb := List.mem_filter.mpr ⟨List.mem_of_getElem? (i := 616) (by decide +kernel), by decide +kernel⟩
theorem lay_X4_3 : u_lay RX4 TX4 3 ∈ tb := List.mem_filter.mpr ⟨List.mem_of_getElem? (i := 618) (by decide +kernel), by decide +kernel⟩
theorem lay_X4_4 : u_lay RX4 TX4 4 ∈ tb := List.mem_filter.mpr ⟨List.mem_of_getElem? (i := 620) (by decide +kernel), by decide +kernel⟩
theorem lay_X4_5 : u_lay RX4 TX4 5 ∈ tb := List.mem_filter.mpr ⟨List.mem_of_getElem? (i := 622) (by decide +kernel), by decide +kernel⟩
theorem lay_X4_6 : u_lay RX4 TX4 6 ∈ tb := List.mem_filter.mpr ⟨List.mem_of_getElem? (i := 624) (by decide +kernel), by decide +kernel⟩
theorem lay_X4_7 : u_lay RX4 TX4 7 ∈ tb := List.mem_filter.mpr ⟨List.mem_of_getElem? (i := 626) (by decide +kernel), by decide +kernel⟩
theorem lay_X4_8 : u_lay RX4 TX4 8 ∈ tb := List.mem_filter.mpr ⟨List.mem_of_getElem? (i := 628) (by decide +kernel), by decide +kernel⟩
theorem lay_X4_9 : u_lay RX4 TX4 9 ∈ tb := List.mem_filter.mpr ⟨List.mem_of_getElem? (i := 630) (by decide +kernel), by decide +kernel⟩
theorem lay_X4_10 : u_lay RX4 TX4 10 ∈ tb := List.mem_filter.mpr ⟨List.mem_of_getElem? (i := 632) (by decide +kernel), by decide +kernel⟩
theorem lay_X4_11 : u_lay RX4 TX4 11 ∈ tb := List.mem_filter.mpr ⟨List.mem_of_getElem? (i := 634) (by decide +kernel), by decide +kernel⟩
theorem lay_X4_12 : u_lay RX4 TX4 12 ∈ tb := List.mem_filter.mpr ⟨List.mem_of_getElem? (i := 636) (by decide +kernel), by decide +kernel⟩
theorem lay_X4_13 : u_lay RX4 TX4 13 ∈ tb := List.mem_filter.mpr ⟨List.mem_of_getElem? (i := 638) (by decide +kernel), by decide +kernel⟩
theorem lay_X4_14 : u_lay RX4 TX4 14 ∈ tb := List.mem_filter.mpr ⟨List.mem_of_getElem? (i := 640) (by decide +kernel), by decide +kernel⟩
theorem lay_X4_15 : u_lay RX4 TX4 15 ∈ tb := List.mem_filter.mpr ⟨List.mem_of_getElem? (i := 642) (by decide +kernel), by decide +kernel⟩
theorem lay_X4_16 : u_lay RX4 TX4 16 ∈ tb := List.mem_filter.mpr ⟨List.mem_of_getElem? (i := 644) (by decide +kernel), by decide +kernel⟩
theorem inX4 : ∀ w ∈ wsX40, w ∈ tb := by
  intro w h
  obtain ⟨k, hk, rfl⟩ := List.mem_map.mp h
  have hk := List.mem_range.mp hk
  rcases (show k = 0 ∨ k = 1 ∨ k = 2 ∨ k = 3 ∨ k = 4 ∨ k = 5 ∨ k = 6 ∨ k = 7 ∨ k = 8 ∨ k = 9 ∨ k = 10 ∨ k = 11 ∨ k = 12 ∨ k = 13 ∨ k = 14 ∨ k = 15 ∨ k = 16 by omega) with rfl | rfl | rfl | rfl | rfl | rfl | rfl | rfl | rfl | rfl | rfl | rfl | rfl | rfl | rfl | rfl | rfl
  · exact lay_X4_0
  · exact lay_X4_1
  · exact lay_X4_2
  · exact lay_X4_3
  · exact lay_X4_4
  · exact lay_X4_5
  · exact lay_X4_6
  · exact lay_X4_7
  · exact lay_X4_8
  · exact lay_X4_9
  · exact lay_X4_10
  · exact lay_X4_11
  · exact lay_X4_12
  · exact lay_X4_13
  · exact lay_X4_14
  · exact lay_X4_15
  · exact lay_X4_16
