/-! each link, each method: its words, by their places in the tables -/
theorem ini_RL : Cond.initialized RL ∈ lw_tbl := List.mem_of_getElem? (i := 37) (by decide +kernel)
theorem ini_RX4 : Cond.initialized RX4 ∈ lw_tbl := List.mem_of_getElem? (i := 38) (by decide +kernel)
theorem ini_RX0 : Cond.initialized RX0 ∈ lw_tbl := List.mem_of_getElem? (i := 39) (by decide +kernel)
theorem ini_RJ7 : Cond.initialized RJ7 ∈ lw_tbl := List.mem_of_getElem? (i := 40) (by decide +kernel)
theorem ini_RX3 : Cond.initialized RX3 ∈ lw_tbl := List.mem_of_getElem? (i := 41) (by decide +kernel)
theorem ini_RX2 : Cond.initialized RX2 ∈ lw_tbl := List.mem_of_getElem? (i := 42) (by decide +kernel)
theorem ini_RX5 : Cond.initialized RX5 ∈ lw_tbl := List.mem_of_getElem? (i := 43) (by decide +kernel)
theorem ini_Throwable : Cond.initialized "java/lang/Throwable" ∈ lw_tbl := List.mem_of_getElem? (i := 44) (by decide +kernel)
theorem ini_Exception : Cond.initialized "java/lang/Exception" ∈ lw_tbl := List.mem_of_getElem? (i := 45) (by decide +kernel)
theorem ini_RuntimeException : Cond.initialized "java/lang/RuntimeException" ∈ lw_tbl := List.mem_of_getElem? (i := 46) (by decide +kernel)
theorem ini_IllegalArgumentException : Cond.initialized "java/lang/IllegalArgumentException" ∈ lw_tbl := List.mem_of_getElem? (i := 47) (by decide +kernel)
theorem ini_IllegalStateException : Cond.initialized "java/lang/IllegalStateException" ∈ lw_tbl := List.mem_of_getElem? (i := 48) (by decide +kernel)
theorem ini_RX1 : Cond.initialized RX1 ∈ lw_tbl := List.mem_of_getElem? (i := 49) (by decide +kernel)
theorem ini_IndexOutOfBoundsException : Cond.initialized "java/lang/IndexOutOfBoundsException" ∈ lw_tbl := List.mem_of_getElem? (i := 50) (by decide +kernel)
theorem lk_RL_8 : Cond.classLink RL 8 RX4 ∈ lw_tbl := List.mem_of_getElem? (i := 51) (by decide +kernel)
theorem in_RX4 : Cond.instantiable RX4 8 ∈ lw_tbl := List.mem_of_getElem? (i := 52) (by decide +kernel)
theorem lk_RL_60 : Cond.methodLink RL 60 yX4_init ∈ lw_tbl := List.mem_of_getElem? (i := 53) (by decide +kernel)
theorem lk_RX4_1 : Cond.methodLink RX4 1 objectInit ∈ lw_tbl := List.mem_of_getElem? (i := 56) (by decide +kernel)
theorem oi_inst : Cond.instanceMethod objectInit ∈ lw_tbl := List.mem_of_getElem? (i := 57) (by decide +kernel)
theorem oi_code : Cond.code objectInit ⟨#[0xb1]⟩ 1 none ∈ lw_tbl := List.mem_of_getElem? (i := 58) (by decide +kernel)
theorem lk_RX4_9 : Cond.classLink RX4 9 RX1 ∈ lw_tbl := List.mem_of_getElem? (i := 59) (by decide +kernel)
theorem lk_RX4_15 : Cond.classLink RX4 15 RX0 ∈ lw_tbl := List.mem_of_getElem? (i := 61) (by decide +kernel)
theorem in_RX0 : Cond.instantiable RX0 1 ∈ lw_tbl := List.mem_of_getElem? (i := 62) (by decide +kernel)
theorem lk_RX4_17 : Cond.methodLinkNest RX4 17 yX0_init RX4 ∈ lw_tbl := List.mem_of_getElem? (i := 63) (by decide +kernel)
theorem lk_RX0_3 : Cond.methodLink RX0 3 objectInit ∈ lw_tbl := List.mem_of_getElem? (i := 66) (by decide +kernel)
theorem lk_RX0_15 : Cond.methodLink RX0 15 yJ7_fill_53178 ∈ lw_tbl := List.mem_of_getElem? (i := 67) (by decide +kernel)
theorem lk_RX0_9 : Cond.fieldLink RX0 9 RX0 "contents" "[I" ∈ lw_tbl := List.mem_of_getElem? (i := 70) (by decide +kernel)
theorem ac_int : Cond.arrayClass .int ∈ lw_tbl := List.mem_of_getElem? (i := 74) (by decide +kernel)
theorem lk_RX4_22 : Cond.classLink RX4 22 RX3 ∈ lw_tbl := List.mem_of_getElem? (i := 75) (by decide +kernel)
theorem in_RX3 : Cond.instantiable RX3 1 ∈ lw_tbl := List.mem_of_getElem? (i := 76) (by decide +kernel)
theorem lk_RX4_24 : Cond.methodLinkNest RX4 24 yX3_init RX4 ∈ lw_tbl := List.mem_of_getElem? (i := 77) (by decide +kernel)
theorem lk_RX3_3 : Cond.methodLink RX3 3 objectInit ∈ lw_tbl := List.mem_of_getElem? (i := 80) (by decide +kernel)
theorem lk_RX3_15 : Cond.methodLink RX3 15 yJ7_fill_53178 ∈ lw_tbl := List.mem_of_getElem? (i := 81) (by decide +kernel)
theorem lk_RX3_9 : Cond.fieldLink RX3 9 RX3 "positions" "[I" ∈ lw_tbl := List.mem_of_getElem? (i := 82) (by decide +kernel)
theorem lk_RX4_29 : Cond.classLink RX4 29 RX2 ∈ lw_tbl := List.mem_of_getElem? (i := 86) (by decide +kernel)
theorem in_RX2 : Cond.instantiable RX2 3 ∈ lw_tbl := List.mem_of_getElem? (i := 87) (by decide +kernel)
theorem lk_RX4_31 : Cond.methodLinkNest RX4 31 yX2_init RX4 ∈ lw_tbl := List.mem_of_getElem? (i := 88) (by decide +kernel)
theorem lk_RX2_3 : Cond.methodLink RX2 3 objectInit ∈ lw_tbl := List.mem_of_getElem? (i := 91) (by decide +kernel)
theorem lk_RX2_9 : Cond.fieldLink RX2 9 RX2 "effects" "[Z" ∈ lw_tbl := List.mem_of_getElem? (i := 92) (by decide +kernel)
theorem lk_RX2_15 : Cond.fieldLink RX2 15 RX2 "changes" "[I" ∈ lw_tbl := List.mem_of_getElem? (i := 93) (by decide +kernel)
theorem lk_RX2_19 : Cond.fieldLink RX2 19 RX2 "folded" "I" ∈ lw_tbl := List.mem_of_getElem? (i := 94) (by decide +kernel)
theorem ac_boolean : Cond.arrayClass .boolean ∈ lw_tbl := List.mem_of_getElem? (i := 102) (by decide +kernel)
theorem lk_RX4_11 : Cond.fieldLink RX4 11 RX4 "entries" "[LSharedLog$Entry;" ∈ lw_tbl := List.mem_of_getElem? (i := 103) (by decide +kernel)
theorem lk_RX4_18 : Cond.fieldLink RX4 18 RX4 "cells" "LSharedLog$Cells;" ∈ lw_tbl := List.mem_of_getElem? (i := 104) (by decide +kernel)
theorem lk_RX4_25 : Cond.fieldLink RX4 25 RX4 "sequencerKnows" "LSharedLog$Trail;" ∈ lw_tbl := List.mem_of_getElem? (i := 105) (by decide +kernel)
theorem lk_RX4_32 : Cond.fieldLink RX4 32 RX4 "fold" "LSharedLog$Fold;" ∈ lw_tbl := List.mem_of_getElem? (i := 106) (by decide +kernel)
theorem lk_RX4_36 : Cond.fieldLink RX4 36 RX4 "handedOut" "I" ∈ lw_tbl := List.mem_of_getElem? (i := 107) (by decide +kernel)
theorem lk_RX4_40 : Cond.fieldLink RX4 40 RX4 "epoch" "I" ∈ lw_tbl := List.mem_of_getElem? (i := 108) (by decide +kernel)
theorem lk_RX4_43 : Cond.fieldLink RX4 43 RX4 "tail" "I" ∈ lw_tbl := List.mem_of_getElem? (i := 109) (by decide +kernel)
theorem lk_RX4_46 : Cond.fieldLink RX4 46 RX4 "sequencerLost" "Z" ∈ lw_tbl := List.mem_of_getElem? (i := 110) (by decide +kernel)
theorem lk_RL_81 : Cond.methodLink RL 81 yX4_seal ∈ lw_tbl := List.mem_of_getElem? (i := 128) (by decide +kernel)
theorem lk_RX4_77 : Cond.methodLinkNest RX4 77 yX0_end RX4 ∈ lw_tbl := List.mem_of_getElem? (i := 132) (by decide +kernel)
theorem lk_RX0_32 : Cond.methodLink RX0 32 yX0_countWritten ∈ lw_tbl := List.mem_of_getElem? (i := 136) (by decide +kernel)
theorem lk_RX0_28 : Cond.methodLink RX0 28 yX0_get ∈ lw_tbl := List.mem_of_getElem? (i := 140) (by decide +kernel)
theorem lk_RX0_21 : Cond.methodLinkNest RX0 21 yX4_isReplica RX4 ∈ lw_tbl := List.mem_of_getElem? (i := 144) (by decide +kernel)
theorem lk_RX0_25 : Cond.methodLinkNest RX0 25 yX4_isPosition RX4 ∈ lw_tbl := List.mem_of_getElem? (i := 147) (by decide +kernel)
theorem lk_RX4_81 : Cond.methodLinkNest RX4 81 yX3_clear RX4 ∈ lw_tbl := List.mem_of_getElem? (i := 150) (by decide +kernel)
theorem lk_RX4_84 : Cond.methodLink RX4 84 yX4_entryIn ∈ lw_tbl := List.mem_of_getElem? (i := 154) (by decide +kernel)
theorem lk_RX4_112 : Cond.methodLinkNest RX4 112 yX0_get RX4 ∈ lw_tbl := List.mem_of_getElem? (i := 158) (by decide +kernel)
theorem lk_RX4_95 : Cond.methodLink RX4 95 yX4_entryOf ∈ lw_tbl := List.mem_of_getElem? (i := 159) (by decide +kernel)
theorem lk_RX4_91 : Cond.methodLinkNest RX4 91 yX3_push RX4 ∈ lw_tbl := List.mem_of_getElem? (i := 163) (by decide +kernel)
theorem lk_RX3_28 : Cond.methodLinkNest RX3 28 yX4_isIn RX4 ∈ lw_tbl := List.mem_of_getElem? (i := 167) (by decide +kernel)
theorem lk_RX3_32 : Cond.methodLink RX3 32 yX3_get ∈ lw_tbl := List.mem_of_getElem? (i := 170) (by decide +kernel)
theorem lk_RX3_21 : Cond.methodLinkNest RX3 21 yX4_isStream RX4 ∈ lw_tbl := List.mem_of_getElem? (i := 174) (by decide +kernel)
theorem lk_RX3_25 : Cond.methodLinkNest RX3 25 yX4_isPointerNumber RX4 ∈ lw_tbl := List.mem_of_getElem? (i := 177) (by decide +kernel)
theorem lk_RX3_36 : Cond.methodLink RX3 36 yX3_set ∈ lw_tbl := List.mem_of_getElem? (i := 180) (by decide +kernel)
theorem lk_RL_92 : Cond.methodLink RL 92 yX4_epoch ∈ lw_tbl := List.mem_of_getElem? (i := 184) (by decide +kernel)
theorem lk_RL_96 : Cond.methodLink RL 96 yX4_tail ∈ lw_tbl := List.mem_of_getElem? (i := 188) (by decide +kernel)
theorem lk_RL_100 : Cond.methodLink RL 100 yX4_tokens ∈ lw_tbl := List.mem_of_getElem? (i := 192) (by decide +kernel)
theorem lk_RL_117 : Cond.methodLink RL 117 yX4_known ∈ lw_tbl := List.mem_of_getElem? (i := 196) (by decide +kernel)
theorem lk_RX4_147 : Cond.methodLinkNest RX4 147 yX0_completeFromStart RX4 ∈ lw_tbl := List.mem_of_getElem? (i := 200) (by decide +kernel)
theorem lk_RX0_36 : Cond.methodLink RX0 36 yX0_isComplete ∈ lw_tbl := List.mem_of_getElem? (i := 204) (by decide +kernel)
theorem lk_RL_64 : Cond.methodLink RL 64 yL_take ∈ lw_tbl := List.mem_of_getElem? (i := 208) (by decide +kernel)
theorem lk_RL_13 : Cond.classLink RL 13 "java/lang/IllegalArgumentException" ∈ lw_tbl := List.mem_of_getElem? (i := 211) (by decide +kernel)
theorem lk_RL_15 : Cond.classLink RL 15 "java/lang/IllegalStateException" ∈ lw_tbl := List.mem_of_getElem? (i := 212) (by decide +kernel)
theorem lk_RL_7 : Cond.methodLink RL 7 yX4_take ∈ lw_tbl := List.mem_of_getElem? (i := 213) (by decide +kernel)
theorem lk_RX4_50 : Cond.methodLink RX4 50 yX4_isSetOfStreams ∈ lw_tbl := List.mem_of_getElem? (i := 217) (by decide +kernel)
theorem lk_RX4_54 : Cond.methodLink RX4 54 yX4_isAmount ∈ lw_tbl := List.mem_of_getElem? (i := 220) (by decide +kernel)
theorem lk_RX4_57 : Cond.classLink RX4 57 "java/lang/IllegalArgumentException" ∈ lw_tbl := List.mem_of_getElem? (i := 223) (by decide +kernel)
theorem lk_RX4_61 : Cond.methodLink RX4 61 ⟨"java/lang/IllegalArgumentException", "<init>", "(Ljava/lang/String;)V"⟩ ∈ lw_tbl := List.mem_of_getElem? (i := 265) (by decide +kernel)
theorem ac_byte : Cond.arrayClass .byte ∈ lw_tbl := List.mem_of_getElem? (i := 290) (by decide +kernel)
theorem lk_RX4_64 : Cond.methodLink RX4 64 yX4_handOut ∈ lw_tbl := List.mem_of_getElem? (i := 291) (by decide +kernel)
theorem lk_RX4_72 : Cond.classLink RX4 72 "java/lang/IllegalStateException" ∈ lw_tbl := List.mem_of_getElem? (i := 295) (by decide +kernel)
theorem lk_RX4_76 : Cond.methodLink RX4 76 ⟨"java/lang/IllegalStateException", "<init>", "(Ljava/lang/String;)V"⟩ ∈ lw_tbl := List.mem_of_getElem? (i := 305) (by decide +kernel)
theorem lk_RX4_180 : Cond.methodLinkNest RX4 180 yX3_copyFor RX4 ∈ lw_tbl := List.mem_of_getElem? (i := 311) (by decide +kernel)
theorem lk_RX3_10 : Cond.classLink RX3 10 RX3 ∈ lw_tbl := List.mem_of_getElem? (i := 315) (by decide +kernel)
theorem lk_RX3_40 : Cond.methodLink RX3 40 yX3_init ∈ lw_tbl := List.mem_of_getElem? (i := 316) (by decide +kernel)
theorem in_RX1 : Cond.instantiable RX1 8 ∈ lw_tbl := List.mem_of_getElem? (i := 317) (by decide +kernel)
theorem lk_RX4_184 : Cond.methodLinkNest RX4 184 yX1_init RX4 ∈ lw_tbl := List.mem_of_getElem? (i := 318) (by decide +kernel)
theorem lk_RX1_1 : Cond.methodLink RX1 1 objectInit ∈ lw_tbl := List.mem_of_getElem? (i := 321) (by decide +kernel)
theorem lk_RX1_13 : Cond.fieldLink RX1 13 RX1 "position" "I" ∈ lw_tbl := List.mem_of_getElem? (i := 322) (by decide +kernel)
theorem lk_RX4_109 : Cond.fieldLinkNest RX4 109 RX1 "position" "I" RX4 ∈ lw_tbl := List.mem_of_getElem? (i := 323) (by decide +kernel)
theorem lk_RX1_16 : Cond.fieldLink RX1 16 RX1 "epoch" "I" ∈ lw_tbl := List.mem_of_getElem? (i := 324) (by decide +kernel)
theorem lk_RX4_106 : Cond.fieldLinkNest RX4 106 RX1 "epoch" "I" RX4 ∈ lw_tbl := List.mem_of_getElem? (i := 325) (by decide +kernel)
theorem lk_RX1_19 : Cond.fieldLink RX1 19 RX1 "streams" "I" ∈ lw_tbl := List.mem_of_getElem? (i := 326) (by decide +kernel)
theorem lk_RX2_41 : Cond.fieldLinkNest RX2 41 RX1 "streams" "I" RX4 ∈ lw_tbl := List.mem_of_getElem? (i := 327) (by decide +kernel)
theorem lk_RX4_88 : Cond.fieldLinkNest RX4 88 RX1 "streams" "I" RX4 ∈ lw_tbl := List.mem_of_getElem? (i := 328) (by decide +kernel)
theorem lk_RX1_22 : Cond.fieldLink RX1 22 RX1 "amount" "I" ∈ lw_tbl := List.mem_of_getElem? (i := 329) (by decide +kernel)
theorem lk_RX4_197 : Cond.fieldLinkNest RX4 197 RX1 "amount" "I" RX4 ∈ lw_tbl := List.mem_of_getElem? (i := 330) (by decide +kernel)
theorem lk_RX1_25 : Cond.fieldLink RX1 25 RX1 "read" "I" ∈ lw_tbl := List.mem_of_getElem? (i := 331) (by decide +kernel)
theorem lk_RX2_29 : Cond.fieldLinkNest RX2 29 RX1 "read" "I" RX4 ∈ lw_tbl := List.mem_of_getElem? (i := 332) (by decide +kernel)
theorem lk_RX1_28 : Cond.fieldLink RX1 28 RX1 "version" "I" ∈ lw_tbl := List.mem_of_getElem? (i := 333) (by decide +kernel)
theorem lk_RX2_34 : Cond.fieldLinkNest RX2 34 RX1 "version" "I" RX4 ∈ lw_tbl := List.mem_of_getElem? (i := 334) (by decide +kernel)
theorem lk_RX1_31 : Cond.fieldLink RX1 31 RX1 "pointers" "LSharedLog$Trail;" ∈ lw_tbl := List.mem_of_getElem? (i := 335) (by decide +kernel)
theorem lk_RX4_138 : Cond.fieldLinkNest RX4 138 RX1 "pointers" "LSharedLog$Trail;" RX4 ∈ lw_tbl := List.mem_of_getElem? (i := 336) (by decide +kernel)
theorem lk_RX1_7 : Cond.fieldLink RX1 7 RX1 "steps" "I" ∈ lw_tbl := List.mem_of_getElem? (i := 337) (by decide +kernel)
theorem lk_RX4_103 : Cond.fieldLinkNest RX4 103 RX1 "steps" "I" RX4 ∈ lw_tbl := List.mem_of_getElem? (i := 338) (by decide +kernel)
theorem lk_RL_73 : Cond.methodLink RL 73 yL_takeIf ∈ lw_tbl := List.mem_of_getElem? (i := 356) (by decide +kernel)
theorem lk_RL_17 : Cond.methodLink RL 17 yX4_takeIf ∈ lw_tbl := List.mem_of_getElem? (i := 359) (by decide +kernel)
theorem lk_RL_77 : Cond.methodLink RL 77 yL_lose ∈ lw_tbl := List.mem_of_getElem? (i := 365) (by decide +kernel)
theorem lk_RL_21 : Cond.methodLink RL 21 yX4_lose ∈ lw_tbl := List.mem_of_getElem? (i := 368) (by decide +kernel)
theorem lk_RL_85 : Cond.methodLink RL 85 yL_write ∈ lw_tbl := List.mem_of_getElem? (i := 373) (by decide +kernel)
theorem lk_RL_29 : Cond.classLink RL 29 "java/lang/IndexOutOfBoundsException" ∈ lw_tbl := List.mem_of_getElem? (i := 376) (by decide +kernel)
theorem lk_RL_25 : Cond.methodLink RL 25 yX4_write ∈ lw_tbl := List.mem_of_getElem? (i := 377) (by decide +kernel)
theorem lk_RX4_98 : Cond.classLink RX4 98 "java/lang/IndexOutOfBoundsException" ∈ lw_tbl := List.mem_of_getElem? (i := 381) (by decide +kernel)
theorem lk_RX4_102 : Cond.methodLink RX4 102 ⟨"java/lang/IndexOutOfBoundsException", "<init>", "(Ljava/lang/String;)V"⟩ ∈ lw_tbl := List.mem_of_getElem? (i := 391) (by decide +kernel)
theorem lk_RX4_116 : Cond.methodLinkNest RX4 116 yX0_put RX4 ∈ lw_tbl := List.mem_of_getElem? (i := 398) (by decide +kernel)
theorem lk_RL_89 : Cond.methodLink RL 89 yL_fill ∈ lw_tbl := List.mem_of_getElem? (i := 402) (by decide +kernel)
theorem lk_RL_31 : Cond.methodLink RL 31 yX4_fill ∈ lw_tbl := List.mem_of_getElem? (i := 405) (by decide +kernel)
theorem lk_RX4_120 : Cond.methodLink RX4 120 yX4_isPosition ∈ lw_tbl := List.mem_of_getElem? (i := 409) (by decide +kernel)
theorem lk_RX4_125 : Cond.methodLinkNest RX4 125 yX0_isComplete RX4 ∈ lw_tbl := List.mem_of_getElem? (i := 411) (by decide +kernel)
theorem lk_RL_104 : Cond.methodLink RL 104 yL_positionOf ∈ lw_tbl := List.mem_of_getElem? (i := 413) (by decide +kernel)
theorem lk_RL_35 : Cond.methodLink RL 35 yX4_positionOf ∈ lw_tbl := List.mem_of_getElem? (i := 416) (by decide +kernel)
theorem lk_RL_107 : Cond.methodLink RL 107 yL_stateOf ∈ lw_tbl := List.mem_of_getElem? (i := 420) (by decide +kernel)
theorem lk_RL_38 : Cond.methodLink RL 38 yX4_stateOf ∈ lw_tbl := List.mem_of_getElem? (i := 423) (by decide +kernel)
theorem lk_RL_110 : Cond.methodLink RL 110 yL_pointer ∈ lw_tbl := List.mem_of_getElem? (i := 427) (by decide +kernel)
theorem lk_RL_41 : Cond.methodLink RL 41 yX4_pointer ∈ lw_tbl := List.mem_of_getElem? (i := 430) (by decide +kernel)
theorem lk_RX4_130 : Cond.methodLink RX4 130 yX4_isStream ∈ lw_tbl := List.mem_of_getElem? (i := 434) (by decide +kernel)
theorem lk_RX4_133 : Cond.methodLink RX4 133 yX4_isPointerNumber ∈ lw_tbl := List.mem_of_getElem? (i := 435) (by decide +kernel)
theorem lk_RX4_141 : Cond.methodLinkNest RX4 141 yX3_get RX4 ∈ lw_tbl := List.mem_of_getElem? (i := 437) (by decide +kernel)
theorem lk_RL_114 : Cond.methodLink RL 114 yL_cellAt ∈ lw_tbl := List.mem_of_getElem? (i := 438) (by decide +kernel)
theorem lk_RL_45 : Cond.methodLink RL 45 yX4_cellAt ∈ lw_tbl := List.mem_of_getElem? (i := 441) (by decide +kernel)
theorem lk_RX4_142 : Cond.methodLink RX4 142 yX4_isReplica ∈ lw_tbl := List.mem_of_getElem? (i := 445) (by decide +kernel)
theorem lk_RL_121 : Cond.methodLink RL 121 yL_takesEffect ∈ lw_tbl := List.mem_of_getElem? (i := 447) (by decide +kernel)
theorem lk_RL_48 : Cond.methodLink RL 48 yX4_takesEffect ∈ lw_tbl := List.mem_of_getElem? (i := 450) (by decide +kernel)
theorem lk_RX4_152 : Cond.methodLink RX4 152 yX4_foldUpTo ∈ lw_tbl := List.mem_of_getElem? (i := 455) (by decide +kernel)
theorem lk_RX4_190 : Cond.methodLinkNest RX4 190 yX2_restart RX4 ∈ lw_tbl := List.mem_of_getElem? (i := 459) (by decide +kernel)
theorem lk_RX2_23 : Cond.methodLink RX2 23 yJ7_fill_53178 ∈ lw_tbl := List.mem_of_getElem? (i := 463) (by decide +kernel)
theorem lk_RX4_193 : Cond.methodLinkNest RX4 193 yX2_add RX4 ∈ lw_tbl := List.mem_of_getElem? (i := 464) (by decide +kernel)
theorem lk_RX2_37 : Cond.methodLink RX2 37 yX2_isUnchanged ∈ lw_tbl := List.mem_of_getElem? (i := 468) (by decide +kernel)
theorem lk_RX2_48 : Cond.methodLinkNest RX2 48 yX4_isIn RX4 ∈ lw_tbl := List.mem_of_getElem? (i := 472) (by decide +kernel)
theorem lk_RX2_44 : Cond.methodLink RX2 44 yX2_noteChange ∈ lw_tbl := List.mem_of_getElem? (i := 473) (by decide +kernel)
theorem lk_RX4_156 : Cond.methodLinkNest RX4 156 yX2_hasEffect RX4 ∈ lw_tbl := List.mem_of_getElem? (i := 477) (by decide +kernel)
theorem lk_RL_124 : Cond.methodLink RL 124 yL_value ∈ lw_tbl := List.mem_of_getElem? (i := 481) (by decide +kernel)
theorem lk_RL_51 : Cond.methodLink RL 51 yX4_value ∈ lw_tbl := List.mem_of_getElem? (i := 484) (by decide +kernel)
theorem lk_RX4_159 : Cond.methodLink RX4 159 yX4_isEndOfKnown ∈ lw_tbl := List.mem_of_getElem? (i := 488) (by decide +kernel)
theorem lk_RX4_164 : Cond.methodLink RX4 164 yX4_holdsStream ∈ lw_tbl := List.mem_of_getElem? (i := 493) (by decide +kernel)
theorem lk_RX4_187 : Cond.methodLink RX4 187 yX4_isIn ∈ lw_tbl := List.mem_of_getElem? (i := 497) (by decide +kernel)
theorem lk_RX4_168 : Cond.methodLink RX4 168 yX4_effectOf ∈ lw_tbl := List.mem_of_getElem? (i := 498) (by decide +kernel)
theorem lk_RL_127 : Cond.methodLink RL 127 yL_valueByPointers ∈ lw_tbl := List.mem_of_getElem? (i := 502) (by decide +kernel)
theorem lk_RL_54 : Cond.methodLink RL 54 yX4_valueByPointers ∈ lw_tbl := List.mem_of_getElem? (i := 505) (by decide +kernel)
theorem lk_RX4_172 : Cond.methodLink RX4 172 yX4_latestAhead ∈ lw_tbl := List.mem_of_getElem? (i := 509) (by decide +kernel)
theorem lk_RX4_175 : Cond.methodLink RX4 175 yX4_previousByPointers ∈ lw_tbl := List.mem_of_getElem? (i := 513) (by decide +kernel)
theorem lk_RL_130 : Cond.methodLink RL 130 yL_latest ∈ lw_tbl := List.mem_of_getElem? (i := 517) (by decide +kernel)
theorem lk_RL_57 : Cond.methodLink RL 57 yX4_latest ∈ lw_tbl := List.mem_of_getElem? (i := 520) (by decide +kernel)
theorem lk_RL_61 : Cond.classLink RL 61 RX5 ∈ lw_tbl := List.mem_of_getElem? (i := 524) (by decide +kernel)
theorem in_RX5 : Cond.instantiable RX5 16 ∈ lw_tbl := List.mem_of_getElem? (i := 525) (by decide +kernel)
theorem lk_RL_63 : Cond.methodLink RL 63 yX5_init ∈ lw_tbl := List.mem_of_getElem? (i := 526) (by decide +kernel)
theorem lk_RX5_1 : Cond.methodLink RX5 1 objectInit ∈ lw_tbl := List.mem_of_getElem? (i := 529) (by decide +kernel)
theorem lk_RX5_44 : Cond.fieldLink RX5 44 RX5 "thrown" "I" ∈ lw_tbl := List.mem_of_getElem? (i := 530) (by decide +kernel)
theorem lk_RX5_62 : Cond.fieldLink RX5 62 RX5 "nowEpoch" "I" ∈ lw_tbl := List.mem_of_getElem? (i := 531) (by decide +kernel)
theorem lk_RX5_55 : Cond.fieldLink RX5 55 RX5 "isLost" "Z" ∈ lw_tbl := List.mem_of_getElem? (i := 532) (by decide +kernel)
theorem lk_RX5_59 : Cond.fieldLink RX5 59 RX5 "next" "I" ∈ lw_tbl := List.mem_of_getElem? (i := 533) (by decide +kernel)
theorem lk_RX5_7 : Cond.fieldLink RX5 7 RX5 "latest" "[I" ∈ lw_tbl := List.mem_of_getElem? (i := 534) (by decide +kernel)
theorem lk_RX5_52 : Cond.fieldLink RX5 52 RX5 "tokenMany" "I" ∈ lw_tbl := List.mem_of_getElem? (i := 535) (by decide +kernel)
theorem lk_RX5_13 : Cond.fieldLink RX5 13 RX5 "places" "[I" ∈ lw_tbl := List.mem_of_getElem? (i := 536) (by decide +kernel)
theorem lk_RX5_16 : Cond.fieldLink RX5 16 RX5 "epochs" "[I" ∈ lw_tbl := List.mem_of_getElem? (i := 537) (by decide +kernel)
theorem lk_RX5_19 : Cond.fieldLink RX5 19 RX5 "sets" "[I" ∈ lw_tbl := List.mem_of_getElem? (i := 538) (by decide +kernel)
theorem lk_RX5_22 : Cond.fieldLink RX5 22 RX5 "amounts" "[I" ∈ lw_tbl := List.mem_of_getElem? (i := 539) (by decide +kernel)
theorem lk_RX5_25 : Cond.fieldLink RX5 25 RX5 "reads" "[I" ∈ lw_tbl := List.mem_of_getElem? (i := 540) (by decide +kernel)
theorem lk_RX5_28 : Cond.fieldLink RX5 28 RX5 "versions" "[I" ∈ lw_tbl := List.mem_of_getElem? (i := 541) (by decide +kernel)
theorem lk_RX5_31 : Cond.fieldLink RX5 31 RX5 "states" "[I" ∈ lw_tbl := List.mem_of_getElem? (i := 542) (by decide +kernel)
theorem lk_RX5_34 : Cond.fieldLink RX5 34 RX5 "pointers" "[I" ∈ lw_tbl := List.mem_of_getElem? (i := 543) (by decide +kernel)
theorem lk_RX5_37 : Cond.fieldLink RX5 37 RX5 "cells" "[I" ∈ lw_tbl := List.mem_of_getElem? (i := 544) (by decide +kernel)
theorem lk_RX5_40 : Cond.fieldLink RX5 40 RX5 "takes" "[Z" ∈ lw_tbl := List.mem_of_getElem? (i := 545) (by decide +kernel)
theorem lk_RL_70 : Cond.methodLink RL 70 yX5_thrown ∈ lw_tbl := List.mem_of_getElem? (i := 579) (by decide +kernel)
theorem lk_RL_69 : Cond.methodLink RL 69 yX5_take ∈ lw_tbl := List.mem_of_getElem? (i := 583) (by decide +kernel)
theorem lk_RX5_69 : Cond.methodLink RX5 69 yX5_isSet ∈ lw_tbl := List.mem_of_getElem? (i := 587) (by decide +kernel)
theorem lk_RX5_48 : Cond.methodLink RX5 48 yX5_in ∈ lw_tbl := List.mem_of_getElem? (i := 590) (by decide +kernel)
theorem lk_RX5_73 : Cond.methodLink RX5 73 yX5_isAmount ∈ lw_tbl := List.mem_of_getElem? (i := 593) (by decide +kernel)
theorem lk_RX5_76 : Cond.methodLink RX5 76 yX5_cannotHand ∈ lw_tbl := List.mem_of_getElem? (i := 596) (by decide +kernel)
theorem lk_RX5_80 : Cond.methodLink RX5 80 yX5_hands ∈ lw_tbl := List.mem_of_getElem? (i := 600) (by decide +kernel)
theorem lk_RX5_65 : Cond.methodLink RX5 65 yX5_learns ∈ lw_tbl := List.mem_of_getElem? (i := 604) (by decide +kernel)
theorem lk_RL_76 : Cond.methodLink RL 76 yX5_takeIf ∈ lw_tbl := List.mem_of_getElem? (i := 608) (by decide +kernel)
theorem lk_RL_80 : Cond.methodLink RL 80 yX5_lose ∈ lw_tbl := List.mem_of_getElem? (i := 612) (by decide +kernel)
theorem lk_RL_84 : Cond.methodLink RL 84 yX5_seal ∈ lw_tbl := List.mem_of_getElem? (i := 616) (by decide +kernel)
theorem lk_RX5_84 : Cond.methodLink RX5 84 yX5_hasStream ∈ lw_tbl := List.mem_of_getElem? (i := 620) (by decide +kernel)
theorem lk_RL_88 : Cond.methodLink RL 88 yX5_write ∈ lw_tbl := List.mem_of_getElem? (i := 624) (by decide +kernel)
theorem lk_RX5_88 : Cond.methodLink RX5 88 yX5_isToken ∈ lw_tbl := List.mem_of_getElem? (i := 628) (by decide +kernel)
theorem lk_RL_91 : Cond.methodLink RL 91 yX5_fill ∈ lw_tbl := List.mem_of_getElem? (i := 632) (by decide +kernel)
theorem lk_RX5_91 : Cond.methodLink RX5 91 yX5_isPosition ∈ lw_tbl := List.mem_of_getElem? (i := 636) (by decide +kernel)
theorem lk_RX5_94 : Cond.methodLink RX5 94 yX5_isWhole ∈ lw_tbl := List.mem_of_getElem? (i := 639) (by decide +kernel)
theorem lk_RL_95 : Cond.methodLink RL 95 yX5_epoch ∈ lw_tbl := List.mem_of_getElem? (i := 643) (by decide +kernel)
theorem lk_RL_99 : Cond.methodLink RL 99 yX5_tail ∈ lw_tbl := List.mem_of_getElem? (i := 647) (by decide +kernel)
theorem lk_RL_103 : Cond.methodLink RL 103 yX5_tokens ∈ lw_tbl := List.mem_of_getElem? (i := 651) (by decide +kernel)
theorem lk_RL_106 : Cond.methodLink RL 106 yX5_positionOf ∈ lw_tbl := List.mem_of_getElem? (i := 655) (by decide +kernel)
theorem lk_RX5_97 : Cond.methodLink RX5 97 yX5_fails ∈ lw_tbl := List.mem_of_getElem? (i := 659) (by decide +kernel)
theorem lk_RL_109 : Cond.methodLink RL 109 yX5_stateOf ∈ lw_tbl := List.mem_of_getElem? (i := 663) (by decide +kernel)
theorem lk_RL_113 : Cond.methodLink RL 113 yX5_pointer ∈ lw_tbl := List.mem_of_getElem? (i := 667) (by decide +kernel)
theorem lk_RL_116 : Cond.methodLink RL 116 yX5_cellAt ∈ lw_tbl := List.mem_of_getElem? (i := 671) (by decide +kernel)
theorem lk_RL_120 : Cond.methodLink RL 120 yX5_known ∈ lw_tbl := List.mem_of_getElem? (i := 675) (by decide +kernel)
theorem lk_RX5_101 : Cond.methodLink RX5 101 yX5_knownMany ∈ lw_tbl := List.mem_of_getElem? (i := 679) (by decide +kernel)
theorem lk_RL_123 : Cond.methodLink RL 123 yX5_takesEffect ∈ lw_tbl := List.mem_of_getElem? (i := 683) (by decide +kernel)
theorem lk_RX5_105 : Cond.methodLink RX5 105 yX5_folds ∈ lw_tbl := List.mem_of_getElem? (i := 687) (by decide +kernel)
theorem lk_RL_126 : Cond.methodLink RL 126 yX5_value ∈ lw_tbl := List.mem_of_getElem? (i := 691) (by decide +kernel)
theorem lk_RX5_108 : Cond.methodLink RX5 108 yX5_isAsked ∈ lw_tbl := List.mem_of_getElem? (i := 695) (by decide +kernel)
theorem lk_RX5_111 : Cond.methodLink RX5 111 yX5_folded ∈ lw_tbl := List.mem_of_getElem? (i := 699) (by decide +kernel)
theorem lk_RL_129 : Cond.methodLink RL 129 yX5_valueByPointers ∈ lw_tbl := List.mem_of_getElem? (i := 703) (by decide +kernel)
theorem lk_RL_132 : Cond.methodLink RL 132 yX5_latest ∈ lw_tbl := List.mem_of_getElem? (i := 707) (by decide +kernel)
theorem ac_long : Cond.arrayClass .long ∈ lw_tbl := List.mem_of_getElem? (i := 711) (by decide +kernel)
theorem la_0 : ∀ w ∈ u_ws RX0 TX0 1, w ∈ lw_tbl ∧ sl_ok w = true := by decide +kernel
theorem la_1 : ∀ w ∈ u_ws RX1 TX1 8, w ∈ lw_tbl ∧ sl_ok w = true := by decide +kernel
theorem la_2 : ∀ w ∈ u_ws RX2 TX2 3, w ∈ lw_tbl ∧ sl_ok w = true := by decide +kernel
theorem la_3 : ∀ w ∈ u_ws RX3 TX3 1, w ∈ lw_tbl ∧ sl_ok w = true := by decide +kernel
theorem la_4 : ∀ w ∈ u_ws RX4 TX4 8, w ∈ lw_tbl ∧ sl_ok w = true := by decide +kernel
theorem la_5 : ∀ w ∈ u_ws RX5 TX5 16, w ∈ lw_tbl ∧ sl_ok w = true := by decide +kernel
theorem mi_X0_init : sl_mi yX0_init cX0_init 1 0 := ⟨⟨by decide +kernel, by decide +kernel, by decide +kernel⟩, List.mem_of_getElem? (i := 64) (by decide +kernel), List.mem_of_getElem? (i := 65) (by decide +kernel), ini_RX0, rfl⟩
theorem mi_X0_get : sl_mv yX0_get cX0_get 3 (some .int) 2 := ⟨⟨by decide +kernel, by decide +kernel, by decide +kernel⟩, List.mem_of_getElem? (i := 142) (by decide +kernel), List.mem_of_getElem? (i := 143) (by decide +kernel), ini_RX0, List.mem_of_getElem? (i := 2) (by decide +kernel)⟩
theorem mi_X0_put : sl_mv yX0_put cX0_put 4 none 3 := ⟨⟨by decide +kernel, by decide +kernel, by decide +kernel⟩, List.mem_of_getElem? (i := 400) (by decide +kernel), List.mem_of_getElem? (i := 401) (by decide +kernel), ini_RX0, List.mem_of_getElem? (i := 14) (by decide +kernel)⟩
theorem mi_X0_countWritten : sl_mv yX0_countWritten cX0_countWritten 4 (some .int) 1 := ⟨⟨by decide +kernel, by decide +kernel, by decide +kernel⟩, List.mem_of_getElem? (i := 138) (by decide +kernel), List.mem_of_getElem? (i := 139) (by decide +kernel), ini_RX0, List.mem_of_getElem? (i := 1) (by decide +kernel)⟩
theorem mi_X0_isComplete : sl_mv yX0_isComplete cX0_isComplete 2 (some .boolean) 1 := ⟨⟨by decide +kernel, by decide +kernel, by decide +kernel⟩, List.mem_of_getElem? (i := 206) (by decide +kernel), List.mem_of_getElem? (i := 207) (by decide +kernel), ini_RX0, List.mem_of_getElem? (i := 10) (by decide +kernel)⟩
theorem mi_X0_completeFromStart : sl_mv yX0_completeFromStart cX0_completeFromStart 2 (some .int) 0 := ⟨⟨by decide +kernel, by decide +kernel, by decide +kernel⟩, List.mem_of_getElem? (i := 202) (by decide +kernel), List.mem_of_getElem? (i := 203) (by decide +kernel), ini_RX0, List.mem_of_getElem? (i := 9) (by decide +kernel)⟩
theorem mi_X0_end : sl_mv yX0_end cX0_end 2 (some .int) 0 := ⟨⟨by decide +kernel, by decide +kernel, by decide +kernel⟩, List.mem_of_getElem? (i := 134) (by decide +kernel), List.mem_of_getElem? (i := 135) (by decide +kernel), ini_RX0, List.mem_of_getElem? (i := 0) (by decide +kernel)⟩
theorem mi_X1_init : sl_mi yX1_init cX1_init 8 7 := ⟨⟨by decide +kernel, by decide +kernel, by decide +kernel⟩, List.mem_of_getElem? (i := 319) (by decide +kernel), List.mem_of_getElem? (i := 320) (by decide +kernel), ini_RX1, rfl⟩
theorem mi_X2_init : sl_mi yX2_init cX2_init 1 0 := ⟨⟨by decide +kernel, by decide +kernel, by decide +kernel⟩, List.mem_of_getElem? (i := 89) (by decide +kernel), List.mem_of_getElem? (i := 90) (by decide +kernel), ini_RX2, rfl⟩
theorem mi_X2_restart : sl_mv yX2_restart cX2_restart 1 none 0 := ⟨⟨by decide +kernel, by decide +kernel, by decide +kernel⟩, List.mem_of_getElem? (i := 461) (by decide +kernel), List.mem_of_getElem? (i := 462) (by decide +kernel), ini_RX2, List.mem_of_getElem? (i := 16) (by decide +kernel)⟩
theorem mi_X2_add : sl_mv yX2_add cX2_add 3 none 1 := ⟨⟨by decide +kernel, by decide +kernel, by decide +kernel⟩, List.mem_of_getElem? (i := 466) (by decide +kernel), List.mem_of_getElem? (i := 467) (by decide +kernel), ini_RX2, List.mem_of_getElem? (i := 17) (by decide +kernel)⟩
theorem mi_X2_hasEffect : sl_mv yX2_hasEffect cX2_hasEffect 2 (some .boolean) 1 := ⟨⟨by decide +kernel, by decide +kernel, by decide +kernel⟩, List.mem_of_getElem? (i := 479) (by decide +kernel), List.mem_of_getElem? (i := 480) (by decide +kernel), ini_RX2, List.mem_of_getElem? (i := 20) (by decide +kernel)⟩
theorem mi_X2_isUnchanged : sl_mv yX2_isUnchanged cX2_isUnchanged 4 (some .boolean) 2 := ⟨⟨by decide +kernel, by decide +kernel, by decide +kernel⟩, List.mem_of_getElem? (i := 470) (by decide +kernel), List.mem_of_getElem? (i := 471) (by decide +kernel), ini_RX2, List.mem_of_getElem? (i := 18) (by decide +kernel)⟩
theorem mi_X2_noteChange : sl_mv yX2_noteChange cX2_noteChange 3 none 1 := ⟨⟨by decide +kernel, by decide +kernel, by decide +kernel⟩, List.mem_of_getElem? (i := 475) (by decide +kernel), List.mem_of_getElem? (i := 476) (by decide +kernel), ini_RX2, List.mem_of_getElem? (i := 19) (by decide +kernel)⟩
theorem mi_X3_init : sl_mi yX3_init cX3_init 1 0 := ⟨⟨by decide +kernel, by decide +kernel, by decide +kernel⟩, List.mem_of_getElem? (i := 78) (by decide +kernel), List.mem_of_getElem? (i := 79) (by decide +kernel), ini_RX3, rfl⟩
theorem mi_X3_clear : sl_mv yX3_clear cX3_clear 1 none 0 := ⟨⟨by decide +kernel, by decide +kernel, by decide +kernel⟩, List.mem_of_getElem? (i := 152) (by decide +kernel), List.mem_of_getElem? (i := 153) (by decide +kernel), ini_RX3, List.mem_of_getElem? (i := 3) (by decide +kernel)⟩
theorem mi_X3_get : sl_mv yX3_get cX3_get 3 (some .int) 2 := ⟨⟨by decide +kernel, by decide +kernel, by decide +kernel⟩, List.mem_of_getElem? (i := 172) (by decide +kernel), List.mem_of_getElem? (i := 173) (by decide +kernel), ini_RX3, List.mem_of_getElem? (i := 7) (by decide +kernel)⟩
theorem mi_X3_set : sl_mv yX3_set cX3_set 4 none 3 := ⟨⟨by decide +kernel, by decide +kernel, by decide +kernel⟩, List.mem_of_getElem? (i := 182) (by decide +kernel), List.mem_of_getElem? (i := 183) (by decide +kernel), ini_RX3, List.mem_of_getElem? (i := 8) (by decide +kernel)⟩
theorem mi_X3_push : sl_mv yX3_push cX3_push 5 none 2 := ⟨⟨by decide +kernel, by decide +kernel, by decide +kernel⟩, List.mem_of_getElem? (i := 165) (by decide +kernel), List.mem_of_getElem? (i := 166) (by decide +kernel), ini_RX3, List.mem_of_getElem? (i := 6) (by decide +kernel)⟩
theorem mi_X3_copyFor : sl_mv yX3_copyFor cX3_copyFor 5 (some (.object "SharedLog$Trail")) 1 := ⟨⟨by decide +kernel, by decide +kernel, by decide +kernel⟩, List.mem_of_getElem? (i := 313) (by decide +kernel), List.mem_of_getElem? (i := 314) (by decide +kernel), ini_RX3, List.mem_of_getElem? (i := 13) (by decide +kernel)⟩
theorem mi_X4_init : sl_mi yX4_init cX4_init 1 0 := ⟨⟨by decide +kernel, by decide +kernel, by decide +kernel⟩, List.mem_of_getElem? (i := 54) (by decide +kernel), List.mem_of_getElem? (i := 55) (by decide +kernel), ini_RX4, rfl⟩
theorem mi_X4_take : sl_mv yX4_take cX4_take 3 (some .int) 2 := ⟨⟨by decide +kernel, by decide +kernel, by decide +kernel⟩, List.mem_of_getElem? (i := 214) (by decide +kernel), List.mem_of_getElem? (i := 216) (by decide +kernel), ini_RX4, List.mem_of_getElem? (i := 215) (by decide +kernel)⟩
theorem mi_X4_takeIf : sl_mv yX4_takeIf cX4_takeIf 5 (some .int) 4 := ⟨⟨by decide +kernel, by decide +kernel, by decide +kernel⟩, List.mem_of_getElem? (i := 360) (by decide +kernel), List.mem_of_getElem? (i := 362) (by decide +kernel), ini_RX4, List.mem_of_getElem? (i := 361) (by decide +kernel)⟩
theorem mi_X4_lose : sl_mv yX4_lose cX4_lose 1 (some .int) 0 := ⟨⟨by decide +kernel, by decide +kernel, by decide +kernel⟩, List.mem_of_getElem? (i := 369) (by decide +kernel), List.mem_of_getElem? (i := 371) (by decide +kernel), ini_RX4, List.mem_of_getElem? (i := 370) (by decide +kernel)⟩
theorem mi_X4_seal : sl_mv yX4_seal cX4_seal 3 (some .int) 0 := ⟨⟨by decide +kernel, by decide +kernel, by decide +kernel⟩, List.mem_of_getElem? (i := 129) (by decide +kernel), List.mem_of_getElem? (i := 131) (by decide +kernel), ini_RX4, List.mem_of_getElem? (i := 130) (by decide +kernel)⟩
theorem mi_X4_write : sl_mv yX4_write cX4_write 3 (some .int) 1 := ⟨⟨by decide +kernel, by decide +kernel, by decide +kernel⟩, List.mem_of_getElem? (i := 378) (by decide +kernel), List.mem_of_getElem? (i := 380) (by decide +kernel), ini_RX4, List.mem_of_getElem? (i := 379) (by decide +kernel)⟩
theorem mi_X4_fill : sl_mv yX4_fill cX4_fill 5 (some .boolean) 1 := ⟨⟨by decide +kernel, by decide +kernel, by decide +kernel⟩, List.mem_of_getElem? (i := 406) (by decide +kernel), List.mem_of_getElem? (i := 408) (by decide +kernel), ini_RX4, List.mem_of_getElem? (i := 407) (by decide +kernel)⟩
theorem mi_X4_epoch : sl_mv yX4_epoch cX4_epoch 1 (some .int) 0 := ⟨⟨by decide +kernel, by decide +kernel, by decide +kernel⟩, List.mem_of_getElem? (i := 185) (by decide +kernel), List.mem_of_getElem? (i := 187) (by decide +kernel), ini_RX4, List.mem_of_getElem? (i := 186) (by decide +kernel)⟩
theorem mi_X4_tail : sl_mv yX4_tail cX4_tail 1 (some .int) 0 := ⟨⟨by decide +kernel, by decide +kernel, by decide +kernel⟩, List.mem_of_getElem? (i := 189) (by decide +kernel), List.mem_of_getElem? (i := 191) (by decide +kernel), ini_RX4, List.mem_of_getElem? (i := 190) (by decide +kernel)⟩
theorem mi_X4_tokens : sl_mv yX4_tokens cX4_tokens 1 (some .int) 0 := ⟨⟨by decide +kernel, by decide +kernel, by decide +kernel⟩, List.mem_of_getElem? (i := 193) (by decide +kernel), List.mem_of_getElem? (i := 195) (by decide +kernel), ini_RX4, List.mem_of_getElem? (i := 194) (by decide +kernel)⟩
theorem mi_X4_positionOf : sl_mv yX4_positionOf cX4_positionOf 3 (some .int) 1 := ⟨⟨by decide +kernel, by decide +kernel, by decide +kernel⟩, List.mem_of_getElem? (i := 417) (by decide +kernel), List.mem_of_getElem? (i := 419) (by decide +kernel), ini_RX4, List.mem_of_getElem? (i := 418) (by decide +kernel)⟩
theorem mi_X4_stateOf : sl_mv yX4_stateOf cX4_stateOf 3 (some .int) 1 := ⟨⟨by decide +kernel, by decide +kernel, by decide +kernel⟩, List.mem_of_getElem? (i := 424) (by decide +kernel), List.mem_of_getElem? (i := 426) (by decide +kernel), ini_RX4, List.mem_of_getElem? (i := 425) (by decide +kernel)⟩
theorem mi_X4_pointer : sl_mv yX4_pointer cX4_pointer 5 (some .int) 3 := ⟨⟨by decide +kernel, by decide +kernel, by decide +kernel⟩, List.mem_of_getElem? (i := 431) (by decide +kernel), List.mem_of_getElem? (i := 433) (by decide +kernel), ini_RX4, List.mem_of_getElem? (i := 432) (by decide +kernel)⟩
theorem mi_X4_cellAt : sl_mv yX4_cellAt cX4_cellAt 3 (some .int) 2 := ⟨⟨by decide +kernel, by decide +kernel, by decide +kernel⟩, List.mem_of_getElem? (i := 442) (by decide +kernel), List.mem_of_getElem? (i := 444) (by decide +kernel), ini_RX4, List.mem_of_getElem? (i := 443) (by decide +kernel)⟩
theorem mi_X4_known : sl_mv yX4_known cX4_known 1 (some .int) 0 := ⟨⟨by decide +kernel, by decide +kernel, by decide +kernel⟩, List.mem_of_getElem? (i := 197) (by decide +kernel), List.mem_of_getElem? (i := 199) (by decide +kernel), ini_RX4, List.mem_of_getElem? (i := 198) (by decide +kernel)⟩
theorem mi_X4_takesEffect : sl_mv yX4_takesEffect cX4_takesEffect 2 (some .boolean) 1 := ⟨⟨by decide +kernel, by decide +kernel, by decide +kernel⟩, List.mem_of_getElem? (i := 451) (by decide +kernel), List.mem_of_getElem? (i := 453) (by decide +kernel), ini_RX4, List.mem_of_getElem? (i := 452) (by decide +kernel)⟩
theorem mi_X4_value : sl_mv yX4_value cX4_value 5 (some .int) 2 := ⟨⟨by decide +kernel, by decide +kernel, by decide +kernel⟩, List.mem_of_getElem? (i := 485) (by decide +kernel), List.mem_of_getElem? (i := 487) (by decide +kernel), ini_RX4, List.mem_of_getElem? (i := 486) (by decide +kernel)⟩
theorem mi_X4_valueByPointers : sl_mv yX4_valueByPointers cX4_valueByPointers 6 (some .int) 2 := ⟨⟨by decide +kernel, by decide +kernel, by decide +kernel⟩, List.mem_of_getElem? (i := 506) (by decide +kernel), List.mem_of_getElem? (i := 508) (by decide +kernel), ini_RX4, List.mem_of_getElem? (i := 507) (by decide +kernel)⟩
theorem mi_X4_latest : sl_mv yX4_latest cX4_latest 3 (some .int) 2 := ⟨⟨by decide +kernel, by decide +kernel, by decide +kernel⟩, List.mem_of_getElem? (i := 521) (by decide +kernel), List.mem_of_getElem? (i := 523) (by decide +kernel), ini_RX4, List.mem_of_getElem? (i := 522) (by decide +kernel)⟩
theorem mi_X4_isStream : sl_ms yX4_isStream cX4_isStream 1 (some .boolean) 1 := ⟨⟨by decide +kernel, by decide +kernel, by decide +kernel⟩, List.mem_of_getElem? (i := 175) (by decide +kernel), List.mem_of_getElem? (i := 176) (by decide +kernel), ini_RX4⟩
theorem mi_X4_isSetOfStreams : sl_ms yX4_isSetOfStreams cX4_isSetOfStreams 1 (some .boolean) 1 := ⟨⟨by decide +kernel, by decide +kernel, by decide +kernel⟩, List.mem_of_getElem? (i := 218) (by decide +kernel), List.mem_of_getElem? (i := 219) (by decide +kernel), ini_RX4⟩
theorem mi_X4_isAmount : sl_ms yX4_isAmount cX4_isAmount 1 (some .boolean) 1 := ⟨⟨by decide +kernel, by decide +kernel, by decide +kernel⟩, List.mem_of_getElem? (i := 221) (by decide +kernel), List.mem_of_getElem? (i := 222) (by decide +kernel), ini_RX4⟩
theorem mi_X4_isPosition : sl_ms yX4_isPosition cX4_isPosition 1 (some .boolean) 1 := ⟨⟨by decide +kernel, by decide +kernel, by decide +kernel⟩, List.mem_of_getElem? (i := 148) (by decide +kernel), List.mem_of_getElem? (i := 149) (by decide +kernel), ini_RX4⟩
theorem mi_X4_isReplica : sl_ms yX4_isReplica cX4_isReplica 1 (some .boolean) 1 := ⟨⟨by decide +kernel, by decide +kernel, by decide +kernel⟩, List.mem_of_getElem? (i := 145) (by decide +kernel), List.mem_of_getElem? (i := 146) (by decide +kernel), ini_RX4⟩
theorem mi_X4_isPointerNumber : sl_ms yX4_isPointerNumber cX4_isPointerNumber 1 (some .boolean) 1 := ⟨⟨by decide +kernel, by decide +kernel, by decide +kernel⟩, List.mem_of_getElem? (i := 178) (by decide +kernel), List.mem_of_getElem? (i := 179) (by decide +kernel), ini_RX4⟩
theorem mi_X4_isIn : sl_ms yX4_isIn cX4_isIn 2 (some .boolean) 2 := ⟨⟨by decide +kernel, by decide +kernel, by decide +kernel⟩, List.mem_of_getElem? (i := 168) (by decide +kernel), List.mem_of_getElem? (i := 169) (by decide +kernel), ini_RX4⟩
theorem mi_X4_isEndOfKnown : sl_mv yX4_isEndOfKnown cX4_isEndOfKnown 2 (some .boolean) 1 := ⟨⟨by decide +kernel, by decide +kernel, by decide +kernel⟩, List.mem_of_getElem? (i := 490) (by decide +kernel), List.mem_of_getElem? (i := 491) (by decide +kernel), ini_RX4, List.mem_of_getElem? (i := 21) (by decide +kernel)⟩
theorem mi_X4_handOut : sl_mv yX4_handOut cX4_handOut 7 (some .int) 4 := ⟨⟨by decide +kernel, by decide +kernel, by decide +kernel⟩, List.mem_of_getElem? (i := 293) (by decide +kernel), List.mem_of_getElem? (i := 294) (by decide +kernel), ini_RX4, List.mem_of_getElem? (i := 12) (by decide +kernel)⟩
theorem mi_X4_entryOf : sl_mv yX4_entryOf cX4_entryOf 2 (some (.object "SharedLog$Entry")) 1 := ⟨⟨by decide +kernel, by decide +kernel, by decide +kernel⟩, List.mem_of_getElem? (i := 161) (by decide +kernel), List.mem_of_getElem? (i := 162) (by decide +kernel), ini_RX4, List.mem_of_getElem? (i := 5) (by decide +kernel)⟩
theorem mi_X4_entryIn : sl_mv yX4_entryIn cX4_entryIn 2 (some (.object "SharedLog$Entry")) 1 := ⟨⟨by decide +kernel, by decide +kernel, by decide +kernel⟩, List.mem_of_getElem? (i := 156) (by decide +kernel), List.mem_of_getElem? (i := 157) (by decide +kernel), ini_RX4, List.mem_of_getElem? (i := 4) (by decide +kernel)⟩
theorem mi_X4_holdsStream : sl_mv yX4_holdsStream cX4_holdsStream 4 (some .boolean) 2 := ⟨⟨by decide +kernel, by decide +kernel, by decide +kernel⟩, List.mem_of_getElem? (i := 495) (by decide +kernel), List.mem_of_getElem? (i := 496) (by decide +kernel), ini_RX4, List.mem_of_getElem? (i := 22) (by decide +kernel)⟩
theorem mi_X4_latestAhead : sl_mv yX4_latestAhead cX4_latestAhead 4 (some .int) 2 := ⟨⟨by decide +kernel, by decide +kernel, by decide +kernel⟩, List.mem_of_getElem? (i := 511) (by decide +kernel), List.mem_of_getElem? (i := 512) (by decide +kernel), ini_RX4, List.mem_of_getElem? (i := 24) (by decide +kernel)⟩
theorem mi_X4_previousByPointers : sl_mv yX4_previousByPointers cX4_previousByPointers 7 (some .int) 2 := ⟨⟨by decide +kernel, by decide +kernel, by decide +kernel⟩, List.mem_of_getElem? (i := 515) (by decide +kernel), List.mem_of_getElem? (i := 516) (by decide +kernel), ini_RX4, List.mem_of_getElem? (i := 25) (by decide +kernel)⟩
theorem mi_X4_foldUpTo : sl_mv yX4_foldUpTo cX4_foldUpTo 3 none 1 := ⟨⟨by decide +kernel, by decide +kernel, by decide +kernel⟩, List.mem_of_getElem? (i := 457) (by decide +kernel), List.mem_of_getElem? (i := 458) (by decide +kernel), ini_RX4, List.mem_of_getElem? (i := 15) (by decide +kernel)⟩
theorem mi_X4_effectOf : sl_mv yX4_effectOf cX4_effectOf 3 (some .int) 1 := ⟨⟨by decide +kernel, by decide +kernel, by decide +kernel⟩, List.mem_of_getElem? (i := 500) (by decide +kernel), List.mem_of_getElem? (i := 501) (by decide +kernel), ini_RX4, List.mem_of_getElem? (i := 23) (by decide +kernel)⟩
theorem mi_X5_init : sl_mi yX5_init cX5_init 2 0 := ⟨⟨by decide +kernel, by decide +kernel, by decide +kernel⟩, List.mem_of_getElem? (i := 527) (by decide +kernel), List.mem_of_getElem? (i := 528) (by decide +kernel), ini_RX5, rfl⟩
theorem mi_X5_thrown : sl_mv yX5_thrown cX5_thrown 1 (some .int) 0 := ⟨⟨by decide +kernel, by decide +kernel, by decide +kernel⟩, List.mem_of_getElem? (i := 580) (by decide +kernel), List.mem_of_getElem? (i := 582) (by decide +kernel), ini_RX5, List.mem_of_getElem? (i := 581) (by decide +kernel)⟩
theorem mi_X5_fails : sl_mv yX5_fails cX5_fails 2 (some .int) 1 := ⟨⟨by decide +kernel, by decide +kernel, by decide +kernel⟩, List.mem_of_getElem? (i := 661) (by decide +kernel), List.mem_of_getElem? (i := 662) (by decide +kernel), ini_RX5, List.mem_of_getElem? (i := 32) (by decide +kernel)⟩
theorem mi_X5_in : sl_ms yX5_in cX5_in 3 (some .boolean) 3 := ⟨⟨by decide +kernel, by decide +kernel, by decide +kernel⟩, List.mem_of_getElem? (i := 591) (by decide +kernel), List.mem_of_getElem? (i := 592) (by decide +kernel), ini_RX5⟩
theorem mi_X5_isSet : sl_ms yX5_isSet cX5_isSet 1 (some .boolean) 1 := ⟨⟨by decide +kernel, by decide +kernel, by decide +kernel⟩, List.mem_of_getElem? (i := 588) (by decide +kernel), List.mem_of_getElem? (i := 589) (by decide +kernel), ini_RX5⟩
theorem mi_X5_isAmount : sl_ms yX5_isAmount cX5_isAmount 1 (some .boolean) 1 := ⟨⟨by decide +kernel, by decide +kernel, by decide +kernel⟩, List.mem_of_getElem? (i := 594) (by decide +kernel), List.mem_of_getElem? (i := 595) (by decide +kernel), ini_RX5⟩
theorem mi_X5_isToken : sl_mv yX5_isToken cX5_isToken 2 (some .boolean) 1 := ⟨⟨by decide +kernel, by decide +kernel, by decide +kernel⟩, List.mem_of_getElem? (i := 630) (by decide +kernel), List.mem_of_getElem? (i := 631) (by decide +kernel), ini_RX5, List.mem_of_getElem? (i := 30) (by decide +kernel)⟩
theorem mi_X5_isPosition : sl_ms yX5_isPosition cX5_isPosition 1 (some .boolean) 1 := ⟨⟨by decide +kernel, by decide +kernel, by decide +kernel⟩, List.mem_of_getElem? (i := 637) (by decide +kernel), List.mem_of_getElem? (i := 638) (by decide +kernel), ini_RX5⟩
theorem mi_X5_cannotHand : sl_mv yX5_cannotHand cX5_cannotHand 1 (some .boolean) 0 := ⟨⟨by decide +kernel, by decide +kernel, by decide +kernel⟩, List.mem_of_getElem? (i := 598) (by decide +kernel), List.mem_of_getElem? (i := 599) (by decide +kernel), ini_RX5, List.mem_of_getElem? (i := 26) (by decide +kernel)⟩
theorem mi_X5_learns : sl_mv yX5_learns cX5_learns 4 none 2 := ⟨⟨by decide +kernel, by decide +kernel, by decide +kernel⟩, List.mem_of_getElem? (i := 606) (by decide +kernel), List.mem_of_getElem? (i := 607) (by decide +kernel), ini_RX5, List.mem_of_getElem? (i := 28) (by decide +kernel)⟩
theorem mi_X5_hands : sl_mv yX5_hands cX5_hands 9 (some .int) 4 := ⟨⟨by decide +kernel, by decide +kernel, by decide +kernel⟩, List.mem_of_getElem? (i := 602) (by decide +kernel), List.mem_of_getElem? (i := 603) (by decide +kernel), ini_RX5, List.mem_of_getElem? (i := 27) (by decide +kernel)⟩
theorem mi_X5_take : sl_mv yX5_take cX5_take 3 (some .int) 2 := ⟨⟨by decide +kernel, by decide +kernel, by decide +kernel⟩, List.mem_of_getElem? (i := 584) (by decide +kernel), List.mem_of_getElem? (i := 586) (by decide +kernel), ini_RX5, List.mem_of_getElem? (i := 585) (by decide +kernel)⟩
theorem mi_X5_takeIf : sl_mv yX5_takeIf cX5_takeIf 6 (some .int) 4 := ⟨⟨by decide +kernel, by decide +kernel, by decide +kernel⟩, List.mem_of_getElem? (i := 609) (by decide +kernel), List.mem_of_getElem? (i := 611) (by decide +kernel), ini_RX5, List.mem_of_getElem? (i := 610) (by decide +kernel)⟩
theorem mi_X5_lose : sl_mv yX5_lose cX5_lose 1 (some .int) 0 := ⟨⟨by decide +kernel, by decide +kernel, by decide +kernel⟩, List.mem_of_getElem? (i := 613) (by decide +kernel), List.mem_of_getElem? (i := 615) (by decide +kernel), ini_RX5, List.mem_of_getElem? (i := 614) (by decide +kernel)⟩
theorem mi_X5_seal : sl_mv yX5_seal cX5_seal 4 (some .int) 0 := ⟨⟨by decide +kernel, by decide +kernel, by decide +kernel⟩, List.mem_of_getElem? (i := 617) (by decide +kernel), List.mem_of_getElem? (i := 619) (by decide +kernel), ini_RX5, List.mem_of_getElem? (i := 618) (by decide +kernel)⟩
theorem mi_X5_hasStream : sl_mv yX5_hasStream cX5_hasStream 3 (some .boolean) 2 := ⟨⟨by decide +kernel, by decide +kernel, by decide +kernel⟩, List.mem_of_getElem? (i := 622) (by decide +kernel), List.mem_of_getElem? (i := 623) (by decide +kernel), ini_RX5, List.mem_of_getElem? (i := 29) (by decide +kernel)⟩
theorem mi_X5_write : sl_mv yX5_write cX5_write 4 (some .int) 1 := ⟨⟨by decide +kernel, by decide +kernel, by decide +kernel⟩, List.mem_of_getElem? (i := 625) (by decide +kernel), List.mem_of_getElem? (i := 627) (by decide +kernel), ini_RX5, List.mem_of_getElem? (i := 626) (by decide +kernel)⟩
theorem mi_X5_isWhole : sl_mv yX5_isWhole cX5_isWhole 2 (some .boolean) 1 := ⟨⟨by decide +kernel, by decide +kernel, by decide +kernel⟩, List.mem_of_getElem? (i := 641) (by decide +kernel), List.mem_of_getElem? (i := 642) (by decide +kernel), ini_RX5, List.mem_of_getElem? (i := 31) (by decide +kernel)⟩
theorem mi_X5_fill : sl_mv yX5_fill cX5_fill 4 (some .boolean) 1 := ⟨⟨by decide +kernel, by decide +kernel, by decide +kernel⟩, List.mem_of_getElem? (i := 633) (by decide +kernel), List.mem_of_getElem? (i := 635) (by decide +kernel), ini_RX5, List.mem_of_getElem? (i := 634) (by decide +kernel)⟩
theorem mi_X5_epoch : sl_mv yX5_epoch cX5_epoch 1 (some .int) 0 := ⟨⟨by decide +kernel, by decide +kernel, by decide +kernel⟩, List.mem_of_getElem? (i := 644) (by decide +kernel), List.mem_of_getElem? (i := 646) (by decide +kernel), ini_RX5, List.mem_of_getElem? (i := 645) (by decide +kernel)⟩
theorem mi_X5_tail : sl_mv yX5_tail cX5_tail 1 (some .int) 0 := ⟨⟨by decide +kernel, by decide +kernel, by decide +kernel⟩, List.mem_of_getElem? (i := 648) (by decide +kernel), List.mem_of_getElem? (i := 650) (by decide +kernel), ini_RX5, List.mem_of_getElem? (i := 649) (by decide +kernel)⟩
theorem mi_X5_tokens : sl_mv yX5_tokens cX5_tokens 1 (some .int) 0 := ⟨⟨by decide +kernel, by decide +kernel, by decide +kernel⟩, List.mem_of_getElem? (i := 652) (by decide +kernel), List.mem_of_getElem? (i := 654) (by decide +kernel), ini_RX5, List.mem_of_getElem? (i := 653) (by decide +kernel)⟩
theorem mi_X5_positionOf : sl_mv yX5_positionOf cX5_positionOf 2 (some .int) 1 := ⟨⟨by decide +kernel, by decide +kernel, by decide +kernel⟩, List.mem_of_getElem? (i := 656) (by decide +kernel), List.mem_of_getElem? (i := 658) (by decide +kernel), ini_RX5, List.mem_of_getElem? (i := 657) (by decide +kernel)⟩
theorem mi_X5_stateOf : sl_mv yX5_stateOf cX5_stateOf 2 (some .int) 1 := ⟨⟨by decide +kernel, by decide +kernel, by decide +kernel⟩, List.mem_of_getElem? (i := 664) (by decide +kernel), List.mem_of_getElem? (i := 666) (by decide +kernel), ini_RX5, List.mem_of_getElem? (i := 665) (by decide +kernel)⟩
theorem mi_X5_pointer : sl_mv yX5_pointer cX5_pointer 4 (some .int) 3 := ⟨⟨by decide +kernel, by decide +kernel, by decide +kernel⟩, List.mem_of_getElem? (i := 668) (by decide +kernel), List.mem_of_getElem? (i := 670) (by decide +kernel), ini_RX5, List.mem_of_getElem? (i := 669) (by decide +kernel)⟩
theorem mi_X5_cellAt : sl_mv yX5_cellAt cX5_cellAt 3 (some .int) 2 := ⟨⟨by decide +kernel, by decide +kernel, by decide +kernel⟩, List.mem_of_getElem? (i := 672) (by decide +kernel), List.mem_of_getElem? (i := 674) (by decide +kernel), ini_RX5, List.mem_of_getElem? (i := 673) (by decide +kernel)⟩
theorem mi_X5_knownMany : sl_mv yX5_knownMany cX5_knownMany 2 (some .int) 0 := ⟨⟨by decide +kernel, by decide +kernel, by decide +kernel⟩, List.mem_of_getElem? (i := 681) (by decide +kernel), List.mem_of_getElem? (i := 682) (by decide +kernel), ini_RX5, List.mem_of_getElem? (i := 33) (by decide +kernel)⟩
theorem mi_X5_known : sl_mv yX5_known cX5_known 1 (some .int) 0 := ⟨⟨by decide +kernel, by decide +kernel, by decide +kernel⟩, List.mem_of_getElem? (i := 676) (by decide +kernel), List.mem_of_getElem? (i := 678) (by decide +kernel), ini_RX5, List.mem_of_getElem? (i := 677) (by decide +kernel)⟩
theorem mi_X5_folds : sl_mv yX5_folds cX5_folds 5 none 0 := ⟨⟨by decide +kernel, by decide +kernel, by decide +kernel⟩, List.mem_of_getElem? (i := 689) (by decide +kernel), List.mem_of_getElem? (i := 690) (by decide +kernel), ini_RX5, List.mem_of_getElem? (i := 34) (by decide +kernel)⟩
theorem mi_X5_takesEffect : sl_mv yX5_takesEffect cX5_takesEffect 2 (some .boolean) 1 := ⟨⟨by decide +kernel, by decide +kernel, by decide +kernel⟩, List.mem_of_getElem? (i := 684) (by decide +kernel), List.mem_of_getElem? (i := 686) (by decide +kernel), ini_RX5, List.mem_of_getElem? (i := 685) (by decide +kernel)⟩
theorem mi_X5_isAsked : sl_mv yX5_isAsked cX5_isAsked 3 (some .boolean) 2 := ⟨⟨by decide +kernel, by decide +kernel, by decide +kernel⟩, List.mem_of_getElem? (i := 697) (by decide +kernel), List.mem_of_getElem? (i := 698) (by decide +kernel), ini_RX5, List.mem_of_getElem? (i := 35) (by decide +kernel)⟩
theorem mi_X5_folded : sl_mv yX5_folded cX5_folded 5 (some .int) 2 := ⟨⟨by decide +kernel, by decide +kernel, by decide +kernel⟩, List.mem_of_getElem? (i := 701) (by decide +kernel), List.mem_of_getElem? (i := 702) (by decide +kernel), ini_RX5, List.mem_of_getElem? (i := 36) (by decide +kernel)⟩
theorem mi_X5_value : sl_mv yX5_value cX5_value 3 (some .int) 2 := ⟨⟨by decide +kernel, by decide +kernel, by decide +kernel⟩, List.mem_of_getElem? (i := 692) (by decide +kernel), List.mem_of_getElem? (i := 694) (by decide +kernel), ini_RX5, List.mem_of_getElem? (i := 693) (by decide +kernel)⟩
theorem mi_X5_valueByPointers : sl_mv yX5_valueByPointers cX5_valueByPointers 3 (some .int) 2 := ⟨⟨by decide +kernel, by decide +kernel, by decide +kernel⟩, List.mem_of_getElem? (i := 704) (by decide +kernel), List.mem_of_getElem? (i := 706) (by decide +kernel), ini_RX5, List.mem_of_getElem? (i := 705) (by decide +kernel)⟩
theorem mi_X5_latest : sl_mv yX5_latest cX5_latest 6 (some .int) 2 := ⟨⟨by decide +kernel, by decide +kernel, by decide +kernel⟩, List.mem_of_getElem? (i := 708) (by decide +kernel), List.mem_of_getElem? (i := 710) (by decide +kernel), ini_RX5, List.mem_of_getElem? (i := 709) (by decide +kernel)⟩
theorem mi_J7_fill_53178 : sl_ms yJ7_fill_53178 cJ7_fill_53178 4 none 2 := ⟨⟨by decide +kernel, by decide +kernel, by decide +kernel⟩, List.mem_of_getElem? (i := 68) (by decide +kernel), List.mem_of_getElem? (i := 69) (by decide +kernel), ini_RJ7⟩
theorem mi_L_take : sl_mw yL_take cL_take 5 (some .int) [(0, 10, 13, 13), (0, 10, 17, 15)] 4 := ⟨⟨by decide +kernel, by decide +kernel, by decide +kernel⟩, List.mem_of_getElem? (i := 209) (by decide +kernel), List.mem_of_getElem? (i := 210) (by decide +kernel), ini_RL⟩
theorem mi_L_takeIf : sl_mw yL_takeIf cL_takeIf 7 (some .int) [(0, 14, 17, 13), (0, 14, 21, 15)] 6 := ⟨⟨by decide +kernel, by decide +kernel, by decide +kernel⟩, List.mem_of_getElem? (i := 357) (by decide +kernel), List.mem_of_getElem? (i := 358) (by decide +kernel), ini_RL⟩
theorem mi_L_lose : sl_mw yL_lose cL_lose 3 (some .int) [(0, 8, 11, 15)] 2 := ⟨⟨by decide +kernel, by decide +kernel, by decide +kernel⟩, List.mem_of_getElem? (i := 366) (by decide +kernel), List.mem_of_getElem? (i := 367) (by decide +kernel), ini_RL⟩
theorem mi_L_write : sl_mw yL_write cL_write 4 (some .int) [(0, 9, 12, 29), (0, 9, 15, 15)] 3 := ⟨⟨by decide +kernel, by decide +kernel, by decide +kernel⟩, List.mem_of_getElem? (i := 374) (by decide +kernel), List.mem_of_getElem? (i := 375) (by decide +kernel), ini_RL⟩
theorem mi_L_fill : sl_mw yL_fill cL_fill 4 (some .int) [(0, 16, 19, 29), (0, 16, 22, 15)] 3 := ⟨⟨by decide +kernel, by decide +kernel, by decide +kernel⟩, List.mem_of_getElem? (i := 403) (by decide +kernel), List.mem_of_getElem? (i := 404) (by decide +kernel), ini_RL⟩
theorem mi_L_positionOf : sl_mw yL_positionOf cL_positionOf 4 (some .int) [(0, 9, 12, 29)] 3 := ⟨⟨by decide +kernel, by decide +kernel, by decide +kernel⟩, List.mem_of_getElem? (i := 414) (by decide +kernel), List.mem_of_getElem? (i := 415) (by decide +kernel), ini_RL⟩
theorem mi_L_stateOf : sl_mw yL_stateOf cL_stateOf 4 (some .int) [(0, 9, 12, 29)] 3 := ⟨⟨by decide +kernel, by decide +kernel, by decide +kernel⟩, List.mem_of_getElem? (i := 421) (by decide +kernel), List.mem_of_getElem? (i := 422) (by decide +kernel), ini_RL⟩
theorem mi_L_pointer : sl_mw yL_pointer cL_pointer 6 (some .int) [(0, 12, 15, 29)] 5 := ⟨⟨by decide +kernel, by decide +kernel, by decide +kernel⟩, List.mem_of_getElem? (i := 428) (by decide +kernel), List.mem_of_getElem? (i := 429) (by decide +kernel), ini_RL⟩
theorem mi_L_cellAt : sl_mw yL_cellAt cL_cellAt 5 (some .int) [(0, 10, 13, 29)] 4 := ⟨⟨by decide +kernel, by decide +kernel, by decide +kernel⟩, List.mem_of_getElem? (i := 439) (by decide +kernel), List.mem_of_getElem? (i := 440) (by decide +kernel), ini_RL⟩
theorem mi_L_takesEffect : sl_mw yL_takesEffect cL_takesEffect 4 (some .int) [(0, 16, 19, 29)] 3 := ⟨⟨by decide +kernel, by decide +kernel, by decide +kernel⟩, List.mem_of_getElem? (i := 448) (by decide +kernel), List.mem_of_getElem? (i := 449) (by decide +kernel), ini_RL⟩
theorem mi_L_value : sl_mw yL_value cL_value 5 (some .int) [(0, 10, 13, 29)] 4 := ⟨⟨by decide +kernel, by decide +kernel, by decide +kernel⟩, List.mem_of_getElem? (i := 482) (by decide +kernel), List.mem_of_getElem? (i := 483) (by decide +kernel), ini_RL⟩
theorem mi_L_valueByPointers : sl_mw yL_valueByPointers cL_valueByPointers 5 (some .int) [(0, 10, 13, 29)] 4 := ⟨⟨by decide +kernel, by decide +kernel, by decide +kernel⟩, List.mem_of_getElem? (i := 503) (by decide +kernel), List.mem_of_getElem? (i := 504) (by decide +kernel), ini_RL⟩
theorem mi_L_latest : sl_mw yL_latest cL_latest 5 (some .int) [(0, 10, 13, 29)] 4 := ⟨⟨by decide +kernel, by decide +kernel, by decide +kernel⟩, List.mem_of_getElem? (i := 518) (by decide +kernel), List.mem_of_getElem? (i := 519) (by decide +kernel), ini_RL⟩
