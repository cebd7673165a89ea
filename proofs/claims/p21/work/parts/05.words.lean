/-! each link, each method: its words, by their places in the tables -/
theorem ini_RL : Cond.initialized RL ∈ lw_tbl := List.mem_of_getElem? (i := 26) (by decide +kernel)
theorem ini_RX4 : Cond.initialized RX4 ∈ lw_tbl := List.mem_of_getElem? (i := 27) (by decide +kernel)
theorem ini_RX0 : Cond.initialized RX0 ∈ lw_tbl := List.mem_of_getElem? (i := 28) (by decide +kernel)
theorem ini_RJ7 : Cond.initialized RJ7 ∈ lw_tbl := List.mem_of_getElem? (i := 29) (by decide +kernel)
theorem ini_RX3 : Cond.initialized RX3 ∈ lw_tbl := List.mem_of_getElem? (i := 30) (by decide +kernel)
theorem ini_RX2 : Cond.initialized RX2 ∈ lw_tbl := List.mem_of_getElem? (i := 31) (by decide +kernel)
theorem ini_Throwable : Cond.initialized "java/lang/Throwable" ∈ lw_tbl := List.mem_of_getElem? (i := 32) (by decide +kernel)
theorem ini_Exception : Cond.initialized "java/lang/Exception" ∈ lw_tbl := List.mem_of_getElem? (i := 33) (by decide +kernel)
theorem ini_RuntimeException : Cond.initialized "java/lang/RuntimeException" ∈ lw_tbl := List.mem_of_getElem? (i := 34) (by decide +kernel)
theorem ini_IllegalArgumentException : Cond.initialized "java/lang/IllegalArgumentException" ∈ lw_tbl := List.mem_of_getElem? (i := 35) (by decide +kernel)
theorem ini_IllegalStateException : Cond.initialized "java/lang/IllegalStateException" ∈ lw_tbl := List.mem_of_getElem? (i := 36) (by decide +kernel)
theorem ini_RX1 : Cond.initialized RX1 ∈ lw_tbl := List.mem_of_getElem? (i := 37) (by decide +kernel)
theorem ini_IndexOutOfBoundsException : Cond.initialized "java/lang/IndexOutOfBoundsException" ∈ lw_tbl := List.mem_of_getElem? (i := 38) (by decide +kernel)
theorem lk_RL_9 : Cond.classLink RL 9 RX4 ∈ lw_tbl := List.mem_of_getElem? (i := 39) (by decide +kernel)
theorem in_RX4 : Cond.instantiable RX4 8 ∈ lw_tbl := List.mem_of_getElem? (i := 40) (by decide +kernel)
theorem lk_RL_31 : Cond.methodLink RL 31 yX4_init ∈ lw_tbl := List.mem_of_getElem? (i := 41) (by decide +kernel)
theorem lk_RX4_1 : Cond.methodLink RX4 1 objectInit ∈ lw_tbl := List.mem_of_getElem? (i := 44) (by decide +kernel)
theorem oi_inst : Cond.instanceMethod objectInit ∈ lw_tbl := List.mem_of_getElem? (i := 45) (by decide +kernel)
theorem oi_code : Cond.code objectInit ⟨#[0xb1]⟩ 1 none ∈ lw_tbl := List.mem_of_getElem? (i := 46) (by decide +kernel)
theorem lk_RX4_9 : Cond.classLink RX4 9 RX1 ∈ lw_tbl := List.mem_of_getElem? (i := 47) (by decide +kernel)
theorem lk_RX4_15 : Cond.classLink RX4 15 RX0 ∈ lw_tbl := List.mem_of_getElem? (i := 49) (by decide +kernel)
theorem in_RX0 : Cond.instantiable RX0 1 ∈ lw_tbl := List.mem_of_getElem? (i := 50) (by decide +kernel)
theorem lk_RX4_17 : Cond.methodLinkNest RX4 17 yX0_init RX4 ∈ lw_tbl := List.mem_of_getElem? (i := 51) (by decide +kernel)
theorem lk_RX0_3 : Cond.methodLink RX0 3 objectInit ∈ lw_tbl := List.mem_of_getElem? (i := 54) (by decide +kernel)
theorem lk_RX0_15 : Cond.methodLink RX0 15 yJ7_fill_53178 ∈ lw_tbl := List.mem_of_getElem? (i := 55) (by decide +kernel)
theorem lk_RX0_9 : Cond.fieldLink RX0 9 RX0 "contents" "[I" ∈ lw_tbl := List.mem_of_getElem? (i := 58) (by decide +kernel)
theorem ac_int : Cond.arrayClass .int ∈ lw_tbl := List.mem_of_getElem? (i := 62) (by decide +kernel)
theorem lk_RX4_22 : Cond.classLink RX4 22 RX3 ∈ lw_tbl := List.mem_of_getElem? (i := 63) (by decide +kernel)
theorem in_RX3 : Cond.instantiable RX3 1 ∈ lw_tbl := List.mem_of_getElem? (i := 64) (by decide +kernel)
theorem lk_RX4_24 : Cond.methodLinkNest RX4 24 yX3_init RX4 ∈ lw_tbl := List.mem_of_getElem? (i := 65) (by decide +kernel)
theorem lk_RX3_3 : Cond.methodLink RX3 3 objectInit ∈ lw_tbl := List.mem_of_getElem? (i := 68) (by decide +kernel)
theorem lk_RX3_15 : Cond.methodLink RX3 15 yJ7_fill_53178 ∈ lw_tbl := List.mem_of_getElem? (i := 69) (by decide +kernel)
theorem lk_RX3_9 : Cond.fieldLink RX3 9 RX3 "positions" "[I" ∈ lw_tbl := List.mem_of_getElem? (i := 70) (by decide +kernel)
theorem lk_RX4_29 : Cond.classLink RX4 29 RX2 ∈ lw_tbl := List.mem_of_getElem? (i := 74) (by decide +kernel)
theorem in_RX2 : Cond.instantiable RX2 3 ∈ lw_tbl := List.mem_of_getElem? (i := 75) (by decide +kernel)
theorem lk_RX4_31 : Cond.methodLinkNest RX4 31 yX2_init RX4 ∈ lw_tbl := List.mem_of_getElem? (i := 76) (by decide +kernel)
theorem lk_RX2_3 : Cond.methodLink RX2 3 objectInit ∈ lw_tbl := List.mem_of_getElem? (i := 79) (by decide +kernel)
theorem lk_RX2_9 : Cond.fieldLink RX2 9 RX2 "effects" "[Z" ∈ lw_tbl := List.mem_of_getElem? (i := 80) (by decide +kernel)
theorem lk_RX2_15 : Cond.fieldLink RX2 15 RX2 "changes" "[I" ∈ lw_tbl := List.mem_of_getElem? (i := 81) (by decide +kernel)
theorem lk_RX2_19 : Cond.fieldLink RX2 19 RX2 "folded" "I" ∈ lw_tbl := List.mem_of_getElem? (i := 82) (by decide +kernel)
theorem ac_boolean : Cond.arrayClass .boolean ∈ lw_tbl := List.mem_of_getElem? (i := 90) (by decide +kernel)
theorem lk_RX4_11 : Cond.fieldLink RX4 11 RX4 "entries" "[LSharedLog$Entry;" ∈ lw_tbl := List.mem_of_getElem? (i := 91) (by decide +kernel)
theorem lk_RX4_18 : Cond.fieldLink RX4 18 RX4 "cells" "LSharedLog$Cells;" ∈ lw_tbl := List.mem_of_getElem? (i := 92) (by decide +kernel)
theorem lk_RX4_25 : Cond.fieldLink RX4 25 RX4 "sequencerKnows" "LSharedLog$Trail;" ∈ lw_tbl := List.mem_of_getElem? (i := 93) (by decide +kernel)
theorem lk_RX4_32 : Cond.fieldLink RX4 32 RX4 "fold" "LSharedLog$Fold;" ∈ lw_tbl := List.mem_of_getElem? (i := 94) (by decide +kernel)
theorem lk_RX4_36 : Cond.fieldLink RX4 36 RX4 "handedOut" "I" ∈ lw_tbl := List.mem_of_getElem? (i := 95) (by decide +kernel)
theorem lk_RX4_40 : Cond.fieldLink RX4 40 RX4 "epoch" "I" ∈ lw_tbl := List.mem_of_getElem? (i := 96) (by decide +kernel)
theorem lk_RX4_43 : Cond.fieldLink RX4 43 RX4 "tail" "I" ∈ lw_tbl := List.mem_of_getElem? (i := 97) (by decide +kernel)
theorem lk_RX4_46 : Cond.fieldLink RX4 46 RX4 "sequencerLost" "Z" ∈ lw_tbl := List.mem_of_getElem? (i := 98) (by decide +kernel)
theorem lk_RL_48 : Cond.methodLink RL 48 yX4_take ∈ lw_tbl := List.mem_of_getElem? (i := 116) (by decide +kernel)
theorem lk_RX4_50 : Cond.methodLink RX4 50 yX4_isSetOfStreams ∈ lw_tbl := List.mem_of_getElem? (i := 120) (by decide +kernel)
theorem lk_RX4_54 : Cond.methodLink RX4 54 yX4_isAmount ∈ lw_tbl := List.mem_of_getElem? (i := 123) (by decide +kernel)
theorem lk_RX4_57 : Cond.classLink RX4 57 "java/lang/IllegalArgumentException" ∈ lw_tbl := List.mem_of_getElem? (i := 126) (by decide +kernel)
theorem lk_RX4_61 : Cond.methodLink RX4 61 ⟨"java/lang/IllegalArgumentException", "<init>", "(Ljava/lang/String;)V"⟩ ∈ lw_tbl := List.mem_of_getElem? (i := 168) (by decide +kernel)
theorem ac_byte : Cond.arrayClass .byte ∈ lw_tbl := List.mem_of_getElem? (i := 193) (by decide +kernel)
theorem lk_RX4_64 : Cond.methodLink RX4 64 yX4_handOut ∈ lw_tbl := List.mem_of_getElem? (i := 194) (by decide +kernel)
theorem lk_RX4_72 : Cond.classLink RX4 72 "java/lang/IllegalStateException" ∈ lw_tbl := List.mem_of_getElem? (i := 198) (by decide +kernel)
theorem lk_RX4_76 : Cond.methodLink RX4 76 ⟨"java/lang/IllegalStateException", "<init>", "(Ljava/lang/String;)V"⟩ ∈ lw_tbl := List.mem_of_getElem? (i := 208) (by decide +kernel)
theorem lk_RX4_180 : Cond.methodLinkNest RX4 180 yX3_copyFor RX4 ∈ lw_tbl := List.mem_of_getElem? (i := 214) (by decide +kernel)
theorem lk_RX3_10 : Cond.classLink RX3 10 RX3 ∈ lw_tbl := List.mem_of_getElem? (i := 218) (by decide +kernel)
theorem lk_RX3_40 : Cond.methodLink RX3 40 yX3_init ∈ lw_tbl := List.mem_of_getElem? (i := 219) (by decide +kernel)
theorem lk_RX3_28 : Cond.methodLinkNest RX3 28 yX4_isIn RX4 ∈ lw_tbl := List.mem_of_getElem? (i := 220) (by decide +kernel)
theorem lk_RX3_32 : Cond.methodLink RX3 32 yX3_get ∈ lw_tbl := List.mem_of_getElem? (i := 223) (by decide +kernel)
theorem lk_RX3_21 : Cond.methodLinkNest RX3 21 yX4_isStream RX4 ∈ lw_tbl := List.mem_of_getElem? (i := 227) (by decide +kernel)
theorem lk_RX3_25 : Cond.methodLinkNest RX3 25 yX4_isPointerNumber RX4 ∈ lw_tbl := List.mem_of_getElem? (i := 230) (by decide +kernel)
theorem lk_RX3_36 : Cond.methodLink RX3 36 yX3_set ∈ lw_tbl := List.mem_of_getElem? (i := 233) (by decide +kernel)
theorem in_RX1 : Cond.instantiable RX1 8 ∈ lw_tbl := List.mem_of_getElem? (i := 237) (by decide +kernel)
theorem lk_RX4_184 : Cond.methodLinkNest RX4 184 yX1_init RX4 ∈ lw_tbl := List.mem_of_getElem? (i := 238) (by decide +kernel)
theorem lk_RX1_1 : Cond.methodLink RX1 1 objectInit ∈ lw_tbl := List.mem_of_getElem? (i := 241) (by decide +kernel)
theorem lk_RX1_13 : Cond.fieldLink RX1 13 RX1 "position" "I" ∈ lw_tbl := List.mem_of_getElem? (i := 242) (by decide +kernel)
theorem lk_RX4_109 : Cond.fieldLinkNest RX4 109 RX1 "position" "I" RX4 ∈ lw_tbl := List.mem_of_getElem? (i := 243) (by decide +kernel)
theorem lk_RX1_16 : Cond.fieldLink RX1 16 RX1 "epoch" "I" ∈ lw_tbl := List.mem_of_getElem? (i := 244) (by decide +kernel)
theorem lk_RX4_106 : Cond.fieldLinkNest RX4 106 RX1 "epoch" "I" RX4 ∈ lw_tbl := List.mem_of_getElem? (i := 245) (by decide +kernel)
theorem lk_RX1_19 : Cond.fieldLink RX1 19 RX1 "streams" "I" ∈ lw_tbl := List.mem_of_getElem? (i := 246) (by decide +kernel)
theorem lk_RX2_41 : Cond.fieldLinkNest RX2 41 RX1 "streams" "I" RX4 ∈ lw_tbl := List.mem_of_getElem? (i := 247) (by decide +kernel)
theorem lk_RX4_88 : Cond.fieldLinkNest RX4 88 RX1 "streams" "I" RX4 ∈ lw_tbl := List.mem_of_getElem? (i := 248) (by decide +kernel)
theorem lk_RX1_22 : Cond.fieldLink RX1 22 RX1 "amount" "I" ∈ lw_tbl := List.mem_of_getElem? (i := 249) (by decide +kernel)
theorem lk_RX4_197 : Cond.fieldLinkNest RX4 197 RX1 "amount" "I" RX4 ∈ lw_tbl := List.mem_of_getElem? (i := 250) (by decide +kernel)
theorem lk_RX1_25 : Cond.fieldLink RX1 25 RX1 "read" "I" ∈ lw_tbl := List.mem_of_getElem? (i := 251) (by decide +kernel)
theorem lk_RX2_29 : Cond.fieldLinkNest RX2 29 RX1 "read" "I" RX4 ∈ lw_tbl := List.mem_of_getElem? (i := 252) (by decide +kernel)
theorem lk_RX1_28 : Cond.fieldLink RX1 28 RX1 "version" "I" ∈ lw_tbl := List.mem_of_getElem? (i := 253) (by decide +kernel)
theorem lk_RX2_34 : Cond.fieldLinkNest RX2 34 RX1 "version" "I" RX4 ∈ lw_tbl := List.mem_of_getElem? (i := 254) (by decide +kernel)
theorem lk_RX1_31 : Cond.fieldLink RX1 31 RX1 "pointers" "LSharedLog$Trail;" ∈ lw_tbl := List.mem_of_getElem? (i := 255) (by decide +kernel)
theorem lk_RX4_138 : Cond.fieldLinkNest RX4 138 RX1 "pointers" "LSharedLog$Trail;" RX4 ∈ lw_tbl := List.mem_of_getElem? (i := 256) (by decide +kernel)
theorem lk_RX1_7 : Cond.fieldLink RX1 7 RX1 "steps" "I" ∈ lw_tbl := List.mem_of_getElem? (i := 257) (by decide +kernel)
theorem lk_RX4_103 : Cond.fieldLinkNest RX4 103 RX1 "steps" "I" RX4 ∈ lw_tbl := List.mem_of_getElem? (i := 258) (by decide +kernel)
theorem lk_RX4_91 : Cond.methodLinkNest RX4 91 yX3_push RX4 ∈ lw_tbl := List.mem_of_getElem? (i := 276) (by decide +kernel)
theorem lk_RL_51 : Cond.methodLink RL 51 yX4_takeIf ∈ lw_tbl := List.mem_of_getElem? (i := 280) (by decide +kernel)
theorem lk_RL_68 : Cond.methodLink RL 68 yX4_lose ∈ lw_tbl := List.mem_of_getElem? (i := 286) (by decide +kernel)
theorem lk_RL_71 : Cond.methodLink RL 71 yX4_seal ∈ lw_tbl := List.mem_of_getElem? (i := 291) (by decide +kernel)
theorem lk_RX4_77 : Cond.methodLinkNest RX4 77 yX0_end RX4 ∈ lw_tbl := List.mem_of_getElem? (i := 295) (by decide +kernel)
theorem lk_RX0_32 : Cond.methodLink RX0 32 yX0_countWritten ∈ lw_tbl := List.mem_of_getElem? (i := 299) (by decide +kernel)
theorem lk_RX0_28 : Cond.methodLink RX0 28 yX0_get ∈ lw_tbl := List.mem_of_getElem? (i := 303) (by decide +kernel)
theorem lk_RX0_21 : Cond.methodLinkNest RX0 21 yX4_isReplica RX4 ∈ lw_tbl := List.mem_of_getElem? (i := 307) (by decide +kernel)
theorem lk_RX0_25 : Cond.methodLinkNest RX0 25 yX4_isPosition RX4 ∈ lw_tbl := List.mem_of_getElem? (i := 310) (by decide +kernel)
theorem lk_RX4_81 : Cond.methodLinkNest RX4 81 yX3_clear RX4 ∈ lw_tbl := List.mem_of_getElem? (i := 313) (by decide +kernel)
theorem lk_RX4_84 : Cond.methodLink RX4 84 yX4_entryIn ∈ lw_tbl := List.mem_of_getElem? (i := 317) (by decide +kernel)
theorem lk_RX4_112 : Cond.methodLinkNest RX4 112 yX0_get RX4 ∈ lw_tbl := List.mem_of_getElem? (i := 321) (by decide +kernel)
theorem lk_RX4_95 : Cond.methodLink RX4 95 yX4_entryOf ∈ lw_tbl := List.mem_of_getElem? (i := 322) (by decide +kernel)
theorem lk_RL_65 : Cond.methodLink RL 65 yX4_fill ∈ lw_tbl := List.mem_of_getElem? (i := 326) (by decide +kernel)
theorem lk_RX4_120 : Cond.methodLink RX4 120 yX4_isPosition ∈ lw_tbl := List.mem_of_getElem? (i := 330) (by decide +kernel)
theorem lk_RX4_98 : Cond.classLink RX4 98 "java/lang/IndexOutOfBoundsException" ∈ lw_tbl := List.mem_of_getElem? (i := 331) (by decide +kernel)
theorem lk_RX4_102 : Cond.methodLink RX4 102 ⟨"java/lang/IndexOutOfBoundsException", "<init>", "(Ljava/lang/String;)V"⟩ ∈ lw_tbl := List.mem_of_getElem? (i := 341) (by decide +kernel)
theorem lk_RX4_125 : Cond.methodLinkNest RX4 125 yX0_isComplete RX4 ∈ lw_tbl := List.mem_of_getElem? (i := 347) (by decide +kernel)
theorem lk_RX4_116 : Cond.methodLinkNest RX4 116 yX0_put RX4 ∈ lw_tbl := List.mem_of_getElem? (i := 352) (by decide +kernel)
theorem lk_RL_45 : Cond.methodLink RL 45 yX4_epoch ∈ lw_tbl := List.mem_of_getElem? (i := 356) (by decide +kernel)
theorem lk_RL_41 : Cond.methodLink RL 41 yX4_tail ∈ lw_tbl := List.mem_of_getElem? (i := 360) (by decide +kernel)
theorem lk_RL_55 : Cond.methodLink RL 55 yX4_positionOf ∈ lw_tbl := List.mem_of_getElem? (i := 364) (by decide +kernel)
theorem lk_RL_58 : Cond.methodLink RL 58 yX4_stateOf ∈ lw_tbl := List.mem_of_getElem? (i := 369) (by decide +kernel)
theorem lk_RL_8 : Cond.methodLink RL 8 yX4_cellAt ∈ lw_tbl := List.mem_of_getElem? (i := 373) (by decide +kernel)
theorem lk_RX4_142 : Cond.methodLink RX4 142 yX4_isReplica ∈ lw_tbl := List.mem_of_getElem? (i := 377) (by decide +kernel)
theorem lk_RL_74 : Cond.methodLink RL 74 yX4_known ∈ lw_tbl := List.mem_of_getElem? (i := 379) (by decide +kernel)
theorem lk_RX4_147 : Cond.methodLinkNest RX4 147 yX0_completeFromStart RX4 ∈ lw_tbl := List.mem_of_getElem? (i := 383) (by decide +kernel)
theorem lk_RX0_36 : Cond.methodLink RX0 36 yX0_isComplete ∈ lw_tbl := List.mem_of_getElem? (i := 387) (by decide +kernel)
theorem lk_RL_32 : Cond.methodLink RL 32 yL_cell ∈ lw_tbl := List.mem_of_getElem? (i := 388) (by decide +kernel)
theorem lk_RL_38 : Cond.methodLink RL 38 yL_low ∈ lw_tbl := List.mem_of_getElem? (i := 391) (by decide +kernel)
theorem lk_RL_77 : Cond.methodLink RL 77 yL_folds ∈ lw_tbl := List.mem_of_getElem? (i := 395) (by decide +kernel)
theorem lk_RL_81 : Cond.methodLink RL 81 yL_isFolded ∈ lw_tbl := List.mem_of_getElem? (i := 398) (by decide +kernel)
theorem lk_RL_14 : Cond.methodLink RL 14 yX4_value ∈ lw_tbl := List.mem_of_getElem? (i := 401) (by decide +kernel)
theorem lk_RX4_130 : Cond.methodLink RX4 130 yX4_isStream ∈ lw_tbl := List.mem_of_getElem? (i := 405) (by decide +kernel)
theorem lk_RX4_159 : Cond.methodLink RX4 159 yX4_isEndOfKnown ∈ lw_tbl := List.mem_of_getElem? (i := 406) (by decide +kernel)
theorem lk_RX4_152 : Cond.methodLink RX4 152 yX4_foldUpTo ∈ lw_tbl := List.mem_of_getElem? (i := 411) (by decide +kernel)
theorem lk_RX4_190 : Cond.methodLinkNest RX4 190 yX2_restart RX4 ∈ lw_tbl := List.mem_of_getElem? (i := 415) (by decide +kernel)
theorem lk_RX2_23 : Cond.methodLink RX2 23 yJ7_fill_53178 ∈ lw_tbl := List.mem_of_getElem? (i := 419) (by decide +kernel)
theorem lk_RX4_193 : Cond.methodLinkNest RX4 193 yX2_add RX4 ∈ lw_tbl := List.mem_of_getElem? (i := 420) (by decide +kernel)
theorem lk_RX2_37 : Cond.methodLink RX2 37 yX2_isUnchanged ∈ lw_tbl := List.mem_of_getElem? (i := 424) (by decide +kernel)
theorem lk_RX2_48 : Cond.methodLinkNest RX2 48 yX4_isIn RX4 ∈ lw_tbl := List.mem_of_getElem? (i := 428) (by decide +kernel)
theorem lk_RX2_44 : Cond.methodLink RX2 44 yX2_noteChange ∈ lw_tbl := List.mem_of_getElem? (i := 429) (by decide +kernel)
theorem lk_RX4_164 : Cond.methodLink RX4 164 yX4_holdsStream ∈ lw_tbl := List.mem_of_getElem? (i := 433) (by decide +kernel)
theorem lk_RX4_187 : Cond.methodLink RX4 187 yX4_isIn ∈ lw_tbl := List.mem_of_getElem? (i := 437) (by decide +kernel)
theorem lk_RX4_168 : Cond.methodLink RX4 168 yX4_effectOf ∈ lw_tbl := List.mem_of_getElem? (i := 438) (by decide +kernel)
theorem lk_RX4_156 : Cond.methodLinkNest RX4 156 yX2_hasEffect RX4 ∈ lw_tbl := List.mem_of_getElem? (i := 442) (by decide +kernel)
theorem lk_RL_17 : Cond.methodLink RL 17 yX4_valueByPointers ∈ lw_tbl := List.mem_of_getElem? (i := 446) (by decide +kernel)
theorem lk_RX4_172 : Cond.methodLink RX4 172 yX4_latestAhead ∈ lw_tbl := List.mem_of_getElem? (i := 450) (by decide +kernel)
theorem lk_RX4_175 : Cond.methodLink RX4 175 yX4_previousByPointers ∈ lw_tbl := List.mem_of_getElem? (i := 454) (by decide +kernel)
theorem lk_RX4_141 : Cond.methodLinkNest RX4 141 yX3_get RX4 ∈ lw_tbl := List.mem_of_getElem? (i := 458) (by decide +kernel)
theorem lk_RL_20 : Cond.methodLink RL 20 yX4_latest ∈ lw_tbl := List.mem_of_getElem? (i := 459) (by decide +kernel)
theorem lk_RL_23 : Cond.methodLink RL 23 yX4_takesEffect ∈ lw_tbl := List.mem_of_getElem? (i := 463) (by decide +kernel)
theorem lk_RL_61 : Cond.methodLink RL 61 yL_writes ∈ lw_tbl := List.mem_of_getElem? (i := 468) (by decide +kernel)
theorem lk_RL_27 : Cond.methodLink RL 27 yX4_write ∈ lw_tbl := List.mem_of_getElem? (i := 471) (by decide +kernel)
theorem la_0 : ∀ w ∈ u_ws RX0 TX0 1, w ∈ lw_tbl ∧ sl_ok w = true := by decide +kernel
theorem la_1 : ∀ w ∈ u_ws RX1 TX1 8, w ∈ lw_tbl ∧ sl_ok w = true := by decide +kernel
theorem la_2 : ∀ w ∈ u_ws RX2 TX2 3, w ∈ lw_tbl ∧ sl_ok w = true := by decide +kernel
theorem la_3 : ∀ w ∈ u_ws RX3 TX3 1, w ∈ lw_tbl ∧ sl_ok w = true := by decide +kernel
theorem la_4 : ∀ w ∈ u_ws RX4 TX4 8, w ∈ lw_tbl ∧ sl_ok w = true := by decide +kernel
theorem mi_X0_init : sl_mi yX0_init cX0_init 1 0 := ⟨⟨by decide +kernel, by decide +kernel, by decide +kernel⟩, List.mem_of_getElem? (i := 52) (by decide +kernel), List.mem_of_getElem? (i := 53) (by decide +kernel), ini_RX0, rfl⟩
theorem mi_X0_get : sl_mv yX0_get cX0_get 3 (some .int) 2 := ⟨⟨by decide +kernel, by decide +kernel, by decide +kernel⟩, List.mem_of_getElem? (i := 305) (by decide +kernel), List.mem_of_getElem? (i := 306) (by decide +kernel), ini_RX0, List.mem_of_getElem? (i := 8) (by decide +kernel)⟩
theorem mi_X0_put : sl_mv yX0_put cX0_put 4 none 3 := ⟨⟨by decide +kernel, by decide +kernel, by decide +kernel⟩, List.mem_of_getElem? (i := 354) (by decide +kernel), List.mem_of_getElem? (i := 355) (by decide +kernel), ini_RX0, List.mem_of_getElem? (i := 13) (by decide +kernel)⟩
theorem mi_X0_countWritten : sl_mv yX0_countWritten cX0_countWritten 4 (some .int) 1 := ⟨⟨by decide +kernel, by decide +kernel, by decide +kernel⟩, List.mem_of_getElem? (i := 301) (by decide +kernel), List.mem_of_getElem? (i := 302) (by decide +kernel), ini_RX0, List.mem_of_getElem? (i := 7) (by decide +kernel)⟩
theorem mi_X0_isComplete : sl_mv yX0_isComplete cX0_isComplete 2 (some .boolean) 1 := ⟨⟨by decide +kernel, by decide +kernel, by decide +kernel⟩, List.mem_of_getElem? (i := 349) (by decide +kernel), List.mem_of_getElem? (i := 350) (by decide +kernel), ini_RX0, List.mem_of_getElem? (i := 12) (by decide +kernel)⟩
theorem mi_X0_completeFromStart : sl_mv yX0_completeFromStart cX0_completeFromStart 2 (some .int) 0 := ⟨⟨by decide +kernel, by decide +kernel, by decide +kernel⟩, List.mem_of_getElem? (i := 385) (by decide +kernel), List.mem_of_getElem? (i := 386) (by decide +kernel), ini_RX0, List.mem_of_getElem? (i := 14) (by decide +kernel)⟩
theorem mi_X0_end : sl_mv yX0_end cX0_end 2 (some .int) 0 := ⟨⟨by decide +kernel, by decide +kernel, by decide +kernel⟩, List.mem_of_getElem? (i := 297) (by decide +kernel), List.mem_of_getElem? (i := 298) (by decide +kernel), ini_RX0, List.mem_of_getElem? (i := 6) (by decide +kernel)⟩
theorem mi_X1_init : sl_mi yX1_init cX1_init 8 7 := ⟨⟨by decide +kernel, by decide +kernel, by decide +kernel⟩, List.mem_of_getElem? (i := 239) (by decide +kernel), List.mem_of_getElem? (i := 240) (by decide +kernel), ini_RX1, rfl⟩
theorem mi_X2_init : sl_mi yX2_init cX2_init 1 0 := ⟨⟨by decide +kernel, by decide +kernel, by decide +kernel⟩, List.mem_of_getElem? (i := 77) (by decide +kernel), List.mem_of_getElem? (i := 78) (by decide +kernel), ini_RX2, rfl⟩
theorem mi_X2_restart : sl_mv yX2_restart cX2_restart 1 none 0 := ⟨⟨by decide +kernel, by decide +kernel, by decide +kernel⟩, List.mem_of_getElem? (i := 417) (by decide +kernel), List.mem_of_getElem? (i := 418) (by decide +kernel), ini_RX2, List.mem_of_getElem? (i := 17) (by decide +kernel)⟩
theorem mi_X2_add : sl_mv yX2_add cX2_add 3 none 1 := ⟨⟨by decide +kernel, by decide +kernel, by decide +kernel⟩, List.mem_of_getElem? (i := 422) (by decide +kernel), List.mem_of_getElem? (i := 423) (by decide +kernel), ini_RX2, List.mem_of_getElem? (i := 18) (by decide +kernel)⟩
theorem mi_X2_hasEffect : sl_mv yX2_hasEffect cX2_hasEffect 2 (some .boolean) 1 := ⟨⟨by decide +kernel, by decide +kernel, by decide +kernel⟩, List.mem_of_getElem? (i := 444) (by decide +kernel), List.mem_of_getElem? (i := 445) (by decide +kernel), ini_RX2, List.mem_of_getElem? (i := 23) (by decide +kernel)⟩
theorem mi_X2_isUnchanged : sl_mv yX2_isUnchanged cX2_isUnchanged 4 (some .boolean) 2 := ⟨⟨by decide +kernel, by decide +kernel, by decide +kernel⟩, List.mem_of_getElem? (i := 426) (by decide +kernel), List.mem_of_getElem? (i := 427) (by decide +kernel), ini_RX2, List.mem_of_getElem? (i := 19) (by decide +kernel)⟩
theorem mi_X2_noteChange : sl_mv yX2_noteChange cX2_noteChange 3 none 1 := ⟨⟨by decide +kernel, by decide +kernel, by decide +kernel⟩, List.mem_of_getElem? (i := 431) (by decide +kernel), List.mem_of_getElem? (i := 432) (by decide +kernel), ini_RX2, List.mem_of_getElem? (i := 20) (by decide +kernel)⟩
theorem mi_X3_init : sl_mi yX3_init cX3_init 1 0 := ⟨⟨by decide +kernel, by decide +kernel, by decide +kernel⟩, List.mem_of_getElem? (i := 66) (by decide +kernel), List.mem_of_getElem? (i := 67) (by decide +kernel), ini_RX3, rfl⟩
theorem mi_X3_clear : sl_mv yX3_clear cX3_clear 1 none 0 := ⟨⟨by decide +kernel, by decide +kernel, by decide +kernel⟩, List.mem_of_getElem? (i := 315) (by decide +kernel), List.mem_of_getElem? (i := 316) (by decide +kernel), ini_RX3, List.mem_of_getElem? (i := 9) (by decide +kernel)⟩
theorem mi_X3_get : sl_mv yX3_get cX3_get 3 (some .int) 2 := ⟨⟨by decide +kernel, by decide +kernel, by decide +kernel⟩, List.mem_of_getElem? (i := 225) (by decide +kernel), List.mem_of_getElem? (i := 226) (by decide +kernel), ini_RX3, List.mem_of_getElem? (i := 3) (by decide +kernel)⟩
theorem mi_X3_set : sl_mv yX3_set cX3_set 4 none 3 := ⟨⟨by decide +kernel, by decide +kernel, by decide +kernel⟩, List.mem_of_getElem? (i := 235) (by decide +kernel), List.mem_of_getElem? (i := 236) (by decide +kernel), ini_RX3, List.mem_of_getElem? (i := 4) (by decide +kernel)⟩
theorem mi_X3_push : sl_mv yX3_push cX3_push 5 none 2 := ⟨⟨by decide +kernel, by decide +kernel, by decide +kernel⟩, List.mem_of_getElem? (i := 278) (by decide +kernel), List.mem_of_getElem? (i := 279) (by decide +kernel), ini_RX3, List.mem_of_getElem? (i := 5) (by decide +kernel)⟩
theorem mi_X3_copyFor : sl_mv yX3_copyFor cX3_copyFor 5 (some (.object "SharedLog$Trail")) 1 := ⟨⟨by decide +kernel, by decide +kernel, by decide +kernel⟩, List.mem_of_getElem? (i := 216) (by decide +kernel), List.mem_of_getElem? (i := 217) (by decide +kernel), ini_RX3, List.mem_of_getElem? (i := 2) (by decide +kernel)⟩
theorem mi_X4_init : sl_mi yX4_init cX4_init 1 0 := ⟨⟨by decide +kernel, by decide +kernel, by decide +kernel⟩, List.mem_of_getElem? (i := 42) (by decide +kernel), List.mem_of_getElem? (i := 43) (by decide +kernel), ini_RX4, rfl⟩
theorem mi_X4_take : sl_mv yX4_take cX4_take 3 (some .int) 2 := ⟨⟨by decide +kernel, by decide +kernel, by decide +kernel⟩, List.mem_of_getElem? (i := 117) (by decide +kernel), List.mem_of_getElem? (i := 119) (by decide +kernel), ini_RX4, List.mem_of_getElem? (i := 118) (by decide +kernel)⟩
theorem mi_X4_takeIf : sl_mv yX4_takeIf cX4_takeIf 5 (some .int) 4 := ⟨⟨by decide +kernel, by decide +kernel, by decide +kernel⟩, List.mem_of_getElem? (i := 281) (by decide +kernel), List.mem_of_getElem? (i := 283) (by decide +kernel), ini_RX4, List.mem_of_getElem? (i := 282) (by decide +kernel)⟩
theorem mi_X4_lose : sl_mv yX4_lose cX4_lose 1 (some .int) 0 := ⟨⟨by decide +kernel, by decide +kernel, by decide +kernel⟩, List.mem_of_getElem? (i := 287) (by decide +kernel), List.mem_of_getElem? (i := 289) (by decide +kernel), ini_RX4, List.mem_of_getElem? (i := 288) (by decide +kernel)⟩
theorem mi_X4_seal : sl_mv yX4_seal cX4_seal 3 (some .int) 0 := ⟨⟨by decide +kernel, by decide +kernel, by decide +kernel⟩, List.mem_of_getElem? (i := 292) (by decide +kernel), List.mem_of_getElem? (i := 294) (by decide +kernel), ini_RX4, List.mem_of_getElem? (i := 293) (by decide +kernel)⟩
theorem mi_X4_write : sl_mv yX4_write cX4_write 3 (some .int) 1 := ⟨⟨by decide +kernel, by decide +kernel, by decide +kernel⟩, List.mem_of_getElem? (i := 472) (by decide +kernel), List.mem_of_getElem? (i := 474) (by decide +kernel), ini_RX4, List.mem_of_getElem? (i := 473) (by decide +kernel)⟩
theorem mi_X4_fill : sl_mv yX4_fill cX4_fill 5 (some .boolean) 1 := ⟨⟨by decide +kernel, by decide +kernel, by decide +kernel⟩, List.mem_of_getElem? (i := 327) (by decide +kernel), List.mem_of_getElem? (i := 329) (by decide +kernel), ini_RX4, List.mem_of_getElem? (i := 328) (by decide +kernel)⟩
theorem mi_X4_epoch : sl_mv yX4_epoch cX4_epoch 1 (some .int) 0 := ⟨⟨by decide +kernel, by decide +kernel, by decide +kernel⟩, List.mem_of_getElem? (i := 357) (by decide +kernel), List.mem_of_getElem? (i := 359) (by decide +kernel), ini_RX4, List.mem_of_getElem? (i := 358) (by decide +kernel)⟩
theorem mi_X4_tail : sl_mv yX4_tail cX4_tail 1 (some .int) 0 := ⟨⟨by decide +kernel, by decide +kernel, by decide +kernel⟩, List.mem_of_getElem? (i := 361) (by decide +kernel), List.mem_of_getElem? (i := 363) (by decide +kernel), ini_RX4, List.mem_of_getElem? (i := 362) (by decide +kernel)⟩
theorem mi_X4_positionOf : sl_mv yX4_positionOf cX4_positionOf 3 (some .int) 1 := ⟨⟨by decide +kernel, by decide +kernel, by decide +kernel⟩, List.mem_of_getElem? (i := 365) (by decide +kernel), List.mem_of_getElem? (i := 367) (by decide +kernel), ini_RX4, List.mem_of_getElem? (i := 366) (by decide +kernel)⟩
theorem mi_X4_stateOf : sl_mv yX4_stateOf cX4_stateOf 3 (some .int) 1 := ⟨⟨by decide +kernel, by decide +kernel, by decide +kernel⟩, List.mem_of_getElem? (i := 370) (by decide +kernel), List.mem_of_getElem? (i := 372) (by decide +kernel), ini_RX4, List.mem_of_getElem? (i := 371) (by decide +kernel)⟩
theorem mi_X4_cellAt : sl_mv yX4_cellAt cX4_cellAt 3 (some .int) 2 := ⟨⟨by decide +kernel, by decide +kernel, by decide +kernel⟩, List.mem_of_getElem? (i := 374) (by decide +kernel), List.mem_of_getElem? (i := 376) (by decide +kernel), ini_RX4, List.mem_of_getElem? (i := 375) (by decide +kernel)⟩
theorem mi_X4_known : sl_mv yX4_known cX4_known 1 (some .int) 0 := ⟨⟨by decide +kernel, by decide +kernel, by decide +kernel⟩, List.mem_of_getElem? (i := 380) (by decide +kernel), List.mem_of_getElem? (i := 382) (by decide +kernel), ini_RX4, List.mem_of_getElem? (i := 381) (by decide +kernel)⟩
theorem mi_X4_takesEffect : sl_mv yX4_takesEffect cX4_takesEffect 2 (some .boolean) 1 := ⟨⟨by decide +kernel, by decide +kernel, by decide +kernel⟩, List.mem_of_getElem? (i := 464) (by decide +kernel), List.mem_of_getElem? (i := 466) (by decide +kernel), ini_RX4, List.mem_of_getElem? (i := 465) (by decide +kernel)⟩
theorem mi_X4_value : sl_mv yX4_value cX4_value 5 (some .int) 2 := ⟨⟨by decide +kernel, by decide +kernel, by decide +kernel⟩, List.mem_of_getElem? (i := 402) (by decide +kernel), List.mem_of_getElem? (i := 404) (by decide +kernel), ini_RX4, List.mem_of_getElem? (i := 403) (by decide +kernel)⟩
theorem mi_X4_valueByPointers : sl_mv yX4_valueByPointers cX4_valueByPointers 6 (some .int) 2 := ⟨⟨by decide +kernel, by decide +kernel, by decide +kernel⟩, List.mem_of_getElem? (i := 447) (by decide +kernel), List.mem_of_getElem? (i := 449) (by decide +kernel), ini_RX4, List.mem_of_getElem? (i := 448) (by decide +kernel)⟩
theorem mi_X4_latest : sl_mv yX4_latest cX4_latest 3 (some .int) 2 := ⟨⟨by decide +kernel, by decide +kernel, by decide +kernel⟩, List.mem_of_getElem? (i := 460) (by decide +kernel), List.mem_of_getElem? (i := 462) (by decide +kernel), ini_RX4, List.mem_of_getElem? (i := 461) (by decide +kernel)⟩
theorem mi_X4_isStream : sl_ms yX4_isStream cX4_isStream 1 (some .boolean) 1 := ⟨⟨by decide +kernel, by decide +kernel, by decide +kernel⟩, List.mem_of_getElem? (i := 228) (by decide +kernel), List.mem_of_getElem? (i := 229) (by decide +kernel), ini_RX4⟩
theorem mi_X4_isSetOfStreams : sl_ms yX4_isSetOfStreams cX4_isSetOfStreams 1 (some .boolean) 1 := ⟨⟨by decide +kernel, by decide +kernel, by decide +kernel⟩, List.mem_of_getElem? (i := 121) (by decide +kernel), List.mem_of_getElem? (i := 122) (by decide +kernel), ini_RX4⟩
theorem mi_X4_isAmount : sl_ms yX4_isAmount cX4_isAmount 1 (some .boolean) 1 := ⟨⟨by decide +kernel, by decide +kernel, by decide +kernel⟩, List.mem_of_getElem? (i := 124) (by decide +kernel), List.mem_of_getElem? (i := 125) (by decide +kernel), ini_RX4⟩
theorem mi_X4_isPosition : sl_ms yX4_isPosition cX4_isPosition 1 (some .boolean) 1 := ⟨⟨by decide +kernel, by decide +kernel, by decide +kernel⟩, List.mem_of_getElem? (i := 311) (by decide +kernel), List.mem_of_getElem? (i := 312) (by decide +kernel), ini_RX4⟩
theorem mi_X4_isReplica : sl_ms yX4_isReplica cX4_isReplica 1 (some .boolean) 1 := ⟨⟨by decide +kernel, by decide +kernel, by decide +kernel⟩, List.mem_of_getElem? (i := 308) (by decide +kernel), List.mem_of_getElem? (i := 309) (by decide +kernel), ini_RX4⟩
theorem mi_X4_isPointerNumber : sl_ms yX4_isPointerNumber cX4_isPointerNumber 1 (some .boolean) 1 := ⟨⟨by decide +kernel, by decide +kernel, by decide +kernel⟩, List.mem_of_getElem? (i := 231) (by decide +kernel), List.mem_of_getElem? (i := 232) (by decide +kernel), ini_RX4⟩
theorem mi_X4_isIn : sl_ms yX4_isIn cX4_isIn 2 (some .boolean) 2 := ⟨⟨by decide +kernel, by decide +kernel, by decide +kernel⟩, List.mem_of_getElem? (i := 221) (by decide +kernel), List.mem_of_getElem? (i := 222) (by decide +kernel), ini_RX4⟩
theorem mi_X4_isEndOfKnown : sl_mv yX4_isEndOfKnown cX4_isEndOfKnown 2 (some .boolean) 1 := ⟨⟨by decide +kernel, by decide +kernel, by decide +kernel⟩, List.mem_of_getElem? (i := 408) (by decide +kernel), List.mem_of_getElem? (i := 409) (by decide +kernel), ini_RX4, List.mem_of_getElem? (i := 15) (by decide +kernel)⟩
theorem mi_X4_handOut : sl_mv yX4_handOut cX4_handOut 7 (some .int) 4 := ⟨⟨by decide +kernel, by decide +kernel, by decide +kernel⟩, List.mem_of_getElem? (i := 196) (by decide +kernel), List.mem_of_getElem? (i := 197) (by decide +kernel), ini_RX4, List.mem_of_getElem? (i := 1) (by decide +kernel)⟩
theorem mi_X4_entryOf : sl_mv yX4_entryOf cX4_entryOf 2 (some (.object "SharedLog$Entry")) 1 := ⟨⟨by decide +kernel, by decide +kernel, by decide +kernel⟩, List.mem_of_getElem? (i := 324) (by decide +kernel), List.mem_of_getElem? (i := 325) (by decide +kernel), ini_RX4, List.mem_of_getElem? (i := 11) (by decide +kernel)⟩
theorem mi_X4_entryIn : sl_mv yX4_entryIn cX4_entryIn 2 (some (.object "SharedLog$Entry")) 1 := ⟨⟨by decide +kernel, by decide +kernel, by decide +kernel⟩, List.mem_of_getElem? (i := 319) (by decide +kernel), List.mem_of_getElem? (i := 320) (by decide +kernel), ini_RX4, List.mem_of_getElem? (i := 10) (by decide +kernel)⟩
theorem mi_X4_holdsStream : sl_mv yX4_holdsStream cX4_holdsStream 4 (some .boolean) 2 := ⟨⟨by decide +kernel, by decide +kernel, by decide +kernel⟩, List.mem_of_getElem? (i := 435) (by decide +kernel), List.mem_of_getElem? (i := 436) (by decide +kernel), ini_RX4, List.mem_of_getElem? (i := 21) (by decide +kernel)⟩
theorem mi_X4_latestAhead : sl_mv yX4_latestAhead cX4_latestAhead 4 (some .int) 2 := ⟨⟨by decide +kernel, by decide +kernel, by decide +kernel⟩, List.mem_of_getElem? (i := 452) (by decide +kernel), List.mem_of_getElem? (i := 453) (by decide +kernel), ini_RX4, List.mem_of_getElem? (i := 24) (by decide +kernel)⟩
theorem mi_X4_previousByPointers : sl_mv yX4_previousByPointers cX4_previousByPointers 7 (some .int) 2 := ⟨⟨by decide +kernel, by decide +kernel, by decide +kernel⟩, List.mem_of_getElem? (i := 456) (by decide +kernel), List.mem_of_getElem? (i := 457) (by decide +kernel), ini_RX4, List.mem_of_getElem? (i := 25) (by decide +kernel)⟩
theorem mi_X4_foldUpTo : sl_mv yX4_foldUpTo cX4_foldUpTo 3 none 1 := ⟨⟨by decide +kernel, by decide +kernel, by decide +kernel⟩, List.mem_of_getElem? (i := 413) (by decide +kernel), List.mem_of_getElem? (i := 414) (by decide +kernel), ini_RX4, List.mem_of_getElem? (i := 16) (by decide +kernel)⟩
theorem mi_X4_effectOf : sl_mv yX4_effectOf cX4_effectOf 3 (some .int) 1 := ⟨⟨by decide +kernel, by decide +kernel, by decide +kernel⟩, List.mem_of_getElem? (i := 440) (by decide +kernel), List.mem_of_getElem? (i := 441) (by decide +kernel), ini_RX4, List.mem_of_getElem? (i := 22) (by decide +kernel)⟩
theorem mi_J7_fill_53178 : sl_ms yJ7_fill_53178 cJ7_fill_53178 4 none 2 := ⟨⟨by decide +kernel, by decide +kernel, by decide +kernel⟩, List.mem_of_getElem? (i := 56) (by decide +kernel), List.mem_of_getElem? (i := 57) (by decide +kernel), ini_RJ7⟩
theorem mi_L_cell : sl_ms yL_cell cL_cell 2 (some .int) 2 := ⟨⟨by decide +kernel, by decide +kernel, by decide +kernel⟩, List.mem_of_getElem? (i := 389) (by decide +kernel), List.mem_of_getElem? (i := 390) (by decide +kernel), ini_RL⟩
theorem mi_L_low : sl_ms yL_low cL_low 2 (some .int) 2 := ⟨⟨by decide +kernel, by decide +kernel, by decide +kernel⟩, List.mem_of_getElem? (i := 392) (by decide +kernel), List.mem_of_getElem? (i := 393) (by decide +kernel), ini_RL⟩
theorem mi_L_folds : sl_ms yL_folds cL_folds 10 none 6 := ⟨⟨by decide +kernel, by decide +kernel, by decide +kernel⟩, List.mem_of_getElem? (i := 396) (by decide +kernel), List.mem_of_getElem? (i := 397) (by decide +kernel), ini_RL⟩
theorem mi_L_isFolded : sl_ms yL_isFolded cL_isFolded 13 (some .boolean) 7 := ⟨⟨by decide +kernel, by decide +kernel, by decide +kernel⟩, List.mem_of_getElem? (i := 399) (by decide +kernel), List.mem_of_getElem? (i := 400) (by decide +kernel), ini_RL⟩
theorem mi_L_writes : sl_ms yL_writes cL_writes 3 (some .boolean) 2 := ⟨⟨by decide +kernel, by decide +kernel, by decide +kernel⟩, List.mem_of_getElem? (i := 469) (by decide +kernel), List.mem_of_getElem? (i := 470) (by decide +kernel), ini_RL⟩
