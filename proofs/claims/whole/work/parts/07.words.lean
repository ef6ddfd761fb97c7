set_option maxRecDepth 40000 in
theorem ml_RL_9 : Cond.methodLink RL 9 yX6_init ∈ gtb := gmem 18 rfl rfl
set_option maxRecDepth 40000 in
theorem fl_RX4_9 : Cond.fieldLink RX4 9 "KiteBarges$River" "reaches" "I" ∈ gtb := gmem 30 rfl rfl
set_option maxRecDepth 40000 in
theorem fl_RX5_45 : Cond.fieldLink RX5 45 "KiteBarges$River" "reaches" "I" ∈ gtb := gmem 31 rfl rfl
set_option maxRecDepth 40000 in
theorem fl_RX3_100 : Cond.fieldLink RX3 100 "KiteBarges$River" "reaches" "I" ∈ gtb := gmem 32 rfl rfl
set_option maxRecDepth 40000 in
theorem fl_RX6_221 : Cond.fieldLink RX6 221 "KiteBarges$River" "reaches" "I" ∈ gtb := gmem 33 rfl rfl
set_option maxRecDepth 40000 in
theorem fl_RX4_15 : Cond.fieldLink RX4 15 "KiteBarges$River" "still" "I" ∈ gtb := gmem 34 rfl rfl
set_option maxRecDepth 40000 in
theorem fl_RX6_230 : Cond.fieldLink RX6 230 "KiteBarges$River" "still" "I" ∈ gtb := gmem 35 rfl rfl
set_option maxRecDepth 40000 in
theorem fl_RX4_18 : Cond.fieldLink RX4 18 "KiteBarges$River" "way" "[I" ∈ gtb := gmem 36 rfl rfl
set_option maxRecDepth 40000 in
theorem fl_RX6_83 : Cond.fieldLink RX6 83 "KiteBarges$River" "way" "[I" ∈ gtb := gmem 37 rfl rfl
set_option maxRecDepth 40000 in
theorem fl_RX4_22 : Cond.fieldLink RX4 22 "KiteBarges$River" "yardsLong" "[I" ∈ gtb := gmem 38 rfl rfl
set_option maxRecDepth 40000 in
theorem fl_RX6_87 : Cond.fieldLink RX6 87 "KiteBarges$River" "yardsLong" "[I" ∈ gtb := gmem 39 rfl rfl
set_option maxRecDepth 40000 in
theorem fl_RX4_25 : Cond.fieldLink RX4 25 "KiteBarges$River" "kind" "[I" ∈ gtb := gmem 40 rfl rfl
set_option maxRecDepth 40000 in
theorem fl_RX6_90 : Cond.fieldLink RX6 90 "KiteBarges$River" "kind" "[I" ∈ gtb := gmem 41 rfl rfl
set_option maxRecDepth 40000 in
theorem fl_RX4_28 : Cond.fieldLink RX4 28 "KiteBarges$River" "windWay" "[I" ∈ gtb := gmem 42 rfl rfl
set_option maxRecDepth 40000 in
theorem fl_RX6_99 : Cond.fieldLink RX6 99 "KiteBarges$River" "windWay" "[I" ∈ gtb := gmem 43 rfl rfl
set_option maxRecDepth 40000 in
theorem fl_RX4_31 : Cond.fieldLink RX4 31 "KiteBarges$River" "strength" "[I" ∈ gtb := gmem 44 rfl rfl
set_option maxRecDepth 40000 in
theorem fl_RX6_102 : Cond.fieldLink RX6 102 "KiteBarges$River" "strength" "[I" ∈ gtb := gmem 45 rfl rfl
set_option maxRecDepth 40000 in
theorem fl_RX4_34 : Cond.fieldLink RX4 34 "KiteBarges$River" "told" "[Z" ∈ gtb := gmem 46 rfl rfl
set_option maxRecDepth 40000 in
theorem fl_RX0_49 : Cond.fieldLink RX0 49 "KiteBarges$River" "told" "[Z" ∈ gtb := gmem 47 rfl rfl
set_option maxRecDepth 40000 in
theorem fl_RX6_163 : Cond.fieldLink RX6 163 "KiteBarges$River" "told" "[Z" ∈ gtb := gmem 48 rfl rfl
set_option maxRecDepth 40000 in
theorem fl_RX4_38 : Cond.fieldLink RX4 38 "KiteBarges$River" "weight" "[I" ∈ gtb := gmem 49 rfl rfl
set_option maxRecDepth 40000 in
theorem fl_RX6_108 : Cond.fieldLink RX6 108 "KiteBarges$River" "weight" "[I" ∈ gtb := gmem 50 rfl rfl
set_option maxRecDepth 40000 in
theorem fl_RX4_41 : Cond.fieldLink RX4 41 "KiteBarges$River" "cordLong" "[I" ∈ gtb := gmem 51 rfl rfl
set_option maxRecDepth 40000 in
theorem fl_RX4_44 : Cond.fieldLink RX4 44 "KiteBarges$River" "kite" "[I" ∈ gtb := gmem 52 rfl rfl
set_option maxRecDepth 40000 in
theorem fl_RX6_115 : Cond.fieldLink RX6 115 "KiteBarges$River" "kite" "[I" ∈ gtb := gmem 53 rfl rfl
set_option maxRecDepth 40000 in
theorem fl_RX4_47 : Cond.fieldLink RX4 47 "KiteBarges$River" "freight" "[I" ∈ gtb := gmem 54 rfl rfl
set_option maxRecDepth 40000 in
theorem fl_RX6_118 : Cond.fieldLink RX6 118 "KiteBarges$River" "freight" "[I" ∈ gtb := gmem 55 rfl rfl
set_option maxRecDepth 40000 in
theorem fl_RX5_9 : Cond.fieldLink RX5 9 "KiteBarges$Text" "length" "I" ∈ gtb := gmem 89 rfl rfl
set_option maxRecDepth 40000 in
theorem fl_RX6_58 : Cond.fieldLink RX6 58 "KiteBarges$Text" "length" "I" ∈ gtb := gmem 90 rfl rfl
set_option maxRecDepth 40000 in
theorem fl_RX5_15 : Cond.fieldLink RX5 15 "KiteBarges$Text" "lines" "I" ∈ gtb := gmem 91 rfl rfl
set_option maxRecDepth 40000 in
theorem fl_RX6_76 : Cond.fieldLink RX6 76 "KiteBarges$Text" "lines" "I" ∈ gtb := gmem 92 rfl rfl
set_option maxRecDepth 40000 in
theorem fl_RX5_18 : Cond.fieldLink RX5 18 "KiteBarges$Text" "bytes" "[I" ∈ gtb := gmem 93 rfl rfl
set_option maxRecDepth 40000 in
theorem fl_RX5_22 : Cond.fieldLink RX5 22 "KiteBarges$Text" "tokenKind" "I" ∈ gtb := gmem 94 rfl rfl
set_option maxRecDepth 40000 in
theorem fl_RX5_25 : Cond.fieldLink RX5 25 "KiteBarges$Text" "place" "I" ∈ gtb := gmem 95 rfl rfl
set_option maxRecDepth 40000 in
theorem fl_RX5_28 : Cond.fieldLink RX5 28 "KiteBarges$Text" "end" "I" ∈ gtb := gmem 96 rfl rfl
set_option maxRecDepth 40000 in
theorem fl_RX5_31 : Cond.fieldLink RX5 31 "KiteBarges$Text" "word" "I" ∈ gtb := gmem 97 rfl rfl
set_option maxRecDepth 40000 in
theorem fl_RX5_34 : Cond.fieldLink RX5 34 "KiteBarges$Text" "filled" "I" ∈ gtb := gmem 98 rfl rfl
set_option maxRecDepth 40000 in
theorem fl_RX5_37 : Cond.fieldLink RX5 37 "KiteBarges$Text" "numbers" "[I" ∈ gtb := gmem 99 rfl rfl
set_option maxRecDepth 40000 in
theorem fl_RX5_40 : Cond.fieldLink RX5 40 "KiteBarges$Text" "reaches" "I" ∈ gtb := gmem 100 rfl rfl
set_option maxRecDepth 40000 in
theorem fl_RX0_9 : Cond.fieldLink RX0 9 "KiteBarges$Fleet" "hours" "I" ∈ gtb := gmem 128 rfl rfl
set_option maxRecDepth 40000 in
theorem fl_RX6_140 : Cond.fieldLink RX6 140 "KiteBarges$Fleet" "hours" "I" ∈ gtb := gmem 129 rfl rfl
set_option maxRecDepth 40000 in
theorem fl_RX0_15 : Cond.fieldLink RX0 15 "KiteBarges$Fleet" "place" "[I" ∈ gtb := gmem 130 rfl rfl
set_option maxRecDepth 40000 in
theorem fl_RX6_137 : Cond.fieldLink RX6 137 "KiteBarges$Fleet" "place" "[I" ∈ gtb := gmem 131 rfl rfl
set_option maxRecDepth 40000 in
theorem fl_RX0_19 : Cond.fieldLink RX0 19 "KiteBarges$Fleet" "layer" "[I" ∈ gtb := gmem 132 rfl rfl
set_option maxRecDepth 40000 in
theorem fl_RX6_154 : Cond.fieldLink RX6 154 "KiteBarges$Fleet" "layer" "[I" ∈ gtb := gmem 133 rfl rfl
set_option maxRecDepth 40000 in
theorem fl_RX0_22 : Cond.fieldLink RX0 22 "KiteBarges$Fleet" "lastLayer" "[I" ∈ gtb := gmem 134 rfl rfl
set_option maxRecDepth 40000 in
theorem fl_RX6_129 : Cond.fieldLink RX6 129 "KiteBarges$Fleet" "lastLayer" "[I" ∈ gtb := gmem 135 rfl rfl
set_option maxRecDepth 40000 in
theorem fl_RX0_25 : Cond.fieldLink RX0 25 "KiteBarges$Fleet" "run" "[I" ∈ gtb := gmem 136 rfl rfl
set_option maxRecDepth 40000 in
theorem fl_RX6_157 : Cond.fieldLink RX6 157 "KiteBarges$Fleet" "run" "[I" ∈ gtb := gmem 137 rfl rfl
set_option maxRecDepth 40000 in
theorem fl_RX0_28 : Cond.fieldLink RX0 28 "KiteBarges$Fleet" "stayed" "[I" ∈ gtb := gmem 138 rfl rfl
set_option maxRecDepth 40000 in
theorem fl_RX6_160 : Cond.fieldLink RX6 160 "KiteBarges$Fleet" "stayed" "[I" ∈ gtb := gmem 139 rfl rfl
set_option maxRecDepth 40000 in
theorem ml_RX6_40 : Cond.methodLink RX6 40 yX3_init ∈ gtb := gmem 156 rfl rfl
set_option maxRecDepth 40000 in
theorem ml_RX3_24 : Cond.methodLink RX3 24 yX1_init ∈ gtb := gmem 162 rfl rfl
set_option maxRecDepth 40000 in
theorem ml_RX1_18 : Cond.methodLink RX1 18 yJ7_fill_53178 ∈ gtb := gmem 166 rfl rfl
set_option maxRecDepth 40000 in
theorem fl_RX1_9 : Cond.fieldLink RX1 9 "KiteBarges$Line" "place" "[I" ∈ gtb := gmem 169 rfl rfl
set_option maxRecDepth 40000 in
theorem fl_RX3_71 : Cond.fieldLink RX3 71 "KiteBarges$Line" "place" "[I" ∈ gtb := gmem 170 rfl rfl
set_option maxRecDepth 40000 in
theorem fl_RX1_15 : Cond.fieldLink RX1 15 "KiteBarges$Line" "layer" "[I" ∈ gtb := gmem 171 rfl rfl
set_option maxRecDepth 40000 in
theorem fl_RX3_74 : Cond.fieldLink RX3 74 "KiteBarges$Line" "layer" "[I" ∈ gtb := gmem 172 rfl rfl
set_option maxRecDepth 40000 in
theorem ml_RX3_48 : Cond.methodLink RX3 48 yJ7_fill_53178 ∈ gtb := gmem 179 rfl rfl
set_option maxRecDepth 40000 in
theorem fl_RX3_11 : Cond.fieldLink RX3 11 "KiteBarges$Planner" "hoursOf" "[I" ∈ gtb := gmem 180 rfl rfl
set_option maxRecDepth 40000 in
theorem fl_RX6_180 : Cond.fieldLink RX6 180 "KiteBarges$Planner" "hoursOf" "[I" ∈ gtb := gmem 181 rfl rfl
set_option maxRecDepth 40000 in
theorem fl_RX3_44 : Cond.fieldLink RX3 44 "KiteBarges$Planner" "river" "LKiteBarges$River;" ∈ gtb := gmem 182 rfl rfl
set_option maxRecDepth 40000 in
theorem fl_RX3_15 : Cond.fieldLink RX3 15 "KiteBarges$Planner" "runOf" "[I" ∈ gtb := gmem 183 rfl rfl
set_option maxRecDepth 40000 in
theorem fl_RX3_18 : Cond.fieldLink RX3 18 "KiteBarges$Planner" "rowOf" "[J" ∈ gtb := gmem 184 rfl rfl
set_option maxRecDepth 40000 in
theorem fl_RX3_25 : Cond.fieldLink RX3 25 "KiteBarges$Planner" "nobody" "LKiteBarges$Line;" ∈ gtb := gmem 185 rfl rfl
set_option maxRecDepth 40000 in
theorem fl_RX3_29 : Cond.fieldLink RX3 29 "KiteBarges$Planner" "drawn" "LKiteBarges$Line;" ∈ gtb := gmem 186 rfl rfl
set_option maxRecDepth 40000 in
theorem fl_RX3_32 : Cond.fieldLink RX3 32 "KiteBarges$Planner" "runs" "[I" ∈ gtb := gmem 187 rfl rfl
set_option maxRecDepth 40000 in
theorem fl_RX3_35 : Cond.fieldLink RX3 35 "KiteBarges$Planner" "rows" "[J" ∈ gtb := gmem 188 rfl rfl
set_option maxRecDepth 40000 in
theorem fl_RX3_38 : Cond.fieldLink RX3 38 "KiteBarges$Planner" "nextRuns" "[I" ∈ gtb := gmem 189 rfl rfl
set_option maxRecDepth 40000 in
theorem fl_RX3_41 : Cond.fieldLink RX3 41 "KiteBarges$Planner" "nextRows" "[J" ∈ gtb := gmem 190 rfl rfl
set_option maxRecDepth 40000 in
theorem ml_RX6_49 : Cond.methodLink RX6 49 yX2_init ∈ gtb := gmem 214 rfl rfl
set_option maxRecDepth 40000 in
theorem fl_RX2_34 : Cond.fieldLink RX2 34 "KiteBarges$Lulls" "river" "LKiteBarges$River;" ∈ gtb := gmem 218 rfl rfl
set_option maxRecDepth 40000 in
theorem fl_RX2_11 : Cond.fieldLink RX2 11 "KiteBarges$Lulls" "placeAt" "[I" ∈ gtb := gmem 219 rfl rfl
set_option maxRecDepth 40000 in
theorem fl_RX2_15 : Cond.fieldLink RX2 15 "KiteBarges$Lulls" "chanceOf" "[J" ∈ gtb := gmem 220 rfl rfl
set_option maxRecDepth 40000 in
theorem fl_RX2_19 : Cond.fieldLink RX2 19 "KiteBarges$Lulls" "values" "[J" ∈ gtb := gmem 221 rfl rfl
set_option maxRecDepth 40000 in
theorem fl_RX2_22 : Cond.fieldLink RX2 22 "KiteBarges$Lulls" "laterValues" "[J" ∈ gtb := gmem 222 rfl rfl
set_option maxRecDepth 40000 in
theorem fl_RX2_25 : Cond.fieldLink RX2 25 "KiteBarges$Lulls" "hoursTo" "[I" ∈ gtb := gmem 223 rfl rfl
set_option maxRecDepth 40000 in
theorem fl_RX2_28 : Cond.fieldLink RX2 28 "KiteBarges$Lulls" "ifLull" "[J" ∈ gtb := gmem 224 rfl rfl
set_option maxRecDepth 40000 in
theorem fl_RX2_31 : Cond.fieldLink RX2 31 "KiteBarges$Lulls" "ifWind" "[J" ∈ gtb := gmem 225 rfl rfl
set_option maxRecDepth 40000 in
theorem fl_RX6_12 : Cond.fieldLink RX6 12 "KiteBarges" "river" "LKiteBarges$River;" ∈ gtb := gmem 243 rfl rfl
set_option maxRecDepth 40000 in
theorem fl_RX6_19 : Cond.fieldLink RX6 19 "KiteBarges" "text" "LKiteBarges$Text;" ∈ gtb := gmem 244 rfl rfl
set_option maxRecDepth 40000 in
theorem fl_RX6_26 : Cond.fieldLink RX6 26 "KiteBarges" "fleet" "LKiteBarges$Fleet;" ∈ gtb := gmem 245 rfl rfl
set_option maxRecDepth 40000 in
theorem fl_RX6_30 : Cond.fieldLink RX6 30 "KiteBarges" "kept" "[LKiteBarges$Fleet;" ∈ gtb := gmem 246 rfl rfl
set_option maxRecDepth 40000 in
theorem fl_RX6_34 : Cond.fieldLink RX6 34 "KiteBarges" "isKept" "[Z" ∈ gtb := gmem 247 rfl rfl
set_option maxRecDepth 40000 in
theorem fl_RX6_43 : Cond.fieldLink RX6 43 "KiteBarges" "planner" "LKiteBarges$Planner;" ∈ gtb := gmem 248 rfl rfl
set_option maxRecDepth 40000 in
theorem fl_RX6_50 : Cond.fieldLink RX6 50 "KiteBarges" "lulls" "LKiteBarges$Lulls;" ∈ gtb := gmem 249 rfl rfl
set_option maxRecDepth 40000 in
theorem ml_RL_15 : Cond.methodLink RL 15 yX6_write ∈ gtb := gmem 265 rfl rfl
set_option maxRecDepth 40000 in
theorem ml_RX6_54 : Cond.methodLink RX6 54 yX5_append ∈ gtb := gmem 269 rfl rfl
set_option maxRecDepth 40000 in
theorem kl_RX5_43 : Cond.constantLong RX5 43 (255) ∈ gtb := gmem 273 rfl rfl
set_option maxRecDepth 40000 in
theorem ml_RL_20 : Cond.methodLink RL 20 yX6_erase ∈ gtb := gmem 274 rfl rfl
set_option maxRecDepth 40000 in
theorem ml_RL_25 : Cond.methodLink RL 25 yX6_fault ∈ gtb := gmem 278 rfl rfl
set_option maxRecDepth 40000 in
theorem ml_RX6_62 : Cond.methodLink RX6 62 yX5_read ∈ gtb := gmem 282 rfl rfl
set_option maxRecDepth 40000 in
theorem ml_RX5_48 : Cond.methodLink RX5 48 yX5_readLine ∈ gtb := gmem 286 rfl rfl
set_option maxRecDepth 40000 in
theorem ml_RX5_56 : Cond.methodLink RX5 56 yX5_readToken ∈ gtb := gmem 290 rfl rfl
set_option maxRecDepth 40000 in
theorem ml_RX5_107 : Cond.methodLink RX5 107 yX5_kindAt ∈ gtb := gmem 294 rfl rfl
set_option maxRecDepth 40000 in
theorem ml_RX5_59 : Cond.methodLink RX5 59 yX5_wordOfLine ∈ gtb := gmem 298 rfl rfl
set_option maxRecDepth 40000 in
theorem ml_RX5_72 : Cond.methodLink RX5 72 yX5_tokenIs ∈ gtb := gmem 303 rfl rfl
set_option maxRecDepth 40000 in
theorem ml_RX5_111 : Cond.methodLink RX5 111 yJ0_length_8abf5 ∈ gtb := gmem 307 rfl rfl
set_option maxRecDepth 40000 in
theorem ml_RJ0_335 : Cond.methodLink RJ0 335 yJ0_coder_7d493 ∈ gtb := gmem 311 rfl rfl
set_option maxRecDepth 40000 in
theorem fl_RJ0_38 : Cond.fieldLink RJ0 38 "java/lang/String" "COMPACT_STRINGS" "Z" ∈ gtb := gmem 315 rfl rfl
set_option maxRecDepth 40000 in
theorem ml_RX5_115 : Cond.methodLink RX5 115 yJ0_charAt_5068e ∈ gtb := gmem 317 rfl rfl
set_option maxRecDepth 40000 in
theorem ml_RJ0_492 : Cond.methodLink RJ0 492 yJ0_isLatin1_aae02 ∈ gtb := gmem 321 rfl rfl
set_option maxRecDepth 40000 in
theorem ml_RJ0_495 : Cond.methodLink RJ0 495 yJ1_charAt_3b067 ∈ gtb := gmem 325 rfl rfl
set_option maxRecDepth 40000 in
theorem ml_RJ1_9 : Cond.methodLink RJ1 9 yJ0_checkIndex_df160 ∈ gtb := gmem 328 rfl rfl
set_option maxRecDepth 40000 in
theorem fl_RJ0_1053 : Cond.fieldLink RJ0 1053 "jdk/internal/util/Preconditions" "SIOOBE_FORMATTER" "Ljava/util/function/BiFunction;" ∈ gtb := gmem 331 rfl rfl
set_option maxRecDepth 40000 in
theorem ml_RJ0_1059 : Cond.methodLink RJ0 1059 yJ3_checkIndex_8e157 ∈ gtb := gmem 333 rfl rfl
set_option maxRecDepth 40000 in
theorem ml_RJ0_498 : Cond.methodLink RJ0 498 yJ2_charAt_3b067 ∈ gtb := gmem 336 rfl rfl
set_option maxRecDepth 40000 in
theorem ml_RJ2_67 : Cond.methodLink RJ2 67 yJ2_checkIndex_2214a ∈ gtb := gmem 339 rfl rfl
set_option maxRecDepth 40000 in
theorem ml_RJ2_48 : Cond.methodLink RJ2 48 yJ2_length_9d52b ∈ gtb := gmem 342 rfl rfl
set_option maxRecDepth 40000 in
theorem ml_RJ2_414 : Cond.methodLink RJ2 414 yJ0_checkIndex_df160 ∈ gtb := gmem 345 rfl rfl
set_option maxRecDepth 40000 in
theorem ml_RJ2_71 : Cond.methodLink RJ2 71 yJ2_getChar_3b067 ∈ gtb := gmem 346 rfl rfl
set_option maxRecDepth 40000 in
theorem fl_RJ2_44 : Cond.fieldLink RJ2 44 "java/lang/StringUTF16" "$assertionsDisabled" "Z" ∈ gtb := gmem 349 rfl rfl
set_option maxRecDepth 40000 in
theorem fl_RJ2_59 : Cond.fieldLink RJ2 59 "java/lang/StringUTF16" "HI_BYTE_SHIFT" "I" ∈ gtb := gmem 351 rfl rfl
set_option maxRecDepth 40000 in
theorem fl_RJ2_63 : Cond.fieldLink RJ2 63 "java/lang/StringUTF16" "LO_BYTE_SHIFT" "I" ∈ gtb := gmem 353 rfl rfl
set_option maxRecDepth 40000 in
theorem ml_RX5_63 : Cond.methodLink RX5 63 yX5_readNumber ∈ gtb := gmem 362 rfl rfl
set_option maxRecDepth 40000 in
theorem ml_RX5_103 : Cond.methodLink RX5 103 yX5_addNumber ∈ gtb := gmem 366 rfl rfl
set_option maxRecDepth 40000 in
theorem ml_RX5_67 : Cond.methodLink RX5 67 yX5_readKite ∈ gtb := gmem 370 rfl rfl
set_option maxRecDepth 40000 in
theorem ml_RX5_100 : Cond.methodLink RX5 100 yX5_kiteOfToken ∈ gtb := gmem 374 rfl rfl
set_option maxRecDepth 40000 in
theorem ml_RX5_52 : Cond.methodLink RX5 52 yX4_tell ∈ gtb := gmem 383 rfl rfl
set_option maxRecDepth 40000 in
theorem ml_RX4_50 : Cond.methodLink RX4 50 yX4_tellWind ∈ gtb := gmem 387 rfl rfl
set_option maxRecDepth 40000 in
theorem ml_RX4_54 : Cond.methodLink RX4 54 yX4_tellBarge ∈ gtb := gmem 391 rfl rfl
set_option maxRecDepth 40000 in
theorem ml_RX4_57 : Cond.methodLink RX4 57 yX4_addReach ∈ gtb := gmem 395 rfl rfl
set_option maxRecDepth 40000 in
theorem ml_RL_29 : Cond.methodLink RL 29 yX6_river ∈ gtb := gmem 400 rfl rfl
set_option maxRecDepth 40000 in
theorem ml_RX6_66 : Cond.methodLink RX6 66 yX4_begin ∈ gtb := gmem 404 rfl rfl
set_option maxRecDepth 40000 in
theorem ml_RX6_70 : Cond.methodLink RX6 70 yX0_begin ∈ gtb := gmem 408 rfl rfl
set_option maxRecDepth 40000 in
theorem ml_RX0_31 : Cond.methodLink RX0 31 yJ7_fill_53178 ∈ gtb := gmem 412 rfl rfl
set_option maxRecDepth 40000 in
theorem ml_RX6_73 : Cond.methodLink RX6 73 yX3_forget ∈ gtb := gmem 413 rfl rfl
set_option maxRecDepth 40000 in
theorem ml_RL_33 : Cond.methodLink RL 33 yX6_reach ∈ gtb := gmem 417 rfl rfl
set_option maxRecDepth 40000 in
theorem ml_RX6_79 : Cond.methodLink RX6 79 yX4_hasReach ∈ gtb := gmem 421 rfl rfl
set_option maxRecDepth 40000 in
theorem ml_RL_38 : Cond.methodLink RL 38 yX6_wind ∈ gtb := gmem 425 rfl rfl
set_option maxRecDepth 40000 in
theorem ml_RX6_93 : Cond.methodLink RX6 93 yX6_isLayer ∈ gtb := gmem 429 rfl rfl
set_option maxRecDepth 40000 in
theorem ml_RX6_96 : Cond.methodLink RX6 96 yX6_isHour ∈ gtb := gmem 432 rfl rfl
set_option maxRecDepth 40000 in
theorem ml_RL_43 : Cond.methodLink RL 43 yX6_barge ∈ gtb := gmem 435 rfl rfl
set_option maxRecDepth 40000 in
theorem ml_RX6_105 : Cond.methodLink RX6 105 yX4_hasBarge ∈ gtb := gmem 439 rfl rfl
set_option maxRecDepth 40000 in
theorem ml_RX6_111 : Cond.methodLink RX6 111 yX4_cordOf ∈ gtb := gmem 443 rfl rfl
set_option maxRecDepth 40000 in
theorem ml_RL_47 : Cond.methodLink RL 47 yX6_as ∈ gtb := gmem 447 rfl rfl
set_option maxRecDepth 40000 in
theorem ml_RX6_121 : Cond.methodLink RX6 121 yX4_pulled ∈ gtb := gmem 451 rfl rfl
set_option maxRecDepth 40000 in
theorem fl_RX4_61 : Cond.fieldLink RX4 61 "KiteBarges$River" "SAIL_TIMES" "[I" ∈ gtb := gmem 454 rfl rfl
set_option maxRecDepth 40000 in
theorem fl_RX4_64 : Cond.fieldLink RX4 64 "KiteBarges$River" "TIMES" "[I" ∈ gtb := gmem 456 rfl rfl
set_option maxRecDepth 40000 in
theorem ml_RL_51 : Cond.methodLink RL 51 yX6_yards ∈ gtb := gmem 458 rfl rfl
set_option maxRecDepth 40000 in
theorem ml_RX6_125 : Cond.methodLink RX6 125 yX4_stepOf ∈ gtb := gmem 462 rfl rfl
set_option maxRecDepth 40000 in
theorem ml_RX4_67 : Cond.methodLink RX4 67 yX4_pulled ∈ gtb := gmem 466 rfl rfl
set_option maxRecDepth 40000 in
theorem ml_RL_56 : Cond.methodLink RL 56 yX6_cord ∈ gtb := gmem 467 rfl rfl
set_option maxRecDepth 40000 in
theorem ml_RX6_132 : Cond.methodLink RX6 132 yJ9_abs_0f7a4 ∈ gtb := gmem 471 rfl rfl
set_option maxRecDepth 40000 in
theorem ml_RX6_143 : Cond.methodLink RX6 143 yX0_change ∈ gtb := gmem 474 rfl rfl
set_option maxRecDepth 40000 in
theorem ml_RX0_43 : Cond.methodLink RX0 43 yJ9_abs_0f7a4 ∈ gtb := gmem 478 rfl rfl
set_option maxRecDepth 40000 in
theorem ml_RL_60 : Cond.methodLink RL 60 yX6_go ∈ gtb := gmem 479 rfl rfl
set_option maxRecDepth 40000 in
theorem ml_RX6_147 : Cond.methodLink RX6 147 yJ9_min_7cf53 ∈ gtb := gmem 483 rfl rfl
set_option maxRecDepth 40000 in
theorem ml_RX6_150 : Cond.methodLink RX6 150 yX0_passHour ∈ gtb := gmem 486 rfl rfl
set_option maxRecDepth 40000 in
theorem ml_RX0_55 : Cond.methodLink RX0 55 yX4_moved ∈ gtb := gmem 490 rfl rfl
set_option maxRecDepth 40000 in
theorem ml_RX4_71 : Cond.methodLink RX4 71 yX4_stepOf ∈ gtb := gmem 494 rfl rfl
set_option maxRecDepth 40000 in
theorem ml_RL_65 : Cond.methodLink RL 65 yX6_at ∈ gtb := gmem 495 rfl rfl
set_option maxRecDepth 40000 in
theorem ml_RL_69 : Cond.methodLink RL 69 yX6_knots ∈ gtb := gmem 499 rfl rfl
set_option maxRecDepth 40000 in
theorem ml_RX6_166 : Cond.methodLink RX6 166 yX0_areKnotted ∈ gtb := gmem 503 rfl rfl
set_option maxRecDepth 40000 in
theorem ml_RL_73 : Cond.methodLink RL 73 yX6_keep ∈ gtb := gmem 510 rfl rfl
set_option maxRecDepth 40000 in
theorem ml_RX6_170 : Cond.methodLink RX6 170 yX0_copyFrom ∈ gtb := gmem 514 rfl rfl
set_option maxRecDepth 40000 in
theorem ml_RL_77 : Cond.methodLink RL 77 yX6_back ∈ gtb := gmem 521 rfl rfl
set_option maxRecDepth 40000 in
theorem ml_RL_81 : Cond.methodLink RL 81 yX6_soonest ∈ gtb := gmem 525 rfl rfl
set_option maxRecDepth 40000 in
theorem ml_RX6_174 : Cond.methodLink RX6 174 yX3_soonestOf ∈ gtb := gmem 529 rfl rfl
set_option maxRecDepth 40000 in
theorem ml_RX3_54 : Cond.methodLink RX3 54 yX3_search ∈ gtb := gmem 533 rfl rfl
set_option maxRecDepth 40000 in
theorem ml_RX3_79 : Cond.methodLink RX3 79 yX4_begin ∈ gtb := gmem 537 rfl rfl
set_option maxRecDepth 40000 in
theorem ml_RX3_89 : Cond.methodLink RX3 89 yX3_settle ∈ gtb := gmem 538 rfl rfl
set_option maxRecDepth 40000 in
theorem ml_RX3_93 : Cond.methodLink RX3 93 yX3_spread ∈ gtb := gmem 542 rfl rfl
set_option maxRecDepth 40000 in
theorem ml_RX3_96 : Cond.methodLink RX3 96 yX4_cordOf ∈ gtb := gmem 546 rfl rfl
set_option maxRecDepth 40000 in
theorem ml_RX3_66 : Cond.methodLink RX3 66 yJ9_min_7cf53 ∈ gtb := gmem 547 rfl rfl
set_option maxRecDepth 40000 in
theorem ml_RX3_104 : Cond.methodLink RX3 104 yJ9_max_7cf53 ∈ gtb := gmem 548 rfl rfl
set_option maxRecDepth 40000 in
theorem ml_RX3_85 : Cond.methodLink RX3 85 yX4_moved ∈ gtb := gmem 551 rfl rfl
set_option maxRecDepth 40000 in
theorem ml_RX3_111 : Cond.methodLink RX3 111 yJ9_abs_0f7a4 ∈ gtb := gmem 553 rfl rfl
set_option maxRecDepth 40000 in
theorem kl_RX3_77 : Cond.constantLong RX3 77 (6) ∈ gtb := gmem 554 rfl rfl
set_option maxRecDepth 40000 in
theorem ml_RX3_114 : Cond.methodLink RX3 114 yX3_offer ∈ gtb := gmem 555 rfl rfl
set_option maxRecDepth 40000 in
theorem ml_RX3_118 : Cond.methodLink RX3 118 yX3_swap ∈ gtb := gmem 559 rfl rfl
set_option maxRecDepth 40000 in
theorem ml_RX6_177 : Cond.methodLink RX6 177 yX3_answerOf ∈ gtb := gmem 563 rfl rfl
set_option maxRecDepth 40000 in
theorem ml_RX3_62 : Cond.methodLink RX3 62 yX3_layerIn ∈ gtb := gmem 567 rfl rfl
set_option maxRecDepth 40000 in
theorem ml_RL_85 : Cond.methodLink RL 85 yX6_clear ∈ gtb := gmem 571 rfl rfl
set_option maxRecDepth 40000 in
theorem ml_RX6_183 : Cond.methodLink RX6 183 yX3_clearOf ∈ gtb := gmem 575 rfl rfl
set_option maxRecDepth 40000 in
theorem ml_RX3_58 : Cond.methodLink RX3 58 yX3_draw ∈ gtb := gmem 579 rfl rfl
set_option maxRecDepth 40000 in
theorem ml_RL_89 : Cond.methodLink RL 89 yX6_odds ∈ gtb := gmem 583 rfl rfl
set_option maxRecDepth 40000 in
theorem ml_RX6_186 : Cond.methodLink RX6 186 yX6_oddsRefused ∈ gtb := gmem 587 rfl rfl
set_option maxRecDepth 40000 in
theorem kl_RX6_190 : Cond.constantLong RX6 190 (-4) ∈ gtb := gmem 591 rfl rfl
set_option maxRecDepth 40000 in
theorem ml_RX6_192 : Cond.methodLink RX6 192 yX2_start ∈ gtb := gmem 592 rfl rfl
set_option maxRecDepth 40000 in
theorem ml_RX2_38 : Cond.methodLink RX2 38 yX4_begin ∈ gtb := gmem 596 rfl rfl
set_option maxRecDepth 40000 in
theorem ml_RX2_44 : Cond.methodLink RX2 44 yJ9_min_7cf53 ∈ gtb := gmem 597 rfl rfl
set_option maxRecDepth 40000 in
theorem ml_RX6_196 : Cond.methodLink RX6 196 yX3_layerKept ∈ gtb := gmem 598 rfl rfl
set_option maxRecDepth 40000 in
theorem ml_RX6_199 : Cond.methodLink RX6 199 yX2_branch ∈ gtb := gmem 602 rfl rfl
set_option maxRecDepth 40000 in
theorem ml_RX2_50 : Cond.methodLink RX2 50 yX4_moved ∈ gtb := gmem 606 rfl rfl
set_option maxRecDepth 40000 in
theorem ml_RX6_203 : Cond.methodLink RX6 203 yX2_thereAfter ∈ gtb := gmem 607 rfl rfl
set_option maxRecDepth 40000 in
theorem ml_RX6_207 : Cond.methodLink RX6 207 yX6_lowestTerms ∈ gtb := gmem 611 rfl rfl
set_option maxRecDepth 40000 in
theorem kl_RX6_236 : Cond.constantLong RX6 236 (10) ∈ gtb := gmem 614 rfl rfl
set_option maxRecDepth 40000 in
theorem kl_RX6_238 : Cond.constantLong RX6 238 (2) ∈ gtb := gmem 615 rfl rfl
set_option maxRecDepth 40000 in
theorem kl_RX6_240 : Cond.constantLong RX6 240 (5) ∈ gtb := gmem 616 rfl rfl
set_option maxRecDepth 40000 in
theorem ml_RL_94 : Cond.methodLink RL 94 yX6_sight ∈ gtb := gmem 617 rfl rfl
set_option maxRecDepth 40000 in
theorem ml_RX6_211 : Cond.methodLink RX6 211 yX2_bestSeeing ∈ gtb := gmem 621 rfl rfl
set_option maxRecDepth 40000 in
theorem ml_RX2_80 : Cond.methodLink RX2 80 yX2_findPlaces ∈ gtb := gmem 625 rfl rfl
set_option maxRecDepth 40000 in
theorem ml_RX2_96 : Cond.methodLink RX2 96 yJ7_fill_53178 ∈ gtb := gmem 629 rfl rfl
set_option maxRecDepth 40000 in
theorem ml_RX2_99 : Cond.methodLink RX2 99 yX2_findNext ∈ gtb := gmem 630 rfl rfl
set_option maxRecDepth 40000 in
theorem ml_RX2_83 : Cond.methodLink RX2 83 yJ7_fill_d0a16 ∈ gtb := gmem 634 rfl rfl
set_option maxRecDepth 40000 in
theorem ml_RX2_89 : Cond.methodLink RX2 89 yX2_valuePlace ∈ gtb := gmem 637 rfl rfl
set_option maxRecDepth 40000 in
theorem ml_RX2_66 : Cond.methodLink RX2 66 yX4_cordOf ∈ gtb := gmem 641 rfl rfl
set_option maxRecDepth 40000 in
theorem ml_RX2_102 : Cond.methodLink RX2 102 yX2_greatest ∈ gtb := gmem 642 rfl rfl
set_option maxRecDepth 40000 in
theorem ml_RX2_70 : Cond.methodLink RX2 70 yJ9_max_7cf53 ∈ gtb := gmem 645 rfl rfl
set_option maxRecDepth 40000 in
theorem ml_RX2_77 : Cond.methodLink RX2 77 yJ9_max_f86c9 ∈ gtb := gmem 646 rfl rfl
set_option maxRecDepth 40000 in
theorem ml_RX2_93 : Cond.methodLink RX2 93 yX2_swap ∈ gtb := gmem 649 rfl rfl
set_option maxRecDepth 40000 in
theorem ml_RL_98 : Cond.methodLink RL 98 yX6_blind ∈ gtb := gmem 653 rfl rfl
set_option maxRecDepth 40000 in
theorem ml_RX6_215 : Cond.methodLink RX6 215 yX2_bestBlind ∈ gtb := gmem 657 rfl rfl
set_option maxRecDepth 40000 in
theorem ml_RX2_54 : Cond.methodLink RX2 54 yX2_start ∈ gtb := gmem 661 rfl rfl
set_option maxRecDepth 40000 in
theorem ml_RX2_58 : Cond.methodLink RX2 58 yX2_bestRow ∈ gtb := gmem 662 rfl rfl
set_option maxRecDepth 40000 in
theorem ml_RX2_62 : Cond.methodLink RX2 62 yX2_thereAfter ∈ gtb := gmem 666 rfl rfl
set_option maxRecDepth 40000 in
theorem ml_RX2_73 : Cond.methodLink RX2 73 yX2_branch ∈ gtb := gmem 667 rfl rfl
set_option maxRecDepth 40000 in
theorem ml_RL_102 : Cond.methodLink RL 102 yX6_worth ∈ gtb := gmem 668 rfl rfl
set_option maxRecDepth 40000 in
theorem ml_RL_106 : Cond.methodLink RL 106 yX6_found ∈ gtb := gmem 672 rfl rfl
set_option maxRecDepth 40000 in
theorem ml_RX6_218 : Cond.methodLink RX6 218 yX3_hourIn ∈ gtb := gmem 676 rfl rfl
set_option maxRecDepth 40000 in
theorem ml_RL_110 : Cond.methodLink RL 110 yX6_first ∈ gtb := gmem 680 rfl rfl
set_option maxRecDepth 40000 in
theorem ml_RL_114 : Cond.methodLink RL 114 yX6_books ∈ gtb := gmem 684 rfl rfl
set_option maxRecDepth 40000 in
theorem ml_RX6_224 : Cond.methodLink RX6 224 yX6_passages ∈ gtb := gmem 688 rfl rfl
set_option maxRecDepth 40000 in
theorem ml_RL_118 : Cond.methodLink RL 118 yX6_count ∈ gtb := gmem 692 rfl rfl
set_option maxRecDepth 40000 in
theorem ml_RX6_227 : Cond.methodLink RX6 227 yX4_toldBits ∈ gtb := gmem 696 rfl rfl
set_option maxRecDepth 40000 in
theorem ml_RX6_233 : Cond.methodLink RX6 233 yX4_wholeLength ∈ gtb := gmem 700 rfl rfl
set_option maxRecDepth 40000 in
theorem ml_RL_12 : Cond.methodLink RL 12 yX7_init ∈ gtb := gmem 706 rfl rfl
set_option maxRecDepth 40000 in
theorem ml_RX7_58 : Cond.methodLink RX7 58 yX7_begin ∈ gtb := gmem 710 rfl rfl
set_option maxRecDepth 40000 in
theorem ml_RX7_169 : Cond.methodLink RX7 169 yX7_start ∈ gtb := gmem 714 rfl rfl
set_option maxRecDepth 40000 in
theorem fl_RX7_160 : Cond.fieldLink RX7 160 "KiteBargesModel" "reaches" "I" ∈ gtb := gmem 718 rfl rfl
set_option maxRecDepth 40000 in
theorem fl_RX7_7 : Cond.fieldLink RX7 7 "KiteBargesModel" "reach" "[I" ∈ gtb := gmem 719 rfl rfl
set_option maxRecDepth 40000 in
theorem fl_RX7_13 : Cond.fieldLink RX7 13 "KiteBargesModel" "wind" "[I" ∈ gtb := gmem 720 rfl rfl
set_option maxRecDepth 40000 in
theorem fl_RX7_16 : Cond.fieldLink RX7 16 "KiteBargesModel" "still" "I" ∈ gtb := gmem 721 rfl rfl
set_option maxRecDepth 40000 in
theorem fl_RX7_65 : Cond.fieldLink RX7 65 "KiteBargesModel" "told" "I" ∈ gtb := gmem 722 rfl rfl
set_option maxRecDepth 40000 in
theorem fl_RX7_20 : Cond.fieldLink RX7 20 "KiteBargesModel" "barge" "[I" ∈ gtb := gmem 723 rfl rfl
set_option maxRecDepth 40000 in
theorem fl_RX7_72 : Cond.fieldLink RX7 72 "KiteBargesModel" "bytes" "I" ∈ gtb := gmem 724 rfl rfl
set_option maxRecDepth 40000 in
theorem fl_RX7_23 : Cond.fieldLink RX7 23 "KiteBargesModel" "text" "[I" ∈ gtb := gmem 725 rfl rfl
set_option maxRecDepth 40000 in
theorem fl_RX7_77 : Cond.fieldLink RX7 77 "KiteBargesModel" "position" "I" ∈ gtb := gmem 726 rfl rfl
set_option maxRecDepth 40000 in
theorem fl_RX7_80 : Cond.fieldLink RX7 80 "KiteBargesModel" "tokenAt" "I" ∈ gtb := gmem 727 rfl rfl
set_option maxRecDepth 40000 in
theorem fl_RX7_91 : Cond.fieldLink RX7 91 "KiteBargesModel" "token" "J" ∈ gtb := gmem 728 rfl rfl
set_option maxRecDepth 40000 in
theorem fl_RX7_83 : Cond.fieldLink RX7 83 "KiteBargesModel" "digits" "I" ∈ gtb := gmem 729 rfl rfl
set_option maxRecDepth 40000 in
theorem fl_RX7_86 : Cond.fieldLink RX7 86 "KiteBargesModel" "number" "I" ∈ gtb := gmem 730 rfl rfl
set_option maxRecDepth 40000 in
theorem fl_RX7_105 : Cond.fieldLink RX7 105 "KiteBargesModel" "faultAt" "I" ∈ gtb := gmem 731 rfl rfl
set_option maxRecDepth 40000 in
theorem fl_RX7_157 : Cond.fieldLink RX7 157 "KiteBargesModel" "readMany" "I" ∈ gtb := gmem 732 rfl rfl
set_option maxRecDepth 40000 in
theorem fl_RX7_125 : Cond.fieldLink RX7 125 "KiteBargesModel" "readReaches" "I" ∈ gtb := gmem 733 rfl rfl
set_option maxRecDepth 40000 in
theorem fl_RX7_26 : Cond.fieldLink RX7 26 "KiteBargesModel" "read" "[I" ∈ gtb := gmem 734 rfl rfl
set_option maxRecDepth 40000 in
theorem fl_RX7_29 : Cond.fieldLink RX7 29 "KiteBargesModel" "now" "[I" ∈ gtb := gmem 735 rfl rfl
set_option maxRecDepth 40000 in
theorem fl_RX7_32 : Cond.fieldLink RX7 32 "KiteBargesModel" "image" "[I" ∈ gtb := gmem 736 rfl rfl
set_option maxRecDepth 40000 in
theorem fl_RX7_35 : Cond.fieldLink RX7 35 "KiteBargesModel" "isKept" "[Z" ∈ gtb := gmem 737 rfl rfl
set_option maxRecDepth 40000 in
theorem fl_RX7_39 : Cond.fieldLink RX7 39 "KiteBargesModel" "left" "[I" ∈ gtb := gmem 738 rfl rfl
set_option maxRecDepth 40000 in
theorem fl_RX7_224 : Cond.fieldLink RX7 224 "KiteBargesModel" "planHours" "I" ∈ gtb := gmem 739 rfl rfl
set_option maxRecDepth 40000 in
theorem fl_RX7_227 : Cond.fieldLink RX7 227 "KiteBargesModel" "planRun" "I" ∈ gtb := gmem 740 rfl rfl
set_option maxRecDepth 40000 in
theorem fl_RX7_42 : Cond.fieldLink RX7 42 "KiteBargesModel" "planLayer" "[I" ∈ gtb := gmem 741 rfl rfl
set_option maxRecDepth 40000 in
theorem fl_RX7_45 : Cond.fieldLink RX7 45 "KiteBargesModel" "planPlace" "[I" ∈ gtb := gmem 742 rfl rfl
set_option maxRecDepth 40000 in
theorem fl_RX7_48 : Cond.fieldLink RX7 48 "KiteBargesModel" "otherPlace" "[I" ∈ gtb := gmem 743 rfl rfl
set_option maxRecDepth 40000 in
theorem fl_RX7_51 : Cond.fieldLink RX7 51 "KiteBargesModel" "otherLayer" "[I" ∈ gtb := gmem 744 rfl rfl
set_option maxRecDepth 40000 in
theorem fl_RX7_54 : Cond.fieldLink RX7 54 "KiteBargesModel" "chance" "[J" ∈ gtb := gmem 745 rfl rfl
set_option maxRecDepth 40000 in
theorem ml_RL_19 : Cond.methodLink RL 19 yX7_write ∈ gtb := gmem 803 rfl rfl
set_option maxRecDepth 40000 in
theorem ml_RX7_61 : Cond.methodLink RX7 61 yX7_in ∈ gtb := gmem 807 rfl rfl
set_option maxRecDepth 40000 in
theorem kl_RX7_75 : Cond.constantLong RX7 75 (255) ∈ gtb := gmem 810 rfl rfl
set_option maxRecDepth 40000 in
theorem ml_RL_24 : Cond.methodLink RL 24 yX7_erase ∈ gtb := gmem 811 rfl rfl
set_option maxRecDepth 40000 in
theorem ml_RL_28 : Cond.methodLink RL 28 yX7_fault ∈ gtb := gmem 815 rfl rfl
set_option maxRecDepth 40000 in
theorem ml_RX7_166 : Cond.methodLink RX7 166 yX7_isRead ∈ gtb := gmem 819 rfl rfl
set_option maxRecDepth 40000 in
theorem ml_RX7_163 : Cond.methodLink RX7 163 yX7_isLine ∈ gtb := gmem 823 rfl rfl
set_option maxRecDepth 40000 in
theorem ml_RX7_108 : Cond.methodLink RX7 108 yX7_nextToken ∈ gtb := gmem 827 rfl rfl
set_option maxRecDepth 40000 in
theorem kl_RX7_89 : Cond.constantLong RX7 89 (-2) ∈ gtb := gmem 831 rfl rfl
set_option maxRecDepth 40000 in
theorem kl_RX7_95 : Cond.constantLong RX7 95 (27) ∈ gtb := gmem 832 rfl rfl
set_option maxRecDepth 40000 in
theorem kl_RX7_97 : Cond.constantLong RX7 97 (96) ∈ gtb := gmem 833 rfl rfl
set_option maxRecDepth 40000 in
theorem kl_RX7_99 : Cond.constantLong RX7 99 (-4) ∈ gtb := gmem 834 rfl rfl
set_option maxRecDepth 40000 in
theorem kl_RX7_101 : Cond.constantLong RX7 101 (-1) ∈ gtb := gmem 835 rfl rfl
set_option maxRecDepth 40000 in
theorem kl_RX7_103 : Cond.constantLong RX7 103 (-3) ∈ gtb := gmem 836 rfl rfl
set_option maxRecDepth 40000 in
theorem kl_RX7_131 : Cond.constantLong RX7 131 (307058) ∈ gtb := gmem 837 rfl rfl
set_option maxRecDepth 40000 in
theorem kl_RX7_133 : Cond.constantLong RX7 133 (10986913) ∈ gtb := gmem 838 rfl rfl
set_option maxRecDepth 40000 in
theorem kl_RX7_135 : Cond.constantLong RX7 135 (247223) ∈ gtb := gmem 839 rfl rfl
set_option maxRecDepth 40000 in
theorem kl_RX7_137 : Cond.constantLong RX7 137 (3427) ∈ gtb := gmem 840 rfl rfl
set_option maxRecDepth 40000 in
theorem kl_RX7_139 : Cond.constantLong RX7 139 (459652) ∈ gtb := gmem 841 rfl rfl
set_option maxRecDepth 40000 in
theorem kl_RX7_141 : Cond.constantLong RX7 141 (1095881) ∈ gtb := gmem 842 rfl rfl
set_option maxRecDepth 40000 in
theorem kl_RX7_143 : Cond.constantLong RX7 143 (385240) ∈ gtb := gmem 843 rfl rfl
set_option maxRecDepth 40000 in
theorem kl_RX7_145 : Cond.constantLong RX7 145 (10497936) ∈ gtb := gmem 844 rfl rfl
set_option maxRecDepth 40000 in
theorem ml_RX7_147 : Cond.methodLink RX7 147 yX7_isReachLine ∈ gtb := gmem 845 rfl rfl
set_option maxRecDepth 40000 in
theorem ml_RX7_111 : Cond.methodLink RX7 111 yX7_fails ∈ gtb := gmem 849 rfl rfl
set_option maxRecDepth 40000 in
theorem ml_RX7_128 : Cond.methodLink RX7 128 yX7_isNumber ∈ gtb := gmem 853 rfl rfl
set_option maxRecDepth 40000 in
theorem ml_RX7_151 : Cond.methodLink RX7 151 yX7_isWind ∈ gtb := gmem 857 rfl rfl
set_option maxRecDepth 40000 in
theorem ml_RX7_154 : Cond.methodLink RX7 154 yX7_isKite ∈ gtb := gmem 861 rfl rfl
set_option maxRecDepth 40000 in
theorem kl_RX7_115 : Cond.constantLong RX7 115 (8740238) ∈ gtb := gmem 865 rfl rfl
set_option maxRecDepth 40000 in
theorem kl_RX7_117 : Cond.constantLong RX7 117 (230304361) ∈ gtb := gmem 866 rfl rfl
set_option maxRecDepth 40000 in
theorem kl_RX7_119 : Cond.constantLong RX7 119 (383153) ∈ gtb := gmem 867 rfl rfl
set_option maxRecDepth 40000 in
theorem kl_RX7_121 : Cond.constantLong RX7 121 (374961) ∈ gtb := gmem 868 rfl rfl
set_option maxRecDepth 40000 in
theorem kl_RX7_123 : Cond.constantLong RX7 123 (405095) ∈ gtb := gmem 869 rfl rfl
set_option maxRecDepth 40000 in
theorem ml_RL_32 : Cond.methodLink RL 32 yX7_river ∈ gtb := gmem 870 rfl rfl
set_option maxRecDepth 40000 in
theorem ml_RX7_173 : Cond.methodLink RX7 173 yX7_doLine ∈ gtb := gmem 874 rfl rfl
set_option maxRecDepth 40000 in
theorem ml_RL_37 : Cond.methodLink RL 37 yX7_reach ∈ gtb := gmem 878 rfl rfl
set_option maxRecDepth 40000 in
theorem ml_RX7_177 : Cond.methodLink RX7 177 yX7_isReach ∈ gtb := gmem 882 rfl rfl
set_option maxRecDepth 40000 in
theorem ml_RL_42 : Cond.methodLink RL 42 yX7_wind ∈ gtb := gmem 886 rfl rfl
set_option maxRecDepth 40000 in
theorem ml_RX7_180 : Cond.methodLink RX7 180 yX7_isLayer ∈ gtb := gmem 890 rfl rfl
set_option maxRecDepth 40000 in
theorem ml_RX7_183 : Cond.methodLink RX7 183 yX7_isHour ∈ gtb := gmem 893 rfl rfl
set_option maxRecDepth 40000 in
theorem ml_RL_46 : Cond.methodLink RL 46 yX7_barge ∈ gtb := gmem 896 rfl rfl
set_option maxRecDepth 40000 in
theorem ml_RX7_186 : Cond.methodLink RX7 186 yX7_isBarge ∈ gtb := gmem 900 rfl rfl
set_option maxRecDepth 40000 in
theorem ml_RX7_68 : Cond.methodLink RX7 68 yX7_has ∈ gtb := gmem 904 rfl rfl
set_option maxRecDepth 40000 in
theorem ml_RX7_189 : Cond.methodLink RX7 189 yX7_cordOf ∈ gtb := gmem 907 rfl rfl
set_option maxRecDepth 40000 in
theorem ml_RL_50 : Cond.methodLink RL 50 yX7_as ∈ gtb := gmem 911 rfl rfl
set_option maxRecDepth 40000 in
theorem ml_RX7_193 : Cond.methodLink RX7 193 yX7_pull ∈ gtb := gmem 915 rfl rfl
set_option maxRecDepth 40000 in
theorem ml_RL_55 : Cond.methodLink RL 55 yX7_yards ∈ gtb := gmem 918 rfl rfl
set_option maxRecDepth 40000 in
theorem ml_RX7_201 : Cond.methodLink RX7 201 yX7_yardsOf ∈ gtb := gmem 922 rfl rfl
set_option maxRecDepth 40000 in
theorem ml_RX7_197 : Cond.methodLink RX7 197 yX7_off ∈ gtb := gmem 926 rfl rfl
set_option maxRecDepth 40000 in
theorem ml_RL_59 : Cond.methodLink RL 59 yX7_cord ∈ gtb := gmem 929 rfl rfl
set_option maxRecDepth 40000 in
theorem ml_RL_64 : Cond.methodLink RL 64 yX7_go ∈ gtb := gmem 933 rfl rfl
set_option maxRecDepth 40000 in
theorem ml_RX7_205 : Cond.methodLink RX7 205 yX7_goes ∈ gtb := gmem 937 rfl rfl
set_option maxRecDepth 40000 in
theorem ml_RL_68 : Cond.methodLink RL 68 yX7_at ∈ gtb := gmem 941 rfl rfl
set_option maxRecDepth 40000 in
theorem ml_RL_72 : Cond.methodLink RL 72 yX7_knots ∈ gtb := gmem 945 rfl rfl
set_option maxRecDepth 40000 in
theorem ml_RX7_208 : Cond.methodLink RX7 208 yX7_isKnot ∈ gtb := gmem 949 rfl rfl
set_option maxRecDepth 40000 in
theorem ml_RL_76 : Cond.methodLink RL 76 yX7_keep ∈ gtb := gmem 952 rfl rfl
set_option maxRecDepth 40000 in
theorem ml_RL_80 : Cond.methodLink RL 80 yX7_back ∈ gtb := gmem 956 rfl rfl
set_option maxRecDepth 40000 in
theorem ml_RL_84 : Cond.methodLink RL 84 yX7_soonest ∈ gtb := gmem 960 rfl rfl
set_option maxRecDepth 40000 in
theorem ml_RX7_236 : Cond.methodLink RX7 236 yX7_isSoonest ∈ gtb := gmem 964 rfl rfl
set_option maxRecDepth 40000 in
theorem ml_RX7_230 : Cond.methodLink RX7 230 yX7_noOther ∈ gtb := gmem 968 rfl rfl
set_option maxRecDepth 40000 in
theorem ml_RX7_233 : Cond.methodLink RX7 233 yX7_findPlan ∈ gtb := gmem 972 rfl rfl
set_option maxRecDepth 40000 in
theorem ml_RX7_220 : Cond.methodLink RX7 220 yX7_layLeft ∈ gtb := gmem 976 rfl rfl
set_option maxRecDepth 40000 in
theorem ki_RX7_212 : Cond.constant RX7 212 (1000000) ∈ gtb := gmem 980 rfl rfl
set_option maxRecDepth 40000 in
theorem ml_RX7_213 : Cond.methodLink RX7 213 yX7_isPlace ∈ gtb := gmem 981 rfl rfl
set_option maxRecDepth 40000 in
theorem ml_RX7_216 : Cond.methodLink RX7 216 yX7_through ∈ gtb := gmem 985 rfl rfl
set_option maxRecDepth 40000 in
theorem ml_RX7_239 : Cond.methodLink RX7 239 yX7_tell ∈ gtb := gmem 989 rfl rfl
set_option maxRecDepth 40000 in
theorem ml_RL_88 : Cond.methodLink RL 88 yX7_clear ∈ gtb := gmem 993 rfl rfl
set_option maxRecDepth 40000 in
theorem ml_RL_93 : Cond.methodLink RL 93 yX7_odds ∈ gtb := gmem 997 rfl rfl
set_option maxRecDepth 40000 in
theorem ml_RX7_243 : Cond.methodLink RX7 243 yX7_areOdds ∈ gtb := gmem 1001 rfl rfl
set_option maxRecDepth 40000 in
theorem ml_RX7_246 : Cond.methodLink RX7 246 yX7_byRow ∈ gtb := gmem 1004 rfl rfl
set_option maxRecDepth 40000 in
theorem ml_RX7_250 : Cond.methodLink RX7 250 yX7_power ∈ gtb := gmem 1008 rfl rfl
set_option maxRecDepth 40000 in
theorem ml_RX7_254 : Cond.methodLink RX7 254 yX7_part ∈ gtb := gmem 1011 rfl rfl
set_option maxRecDepth 40000 in
theorem ml_RL_97 : Cond.methodLink RL 97 yX7_sight ∈ gtb := gmem 1014 rfl rfl
set_option maxRecDepth 40000 in
theorem ml_RX7_258 : Cond.methodLink RX7 258 yX7_sightOf ∈ gtb := gmem 1018 rfl rfl
set_option maxRecDepth 40000 in
theorem ml_RL_101 : Cond.methodLink RL 101 yX7_blind ∈ gtb := gmem 1022 rfl rfl
set_option maxRecDepth 40000 in
theorem ml_RX7_262 : Cond.methodLink RX7 262 yX7_blindOf ∈ gtb := gmem 1026 rfl rfl
set_option maxRecDepth 40000 in
theorem ml_RL_105 : Cond.methodLink RL 105 yX7_worth ∈ gtb := gmem 1030 rfl rfl
set_option maxRecDepth 40000 in
theorem ml_RL_109 : Cond.methodLink RL 109 yX7_found ∈ gtb := gmem 1034 rfl rfl
set_option maxRecDepth 40000 in
theorem ml_RX7_265 : Cond.methodLink RX7 265 yX7_firstOf ∈ gtb := gmem 1038 rfl rfl
set_option maxRecDepth 40000 in
theorem ml_RL_113 : Cond.methodLink RL 113 yX7_first ∈ gtb := gmem 1042 rfl rfl
set_option maxRecDepth 40000 in
theorem ml_RL_117 : Cond.methodLink RL 117 yX7_books ∈ gtb := gmem 1046 rfl rfl
set_option maxRecDepth 40000 in
theorem ml_RL_121 : Cond.methodLink RL 121 yX7_count ∈ gtb := gmem 1050 rfl rfl
set_option maxRecDepth 40000 in
theorem kl_RL_13 : Cond.constantLong RL 13 (4294967295) ∈ gtb := gmem 1054 rfl rfl
set_option maxRecDepth 40000 in
theorem fl_RJ0_9 : Cond.fieldLink RJ0 9 "java/lang/String" "value" "[B" ∈ gtb := gmem 1055 rfl rfl
set_option maxRecDepth 40000 in
theorem fl_RJ0_15 : Cond.fieldLink RJ0 15 "java/lang/String" "coder" "B" ∈ gtb := gmem 1056 rfl rfl
set_option maxRecDepth 40000 in
theorem inX0 : ∀ w ∈ u_ws RX0 TX0 6, w ∈ gtb := by
  have e : u_ws RX0 TX0 6 = [.lays "KiteBarges$Fleet" "KiteBarges$Fleet" "hours" "I", .laysFinal "KiteBarges$Fleet" "KiteBarges$Fleet" "place" "[I", .laysFinal "KiteBarges$Fleet" "KiteBarges$Fleet" "layer" "[I", .laysFinal "KiteBarges$Fleet" "KiteBarges$Fleet" "lastLayer" "[I", .laysFinal "KiteBarges$Fleet" "KiteBarges$Fleet" "run" "[I", .laysFinal "KiteBarges$Fleet" "KiteBarges$Fleet" "stayed" "[I"] := rfl
  rw [e]
  exact List.forall_mem_cons.mpr ⟨gmem 140 rfl rfl, List.forall_mem_cons.mpr ⟨gmem 142 rfl rfl, List.forall_mem_cons.mpr ⟨gmem 144 rfl rfl, List.forall_mem_cons.mpr ⟨gmem 146 rfl rfl, List.forall_mem_cons.mpr ⟨gmem 148 rfl rfl, List.forall_mem_cons.mpr ⟨gmem 150 rfl rfl, fun _ h => absurd h List.not_mem_nil⟩⟩⟩⟩⟩⟩
set_option maxRecDepth 40000 in
theorem inX1 : ∀ w ∈ u_ws RX1 TX1 2, w ∈ gtb := by
  have e : u_ws RX1 TX1 2 = [.laysFinal "KiteBarges$Line" "KiteBarges$Line" "place" "[I", .laysFinal "KiteBarges$Line" "KiteBarges$Line" "layer" "[I"] := rfl
  rw [e]
  exact List.forall_mem_cons.mpr ⟨gmem 173 rfl rfl, List.forall_mem_cons.mpr ⟨gmem 175 rfl rfl, fun _ h => absurd h List.not_mem_nil⟩⟩
set_option maxRecDepth 40000 in
theorem inX2 : ∀ w ∈ u_ws RX2 TX2 8, w ∈ gtb := by
  have e : u_ws RX2 TX2 8 = [.laysFinal "KiteBarges$Lulls" "KiteBarges$Lulls" "river" "LKiteBarges$River;", .laysFinal "KiteBarges$Lulls" "KiteBarges$Lulls" "placeAt" "[I", .laysFinal "KiteBarges$Lulls" "KiteBarges$Lulls" "chanceOf" "[J", .lays "KiteBarges$Lulls" "KiteBarges$Lulls" "values" "[J", .lays "KiteBarges$Lulls" "KiteBarges$Lulls" "laterValues" "[J", .laysFinal "KiteBarges$Lulls" "KiteBarges$Lulls" "hoursTo" "[I", .laysFinal "KiteBarges$Lulls" "KiteBarges$Lulls" "ifLull" "[J", .laysFinal "KiteBarges$Lulls" "KiteBarges$Lulls" "ifWind" "[J"] := rfl
  rw [e]
  exact List.forall_mem_cons.mpr ⟨gmem 226 rfl rfl, List.forall_mem_cons.mpr ⟨gmem 228 rfl rfl, List.forall_mem_cons.mpr ⟨gmem 230 rfl rfl, List.forall_mem_cons.mpr ⟨gmem 232 rfl rfl, List.forall_mem_cons.mpr ⟨gmem 234 rfl rfl, List.forall_mem_cons.mpr ⟨gmem 236 rfl rfl, List.forall_mem_cons.mpr ⟨gmem 238 rfl rfl, List.forall_mem_cons.mpr ⟨gmem 240 rfl rfl, fun _ h => absurd h List.not_mem_nil⟩⟩⟩⟩⟩⟩⟩⟩
set_option maxRecDepth 40000 in
theorem inX3 : ∀ w ∈ u_ws RX3 TX3 10, w ∈ gtb := by
  have e : u_ws RX3 TX3 10 = [.laysFinal "KiteBarges$Planner" "KiteBarges$Planner" "hoursOf" "[I", .laysFinal "KiteBarges$Planner" "KiteBarges$Planner" "river" "LKiteBarges$River;", .laysFinal "KiteBarges$Planner" "KiteBarges$Planner" "runOf" "[I", .laysFinal "KiteBarges$Planner" "KiteBarges$Planner" "rowOf" "[J", .laysFinal "KiteBarges$Planner" "KiteBarges$Planner" "nobody" "LKiteBarges$Line;", .laysFinal "KiteBarges$Planner" "KiteBarges$Planner" "drawn" "LKiteBarges$Line;", .lays "KiteBarges$Planner" "KiteBarges$Planner" "runs" "[I", .lays "KiteBarges$Planner" "KiteBarges$Planner" "rows" "[J", .lays "KiteBarges$Planner" "KiteBarges$Planner" "nextRuns" "[I", .lays "KiteBarges$Planner" "KiteBarges$Planner" "nextRows" "[J"] := rfl
  rw [e]
  exact List.forall_mem_cons.mpr ⟨gmem 191 rfl rfl, List.forall_mem_cons.mpr ⟨gmem 193 rfl rfl, List.forall_mem_cons.mpr ⟨gmem 195 rfl rfl, List.forall_mem_cons.mpr ⟨gmem 197 rfl rfl, List.forall_mem_cons.mpr ⟨gmem 199 rfl rfl, List.forall_mem_cons.mpr ⟨gmem 201 rfl rfl, List.forall_mem_cons.mpr ⟨gmem 203 rfl rfl, List.forall_mem_cons.mpr ⟨gmem 205 rfl rfl, List.forall_mem_cons.mpr ⟨gmem 207 rfl rfl, List.forall_mem_cons.mpr ⟨gmem 209 rfl rfl, fun _ h => absurd h List.not_mem_nil⟩⟩⟩⟩⟩⟩⟩⟩⟩⟩
set_option maxRecDepth 40000 in
theorem inX4 : ∀ w ∈ u_ws RX4 TX4 12, w ∈ gtb := by
  have e : u_ws RX4 TX4 12 = [.lays "KiteBarges$River" "KiteBarges$River" "reaches" "I", .lays "KiteBarges$River" "KiteBarges$River" "still" "I", .laysFinal "KiteBarges$River" "KiteBarges$River" "way" "[I", .laysFinal "KiteBarges$River" "KiteBarges$River" "yardsLong" "[I", .laysFinal "KiteBarges$River" "KiteBarges$River" "kind" "[I", .laysFinal "KiteBarges$River" "KiteBarges$River" "windWay" "[I", .laysFinal "KiteBarges$River" "KiteBarges$River" "strength" "[I", .laysFinal "KiteBarges$River" "KiteBarges$River" "told" "[Z", .laysFinal "KiteBarges$River" "KiteBarges$River" "weight" "[I", .laysFinal "KiteBarges$River" "KiteBarges$River" "cordLong" "[I", .laysFinal "KiteBarges$River" "KiteBarges$River" "kite" "[I", .laysFinal "KiteBarges$River" "KiteBarges$River" "freight" "[I"] := rfl
  rw [e]
  exact List.forall_mem_cons.mpr ⟨gmem 56 rfl rfl, List.forall_mem_cons.mpr ⟨gmem 58 rfl rfl, List.forall_mem_cons.mpr ⟨gmem 60 rfl rfl, List.forall_mem_cons.mpr ⟨gmem 62 rfl rfl, List.forall_mem_cons.mpr ⟨gmem 64 rfl rfl, List.forall_mem_cons.mpr ⟨gmem 66 rfl rfl, List.forall_mem_cons.mpr ⟨gmem 68 rfl rfl, List.forall_mem_cons.mpr ⟨gmem 70 rfl rfl, List.forall_mem_cons.mpr ⟨gmem 72 rfl rfl, List.forall_mem_cons.mpr ⟨gmem 74 rfl rfl, List.forall_mem_cons.mpr ⟨gmem 76 rfl rfl, List.forall_mem_cons.mpr ⟨gmem 78 rfl rfl, fun _ h => absurd h List.not_mem_nil⟩⟩⟩⟩⟩⟩⟩⟩⟩⟩⟩⟩
set_option maxRecDepth 40000 in
theorem inX5 : ∀ w ∈ u_ws RX5 TX5 10, w ∈ gtb := by
  have e : u_ws RX5 TX5 10 = [.lays "KiteBarges$Text" "KiteBarges$Text" "length" "I", .lays "KiteBarges$Text" "KiteBarges$Text" "lines" "I", .laysFinal "KiteBarges$Text" "KiteBarges$Text" "bytes" "[I", .lays "KiteBarges$Text" "KiteBarges$Text" "tokenKind" "I", .lays "KiteBarges$Text" "KiteBarges$Text" "place" "I", .lays "KiteBarges$Text" "KiteBarges$Text" "end" "I", .lays "KiteBarges$Text" "KiteBarges$Text" "word" "I", .lays "KiteBarges$Text" "KiteBarges$Text" "filled" "I", .laysFinal "KiteBarges$Text" "KiteBarges$Text" "numbers" "[I", .lays "KiteBarges$Text" "KiteBarges$Text" "reaches" "I"] := rfl
  rw [e]
  exact List.forall_mem_cons.mpr ⟨gmem 101 rfl rfl, List.forall_mem_cons.mpr ⟨gmem 103 rfl rfl, List.forall_mem_cons.mpr ⟨gmem 105 rfl rfl, List.forall_mem_cons.mpr ⟨gmem 107 rfl rfl, List.forall_mem_cons.mpr ⟨gmem 109 rfl rfl, List.forall_mem_cons.mpr ⟨gmem 111 rfl rfl, List.forall_mem_cons.mpr ⟨gmem 113 rfl rfl, List.forall_mem_cons.mpr ⟨gmem 115 rfl rfl, List.forall_mem_cons.mpr ⟨gmem 117 rfl rfl, List.forall_mem_cons.mpr ⟨gmem 119 rfl rfl, fun _ h => absurd h List.not_mem_nil⟩⟩⟩⟩⟩⟩⟩⟩⟩⟩
set_option maxRecDepth 40000 in
theorem inX6 : ∀ w ∈ u_ws RX6 TX6 7, w ∈ gtb := by
  have e : u_ws RX6 TX6 7 = [.laysFinal "KiteBarges" "KiteBarges" "river" "LKiteBarges$River;", .laysFinal "KiteBarges" "KiteBarges" "text" "LKiteBarges$Text;", .laysFinal "KiteBarges" "KiteBarges" "fleet" "LKiteBarges$Fleet;", .laysFinal "KiteBarges" "KiteBarges" "kept" "[LKiteBarges$Fleet;", .laysFinal "KiteBarges" "KiteBarges" "isKept" "[Z", .laysFinal "KiteBarges" "KiteBarges" "planner" "LKiteBarges$Planner;", .laysFinal "KiteBarges" "KiteBarges" "lulls" "LKiteBarges$Lulls;"] := rfl
  rw [e]
  exact List.forall_mem_cons.mpr ⟨gmem 250 rfl rfl, List.forall_mem_cons.mpr ⟨gmem 252 rfl rfl, List.forall_mem_cons.mpr ⟨gmem 254 rfl rfl, List.forall_mem_cons.mpr ⟨gmem 256 rfl rfl, List.forall_mem_cons.mpr ⟨gmem 258 rfl rfl, List.forall_mem_cons.mpr ⟨gmem 260 rfl rfl, List.forall_mem_cons.mpr ⟨gmem 262 rfl rfl, fun _ h => absurd h List.not_mem_nil⟩⟩⟩⟩⟩⟩⟩
set_option maxRecDepth 40000 in
theorem inX7 : ∀ w ∈ u_ws RX7 TX7 28, w ∈ gtb := by
  have e : u_ws RX7 TX7 28 = [.lays "KiteBargesModel" "KiteBargesModel" "reaches" "I", .laysFinal "KiteBargesModel" "KiteBargesModel" "reach" "[I", .laysFinal "KiteBargesModel" "KiteBargesModel" "wind" "[I", .lays "KiteBargesModel" "KiteBargesModel" "still" "I", .lays "KiteBargesModel" "KiteBargesModel" "told" "I", .laysFinal "KiteBargesModel" "KiteBargesModel" "barge" "[I", .lays "KiteBargesModel" "KiteBargesModel" "bytes" "I", .laysFinal "KiteBargesModel" "KiteBargesModel" "text" "[I", .lays "KiteBargesModel" "KiteBargesModel" "position" "I", .lays "KiteBargesModel" "KiteBargesModel" "tokenAt" "I", .lays "KiteBargesModel" "KiteBargesModel" "token" "J", .lays "KiteBargesModel" "KiteBargesModel" "digits" "I", .lays "KiteBargesModel" "KiteBargesModel" "number" "I", .lays "KiteBargesModel" "KiteBargesModel" "faultAt" "I", .lays "KiteBargesModel" "KiteBargesModel" "readMany" "I", .lays "KiteBargesModel" "KiteBargesModel" "readReaches" "I", .laysFinal "KiteBargesModel" "KiteBargesModel" "read" "[I", .laysFinal "KiteBargesModel" "KiteBargesModel" "now" "[I", .laysFinal "KiteBargesModel" "KiteBargesModel" "image" "[I", .laysFinal "KiteBargesModel" "KiteBargesModel" "isKept" "[Z", .laysFinal "KiteBargesModel" "KiteBargesModel" "left" "[I", .lays "KiteBargesModel" "KiteBargesModel" "planHours" "I", .lays "KiteBargesModel" "KiteBargesModel" "planRun" "I", .laysFinal "KiteBargesModel" "KiteBargesModel" "planLayer" "[I", .laysFinal "KiteBargesModel" "KiteBargesModel" "planPlace" "[I", .laysFinal "KiteBargesModel" "KiteBargesModel" "otherPlace" "[I", .laysFinal "KiteBargesModel" "KiteBargesModel" "otherLayer" "[I", .laysFinal "KiteBargesModel" "KiteBargesModel" "chance" "[J"] := rfl
  rw [e]
  exact List.forall_mem_cons.mpr ⟨gmem 746 rfl rfl, List.forall_mem_cons.mpr ⟨gmem 748 rfl rfl, List.forall_mem_cons.mpr ⟨gmem 750 rfl rfl, List.forall_mem_cons.mpr ⟨gmem 752 rfl rfl, List.forall_mem_cons.mpr ⟨gmem 754 rfl rfl, List.forall_mem_cons.mpr ⟨gmem 756 rfl rfl, List.forall_mem_cons.mpr ⟨gmem 758 rfl rfl, List.forall_mem_cons.mpr ⟨gmem 760 rfl rfl, List.forall_mem_cons.mpr ⟨gmem 762 rfl rfl, List.forall_mem_cons.mpr ⟨gmem 764 rfl rfl, List.forall_mem_cons.mpr ⟨gmem 766 rfl rfl, List.forall_mem_cons.mpr ⟨gmem 768 rfl rfl, List.forall_mem_cons.mpr ⟨gmem 770 rfl rfl, List.forall_mem_cons.mpr ⟨gmem 772 rfl rfl, List.forall_mem_cons.mpr ⟨gmem 774 rfl rfl, List.forall_mem_cons.mpr ⟨gmem 776 rfl rfl, List.forall_mem_cons.mpr ⟨gmem 778 rfl rfl, List.forall_mem_cons.mpr ⟨gmem 780 rfl rfl, List.forall_mem_cons.mpr ⟨gmem 782 rfl rfl, List.forall_mem_cons.mpr ⟨gmem 784 rfl rfl, List.forall_mem_cons.mpr ⟨gmem 786 rfl rfl, List.forall_mem_cons.mpr ⟨gmem 788 rfl rfl, List.forall_mem_cons.mpr ⟨gmem 790 rfl rfl, List.forall_mem_cons.mpr ⟨gmem 792 rfl rfl, List.forall_mem_cons.mpr ⟨gmem 794 rfl rfl, List.forall_mem_cons.mpr ⟨gmem 796 rfl rfl, List.forall_mem_cons.mpr ⟨gmem 798 rfl rfl, List.forall_mem_cons.mpr ⟨gmem 800 rfl rfl, fun _ h => absurd h List.not_mem_nil⟩⟩⟩⟩⟩⟩⟩⟩⟩⟩⟩⟩⟩⟩⟩⟩⟩⟩⟩⟩⟩⟩⟩⟩⟩⟩⟩⟩
/-- what the tables say of a method that is called on an object -/
def MV (y : MethodName) (cc : ByteArray) (maxL : Nat) (ret : Option FieldType) (n : Nat) : Prop := Cond.code y cc maxL ret ∈ gtb ∧ Cond.instanceMethod y ∈ gtb ∧ Cond.selects y.cls y y ∈ gtb ∧ Cond.initialized y.cls ∈ gtb ∧ (y.cls ≠ "java/lang/invoke/MethodHandle" ∧ y.cls ≠ "java/lang/invoke/VarHandle" ∧ (parseMethodDescriptor y.desc).map (fun d => d.parameters.length) = some n)
def MS (y : MethodName) (cc : ByteArray) (maxL : Nat) (ret : Option FieldType) (n : Nat) : Prop := Cond.code y cc maxL ret ∈ gtb ∧ Cond.static y ∈ gtb ∧ Cond.initialized y.cls ∈ gtb ∧ (y.cls ≠ "java/lang/invoke/MethodHandle" ∧ y.cls ≠ "java/lang/invoke/VarHandle" ∧ (parseMethodDescriptor y.desc).map (fun d => d.parameters.length) = some n)
set_option maxRecDepth 40000 in
theorem mv_X0_begin : MV yX0_begin cX0_begin 2 (Option.none : Option Jvm.ClassFile.FieldType) 1 := ⟨gmem 411 rfl rfl, gmem 409 rfl rfl, gmem 410 rfl rfl, gmem 4 rfl rfl, ⟨by decide, by decide, by decide +kernel⟩⟩
set_option maxRecDepth 40000 in
theorem mv_X0_copyFrom : MV yX0_copyFrom cX0_copyFrom 2 (Option.none : Option Jvm.ClassFile.FieldType) 1 := ⟨gmem 517 rfl rfl, gmem 515 rfl rfl, gmem 516 rfl rfl, gmem 4 rfl rfl, ⟨by decide, by decide, by decide +kernel⟩⟩
set_option maxRecDepth 40000 in
theorem mv_X0_change : MV yX0_change cX0_change 4 (Option.some .int) 2 := ⟨gmem 477 rfl rfl, gmem 475 rfl rfl, gmem 476 rfl rfl, gmem 4 rfl rfl, ⟨by decide, by decide, by decide +kernel⟩⟩
set_option maxRecDepth 40000 in
theorem mv_X0_passHour : MV yX0_passHour cX0_passHour 5 (Option.none : Option Jvm.ClassFile.FieldType) 2 := ⟨gmem 489 rfl rfl, gmem 487 rfl rfl, gmem 488 rfl rfl, gmem 4 rfl rfl, ⟨by decide, by decide, by decide +kernel⟩⟩
set_option maxRecDepth 40000 in
theorem mv_X0_areKnotted : MV yX0_areKnotted cX0_areKnotted 3 (Option.some .boolean) 2 := ⟨gmem 506 rfl rfl, gmem 504 rfl rfl, gmem 505 rfl rfl, gmem 4 rfl rfl, ⟨by decide, by decide, by decide +kernel⟩⟩
set_option maxRecDepth 40000 in
theorem mv_X2_start : MV yX2_start cX2_start 5 (Option.none : Option Jvm.ClassFile.FieldType) 2 := ⟨gmem 595 rfl rfl, gmem 593 rfl rfl, gmem 594 rfl rfl, gmem 8 rfl rfl, ⟨by decide, by decide, by decide +kernel⟩⟩
set_option maxRecDepth 40000 in
theorem mv_X2_branch : MV yX2_branch cX2_branch 5 (Option.none : Option Jvm.ClassFile.FieldType) 3 := ⟨gmem 605 rfl rfl, gmem 603 rfl rfl, gmem 604 rfl rfl, gmem 8 rfl rfl, ⟨by decide, by decide, by decide +kernel⟩⟩
set_option maxRecDepth 40000 in
theorem mv_X2_thereAfter : MV yX2_thereAfter cX2_thereAfter 5 (Option.some .long) 1 := ⟨gmem 610 rfl rfl, gmem 608 rfl rfl, gmem 609 rfl rfl, gmem 8 rfl rfl, ⟨by decide, by decide, by decide +kernel⟩⟩
set_option maxRecDepth 40000 in
theorem mv_X2_bestBlind : MV yX2_bestBlind cX2_bestBlind 4 (Option.some .long) 3 := ⟨gmem 660 rfl rfl, gmem 658 rfl rfl, gmem 659 rfl rfl, gmem 8 rfl rfl, ⟨by decide, by decide, by decide +kernel⟩⟩
set_option maxRecDepth 40000 in
theorem mv_X2_bestRow : MV yX2_bestRow cX2_bestRow 10 (Option.some .long) 4 := ⟨gmem 665 rfl rfl, gmem 664 rfl rfl, gsel 24 rfl rfl, gmem 8 rfl rfl, ⟨by decide, by decide, by decide +kernel⟩⟩
set_option maxRecDepth 40000 in
theorem mv_X2_bestSeeing : MV yX2_bestSeeing cX2_bestSeeing 6 (Option.some .long) 3 := ⟨gmem 624 rfl rfl, gmem 622 rfl rfl, gmem 623 rfl rfl, gmem 8 rfl rfl, ⟨by decide, by decide, by decide +kernel⟩⟩
set_option maxRecDepth 40000 in
theorem mv_X2_findPlaces : MV yX2_findPlaces cX2_findPlaces 5 (Option.none : Option Jvm.ClassFile.FieldType) 2 := ⟨gmem 628 rfl rfl, gmem 627 rfl rfl, gsel 20 rfl rfl, gmem 8 rfl rfl, ⟨by decide, by decide, by decide +kernel⟩⟩
set_option maxRecDepth 40000 in
theorem mv_X2_findNext : MV yX2_findNext cX2_findNext 6 (Option.none : Option Jvm.ClassFile.FieldType) 3 := ⟨gmem 633 rfl rfl, gmem 632 rfl rfl, gsel 21 rfl rfl, gmem 8 rfl rfl, ⟨by decide, by decide, by decide +kernel⟩⟩
set_option maxRecDepth 40000 in
theorem mv_X2_valuePlace : MV yX2_valuePlace cX2_valuePlace 7 (Option.none : Option Jvm.ClassFile.FieldType) 4 := ⟨gmem 640 rfl rfl, gmem 639 rfl rfl, gsel 22 rfl rfl, gmem 8 rfl rfl, ⟨by decide, by decide, by decide +kernel⟩⟩
set_option maxRecDepth 40000 in
theorem ms_X2_greatest : MS yX2_greatest cX2_greatest 7 (Option.some .long) 3 := ⟨gmem 644 rfl rfl, gmem 643 rfl rfl, gmem 8 rfl rfl, ⟨by decide, by decide, by decide +kernel⟩⟩
set_option maxRecDepth 40000 in
theorem mv_X2_swap : MV yX2_swap cX2_swap 2 (Option.none : Option Jvm.ClassFile.FieldType) 0 := ⟨gmem 652 rfl rfl, gmem 651 rfl rfl, gsel 23 rfl rfl, gmem 8 rfl rfl, ⟨by decide, by decide, by decide +kernel⟩⟩
set_option maxRecDepth 40000 in
theorem mv_X3_forget : MV yX3_forget cX3_forget 1 (Option.none : Option Jvm.ClassFile.FieldType) 0 := ⟨gmem 416 rfl rfl, gmem 414 rfl rfl, gmem 415 rfl rfl, gmem 5 rfl rfl, ⟨by decide, by decide, by decide +kernel⟩⟩
set_option maxRecDepth 40000 in
theorem mv_X3_soonestOf : MV yX3_soonestOf cX3_soonestOf 4 (Option.some .int) 2 := ⟨gmem 532 rfl rfl, gmem 530 rfl rfl, gmem 531 rfl rfl, gmem 5 rfl rfl, ⟨by decide, by decide, by decide +kernel⟩⟩
set_option maxRecDepth 40000 in
theorem mv_X3_clearOf : MV yX3_clearOf cX3_clearOf 5 (Option.some .int) 3 := ⟨gmem 578 rfl rfl, gmem 576 rfl rfl, gmem 577 rfl rfl, gmem 5 rfl rfl, ⟨by decide, by decide, by decide +kernel⟩⟩
set_option maxRecDepth 40000 in
theorem mv_X3_answerOf : MV yX3_answerOf cX3_answerOf 4 (Option.some .int) 2 := ⟨gmem 566 rfl rfl, gmem 564 rfl rfl, gmem 565 rfl rfl, gmem 5 rfl rfl, ⟨by decide, by decide, by decide +kernel⟩⟩
set_option maxRecDepth 40000 in
theorem mv_X3_layerKept : MV yX3_layerKept cX3_layerKept 4 (Option.some .int) 2 := ⟨gmem 601 rfl rfl, gmem 599 rfl rfl, gmem 600 rfl rfl, gmem 5 rfl rfl, ⟨by decide, by decide, by decide +kernel⟩⟩
set_option maxRecDepth 40000 in
theorem mv_X3_hourIn : MV yX3_hourIn cX3_hourIn 7 (Option.some .int) 4 := ⟨gmem 679 rfl rfl, gmem 677 rfl rfl, gmem 678 rfl rfl, gmem 5 rfl rfl, ⟨by decide, by decide, by decide +kernel⟩⟩
set_option maxRecDepth 40000 in
theorem mv_X3_layerIn : MV yX3_layerIn cX3_layerIn 6 (Option.some .int) 2 := ⟨gmem 570 rfl rfl, gmem 569 rfl rfl, gsel 17 rfl rfl, gmem 5 rfl rfl, ⟨by decide, by decide, by decide +kernel⟩⟩
set_option maxRecDepth 40000 in
theorem mv_X3_draw : MV yX3_draw cX3_draw 5 (Option.none : Option Jvm.ClassFile.FieldType) 2 := ⟨gmem 582 rfl rfl, gmem 581 rfl rfl, gsel 18 rfl rfl, gmem 5 rfl rfl, ⟨by decide, by decide, by decide +kernel⟩⟩
set_option maxRecDepth 40000 in
theorem mv_X3_search : MV yX3_search cX3_search 7 (Option.none : Option Jvm.ClassFile.FieldType) 4 := ⟨gmem 536 rfl rfl, gmem 535 rfl rfl, gsel 12 rfl rfl, gmem 5 rfl rfl, ⟨by decide, by decide, by decide +kernel⟩⟩
set_option maxRecDepth 40000 in
theorem mv_X3_spread : MV yX3_spread cX3_spread 12 (Option.none : Option Jvm.ClassFile.FieldType) 4 := ⟨gmem 545 rfl rfl, gmem 544 rfl rfl, gsel 14 rfl rfl, gmem 5 rfl rfl, ⟨by decide, by decide, by decide +kernel⟩⟩
set_option maxRecDepth 40000 in
theorem mv_X3_offer : MV yX3_offer cX3_offer 6 (Option.none : Option Jvm.ClassFile.FieldType) 3 := ⟨gmem 558 rfl rfl, gmem 557 rfl rfl, gsel 15 rfl rfl, gmem 5 rfl rfl, ⟨by decide, by decide, by decide +kernel⟩⟩
set_option maxRecDepth 40000 in
theorem mv_X3_swap : MV yX3_swap cX3_swap 3 (Option.none : Option Jvm.ClassFile.FieldType) 0 := ⟨gmem 562 rfl rfl, gmem 561 rfl rfl, gsel 16 rfl rfl, gmem 5 rfl rfl, ⟨by decide, by decide, by decide +kernel⟩⟩
set_option maxRecDepth 40000 in
theorem mv_X3_settle : MV yX3_settle cX3_settle 6 (Option.some .boolean) 2 := ⟨gmem 541 rfl rfl, gmem 540 rfl rfl, gsel 13 rfl rfl, gmem 5 rfl rfl, ⟨by decide, by decide, by decide +kernel⟩⟩
set_option maxRecDepth 40000 in
theorem mv_X4_hasReach : MV yX4_hasReach cX4_hasReach 2 (Option.some .boolean) 1 := ⟨gmem 424 rfl rfl, gmem 422 rfl rfl, gmem 423 rfl rfl, gmem 2 rfl rfl, ⟨by decide, by decide, by decide +kernel⟩⟩
set_option maxRecDepth 40000 in
theorem mv_X4_hasBarge : MV yX4_hasBarge cX4_hasBarge 2 (Option.some .boolean) 1 := ⟨gmem 442 rfl rfl, gmem 440 rfl rfl, gmem 441 rfl rfl, gmem 2 rfl rfl, ⟨by decide, by decide, by decide +kernel⟩⟩
set_option maxRecDepth 40000 in
theorem mv_X4_cordOf : MV yX4_cordOf cX4_cordOf 2 (Option.some .int) 1 := ⟨gmem 446 rfl rfl, gmem 444 rfl rfl, gmem 445 rfl rfl, gmem 2 rfl rfl, ⟨by decide, by decide, by decide +kernel⟩⟩
set_option maxRecDepth 40000 in
theorem mv_X4_begin : MV yX4_begin cX4_begin 1 (Option.some .int) 0 := ⟨gmem 407 rfl rfl, gmem 405 rfl rfl, gmem 406 rfl rfl, gmem 2 rfl rfl, ⟨by decide, by decide, by decide +kernel⟩⟩
set_option maxRecDepth 40000 in
theorem mv_X4_toldBits : MV yX4_toldBits cX4_toldBits 3 (Option.some .int) 0 := ⟨gmem 699 rfl rfl, gmem 697 rfl rfl, gmem 698 rfl rfl, gmem 2 rfl rfl, ⟨by decide, by decide, by decide +kernel⟩⟩
set_option maxRecDepth 40000 in
theorem mv_X4_wholeLength : MV yX4_wholeLength cX4_wholeLength 3 (Option.some .int) 0 := ⟨gmem 703 rfl rfl, gmem 701 rfl rfl, gmem 702 rfl rfl, gmem 2 rfl rfl, ⟨by decide, by decide, by decide +kernel⟩⟩
set_option maxRecDepth 40000 in
theorem mv_X4_tell : MV yX4_tell cX4_tell 3 (Option.none : Option Jvm.ClassFile.FieldType) 2 := ⟨gmem 386 rfl rfl, gmem 384 rfl rfl, gmem 385 rfl rfl, gmem 2 rfl rfl, ⟨by decide, by decide, by decide +kernel⟩⟩
set_option maxRecDepth 40000 in
theorem mv_X4_addReach : MV yX4_addReach cX4_addReach 4 (Option.none : Option Jvm.ClassFile.FieldType) 3 := ⟨gmem 398 rfl rfl, gmem 397 rfl rfl, gsel 11 rfl rfl, gmem 2 rfl rfl, ⟨by decide, by decide, by decide +kernel⟩⟩
set_option maxRecDepth 40000 in
theorem mv_X4_tellWind : MV yX4_tellWind cX4_tellWind 3 (Option.none : Option Jvm.ClassFile.FieldType) 1 := ⟨gmem 390 rfl rfl, gmem 389 rfl rfl, gsel 9 rfl rfl, gmem 2 rfl rfl, ⟨by decide, by decide, by decide +kernel⟩⟩
set_option maxRecDepth 40000 in
theorem mv_X4_tellBarge : MV yX4_tellBarge cX4_tellBarge 3 (Option.none : Option Jvm.ClassFile.FieldType) 1 := ⟨gmem 394 rfl rfl, gmem 393 rfl rfl, gsel 10 rfl rfl, gmem 2 rfl rfl, ⟨by decide, by decide, by decide +kernel⟩⟩
set_option maxRecDepth 40000 in
theorem ms_X4_pulled : MS yX4_pulled cX4_pulled 5 (Option.some .int) 3 := ⟨gmem 453 rfl rfl, gmem 452 rfl rfl, gmem 2 rfl rfl, ⟨by decide, by decide, by decide +kernel⟩⟩
set_option maxRecDepth 40000 in
theorem mv_X4_stepOf : MV yX4_stepOf cX4_stepOf 6 (Option.some .int) 4 := ⟨gmem 465 rfl rfl, gmem 463 rfl rfl, gmem 464 rfl rfl, gmem 2 rfl rfl, ⟨by decide, by decide, by decide +kernel⟩⟩
set_option maxRecDepth 40000 in
theorem mv_X4_moved : MV yX4_moved cX4_moved 7 (Option.some .int) 4 := ⟨gmem 493 rfl rfl, gmem 491 rfl rfl, gmem 492 rfl rfl, gmem 2 rfl rfl, ⟨by decide, by decide, by decide +kernel⟩⟩
set_option maxRecDepth 40000 in
theorem mv_X5_append : MV yX5_append cX5_append 5 (Option.some .boolean) 2 := ⟨gmem 272 rfl rfl, gmem 270 rfl rfl, gmem 271 rfl rfl, gmem 3 rfl rfl, ⟨by decide, by decide, by decide +kernel⟩⟩
set_option maxRecDepth 40000 in
theorem mv_X5_read : MV yX5_read cX5_read 4 (Option.some .int) 2 := ⟨gmem 285 rfl rfl, gmem 283 rfl rfl, gmem 284 rfl rfl, gmem 3 rfl rfl, ⟨by decide, by decide, by decide +kernel⟩⟩
set_option maxRecDepth 40000 in
theorem mv_X5_readLine : MV yX5_readLine cX5_readLine 1 (Option.some .boolean) 0 := ⟨gmem 289 rfl rfl, gmem 288 rfl rfl, gsel 0 rfl rfl, gmem 3 rfl rfl, ⟨by decide, by decide, by decide +kernel⟩⟩
set_option maxRecDepth 40000 in
theorem mv_X5_wordOfLine : MV yX5_wordOfLine cX5_wordOfLine 1 (Option.some .int) 0 := ⟨gmem 301 rfl rfl, gmem 300 rfl rfl, gsel 3 rfl rfl, gmem 3 rfl rfl, ⟨by decide, by decide, by decide +kernel⟩⟩
set_option maxRecDepth 40000 in
theorem mv_X5_kiteOfToken : MV yX5_kiteOfToken cX5_kiteOfToken 1 (Option.some .int) 0 := ⟨gmem 377 rfl rfl, gmem 376 rfl rfl, gsel 8 rfl rfl, gmem 3 rfl rfl, ⟨by decide, by decide, by decide +kernel⟩⟩
set_option maxRecDepth 40000 in
theorem mv_X5_readKite : MV yX5_readKite cX5_readKite 2 (Option.some .boolean) 0 := ⟨gmem 373 rfl rfl, gmem 372 rfl rfl, gsel 7 rfl rfl, gmem 3 rfl rfl, ⟨by decide, by decide, by decide +kernel⟩⟩
set_option maxRecDepth 40000 in
theorem mv_X5_readNumber : MV yX5_readNumber cX5_readNumber 5 (Option.some .boolean) 2 := ⟨gmem 365 rfl rfl, gmem 364 rfl rfl, gsel 5 rfl rfl, gmem 3 rfl rfl, ⟨by decide, by decide, by decide +kernel⟩⟩
set_option maxRecDepth 40000 in
theorem mv_X5_addNumber : MV yX5_addNumber cX5_addNumber 2 (Option.some .boolean) 1 := ⟨gmem 369 rfl rfl, gmem 368 rfl rfl, gsel 6 rfl rfl, gmem 3 rfl rfl, ⟨by decide, by decide, by decide +kernel⟩⟩
set_option maxRecDepth 40000 in
theorem mv_X5_readToken : MV yX5_readToken cX5_readToken 1 (Option.none : Option Jvm.ClassFile.FieldType) 0 := ⟨gmem 293 rfl rfl, gmem 292 rfl rfl, gsel 1 rfl rfl, gmem 3 rfl rfl, ⟨by decide, by decide, by decide +kernel⟩⟩
set_option maxRecDepth 40000 in
theorem mv_X5_kindAt : MV yX5_kindAt cX5_kindAt 2 (Option.some .int) 1 := ⟨gmem 297 rfl rfl, gmem 296 rfl rfl, gsel 2 rfl rfl, gmem 3 rfl rfl, ⟨by decide, by decide, by decide +kernel⟩⟩
set_option maxRecDepth 40000 in
theorem mv_X5_tokenIs : MV yX5_tokenIs cX5_tokenIs 3 (Option.some .boolean) 1 := ⟨gmem 306 rfl rfl, gmem 305 rfl rfl, gsel 4 rfl rfl, gmem 3 rfl rfl, ⟨by decide, by decide, by decide +kernel⟩⟩
set_option maxRecDepth 40000 in
theorem mv_X6_write : MV yX6_write cX6_write 4 (Option.some .int) 2 := ⟨gmem 268 rfl rfl, gmem 266 rfl rfl, gmem 267 rfl rfl, gmem 1 rfl rfl, ⟨by decide, by decide, by decide +kernel⟩⟩
set_option maxRecDepth 40000 in
theorem mv_X6_erase : MV yX6_erase cX6_erase 2 (Option.some .int) 0 := ⟨gmem 277 rfl rfl, gmem 275 rfl rfl, gmem 276 rfl rfl, gmem 1 rfl rfl, ⟨by decide, by decide, by decide +kernel⟩⟩
set_option maxRecDepth 40000 in
theorem mv_X6_fault : MV yX6_fault cX6_fault 1 (Option.some .int) 0 := ⟨gmem 281 rfl rfl, gmem 279 rfl rfl, gmem 280 rfl rfl, gmem 1 rfl rfl, ⟨by decide, by decide, by decide +kernel⟩⟩
set_option maxRecDepth 40000 in
theorem mv_X6_river : MV yX6_river cX6_river 2 (Option.some .int) 0 := ⟨gmem 403 rfl rfl, gmem 401 rfl rfl, gmem 402 rfl rfl, gmem 1 rfl rfl, ⟨by decide, by decide, by decide +kernel⟩⟩
set_option maxRecDepth 40000 in
theorem mv_X6_reach : MV yX6_reach cX6_reach 3 (Option.some .int) 2 := ⟨gmem 420 rfl rfl, gmem 418 rfl rfl, gmem 419 rfl rfl, gmem 1 rfl rfl, ⟨by decide, by decide, by decide +kernel⟩⟩
set_option maxRecDepth 40000 in
theorem mv_X6_wind : MV yX6_wind cX6_wind 4 (Option.some .int) 3 := ⟨gmem 428 rfl rfl, gmem 426 rfl rfl, gmem 427 rfl rfl, gmem 1 rfl rfl, ⟨by decide, by decide, by decide +kernel⟩⟩
set_option maxRecDepth 40000 in
theorem mv_X6_barge : MV yX6_barge cX6_barge 3 (Option.some .int) 2 := ⟨gmem 438 rfl rfl, gmem 436 rfl rfl, gmem 437 rfl rfl, gmem 1 rfl rfl, ⟨by decide, by decide, by decide +kernel⟩⟩
set_option maxRecDepth 40000 in
theorem mv_X6_as : MV yX6_as cX6_as 5 (Option.some .int) 2 := ⟨gmem 450 rfl rfl, gmem 448 rfl rfl, gmem 449 rfl rfl, gmem 1 rfl rfl, ⟨by decide, by decide, by decide +kernel⟩⟩
set_option maxRecDepth 40000 in
theorem mv_X6_yards : MV yX6_yards cX6_yards 5 (Option.some .int) 4 := ⟨gmem 461 rfl rfl, gmem 459 rfl rfl, gmem 460 rfl rfl, gmem 1 rfl rfl, ⟨by decide, by decide, by decide +kernel⟩⟩
set_option maxRecDepth 40000 in
theorem mv_X6_cord : MV yX6_cord cX6_cord 3 (Option.some .int) 2 := ⟨gmem 470 rfl rfl, gmem 468 rfl rfl, gmem 469 rfl rfl, gmem 1 rfl rfl, ⟨by decide, by decide, by decide +kernel⟩⟩
set_option maxRecDepth 40000 in
theorem mv_X6_go : MV yX6_go cX6_go 4 (Option.some .int) 1 := ⟨gmem 482 rfl rfl, gmem 480 rfl rfl, gmem 481 rfl rfl, gmem 1 rfl rfl, ⟨by decide, by decide, by decide +kernel⟩⟩
set_option maxRecDepth 40000 in
theorem mv_X6_at : MV yX6_at cX6_at 4 (Option.some .int) 2 := ⟨gmem 498 rfl rfl, gmem 496 rfl rfl, gmem 497 rfl rfl, gmem 1 rfl rfl, ⟨by decide, by decide, by decide +kernel⟩⟩
set_option maxRecDepth 40000 in
theorem mv_X6_knots : MV yX6_knots cX6_knots 4 (Option.some .int) 1 := ⟨gmem 502 rfl rfl, gmem 500 rfl rfl, gmem 501 rfl rfl, gmem 1 rfl rfl, ⟨by decide, by decide, by decide +kernel⟩⟩
set_option maxRecDepth 40000 in
theorem mv_X6_keep : MV yX6_keep cX6_keep 2 (Option.some .int) 1 := ⟨gmem 513 rfl rfl, gmem 511 rfl rfl, gmem 512 rfl rfl, gmem 1 rfl rfl, ⟨by decide, by decide, by decide +kernel⟩⟩
set_option maxRecDepth 40000 in
theorem mv_X6_back : MV yX6_back cX6_back 2 (Option.some .int) 1 := ⟨gmem 524 rfl rfl, gmem 522 rfl rfl, gmem 523 rfl rfl, gmem 1 rfl rfl, ⟨by decide, by decide, by decide +kernel⟩⟩
set_option maxRecDepth 40000 in
theorem mv_X6_soonest : MV yX6_soonest cX6_soonest 4 (Option.some .int) 3 := ⟨gmem 528 rfl rfl, gmem 526 rfl rfl, gmem 527 rfl rfl, gmem 1 rfl rfl, ⟨by decide, by decide, by decide +kernel⟩⟩
set_option maxRecDepth 40000 in
theorem mv_X6_clear : MV yX6_clear cX6_clear 5 (Option.some .int) 3 := ⟨gmem 574 rfl rfl, gmem 572 rfl rfl, gmem 573 rfl rfl, gmem 1 rfl rfl, ⟨by decide, by decide, by decide +kernel⟩⟩
set_option maxRecDepth 40000 in
theorem mv_X6_odds : MV yX6_odds cX6_odds 8 (Option.some .long) 4 := ⟨gmem 586 rfl rfl, gmem 584 rfl rfl, gmem 585 rfl rfl, gmem 1 rfl rfl, ⟨by decide, by decide, by decide +kernel⟩⟩
set_option maxRecDepth 40000 in
theorem mv_X6_sight : MV yX6_sight cX6_sight 6 (Option.some .long) 4 := ⟨gmem 620 rfl rfl, gmem 618 rfl rfl, gmem 619 rfl rfl, gmem 1 rfl rfl, ⟨by decide, by decide, by decide +kernel⟩⟩
set_option maxRecDepth 40000 in
theorem mv_X6_blind : MV yX6_blind cX6_blind 6 (Option.some .long) 4 := ⟨gmem 656 rfl rfl, gmem 654 rfl rfl, gmem 655 rfl rfl, gmem 1 rfl rfl, ⟨by decide, by decide, by decide +kernel⟩⟩
set_option maxRecDepth 40000 in
theorem mv_X6_worth : MV yX6_worth cX6_worth 6 (Option.some .long) 4 := ⟨gmem 671 rfl rfl, gmem 669 rfl rfl, gmem 670 rfl rfl, gmem 1 rfl rfl, ⟨by decide, by decide, by decide +kernel⟩⟩
set_option maxRecDepth 40000 in
theorem mv_X6_found : MV yX6_found cX6_found 5 (Option.some .int) 2 := ⟨gmem 675 rfl rfl, gmem 673 rfl rfl, gmem 674 rfl rfl, gmem 1 rfl rfl, ⟨by decide, by decide, by decide +kernel⟩⟩
set_option maxRecDepth 40000 in
theorem mv_X6_first : MV yX6_first cX6_first 4 (Option.some .int) 3 := ⟨gmem 683 rfl rfl, gmem 681 rfl rfl, gmem 682 rfl rfl, gmem 1 rfl rfl, ⟨by decide, by decide, by decide +kernel⟩⟩
set_option maxRecDepth 40000 in
theorem mv_X6_books : MV yX6_books cX6_books 4 (Option.some .int) 2 := ⟨gmem 687 rfl rfl, gmem 685 rfl rfl, gmem 686 rfl rfl, gmem 1 rfl rfl, ⟨by decide, by decide, by decide +kernel⟩⟩
set_option maxRecDepth 40000 in
theorem mv_X6_count : MV yX6_count cX6_count 2 (Option.some .int) 1 := ⟨gmem 695 rfl rfl, gmem 693 rfl rfl, gmem 694 rfl rfl, gmem 1 rfl rfl, ⟨by decide, by decide, by decide +kernel⟩⟩
set_option maxRecDepth 40000 in
theorem ms_X6_isLayer : MS yX6_isLayer cX6_isLayer 1 (Option.some .boolean) 1 := ⟨gmem 431 rfl rfl, gmem 430 rfl rfl, gmem 1 rfl rfl, ⟨by decide, by decide, by decide +kernel⟩⟩
set_option maxRecDepth 40000 in
theorem ms_X6_isHour : MS yX6_isHour cX6_isHour 1 (Option.some .boolean) 1 := ⟨gmem 434 rfl rfl, gmem 433 rfl rfl, gmem 1 rfl rfl, ⟨by decide, by decide, by decide +kernel⟩⟩
set_option maxRecDepth 40000 in
theorem ms_X6_isKnot : MS yX6_isKnot cX6_isKnot 4 (Option.some .boolean) 4 := ⟨gmem 509 rfl rfl, gmem 508 rfl rfl, gmem 1 rfl rfl, ⟨by decide, by decide, by decide +kernel⟩⟩
set_option maxRecDepth 40000 in
theorem mv_X6_oddsRefused : MV yX6_oddsRefused cX6_oddsRefused 7 (Option.some .int) 5 := ⟨gmem 590 rfl rfl, gmem 589 rfl rfl, gsel 19 rfl rfl, gmem 1 rfl rfl, ⟨by decide, by decide, by decide +kernel⟩⟩
set_option maxRecDepth 40000 in
theorem ms_X6_lowestTerms : MS yX6_lowestTerms cX6_lowestTerms 9 (Option.some .long) 3 := ⟨gmem 613 rfl rfl, gmem 612 rfl rfl, gmem 1 rfl rfl, ⟨by decide, by decide, by decide +kernel⟩⟩
set_option maxRecDepth 40000 in
theorem mv_X6_passages : MV yX6_passages cX6_passages 6 (Option.some .int) 1 := ⟨gmem 691 rfl rfl, gmem 690 rfl rfl, gsel 25 rfl rfl, gmem 1 rfl rfl, ⟨by decide, by decide, by decide +kernel⟩⟩
set_option maxRecDepth 40000 in
theorem ms_X7_in : MS yX7_in cX7_in 3 (Option.some .boolean) 3 := ⟨gmem 809 rfl rfl, gmem 808 rfl rfl, gmem 9 rfl rfl, ⟨by decide, by decide, by decide +kernel⟩⟩
set_option maxRecDepth 40000 in
theorem ms_X7_has : MS yX7_has cX7_has 2 (Option.some .boolean) 2 := ⟨gmem 906 rfl rfl, gmem 905 rfl rfl, gmem 9 rfl rfl, ⟨by decide, by decide, by decide +kernel⟩⟩
set_option maxRecDepth 40000 in
theorem ms_X7_off : MS yX7_off cX7_off 2 (Option.some .int) 2 := ⟨gmem 928 rfl rfl, gmem 927 rfl rfl, gmem 9 rfl rfl, ⟨by decide, by decide, by decide +kernel⟩⟩
set_option maxRecDepth 40000 in
theorem mv_X7_isBarge : MV yX7_isBarge cX7_isBarge 2 (Option.some .boolean) 1 := ⟨gmem 903 rfl rfl, gmem 902 rfl rfl, gsel 38 rfl rfl, gmem 9 rfl rfl, ⟨by decide, by decide, by decide +kernel⟩⟩
set_option maxRecDepth 40000 in
theorem mv_X7_write : MV yX7_write cX7_write 5 (Option.some .int) 2 := ⟨gmem 806 rfl rfl, gmem 804 rfl rfl, gmem 805 rfl rfl, gmem 9 rfl rfl, ⟨by decide, by decide, by decide +kernel⟩⟩
set_option maxRecDepth 40000 in
theorem mv_X7_erase : MV yX7_erase cX7_erase 2 (Option.some .int) 0 := ⟨gmem 814 rfl rfl, gmem 812 rfl rfl, gmem 813 rfl rfl, gmem 9 rfl rfl, ⟨by decide, by decide, by decide +kernel⟩⟩
set_option maxRecDepth 40000 in
theorem mv_X7_nextToken : MV yX7_nextToken cX7_nextToken 1 (Option.none : Option Jvm.ClassFile.FieldType) 0 := ⟨gmem 830 rfl rfl, gmem 829 rfl rfl, gsel 30 rfl rfl, gmem 9 rfl rfl, ⟨by decide, by decide, by decide +kernel⟩⟩
set_option maxRecDepth 40000 in
theorem mv_X7_fails : MV yX7_fails cX7_fails 1 (Option.some .boolean) 0 := ⟨gmem 852 rfl rfl, gmem 851 rfl rfl, gsel 32 rfl rfl, gmem 9 rfl rfl, ⟨by decide, by decide, by decide +kernel⟩⟩
set_option maxRecDepth 40000 in
theorem mv_X7_isNumber : MV yX7_isNumber cX7_isNumber 4 (Option.some .boolean) 3 := ⟨gmem 856 rfl rfl, gmem 855 rfl rfl, gsel 33 rfl rfl, gmem 9 rfl rfl, ⟨by decide, by decide, by decide +kernel⟩⟩
set_option maxRecDepth 40000 in
theorem mv_X7_isKite : MV yX7_isKite cX7_isKite 3 (Option.some .boolean) 1 := ⟨gmem 864 rfl rfl, gmem 863 rfl rfl, gsel 35 rfl rfl, gmem 9 rfl rfl, ⟨by decide, by decide, by decide +kernel⟩⟩
set_option maxRecDepth 40000 in
theorem mv_X7_isReachLine : MV yX7_isReachLine cX7_isReachLine 2 (Option.some .boolean) 1 := ⟨gmem 848 rfl rfl, gmem 847 rfl rfl, gsel 31 rfl rfl, gmem 9 rfl rfl, ⟨by decide, by decide, by decide +kernel⟩⟩
set_option maxRecDepth 40000 in
theorem mv_X7_isWind : MV yX7_isWind cX7_isWind 2 (Option.some .boolean) 1 := ⟨gmem 860 rfl rfl, gmem 859 rfl rfl, gsel 34 rfl rfl, gmem 9 rfl rfl, ⟨by decide, by decide, by decide +kernel⟩⟩
set_option maxRecDepth 40000 in
theorem mv_X7_isLine : MV yX7_isLine cX7_isLine 4 (Option.some .boolean) 1 := ⟨gmem 826 rfl rfl, gmem 825 rfl rfl, gsel 29 rfl rfl, gmem 9 rfl rfl, ⟨by decide, by decide, by decide +kernel⟩⟩
set_option maxRecDepth 40000 in
theorem mv_X7_isRead : MV yX7_isRead cX7_isRead 2 (Option.some .boolean) 0 := ⟨gmem 822 rfl rfl, gmem 821 rfl rfl, gsel 28 rfl rfl, gmem 9 rfl rfl, ⟨by decide, by decide, by decide +kernel⟩⟩
set_option maxRecDepth 40000 in
theorem mv_X7_fault : MV yX7_fault cX7_fault 1 (Option.some .int) 0 := ⟨gmem 818 rfl rfl, gmem 816 rfl rfl, gmem 817 rfl rfl, gmem 9 rfl rfl, ⟨by decide, by decide, by decide +kernel⟩⟩
set_option maxRecDepth 40000 in
theorem mv_X7_doLine : MV yX7_doLine cX7_doLine 4 (Option.none : Option Jvm.ClassFile.FieldType) 1 := ⟨gmem 877 rfl rfl, gmem 876 rfl rfl, gsel 36 rfl rfl, gmem 9 rfl rfl, ⟨by decide, by decide, by decide +kernel⟩⟩
set_option maxRecDepth 40000 in
theorem mv_X7_start : MV yX7_start cX7_start 1 (Option.some .int) 0 := ⟨gmem 717 rfl rfl, gmem 716 rfl rfl, gsel 27 rfl rfl, gmem 9 rfl rfl, ⟨by decide, by decide, by decide +kernel⟩⟩
set_option maxRecDepth 40000 in
theorem mv_X7_begin : MV yX7_begin cX7_begin 2 (Option.none : Option Jvm.ClassFile.FieldType) 0 := ⟨gmem 713 rfl rfl, gmem 712 rfl rfl, gsel 26 rfl rfl, gmem 9 rfl rfl, ⟨by decide, by decide, by decide +kernel⟩⟩
set_option maxRecDepth 40000 in
theorem mv_X7_river : MV yX7_river cX7_river 2 (Option.some .int) 0 := ⟨gmem 873 rfl rfl, gmem 871 rfl rfl, gmem 872 rfl rfl, gmem 9 rfl rfl, ⟨by decide, by decide, by decide +kernel⟩⟩
set_option maxRecDepth 40000 in
theorem mv_X7_isReach : MV yX7_isReach cX7_isReach 2 (Option.some .boolean) 1 := ⟨gmem 885 rfl rfl, gmem 884 rfl rfl, gsel 37 rfl rfl, gmem 9 rfl rfl, ⟨by decide, by decide, by decide +kernel⟩⟩
set_option maxRecDepth 40000 in
theorem ms_X7_isLayer : MS yX7_isLayer cX7_isLayer 1 (Option.some .boolean) 1 := ⟨gmem 892 rfl rfl, gmem 891 rfl rfl, gmem 9 rfl rfl, ⟨by decide, by decide, by decide +kernel⟩⟩
set_option maxRecDepth 40000 in
theorem ms_X7_isHour : MS yX7_isHour cX7_isHour 1 (Option.some .boolean) 1 := ⟨gmem 895 rfl rfl, gmem 894 rfl rfl, gmem 9 rfl rfl, ⟨by decide, by decide, by decide +kernel⟩⟩
set_option maxRecDepth 40000 in
theorem mv_X7_reach : MV yX7_reach cX7_reach 3 (Option.some .int) 2 := ⟨gmem 881 rfl rfl, gmem 879 rfl rfl, gmem 880 rfl rfl, gmem 9 rfl rfl, ⟨by decide, by decide, by decide +kernel⟩⟩
set_option maxRecDepth 40000 in
theorem mv_X7_wind : MV yX7_wind cX7_wind 4 (Option.some .int) 3 := ⟨gmem 889 rfl rfl, gmem 887 rfl rfl, gmem 888 rfl rfl, gmem 9 rfl rfl, ⟨by decide, by decide, by decide +kernel⟩⟩
set_option maxRecDepth 40000 in
theorem mv_X7_cordOf : MV yX7_cordOf cX7_cordOf 2 (Option.some .int) 1 := ⟨gmem 910 rfl rfl, gmem 909 rfl rfl, gsel 39 rfl rfl, gmem 9 rfl rfl, ⟨by decide, by decide, by decide +kernel⟩⟩
set_option maxRecDepth 40000 in
theorem mv_X7_barge : MV yX7_barge cX7_barge 3 (Option.some .int) 2 := ⟨gmem 899 rfl rfl, gmem 897 rfl rfl, gmem 898 rfl rfl, gmem 9 rfl rfl, ⟨by decide, by decide, by decide +kernel⟩⟩
set_option maxRecDepth 40000 in
theorem ms_X7_pull : MS yX7_pull cX7_pull 4 (Option.some .int) 3 := ⟨gmem 917 rfl rfl, gmem 916 rfl rfl, gmem 9 rfl rfl, ⟨by decide, by decide, by decide +kernel⟩⟩
set_option maxRecDepth 40000 in
theorem mv_X7_as : MV yX7_as cX7_as 5 (Option.some .int) 2 := ⟨gmem 914 rfl rfl, gmem 912 rfl rfl, gmem 913 rfl rfl, gmem 9 rfl rfl, ⟨by decide, by decide, by decide +kernel⟩⟩
set_option maxRecDepth 40000 in
theorem mv_X7_yardsOf : MV yX7_yardsOf cX7_yardsOf 6 (Option.some .int) 4 := ⟨gmem 925 rfl rfl, gmem 924 rfl rfl, gsel 40 rfl rfl, gmem 9 rfl rfl, ⟨by decide, by decide, by decide +kernel⟩⟩
set_option maxRecDepth 40000 in
theorem mv_X7_yards : MV yX7_yards cX7_yards 5 (Option.some .int) 4 := ⟨gmem 921 rfl rfl, gmem 919 rfl rfl, gmem 920 rfl rfl, gmem 9 rfl rfl, ⟨by decide, by decide, by decide +kernel⟩⟩
set_option maxRecDepth 40000 in
theorem mv_X7_goes : MV yX7_goes cX7_goes 7 (Option.some .int) 4 := ⟨gmem 940 rfl rfl, gmem 939 rfl rfl, gsel 41 rfl rfl, gmem 9 rfl rfl, ⟨by decide, by decide, by decide +kernel⟩⟩
set_option maxRecDepth 40000 in
theorem mv_X7_cord : MV yX7_cord cX7_cord 4 (Option.some .int) 2 := ⟨gmem 932 rfl rfl, gmem 930 rfl rfl, gmem 931 rfl rfl, gmem 9 rfl rfl, ⟨by decide, by decide, by decide +kernel⟩⟩
set_option maxRecDepth 40000 in
theorem mv_X7_go : MV yX7_go cX7_go 6 (Option.some .int) 1 := ⟨gmem 936 rfl rfl, gmem 934 rfl rfl, gmem 935 rfl rfl, gmem 9 rfl rfl, ⟨by decide, by decide, by decide +kernel⟩⟩
set_option maxRecDepth 40000 in
theorem mv_X7_at : MV yX7_at cX7_at 3 (Option.some .int) 2 := ⟨gmem 944 rfl rfl, gmem 942 rfl rfl, gmem 943 rfl rfl, gmem 9 rfl rfl, ⟨by decide, by decide, by decide +kernel⟩⟩
set_option maxRecDepth 40000 in
theorem ms_X7_isKnot : MS yX7_isKnot cX7_isKnot 4 (Option.some .boolean) 4 := ⟨gmem 951 rfl rfl, gmem 950 rfl rfl, gmem 9 rfl rfl, ⟨by decide, by decide, by decide +kernel⟩⟩
set_option maxRecDepth 40000 in
theorem mv_X7_knots : MV yX7_knots cX7_knots 4 (Option.some .int) 1 := ⟨gmem 948 rfl rfl, gmem 946 rfl rfl, gmem 947 rfl rfl, gmem 9 rfl rfl, ⟨by decide, by decide, by decide +kernel⟩⟩
set_option maxRecDepth 40000 in
theorem mv_X7_keep : MV yX7_keep cX7_keep 3 (Option.some .int) 1 := ⟨gmem 955 rfl rfl, gmem 953 rfl rfl, gmem 954 rfl rfl, gmem 9 rfl rfl, ⟨by decide, by decide, by decide +kernel⟩⟩
set_option maxRecDepth 40000 in
theorem mv_X7_back : MV yX7_back cX7_back 3 (Option.some .int) 1 := ⟨gmem 959 rfl rfl, gmem 957 rfl rfl, gmem 958 rfl rfl, gmem 9 rfl rfl, ⟨by decide, by decide, by decide +kernel⟩⟩
set_option maxRecDepth 40000 in
theorem mv_X7_isPlace : MV yX7_isPlace cX7_isPlace 2 (Option.some .boolean) 1 := ⟨gmem 984 rfl rfl, gmem 983 rfl rfl, gsel 46 rfl rfl, gmem 9 rfl rfl, ⟨by decide, by decide, by decide +kernel⟩⟩
set_option maxRecDepth 40000 in
theorem mv_X7_through : MV yX7_through cX7_through 8 (Option.some .int) 5 := ⟨gmem 988 rfl rfl, gmem 987 rfl rfl, gsel 47 rfl rfl, gmem 9 rfl rfl, ⟨by decide, by decide, by decide +kernel⟩⟩
set_option maxRecDepth 40000 in
theorem mv_X7_layLeft : MV yX7_layLeft cX7_layLeft 9 (Option.none : Option Jvm.ClassFile.FieldType) 2 := ⟨gmem 979 rfl rfl, gmem 978 rfl rfl, gsel 45 rfl rfl, gmem 9 rfl rfl, ⟨by decide, by decide, by decide +kernel⟩⟩
set_option maxRecDepth 40000 in
theorem mv_X7_noOther : MV yX7_noOther cX7_noOther 2 (Option.none : Option Jvm.ClassFile.FieldType) 0 := ⟨gmem 971 rfl rfl, gmem 970 rfl rfl, gsel 43 rfl rfl, gmem 9 rfl rfl, ⟨by decide, by decide, by decide +kernel⟩⟩
set_option maxRecDepth 40000 in
theorem mv_X7_findPlan : MV yX7_findPlan cX7_findPlan 9 (Option.some .boolean) 2 := ⟨gmem 975 rfl rfl, gmem 974 rfl rfl, gsel 44 rfl rfl, gmem 9 rfl rfl, ⟨by decide, by decide, by decide +kernel⟩⟩
set_option maxRecDepth 40000 in
theorem mv_X7_isSoonest : MV yX7_isSoonest cX7_isSoonest 3 (Option.some .boolean) 2 := ⟨gmem 967 rfl rfl, gmem 966 rfl rfl, gsel 42 rfl rfl, gmem 9 rfl rfl, ⟨by decide, by decide, by decide +kernel⟩⟩
set_option maxRecDepth 40000 in
theorem mv_X7_tell : MV yX7_tell cX7_tell 3 (Option.some .int) 2 := ⟨gmem 992 rfl rfl, gmem 991 rfl rfl, gsel 48 rfl rfl, gmem 9 rfl rfl, ⟨by decide, by decide, by decide +kernel⟩⟩
set_option maxRecDepth 40000 in
theorem mv_X7_soonest : MV yX7_soonest cX7_soonest 4 (Option.some .int) 3 := ⟨gmem 963 rfl rfl, gmem 961 rfl rfl, gmem 962 rfl rfl, gmem 9 rfl rfl, ⟨by decide, by decide, by decide +kernel⟩⟩
set_option maxRecDepth 40000 in
theorem mv_X7_clear : MV yX7_clear cX7_clear 5 (Option.some .int) 3 := ⟨gmem 996 rfl rfl, gmem 994 rfl rfl, gmem 995 rfl rfl, gmem 9 rfl rfl, ⟨by decide, by decide, by decide +kernel⟩⟩
set_option maxRecDepth 40000 in
theorem ms_X7_power : MS yX7_power cX7_power 5 (Option.some .long) 2 := ⟨gmem 1010 rfl rfl, gmem 1009 rfl rfl, gmem 9 rfl rfl, ⟨by decide, by decide, by decide +kernel⟩⟩
set_option maxRecDepth 40000 in
theorem ms_X7_part : MS yX7_part cX7_part 11 (Option.some .long) 3 := ⟨gmem 1013 rfl rfl, gmem 1012 rfl rfl, gmem 9 rfl rfl, ⟨by decide, by decide, by decide +kernel⟩⟩
set_option maxRecDepth 40000 in
theorem ms_X7_areOdds : MS yX7_areOdds cX7_areOdds 4 (Option.some .boolean) 4 := ⟨gmem 1003 rfl rfl, gmem 1002 rfl rfl, gmem 9 rfl rfl, ⟨by decide, by decide, by decide +kernel⟩⟩
set_option maxRecDepth 40000 in
theorem mv_X7_byRow : MV yX7_byRow cX7_byRow 14 (Option.some .long) 4 := ⟨gmem 1007 rfl rfl, gmem 1006 rfl rfl, gsel 49 rfl rfl, gmem 9 rfl rfl, ⟨by decide, by decide, by decide +kernel⟩⟩
set_option maxRecDepth 40000 in
theorem mv_X7_odds : MV yX7_odds cX7_odds 5 (Option.some .long) 4 := ⟨gmem 1000 rfl rfl, gmem 998 rfl rfl, gmem 999 rfl rfl, gmem 9 rfl rfl, ⟨by decide, by decide, by decide +kernel⟩⟩
set_option maxRecDepth 40000 in
theorem mv_X7_sightOf : MV yX7_sightOf cX7_sightOf 16 (Option.some .long) 3 := ⟨gmem 1021 rfl rfl, gmem 1020 rfl rfl, gsel 50 rfl rfl, gmem 9 rfl rfl, ⟨by decide, by decide, by decide +kernel⟩⟩
set_option maxRecDepth 40000 in
theorem mv_X7_sight : MV yX7_sight cX7_sight 5 (Option.some .long) 4 := ⟨gmem 1017 rfl rfl, gmem 1015 rfl rfl, gmem 1016 rfl rfl, gmem 9 rfl rfl, ⟨by decide, by decide, by decide +kernel⟩⟩
set_option maxRecDepth 40000 in
theorem mv_X7_blindOf : MV yX7_blindOf cX7_blindOf 12 (Option.some .long) 3 := ⟨gmem 1029 rfl rfl, gmem 1028 rfl rfl, gsel 51 rfl rfl, gmem 9 rfl rfl, ⟨by decide, by decide, by decide +kernel⟩⟩
set_option maxRecDepth 40000 in
theorem mv_X7_blind : MV yX7_blind cX7_blind 5 (Option.some .long) 4 := ⟨gmem 1025 rfl rfl, gmem 1023 rfl rfl, gmem 1024 rfl rfl, gmem 9 rfl rfl, ⟨by decide, by decide, by decide +kernel⟩⟩
set_option maxRecDepth 40000 in
theorem mv_X7_worth : MV yX7_worth cX7_worth 5 (Option.some .long) 4 := ⟨gmem 1033 rfl rfl, gmem 1031 rfl rfl, gmem 1032 rfl rfl, gmem 9 rfl rfl, ⟨by decide, by decide, by decide +kernel⟩⟩
set_option maxRecDepth 40000 in
theorem mv_X7_firstOf : MV yX7_firstOf cX7_firstOf 5 (Option.some .int) 3 := ⟨gmem 1041 rfl rfl, gmem 1040 rfl rfl, gsel 52 rfl rfl, gmem 9 rfl rfl, ⟨by decide, by decide, by decide +kernel⟩⟩
set_option maxRecDepth 40000 in
theorem mv_X7_found : MV yX7_found cX7_found 5 (Option.some .int) 2 := ⟨gmem 1037 rfl rfl, gmem 1035 rfl rfl, gmem 1036 rfl rfl, gmem 9 rfl rfl, ⟨by decide, by decide, by decide +kernel⟩⟩
set_option maxRecDepth 40000 in
theorem mv_X7_first : MV yX7_first cX7_first 4 (Option.some .int) 3 := ⟨gmem 1045 rfl rfl, gmem 1043 rfl rfl, gmem 1044 rfl rfl, gmem 9 rfl rfl, ⟨by decide, by decide, by decide +kernel⟩⟩
set_option maxRecDepth 40000 in
theorem mv_X7_books : MV yX7_books cX7_books 5 (Option.some .int) 2 := ⟨gmem 1049 rfl rfl, gmem 1047 rfl rfl, gmem 1048 rfl rfl, gmem 9 rfl rfl, ⟨by decide, by decide, by decide +kernel⟩⟩
set_option maxRecDepth 40000 in
theorem mv_X7_count : MV yX7_count cX7_count 4 (Option.some .int) 1 := ⟨gmem 1053 rfl rfl, gmem 1051 rfl rfl, gmem 1052 rfl rfl, gmem 9 rfl rfl, ⟨by decide, by decide, by decide +kernel⟩⟩
set_option maxRecDepth 40000 in
theorem ms_J9_abs_0f7a4 : MS yJ9_abs_0f7a4 cJ9_abs_0f7a4 1 (Option.some .int) 1 := ⟨gmem 473 rfl rfl, gmem 472 rfl rfl, gmem 14 rfl rfl, ⟨by decide, by decide, by decide +kernel⟩⟩
set_option maxRecDepth 40000 in
theorem ms_J9_max_7cf53 : MS yJ9_max_7cf53 cJ9_max_7cf53 2 (Option.some .int) 2 := ⟨gmem 550 rfl rfl, gmem 549 rfl rfl, gmem 14 rfl rfl, ⟨by decide, by decide, by decide +kernel⟩⟩
set_option maxRecDepth 40000 in
theorem ms_J9_max_f86c9 : MS yJ9_max_f86c9 cJ9_max_f86c9 4 (Option.some .long) 2 := ⟨gmem 648 rfl rfl, gmem 647 rfl rfl, gmem 14 rfl rfl, ⟨by decide, by decide, by decide +kernel⟩⟩
set_option maxRecDepth 40000 in
theorem ms_J9_min_7cf53 : MS yJ9_min_7cf53 cJ9_min_7cf53 2 (Option.some .int) 2 := ⟨gmem 485 rfl rfl, gmem 484 rfl rfl, gmem 14 rfl rfl, ⟨by decide, by decide, by decide +kernel⟩⟩
set_option maxRecDepth 40000 in
theorem mv_J0_length_8abf5 : MV yJ0_length_8abf5 cJ0_length_8abf5 1 (Option.some .int) 0 := ⟨gmem 310 rfl rfl, gmem 308 rfl rfl, gmem 309 rfl rfl, gmem 10 rfl rfl, ⟨by decide, by decide, by decide +kernel⟩⟩
set_option maxRecDepth 40000 in
theorem mv_J0_charAt_5068e : MV yJ0_charAt_5068e cJ0_charAt_5068e 2 (Option.some .char) 1 := ⟨gmem 320 rfl rfl, gmem 318 rfl rfl, gmem 319 rfl rfl, gmem 10 rfl rfl, ⟨by decide, by decide, by decide +kernel⟩⟩
set_option maxRecDepth 40000 in
theorem mv_J0_coder_7d493 : MV yJ0_coder_7d493 cJ0_coder_7d493 1 (Option.some .byte) 0 := ⟨gmem 314 rfl rfl, gmem 312 rfl rfl, gmem 313 rfl rfl, gmem 10 rfl rfl, ⟨by decide, by decide, by decide +kernel⟩⟩
set_option maxRecDepth 40000 in
theorem mv_J0_isLatin1_aae02 : MV yJ0_isLatin1_aae02 cJ0_isLatin1_aae02 1 (Option.some .boolean) 0 := ⟨gmem 324 rfl rfl, gmem 322 rfl rfl, gmem 323 rfl rfl, gmem 10 rfl rfl, ⟨by decide, by decide, by decide +kernel⟩⟩
set_option maxRecDepth 40000 in
theorem ms_J0_checkIndex_df160 : MS yJ0_checkIndex_df160 cJ0_checkIndex_df160 2 (Option.none : Option Jvm.ClassFile.FieldType) 2 := ⟨gmem 330 rfl rfl, gmem 329 rfl rfl, gmem 10 rfl rfl, ⟨by decide, by decide, by decide +kernel⟩⟩
set_option maxRecDepth 40000 in
theorem ms_J1_charAt_3b067 : MS yJ1_charAt_3b067 cJ1_charAt_3b067 2 (Option.some .char) 2 := ⟨gmem 327 rfl rfl, gmem 326 rfl rfl, gmem 11 rfl rfl, ⟨by decide, by decide, by decide +kernel⟩⟩
set_option maxRecDepth 40000 in
theorem ms_J2_getChar_3b067 : MS yJ2_getChar_3b067 cJ2_getChar_3b067 2 (Option.some .char) 2 := ⟨gmem 348 rfl rfl, gmem 347 rfl rfl, gmem 13 rfl rfl, ⟨by decide, by decide, by decide +kernel⟩⟩
set_option maxRecDepth 40000 in
theorem ms_J2_length_9d52b : MS yJ2_length_9d52b cJ2_length_9d52b 1 (Option.some .int) 1 := ⟨gmem 344 rfl rfl, gmem 343 rfl rfl, gmem 13 rfl rfl, ⟨by decide, by decide, by decide +kernel⟩⟩
set_option maxRecDepth 40000 in
theorem ms_J2_charAt_3b067 : MS yJ2_charAt_3b067 cJ2_charAt_3b067 2 (Option.some .char) 2 := ⟨gmem 338 rfl rfl, gmem 337 rfl rfl, gmem 13 rfl rfl, ⟨by decide, by decide, by decide +kernel⟩⟩
set_option maxRecDepth 40000 in
theorem ms_J2_checkIndex_2214a : MS yJ2_checkIndex_2214a cJ2_checkIndex_2214a 2 (Option.none : Option Jvm.ClassFile.FieldType) 2 := ⟨gmem 341 rfl rfl, gmem 340 rfl rfl, gmem 13 rfl rfl, ⟨by decide, by decide, by decide +kernel⟩⟩
set_option maxRecDepth 40000 in
theorem ms_J7_fill_d0a16 : MS yJ7_fill_d0a16 cJ7_fill_d0a16 5 (Option.none : Option Jvm.ClassFile.FieldType) 2 := ⟨gmem 636 rfl rfl, gmem 635 rfl rfl, gmem 7 rfl rfl, ⟨by decide, by decide, by decide +kernel⟩⟩
set_option maxRecDepth 40000 in
theorem ms_J7_fill_53178 : MS yJ7_fill_53178 cJ7_fill_53178 4 (Option.none : Option Jvm.ClassFile.FieldType) 2 := ⟨gmem 168 rfl rfl, gmem 167 rfl rfl, gmem 7 rfl rfl, ⟨by decide, by decide, by decide +kernel⟩⟩
set_option maxRecDepth 40000 in
theorem ms_J3_checkIndex_8e157 : MS yJ3_checkIndex_8e157 cJ3_checkIndex_8e157 3 (Option.some .int) 3 := ⟨gmem 335 rfl rfl, gmem 334 rfl rfl, gmem 12 rfl rfl, ⟨by decide, by decide, by decide +kernel⟩⟩
