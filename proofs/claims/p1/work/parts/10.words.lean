theorem t_m100 : ((-100) : Int32).toInt = -100 := by decide
theorem t_m5 : ((-5) : Int32).toInt = -5 := by decide
theorem t_m1 : ((-1) : Int32).toInt = -1 := by decide
theorem t_0 : (0 : Int32).toInt = 0 := by decide
theorem t_1 : (1 : Int32).toInt = 1 := by decide
theorem t_2 : (2 : Int32).toInt = 2 := by decide
theorem t_3 : (3 : Int32).toInt = 3 := by decide
theorem t_4 : (4 : Int32).toInt = 4 := by decide
theorem t_5 : (5 : Int32).toInt = 5 := by decide
theorem t_6 : (6 : Int32).toInt = 6 := by decide
theorem t_7 : (7 : Int32).toInt = 7 := by decide
theorem t_8 : (8 : Int32).toInt = 8 := by decide
theorem t_9 : (9 : Int32).toInt = 9 := by decide
theorem t_10 : (10 : Int32).toInt = 10 := by decide
theorem t_11 : (11 : Int32).toInt = 11 := by decide
theorem t_12 : (12 : Int32).toInt = 12 := by decide
theorem t_13 : (13 : Int32).toInt = 13 := by decide
theorem t_14 : (14 : Int32).toInt = 14 := by decide
theorem t_15 : (15 : Int32).toInt = 15 := by decide
theorem t_16 : (16 : Int32).toInt = 16 := by decide
theorem t_20 : (20 : Int32).toInt = 20 := by decide
theorem t_50 : (50 : Int32).toInt = 50 := by decide
theorem t_60 : (60 : Int32).toInt = 60 := by decide
theorem t_100 : (100 : Int32).toInt = 100 := by decide
theorem t_120 : (120 : Int32).toInt = 120 := by decide
theorem t_400 : (400 : Int32).toInt = 400 := by decide
theorem t_2000 : (2000 : Int32).toInt = 2000 := by decide
theorem t_9999 : (9999 : Int32).toInt = 9999 := by decide
theorem t_10000 : (10000 : Int32).toInt = 10000 := by decide
theorem t_100000 : (100000 : Int32).toInt = 100000 := by decide
theorem t_2000000 : (2000000 : Int32).toInt = 2000000 := by decide
theorem k_1 : Cond.initialized RX8 ∈ tb := tb_t 1 (by decide +kernel) (by decide)
theorem k_2 : Cond.initialized RX2 ∈ tb := tb_t 2 (by decide +kernel) (by decide)
theorem k_3 : Cond.initialized RX3 ∈ tb := tb_t 3 (by decide +kernel) (by decide)
theorem k_4 : Cond.initialized RX1 ∈ tb := tb_t 4 (by decide +kernel) (by decide)
theorem k_5 : Cond.initialized RX6 ∈ tb := tb_t 5 (by decide +kernel) (by decide)
theorem k_6 : Cond.initialized RX4 ∈ tb := tb_t 6 (by decide +kernel) (by decide)
theorem k_7 : Cond.initialized RX0 ∈ tb := tb_t 7 (by decide +kernel) (by decide)
theorem k_8 : Cond.initialized RX5 ∈ tb := tb_t 8 (by decide +kernel) (by decide)
theorem k_10 : Cond.initialized RX7 ∈ tb := tb_t 10 (by decide +kernel) (by decide)
theorem k_21 : Cond.methodLink RX8 1 objectInit ∈ tb := tb_t 21 (by decide +kernel) (by decide)
theorem k_22 : Cond.instanceMethod objectInit ∈ tb := tb_t 22 (by decide +kernel) (by decide)
theorem k_23 : Cond.code objectInit ⟨#[0xb1]⟩ 1 none ∈ tb := tb_t 23 (by decide +kernel) (by decide)
theorem k_24 : Cond.classLink RX8 19 RX7 ∈ tb := tb_t 24 (by decide +kernel) (by decide)
theorem k_26 : Cond.classLink RX8 25 RX5 ∈ tb := tb_t 26 (by decide +kernel) (by decide)
theorem k_28 : Cond.classLink RX8 34 RX2 ∈ tb := tb_t 28 (by decide +kernel) (by decide)
theorem k_29 : Cond.instantiable RX2 6 ∈ tb := tb_t 29 (by decide +kernel) (by decide)
theorem k_31 : Cond.instanceMethod yX2_init ∈ tb := tb_t 31 (by decide +kernel) (by decide)
theorem k_32 : Cond.code yX2_init cX2_init 1 none ∈ tb := tb_t 32 (by decide +kernel) (by decide)
theorem k_33 : Cond.methodLink RX2 3 objectInit ∈ tb := tb_t 33 (by decide +kernel) (by decide)
theorem k_34 : Cond.fieldLink RX2 9 "SeaWatches$Offs" "signals" "[I" ∈ tb := tb_t 34 (by decide +kernel) (by decide)
theorem k_35 : Cond.fieldLink RX2 15 "SeaWatches$Offs" "firsts" "[I" ∈ tb := tb_t 35 (by decide +kernel) (by decide)
theorem k_36 : Cond.fieldLink RX2 18 "SeaWatches$Offs" "lasts" "[I" ∈ tb := tb_t 36 (by decide +kernel) (by decide)
theorem k_37 : Cond.fieldLink RX2 21 "SeaWatches$Offs" "values" "[I" ∈ tb := tb_t 37 (by decide +kernel) (by decide)
theorem k_38 : Cond.fieldLink RX2 24 "SeaWatches$Offs" "toldOn" "[I" ∈ tb := tb_t 38 (by decide +kernel) (by decide)
theorem k_39 : Cond.fieldLink RX2 27 "SeaWatches$Offs" "size" "I" ∈ tb := tb_t 39 (by decide +kernel) (by decide)
theorem k_54 : Cond.arrayClass .int ∈ tb := tb_t 54 (by decide +kernel) (by decide)
theorem k_55 : Cond.classLink RX8 41 RX3 ∈ tb := tb_t 55 (by decide +kernel) (by decide)
theorem k_56 : Cond.instantiable RX3 4 ∈ tb := tb_t 56 (by decide +kernel) (by decide)
theorem k_58 : Cond.instanceMethod yX3_init ∈ tb := tb_t 58 (by decide +kernel) (by decide)
theorem k_59 : Cond.code yX3_init cX3_init 1 none ∈ tb := tb_t 59 (by decide +kernel) (by decide)
theorem k_60 : Cond.methodLink RX3 3 objectInit ∈ tb := tb_t 60 (by decide +kernel) (by decide)
theorem k_61 : Cond.fieldLink RX3 9 "SeaWatches$Rates" "days" "[I" ∈ tb := tb_t 61 (by decide +kernel) (by decide)
theorem k_63 : Cond.fieldLink RX3 15 "SeaWatches$Rates" "values" "[I" ∈ tb := tb_t 63 (by decide +kernel) (by decide)
theorem k_65 : Cond.fieldLink RX3 18 "SeaWatches$Rates" "sorted" "[I" ∈ tb := tb_t 65 (by decide +kernel) (by decide)
theorem k_66 : Cond.fieldLink RX3 21 "SeaWatches$Rates" "size" "I" ∈ tb := tb_t 66 (by decide +kernel) (by decide)
theorem k_77 : Cond.classLink RX8 48 RX1 ∈ tb := tb_t 77 (by decide +kernel) (by decide)
theorem k_78 : Cond.instantiable RX1 15 ∈ tb := tb_t 78 (by decide +kernel) (by decide)
theorem k_80 : Cond.instanceMethod yX1_init ∈ tb := tb_t 80 (by decide +kernel) (by decide)
theorem k_81 : Cond.code yX1_init cX1_init 1 none ∈ tb := tb_t 81 (by decide +kernel) (by decide)
theorem k_82 : Cond.methodLink RX1 3 objectInit ∈ tb := tb_t 82 (by decide +kernel) (by decide)
theorem k_92 : Cond.fieldLink RX1 9 "SeaWatches$Fit" "divisor" "J" ∈ tb := tb_t 92 (by decide +kernel) (by decide)
theorem k_95 : Cond.fieldLink RX1 15 "SeaWatches$Fit" "form" "I" ∈ tb := tb_t 95 (by decide +kernel) (by decide)
theorem k_129 : Cond.classLink RX8 55 RX6 ∈ tb := tb_t 129 (by decide +kernel) (by decide)
theorem k_130 : Cond.instantiable RX6 8 ∈ tb := tb_t 130 (by decide +kernel) (by decide)
theorem k_132 : Cond.instanceMethod yX6_init ∈ tb := tb_t 132 (by decide +kernel) (by decide)
theorem k_133 : Cond.code yX6_init cX6_init 1 none ∈ tb := tb_t 133 (by decide +kernel) (by decide)
theorem k_134 : Cond.methodLink RX6 3 objectInit ∈ tb := tb_t 134 (by decide +kernel) (by decide)
theorem k_135 : Cond.classLink RX6 19 RX4 ∈ tb := tb_t 135 (by decide +kernel) (by decide)
theorem k_136 : Cond.instantiable RX4 4 ∈ tb := tb_t 136 (by decide +kernel) (by decide)
theorem k_138 : Cond.instanceMethod yX4_init ∈ tb := tb_t 138 (by decide +kernel) (by decide)
theorem k_139 : Cond.code yX4_init cX4_init 1 none ∈ tb := tb_t 139 (by decide +kernel) (by decide)
theorem k_140 : Cond.methodLink RX4 3 objectInit ∈ tb := tb_t 140 (by decide +kernel) (by decide)
theorem k_141 : Cond.fieldLink RX4 9 "SeaWatches$Rule" "signs" "[I" ∈ tb := tb_t 141 (by decide +kernel) (by decide)
theorem k_142 : Cond.fieldLink RX4 15 "SeaWatches$Rule" "values" "[I" ∈ tb := tb_t 142 (by decide +kernel) (by decide)
theorem k_143 : Cond.fieldLink RX4 18 "SeaWatches$Rule" "stack" "[I" ∈ tb := tb_t 143 (by decide +kernel) (by decide)
theorem k_144 : Cond.fieldLink RX4 21 "SeaWatches$Rule" "size" "I" ∈ tb := tb_t 144 (by decide +kernel) (by decide)
theorem k_157 : Cond.fieldLink RX6 9 "SeaWatches$Tape" "bytes" "[I" ∈ tb := tb_t 157 (by decide +kernel) (by decide)
theorem k_158 : Cond.fieldLink RX6 15 "SeaWatches$Tape" "size" "I" ∈ tb := tb_t 158 (by decide +kernel) (by decide)
theorem k_160 : Cond.fieldLink RX6 22 "SeaWatches$Tape" "rule" "LSeaWatches$Rule;" ∈ tb := tb_t 160 (by decide +kernel) (by decide)
theorem k_161 : Cond.fieldLink RX6 28 "SeaWatches$Tape" "words" "Ljava/lang/String;" ∈ tb := tb_t 161 (by decide +kernel) (by decide)
theorem k_162 : Cond.fieldLink RX6 32 "SeaWatches$Tape" "at" "I" ∈ tb := tb_t 162 (by decide +kernel) (by decide)
theorem k_163 : Cond.fieldLink RX6 35 "SeaWatches$Tape" "word" "I" ∈ tb := tb_t 163 (by decide +kernel) (by decide)
theorem k_164 : Cond.fieldLink RX6 38 "SeaWatches$Tape" "wordAt" "I" ∈ tb := tb_t 164 (by decide +kernel) (by decide)
theorem k_165 : Cond.fieldLink RX6 41 "SeaWatches$Tape" "value" "I" ∈ tb := tb_t 165 (by decide +kernel) (by decide)
theorem k_184 : Cond.classLink RX8 62 RX0 ∈ tb := tb_t 184 (by decide +kernel) (by decide)
theorem k_185 : Cond.instantiable RX0 9 ∈ tb := tb_t 185 (by decide +kernel) (by decide)
theorem k_187 : Cond.instanceMethod yX0_init ∈ tb := tb_t 187 (by decide +kernel) (by decide)
theorem k_188 : Cond.code yX0_init cX0_init 1 none ∈ tb := tb_t 188 (by decide +kernel) (by decide)
theorem k_189 : Cond.methodLink RX0 3 objectInit ∈ tb := tb_t 189 (by decide +kernel) (by decide)
theorem k_190 : Cond.fieldLink RX0 9 "SeaWatches$Dealing" "doubts" "[I" ∈ tb := tb_t 190 (by decide +kernel) (by decide)
theorem k_191 : Cond.fieldLink RX0 15 "SeaWatches$Dealing" "way" "[I" ∈ tb := tb_t 191 (by decide +kernel) (by decide)
theorem k_192 : Cond.fieldLink RX0 18 "SeaWatches$Dealing" "best" "[I" ∈ tb := tb_t 192 (by decide +kernel) (by decide)
theorem k_194 : Cond.fieldLink RX0 21 "SeaWatches$Dealing" "voyages" "[I" ∈ tb := tb_t 194 (by decide +kernel) (by decide)
theorem k_195 : Cond.fieldLink RX0 24 "SeaWatches$Dealing" "given" "[I" ∈ tb := tb_t 195 (by decide +kernel) (by decide)
theorem k_196 : Cond.fieldLink RX0 27 "SeaWatches$Dealing" "listed" "I" ∈ tb := tb_t 196 (by decide +kernel) (by decide)
theorem k_198 : Cond.fieldLink RX0 31 "SeaWatches$Dealing" "shared" "I" ∈ tb := tb_t 198 (by decide +kernel) (by decide)
theorem k_200 : Cond.fieldLink RX0 34 "SeaWatches$Dealing" "sailing" "I" ∈ tb := tb_t 200 (by decide +kernel) (by decide)
theorem k_201 : Cond.fieldLink RX0 37 "SeaWatches$Dealing" "leastWorst" "I" ∈ tb := tb_t 201 (by decide +kernel) (by decide)
theorem k_221 : Cond.classLink RX8 69 RX4 ∈ tb := tb_t 221 (by decide +kernel) (by decide)
theorem k_223 : Cond.instantiable RX5 11 ∈ tb := tb_t 223 (by decide +kernel) (by decide)
theorem k_225 : Cond.instanceMethod yX5_init ∈ tb := tb_t 225 (by decide +kernel) (by decide)
theorem k_226 : Cond.code yX5_init cX5_init 1 none ∈ tb := tb_t 226 (by decide +kernel) (by decide)
theorem k_227 : Cond.methodLink RX5 3 objectInit ∈ tb := tb_t 227 (by decide +kernel) (by decide)
theorem k_228 : Cond.fieldLink RX5 9 "SeaWatches$Ship" "places" "[I" ∈ tb := tb_t 228 (by decide +kernel) (by decide)
theorem k_230 : Cond.fieldLink RX5 15 "SeaWatches$Ship" "starts" "[I" ∈ tb := tb_t 230 (by decide +kernel) (by decide)
theorem k_232 : Cond.fieldLink RX5 18 "SeaWatches$Ship" "goings" "[I" ∈ tb := tb_t 232 (by decide +kernel) (by decide)
theorem k_234 : Cond.fieldLink RX5 21 "SeaWatches$Ship" "doubts" "[I" ∈ tb := tb_t 234 (by decide +kernel) (by decide)
theorem k_236 : Cond.fieldLink RX5 24 "SeaWatches$Ship" "ends" "[I" ∈ tb := tb_t 236 (by decide +kernel) (by decide)
theorem k_238 : Cond.fieldLink RX5 27 "SeaWatches$Ship" "sightDays" "[I" ∈ tb := tb_t 238 (by decide +kernel) (by decide)
theorem k_240 : Cond.fieldLink RX5 30 "SeaWatches$Ship" "shown" "[I" ∈ tb := tb_t 240 (by decide +kernel) (by decide)
theorem k_241 : Cond.fieldLink RX5 33 "SeaWatches$Ship" "sights" "I" ∈ tb := tb_t 241 (by decide +kernel) (by decide)
theorem k_243 : Cond.fieldLink RX5 37 "SeaWatches$Ship" "stage" "I" ∈ tb := tb_t 243 (by decide +kernel) (by decide)
theorem k_245 : Cond.fieldLink RX5 40 "SeaWatches$Ship" "sailed" "I" ∈ tb := tb_t 245 (by decide +kernel) (by decide)
theorem k_247 : Cond.fieldLink RX5 43 "SeaWatches$Ship" "voyage" "I" ∈ tb := tb_t 247 (by decide +kernel) (by decide)
theorem k_272 : Cond.fieldLink RX8 9 "SeaWatches" "warmths" "[I" ∈ tb := tb_t 272 (by decide +kernel) (by decide)
theorem k_273 : Cond.fieldLink RX8 13 "SeaWatches" "kinds" "[I" ∈ tb := tb_t 273 (by decide +kernel) (by decide)
theorem k_274 : Cond.fieldLink RX8 16 "SeaWatches" "numbers" "[I" ∈ tb := tb_t 274 (by decide +kernel) (by decide)
theorem k_275 : Cond.fieldLink RX8 21 "SeaWatches" "watches" "[LSeaWatches$Watch;" ∈ tb := tb_t 275 (by decide +kernel) (by decide)
theorem k_276 : Cond.fieldLink RX8 27 "SeaWatches" "ships" "[LSeaWatches$Ship;" ∈ tb := tb_t 276 (by decide +kernel) (by decide)
theorem k_277 : Cond.fieldLink RX8 31 "SeaWatches" "names" "[I" ∈ tb := tb_t 277 (by decide +kernel) (by decide)
theorem k_278 : Cond.fieldLink RX8 37 "SeaWatches" "offs" "LSeaWatches$Offs;" ∈ tb := tb_t 278 (by decide +kernel) (by decide)
theorem k_279 : Cond.fieldLink RX8 44 "SeaWatches" "rates" "LSeaWatches$Rates;" ∈ tb := tb_t 279 (by decide +kernel) (by decide)
theorem k_280 : Cond.fieldLink RX8 51 "SeaWatches" "fit" "LSeaWatches$Fit;" ∈ tb := tb_t 280 (by decide +kernel) (by decide)
theorem k_281 : Cond.fieldLink RX8 58 "SeaWatches" "tape" "LSeaWatches$Tape;" ∈ tb := tb_t 281 (by decide +kernel) (by decide)
theorem k_282 : Cond.fieldLink RX8 65 "SeaWatches" "dealing" "LSeaWatches$Dealing;" ∈ tb := tb_t 282 (by decide +kernel) (by decide)
theorem k_283 : Cond.fieldLink RX8 72 "SeaWatches" "trialRule" "LSeaWatches$Rule;" ∈ tb := tb_t 283 (by decide +kernel) (by decide)
theorem k_284 : Cond.fieldLink RX8 76 "SeaWatches" "dropRule" "LSeaWatches$Rule;" ∈ tb := tb_t 284 (by decide +kernel) (by decide)
theorem k_285 : Cond.fieldLink RX8 79 "SeaWatches" "today" "I" ∈ tb := tb_t 285 (by decide +kernel) (by decide)
theorem k_323 : Cond.methodLink RX8 84 yX8_isDay ∈ tb := tb_t 323 (by decide +kernel) (by decide)
theorem k_324 : Cond.static yX8_isDay ∈ tb := tb_t 324 (by decide +kernel) (by decide)
theorem k_325 : Cond.code yX8_isDay cX8_isDay 1 (some .boolean) ∈ tb := tb_t 325 (by decide +kernel) (by decide)
theorem k_326 : Cond.methodLink RX8 88 yX8_isWithin ∈ tb := tb_t 326 (by decide +kernel) (by decide)
theorem k_327 : Cond.static yX8_isWithin ∈ tb := tb_t 327 (by decide +kernel) (by decide)
theorem k_328 : Cond.code yX8_isWithin cX8_isWithin 2 (some .boolean) ∈ tb := tb_t 328 (by decide +kernel) (by decide)
theorem k_333 : Cond.methodLink RX8 92 yX8_isPlace ∈ tb := tb_t 333 (by decide +kernel) (by decide)
theorem k_334 : Cond.static yX8_isPlace ∈ tb := tb_t 334 (by decide +kernel) (by decide)
theorem k_335 : Cond.code yX8_isPlace cX8_isPlace 1 (some .boolean) ∈ tb := tb_t 335 (by decide +kernel) (by decide)
theorem k_336 : Cond.methodLink RX8 95 yX8_fitsKind ∈ tb := tb_t 336 (by decide +kernel) (by decide)
theorem k_337 : Cond.static yX8_fitsKind ∈ tb := tb_t 337 (by decide +kernel) (by decide)
theorem k_338 : Cond.code yX8_fitsKind cX8_fitsKind 2 (some .boolean) ∈ tb := tb_t 338 (by decide +kernel) (by decide)
theorem k_339 : Cond.methodLink RX8 98 yX8_bringWatch ∈ tb := tb_t 339 (by decide +kernel) (by decide)
theorem k_341 : Cond.instanceMethod yX8_bringWatch ∈ tb := tb_t 341 (by decide +kernel) (by decide)
theorem k_342 : Cond.code yX8_bringWatch cX8_bringWatch 2 none ∈ tb := tb_t 342 (by decide +kernel) (by decide)
theorem k_343 : Cond.instantiable RX7 4 ∈ tb := tb_t 343 (by decide +kernel) (by decide)
theorem k_345 : Cond.instanceMethod yX7_init ∈ tb := tb_t 345 (by decide +kernel) (by decide)
theorem k_346 : Cond.code yX7_init cX7_init 1 none ∈ tb := tb_t 346 (by decide +kernel) (by decide)
theorem k_347 : Cond.methodLink RX7 3 objectInit ∈ tb := tb_t 347 (by decide +kernel) (by decide)
theorem k_348 : Cond.fieldLink RX7 9 "SeaWatches$Watch" "tolds" "[I" ∈ tb := tb_t 348 (by decide +kernel) (by decide)
theorem k_349 : Cond.fieldLink RX7 15 "SeaWatches$Watch" "sources" "[I" ∈ tb := tb_t 349 (by decide +kernel) (by decide)
theorem k_350 : Cond.fieldLink RX7 18 "SeaWatches$Watch" "marks" "[I" ∈ tb := tb_t 350 (by decide +kernel) (by decide)
theorem k_351 : Cond.fieldLink RX7 21 "SeaWatches$Watch" "holders" "[I" ∈ tb := tb_t 351 (by decide +kernel) (by decide)
theorem k_361 : Cond.methodLink RX8 302 yX7_becomeNew ∈ tb := tb_t 361 (by decide +kernel) (by decide)
theorem k_362 : Cond.instanceMethod yX7_becomeNew ∈ tb := tb_t 362 (by decide +kernel) (by decide)
theorem k_363 : Cond.selects RX7 yX7_becomeNew yX7_becomeNew ∈ tb := tb_t 363 (by decide +kernel) (by decide)
theorem k_364 : Cond.code yX7_becomeNew cX7_becomeNew 2 none ∈ tb := tb_t 364 (by decide +kernel) (by decide)
theorem k_369 : Cond.methodLink RX8 102 yX8_watchAt ∈ tb := tb_t 369 (by decide +kernel) (by decide)
theorem k_371 : Cond.instanceMethod yX8_watchAt ∈ tb := tb_t 371 (by decide +kernel) (by decide)
theorem k_372 : Cond.code yX8_watchAt cX8_watchAt 2 (some (.object "SeaWatches$Watch")) ∈ tb := tb_t 372 (by decide +kernel) (by decide)
theorem k_386 : Cond.constant RX8 110 (-2000000000) ∈ tb := tb_t 386 (by decide +kernel) (by decide)
theorem k_391 : Cond.methodLink RX8 111 yX8_isPast ∈ tb := tb_t 391 (by decide +kernel) (by decide)
theorem k_393 : Cond.instanceMethod yX8_isPast ∈ tb := tb_t 393 (by decide +kernel) (by decide)
theorem k_394 : Cond.code yX8_isPast cX8_isPast 2 (some .boolean) ∈ tb := tb_t 394 (by decide +kernel) (by decide)
theorem k_395 : Cond.constant RX8 114 100000 ∈ tb := tb_t 395 (by decide +kernel) (by decide)
theorem k_396 : Cond.methodLink RX8 115 yX8_lackAt ∈ tb := tb_t 396 (by decide +kernel) (by decide)
theorem k_398 : Cond.instanceMethod yX8_lackAt ∈ tb := tb_t 398 (by decide +kernel) (by decide)
theorem k_399 : Cond.code yX8_lackAt cX8_lackAt 2 (some .int) ∈ tb := tb_t 399 (by decide +kernel) (by decide)
theorem k_412 : Cond.methodLink RX8 125 yX8_isKnowledge ∈ tb := tb_t 412 (by decide +kernel) (by decide)
theorem k_413 : Cond.static yX8_isKnowledge ∈ tb := tb_t 413 (by decide +kernel) (by decide)
theorem k_414 : Cond.code yX8_isKnowledge cX8_isKnowledge 1 (some .boolean) ∈ tb := tb_t 414 (by decide +kernel) (by decide)
theorem k_447 : Cond.methodLink RX8 135 yX8_markOn ∈ tb := tb_t 447 (by decide +kernel) (by decide)
theorem k_449 : Cond.instanceMethod yX8_markOn ∈ tb := tb_t 449 (by decide +kernel) (by decide)
theorem k_450 : Cond.code yX8_markOn cX8_markOn 5 (some .int) ∈ tb := tb_t 450 (by decide +kernel) (by decide)
theorem k_471 : Cond.methodLink RX8 145 yX2_add ∈ tb := tb_t 471 (by decide +kernel) (by decide)
theorem k_472 : Cond.instanceMethod yX2_add ∈ tb := tb_t 472 (by decide +kernel) (by decide)
theorem k_473 : Cond.selects RX2 yX2_add yX2_add ∈ tb := tb_t 473 (by decide +kernel) (by decide)
theorem k_474 : Cond.code yX2_add cX2_add 6 none ∈ tb := tb_t 474 (by decide +kernel) (by decide)
theorem k_479 : Cond.methodLink RX8 149 yX8_isStretch ∈ tb := tb_t 479 (by decide +kernel) (by decide)
theorem k_480 : Cond.static yX8_isStretch ∈ tb := tb_t 480 (by decide +kernel) (by decide)
theorem k_481 : Cond.code yX8_isStretch cX8_isStretch 2 (some .boolean) ∈ tb := tb_t 481 (by decide +kernel) (by decide)
theorem k_486 : Cond.methodLink RX8 152 yX8_refusalOfStretch ∈ tb := tb_t 486 (by decide +kernel) (by decide)
theorem k_488 : Cond.instanceMethod yX8_refusalOfStretch ∈ tb := tb_t 488 (by decide +kernel) (by decide)
theorem k_489 : Cond.code yX8_refusalOfStretch cX8_refusalOfStretch 4 (some .int) ∈ tb := tb_t 489 (by decide +kernel) (by decide)
theorem k_577 : Cond.methodLink RX8 180 yX6_add ∈ tb := tb_t 577 (by decide +kernel) (by decide)
theorem k_578 : Cond.instanceMethod yX6_add ∈ tb := tb_t 578 (by decide +kernel) (by decide)
theorem k_579 : Cond.selects RX6 yX6_add yX6_add ∈ tb := tb_t 579 (by decide +kernel) (by decide)
theorem k_580 : Cond.code yX6_add cX6_add 2 none ∈ tb := tb_t 580 (by decide +kernel) (by decide)
theorem k_587 : Cond.methodLink RX8 186 yX6_readAsRule ∈ tb := tb_t 587 (by decide +kernel) (by decide)
theorem k_588 : Cond.instanceMethod yX6_readAsRule ∈ tb := tb_t 588 (by decide +kernel) (by decide)
theorem k_589 : Cond.selects RX6 yX6_readAsRule yX6_readAsRule ∈ tb := tb_t 589 (by decide +kernel) (by decide)
theorem k_590 : Cond.code yX6_readAsRule cX6_readAsRule 3 (some .int) ∈ tb := tb_t 590 (by decide +kernel) (by decide)
theorem k_591 : Cond.methodLink RX6 45 yX6_goOn ∈ tb := tb_t 591 (by decide +kernel) (by decide)
theorem k_593 : Cond.instanceMethod yX6_goOn ∈ tb := tb_t 593 (by decide +kernel) (by decide)
theorem k_594 : Cond.code yX6_goOn cX6_goOn 1 none ∈ tb := tb_t 594 (by decide +kernel) (by decide)
theorem k_668 : Cond.methodLink RX6 48 yX6_readEither ∈ tb := tb_t 668 (by decide +kernel) (by decide)
theorem k_670 : Cond.instanceMethod yX6_readEither ∈ tb := tb_t 670 (by decide +kernel) (by decide)
theorem k_671 : Cond.code yX6_readEither cX6_readEither 4 (some .boolean) ∈ tb := tb_t 671 (by decide +kernel) (by decide)
theorem k_672 : Cond.methodLink RX6 52 yX6_readBoth ∈ tb := tb_t 672 (by decide +kernel) (by decide)
theorem k_674 : Cond.instanceMethod yX6_readBoth ∈ tb := tb_t 674 (by decide +kernel) (by decide)
theorem k_675 : Cond.code yX6_readBoth cX6_readBoth 4 (some .boolean) ∈ tb := tb_t 675 (by decide +kernel) (by decide)
theorem k_676 : Cond.methodLink RX6 59 yX6_readNegation ∈ tb := tb_t 676 (by decide +kernel) (by decide)
theorem k_678 : Cond.instanceMethod yX6_readNegation ∈ tb := tb_t 678 (by decide +kernel) (by decide)
theorem k_679 : Cond.code yX6_readNegation cX6_readNegation 3 (some .boolean) ∈ tb := tb_t 679 (by decide +kernel) (by decide)
theorem k_680 : Cond.methodLink RX6 62 yX6_readComparison ∈ tb := tb_t 680 (by decide +kernel) (by decide)
theorem k_682 : Cond.instanceMethod yX6_readComparison ∈ tb := tb_t 682 (by decide +kernel) (by decide)
theorem k_683 : Cond.code yX6_readComparison cX6_readComparison 4 (some .boolean) ∈ tb := tb_t 683 (by decide +kernel) (by decide)
theorem k_684 : Cond.methodLink RX6 65 yX6_readSum ∈ tb := tb_t 684 (by decide +kernel) (by decide)
theorem k_686 : Cond.instanceMethod yX6_readSum ∈ tb := tb_t 686 (by decide +kernel) (by decide)
theorem k_687 : Cond.code yX6_readSum cX6_readSum 5 (some .boolean) ∈ tb := tb_t 687 (by decide +kernel) (by decide)
theorem k_688 : Cond.methodLink RX6 68 yX6_readProduct ∈ tb := tb_t 688 (by decide +kernel) (by decide)
theorem k_690 : Cond.instanceMethod yX6_readProduct ∈ tb := tb_t 690 (by decide +kernel) (by decide)
theorem k_691 : Cond.code yX6_readProduct cX6_readProduct 5 (some .boolean) ∈ tb := tb_t 691 (by decide +kernel) (by decide)
theorem k_692 : Cond.methodLink RX6 71 yX6_readOperand ∈ tb := tb_t 692 (by decide +kernel) (by decide)
theorem k_694 : Cond.instanceMethod yX6_readOperand ∈ tb := tb_t 694 (by decide +kernel) (by decide)
theorem k_695 : Cond.code yX6_readOperand cX6_readOperand 4 (some .boolean) ∈ tb := tb_t 695 (by decide +kernel) (by decide)
theorem k_773 : Cond.methodLink RX8 202 yX8_isShip ∈ tb := tb_t 773 (by decide +kernel) (by decide)
theorem k_774 : Cond.static yX8_isShip ∈ tb := tb_t 774 (by decide +kernel) (by decide)
theorem k_775 : Cond.code yX8_isShip cX8_isShip 1 (some .boolean) ∈ tb := tb_t 775 (by decide +kernel) (by decide)
theorem k_776 : Cond.methodLink RX8 205 yX8_firstLack ∈ tb := tb_t 776 (by decide +kernel) (by decide)
theorem k_778 : Cond.instanceMethod yX8_firstLack ∈ tb := tb_t 778 (by decide +kernel) (by decide)
theorem k_779 : Cond.code yX8_firstLack cX8_firstLack 4 (some .int) ∈ tb := tb_t 779 (by decide +kernel) (by decide)
theorem k_816 : Cond.constant RX8 232 2000000 ∈ tb := tb_t 816 (by decide +kernel) (by decide)
theorem k_817 : Cond.methodLink RX8 233 yX5_mayBeSighted ∈ tb := tb_t 817 (by decide +kernel) (by decide)
theorem k_818 : Cond.instanceMethod yX5_mayBeSighted ∈ tb := tb_t 818 (by decide +kernel) (by decide)
theorem k_819 : Cond.selects RX5 yX5_mayBeSighted yX5_mayBeSighted ∈ tb := tb_t 819 (by decide +kernel) (by decide)
theorem k_820 : Cond.code yX5_mayBeSighted cX5_mayBeSighted 2 (some .boolean) ∈ tb := tb_t 820 (by decide +kernel) (by decide)
theorem k_890 : Cond.methodLink RX8 278 yX0_add ∈ tb := tb_t 890 (by decide +kernel) (by decide)
theorem k_891 : Cond.instanceMethod yX0_add ∈ tb := tb_t 891 (by decide +kernel) (by decide)
theorem k_892 : Cond.selects RX0 yX0_add yX0_add ∈ tb := tb_t 892 (by decide +kernel) (by decide)
theorem k_893 : Cond.code yX0_add cX0_add 2 none ∈ tb := tb_t 893 (by decide +kernel) (by decide)
theorem k_945 : Cond.methodLink RX8 295 yX8_placesWith ∈ tb := tb_t 945 (by decide +kernel) (by decide)
theorem k_947 : Cond.instanceMethod yX8_placesWith ∈ tb := tb_t 947 (by decide +kernel) (by decide)
theorem k_948 : Cond.code yX8_placesWith cX8_placesWith 4 (some .int) ∈ tb := tb_t 948 (by decide +kernel) (by decide)
theorem k_949 : Cond.methodLink RX8 298 yX8_shipsAtSea ∈ tb := tb_t 949 (by decide +kernel) (by decide)
theorem k_951 : Cond.instanceMethod yX8_shipsAtSea ∈ tb := tb_t 951 (by decide +kernel) (by decide)
theorem k_952 : Cond.code yX8_shipsAtSea cX8_shipsAtSea 3 (some .int) ∈ tb := tb_t 952 (by decide +kernel) (by decide)
theorem ks_0 : Cond.selects RX8 yX8_bringWatch yX8_bringWatch ∈ tb := tb_s 0 (by decide +kernel) (by decide)
theorem ks_1 : Cond.selects RX8 yX8_watchAt yX8_watchAt ∈ tb := tb_s 1 (by decide +kernel) (by decide)
theorem ks_2 : Cond.selects RX8 yX8_isPast yX8_isPast ∈ tb := tb_s 2 (by decide +kernel) (by decide)
theorem ks_3 : Cond.selects RX8 yX8_lackAt yX8_lackAt ∈ tb := tb_s 3 (by decide +kernel) (by decide)
theorem ks_4 : Cond.selects RX8 yX8_markOn yX8_markOn ∈ tb := tb_s 4 (by decide +kernel) (by decide)
theorem ks_5 : Cond.selects RX8 yX8_refusalOfStretch yX8_refusalOfStretch ∈ tb := tb_s 5 (by decide +kernel) (by decide)
theorem ks_11 : Cond.selects RX6 yX6_goOn yX6_goOn ∈ tb := tb_s 11 (by decide +kernel) (by decide)
theorem ks_16 : Cond.selects RX6 yX6_readEither yX6_readEither ∈ tb := tb_s 16 (by decide +kernel) (by decide)
theorem ks_17 : Cond.selects RX6 yX6_readBoth yX6_readBoth ∈ tb := tb_s 17 (by decide +kernel) (by decide)
theorem ks_18 : Cond.selects RX6 yX6_readNegation yX6_readNegation ∈ tb := tb_s 18 (by decide +kernel) (by decide)
theorem ks_19 : Cond.selects RX6 yX6_readComparison yX6_readComparison ∈ tb := tb_s 19 (by decide +kernel) (by decide)
theorem ks_20 : Cond.selects RX6 yX6_readSum yX6_readSum ∈ tb := tb_s 20 (by decide +kernel) (by decide)
theorem ks_21 : Cond.selects RX6 yX6_readProduct yX6_readProduct ∈ tb := tb_s 21 (by decide +kernel) (by decide)
theorem ks_22 : Cond.selects RX6 yX6_readOperand yX6_readOperand ∈ tb := tb_s 22 (by decide +kernel) (by decide)
theorem ks_27 : Cond.selects RX8 yX8_firstLack yX8_firstLack ∈ tb := tb_s 27 (by decide +kernel) (by decide)
theorem ks_37 : Cond.selects RX8 yX8_placesWith yX8_placesWith ∈ tb := tb_s 37 (by decide +kernel) (by decide)
theorem ks_38 : Cond.selects RX8 yX8_shipsAtSea yX8_shipsAtSea ∈ tb := tb_s 38 (by decide +kernel) (by decide)
theorem ok_X0_add : yOk yX0_add 1 := ⟨by decide +kernel, by decide +kernel, by decide +kernel⟩
theorem ok_X0_init : yOk yX0_init 0 := ⟨by decide +kernel, by decide +kernel, by decide +kernel⟩
theorem ok_X1_init : yOk yX1_init 0 := ⟨by decide +kernel, by decide +kernel, by decide +kernel⟩
theorem ok_X2_add : yOk yX2_add 5 := ⟨by decide +kernel, by decide +kernel, by decide +kernel⟩
theorem ok_X2_init : yOk yX2_init 0 := ⟨by decide +kernel, by decide +kernel, by decide +kernel⟩
theorem ok_X3_init : yOk yX3_init 0 := ⟨by decide +kernel, by decide +kernel, by decide +kernel⟩
theorem ok_X4_init : yOk yX4_init 0 := ⟨by decide +kernel, by decide +kernel, by decide +kernel⟩
theorem ok_X5_init : yOk yX5_init 0 := ⟨by decide +kernel, by decide +kernel, by decide +kernel⟩
theorem ok_X5_mayBeSighted : yOk yX5_mayBeSighted 1 := ⟨by decide +kernel, by decide +kernel, by decide +kernel⟩
theorem ok_X6_add : yOk yX6_add 1 := ⟨by decide +kernel, by decide +kernel, by decide +kernel⟩
theorem ok_X6_goOn : yOk yX6_goOn 0 := ⟨by decide +kernel, by decide +kernel, by decide +kernel⟩
theorem ok_X6_init : yOk yX6_init 0 := ⟨by decide +kernel, by decide +kernel, by decide +kernel⟩
theorem ok_X6_readAsRule : yOk yX6_readAsRule 1 := ⟨by decide +kernel, by decide +kernel, by decide +kernel⟩
theorem ok_X6_readBoth : yOk yX6_readBoth 1 := ⟨by decide +kernel, by decide +kernel, by decide +kernel⟩
theorem ok_X6_readComparison : yOk yX6_readComparison 1 := ⟨by decide +kernel, by decide +kernel, by decide +kernel⟩
theorem ok_X6_readEither : yOk yX6_readEither 1 := ⟨by decide +kernel, by decide +kernel, by decide +kernel⟩
theorem ok_X6_readNegation : yOk yX6_readNegation 1 := ⟨by decide +kernel, by decide +kernel, by decide +kernel⟩
theorem ok_X6_readOperand : yOk yX6_readOperand 1 := ⟨by decide +kernel, by decide +kernel, by decide +kernel⟩
theorem ok_X6_readProduct : yOk yX6_readProduct 1 := ⟨by decide +kernel, by decide +kernel, by decide +kernel⟩
theorem ok_X6_readSum : yOk yX6_readSum 1 := ⟨by decide +kernel, by decide +kernel, by decide +kernel⟩
theorem ok_X7_becomeNew : yOk yX7_becomeNew 0 := ⟨by decide +kernel, by decide +kernel, by decide +kernel⟩
theorem ok_X7_init : yOk yX7_init 0 := ⟨by decide +kernel, by decide +kernel, by decide +kernel⟩
theorem ok_X8_bringWatch : yOk yX8_bringWatch 1 := ⟨by decide +kernel, by decide +kernel, by decide +kernel⟩
theorem ok_X8_firstLack : yOk yX8_firstLack 3 := ⟨by decide +kernel, by decide +kernel, by decide +kernel⟩
theorem ok_X8_fitsKind : yOk yX8_fitsKind 2 := ⟨by decide +kernel, by decide +kernel, by decide +kernel⟩
theorem ok_X8_isDay : yOk yX8_isDay 1 := ⟨by decide +kernel, by decide +kernel, by decide +kernel⟩
theorem ok_X8_isKnowledge : yOk yX8_isKnowledge 1 := ⟨by decide +kernel, by decide +kernel, by decide +kernel⟩
theorem ok_X8_isPast : yOk yX8_isPast 1 := ⟨by decide +kernel, by decide +kernel, by decide +kernel⟩
theorem ok_X8_isPlace : yOk yX8_isPlace 1 := ⟨by decide +kernel, by decide +kernel, by decide +kernel⟩
theorem ok_X8_isShip : yOk yX8_isShip 1 := ⟨by decide +kernel, by decide +kernel, by decide +kernel⟩
theorem ok_X8_isStretch : yOk yX8_isStretch 2 := ⟨by decide +kernel, by decide +kernel, by decide +kernel⟩
theorem ok_X8_isWithin : yOk yX8_isWithin 2 := ⟨by decide +kernel, by decide +kernel, by decide +kernel⟩
theorem ok_X8_lackAt : yOk yX8_lackAt 1 := ⟨by decide +kernel, by decide +kernel, by decide +kernel⟩
theorem ok_X8_markOn : yOk yX8_markOn 3 := ⟨by decide +kernel, by decide +kernel, by decide +kernel⟩
theorem ok_X8_placesWith : yOk yX8_placesWith 1 := ⟨by decide +kernel, by decide +kernel, by decide +kernel⟩
theorem ok_X8_refusalOfStretch : yOk yX8_refusalOfStretch 3 := ⟨by decide +kernel, by decide +kernel, by decide +kernel⟩
theorem ok_X8_shipsAtSea : yOk yX8_shipsAtSea 0 := ⟨by decide +kernel, by decide +kernel, by decide +kernel⟩
theorem ok_X8_watchAt : yOk yX8_watchAt 1 := ⟨by decide +kernel, by decide +kernel, by decide +kernel⟩
def xF (a : Nat → Nat) (t : Int32) : List Value := [.ref (a 0), .ref (a 1), .ref (a 2), .ref (a 3), .ref (a 4), .ref (a 5), .ref (a 6), .ref (a 7), .ref (a 8), .ref (a 9), .ref (a 10), .ref (a 11), .ref (a 12), .int t]
def sF (b : Nat → Nat) : List Value := [.ref (b 0), .ref (b 1), .ref (b 2), .ref (b 3), .ref (b 4), .ref (b 5), .ref (b 6), .int 0, .int 0, .int 0, .int 0]
