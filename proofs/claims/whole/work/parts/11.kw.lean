set_option maxRecDepth 20000 in
theorem kw_0 : (.selects RX3 yX3_known yX3_known : Cond) ∈ gAll := g_mem 0 rfl rfl
set_option maxRecDepth 20000 in
theorem kw_2 : (.selects RX3 yX3_shortCurrent yX3_shortCurrent : Cond) ∈ gAll := g_mem 2 rfl rfl
set_option maxRecDepth 20000 in
theorem kw_12 : (.initialized RX3 : Cond) ∈ gAll := g_mem 12 rfl rfl
set_option maxRecDepth 20000 in
theorem kw_13 : (.initialized RX1 : Cond) ∈ gAll := g_mem 13 rfl rfl
set_option maxRecDepth 20000 in
theorem kw_15 : (.initialized RX2 : Cond) ∈ gAll := g_mem 15 rfl rfl
set_option maxRecDepth 20000 in
theorem kw_22 : (.initialized "java/lang/Math" : Cond) ∈ gAll := g_mem 22 rfl rfl
set_option maxRecDepth 20000 in
theorem kw_45 : (.fieldLink RX2 27 "BreakerOrders$Curve" "place" "[I" : Cond) ∈ gAll := g_mem 45 rfl rfl
set_option maxRecDepth 20000 in
theorem kw_48 : (.fieldLink RX2 40 "BreakerOrders$Curve" "least" "[I" : Cond) ∈ gAll := g_mem 48 rfl rfl
set_option maxRecDepth 20000 in
theorem kw_50 : (.fieldLink RX2 37 "BreakerOrders$Curve" "most" "[I" : Cond) ∈ gAll := g_mem 50 rfl rfl
set_option maxRecDepth 20000 in
theorem kw_52 : (.fieldLink RX2 22 "BreakerOrders$Curve" "points" "I" : Cond) ∈ gAll := g_mem 52 rfl rfl
set_option maxRecDepth 20000 in
theorem kw_71 : (.fieldLink RX2 18 "BreakerOrders$Setting" "curve" "LBreakerOrders$Curve;" : Cond) ∈ gAll := g_mem 71 rfl rfl
set_option maxRecDepth 20000 in
theorem kw_72 : (.fieldLink RX2 9 "BreakerOrders$Setting" "scale" "I" : Cond) ∈ gAll := g_mem 72 rfl rfl
set_option maxRecDepth 20000 in
theorem kw_74 : (.fieldLink RX2 15 "BreakerOrders$Setting" "delay" "I" : Cond) ∈ gAll := g_mem 74 rfl rfl
set_option maxRecDepth 20000 in
theorem kw_85 : (.fieldLink RX3 40 "BreakerOrders$Device" "number" "I" : Cond) ∈ gAll := g_mem 85 rfl rfl
set_option maxRecDepth 20000 in
theorem kw_88 : (.fieldLink RX1 20 "BreakerOrders$Device" "settings" "[LBreakerOrders$Setting;" : Cond) ∈ gAll := g_mem 88 rfl rfl
set_option maxRecDepth 20000 in
theorem kw_89 : (.fieldLink RX3 73 "BreakerOrders$Device" "settings" "[LBreakerOrders$Setting;" : Cond) ∈ gAll := g_mem 89 rfl rfl
set_option maxRecDepth 20000 in
theorem kw_91 : (.fieldLink RX3 178 "BreakerOrders$Device" "ruledOut" "[Z" : Cond) ∈ gAll := g_mem 91 rfl rfl
set_option maxRecDepth 20000 in
theorem kw_95 : (.fieldLink RX3 36 "BreakerOrders$Device" "above" "LBreakerOrders$Device;" : Cond) ∈ gAll := g_mem 95 rfl rfl
set_option maxRecDepth 20000 in
theorem kw_97 : (.fieldLink RX3 68 "BreakerOrders$Device" "options" "I" : Cond) ∈ gAll := g_mem 97 rfl rfl
set_option maxRecDepth 20000 in
theorem kw_98 : (.fieldLink RX1 40 "BreakerOrders$Device" "chosen" "I" : Cond) ∈ gAll := g_mem 98 rfl rfl
set_option maxRecDepth 20000 in
theorem kw_99 : (.fieldLink RX3 85 "BreakerOrders$Device" "chosen" "I" : Cond) ∈ gAll := g_mem 99 rfl rfl
set_option maxRecDepth 20000 in
theorem kw_101 : (.fieldLink RX3 123 "BreakerOrders$Device" "impedance" "I" : Cond) ∈ gAll := g_mem 101 rfl rfl
set_option maxRecDepth 20000 in
theorem kw_121 : (.fieldLink RX3 11 "BreakerOrders" "devices" "[LBreakerOrders$Device;" : Cond) ∈ gAll := g_mem 121 rfl rfl
set_option maxRecDepth 20000 in
theorem kw_122 : (.fieldLink RX3 15 "BreakerOrders" "count" "I" : Cond) ∈ gAll := g_mem 122 rfl rfl
set_option maxRecDepth 20000 in
theorem kw_123 : (.fieldLink RX3 19 "BreakerOrders" "sourceVoltage" "I" : Cond) ∈ gAll := g_mem 123 rfl rfl
set_option maxRecDepth 20000 in
theorem kw_140 : (.methodLink RX3 25 yX3_known : Cond) ∈ gAll := g_mem 140 rfl rfl
set_option maxRecDepth 20000 in
theorem kw_142 : (.instanceMethod yX3_known : Cond) ∈ gAll := g_mem 142 rfl rfl
set_option maxRecDepth 20000 in
theorem kw_234 : (.methodLink RX3 47 yX3_demandWithin : Cond) ∈ gAll := g_mem 234 rfl rfl
set_option maxRecDepth 20000 in
theorem kw_235 : (.static yX3_demandWithin : Cond) ∈ gAll := g_mem 235 rfl rfl
set_option maxRecDepth 20000 in
theorem kw_267 : (.methodLink RX3 88 yX1_chosenSetting : Cond) ∈ gAll := g_mem 267 rfl rfl
set_option maxRecDepth 20000 in
theorem kw_268 : (.instanceMethod yX1_chosenSetting : Cond) ∈ gAll := g_mem 268 rfl rfl
set_option maxRecDepth 20000 in
theorem kw_269 : (.selects RX1 yX1_chosenSetting yX1_chosenSetting : Cond) ∈ gAll := g_mem 269 rfl rfl
set_option maxRecDepth 20000 in
theorem kw_271 : (.methodLink RX3 92 yX2_pieceAt : Cond) ∈ gAll := g_mem 271 rfl rfl
set_option maxRecDepth 20000 in
theorem kw_272 : (.instanceMethod yX2_pieceAt : Cond) ∈ gAll := g_mem 272 rfl rfl
set_option maxRecDepth 20000 in
theorem kw_273 : (.selects RX2 yX2_pieceAt yX2_pieceAt : Cond) ∈ gAll := g_mem 273 rfl rfl
set_option maxRecDepth 20000 in
theorem kw_275 : (.methodLink RX3 96 yX2_wholeTime : Cond) ∈ gAll := g_mem 275 rfl rfl
set_option maxRecDepth 20000 in
theorem kw_276 : (.instanceMethod yX2_wholeTime : Cond) ∈ gAll := g_mem 276 rfl rfl
set_option maxRecDepth 20000 in
theorem kw_277 : (.selects RX2 yX2_wholeTime yX2_wholeTime : Cond) ∈ gAll := g_mem 277 rfl rfl
set_option maxRecDepth 20000 in
theorem kw_279 : (.methodLink RX2 43 yX2_partsOn : Cond) ∈ gAll := g_mem 279 rfl rfl
set_option maxRecDepth 20000 in
theorem kw_280 : (.instanceMethod yX2_partsOn : Cond) ∈ gAll := g_mem 280 rfl rfl
set_option maxRecDepth 20000 in
theorem kw_281 : (.selects RX2 yX2_partsOn yX2_partsOn : Cond) ∈ gAll := g_mem 281 rfl rfl
set_option maxRecDepth 20000 in
theorem kw_283 : (.methodLink RX2 47 yX2_timeInParts : Cond) ∈ gAll := g_mem 283 rfl rfl
set_option maxRecDepth 20000 in
theorem kw_284 : (.instanceMethod yX2_timeInParts : Cond) ∈ gAll := g_mem 284 rfl rfl
set_option maxRecDepth 20000 in
theorem kw_285 : (.selects RX2 yX2_timeInParts yX2_timeInParts : Cond) ∈ gAll := g_mem 285 rfl rfl
set_option maxRecDepth 20000 in
theorem kw_294 : (.methodLink RX3 100 yX2_startBehind : Cond) ∈ gAll := g_mem 294 rfl rfl
set_option maxRecDepth 20000 in
theorem kw_295 : (.instanceMethod yX2_startBehind : Cond) ∈ gAll := g_mem 295 rfl rfl
set_option maxRecDepth 20000 in
theorem kw_296 : (.selects RX2 yX2_startBehind yX2_startBehind : Cond) ∈ gAll := g_mem 296 rfl rfl
set_option maxRecDepth 20000 in
theorem kw_298 : (.methodLink RX2 31 Lib.Math.min.name : Cond) ∈ gAll := g_mem 298 rfl rfl
set_option maxRecDepth 20000 in
theorem kw_299 : (.static Lib.Math.min.name : Cond) ∈ gAll := g_mem 299 rfl rfl
set_option maxRecDepth 20000 in
theorem kw_300 : (.code Lib.Math.min.name Lib.Math.min.code 2 (some .int) : Cond) ∈ gAll := g_mem 300 rfl rfl
set_option maxRecDepth 20000 in
theorem kw_308 : (.methodLink RX3 103 yX3_demandPair : Cond) ∈ gAll := g_mem 308 rfl rfl
set_option maxRecDepth 20000 in
theorem kw_309 : (.static yX3_demandPair : Cond) ∈ gAll := g_mem 309 rfl rfl
set_option maxRecDepth 20000 in
theorem kw_312 : (.methodLink RX3 106 yX3_firstBroken : Cond) ∈ gAll := g_mem 312 rfl rfl
set_option maxRecDepth 20000 in
theorem kw_313 : (.static yX3_firstBroken : Cond) ∈ gAll := g_mem 313 rfl rfl
set_option maxRecDepth 20000 in
theorem kw_315 : (.methodLink RX3 151 yX3_firstBrokenStretch : Cond) ∈ gAll := g_mem 315 rfl rfl
set_option maxRecDepth 20000 in
theorem kw_316 : (.static yX3_firstBrokenStretch : Cond) ∈ gAll := g_mem 316 rfl rfl
set_option maxRecDepth 20000 in
theorem kw_318 : (.methodLink RX3 158 yX3_stretchEnd : Cond) ∈ gAll := g_mem 318 rfl rfl
set_option maxRecDepth 20000 in
theorem kw_319 : (.static yX3_stretchEnd : Cond) ∈ gAll := g_mem 319 rfl rfl
set_option maxRecDepth 20000 in
theorem kw_321 : (.methodLink RX3 168 Lib.Math.min.name : Cond) ∈ gAll := g_mem 321 rfl rfl
set_option maxRecDepth 20000 in
theorem kw_322 : (.methodLink RX3 154 yX3_isBrokenAt : Cond) ∈ gAll := g_mem 322 rfl rfl
set_option maxRecDepth 20000 in
theorem kw_323 : (.static yX3_isBrokenAt : Cond) ∈ gAll := g_mem 323 rfl rfl
set_option maxRecDepth 20000 in
theorem kw_325 : (.methodLink RX3 138 yX2_isWithin : Cond) ∈ gAll := g_mem 325 rfl rfl
set_option maxRecDepth 20000 in
theorem kw_326 : (.instanceMethod yX2_isWithin : Cond) ∈ gAll := g_mem 326 rfl rfl
set_option maxRecDepth 20000 in
theorem kw_327 : (.selects RX2 yX2_isWithin yX2_isWithin : Cond) ∈ gAll := g_mem 327 rfl rfl
set_option maxRecDepth 20000 in
theorem kw_329 : (.methodLink RX2 51 yX2_pieceAt : Cond) ∈ gAll := g_mem 329 rfl rfl
set_option maxRecDepth 20000 in
theorem kw_330 : (.methodLink RX3 161 yX3_turnIn : Cond) ∈ gAll := g_mem 330 rfl rfl
set_option maxRecDepth 20000 in
theorem kw_331 : (.static yX3_turnIn : Cond) ∈ gAll := g_mem 331 rfl rfl
set_option maxRecDepth 20000 in
theorem kw_340 : (.methodLink RX3 110 yX3_countBroken : Cond) ∈ gAll := g_mem 340 rfl rfl
set_option maxRecDepth 20000 in
theorem kw_341 : (.static yX3_countBroken : Cond) ∈ gAll := g_mem 341 rfl rfl
set_option maxRecDepth 20000 in
theorem kw_343 : (.methodLink RX3 165 yX3_countBrokenIn : Cond) ∈ gAll := g_mem 343 rfl rfl
set_option maxRecDepth 20000 in
theorem kw_344 : (.static yX3_countBrokenIn : Cond) ∈ gAll := g_mem 344 rfl rfl
set_option maxRecDepth 20000 in
theorem kw_392 : (.methodLink RX3 127 yX3_shortCurrent : Cond) ∈ gAll := g_mem 392 rfl rfl
set_option maxRecDepth 20000 in
theorem kw_394 : (.instanceMethod yX3_shortCurrent : Cond) ∈ gAll := g_mem 394 rfl rfl
set_option maxRecDepth 20000 in
theorem kw_396 : (.constantLong RX3 182 5000 : Cond) ∈ gAll := g_mem 396 rfl rfl
set_option maxRecDepth 20000 in
theorem kw_397 : (.constantLong RX3 184 1000 : Cond) ∈ gAll := g_mem 397 rfl rfl
set_option maxRecDepth 20000 in
theorem kw_398 : (.methodLink RX3 186 Lib.MathLoose.min_long.x : Cond) ∈ gAll := g_mem 398 rfl rfl
set_option maxRecDepth 20000 in
theorem kw_399 : (.static Lib.MathLoose.min_long.x : Cond) ∈ gAll := g_mem 399 rfl rfl
set_option maxRecDepth 20000 in
theorem kw_400 : (.code Lib.MathLoose.min_long.x Lib.MathLoose.min_long.code 4 (some .long) : Cond) ∈ gAll := g_mem 400 rfl rfl
set_option maxRecDepth 20000 in
theorem kw_408 : (.constant RX3 133 2147483647 : Cond) ∈ gAll := g_mem 408 rfl rfl
set_option maxRecDepth 20000 in
theorem kw_409 : (.methodLink RX3 134 yX3_quickestOnWay : Cond) ∈ gAll := g_mem 409 rfl rfl
set_option maxRecDepth 20000 in
theorem kw_410 : (.static yX3_quickestOnWay : Cond) ∈ gAll := g_mem 410 rfl rfl
