set_option maxRecDepth 100000 in
theorem zw_246 : Cond.fieldLink "BoardScript" 73 "BoardScript" "length" "I" ∈ zzW := zz_w (i := 319) (by decide +kernel) (by decide +kernel)
set_option maxRecDepth 100000 in
theorem zw_247 : Cond.fieldLink "BoardScript" 9 "BoardScript" "text" "[C" ∈ zzW := zz_w (i := 318) (by decide +kernel) (by decide +kernel)
set_option maxRecDepth 100000 in
theorem zw_248 : Cond.fieldLink "BoardScript$Board" 27 "BoardScript$Board" "objects" "I" ∈ zzW := zz_w (i := 150) (by decide +kernel) (by decide +kernel)
set_option maxRecDepth 100000 in
theorem zw_249 : Cond.fieldLink "BoardScript$Board" 11 "BoardScript$Board" "fields" "[J" ∈ zzW := zz_w (i := 146) (by decide +kernel) (by decide +kernel)
set_option maxRecDepth 100000 in
theorem zw_250 : Cond.fieldLink "BoardScript" 37 "BoardScript" "board" "LBoardScript$Board;" ∈ zzW := zz_w (i := 323) (by decide +kernel) (by decide +kernel)
set_option maxRecDepth 100000 in
theorem zw_251 : Cond.code y_Bd_create prog_3_method_4_code 5 (some .int) ∈ zzW := zz_w (i := 582) rfl rfl
set_option maxRecDepth 100000 in
theorem zw_252 : Cond.initialized "BoardScript$Board" ∈ zzW := zz_w (i := 76) (by decide +kernel) (by decide +kernel)
set_option maxRecDepth 100000 in
theorem zw_253 : Cond.methodLink "BoardScript" 89 y_Bd_create ∈ zzW := zz_w (i := 579) (by decide +kernel) (by decide +kernel)
set_option maxRecDepth 100000 in
theorem zw_254 : Cond.instanceMethod y_Bd_create ∈ zzW := zz_w (i := 580) (by decide +kernel) (by decide +kernel)
set_option maxRecDepth 100000 in
theorem zw_255 : Cond.selects y_Bd_create.cls y_Bd_create y_Bd_create ∈ zzW := zz_w (i := 581) (by decide +kernel) (by decide +kernel)
set_option maxRecDepth 100000 in
theorem zw_256 : Cond.fieldLink "BoardScript$Report" 34 "BoardScript$Report" "found" "I" ∈ zzW := zz_w (i := 218) (by decide +kernel) (by decide +kernel)
set_option maxRecDepth 100000 in
theorem zw_257 : Cond.fieldLink "BoardScript" 53 "BoardScript" "report" "LBoardScript$Report;" ∈ zzW := zz_w (i := 325) (by decide +kernel) (by decide +kernel)
set_option maxRecDepth 100000 in
theorem zw_258 : Cond.code y_Rp_foundAt prog_7_method_7_code 4 (some .int) ∈ zzW := zz_w (i := 590) rfl rfl
set_option maxRecDepth 100000 in
theorem zw_259 : Cond.initialized "BoardScript$Report" ∈ zzW := zz_w (i := 78) (by decide +kernel) (by decide +kernel)
set_option maxRecDepth 100000 in
theorem zw_260 : Cond.methodLink "BoardScript" 119 y_Rp_foundAt ∈ zzW := zz_w (i := 587) (by decide +kernel) (by decide +kernel)
set_option maxRecDepth 100000 in
theorem zw_261 : Cond.instanceMethod y_Rp_foundAt ∈ zzW := zz_w (i := 588) (by decide +kernel) (by decide +kernel)
set_option maxRecDepth 100000 in
theorem zw_262 : Cond.selects y_Rp_foundAt.cls y_Rp_foundAt y_Rp_foundAt ∈ zzW := zz_w (i := 589) (by decide +kernel) (by decide +kernel)
set_option maxRecDepth 100000 in
theorem zw_263 : Cond.fieldLink "BoardScript" 147 "BoardScript$Report" "closingCount" "I" ∈ zzW := zz_w (i := 217) (by decide +kernel) (by decide +kernel)
set_option maxRecDepth 100000 in
theorem zw_264 : Cond.fieldLink "BoardScript" 150 "BoardScript$Report" "closings" "[I" ∈ zzW := zz_w (i := 215) (by decide +kernel) (by decide +kernel)
set_option maxRecDepth 100000 in
theorem zw_265 : Cond.fieldLink "BoardScript" 153 "BoardScript$Report" "putBack" "Z" ∈ zzW := zz_w (i := 222) (by decide +kernel) (by decide +kernel)
set_option maxRecDepth 100000 in
theorem zw_266 : Cond.fieldLink "BoardScript$Reckoner" 22 "BoardScript$Reckoner" "top" "I" ∈ zzW := zz_w (i := 184) (by decide +kernel) (by decide +kernel)
set_option maxRecDepth 100000 in
theorem zw_267 : Cond.fieldLink "BoardScript$Reckoner" 15 "BoardScript$Reckoner" "stack" "[J" ∈ zzW := zz_w (i := 183) (by decide +kernel) (by decide +kernel)
set_option maxRecDepth 100000 in
theorem zw_268 : Cond.fieldLink "BoardScript$Reckoner" 26 "BoardScript$Reckoner" "fault" "I" ∈ zzW := zz_w (i := 185) (by decide +kernel) (by decide +kernel)
set_option maxRecDepth 100000 in
theorem zw_269 : Cond.fieldLink "BoardScript$Board" 31 "BoardScript$Board" "listLength" "I" ∈ zzW := zz_w (i := 156) (by decide +kernel) (by decide +kernel)
set_option maxRecDepth 100000 in
theorem zw_270 : Cond.fieldLink "BoardScript$Reckoner" 18 "BoardScript$Reckoner" "board" "LBoardScript$Board;" ∈ zzW := zz_w (i := 180) (by decide +kernel) (by decide +kernel)
set_option maxRecDepth 100000 in
theorem zw_271 : Cond.fieldLink "BoardScript$Reckoner" 43 "BoardScript$Board" "objects" "I" ∈ zzW := zz_w (i := 151) (by decide +kernel) (by decide +kernel)
set_option maxRecDepth 100000 in
theorem zw_272 : Cond.code y_Rk_push prog_6_method_6_code 3 none ∈ zzW := zz_w (i := 614) rfl rfl
set_option maxRecDepth 100000 in
theorem zw_273 : Cond.initialized "BoardScript$Reckoner" ∈ zzW := zz_w (i := 77) (by decide +kernel) (by decide +kernel)
set_option maxRecDepth 100000 in
theorem zw_274 : Cond.methodLink "BoardScript$Reckoner" 39 y_Rk_push ∈ zzW := zz_w (i := 611) (by decide +kernel) (by decide +kernel)
set_option maxRecDepth 100000 in
theorem zw_275 : Cond.instanceMethod y_Rk_push ∈ zzW := zz_w (i := 613) (by decide +kernel) (by decide +kernel)
set_option maxRecDepth 100000 in
theorem zw_276 : Cond.selects y_Rk_push.cls y_Rk_push y_Rk_push ∈ zzW := zz_w (i := 15) (by decide +kernel) (by decide +kernel)
set_option maxRecDepth 100000 in
theorem zw_277 : Cond.fieldLink "BoardScript$Reckoner" 59 "BoardScript$Board" "places" "[J" ∈ zzW := zz_w (i := 154) (by decide +kernel) (by decide +kernel)
set_option maxRecDepth 100000 in
theorem zw_278 : Cond.code y_Rk_pop prog_6_method_7_code 1 (some .long) ∈ zzW := zz_w (i := 618) rfl rfl
set_option maxRecDepth 100000 in
theorem zw_279 : Cond.methodLink "BoardScript$Reckoner" 35 y_Rk_pop ∈ zzW := zz_w (i := 615) (by decide +kernel) (by decide +kernel)
set_option maxRecDepth 100000 in
theorem zw_280 : Cond.instanceMethod y_Rk_pop ∈ zzW := zz_w (i := 617) (by decide +kernel) (by decide +kernel)
set_option maxRecDepth 100000 in
theorem zw_281 : Cond.selects y_Rk_pop.cls y_Rk_pop y_Rk_pop ∈ zzW := zz_w (i := 16) (by decide +kernel) (by decide +kernel)
set_option maxRecDepth 100000 in
theorem zw_282 : Cond.code y_Bd_placeOf prog_3_method_3_code 3 (some .int) ∈ zzW := zz_w (i := 630) rfl rfl
set_option maxRecDepth 100000 in
theorem zw_283 : Cond.methodLink "BoardScript$Reckoner" 62 y_Bd_placeOf ∈ zzW := zz_w (i := 627) (by decide +kernel) (by decide +kernel)
set_option maxRecDepth 100000 in
theorem zw_284 : Cond.instanceMethod y_Bd_placeOf ∈ zzW := zz_w (i := 628) (by decide +kernel) (by decide +kernel)
set_option maxRecDepth 100000 in
theorem zw_285 : Cond.selects y_Bd_placeOf.cls y_Bd_placeOf y_Bd_placeOf ∈ zzW := zz_w (i := 629) (by decide +kernel) (by decide +kernel)
set_option maxRecDepth 100000 in
theorem zw_286 : Cond.code y_Rk_cell prog_6_method_5_code 3 (some .long) ∈ zzW := zz_w (i := 626) rfl rfl
set_option maxRecDepth 100000 in
theorem zw_287 : Cond.methodLink "BoardScript$Reckoner" 55 y_Rk_cell ∈ zzW := zz_w (i := 623) (by decide +kernel) (by decide +kernel)
set_option maxRecDepth 100000 in
theorem zw_288 : Cond.instanceMethod y_Rk_cell ∈ zzW := zz_w (i := 625) (by decide +kernel) (by decide +kernel)
set_option maxRecDepth 100000 in
theorem zw_289 : Cond.selects y_Rk_cell.cls y_Rk_cell y_Rk_cell ∈ zzW := zz_w (i := 17) (by decide +kernel) (by decide +kernel)
set_option maxRecDepth 100000 in
theorem zw_290 : Cond.fieldLink "BoardScript$Reckoner" 48 "BoardScript$Board" "fields" "[J" ∈ zzW := zz_w (i := 147) (by decide +kernel) (by decide +kernel)
set_option maxRecDepth 100000 in
theorem zw_291 : Cond.code y_Bd_slotOf prog_3_method_2_code 4 (some .int) ∈ zzW := zz_w (i := 622) rfl rfl
set_option maxRecDepth 100000 in
theorem zw_292 : Cond.methodLink "BoardScript$Reckoner" 51 y_Bd_slotOf ∈ zzW := zz_w (i := 619) (by decide +kernel) (by decide +kernel)
set_option maxRecDepth 100000 in
theorem zw_293 : Cond.instanceMethod y_Bd_slotOf ∈ zzW := zz_w (i := 620) (by decide +kernel) (by decide +kernel)
set_option maxRecDepth 100000 in
theorem zw_294 : Cond.selects y_Bd_slotOf.cls y_Bd_slotOf y_Bd_slotOf ∈ zzW := zz_w (i := 621) (by decide +kernel) (by decide +kernel)
set_option maxRecDepth 100000 in
theorem zw_295 : Cond.fieldLink "BoardScript$Reckoner" 11 "BoardScript$Reckoner" "variables" "[J" ∈ zzW := zz_w (i := 181) (by decide +kernel) (by decide +kernel)
set_option maxRecDepth 100000 in
theorem zw_296 : Cond.code y_Rk_joined prog_6_method_4_code 6 (some .long) ∈ zzW := zz_w (i := 634) rfl rfl
set_option maxRecDepth 100000 in
theorem zw_297 : Cond.methodLink "BoardScript$Reckoner" 66 y_Rk_joined ∈ zzW := zz_w (i := 631) (by decide +kernel) (by decide +kernel)
set_option maxRecDepth 100000 in
theorem zw_298 : Cond.instanceMethod y_Rk_joined ∈ zzW := zz_w (i := 633) (by decide +kernel) (by decide +kernel)
set_option maxRecDepth 100000 in
theorem zw_299 : Cond.selects y_Rk_joined.cls y_Rk_joined y_Rk_joined ∈ zzW := zz_w (i := 18) (by decide +kernel) (by decide +kernel)
set_option maxRecDepth 100000 in
theorem zw_300 : Cond.code y_Rk_reckon prog_6_method_3_code 7 none ∈ zzW := zz_w (i := 610) rfl rfl
set_option maxRecDepth 100000 in
theorem zw_301 : Cond.methodLink "BoardScript$Reckoner" 31 y_Rk_reckon ∈ zzW := zz_w (i := 607) (by decide +kernel) (by decide +kernel)
set_option maxRecDepth 100000 in
theorem zw_302 : Cond.instanceMethod y_Rk_reckon ∈ zzW := zz_w (i := 609) (by decide +kernel) (by decide +kernel)
set_option maxRecDepth 100000 in
theorem zw_303 : Cond.selects y_Rk_reckon.cls y_Rk_reckon y_Rk_reckon ∈ zzW := zz_w (i := 14) (by decide +kernel) (by decide +kernel)
set_option maxRecDepth 100000 in
theorem zw_304 : Cond.fieldLink "BoardScript" 157 "BoardScript$Report" "ruleCount" "I" ∈ zzW := zz_w (i := 213) (by decide +kernel) (by decide +kernel)
set_option maxRecDepth 100000 in
theorem zw_305 : Cond.fieldLink "BoardScript" 160 "BoardScript$Report" "rules" "[LBoardScript$Statement;" ∈ zzW := zz_w (i := 211) (by decide +kernel) (by decide +kernel)
set_option maxRecDepth 100000 in
theorem zw_306 : Cond.fieldLink "BoardScript" 46 "BoardScript" "reckoner" "LBoardScript$Reckoner;" ∈ zzW := zz_w (i := 324) (by decide +kernel) (by decide +kernel)
set_option maxRecDepth 100000 in
theorem zw_307 : Cond.fieldLink "BoardScript" 164 "BoardScript$Statement" "expression" "[I" ∈ zzW := zz_w (i := 430) (by decide +kernel) (by decide +kernel)
set_option maxRecDepth 100000 in
theorem zw_308 : Cond.code y_Rk_value prog_6_method_2_code 3 (some .long) ∈ zzW := zz_w (i := 606) rfl rfl
set_option maxRecDepth 100000 in
theorem zw_309 : Cond.methodLink "BoardScript" 167 y_Rk_value ∈ zzW := zz_w (i := 603) (by decide +kernel) (by decide +kernel)
set_option maxRecDepth 100000 in
theorem zw_310 : Cond.instanceMethod y_Rk_value ∈ zzW := zz_w (i := 604) (by decide +kernel) (by decide +kernel)
set_option maxRecDepth 100000 in
theorem zw_311 : Cond.selects y_Rk_value.cls y_Rk_value y_Rk_value ∈ zzW := zz_w (i := 605) (by decide +kernel) (by decide +kernel)
set_option maxRecDepth 100000 in
theorem zw_312 : Cond.fieldLink "BoardScript" 170 "BoardScript$Reckoner" "fault" "I" ∈ zzW := zz_w (i := 187) (by decide +kernel) (by decide +kernel)
set_option maxRecDepth 100000 in
theorem zw_313 : Cond.fieldLink "BoardScript" 173 "BoardScript$Report" "taken" "I" ∈ zzW := zz_w (i := 225) (by decide +kernel) (by decide +kernel)
set_option maxRecDepth 100000 in
theorem zw_314 : Cond.fieldLink "BoardScript" 13 "BoardScript" "failing" "I" ∈ zzW := zz_w (i := 320) (by decide +kernel) (by decide +kernel)
set_option maxRecDepth 100000 in
theorem zw_315 : Cond.constantLong "BoardScript$Board" 34 20 ∈ zzW := zz_w (i := 651) (by decide +kernel) (by decide +kernel)
set_option maxRecDepth 100000 in
theorem zw_316 : Cond.fieldLink "BoardScript$Board" 15 "BoardScript$Board" "places" "[J" ∈ zzW := zz_w (i := 153) (by decide +kernel) (by decide +kernel)
set_option maxRecDepth 100000 in
theorem zw_317 : Cond.code y_Ar_fill prog_24_method_101_code 5 none ∈ zzW := zz_w (i := 654) rfl rfl
set_option maxRecDepth 100000 in
theorem zw_318 : Cond.initialized "java/util/Arrays" ∈ zzW := zz_w (i := 88) (by decide +kernel) (by decide +kernel)
set_option maxRecDepth 100000 in
theorem zw_319 : Cond.methodLink "BoardScript$Board" 36 y_Ar_fill ∈ zzW := zz_w (i := 652) (by decide +kernel) (by decide +kernel)
set_option maxRecDepth 100000 in
theorem zw_320 : Cond.static y_Ar_fill ∈ zzW := zz_w (i := 653) (by decide +kernel) (by decide +kernel)
set_option maxRecDepth 100000 in
theorem zw_321 : Cond.code y_Bd_resize prog_3_method_5_code 3 (some .boolean) ∈ zzW := zz_w (i := 650) rfl rfl
set_option maxRecDepth 100000 in
theorem zw_322 : Cond.methodLink "BoardScript" 176 y_Bd_resize ∈ zzW := zz_w (i := 647) (by decide +kernel) (by decide +kernel)
set_option maxRecDepth 100000 in
theorem zw_323 : Cond.instanceMethod y_Bd_resize ∈ zzW := zz_w (i := 648) (by decide +kernel) (by decide +kernel)
set_option maxRecDepth 100000 in
theorem zw_324 : Cond.selects y_Bd_resize.cls y_Bd_resize y_Bd_resize ∈ zzW := zz_w (i := 649) (by decide +kernel) (by decide +kernel)
set_option maxRecDepth 100000 in
theorem zw_325 : Cond.fieldLink "BoardScript" 135 "BoardScript$Report" "where" "LBoardScript$Statement;" ∈ zzW := zz_w (i := 229) (by decide +kernel) (by decide +kernel)
set_option maxRecDepth 100000 in
theorem zw_326 : Cond.fieldLink "BoardScript" 180 "BoardScript$Statement" "line" "I" ∈ zzW := zz_w (i := 422) (by decide +kernel) (by decide +kernel)
set_option maxRecDepth 100000 in
theorem zw_327 : Cond.fieldLink "BoardScript$Report" 48 "BoardScript$Report" "kind" "I" ∈ zzW := zz_w (i := 226) (by decide +kernel) (by decide +kernel)
set_option maxRecDepth 100000 in
theorem zw_328 : Cond.fieldLink "BoardScript$Report" 51 "BoardScript$Report" "where" "LBoardScript$Statement;" ∈ zzW := zz_w (i := 228) (by decide +kernel) (by decide +kernel)
set_option maxRecDepth 100000 in
theorem zw_329 : Cond.fieldLink "BoardScript$Report" 55 "BoardScript$Report" "value" "I" ∈ zzW := zz_w (i := 230) (by decide +kernel) (by decide +kernel)
set_option maxRecDepth 100000 in
theorem zw_330 : Cond.fieldLink "BoardScript$Report" 24 "BoardScript$Report" "outputCount" "I" ∈ zzW := zz_w (i := 208) (by decide +kernel) (by decide +kernel)
set_option maxRecDepth 100000 in
theorem zw_331 : Cond.fieldLink "BoardScript$Report" 28 "BoardScript$Report" "ruleCount" "I" ∈ zzW := zz_w (i := 212) (by decide +kernel) (by decide +kernel)
set_option maxRecDepth 100000 in
theorem zw_332 : Cond.fieldLink "BoardScript$Report" 31 "BoardScript$Report" "closingCount" "I" ∈ zzW := zz_w (i := 216) (by decide +kernel) (by decide +kernel)
set_option maxRecDepth 100000 in
theorem zw_333 : Cond.fieldLink "BoardScript$Report" 37 "BoardScript$Report" "putBack" "Z" ∈ zzW := zz_w (i := 220) (by decide +kernel) (by decide +kernel)
set_option maxRecDepth 100000 in
theorem zw_334 : Cond.fieldLink "BoardScript$Report" 41 "BoardScript$Report" "taken" "I" ∈ zzW := zz_w (i := 223) (by decide +kernel) (by decide +kernel)
set_option maxRecDepth 100000 in
theorem zw_335 : Cond.code y_Rp_note prog_7_method_3_code 4 none ∈ zzW := zz_w (i := 574) rfl rfl
set_option maxRecDepth 100000 in
theorem zw_336 : Cond.methodLink "BoardScript$Report" 44 y_Rp_note ∈ zzW := zz_w (i := 571) (by decide +kernel) (by decide +kernel)
set_option maxRecDepth 100000 in
theorem zw_337 : Cond.instanceMethod y_Rp_note ∈ zzW := zz_w (i := 572) (by decide +kernel) (by decide +kernel)
set_option maxRecDepth 100000 in
theorem zw_338 : Cond.selects y_Rp_note.cls y_Rp_note y_Rp_note ∈ zzW := zz_w (i := 573) (by decide +kernel) (by decide +kernel)
set_option maxRecDepth 100000 in
theorem zw_339 : Cond.fieldLink "BoardScript" 27 "BoardScript" "blank" "LBoardScript$Script;" ∈ zzW := zz_w (i := 321) (by decide +kernel) (by decide +kernel)
set_option maxRecDepth 100000 in
theorem zw_340 : Cond.fieldLink "BoardScript" 31 "BoardScript" "script" "LBoardScript$Script;" ∈ zzW := zz_w (i := 322) (by decide +kernel) (by decide +kernel)
set_option maxRecDepth 100000 in
theorem zw_341 : Cond.code y_Bd_empty prog_3_method_8_code 1 none ∈ zzW := zz_w (i := 666) rfl rfl
set_option maxRecDepth 100000 in
theorem zw_342 : Cond.methodLink "BoardScript" 183 y_Bd_empty ∈ zzW := zz_w (i := 663) (by decide +kernel) (by decide +kernel)
set_option maxRecDepth 100000 in
theorem zw_343 : Cond.instanceMethod y_Bd_empty ∈ zzW := zz_w (i := 664) (by decide +kernel) (by decide +kernel)
set_option maxRecDepth 100000 in
theorem zw_344 : Cond.selects y_Bd_empty.cls y_Bd_empty y_Bd_empty ∈ zzW := zz_w (i := 665) (by decide +kernel) (by decide +kernel)
set_option maxRecDepth 100000 in
theorem zw_345 : Cond.code y_Rp_forget prog_7_method_2_code 1 none ∈ zzW := zz_w (i := 570) rfl rfl
set_option maxRecDepth 100000 in
theorem zw_346 : Cond.methodLink "BoardScript" 83 y_Rp_forget ∈ zzW := zz_w (i := 567) (by decide +kernel) (by decide +kernel)
set_option maxRecDepth 100000 in
theorem zw_347 : Cond.instanceMethod y_Rp_forget ∈ zzW := zz_w (i := 568) (by decide +kernel) (by decide +kernel)
set_option maxRecDepth 100000 in
theorem zw_348 : Cond.selects y_Rp_forget.cls y_Rp_forget y_Rp_forget ∈ zzW := zz_w (i := 569) (by decide +kernel) (by decide +kernel)
set_option maxRecDepth 100000 in
theorem zw_349 : Cond.fieldLink "BoardScript$Script" 13 "BoardScript$Script" "functions" "[LBoardScript$Statement;" ∈ zzW := zz_w (i := 128) (by decide +kernel) (by decide +kernel)
set_option maxRecDepth 100000 in
theorem zw_350 : Cond.fieldLink "BoardScript$Block" 7 "BoardScript$Block" "last" "LBoardScript$Statement;" ∈ zzW := zz_w (i := 113) (by decide +kernel) (by decide +kernel)
set_option maxRecDepth 100000 in
theorem zw_351 : Cond.fieldLink "BoardScript$Block" 13 "BoardScript$Block" "first" "LBoardScript$Statement;" ∈ zzW := zz_w (i := 111) (by decide +kernel) (by decide +kernel)
set_option maxRecDepth 100000 in
theorem zw_352 : Cond.fieldLink "BoardScript$Block" 16 "BoardScript$Statement" "next" "LBoardScript$Statement;" ∈ zzW := zz_w (i := 435) (by decide +kernel) (by decide +kernel)
set_option maxRecDepth 100000 in
theorem zw_353 : Cond.fieldLink "BoardScript$Board" 23 "BoardScript$Board" "keptObjects" "[I" ∈ zzW := zz_w (i := 158) (by decide +kernel) (by decide +kernel)
set_option maxRecDepth 100000 in
theorem zw_354 : Cond.fieldLink "BoardScript$Board" 20 "BoardScript$Board" "kept" "[[J" ∈ zzW := zz_w (i := 157) (by decide +kernel) (by decide +kernel)
set_option maxRecDepth 100000 in
theorem zw_355 : Cond.methodLink "BoardScript$Board" 42 arraycopyName ∈ zzW := zz_w (i := 807) (by decide +kernel) (by decide +kernel)
set_option maxRecDepth 100000 in
theorem zw_356 : Cond.native arraycopyName ∈ zzW := zz_w (i := 552) (by decide +kernel) (by decide +kernel)
set_option maxRecDepth 100000 in
theorem zw_357 : Cond.static arraycopyName ∈ zzW := zz_w (i := 551) (by decide +kernel) (by decide +kernel)
set_option maxRecDepth 100000 in
theorem zw_358 : Cond.initialized "java/lang/System" ∈ zzW := zz_w (i := 89) (by decide +kernel) (by decide +kernel)
set_option maxRecDepth 100000 in
theorem zw_359 : Cond.fieldLink "BoardScript$Report" 11 "BoardScript$Report" "outputs" "[I" ∈ zzW := zz_w (i := 206) (by decide +kernel) (by decide +kernel)
set_option maxRecDepth 100000 in
theorem zw_360 : Cond.fieldLink "BoardScript$Report" 17 "BoardScript$Report" "rules" "[LBoardScript$Statement;" ∈ zzW := zz_w (i := 210) (by decide +kernel) (by decide +kernel)
set_option maxRecDepth 100000 in
theorem zw_361 : Cond.fieldLink "BoardScript$Report" 21 "BoardScript$Report" "closings" "[I" ∈ zzW := zz_w (i := 214) (by decide +kernel) (by decide +kernel)
set_option maxRecDepth 100000 in
theorem zw_362 : Cond.fieldLink "BoardScript$Reader" 35 "BoardScript$Reader" "here" "I" ∈ zzW := zz_w (i := 266) (by decide +kernel) (by decide +kernel)
set_option maxRecDepth 100000 in
theorem zw_363 : Cond.fieldLink "BoardScript$Reader" 31 "BoardScript$Reader" "length" "I" ∈ zzW := zz_w (i := 265) (by decide +kernel) (by decide +kernel)
set_option maxRecDepth 100000 in
theorem zw_364 : Cond.fieldLink "BoardScript$Reader" 9 "BoardScript$Reader" "text" "[C" ∈ zzW := zz_w (i := 264) (by decide +kernel) (by decide +kernel)
set_option maxRecDepth 100000 in
theorem zw_365 : Cond.fieldLink "BoardScript$Reader" 38 "BoardScript$Reader" "line" "I" ∈ zzW := zz_w (i := 268) (by decide +kernel) (by decide +kernel)
set_option maxRecDepth 100000 in
theorem zw_366 : Cond.code y_Rd_peek prog_5_method_3_code 1 (some .char) ∈ zzW := zz_w (i := 377) rfl rfl
set_option maxRecDepth 100000 in
theorem zw_367 : Cond.initialized "BoardScript$Reader" ∈ zzW := zz_w (i := 79) (by decide +kernel) (by decide +kernel)
set_option maxRecDepth 100000 in
theorem zw_368 : Cond.methodLink "BoardScript$Reader" 59 y_Rd_peek ∈ zzW := zz_w (i := 374) (by decide +kernel) (by decide +kernel)
set_option maxRecDepth 100000 in
theorem zw_369 : Cond.instanceMethod y_Rd_peek ∈ zzW := zz_w (i := 376) (by decide +kernel) (by decide +kernel)
set_option maxRecDepth 100000 in
theorem zw_370 : Cond.selects y_Rd_peek.cls y_Rd_peek y_Rd_peek ∈ zzW := zz_w (i := 2) (by decide +kernel) (by decide +kernel)
set_option maxRecDepth 100000 in
theorem zw_371 : Cond.code y_Rd_isFunction prog_5_method_21_code 1 (some .boolean) ∈ zzW := zz_w (i := 391) rfl rfl
set_option maxRecDepth 100000 in
theorem zw_372 : Cond.methodLink "BoardScript$Reader" 103 y_Rd_isFunction ∈ zzW := zz_w (i := 389) (by decide +kernel) (by decide +kernel)
set_option maxRecDepth 100000 in
theorem zw_373 : Cond.static y_Rd_isFunction ∈ zzW := zz_w (i := 390) (by decide +kernel) (by decide +kernel)
set_option maxRecDepth 100000 in
theorem zw_374 : Cond.fieldLink "BoardScript$Reader" 154 "BoardScript$Statement" "operand" "I" ∈ zzW := zz_w (i := 424) (by decide +kernel) (by decide +kernel)
set_option maxRecDepth 100000 in
theorem zw_375 : Cond.fieldLink "BoardScript$Reader" 172 "BoardScript$Statement" "place" "I" ∈ zzW := zz_w (i := 420) (by decide +kernel) (by decide +kernel)
set_option maxRecDepth 100000 in
theorem zw_376 : Cond.fieldLink "BoardScript$Reader" 17 "BoardScript$Reader" "functions" "[LBoardScript$Statement;" ∈ zzW := zz_w (i := 270) (by decide +kernel) (by decide +kernel)
set_option maxRecDepth 100000 in
theorem zw_377 : Cond.fieldLink "BoardScript$Reader" 128 "BoardScript$Reader" "size" "I" ∈ zzW := zz_w (i := 272) (by decide +kernel) (by decide +kernel)
set_option maxRecDepth 100000 in
theorem zw_378 : Cond.fieldLink "BoardScript$Reader" 21 "BoardScript$Reader" "code" "[I" ∈ zzW := zz_w (i := 271) (by decide +kernel) (by decide +kernel)
set_option maxRecDepth 100000 in
theorem zw_379 : Cond.fieldLink "BoardScript$Walk" 19 "BoardScript$Walk" "report" "LBoardScript$Report;" ∈ zzW := zz_w (i := 298) (by decide +kernel) (by decide +kernel)
set_option maxRecDepth 100000 in
theorem zw_380 : Cond.fieldLink "BoardScript$Walk" 123 "BoardScript$Report" "taken" "I" ∈ zzW := zz_w (i := 224) (by decide +kernel) (by decide +kernel)
set_option maxRecDepth 100000 in
theorem zw_381 : Cond.fieldLink "BoardScript$Walk" 27 "BoardScript$Walk" "limit" "I" ∈ zzW := zz_w (i := 300) (by decide +kernel) (by decide +kernel)
set_option maxRecDepth 100000 in
theorem zw_382 : Cond.methodLink "BoardScript$Walk" 64 y_Rp_note ∈ zzW := zz_w (i := 794) (by decide +kernel) (by decide +kernel)
set_option maxRecDepth 100000 in
theorem zw_383 : Cond.fieldLink "BoardScript$Walk" 15 "BoardScript$Walk" "reckoner" "LBoardScript$Reckoner;" ∈ zzW := zz_w (i := 297) (by decide +kernel) (by decide +kernel)
set_option maxRecDepth 100000 in
theorem zw_384 : Cond.fieldLink "BoardScript$Walk" 171 "BoardScript$Statement" "target" "[I" ∈ zzW := zz_w (i := 427) (by decide +kernel) (by decide +kernel)
set_option maxRecDepth 100000 in
theorem zw_385 : Cond.methodLink "BoardScript$Walk" 130 y_Rk_value ∈ zzW := zz_w (i := 789) (by decide +kernel) (by decide +kernel)
set_option maxRecDepth 100000 in
theorem zw_386 : Cond.fieldLink "BoardScript$Walk" 134 "BoardScript$Reckoner" "fault" "I" ∈ zzW := zz_w (i := 186) (by decide +kernel) (by decide +kernel)
set_option maxRecDepth 100000 in
theorem zw_387 : Cond.fieldLink "BoardScript$Walk" 9 "BoardScript$Walk" "board" "LBoardScript$Board;" ∈ zzW := zz_w (i := 296) (by decide +kernel) (by decide +kernel)
set_option maxRecDepth 100000 in
theorem zw_388 : Cond.fieldLink "BoardScript$Walk" 164 "BoardScript$Statement" "operand" "I" ∈ zzW := zz_w (i := 425) (by decide +kernel) (by decide +kernel)
set_option maxRecDepth 100000 in
theorem zw_389 : Cond.methodLink "BoardScript$Walk" 174 y_Bd_slotOf ∈ zzW := zz_w (i := 832) (by decide +kernel) (by decide +kernel)
set_option maxRecDepth 100000 in
theorem zw_390 : Cond.fieldLink "BoardScript$Walk" 126 "BoardScript$Statement" "expression" "[I" ∈ zzW := zz_w (i := 428) (by decide +kernel) (by decide +kernel)
set_option maxRecDepth 100000 in
theorem zw_391 : Cond.fieldLink "BoardScript$Walk" 178 "BoardScript$Board" "fields" "[J" ∈ zzW := zz_w (i := 149) (by decide +kernel) (by decide +kernel)
set_option maxRecDepth 100000 in
theorem zw_392 : Cond.code y_Wk_fail prog_10_method_6_code 4 (some .int) ∈ zzW := zz_w (i := 793) rfl rfl
set_option maxRecDepth 100000 in
theorem zw_393 : Cond.initialized "BoardScript$Walk" ∈ zzW := zz_w (i := 80) (by decide +kernel) (by decide +kernel)
set_option maxRecDepth 100000 in
theorem zw_394 : Cond.methodLink "BoardScript$Walk" 137 y_Wk_fail ∈ zzW := zz_w (i := 790) (by decide +kernel) (by decide +kernel)
set_option maxRecDepth 100000 in
theorem zw_395 : Cond.instanceMethod y_Wk_fail ∈ zzW := zz_w (i := 792) (by decide +kernel) (by decide +kernel)
set_option maxRecDepth 100000 in
theorem zw_396 : Cond.selects y_Wk_fail.cls y_Wk_fail y_Wk_fail ∈ zzW := zz_w (i := 24) (by decide +kernel) (by decide +kernel)
set_option maxRecDepth 100000 in
theorem zw_397 : Cond.methodLink "BoardScript$Walk" 181 y_Bd_placeOf ∈ zzW := zz_w (i := 837) (by decide +kernel) (by decide +kernel)
set_option maxRecDepth 100000 in
theorem zw_398 : Cond.fieldLink "BoardScript$Walk" 185 "BoardScript$Board" "places" "[J" ∈ zzW := zz_w (i := 155) (by decide +kernel) (by decide +kernel)
set_option maxRecDepth 100000 in
theorem zw_399 : Cond.fieldLink "BoardScript$Walk" 37 "BoardScript$Reckoner" "variables" "[J" ∈ zzW := zz_w (i := 182) (by decide +kernel) (by decide +kernel)
set_option maxRecDepth 100000 in
theorem zw_400 : Cond.fieldLink "BoardScript$Walk" 188 "BoardScript$Board" "objects" "I" ∈ zzW := zz_w (i := 152) (by decide +kernel) (by decide +kernel)
set_option maxRecDepth 100000 in
theorem zw_401 : Cond.fieldLink "BoardScript$Walk" 191 "BoardScript$Report" "found" "I" ∈ zzW := zz_w (i := 219) (by decide +kernel) (by decide +kernel)
set_option maxRecDepth 100000 in
theorem zw_402 : Cond.fieldLink "BoardScript$Walk" 83 "BoardScript$Statement" "kind" "C" ∈ zzW := zz_w (i := 416) (by decide +kernel) (by decide +kernel)
set_option maxRecDepth 100000 in
theorem zw_403 : Cond.code y_Rp_addOutput prog_7_method_4_code 2 none ∈ zzW := zz_w (i := 853) rfl rfl
set_option maxRecDepth 100000 in
theorem zw_404 : Cond.methodLink "BoardScript$Walk" 194 y_Rp_addOutput ∈ zzW := zz_w (i := 850) (by decide +kernel) (by decide +kernel)
set_option maxRecDepth 100000 in
theorem zw_405 : Cond.instanceMethod y_Rp_addOutput ∈ zzW := zz_w (i := 851) (by decide +kernel) (by decide +kernel)
set_option maxRecDepth 100000 in
theorem zw_406 : Cond.selects y_Rp_addOutput.cls y_Rp_addOutput y_Rp_addOutput ∈ zzW := zz_w (i := 852) (by decide +kernel) (by decide +kernel)
set_option maxRecDepth 100000 in
theorem zw_407 : Cond.methodLink "BoardScript$Walk" 197 y_Bd_create ∈ zzW := zz_w (i := 854) (by decide +kernel) (by decide +kernel)
set_option maxRecDepth 100000 in
theorem zw_408 : Cond.methodLink "BoardScript$Walk" 200 y_Bd_resize ∈ zzW := zz_w (i := 855) (by decide +kernel) (by decide +kernel)
set_option maxRecDepth 100000 in
theorem zw_409 : Cond.code y_Rd_ranked prog_5_method_14_code 6 (some .boolean) ∈ zzW := zz_w (i := 527) rfl rfl
set_option maxRecDepth 100000 in
theorem zw_410 : Cond.methodLink "BoardScript$Reader" 144 y_Rd_ranked ∈ zzW := zz_w (i := 524) (by decide +kernel) (by decide +kernel)
set_option maxRecDepth 100000 in
theorem zw_411 : Cond.instanceMethod y_Rd_ranked ∈ zzW := zz_w (i := 526) (by decide +kernel) (by decide +kernel)
set_option maxRecDepth 100000 in
theorem zw_412 : Cond.selects y_Rd_ranked.cls y_Rd_ranked y_Rd_ranked ∈ zzW := zz_w (i := 9) (by decide +kernel) (by decide +kernel)
set_option maxRecDepth 100000 in
theorem zw_413 : Cond.code y_Rd_atom prog_5_method_16_code 4 (some .boolean) ∈ zzW := zz_w (i := 512) rfl rfl
set_option maxRecDepth 100000 in
theorem zw_414 : Cond.methodLink "BoardScript$Reader" 131 y_Rd_atom ∈ zzW := zz_w (i := 509) (by decide +kernel) (by decide +kernel)
set_option maxRecDepth 100000 in
theorem zw_415 : Cond.instanceMethod y_Rd_atom ∈ zzW := zz_w (i := 511) (by decide +kernel) (by decide +kernel)
set_option maxRecDepth 100000 in
theorem zw_416 : Cond.selects y_Rd_atom.cls y_Rd_atom y_Rd_atom ∈ zzW := zz_w (i := 6) (by decide +kernel) (by decide +kernel)
set_option maxRecDepth 100000 in
theorem zw_417 : Cond.code y_Rd_joins prog_5_method_15_code 2 (some .boolean) ∈ zzW := zz_w (i := 530) rfl rfl
set_option maxRecDepth 100000 in
theorem zw_418 : Cond.methodLink "BoardScript$Reader" 180 y_Rd_joins ∈ zzW := zz_w (i := 528) (by decide +kernel) (by decide +kernel)
set_option maxRecDepth 100000 in
theorem zw_419 : Cond.static y_Rd_joins ∈ zzW := zz_w (i := 529) (by decide +kernel) (by decide +kernel)
set_option maxRecDepth 100000 in
theorem zw_420 : Cond.code y_Rd_emit prog_5_method_18_code 3 (some .boolean) ∈ zzW := zz_w (i := 523) rfl rfl
set_option maxRecDepth 100000 in
theorem zw_421 : Cond.methodLink "BoardScript$Reader" 184 y_Rd_emit ∈ zzW := zz_w (i := 520) (by decide +kernel) (by decide +kernel)
set_option maxRecDepth 100000 in
theorem zw_422 : Cond.instanceMethod y_Rd_emit ∈ zzW := zz_w (i := 522) (by decide +kernel) (by decide +kernel)
set_option maxRecDepth 100000 in
theorem zw_423 : Cond.selects y_Rd_emit.cls y_Rd_emit y_Rd_emit ∈ zzW := zz_w (i := 8) (by decide +kernel) (by decide +kernel)
set_option maxRecDepth 100000 in
theorem zw_424 : Cond.code y_Rd_isDigit prog_5_method_19_code 1 (some .boolean) ∈ zzW := zz_w (i := 515) rfl rfl
set_option maxRecDepth 100000 in
theorem zw_425 : Cond.methodLink "BoardScript$Reader" 188 y_Rd_isDigit ∈ zzW := zz_w (i := 513) (by decide +kernel) (by decide +kernel)
set_option maxRecDepth 100000 in
theorem zw_426 : Cond.static y_Rd_isDigit ∈ zzW := zz_w (i := 514) (by decide +kernel) (by decide +kernel)
set_option maxRecDepth 100000 in
theorem zw_427 : Cond.code y_Rd_isVariable prog_5_method_20_code 1 (some .boolean) ∈ zzW := zz_w (i := 387) rfl rfl
set_option maxRecDepth 100000 in
theorem zw_428 : Cond.methodLink "BoardScript$Reader" 96 y_Rd_isVariable ∈ zzW := zz_w (i := 385) (by decide +kernel) (by decide +kernel)
set_option maxRecDepth 100000 in
theorem zw_429 : Cond.static y_Rd_isVariable ∈ zzW := zz_w (i := 386) (by decide +kernel) (by decide +kernel)
set_option maxRecDepth 100000 in
theorem zw_430 : Cond.code y_Rd_take prog_5_method_4_code 2 (some .boolean) ∈ zzW := zz_w (i := 534) rfl rfl
set_option maxRecDepth 100000 in
theorem zw_431 : Cond.methodLink "BoardScript$Reader" 175 y_Rd_take ∈ zzW := zz_w (i := 531) (by decide +kernel) (by decide +kernel)
set_option maxRecDepth 100000 in
theorem zw_432 : Cond.instanceMethod y_Rd_take ∈ zzW := zz_w (i := 533) (by decide +kernel) (by decide +kernel)
set_option maxRecDepth 100000 in
theorem zw_433 : Cond.selects y_Rd_take.cls y_Rd_take y_Rd_take ∈ zzW := zz_w (i := 10) (by decide +kernel) (by decide +kernel)
set_option maxRecDepth 100000 in
theorem zw_434 : Cond.code y_Rd_fieldDigit prog_5_method_13_code 2 (some .int) ∈ zzW := zz_w (i := 538) rfl rfl
set_option maxRecDepth 100000 in
theorem zw_435 : Cond.methodLink "BoardScript$Reader" 151 y_Rd_fieldDigit ∈ zzW := zz_w (i := 535) (by decide +kernel) (by decide +kernel)
set_option maxRecDepth 100000 in
theorem zw_436 : Cond.instanceMethod y_Rd_fieldDigit ∈ zzW := zz_w (i := 537) (by decide +kernel) (by decide +kernel)
set_option maxRecDepth 100000 in
theorem zw_437 : Cond.selects y_Rd_fieldDigit.cls y_Rd_fieldDigit y_Rd_fieldDigit ∈ zzW := zz_w (i := 11) (by decide +kernel) (by decide +kernel)
set_option maxRecDepth 100000 in
theorem zw_438 : Cond.code y_Rd_number prog_5_method_17_code 4 (some .int) ∈ zzW := zz_w (i := 519) rfl rfl
set_option maxRecDepth 100000 in
theorem zw_439 : Cond.methodLink "BoardScript$Reader" 193 y_Rd_number ∈ zzW := zz_w (i := 516) (by decide +kernel) (by decide +kernel)
set_option maxRecDepth 100000 in
theorem zw_440 : Cond.instanceMethod y_Rd_number ∈ zzW := zz_w (i := 518) (by decide +kernel) (by decide +kernel)
set_option maxRecDepth 100000 in
theorem zw_441 : Cond.selects y_Rd_number.cls y_Rd_number y_Rd_number ∈ zzW := zz_w (i := 7) (by decide +kernel) (by decide +kernel)
set_option maxRecDepth 100000 in
theorem zw_442 : Cond.fieldLink "BoardScript$Walk" 68 "BoardScript$Block" "first" "LBoardScript$Statement;" ∈ zzW := zz_w (i := 112) (by decide +kernel) (by decide +kernel)
set_option maxRecDepth 100000 in
theorem zw_443 : Cond.code y_Wk_statement prog_10_method_4_code 4 (some .int) ∈ zzW := zz_w (i := 780) rfl rfl
set_option maxRecDepth 100000 in
theorem zw_444 : Cond.methodLink "BoardScript$Walk" 74 y_Wk_statement ∈ zzW := zz_w (i := 777) (by decide +kernel) (by decide +kernel)
set_option maxRecDepth 100000 in
theorem zw_445 : Cond.instanceMethod y_Wk_statement ∈ zzW := zz_w (i := 779) (by decide +kernel) (by decide +kernel)
set_option maxRecDepth 100000 in
theorem zw_446 : Cond.selects y_Wk_statement.cls y_Wk_statement y_Wk_statement ∈ zzW := zz_w (i := 21) (by decide +kernel) (by decide +kernel)
set_option maxRecDepth 100000 in
theorem zw_447 : Cond.fieldLink "BoardScript$Walk" 78 "BoardScript$Statement" "next" "LBoardScript$Statement;" ∈ zzW := zz_w (i := 436) (by decide +kernel) (by decide +kernel)
set_option maxRecDepth 100000 in
theorem zw_448 : Cond.code y_Wk_step prog_10_method_5_code 1 (some .boolean) ∈ zzW := zz_w (i := 784) rfl rfl
set_option maxRecDepth 100000 in
theorem zw_449 : Cond.methodLink "BoardScript$Walk" 87 y_Wk_step ∈ zzW := zz_w (i := 781) (by decide +kernel) (by decide +kernel)
set_option maxRecDepth 100000 in
theorem zw_450 : Cond.instanceMethod y_Wk_step ∈ zzW := zz_w (i := 783) (by decide +kernel) (by decide +kernel)
set_option maxRecDepth 100000 in
theorem zw_451 : Cond.selects y_Wk_step.cls y_Wk_step y_Wk_step ∈ zzW := zz_w (i := 22) (by decide +kernel) (by decide +kernel)
set_option maxRecDepth 100000 in
theorem zw_452 : Cond.code y_Rp_addRule prog_7_method_5_code 2 none ∈ zzW := zz_w (i := 845) rfl rfl
set_option maxRecDepth 100000 in
theorem zw_453 : Cond.methodLink "BoardScript$Walk" 116 y_Rp_addRule ∈ zzW := zz_w (i := 842) (by decide +kernel) (by decide +kernel)
set_option maxRecDepth 100000 in
theorem zw_454 : Cond.instanceMethod y_Rp_addRule ∈ zzW := zz_w (i := 843) (by decide +kernel) (by decide +kernel)
set_option maxRecDepth 100000 in
theorem zw_455 : Cond.selects y_Rp_addRule.cls y_Rp_addRule y_Rp_addRule ∈ zzW := zz_w (i := 844) (by decide +kernel) (by decide +kernel)
set_option maxRecDepth 100000 in
theorem zw_456 : Cond.code y_Wk_setPlace prog_10_method_13_code 7 (some .int) ∈ zzW := zz_w (i := 836) rfl rfl
set_option maxRecDepth 100000 in
theorem zw_457 : Cond.methodLink "BoardScript$Walk" 110 y_Wk_setPlace ∈ zzW := zz_w (i := 833) (by decide +kernel) (by decide +kernel)
set_option maxRecDepth 100000 in
theorem zw_458 : Cond.instanceMethod y_Wk_setPlace ∈ zzW := zz_w (i := 835) (by decide +kernel) (by decide +kernel)
set_option maxRecDepth 100000 in
theorem zw_459 : Cond.selects y_Wk_setPlace.cls y_Wk_setPlace y_Wk_setPlace ∈ zzW := zz_w (i := 30) (by decide +kernel) (by decide +kernel)
set_option maxRecDepth 100000 in
theorem zw_460 : Cond.code y_Wk_loop prog_10_method_8_code 8 (some .int) ∈ zzW := zz_w (i := 798) rfl rfl
set_option maxRecDepth 100000 in
theorem zw_461 : Cond.methodLink "BoardScript$Walk" 94 y_Wk_loop ∈ zzW := zz_w (i := 795) (by decide +kernel) (by decide +kernel)
set_option maxRecDepth 100000 in
theorem zw_462 : Cond.instanceMethod y_Wk_loop ∈ zzW := zz_w (i := 797) (by decide +kernel) (by decide +kernel)
set_option maxRecDepth 100000 in
theorem zw_463 : Cond.selects y_Wk_loop.cls y_Wk_loop y_Wk_loop ∈ zzW := zz_w (i := 25) (by decide +kernel) (by decide +kernel)
set_option maxRecDepth 100000 in
theorem zw_464 : Cond.code y_Wk_branch prog_10_method_7_code 6 (some .int) ∈ zzW := zz_w (i := 788) rfl rfl
set_option maxRecDepth 100000 in
theorem zw_465 : Cond.methodLink "BoardScript$Walk" 91 y_Wk_branch ∈ zzW := zz_w (i := 785) (by decide +kernel) (by decide +kernel)
set_option maxRecDepth 100000 in
theorem zw_466 : Cond.instanceMethod y_Wk_branch ∈ zzW := zz_w (i := 787) (by decide +kernel) (by decide +kernel)
set_option maxRecDepth 100000 in
theorem zw_467 : Cond.selects y_Wk_branch.cls y_Wk_branch y_Wk_branch ∈ zzW := zz_w (i := 23) (by decide +kernel) (by decide +kernel)
set_option maxRecDepth 100000 in
theorem zw_468 : Cond.code y_Wk_setField prog_10_method_12_code 7 (some .int) ∈ zzW := zz_w (i := 831) rfl rfl
set_option maxRecDepth 100000 in
theorem zw_469 : Cond.methodLink "BoardScript$Walk" 106 y_Wk_setField ∈ zzW := zz_w (i := 828) (by decide +kernel) (by decide +kernel)
set_option maxRecDepth 100000 in
theorem zw_470 : Cond.instanceMethod y_Wk_setField ∈ zzW := zz_w (i := 830) (by decide +kernel) (by decide +kernel)
set_option maxRecDepth 100000 in
theorem zw_471 : Cond.selects y_Wk_setField.cls y_Wk_setField y_Wk_setField ∈ zzW := zz_w (i := 29) (by decide +kernel) (by decide +kernel)
set_option maxRecDepth 100000 in
theorem zw_472 : Cond.code y_Wk_call prog_10_method_11_code 5 (some .int) ∈ zzW := zz_w (i := 823) rfl rfl
set_option maxRecDepth 100000 in
theorem zw_473 : Cond.methodLink "BoardScript$Walk" 103 y_Wk_call ∈ zzW := zz_w (i := 820) (by decide +kernel) (by decide +kernel)
set_option maxRecDepth 100000 in
theorem zw_474 : Cond.instanceMethod y_Wk_call ∈ zzW := zz_w (i := 822) (by decide +kernel) (by decide +kernel)
set_option maxRecDepth 100000 in
theorem zw_475 : Cond.selects y_Wk_call.cls y_Wk_call y_Wk_call ∈ zzW := zz_w (i := 28) (by decide +kernel) (by decide +kernel)
set_option maxRecDepth 100000 in
theorem zw_476 : Cond.code y_Wk_act prog_10_method_9_code 6 (some .int) ∈ zzW := zz_w (i := 802) rfl rfl
set_option maxRecDepth 100000 in
theorem zw_477 : Cond.methodLink "BoardScript$Walk" 97 y_Wk_act ∈ zzW := zz_w (i := 799) (by decide +kernel) (by decide +kernel)
set_option maxRecDepth 100000 in
theorem zw_478 : Cond.instanceMethod y_Wk_act ∈ zzW := zz_w (i := 801) (by decide +kernel) (by decide +kernel)
set_option maxRecDepth 100000 in
theorem zw_479 : Cond.selects y_Wk_act.cls y_Wk_act y_Wk_act ∈ zzW := zz_w (i := 26) (by decide +kernel) (by decide +kernel)
set_option maxRecDepth 100000 in
theorem zw_480 : Cond.code y_Wk_ask prog_10_method_14_code 8 (some .int) ∈ zzW := zz_w (i := 841) rfl rfl
set_option maxRecDepth 100000 in
theorem zw_481 : Cond.methodLink "BoardScript$Walk" 113 y_Wk_ask ∈ zzW := zz_w (i := 838) (by decide +kernel) (by decide +kernel)
set_option maxRecDepth 100000 in
theorem zw_482 : Cond.instanceMethod y_Wk_ask ∈ zzW := zz_w (i := 840) (by decide +kernel) (by decide +kernel)
set_option maxRecDepth 100000 in
theorem zw_483 : Cond.selects y_Wk_ask.cls y_Wk_ask y_Wk_ask ∈ zzW := zz_w (i := 31) (by decide +kernel) (by decide +kernel)
set_option maxRecDepth 100000 in
theorem zw_484 : Cond.code y_Wk_closing prog_10_method_10_code 6 (some .int) ∈ zzW := zz_w (i := 815) rfl rfl
set_option maxRecDepth 100000 in
theorem zw_485 : Cond.methodLink "BoardScript$Walk" 100 y_Wk_closing ∈ zzW := zz_w (i := 812) (by decide +kernel) (by decide +kernel)
set_option maxRecDepth 100000 in
theorem zw_486 : Cond.instanceMethod y_Wk_closing ∈ zzW := zz_w (i := 814) (by decide +kernel) (by decide +kernel)
set_option maxRecDepth 100000 in
theorem zw_487 : Cond.selects y_Wk_closing.cls y_Wk_closing y_Wk_closing ∈ zzW := zz_w (i := 27) (by decide +kernel) (by decide +kernel)
set_option maxRecDepth 100000 in
theorem zw_488 : Cond.code y_Wk_withValue prog_10_method_15_code 4 (some .int) ∈ zzW := zz_w (i := 849) rfl rfl
set_option maxRecDepth 100000 in
theorem zw_489 : Cond.methodLink "BoardScript$Walk" 120 y_Wk_withValue ∈ zzW := zz_w (i := 846) (by decide +kernel) (by decide +kernel)
set_option maxRecDepth 100000 in
theorem zw_490 : Cond.instanceMethod y_Wk_withValue ∈ zzW := zz_w (i := 848) (by decide +kernel) (by decide +kernel)
set_option maxRecDepth 100000 in
theorem zw_491 : Cond.selects y_Wk_withValue.cls y_Wk_withValue y_Wk_withValue ∈ zzW := zz_w (i := 32) (by decide +kernel) (by decide +kernel)
set_option maxRecDepth 100000 in
theorem zw_492 : Cond.fieldLink "BoardScript$Walk" 143 "BoardScript$Statement" "second" "LBoardScript$Block;" ∈ zzW := zz_w (i := 433) (by decide +kernel) (by decide +kernel)
set_option maxRecDepth 100000 in
theorem zw_493 : Cond.code y_Wk_block prog_10_method_3_code 6 (some .int) ∈ zzW := zz_w (i := 776) rfl rfl
set_option maxRecDepth 100000 in
theorem zw_494 : Cond.methodLink "BoardScript$Walk" 60 y_Wk_block ∈ zzW := zz_w (i := 773) (by decide +kernel) (by decide +kernel)
set_option maxRecDepth 100000 in
theorem zw_495 : Cond.instanceMethod y_Wk_block ∈ zzW := zz_w (i := 775) (by decide +kernel) (by decide +kernel)
set_option maxRecDepth 100000 in
theorem zw_496 : Cond.selects y_Wk_block.cls y_Wk_block y_Wk_block ∈ zzW := zz_w (i := 20) (by decide +kernel) (by decide +kernel)
set_option maxRecDepth 100000 in
theorem zw_497 : Cond.fieldLink "BoardScript$Walk" 141 "BoardScript$Statement" "first" "LBoardScript$Block;" ∈ zzW := zz_w (i := 431) (by decide +kernel) (by decide +kernel)
set_option maxRecDepth 100000 in
theorem zw_498 : Cond.fieldLink "BoardScript$Walk" 34 "BoardScript$Walk" "acts" "I" ∈ zzW := zz_w (i := 302) (by decide +kernel) (by decide +kernel)
set_option maxRecDepth 100000 in
theorem zw_499 : Cond.code y_Bd_keep prog_3_method_6_code 2 none ∈ zzW := zz_w (i := 806) rfl rfl
set_option maxRecDepth 100000 in
theorem zw_500 : Cond.methodLink "BoardScript$Walk" 146 y_Bd_keep ∈ zzW := zz_w (i := 803) (by decide +kernel) (by decide +kernel)
set_option maxRecDepth 100000 in
theorem zw_501 : Cond.instanceMethod y_Bd_keep ∈ zzW := zz_w (i := 804) (by decide +kernel) (by decide +kernel)
set_option maxRecDepth 100000 in
theorem zw_502 : Cond.selects y_Bd_keep.cls y_Bd_keep y_Bd_keep ∈ zzW := zz_w (i := 805) (by decide +kernel) (by decide +kernel)
set_option maxRecDepth 100000 in
theorem zw_503 : Cond.fieldLink "BoardScript$Walk" 31 "BoardScript$Walk" "failing" "I" ∈ zzW := zz_w (i := 301) (by decide +kernel) (by decide +kernel)
set_option maxRecDepth 100000 in
theorem zw_504 : Cond.code y_Bd_putBack prog_3_method_7_code 2 none ∈ zzW := zz_w (i := 811) rfl rfl
set_option maxRecDepth 100000 in
theorem zw_505 : Cond.methodLink "BoardScript$Walk" 152 y_Bd_putBack ∈ zzW := zz_w (i := 808) (by decide +kernel) (by decide +kernel)
set_option maxRecDepth 100000 in
theorem zw_506 : Cond.instanceMethod y_Bd_putBack ∈ zzW := zz_w (i := 809) (by decide +kernel) (by decide +kernel)
set_option maxRecDepth 100000 in
theorem zw_507 : Cond.selects y_Bd_putBack.cls y_Bd_putBack y_Bd_putBack ∈ zzW := zz_w (i := 810) (by decide +kernel) (by decide +kernel)
set_option maxRecDepth 100000 in
theorem zw_508 : Cond.fieldLink "BoardScript$Walk" 155 "BoardScript$Report" "putBack" "Z" ∈ zzW := zz_w (i := 221) (by decide +kernel) (by decide +kernel)
set_option maxRecDepth 100000 in
theorem zw_509 : Cond.fieldLink "BoardScript$Walk" 158 "BoardScript$Statement" "place" "I" ∈ zzW := zz_w (i := 418) (by decide +kernel) (by decide +kernel)
set_option maxRecDepth 100000 in
theorem zw_510 : Cond.code y_Rp_addClosing prog_7_method_6_code 2 none ∈ zzW := zz_w (i := 819) rfl rfl
set_option maxRecDepth 100000 in
theorem zw_511 : Cond.methodLink "BoardScript$Walk" 161 y_Rp_addClosing ∈ zzW := zz_w (i := 816) (by decide +kernel) (by decide +kernel)
set_option maxRecDepth 100000 in
theorem zw_512 : Cond.instanceMethod y_Rp_addClosing ∈ zzW := zz_w (i := 817) (by decide +kernel) (by decide +kernel)
set_option maxRecDepth 100000 in
theorem zw_513 : Cond.selects y_Rp_addClosing.cls y_Rp_addClosing y_Rp_addClosing ∈ zzW := zz_w (i := 818) (by decide +kernel) (by decide +kernel)
set_option maxRecDepth 100000 in
theorem zw_514 : Cond.fieldLink "BoardScript$Walk" 23 "BoardScript$Walk" "script" "LBoardScript$Script;" ∈ zzW := zz_w (i := 299) (by decide +kernel) (by decide +kernel)
set_option maxRecDepth 100000 in
theorem zw_515 : Cond.code y_Sc_function prog_8_method_2_code 2 (some (.object "BoardScript$Statement")) ∈ zzW := zz_w (i := 827) rfl rfl
set_option maxRecDepth 100000 in
theorem zw_516 : Cond.initialized "BoardScript$Script" ∈ zzW := zz_w (i := 74) (by decide +kernel) (by decide +kernel)
set_option maxRecDepth 100000 in
theorem zw_517 : Cond.methodLink "BoardScript$Walk" 167 y_Sc_function ∈ zzW := zz_w (i := 824) (by decide +kernel) (by decide +kernel)
set_option maxRecDepth 100000 in
theorem zw_518 : Cond.instanceMethod y_Sc_function ∈ zzW := zz_w (i := 825) (by decide +kernel) (by decide +kernel)
set_option maxRecDepth 100000 in
theorem zw_519 : Cond.selects y_Sc_function.cls y_Sc_function y_Sc_function ∈ zzW := zz_w (i := 826) (by decide +kernel) (by decide +kernel)
set_option maxRecDepth 100000 in
theorem zw_520 : Cond.methodLink "BoardScript$Walk" 43 y_Ar_fill ∈ zzW := zz_w (i := 771) (by decide +kernel) (by decide +kernel)
set_option maxRecDepth 100000 in
theorem zw_521 : Cond.methodLink "BoardScript$Walk" 49 y_Rp_forget ∈ zzW := zz_w (i := 772) (by decide +kernel) (by decide +kernel)
set_option maxRecDepth 100000 in
theorem zw_522 : Cond.fieldLink "BoardScript$Walk" 54 "BoardScript$Script" "body" "LBoardScript$Block;" ∈ zzW := zz_w (i := 127) (by decide +kernel) (by decide +kernel)
