set_option maxRecDepth 100000 in
theorem zw_593 : Cond.classLink "BoardScript$Reader" 53 "BoardScript$Block" ∈ zzW := zz_w (i := 368) (by decide +kernel) (by decide +kernel)
set_option maxRecDepth 100000 in
theorem zw_594 : Cond.code y_Rd_skipLineFeeds prog_5_method_5_code 1 none ∈ zzW := zz_w (i := 373) rfl rfl
set_option maxRecDepth 100000 in
theorem zw_595 : Cond.methodLink "BoardScript$Reader" 56 y_Rd_skipLineFeeds ∈ zzW := zz_w (i := 370) (by decide +kernel) (by decide +kernel)
set_option maxRecDepth 100000 in
theorem zw_596 : Cond.instanceMethod y_Rd_skipLineFeeds ∈ zzW := zz_w (i := 372) (by decide +kernel) (by decide +kernel)
set_option maxRecDepth 100000 in
theorem zw_597 : Cond.selects y_Rd_skipLineFeeds.cls y_Rd_skipLineFeeds y_Rd_skipLineFeeds ∈ zzW := zz_w (i := 1) (by decide +kernel) (by decide +kernel)
set_option maxRecDepth 100000 in
theorem zw_598 : Cond.code y_Rd_statement prog_5_method_7_code 6 (some (.object "BoardScript$Statement")) ∈ zzW := zz_w (i := 381) rfl rfl
set_option maxRecDepth 100000 in
theorem zw_599 : Cond.methodLink "BoardScript$Reader" 63 y_Rd_statement ∈ zzW := zz_w (i := 378) (by decide +kernel) (by decide +kernel)
set_option maxRecDepth 100000 in
theorem zw_600 : Cond.instanceMethod y_Rd_statement ∈ zzW := zz_w (i := 380) (by decide +kernel) (by decide +kernel)
set_option maxRecDepth 100000 in
theorem zw_601 : Cond.selects y_Rd_statement.cls y_Rd_statement y_Rd_statement ∈ zzW := zz_w (i := 3) (by decide +kernel) (by decide +kernel)
set_option maxRecDepth 100000 in
theorem zw_602 : Cond.code y_Bl_append prog_2_method_2_code 2 none ∈ zzW := zz_w (i := 564) rfl rfl
set_option maxRecDepth 100000 in
theorem zw_603 : Cond.methodLink "BoardScript$Reader" 67 y_Bl_append ∈ zzW := zz_w (i := 561) (by decide +kernel) (by decide +kernel)
set_option maxRecDepth 100000 in
theorem zw_604 : Cond.instanceMethod y_Bl_append ∈ zzW := zz_w (i := 562) (by decide +kernel) (by decide +kernel)
set_option maxRecDepth 100000 in
theorem zw_605 : Cond.selects y_Bl_append.cls y_Bl_append y_Bl_append ∈ zzW := zz_w (i := 563) (by decide +kernel) (by decide +kernel)
set_option maxRecDepth 100000 in
theorem zw_606 : Cond.code y_Rd_shapeOf prog_5_method_9_code 1 (some (.object "java/lang/String")) ∈ zzW := zz_w (i := 384) rfl rfl
set_option maxRecDepth 100000 in
theorem zw_607 : Cond.methodLink "BoardScript$Reader" 71 y_Rd_shapeOf ∈ zzW := zz_w (i := 382) (by decide +kernel) (by decide +kernel)
set_option maxRecDepth 100000 in
theorem zw_608 : Cond.static y_Rd_shapeOf ∈ zzW := zz_w (i := 383) (by decide +kernel) (by decide +kernel)
set_option maxRecDepth 100000 in
theorem zw_609 : Cond.fieldLink "BoardScript$Reader" 41 "BoardScript$Reader" "told" "I" ∈ zzW := zz_w (i := 269) (by decide +kernel) (by decide +kernel)
set_option maxRecDepth 100000 in
theorem zw_610 : Cond.code y_Rd_begun prog_5_method_8_code 2 (some (.object "BoardScript$Statement")) ∈ zzW := zz_w (i := 409) rfl rfl
set_option maxRecDepth 100000 in
theorem zw_611 : Cond.methodLink "BoardScript$Reader" 81 y_Rd_begun ∈ zzW := zz_w (i := 406) (by decide +kernel) (by decide +kernel)
set_option maxRecDepth 100000 in
theorem zw_612 : Cond.instanceMethod y_Rd_begun ∈ zzW := zz_w (i := 408) (by decide +kernel) (by decide +kernel)
set_option maxRecDepth 100000 in
theorem zw_613 : Cond.selects y_Rd_begun.cls y_Rd_begun y_Rd_begun ∈ zzW := zz_w (i := 4) (by decide +kernel) (by decide +kernel)
set_option maxRecDepth 100000 in
theorem zw_614 : Cond.code y_Rd_part prog_5_method_10_code 4 (some .boolean) ∈ zzW := zz_w (i := 508) rfl rfl
set_option maxRecDepth 100000 in
theorem zw_615 : Cond.methodLink "BoardScript$Reader" 92 y_Rd_part ∈ zzW := zz_w (i := 505) (by decide +kernel) (by decide +kernel)
set_option maxRecDepth 100000 in
theorem zw_616 : Cond.instanceMethod y_Rd_part ∈ zzW := zz_w (i := 507) (by decide +kernel) (by decide +kernel)
set_option maxRecDepth 100000 in
theorem zw_617 : Cond.selects y_Rd_part.cls y_Rd_part y_Rd_part ∈ zzW := zz_w (i := 5) (by decide +kernel) (by decide +kernel)
set_option maxRecDepth 100000 in
theorem zw_618 : Cond.fieldLink "BoardScript$Reader" 141 "BoardScript$Statement" "target" "[I" ∈ zzW := zz_w (i := 426) (by decide +kernel) (by decide +kernel)
set_option maxRecDepth 100000 in
theorem zw_619 : Cond.code y_Ar_copyOf prog_24_method_123_code 3 (some (.array .int)) ∈ zzW := zz_w (i := 541) rfl rfl
set_option maxRecDepth 100000 in
theorem zw_620 : Cond.methodLink "BoardScript$Reader" 135 y_Ar_copyOf ∈ zzW := zz_w (i := 539) (by decide +kernel) (by decide +kernel)
set_option maxRecDepth 100000 in
theorem zw_621 : Cond.static y_Ar_copyOf ∈ zzW := zz_w (i := 540) (by decide +kernel) (by decide +kernel)
set_option maxRecDepth 100000 in
theorem zw_622 : Cond.code y_Rd_enclosed prog_5_method_11_code 5 (some (.object "BoardScript$Block")) ∈ zzW := zz_w (i := 560) rfl rfl
set_option maxRecDepth 100000 in
theorem zw_623 : Cond.methodLink "BoardScript$Reader" 161 y_Rd_enclosed ∈ zzW := zz_w (i := 557) (by decide +kernel) (by decide +kernel)
set_option maxRecDepth 100000 in
theorem zw_624 : Cond.instanceMethod y_Rd_enclosed ∈ zzW := zz_w (i := 559) (by decide +kernel) (by decide +kernel)
set_option maxRecDepth 100000 in
theorem zw_625 : Cond.selects y_Rd_enclosed.cls y_Rd_enclosed y_Rd_enclosed ∈ zzW := zz_w (i := 13) (by decide +kernel) (by decide +kernel)
set_option maxRecDepth 100000 in
theorem zw_626 : Cond.fieldLink "BoardScript$Reader" 165 "BoardScript$Statement" "first" "LBoardScript$Block;" ∈ zzW := zz_w (i := 432) (by decide +kernel) (by decide +kernel)
set_option maxRecDepth 100000 in
theorem zw_627 : Cond.fieldLink "BoardScript$Reader" 169 "BoardScript$Statement" "second" "LBoardScript$Block;" ∈ zzW := zz_w (i := 434) (by decide +kernel) (by decide +kernel)
set_option maxRecDepth 100000 in
theorem zw_628 : Cond.fieldLink "BoardScript$Reader" 148 "BoardScript$Statement" "expression" "[I" ∈ zzW := zz_w (i := 429) (by decide +kernel) (by decide +kernel)
set_option maxRecDepth 100000 in
theorem zw_629 : Cond.code y_Rd_newFunction prog_5_method_12_code 4 (some .boolean) ∈ zzW := zz_w (i := 556) rfl rfl
set_option maxRecDepth 100000 in
theorem zw_630 : Cond.methodLink "BoardScript$Reader" 157 y_Rd_newFunction ∈ zzW := zz_w (i := 553) (by decide +kernel) (by decide +kernel)
set_option maxRecDepth 100000 in
theorem zw_631 : Cond.instanceMethod y_Rd_newFunction ∈ zzW := zz_w (i := 555) (by decide +kernel) (by decide +kernel)
set_option maxRecDepth 100000 in
theorem zw_632 : Cond.selects y_Rd_newFunction.cls y_Rd_newFunction y_Rd_newFunction ∈ zzW := zz_w (i := 12) (by decide +kernel) (by decide +kernel)
set_option maxRecDepth 100000 in
theorem zw_633 : Cond.code y_Rd_block prog_5_method_6_code 6 (some (.object "BoardScript$Block")) ∈ zzW := zz_w (i := 367) rfl rfl
set_option maxRecDepth 100000 in
theorem zw_634 : Cond.methodLink "BoardScript$Reader" 46 y_Rd_block ∈ zzW := zz_w (i := 364) (by decide +kernel) (by decide +kernel)
set_option maxRecDepth 100000 in
theorem zw_635 : Cond.instanceMethod y_Rd_block ∈ zzW := zz_w (i := 366) (by decide +kernel) (by decide +kernel)
set_option maxRecDepth 100000 in
theorem zw_636 : Cond.selects y_Rd_block.cls y_Rd_block y_Rd_block ∈ zzW := zz_w (i := 0) (by decide +kernel) (by decide +kernel)
set_option maxRecDepth 100000 in
theorem zw_637 : Cond.methodLink "BoardScript$Reader" 50 y_Sc_init ∈ zzW := zz_w (i := 566) (by decide +kernel) (by decide +kernel)
set_option maxRecDepth 100000 in
theorem zw_638 : Cond.classLink "BoardScript$Reader" 44 "BoardScript$Script" ∈ zzW := zz_w (i := 565) (by decide +kernel) (by decide +kernel)
set_option maxRecDepth 100000 in
theorem zw_639 : Cond.methodLink "BoardScript$Reader" 25 Lib.Math.min.name ∈ zzW := zz_w (i := 361) (by decide +kernel) (by decide +kernel)
set_option maxRecDepth 100000 in
theorem zw_640 : Cond.code y_Rd_scriptOf prog_5_method_2_code 4 (some (.object "BoardScript$Script")) ∈ zzW := zz_w (i := 360) rfl rfl
set_option maxRecDepth 100000 in
theorem zw_641 : Cond.methodLink "BoardScript" 76 y_Rd_scriptOf ∈ zzW := zz_w (i := 357) (by decide +kernel) (by decide +kernel)
set_option maxRecDepth 100000 in
theorem zw_642 : Cond.instanceMethod y_Rd_scriptOf ∈ zzW := zz_w (i := 358) (by decide +kernel) (by decide +kernel)
set_option maxRecDepth 100000 in
theorem zw_643 : Cond.selects y_Rd_scriptOf.cls y_Rd_scriptOf y_Rd_scriptOf ∈ zzW := zz_w (i := 359) (by decide +kernel) (by decide +kernel)
set_option maxRecDepth 100000 in
theorem zw_644 : Cond.fieldLink "BoardScript" 80 "BoardScript$Reader" "here" "I" ∈ zzW := zz_w (i := 267) (by decide +kernel) (by decide +kernel)
set_option maxRecDepth 100000 in
theorem zw_645 : Cond.fieldLink "BoardScript" 86 "BoardScript$Script" "statements" "I" ∈ zzW := zz_w (i := 130) (by decide +kernel) (by decide +kernel)
theorem zzfr60 : zzfr 12 60 = 72 := by decide
theorem zzlo60 : zzlo 600 60 = 4200 := by decide
