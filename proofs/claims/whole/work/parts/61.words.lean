set_option maxRecDepth 100000 in
theorem zw_523 : Cond.methodLink "BoardScript$Script" 1 Lib.objectInit ∈ zzW := zz_w (i := 125) (by decide +kernel) (by decide +kernel)
set_option maxRecDepth 100000 in
theorem zw_524 : Cond.fieldLink "BoardScript$Script" 7 "BoardScript$Script" "body" "LBoardScript$Block;" ∈ zzW := zz_w (i := 126) (by decide +kernel) (by decide +kernel)
set_option maxRecDepth 100000 in
theorem zw_525 : Cond.fieldLink "BoardScript$Script" 17 "BoardScript$Script" "statements" "I" ∈ zzW := zz_w (i := 129) (by decide +kernel) (by decide +kernel)
set_option maxRecDepth 100000 in
theorem zw_526 : Cond.instanceMethod Lib.objectInit ∈ zzW := zz_w (i := 101) (by decide +kernel) (by decide +kernel)
set_option maxRecDepth 100000 in
theorem zw_527 : Cond.code Lib.objectInit ⟨#[0xb1]⟩ 1 none ∈ zzW := zz_w (i := 102) rfl rfl
set_option maxRecDepth 100000 in
theorem zw_528 : Cond.methodLink "BoardScript$Block" 1 Lib.objectInit ∈ zzW := zz_w (i := 110) (by decide +kernel) (by decide +kernel)
set_option maxRecDepth 100000 in
theorem zw_529 : Cond.methodLink "BoardScript$Statement" 1 Lib.objectInit ∈ zzW := zz_w (i := 414) (by decide +kernel) (by decide +kernel)
set_option maxRecDepth 100000 in
theorem zw_530 : Cond.fieldLink "BoardScript$Statement" 7 "BoardScript$Statement" "kind" "C" ∈ zzW := zz_w (i := 415) (by decide +kernel) (by decide +kernel)
set_option maxRecDepth 100000 in
theorem zw_531 : Cond.fieldLink "BoardScript$Statement" 13 "BoardScript$Statement" "operand" "I" ∈ zzW := zz_w (i := 423) (by decide +kernel) (by decide +kernel)
set_option maxRecDepth 100000 in
theorem zw_532 : Cond.fieldLink "BoardScript$Statement" 17 "BoardScript$Statement" "place" "I" ∈ zzW := zz_w (i := 417) (by decide +kernel) (by decide +kernel)
set_option maxRecDepth 100000 in
theorem zw_533 : Cond.fieldLink "BoardScript$Statement" 20 "BoardScript$Statement" "line" "I" ∈ zzW := zz_w (i := 421) (by decide +kernel) (by decide +kernel)
set_option maxRecDepth 100000 in
theorem zw_534 : Cond.methodLink "BoardScript$Walk" 3 Lib.objectInit ∈ zzW := zz_w (i := 295) (by decide +kernel) (by decide +kernel)
set_option maxRecDepth 100000 in
theorem zw_535 : Cond.methodLink "BoardScript$Board" 3 Lib.objectInit ∈ zzW := zz_w (i := 143) (by decide +kernel) (by decide +kernel)
set_option maxRecDepth 100000 in
theorem zw_536 : Cond.arrayClass .int ∈ zzW := zz_w (i := 173) (by decide +kernel) (by decide +kernel)
set_option maxRecDepth 100000 in
theorem zw_537 : Cond.classLink "BoardScript$Board" 18 "[[J" ∈ zzW := zz_w (i := 144) (by decide +kernel) (by decide +kernel)
set_option maxRecDepth 100000 in
theorem zw_538 : Cond.arrayClass .long ∈ zzW := zz_w (i := 172) (by decide +kernel) (by decide +kernel)
set_option maxRecDepth 100000 in
theorem zw_539 : Cond.methodLink "BoardScript$Reckoner" 3 Lib.objectInit ∈ zzW := zz_w (i := 179) (by decide +kernel) (by decide +kernel)
set_option maxRecDepth 100000 in
theorem zw_540 : Cond.methodLink "BoardScript$Report" 3 Lib.objectInit ∈ zzW := zz_w (i := 204) (by decide +kernel) (by decide +kernel)
set_option maxRecDepth 100000 in
theorem zw_541 : Cond.classLink "BoardScript$Report" 15 "BoardScript$Statement" ∈ zzW := zz_w (i := 205) (by decide +kernel) (by decide +kernel)
set_option maxRecDepth 100000 in
theorem zw_542 : Cond.methodLink "BoardScript$Reader" 3 Lib.objectInit ∈ zzW := zz_w (i := 262) (by decide +kernel) (by decide +kernel)
set_option maxRecDepth 100000 in
theorem zw_543 : Cond.classLink "BoardScript$Reader" 15 "BoardScript$Statement" ∈ zzW := zz_w (i := 263) (by decide +kernel) (by decide +kernel)
set_option maxRecDepth 100000 in
theorem zw_544 : Cond.arrayClass .char ∈ zzW := zz_w (i := 119) (by decide +kernel) (by decide +kernel)
set_option maxRecDepth 100000 in
theorem zw_545 : Cond.methodLink "BoardScript" 3 Lib.objectInit ∈ zzW := zz_w (i := 100) (by decide +kernel) (by decide +kernel)
set_option maxRecDepth 100000 in
theorem zw_546 : Cond.code y_Bl_init prog_2_method_1_code 1 none ∈ zzW := zz_w (i := 109) rfl rfl
set_option maxRecDepth 100000 in
theorem zw_547 : Cond.initialized "BoardScript$Block" ∈ zzW := zz_w (i := 75) (by decide +kernel) (by decide +kernel)
set_option maxRecDepth 100000 in
theorem zw_548 : Cond.instanceMethod y_Bl_init ∈ zzW := zz_w (i := 108) (by decide +kernel) (by decide +kernel)
set_option maxRecDepth 100000 in
theorem zw_549 : Cond.code y_Sc_init prog_8_method_1_code 4 none ∈ zzW := zz_w (i := 124) rfl rfl
set_option maxRecDepth 100000 in
theorem zw_550 : Cond.methodLink "BoardScript" 24 y_Sc_init ∈ zzW := zz_w (i := 122) (by decide +kernel) (by decide +kernel)
set_option maxRecDepth 100000 in
theorem zw_551 : Cond.instanceMethod y_Sc_init ∈ zzW := zz_w (i := 123) (by decide +kernel) (by decide +kernel)
set_option maxRecDepth 100000 in
theorem zw_552 : Cond.code y_Bd_init prog_3_method_1_code 1 none ∈ zzW := zz_w (i := 142) rfl rfl
set_option maxRecDepth 100000 in
theorem zw_553 : Cond.instanceMethod y_Bd_init ∈ zzW := zz_w (i := 141) (by decide +kernel) (by decide +kernel)
set_option maxRecDepth 100000 in
theorem zw_554 : Cond.code y_Rk_init prog_6_method_1_code 2 none ∈ zzW := zz_w (i := 178) rfl rfl
set_option maxRecDepth 100000 in
theorem zw_555 : Cond.methodLink "BoardScript" 43 y_Rk_init ∈ zzW := zz_w (i := 176) (by decide +kernel) (by decide +kernel)
set_option maxRecDepth 100000 in
theorem zw_556 : Cond.instanceMethod y_Rk_init ∈ zzW := zz_w (i := 177) (by decide +kernel) (by decide +kernel)
set_option maxRecDepth 100000 in
theorem zw_557 : Cond.code y_Rp_init prog_7_method_1_code 1 none ∈ zzW := zz_w (i := 203) rfl rfl
set_option maxRecDepth 100000 in
theorem zw_558 : Cond.instanceMethod y_Rp_init ∈ zzW := zz_w (i := 202) (by decide +kernel) (by decide +kernel)
set_option maxRecDepth 100000 in
theorem zw_559 : Cond.code y_Rd_init prog_5_method_1_code 1 none ∈ zzW := zz_w (i := 261) rfl rfl
set_option maxRecDepth 100000 in
theorem zw_560 : Cond.instanceMethod y_Rd_init ∈ zzW := zz_w (i := 260) (by decide +kernel) (by decide +kernel)
set_option maxRecDepth 100000 in
theorem zw_561 : Cond.fieldLink "BoardScript" 60 "BoardScript" "reader" "LBoardScript$Reader;" ∈ zzW := zz_w (i := 326) (by decide +kernel) (by decide +kernel)
set_option maxRecDepth 100000 in
theorem zw_562 : Cond.code y_Wk_init prog_10_method_1_code 4 none ∈ zzW := zz_w (i := 294) rfl rfl
set_option maxRecDepth 100000 in
theorem zw_563 : Cond.methodLink "BoardScript" 66 y_Wk_init ∈ zzW := zz_w (i := 292) (by decide +kernel) (by decide +kernel)
set_option maxRecDepth 100000 in
theorem zw_564 : Cond.instanceMethod y_Wk_init ∈ zzW := zz_w (i := 293) (by decide +kernel) (by decide +kernel)
set_option maxRecDepth 100000 in
theorem zw_565 : Cond.fieldLink "BoardScript" 69 "BoardScript" "walk" "LBoardScript$Walk;" ∈ zzW := zz_w (i := 327) (by decide +kernel) (by decide +kernel)
set_option maxRecDepth 100000 in
theorem zw_566 : Cond.classLink "BoardScript" 64 "BoardScript$Walk" ∈ zzW := zz_w (i := 290) (by decide +kernel) (by decide +kernel)
set_option maxRecDepth 100000 in
theorem zw_567 : Cond.instantiable "BoardScript$Walk" 7 ∈ zzW := zz_w (i := 291) (by decide +kernel) (by decide +kernel)
set_option maxRecDepth 100000 in
theorem zw_568 : Cond.classLink "BoardScript" 57 "BoardScript$Reader" ∈ zzW := zz_w (i := 257) (by decide +kernel) (by decide +kernel)
set_option maxRecDepth 100000 in
theorem zw_569 : Cond.instantiable "BoardScript$Reader" 8 ∈ zzW := zz_w (i := 258) (by decide +kernel) (by decide +kernel)
set_option maxRecDepth 100000 in
theorem zw_570 : Cond.classLink "BoardScript" 50 "BoardScript$Report" ∈ zzW := zz_w (i := 199) (by decide +kernel) (by decide +kernel)
set_option maxRecDepth 100000 in
theorem zw_571 : Cond.instantiable "BoardScript$Report" 12 ∈ zzW := zz_w (i := 200) (by decide +kernel) (by decide +kernel)
set_option maxRecDepth 100000 in
theorem zw_572 : Cond.classLink "BoardScript" 41 "BoardScript$Reckoner" ∈ zzW := zz_w (i := 174) (by decide +kernel) (by decide +kernel)
set_option maxRecDepth 100000 in
theorem zw_573 : Cond.instantiable "BoardScript$Reckoner" 5 ∈ zzW := zz_w (i := 175) (by decide +kernel) (by decide +kernel)
set_option maxRecDepth 100000 in
theorem zw_574 : Cond.classLink "BoardScript" 34 "BoardScript$Board" ∈ zzW := zz_w (i := 138) (by decide +kernel) (by decide +kernel)
set_option maxRecDepth 100000 in
theorem zw_575 : Cond.instantiable "BoardScript$Board" 6 ∈ zzW := zz_w (i := 139) (by decide +kernel) (by decide +kernel)
set_option maxRecDepth 100000 in
theorem zw_576 : Cond.classLink "BoardScript" 22 "BoardScript$Statement" ∈ zzW := zz_w (i := 120) (by decide +kernel) (by decide +kernel)
set_option maxRecDepth 100000 in
theorem zw_577 : Cond.classLink "BoardScript" 19 "BoardScript$Block" ∈ zzW := zz_w (i := 105) (by decide +kernel) (by decide +kernel)
set_option maxRecDepth 100000 in
theorem zw_578 : Cond.instantiable "BoardScript$Block" 2 ∈ zzW := zz_w (i := 106) (by decide +kernel) (by decide +kernel)
set_option maxRecDepth 100000 in
theorem zw_579 : Cond.classLink "BoardScript" 17 "BoardScript$Script" ∈ zzW := zz_w (i := 103) (by decide +kernel) (by decide +kernel)
set_option maxRecDepth 100000 in
theorem zw_580 : Cond.instantiable "BoardScript$Script" 3 ∈ zzW := zz_w (i := 104) (by decide +kernel) (by decide +kernel)
set_option maxRecDepth 100000 in
theorem zw_581 : Cond.methodLink "BoardScriptModel" 1 Lib.objectInit ∈ zzW := zz_w (i := 884) (by decide +kernel) (by decide +kernel)
set_option maxRecDepth 100000 in
theorem zw_582 : Cond.fieldLink "BoardScriptModel" 52 "BoardScriptModel" "openMore" "[I" ∈ zzW := zz_w (i := 917) (by decide +kernel) (by decide +kernel)
set_option maxRecDepth 100000 in
theorem zw_583 : Cond.methodLink "java/util/Arrays" 150 arraycopyName ∈ zzW := zz_w (i := 550) (by decide +kernel) (by decide +kernel)
set_option maxRecDepth 100000 in
theorem zw_584 : Cond.methodLink "java/util/Arrays" 304 Lib.Math.min.name ∈ zzW := zz_w (i := 549) (by decide +kernel) (by decide +kernel)
set_option maxRecDepth 100000 in
theorem zw_585 : Cond.static Lib.Math.min.name ∈ zzW := zz_w (i := 362) (by decide +kernel) (by decide +kernel)
set_option maxRecDepth 100000 in
theorem zw_586 : Cond.initialized "java/lang/Math" ∈ zzW := zz_w (i := 82) (by decide +kernel) (by decide +kernel)
set_option maxRecDepth 100000 in
theorem zw_587 : Cond.code Lib.Math.min.name Lib.Math.min.code 2 (some .int) ∈ zzW := zz_w (i := 363) rfl rfl
set_option maxRecDepth 100000 in
theorem zw_588 : Cond.code y_St_init prog_9_method_1_code 5 none ∈ zzW := zz_w (i := 413) rfl rfl
set_option maxRecDepth 100000 in
theorem zw_589 : Cond.initialized "BoardScript$Statement" ∈ zzW := zz_w (i := 83) (by decide +kernel) (by decide +kernel)
set_option maxRecDepth 100000 in
theorem zw_590 : Cond.methodLink "BoardScript$Reader" 100 y_St_init ∈ zzW := zz_w (i := 411) (by decide +kernel) (by decide +kernel)
set_option maxRecDepth 100000 in
theorem zw_591 : Cond.instanceMethod y_St_init ∈ zzW := zz_w (i := 412) (by decide +kernel) (by decide +kernel)
set_option maxRecDepth 100000 in
theorem zw_592 : Cond.instantiable "BoardScript$Statement" 9 ∈ zzW := zz_w (i := 410) (by decide +kernel) (by decide +kernel)
theorem d_Ar_copyOf_0 : decode prog_24_method_123_code 0 = .ok (.iload_n 1, 1) := by decide +kernel
theorem d_Ar_copyOf_1 : decode prog_24_method_123_code 1 = .ok (.aload_n 0, 1) := by decide +kernel
theorem d_Ar_copyOf_2 : decode prog_24_method_123_code 2 = .ok (.arraylength, 1) := by decide +kernel
theorem d_Ar_copyOf_3 : decode prog_24_method_123_code 3 = .ok (.if_icmp .ne 11, 3) := by decide +kernel
theorem d_Ar_copyOf_6 : decode prog_24_method_123_code 6 = .ok (.aload_n 0, 1) := by decide +kernel
theorem d_Ar_copyOf_7 : decode prog_24_method_123_code 7 = .ok (.invokevirtual 316, 3) := by decide +kernel
theorem d_Ar_copyOf_10 : decode prog_24_method_123_code 10 = .ok (.checkcast 317, 3) := by decide +kernel
theorem d_Ar_copyOf_13 : decode prog_24_method_123_code 13 = .ok (.areturn, 1) := by decide +kernel
theorem d_Ar_copyOf_14 : decode prog_24_method_123_code 14 = .ok (.iload_n 1, 1) := by decide +kernel
theorem d_Ar_copyOf_15 : decode prog_24_method_123_code 15 = .ok (.newarray .int, 2) := by decide +kernel
theorem d_Ar_copyOf_17 : decode prog_24_method_123_code 17 = .ok (.astore_n 2, 1) := by decide +kernel
theorem d_Ar_copyOf_18 : decode prog_24_method_123_code 18 = .ok (.aload_n 0, 1) := by decide +kernel
theorem d_Ar_copyOf_19 : decode prog_24_method_123_code 19 = .ok (.iconst 0, 1) := by decide +kernel
theorem d_Ar_copyOf_20 : decode prog_24_method_123_code 20 = .ok (.aload_n 2, 1) := by decide +kernel
theorem d_Ar_copyOf_21 : decode prog_24_method_123_code 21 = .ok (.iconst 0, 1) := by decide +kernel
theorem d_Ar_copyOf_22 : decode prog_24_method_123_code 22 = .ok (.aload_n 0, 1) := by decide +kernel
theorem d_Ar_copyOf_23 : decode prog_24_method_123_code 23 = .ok (.arraylength, 1) := by decide +kernel
theorem d_Ar_copyOf_24 : decode prog_24_method_123_code 24 = .ok (.iload_n 1, 1) := by decide +kernel
theorem d_Ar_copyOf_25 : decode prog_24_method_123_code 25 = .ok (.invokestatic 304, 3) := by decide +kernel
theorem d_Ar_copyOf_28 : decode prog_24_method_123_code 28 = .ok (.invokestatic 150, 3) := by decide +kernel
theorem d_Ar_copyOf_31 : decode prog_24_method_123_code 31 = .ok (.aload_n 2, 1) := by decide +kernel
theorem d_Ar_copyOf_32 : decode prog_24_method_123_code 32 = .ok (.areturn, 1) := by decide +kernel
