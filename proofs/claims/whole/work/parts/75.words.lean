set_option maxRecDepth 100000 in
theorem zw_658 : Cond.code y_Bs_field prog_1_method_5_code 7 (some .boolean) ∈ zzW := zz_w (i := 674) rfl rfl
set_option maxRecDepth 100000 in
theorem zw_659 : Cond.initialized "BoardScript" ∈ zzW := zz_w (i := 73) (by decide +kernel) (by decide +kernel)
set_option maxRecDepth 100000 in
theorem zw_660 : Cond.methodLink "BoardScriptLaw" 7 y_Bs_field ∈ zzW := zz_w (i := 671) (by decide +kernel) (by decide +kernel)
set_option maxRecDepth 100000 in
theorem zw_661 : Cond.instanceMethod y_Bs_field ∈ zzW := zz_w (i := 672) (by decide +kernel) (by decide +kernel)
set_option maxRecDepth 100000 in
theorem zw_662 : Cond.selects y_Bs_field.cls y_Bs_field y_Bs_field ∈ zzW := zz_w (i := 673) (by decide +kernel) (by decide +kernel)
set_option maxRecDepth 100000 in
theorem zw_663 : Cond.code y_Bs_run prog_1_method_6_code 3 (some .int) ∈ zzW := zz_w (i := 749) rfl rfl
set_option maxRecDepth 100000 in
theorem zw_664 : Cond.methodLink "BoardScriptLaw" 15 y_Bs_run ∈ zzW := zz_w (i := 746) (by decide +kernel) (by decide +kernel)
set_option maxRecDepth 100000 in
theorem zw_665 : Cond.instanceMethod y_Bs_run ∈ zzW := zz_w (i := 747) (by decide +kernel) (by decide +kernel)
set_option maxRecDepth 100000 in
theorem zw_666 : Cond.selects y_Bs_run.cls y_Bs_run y_Bs_run ∈ zzW := zz_w (i := 748) (by decide +kernel) (by decide +kernel)
set_option maxRecDepth 100000 in
theorem zw_667 : Cond.code y_Bs_at prog_1_method_7_code 4 (some .long) ∈ zzW := zz_w (i := 862) rfl rfl
set_option maxRecDepth 100000 in
theorem zw_668 : Cond.methodLink "BoardScriptLaw" 21 y_Bs_at ∈ zzW := zz_w (i := 859) (by decide +kernel) (by decide +kernel)
set_option maxRecDepth 100000 in
theorem zw_669 : Cond.instanceMethod y_Bs_at ∈ zzW := zz_w (i := 860) (by decide +kernel) (by decide +kernel)
set_option maxRecDepth 100000 in
theorem zw_670 : Cond.selects y_Bs_at.cls y_Bs_at y_Bs_at ∈ zzW := zz_w (i := 861) (by decide +kernel) (by decide +kernel)
set_option maxRecDepth 100000 in
theorem zw_671 : Cond.code y_Bs_output prog_1_method_9_code 2 (some .int) ∈ zzW := zz_w (i := 869) rfl rfl
set_option maxRecDepth 100000 in
theorem zw_672 : Cond.methodLink "BoardScriptLaw" 25 y_Bs_output ∈ zzW := zz_w (i := 866) (by decide +kernel) (by decide +kernel)
set_option maxRecDepth 100000 in
theorem zw_673 : Cond.instanceMethod y_Bs_output ∈ zzW := zz_w (i := 867) (by decide +kernel) (by decide +kernel)
set_option maxRecDepth 100000 in
theorem zw_674 : Cond.selects y_Bs_output.cls y_Bs_output y_Bs_output ∈ zzW := zz_w (i := 868) (by decide +kernel) (by decide +kernel)
set_option maxRecDepth 100000 in
theorem zw_675 : Cond.code y_Bs_error prog_1_method_10_code 2 (some .int) ∈ zzW := zz_w (i := 877) rfl rfl
set_option maxRecDepth 100000 in
theorem zw_676 : Cond.methodLink "BoardScriptLaw" 29 y_Bs_error ∈ zzW := zz_w (i := 874) (by decide +kernel) (by decide +kernel)
set_option maxRecDepth 100000 in
theorem zw_677 : Cond.instanceMethod y_Bs_error ∈ zzW := zz_w (i := 875) (by decide +kernel) (by decide +kernel)
set_option maxRecDepth 100000 in
theorem zw_678 : Cond.selects y_Bs_error.cls y_Bs_error y_Bs_error ∈ zzW := zz_w (i := 876) (by decide +kernel) (by decide +kernel)
set_option maxRecDepth 100000 in
theorem zw_679 : Cond.classLink "BoardScriptLaw" 13 "java/lang/IndexOutOfBoundsException" ∈ zzW := zz_w (i := 670) (by decide +kernel) (by decide +kernel)
set_option maxRecDepth 100000 in
theorem zw_680 : Cond.classLink "BoardScriptLaw" 19 "java/lang/IllegalArgumentException" ∈ zzW := zz_w (i := 745) (by decide +kernel) (by decide +kernel)
set_option maxRecDepth 100000 in
theorem zw_681 : Cond.codeWith y_Lw_field method_3_code 7 (some .int) [(0, 19, 22, 13)] ∈ zzW := zz_w (i := 669) rfl rfl
set_option maxRecDepth 100000 in
theorem zw_682 : Cond.codeWith y_Lw_run method_4_code 5 (some .int) [(0, 9, 12, 19)] ∈ zzW := zz_w (i := 744) rfl rfl
set_option maxRecDepth 100000 in
theorem zw_683 : Cond.codeWith y_Lw_at method_5_code 5 (some .int) [(0, 9, 12, 13)] ∈ zzW := zz_w (i := 858) rfl rfl
set_option maxRecDepth 100000 in
theorem zw_684 : Cond.codeWith y_Lw_output method_6_code 4 (some .int) [(0, 9, 12, 13)] ∈ zzW := zz_w (i := 865) rfl rfl
set_option maxRecDepth 100000 in
theorem zw_685 : Cond.codeWith y_Lw_error method_7_code 4 (some .int) [(0, 9, 12, 13)] ∈ zzW := zz_w (i := 873) rfl rfl
