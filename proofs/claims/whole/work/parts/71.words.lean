set_option maxRecDepth 100000 in
theorem zw_646 : Cond.methodLink "BoardScript" 93 y_Bd_slotOf ∈ zzW := zz_w (i := 675) (by decide +kernel) (by decide +kernel)
set_option maxRecDepth 100000 in
theorem zw_647 : Cond.fieldLink "BoardScript" 104 "BoardScript$Board" "fields" "[J" ∈ zzW := zz_w (i := 148) (by decide +kernel) (by decide +kernel)
set_option maxRecDepth 100000 in
theorem zw_648 : Cond.constantLong "BoardScript" 108 300 ∈ zzW := zz_w (i := 750) (by decide +kernel) (by decide +kernel)
set_option maxRecDepth 100000 in
theorem zw_649 : Cond.code y_Wk_walked prog_10_method_2_code 5 (some .int) ∈ zzW := zz_w (i := 770) rfl rfl
set_option maxRecDepth 100000 in
theorem zw_650 : Cond.methodLink "BoardScript" 115 y_Wk_walked ∈ zzW := zz_w (i := 767) (by decide +kernel) (by decide +kernel)
set_option maxRecDepth 100000 in
theorem zw_651 : Cond.instanceMethod y_Wk_walked ∈ zzW := zz_w (i := 768) (by decide +kernel) (by decide +kernel)
set_option maxRecDepth 100000 in
theorem zw_652 : Cond.selects y_Wk_walked.cls y_Wk_walked y_Wk_walked ∈ zzW := zz_w (i := 769) (by decide +kernel) (by decide +kernel)
set_option maxRecDepth 100000 in
theorem zw_653 : Cond.fieldLink "BoardScript" 123 "BoardScript$Report" "outputCount" "I" ∈ zzW := zz_w (i := 209) (by decide +kernel) (by decide +kernel)
set_option maxRecDepth 100000 in
theorem zw_654 : Cond.fieldLink "BoardScript" 128 "BoardScript$Report" "outputs" "[I" ∈ zzW := zz_w (i := 207) (by decide +kernel) (by decide +kernel)
set_option maxRecDepth 100000 in
theorem zw_655 : Cond.fieldLink "BoardScript" 132 "BoardScript$Report" "kind" "I" ∈ zzW := zz_w (i := 227) (by decide +kernel) (by decide +kernel)
set_option maxRecDepth 100000 in
theorem zw_656 : Cond.fieldLink "BoardScript" 139 "BoardScript$Statement" "place" "I" ∈ zzW := zz_w (i := 419) (by decide +kernel) (by decide +kernel)
set_option maxRecDepth 100000 in
theorem zw_657 : Cond.fieldLink "BoardScript" 142 "BoardScript$Report" "value" "I" ∈ zzW := zz_w (i := 231) (by decide +kernel) (by decide +kernel)
