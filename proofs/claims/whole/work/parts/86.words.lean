set_option maxRecDepth 100000 in
theorem zw_820 : Cond.classLink "BoardScriptLaw" 8 "BoardScript" ∈ zzW := zz_w (i := 95) (by decide +kernel) (by decide +kernel)
set_option maxRecDepth 100000 in
theorem zw_821 : Cond.code y_Bs_init prog_1_method_1_code 1 none ∈ zzW := zz_w (i := 99) rfl rfl
set_option maxRecDepth 100000 in
theorem zw_822 : Cond.methodLink "BoardScriptLaw" 32 y_Bs_init ∈ zzW := zz_w (i := 97) (by decide +kernel) (by decide +kernel)
set_option maxRecDepth 100000 in
theorem zw_823 : Cond.instanceMethod y_Bs_init ∈ zzW := zz_w (i := 98) (by decide +kernel) (by decide +kernel)
set_option maxRecDepth 100000 in
theorem zw_824 : Cond.classLink "BoardScriptLaw" 33 "BoardScriptModel" ∈ zzW := zz_w (i := 879) (by decide +kernel) (by decide +kernel)
set_option maxRecDepth 100000 in
theorem zw_825 : Cond.code y_Md_init prog_12_method_1_code 1 none ∈ zzW := zz_w (i := 883) rfl rfl
set_option maxRecDepth 100000 in
theorem zw_826 : Cond.methodLink "BoardScriptLaw" 35 y_Md_init ∈ zzW := zz_w (i := 881) (by decide +kernel) (by decide +kernel)
set_option maxRecDepth 100000 in
theorem zw_827 : Cond.instanceMethod y_Md_init ∈ zzW := zz_w (i := 882) (by decide +kernel) (by decide +kernel)
