set_option maxRecDepth 100000 in
theorem zw_818 : Cond.instantiable "BoardScript" 10 ∈ zzW := zz_w (i := 96) (by decide +kernel) (by decide +kernel)
set_option maxRecDepth 100000 in
theorem zw_819 : Cond.instantiable "BoardScriptModel" 67 ∈ zzW := zz_w (i := 880) (by decide +kernel) (by decide +kernel)
