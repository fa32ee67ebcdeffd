set_option maxRecDepth 100000 in
theorem zc_0 : zzCls 0 "BoardScript" zT0 10 := ⟨rfl, by decide +kernel, by decide +kernel, by decide +kernel⟩
set_option maxRecDepth 100000 in
theorem zc_1 : zzCls 1 "BoardScript$Script" zT1 3 := ⟨rfl, by decide +kernel, by decide +kernel, by decide +kernel⟩
set_option maxRecDepth 100000 in
theorem zc_2 : zzCls 2 "BoardScript$Block" zT2 2 := ⟨rfl, by decide +kernel, by decide +kernel, by decide +kernel⟩
set_option maxRecDepth 100000 in
theorem zc_3 : zzCls 3 "BoardScript$Statement" zT3 9 := ⟨rfl, by decide +kernel, by decide +kernel, by decide +kernel⟩
set_option maxRecDepth 100000 in
theorem zc_4 : zzCls 4 "BoardScript$Board" zT4 6 := ⟨rfl, by decide +kernel, by decide +kernel, by decide +kernel⟩
set_option maxRecDepth 100000 in
theorem zc_5 : zzCls 5 "BoardScript$Reckoner" zT5 5 := ⟨rfl, by decide +kernel, by decide +kernel, by decide +kernel⟩
set_option maxRecDepth 100000 in
theorem zc_6 : zzCls 6 "BoardScript$Report" zT6 12 := ⟨rfl, by decide +kernel, by decide +kernel, by decide +kernel⟩
set_option maxRecDepth 100000 in
theorem zc_7 : zzCls 7 "BoardScript$Reader" zT7 8 := ⟨rfl, by decide +kernel, by decide +kernel, by decide +kernel⟩
set_option maxRecDepth 100000 in
theorem zc_8 : zzCls 8 "BoardScript$Walk" zT8 7 := ⟨rfl, by decide +kernel, by decide +kernel, by decide +kernel⟩
set_option maxRecDepth 100000 in
theorem zc_9 : zzCls 9 "BoardScriptModel" zT9 67 := ⟨rfl, by decide +kernel, by decide +kernel, by decide +kernel⟩
