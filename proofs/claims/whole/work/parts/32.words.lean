set_option maxRecDepth 100000 in
theorem zw_0 : Cond.fieldLink "BoardScriptModel" 132 "BoardScriptModel" "taken" "J" ∈ zzW := zz_w (i := 928) (by decide +kernel) (by decide +kernel)
set_option maxRecDepth 100000 in
theorem zw_1 : Cond.fieldLink "BoardScriptModel" 136 "BoardScriptModel" "outputs" "I" ∈ zzW := zz_w (i := 929) (by decide +kernel) (by decide +kernel)
set_option maxRecDepth 100000 in
theorem zw_2 : Cond.fieldLink "BoardScriptModel" 139 "BoardScriptModel" "rules" "I" ∈ zzW := zz_w (i := 931) (by decide +kernel) (by decide +kernel)
set_option maxRecDepth 100000 in
theorem zw_3 : Cond.fieldLink "BoardScriptModel" 142 "BoardScriptModel" "found" "I" ∈ zzW := zz_w (i := 933) (by decide +kernel) (by decide +kernel)
set_option maxRecDepth 100000 in
theorem zw_4 : Cond.fieldLink "BoardScriptModel" 145 "BoardScriptModel" "closings" "I" ∈ zzW := zz_w (i := 935) (by decide +kernel) (by decide +kernel)
set_option maxRecDepth 100000 in
theorem zw_5 : Cond.fieldLink "BoardScriptModel" 148 "BoardScriptModel" "restored" "Z" ∈ zzW := zz_w (i := 937) (by decide +kernel) (by decide +kernel)
set_option maxRecDepth 100000 in
theorem zw_6 : Cond.fieldLink "BoardScriptModel" 152 "BoardScriptModel" "acts" "I" ∈ zzW := zz_w (i := 938) (by decide +kernel) (by decide +kernel)
set_option maxRecDepth 100000 in
theorem zw_7 : Cond.fieldLink "BoardScriptModel" 155 "BoardScriptModel" "errorKind" "I" ∈ zzW := zz_w (i := 939) (by decide +kernel) (by decide +kernel)
set_option maxRecDepth 100000 in
theorem zw_8 : Cond.fieldLink "BoardScriptModel" 158 "BoardScriptModel" "errorPlace" "I" ∈ zzW := zz_w (i := 940) (by decide +kernel) (by decide +kernel)
set_option maxRecDepth 100000 in
theorem zw_9 : Cond.fieldLink "BoardScriptModel" 161 "BoardScriptModel" "errorValue" "I" ∈ zzW := zz_w (i := 941) (by decide +kernel) (by decide +kernel)
set_option maxRecDepth 100000 in
theorem zw_10 : Cond.fieldLink "BoardScriptModel" 69 "BoardScriptModel" "variables" "[J" ∈ zzW := zz_w (i := 926) (by decide +kernel) (by decide +kernel)
set_option maxRecDepth 100000 in
theorem zw_11 : Cond.fieldLink "BoardScriptModel" 117 "BoardScriptModel" "units" "I" ∈ zzW := zz_w (i := 894) (by decide +kernel) (by decide +kernel)
set_option maxRecDepth 100000 in
theorem zw_12 : Cond.fieldLink "BoardScriptModel" 120 "BoardScriptModel" "objects" "I" ∈ zzW := zz_w (i := 921) (by decide +kernel) (by decide +kernel)
set_option maxRecDepth 100000 in
theorem zw_13 : Cond.fieldLink "BoardScriptModel" 123 "BoardScriptModel" "length" "I" ∈ zzW := zz_w (i := 923) (by decide +kernel) (by decide +kernel)
set_option maxRecDepth 100000 in
theorem zw_14 : Cond.fieldLink "BoardScriptModel" 65 "BoardScriptModel" "failing" "I" ∈ zzW := zz_w (i := 925) (by decide +kernel) (by decide +kernel)
set_option maxRecDepth 100000 in
theorem zw_15 : Cond.fieldLink "BoardScriptModel" 19 "BoardScriptModel" "orders" "[I" ∈ zzW := zz_w (i := 899) (by decide +kernel) (by decide +kernel)
set_option maxRecDepth 100000 in
theorem zw_16 : Cond.fieldLink "BoardScriptModel" 126 "BoardScriptModel" "now" "I" ∈ zzW := zz_w (i := 896) (by decide +kernel) (by decide +kernel)
set_option maxRecDepth 100000 in
theorem zw_17 : Cond.code y_Md_forget prog_12_method_3_code 2 none ∈ zzW := zz_w (i := 892) rfl rfl
set_option maxRecDepth 100000 in
theorem zw_18 : Cond.initialized "BoardScriptModel" ∈ zzW := zz_w (i := 81) (by decide +kernel) (by decide +kernel)
set_option maxRecDepth 100000 in
theorem zw_19 : Cond.methodLink "BoardScriptModel" 129 y_Md_forget ∈ zzW := zz_w (i := 889) (by decide +kernel) (by decide +kernel)
set_option maxRecDepth 100000 in
theorem zw_20 : Cond.instanceMethod y_Md_forget ∈ zzW := zz_w (i := 891) (by decide +kernel) (by decide +kernel)
set_option maxRecDepth 100000 in
theorem zw_21 : Cond.selects y_Md_forget.cls y_Md_forget y_Md_forget ∈ zzW := zz_w (i := 34) (by decide +kernel) (by decide +kernel)
set_option maxRecDepth 100000 in
theorem zw_22 : Cond.fieldLink "BoardScriptModel" 13 "BoardScriptModel" "sizes" "[I" ∈ zzW := zz_w (i := 897) (by decide +kernel) (by decide +kernel)
set_option maxRecDepth 100000 in
theorem zw_23 : Cond.fieldLink "BoardScriptModel" 164 "BoardScriptModel" "thrown" "I" ∈ zzW := zz_w (i := 893) (by decide +kernel) (by decide +kernel)
set_option maxRecDepth 100000 in
theorem zw_24 : Cond.code y_Md_empty prog_12_method_2_code 2 none ∈ zzW := zz_w (i := 888) rfl rfl
set_option maxRecDepth 100000 in
theorem zw_25 : Cond.methodLink "BoardScriptModel" 114 y_Md_empty ∈ zzW := zz_w (i := 885) (by decide +kernel) (by decide +kernel)
set_option maxRecDepth 100000 in
theorem zw_26 : Cond.instanceMethod y_Md_empty ∈ zzW := zz_w (i := 887) (by decide +kernel) (by decide +kernel)
set_option maxRecDepth 100000 in
theorem zw_27 : Cond.selects y_Md_empty.cls y_Md_empty y_Md_empty ∈ zzW := zz_w (i := 33) (by decide +kernel) (by decide +kernel)
set_option maxRecDepth 100000 in
theorem zw_28 : Cond.fieldLink "BoardScriptModel" 7 "BoardScriptModel" "text" "[I" ∈ zzW := zz_w (i := 895) (by decide +kernel) (by decide +kernel)
set_option maxRecDepth 100000 in
theorem zw_29 : Cond.fieldLink "BoardScriptModel" 167 "BoardScriptModel" "at" "I" ∈ zzW := zz_w (i := 909) (by decide +kernel) (by decide +kernel)
set_option maxRecDepth 100000 in
theorem zw_30 : Cond.fieldLink "BoardScriptModel" 170 "BoardScriptModel" "wrong" "I" ∈ zzW := zz_w (i := 910) (by decide +kernel) (by decide +kernel)
set_option maxRecDepth 100000 in
theorem zw_31 : Cond.code y_Md_peek prog_12_method_7_code 1 (some .int) ∈ zzW := zz_w (i := 1114) rfl rfl
set_option maxRecDepth 100000 in
theorem zw_32 : Cond.methodLink "BoardScriptModel" 173 y_Md_peek ∈ zzW := zz_w (i := 1111) (by decide +kernel) (by decide +kernel)
set_option maxRecDepth 100000 in
theorem zw_33 : Cond.instanceMethod y_Md_peek ∈ zzW := zz_w (i := 1113) (by decide +kernel) (by decide +kernel)
set_option maxRecDepth 100000 in
theorem zw_34 : Cond.selects y_Md_peek.cls y_Md_peek y_Md_peek ∈ zzW := zz_w (i := 35) (by decide +kernel) (by decide +kernel)
set_option maxRecDepth 100000 in
theorem zw_35 : Cond.fieldLink "BoardScriptModel" 40 "BoardScriptModel" "codes" "[I" ∈ zzW := zz_w (i := 906) (by decide +kernel) (by decide +kernel)
set_option maxRecDepth 100000 in
theorem zw_36 : Cond.fieldLink "BoardScriptModel" 177 "BoardScriptModel" "set" "I" ∈ zzW := zz_w (i := 908) (by decide +kernel) (by decide +kernel)
set_option maxRecDepth 100000 in
theorem zw_37 : Cond.fieldLink "BoardScriptModel" 180 "BoardScriptModel" "coded" "I" ∈ zzW := zz_w (i := 912) (by decide +kernel) (by decide +kernel)
set_option maxRecDepth 100000 in
theorem zw_38 : Cond.fieldLink "BoardScriptModel" 43 "BoardScriptModel" "values" "[I" ∈ zzW := zz_w (i := 907) (by decide +kernel) (by decide +kernel)
set_option maxRecDepth 100000 in
theorem zw_39 : Cond.fieldLink "BoardScriptModel" 183 "BoardScriptModel" "signs" "I" ∈ zzW := zz_w (i := 918) (by decide +kernel) (by decide +kernel)
set_option maxRecDepth 100000 in
theorem zw_40 : Cond.fieldLink "BoardScriptModel" 55 "BoardScriptModel" "sign" "[I" ∈ zzW := zz_w (i := 919) (by decide +kernel) (by decide +kernel)
set_option maxRecDepth 100000 in
theorem zw_41 : Cond.code y_Md_strength prog_12_method_14_code 1 (some .int) ∈ zzW := zz_w (i := 1178) rfl rfl
set_option maxRecDepth 100000 in
theorem zw_42 : Cond.methodLink "BoardScriptModel" 186 y_Md_strength ∈ zzW := zz_w (i := 1176) (by decide +kernel) (by decide +kernel)
set_option maxRecDepth 100000 in
theorem zw_43 : Cond.static y_Md_strength ∈ zzW := zz_w (i := 1177) (by decide +kernel) (by decide +kernel)
set_option maxRecDepth 100000 in
theorem zw_44 : Cond.code y_Md_code prog_12_method_12_code 3 none ∈ zzW := zz_w (i := 1167) rfl rfl
set_option maxRecDepth 100000 in
theorem zw_45 : Cond.methodLink "BoardScriptModel" 190 y_Md_code ∈ zzW := zz_w (i := 1164) (by decide +kernel) (by decide +kernel)
set_option maxRecDepth 100000 in
theorem zw_46 : Cond.instanceMethod y_Md_code ∈ zzW := zz_w (i := 1166) (by decide +kernel) (by decide +kernel)
set_option maxRecDepth 100000 in
theorem zw_47 : Cond.selects y_Md_code.cls y_Md_code y_Md_code ∈ zzW := zz_w (i := 46) (by decide +kernel) (by decide +kernel)
set_option maxRecDepth 100000 in
theorem zw_48 : Cond.fieldLink "BoardScriptModel" 194 "BoardScriptModel" "within" "I" ∈ zzW := zz_w (i := 920) (by decide +kernel) (by decide +kernel)
set_option maxRecDepth 100000 in
theorem zw_49 : Cond.code y_Md_expect prog_12_method_8_code 2 none ∈ zzW := zz_w (i := 1175) rfl rfl
set_option maxRecDepth 100000 in
theorem zw_50 : Cond.methodLink "BoardScriptModel" 197 y_Md_expect ∈ zzW := zz_w (i := 1172) (by decide +kernel) (by decide +kernel)
set_option maxRecDepth 100000 in
theorem zw_51 : Cond.instanceMethod y_Md_expect ∈ zzW := zz_w (i := 1174) (by decide +kernel) (by decide +kernel)
set_option maxRecDepth 100000 in
theorem zw_52 : Cond.selects y_Md_expect.cls y_Md_expect y_Md_expect ∈ zzW := zz_w (i := 48) (by decide +kernel) (by decide +kernel)
set_option maxRecDepth 100000 in
theorem zw_53 : Cond.code y_Md_isDigit prog_12_method_9_code 1 (some .boolean) ∈ zzW := zz_w (i := 1163) rfl rfl
set_option maxRecDepth 100000 in
theorem zw_54 : Cond.methodLink "BoardScriptModel" 201 y_Md_isDigit ∈ zzW := zz_w (i := 1161) (by decide +kernel) (by decide +kernel)
set_option maxRecDepth 100000 in
theorem zw_55 : Cond.static y_Md_isDigit ∈ zzW := zz_w (i := 1162) (by decide +kernel) (by decide +kernel)
set_option maxRecDepth 100000 in
theorem zw_56 : Cond.code y_Md_isVariable prog_12_method_10_code 1 (some .boolean) ∈ zzW := zz_w (i := 1141) rfl rfl
set_option maxRecDepth 100000 in
theorem zw_57 : Cond.methodLink "BoardScriptModel" 205 y_Md_isVariable ∈ zzW := zz_w (i := 1139) (by decide +kernel) (by decide +kernel)
set_option maxRecDepth 100000 in
theorem zw_58 : Cond.static y_Md_isVariable ∈ zzW := zz_w (i := 1140) (by decide +kernel) (by decide +kernel)
set_option maxRecDepth 100000 in
theorem zw_59 : Cond.code y_Md_complete prog_12_method_17_code 3 none ∈ zzW := zz_w (i := 1171) rfl rfl
set_option maxRecDepth 100000 in
theorem zw_60 : Cond.methodLink "BoardScriptModel" 208 y_Md_complete ∈ zzW := zz_w (i := 1168) (by decide +kernel) (by decide +kernel)
set_option maxRecDepth 100000 in
theorem zw_61 : Cond.instanceMethod y_Md_complete ∈ zzW := zz_w (i := 1170) (by decide +kernel) (by decide +kernel)
set_option maxRecDepth 100000 in
theorem zw_62 : Cond.selects y_Md_complete.cls y_Md_complete y_Md_complete ∈ zzW := zz_w (i := 47) (by decide +kernel) (by decide +kernel)
set_option maxRecDepth 100000 in
theorem zw_63 : Cond.code y_Md_isNest prog_12_method_13_code 1 (some .boolean) ∈ zzW := zz_w (i := 1152) rfl rfl
set_option maxRecDepth 100000 in
theorem zw_64 : Cond.methodLink "BoardScriptModel" 211 y_Md_isNest ∈ zzW := zz_w (i := 1150) (by decide +kernel) (by decide +kernel)
set_option maxRecDepth 100000 in
theorem zw_65 : Cond.static y_Md_isNest ∈ zzW := zz_w (i := 1151) (by decide +kernel) (by decide +kernel)
set_option maxRecDepth 100000 in
theorem zw_66 : Cond.code y_Md_nest prog_12_method_16_code 2 none ∈ zzW := zz_w (i := 1156) rfl rfl
set_option maxRecDepth 100000 in
theorem zw_67 : Cond.methodLink "BoardScriptModel" 214 y_Md_nest ∈ zzW := zz_w (i := 1153) (by decide +kernel) (by decide +kernel)
set_option maxRecDepth 100000 in
theorem zw_68 : Cond.instanceMethod y_Md_nest ∈ zzW := zz_w (i := 1155) (by decide +kernel) (by decide +kernel)
set_option maxRecDepth 100000 in
theorem zw_69 : Cond.selects y_Md_nest.cls y_Md_nest y_Md_nest ∈ zzW := zz_w (i := 44) (by decide +kernel) (by decide +kernel)
set_option maxRecDepth 100000 in
theorem zw_70 : Cond.code y_Md_readPlain prog_12_method_18_code 4 none ∈ zzW := zz_w (i := 1160) rfl rfl
set_option maxRecDepth 100000 in
theorem zw_71 : Cond.methodLink "BoardScriptModel" 217 y_Md_readPlain ∈ zzW := zz_w (i := 1157) (by decide +kernel) (by decide +kernel)
set_option maxRecDepth 100000 in
theorem zw_72 : Cond.instanceMethod y_Md_readPlain ∈ zzW := zz_w (i := 1159) (by decide +kernel) (by decide +kernel)
set_option maxRecDepth 100000 in
theorem zw_73 : Cond.selects y_Md_readPlain.cls y_Md_readPlain y_Md_readPlain ∈ zzW := zz_w (i := 45) (by decide +kernel) (by decide +kernel)
set_option maxRecDepth 100000 in
theorem zw_74 : Cond.code y_Md_hasCompare prog_12_method_20_code 2 (some .boolean) ∈ zzW := zz_w (i := 1182) rfl rfl
set_option maxRecDepth 100000 in
theorem zw_75 : Cond.methodLink "BoardScriptModel" 220 y_Md_hasCompare ∈ zzW := zz_w (i := 1179) (by decide +kernel) (by decide +kernel)
set_option maxRecDepth 100000 in
theorem zw_76 : Cond.instanceMethod y_Md_hasCompare ∈ zzW := zz_w (i := 1181) (by decide +kernel) (by decide +kernel)
set_option maxRecDepth 100000 in
theorem zw_77 : Cond.selects y_Md_hasCompare.cls y_Md_hasCompare y_Md_hasCompare ∈ zzW := zz_w (i := 49) (by decide +kernel) (by decide +kernel)
set_option maxRecDepth 100000 in
theorem zw_78 : Cond.code y_Md_drain prog_12_method_15_code 2 none ∈ zzW := zz_w (i := 1186) rfl rfl
set_option maxRecDepth 100000 in
theorem zw_79 : Cond.methodLink "BoardScriptModel" 224 y_Md_drain ∈ zzW := zz_w (i := 1183) (by decide +kernel) (by decide +kernel)
set_option maxRecDepth 100000 in
theorem zw_80 : Cond.instanceMethod y_Md_drain ∈ zzW := zz_w (i := 1185) (by decide +kernel) (by decide +kernel)
set_option maxRecDepth 100000 in
theorem zw_81 : Cond.selects y_Md_drain.cls y_Md_drain y_Md_drain ∈ zzW := zz_w (i := 50) (by decide +kernel) (by decide +kernel)
set_option maxRecDepth 100000 in
theorem zw_82 : Cond.code y_Md_hasParen prog_12_method_19_code 3 (some .boolean) ∈ zzW := zz_w (i := 1190) rfl rfl
set_option maxRecDepth 100000 in
theorem zw_83 : Cond.methodLink "BoardScriptModel" 227 y_Md_hasParen ∈ zzW := zz_w (i := 1187) (by decide +kernel) (by decide +kernel)
set_option maxRecDepth 100000 in
theorem zw_84 : Cond.instanceMethod y_Md_hasParen ∈ zzW := zz_w (i := 1189) (by decide +kernel) (by decide +kernel)
set_option maxRecDepth 100000 in
theorem zw_85 : Cond.selects y_Md_hasParen.cls y_Md_hasParen y_Md_hasParen ∈ zzW := zz_w (i := 51) (by decide +kernel) (by decide +kernel)
set_option maxRecDepth 100000 in
theorem zw_86 : Cond.fieldLink "BoardScriptModel" 230 "BoardScriptModel" "told" "I" ∈ zzW := zz_w (i := 911) (by decide +kernel) (by decide +kernel)
set_option maxRecDepth 100000 in
theorem zw_87 : Cond.fieldLink "BoardScriptModel" 22 "BoardScriptModel" "places" "[I" ∈ zzW := zz_w (i := 900) (by decide +kernel) (by decide +kernel)
set_option maxRecDepth 100000 in
theorem zw_88 : Cond.fieldLink "BoardScriptModel" 25 "BoardScriptModel" "given" "[I" ∈ zzW := zz_w (i := 901) (by decide +kernel) (by decide +kernel)
set_option maxRecDepth 100000 in
theorem zw_89 : Cond.fieldLink "BoardScriptModel" 28 "BoardScriptModel" "first" "[I" ∈ zzW := zz_w (i := 902) (by decide +kernel) (by decide +kernel)
set_option maxRecDepth 100000 in
theorem zw_90 : Cond.fieldLink "BoardScriptModel" 31 "BoardScriptModel" "second" "[I" ∈ zzW := zz_w (i := 903) (by decide +kernel) (by decide +kernel)
set_option maxRecDepth 100000 in
theorem zw_91 : Cond.fieldLink "BoardScriptModel" 34 "BoardScriptModel" "target" "[I" ∈ zzW := zz_w (i := 904) (by decide +kernel) (by decide +kernel)
set_option maxRecDepth 100000 in
theorem zw_92 : Cond.fieldLink "BoardScriptModel" 233 "BoardScriptModel" "depth" "I" ∈ zzW := zz_w (i := 914) (by decide +kernel) (by decide +kernel)
set_option maxRecDepth 100000 in
theorem zw_93 : Cond.fieldLink "BoardScriptModel" 46 "BoardScriptModel" "openKind" "[I" ∈ zzW := zz_w (i := 915) (by decide +kernel) (by decide +kernel)
set_option maxRecDepth 100000 in
theorem zw_94 : Cond.fieldLink "BoardScriptModel" 49 "BoardScriptModel" "openOrder" "[I" ∈ zzW := zz_w (i := 916) (by decide +kernel) (by decide +kernel)
set_option maxRecDepth 100000 in
theorem zw_95 : Cond.code y_Md_order prog_12_method_22_code 4 (some .int) ∈ zzW := zz_w (i := 1126) rfl rfl
set_option maxRecDepth 100000 in
theorem zw_96 : Cond.methodLink "BoardScriptModel" 236 y_Md_order ∈ zzW := zz_w (i := 1123) (by decide +kernel) (by decide +kernel)
set_option maxRecDepth 100000 in
theorem zw_97 : Cond.instanceMethod y_Md_order ∈ zzW := zz_w (i := 1125) (by decide +kernel) (by decide +kernel)
set_option maxRecDepth 100000 in
theorem zw_98 : Cond.selects y_Md_order.cls y_Md_order y_Md_order ∈ zzW := zz_w (i := 38) (by decide +kernel) (by decide +kernel)
set_option maxRecDepth 100000 in
theorem zw_99 : Cond.code y_Md_aim prog_12_method_24_code 2 none ∈ zzW := zz_w (i := 1130) rfl rfl
set_option maxRecDepth 100000 in
theorem zw_100 : Cond.methodLink "BoardScriptModel" 240 y_Md_aim ∈ zzW := zz_w (i := 1127) (by decide +kernel) (by decide +kernel)
set_option maxRecDepth 100000 in
theorem zw_101 : Cond.instanceMethod y_Md_aim ∈ zzW := zz_w (i := 1129) (by decide +kernel) (by decide +kernel)
set_option maxRecDepth 100000 in
theorem zw_102 : Cond.selects y_Md_aim.cls y_Md_aim y_Md_aim ∈ zzW := zz_w (i := 39) (by decide +kernel) (by decide +kernel)
set_option maxRecDepth 100000 in
theorem zw_103 : Cond.code y_Md_open prog_12_method_23_code 4 none ∈ zzW := zz_w (i := 1134) rfl rfl
set_option maxRecDepth 100000 in
theorem zw_104 : Cond.methodLink "BoardScriptModel" 243 y_Md_open ∈ zzW := zz_w (i := 1131) (by decide +kernel) (by decide +kernel)
set_option maxRecDepth 100000 in
theorem zw_105 : Cond.instanceMethod y_Md_open ∈ zzW := zz_w (i := 1133) (by decide +kernel) (by decide +kernel)
set_option maxRecDepth 100000 in
theorem zw_106 : Cond.selects y_Md_open.cls y_Md_open y_Md_open ∈ zzW := zz_w (i := 40) (by decide +kernel) (by decide +kernel)
set_option maxRecDepth 100000 in
theorem zw_107 : Cond.code y_Md_isFunction prog_12_method_11_code 1 (some .boolean) ∈ zzW := zz_w (i := 1208) rfl rfl
set_option maxRecDepth 100000 in
theorem zw_108 : Cond.methodLink "BoardScriptModel" 247 y_Md_isFunction ∈ zzW := zz_w (i := 1206) (by decide +kernel) (by decide +kernel)
set_option maxRecDepth 100000 in
theorem zw_109 : Cond.static y_Md_isFunction ∈ zzW := zz_w (i := 1207) (by decide +kernel) (by decide +kernel)
set_option maxRecDepth 100000 in
theorem zw_110 : Cond.fieldLink "BoardScriptModel" 37 "BoardScriptModel" "functions" "[I" ∈ zzW := zz_w (i := 905) (by decide +kernel) (by decide +kernel)
set_option maxRecDepth 100000 in
theorem zw_111 : Cond.code y_Md_readCodes prog_12_method_21_code 6 (some .int) ∈ zzW := zz_w (i := 1149) rfl rfl
set_option maxRecDepth 100000 in
theorem zw_112 : Cond.methodLink "BoardScriptModel" 250 y_Md_readCodes ∈ zzW := zz_w (i := 1146) (by decide +kernel) (by decide +kernel)
set_option maxRecDepth 100000 in
theorem zw_113 : Cond.instanceMethod y_Md_readCodes ∈ zzW := zz_w (i := 1148) (by decide +kernel) (by decide +kernel)
set_option maxRecDepth 100000 in
theorem zw_114 : Cond.selects y_Md_readCodes.cls y_Md_readCodes y_Md_readCodes ∈ zzW := zz_w (i := 43) (by decide +kernel) (by decide +kernel)
set_option maxRecDepth 100000 in
theorem zw_115 : Cond.fieldLink "BoardScriptModel" 254 "BoardScriptModel" "statements" "I" ∈ zzW := zz_w (i := 913) (by decide +kernel) (by decide +kernel)
set_option maxRecDepth 100000 in
theorem zw_116 : Cond.code y_Md_readSet prog_12_method_28_code 6 none ∈ zzW := zz_w (i := 1145) rfl rfl
set_option maxRecDepth 100000 in
theorem zw_117 : Cond.methodLink "BoardScriptModel" 257 y_Md_readSet ∈ zzW := zz_w (i := 1142) (by decide +kernel) (by decide +kernel)
set_option maxRecDepth 100000 in
theorem zw_118 : Cond.instanceMethod y_Md_readSet ∈ zzW := zz_w (i := 1144) (by decide +kernel) (by decide +kernel)
set_option maxRecDepth 100000 in
theorem zw_119 : Cond.selects y_Md_readSet.cls y_Md_readSet y_Md_readSet ∈ zzW := zz_w (i := 42) (by decide +kernel) (by decide +kernel)
set_option maxRecDepth 100000 in
theorem zw_120 : Cond.code y_Md_simpleOf prog_12_method_29_code 1 (some .int) ∈ zzW := zz_w (i := 1193) rfl rfl
set_option maxRecDepth 100000 in
theorem zw_121 : Cond.methodLink "BoardScriptModel" 260 y_Md_simpleOf ∈ zzW := zz_w (i := 1191) (by decide +kernel) (by decide +kernel)
set_option maxRecDepth 100000 in
theorem zw_122 : Cond.static y_Md_simpleOf ∈ zzW := zz_w (i := 1192) (by decide +kernel) (by decide +kernel)
set_option maxRecDepth 100000 in
theorem zw_123 : Cond.code y_Md_readFunction prog_12_method_26_code 4 none ∈ zzW := zz_w (i := 1205) rfl rfl
set_option maxRecDepth 100000 in
theorem zw_124 : Cond.methodLink "BoardScriptModel" 269 y_Md_readFunction ∈ zzW := zz_w (i := 1202) (by decide +kernel) (by decide +kernel)
set_option maxRecDepth 100000 in
theorem zw_125 : Cond.instanceMethod y_Md_readFunction ∈ zzW := zz_w (i := 1204) (by decide +kernel) (by decide +kernel)
set_option maxRecDepth 100000 in
theorem zw_126 : Cond.selects y_Md_readFunction.cls y_Md_readFunction y_Md_readFunction ∈ zzW := zz_w (i := 54) (by decide +kernel) (by decide +kernel)
set_option maxRecDepth 100000 in
theorem zw_127 : Cond.code y_Md_readBlockWith prog_12_method_30_code 5 none ∈ zzW := zz_w (i := 1201) rfl rfl
set_option maxRecDepth 100000 in
theorem zw_128 : Cond.methodLink "BoardScriptModel" 266 y_Md_readBlockWith ∈ zzW := zz_w (i := 1198) (by decide +kernel) (by decide +kernel)
set_option maxRecDepth 100000 in
theorem zw_129 : Cond.instanceMethod y_Md_readBlockWith ∈ zzW := zz_w (i := 1200) (by decide +kernel) (by decide +kernel)
set_option maxRecDepth 100000 in
theorem zw_130 : Cond.selects y_Md_readBlockWith.cls y_Md_readBlockWith y_Md_readBlockWith ∈ zzW := zz_w (i := 53) (by decide +kernel) (by decide +kernel)
set_option maxRecDepth 100000 in
theorem zw_131 : Cond.code y_Md_readSimple prog_12_method_27_code 4 (some .int) ∈ zzW := zz_w (i := 1197) rfl rfl
set_option maxRecDepth 100000 in
theorem zw_132 : Cond.methodLink "BoardScriptModel" 263 y_Md_readSimple ∈ zzW := zz_w (i := 1194) (by decide +kernel) (by decide +kernel)
set_option maxRecDepth 100000 in
theorem zw_133 : Cond.instanceMethod y_Md_readSimple ∈ zzW := zz_w (i := 1196) (by decide +kernel) (by decide +kernel)
set_option maxRecDepth 100000 in
theorem zw_134 : Cond.selects y_Md_readSimple.cls y_Md_readSimple y_Md_readSimple ∈ zzW := zz_w (i := 52) (by decide +kernel) (by decide +kernel)
set_option maxRecDepth 100000 in
theorem zw_135 : Cond.code y_Md_isEndHere prog_12_method_32_code 1 (some .boolean) ∈ zzW := zz_w (i := 1118) rfl rfl
set_option maxRecDepth 100000 in
theorem zw_136 : Cond.methodLink "BoardScriptModel" 272 y_Md_isEndHere ∈ zzW := zz_w (i := 1115) (by decide +kernel) (by decide +kernel)
set_option maxRecDepth 100000 in
theorem zw_137 : Cond.instanceMethod y_Md_isEndHere ∈ zzW := zz_w (i := 1117) (by decide +kernel) (by decide +kernel)
set_option maxRecDepth 100000 in
theorem zw_138 : Cond.selects y_Md_isEndHere.cls y_Md_isEndHere y_Md_isEndHere ∈ zzW := zz_w (i := 36) (by decide +kernel) (by decide +kernel)
set_option maxRecDepth 100000 in
theorem zw_139 : Cond.code y_Md_readStatement prog_12_method_31_code 4 none ∈ zzW := zz_w (i := 1138) rfl rfl
set_option maxRecDepth 100000 in
theorem zw_140 : Cond.methodLink "BoardScriptModel" 278 y_Md_readStatement ∈ zzW := zz_w (i := 1135) (by decide +kernel) (by decide +kernel)
set_option maxRecDepth 100000 in
theorem zw_141 : Cond.instanceMethod y_Md_readStatement ∈ zzW := zz_w (i := 1137) (by decide +kernel) (by decide +kernel)
set_option maxRecDepth 100000 in
theorem zw_142 : Cond.selects y_Md_readStatement.cls y_Md_readStatement y_Md_readStatement ∈ zzW := zz_w (i := 41) (by decide +kernel) (by decide +kernel)
set_option maxRecDepth 100000 in
theorem zw_143 : Cond.code y_Md_close prog_12_method_25_code 5 none ∈ zzW := zz_w (i := 1122) rfl rfl
set_option maxRecDepth 100000 in
theorem zw_144 : Cond.methodLink "BoardScriptModel" 275 y_Md_close ∈ zzW := zz_w (i := 1119) (by decide +kernel) (by decide +kernel)
set_option maxRecDepth 100000 in
theorem zw_145 : Cond.instanceMethod y_Md_close ∈ zzW := zz_w (i := 1121) (by decide +kernel) (by decide +kernel)
set_option maxRecDepth 100000 in
theorem zw_146 : Cond.selects y_Md_close.cls y_Md_close y_Md_close ∈ zzW := zz_w (i := 37) (by decide +kernel) (by decide +kernel)
set_option maxRecDepth 100000 in
theorem zw_147 : Cond.fieldLink "BoardScriptModel" 16 "BoardScriptModel" "scripts" "[I" ∈ zzW := zz_w (i := 898) (by decide +kernel) (by decide +kernel)
set_option maxRecDepth 100000 in
theorem zw_148 : Cond.code y_Md_isObject prog_12_method_34_code 3 (some .boolean) ∈ zzW := zz_w (i := 1228) rfl rfl
set_option maxRecDepth 100000 in
theorem zw_149 : Cond.methodLink "BoardScriptModel" 281 y_Md_isObject ∈ zzW := zz_w (i := 1225) (by decide +kernel) (by decide +kernel)
set_option maxRecDepth 100000 in
theorem zw_150 : Cond.instanceMethod y_Md_isObject ∈ zzW := zz_w (i := 1227) (by decide +kernel) (by decide +kernel)
set_option maxRecDepth 100000 in
theorem zw_151 : Cond.selects y_Md_isObject.cls y_Md_isObject y_Md_isObject ∈ zzW := zz_w (i := 57) (by decide +kernel) (by decide +kernel)
set_option maxRecDepth 100000 in
theorem zw_152 : Cond.fieldLink "BoardScriptModel" 58 "BoardScriptModel" "fields" "[J" ∈ zzW := zz_w (i := 922) (by decide +kernel) (by decide +kernel)
set_option maxRecDepth 100000 in
theorem zw_153 : Cond.code y_Md_addObject prog_12_method_36_code 4 (some .int) ∈ zzW := zz_w (i := 1216) rfl rfl
set_option maxRecDepth 100000 in
theorem zw_154 : Cond.methodLink "BoardScriptModel" 285 y_Md_addObject ∈ zzW := zz_w (i := 1213) (by decide +kernel) (by decide +kernel)
set_option maxRecDepth 100000 in
theorem zw_155 : Cond.instanceMethod y_Md_addObject ∈ zzW := zz_w (i := 1215) (by decide +kernel) (by decide +kernel)
set_option maxRecDepth 100000 in
theorem zw_156 : Cond.selects y_Md_addObject.cls y_Md_addObject y_Md_addObject ∈ zzW := zz_w (i := 55) (by decide +kernel) (by decide +kernel)
set_option maxRecDepth 100000 in
theorem zw_157 : Cond.code y_Md_isField prog_12_method_35_code 3 (some .boolean) ∈ zzW := zz_w (i := 1224) rfl rfl
set_option maxRecDepth 100000 in
theorem zw_158 : Cond.methodLink "BoardScriptModel" 289 y_Md_isField ∈ zzW := zz_w (i := 1221) (by decide +kernel) (by decide +kernel)
set_option maxRecDepth 100000 in
theorem zw_159 : Cond.instanceMethod y_Md_isField ∈ zzW := zz_w (i := 1223) (by decide +kernel) (by decide +kernel)
set_option maxRecDepth 100000 in
theorem zw_160 : Cond.selects y_Md_isField.cls y_Md_isField y_Md_isField ∈ zzW := zz_w (i := 56) (by decide +kernel) (by decide +kernel)
set_option maxRecDepth 100000 in
theorem zw_161 : Cond.constantLong "BoardScriptModel" 293 20 ∈ zzW := zz_w (i := 1241) (by decide +kernel) (by decide +kernel)
set_option maxRecDepth 100000 in
theorem zw_162 : Cond.fieldLink "BoardScriptModel" 62 "BoardScriptModel" "list" "[J" ∈ zzW := zz_w (i := 924) (by decide +kernel) (by decide +kernel)
set_option maxRecDepth 100000 in
theorem zw_163 : Cond.code y_Md_makeList prog_12_method_40_code 4 (some .boolean) ∈ zzW := zz_w (i := 1240) rfl rfl
set_option maxRecDepth 100000 in
theorem zw_164 : Cond.methodLink "BoardScriptModel" 295 y_Md_makeList ∈ zzW := zz_w (i := 1237) (by decide +kernel) (by decide +kernel)
set_option maxRecDepth 100000 in
theorem zw_165 : Cond.instanceMethod y_Md_makeList ∈ zzW := zz_w (i := 1239) (by decide +kernel) (by decide +kernel)
set_option maxRecDepth 100000 in
theorem zw_166 : Cond.selects y_Md_makeList.cls y_Md_makeList y_Md_makeList ∈ zzW := zz_w (i := 58) (by decide +kernel) (by decide +kernel)
set_option maxRecDepth 100000 in
theorem zw_167 : Cond.fieldLink "BoardScriptModel" 298 "BoardScriptModel" "fault" "I" ∈ zzW := zz_w (i := 959) (by decide +kernel) (by decide +kernel)
set_option maxRecDepth 100000 in
theorem zw_168 : Cond.fieldLink "BoardScriptModel" 111 "BoardScriptModel" "stack" "[J" ∈ zzW := zz_w (i := 957) (by decide +kernel) (by decide +kernel)
set_option maxRecDepth 100000 in
theorem zw_169 : Cond.fieldLink "BoardScriptModel" 305 "BoardScriptModel" "value" "J" ∈ zzW := zz_w (i := 958) (by decide +kernel) (by decide +kernel)
set_option maxRecDepth 100000 in
theorem zw_170 : Cond.code y_Md_reckon prog_12_method_43_code 5 (some .long) ∈ zzW := zz_w (i := 1289) rfl rfl
set_option maxRecDepth 100000 in
theorem zw_171 : Cond.methodLink "BoardScriptModel" 301 y_Md_reckon ∈ zzW := zz_w (i := 1287) (by decide +kernel) (by decide +kernel)
set_option maxRecDepth 100000 in
theorem zw_172 : Cond.static y_Md_reckon ∈ zzW := zz_w (i := 1288) (by decide +kernel) (by decide +kernel)
set_option maxRecDepth 100000 in
theorem zw_173 : Cond.fieldLink "BoardScriptModel" 108 "BoardScriptModel" "savedCount" "[I" ∈ zzW := zz_w (i := 956) (by decide +kernel) (by decide +kernel)
set_option maxRecDepth 100000 in
theorem zw_174 : Cond.fieldLink "BoardScriptModel" 105 "BoardScriptModel" "saved" "[J" ∈ zzW := zz_w (i := 955) (by decide +kernel) (by decide +kernel)
set_option maxRecDepth 100000 in
theorem zw_175 : Cond.fieldLink "BoardScriptModel" 308 "BoardScriptModel" "handlers" "I" ∈ zzW := zz_w (i := 948) (by decide +kernel) (by decide +kernel)
set_option maxRecDepth 100000 in
theorem zw_176 : Cond.fieldLink "BoardScriptModel" 320 "BoardScriptModel" "result" "I" ∈ zzW := zz_w (i := 943) (by decide +kernel) (by decide +kernel)
set_option maxRecDepth 100000 in
theorem zw_177 : Cond.fieldLink "BoardScriptModel" 323 "BoardScriptModel" "done" "Z" ∈ zzW := zz_w (i := 942) (by decide +kernel) (by decide +kernel)
set_option maxRecDepth 100000 in
theorem zw_178 : Cond.fieldLink "BoardScriptModel" 90 "BoardScriptModel" "handlerCalls" "[I" ∈ zzW := zz_w (i := 950) (by decide +kernel) (by decide +kernel)
set_option maxRecDepth 100000 in
theorem zw_179 : Cond.fieldLink "BoardScriptModel" 311 "BoardScriptModel" "calls" "I" ∈ zzW := zz_w (i := 946) (by decide +kernel) (by decide +kernel)
set_option maxRecDepth 100000 in
theorem zw_180 : Cond.fieldLink "BoardScriptModel" 87 "BoardScriptModel" "handlerKind" "[I" ∈ zzW := zz_w (i := 949) (by decide +kernel) (by decide +kernel)
set_option maxRecDepth 100000 in
theorem zw_181 : Cond.code y_Md_putBack prog_12_method_46_code 3 none ∈ zzW := zz_w (i := 1266) rfl rfl
set_option maxRecDepth 100000 in
theorem zw_182 : Cond.methodLink "BoardScriptModel" 314 y_Md_putBack ∈ zzW := zz_w (i := 1263) (by decide +kernel) (by decide +kernel)
set_option maxRecDepth 100000 in
theorem zw_183 : Cond.instanceMethod y_Md_putBack ∈ zzW := zz_w (i := 1265) (by decide +kernel) (by decide +kernel)
set_option maxRecDepth 100000 in
theorem zw_184 : Cond.selects y_Md_putBack.cls y_Md_putBack y_Md_putBack ∈ zzW := zz_w (i := 62) (by decide +kernel) (by decide +kernel)
set_option maxRecDepth 100000 in
theorem zw_185 : Cond.fieldLink "BoardScriptModel" 96 "BoardScriptModel" "pendingKind" "[I" ∈ zzW := zz_w (i := 952) (by decide +kernel) (by decide +kernel)
set_option maxRecDepth 100000 in
theorem zw_186 : Cond.fieldLink "BoardScriptModel" 99 "BoardScriptModel" "pendingPlace" "[I" ∈ zzW := zz_w (i := 953) (by decide +kernel) (by decide +kernel)
set_option maxRecDepth 100000 in
theorem zw_187 : Cond.fieldLink "BoardScriptModel" 102 "BoardScriptModel" "pendingValue" "[I" ∈ zzW := zz_w (i := 954) (by decide +kernel) (by decide +kernel)
set_option maxRecDepth 100000 in
theorem zw_188 : Cond.fieldLink "BoardScriptModel" 93 "BoardScriptModel" "handlerTarget" "[I" ∈ zzW := zz_w (i := 951) (by decide +kernel) (by decide +kernel)
set_option maxRecDepth 100000 in
theorem zw_189 : Cond.fieldLink "BoardScriptModel" 317 "BoardScriptModel" "next" "I" ∈ zzW := zz_w (i := 945) (by decide +kernel) (by decide +kernel)
set_option maxRecDepth 100000 in
theorem zw_190 : Cond.fieldLink "BoardScriptModel" 326 "BoardScriptModel" "limit" "J" ∈ zzW := zz_w (i := 927) (by decide +kernel) (by decide +kernel)
set_option maxRecDepth 100000 in
theorem zw_191 : Cond.fieldLink "BoardScriptModel" 329 "BoardScriptModel" "place" "I" ∈ zzW := zz_w (i := 944) (by decide +kernel) (by decide +kernel)
set_option maxRecDepth 100000 in
theorem zw_192 : Cond.code y_Md_ask prog_12_method_44_code 7 (some .boolean) ∈ zzW := zz_w (i := 1286) rfl rfl
set_option maxRecDepth 100000 in
theorem zw_193 : Cond.methodLink "BoardScriptModel" 332 y_Md_ask ∈ zzW := zz_w (i := 1283) (by decide +kernel) (by decide +kernel)
set_option maxRecDepth 100000 in
theorem zw_194 : Cond.instanceMethod y_Md_ask ∈ zzW := zz_w (i := 1285) (by decide +kernel) (by decide +kernel)
set_option maxRecDepth 100000 in
theorem zw_195 : Cond.selects y_Md_ask.cls y_Md_ask y_Md_ask ∈ zzW := zz_w (i := 67) (by decide +kernel) (by decide +kernel)
set_option maxRecDepth 100000 in
theorem zw_196 : Cond.code y_Md_raise prog_12_method_45_code 6 none ∈ zzW := zz_w (i := 1262) rfl rfl
set_option maxRecDepth 100000 in
theorem zw_197 : Cond.methodLink "BoardScriptModel" 335 y_Md_raise ∈ zzW := zz_w (i := 1259) (by decide +kernel) (by decide +kernel)
set_option maxRecDepth 100000 in
theorem zw_198 : Cond.instanceMethod y_Md_raise ∈ zzW := zz_w (i := 1261) (by decide +kernel) (by decide +kernel)
set_option maxRecDepth 100000 in
theorem zw_199 : Cond.selects y_Md_raise.cls y_Md_raise y_Md_raise ∈ zzW := zz_w (i := 61) (by decide +kernel) (by decide +kernel)
set_option maxRecDepth 100000 in
theorem zw_200 : Cond.fieldLink "BoardScriptModel" 78 "BoardScriptModel" "query" "[I" ∈ zzW := zz_w (i := 934) (by decide +kernel) (by decide +kernel)
set_option maxRecDepth 100000 in
theorem zw_201 : Cond.fieldLink "BoardScriptModel" 72 "BoardScriptModel" "output" "[I" ∈ zzW := zz_w (i := 930) (by decide +kernel) (by decide +kernel)
set_option maxRecDepth 100000 in
theorem zw_202 : Cond.code y_Md_askObjects prog_12_method_50_code 6 none ∈ zzW := zz_w (i := 1305) rfl rfl
set_option maxRecDepth 100000 in
theorem zw_203 : Cond.methodLink "BoardScriptModel" 338 y_Md_askObjects ∈ zzW := zz_w (i := 1302) (by decide +kernel) (by decide +kernel)
set_option maxRecDepth 100000 in
theorem zw_204 : Cond.instanceMethod y_Md_askObjects ∈ zzW := zz_w (i := 1304) (by decide +kernel) (by decide +kernel)
set_option maxRecDepth 100000 in
theorem zw_205 : Cond.selects y_Md_askObjects.cls y_Md_askObjects y_Md_askObjects ∈ zzW := zz_w (i := 71) (by decide +kernel) (by decide +kernel)
set_option maxRecDepth 100000 in
theorem zw_206 : Cond.fieldLink "BoardScriptModel" 75 "BoardScriptModel" "rule" "[I" ∈ zzW := zz_w (i := 932) (by decide +kernel) (by decide +kernel)
set_option maxRecDepth 100000 in
theorem zw_207 : Cond.fieldLink "BoardScriptModel" 84 "BoardScriptModel" "back" "[I" ∈ zzW := zz_w (i := 947) (by decide +kernel) (by decide +kernel)
set_option maxRecDepth 100000 in
theorem zw_208 : Cond.fieldLink "BoardScriptModel" 81 "BoardScriptModel" "closing" "[I" ∈ zzW := zz_w (i := 936) (by decide +kernel) (by decide +kernel)
set_option maxRecDepth 100000 in
theorem zw_209 : Cond.code y_Md_endAct prog_12_method_55_code 2 none ∈ zzW := zz_w (i := 1258) rfl rfl
set_option maxRecDepth 100000 in
theorem zw_210 : Cond.methodLink "BoardScriptModel" 341 y_Md_endAct ∈ zzW := zz_w (i := 1255) (by decide +kernel) (by decide +kernel)
set_option maxRecDepth 100000 in
theorem zw_211 : Cond.instanceMethod y_Md_endAct ∈ zzW := zz_w (i := 1257) (by decide +kernel) (by decide +kernel)
set_option maxRecDepth 100000 in
theorem zw_212 : Cond.selects y_Md_endAct.cls y_Md_endAct y_Md_endAct ∈ zzW := zz_w (i := 60) (by decide +kernel) (by decide +kernel)
set_option maxRecDepth 100000 in
theorem zw_213 : Cond.code y_Md_beginClosing prog_12_method_54_code 2 none ∈ zzW := zz_w (i := 1270) rfl rfl
set_option maxRecDepth 100000 in
theorem zw_214 : Cond.methodLink "BoardScriptModel" 344 y_Md_beginClosing ∈ zzW := zz_w (i := 1267) (by decide +kernel) (by decide +kernel)
set_option maxRecDepth 100000 in
theorem zw_215 : Cond.instanceMethod y_Md_beginClosing ∈ zzW := zz_w (i := 1269) (by decide +kernel) (by decide +kernel)
set_option maxRecDepth 100000 in
theorem zw_216 : Cond.selects y_Md_beginClosing.cls y_Md_beginClosing y_Md_beginClosing ∈ zzW := zz_w (i := 63) (by decide +kernel) (by decide +kernel)
set_option maxRecDepth 100000 in
theorem zw_217 : Cond.code y_Md_closeEnd prog_12_method_53_code 2 none ∈ zzW := zz_w (i := 1274) rfl rfl
set_option maxRecDepth 100000 in
theorem zw_218 : Cond.methodLink "BoardScriptModel" 347 y_Md_closeEnd ∈ zzW := zz_w (i := 1271) (by decide +kernel) (by decide +kernel)
set_option maxRecDepth 100000 in
theorem zw_219 : Cond.instanceMethod y_Md_closeEnd ∈ zzW := zz_w (i := 1273) (by decide +kernel) (by decide +kernel)
set_option maxRecDepth 100000 in
theorem zw_220 : Cond.selects y_Md_closeEnd.cls y_Md_closeEnd y_Md_closeEnd ∈ zzW := zz_w (i := 64) (by decide +kernel) (by decide +kernel)
set_option maxRecDepth 100000 in
theorem zw_221 : Cond.code y_Md_step prog_12_method_48_code 2 (some .boolean) ∈ zzW := zz_w (i := 1278) rfl rfl
set_option maxRecDepth 100000 in
theorem zw_222 : Cond.methodLink "BoardScriptModel" 350 y_Md_step ∈ zzW := zz_w (i := 1275) (by decide +kernel) (by decide +kernel)
set_option maxRecDepth 100000 in
theorem zw_223 : Cond.instanceMethod y_Md_step ∈ zzW := zz_w (i := 1277) (by decide +kernel) (by decide +kernel)
set_option maxRecDepth 100000 in
theorem zw_224 : Cond.selects y_Md_step.cls y_Md_step y_Md_step ∈ zzW := zz_w (i := 65) (by decide +kernel) (by decide +kernel)
set_option maxRecDepth 100000 in
theorem zw_225 : Cond.code y_Md_store prog_12_method_49_code 7 none ∈ zzW := zz_w (i := 1282) rfl rfl
set_option maxRecDepth 100000 in
theorem zw_226 : Cond.methodLink "BoardScriptModel" 353 y_Md_store ∈ zzW := zz_w (i := 1279) (by decide +kernel) (by decide +kernel)
set_option maxRecDepth 100000 in
theorem zw_227 : Cond.instanceMethod y_Md_store ∈ zzW := zz_w (i := 1281) (by decide +kernel) (by decide +kernel)
set_option maxRecDepth 100000 in
theorem zw_228 : Cond.selects y_Md_store.cls y_Md_store y_Md_store ∈ zzW := zz_w (i := 66) (by decide +kernel) (by decide +kernel)
set_option maxRecDepth 100000 in
theorem zw_229 : Cond.code y_Md_act prog_12_method_51_code 3 none ∈ zzW := zz_w (i := 1301) rfl rfl
set_option maxRecDepth 100000 in
theorem zw_230 : Cond.methodLink "BoardScriptModel" 362 y_Md_act ∈ zzW := zz_w (i := 1298) (by decide +kernel) (by decide +kernel)
set_option maxRecDepth 100000 in
theorem zw_231 : Cond.instanceMethod y_Md_act ∈ zzW := zz_w (i := 1300) (by decide +kernel) (by decide +kernel)
set_option maxRecDepth 100000 in
theorem zw_232 : Cond.selects y_Md_act.cls y_Md_act y_Md_act ∈ zzW := zz_w (i := 70) (by decide +kernel) (by decide +kernel)
set_option maxRecDepth 100000 in
theorem zw_233 : Cond.code y_Md_handle prog_12_method_47_code 5 none ∈ zzW := zz_w (i := 1293) rfl rfl
set_option maxRecDepth 100000 in
theorem zw_234 : Cond.methodLink "BoardScriptModel" 356 y_Md_handle ∈ zzW := zz_w (i := 1290) (by decide +kernel) (by decide +kernel)
set_option maxRecDepth 100000 in
theorem zw_235 : Cond.instanceMethod y_Md_handle ∈ zzW := zz_w (i := 1292) (by decide +kernel) (by decide +kernel)
set_option maxRecDepth 100000 in
theorem zw_236 : Cond.selects y_Md_handle.cls y_Md_handle y_Md_handle ∈ zzW := zz_w (i := 68) (by decide +kernel) (by decide +kernel)
set_option maxRecDepth 100000 in
theorem zw_237 : Cond.code y_Md_call prog_12_method_52_code 3 none ∈ zzW := zz_w (i := 1297) rfl rfl
set_option maxRecDepth 100000 in
theorem zw_238 : Cond.methodLink "BoardScriptModel" 359 y_Md_call ∈ zzW := zz_w (i := 1294) (by decide +kernel) (by decide +kernel)
set_option maxRecDepth 100000 in
theorem zw_239 : Cond.instanceMethod y_Md_call ∈ zzW := zz_w (i := 1296) (by decide +kernel) (by decide +kernel)
set_option maxRecDepth 100000 in
theorem zw_240 : Cond.selects y_Md_call.cls y_Md_call y_Md_call ∈ zzW := zz_w (i := 69) (by decide +kernel) (by decide +kernel)
set_option maxRecDepth 100000 in
theorem zw_241 : Cond.constantLong "BoardScriptModel" 365 300 ∈ zzW := zz_w (i := 1250) (by decide +kernel) (by decide +kernel)
set_option maxRecDepth 100000 in
theorem zw_242 : Cond.code y_Md_walk prog_12_method_56_code 3 none ∈ zzW := zz_w (i := 1254) rfl rfl
set_option maxRecDepth 100000 in
theorem zw_243 : Cond.methodLink "BoardScriptModel" 367 y_Md_walk ∈ zzW := zz_w (i := 1251) (by decide +kernel) (by decide +kernel)
set_option maxRecDepth 100000 in
theorem zw_244 : Cond.instanceMethod y_Md_walk ∈ zzW := zz_w (i := 1253) (by decide +kernel) (by decide +kernel)
set_option maxRecDepth 100000 in
theorem zw_245 : Cond.selects y_Md_walk.cls y_Md_walk y_Md_walk ∈ zzW := zz_w (i := 59) (by decide +kernel) (by decide +kernel)
