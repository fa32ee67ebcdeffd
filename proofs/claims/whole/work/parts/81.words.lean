set_option maxRecDepth 100000 in
theorem zw_686 : Cond.methodLink "BoardScriptLaw" 36 y_Bs_unit ∈ zzW := zz_w (i := 349) (by decide +kernel) (by decide +kernel)
set_option maxRecDepth 100000 in
theorem zw_687 : Cond.instanceMethod y_Bs_unit ∈ zzW := zz_w (i := 350) (by decide +kernel) (by decide +kernel)
set_option maxRecDepth 100000 in
theorem zw_688 : Cond.selects y_Bs_unit.cls y_Bs_unit y_Bs_unit ∈ zzW := zz_w (i := 351) (by decide +kernel) (by decide +kernel)
set_option maxRecDepth 100000 in
theorem zw_689 : Cond.code y_Bs_unit prog_1_method_2_code 3 (some .boolean) ∈ zzW := zz_w (i := 352) rfl rfl
set_option maxRecDepth 100000 in
theorem zw_690 : Cond.methodLink "BoardScriptLaw" 40 y_Md_unit ∈ zzW := zz_w (i := 1103) (by decide +kernel) (by decide +kernel)
set_option maxRecDepth 100000 in
theorem zw_691 : Cond.instanceMethod y_Md_unit ∈ zzW := zz_w (i := 1104) (by decide +kernel) (by decide +kernel)
set_option maxRecDepth 100000 in
theorem zw_692 : Cond.selects y_Md_unit.cls y_Md_unit y_Md_unit ∈ zzW := zz_w (i := 1105) (by decide +kernel) (by decide +kernel)
set_option maxRecDepth 100000 in
theorem zw_693 : Cond.code y_Md_unit prog_12_method_6_code 2 (some .boolean) ∈ zzW := zz_w (i := 1106) rfl rfl
set_option maxRecDepth 100000 in
theorem zw_694 : Cond.methodLink "BoardScriptLaw" 41 y_Bs_read ∈ zzW := zz_w (i := 353) (by decide +kernel) (by decide +kernel)
set_option maxRecDepth 100000 in
theorem zw_695 : Cond.instanceMethod y_Bs_read ∈ zzW := zz_w (i := 354) (by decide +kernel) (by decide +kernel)
set_option maxRecDepth 100000 in
theorem zw_696 : Cond.selects y_Bs_read.cls y_Bs_read y_Bs_read ∈ zzW := zz_w (i := 355) (by decide +kernel) (by decide +kernel)
set_option maxRecDepth 100000 in
theorem zw_697 : Cond.code y_Bs_read prog_1_method_3_code 2 (some .int) ∈ zzW := zz_w (i := 356) rfl rfl
set_option maxRecDepth 100000 in
theorem zw_698 : Cond.methodLink "BoardScriptLaw" 45 y_Md_read ∈ zzW := zz_w (i := 1107) (by decide +kernel) (by decide +kernel)
set_option maxRecDepth 100000 in
theorem zw_699 : Cond.instanceMethod y_Md_read ∈ zzW := zz_w (i := 1108) (by decide +kernel) (by decide +kernel)
set_option maxRecDepth 100000 in
theorem zw_700 : Cond.selects y_Md_read.cls y_Md_read y_Md_read ∈ zzW := zz_w (i := 1109) (by decide +kernel) (by decide +kernel)
set_option maxRecDepth 100000 in
theorem zw_701 : Cond.code y_Md_read prog_12_method_33_code 3 (some .int) ∈ zzW := zz_w (i := 1110) rfl rfl
set_option maxRecDepth 100000 in
theorem zw_702 : Cond.methodLink "BoardScriptLaw" 46 y_Bs_object ∈ zzW := zz_w (i := 575) (by decide +kernel) (by decide +kernel)
set_option maxRecDepth 100000 in
theorem zw_703 : Cond.instanceMethod y_Bs_object ∈ zzW := zz_w (i := 576) (by decide +kernel) (by decide +kernel)
set_option maxRecDepth 100000 in
theorem zw_704 : Cond.selects y_Bs_object.cls y_Bs_object y_Bs_object ∈ zzW := zz_w (i := 577) (by decide +kernel) (by decide +kernel)
set_option maxRecDepth 100000 in
theorem zw_705 : Cond.code y_Bs_object prog_1_method_4_code 2 (some .int) ∈ zzW := zz_w (i := 578) rfl rfl
set_option maxRecDepth 100000 in
theorem zw_706 : Cond.methodLink "BoardScriptLaw" 49 y_Md_object ∈ zzW := zz_w (i := 1209) (by decide +kernel) (by decide +kernel)
set_option maxRecDepth 100000 in
theorem zw_707 : Cond.instanceMethod y_Md_object ∈ zzW := zz_w (i := 1210) (by decide +kernel) (by decide +kernel)
set_option maxRecDepth 100000 in
theorem zw_708 : Cond.selects y_Md_object.cls y_Md_object y_Md_object ∈ zzW := zz_w (i := 1211) (by decide +kernel) (by decide +kernel)
set_option maxRecDepth 100000 in
theorem zw_709 : Cond.code y_Md_object prog_12_method_37_code 2 (some .int) ∈ zzW := zz_w (i := 1212) rfl rfl
set_option maxRecDepth 100000 in
theorem zw_710 : Cond.constantLong "BoardScriptLaw" 50 4294967295 ∈ zzW := zz_w (i := 1338) (by decide +kernel) (by decide +kernel)
set_option maxRecDepth 100000 in
theorem zw_711 : Cond.initialized "BoardScriptLaw" ∈ zzW := zz_w (i := 72) (by decide +kernel) (by decide +kernel)
set_option maxRecDepth 100000 in
theorem zw_712 : Cond.methodLink "BoardScriptLaw" 52 y_Lw_field ∈ zzW := zz_w (i := 667) (by decide +kernel) (by decide +kernel)
set_option maxRecDepth 100000 in
theorem zw_713 : Cond.static y_Lw_field ∈ zzW := zz_w (i := 668) (by decide +kernel) (by decide +kernel)
set_option maxRecDepth 100000 in
theorem zw_714 : Cond.methodLink "BoardScriptLaw" 57 y_Md_field ∈ zzW := zz_w (i := 1217) (by decide +kernel) (by decide +kernel)
set_option maxRecDepth 100000 in
theorem zw_715 : Cond.instanceMethod y_Md_field ∈ zzW := zz_w (i := 1218) (by decide +kernel) (by decide +kernel)
set_option maxRecDepth 100000 in
theorem zw_716 : Cond.selects y_Md_field.cls y_Md_field y_Md_field ∈ zzW := zz_w (i := 1219) (by decide +kernel) (by decide +kernel)
set_option maxRecDepth 100000 in
theorem zw_717 : Cond.code y_Md_field prog_12_method_38_code 5 (some .boolean) ∈ zzW := zz_w (i := 1220) rfl rfl
set_option maxRecDepth 100000 in
theorem zw_718 : Cond.methodLink "BoardScriptLaw" 58 y_Md_thrown ∈ zzW := zz_w (i := 1095) (by decide +kernel) (by decide +kernel)
set_option maxRecDepth 100000 in
theorem zw_719 : Cond.instanceMethod y_Md_thrown ∈ zzW := zz_w (i := 1096) (by decide +kernel) (by decide +kernel)
set_option maxRecDepth 100000 in
theorem zw_720 : Cond.selects y_Md_thrown.cls y_Md_thrown y_Md_thrown ∈ zzW := zz_w (i := 1097) (by decide +kernel) (by decide +kernel)
set_option maxRecDepth 100000 in
theorem zw_721 : Cond.code y_Md_thrown prog_12_method_4_code 1 (some .int) ∈ zzW := zz_w (i := 1098) rfl rfl
set_option maxRecDepth 100000 in
theorem zw_722 : Cond.methodLink "BoardScriptLaw" 61 y_Lw_run ∈ zzW := zz_w (i := 742) (by decide +kernel) (by decide +kernel)
set_option maxRecDepth 100000 in
theorem zw_723 : Cond.static y_Lw_run ∈ zzW := zz_w (i := 743) (by decide +kernel) (by decide +kernel)
set_option maxRecDepth 100000 in
theorem zw_724 : Cond.methodLink "BoardScriptLaw" 64 y_Md_run ∈ zzW := zz_w (i := 1246) (by decide +kernel) (by decide +kernel)
set_option maxRecDepth 100000 in
theorem zw_725 : Cond.instanceMethod y_Md_run ∈ zzW := zz_w (i := 1247) (by decide +kernel) (by decide +kernel)
set_option maxRecDepth 100000 in
theorem zw_726 : Cond.selects y_Md_run.cls y_Md_run y_Md_run ∈ zzW := zz_w (i := 1248) (by decide +kernel) (by decide +kernel)
set_option maxRecDepth 100000 in
theorem zw_727 : Cond.code y_Md_run prog_12_method_57_code 3 (some .int) ∈ zzW := zz_w (i := 1249) rfl rfl
set_option maxRecDepth 100000 in
theorem zw_728 : Cond.methodLink "BoardScriptLaw" 65 y_Lw_at ∈ zzW := zz_w (i := 856) (by decide +kernel) (by decide +kernel)
set_option maxRecDepth 100000 in
theorem zw_729 : Cond.static y_Lw_at ∈ zzW := zz_w (i := 857) (by decide +kernel) (by decide +kernel)
set_option maxRecDepth 100000 in
theorem zw_730 : Cond.methodLink "BoardScriptLaw" 68 y_Md_at ∈ zzW := zz_w (i := 1229) (by decide +kernel) (by decide +kernel)
set_option maxRecDepth 100000 in
theorem zw_731 : Cond.instanceMethod y_Md_at ∈ zzW := zz_w (i := 1230) (by decide +kernel) (by decide +kernel)
set_option maxRecDepth 100000 in
theorem zw_732 : Cond.selects y_Md_at.cls y_Md_at y_Md_at ∈ zzW := zz_w (i := 1231) (by decide +kernel) (by decide +kernel)
set_option maxRecDepth 100000 in
theorem zw_733 : Cond.code y_Md_at prog_12_method_39_code 3 (some .long) ∈ zzW := zz_w (i := 1232) rfl rfl
set_option maxRecDepth 100000 in
theorem zw_734 : Cond.methodLink "BoardScriptLaw" 69 y_Bs_query ∈ zzW := zz_w (i := 583) (by decide +kernel) (by decide +kernel)
set_option maxRecDepth 100000 in
theorem zw_735 : Cond.instanceMethod y_Bs_query ∈ zzW := zz_w (i := 584) (by decide +kernel) (by decide +kernel)
set_option maxRecDepth 100000 in
theorem zw_736 : Cond.selects y_Bs_query.cls y_Bs_query y_Bs_query ∈ zzW := zz_w (i := 585) (by decide +kernel) (by decide +kernel)
set_option maxRecDepth 100000 in
theorem zw_737 : Cond.code y_Bs_query prog_1_method_8_code 2 (some .int) ∈ zzW := zz_w (i := 586) rfl rfl
set_option maxRecDepth 100000 in
theorem zw_738 : Cond.methodLink "BoardScriptLaw" 72 y_Md_query ∈ zzW := zz_w (i := 1306) (by decide +kernel) (by decide +kernel)
set_option maxRecDepth 100000 in
theorem zw_739 : Cond.instanceMethod y_Md_query ∈ zzW := zz_w (i := 1307) (by decide +kernel) (by decide +kernel)
set_option maxRecDepth 100000 in
theorem zw_740 : Cond.selects y_Md_query.cls y_Md_query y_Md_query ∈ zzW := zz_w (i := 1308) (by decide +kernel) (by decide +kernel)
set_option maxRecDepth 100000 in
theorem zw_741 : Cond.code y_Md_query prog_12_method_58_code 2 (some .int) ∈ zzW := zz_w (i := 1309) rfl rfl
set_option maxRecDepth 100000 in
theorem zw_742 : Cond.methodLink "BoardScriptLaw" 73 y_Lw_output ∈ zzW := zz_w (i := 863) (by decide +kernel) (by decide +kernel)
set_option maxRecDepth 100000 in
theorem zw_743 : Cond.static y_Lw_output ∈ zzW := zz_w (i := 864) (by decide +kernel) (by decide +kernel)
set_option maxRecDepth 100000 in
theorem zw_744 : Cond.methodLink "BoardScriptLaw" 76 y_Md_output ∈ zzW := zz_w (i := 1310) (by decide +kernel) (by decide +kernel)
set_option maxRecDepth 100000 in
theorem zw_745 : Cond.instanceMethod y_Md_output ∈ zzW := zz_w (i := 1311) (by decide +kernel) (by decide +kernel)
set_option maxRecDepth 100000 in
theorem zw_746 : Cond.selects y_Md_output.cls y_Md_output y_Md_output ∈ zzW := zz_w (i := 1312) (by decide +kernel) (by decide +kernel)
set_option maxRecDepth 100000 in
theorem zw_747 : Cond.code y_Md_output prog_12_method_59_code 2 (some .int) ∈ zzW := zz_w (i := 1313) rfl rfl
set_option maxRecDepth 100000 in
theorem zw_748 : Cond.methodLink "BoardScriptLaw" 77 y_Lw_error ∈ zzW := zz_w (i := 871) (by decide +kernel) (by decide +kernel)
set_option maxRecDepth 100000 in
theorem zw_749 : Cond.static y_Lw_error ∈ zzW := zz_w (i := 872) (by decide +kernel) (by decide +kernel)
set_option maxRecDepth 100000 in
theorem zw_750 : Cond.methodLink "BoardScriptLaw" 79 y_Md_error ∈ zzW := zz_w (i := 1314) (by decide +kernel) (by decide +kernel)
set_option maxRecDepth 100000 in
theorem zw_751 : Cond.instanceMethod y_Md_error ∈ zzW := zz_w (i := 1315) (by decide +kernel) (by decide +kernel)
set_option maxRecDepth 100000 in
theorem zw_752 : Cond.selects y_Md_error.cls y_Md_error y_Md_error ∈ zzW := zz_w (i := 1316) (by decide +kernel) (by decide +kernel)
set_option maxRecDepth 100000 in
theorem zw_753 : Cond.code y_Md_error prog_12_method_60_code 2 (some .int) ∈ zzW := zz_w (i := 1317) rfl rfl
set_option maxRecDepth 100000 in
theorem zw_754 : Cond.methodLink "BoardScriptLaw" 80 y_Bs_closed ∈ zzW := zz_w (i := 591) (by decide +kernel) (by decide +kernel)
set_option maxRecDepth 100000 in
theorem zw_755 : Cond.instanceMethod y_Bs_closed ∈ zzW := zz_w (i := 592) (by decide +kernel) (by decide +kernel)
set_option maxRecDepth 100000 in
theorem zw_756 : Cond.selects y_Bs_closed.cls y_Bs_closed y_Bs_closed ∈ zzW := zz_w (i := 593) (by decide +kernel) (by decide +kernel)
set_option maxRecDepth 100000 in
theorem zw_757 : Cond.code y_Bs_closed prog_1_method_11_code 2 (some .int) ∈ zzW := zz_w (i := 594) rfl rfl
set_option maxRecDepth 100000 in
theorem zw_758 : Cond.methodLink "BoardScriptLaw" 83 y_Md_closed ∈ zzW := zz_w (i := 1318) (by decide +kernel) (by decide +kernel)
set_option maxRecDepth 100000 in
theorem zw_759 : Cond.instanceMethod y_Md_closed ∈ zzW := zz_w (i := 1319) (by decide +kernel) (by decide +kernel)
set_option maxRecDepth 100000 in
theorem zw_760 : Cond.selects y_Md_closed.cls y_Md_closed y_Md_closed ∈ zzW := zz_w (i := 1320) (by decide +kernel) (by decide +kernel)
set_option maxRecDepth 100000 in
theorem zw_761 : Cond.code y_Md_closed prog_12_method_61_code 2 (some .int) ∈ zzW := zz_w (i := 1321) rfl rfl
set_option maxRecDepth 100000 in
theorem zw_762 : Cond.methodLink "BoardScriptLaw" 84 y_Bs_restored ∈ zzW := zz_w (i := 595) (by decide +kernel) (by decide +kernel)
set_option maxRecDepth 100000 in
theorem zw_763 : Cond.instanceMethod y_Bs_restored ∈ zzW := zz_w (i := 596) (by decide +kernel) (by decide +kernel)
set_option maxRecDepth 100000 in
theorem zw_764 : Cond.selects y_Bs_restored.cls y_Bs_restored y_Bs_restored ∈ zzW := zz_w (i := 597) (by decide +kernel) (by decide +kernel)
set_option maxRecDepth 100000 in
theorem zw_765 : Cond.code y_Bs_restored prog_1_method_12_code 1 (some .boolean) ∈ zzW := zz_w (i := 598) rfl rfl
set_option maxRecDepth 100000 in
theorem zw_766 : Cond.methodLink "BoardScriptLaw" 88 y_Md_restored ∈ zzW := zz_w (i := 1322) (by decide +kernel) (by decide +kernel)
set_option maxRecDepth 100000 in
theorem zw_767 : Cond.instanceMethod y_Md_restored ∈ zzW := zz_w (i := 1323) (by decide +kernel) (by decide +kernel)
set_option maxRecDepth 100000 in
theorem zw_768 : Cond.selects y_Md_restored.cls y_Md_restored y_Md_restored ∈ zzW := zz_w (i := 1324) (by decide +kernel) (by decide +kernel)
set_option maxRecDepth 100000 in
theorem zw_769 : Cond.code y_Md_restored prog_12_method_62_code 1 (some .boolean) ∈ zzW := zz_w (i := 1325) rfl rfl
set_option maxRecDepth 100000 in
theorem zw_770 : Cond.methodLink "BoardScriptLaw" 89 y_Bs_added ∈ zzW := zz_w (i := 599) (by decide +kernel) (by decide +kernel)
set_option maxRecDepth 100000 in
theorem zw_771 : Cond.instanceMethod y_Bs_added ∈ zzW := zz_w (i := 600) (by decide +kernel) (by decide +kernel)
set_option maxRecDepth 100000 in
theorem zw_772 : Cond.selects y_Bs_added.cls y_Bs_added y_Bs_added ∈ zzW := zz_w (i := 601) (by decide +kernel) (by decide +kernel)
set_option maxRecDepth 100000 in
theorem zw_773 : Cond.code y_Bs_added prog_1_method_13_code 5 (some .int) ∈ zzW := zz_w (i := 602) rfl rfl
set_option maxRecDepth 100000 in
theorem zw_774 : Cond.methodLink "BoardScriptLaw" 92 y_Md_added ∈ zzW := zz_w (i := 1326) (by decide +kernel) (by decide +kernel)
set_option maxRecDepth 100000 in
theorem zw_775 : Cond.instanceMethod y_Md_added ∈ zzW := zz_w (i := 1327) (by decide +kernel) (by decide +kernel)
set_option maxRecDepth 100000 in
theorem zw_776 : Cond.selects y_Md_added.cls y_Md_added y_Md_added ∈ zzW := zz_w (i := 1328) (by decide +kernel) (by decide +kernel)
set_option maxRecDepth 100000 in
theorem zw_777 : Cond.code y_Md_added prog_12_method_63_code 2 (some .int) ∈ zzW := zz_w (i := 1329) rfl rfl
set_option maxRecDepth 100000 in
theorem zw_778 : Cond.methodLink "BoardScriptLaw" 93 y_Bs_steps ∈ zzW := zz_w (i := 635) (by decide +kernel) (by decide +kernel)
set_option maxRecDepth 100000 in
theorem zw_779 : Cond.instanceMethod y_Bs_steps ∈ zzW := zz_w (i := 636) (by decide +kernel) (by decide +kernel)
set_option maxRecDepth 100000 in
theorem zw_780 : Cond.selects y_Bs_steps.cls y_Bs_steps y_Bs_steps ∈ zzW := zz_w (i := 637) (by decide +kernel) (by decide +kernel)
set_option maxRecDepth 100000 in
theorem zw_781 : Cond.code y_Bs_steps prog_1_method_14_code 1 (some .long) ∈ zzW := zz_w (i := 638) rfl rfl
set_option maxRecDepth 100000 in
theorem zw_782 : Cond.methodLink "BoardScriptLaw" 97 y_Md_steps ∈ zzW := zz_w (i := 1330) (by decide +kernel) (by decide +kernel)
set_option maxRecDepth 100000 in
theorem zw_783 : Cond.instanceMethod y_Md_steps ∈ zzW := zz_w (i := 1331) (by decide +kernel) (by decide +kernel)
set_option maxRecDepth 100000 in
theorem zw_784 : Cond.selects y_Md_steps.cls y_Md_steps y_Md_steps ∈ zzW := zz_w (i := 1332) (by decide +kernel) (by decide +kernel)
set_option maxRecDepth 100000 in
theorem zw_785 : Cond.code y_Md_steps prog_12_method_64_code 1 (some .long) ∈ zzW := zz_w (i := 1333) rfl rfl
set_option maxRecDepth 100000 in
theorem zw_786 : Cond.methodLink "BoardScriptLaw" 98 y_Bs_failAt ∈ zzW := zz_w (i := 639) (by decide +kernel) (by decide +kernel)
set_option maxRecDepth 100000 in
theorem zw_787 : Cond.instanceMethod y_Bs_failAt ∈ zzW := zz_w (i := 640) (by decide +kernel) (by decide +kernel)
set_option maxRecDepth 100000 in
theorem zw_788 : Cond.selects y_Bs_failAt.cls y_Bs_failAt y_Bs_failAt ∈ zzW := zz_w (i := 641) (by decide +kernel) (by decide +kernel)
set_option maxRecDepth 100000 in
theorem zw_789 : Cond.code y_Bs_failAt prog_1_method_15_code 4 (some .boolean) ∈ zzW := zz_w (i := 642) rfl rfl
set_option maxRecDepth 100000 in
theorem zw_790 : Cond.methodLink "BoardScriptLaw" 101 y_Md_failAt ∈ zzW := zz_w (i := 1242) (by decide +kernel) (by decide +kernel)
set_option maxRecDepth 100000 in
theorem zw_791 : Cond.instanceMethod y_Md_failAt ∈ zzW := zz_w (i := 1243) (by decide +kernel) (by decide +kernel)
set_option maxRecDepth 100000 in
theorem zw_792 : Cond.selects y_Md_failAt.cls y_Md_failAt y_Md_failAt ∈ zzW := zz_w (i := 1244) (by decide +kernel) (by decide +kernel)
set_option maxRecDepth 100000 in
theorem zw_793 : Cond.code y_Md_failAt prog_12_method_42_code 3 (some .boolean) ∈ zzW := zz_w (i := 1245) rfl rfl
set_option maxRecDepth 100000 in
theorem zw_794 : Cond.methodLink "BoardScriptLaw" 102 y_Bs_list ∈ zzW := zz_w (i := 643) (by decide +kernel) (by decide +kernel)
set_option maxRecDepth 100000 in
theorem zw_795 : Cond.instanceMethod y_Bs_list ∈ zzW := zz_w (i := 644) (by decide +kernel) (by decide +kernel)
set_option maxRecDepth 100000 in
theorem zw_796 : Cond.selects y_Bs_list.cls y_Bs_list y_Bs_list ∈ zzW := zz_w (i := 645) (by decide +kernel) (by decide +kernel)
set_option maxRecDepth 100000 in
theorem zw_797 : Cond.code y_Bs_list prog_1_method_16_code 2 (some .int) ∈ zzW := zz_w (i := 646) rfl rfl
set_option maxRecDepth 100000 in
theorem zw_798 : Cond.methodLink "BoardScriptLaw" 105 y_Md_list ∈ zzW := zz_w (i := 1233) (by decide +kernel) (by decide +kernel)
set_option maxRecDepth 100000 in
theorem zw_799 : Cond.instanceMethod y_Md_list ∈ zzW := zz_w (i := 1234) (by decide +kernel) (by decide +kernel)
set_option maxRecDepth 100000 in
theorem zw_800 : Cond.selects y_Md_list.cls y_Md_list y_Md_list ∈ zzW := zz_w (i := 1235) (by decide +kernel) (by decide +kernel)
set_option maxRecDepth 100000 in
theorem zw_801 : Cond.code y_Md_list prog_12_method_41_code 2 (some .int) ∈ zzW := zz_w (i := 1236) rfl rfl
set_option maxRecDepth 100000 in
theorem zw_802 : Cond.methodLink "BoardScriptLaw" 106 y_Bs_line ∈ zzW := zz_w (i := 655) (by decide +kernel) (by decide +kernel)
set_option maxRecDepth 100000 in
theorem zw_803 : Cond.instanceMethod y_Bs_line ∈ zzW := zz_w (i := 656) (by decide +kernel) (by decide +kernel)
set_option maxRecDepth 100000 in
theorem zw_804 : Cond.selects y_Bs_line.cls y_Bs_line y_Bs_line ∈ zzW := zz_w (i := 657) (by decide +kernel) (by decide +kernel)
set_option maxRecDepth 100000 in
theorem zw_805 : Cond.code y_Bs_line prog_1_method_17_code 1 (some .int) ∈ zzW := zz_w (i := 658) rfl rfl
set_option maxRecDepth 100000 in
theorem zw_806 : Cond.methodLink "BoardScriptLaw" 109 y_Md_line ∈ zzW := zz_w (i := 1334) (by decide +kernel) (by decide +kernel)
set_option maxRecDepth 100000 in
theorem zw_807 : Cond.instanceMethod y_Md_line ∈ zzW := zz_w (i := 1335) (by decide +kernel) (by decide +kernel)
set_option maxRecDepth 100000 in
theorem zw_808 : Cond.selects y_Md_line.cls y_Md_line y_Md_line ∈ zzW := zz_w (i := 1336) (by decide +kernel) (by decide +kernel)
set_option maxRecDepth 100000 in
theorem zw_809 : Cond.code y_Md_line prog_12_method_65_code 3 (some .int) ∈ zzW := zz_w (i := 1337) rfl rfl
set_option maxRecDepth 100000 in
theorem zw_810 : Cond.methodLink "BoardScriptLaw" 110 y_Bs_clear ∈ zzW := zz_w (i := 659) (by decide +kernel) (by decide +kernel)
set_option maxRecDepth 100000 in
theorem zw_811 : Cond.instanceMethod y_Bs_clear ∈ zzW := zz_w (i := 660) (by decide +kernel) (by decide +kernel)
set_option maxRecDepth 100000 in
theorem zw_812 : Cond.selects y_Bs_clear.cls y_Bs_clear y_Bs_clear ∈ zzW := zz_w (i := 661) (by decide +kernel) (by decide +kernel)
set_option maxRecDepth 100000 in
theorem zw_813 : Cond.code y_Bs_clear prog_1_method_18_code 1 none ∈ zzW := zz_w (i := 662) rfl rfl
set_option maxRecDepth 100000 in
theorem zw_814 : Cond.methodLink "BoardScriptLaw" 113 y_Md_clear ∈ zzW := zz_w (i := 1099) (by decide +kernel) (by decide +kernel)
set_option maxRecDepth 100000 in
theorem zw_815 : Cond.instanceMethod y_Md_clear ∈ zzW := zz_w (i := 1100) (by decide +kernel) (by decide +kernel)
set_option maxRecDepth 100000 in
theorem zw_816 : Cond.selects y_Md_clear.cls y_Md_clear y_Md_clear ∈ zzW := zz_w (i := 1101) (by decide +kernel) (by decide +kernel)
set_option maxRecDepth 100000 in
theorem zw_817 : Cond.code y_Md_clear prog_12_method_5_code 1 none ∈ zzW := zz_w (i := 1102) rfl rfl
