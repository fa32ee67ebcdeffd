theorem d_Wk_step_0 : decode prog_10_method_5_code 0 = .ok (.aload_n 0, 1) := by decide +kernel
theorem d_Wk_step_1 : decode prog_10_method_5_code 1 = .ok (.getfield 19, 3) := by decide +kernel
theorem d_Wk_step_4 : decode prog_10_method_5_code 4 = .ok (.getfield 123, 3) := by decide +kernel
theorem d_Wk_step_7 : decode prog_10_method_5_code 7 = .ok (.aload_n 0, 1) := by decide +kernel
theorem d_Wk_step_8 : decode prog_10_method_5_code 8 = .ok (.getfield 27, 3) := by decide +kernel
theorem d_Wk_step_11 : decode prog_10_method_5_code 11 = .ok (.if_icmp .lt 5, 3) := by decide +kernel
theorem d_Wk_step_14 : decode prog_10_method_5_code 14 = .ok (.iconst 0, 1) := by decide +kernel
theorem d_Wk_step_15 : decode prog_10_method_5_code 15 = .ok (.ireturn, 1) := by decide +kernel
theorem d_Wk_step_16 : decode prog_10_method_5_code 16 = .ok (.aload_n 0, 1) := by decide +kernel
theorem d_Wk_step_17 : decode prog_10_method_5_code 17 = .ok (.getfield 19, 3) := by decide +kernel
theorem d_Wk_step_20 : decode prog_10_method_5_code 20 = .ok (.dup, 1) := by decide +kernel
theorem d_Wk_step_21 : decode prog_10_method_5_code 21 = .ok (.getfield 123, 3) := by decide +kernel
theorem d_Wk_step_24 : decode prog_10_method_5_code 24 = .ok (.iconst 1, 1) := by decide +kernel
theorem d_Wk_step_25 : decode prog_10_method_5_code 25 = .ok (.iadd, 1) := by decide +kernel
theorem d_Wk_step_26 : decode prog_10_method_5_code 26 = .ok (.putfield 123, 3) := by decide +kernel
theorem d_Wk_step_29 : decode prog_10_method_5_code 29 = .ok (.iconst 1, 1) := by decide +kernel
theorem d_Wk_step_30 : decode prog_10_method_5_code 30 = .ok (.ireturn, 1) := by decide +kernel
theorem d_Wk_fail_0 : decode prog_10_method_6_code 0 = .ok (.aload_n 0, 1) := by decide +kernel
theorem d_Wk_fail_1 : decode prog_10_method_6_code 1 = .ok (.getfield 19, 3) := by decide +kernel
theorem d_Wk_fail_4 : decode prog_10_method_6_code 4 = .ok (.iload_n 1, 1) := by decide +kernel
theorem d_Wk_fail_5 : decode prog_10_method_6_code 5 = .ok (.aload_n 2, 1) := by decide +kernel
theorem d_Wk_fail_6 : decode prog_10_method_6_code 6 = .ok (.iload_n 3, 1) := by decide +kernel
theorem d_Wk_fail_7 : decode prog_10_method_6_code 7 = .ok (.invokevirtual 64, 3) := by decide +kernel
theorem d_Wk_fail_10 : decode prog_10_method_6_code 10 = .ok (.iconst 1, 1) := by decide +kernel
theorem d_Wk_fail_11 : decode prog_10_method_6_code 11 = .ok (.ireturn, 1) := by decide +kernel
theorem d_Wk_branch_0 : decode prog_10_method_7_code 0 = .ok (.aload_n 0, 1) := by decide +kernel
theorem d_Wk_branch_1 : decode prog_10_method_7_code 1 = .ok (.getfield 15, 3) := by decide +kernel
theorem d_Wk_branch_4 : decode prog_10_method_7_code 4 = .ok (.aload_n 1, 1) := by decide +kernel
theorem d_Wk_branch_5 : decode prog_10_method_7_code 5 = .ok (.getfield 126, 3) := by decide +kernel
theorem d_Wk_branch_8 : decode prog_10_method_7_code 8 = .ok (.invokevirtual 130, 3) := by decide +kernel
theorem d_Wk_branch_11 : decode prog_10_method_7_code 11 = .ok (.lstore 4, 2) := by decide +kernel
theorem d_Wk_branch_13 : decode prog_10_method_7_code 13 = .ok (.aload_n 0, 1) := by decide +kernel
theorem d_Wk_branch_14 : decode prog_10_method_7_code 14 = .ok (.getfield 15, 3) := by decide +kernel
theorem d_Wk_branch_17 : decode prog_10_method_7_code 17 = .ok (.getfield 134, 3) := by decide +kernel
theorem d_Wk_branch_20 : decode prog_10_method_7_code 20 = .ok (.ifCond .eq 17, 3) := by decide +kernel
theorem d_Wk_branch_23 : decode prog_10_method_7_code 23 = .ok (.aload_n 0, 1) := by decide +kernel
theorem d_Wk_branch_24 : decode prog_10_method_7_code 24 = .ok (.aload_n 0, 1) := by decide +kernel
theorem d_Wk_branch_25 : decode prog_10_method_7_code 25 = .ok (.getfield 15, 3) := by decide +kernel
theorem d_Wk_branch_28 : decode prog_10_method_7_code 28 = .ok (.getfield 134, 3) := by decide +kernel
theorem d_Wk_branch_31 : decode prog_10_method_7_code 31 = .ok (.aload_n 1, 1) := by decide +kernel
theorem d_Wk_branch_32 : decode prog_10_method_7_code 32 = .ok (.iconst 0, 1) := by decide +kernel
theorem d_Wk_branch_33 : decode prog_10_method_7_code 33 = .ok (.invokevirtual 137, 3) := by decide +kernel
theorem d_Wk_branch_36 : decode prog_10_method_7_code 36 = .ok (.ireturn, 1) := by decide +kernel
theorem d_Wk_branch_37 : decode prog_10_method_7_code 37 = .ok (.aload_n 0, 1) := by decide +kernel
theorem d_Wk_branch_38 : decode prog_10_method_7_code 38 = .ok (.lload 4, 2) := by decide +kernel
theorem d_Wk_branch_40 : decode prog_10_method_7_code 40 = .ok (.lconst 0, 1) := by decide +kernel
theorem d_Wk_branch_41 : decode prog_10_method_7_code 41 = .ok (.lcmp, 1) := by decide +kernel
theorem d_Wk_branch_42 : decode prog_10_method_7_code 42 = .ok (.ifCond .eq 10, 3) := by decide +kernel
theorem d_Wk_branch_45 : decode prog_10_method_7_code 45 = .ok (.aload_n 1, 1) := by decide +kernel
theorem d_Wk_branch_46 : decode prog_10_method_7_code 46 = .ok (.getfield 141, 3) := by decide +kernel
theorem d_Wk_branch_49 : decode prog_10_method_7_code 49 = .ok (.goto 7, 3) := by decide +kernel
theorem d_Wk_branch_52 : decode prog_10_method_7_code 52 = .ok (.aload_n 1, 1) := by decide +kernel
theorem d_Wk_branch_53 : decode prog_10_method_7_code 53 = .ok (.getfield 143, 3) := by decide +kernel
theorem d_Wk_branch_56 : decode prog_10_method_7_code 56 = .ok (.iload_n 2, 1) := by decide +kernel
theorem d_Wk_branch_57 : decode prog_10_method_7_code 57 = .ok (.iconst 1, 1) := by decide +kernel
theorem d_Wk_branch_58 : decode prog_10_method_7_code 58 = .ok (.iadd, 1) := by decide +kernel
theorem d_Wk_branch_59 : decode prog_10_method_7_code 59 = .ok (.iload_n 3, 1) := by decide +kernel
theorem d_Wk_branch_60 : decode prog_10_method_7_code 60 = .ok (.invokevirtual 60, 3) := by decide +kernel
theorem d_Wk_branch_63 : decode prog_10_method_7_code 63 = .ok (.ireturn, 1) := by decide +kernel
theorem d_Wk_loop_0 : decode prog_10_method_8_code 0 = .ok (.iconst 0, 1) := by decide +kernel
theorem d_Wk_loop_1 : decode prog_10_method_8_code 1 = .ok (.istore 4, 2) := by decide +kernel
theorem d_Wk_loop_3 : decode prog_10_method_8_code 3 = .ok (.iload 4, 2) := by decide +kernel
theorem d_Wk_loop_5 : decode prog_10_method_8_code 5 = .ok (.sipush 300, 3) := by decide +kernel
theorem d_Wk_loop_8 : decode prog_10_method_8_code 8 = .ok (.if_icmp .gt 91, 3) := by decide +kernel
theorem d_Wk_loop_11 : decode prog_10_method_8_code 11 = .ok (.iload 4, 2) := by decide +kernel
theorem d_Wk_loop_13 : decode prog_10_method_8_code 13 = .ok (.ifCond .le 12, 3) := by decide +kernel
theorem d_Wk_loop_16 : decode prog_10_method_8_code 16 = .ok (.aload_n 0, 1) := by decide +kernel
theorem d_Wk_loop_17 : decode prog_10_method_8_code 17 = .ok (.invokevirtual 87, 3) := by decide +kernel
theorem d_Wk_loop_20 : decode prog_10_method_8_code 20 = .ok (.ifCond .ne 5, 3) := by decide +kernel
theorem d_Wk_loop_23 : decode prog_10_method_8_code 23 = .ok (.iconst 2, 1) := by decide +kernel
theorem d_Wk_loop_24 : decode prog_10_method_8_code 24 = .ok (.ireturn, 1) := by decide +kernel
theorem d_Wk_loop_25 : decode prog_10_method_8_code 25 = .ok (.aload_n 0, 1) := by decide +kernel
theorem d_Wk_loop_26 : decode prog_10_method_8_code 26 = .ok (.getfield 15, 3) := by decide +kernel
theorem d_Wk_loop_29 : decode prog_10_method_8_code 29 = .ok (.aload_n 1, 1) := by decide +kernel
theorem d_Wk_loop_30 : decode prog_10_method_8_code 30 = .ok (.getfield 126, 3) := by decide +kernel
theorem d_Wk_loop_33 : decode prog_10_method_8_code 33 = .ok (.invokevirtual 130, 3) := by decide +kernel
theorem d_Wk_loop_36 : decode prog_10_method_8_code 36 = .ok (.lstore 5, 2) := by decide +kernel
theorem d_Wk_loop_38 : decode prog_10_method_8_code 38 = .ok (.aload_n 0, 1) := by decide +kernel
theorem d_Wk_loop_39 : decode prog_10_method_8_code 39 = .ok (.getfield 15, 3) := by decide +kernel
theorem d_Wk_loop_42 : decode prog_10_method_8_code 42 = .ok (.getfield 134, 3) := by decide +kernel
theorem d_Wk_loop_45 : decode prog_10_method_8_code 45 = .ok (.ifCond .eq 17, 3) := by decide +kernel
theorem d_Wk_loop_48 : decode prog_10_method_8_code 48 = .ok (.aload_n 0, 1) := by decide +kernel
theorem d_Wk_loop_49 : decode prog_10_method_8_code 49 = .ok (.aload_n 0, 1) := by decide +kernel
theorem d_Wk_loop_50 : decode prog_10_method_8_code 50 = .ok (.getfield 15, 3) := by decide +kernel
theorem d_Wk_loop_53 : decode prog_10_method_8_code 53 = .ok (.getfield 134, 3) := by decide +kernel
theorem d_Wk_loop_56 : decode prog_10_method_8_code 56 = .ok (.aload_n 1, 1) := by decide +kernel
theorem d_Wk_loop_57 : decode prog_10_method_8_code 57 = .ok (.iconst 0, 1) := by decide +kernel
theorem d_Wk_loop_58 : decode prog_10_method_8_code 58 = .ok (.invokevirtual 137, 3) := by decide +kernel
theorem d_Wk_loop_61 : decode prog_10_method_8_code 61 = .ok (.ireturn, 1) := by decide +kernel
theorem d_Wk_loop_62 : decode prog_10_method_8_code 62 = .ok (.lload 5, 2) := by decide +kernel
theorem d_Wk_loop_64 : decode prog_10_method_8_code 64 = .ok (.lconst 0, 1) := by decide +kernel
theorem d_Wk_loop_65 : decode prog_10_method_8_code 65 = .ok (.lcmp, 1) := by decide +kernel
theorem d_Wk_loop_66 : decode prog_10_method_8_code 66 = .ok (.ifCond .ne 5, 3) := by decide +kernel
theorem d_Wk_loop_69 : decode prog_10_method_8_code 69 = .ok (.iconst 0, 1) := by decide +kernel
theorem d_Wk_loop_70 : decode prog_10_method_8_code 70 = .ok (.ireturn, 1) := by decide +kernel
theorem d_Wk_loop_71 : decode prog_10_method_8_code 71 = .ok (.aload_n 0, 1) := by decide +kernel
theorem d_Wk_loop_72 : decode prog_10_method_8_code 72 = .ok (.aload_n 1, 1) := by decide +kernel
theorem d_Wk_loop_73 : decode prog_10_method_8_code 73 = .ok (.getfield 141, 3) := by decide +kernel
theorem d_Wk_loop_76 : decode prog_10_method_8_code 76 = .ok (.iload_n 2, 1) := by decide +kernel
theorem d_Wk_loop_77 : decode prog_10_method_8_code 77 = .ok (.iconst 1, 1) := by decide +kernel
theorem d_Wk_loop_78 : decode prog_10_method_8_code 78 = .ok (.iadd, 1) := by decide +kernel
theorem d_Wk_loop_79 : decode prog_10_method_8_code 79 = .ok (.iload_n 3, 1) := by decide +kernel
theorem d_Wk_loop_80 : decode prog_10_method_8_code 80 = .ok (.invokevirtual 60, 3) := by decide +kernel
theorem d_Wk_loop_83 : decode prog_10_method_8_code 83 = .ok (.istore 7, 2) := by decide +kernel
theorem d_Wk_loop_85 : decode prog_10_method_8_code 85 = .ok (.iload 7, 2) := by decide +kernel
theorem d_Wk_loop_87 : decode prog_10_method_8_code 87 = .ok (.ifCond .eq 6, 3) := by decide +kernel
theorem d_Wk_loop_90 : decode prog_10_method_8_code 90 = .ok (.iload 7, 2) := by decide +kernel
theorem d_Wk_loop_92 : decode prog_10_method_8_code 92 = .ok (.ireturn, 1) := by decide +kernel
theorem d_Wk_loop_93 : decode prog_10_method_8_code 93 = .ok (.iinc 4 1, 3) := by decide +kernel
theorem d_Wk_loop_96 : decode prog_10_method_8_code 96 = .ok (.goto (-93), 3) := by decide +kernel
theorem d_Wk_loop_99 : decode prog_10_method_8_code 99 = .ok (.iconst 2, 1) := by decide +kernel
theorem d_Wk_loop_100 : decode prog_10_method_8_code 100 = .ok (.ireturn, 1) := by decide +kernel
theorem d_Wk_act_0 : decode prog_10_method_9_code 0 = .ok (.aload_n 0, 1) := by decide +kernel
theorem d_Wk_act_1 : decode prog_10_method_9_code 1 = .ok (.getfield 34, 3) := by decide +kernel
theorem d_Wk_act_4 : decode prog_10_method_9_code 4 = .ok (.istore 4, 2) := by decide +kernel
theorem d_Wk_act_6 : decode prog_10_method_9_code 6 = .ok (.aload_n 0, 1) := by decide +kernel
theorem d_Wk_act_7 : decode prog_10_method_9_code 7 = .ok (.dup, 1) := by decide +kernel
theorem d_Wk_act_8 : decode prog_10_method_9_code 8 = .ok (.getfield 34, 3) := by decide +kernel
theorem d_Wk_act_11 : decode prog_10_method_9_code 11 = .ok (.iconst 1, 1) := by decide +kernel
theorem d_Wk_act_12 : decode prog_10_method_9_code 12 = .ok (.iadd, 1) := by decide +kernel
theorem d_Wk_act_13 : decode prog_10_method_9_code 13 = .ok (.putfield 34, 3) := by decide +kernel
theorem d_Wk_act_16 : decode prog_10_method_9_code 16 = .ok (.aload_n 0, 1) := by decide +kernel
theorem d_Wk_act_17 : decode prog_10_method_9_code 17 = .ok (.getfield 9, 3) := by decide +kernel
theorem d_Wk_act_20 : decode prog_10_method_9_code 20 = .ok (.iload_n 2, 1) := by decide +kernel
theorem d_Wk_act_21 : decode prog_10_method_9_code 21 = .ok (.invokevirtual 146, 3) := by decide +kernel
theorem d_Wk_act_24 : decode prog_10_method_9_code 24 = .ok (.aload_n 0, 1) := by decide +kernel
theorem d_Wk_act_25 : decode prog_10_method_9_code 25 = .ok (.aload_n 1, 1) := by decide +kernel
theorem d_Wk_act_26 : decode prog_10_method_9_code 26 = .ok (.getfield 141, 3) := by decide +kernel
theorem d_Wk_act_29 : decode prog_10_method_9_code 29 = .ok (.iload_n 2, 1) := by decide +kernel
theorem d_Wk_act_30 : decode prog_10_method_9_code 30 = .ok (.iconst 1, 1) := by decide +kernel
theorem d_Wk_act_31 : decode prog_10_method_9_code 31 = .ok (.iadd, 1) := by decide +kernel
theorem d_Wk_act_32 : decode prog_10_method_9_code 32 = .ok (.iload_n 3, 1) := by decide +kernel
theorem d_Wk_act_33 : decode prog_10_method_9_code 33 = .ok (.invokevirtual 60, 3) := by decide +kernel
theorem d_Wk_act_36 : decode prog_10_method_9_code 36 = .ok (.istore 5, 2) := by decide +kernel
theorem d_Wk_act_38 : decode prog_10_method_9_code 38 = .ok (.iload 5, 2) := by decide +kernel
theorem d_Wk_act_40 : decode prog_10_method_9_code 40 = .ok (.ifCond .ne 22, 3) := by decide +kernel
theorem d_Wk_act_43 : decode prog_10_method_9_code 43 = .ok (.iload 4, 2) := by decide +kernel
theorem d_Wk_act_45 : decode prog_10_method_9_code 45 = .ok (.aload_n 0, 1) := by decide +kernel
theorem d_Wk_act_46 : decode prog_10_method_9_code 46 = .ok (.getfield 31, 3) := by decide +kernel
theorem d_Wk_act_49 : decode prog_10_method_9_code 49 = .ok (.if_icmp .ne 13, 3) := by decide +kernel
theorem d_Wk_act_52 : decode prog_10_method_9_code 52 = .ok (.aload_n 0, 1) := by decide +kernel
theorem d_Wk_act_53 : decode prog_10_method_9_code 53 = .ok (.bipush 7, 2) := by decide +kernel
theorem d_Wk_act_55 : decode prog_10_method_9_code 55 = .ok (.aload_n 1, 1) := by decide +kernel
theorem d_Wk_act_56 : decode prog_10_method_9_code 56 = .ok (.iconst 0, 1) := by decide +kernel
theorem d_Wk_act_57 : decode prog_10_method_9_code 57 = .ok (.invokevirtual 137, 3) := by decide +kernel
theorem d_Wk_act_60 : decode prog_10_method_9_code 60 = .ok (.istore 5, 2) := by decide +kernel
theorem d_Wk_act_62 : decode prog_10_method_9_code 62 = .ok (.iload 5, 2) := by decide +kernel
theorem d_Wk_act_64 : decode prog_10_method_9_code 64 = .ok (.iconst 1, 1) := by decide +kernel
theorem d_Wk_act_65 : decode prog_10_method_9_code 65 = .ok (.if_icmp .ne 19, 3) := by decide +kernel
theorem d_Wk_act_68 : decode prog_10_method_9_code 68 = .ok (.aload_n 0, 1) := by decide +kernel
theorem d_Wk_act_69 : decode prog_10_method_9_code 69 = .ok (.getfield 9, 3) := by decide +kernel
theorem d_Wk_act_72 : decode prog_10_method_9_code 72 = .ok (.iload_n 2, 1) := by decide +kernel
theorem d_Wk_act_73 : decode prog_10_method_9_code 73 = .ok (.invokevirtual 152, 3) := by decide +kernel
theorem d_Wk_act_76 : decode prog_10_method_9_code 76 = .ok (.aload_n 0, 1) := by decide +kernel
theorem d_Wk_act_77 : decode prog_10_method_9_code 77 = .ok (.getfield 19, 3) := by decide +kernel
theorem d_Wk_act_80 : decode prog_10_method_9_code 80 = .ok (.iconst 1, 1) := by decide +kernel
theorem d_Wk_act_81 : decode prog_10_method_9_code 81 = .ok (.putfield 155, 3) := by decide +kernel
theorem d_Wk_act_84 : decode prog_10_method_9_code 84 = .ok (.iload 5, 2) := by decide +kernel
theorem d_Wk_act_86 : decode prog_10_method_9_code 86 = .ok (.ireturn, 1) := by decide +kernel
theorem d_Wk_closing_0 : decode prog_10_method_10_code 0 = .ok (.aload_n 0, 1) := by decide +kernel
theorem d_Wk_closing_1 : decode prog_10_method_10_code 1 = .ok (.aload_n 1, 1) := by decide +kernel
theorem d_Wk_closing_2 : decode prog_10_method_10_code 2 = .ok (.getfield 141, 3) := by decide +kernel
theorem d_Wk_closing_5 : decode prog_10_method_10_code 5 = .ok (.iload_n 2, 1) := by decide +kernel
theorem d_Wk_closing_6 : decode prog_10_method_10_code 6 = .ok (.iconst 1, 1) := by decide +kernel
theorem d_Wk_closing_7 : decode prog_10_method_10_code 7 = .ok (.iadd, 1) := by decide +kernel
theorem d_Wk_closing_8 : decode prog_10_method_10_code 8 = .ok (.iload_n 3, 1) := by decide +kernel
theorem d_Wk_closing_9 : decode prog_10_method_10_code 9 = .ok (.invokevirtual 60, 3) := by decide +kernel
theorem d_Wk_closing_12 : decode prog_10_method_10_code 12 = .ok (.istore 4, 2) := by decide +kernel
theorem d_Wk_closing_14 : decode prog_10_method_10_code 14 = .ok (.iload 4, 2) := by decide +kernel
theorem d_Wk_closing_16 : decode prog_10_method_10_code 16 = .ok (.iconst 2, 1) := by decide +kernel
theorem d_Wk_closing_17 : decode prog_10_method_10_code 17 = .ok (.if_icmp .ne 5, 3) := by decide +kernel
theorem d_Wk_closing_20 : decode prog_10_method_10_code 20 = .ok (.iconst 2, 1) := by decide +kernel
theorem d_Wk_closing_21 : decode prog_10_method_10_code 21 = .ok (.ireturn, 1) := by decide +kernel
theorem d_Wk_closing_22 : decode prog_10_method_10_code 22 = .ok (.aload_n 0, 1) := by decide +kernel
theorem d_Wk_closing_23 : decode prog_10_method_10_code 23 = .ok (.getfield 19, 3) := by decide +kernel
theorem d_Wk_closing_26 : decode prog_10_method_10_code 26 = .ok (.aload_n 1, 1) := by decide +kernel
theorem d_Wk_closing_27 : decode prog_10_method_10_code 27 = .ok (.getfield 158, 3) := by decide +kernel
theorem d_Wk_closing_30 : decode prog_10_method_10_code 30 = .ok (.invokevirtual 161, 3) := by decide +kernel
theorem d_Wk_closing_33 : decode prog_10_method_10_code 33 = .ok (.aload_n 0, 1) := by decide +kernel
theorem d_Wk_closing_34 : decode prog_10_method_10_code 34 = .ok (.aload_n 1, 1) := by decide +kernel
theorem d_Wk_closing_35 : decode prog_10_method_10_code 35 = .ok (.getfield 143, 3) := by decide +kernel
theorem d_Wk_closing_38 : decode prog_10_method_10_code 38 = .ok (.iload_n 2, 1) := by decide +kernel
theorem d_Wk_closing_39 : decode prog_10_method_10_code 39 = .ok (.iconst 1, 1) := by decide +kernel
theorem d_Wk_closing_40 : decode prog_10_method_10_code 40 = .ok (.iadd, 1) := by decide +kernel
theorem d_Wk_closing_41 : decode prog_10_method_10_code 41 = .ok (.iload_n 3, 1) := by decide +kernel
theorem d_Wk_closing_42 : decode prog_10_method_10_code 42 = .ok (.invokevirtual 60, 3) := by decide +kernel
theorem d_Wk_closing_45 : decode prog_10_method_10_code 45 = .ok (.istore 5, 2) := by decide +kernel
theorem d_Wk_closing_47 : decode prog_10_method_10_code 47 = .ok (.iload 5, 2) := by decide +kernel
theorem d_Wk_closing_49 : decode prog_10_method_10_code 49 = .ok (.ifCond .ne 8, 3) := by decide +kernel
theorem d_Wk_closing_52 : decode prog_10_method_10_code 52 = .ok (.iload 4, 2) := by decide +kernel
theorem d_Wk_closing_54 : decode prog_10_method_10_code 54 = .ok (.goto 5, 3) := by decide +kernel
theorem d_Wk_closing_57 : decode prog_10_method_10_code 57 = .ok (.iload 5, 2) := by decide +kernel
theorem d_Wk_closing_59 : decode prog_10_method_10_code 59 = .ok (.ireturn, 1) := by decide +kernel
theorem d_Wk_call_0 : decode prog_10_method_11_code 0 = .ok (.aload_n 0, 1) := by decide +kernel
theorem d_Wk_call_1 : decode prog_10_method_11_code 1 = .ok (.getfield 23, 3) := by decide +kernel
theorem d_Wk_call_4 : decode prog_10_method_11_code 4 = .ok (.aload_n 1, 1) := by decide +kernel
theorem d_Wk_call_5 : decode prog_10_method_11_code 5 = .ok (.getfield 164, 3) := by decide +kernel
theorem d_Wk_call_8 : decode prog_10_method_11_code 8 = .ok (.invokevirtual 167, 3) := by decide +kernel
theorem d_Wk_call_11 : decode prog_10_method_11_code 11 = .ok (.astore 4, 2) := by decide +kernel
theorem d_Wk_call_13 : decode prog_10_method_11_code 13 = .ok (.aload 4, 2) := by decide +kernel
theorem d_Wk_call_15 : decode prog_10_method_11_code 15 = .ok (.ifnonnull 12, 3) := by decide +kernel
theorem d_Wk_call_18 : decode prog_10_method_11_code 18 = .ok (.aload_n 0, 1) := by decide +kernel
theorem d_Wk_call_19 : decode prog_10_method_11_code 19 = .ok (.bipush 6, 2) := by decide +kernel
theorem d_Wk_call_21 : decode prog_10_method_11_code 21 = .ok (.aload_n 1, 1) := by decide +kernel
theorem d_Wk_call_22 : decode prog_10_method_11_code 22 = .ok (.iconst 0, 1) := by decide +kernel
theorem d_Wk_call_23 : decode prog_10_method_11_code 23 = .ok (.invokevirtual 137, 3) := by decide +kernel
theorem d_Wk_call_26 : decode prog_10_method_11_code 26 = .ok (.ireturn, 1) := by decide +kernel
theorem d_Wk_call_27 : decode prog_10_method_11_code 27 = .ok (.iload_n 3, 1) := by decide +kernel
theorem d_Wk_call_28 : decode prog_10_method_11_code 28 = .ok (.iconst 2, 1) := by decide +kernel
theorem d_Wk_call_29 : decode prog_10_method_11_code 29 = .ok (.if_icmp .lt 11, 3) := by decide +kernel
theorem d_Wk_call_32 : decode prog_10_method_11_code 32 = .ok (.aload_n 0, 1) := by decide +kernel
theorem d_Wk_call_33 : decode prog_10_method_11_code 33 = .ok (.iconst 5, 1) := by decide +kernel
theorem d_Wk_call_34 : decode prog_10_method_11_code 34 = .ok (.aload_n 1, 1) := by decide +kernel
theorem d_Wk_call_35 : decode prog_10_method_11_code 35 = .ok (.iconst 0, 1) := by decide +kernel
theorem d_Wk_call_36 : decode prog_10_method_11_code 36 = .ok (.invokevirtual 137, 3) := by decide +kernel
theorem d_Wk_call_39 : decode prog_10_method_11_code 39 = .ok (.ireturn, 1) := by decide +kernel
theorem d_Wk_call_40 : decode prog_10_method_11_code 40 = .ok (.aload_n 0, 1) := by decide +kernel
theorem d_Wk_call_41 : decode prog_10_method_11_code 41 = .ok (.aload 4, 2) := by decide +kernel
theorem d_Wk_call_43 : decode prog_10_method_11_code 43 = .ok (.getfield 141, 3) := by decide +kernel
theorem d_Wk_call_46 : decode prog_10_method_11_code 46 = .ok (.iload_n 2, 1) := by decide +kernel
theorem d_Wk_call_47 : decode prog_10_method_11_code 47 = .ok (.iconst 1, 1) := by decide +kernel
theorem d_Wk_call_48 : decode prog_10_method_11_code 48 = .ok (.iadd, 1) := by decide +kernel
theorem d_Wk_call_49 : decode prog_10_method_11_code 49 = .ok (.iload_n 3, 1) := by decide +kernel
theorem d_Wk_call_50 : decode prog_10_method_11_code 50 = .ok (.iconst 1, 1) := by decide +kernel
theorem d_Wk_call_51 : decode prog_10_method_11_code 51 = .ok (.iadd, 1) := by decide +kernel
theorem d_Wk_call_52 : decode prog_10_method_11_code 52 = .ok (.invokevirtual 60, 3) := by decide +kernel
theorem d_Wk_call_55 : decode prog_10_method_11_code 55 = .ok (.ireturn, 1) := by decide +kernel
theorem d_Wk_setField_0 : decode prog_10_method_12_code 0 = .ok (.aload_n 0, 1) := by decide +kernel
theorem d_Wk_setField_1 : decode prog_10_method_12_code 1 = .ok (.getfield 15, 3) := by decide +kernel
theorem d_Wk_setField_4 : decode prog_10_method_12_code 4 = .ok (.aload_n 1, 1) := by decide +kernel
theorem d_Wk_setField_5 : decode prog_10_method_12_code 5 = .ok (.getfield 171, 3) := by decide +kernel
theorem d_Wk_setField_8 : decode prog_10_method_12_code 8 = .ok (.invokevirtual 130, 3) := by decide +kernel
theorem d_Wk_setField_11 : decode prog_10_method_12_code 11 = .ok (.lstore_n 2, 1) := by decide +kernel
theorem d_Wk_setField_12 : decode prog_10_method_12_code 12 = .ok (.aload_n 0, 1) := by decide +kernel
theorem d_Wk_setField_13 : decode prog_10_method_12_code 13 = .ok (.getfield 15, 3) := by decide +kernel
theorem d_Wk_setField_16 : decode prog_10_method_12_code 16 = .ok (.getfield 134, 3) := by decide +kernel
theorem d_Wk_setField_19 : decode prog_10_method_12_code 19 = .ok (.ifCond .eq 17, 3) := by decide +kernel
theorem d_Wk_setField_22 : decode prog_10_method_12_code 22 = .ok (.aload_n 0, 1) := by decide +kernel
theorem d_Wk_setField_23 : decode prog_10_method_12_code 23 = .ok (.aload_n 0, 1) := by decide +kernel
theorem d_Wk_setField_24 : decode prog_10_method_12_code 24 = .ok (.getfield 15, 3) := by decide +kernel
theorem d_Wk_setField_27 : decode prog_10_method_12_code 27 = .ok (.getfield 134, 3) := by decide +kernel
theorem d_Wk_setField_30 : decode prog_10_method_12_code 30 = .ok (.aload_n 1, 1) := by decide +kernel
theorem d_Wk_setField_31 : decode prog_10_method_12_code 31 = .ok (.iconst 0, 1) := by decide +kernel
theorem d_Wk_setField_32 : decode prog_10_method_12_code 32 = .ok (.invokevirtual 137, 3) := by decide +kernel
theorem d_Wk_setField_35 : decode prog_10_method_12_code 35 = .ok (.ireturn, 1) := by decide +kernel
theorem d_Wk_setField_36 : decode prog_10_method_12_code 36 = .ok (.aload_n 0, 1) := by decide +kernel
theorem d_Wk_setField_37 : decode prog_10_method_12_code 37 = .ok (.getfield 9, 3) := by decide +kernel
theorem d_Wk_setField_40 : decode prog_10_method_12_code 40 = .ok (.lload_n 2, 1) := by decide +kernel
theorem d_Wk_setField_41 : decode prog_10_method_12_code 41 = .ok (.aload_n 1, 1) := by decide +kernel
theorem d_Wk_setField_42 : decode prog_10_method_12_code 42 = .ok (.getfield 164, 3) := by decide +kernel
theorem d_Wk_setField_45 : decode prog_10_method_12_code 45 = .ok (.invokevirtual 174, 3) := by decide +kernel
theorem d_Wk_setField_48 : decode prog_10_method_12_code 48 = .ok (.istore 4, 2) := by decide +kernel
theorem d_Wk_setField_50 : decode prog_10_method_12_code 50 = .ok (.iload 4, 2) := by decide +kernel
theorem d_Wk_setField_52 : decode prog_10_method_12_code 52 = .ok (.iconst (-1), 1) := by decide +kernel
theorem d_Wk_setField_53 : decode prog_10_method_12_code 53 = .ok (.if_icmp .ne 11, 3) := by decide +kernel
theorem d_Wk_setField_56 : decode prog_10_method_12_code 56 = .ok (.aload_n 0, 1) := by decide +kernel
theorem d_Wk_setField_57 : decode prog_10_method_12_code 57 = .ok (.iconst 2, 1) := by decide +kernel
theorem d_Wk_setField_58 : decode prog_10_method_12_code 58 = .ok (.aload_n 1, 1) := by decide +kernel
theorem d_Wk_setField_59 : decode prog_10_method_12_code 59 = .ok (.iconst 0, 1) := by decide +kernel
theorem d_Wk_setField_60 : decode prog_10_method_12_code 60 = .ok (.invokevirtual 137, 3) := by decide +kernel
theorem d_Wk_setField_63 : decode prog_10_method_12_code 63 = .ok (.ireturn, 1) := by decide +kernel
theorem d_Wk_setField_64 : decode prog_10_method_12_code 64 = .ok (.aload_n 0, 1) := by decide +kernel
theorem d_Wk_setField_65 : decode prog_10_method_12_code 65 = .ok (.getfield 15, 3) := by decide +kernel
theorem d_Wk_setField_68 : decode prog_10_method_12_code 68 = .ok (.aload_n 1, 1) := by decide +kernel
theorem d_Wk_setField_69 : decode prog_10_method_12_code 69 = .ok (.getfield 126, 3) := by decide +kernel
theorem d_Wk_setField_72 : decode prog_10_method_12_code 72 = .ok (.invokevirtual 130, 3) := by decide +kernel
theorem d_Wk_setField_75 : decode prog_10_method_12_code 75 = .ok (.lstore 5, 2) := by decide +kernel
theorem d_Wk_setField_77 : decode prog_10_method_12_code 77 = .ok (.aload_n 0, 1) := by decide +kernel
theorem d_Wk_setField_78 : decode prog_10_method_12_code 78 = .ok (.getfield 15, 3) := by decide +kernel
theorem d_Wk_setField_81 : decode prog_10_method_12_code 81 = .ok (.getfield 134, 3) := by decide +kernel
theorem d_Wk_setField_84 : decode prog_10_method_12_code 84 = .ok (.ifCond .eq 17, 3) := by decide +kernel
theorem d_Wk_setField_87 : decode prog_10_method_12_code 87 = .ok (.aload_n 0, 1) := by decide +kernel
theorem d_Wk_setField_88 : decode prog_10_method_12_code 88 = .ok (.aload_n 0, 1) := by decide +kernel
theorem d_Wk_setField_89 : decode prog_10_method_12_code 89 = .ok (.getfield 15, 3) := by decide +kernel
theorem d_Wk_setField_92 : decode prog_10_method_12_code 92 = .ok (.getfield 134, 3) := by decide +kernel
theorem d_Wk_setField_95 : decode prog_10_method_12_code 95 = .ok (.aload_n 1, 1) := by decide +kernel
theorem d_Wk_setField_96 : decode prog_10_method_12_code 96 = .ok (.iconst 0, 1) := by decide +kernel
theorem d_Wk_setField_97 : decode prog_10_method_12_code 97 = .ok (.invokevirtual 137, 3) := by decide +kernel
theorem d_Wk_setField_100 : decode prog_10_method_12_code 100 = .ok (.ireturn, 1) := by decide +kernel
theorem d_Wk_setField_101 : decode prog_10_method_12_code 101 = .ok (.aload_n 0, 1) := by decide +kernel
theorem d_Wk_setField_102 : decode prog_10_method_12_code 102 = .ok (.getfield 9, 3) := by decide +kernel
theorem d_Wk_setField_105 : decode prog_10_method_12_code 105 = .ok (.getfield 178, 3) := by decide +kernel
theorem d_Wk_setField_108 : decode prog_10_method_12_code 108 = .ok (.iload 4, 2) := by decide +kernel
theorem d_Wk_setField_110 : decode prog_10_method_12_code 110 = .ok (.lload 5, 2) := by decide +kernel
theorem d_Wk_setField_112 : decode prog_10_method_12_code 112 = .ok (.lastore, 1) := by decide +kernel
theorem d_Wk_setField_113 : decode prog_10_method_12_code 113 = .ok (.iconst 0, 1) := by decide +kernel
theorem d_Wk_setField_114 : decode prog_10_method_12_code 114 = .ok (.ireturn, 1) := by decide +kernel
theorem d_Wk_setPlace_0 : decode prog_10_method_13_code 0 = .ok (.aload_n 0, 1) := by decide +kernel
theorem d_Wk_setPlace_1 : decode prog_10_method_13_code 1 = .ok (.getfield 15, 3) := by decide +kernel
theorem d_Wk_setPlace_4 : decode prog_10_method_13_code 4 = .ok (.aload_n 1, 1) := by decide +kernel
theorem d_Wk_setPlace_5 : decode prog_10_method_13_code 5 = .ok (.getfield 171, 3) := by decide +kernel
theorem d_Wk_setPlace_8 : decode prog_10_method_13_code 8 = .ok (.invokevirtual 130, 3) := by decide +kernel
theorem d_Wk_setPlace_11 : decode prog_10_method_13_code 11 = .ok (.lstore_n 2, 1) := by decide +kernel
theorem d_Wk_setPlace_12 : decode prog_10_method_13_code 12 = .ok (.aload_n 0, 1) := by decide +kernel
theorem d_Wk_setPlace_13 : decode prog_10_method_13_code 13 = .ok (.getfield 15, 3) := by decide +kernel
theorem d_Wk_setPlace_16 : decode prog_10_method_13_code 16 = .ok (.getfield 134, 3) := by decide +kernel
theorem d_Wk_setPlace_19 : decode prog_10_method_13_code 19 = .ok (.ifCond .eq 17, 3) := by decide +kernel
theorem d_Wk_setPlace_22 : decode prog_10_method_13_code 22 = .ok (.aload_n 0, 1) := by decide +kernel
theorem d_Wk_setPlace_23 : decode prog_10_method_13_code 23 = .ok (.aload_n 0, 1) := by decide +kernel
theorem d_Wk_setPlace_24 : decode prog_10_method_13_code 24 = .ok (.getfield 15, 3) := by decide +kernel
theorem d_Wk_setPlace_27 : decode prog_10_method_13_code 27 = .ok (.getfield 134, 3) := by decide +kernel
theorem d_Wk_setPlace_30 : decode prog_10_method_13_code 30 = .ok (.aload_n 1, 1) := by decide +kernel
theorem d_Wk_setPlace_31 : decode prog_10_method_13_code 31 = .ok (.iconst 0, 1) := by decide +kernel
theorem d_Wk_setPlace_32 : decode prog_10_method_13_code 32 = .ok (.invokevirtual 137, 3) := by decide +kernel
theorem d_Wk_setPlace_35 : decode prog_10_method_13_code 35 = .ok (.ireturn, 1) := by decide +kernel
theorem d_Wk_setPlace_36 : decode prog_10_method_13_code 36 = .ok (.aload_n 0, 1) := by decide +kernel
theorem d_Wk_setPlace_37 : decode prog_10_method_13_code 37 = .ok (.getfield 9, 3) := by decide +kernel
theorem d_Wk_setPlace_40 : decode prog_10_method_13_code 40 = .ok (.lload_n 2, 1) := by decide +kernel
theorem d_Wk_setPlace_41 : decode prog_10_method_13_code 41 = .ok (.invokevirtual 181, 3) := by decide +kernel
theorem d_Wk_setPlace_44 : decode prog_10_method_13_code 44 = .ok (.istore 4, 2) := by decide +kernel
theorem d_Wk_setPlace_46 : decode prog_10_method_13_code 46 = .ok (.iload 4, 2) := by decide +kernel
theorem d_Wk_setPlace_48 : decode prog_10_method_13_code 48 = .ok (.iconst (-1), 1) := by decide +kernel
theorem d_Wk_setPlace_49 : decode prog_10_method_13_code 49 = .ok (.if_icmp .ne 11, 3) := by decide +kernel
theorem d_Wk_setPlace_52 : decode prog_10_method_13_code 52 = .ok (.aload_n 0, 1) := by decide +kernel
theorem d_Wk_setPlace_53 : decode prog_10_method_13_code 53 = .ok (.iconst 2, 1) := by decide +kernel
theorem d_Wk_setPlace_54 : decode prog_10_method_13_code 54 = .ok (.aload_n 1, 1) := by decide +kernel
theorem d_Wk_setPlace_55 : decode prog_10_method_13_code 55 = .ok (.iconst 0, 1) := by decide +kernel
theorem d_Wk_setPlace_56 : decode prog_10_method_13_code 56 = .ok (.invokevirtual 137, 3) := by decide +kernel
theorem d_Wk_setPlace_59 : decode prog_10_method_13_code 59 = .ok (.ireturn, 1) := by decide +kernel
theorem d_Wk_setPlace_60 : decode prog_10_method_13_code 60 = .ok (.aload_n 0, 1) := by decide +kernel
theorem d_Wk_setPlace_61 : decode prog_10_method_13_code 61 = .ok (.getfield 15, 3) := by decide +kernel
theorem d_Wk_setPlace_64 : decode prog_10_method_13_code 64 = .ok (.aload_n 1, 1) := by decide +kernel
theorem d_Wk_setPlace_65 : decode prog_10_method_13_code 65 = .ok (.getfield 126, 3) := by decide +kernel
theorem d_Wk_setPlace_68 : decode prog_10_method_13_code 68 = .ok (.invokevirtual 130, 3) := by decide +kernel
theorem d_Wk_setPlace_71 : decode prog_10_method_13_code 71 = .ok (.lstore 5, 2) := by decide +kernel
theorem d_Wk_setPlace_73 : decode prog_10_method_13_code 73 = .ok (.aload_n 0, 1) := by decide +kernel
theorem d_Wk_setPlace_74 : decode prog_10_method_13_code 74 = .ok (.getfield 15, 3) := by decide +kernel
theorem d_Wk_setPlace_77 : decode prog_10_method_13_code 77 = .ok (.getfield 134, 3) := by decide +kernel
theorem d_Wk_setPlace_80 : decode prog_10_method_13_code 80 = .ok (.ifCond .eq 17, 3) := by decide +kernel
theorem d_Wk_setPlace_83 : decode prog_10_method_13_code 83 = .ok (.aload_n 0, 1) := by decide +kernel
theorem d_Wk_setPlace_84 : decode prog_10_method_13_code 84 = .ok (.aload_n 0, 1) := by decide +kernel
theorem d_Wk_setPlace_85 : decode prog_10_method_13_code 85 = .ok (.getfield 15, 3) := by decide +kernel
theorem d_Wk_setPlace_88 : decode prog_10_method_13_code 88 = .ok (.getfield 134, 3) := by decide +kernel
theorem d_Wk_setPlace_91 : decode prog_10_method_13_code 91 = .ok (.aload_n 1, 1) := by decide +kernel
theorem d_Wk_setPlace_92 : decode prog_10_method_13_code 92 = .ok (.iconst 0, 1) := by decide +kernel
theorem d_Wk_setPlace_93 : decode prog_10_method_13_code 93 = .ok (.invokevirtual 137, 3) := by decide +kernel
theorem d_Wk_setPlace_96 : decode prog_10_method_13_code 96 = .ok (.ireturn, 1) := by decide +kernel
theorem d_Wk_setPlace_97 : decode prog_10_method_13_code 97 = .ok (.aload_n 0, 1) := by decide +kernel
theorem d_Wk_setPlace_98 : decode prog_10_method_13_code 98 = .ok (.getfield 9, 3) := by decide +kernel
theorem d_Wk_setPlace_101 : decode prog_10_method_13_code 101 = .ok (.getfield 185, 3) := by decide +kernel
theorem d_Wk_setPlace_104 : decode prog_10_method_13_code 104 = .ok (.iload 4, 2) := by decide +kernel
theorem d_Wk_setPlace_106 : decode prog_10_method_13_code 106 = .ok (.lload 5, 2) := by decide +kernel
theorem d_Wk_setPlace_108 : decode prog_10_method_13_code 108 = .ok (.lastore, 1) := by decide +kernel
theorem d_Wk_setPlace_109 : decode prog_10_method_13_code 109 = .ok (.iconst 0, 1) := by decide +kernel
theorem d_Wk_setPlace_110 : decode prog_10_method_13_code 110 = .ok (.ireturn, 1) := by decide +kernel
theorem d_Wk_ask_0 : decode prog_10_method_14_code 0 = .ok (.aload_n 0, 1) := by decide +kernel
theorem d_Wk_ask_1 : decode prog_10_method_14_code 1 = .ok (.getfield 15, 3) := by decide +kernel
theorem d_Wk_ask_4 : decode prog_10_method_14_code 4 = .ok (.getfield 37, 3) := by decide +kernel
theorem d_Wk_ask_7 : decode prog_10_method_14_code 7 = .ok (.bipush 25, 2) := by decide +kernel
theorem d_Wk_ask_9 : decode prog_10_method_14_code 9 = .ok (.laload, 1) := by decide +kernel
theorem d_Wk_ask_10 : decode prog_10_method_14_code 10 = .ok (.lstore_n 2, 1) := by decide +kernel
theorem d_Wk_ask_11 : decode prog_10_method_14_code 11 = .ok (.iconst 0, 1) := by decide +kernel
theorem d_Wk_ask_12 : decode prog_10_method_14_code 12 = .ok (.istore 4, 2) := by decide +kernel
theorem d_Wk_ask_14 : decode prog_10_method_14_code 14 = .ok (.iconst 0, 1) := by decide +kernel
theorem d_Wk_ask_15 : decode prog_10_method_14_code 15 = .ok (.istore 5, 2) := by decide +kernel
theorem d_Wk_ask_17 : decode prog_10_method_14_code 17 = .ok (.iload 5, 2) := by decide +kernel
theorem d_Wk_ask_19 : decode prog_10_method_14_code 19 = .ok (.aload_n 0, 1) := by decide +kernel
theorem d_Wk_ask_20 : decode prog_10_method_14_code 20 = .ok (.getfield 9, 3) := by decide +kernel
theorem d_Wk_ask_23 : decode prog_10_method_14_code 23 = .ok (.getfield 188, 3) := by decide +kernel
theorem d_Wk_ask_26 : decode prog_10_method_14_code 26 = .ok (.if_icmp .ge 75, 3) := by decide +kernel
theorem d_Wk_ask_29 : decode prog_10_method_14_code 29 = .ok (.aload_n 0, 1) := by decide +kernel
theorem d_Wk_ask_30 : decode prog_10_method_14_code 30 = .ok (.getfield 15, 3) := by decide +kernel
theorem d_Wk_ask_33 : decode prog_10_method_14_code 33 = .ok (.getfield 37, 3) := by decide +kernel
theorem d_Wk_ask_36 : decode prog_10_method_14_code 36 = .ok (.bipush 25, 2) := by decide +kernel
theorem d_Wk_ask_38 : decode prog_10_method_14_code 38 = .ok (.iload 5, 2) := by decide +kernel
theorem d_Wk_ask_40 : decode prog_10_method_14_code 40 = .ok (.i2l, 1) := by decide +kernel
theorem d_Wk_ask_41 : decode prog_10_method_14_code 41 = .ok (.lastore, 1) := by decide +kernel
theorem d_Wk_ask_42 : decode prog_10_method_14_code 42 = .ok (.aload_n 0, 1) := by decide +kernel
theorem d_Wk_ask_43 : decode prog_10_method_14_code 43 = .ok (.getfield 15, 3) := by decide +kernel
theorem d_Wk_ask_46 : decode prog_10_method_14_code 46 = .ok (.aload_n 1, 1) := by decide +kernel
theorem d_Wk_ask_47 : decode prog_10_method_14_code 47 = .ok (.getfield 126, 3) := by decide +kernel
theorem d_Wk_ask_50 : decode prog_10_method_14_code 50 = .ok (.invokevirtual 130, 3) := by decide +kernel
theorem d_Wk_ask_53 : decode prog_10_method_14_code 53 = .ok (.lstore 6, 2) := by decide +kernel
theorem d_Wk_ask_55 : decode prog_10_method_14_code 55 = .ok (.aload_n 0, 1) := by decide +kernel
theorem d_Wk_ask_56 : decode prog_10_method_14_code 56 = .ok (.getfield 15, 3) := by decide +kernel
theorem d_Wk_ask_59 : decode prog_10_method_14_code 59 = .ok (.getfield 134, 3) := by decide +kernel
theorem d_Wk_ask_62 : decode prog_10_method_14_code 62 = .ok (.ifCond .eq 17, 3) := by decide +kernel
theorem d_Wk_ask_65 : decode prog_10_method_14_code 65 = .ok (.aload_n 0, 1) := by decide +kernel
theorem d_Wk_ask_66 : decode prog_10_method_14_code 66 = .ok (.aload_n 0, 1) := by decide +kernel
theorem d_Wk_ask_67 : decode prog_10_method_14_code 67 = .ok (.getfield 15, 3) := by decide +kernel
theorem d_Wk_ask_70 : decode prog_10_method_14_code 70 = .ok (.getfield 134, 3) := by decide +kernel
theorem d_Wk_ask_73 : decode prog_10_method_14_code 73 = .ok (.aload_n 1, 1) := by decide +kernel
theorem d_Wk_ask_74 : decode prog_10_method_14_code 74 = .ok (.iconst 0, 1) := by decide +kernel
theorem d_Wk_ask_75 : decode prog_10_method_14_code 75 = .ok (.invokevirtual 137, 3) := by decide +kernel
theorem d_Wk_ask_78 : decode prog_10_method_14_code 78 = .ok (.ireturn, 1) := by decide +kernel
theorem d_Wk_ask_79 : decode prog_10_method_14_code 79 = .ok (.lload 6, 2) := by decide +kernel
theorem d_Wk_ask_81 : decode prog_10_method_14_code 81 = .ok (.lconst 0, 1) := by decide +kernel
theorem d_Wk_ask_82 : decode prog_10_method_14_code 82 = .ok (.lcmp, 1) := by decide +kernel
theorem d_Wk_ask_83 : decode prog_10_method_14_code 83 = .ok (.ifCond .eq 12, 3) := by decide +kernel
theorem d_Wk_ask_86 : decode prog_10_method_14_code 86 = .ok (.iload 4, 2) := by decide +kernel
theorem d_Wk_ask_88 : decode prog_10_method_14_code 88 = .ok (.iconst 1, 1) := by decide +kernel
theorem d_Wk_ask_89 : decode prog_10_method_14_code 89 = .ok (.iload 5, 2) := by decide +kernel
theorem d_Wk_ask_91 : decode prog_10_method_14_code 91 = .ok (.ishl, 1) := by decide +kernel
theorem d_Wk_ask_92 : decode prog_10_method_14_code 92 = .ok (.ior, 1) := by decide +kernel
theorem d_Wk_ask_93 : decode prog_10_method_14_code 93 = .ok (.istore 4, 2) := by decide +kernel
theorem d_Wk_ask_95 : decode prog_10_method_14_code 95 = .ok (.iinc 5 1, 3) := by decide +kernel
theorem d_Wk_ask_98 : decode prog_10_method_14_code 98 = .ok (.goto (-81), 3) := by decide +kernel
theorem d_Wk_ask_101 : decode prog_10_method_14_code 101 = .ok (.aload_n 0, 1) := by decide +kernel
theorem d_Wk_ask_102 : decode prog_10_method_14_code 102 = .ok (.getfield 15, 3) := by decide +kernel
theorem d_Wk_ask_105 : decode prog_10_method_14_code 105 = .ok (.getfield 37, 3) := by decide +kernel
theorem d_Wk_ask_108 : decode prog_10_method_14_code 108 = .ok (.bipush 25, 2) := by decide +kernel
theorem d_Wk_ask_110 : decode prog_10_method_14_code 110 = .ok (.lload_n 2, 1) := by decide +kernel
theorem d_Wk_ask_111 : decode prog_10_method_14_code 111 = .ok (.lastore, 1) := by decide +kernel
theorem d_Wk_ask_112 : decode prog_10_method_14_code 112 = .ok (.aload_n 0, 1) := by decide +kernel
theorem d_Wk_ask_113 : decode prog_10_method_14_code 113 = .ok (.getfield 19, 3) := by decide +kernel
theorem d_Wk_ask_116 : decode prog_10_method_14_code 116 = .ok (.iload 4, 2) := by decide +kernel
theorem d_Wk_ask_118 : decode prog_10_method_14_code 118 = .ok (.putfield 191, 3) := by decide +kernel
theorem d_Wk_ask_121 : decode prog_10_method_14_code 121 = .ok (.iconst 0, 1) := by decide +kernel
theorem d_Wk_ask_122 : decode prog_10_method_14_code 122 = .ok (.ireturn, 1) := by decide +kernel
theorem d_Wk_withValue_0 : decode prog_10_method_15_code 0 = .ok (.aload_n 0, 1) := by decide +kernel
theorem d_Wk_withValue_1 : decode prog_10_method_15_code 1 = .ok (.getfield 15, 3) := by decide +kernel
theorem d_Wk_withValue_4 : decode prog_10_method_15_code 4 = .ok (.aload_n 1, 1) := by decide +kernel
theorem d_Wk_withValue_5 : decode prog_10_method_15_code 5 = .ok (.getfield 126, 3) := by decide +kernel
theorem d_Wk_withValue_8 : decode prog_10_method_15_code 8 = .ok (.invokevirtual 130, 3) := by decide +kernel
theorem d_Wk_withValue_11 : decode prog_10_method_15_code 11 = .ok (.lstore_n 2, 1) := by decide +kernel
theorem d_Wk_withValue_12 : decode prog_10_method_15_code 12 = .ok (.aload_n 0, 1) := by decide +kernel
theorem d_Wk_withValue_13 : decode prog_10_method_15_code 13 = .ok (.getfield 15, 3) := by decide +kernel
theorem d_Wk_withValue_16 : decode prog_10_method_15_code 16 = .ok (.getfield 134, 3) := by decide +kernel
theorem d_Wk_withValue_19 : decode prog_10_method_15_code 19 = .ok (.ifCond .eq 17, 3) := by decide +kernel
theorem d_Wk_withValue_22 : decode prog_10_method_15_code 22 = .ok (.aload_n 0, 1) := by decide +kernel
theorem d_Wk_withValue_23 : decode prog_10_method_15_code 23 = .ok (.aload_n 0, 1) := by decide +kernel
theorem d_Wk_withValue_24 : decode prog_10_method_15_code 24 = .ok (.getfield 15, 3) := by decide +kernel
theorem d_Wk_withValue_27 : decode prog_10_method_15_code 27 = .ok (.getfield 134, 3) := by decide +kernel
theorem d_Wk_withValue_30 : decode prog_10_method_15_code 30 = .ok (.aload_n 1, 1) := by decide +kernel
theorem d_Wk_withValue_31 : decode prog_10_method_15_code 31 = .ok (.iconst 0, 1) := by decide +kernel
theorem d_Wk_withValue_32 : decode prog_10_method_15_code 32 = .ok (.invokevirtual 137, 3) := by decide +kernel
theorem d_Wk_withValue_35 : decode prog_10_method_15_code 35 = .ok (.ireturn, 1) := by decide +kernel
theorem d_Wk_withValue_36 : decode prog_10_method_15_code 36 = .ok (.aload_n 1, 1) := by decide +kernel
theorem d_Wk_withValue_37 : decode prog_10_method_15_code 37 = .ok (.getfield 83, 3) := by decide +kernel
theorem d_Wk_withValue_40 : decode prog_10_method_15_code 40 = .ok (.lookupswitch 111 #[(33, 44), (43, 64), (60, 88), (94, 55)], 44) := by decide +kernel
theorem d_Wk_withValue_84 : decode prog_10_method_15_code 84 = .ok (.aload_n 0, 1) := by decide +kernel
theorem d_Wk_withValue_85 : decode prog_10_method_15_code 85 = .ok (.getfield 19, 3) := by decide +kernel
theorem d_Wk_withValue_88 : decode prog_10_method_15_code 88 = .ok (.lload_n 2, 1) := by decide +kernel
theorem d_Wk_withValue_89 : decode prog_10_method_15_code 89 = .ok (.l2i, 1) := by decide +kernel
theorem d_Wk_withValue_90 : decode prog_10_method_15_code 90 = .ok (.invokevirtual 194, 3) := by decide +kernel
theorem d_Wk_withValue_93 : decode prog_10_method_15_code 93 = .ok (.iconst 0, 1) := by decide +kernel
theorem d_Wk_withValue_94 : decode prog_10_method_15_code 94 = .ok (.ireturn, 1) := by decide +kernel
theorem d_Wk_withValue_95 : decode prog_10_method_15_code 95 = .ok (.aload_n 0, 1) := by decide +kernel
theorem d_Wk_withValue_96 : decode prog_10_method_15_code 96 = .ok (.iconst 4, 1) := by decide +kernel
theorem d_Wk_withValue_97 : decode prog_10_method_15_code 97 = .ok (.aload_n 1, 1) := by decide +kernel
theorem d_Wk_withValue_98 : decode prog_10_method_15_code 98 = .ok (.lload_n 2, 1) := by decide +kernel
theorem d_Wk_withValue_99 : decode prog_10_method_15_code 99 = .ok (.l2i, 1) := by decide +kernel
theorem d_Wk_withValue_100 : decode prog_10_method_15_code 100 = .ok (.invokevirtual 137, 3) := by decide +kernel
theorem d_Wk_withValue_103 : decode prog_10_method_15_code 103 = .ok (.ireturn, 1) := by decide +kernel
theorem d_Wk_withValue_104 : decode prog_10_method_15_code 104 = .ok (.aload_n 0, 1) := by decide +kernel
theorem d_Wk_withValue_105 : decode prog_10_method_15_code 105 = .ok (.getfield 9, 3) := by decide +kernel
theorem d_Wk_withValue_108 : decode prog_10_method_15_code 108 = .ok (.lload_n 2, 1) := by decide +kernel
theorem d_Wk_withValue_109 : decode prog_10_method_15_code 109 = .ok (.invokevirtual 197, 3) := by decide +kernel
theorem d_Wk_withValue_112 : decode prog_10_method_15_code 112 = .ok (.iconst (-1), 1) := by decide +kernel
theorem d_Wk_withValue_113 : decode prog_10_method_15_code 113 = .ok (.if_icmp .ne 13, 3) := by decide +kernel
theorem d_Wk_withValue_116 : decode prog_10_method_15_code 116 = .ok (.aload_n 0, 1) := by decide +kernel
theorem d_Wk_withValue_117 : decode prog_10_method_15_code 117 = .ok (.iconst 3, 1) := by decide +kernel
theorem d_Wk_withValue_118 : decode prog_10_method_15_code 118 = .ok (.aload_n 1, 1) := by decide +kernel
theorem d_Wk_withValue_119 : decode prog_10_method_15_code 119 = .ok (.iconst 0, 1) := by decide +kernel
theorem d_Wk_withValue_120 : decode prog_10_method_15_code 120 = .ok (.invokevirtual 137, 3) := by decide +kernel
theorem d_Wk_withValue_123 : decode prog_10_method_15_code 123 = .ok (.goto 4, 3) := by decide +kernel
theorem d_Wk_withValue_126 : decode prog_10_method_15_code 126 = .ok (.iconst 0, 1) := by decide +kernel
theorem d_Wk_withValue_127 : decode prog_10_method_15_code 127 = .ok (.ireturn, 1) := by decide +kernel
theorem d_Wk_withValue_128 : decode prog_10_method_15_code 128 = .ok (.aload_n 0, 1) := by decide +kernel
theorem d_Wk_withValue_129 : decode prog_10_method_15_code 129 = .ok (.getfield 9, 3) := by decide +kernel
theorem d_Wk_withValue_132 : decode prog_10_method_15_code 132 = .ok (.lload_n 2, 1) := by decide +kernel
theorem d_Wk_withValue_133 : decode prog_10_method_15_code 133 = .ok (.invokevirtual 200, 3) := by decide +kernel
theorem d_Wk_withValue_136 : decode prog_10_method_15_code 136 = .ok (.ifCond .eq 7, 3) := by decide +kernel
theorem d_Wk_withValue_139 : decode prog_10_method_15_code 139 = .ok (.iconst 0, 1) := by decide +kernel
theorem d_Wk_withValue_140 : decode prog_10_method_15_code 140 = .ok (.goto 10, 3) := by decide +kernel
theorem d_Wk_withValue_143 : decode prog_10_method_15_code 143 = .ok (.aload_n 0, 1) := by decide +kernel
theorem d_Wk_withValue_144 : decode prog_10_method_15_code 144 = .ok (.iconst 3, 1) := by decide +kernel
theorem d_Wk_withValue_145 : decode prog_10_method_15_code 145 = .ok (.aload_n 1, 1) := by decide +kernel
theorem d_Wk_withValue_146 : decode prog_10_method_15_code 146 = .ok (.iconst 0, 1) := by decide +kernel
theorem d_Wk_withValue_147 : decode prog_10_method_15_code 147 = .ok (.invokevirtual 137, 3) := by decide +kernel
theorem d_Wk_withValue_150 : decode prog_10_method_15_code 150 = .ok (.ireturn, 1) := by decide +kernel
theorem d_Wk_withValue_151 : decode prog_10_method_15_code 151 = .ok (.aload_n 1, 1) := by decide +kernel
theorem d_Wk_withValue_152 : decode prog_10_method_15_code 152 = .ok (.getfield 164, 3) := by decide +kernel
theorem d_Wk_withValue_155 : decode prog_10_method_15_code 155 = .ok (.ifCond .lt 25, 3) := by decide +kernel
theorem d_Wk_withValue_158 : decode prog_10_method_15_code 158 = .ok (.aload_n 1, 1) := by decide +kernel
theorem d_Wk_withValue_159 : decode prog_10_method_15_code 159 = .ok (.getfield 164, 3) := by decide +kernel
theorem d_Wk_withValue_162 : decode prog_10_method_15_code 162 = .ok (.bipush 26, 2) := by decide +kernel
theorem d_Wk_withValue_164 : decode prog_10_method_15_code 164 = .ok (.if_icmp .ge 16, 3) := by decide +kernel
theorem d_Wk_withValue_167 : decode prog_10_method_15_code 167 = .ok (.aload_n 0, 1) := by decide +kernel
theorem d_Wk_withValue_168 : decode prog_10_method_15_code 168 = .ok (.getfield 15, 3) := by decide +kernel
theorem d_Wk_withValue_171 : decode prog_10_method_15_code 171 = .ok (.getfield 37, 3) := by decide +kernel
theorem d_Wk_withValue_174 : decode prog_10_method_15_code 174 = .ok (.aload_n 1, 1) := by decide +kernel
theorem d_Wk_withValue_175 : decode prog_10_method_15_code 175 = .ok (.getfield 164, 3) := by decide +kernel
theorem d_Wk_withValue_178 : decode prog_10_method_15_code 178 = .ok (.lload_n 2, 1) := by decide +kernel
theorem d_Wk_withValue_179 : decode prog_10_method_15_code 179 = .ok (.lastore, 1) := by decide +kernel
theorem d_Wk_withValue_180 : decode prog_10_method_15_code 180 = .ok (.iconst 0, 1) := by decide +kernel
theorem d_Wk_withValue_181 : decode prog_10_method_15_code 181 = .ok (.ireturn, 1) := by decide +kernel
