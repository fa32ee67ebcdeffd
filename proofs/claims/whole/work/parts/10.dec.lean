theorem d_Md_forget_0 : decode prog_12_method_3_code 0 = .ok (.iconst 0, 1) := by decide +kernel
theorem d_Md_forget_1 : decode prog_12_method_3_code 1 = .ok (.istore_n 1, 1) := by decide +kernel
theorem d_Md_forget_2 : decode prog_12_method_3_code 2 = .ok (.iload_n 1, 1) := by decide +kernel
theorem d_Md_forget_3 : decode prog_12_method_3_code 3 = .ok (.bipush 26, 2) := by decide +kernel
theorem d_Md_forget_5 : decode prog_12_method_3_code 5 = .ok (.if_icmp .ge 16, 3) := by decide +kernel
theorem d_Md_forget_8 : decode prog_12_method_3_code 8 = .ok (.aload_n 0, 1) := by decide +kernel
theorem d_Md_forget_9 : decode prog_12_method_3_code 9 = .ok (.getfield 69, 3) := by decide +kernel
theorem d_Md_forget_12 : decode prog_12_method_3_code 12 = .ok (.iload_n 1, 1) := by decide +kernel
theorem d_Md_forget_13 : decode prog_12_method_3_code 13 = .ok (.lconst 0, 1) := by decide +kernel
theorem d_Md_forget_14 : decode prog_12_method_3_code 14 = .ok (.lastore, 1) := by decide +kernel
theorem d_Md_forget_15 : decode prog_12_method_3_code 15 = .ok (.iinc 1 1, 3) := by decide +kernel
theorem d_Md_forget_18 : decode prog_12_method_3_code 18 = .ok (.goto (-16), 3) := by decide +kernel
theorem d_Md_forget_21 : decode prog_12_method_3_code 21 = .ok (.aload_n 0, 1) := by decide +kernel
theorem d_Md_forget_22 : decode prog_12_method_3_code 22 = .ok (.lconst 0, 1) := by decide +kernel
theorem d_Md_forget_23 : decode prog_12_method_3_code 23 = .ok (.putfield 132, 3) := by decide +kernel
theorem d_Md_forget_26 : decode prog_12_method_3_code 26 = .ok (.aload_n 0, 1) := by decide +kernel
theorem d_Md_forget_27 : decode prog_12_method_3_code 27 = .ok (.iconst 0, 1) := by decide +kernel
theorem d_Md_forget_28 : decode prog_12_method_3_code 28 = .ok (.putfield 136, 3) := by decide +kernel
theorem d_Md_forget_31 : decode prog_12_method_3_code 31 = .ok (.aload_n 0, 1) := by decide +kernel
theorem d_Md_forget_32 : decode prog_12_method_3_code 32 = .ok (.iconst 0, 1) := by decide +kernel
theorem d_Md_forget_33 : decode prog_12_method_3_code 33 = .ok (.putfield 139, 3) := by decide +kernel
theorem d_Md_forget_36 : decode prog_12_method_3_code 36 = .ok (.aload_n 0, 1) := by decide +kernel
theorem d_Md_forget_37 : decode prog_12_method_3_code 37 = .ok (.iconst 0, 1) := by decide +kernel
theorem d_Md_forget_38 : decode prog_12_method_3_code 38 = .ok (.putfield 142, 3) := by decide +kernel
theorem d_Md_forget_41 : decode prog_12_method_3_code 41 = .ok (.aload_n 0, 1) := by decide +kernel
theorem d_Md_forget_42 : decode prog_12_method_3_code 42 = .ok (.iconst 0, 1) := by decide +kernel
theorem d_Md_forget_43 : decode prog_12_method_3_code 43 = .ok (.putfield 145, 3) := by decide +kernel
theorem d_Md_forget_46 : decode prog_12_method_3_code 46 = .ok (.aload_n 0, 1) := by decide +kernel
theorem d_Md_forget_47 : decode prog_12_method_3_code 47 = .ok (.iconst 0, 1) := by decide +kernel
theorem d_Md_forget_48 : decode prog_12_method_3_code 48 = .ok (.putfield 148, 3) := by decide +kernel
theorem d_Md_forget_51 : decode prog_12_method_3_code 51 = .ok (.aload_n 0, 1) := by decide +kernel
theorem d_Md_forget_52 : decode prog_12_method_3_code 52 = .ok (.iconst 0, 1) := by decide +kernel
theorem d_Md_forget_53 : decode prog_12_method_3_code 53 = .ok (.putfield 152, 3) := by decide +kernel
theorem d_Md_forget_56 : decode prog_12_method_3_code 56 = .ok (.aload_n 0, 1) := by decide +kernel
theorem d_Md_forget_57 : decode prog_12_method_3_code 57 = .ok (.iconst 0, 1) := by decide +kernel
theorem d_Md_forget_58 : decode prog_12_method_3_code 58 = .ok (.putfield 155, 3) := by decide +kernel
theorem d_Md_forget_61 : decode prog_12_method_3_code 61 = .ok (.aload_n 0, 1) := by decide +kernel
theorem d_Md_forget_62 : decode prog_12_method_3_code 62 = .ok (.iconst (-1), 1) := by decide +kernel
theorem d_Md_forget_63 : decode prog_12_method_3_code 63 = .ok (.putfield 158, 3) := by decide +kernel
theorem d_Md_forget_66 : decode prog_12_method_3_code 66 = .ok (.aload_n 0, 1) := by decide +kernel
theorem d_Md_forget_67 : decode prog_12_method_3_code 67 = .ok (.iconst 0, 1) := by decide +kernel
theorem d_Md_forget_68 : decode prog_12_method_3_code 68 = .ok (.putfield 161, 3) := by decide +kernel
theorem d_Md_forget_71 : decode prog_12_method_3_code 71 = .ok (.return_, 1) := by decide +kernel
theorem d_Md_empty_0 : decode prog_12_method_2_code 0 = .ok (.aload_n 0, 1) := by decide +kernel
theorem d_Md_empty_1 : decode prog_12_method_2_code 1 = .ok (.iconst 0, 1) := by decide +kernel
theorem d_Md_empty_2 : decode prog_12_method_2_code 2 = .ok (.putfield 117, 3) := by decide +kernel
theorem d_Md_empty_5 : decode prog_12_method_2_code 5 = .ok (.aload_n 0, 1) := by decide +kernel
theorem d_Md_empty_6 : decode prog_12_method_2_code 6 = .ok (.iconst 0, 1) := by decide +kernel
theorem d_Md_empty_7 : decode prog_12_method_2_code 7 = .ok (.putfield 120, 3) := by decide +kernel
theorem d_Md_empty_10 : decode prog_12_method_2_code 10 = .ok (.aload_n 0, 1) := by decide +kernel
theorem d_Md_empty_11 : decode prog_12_method_2_code 11 = .ok (.iconst 0, 1) := by decide +kernel
theorem d_Md_empty_12 : decode prog_12_method_2_code 12 = .ok (.putfield 123, 3) := by decide +kernel
theorem d_Md_empty_15 : decode prog_12_method_2_code 15 = .ok (.aload_n 0, 1) := by decide +kernel
theorem d_Md_empty_16 : decode prog_12_method_2_code 16 = .ok (.iconst (-1), 1) := by decide +kernel
theorem d_Md_empty_17 : decode prog_12_method_2_code 17 = .ok (.putfield 65, 3) := by decide +kernel
theorem d_Md_empty_20 : decode prog_12_method_2_code 20 = .ok (.iconst 0, 1) := by decide +kernel
theorem d_Md_empty_21 : decode prog_12_method_2_code 21 = .ok (.istore_n 1, 1) := by decide +kernel
theorem d_Md_empty_22 : decode prog_12_method_2_code 22 = .ok (.iload_n 1, 1) := by decide +kernel
theorem d_Md_empty_23 : decode prog_12_method_2_code 23 = .ok (.iconst 2, 1) := by decide +kernel
theorem d_Md_empty_24 : decode prog_12_method_2_code 24 = .ok (.if_icmp .ge 16, 3) := by decide +kernel
theorem d_Md_empty_27 : decode prog_12_method_2_code 27 = .ok (.aload_n 0, 1) := by decide +kernel
theorem d_Md_empty_28 : decode prog_12_method_2_code 28 = .ok (.getfield 13, 3) := by decide +kernel
theorem d_Md_empty_31 : decode prog_12_method_2_code 31 = .ok (.iload_n 1, 1) := by decide +kernel
theorem d_Md_empty_32 : decode prog_12_method_2_code 32 = .ok (.iconst 0, 1) := by decide +kernel
theorem d_Md_empty_33 : decode prog_12_method_2_code 33 = .ok (.iastore, 1) := by decide +kernel
theorem d_Md_empty_34 : decode prog_12_method_2_code 34 = .ok (.iinc 1 1, 3) := by decide +kernel
theorem d_Md_empty_37 : decode prog_12_method_2_code 37 = .ok (.goto (-15), 3) := by decide +kernel
theorem d_Md_empty_40 : decode prog_12_method_2_code 40 = .ok (.aload_n 0, 1) := by decide +kernel
theorem d_Md_empty_41 : decode prog_12_method_2_code 41 = .ok (.getfield 19, 3) := by decide +kernel
theorem d_Md_empty_44 : decode prog_12_method_2_code 44 = .ok (.sipush 600, 3) := by decide +kernel
theorem d_Md_empty_47 : decode prog_12_method_2_code 47 = .ok (.aload_n 0, 1) := by decide +kernel
theorem d_Md_empty_48 : decode prog_12_method_2_code 48 = .ok (.getfield 126, 3) := by decide +kernel
theorem d_Md_empty_51 : decode prog_12_method_2_code 51 = .ok (.imul, 1) := by decide +kernel
theorem d_Md_empty_52 : decode prog_12_method_2_code 52 = .ok (.bipush 20, 2) := by decide +kernel
theorem d_Md_empty_54 : decode prog_12_method_2_code 54 = .ok (.iastore, 1) := by decide +kernel
theorem d_Md_empty_55 : decode prog_12_method_2_code 55 = .ok (.aload_n 0, 1) := by decide +kernel
theorem d_Md_empty_56 : decode prog_12_method_2_code 56 = .ok (.invokevirtual 129, 3) := by decide +kernel
theorem d_Md_empty_59 : decode prog_12_method_2_code 59 = .ok (.return_, 1) := by decide +kernel
theorem d_Md_thrown_0 : decode prog_12_method_4_code 0 = .ok (.aload_n 0, 1) := by decide +kernel
theorem d_Md_thrown_1 : decode prog_12_method_4_code 1 = .ok (.getfield 164, 3) := by decide +kernel
theorem d_Md_thrown_4 : decode prog_12_method_4_code 4 = .ok (.ireturn, 1) := by decide +kernel
theorem d_Md_clear_0 : decode prog_12_method_5_code 0 = .ok (.aload_n 0, 1) := by decide +kernel
theorem d_Md_clear_1 : decode prog_12_method_5_code 1 = .ok (.iconst 0, 1) := by decide +kernel
theorem d_Md_clear_2 : decode prog_12_method_5_code 2 = .ok (.putfield 164, 3) := by decide +kernel
theorem d_Md_clear_5 : decode prog_12_method_5_code 5 = .ok (.aload_n 0, 1) := by decide +kernel
theorem d_Md_clear_6 : decode prog_12_method_5_code 6 = .ok (.invokevirtual 114, 3) := by decide +kernel
theorem d_Md_clear_9 : decode prog_12_method_5_code 9 = .ok (.return_, 1) := by decide +kernel
theorem d_Md_unit_0 : decode prog_12_method_6_code 0 = .ok (.aload_n 0, 1) := by decide +kernel
theorem d_Md_unit_1 : decode prog_12_method_6_code 1 = .ok (.iconst 0, 1) := by decide +kernel
theorem d_Md_unit_2 : decode prog_12_method_6_code 2 = .ok (.putfield 164, 3) := by decide +kernel
theorem d_Md_unit_5 : decode prog_12_method_6_code 5 = .ok (.iload_n 1, 1) := by decide +kernel
theorem d_Md_unit_6 : decode prog_12_method_6_code 6 = .ok (.bipush 10, 2) := by decide +kernel
theorem d_Md_unit_8 : decode prog_12_method_6_code 8 = .ok (.if_icmp .eq 15, 3) := by decide +kernel
theorem d_Md_unit_11 : decode prog_12_method_6_code 11 = .ok (.iload_n 1, 1) := by decide +kernel
theorem d_Md_unit_12 : decode prog_12_method_6_code 12 = .ok (.bipush 32, 2) := by decide +kernel
theorem d_Md_unit_14 : decode prog_12_method_6_code 14 = .ok (.if_icmp .lt 19, 3) := by decide +kernel
theorem d_Md_unit_17 : decode prog_12_method_6_code 17 = .ok (.iload_n 1, 1) := by decide +kernel
theorem d_Md_unit_18 : decode prog_12_method_6_code 18 = .ok (.bipush 126, 2) := by decide +kernel
theorem d_Md_unit_20 : decode prog_12_method_6_code 20 = .ok (.if_icmp .gt 13, 3) := by decide +kernel
theorem d_Md_unit_23 : decode prog_12_method_6_code 23 = .ok (.aload_n 0, 1) := by decide +kernel
theorem d_Md_unit_24 : decode prog_12_method_6_code 24 = .ok (.getfield 117, 3) := by decide +kernel
theorem d_Md_unit_27 : decode prog_12_method_6_code 27 = .ok (.sipush 400, 3) := by decide +kernel
theorem d_Md_unit_30 : decode prog_12_method_6_code 30 = .ok (.if_icmp .ne 5, 3) := by decide +kernel
theorem d_Md_unit_33 : decode prog_12_method_6_code 33 = .ok (.iconst 0, 1) := by decide +kernel
theorem d_Md_unit_34 : decode prog_12_method_6_code 34 = .ok (.ireturn, 1) := by decide +kernel
theorem d_Md_unit_35 : decode prog_12_method_6_code 35 = .ok (.aload_n 0, 1) := by decide +kernel
theorem d_Md_unit_36 : decode prog_12_method_6_code 36 = .ok (.getfield 7, 3) := by decide +kernel
theorem d_Md_unit_39 : decode prog_12_method_6_code 39 = .ok (.aload_n 0, 1) := by decide +kernel
theorem d_Md_unit_40 : decode prog_12_method_6_code 40 = .ok (.getfield 117, 3) := by decide +kernel
theorem d_Md_unit_43 : decode prog_12_method_6_code 43 = .ok (.iload_n 1, 1) := by decide +kernel
theorem d_Md_unit_44 : decode prog_12_method_6_code 44 = .ok (.iastore, 1) := by decide +kernel
theorem d_Md_unit_45 : decode prog_12_method_6_code 45 = .ok (.aload_n 0, 1) := by decide +kernel
theorem d_Md_unit_46 : decode prog_12_method_6_code 46 = .ok (.dup, 1) := by decide +kernel
theorem d_Md_unit_47 : decode prog_12_method_6_code 47 = .ok (.getfield 117, 3) := by decide +kernel
theorem d_Md_unit_50 : decode prog_12_method_6_code 50 = .ok (.iconst 1, 1) := by decide +kernel
theorem d_Md_unit_51 : decode prog_12_method_6_code 51 = .ok (.iadd, 1) := by decide +kernel
theorem d_Md_unit_52 : decode prog_12_method_6_code 52 = .ok (.putfield 117, 3) := by decide +kernel
theorem d_Md_unit_55 : decode prog_12_method_6_code 55 = .ok (.iconst 1, 1) := by decide +kernel
theorem d_Md_unit_56 : decode prog_12_method_6_code 56 = .ok (.ireturn, 1) := by decide +kernel
theorem d_Md_peek_0 : decode prog_12_method_7_code 0 = .ok (.aload_n 0, 1) := by decide +kernel
theorem d_Md_peek_1 : decode prog_12_method_7_code 1 = .ok (.getfield 167, 3) := by decide +kernel
theorem d_Md_peek_4 : decode prog_12_method_7_code 4 = .ok (.aload_n 0, 1) := by decide +kernel
theorem d_Md_peek_5 : decode prog_12_method_7_code 5 = .ok (.getfield 117, 3) := by decide +kernel
theorem d_Md_peek_8 : decode prog_12_method_7_code 8 = .ok (.if_icmp .ge 15, 3) := by decide +kernel
theorem d_Md_peek_11 : decode prog_12_method_7_code 11 = .ok (.aload_n 0, 1) := by decide +kernel
theorem d_Md_peek_12 : decode prog_12_method_7_code 12 = .ok (.getfield 7, 3) := by decide +kernel
theorem d_Md_peek_15 : decode prog_12_method_7_code 15 = .ok (.aload_n 0, 1) := by decide +kernel
theorem d_Md_peek_16 : decode prog_12_method_7_code 16 = .ok (.getfield 167, 3) := by decide +kernel
theorem d_Md_peek_19 : decode prog_12_method_7_code 19 = .ok (.iaload, 1) := by decide +kernel
theorem d_Md_peek_20 : decode prog_12_method_7_code 20 = .ok (.goto 4, 3) := by decide +kernel
theorem d_Md_peek_23 : decode prog_12_method_7_code 23 = .ok (.iconst (-1), 1) := by decide +kernel
theorem d_Md_peek_24 : decode prog_12_method_7_code 24 = .ok (.ireturn, 1) := by decide +kernel
theorem d_Md_expect_0 : decode prog_12_method_8_code 0 = .ok (.aload_n 0, 1) := by decide +kernel
theorem d_Md_expect_1 : decode prog_12_method_8_code 1 = .ok (.getfield 170, 3) := by decide +kernel
theorem d_Md_expect_4 : decode prog_12_method_8_code 4 = .ok (.iconst (-1), 1) := by decide +kernel
theorem d_Md_expect_5 : decode prog_12_method_8_code 5 = .ok (.if_icmp .eq 4, 3) := by decide +kernel
theorem d_Md_expect_8 : decode prog_12_method_8_code 8 = .ok (.return_, 1) := by decide +kernel
theorem d_Md_expect_9 : decode prog_12_method_8_code 9 = .ok (.aload_n 0, 1) := by decide +kernel
theorem d_Md_expect_10 : decode prog_12_method_8_code 10 = .ok (.invokevirtual 173, 3) := by decide +kernel
theorem d_Md_expect_13 : decode prog_12_method_8_code 13 = .ok (.iload_n 1, 1) := by decide +kernel
theorem d_Md_expect_14 : decode prog_12_method_8_code 14 = .ok (.if_icmp .ne 16, 3) := by decide +kernel
theorem d_Md_expect_17 : decode prog_12_method_8_code 17 = .ok (.aload_n 0, 1) := by decide +kernel
theorem d_Md_expect_18 : decode prog_12_method_8_code 18 = .ok (.dup, 1) := by decide +kernel
theorem d_Md_expect_19 : decode prog_12_method_8_code 19 = .ok (.getfield 167, 3) := by decide +kernel
theorem d_Md_expect_22 : decode prog_12_method_8_code 22 = .ok (.iconst 1, 1) := by decide +kernel
theorem d_Md_expect_23 : decode prog_12_method_8_code 23 = .ok (.iadd, 1) := by decide +kernel
theorem d_Md_expect_24 : decode prog_12_method_8_code 24 = .ok (.putfield 167, 3) := by decide +kernel
theorem d_Md_expect_27 : decode prog_12_method_8_code 27 = .ok (.goto 11, 3) := by decide +kernel
theorem d_Md_expect_30 : decode prog_12_method_8_code 30 = .ok (.aload_n 0, 1) := by decide +kernel
theorem d_Md_expect_31 : decode prog_12_method_8_code 31 = .ok (.aload_n 0, 1) := by decide +kernel
theorem d_Md_expect_32 : decode prog_12_method_8_code 32 = .ok (.getfield 167, 3) := by decide +kernel
theorem d_Md_expect_35 : decode prog_12_method_8_code 35 = .ok (.putfield 170, 3) := by decide +kernel
theorem d_Md_expect_38 : decode prog_12_method_8_code 38 = .ok (.return_, 1) := by decide +kernel
theorem d_Md_isDigit_0 : decode prog_12_method_9_code 0 = .ok (.iload_n 0, 1) := by decide +kernel
theorem d_Md_isDigit_1 : decode prog_12_method_9_code 1 = .ok (.bipush 48, 2) := by decide +kernel
theorem d_Md_isDigit_3 : decode prog_12_method_9_code 3 = .ok (.if_icmp .lt 13, 3) := by decide +kernel
theorem d_Md_isDigit_6 : decode prog_12_method_9_code 6 = .ok (.iload_n 0, 1) := by decide +kernel
theorem d_Md_isDigit_7 : decode prog_12_method_9_code 7 = .ok (.bipush 57, 2) := by decide +kernel
theorem d_Md_isDigit_9 : decode prog_12_method_9_code 9 = .ok (.if_icmp .gt 7, 3) := by decide +kernel
theorem d_Md_isDigit_12 : decode prog_12_method_9_code 12 = .ok (.iconst 1, 1) := by decide +kernel
theorem d_Md_isDigit_13 : decode prog_12_method_9_code 13 = .ok (.goto 4, 3) := by decide +kernel
theorem d_Md_isDigit_16 : decode prog_12_method_9_code 16 = .ok (.iconst 0, 1) := by decide +kernel
theorem d_Md_isDigit_17 : decode prog_12_method_9_code 17 = .ok (.ireturn, 1) := by decide +kernel
theorem d_Md_isVariable_0 : decode prog_12_method_10_code 0 = .ok (.iload_n 0, 1) := by decide +kernel
theorem d_Md_isVariable_1 : decode prog_12_method_10_code 1 = .ok (.bipush 97, 2) := by decide +kernel
theorem d_Md_isVariable_3 : decode prog_12_method_10_code 3 = .ok (.if_icmp .lt 13, 3) := by decide +kernel
theorem d_Md_isVariable_6 : decode prog_12_method_10_code 6 = .ok (.iload_n 0, 1) := by decide +kernel
theorem d_Md_isVariable_7 : decode prog_12_method_10_code 7 = .ok (.bipush 122, 2) := by decide +kernel
theorem d_Md_isVariable_9 : decode prog_12_method_10_code 9 = .ok (.if_icmp .gt 7, 3) := by decide +kernel
theorem d_Md_isVariable_12 : decode prog_12_method_10_code 12 = .ok (.iconst 1, 1) := by decide +kernel
theorem d_Md_isVariable_13 : decode prog_12_method_10_code 13 = .ok (.goto 4, 3) := by decide +kernel
theorem d_Md_isVariable_16 : decode prog_12_method_10_code 16 = .ok (.iconst 0, 1) := by decide +kernel
theorem d_Md_isVariable_17 : decode prog_12_method_10_code 17 = .ok (.ireturn, 1) := by decide +kernel
theorem d_Md_isFunction_0 : decode prog_12_method_11_code 0 = .ok (.iload_n 0, 1) := by decide +kernel
theorem d_Md_isFunction_1 : decode prog_12_method_11_code 1 = .ok (.bipush 65, 2) := by decide +kernel
theorem d_Md_isFunction_3 : decode prog_12_method_11_code 3 = .ok (.if_icmp .lt 13, 3) := by decide +kernel
theorem d_Md_isFunction_6 : decode prog_12_method_11_code 6 = .ok (.iload_n 0, 1) := by decide +kernel
theorem d_Md_isFunction_7 : decode prog_12_method_11_code 7 = .ok (.bipush 90, 2) := by decide +kernel
theorem d_Md_isFunction_9 : decode prog_12_method_11_code 9 = .ok (.if_icmp .gt 7, 3) := by decide +kernel
theorem d_Md_isFunction_12 : decode prog_12_method_11_code 12 = .ok (.iconst 1, 1) := by decide +kernel
theorem d_Md_isFunction_13 : decode prog_12_method_11_code 13 = .ok (.goto 4, 3) := by decide +kernel
theorem d_Md_isFunction_16 : decode prog_12_method_11_code 16 = .ok (.iconst 0, 1) := by decide +kernel
theorem d_Md_isFunction_17 : decode prog_12_method_11_code 17 = .ok (.ireturn, 1) := by decide +kernel
theorem d_Md_code_0 : decode prog_12_method_12_code 0 = .ok (.aload_n 0, 1) := by decide +kernel
theorem d_Md_code_1 : decode prog_12_method_12_code 1 = .ok (.getfield 40, 3) := by decide +kernel
theorem d_Md_code_4 : decode prog_12_method_12_code 4 = .ok (.sipush 1000, 3) := by decide +kernel
theorem d_Md_code_7 : decode prog_12_method_12_code 7 = .ok (.aload_n 0, 1) := by decide +kernel
theorem d_Md_code_8 : decode prog_12_method_12_code 8 = .ok (.getfield 177, 3) := by decide +kernel
theorem d_Md_code_11 : decode prog_12_method_12_code 11 = .ok (.imul, 1) := by decide +kernel
theorem d_Md_code_12 : decode prog_12_method_12_code 12 = .ok (.aload_n 0, 1) := by decide +kernel
theorem d_Md_code_13 : decode prog_12_method_12_code 13 = .ok (.getfield 180, 3) := by decide +kernel
theorem d_Md_code_16 : decode prog_12_method_12_code 16 = .ok (.iadd, 1) := by decide +kernel
theorem d_Md_code_17 : decode prog_12_method_12_code 17 = .ok (.iload_n 1, 1) := by decide +kernel
theorem d_Md_code_18 : decode prog_12_method_12_code 18 = .ok (.iastore, 1) := by decide +kernel
theorem d_Md_code_19 : decode prog_12_method_12_code 19 = .ok (.aload_n 0, 1) := by decide +kernel
theorem d_Md_code_20 : decode prog_12_method_12_code 20 = .ok (.getfield 43, 3) := by decide +kernel
theorem d_Md_code_23 : decode prog_12_method_12_code 23 = .ok (.sipush 1000, 3) := by decide +kernel
theorem d_Md_code_26 : decode prog_12_method_12_code 26 = .ok (.aload_n 0, 1) := by decide +kernel
theorem d_Md_code_27 : decode prog_12_method_12_code 27 = .ok (.getfield 177, 3) := by decide +kernel
theorem d_Md_code_30 : decode prog_12_method_12_code 30 = .ok (.imul, 1) := by decide +kernel
theorem d_Md_code_31 : decode prog_12_method_12_code 31 = .ok (.aload_n 0, 1) := by decide +kernel
theorem d_Md_code_32 : decode prog_12_method_12_code 32 = .ok (.getfield 180, 3) := by decide +kernel
theorem d_Md_code_35 : decode prog_12_method_12_code 35 = .ok (.iadd, 1) := by decide +kernel
theorem d_Md_code_36 : decode prog_12_method_12_code 36 = .ok (.iload_n 2, 1) := by decide +kernel
theorem d_Md_code_37 : decode prog_12_method_12_code 37 = .ok (.iastore, 1) := by decide +kernel
theorem d_Md_code_38 : decode prog_12_method_12_code 38 = .ok (.aload_n 0, 1) := by decide +kernel
theorem d_Md_code_39 : decode prog_12_method_12_code 39 = .ok (.dup, 1) := by decide +kernel
theorem d_Md_code_40 : decode prog_12_method_12_code 40 = .ok (.getfield 180, 3) := by decide +kernel
theorem d_Md_code_43 : decode prog_12_method_12_code 43 = .ok (.iconst 1, 1) := by decide +kernel
theorem d_Md_code_44 : decode prog_12_method_12_code 44 = .ok (.iadd, 1) := by decide +kernel
theorem d_Md_code_45 : decode prog_12_method_12_code 45 = .ok (.putfield 180, 3) := by decide +kernel
theorem d_Md_code_48 : decode prog_12_method_12_code 48 = .ok (.return_, 1) := by decide +kernel
theorem d_Md_isNest_0 : decode prog_12_method_13_code 0 = .ok (.iload_n 0, 1) := by decide +kernel
theorem d_Md_isNest_1 : decode prog_12_method_13_code 1 = .ok (.bipush 45, 2) := by decide +kernel
theorem d_Md_isNest_3 : decode prog_12_method_13_code 3 = .ok (.if_icmp .eq 21, 3) := by decide +kernel
theorem d_Md_isNest_6 : decode prog_12_method_13_code 6 = .ok (.iload_n 0, 1) := by decide +kernel
theorem d_Md_isNest_7 : decode prog_12_method_13_code 7 = .ok (.bipush 40, 2) := by decide +kernel
theorem d_Md_isNest_9 : decode prog_12_method_13_code 9 = .ok (.if_icmp .eq 15, 3) := by decide +kernel
theorem d_Md_isNest_12 : decode prog_12_method_13_code 12 = .ok (.iload_n 0, 1) := by decide +kernel
theorem d_Md_isNest_13 : decode prog_12_method_13_code 13 = .ok (.bipush 64, 2) := by decide +kernel
theorem d_Md_isNest_15 : decode prog_12_method_13_code 15 = .ok (.if_icmp .eq 9, 3) := by decide +kernel
theorem d_Md_isNest_18 : decode prog_12_method_13_code 18 = .ok (.iload_n 0, 1) := by decide +kernel
theorem d_Md_isNest_19 : decode prog_12_method_13_code 19 = .ok (.bipush 39, 2) := by decide +kernel
theorem d_Md_isNest_21 : decode prog_12_method_13_code 21 = .ok (.if_icmp .ne 7, 3) := by decide +kernel
theorem d_Md_isNest_24 : decode prog_12_method_13_code 24 = .ok (.iconst 1, 1) := by decide +kernel
theorem d_Md_isNest_25 : decode prog_12_method_13_code 25 = .ok (.goto 4, 3) := by decide +kernel
theorem d_Md_isNest_28 : decode prog_12_method_13_code 28 = .ok (.iconst 0, 1) := by decide +kernel
theorem d_Md_isNest_29 : decode prog_12_method_13_code 29 = .ok (.ireturn, 1) := by decide +kernel
theorem d_Md_strength_0 : decode prog_12_method_14_code 0 = .ok (.iload_n 0, 1) := by decide +kernel
theorem d_Md_strength_1 : decode prog_12_method_14_code 1 = .ok (.bipush 42, 2) := by decide +kernel
theorem d_Md_strength_3 : decode prog_12_method_14_code 3 = .ok (.if_icmp .eq 15, 3) := by decide +kernel
theorem d_Md_strength_6 : decode prog_12_method_14_code 6 = .ok (.iload_n 0, 1) := by decide +kernel
theorem d_Md_strength_7 : decode prog_12_method_14_code 7 = .ok (.bipush 47, 2) := by decide +kernel
theorem d_Md_strength_9 : decode prog_12_method_14_code 9 = .ok (.if_icmp .eq 9, 3) := by decide +kernel
theorem d_Md_strength_12 : decode prog_12_method_14_code 12 = .ok (.iload_n 0, 1) := by decide +kernel
theorem d_Md_strength_13 : decode prog_12_method_14_code 13 = .ok (.bipush 37, 2) := by decide +kernel
theorem d_Md_strength_15 : decode prog_12_method_14_code 15 = .ok (.if_icmp .ne 5, 3) := by decide +kernel
theorem d_Md_strength_18 : decode prog_12_method_14_code 18 = .ok (.iconst 3, 1) := by decide +kernel
theorem d_Md_strength_19 : decode prog_12_method_14_code 19 = .ok (.ireturn, 1) := by decide +kernel
theorem d_Md_strength_20 : decode prog_12_method_14_code 20 = .ok (.iload_n 0, 1) := by decide +kernel
theorem d_Md_strength_21 : decode prog_12_method_14_code 21 = .ok (.bipush 43, 2) := by decide +kernel
theorem d_Md_strength_23 : decode prog_12_method_14_code 23 = .ok (.if_icmp .eq 9, 3) := by decide +kernel
theorem d_Md_strength_26 : decode prog_12_method_14_code 26 = .ok (.iload_n 0, 1) := by decide +kernel
theorem d_Md_strength_27 : decode prog_12_method_14_code 27 = .ok (.bipush 45, 2) := by decide +kernel
theorem d_Md_strength_29 : decode prog_12_method_14_code 29 = .ok (.if_icmp .ne 5, 3) := by decide +kernel
theorem d_Md_strength_32 : decode prog_12_method_14_code 32 = .ok (.iconst 2, 1) := by decide +kernel
theorem d_Md_strength_33 : decode prog_12_method_14_code 33 = .ok (.ireturn, 1) := by decide +kernel
theorem d_Md_strength_34 : decode prog_12_method_14_code 34 = .ok (.iload_n 0, 1) := by decide +kernel
theorem d_Md_strength_35 : decode prog_12_method_14_code 35 = .ok (.bipush 60, 2) := by decide +kernel
theorem d_Md_strength_37 : decode prog_12_method_14_code 37 = .ok (.if_icmp .eq 9, 3) := by decide +kernel
theorem d_Md_strength_40 : decode prog_12_method_14_code 40 = .ok (.iload_n 0, 1) := by decide +kernel
theorem d_Md_strength_41 : decode prog_12_method_14_code 41 = .ok (.bipush 61, 2) := by decide +kernel
theorem d_Md_strength_43 : decode prog_12_method_14_code 43 = .ok (.if_icmp .ne 7, 3) := by decide +kernel
theorem d_Md_strength_46 : decode prog_12_method_14_code 46 = .ok (.iconst 1, 1) := by decide +kernel
theorem d_Md_strength_47 : decode prog_12_method_14_code 47 = .ok (.goto 4, 3) := by decide +kernel
theorem d_Md_strength_50 : decode prog_12_method_14_code 50 = .ok (.iconst 0, 1) := by decide +kernel
theorem d_Md_strength_51 : decode prog_12_method_14_code 51 = .ok (.ireturn, 1) := by decide +kernel
theorem d_Md_drain_0 : decode prog_12_method_15_code 0 = .ok (.aload_n 0, 1) := by decide +kernel
theorem d_Md_drain_1 : decode prog_12_method_15_code 1 = .ok (.getfield 183, 3) := by decide +kernel
theorem d_Md_drain_4 : decode prog_12_method_15_code 4 = .ok (.ifCond .le 48, 3) := by decide +kernel
theorem d_Md_drain_7 : decode prog_12_method_15_code 7 = .ok (.aload_n 0, 1) := by decide +kernel
theorem d_Md_drain_8 : decode prog_12_method_15_code 8 = .ok (.getfield 55, 3) := by decide +kernel
theorem d_Md_drain_11 : decode prog_12_method_15_code 11 = .ok (.aload_n 0, 1) := by decide +kernel
theorem d_Md_drain_12 : decode prog_12_method_15_code 12 = .ok (.getfield 183, 3) := by decide +kernel
theorem d_Md_drain_15 : decode prog_12_method_15_code 15 = .ok (.iconst 1, 1) := by decide +kernel
theorem d_Md_drain_16 : decode prog_12_method_15_code 16 = .ok (.isub, 1) := by decide +kernel
theorem d_Md_drain_17 : decode prog_12_method_15_code 17 = .ok (.iaload, 1) := by decide +kernel
theorem d_Md_drain_18 : decode prog_12_method_15_code 18 = .ok (.invokestatic 186, 3) := by decide +kernel
theorem d_Md_drain_21 : decode prog_12_method_15_code 21 = .ok (.iload_n 1, 1) := by decide +kernel
theorem d_Md_drain_22 : decode prog_12_method_15_code 22 = .ok (.if_icmp .lt 30, 3) := by decide +kernel
theorem d_Md_drain_25 : decode prog_12_method_15_code 25 = .ok (.aload_n 0, 1) := by decide +kernel
theorem d_Md_drain_26 : decode prog_12_method_15_code 26 = .ok (.dup, 1) := by decide +kernel
theorem d_Md_drain_27 : decode prog_12_method_15_code 27 = .ok (.getfield 183, 3) := by decide +kernel
theorem d_Md_drain_30 : decode prog_12_method_15_code 30 = .ok (.iconst 1, 1) := by decide +kernel
theorem d_Md_drain_31 : decode prog_12_method_15_code 31 = .ok (.isub, 1) := by decide +kernel
theorem d_Md_drain_32 : decode prog_12_method_15_code 32 = .ok (.putfield 183, 3) := by decide +kernel
theorem d_Md_drain_35 : decode prog_12_method_15_code 35 = .ok (.aload_n 0, 1) := by decide +kernel
theorem d_Md_drain_36 : decode prog_12_method_15_code 36 = .ok (.aload_n 0, 1) := by decide +kernel
theorem d_Md_drain_37 : decode prog_12_method_15_code 37 = .ok (.getfield 55, 3) := by decide +kernel
theorem d_Md_drain_40 : decode prog_12_method_15_code 40 = .ok (.aload_n 0, 1) := by decide +kernel
theorem d_Md_drain_41 : decode prog_12_method_15_code 41 = .ok (.getfield 183, 3) := by decide +kernel
theorem d_Md_drain_44 : decode prog_12_method_15_code 44 = .ok (.iaload, 1) := by decide +kernel
theorem d_Md_drain_45 : decode prog_12_method_15_code 45 = .ok (.iconst 0, 1) := by decide +kernel
theorem d_Md_drain_46 : decode prog_12_method_15_code 46 = .ok (.invokevirtual 190, 3) := by decide +kernel
theorem d_Md_drain_49 : decode prog_12_method_15_code 49 = .ok (.goto (-49), 3) := by decide +kernel
theorem d_Md_drain_52 : decode prog_12_method_15_code 52 = .ok (.return_, 1) := by decide +kernel
theorem d_Md_nest_0 : decode prog_12_method_16_code 0 = .ok (.aload_n 0, 1) := by decide +kernel
theorem d_Md_nest_1 : decode prog_12_method_16_code 1 = .ok (.getfield 194, 3) := by decide +kernel
theorem d_Md_nest_4 : decode prog_12_method_16_code 4 = .ok (.iconst 3, 1) := by decide +kernel
theorem d_Md_nest_5 : decode prog_12_method_16_code 5 = .ok (.if_icmp .ne 12, 3) := by decide +kernel
theorem d_Md_nest_8 : decode prog_12_method_16_code 8 = .ok (.aload_n 0, 1) := by decide +kernel
theorem d_Md_nest_9 : decode prog_12_method_16_code 9 = .ok (.aload_n 0, 1) := by decide +kernel
theorem d_Md_nest_10 : decode prog_12_method_16_code 10 = .ok (.getfield 167, 3) := by decide +kernel
theorem d_Md_nest_13 : decode prog_12_method_16_code 13 = .ok (.putfield 170, 3) := by decide +kernel
theorem d_Md_nest_16 : decode prog_12_method_16_code 16 = .ok (.return_, 1) := by decide +kernel
theorem d_Md_nest_17 : decode prog_12_method_16_code 17 = .ok (.aload_n 0, 1) := by decide +kernel
theorem d_Md_nest_18 : decode prog_12_method_16_code 18 = .ok (.getfield 55, 3) := by decide +kernel
theorem d_Md_nest_21 : decode prog_12_method_16_code 21 = .ok (.aload_n 0, 1) := by decide +kernel
theorem d_Md_nest_22 : decode prog_12_method_16_code 22 = .ok (.getfield 183, 3) := by decide +kernel
theorem d_Md_nest_25 : decode prog_12_method_16_code 25 = .ok (.iload_n 1, 1) := by decide +kernel
theorem d_Md_nest_26 : decode prog_12_method_16_code 26 = .ok (.bipush 45, 2) := by decide +kernel
theorem d_Md_nest_28 : decode prog_12_method_16_code 28 = .ok (.if_icmp .ne 8, 3) := by decide +kernel
theorem d_Md_nest_31 : decode prog_12_method_16_code 31 = .ok (.bipush 95, 2) := by decide +kernel
theorem d_Md_nest_33 : decode prog_12_method_16_code 33 = .ok (.goto 4, 3) := by decide +kernel
theorem d_Md_nest_36 : decode prog_12_method_16_code 36 = .ok (.iload_n 1, 1) := by decide +kernel
theorem d_Md_nest_37 : decode prog_12_method_16_code 37 = .ok (.iastore, 1) := by decide +kernel
theorem d_Md_nest_38 : decode prog_12_method_16_code 38 = .ok (.aload_n 0, 1) := by decide +kernel
theorem d_Md_nest_39 : decode prog_12_method_16_code 39 = .ok (.dup, 1) := by decide +kernel
theorem d_Md_nest_40 : decode prog_12_method_16_code 40 = .ok (.getfield 183, 3) := by decide +kernel
theorem d_Md_nest_43 : decode prog_12_method_16_code 43 = .ok (.iconst 1, 1) := by decide +kernel
theorem d_Md_nest_44 : decode prog_12_method_16_code 44 = .ok (.iadd, 1) := by decide +kernel
theorem d_Md_nest_45 : decode prog_12_method_16_code 45 = .ok (.putfield 183, 3) := by decide +kernel
theorem d_Md_nest_48 : decode prog_12_method_16_code 48 = .ok (.aload_n 0, 1) := by decide +kernel
theorem d_Md_nest_49 : decode prog_12_method_16_code 49 = .ok (.dup, 1) := by decide +kernel
theorem d_Md_nest_50 : decode prog_12_method_16_code 50 = .ok (.getfield 194, 3) := by decide +kernel
theorem d_Md_nest_53 : decode prog_12_method_16_code 53 = .ok (.iconst 1, 1) := by decide +kernel
theorem d_Md_nest_54 : decode prog_12_method_16_code 54 = .ok (.iadd, 1) := by decide +kernel
theorem d_Md_nest_55 : decode prog_12_method_16_code 55 = .ok (.putfield 194, 3) := by decide +kernel
theorem d_Md_nest_58 : decode prog_12_method_16_code 58 = .ok (.aload_n 0, 1) := by decide +kernel
theorem d_Md_nest_59 : decode prog_12_method_16_code 59 = .ok (.dup, 1) := by decide +kernel
theorem d_Md_nest_60 : decode prog_12_method_16_code 60 = .ok (.getfield 167, 3) := by decide +kernel
theorem d_Md_nest_63 : decode prog_12_method_16_code 63 = .ok (.iconst 1, 1) := by decide +kernel
theorem d_Md_nest_64 : decode prog_12_method_16_code 64 = .ok (.iadd, 1) := by decide +kernel
theorem d_Md_nest_65 : decode prog_12_method_16_code 65 = .ok (.putfield 167, 3) := by decide +kernel
theorem d_Md_nest_68 : decode prog_12_method_16_code 68 = .ok (.return_, 1) := by decide +kernel
theorem d_Md_complete_0 : decode prog_12_method_17_code 0 = .ok (.aload_n 0, 1) := by decide +kernel
theorem d_Md_complete_1 : decode prog_12_method_17_code 1 = .ok (.getfield 170, 3) := by decide +kernel
theorem d_Md_complete_4 : decode prog_12_method_17_code 4 = .ok (.iconst (-1), 1) := by decide +kernel
theorem d_Md_complete_5 : decode prog_12_method_17_code 5 = .ok (.if_icmp .ne 165, 3) := by decide +kernel
theorem d_Md_complete_8 : decode prog_12_method_17_code 8 = .ok (.aload_n 0, 1) := by decide +kernel
theorem d_Md_complete_9 : decode prog_12_method_17_code 9 = .ok (.getfield 183, 3) := by decide +kernel
theorem d_Md_complete_12 : decode prog_12_method_17_code 12 = .ok (.ifCond .le 158, 3) := by decide +kernel
theorem d_Md_complete_15 : decode prog_12_method_17_code 15 = .ok (.aload_n 0, 1) := by decide +kernel
theorem d_Md_complete_16 : decode prog_12_method_17_code 16 = .ok (.getfield 55, 3) := by decide +kernel
theorem d_Md_complete_19 : decode prog_12_method_17_code 19 = .ok (.aload_n 0, 1) := by decide +kernel
theorem d_Md_complete_20 : decode prog_12_method_17_code 20 = .ok (.getfield 183, 3) := by decide +kernel
theorem d_Md_complete_23 : decode prog_12_method_17_code 23 = .ok (.iconst 1, 1) := by decide +kernel
theorem d_Md_complete_24 : decode prog_12_method_17_code 24 = .ok (.isub, 1) := by decide +kernel
theorem d_Md_complete_25 : decode prog_12_method_17_code 25 = .ok (.iaload, 1) := by decide +kernel
theorem d_Md_complete_26 : decode prog_12_method_17_code 26 = .ok (.bipush 95, 2) := by decide +kernel
theorem d_Md_complete_28 : decode prog_12_method_17_code 28 = .ok (.if_icmp .eq 35, 3) := by decide +kernel
theorem d_Md_complete_31 : decode prog_12_method_17_code 31 = .ok (.aload_n 0, 1) := by decide +kernel
theorem d_Md_complete_32 : decode prog_12_method_17_code 32 = .ok (.getfield 55, 3) := by decide +kernel
theorem d_Md_complete_35 : decode prog_12_method_17_code 35 = .ok (.aload_n 0, 1) := by decide +kernel
theorem d_Md_complete_36 : decode prog_12_method_17_code 36 = .ok (.getfield 183, 3) := by decide +kernel
theorem d_Md_complete_39 : decode prog_12_method_17_code 39 = .ok (.iconst 1, 1) := by decide +kernel
theorem d_Md_complete_40 : decode prog_12_method_17_code 40 = .ok (.isub, 1) := by decide +kernel
theorem d_Md_complete_41 : decode prog_12_method_17_code 41 = .ok (.iaload, 1) := by decide +kernel
theorem d_Md_complete_42 : decode prog_12_method_17_code 42 = .ok (.bipush 39, 2) := by decide +kernel
theorem d_Md_complete_44 : decode prog_12_method_17_code 44 = .ok (.if_icmp .eq 19, 3) := by decide +kernel
theorem d_Md_complete_47 : decode prog_12_method_17_code 47 = .ok (.aload_n 0, 1) := by decide +kernel
theorem d_Md_complete_48 : decode prog_12_method_17_code 48 = .ok (.getfield 55, 3) := by decide +kernel
theorem d_Md_complete_51 : decode prog_12_method_17_code 51 = .ok (.aload_n 0, 1) := by decide +kernel
theorem d_Md_complete_52 : decode prog_12_method_17_code 52 = .ok (.getfield 183, 3) := by decide +kernel
theorem d_Md_complete_55 : decode prog_12_method_17_code 55 = .ok (.iconst 1, 1) := by decide +kernel
theorem d_Md_complete_56 : decode prog_12_method_17_code 56 = .ok (.isub, 1) := by decide +kernel
theorem d_Md_complete_57 : decode prog_12_method_17_code 57 = .ok (.iaload, 1) := by decide +kernel
theorem d_Md_complete_58 : decode prog_12_method_17_code 58 = .ok (.bipush 64, 2) := by decide +kernel
theorem d_Md_complete_60 : decode prog_12_method_17_code 60 = .ok (.if_icmp .ne 110, 3) := by decide +kernel
theorem d_Md_complete_63 : decode prog_12_method_17_code 63 = .ok (.aload_n 0, 1) := by decide +kernel
theorem d_Md_complete_64 : decode prog_12_method_17_code 64 = .ok (.getfield 55, 3) := by decide +kernel
theorem d_Md_complete_67 : decode prog_12_method_17_code 67 = .ok (.aload_n 0, 1) := by decide +kernel
theorem d_Md_complete_68 : decode prog_12_method_17_code 68 = .ok (.getfield 183, 3) := by decide +kernel
theorem d_Md_complete_71 : decode prog_12_method_17_code 71 = .ok (.iconst 1, 1) := by decide +kernel
theorem d_Md_complete_72 : decode prog_12_method_17_code 72 = .ok (.isub, 1) := by decide +kernel
theorem d_Md_complete_73 : decode prog_12_method_17_code 73 = .ok (.iaload, 1) := by decide +kernel
theorem d_Md_complete_74 : decode prog_12_method_17_code 74 = .ok (.istore_n 1, 1) := by decide +kernel
theorem d_Md_complete_75 : decode prog_12_method_17_code 75 = .ok (.iconst 0, 1) := by decide +kernel
theorem d_Md_complete_76 : decode prog_12_method_17_code 76 = .ok (.istore_n 2, 1) := by decide +kernel
theorem d_Md_complete_77 : decode prog_12_method_17_code 77 = .ok (.iload_n 1, 1) := by decide +kernel
theorem d_Md_complete_78 : decode prog_12_method_17_code 78 = .ok (.bipush 64, 2) := by decide +kernel
theorem d_Md_complete_80 : decode prog_12_method_17_code 80 = .ok (.if_icmp .ne 52, 3) := by decide +kernel
theorem d_Md_complete_83 : decode prog_12_method_17_code 83 = .ok (.aload_n 0, 1) := by decide +kernel
theorem d_Md_complete_84 : decode prog_12_method_17_code 84 = .ok (.bipush 58, 2) := by decide +kernel
theorem d_Md_complete_86 : decode prog_12_method_17_code 86 = .ok (.invokevirtual 197, 3) := by decide +kernel
theorem d_Md_complete_89 : decode prog_12_method_17_code 89 = .ok (.aload_n 0, 1) := by decide +kernel
theorem d_Md_complete_90 : decode prog_12_method_17_code 90 = .ok (.invokevirtual 173, 3) := by decide +kernel
theorem d_Md_complete_93 : decode prog_12_method_17_code 93 = .ok (.bipush 48, 2) := by decide +kernel
theorem d_Md_complete_95 : decode prog_12_method_17_code 95 = .ok (.isub, 1) := by decide +kernel
theorem d_Md_complete_96 : decode prog_12_method_17_code 96 = .ok (.istore_n 2, 1) := by decide +kernel
theorem d_Md_complete_97 : decode prog_12_method_17_code 97 = .ok (.aload_n 0, 1) := by decide +kernel
theorem d_Md_complete_98 : decode prog_12_method_17_code 98 = .ok (.getfield 170, 3) := by decide +kernel
theorem d_Md_complete_101 : decode prog_12_method_17_code 101 = .ok (.iconst (-1), 1) := by decide +kernel
theorem d_Md_complete_102 : decode prog_12_method_17_code 102 = .ok (.if_icmp .ne 20, 3) := by decide +kernel
theorem d_Md_complete_105 : decode prog_12_method_17_code 105 = .ok (.iload_n 2, 1) := by decide +kernel
theorem d_Md_complete_106 : decode prog_12_method_17_code 106 = .ok (.ifCond .lt 8, 3) := by decide +kernel
theorem d_Md_complete_109 : decode prog_12_method_17_code 109 = .ok (.iload_n 2, 1) := by decide +kernel
theorem d_Md_complete_110 : decode prog_12_method_17_code 110 = .ok (.iconst 5, 1) := by decide +kernel
theorem d_Md_complete_111 : decode prog_12_method_17_code 111 = .ok (.if_icmp .le 11, 3) := by decide +kernel
theorem d_Md_complete_114 : decode prog_12_method_17_code 114 = .ok (.aload_n 0, 1) := by decide +kernel
theorem d_Md_complete_115 : decode prog_12_method_17_code 115 = .ok (.aload_n 0, 1) := by decide +kernel
theorem d_Md_complete_116 : decode prog_12_method_17_code 116 = .ok (.getfield 167, 3) := by decide +kernel
theorem d_Md_complete_119 : decode prog_12_method_17_code 119 = .ok (.putfield 170, 3) := by decide +kernel
theorem d_Md_complete_122 : decode prog_12_method_17_code 122 = .ok (.aload_n 0, 1) := by decide +kernel
theorem d_Md_complete_123 : decode prog_12_method_17_code 123 = .ok (.dup, 1) := by decide +kernel
theorem d_Md_complete_124 : decode prog_12_method_17_code 124 = .ok (.getfield 167, 3) := by decide +kernel
theorem d_Md_complete_127 : decode prog_12_method_17_code 127 = .ok (.iconst 1, 1) := by decide +kernel
theorem d_Md_complete_128 : decode prog_12_method_17_code 128 = .ok (.iadd, 1) := by decide +kernel
theorem d_Md_complete_129 : decode prog_12_method_17_code 129 = .ok (.putfield 167, 3) := by decide +kernel
theorem d_Md_complete_132 : decode prog_12_method_17_code 132 = .ok (.aload_n 0, 1) := by decide +kernel
theorem d_Md_complete_133 : decode prog_12_method_17_code 133 = .ok (.getfield 170, 3) := by decide +kernel
theorem d_Md_complete_136 : decode prog_12_method_17_code 136 = .ok (.iconst (-1), 1) := by decide +kernel
theorem d_Md_complete_137 : decode prog_12_method_17_code 137 = .ok (.if_icmp .eq 4, 3) := by decide +kernel
theorem d_Md_complete_140 : decode prog_12_method_17_code 140 = .ok (.return_, 1) := by decide +kernel
theorem d_Md_complete_141 : decode prog_12_method_17_code 141 = .ok (.aload_n 0, 1) := by decide +kernel
theorem d_Md_complete_142 : decode prog_12_method_17_code 142 = .ok (.iload_n 1, 1) := by decide +kernel
theorem d_Md_complete_143 : decode prog_12_method_17_code 143 = .ok (.iload_n 2, 1) := by decide +kernel
theorem d_Md_complete_144 : decode prog_12_method_17_code 144 = .ok (.invokevirtual 190, 3) := by decide +kernel
theorem d_Md_complete_147 : decode prog_12_method_17_code 147 = .ok (.aload_n 0, 1) := by decide +kernel
theorem d_Md_complete_148 : decode prog_12_method_17_code 148 = .ok (.dup, 1) := by decide +kernel
theorem d_Md_complete_149 : decode prog_12_method_17_code 149 = .ok (.getfield 183, 3) := by decide +kernel
theorem d_Md_complete_152 : decode prog_12_method_17_code 152 = .ok (.iconst 1, 1) := by decide +kernel
theorem d_Md_complete_153 : decode prog_12_method_17_code 153 = .ok (.isub, 1) := by decide +kernel
theorem d_Md_complete_154 : decode prog_12_method_17_code 154 = .ok (.putfield 183, 3) := by decide +kernel
theorem d_Md_complete_157 : decode prog_12_method_17_code 157 = .ok (.aload_n 0, 1) := by decide +kernel
theorem d_Md_complete_158 : decode prog_12_method_17_code 158 = .ok (.dup, 1) := by decide +kernel
theorem d_Md_complete_159 : decode prog_12_method_17_code 159 = .ok (.getfield 194, 3) := by decide +kernel
theorem d_Md_complete_162 : decode prog_12_method_17_code 162 = .ok (.iconst 1, 1) := by decide +kernel
theorem d_Md_complete_163 : decode prog_12_method_17_code 163 = .ok (.isub, 1) := by decide +kernel
theorem d_Md_complete_164 : decode prog_12_method_17_code 164 = .ok (.putfield 194, 3) := by decide +kernel
theorem d_Md_complete_167 : decode prog_12_method_17_code 167 = .ok (.goto (-167), 3) := by decide +kernel
theorem d_Md_complete_170 : decode prog_12_method_17_code 170 = .ok (.return_, 1) := by decide +kernel
