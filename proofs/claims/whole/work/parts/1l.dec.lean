theorem d_Lw_run_0 : decode method_4_code 0 = .ok (.aload_n 3, 1) := by decide +kernel
theorem d_Lw_run_1 : decode method_4_code 1 = .ok (.iconst 0, 1) := by decide +kernel
theorem d_Lw_run_2 : decode method_4_code 2 = .ok (.aload_n 0, 1) := by decide +kernel
theorem d_Lw_run_3 : decode method_4_code 3 = .ok (.lload_n 1, 1) := by decide +kernel
theorem d_Lw_run_4 : decode method_4_code 4 = .ok (.invokevirtual 15, 3) := by decide +kernel
theorem d_Lw_run_7 : decode method_4_code 7 = .ok (.i2l, 1) := by decide +kernel
theorem d_Lw_run_8 : decode method_4_code 8 = .ok (.lastore, 1) := by decide +kernel
theorem d_Lw_run_9 : decode method_4_code 9 = .ok (.goto 7, 3) := by decide +kernel
theorem d_Lw_run_12 : decode method_4_code 12 = .ok (.astore 4, 2) := by decide +kernel
theorem d_Lw_run_14 : decode method_4_code 14 = .ok (.iconst 1, 1) := by decide +kernel
theorem d_Lw_run_15 : decode method_4_code 15 = .ok (.ireturn, 1) := by decide +kernel
theorem d_Lw_run_16 : decode method_4_code 16 = .ok (.iconst 0, 1) := by decide +kernel
theorem d_Lw_run_17 : decode method_4_code 17 = .ok (.ireturn, 1) := by decide +kernel
theorem d_Lw_at_0 : decode method_5_code 0 = .ok (.aload_n 3, 1) := by decide +kernel
theorem d_Lw_at_1 : decode method_5_code 1 = .ok (.iconst 0, 1) := by decide +kernel
theorem d_Lw_at_2 : decode method_5_code 2 = .ok (.aload_n 0, 1) := by decide +kernel
theorem d_Lw_at_3 : decode method_5_code 3 = .ok (.iload_n 1, 1) := by decide +kernel
theorem d_Lw_at_4 : decode method_5_code 4 = .ok (.iload_n 2, 1) := by decide +kernel
theorem d_Lw_at_5 : decode method_5_code 5 = .ok (.invokevirtual 21, 3) := by decide +kernel
theorem d_Lw_at_8 : decode method_5_code 8 = .ok (.lastore, 1) := by decide +kernel
theorem d_Lw_at_9 : decode method_5_code 9 = .ok (.goto 7, 3) := by decide +kernel
theorem d_Lw_at_12 : decode method_5_code 12 = .ok (.astore 4, 2) := by decide +kernel
theorem d_Lw_at_14 : decode method_5_code 14 = .ok (.iconst 1, 1) := by decide +kernel
theorem d_Lw_at_15 : decode method_5_code 15 = .ok (.ireturn, 1) := by decide +kernel
theorem d_Lw_at_16 : decode method_5_code 16 = .ok (.iconst 0, 1) := by decide +kernel
theorem d_Lw_at_17 : decode method_5_code 17 = .ok (.ireturn, 1) := by decide +kernel
theorem d_Lw_output_0 : decode method_6_code 0 = .ok (.aload_n 2, 1) := by decide +kernel
theorem d_Lw_output_1 : decode method_6_code 1 = .ok (.iconst 0, 1) := by decide +kernel
theorem d_Lw_output_2 : decode method_6_code 2 = .ok (.aload_n 0, 1) := by decide +kernel
theorem d_Lw_output_3 : decode method_6_code 3 = .ok (.iload_n 1, 1) := by decide +kernel
theorem d_Lw_output_4 : decode method_6_code 4 = .ok (.invokevirtual 25, 3) := by decide +kernel
theorem d_Lw_output_7 : decode method_6_code 7 = .ok (.i2l, 1) := by decide +kernel
theorem d_Lw_output_8 : decode method_6_code 8 = .ok (.lastore, 1) := by decide +kernel
theorem d_Lw_output_9 : decode method_6_code 9 = .ok (.goto 6, 3) := by decide +kernel
theorem d_Lw_output_12 : decode method_6_code 12 = .ok (.astore_n 3, 1) := by decide +kernel
theorem d_Lw_output_13 : decode method_6_code 13 = .ok (.iconst 1, 1) := by decide +kernel
theorem d_Lw_output_14 : decode method_6_code 14 = .ok (.ireturn, 1) := by decide +kernel
theorem d_Lw_output_15 : decode method_6_code 15 = .ok (.iconst 0, 1) := by decide +kernel
theorem d_Lw_output_16 : decode method_6_code 16 = .ok (.ireturn, 1) := by decide +kernel
theorem d_Lw_error_0 : decode method_7_code 0 = .ok (.aload_n 2, 1) := by decide +kernel
theorem d_Lw_error_1 : decode method_7_code 1 = .ok (.iconst 0, 1) := by decide +kernel
theorem d_Lw_error_2 : decode method_7_code 2 = .ok (.aload_n 0, 1) := by decide +kernel
theorem d_Lw_error_3 : decode method_7_code 3 = .ok (.iload_n 1, 1) := by decide +kernel
theorem d_Lw_error_4 : decode method_7_code 4 = .ok (.invokevirtual 29, 3) := by decide +kernel
theorem d_Lw_error_7 : decode method_7_code 7 = .ok (.i2l, 1) := by decide +kernel
theorem d_Lw_error_8 : decode method_7_code 8 = .ok (.lastore, 1) := by decide +kernel
theorem d_Lw_error_9 : decode method_7_code 9 = .ok (.goto 6, 3) := by decide +kernel
theorem d_Lw_error_12 : decode method_7_code 12 = .ok (.astore_n 3, 1) := by decide +kernel
theorem d_Lw_error_13 : decode method_7_code 13 = .ok (.iconst 1, 1) := by decide +kernel
theorem d_Lw_error_14 : decode method_7_code 14 = .ok (.ireturn, 1) := by decide +kernel
theorem d_Lw_error_15 : decode method_7_code 15 = .ok (.iconst 0, 1) := by decide +kernel
theorem d_Lw_error_16 : decode method_7_code 16 = .ok (.ireturn, 1) := by decide +kernel
theorem d_Ar_fill_0 : decode prog_24_method_101_code 0 = .ok (.iconst 0, 1) := by decide +kernel
theorem d_Ar_fill_1 : decode prog_24_method_101_code 1 = .ok (.istore_n 3, 1) := by decide +kernel
theorem d_Ar_fill_2 : decode prog_24_method_101_code 2 = .ok (.aload_n 0, 1) := by decide +kernel
theorem d_Ar_fill_3 : decode prog_24_method_101_code 3 = .ok (.arraylength, 1) := by decide +kernel
theorem d_Ar_fill_4 : decode prog_24_method_101_code 4 = .ok (.istore 4, 2) := by decide +kernel
theorem d_Ar_fill_6 : decode prog_24_method_101_code 6 = .ok (.iload_n 3, 1) := by decide +kernel
theorem d_Ar_fill_7 : decode prog_24_method_101_code 7 = .ok (.iload 4, 2) := by decide +kernel
theorem d_Ar_fill_9 : decode prog_24_method_101_code 9 = .ok (.if_icmp .ge 13, 3) := by decide +kernel
theorem d_Ar_fill_12 : decode prog_24_method_101_code 12 = .ok (.aload_n 0, 1) := by decide +kernel
theorem d_Ar_fill_13 : decode prog_24_method_101_code 13 = .ok (.iload_n 3, 1) := by decide +kernel
theorem d_Ar_fill_14 : decode prog_24_method_101_code 14 = .ok (.lload_n 1, 1) := by decide +kernel
theorem d_Ar_fill_15 : decode prog_24_method_101_code 15 = .ok (.lastore, 1) := by decide +kernel
theorem d_Ar_fill_16 : decode prog_24_method_101_code 16 = .ok (.iinc 3 1, 3) := by decide +kernel
theorem d_Ar_fill_19 : decode prog_24_method_101_code 19 = .ok (.goto (-13), 3) := by decide +kernel
theorem d_Ar_fill_22 : decode prog_24_method_101_code 22 = .ok (.return_, 1) := by decide +kernel
