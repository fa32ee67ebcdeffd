theorem d_Bs_init_0 : decode prog_1_method_1_code 0 = .ok (.aload_n 0, 1) := by decide +kernel
theorem d_Bs_init_1 : decode prog_1_method_1_code 1 = .ok (.invokespecial 3, 3) := by decide +kernel
theorem d_Bs_init_4 : decode prog_1_method_1_code 4 = .ok (.aload_n 0, 1) := by decide +kernel
theorem d_Bs_init_5 : decode prog_1_method_1_code 5 = .ok (.sipush 400, 3) := by decide +kernel
theorem d_Bs_init_8 : decode prog_1_method_1_code 8 = .ok (.newarray .char, 2) := by decide +kernel
theorem d_Bs_init_10 : decode prog_1_method_1_code 10 = .ok (.putfield 9, 3) := by decide +kernel
theorem d_Bs_init_13 : decode prog_1_method_1_code 13 = .ok (.aload_n 0, 1) := by decide +kernel
theorem d_Bs_init_14 : decode prog_1_method_1_code 14 = .ok (.iconst (-1), 1) := by decide +kernel
theorem d_Bs_init_15 : decode prog_1_method_1_code 15 = .ok (.putfield 13, 3) := by decide +kernel
theorem d_Bs_init_18 : decode prog_1_method_1_code 18 = .ok (.aload_n 0, 1) := by decide +kernel
theorem d_Bs_init_19 : decode prog_1_method_1_code 19 = .ok (.new 17, 3) := by decide +kernel
theorem d_Bs_init_22 : decode prog_1_method_1_code 22 = .ok (.dup, 1) := by decide +kernel
theorem d_Bs_init_23 : decode prog_1_method_1_code 23 = .ok (.new 19, 3) := by decide +kernel
theorem d_Bs_init_26 : decode prog_1_method_1_code 26 = .ok (.dup, 1) := by decide +kernel
theorem d_Bs_init_27 : decode prog_1_method_1_code 27 = .ok (.invokespecial 21, 3) := by decide +kernel
theorem d_Bs_init_30 : decode prog_1_method_1_code 30 = .ok (.bipush 26, 2) := by decide +kernel
theorem d_Bs_init_32 : decode prog_1_method_1_code 32 = .ok (.anewarray 22, 3) := by decide +kernel
theorem d_Bs_init_35 : decode prog_1_method_1_code 35 = .ok (.iconst 0, 1) := by decide +kernel
theorem d_Bs_init_36 : decode prog_1_method_1_code 36 = .ok (.invokespecial 24, 3) := by decide +kernel
theorem d_Bs_init_39 : decode prog_1_method_1_code 39 = .ok (.putfield 27, 3) := by decide +kernel
theorem d_Bs_init_42 : decode prog_1_method_1_code 42 = .ok (.aload_n 0, 1) := by decide +kernel
theorem d_Bs_init_43 : decode prog_1_method_1_code 43 = .ok (.aload_n 0, 1) := by decide +kernel
theorem d_Bs_init_44 : decode prog_1_method_1_code 44 = .ok (.getfield 27, 3) := by decide +kernel
theorem d_Bs_init_47 : decode prog_1_method_1_code 47 = .ok (.putfield 31, 3) := by decide +kernel
theorem d_Bs_init_50 : decode prog_1_method_1_code 50 = .ok (.aload_n 0, 1) := by decide +kernel
theorem d_Bs_init_51 : decode prog_1_method_1_code 51 = .ok (.new 34, 3) := by decide +kernel
theorem d_Bs_init_54 : decode prog_1_method_1_code 54 = .ok (.dup, 1) := by decide +kernel
theorem d_Bs_init_55 : decode prog_1_method_1_code 55 = .ok (.invokespecial 36, 3) := by decide +kernel
theorem d_Bs_init_58 : decode prog_1_method_1_code 58 = .ok (.putfield 37, 3) := by decide +kernel
theorem d_Bs_init_61 : decode prog_1_method_1_code 61 = .ok (.aload_n 0, 1) := by decide +kernel
theorem d_Bs_init_62 : decode prog_1_method_1_code 62 = .ok (.new 41, 3) := by decide +kernel
theorem d_Bs_init_65 : decode prog_1_method_1_code 65 = .ok (.dup, 1) := by decide +kernel
theorem d_Bs_init_66 : decode prog_1_method_1_code 66 = .ok (.aload_n 0, 1) := by decide +kernel
theorem d_Bs_init_67 : decode prog_1_method_1_code 67 = .ok (.getfield 37, 3) := by decide +kernel
theorem d_Bs_init_70 : decode prog_1_method_1_code 70 = .ok (.invokespecial 43, 3) := by decide +kernel
theorem d_Bs_init_73 : decode prog_1_method_1_code 73 = .ok (.putfield 46, 3) := by decide +kernel
theorem d_Bs_init_76 : decode prog_1_method_1_code 76 = .ok (.aload_n 0, 1) := by decide +kernel
theorem d_Bs_init_77 : decode prog_1_method_1_code 77 = .ok (.new 50, 3) := by decide +kernel
theorem d_Bs_init_80 : decode prog_1_method_1_code 80 = .ok (.dup, 1) := by decide +kernel
theorem d_Bs_init_81 : decode prog_1_method_1_code 81 = .ok (.invokespecial 52, 3) := by decide +kernel
theorem d_Bs_init_84 : decode prog_1_method_1_code 84 = .ok (.putfield 53, 3) := by decide +kernel
theorem d_Bs_init_87 : decode prog_1_method_1_code 87 = .ok (.aload_n 0, 1) := by decide +kernel
theorem d_Bs_init_88 : decode prog_1_method_1_code 88 = .ok (.new 57, 3) := by decide +kernel
theorem d_Bs_init_91 : decode prog_1_method_1_code 91 = .ok (.dup, 1) := by decide +kernel
theorem d_Bs_init_92 : decode prog_1_method_1_code 92 = .ok (.invokespecial 59, 3) := by decide +kernel
theorem d_Bs_init_95 : decode prog_1_method_1_code 95 = .ok (.putfield 60, 3) := by decide +kernel
theorem d_Bs_init_98 : decode prog_1_method_1_code 98 = .ok (.aload_n 0, 1) := by decide +kernel
theorem d_Bs_init_99 : decode prog_1_method_1_code 99 = .ok (.new 64, 3) := by decide +kernel
theorem d_Bs_init_102 : decode prog_1_method_1_code 102 = .ok (.dup, 1) := by decide +kernel
theorem d_Bs_init_103 : decode prog_1_method_1_code 103 = .ok (.aload_n 0, 1) := by decide +kernel
theorem d_Bs_init_104 : decode prog_1_method_1_code 104 = .ok (.getfield 37, 3) := by decide +kernel
theorem d_Bs_init_107 : decode prog_1_method_1_code 107 = .ok (.aload_n 0, 1) := by decide +kernel
theorem d_Bs_init_108 : decode prog_1_method_1_code 108 = .ok (.getfield 46, 3) := by decide +kernel
theorem d_Bs_init_111 : decode prog_1_method_1_code 111 = .ok (.aload_n 0, 1) := by decide +kernel
theorem d_Bs_init_112 : decode prog_1_method_1_code 112 = .ok (.getfield 53, 3) := by decide +kernel
theorem d_Bs_init_115 : decode prog_1_method_1_code 115 = .ok (.invokespecial 66, 3) := by decide +kernel
theorem d_Bs_init_118 : decode prog_1_method_1_code 118 = .ok (.putfield 69, 3) := by decide +kernel
theorem d_Bs_init_121 : decode prog_1_method_1_code 121 = .ok (.return_, 1) := by decide +kernel
theorem d_Bs_unit_0 : decode prog_1_method_2_code 0 = .ok (.iload_n 1, 1) := by decide +kernel
theorem d_Bs_unit_1 : decode prog_1_method_2_code 1 = .ok (.bipush 10, 2) := by decide +kernel
theorem d_Bs_unit_3 : decode prog_1_method_2_code 3 = .ok (.if_icmp .eq 15, 3) := by decide +kernel
theorem d_Bs_unit_6 : decode prog_1_method_2_code 6 = .ok (.iload_n 1, 1) := by decide +kernel
theorem d_Bs_unit_7 : decode prog_1_method_2_code 7 = .ok (.bipush 32, 2) := by decide +kernel
theorem d_Bs_unit_9 : decode prog_1_method_2_code 9 = .ok (.if_icmp .lt 13, 3) := by decide +kernel
theorem d_Bs_unit_12 : decode prog_1_method_2_code 12 = .ok (.iload_n 1, 1) := by decide +kernel
theorem d_Bs_unit_13 : decode prog_1_method_2_code 13 = .ok (.bipush 126, 2) := by decide +kernel
theorem d_Bs_unit_15 : decode prog_1_method_2_code 15 = .ok (.if_icmp .gt 7, 3) := by decide +kernel
theorem d_Bs_unit_18 : decode prog_1_method_2_code 18 = .ok (.iconst 1, 1) := by decide +kernel
theorem d_Bs_unit_19 : decode prog_1_method_2_code 19 = .ok (.goto 4, 3) := by decide +kernel
theorem d_Bs_unit_22 : decode prog_1_method_2_code 22 = .ok (.iconst 0, 1) := by decide +kernel
theorem d_Bs_unit_23 : decode prog_1_method_2_code 23 = .ok (.istore_n 2, 1) := by decide +kernel
theorem d_Bs_unit_24 : decode prog_1_method_2_code 24 = .ok (.iload_n 2, 1) := by decide +kernel
theorem d_Bs_unit_25 : decode prog_1_method_2_code 25 = .ok (.ifCond .eq 13, 3) := by decide +kernel
theorem d_Bs_unit_28 : decode prog_1_method_2_code 28 = .ok (.aload_n 0, 1) := by decide +kernel
theorem d_Bs_unit_29 : decode prog_1_method_2_code 29 = .ok (.getfield 73, 3) := by decide +kernel
theorem d_Bs_unit_32 : decode prog_1_method_2_code 32 = .ok (.sipush 400, 3) := by decide +kernel
theorem d_Bs_unit_35 : decode prog_1_method_2_code 35 = .ok (.if_icmp .lt 5, 3) := by decide +kernel
theorem d_Bs_unit_38 : decode prog_1_method_2_code 38 = .ok (.iconst 0, 1) := by decide +kernel
theorem d_Bs_unit_39 : decode prog_1_method_2_code 39 = .ok (.ireturn, 1) := by decide +kernel
theorem d_Bs_unit_40 : decode prog_1_method_2_code 40 = .ok (.aload_n 0, 1) := by decide +kernel
theorem d_Bs_unit_41 : decode prog_1_method_2_code 41 = .ok (.getfield 9, 3) := by decide +kernel
theorem d_Bs_unit_44 : decode prog_1_method_2_code 44 = .ok (.aload_n 0, 1) := by decide +kernel
theorem d_Bs_unit_45 : decode prog_1_method_2_code 45 = .ok (.getfield 73, 3) := by decide +kernel
theorem d_Bs_unit_48 : decode prog_1_method_2_code 48 = .ok (.iload_n 1, 1) := by decide +kernel
theorem d_Bs_unit_49 : decode prog_1_method_2_code 49 = .ok (.i2c, 1) := by decide +kernel
theorem d_Bs_unit_50 : decode prog_1_method_2_code 50 = .ok (.castore, 1) := by decide +kernel
theorem d_Bs_unit_51 : decode prog_1_method_2_code 51 = .ok (.aload_n 0, 1) := by decide +kernel
theorem d_Bs_unit_52 : decode prog_1_method_2_code 52 = .ok (.dup, 1) := by decide +kernel
theorem d_Bs_unit_53 : decode prog_1_method_2_code 53 = .ok (.getfield 73, 3) := by decide +kernel
theorem d_Bs_unit_56 : decode prog_1_method_2_code 56 = .ok (.iconst 1, 1) := by decide +kernel
theorem d_Bs_unit_57 : decode prog_1_method_2_code 57 = .ok (.iadd, 1) := by decide +kernel
theorem d_Bs_unit_58 : decode prog_1_method_2_code 58 = .ok (.putfield 73, 3) := by decide +kernel
theorem d_Bs_unit_61 : decode prog_1_method_2_code 61 = .ok (.iconst 1, 1) := by decide +kernel
theorem d_Bs_unit_62 : decode prog_1_method_2_code 62 = .ok (.ireturn, 1) := by decide +kernel
theorem d_Bs_read_0 : decode prog_1_method_3_code 0 = .ok (.aload_n 0, 1) := by decide +kernel
theorem d_Bs_read_1 : decode prog_1_method_3_code 1 = .ok (.getfield 60, 3) := by decide +kernel
theorem d_Bs_read_4 : decode prog_1_method_3_code 4 = .ok (.aload_n 0, 1) := by decide +kernel
theorem d_Bs_read_5 : decode prog_1_method_3_code 5 = .ok (.getfield 9, 3) := by decide +kernel
theorem d_Bs_read_8 : decode prog_1_method_3_code 8 = .ok (.aload_n 0, 1) := by decide +kernel
theorem d_Bs_read_9 : decode prog_1_method_3_code 9 = .ok (.getfield 73, 3) := by decide +kernel
theorem d_Bs_read_12 : decode prog_1_method_3_code 12 = .ok (.invokevirtual 76, 3) := by decide +kernel
theorem d_Bs_read_15 : decode prog_1_method_3_code 15 = .ok (.astore_n 1, 1) := by decide +kernel
theorem d_Bs_read_16 : decode prog_1_method_3_code 16 = .ok (.aload_n 0, 1) := by decide +kernel
theorem d_Bs_read_17 : decode prog_1_method_3_code 17 = .ok (.iconst 0, 1) := by decide +kernel
theorem d_Bs_read_18 : decode prog_1_method_3_code 18 = .ok (.putfield 73, 3) := by decide +kernel
theorem d_Bs_read_21 : decode prog_1_method_3_code 21 = .ok (.aload_n 1, 1) := by decide +kernel
theorem d_Bs_read_22 : decode prog_1_method_3_code 22 = .ok (.ifnonnull 13, 3) := by decide +kernel
theorem d_Bs_read_25 : decode prog_1_method_3_code 25 = .ok (.iconst (-1), 1) := by decide +kernel
theorem d_Bs_read_26 : decode prog_1_method_3_code 26 = .ok (.aload_n 0, 1) := by decide +kernel
theorem d_Bs_read_27 : decode prog_1_method_3_code 27 = .ok (.getfield 60, 3) := by decide +kernel
theorem d_Bs_read_30 : decode prog_1_method_3_code 30 = .ok (.getfield 80, 3) := by decide +kernel
theorem d_Bs_read_33 : decode prog_1_method_3_code 33 = .ok (.isub, 1) := by decide +kernel
theorem d_Bs_read_34 : decode prog_1_method_3_code 34 = .ok (.ireturn, 1) := by decide +kernel
theorem d_Bs_read_35 : decode prog_1_method_3_code 35 = .ok (.aload_n 0, 1) := by decide +kernel
theorem d_Bs_read_36 : decode prog_1_method_3_code 36 = .ok (.aload_n 1, 1) := by decide +kernel
theorem d_Bs_read_37 : decode prog_1_method_3_code 37 = .ok (.putfield 31, 3) := by decide +kernel
theorem d_Bs_read_40 : decode prog_1_method_3_code 40 = .ok (.aload_n 0, 1) := by decide +kernel
theorem d_Bs_read_41 : decode prog_1_method_3_code 41 = .ok (.getfield 53, 3) := by decide +kernel
theorem d_Bs_read_44 : decode prog_1_method_3_code 44 = .ok (.invokevirtual 83, 3) := by decide +kernel
theorem d_Bs_read_47 : decode prog_1_method_3_code 47 = .ok (.aload_n 0, 1) := by decide +kernel
theorem d_Bs_read_48 : decode prog_1_method_3_code 48 = .ok (.getfield 31, 3) := by decide +kernel
theorem d_Bs_read_51 : decode prog_1_method_3_code 51 = .ok (.getfield 86, 3) := by decide +kernel
theorem d_Bs_read_54 : decode prog_1_method_3_code 54 = .ok (.ireturn, 1) := by decide +kernel
theorem d_Bs_object_0 : decode prog_1_method_4_code 0 = .ok (.aload_n 0, 1) := by decide +kernel
theorem d_Bs_object_1 : decode prog_1_method_4_code 1 = .ok (.getfield 37, 3) := by decide +kernel
theorem d_Bs_object_4 : decode prog_1_method_4_code 4 = .ok (.iload_n 1, 1) := by decide +kernel
theorem d_Bs_object_5 : decode prog_1_method_4_code 5 = .ok (.i2l, 1) := by decide +kernel
theorem d_Bs_object_6 : decode prog_1_method_4_code 6 = .ok (.invokevirtual 89, 3) := by decide +kernel
theorem d_Bs_object_9 : decode prog_1_method_4_code 9 = .ok (.ireturn, 1) := by decide +kernel
theorem d_Bs_field_0 : decode prog_1_method_5_code 0 = .ok (.aload_n 0, 1) := by decide +kernel
theorem d_Bs_field_1 : decode prog_1_method_5_code 1 = .ok (.getfield 37, 3) := by decide +kernel
theorem d_Bs_field_4 : decode prog_1_method_5_code 4 = .ok (.iload_n 1, 1) := by decide +kernel
theorem d_Bs_field_5 : decode prog_1_method_5_code 5 = .ok (.i2l, 1) := by decide +kernel
theorem d_Bs_field_6 : decode prog_1_method_5_code 6 = .ok (.iload_n 2, 1) := by decide +kernel
theorem d_Bs_field_7 : decode prog_1_method_5_code 7 = .ok (.invokevirtual 93, 3) := by decide +kernel
theorem d_Bs_field_10 : decode prog_1_method_5_code 10 = .ok (.istore 5, 2) := by decide +kernel
theorem d_Bs_field_12 : decode prog_1_method_5_code 12 = .ok (.iload 5, 2) := by decide +kernel
theorem d_Bs_field_14 : decode prog_1_method_5_code 14 = .ok (.iconst (-1), 1) := by decide +kernel
theorem d_Bs_field_15 : decode prog_1_method_5_code 15 = .ok (.if_icmp .ne 13, 3) := by decide +kernel
theorem d_Bs_field_18 : decode prog_1_method_5_code 18 = .ok (.new 97, 3) := by decide +kernel
theorem d_Bs_field_21 : decode prog_1_method_5_code 21 = .ok (.dup, 1) := by decide +kernel
theorem d_Bs_field_22 : decode prog_1_method_5_code 22 = .ok (.ldc 99, 2) := by decide +kernel
theorem d_Bs_field_24 : decode prog_1_method_5_code 24 = .ok (.invokespecial 101, 3) := by decide +kernel
theorem d_Bs_field_27 : decode prog_1_method_5_code 27 = .ok (.athrow, 1) := by decide +kernel
theorem d_Bs_field_28 : decode prog_1_method_5_code 28 = .ok (.aload_n 0, 1) := by decide +kernel
theorem d_Bs_field_29 : decode prog_1_method_5_code 29 = .ok (.getfield 37, 3) := by decide +kernel
theorem d_Bs_field_32 : decode prog_1_method_5_code 32 = .ok (.getfield 104, 3) := by decide +kernel
theorem d_Bs_field_35 : decode prog_1_method_5_code 35 = .ok (.iload 5, 2) := by decide +kernel
theorem d_Bs_field_37 : decode prog_1_method_5_code 37 = .ok (.laload, 1) := by decide +kernel
theorem d_Bs_field_38 : decode prog_1_method_5_code 38 = .ok (.lload_n 3, 1) := by decide +kernel
theorem d_Bs_field_39 : decode prog_1_method_5_code 39 = .ok (.lcmp, 1) := by decide +kernel
theorem d_Bs_field_40 : decode prog_1_method_5_code 40 = .ok (.ifCond .eq 7, 3) := by decide +kernel
theorem d_Bs_field_43 : decode prog_1_method_5_code 43 = .ok (.iconst 1, 1) := by decide +kernel
theorem d_Bs_field_44 : decode prog_1_method_5_code 44 = .ok (.goto 4, 3) := by decide +kernel
theorem d_Bs_field_47 : decode prog_1_method_5_code 47 = .ok (.iconst 0, 1) := by decide +kernel
theorem d_Bs_field_48 : decode prog_1_method_5_code 48 = .ok (.istore 6, 2) := by decide +kernel
theorem d_Bs_field_50 : decode prog_1_method_5_code 50 = .ok (.aload_n 0, 1) := by decide +kernel
theorem d_Bs_field_51 : decode prog_1_method_5_code 51 = .ok (.getfield 37, 3) := by decide +kernel
theorem d_Bs_field_54 : decode prog_1_method_5_code 54 = .ok (.getfield 104, 3) := by decide +kernel
theorem d_Bs_field_57 : decode prog_1_method_5_code 57 = .ok (.iload 5, 2) := by decide +kernel
theorem d_Bs_field_59 : decode prog_1_method_5_code 59 = .ok (.lload_n 3, 1) := by decide +kernel
theorem d_Bs_field_60 : decode prog_1_method_5_code 60 = .ok (.lastore, 1) := by decide +kernel
theorem d_Bs_field_61 : decode prog_1_method_5_code 61 = .ok (.iload 6, 2) := by decide +kernel
theorem d_Bs_field_63 : decode prog_1_method_5_code 63 = .ok (.ireturn, 1) := by decide +kernel
theorem d_Bs_run_0 : decode prog_1_method_6_code 0 = .ok (.lload_n 1, 1) := by decide +kernel
theorem d_Bs_run_1 : decode prog_1_method_6_code 1 = .ok (.lconst 1, 1) := by decide +kernel
theorem d_Bs_run_2 : decode prog_1_method_6_code 2 = .ok (.lcmp, 1) := by decide +kernel
theorem d_Bs_run_3 : decode prog_1_method_6_code 3 = .ok (.ifCond .lt 11, 3) := by decide +kernel
theorem d_Bs_run_6 : decode prog_1_method_6_code 6 = .ok (.lload_n 1, 1) := by decide +kernel
theorem d_Bs_run_7 : decode prog_1_method_6_code 7 = .ok (.ldc2_w 108, 3) := by decide +kernel
theorem d_Bs_run_10 : decode prog_1_method_6_code 10 = .ok (.lcmp, 1) := by decide +kernel
theorem d_Bs_run_11 : decode prog_1_method_6_code 11 = .ok (.ifCond .le 13, 3) := by decide +kernel
theorem d_Bs_run_14 : decode prog_1_method_6_code 14 = .ok (.new 110, 3) := by decide +kernel
theorem d_Bs_run_17 : decode prog_1_method_6_code 17 = .ok (.dup, 1) := by decide +kernel
theorem d_Bs_run_18 : decode prog_1_method_6_code 18 = .ok (.ldc 112, 2) := by decide +kernel
theorem d_Bs_run_20 : decode prog_1_method_6_code 20 = .ok (.invokespecial 114, 3) := by decide +kernel
theorem d_Bs_run_23 : decode prog_1_method_6_code 23 = .ok (.athrow, 1) := by decide +kernel
theorem d_Bs_run_24 : decode prog_1_method_6_code 24 = .ok (.aload_n 0, 1) := by decide +kernel
theorem d_Bs_run_25 : decode prog_1_method_6_code 25 = .ok (.getfield 69, 3) := by decide +kernel
theorem d_Bs_run_28 : decode prog_1_method_6_code 28 = .ok (.aload_n 0, 1) := by decide +kernel
theorem d_Bs_run_29 : decode prog_1_method_6_code 29 = .ok (.getfield 31, 3) := by decide +kernel
theorem d_Bs_run_32 : decode prog_1_method_6_code 32 = .ok (.lload_n 1, 1) := by decide +kernel
theorem d_Bs_run_33 : decode prog_1_method_6_code 33 = .ok (.l2i, 1) := by decide +kernel
theorem d_Bs_run_34 : decode prog_1_method_6_code 34 = .ok (.aload_n 0, 1) := by decide +kernel
theorem d_Bs_run_35 : decode prog_1_method_6_code 35 = .ok (.getfield 13, 3) := by decide +kernel
theorem d_Bs_run_38 : decode prog_1_method_6_code 38 = .ok (.invokevirtual 115, 3) := by decide +kernel
theorem d_Bs_run_41 : decode prog_1_method_6_code 41 = .ok (.ireturn, 1) := by decide +kernel
theorem d_Bs_at_0 : decode prog_1_method_7_code 0 = .ok (.aload_n 0, 1) := by decide +kernel
theorem d_Bs_at_1 : decode prog_1_method_7_code 1 = .ok (.getfield 37, 3) := by decide +kernel
theorem d_Bs_at_4 : decode prog_1_method_7_code 4 = .ok (.iload_n 1, 1) := by decide +kernel
theorem d_Bs_at_5 : decode prog_1_method_7_code 5 = .ok (.i2l, 1) := by decide +kernel
theorem d_Bs_at_6 : decode prog_1_method_7_code 6 = .ok (.iload_n 2, 1) := by decide +kernel
theorem d_Bs_at_7 : decode prog_1_method_7_code 7 = .ok (.invokevirtual 93, 3) := by decide +kernel
theorem d_Bs_at_10 : decode prog_1_method_7_code 10 = .ok (.istore_n 3, 1) := by decide +kernel
theorem d_Bs_at_11 : decode prog_1_method_7_code 11 = .ok (.iload_n 3, 1) := by decide +kernel
theorem d_Bs_at_12 : decode prog_1_method_7_code 12 = .ok (.iconst (-1), 1) := by decide +kernel
theorem d_Bs_at_13 : decode prog_1_method_7_code 13 = .ok (.if_icmp .ne 13, 3) := by decide +kernel
theorem d_Bs_at_16 : decode prog_1_method_7_code 16 = .ok (.new 97, 3) := by decide +kernel
theorem d_Bs_at_19 : decode prog_1_method_7_code 19 = .ok (.dup, 1) := by decide +kernel
theorem d_Bs_at_20 : decode prog_1_method_7_code 20 = .ok (.ldc 99, 2) := by decide +kernel
theorem d_Bs_at_22 : decode prog_1_method_7_code 22 = .ok (.invokespecial 101, 3) := by decide +kernel
theorem d_Bs_at_25 : decode prog_1_method_7_code 25 = .ok (.athrow, 1) := by decide +kernel
theorem d_Bs_at_26 : decode prog_1_method_7_code 26 = .ok (.aload_n 0, 1) := by decide +kernel
theorem d_Bs_at_27 : decode prog_1_method_7_code 27 = .ok (.getfield 37, 3) := by decide +kernel
theorem d_Bs_at_30 : decode prog_1_method_7_code 30 = .ok (.getfield 104, 3) := by decide +kernel
theorem d_Bs_at_33 : decode prog_1_method_7_code 33 = .ok (.iload_n 3, 1) := by decide +kernel
theorem d_Bs_at_34 : decode prog_1_method_7_code 34 = .ok (.laload, 1) := by decide +kernel
theorem d_Bs_at_35 : decode prog_1_method_7_code 35 = .ok (.lreturn, 1) := by decide +kernel
theorem d_Bs_query_0 : decode prog_1_method_8_code 0 = .ok (.aload_n 0, 1) := by decide +kernel
theorem d_Bs_query_1 : decode prog_1_method_8_code 1 = .ok (.getfield 53, 3) := by decide +kernel
theorem d_Bs_query_4 : decode prog_1_method_8_code 4 = .ok (.iload_n 1, 1) := by decide +kernel
theorem d_Bs_query_5 : decode prog_1_method_8_code 5 = .ok (.invokevirtual 119, 3) := by decide +kernel
theorem d_Bs_query_8 : decode prog_1_method_8_code 8 = .ok (.ireturn, 1) := by decide +kernel
theorem d_Bs_output_0 : decode prog_1_method_9_code 0 = .ok (.iload_n 1, 1) := by decide +kernel
theorem d_Bs_output_1 : decode prog_1_method_9_code 1 = .ok (.ifCond .lt 14, 3) := by decide +kernel
theorem d_Bs_output_4 : decode prog_1_method_9_code 4 = .ok (.iload_n 1, 1) := by decide +kernel
theorem d_Bs_output_5 : decode prog_1_method_9_code 5 = .ok (.aload_n 0, 1) := by decide +kernel
theorem d_Bs_output_6 : decode prog_1_method_9_code 6 = .ok (.getfield 53, 3) := by decide +kernel
theorem d_Bs_output_9 : decode prog_1_method_9_code 9 = .ok (.getfield 123, 3) := by decide +kernel
theorem d_Bs_output_12 : decode prog_1_method_9_code 12 = .ok (.if_icmp .lt 13, 3) := by decide +kernel
theorem d_Bs_output_15 : decode prog_1_method_9_code 15 = .ok (.new 97, 3) := by decide +kernel
theorem d_Bs_output_18 : decode prog_1_method_9_code 18 = .ok (.dup, 1) := by decide +kernel
theorem d_Bs_output_19 : decode prog_1_method_9_code 19 = .ok (.ldc 126, 2) := by decide +kernel
theorem d_Bs_output_21 : decode prog_1_method_9_code 21 = .ok (.invokespecial 101, 3) := by decide +kernel
theorem d_Bs_output_24 : decode prog_1_method_9_code 24 = .ok (.athrow, 1) := by decide +kernel
theorem d_Bs_output_25 : decode prog_1_method_9_code 25 = .ok (.aload_n 0, 1) := by decide +kernel
theorem d_Bs_output_26 : decode prog_1_method_9_code 26 = .ok (.getfield 53, 3) := by decide +kernel
theorem d_Bs_output_29 : decode prog_1_method_9_code 29 = .ok (.getfield 128, 3) := by decide +kernel
theorem d_Bs_output_32 : decode prog_1_method_9_code 32 = .ok (.iload_n 1, 1) := by decide +kernel
theorem d_Bs_output_33 : decode prog_1_method_9_code 33 = .ok (.iaload, 1) := by decide +kernel
theorem d_Bs_output_34 : decode prog_1_method_9_code 34 = .ok (.ireturn, 1) := by decide +kernel
theorem d_Bs_error_0 : decode prog_1_method_10_code 0 = .ok (.iload_n 1, 1) := by decide +kernel
theorem d_Bs_error_1 : decode prog_1_method_10_code 1 = .ok (.tableswitch 68 0 2 #[27, 35, 60], 27) := by decide +kernel
theorem d_Bs_error_28 : decode prog_1_method_10_code 28 = .ok (.aload_n 0, 1) := by decide +kernel
theorem d_Bs_error_29 : decode prog_1_method_10_code 29 = .ok (.getfield 53, 3) := by decide +kernel
theorem d_Bs_error_32 : decode prog_1_method_10_code 32 = .ok (.getfield 132, 3) := by decide +kernel
theorem d_Bs_error_35 : decode prog_1_method_10_code 35 = .ok (.ireturn, 1) := by decide +kernel
theorem d_Bs_error_36 : decode prog_1_method_10_code 36 = .ok (.aload_n 0, 1) := by decide +kernel
theorem d_Bs_error_37 : decode prog_1_method_10_code 37 = .ok (.getfield 53, 3) := by decide +kernel
theorem d_Bs_error_40 : decode prog_1_method_10_code 40 = .ok (.getfield 135, 3) := by decide +kernel
theorem d_Bs_error_43 : decode prog_1_method_10_code 43 = .ok (.ifnonnull 7, 3) := by decide +kernel
theorem d_Bs_error_46 : decode prog_1_method_10_code 46 = .ok (.iconst (-1), 1) := by decide +kernel
theorem d_Bs_error_47 : decode prog_1_method_10_code 47 = .ok (.goto 13, 3) := by decide +kernel
theorem d_Bs_error_50 : decode prog_1_method_10_code 50 = .ok (.aload_n 0, 1) := by decide +kernel
theorem d_Bs_error_51 : decode prog_1_method_10_code 51 = .ok (.getfield 53, 3) := by decide +kernel
theorem d_Bs_error_54 : decode prog_1_method_10_code 54 = .ok (.getfield 135, 3) := by decide +kernel
theorem d_Bs_error_57 : decode prog_1_method_10_code 57 = .ok (.getfield 139, 3) := by decide +kernel
theorem d_Bs_error_60 : decode prog_1_method_10_code 60 = .ok (.ireturn, 1) := by decide +kernel
theorem d_Bs_error_61 : decode prog_1_method_10_code 61 = .ok (.aload_n 0, 1) := by decide +kernel
theorem d_Bs_error_62 : decode prog_1_method_10_code 62 = .ok (.getfield 53, 3) := by decide +kernel
theorem d_Bs_error_65 : decode prog_1_method_10_code 65 = .ok (.getfield 142, 3) := by decide +kernel
theorem d_Bs_error_68 : decode prog_1_method_10_code 68 = .ok (.ireturn, 1) := by decide +kernel
theorem d_Bs_error_69 : decode prog_1_method_10_code 69 = .ok (.new 97, 3) := by decide +kernel
theorem d_Bs_error_72 : decode prog_1_method_10_code 72 = .ok (.dup, 1) := by decide +kernel
theorem d_Bs_error_73 : decode prog_1_method_10_code 73 = .ok (.ldc 145, 2) := by decide +kernel
theorem d_Bs_error_75 : decode prog_1_method_10_code 75 = .ok (.invokespecial 101, 3) := by decide +kernel
theorem d_Bs_error_78 : decode prog_1_method_10_code 78 = .ok (.athrow, 1) := by decide +kernel
theorem d_Bs_closed_0 : decode prog_1_method_11_code 0 = .ok (.iload_n 1, 1) := by decide +kernel
theorem d_Bs_closed_1 : decode prog_1_method_11_code 1 = .ok (.ifCond .lt 14, 3) := by decide +kernel
theorem d_Bs_closed_4 : decode prog_1_method_11_code 4 = .ok (.iload_n 1, 1) := by decide +kernel
theorem d_Bs_closed_5 : decode prog_1_method_11_code 5 = .ok (.aload_n 0, 1) := by decide +kernel
theorem d_Bs_closed_6 : decode prog_1_method_11_code 6 = .ok (.getfield 53, 3) := by decide +kernel
theorem d_Bs_closed_9 : decode prog_1_method_11_code 9 = .ok (.getfield 147, 3) := by decide +kernel
theorem d_Bs_closed_12 : decode prog_1_method_11_code 12 = .ok (.if_icmp .lt 7, 3) := by decide +kernel
theorem d_Bs_closed_15 : decode prog_1_method_11_code 15 = .ok (.iconst (-1), 1) := by decide +kernel
theorem d_Bs_closed_16 : decode prog_1_method_11_code 16 = .ok (.goto 12, 3) := by decide +kernel
theorem d_Bs_closed_19 : decode prog_1_method_11_code 19 = .ok (.aload_n 0, 1) := by decide +kernel
theorem d_Bs_closed_20 : decode prog_1_method_11_code 20 = .ok (.getfield 53, 3) := by decide +kernel
theorem d_Bs_closed_23 : decode prog_1_method_11_code 23 = .ok (.getfield 150, 3) := by decide +kernel
theorem d_Bs_closed_26 : decode prog_1_method_11_code 26 = .ok (.iload_n 1, 1) := by decide +kernel
theorem d_Bs_closed_27 : decode prog_1_method_11_code 27 = .ok (.iaload, 1) := by decide +kernel
theorem d_Bs_closed_28 : decode prog_1_method_11_code 28 = .ok (.ireturn, 1) := by decide +kernel
theorem d_Bs_restored_0 : decode prog_1_method_12_code 0 = .ok (.aload_n 0, 1) := by decide +kernel
theorem d_Bs_restored_1 : decode prog_1_method_12_code 1 = .ok (.getfield 53, 3) := by decide +kernel
theorem d_Bs_restored_4 : decode prog_1_method_12_code 4 = .ok (.getfield 153, 3) := by decide +kernel
theorem d_Bs_restored_7 : decode prog_1_method_12_code 7 = .ok (.ireturn, 1) := by decide +kernel
theorem d_Bs_added_0 : decode prog_1_method_13_code 0 = .ok (.iload_n 1, 1) := by decide +kernel
theorem d_Bs_added_1 : decode prog_1_method_13_code 1 = .ok (.ifCond .lt 14, 3) := by decide +kernel
theorem d_Bs_added_4 : decode prog_1_method_13_code 4 = .ok (.iload_n 1, 1) := by decide +kernel
theorem d_Bs_added_5 : decode prog_1_method_13_code 5 = .ok (.aload_n 0, 1) := by decide +kernel
theorem d_Bs_added_6 : decode prog_1_method_13_code 6 = .ok (.getfield 53, 3) := by decide +kernel
theorem d_Bs_added_9 : decode prog_1_method_13_code 9 = .ok (.getfield 157, 3) := by decide +kernel
theorem d_Bs_added_12 : decode prog_1_method_13_code 12 = .ok (.if_icmp .lt 7, 3) := by decide +kernel
theorem d_Bs_added_15 : decode prog_1_method_13_code 15 = .ok (.aconst_null, 1) := by decide +kernel
theorem d_Bs_added_16 : decode prog_1_method_13_code 16 = .ok (.goto 12, 3) := by decide +kernel
theorem d_Bs_added_19 : decode prog_1_method_13_code 19 = .ok (.aload_n 0, 1) := by decide +kernel
theorem d_Bs_added_20 : decode prog_1_method_13_code 20 = .ok (.getfield 53, 3) := by decide +kernel
theorem d_Bs_added_23 : decode prog_1_method_13_code 23 = .ok (.getfield 160, 3) := by decide +kernel
theorem d_Bs_added_26 : decode prog_1_method_13_code 26 = .ok (.iload_n 1, 1) := by decide +kernel
theorem d_Bs_added_27 : decode prog_1_method_13_code 27 = .ok (.aaload, 1) := by decide +kernel
theorem d_Bs_added_28 : decode prog_1_method_13_code 28 = .ok (.astore_n 2, 1) := by decide +kernel
theorem d_Bs_added_29 : decode prog_1_method_13_code 29 = .ok (.aload_n 2, 1) := by decide +kernel
theorem d_Bs_added_30 : decode prog_1_method_13_code 30 = .ok (.ifnonnull 5, 3) := by decide +kernel
theorem d_Bs_added_33 : decode prog_1_method_13_code 33 = .ok (.iconst (-1), 1) := by decide +kernel
theorem d_Bs_added_34 : decode prog_1_method_13_code 34 = .ok (.ireturn, 1) := by decide +kernel
theorem d_Bs_added_35 : decode prog_1_method_13_code 35 = .ok (.aload_n 0, 1) := by decide +kernel
theorem d_Bs_added_36 : decode prog_1_method_13_code 36 = .ok (.getfield 46, 3) := by decide +kernel
theorem d_Bs_added_39 : decode prog_1_method_13_code 39 = .ok (.aload_n 2, 1) := by decide +kernel
theorem d_Bs_added_40 : decode prog_1_method_13_code 40 = .ok (.getfield 164, 3) := by decide +kernel
theorem d_Bs_added_43 : decode prog_1_method_13_code 43 = .ok (.invokevirtual 167, 3) := by decide +kernel
theorem d_Bs_added_46 : decode prog_1_method_13_code 46 = .ok (.lstore_n 3, 1) := by decide +kernel
theorem d_Bs_added_47 : decode prog_1_method_13_code 47 = .ok (.aload_n 0, 1) := by decide +kernel
theorem d_Bs_added_48 : decode prog_1_method_13_code 48 = .ok (.getfield 46, 3) := by decide +kernel
theorem d_Bs_added_51 : decode prog_1_method_13_code 51 = .ok (.getfield 170, 3) := by decide +kernel
theorem d_Bs_added_54 : decode prog_1_method_13_code 54 = .ok (.ifCond .eq 6, 3) := by decide +kernel
theorem d_Bs_added_57 : decode prog_1_method_13_code 57 = .ok (.bipush (-2), 2) := by decide +kernel
theorem d_Bs_added_59 : decode prog_1_method_13_code 59 = .ok (.ireturn, 1) := by decide +kernel
theorem d_Bs_added_60 : decode prog_1_method_13_code 60 = .ok (.lload_n 3, 1) := by decide +kernel
theorem d_Bs_added_61 : decode prog_1_method_13_code 61 = .ok (.lconst 0, 1) := by decide +kernel
theorem d_Bs_added_62 : decode prog_1_method_13_code 62 = .ok (.lcmp, 1) := by decide +kernel
theorem d_Bs_added_63 : decode prog_1_method_13_code 63 = .ok (.ifCond .eq 7, 3) := by decide +kernel
theorem d_Bs_added_66 : decode prog_1_method_13_code 66 = .ok (.iconst 1, 1) := by decide +kernel
theorem d_Bs_added_67 : decode prog_1_method_13_code 67 = .ok (.goto 4, 3) := by decide +kernel
theorem d_Bs_added_70 : decode prog_1_method_13_code 70 = .ok (.iconst 0, 1) := by decide +kernel
theorem d_Bs_added_71 : decode prog_1_method_13_code 71 = .ok (.ireturn, 1) := by decide +kernel
theorem d_Bs_steps_0 : decode prog_1_method_14_code 0 = .ok (.aload_n 0, 1) := by decide +kernel
theorem d_Bs_steps_1 : decode prog_1_method_14_code 1 = .ok (.getfield 53, 3) := by decide +kernel
theorem d_Bs_steps_4 : decode prog_1_method_14_code 4 = .ok (.getfield 173, 3) := by decide +kernel
theorem d_Bs_steps_7 : decode prog_1_method_14_code 7 = .ok (.i2l, 1) := by decide +kernel
theorem d_Bs_steps_8 : decode prog_1_method_14_code 8 = .ok (.lreturn, 1) := by decide +kernel
theorem d_Bs_failAt_0 : decode prog_1_method_15_code 0 = .ok (.iload_n 1, 1) := by decide +kernel
theorem d_Bs_failAt_1 : decode prog_1_method_15_code 1 = .ok (.ifCond .ge 7, 3) := by decide +kernel
theorem d_Bs_failAt_4 : decode prog_1_method_15_code 4 = .ok (.iconst (-1), 1) := by decide +kernel
theorem d_Bs_failAt_5 : decode prog_1_method_15_code 5 = .ok (.goto 4, 3) := by decide +kernel
theorem d_Bs_failAt_8 : decode prog_1_method_15_code 8 = .ok (.iload_n 1, 1) := by decide +kernel
theorem d_Bs_failAt_9 : decode prog_1_method_15_code 9 = .ok (.istore_n 2, 1) := by decide +kernel
theorem d_Bs_failAt_10 : decode prog_1_method_15_code 10 = .ok (.iload_n 2, 1) := by decide +kernel
theorem d_Bs_failAt_11 : decode prog_1_method_15_code 11 = .ok (.aload_n 0, 1) := by decide +kernel
theorem d_Bs_failAt_12 : decode prog_1_method_15_code 12 = .ok (.getfield 13, 3) := by decide +kernel
theorem d_Bs_failAt_15 : decode prog_1_method_15_code 15 = .ok (.if_icmp .eq 7, 3) := by decide +kernel
theorem d_Bs_failAt_18 : decode prog_1_method_15_code 18 = .ok (.iconst 1, 1) := by decide +kernel
theorem d_Bs_failAt_19 : decode prog_1_method_15_code 19 = .ok (.goto 4, 3) := by decide +kernel
theorem d_Bs_failAt_22 : decode prog_1_method_15_code 22 = .ok (.iconst 0, 1) := by decide +kernel
theorem d_Bs_failAt_23 : decode prog_1_method_15_code 23 = .ok (.istore_n 3, 1) := by decide +kernel
theorem d_Bs_failAt_24 : decode prog_1_method_15_code 24 = .ok (.aload_n 0, 1) := by decide +kernel
theorem d_Bs_failAt_25 : decode prog_1_method_15_code 25 = .ok (.iload_n 2, 1) := by decide +kernel
theorem d_Bs_failAt_26 : decode prog_1_method_15_code 26 = .ok (.putfield 13, 3) := by decide +kernel
theorem d_Bs_failAt_29 : decode prog_1_method_15_code 29 = .ok (.iload_n 3, 1) := by decide +kernel
theorem d_Bs_failAt_30 : decode prog_1_method_15_code 30 = .ok (.ireturn, 1) := by decide +kernel
theorem d_Bs_list_0 : decode prog_1_method_16_code 0 = .ok (.aload_n 0, 1) := by decide +kernel
theorem d_Bs_list_1 : decode prog_1_method_16_code 1 = .ok (.getfield 37, 3) := by decide +kernel
theorem d_Bs_list_4 : decode prog_1_method_16_code 4 = .ok (.iload_n 1, 1) := by decide +kernel
theorem d_Bs_list_5 : decode prog_1_method_16_code 5 = .ok (.i2l, 1) := by decide +kernel
theorem d_Bs_list_6 : decode prog_1_method_16_code 6 = .ok (.invokevirtual 176, 3) := by decide +kernel
theorem d_Bs_list_9 : decode prog_1_method_16_code 9 = .ok (.ifCond .eq 7, 3) := by decide +kernel
theorem d_Bs_list_12 : decode prog_1_method_16_code 12 = .ok (.iconst 0, 1) := by decide +kernel
theorem d_Bs_list_13 : decode prog_1_method_16_code 13 = .ok (.goto 4, 3) := by decide +kernel
theorem d_Bs_list_16 : decode prog_1_method_16_code 16 = .ok (.iconst 3, 1) := by decide +kernel
theorem d_Bs_list_17 : decode prog_1_method_16_code 17 = .ok (.ireturn, 1) := by decide +kernel
theorem d_Bs_line_0 : decode prog_1_method_17_code 0 = .ok (.aload_n 0, 1) := by decide +kernel
theorem d_Bs_line_1 : decode prog_1_method_17_code 1 = .ok (.getfield 53, 3) := by decide +kernel
theorem d_Bs_line_4 : decode prog_1_method_17_code 4 = .ok (.getfield 135, 3) := by decide +kernel
theorem d_Bs_line_7 : decode prog_1_method_17_code 7 = .ok (.ifnonnull 7, 3) := by decide +kernel
theorem d_Bs_line_10 : decode prog_1_method_17_code 10 = .ok (.iconst 0, 1) := by decide +kernel
theorem d_Bs_line_11 : decode prog_1_method_17_code 11 = .ok (.goto 13, 3) := by decide +kernel
theorem d_Bs_line_14 : decode prog_1_method_17_code 14 = .ok (.aload_n 0, 1) := by decide +kernel
theorem d_Bs_line_15 : decode prog_1_method_17_code 15 = .ok (.getfield 53, 3) := by decide +kernel
theorem d_Bs_line_18 : decode prog_1_method_17_code 18 = .ok (.getfield 135, 3) := by decide +kernel
theorem d_Bs_line_21 : decode prog_1_method_17_code 21 = .ok (.getfield 180, 3) := by decide +kernel
theorem d_Bs_line_24 : decode prog_1_method_17_code 24 = .ok (.ireturn, 1) := by decide +kernel
theorem d_Bs_clear_0 : decode prog_1_method_18_code 0 = .ok (.aload_n 0, 1) := by decide +kernel
theorem d_Bs_clear_1 : decode prog_1_method_18_code 1 = .ok (.iconst 0, 1) := by decide +kernel
theorem d_Bs_clear_2 : decode prog_1_method_18_code 2 = .ok (.putfield 73, 3) := by decide +kernel
theorem d_Bs_clear_5 : decode prog_1_method_18_code 5 = .ok (.aload_n 0, 1) := by decide +kernel
theorem d_Bs_clear_6 : decode prog_1_method_18_code 6 = .ok (.iconst (-1), 1) := by decide +kernel
theorem d_Bs_clear_7 : decode prog_1_method_18_code 7 = .ok (.putfield 13, 3) := by decide +kernel
theorem d_Bs_clear_10 : decode prog_1_method_18_code 10 = .ok (.aload_n 0, 1) := by decide +kernel
theorem d_Bs_clear_11 : decode prog_1_method_18_code 11 = .ok (.aload_n 0, 1) := by decide +kernel
theorem d_Bs_clear_12 : decode prog_1_method_18_code 12 = .ok (.getfield 27, 3) := by decide +kernel
theorem d_Bs_clear_15 : decode prog_1_method_18_code 15 = .ok (.putfield 31, 3) := by decide +kernel
theorem d_Bs_clear_18 : decode prog_1_method_18_code 18 = .ok (.aload_n 0, 1) := by decide +kernel
theorem d_Bs_clear_19 : decode prog_1_method_18_code 19 = .ok (.getfield 37, 3) := by decide +kernel
theorem d_Bs_clear_22 : decode prog_1_method_18_code 22 = .ok (.invokevirtual 183, 3) := by decide +kernel
theorem d_Bs_clear_25 : decode prog_1_method_18_code 25 = .ok (.aload_n 0, 1) := by decide +kernel
theorem d_Bs_clear_26 : decode prog_1_method_18_code 26 = .ok (.getfield 53, 3) := by decide +kernel
theorem d_Bs_clear_29 : decode prog_1_method_18_code 29 = .ok (.invokevirtual 83, 3) := by decide +kernel
theorem d_Bs_clear_32 : decode prog_1_method_18_code 32 = .ok (.return_, 1) := by decide +kernel
theorem d_Sc_init_0 : decode prog_8_method_1_code 0 = .ok (.aload_n 0, 1) := by decide +kernel
theorem d_Sc_init_1 : decode prog_8_method_1_code 1 = .ok (.invokespecial 1, 3) := by decide +kernel
theorem d_Sc_init_4 : decode prog_8_method_1_code 4 = .ok (.aload_n 0, 1) := by decide +kernel
theorem d_Sc_init_5 : decode prog_8_method_1_code 5 = .ok (.aload_n 1, 1) := by decide +kernel
theorem d_Sc_init_6 : decode prog_8_method_1_code 6 = .ok (.putfield 7, 3) := by decide +kernel
theorem d_Sc_init_9 : decode prog_8_method_1_code 9 = .ok (.aload_n 0, 1) := by decide +kernel
theorem d_Sc_init_10 : decode prog_8_method_1_code 10 = .ok (.aload_n 2, 1) := by decide +kernel
theorem d_Sc_init_11 : decode prog_8_method_1_code 11 = .ok (.putfield 13, 3) := by decide +kernel
theorem d_Sc_init_14 : decode prog_8_method_1_code 14 = .ok (.aload_n 0, 1) := by decide +kernel
theorem d_Sc_init_15 : decode prog_8_method_1_code 15 = .ok (.iload_n 3, 1) := by decide +kernel
theorem d_Sc_init_16 : decode prog_8_method_1_code 16 = .ok (.putfield 17, 3) := by decide +kernel
theorem d_Sc_init_19 : decode prog_8_method_1_code 19 = .ok (.return_, 1) := by decide +kernel
theorem d_Sc_function_0 : decode prog_8_method_2_code 0 = .ok (.iload_n 1, 1) := by decide +kernel
theorem d_Sc_function_1 : decode prog_8_method_2_code 1 = .ok (.ifCond .lt 12, 3) := by decide +kernel
theorem d_Sc_function_4 : decode prog_8_method_2_code 4 = .ok (.iload_n 1, 1) := by decide +kernel
theorem d_Sc_function_5 : decode prog_8_method_2_code 5 = .ok (.aload_n 0, 1) := by decide +kernel
theorem d_Sc_function_6 : decode prog_8_method_2_code 6 = .ok (.getfield 13, 3) := by decide +kernel
theorem d_Sc_function_9 : decode prog_8_method_2_code 9 = .ok (.arraylength, 1) := by decide +kernel
theorem d_Sc_function_10 : decode prog_8_method_2_code 10 = .ok (.if_icmp .lt 7, 3) := by decide +kernel
theorem d_Sc_function_13 : decode prog_8_method_2_code 13 = .ok (.aconst_null, 1) := by decide +kernel
theorem d_Sc_function_14 : decode prog_8_method_2_code 14 = .ok (.goto 9, 3) := by decide +kernel
theorem d_Sc_function_17 : decode prog_8_method_2_code 17 = .ok (.aload_n 0, 1) := by decide +kernel
theorem d_Sc_function_18 : decode prog_8_method_2_code 18 = .ok (.getfield 13, 3) := by decide +kernel
theorem d_Sc_function_21 : decode prog_8_method_2_code 21 = .ok (.iload_n 1, 1) := by decide +kernel
theorem d_Sc_function_22 : decode prog_8_method_2_code 22 = .ok (.aaload, 1) := by decide +kernel
theorem d_Sc_function_23 : decode prog_8_method_2_code 23 = .ok (.areturn, 1) := by decide +kernel
theorem d_Bl_init_0 : decode prog_2_method_1_code 0 = .ok (.aload_n 0, 1) := by decide +kernel
theorem d_Bl_init_1 : decode prog_2_method_1_code 1 = .ok (.invokespecial 1, 3) := by decide +kernel
theorem d_Bl_init_4 : decode prog_2_method_1_code 4 = .ok (.return_, 1) := by decide +kernel
theorem d_Bl_append_0 : decode prog_2_method_2_code 0 = .ok (.aload_n 0, 1) := by decide +kernel
theorem d_Bl_append_1 : decode prog_2_method_2_code 1 = .ok (.getfield 7, 3) := by decide +kernel
theorem d_Bl_append_4 : decode prog_2_method_2_code 4 = .ok (.ifnonnull 11, 3) := by decide +kernel
theorem d_Bl_append_7 : decode prog_2_method_2_code 7 = .ok (.aload_n 0, 1) := by decide +kernel
theorem d_Bl_append_8 : decode prog_2_method_2_code 8 = .ok (.aload_n 1, 1) := by decide +kernel
theorem d_Bl_append_9 : decode prog_2_method_2_code 9 = .ok (.putfield 13, 3) := by decide +kernel
theorem d_Bl_append_12 : decode prog_2_method_2_code 12 = .ok (.goto 11, 3) := by decide +kernel
theorem d_Bl_append_15 : decode prog_2_method_2_code 15 = .ok (.aload_n 0, 1) := by decide +kernel
theorem d_Bl_append_16 : decode prog_2_method_2_code 16 = .ok (.getfield 7, 3) := by decide +kernel
theorem d_Bl_append_19 : decode prog_2_method_2_code 19 = .ok (.aload_n 1, 1) := by decide +kernel
theorem d_Bl_append_20 : decode prog_2_method_2_code 20 = .ok (.putfield 16, 3) := by decide +kernel
theorem d_Bl_append_23 : decode prog_2_method_2_code 23 = .ok (.aload_n 0, 1) := by decide +kernel
theorem d_Bl_append_24 : decode prog_2_method_2_code 24 = .ok (.aload_n 1, 1) := by decide +kernel
theorem d_Bl_append_25 : decode prog_2_method_2_code 25 = .ok (.putfield 7, 3) := by decide +kernel
theorem d_Bl_append_28 : decode prog_2_method_2_code 28 = .ok (.return_, 1) := by decide +kernel
theorem d_St_init_0 : decode prog_9_method_1_code 0 = .ok (.aload_n 0, 1) := by decide +kernel
theorem d_St_init_1 : decode prog_9_method_1_code 1 = .ok (.invokespecial 1, 3) := by decide +kernel
theorem d_St_init_4 : decode prog_9_method_1_code 4 = .ok (.aload_n 0, 1) := by decide +kernel
theorem d_St_init_5 : decode prog_9_method_1_code 5 = .ok (.iload_n 1, 1) := by decide +kernel
theorem d_St_init_6 : decode prog_9_method_1_code 6 = .ok (.putfield 7, 3) := by decide +kernel
theorem d_St_init_9 : decode prog_9_method_1_code 9 = .ok (.aload_n 0, 1) := by decide +kernel
theorem d_St_init_10 : decode prog_9_method_1_code 10 = .ok (.iload_n 2, 1) := by decide +kernel
theorem d_St_init_11 : decode prog_9_method_1_code 11 = .ok (.putfield 13, 3) := by decide +kernel
theorem d_St_init_14 : decode prog_9_method_1_code 14 = .ok (.aload_n 0, 1) := by decide +kernel
theorem d_St_init_15 : decode prog_9_method_1_code 15 = .ok (.iload_n 3, 1) := by decide +kernel
theorem d_St_init_16 : decode prog_9_method_1_code 16 = .ok (.putfield 17, 3) := by decide +kernel
theorem d_St_init_19 : decode prog_9_method_1_code 19 = .ok (.aload_n 0, 1) := by decide +kernel
theorem d_St_init_20 : decode prog_9_method_1_code 20 = .ok (.iload 4, 2) := by decide +kernel
theorem d_St_init_22 : decode prog_9_method_1_code 22 = .ok (.putfield 20, 3) := by decide +kernel
theorem d_St_init_25 : decode prog_9_method_1_code 25 = .ok (.return_, 1) := by decide +kernel
theorem d_Bd_init_0 : decode prog_3_method_1_code 0 = .ok (.aload_n 0, 1) := by decide +kernel
theorem d_Bd_init_1 : decode prog_3_method_1_code 1 = .ok (.invokespecial 3, 3) := by decide +kernel
theorem d_Bd_init_4 : decode prog_3_method_1_code 4 = .ok (.aload_n 0, 1) := by decide +kernel
theorem d_Bd_init_5 : decode prog_3_method_1_code 5 = .ok (.bipush 72, 2) := by decide +kernel
theorem d_Bd_init_7 : decode prog_3_method_1_code 7 = .ok (.newarray .long, 2) := by decide +kernel
theorem d_Bd_init_9 : decode prog_3_method_1_code 9 = .ok (.putfield 11, 3) := by decide +kernel
theorem d_Bd_init_12 : decode prog_3_method_1_code 12 = .ok (.aload_n 0, 1) := by decide +kernel
theorem d_Bd_init_13 : decode prog_3_method_1_code 13 = .ok (.bipush 20, 2) := by decide +kernel
theorem d_Bd_init_15 : decode prog_3_method_1_code 15 = .ok (.newarray .long, 2) := by decide +kernel
theorem d_Bd_init_17 : decode prog_3_method_1_code 17 = .ok (.putfield 15, 3) := by decide +kernel
theorem d_Bd_init_20 : decode prog_3_method_1_code 20 = .ok (.aload_n 0, 1) := by decide +kernel
theorem d_Bd_init_21 : decode prog_3_method_1_code 21 = .ok (.bipush 6, 2) := by decide +kernel
theorem d_Bd_init_23 : decode prog_3_method_1_code 23 = .ok (.bipush 72, 2) := by decide +kernel
theorem d_Bd_init_25 : decode prog_3_method_1_code 25 = .ok (.multianewarray 18 2, 4) := by decide +kernel
theorem d_Bd_init_29 : decode prog_3_method_1_code 29 = .ok (.putfield 20, 3) := by decide +kernel
theorem d_Bd_init_32 : decode prog_3_method_1_code 32 = .ok (.aload_n 0, 1) := by decide +kernel
theorem d_Bd_init_33 : decode prog_3_method_1_code 33 = .ok (.bipush 6, 2) := by decide +kernel
theorem d_Bd_init_35 : decode prog_3_method_1_code 35 = .ok (.newarray .int, 2) := by decide +kernel
theorem d_Bd_init_37 : decode prog_3_method_1_code 37 = .ok (.putfield 23, 3) := by decide +kernel
theorem d_Bd_init_40 : decode prog_3_method_1_code 40 = .ok (.return_, 1) := by decide +kernel
theorem d_Bd_slotOf_0 : decode prog_3_method_2_code 0 = .ok (.lload_n 1, 1) := by decide +kernel
theorem d_Bd_slotOf_1 : decode prog_3_method_2_code 1 = .ok (.lconst 0, 1) := by decide +kernel
theorem d_Bd_slotOf_2 : decode prog_3_method_2_code 2 = .ok (.lcmp, 1) := by decide +kernel
theorem d_Bd_slotOf_3 : decode prog_3_method_2_code 3 = .ok (.ifCond .lt 23, 3) := by decide +kernel
theorem d_Bd_slotOf_6 : decode prog_3_method_2_code 6 = .ok (.lload_n 1, 1) := by decide +kernel
theorem d_Bd_slotOf_7 : decode prog_3_method_2_code 7 = .ok (.aload_n 0, 1) := by decide +kernel
theorem d_Bd_slotOf_8 : decode prog_3_method_2_code 8 = .ok (.getfield 27, 3) := by decide +kernel
theorem d_Bd_slotOf_11 : decode prog_3_method_2_code 11 = .ok (.i2l, 1) := by decide +kernel
theorem d_Bd_slotOf_12 : decode prog_3_method_2_code 12 = .ok (.lcmp, 1) := by decide +kernel
theorem d_Bd_slotOf_13 : decode prog_3_method_2_code 13 = .ok (.ifCond .ge 13, 3) := by decide +kernel
theorem d_Bd_slotOf_16 : decode prog_3_method_2_code 16 = .ok (.iload_n 3, 1) := by decide +kernel
theorem d_Bd_slotOf_17 : decode prog_3_method_2_code 17 = .ok (.ifCond .lt 9, 3) := by decide +kernel
theorem d_Bd_slotOf_20 : decode prog_3_method_2_code 20 = .ok (.iload_n 3, 1) := by decide +kernel
theorem d_Bd_slotOf_21 : decode prog_3_method_2_code 21 = .ok (.bipush 6, 2) := by decide +kernel
theorem d_Bd_slotOf_23 : decode prog_3_method_2_code 23 = .ok (.if_icmp .lt 5, 3) := by decide +kernel
theorem d_Bd_slotOf_26 : decode prog_3_method_2_code 26 = .ok (.iconst (-1), 1) := by decide +kernel
theorem d_Bd_slotOf_27 : decode prog_3_method_2_code 27 = .ok (.ireturn, 1) := by decide +kernel
theorem d_Bd_slotOf_28 : decode prog_3_method_2_code 28 = .ok (.lload_n 1, 1) := by decide +kernel
theorem d_Bd_slotOf_29 : decode prog_3_method_2_code 29 = .ok (.l2i, 1) := by decide +kernel
theorem d_Bd_slotOf_30 : decode prog_3_method_2_code 30 = .ok (.bipush 6, 2) := by decide +kernel
theorem d_Bd_slotOf_32 : decode prog_3_method_2_code 32 = .ok (.imul, 1) := by decide +kernel
theorem d_Bd_slotOf_33 : decode prog_3_method_2_code 33 = .ok (.iload_n 3, 1) := by decide +kernel
theorem d_Bd_slotOf_34 : decode prog_3_method_2_code 34 = .ok (.iadd, 1) := by decide +kernel
theorem d_Bd_slotOf_35 : decode prog_3_method_2_code 35 = .ok (.ireturn, 1) := by decide +kernel
