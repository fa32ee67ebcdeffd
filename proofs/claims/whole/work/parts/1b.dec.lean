theorem d_Bd_placeOf_0 : decode prog_3_method_3_code 0 = .ok (.lload_n 1, 1) := by decide +kernel
theorem d_Bd_placeOf_1 : decode prog_3_method_3_code 1 = .ok (.lconst 0, 1) := by decide +kernel
theorem d_Bd_placeOf_2 : decode prog_3_method_3_code 2 = .ok (.lcmp, 1) := by decide +kernel
theorem d_Bd_placeOf_3 : decode prog_3_method_3_code 3 = .ok (.ifCond .lt 13, 3) := by decide +kernel
theorem d_Bd_placeOf_6 : decode prog_3_method_3_code 6 = .ok (.lload_n 1, 1) := by decide +kernel
theorem d_Bd_placeOf_7 : decode prog_3_method_3_code 7 = .ok (.aload_n 0, 1) := by decide +kernel
theorem d_Bd_placeOf_8 : decode prog_3_method_3_code 8 = .ok (.getfield 31, 3) := by decide +kernel
theorem d_Bd_placeOf_11 : decode prog_3_method_3_code 11 = .ok (.i2l, 1) := by decide +kernel
theorem d_Bd_placeOf_12 : decode prog_3_method_3_code 12 = .ok (.lcmp, 1) := by decide +kernel
theorem d_Bd_placeOf_13 : decode prog_3_method_3_code 13 = .ok (.ifCond .lt 7, 3) := by decide +kernel
theorem d_Bd_placeOf_16 : decode prog_3_method_3_code 16 = .ok (.iconst (-1), 1) := by decide +kernel
theorem d_Bd_placeOf_17 : decode prog_3_method_3_code 17 = .ok (.goto 5, 3) := by decide +kernel
theorem d_Bd_placeOf_20 : decode prog_3_method_3_code 20 = .ok (.lload_n 1, 1) := by decide +kernel
theorem d_Bd_placeOf_21 : decode prog_3_method_3_code 21 = .ok (.l2i, 1) := by decide +kernel
theorem d_Bd_placeOf_22 : decode prog_3_method_3_code 22 = .ok (.ireturn, 1) := by decide +kernel
theorem d_Bd_create_0 : decode prog_3_method_4_code 0 = .ok (.aload_n 0, 1) := by decide +kernel
theorem d_Bd_create_1 : decode prog_3_method_4_code 1 = .ok (.getfield 27, 3) := by decide +kernel
theorem d_Bd_create_4 : decode prog_3_method_4_code 4 = .ok (.bipush 12, 2) := by decide +kernel
theorem d_Bd_create_6 : decode prog_3_method_4_code 6 = .ok (.if_icmp .lt 5, 3) := by decide +kernel
theorem d_Bd_create_9 : decode prog_3_method_4_code 9 = .ok (.iconst (-1), 1) := by decide +kernel
theorem d_Bd_create_10 : decode prog_3_method_4_code 10 = .ok (.ireturn, 1) := by decide +kernel
theorem d_Bd_create_11 : decode prog_3_method_4_code 11 = .ok (.aload_n 0, 1) := by decide +kernel
theorem d_Bd_create_12 : decode prog_3_method_4_code 12 = .ok (.getfield 27, 3) := by decide +kernel
theorem d_Bd_create_15 : decode prog_3_method_4_code 15 = .ok (.bipush 6, 2) := by decide +kernel
theorem d_Bd_create_17 : decode prog_3_method_4_code 17 = .ok (.imul, 1) := by decide +kernel
theorem d_Bd_create_18 : decode prog_3_method_4_code 18 = .ok (.istore_n 3, 1) := by decide +kernel
theorem d_Bd_create_19 : decode prog_3_method_4_code 19 = .ok (.aload_n 0, 1) := by decide +kernel
theorem d_Bd_create_20 : decode prog_3_method_4_code 20 = .ok (.getfield 11, 3) := by decide +kernel
theorem d_Bd_create_23 : decode prog_3_method_4_code 23 = .ok (.iload_n 3, 1) := by decide +kernel
theorem d_Bd_create_24 : decode prog_3_method_4_code 24 = .ok (.lload_n 1, 1) := by decide +kernel
theorem d_Bd_create_25 : decode prog_3_method_4_code 25 = .ok (.lastore, 1) := by decide +kernel
theorem d_Bd_create_26 : decode prog_3_method_4_code 26 = .ok (.iconst 1, 1) := by decide +kernel
theorem d_Bd_create_27 : decode prog_3_method_4_code 27 = .ok (.istore 4, 2) := by decide +kernel
theorem d_Bd_create_29 : decode prog_3_method_4_code 29 = .ok (.iload 4, 2) := by decide +kernel
theorem d_Bd_create_31 : decode prog_3_method_4_code 31 = .ok (.bipush 6, 2) := by decide +kernel
theorem d_Bd_create_33 : decode prog_3_method_4_code 33 = .ok (.if_icmp .ge 19, 3) := by decide +kernel
theorem d_Bd_create_36 : decode prog_3_method_4_code 36 = .ok (.aload_n 0, 1) := by decide +kernel
theorem d_Bd_create_37 : decode prog_3_method_4_code 37 = .ok (.getfield 11, 3) := by decide +kernel
theorem d_Bd_create_40 : decode prog_3_method_4_code 40 = .ok (.iload_n 3, 1) := by decide +kernel
theorem d_Bd_create_41 : decode prog_3_method_4_code 41 = .ok (.iload 4, 2) := by decide +kernel
theorem d_Bd_create_43 : decode prog_3_method_4_code 43 = .ok (.iadd, 1) := by decide +kernel
theorem d_Bd_create_44 : decode prog_3_method_4_code 44 = .ok (.lconst 0, 1) := by decide +kernel
theorem d_Bd_create_45 : decode prog_3_method_4_code 45 = .ok (.lastore, 1) := by decide +kernel
theorem d_Bd_create_46 : decode prog_3_method_4_code 46 = .ok (.iinc 4 1, 3) := by decide +kernel
theorem d_Bd_create_49 : decode prog_3_method_4_code 49 = .ok (.goto (-20), 3) := by decide +kernel
theorem d_Bd_create_52 : decode prog_3_method_4_code 52 = .ok (.aload_n 0, 1) := by decide +kernel
theorem d_Bd_create_53 : decode prog_3_method_4_code 53 = .ok (.dup, 1) := by decide +kernel
theorem d_Bd_create_54 : decode prog_3_method_4_code 54 = .ok (.getfield 27, 3) := by decide +kernel
theorem d_Bd_create_57 : decode prog_3_method_4_code 57 = .ok (.iconst 1, 1) := by decide +kernel
theorem d_Bd_create_58 : decode prog_3_method_4_code 58 = .ok (.iadd, 1) := by decide +kernel
theorem d_Bd_create_59 : decode prog_3_method_4_code 59 = .ok (.putfield 27, 3) := by decide +kernel
theorem d_Bd_create_62 : decode prog_3_method_4_code 62 = .ok (.aload_n 0, 1) := by decide +kernel
theorem d_Bd_create_63 : decode prog_3_method_4_code 63 = .ok (.getfield 27, 3) := by decide +kernel
theorem d_Bd_create_66 : decode prog_3_method_4_code 66 = .ok (.iconst 1, 1) := by decide +kernel
theorem d_Bd_create_67 : decode prog_3_method_4_code 67 = .ok (.isub, 1) := by decide +kernel
theorem d_Bd_create_68 : decode prog_3_method_4_code 68 = .ok (.ireturn, 1) := by decide +kernel
theorem d_Bd_resize_0 : decode prog_3_method_5_code 0 = .ok (.lload_n 1, 1) := by decide +kernel
theorem d_Bd_resize_1 : decode prog_3_method_5_code 1 = .ok (.lconst 0, 1) := by decide +kernel
theorem d_Bd_resize_2 : decode prog_3_method_5_code 2 = .ok (.lcmp, 1) := by decide +kernel
theorem d_Bd_resize_3 : decode prog_3_method_5_code 3 = .ok (.ifCond .lt 11, 3) := by decide +kernel
theorem d_Bd_resize_6 : decode prog_3_method_5_code 6 = .ok (.lload_n 1, 1) := by decide +kernel
theorem d_Bd_resize_7 : decode prog_3_method_5_code 7 = .ok (.ldc2_w 34, 3) := by decide +kernel
theorem d_Bd_resize_10 : decode prog_3_method_5_code 10 = .ok (.lcmp, 1) := by decide +kernel
theorem d_Bd_resize_11 : decode prog_3_method_5_code 11 = .ok (.ifCond .le 5, 3) := by decide +kernel
theorem d_Bd_resize_14 : decode prog_3_method_5_code 14 = .ok (.iconst 0, 1) := by decide +kernel
theorem d_Bd_resize_15 : decode prog_3_method_5_code 15 = .ok (.ireturn, 1) := by decide +kernel
theorem d_Bd_resize_16 : decode prog_3_method_5_code 16 = .ok (.aload_n 0, 1) := by decide +kernel
theorem d_Bd_resize_17 : decode prog_3_method_5_code 17 = .ok (.lload_n 1, 1) := by decide +kernel
theorem d_Bd_resize_18 : decode prog_3_method_5_code 18 = .ok (.l2i, 1) := by decide +kernel
theorem d_Bd_resize_19 : decode prog_3_method_5_code 19 = .ok (.putfield 31, 3) := by decide +kernel
theorem d_Bd_resize_22 : decode prog_3_method_5_code 22 = .ok (.aload_n 0, 1) := by decide +kernel
theorem d_Bd_resize_23 : decode prog_3_method_5_code 23 = .ok (.getfield 15, 3) := by decide +kernel
theorem d_Bd_resize_26 : decode prog_3_method_5_code 26 = .ok (.lconst 0, 1) := by decide +kernel
theorem d_Bd_resize_27 : decode prog_3_method_5_code 27 = .ok (.invokestatic 36, 3) := by decide +kernel
theorem d_Bd_resize_30 : decode prog_3_method_5_code 30 = .ok (.iconst 1, 1) := by decide +kernel
theorem d_Bd_resize_31 : decode prog_3_method_5_code 31 = .ok (.ireturn, 1) := by decide +kernel
theorem d_Bd_keep_0 : decode prog_3_method_6_code 0 = .ok (.iload_n 1, 1) := by decide +kernel
theorem d_Bd_keep_1 : decode prog_3_method_6_code 1 = .ok (.ifCond .lt 39, 3) := by decide +kernel
theorem d_Bd_keep_4 : decode prog_3_method_6_code 4 = .ok (.iload_n 1, 1) := by decide +kernel
theorem d_Bd_keep_5 : decode prog_3_method_6_code 5 = .ok (.bipush 6, 2) := by decide +kernel
theorem d_Bd_keep_7 : decode prog_3_method_6_code 7 = .ok (.if_icmp .ge 33, 3) := by decide +kernel
theorem d_Bd_keep_10 : decode prog_3_method_6_code 10 = .ok (.aload_n 0, 1) := by decide +kernel
theorem d_Bd_keep_11 : decode prog_3_method_6_code 11 = .ok (.getfield 23, 3) := by decide +kernel
theorem d_Bd_keep_14 : decode prog_3_method_6_code 14 = .ok (.iload_n 1, 1) := by decide +kernel
theorem d_Bd_keep_15 : decode prog_3_method_6_code 15 = .ok (.aload_n 0, 1) := by decide +kernel
theorem d_Bd_keep_16 : decode prog_3_method_6_code 16 = .ok (.getfield 27, 3) := by decide +kernel
theorem d_Bd_keep_19 : decode prog_3_method_6_code 19 = .ok (.iastore, 1) := by decide +kernel
theorem d_Bd_keep_20 : decode prog_3_method_6_code 20 = .ok (.aload_n 0, 1) := by decide +kernel
theorem d_Bd_keep_21 : decode prog_3_method_6_code 21 = .ok (.getfield 11, 3) := by decide +kernel
theorem d_Bd_keep_24 : decode prog_3_method_6_code 24 = .ok (.iconst 0, 1) := by decide +kernel
theorem d_Bd_keep_25 : decode prog_3_method_6_code 25 = .ok (.aload_n 0, 1) := by decide +kernel
theorem d_Bd_keep_26 : decode prog_3_method_6_code 26 = .ok (.getfield 20, 3) := by decide +kernel
theorem d_Bd_keep_29 : decode prog_3_method_6_code 29 = .ok (.iload_n 1, 1) := by decide +kernel
theorem d_Bd_keep_30 : decode prog_3_method_6_code 30 = .ok (.aaload, 1) := by decide +kernel
theorem d_Bd_keep_31 : decode prog_3_method_6_code 31 = .ok (.iconst 0, 1) := by decide +kernel
theorem d_Bd_keep_32 : decode prog_3_method_6_code 32 = .ok (.aload_n 0, 1) := by decide +kernel
theorem d_Bd_keep_33 : decode prog_3_method_6_code 33 = .ok (.getfield 11, 3) := by decide +kernel
theorem d_Bd_keep_36 : decode prog_3_method_6_code 36 = .ok (.arraylength, 1) := by decide +kernel
theorem d_Bd_keep_37 : decode prog_3_method_6_code 37 = .ok (.invokestatic 42, 3) := by decide +kernel
theorem d_Bd_keep_40 : decode prog_3_method_6_code 40 = .ok (.return_, 1) := by decide +kernel
theorem d_Bd_putBack_0 : decode prog_3_method_7_code 0 = .ok (.iload_n 1, 1) := by decide +kernel
theorem d_Bd_putBack_1 : decode prog_3_method_7_code 1 = .ok (.ifCond .lt 39, 3) := by decide +kernel
theorem d_Bd_putBack_4 : decode prog_3_method_7_code 4 = .ok (.iload_n 1, 1) := by decide +kernel
theorem d_Bd_putBack_5 : decode prog_3_method_7_code 5 = .ok (.bipush 6, 2) := by decide +kernel
theorem d_Bd_putBack_7 : decode prog_3_method_7_code 7 = .ok (.if_icmp .ge 33, 3) := by decide +kernel
theorem d_Bd_putBack_10 : decode prog_3_method_7_code 10 = .ok (.aload_n 0, 1) := by decide +kernel
theorem d_Bd_putBack_11 : decode prog_3_method_7_code 11 = .ok (.aload_n 0, 1) := by decide +kernel
theorem d_Bd_putBack_12 : decode prog_3_method_7_code 12 = .ok (.getfield 23, 3) := by decide +kernel
theorem d_Bd_putBack_15 : decode prog_3_method_7_code 15 = .ok (.iload_n 1, 1) := by decide +kernel
theorem d_Bd_putBack_16 : decode prog_3_method_7_code 16 = .ok (.iaload, 1) := by decide +kernel
theorem d_Bd_putBack_17 : decode prog_3_method_7_code 17 = .ok (.putfield 27, 3) := by decide +kernel
theorem d_Bd_putBack_20 : decode prog_3_method_7_code 20 = .ok (.aload_n 0, 1) := by decide +kernel
theorem d_Bd_putBack_21 : decode prog_3_method_7_code 21 = .ok (.getfield 20, 3) := by decide +kernel
theorem d_Bd_putBack_24 : decode prog_3_method_7_code 24 = .ok (.iload_n 1, 1) := by decide +kernel
theorem d_Bd_putBack_25 : decode prog_3_method_7_code 25 = .ok (.aaload, 1) := by decide +kernel
theorem d_Bd_putBack_26 : decode prog_3_method_7_code 26 = .ok (.iconst 0, 1) := by decide +kernel
theorem d_Bd_putBack_27 : decode prog_3_method_7_code 27 = .ok (.aload_n 0, 1) := by decide +kernel
theorem d_Bd_putBack_28 : decode prog_3_method_7_code 28 = .ok (.getfield 11, 3) := by decide +kernel
theorem d_Bd_putBack_31 : decode prog_3_method_7_code 31 = .ok (.iconst 0, 1) := by decide +kernel
theorem d_Bd_putBack_32 : decode prog_3_method_7_code 32 = .ok (.aload_n 0, 1) := by decide +kernel
theorem d_Bd_putBack_33 : decode prog_3_method_7_code 33 = .ok (.getfield 11, 3) := by decide +kernel
theorem d_Bd_putBack_36 : decode prog_3_method_7_code 36 = .ok (.arraylength, 1) := by decide +kernel
theorem d_Bd_putBack_37 : decode prog_3_method_7_code 37 = .ok (.invokestatic 42, 3) := by decide +kernel
theorem d_Bd_putBack_40 : decode prog_3_method_7_code 40 = .ok (.return_, 1) := by decide +kernel
theorem d_Bd_empty_0 : decode prog_3_method_8_code 0 = .ok (.aload_n 0, 1) := by decide +kernel
theorem d_Bd_empty_1 : decode prog_3_method_8_code 1 = .ok (.iconst 0, 1) := by decide +kernel
theorem d_Bd_empty_2 : decode prog_3_method_8_code 2 = .ok (.putfield 27, 3) := by decide +kernel
theorem d_Bd_empty_5 : decode prog_3_method_8_code 5 = .ok (.aload_n 0, 1) := by decide +kernel
theorem d_Bd_empty_6 : decode prog_3_method_8_code 6 = .ok (.iconst 0, 1) := by decide +kernel
theorem d_Bd_empty_7 : decode prog_3_method_8_code 7 = .ok (.putfield 31, 3) := by decide +kernel
theorem d_Bd_empty_10 : decode prog_3_method_8_code 10 = .ok (.return_, 1) := by decide +kernel
theorem d_Rk_init_0 : decode prog_6_method_1_code 0 = .ok (.aload_n 0, 1) := by decide +kernel
theorem d_Rk_init_1 : decode prog_6_method_1_code 1 = .ok (.invokespecial 3, 3) := by decide +kernel
theorem d_Rk_init_4 : decode prog_6_method_1_code 4 = .ok (.aload_n 0, 1) := by decide +kernel
theorem d_Rk_init_5 : decode prog_6_method_1_code 5 = .ok (.bipush 26, 2) := by decide +kernel
theorem d_Rk_init_7 : decode prog_6_method_1_code 7 = .ok (.newarray .long, 2) := by decide +kernel
theorem d_Rk_init_9 : decode prog_6_method_1_code 9 = .ok (.putfield 11, 3) := by decide +kernel
theorem d_Rk_init_12 : decode prog_6_method_1_code 12 = .ok (.aload_n 0, 1) := by decide +kernel
theorem d_Rk_init_13 : decode prog_6_method_1_code 13 = .ok (.bipush 13, 2) := by decide +kernel
theorem d_Rk_init_15 : decode prog_6_method_1_code 15 = .ok (.newarray .long, 2) := by decide +kernel
theorem d_Rk_init_17 : decode prog_6_method_1_code 17 = .ok (.putfield 15, 3) := by decide +kernel
theorem d_Rk_init_20 : decode prog_6_method_1_code 20 = .ok (.aload_n 0, 1) := by decide +kernel
theorem d_Rk_init_21 : decode prog_6_method_1_code 21 = .ok (.aload_n 1, 1) := by decide +kernel
theorem d_Rk_init_22 : decode prog_6_method_1_code 22 = .ok (.putfield 18, 3) := by decide +kernel
theorem d_Rk_init_25 : decode prog_6_method_1_code 25 = .ok (.return_, 1) := by decide +kernel
theorem d_Rk_value_0 : decode prog_6_method_2_code 0 = .ok (.aload_n 0, 1) := by decide +kernel
theorem d_Rk_value_1 : decode prog_6_method_2_code 1 = .ok (.iconst 0, 1) := by decide +kernel
theorem d_Rk_value_2 : decode prog_6_method_2_code 2 = .ok (.putfield 22, 3) := by decide +kernel
theorem d_Rk_value_5 : decode prog_6_method_2_code 5 = .ok (.aload_n 0, 1) := by decide +kernel
theorem d_Rk_value_6 : decode prog_6_method_2_code 6 = .ok (.iconst 0, 1) := by decide +kernel
theorem d_Rk_value_7 : decode prog_6_method_2_code 7 = .ok (.putfield 26, 3) := by decide +kernel
theorem d_Rk_value_10 : decode prog_6_method_2_code 10 = .ok (.aload_n 1, 1) := by decide +kernel
theorem d_Rk_value_11 : decode prog_6_method_2_code 11 = .ok (.ifnonnull 5, 3) := by decide +kernel
theorem d_Rk_value_14 : decode prog_6_method_2_code 14 = .ok (.lconst 0, 1) := by decide +kernel
theorem d_Rk_value_15 : decode prog_6_method_2_code 15 = .ok (.lreturn, 1) := by decide +kernel
theorem d_Rk_value_16 : decode prog_6_method_2_code 16 = .ok (.iconst 0, 1) := by decide +kernel
theorem d_Rk_value_17 : decode prog_6_method_2_code 17 = .ok (.istore_n 2, 1) := by decide +kernel
theorem d_Rk_value_18 : decode prog_6_method_2_code 18 = .ok (.iload_n 2, 1) := by decide +kernel
theorem d_Rk_value_19 : decode prog_6_method_2_code 19 = .ok (.aload_n 1, 1) := by decide +kernel
theorem d_Rk_value_20 : decode prog_6_method_2_code 20 = .ok (.arraylength, 1) := by decide +kernel
theorem d_Rk_value_21 : decode prog_6_method_2_code 21 = .ok (.if_icmp .ge 33, 3) := by decide +kernel
theorem d_Rk_value_24 : decode prog_6_method_2_code 24 = .ok (.aload_n 0, 1) := by decide +kernel
theorem d_Rk_value_25 : decode prog_6_method_2_code 25 = .ok (.getfield 26, 3) := by decide +kernel
theorem d_Rk_value_28 : decode prog_6_method_2_code 28 = .ok (.ifCond .ne 26, 3) := by decide +kernel
theorem d_Rk_value_31 : decode prog_6_method_2_code 31 = .ok (.aload_n 0, 1) := by decide +kernel
theorem d_Rk_value_32 : decode prog_6_method_2_code 32 = .ok (.aload_n 1, 1) := by decide +kernel
theorem d_Rk_value_33 : decode prog_6_method_2_code 33 = .ok (.iload_n 2, 1) := by decide +kernel
theorem d_Rk_value_34 : decode prog_6_method_2_code 34 = .ok (.iaload, 1) := by decide +kernel
theorem d_Rk_value_35 : decode prog_6_method_2_code 35 = .ok (.bipush 127, 2) := by decide +kernel
theorem d_Rk_value_37 : decode prog_6_method_2_code 37 = .ok (.iand, 1) := by decide +kernel
theorem d_Rk_value_38 : decode prog_6_method_2_code 38 = .ok (.i2c, 1) := by decide +kernel
theorem d_Rk_value_39 : decode prog_6_method_2_code 39 = .ok (.aload_n 1, 1) := by decide +kernel
theorem d_Rk_value_40 : decode prog_6_method_2_code 40 = .ok (.iload_n 2, 1) := by decide +kernel
theorem d_Rk_value_41 : decode prog_6_method_2_code 41 = .ok (.iaload, 1) := by decide +kernel
theorem d_Rk_value_42 : decode prog_6_method_2_code 42 = .ok (.bipush 7, 2) := by decide +kernel
theorem d_Rk_value_44 : decode prog_6_method_2_code 44 = .ok (.ishr, 1) := by decide +kernel
theorem d_Rk_value_45 : decode prog_6_method_2_code 45 = .ok (.invokevirtual 31, 3) := by decide +kernel
theorem d_Rk_value_48 : decode prog_6_method_2_code 48 = .ok (.iinc 2 1, 3) := by decide +kernel
theorem d_Rk_value_51 : decode prog_6_method_2_code 51 = .ok (.goto (-33), 3) := by decide +kernel
theorem d_Rk_value_54 : decode prog_6_method_2_code 54 = .ok (.aload_n 0, 1) := by decide +kernel
theorem d_Rk_value_55 : decode prog_6_method_2_code 55 = .ok (.getfield 26, 3) := by decide +kernel
theorem d_Rk_value_58 : decode prog_6_method_2_code 58 = .ok (.ifCond .ne 10, 3) := by decide +kernel
theorem d_Rk_value_61 : decode prog_6_method_2_code 61 = .ok (.aload_n 0, 1) := by decide +kernel
theorem d_Rk_value_62 : decode prog_6_method_2_code 62 = .ok (.invokevirtual 35, 3) := by decide +kernel
theorem d_Rk_value_65 : decode prog_6_method_2_code 65 = .ok (.goto 4, 3) := by decide +kernel
theorem d_Rk_value_68 : decode prog_6_method_2_code 68 = .ok (.lconst 0, 1) := by decide +kernel
theorem d_Rk_value_69 : decode prog_6_method_2_code 69 = .ok (.lreturn, 1) := by decide +kernel
theorem d_Rk_reckon_0 : decode prog_6_method_3_code 0 = .ok (.iload_n 1, 1) := by decide +kernel
theorem d_Rk_reckon_1 : decode prog_6_method_3_code 1 = .ok (.lookupswitch 181 #[(35, 95), (39, 152), (64, 122), (110, 59), (118, 68), (126, 110)], 59) := by decide +kernel
theorem d_Rk_reckon_60 : decode prog_6_method_3_code 60 = .ok (.aload_n 0, 1) := by decide +kernel
theorem d_Rk_reckon_61 : decode prog_6_method_3_code 61 = .ok (.iload_n 2, 1) := by decide +kernel
theorem d_Rk_reckon_62 : decode prog_6_method_3_code 62 = .ok (.i2l, 1) := by decide +kernel
theorem d_Rk_reckon_63 : decode prog_6_method_3_code 63 = .ok (.invokevirtual 39, 3) := by decide +kernel
theorem d_Rk_reckon_66 : decode prog_6_method_3_code 66 = .ok (.goto 139, 3) := by decide +kernel
theorem d_Rk_reckon_69 : decode prog_6_method_3_code 69 = .ok (.aload_n 0, 1) := by decide +kernel
theorem d_Rk_reckon_70 : decode prog_6_method_3_code 70 = .ok (.iload_n 2, 1) := by decide +kernel
theorem d_Rk_reckon_71 : decode prog_6_method_3_code 71 = .ok (.ifCond .lt 9, 3) := by decide +kernel
theorem d_Rk_reckon_74 : decode prog_6_method_3_code 74 = .ok (.iload_n 2, 1) := by decide +kernel
theorem d_Rk_reckon_75 : decode prog_6_method_3_code 75 = .ok (.bipush 26, 2) := by decide +kernel
theorem d_Rk_reckon_77 : decode prog_6_method_3_code 77 = .ok (.if_icmp .lt 7, 3) := by decide +kernel
theorem d_Rk_reckon_80 : decode prog_6_method_3_code 80 = .ok (.lconst 0, 1) := by decide +kernel
theorem d_Rk_reckon_81 : decode prog_6_method_3_code 81 = .ok (.goto 9, 3) := by decide +kernel
theorem d_Rk_reckon_84 : decode prog_6_method_3_code 84 = .ok (.aload_n 0, 1) := by decide +kernel
theorem d_Rk_reckon_85 : decode prog_6_method_3_code 85 = .ok (.getfield 11, 3) := by decide +kernel
theorem d_Rk_reckon_88 : decode prog_6_method_3_code 88 = .ok (.iload_n 2, 1) := by decide +kernel
theorem d_Rk_reckon_89 : decode prog_6_method_3_code 89 = .ok (.laload, 1) := by decide +kernel
theorem d_Rk_reckon_90 : decode prog_6_method_3_code 90 = .ok (.invokevirtual 39, 3) := by decide +kernel
theorem d_Rk_reckon_93 : decode prog_6_method_3_code 93 = .ok (.goto 112, 3) := by decide +kernel
theorem d_Rk_reckon_96 : decode prog_6_method_3_code 96 = .ok (.aload_n 0, 1) := by decide +kernel
theorem d_Rk_reckon_97 : decode prog_6_method_3_code 97 = .ok (.aload_n 0, 1) := by decide +kernel
theorem d_Rk_reckon_98 : decode prog_6_method_3_code 98 = .ok (.getfield 18, 3) := by decide +kernel
theorem d_Rk_reckon_101 : decode prog_6_method_3_code 101 = .ok (.getfield 43, 3) := by decide +kernel
theorem d_Rk_reckon_104 : decode prog_6_method_3_code 104 = .ok (.i2l, 1) := by decide +kernel
theorem d_Rk_reckon_105 : decode prog_6_method_3_code 105 = .ok (.invokevirtual 39, 3) := by decide +kernel
theorem d_Rk_reckon_108 : decode prog_6_method_3_code 108 = .ok (.goto 97, 3) := by decide +kernel
theorem d_Rk_reckon_111 : decode prog_6_method_3_code 111 = .ok (.aload_n 0, 1) := by decide +kernel
theorem d_Rk_reckon_112 : decode prog_6_method_3_code 112 = .ok (.aload_n 0, 1) := by decide +kernel
theorem d_Rk_reckon_113 : decode prog_6_method_3_code 113 = .ok (.invokevirtual 35, 3) := by decide +kernel
theorem d_Rk_reckon_116 : decode prog_6_method_3_code 116 = .ok (.lneg, 1) := by decide +kernel
theorem d_Rk_reckon_117 : decode prog_6_method_3_code 117 = .ok (.invokevirtual 39, 3) := by decide +kernel
theorem d_Rk_reckon_120 : decode prog_6_method_3_code 120 = .ok (.goto 85, 3) := by decide +kernel
theorem d_Rk_reckon_123 : decode prog_6_method_3_code 123 = .ok (.aload_n 0, 1) := by decide +kernel
theorem d_Rk_reckon_124 : decode prog_6_method_3_code 124 = .ok (.aload_n 0, 1) := by decide +kernel
theorem d_Rk_reckon_125 : decode prog_6_method_3_code 125 = .ok (.aload_n 0, 1) := by decide +kernel
theorem d_Rk_reckon_126 : decode prog_6_method_3_code 126 = .ok (.getfield 18, 3) := by decide +kernel
theorem d_Rk_reckon_129 : decode prog_6_method_3_code 129 = .ok (.getfield 48, 3) := by decide +kernel
theorem d_Rk_reckon_132 : decode prog_6_method_3_code 132 = .ok (.aload_n 0, 1) := by decide +kernel
theorem d_Rk_reckon_133 : decode prog_6_method_3_code 133 = .ok (.getfield 18, 3) := by decide +kernel
theorem d_Rk_reckon_136 : decode prog_6_method_3_code 136 = .ok (.aload_n 0, 1) := by decide +kernel
theorem d_Rk_reckon_137 : decode prog_6_method_3_code 137 = .ok (.invokevirtual 35, 3) := by decide +kernel
theorem d_Rk_reckon_140 : decode prog_6_method_3_code 140 = .ok (.iload_n 2, 1) := by decide +kernel
theorem d_Rk_reckon_141 : decode prog_6_method_3_code 141 = .ok (.invokevirtual 51, 3) := by decide +kernel
theorem d_Rk_reckon_144 : decode prog_6_method_3_code 144 = .ok (.invokevirtual 55, 3) := by decide +kernel
theorem d_Rk_reckon_147 : decode prog_6_method_3_code 147 = .ok (.invokevirtual 39, 3) := by decide +kernel
theorem d_Rk_reckon_150 : decode prog_6_method_3_code 150 = .ok (.goto 55, 3) := by decide +kernel
theorem d_Rk_reckon_153 : decode prog_6_method_3_code 153 = .ok (.aload_n 0, 1) := by decide +kernel
theorem d_Rk_reckon_154 : decode prog_6_method_3_code 154 = .ok (.aload_n 0, 1) := by decide +kernel
theorem d_Rk_reckon_155 : decode prog_6_method_3_code 155 = .ok (.aload_n 0, 1) := by decide +kernel
theorem d_Rk_reckon_156 : decode prog_6_method_3_code 156 = .ok (.getfield 18, 3) := by decide +kernel
theorem d_Rk_reckon_159 : decode prog_6_method_3_code 159 = .ok (.getfield 59, 3) := by decide +kernel
theorem d_Rk_reckon_162 : decode prog_6_method_3_code 162 = .ok (.aload_n 0, 1) := by decide +kernel
theorem d_Rk_reckon_163 : decode prog_6_method_3_code 163 = .ok (.getfield 18, 3) := by decide +kernel
theorem d_Rk_reckon_166 : decode prog_6_method_3_code 166 = .ok (.aload_n 0, 1) := by decide +kernel
theorem d_Rk_reckon_167 : decode prog_6_method_3_code 167 = .ok (.invokevirtual 35, 3) := by decide +kernel
theorem d_Rk_reckon_170 : decode prog_6_method_3_code 170 = .ok (.invokevirtual 62, 3) := by decide +kernel
theorem d_Rk_reckon_173 : decode prog_6_method_3_code 173 = .ok (.invokevirtual 55, 3) := by decide +kernel
theorem d_Rk_reckon_176 : decode prog_6_method_3_code 176 = .ok (.invokevirtual 39, 3) := by decide +kernel
theorem d_Rk_reckon_179 : decode prog_6_method_3_code 179 = .ok (.goto 26, 3) := by decide +kernel
theorem d_Rk_reckon_182 : decode prog_6_method_3_code 182 = .ok (.aload_n 0, 1) := by decide +kernel
theorem d_Rk_reckon_183 : decode prog_6_method_3_code 183 = .ok (.invokevirtual 35, 3) := by decide +kernel
theorem d_Rk_reckon_186 : decode prog_6_method_3_code 186 = .ok (.lstore_n 3, 1) := by decide +kernel
theorem d_Rk_reckon_187 : decode prog_6_method_3_code 187 = .ok (.aload_n 0, 1) := by decide +kernel
theorem d_Rk_reckon_188 : decode prog_6_method_3_code 188 = .ok (.invokevirtual 35, 3) := by decide +kernel
theorem d_Rk_reckon_191 : decode prog_6_method_3_code 191 = .ok (.lstore 5, 2) := by decide +kernel
theorem d_Rk_reckon_193 : decode prog_6_method_3_code 193 = .ok (.aload_n 0, 1) := by decide +kernel
theorem d_Rk_reckon_194 : decode prog_6_method_3_code 194 = .ok (.aload_n 0, 1) := by decide +kernel
theorem d_Rk_reckon_195 : decode prog_6_method_3_code 195 = .ok (.iload_n 1, 1) := by decide +kernel
theorem d_Rk_reckon_196 : decode prog_6_method_3_code 196 = .ok (.lload 5, 2) := by decide +kernel
theorem d_Rk_reckon_198 : decode prog_6_method_3_code 198 = .ok (.lload_n 3, 1) := by decide +kernel
theorem d_Rk_reckon_199 : decode prog_6_method_3_code 199 = .ok (.invokevirtual 66, 3) := by decide +kernel
theorem d_Rk_reckon_202 : decode prog_6_method_3_code 202 = .ok (.invokevirtual 39, 3) := by decide +kernel
theorem d_Rk_reckon_205 : decode prog_6_method_3_code 205 = .ok (.return_, 1) := by decide +kernel
theorem d_Rk_joined_0 : decode prog_6_method_4_code 0 = .ok (.iload_n 1, 1) := by decide +kernel
theorem d_Rk_joined_1 : decode prog_6_method_4_code 1 = .ok (.lookupswitch 92 #[(42, 61), (43, 51), (45, 56), (60, 66), (61, 79)], 51) := by decide +kernel
theorem d_Rk_joined_52 : decode prog_6_method_4_code 52 = .ok (.lload_n 2, 1) := by decide +kernel
theorem d_Rk_joined_53 : decode prog_6_method_4_code 53 = .ok (.lload 4, 2) := by decide +kernel
theorem d_Rk_joined_55 : decode prog_6_method_4_code 55 = .ok (.ladd, 1) := by decide +kernel
theorem d_Rk_joined_56 : decode prog_6_method_4_code 56 = .ok (.lreturn, 1) := by decide +kernel
theorem d_Rk_joined_57 : decode prog_6_method_4_code 57 = .ok (.lload_n 2, 1) := by decide +kernel
theorem d_Rk_joined_58 : decode prog_6_method_4_code 58 = .ok (.lload 4, 2) := by decide +kernel
theorem d_Rk_joined_60 : decode prog_6_method_4_code 60 = .ok (.lsub, 1) := by decide +kernel
theorem d_Rk_joined_61 : decode prog_6_method_4_code 61 = .ok (.lreturn, 1) := by decide +kernel
theorem d_Rk_joined_62 : decode prog_6_method_4_code 62 = .ok (.lload_n 2, 1) := by decide +kernel
theorem d_Rk_joined_63 : decode prog_6_method_4_code 63 = .ok (.lload 4, 2) := by decide +kernel
theorem d_Rk_joined_65 : decode prog_6_method_4_code 65 = .ok (.lmul, 1) := by decide +kernel
theorem d_Rk_joined_66 : decode prog_6_method_4_code 66 = .ok (.lreturn, 1) := by decide +kernel
theorem d_Rk_joined_67 : decode prog_6_method_4_code 67 = .ok (.lload_n 2, 1) := by decide +kernel
theorem d_Rk_joined_68 : decode prog_6_method_4_code 68 = .ok (.lload 4, 2) := by decide +kernel
theorem d_Rk_joined_70 : decode prog_6_method_4_code 70 = .ok (.lcmp, 1) := by decide +kernel
theorem d_Rk_joined_71 : decode prog_6_method_4_code 71 = .ok (.ifCond .ge 7, 3) := by decide +kernel
theorem d_Rk_joined_74 : decode prog_6_method_4_code 74 = .ok (.lconst 1, 1) := by decide +kernel
theorem d_Rk_joined_75 : decode prog_6_method_4_code 75 = .ok (.goto 4, 3) := by decide +kernel
theorem d_Rk_joined_78 : decode prog_6_method_4_code 78 = .ok (.lconst 0, 1) := by decide +kernel
theorem d_Rk_joined_79 : decode prog_6_method_4_code 79 = .ok (.lreturn, 1) := by decide +kernel
theorem d_Rk_joined_80 : decode prog_6_method_4_code 80 = .ok (.lload_n 2, 1) := by decide +kernel
theorem d_Rk_joined_81 : decode prog_6_method_4_code 81 = .ok (.lload 4, 2) := by decide +kernel
theorem d_Rk_joined_83 : decode prog_6_method_4_code 83 = .ok (.lcmp, 1) := by decide +kernel
theorem d_Rk_joined_84 : decode prog_6_method_4_code 84 = .ok (.ifCond .ne 7, 3) := by decide +kernel
theorem d_Rk_joined_87 : decode prog_6_method_4_code 87 = .ok (.lconst 1, 1) := by decide +kernel
theorem d_Rk_joined_88 : decode prog_6_method_4_code 88 = .ok (.goto 4, 3) := by decide +kernel
theorem d_Rk_joined_91 : decode prog_6_method_4_code 91 = .ok (.lconst 0, 1) := by decide +kernel
theorem d_Rk_joined_92 : decode prog_6_method_4_code 92 = .ok (.lreturn, 1) := by decide +kernel
theorem d_Rk_joined_93 : decode prog_6_method_4_code 93 = .ok (.lload 4, 2) := by decide +kernel
theorem d_Rk_joined_95 : decode prog_6_method_4_code 95 = .ok (.lconst 0, 1) := by decide +kernel
theorem d_Rk_joined_96 : decode prog_6_method_4_code 96 = .ok (.lcmp, 1) := by decide +kernel
theorem d_Rk_joined_97 : decode prog_6_method_4_code 97 = .ok (.ifCond .ne 10, 3) := by decide +kernel
theorem d_Rk_joined_100 : decode prog_6_method_4_code 100 = .ok (.aload_n 0, 1) := by decide +kernel
theorem d_Rk_joined_101 : decode prog_6_method_4_code 101 = .ok (.iconst 1, 1) := by decide +kernel
theorem d_Rk_joined_102 : decode prog_6_method_4_code 102 = .ok (.putfield 26, 3) := by decide +kernel
theorem d_Rk_joined_105 : decode prog_6_method_4_code 105 = .ok (.lconst 0, 1) := by decide +kernel
theorem d_Rk_joined_106 : decode prog_6_method_4_code 106 = .ok (.lreturn, 1) := by decide +kernel
theorem d_Rk_joined_107 : decode prog_6_method_4_code 107 = .ok (.iload_n 1, 1) := by decide +kernel
theorem d_Rk_joined_108 : decode prog_6_method_4_code 108 = .ok (.bipush 47, 2) := by decide +kernel
theorem d_Rk_joined_110 : decode prog_6_method_4_code 110 = .ok (.if_icmp .ne 10, 3) := by decide +kernel
theorem d_Rk_joined_113 : decode prog_6_method_4_code 113 = .ok (.lload_n 2, 1) := by decide +kernel
theorem d_Rk_joined_114 : decode prog_6_method_4_code 114 = .ok (.lload 4, 2) := by decide +kernel
theorem d_Rk_joined_116 : decode prog_6_method_4_code 116 = .ok (.ldiv, 1) := by decide +kernel
theorem d_Rk_joined_117 : decode prog_6_method_4_code 117 = .ok (.goto 7, 3) := by decide +kernel
theorem d_Rk_joined_120 : decode prog_6_method_4_code 120 = .ok (.lload_n 2, 1) := by decide +kernel
theorem d_Rk_joined_121 : decode prog_6_method_4_code 121 = .ok (.lload 4, 2) := by decide +kernel
theorem d_Rk_joined_123 : decode prog_6_method_4_code 123 = .ok (.lrem, 1) := by decide +kernel
theorem d_Rk_joined_124 : decode prog_6_method_4_code 124 = .ok (.lreturn, 1) := by decide +kernel
theorem d_Rk_cell_0 : decode prog_6_method_5_code 0 = .ok (.iload_n 2, 1) := by decide +kernel
theorem d_Rk_cell_1 : decode prog_6_method_5_code 1 = .ok (.ifCond .lt 9, 3) := by decide +kernel
theorem d_Rk_cell_4 : decode prog_6_method_5_code 4 = .ok (.iload_n 2, 1) := by decide +kernel
theorem d_Rk_cell_5 : decode prog_6_method_5_code 5 = .ok (.aload_n 1, 1) := by decide +kernel
theorem d_Rk_cell_6 : decode prog_6_method_5_code 6 = .ok (.arraylength, 1) := by decide +kernel
theorem d_Rk_cell_7 : decode prog_6_method_5_code 7 = .ok (.if_icmp .lt 10, 3) := by decide +kernel
theorem d_Rk_cell_10 : decode prog_6_method_5_code 10 = .ok (.aload_n 0, 1) := by decide +kernel
theorem d_Rk_cell_11 : decode prog_6_method_5_code 11 = .ok (.iconst 2, 1) := by decide +kernel
theorem d_Rk_cell_12 : decode prog_6_method_5_code 12 = .ok (.putfield 26, 3) := by decide +kernel
theorem d_Rk_cell_15 : decode prog_6_method_5_code 15 = .ok (.lconst 0, 1) := by decide +kernel
theorem d_Rk_cell_16 : decode prog_6_method_5_code 16 = .ok (.lreturn, 1) := by decide +kernel
theorem d_Rk_cell_17 : decode prog_6_method_5_code 17 = .ok (.aload_n 1, 1) := by decide +kernel
theorem d_Rk_cell_18 : decode prog_6_method_5_code 18 = .ok (.iload_n 2, 1) := by decide +kernel
theorem d_Rk_cell_19 : decode prog_6_method_5_code 19 = .ok (.laload, 1) := by decide +kernel
theorem d_Rk_cell_20 : decode prog_6_method_5_code 20 = .ok (.lreturn, 1) := by decide +kernel
theorem d_Rk_push_0 : decode prog_6_method_6_code 0 = .ok (.aload_n 0, 1) := by decide +kernel
theorem d_Rk_push_1 : decode prog_6_method_6_code 1 = .ok (.getfield 22, 3) := by decide +kernel
theorem d_Rk_push_4 : decode prog_6_method_6_code 4 = .ok (.ifCond .lt 32, 3) := by decide +kernel
theorem d_Rk_push_7 : decode prog_6_method_6_code 7 = .ok (.aload_n 0, 1) := by decide +kernel
theorem d_Rk_push_8 : decode prog_6_method_6_code 8 = .ok (.getfield 22, 3) := by decide +kernel
theorem d_Rk_push_11 : decode prog_6_method_6_code 11 = .ok (.bipush 13, 2) := by decide +kernel
theorem d_Rk_push_13 : decode prog_6_method_6_code 13 = .ok (.if_icmp .ge 23, 3) := by decide +kernel
theorem d_Rk_push_16 : decode prog_6_method_6_code 16 = .ok (.aload_n 0, 1) := by decide +kernel
theorem d_Rk_push_17 : decode prog_6_method_6_code 17 = .ok (.getfield 15, 3) := by decide +kernel
theorem d_Rk_push_20 : decode prog_6_method_6_code 20 = .ok (.aload_n 0, 1) := by decide +kernel
theorem d_Rk_push_21 : decode prog_6_method_6_code 21 = .ok (.getfield 22, 3) := by decide +kernel
theorem d_Rk_push_24 : decode prog_6_method_6_code 24 = .ok (.lload_n 1, 1) := by decide +kernel
theorem d_Rk_push_25 : decode prog_6_method_6_code 25 = .ok (.lastore, 1) := by decide +kernel
theorem d_Rk_push_26 : decode prog_6_method_6_code 26 = .ok (.aload_n 0, 1) := by decide +kernel
theorem d_Rk_push_27 : decode prog_6_method_6_code 27 = .ok (.dup, 1) := by decide +kernel
theorem d_Rk_push_28 : decode prog_6_method_6_code 28 = .ok (.getfield 22, 3) := by decide +kernel
theorem d_Rk_push_31 : decode prog_6_method_6_code 31 = .ok (.iconst 1, 1) := by decide +kernel
theorem d_Rk_push_32 : decode prog_6_method_6_code 32 = .ok (.iadd, 1) := by decide +kernel
theorem d_Rk_push_33 : decode prog_6_method_6_code 33 = .ok (.putfield 22, 3) := by decide +kernel
theorem d_Rk_push_36 : decode prog_6_method_6_code 36 = .ok (.return_, 1) := by decide +kernel
theorem d_Rk_pop_0 : decode prog_6_method_7_code 0 = .ok (.aload_n 0, 1) := by decide +kernel
theorem d_Rk_pop_1 : decode prog_6_method_7_code 1 = .ok (.getfield 22, 3) := by decide +kernel
theorem d_Rk_pop_4 : decode prog_6_method_7_code 4 = .ok (.ifCond .le 12, 3) := by decide +kernel
theorem d_Rk_pop_7 : decode prog_6_method_7_code 7 = .ok (.aload_n 0, 1) := by decide +kernel
theorem d_Rk_pop_8 : decode prog_6_method_7_code 8 = .ok (.getfield 22, 3) := by decide +kernel
theorem d_Rk_pop_11 : decode prog_6_method_7_code 11 = .ok (.bipush 13, 2) := by decide +kernel
theorem d_Rk_pop_13 : decode prog_6_method_7_code 13 = .ok (.if_icmp .le 5, 3) := by decide +kernel
theorem d_Rk_pop_16 : decode prog_6_method_7_code 16 = .ok (.lconst 0, 1) := by decide +kernel
theorem d_Rk_pop_17 : decode prog_6_method_7_code 17 = .ok (.lreturn, 1) := by decide +kernel
theorem d_Rk_pop_18 : decode prog_6_method_7_code 18 = .ok (.aload_n 0, 1) := by decide +kernel
theorem d_Rk_pop_19 : decode prog_6_method_7_code 19 = .ok (.dup, 1) := by decide +kernel
theorem d_Rk_pop_20 : decode prog_6_method_7_code 20 = .ok (.getfield 22, 3) := by decide +kernel
theorem d_Rk_pop_23 : decode prog_6_method_7_code 23 = .ok (.iconst 1, 1) := by decide +kernel
theorem d_Rk_pop_24 : decode prog_6_method_7_code 24 = .ok (.isub, 1) := by decide +kernel
theorem d_Rk_pop_25 : decode prog_6_method_7_code 25 = .ok (.putfield 22, 3) := by decide +kernel
theorem d_Rk_pop_28 : decode prog_6_method_7_code 28 = .ok (.aload_n 0, 1) := by decide +kernel
theorem d_Rk_pop_29 : decode prog_6_method_7_code 29 = .ok (.getfield 15, 3) := by decide +kernel
theorem d_Rk_pop_32 : decode prog_6_method_7_code 32 = .ok (.aload_n 0, 1) := by decide +kernel
theorem d_Rk_pop_33 : decode prog_6_method_7_code 33 = .ok (.getfield 22, 3) := by decide +kernel
theorem d_Rk_pop_36 : decode prog_6_method_7_code 36 = .ok (.laload, 1) := by decide +kernel
theorem d_Rk_pop_37 : decode prog_6_method_7_code 37 = .ok (.lreturn, 1) := by decide +kernel
theorem d_Rp_init_0 : decode prog_7_method_1_code 0 = .ok (.aload_n 0, 1) := by decide +kernel
theorem d_Rp_init_1 : decode prog_7_method_1_code 1 = .ok (.invokespecial 3, 3) := by decide +kernel
theorem d_Rp_init_4 : decode prog_7_method_1_code 4 = .ok (.aload_n 0, 1) := by decide +kernel
theorem d_Rp_init_5 : decode prog_7_method_1_code 5 = .ok (.bipush 40, 2) := by decide +kernel
theorem d_Rp_init_7 : decode prog_7_method_1_code 7 = .ok (.newarray .int, 2) := by decide +kernel
theorem d_Rp_init_9 : decode prog_7_method_1_code 9 = .ok (.putfield 11, 3) := by decide +kernel
theorem d_Rp_init_12 : decode prog_7_method_1_code 12 = .ok (.aload_n 0, 1) := by decide +kernel
theorem d_Rp_init_13 : decode prog_7_method_1_code 13 = .ok (.bipush 8, 2) := by decide +kernel
theorem d_Rp_init_15 : decode prog_7_method_1_code 15 = .ok (.anewarray 15, 3) := by decide +kernel
theorem d_Rp_init_18 : decode prog_7_method_1_code 18 = .ok (.putfield 17, 3) := by decide +kernel
theorem d_Rp_init_21 : decode prog_7_method_1_code 21 = .ok (.aload_n 0, 1) := by decide +kernel
theorem d_Rp_init_22 : decode prog_7_method_1_code 22 = .ok (.bipush 20, 2) := by decide +kernel
theorem d_Rp_init_24 : decode prog_7_method_1_code 24 = .ok (.newarray .int, 2) := by decide +kernel
theorem d_Rp_init_26 : decode prog_7_method_1_code 26 = .ok (.putfield 21, 3) := by decide +kernel
theorem d_Rp_init_29 : decode prog_7_method_1_code 29 = .ok (.return_, 1) := by decide +kernel
theorem d_Rp_forget_0 : decode prog_7_method_2_code 0 = .ok (.aload_n 0, 1) := by decide +kernel
theorem d_Rp_forget_1 : decode prog_7_method_2_code 1 = .ok (.iconst 0, 1) := by decide +kernel
theorem d_Rp_forget_2 : decode prog_7_method_2_code 2 = .ok (.putfield 24, 3) := by decide +kernel
theorem d_Rp_forget_5 : decode prog_7_method_2_code 5 = .ok (.aload_n 0, 1) := by decide +kernel
theorem d_Rp_forget_6 : decode prog_7_method_2_code 6 = .ok (.iconst 0, 1) := by decide +kernel
theorem d_Rp_forget_7 : decode prog_7_method_2_code 7 = .ok (.putfield 28, 3) := by decide +kernel
theorem d_Rp_forget_10 : decode prog_7_method_2_code 10 = .ok (.aload_n 0, 1) := by decide +kernel
theorem d_Rp_forget_11 : decode prog_7_method_2_code 11 = .ok (.iconst 0, 1) := by decide +kernel
theorem d_Rp_forget_12 : decode prog_7_method_2_code 12 = .ok (.putfield 31, 3) := by decide +kernel
theorem d_Rp_forget_15 : decode prog_7_method_2_code 15 = .ok (.aload_n 0, 1) := by decide +kernel
theorem d_Rp_forget_16 : decode prog_7_method_2_code 16 = .ok (.iconst 0, 1) := by decide +kernel
theorem d_Rp_forget_17 : decode prog_7_method_2_code 17 = .ok (.putfield 34, 3) := by decide +kernel
theorem d_Rp_forget_20 : decode prog_7_method_2_code 20 = .ok (.aload_n 0, 1) := by decide +kernel
theorem d_Rp_forget_21 : decode prog_7_method_2_code 21 = .ok (.iconst 0, 1) := by decide +kernel
theorem d_Rp_forget_22 : decode prog_7_method_2_code 22 = .ok (.putfield 37, 3) := by decide +kernel
theorem d_Rp_forget_25 : decode prog_7_method_2_code 25 = .ok (.aload_n 0, 1) := by decide +kernel
theorem d_Rp_forget_26 : decode prog_7_method_2_code 26 = .ok (.iconst 0, 1) := by decide +kernel
theorem d_Rp_forget_27 : decode prog_7_method_2_code 27 = .ok (.putfield 41, 3) := by decide +kernel
theorem d_Rp_forget_30 : decode prog_7_method_2_code 30 = .ok (.aload_n 0, 1) := by decide +kernel
theorem d_Rp_forget_31 : decode prog_7_method_2_code 31 = .ok (.iconst 0, 1) := by decide +kernel
theorem d_Rp_forget_32 : decode prog_7_method_2_code 32 = .ok (.aconst_null, 1) := by decide +kernel
theorem d_Rp_forget_33 : decode prog_7_method_2_code 33 = .ok (.iconst 0, 1) := by decide +kernel
theorem d_Rp_forget_34 : decode prog_7_method_2_code 34 = .ok (.invokevirtual 44, 3) := by decide +kernel
theorem d_Rp_forget_37 : decode prog_7_method_2_code 37 = .ok (.return_, 1) := by decide +kernel
theorem d_Rp_note_0 : decode prog_7_method_3_code 0 = .ok (.aload_n 0, 1) := by decide +kernel
theorem d_Rp_note_1 : decode prog_7_method_3_code 1 = .ok (.iload_n 1, 1) := by decide +kernel
theorem d_Rp_note_2 : decode prog_7_method_3_code 2 = .ok (.putfield 48, 3) := by decide +kernel
theorem d_Rp_note_5 : decode prog_7_method_3_code 5 = .ok (.aload_n 0, 1) := by decide +kernel
theorem d_Rp_note_6 : decode prog_7_method_3_code 6 = .ok (.aload_n 2, 1) := by decide +kernel
theorem d_Rp_note_7 : decode prog_7_method_3_code 7 = .ok (.putfield 51, 3) := by decide +kernel
theorem d_Rp_note_10 : decode prog_7_method_3_code 10 = .ok (.aload_n 0, 1) := by decide +kernel
theorem d_Rp_note_11 : decode prog_7_method_3_code 11 = .ok (.iload_n 3, 1) := by decide +kernel
theorem d_Rp_note_12 : decode prog_7_method_3_code 12 = .ok (.putfield 55, 3) := by decide +kernel
theorem d_Rp_note_15 : decode prog_7_method_3_code 15 = .ok (.return_, 1) := by decide +kernel
theorem d_Rp_addOutput_0 : decode prog_7_method_4_code 0 = .ok (.aload_n 0, 1) := by decide +kernel
theorem d_Rp_addOutput_1 : decode prog_7_method_4_code 1 = .ok (.getfield 24, 3) := by decide +kernel
theorem d_Rp_addOutput_4 : decode prog_7_method_4_code 4 = .ok (.bipush 40, 2) := by decide +kernel
theorem d_Rp_addOutput_6 : decode prog_7_method_4_code 6 = .ok (.if_icmp .ge 23, 3) := by decide +kernel
theorem d_Rp_addOutput_9 : decode prog_7_method_4_code 9 = .ok (.aload_n 0, 1) := by decide +kernel
theorem d_Rp_addOutput_10 : decode prog_7_method_4_code 10 = .ok (.getfield 11, 3) := by decide +kernel
theorem d_Rp_addOutput_13 : decode prog_7_method_4_code 13 = .ok (.aload_n 0, 1) := by decide +kernel
theorem d_Rp_addOutput_14 : decode prog_7_method_4_code 14 = .ok (.getfield 24, 3) := by decide +kernel
theorem d_Rp_addOutput_17 : decode prog_7_method_4_code 17 = .ok (.iload_n 1, 1) := by decide +kernel
theorem d_Rp_addOutput_18 : decode prog_7_method_4_code 18 = .ok (.iastore, 1) := by decide +kernel
theorem d_Rp_addOutput_19 : decode prog_7_method_4_code 19 = .ok (.aload_n 0, 1) := by decide +kernel
theorem d_Rp_addOutput_20 : decode prog_7_method_4_code 20 = .ok (.dup, 1) := by decide +kernel
theorem d_Rp_addOutput_21 : decode prog_7_method_4_code 21 = .ok (.getfield 24, 3) := by decide +kernel
theorem d_Rp_addOutput_24 : decode prog_7_method_4_code 24 = .ok (.iconst 1, 1) := by decide +kernel
theorem d_Rp_addOutput_25 : decode prog_7_method_4_code 25 = .ok (.iadd, 1) := by decide +kernel
theorem d_Rp_addOutput_26 : decode prog_7_method_4_code 26 = .ok (.putfield 24, 3) := by decide +kernel
theorem d_Rp_addOutput_29 : decode prog_7_method_4_code 29 = .ok (.return_, 1) := by decide +kernel
theorem d_Rp_addRule_0 : decode prog_7_method_5_code 0 = .ok (.aload_n 0, 1) := by decide +kernel
theorem d_Rp_addRule_1 : decode prog_7_method_5_code 1 = .ok (.getfield 28, 3) := by decide +kernel
theorem d_Rp_addRule_4 : decode prog_7_method_5_code 4 = .ok (.bipush 8, 2) := by decide +kernel
theorem d_Rp_addRule_6 : decode prog_7_method_5_code 6 = .ok (.if_icmp .ge 23, 3) := by decide +kernel
theorem d_Rp_addRule_9 : decode prog_7_method_5_code 9 = .ok (.aload_n 0, 1) := by decide +kernel
theorem d_Rp_addRule_10 : decode prog_7_method_5_code 10 = .ok (.getfield 17, 3) := by decide +kernel
theorem d_Rp_addRule_13 : decode prog_7_method_5_code 13 = .ok (.aload_n 0, 1) := by decide +kernel
theorem d_Rp_addRule_14 : decode prog_7_method_5_code 14 = .ok (.getfield 28, 3) := by decide +kernel
theorem d_Rp_addRule_17 : decode prog_7_method_5_code 17 = .ok (.aload_n 1, 1) := by decide +kernel
theorem d_Rp_addRule_18 : decode prog_7_method_5_code 18 = .ok (.aastore, 1) := by decide +kernel
theorem d_Rp_addRule_19 : decode prog_7_method_5_code 19 = .ok (.aload_n 0, 1) := by decide +kernel
theorem d_Rp_addRule_20 : decode prog_7_method_5_code 20 = .ok (.dup, 1) := by decide +kernel
theorem d_Rp_addRule_21 : decode prog_7_method_5_code 21 = .ok (.getfield 28, 3) := by decide +kernel
theorem d_Rp_addRule_24 : decode prog_7_method_5_code 24 = .ok (.iconst 1, 1) := by decide +kernel
theorem d_Rp_addRule_25 : decode prog_7_method_5_code 25 = .ok (.iadd, 1) := by decide +kernel
theorem d_Rp_addRule_26 : decode prog_7_method_5_code 26 = .ok (.putfield 28, 3) := by decide +kernel
theorem d_Rp_addRule_29 : decode prog_7_method_5_code 29 = .ok (.return_, 1) := by decide +kernel
theorem d_Rp_addClosing_0 : decode prog_7_method_6_code 0 = .ok (.aload_n 0, 1) := by decide +kernel
theorem d_Rp_addClosing_1 : decode prog_7_method_6_code 1 = .ok (.getfield 31, 3) := by decide +kernel
theorem d_Rp_addClosing_4 : decode prog_7_method_6_code 4 = .ok (.bipush 20, 2) := by decide +kernel
theorem d_Rp_addClosing_6 : decode prog_7_method_6_code 6 = .ok (.if_icmp .ge 23, 3) := by decide +kernel
theorem d_Rp_addClosing_9 : decode prog_7_method_6_code 9 = .ok (.aload_n 0, 1) := by decide +kernel
theorem d_Rp_addClosing_10 : decode prog_7_method_6_code 10 = .ok (.getfield 21, 3) := by decide +kernel
theorem d_Rp_addClosing_13 : decode prog_7_method_6_code 13 = .ok (.aload_n 0, 1) := by decide +kernel
theorem d_Rp_addClosing_14 : decode prog_7_method_6_code 14 = .ok (.getfield 31, 3) := by decide +kernel
theorem d_Rp_addClosing_17 : decode prog_7_method_6_code 17 = .ok (.iload_n 1, 1) := by decide +kernel
theorem d_Rp_addClosing_18 : decode prog_7_method_6_code 18 = .ok (.iastore, 1) := by decide +kernel
theorem d_Rp_addClosing_19 : decode prog_7_method_6_code 19 = .ok (.aload_n 0, 1) := by decide +kernel
theorem d_Rp_addClosing_20 : decode prog_7_method_6_code 20 = .ok (.dup, 1) := by decide +kernel
theorem d_Rp_addClosing_21 : decode prog_7_method_6_code 21 = .ok (.getfield 31, 3) := by decide +kernel
theorem d_Rp_addClosing_24 : decode prog_7_method_6_code 24 = .ok (.iconst 1, 1) := by decide +kernel
theorem d_Rp_addClosing_25 : decode prog_7_method_6_code 25 = .ok (.iadd, 1) := by decide +kernel
theorem d_Rp_addClosing_26 : decode prog_7_method_6_code 26 = .ok (.putfield 31, 3) := by decide +kernel
theorem d_Rp_addClosing_29 : decode prog_7_method_6_code 29 = .ok (.return_, 1) := by decide +kernel
