theorem d_Rp_foundAt_0 : decode prog_7_method_7_code 0 = .ok (.iconst 0, 1) := by decide +kernel
theorem d_Rp_foundAt_1 : decode prog_7_method_7_code 1 = .ok (.istore_n 2, 1) := by decide +kernel
theorem d_Rp_foundAt_2 : decode prog_7_method_7_code 2 = .ok (.iconst 0, 1) := by decide +kernel
theorem d_Rp_foundAt_3 : decode prog_7_method_7_code 3 = .ok (.istore_n 3, 1) := by decide +kernel
theorem d_Rp_foundAt_4 : decode prog_7_method_7_code 4 = .ok (.iload_n 3, 1) := by decide +kernel
theorem d_Rp_foundAt_5 : decode prog_7_method_7_code 5 = .ok (.bipush 12, 2) := by decide +kernel
theorem d_Rp_foundAt_7 : decode prog_7_method_7_code 7 = .ok (.if_icmp .ge 31, 3) := by decide +kernel
theorem d_Rp_foundAt_10 : decode prog_7_method_7_code 10 = .ok (.aload_n 0, 1) := by decide +kernel
theorem d_Rp_foundAt_11 : decode prog_7_method_7_code 11 = .ok (.getfield 34, 3) := by decide +kernel
theorem d_Rp_foundAt_14 : decode prog_7_method_7_code 14 = .ok (.iload_n 3, 1) := by decide +kernel
theorem d_Rp_foundAt_15 : decode prog_7_method_7_code 15 = .ok (.ishr, 1) := by decide +kernel
theorem d_Rp_foundAt_16 : decode prog_7_method_7_code 16 = .ok (.iconst 1, 1) := by decide +kernel
theorem d_Rp_foundAt_17 : decode prog_7_method_7_code 17 = .ok (.iand, 1) := by decide +kernel
theorem d_Rp_foundAt_18 : decode prog_7_method_7_code 18 = .ok (.iconst 1, 1) := by decide +kernel
theorem d_Rp_foundAt_19 : decode prog_7_method_7_code 19 = .ok (.if_icmp .ne 13, 3) := by decide +kernel
theorem d_Rp_foundAt_22 : decode prog_7_method_7_code 22 = .ok (.iload_n 2, 1) := by decide +kernel
theorem d_Rp_foundAt_23 : decode prog_7_method_7_code 23 = .ok (.iload_n 1, 1) := by decide +kernel
theorem d_Rp_foundAt_24 : decode prog_7_method_7_code 24 = .ok (.if_icmp .ne 5, 3) := by decide +kernel
theorem d_Rp_foundAt_27 : decode prog_7_method_7_code 27 = .ok (.iload_n 3, 1) := by decide +kernel
theorem d_Rp_foundAt_28 : decode prog_7_method_7_code 28 = .ok (.ireturn, 1) := by decide +kernel
theorem d_Rp_foundAt_29 : decode prog_7_method_7_code 29 = .ok (.iinc 2 1, 3) := by decide +kernel
theorem d_Rp_foundAt_32 : decode prog_7_method_7_code 32 = .ok (.iinc 3 1, 3) := by decide +kernel
theorem d_Rp_foundAt_35 : decode prog_7_method_7_code 35 = .ok (.goto (-31), 3) := by decide +kernel
theorem d_Rp_foundAt_38 : decode prog_7_method_7_code 38 = .ok (.iconst (-1), 1) := by decide +kernel
theorem d_Rp_foundAt_39 : decode prog_7_method_7_code 39 = .ok (.ireturn, 1) := by decide +kernel
theorem d_Rd_init_0 : decode prog_5_method_1_code 0 = .ok (.aload_n 0, 1) := by decide +kernel
theorem d_Rd_init_1 : decode prog_5_method_1_code 1 = .ok (.invokespecial 3, 3) := by decide +kernel
theorem d_Rd_init_4 : decode prog_5_method_1_code 4 = .ok (.aload_n 0, 1) := by decide +kernel
theorem d_Rd_init_5 : decode prog_5_method_1_code 5 = .ok (.iconst 0, 1) := by decide +kernel
theorem d_Rd_init_6 : decode prog_5_method_1_code 6 = .ok (.newarray .char, 2) := by decide +kernel
theorem d_Rd_init_8 : decode prog_5_method_1_code 8 = .ok (.putfield 9, 3) := by decide +kernel
theorem d_Rd_init_11 : decode prog_5_method_1_code 11 = .ok (.aload_n 0, 1) := by decide +kernel
theorem d_Rd_init_12 : decode prog_5_method_1_code 12 = .ok (.iconst 0, 1) := by decide +kernel
theorem d_Rd_init_13 : decode prog_5_method_1_code 13 = .ok (.anewarray 15, 3) := by decide +kernel
theorem d_Rd_init_16 : decode prog_5_method_1_code 16 = .ok (.putfield 17, 3) := by decide +kernel
theorem d_Rd_init_19 : decode prog_5_method_1_code 19 = .ok (.aload_n 0, 1) := by decide +kernel
theorem d_Rd_init_20 : decode prog_5_method_1_code 20 = .ok (.sipush 400, 3) := by decide +kernel
theorem d_Rd_init_23 : decode prog_5_method_1_code 23 = .ok (.newarray .int, 2) := by decide +kernel
theorem d_Rd_init_25 : decode prog_5_method_1_code 25 = .ok (.putfield 21, 3) := by decide +kernel
theorem d_Rd_init_28 : decode prog_5_method_1_code 28 = .ok (.return_, 1) := by decide +kernel
theorem d_Rd_scriptOf_0 : decode prog_5_method_2_code 0 = .ok (.aload_n 0, 1) := by decide +kernel
theorem d_Rd_scriptOf_1 : decode prog_5_method_2_code 1 = .ok (.aload_n 1, 1) := by decide +kernel
theorem d_Rd_scriptOf_2 : decode prog_5_method_2_code 2 = .ok (.putfield 9, 3) := by decide +kernel
theorem d_Rd_scriptOf_5 : decode prog_5_method_2_code 5 = .ok (.aload_n 0, 1) := by decide +kernel
theorem d_Rd_scriptOf_6 : decode prog_5_method_2_code 6 = .ok (.iload_n 2, 1) := by decide +kernel
theorem d_Rd_scriptOf_7 : decode prog_5_method_2_code 7 = .ok (.aload_n 1, 1) := by decide +kernel
theorem d_Rd_scriptOf_8 : decode prog_5_method_2_code 8 = .ok (.arraylength, 1) := by decide +kernel
theorem d_Rd_scriptOf_9 : decode prog_5_method_2_code 9 = .ok (.invokestatic 25, 3) := by decide +kernel
theorem d_Rd_scriptOf_12 : decode prog_5_method_2_code 12 = .ok (.putfield 31, 3) := by decide +kernel
theorem d_Rd_scriptOf_15 : decode prog_5_method_2_code 15 = .ok (.aload_n 0, 1) := by decide +kernel
theorem d_Rd_scriptOf_16 : decode prog_5_method_2_code 16 = .ok (.iconst 0, 1) := by decide +kernel
theorem d_Rd_scriptOf_17 : decode prog_5_method_2_code 17 = .ok (.putfield 35, 3) := by decide +kernel
theorem d_Rd_scriptOf_20 : decode prog_5_method_2_code 20 = .ok (.aload_n 0, 1) := by decide +kernel
theorem d_Rd_scriptOf_21 : decode prog_5_method_2_code 21 = .ok (.iconst 1, 1) := by decide +kernel
theorem d_Rd_scriptOf_22 : decode prog_5_method_2_code 22 = .ok (.putfield 38, 3) := by decide +kernel
theorem d_Rd_scriptOf_25 : decode prog_5_method_2_code 25 = .ok (.aload_n 0, 1) := by decide +kernel
theorem d_Rd_scriptOf_26 : decode prog_5_method_2_code 26 = .ok (.iconst 0, 1) := by decide +kernel
theorem d_Rd_scriptOf_27 : decode prog_5_method_2_code 27 = .ok (.putfield 41, 3) := by decide +kernel
theorem d_Rd_scriptOf_30 : decode prog_5_method_2_code 30 = .ok (.aload_n 0, 1) := by decide +kernel
theorem d_Rd_scriptOf_31 : decode prog_5_method_2_code 31 = .ok (.bipush 26, 2) := by decide +kernel
theorem d_Rd_scriptOf_33 : decode prog_5_method_2_code 33 = .ok (.anewarray 15, 3) := by decide +kernel
theorem d_Rd_scriptOf_36 : decode prog_5_method_2_code 36 = .ok (.putfield 17, 3) := by decide +kernel
theorem d_Rd_scriptOf_39 : decode prog_5_method_2_code 39 = .ok (.aload_n 0, 1) := by decide +kernel
theorem d_Rd_scriptOf_40 : decode prog_5_method_2_code 40 = .ok (.iconst 0, 1) := by decide +kernel
theorem d_Rd_scriptOf_41 : decode prog_5_method_2_code 41 = .ok (.iconst 0, 1) := by decide +kernel
theorem d_Rd_scriptOf_42 : decode prog_5_method_2_code 42 = .ok (.invokevirtual 46, 3) := by decide +kernel
theorem d_Rd_scriptOf_45 : decode prog_5_method_2_code 45 = .ok (.astore_n 3, 1) := by decide +kernel
theorem d_Rd_scriptOf_46 : decode prog_5_method_2_code 46 = .ok (.aload_n 3, 1) := by decide +kernel
theorem d_Rd_scriptOf_47 : decode prog_5_method_2_code 47 = .ok (.ifnonnull 7, 3) := by decide +kernel
theorem d_Rd_scriptOf_50 : decode prog_5_method_2_code 50 = .ok (.aconst_null, 1) := by decide +kernel
theorem d_Rd_scriptOf_51 : decode prog_5_method_2_code 51 = .ok (.goto 19, 3) := by decide +kernel
theorem d_Rd_scriptOf_54 : decode prog_5_method_2_code 54 = .ok (.new 44, 3) := by decide +kernel
theorem d_Rd_scriptOf_57 : decode prog_5_method_2_code 57 = .ok (.dup, 1) := by decide +kernel
theorem d_Rd_scriptOf_58 : decode prog_5_method_2_code 58 = .ok (.aload_n 3, 1) := by decide +kernel
theorem d_Rd_scriptOf_59 : decode prog_5_method_2_code 59 = .ok (.aload_n 0, 1) := by decide +kernel
theorem d_Rd_scriptOf_60 : decode prog_5_method_2_code 60 = .ok (.getfield 17, 3) := by decide +kernel
theorem d_Rd_scriptOf_63 : decode prog_5_method_2_code 63 = .ok (.aload_n 0, 1) := by decide +kernel
theorem d_Rd_scriptOf_64 : decode prog_5_method_2_code 64 = .ok (.getfield 41, 3) := by decide +kernel
theorem d_Rd_scriptOf_67 : decode prog_5_method_2_code 67 = .ok (.invokespecial 50, 3) := by decide +kernel
theorem d_Rd_scriptOf_70 : decode prog_5_method_2_code 70 = .ok (.areturn, 1) := by decide +kernel
theorem d_Rd_peek_0 : decode prog_5_method_3_code 0 = .ok (.aload_n 0, 1) := by decide +kernel
theorem d_Rd_peek_1 : decode prog_5_method_3_code 1 = .ok (.getfield 35, 3) := by decide +kernel
theorem d_Rd_peek_4 : decode prog_5_method_3_code 4 = .ok (.aload_n 0, 1) := by decide +kernel
theorem d_Rd_peek_5 : decode prog_5_method_3_code 5 = .ok (.getfield 31, 3) := by decide +kernel
theorem d_Rd_peek_8 : decode prog_5_method_3_code 8 = .ok (.if_icmp .ge 15, 3) := by decide +kernel
theorem d_Rd_peek_11 : decode prog_5_method_3_code 11 = .ok (.aload_n 0, 1) := by decide +kernel
theorem d_Rd_peek_12 : decode prog_5_method_3_code 12 = .ok (.getfield 9, 3) := by decide +kernel
theorem d_Rd_peek_15 : decode prog_5_method_3_code 15 = .ok (.aload_n 0, 1) := by decide +kernel
theorem d_Rd_peek_16 : decode prog_5_method_3_code 16 = .ok (.getfield 35, 3) := by decide +kernel
theorem d_Rd_peek_19 : decode prog_5_method_3_code 19 = .ok (.caload, 1) := by decide +kernel
theorem d_Rd_peek_20 : decode prog_5_method_3_code 20 = .ok (.goto 4, 3) := by decide +kernel
theorem d_Rd_peek_23 : decode prog_5_method_3_code 23 = .ok (.iconst 0, 1) := by decide +kernel
theorem d_Rd_peek_24 : decode prog_5_method_3_code 24 = .ok (.ireturn, 1) := by decide +kernel
theorem d_Rd_take_0 : decode prog_5_method_4_code 0 = .ok (.aload_n 0, 1) := by decide +kernel
theorem d_Rd_take_1 : decode prog_5_method_4_code 1 = .ok (.getfield 35, 3) := by decide +kernel
theorem d_Rd_take_4 : decode prog_5_method_4_code 4 = .ok (.aload_n 0, 1) := by decide +kernel
theorem d_Rd_take_5 : decode prog_5_method_4_code 5 = .ok (.getfield 31, 3) := by decide +kernel
theorem d_Rd_take_8 : decode prog_5_method_4_code 8 = .ok (.if_icmp .ge 16, 3) := by decide +kernel
theorem d_Rd_take_11 : decode prog_5_method_4_code 11 = .ok (.aload_n 0, 1) := by decide +kernel
theorem d_Rd_take_12 : decode prog_5_method_4_code 12 = .ok (.getfield 9, 3) := by decide +kernel
theorem d_Rd_take_15 : decode prog_5_method_4_code 15 = .ok (.aload_n 0, 1) := by decide +kernel
theorem d_Rd_take_16 : decode prog_5_method_4_code 16 = .ok (.getfield 35, 3) := by decide +kernel
theorem d_Rd_take_19 : decode prog_5_method_4_code 19 = .ok (.caload, 1) := by decide +kernel
theorem d_Rd_take_20 : decode prog_5_method_4_code 20 = .ok (.iload_n 1, 1) := by decide +kernel
theorem d_Rd_take_21 : decode prog_5_method_4_code 21 = .ok (.if_icmp .eq 5, 3) := by decide +kernel
theorem d_Rd_take_24 : decode prog_5_method_4_code 24 = .ok (.iconst 0, 1) := by decide +kernel
theorem d_Rd_take_25 : decode prog_5_method_4_code 25 = .ok (.ireturn, 1) := by decide +kernel
theorem d_Rd_take_26 : decode prog_5_method_4_code 26 = .ok (.aload_n 0, 1) := by decide +kernel
theorem d_Rd_take_27 : decode prog_5_method_4_code 27 = .ok (.dup, 1) := by decide +kernel
theorem d_Rd_take_28 : decode prog_5_method_4_code 28 = .ok (.getfield 35, 3) := by decide +kernel
theorem d_Rd_take_31 : decode prog_5_method_4_code 31 = .ok (.iconst 1, 1) := by decide +kernel
theorem d_Rd_take_32 : decode prog_5_method_4_code 32 = .ok (.iadd, 1) := by decide +kernel
theorem d_Rd_take_33 : decode prog_5_method_4_code 33 = .ok (.putfield 35, 3) := by decide +kernel
theorem d_Rd_take_36 : decode prog_5_method_4_code 36 = .ok (.iconst 1, 1) := by decide +kernel
theorem d_Rd_take_37 : decode prog_5_method_4_code 37 = .ok (.ireturn, 1) := by decide +kernel
theorem d_Rd_skipLineFeeds_0 : decode prog_5_method_5_code 0 = .ok (.aload_n 0, 1) := by decide +kernel
theorem d_Rd_skipLineFeeds_1 : decode prog_5_method_5_code 1 = .ok (.getfield 35, 3) := by decide +kernel
theorem d_Rd_skipLineFeeds_4 : decode prog_5_method_5_code 4 = .ok (.aload_n 0, 1) := by decide +kernel
theorem d_Rd_skipLineFeeds_5 : decode prog_5_method_5_code 5 = .ok (.getfield 31, 3) := by decide +kernel
theorem d_Rd_skipLineFeeds_8 : decode prog_5_method_5_code 8 = .ok (.if_icmp .ge 40, 3) := by decide +kernel
theorem d_Rd_skipLineFeeds_11 : decode prog_5_method_5_code 11 = .ok (.aload_n 0, 1) := by decide +kernel
theorem d_Rd_skipLineFeeds_12 : decode prog_5_method_5_code 12 = .ok (.getfield 9, 3) := by decide +kernel
theorem d_Rd_skipLineFeeds_15 : decode prog_5_method_5_code 15 = .ok (.aload_n 0, 1) := by decide +kernel
theorem d_Rd_skipLineFeeds_16 : decode prog_5_method_5_code 16 = .ok (.getfield 35, 3) := by decide +kernel
theorem d_Rd_skipLineFeeds_19 : decode prog_5_method_5_code 19 = .ok (.caload, 1) := by decide +kernel
theorem d_Rd_skipLineFeeds_20 : decode prog_5_method_5_code 20 = .ok (.bipush 10, 2) := by decide +kernel
theorem d_Rd_skipLineFeeds_22 : decode prog_5_method_5_code 22 = .ok (.if_icmp .ne 26, 3) := by decide +kernel
theorem d_Rd_skipLineFeeds_25 : decode prog_5_method_5_code 25 = .ok (.aload_n 0, 1) := by decide +kernel
theorem d_Rd_skipLineFeeds_26 : decode prog_5_method_5_code 26 = .ok (.dup, 1) := by decide +kernel
theorem d_Rd_skipLineFeeds_27 : decode prog_5_method_5_code 27 = .ok (.getfield 35, 3) := by decide +kernel
theorem d_Rd_skipLineFeeds_30 : decode prog_5_method_5_code 30 = .ok (.iconst 1, 1) := by decide +kernel
theorem d_Rd_skipLineFeeds_31 : decode prog_5_method_5_code 31 = .ok (.iadd, 1) := by decide +kernel
theorem d_Rd_skipLineFeeds_32 : decode prog_5_method_5_code 32 = .ok (.putfield 35, 3) := by decide +kernel
theorem d_Rd_skipLineFeeds_35 : decode prog_5_method_5_code 35 = .ok (.aload_n 0, 1) := by decide +kernel
theorem d_Rd_skipLineFeeds_36 : decode prog_5_method_5_code 36 = .ok (.dup, 1) := by decide +kernel
theorem d_Rd_skipLineFeeds_37 : decode prog_5_method_5_code 37 = .ok (.getfield 38, 3) := by decide +kernel
theorem d_Rd_skipLineFeeds_40 : decode prog_5_method_5_code 40 = .ok (.iconst 1, 1) := by decide +kernel
theorem d_Rd_skipLineFeeds_41 : decode prog_5_method_5_code 41 = .ok (.iadd, 1) := by decide +kernel
theorem d_Rd_skipLineFeeds_42 : decode prog_5_method_5_code 42 = .ok (.putfield 38, 3) := by decide +kernel
theorem d_Rd_skipLineFeeds_45 : decode prog_5_method_5_code 45 = .ok (.goto (-45), 3) := by decide +kernel
theorem d_Rd_skipLineFeeds_48 : decode prog_5_method_5_code 48 = .ok (.return_, 1) := by decide +kernel
theorem d_Rd_block_0 : decode prog_5_method_6_code 0 = .ok (.new 53, 3) := by decide +kernel
theorem d_Rd_block_3 : decode prog_5_method_6_code 3 = .ok (.dup, 1) := by decide +kernel
theorem d_Rd_block_4 : decode prog_5_method_6_code 4 = .ok (.invokespecial 55, 3) := by decide +kernel
theorem d_Rd_block_7 : decode prog_5_method_6_code 7 = .ok (.astore_n 3, 1) := by decide +kernel
theorem d_Rd_block_8 : decode prog_5_method_6_code 8 = .ok (.iconst 0, 1) := by decide +kernel
theorem d_Rd_block_9 : decode prog_5_method_6_code 9 = .ok (.istore 4, 2) := by decide +kernel
theorem d_Rd_block_11 : decode prog_5_method_6_code 11 = .ok (.iload 4, 2) := by decide +kernel
theorem d_Rd_block_13 : decode prog_5_method_6_code 13 = .ok (.bipush 100, 2) := by decide +kernel
theorem d_Rd_block_15 : decode prog_5_method_6_code 15 = .ok (.if_icmp .gt 43, 3) := by decide +kernel
theorem d_Rd_block_18 : decode prog_5_method_6_code 18 = .ok (.aload_n 0, 1) := by decide +kernel
theorem d_Rd_block_19 : decode prog_5_method_6_code 19 = .ok (.invokevirtual 56, 3) := by decide +kernel
theorem d_Rd_block_22 : decode prog_5_method_6_code 22 = .ok (.aload_n 0, 1) := by decide +kernel
theorem d_Rd_block_23 : decode prog_5_method_6_code 23 = .ok (.invokevirtual 59, 3) := by decide +kernel
theorem d_Rd_block_26 : decode prog_5_method_6_code 26 = .ok (.iload_n 2, 1) := by decide +kernel
theorem d_Rd_block_27 : decode prog_5_method_6_code 27 = .ok (.if_icmp .ne 5, 3) := by decide +kernel
theorem d_Rd_block_30 : decode prog_5_method_6_code 30 = .ok (.aload_n 3, 1) := by decide +kernel
theorem d_Rd_block_31 : decode prog_5_method_6_code 31 = .ok (.areturn, 1) := by decide +kernel
theorem d_Rd_block_32 : decode prog_5_method_6_code 32 = .ok (.aload_n 0, 1) := by decide +kernel
theorem d_Rd_block_33 : decode prog_5_method_6_code 33 = .ok (.iload_n 1, 1) := by decide +kernel
theorem d_Rd_block_34 : decode prog_5_method_6_code 34 = .ok (.invokevirtual 63, 3) := by decide +kernel
theorem d_Rd_block_37 : decode prog_5_method_6_code 37 = .ok (.astore 5, 2) := by decide +kernel
theorem d_Rd_block_39 : decode prog_5_method_6_code 39 = .ok (.aload 5, 2) := by decide +kernel
theorem d_Rd_block_41 : decode prog_5_method_6_code 41 = .ok (.ifnonnull 5, 3) := by decide +kernel
theorem d_Rd_block_44 : decode prog_5_method_6_code 44 = .ok (.aconst_null, 1) := by decide +kernel
theorem d_Rd_block_45 : decode prog_5_method_6_code 45 = .ok (.areturn, 1) := by decide +kernel
theorem d_Rd_block_46 : decode prog_5_method_6_code 46 = .ok (.aload_n 3, 1) := by decide +kernel
theorem d_Rd_block_47 : decode prog_5_method_6_code 47 = .ok (.aload 5, 2) := by decide +kernel
theorem d_Rd_block_49 : decode prog_5_method_6_code 49 = .ok (.invokevirtual 67, 3) := by decide +kernel
theorem d_Rd_block_52 : decode prog_5_method_6_code 52 = .ok (.iinc 4 1, 3) := by decide +kernel
theorem d_Rd_block_55 : decode prog_5_method_6_code 55 = .ok (.goto (-44), 3) := by decide +kernel
theorem d_Rd_block_58 : decode prog_5_method_6_code 58 = .ok (.aconst_null, 1) := by decide +kernel
theorem d_Rd_block_59 : decode prog_5_method_6_code 59 = .ok (.areturn, 1) := by decide +kernel
theorem d_Rd_statement_0 : decode prog_5_method_7_code 0 = .ok (.aload_n 0, 1) := by decide +kernel
theorem d_Rd_statement_1 : decode prog_5_method_7_code 1 = .ok (.invokevirtual 59, 3) := by decide +kernel
theorem d_Rd_statement_4 : decode prog_5_method_7_code 4 = .ok (.istore_n 2, 1) := by decide +kernel
theorem d_Rd_statement_5 : decode prog_5_method_7_code 5 = .ok (.iload_n 2, 1) := by decide +kernel
theorem d_Rd_statement_6 : decode prog_5_method_7_code 6 = .ok (.invokestatic 71, 3) := by decide +kernel
theorem d_Rd_statement_9 : decode prog_5_method_7_code 9 = .ok (.astore_n 3, 1) := by decide +kernel
theorem d_Rd_statement_10 : decode prog_5_method_7_code 10 = .ok (.aload_n 3, 1) := by decide +kernel
theorem d_Rd_statement_11 : decode prog_5_method_7_code 11 = .ok (.invokevirtual 75, 3) := by decide +kernel
theorem d_Rd_statement_14 : decode prog_5_method_7_code 14 = .ok (.ifCond .ne 12, 3) := by decide +kernel
theorem d_Rd_statement_17 : decode prog_5_method_7_code 17 = .ok (.aload_n 0, 1) := by decide +kernel
theorem d_Rd_statement_18 : decode prog_5_method_7_code 18 = .ok (.getfield 41, 3) := by decide +kernel
theorem d_Rd_statement_21 : decode prog_5_method_7_code 21 = .ok (.bipush 100, 2) := by decide +kernel
theorem d_Rd_statement_23 : decode prog_5_method_7_code 23 = .ok (.if_icmp .lt 5, 3) := by decide +kernel
theorem d_Rd_statement_26 : decode prog_5_method_7_code 26 = .ok (.aconst_null, 1) := by decide +kernel
theorem d_Rd_statement_27 : decode prog_5_method_7_code 27 = .ok (.areturn, 1) := by decide +kernel
theorem d_Rd_statement_28 : decode prog_5_method_7_code 28 = .ok (.aload_n 0, 1) := by decide +kernel
theorem d_Rd_statement_29 : decode prog_5_method_7_code 29 = .ok (.iload_n 2, 1) := by decide +kernel
theorem d_Rd_statement_30 : decode prog_5_method_7_code 30 = .ok (.invokevirtual 81, 3) := by decide +kernel
theorem d_Rd_statement_33 : decode prog_5_method_7_code 33 = .ok (.astore 4, 2) := by decide +kernel
theorem d_Rd_statement_35 : decode prog_5_method_7_code 35 = .ok (.aload_n 0, 1) := by decide +kernel
theorem d_Rd_statement_36 : decode prog_5_method_7_code 36 = .ok (.dup, 1) := by decide +kernel
theorem d_Rd_statement_37 : decode prog_5_method_7_code 37 = .ok (.getfield 41, 3) := by decide +kernel
theorem d_Rd_statement_40 : decode prog_5_method_7_code 40 = .ok (.iconst 1, 1) := by decide +kernel
theorem d_Rd_statement_41 : decode prog_5_method_7_code 41 = .ok (.iadd, 1) := by decide +kernel
theorem d_Rd_statement_42 : decode prog_5_method_7_code 42 = .ok (.putfield 41, 3) := by decide +kernel
theorem d_Rd_statement_45 : decode prog_5_method_7_code 45 = .ok (.aload_n 0, 1) := by decide +kernel
theorem d_Rd_statement_46 : decode prog_5_method_7_code 46 = .ok (.dup, 1) := by decide +kernel
theorem d_Rd_statement_47 : decode prog_5_method_7_code 47 = .ok (.getfield 35, 3) := by decide +kernel
theorem d_Rd_statement_50 : decode prog_5_method_7_code 50 = .ok (.iconst 1, 1) := by decide +kernel
theorem d_Rd_statement_51 : decode prog_5_method_7_code 51 = .ok (.iadd, 1) := by decide +kernel
theorem d_Rd_statement_52 : decode prog_5_method_7_code 52 = .ok (.putfield 35, 3) := by decide +kernel
theorem d_Rd_statement_55 : decode prog_5_method_7_code 55 = .ok (.iconst 0, 1) := by decide +kernel
theorem d_Rd_statement_56 : decode prog_5_method_7_code 56 = .ok (.istore 5, 2) := by decide +kernel
theorem d_Rd_statement_58 : decode prog_5_method_7_code 58 = .ok (.iload 5, 2) := by decide +kernel
theorem d_Rd_statement_60 : decode prog_5_method_7_code 60 = .ok (.aload_n 3, 1) := by decide +kernel
theorem d_Rd_statement_61 : decode prog_5_method_7_code 61 = .ok (.invokevirtual 85, 3) := by decide +kernel
theorem d_Rd_statement_64 : decode prog_5_method_7_code 64 = .ok (.if_icmp .ge 27, 3) := by decide +kernel
theorem d_Rd_statement_67 : decode prog_5_method_7_code 67 = .ok (.aload_n 0, 1) := by decide +kernel
theorem d_Rd_statement_68 : decode prog_5_method_7_code 68 = .ok (.aload 4, 2) := by decide +kernel
theorem d_Rd_statement_70 : decode prog_5_method_7_code 70 = .ok (.aload_n 3, 1) := by decide +kernel
theorem d_Rd_statement_71 : decode prog_5_method_7_code 71 = .ok (.iload 5, 2) := by decide +kernel
theorem d_Rd_statement_73 : decode prog_5_method_7_code 73 = .ok (.invokevirtual 88, 3) := by decide +kernel
theorem d_Rd_statement_76 : decode prog_5_method_7_code 76 = .ok (.iload_n 1, 1) := by decide +kernel
theorem d_Rd_statement_77 : decode prog_5_method_7_code 77 = .ok (.invokevirtual 92, 3) := by decide +kernel
theorem d_Rd_statement_80 : decode prog_5_method_7_code 80 = .ok (.ifCond .ne 5, 3) := by decide +kernel
theorem d_Rd_statement_83 : decode prog_5_method_7_code 83 = .ok (.aconst_null, 1) := by decide +kernel
theorem d_Rd_statement_84 : decode prog_5_method_7_code 84 = .ok (.areturn, 1) := by decide +kernel
theorem d_Rd_statement_85 : decode prog_5_method_7_code 85 = .ok (.iinc 5 1, 3) := by decide +kernel
theorem d_Rd_statement_88 : decode prog_5_method_7_code 88 = .ok (.goto (-30), 3) := by decide +kernel
theorem d_Rd_statement_91 : decode prog_5_method_7_code 91 = .ok (.aload 4, 2) := by decide +kernel
theorem d_Rd_statement_93 : decode prog_5_method_7_code 93 = .ok (.areturn, 1) := by decide +kernel
theorem d_Rd_begun_0 : decode prog_5_method_8_code 0 = .ok (.iload_n 1, 1) := by decide +kernel
theorem d_Rd_begun_1 : decode prog_5_method_8_code 1 = .ok (.invokestatic 96, 3) := by decide +kernel
theorem d_Rd_begun_4 : decode prog_5_method_8_code 4 = .ok (.ifCond .eq 25, 3) := by decide +kernel
theorem d_Rd_begun_7 : decode prog_5_method_8_code 7 = .ok (.new 15, 3) := by decide +kernel
theorem d_Rd_begun_10 : decode prog_5_method_8_code 10 = .ok (.dup, 1) := by decide +kernel
theorem d_Rd_begun_11 : decode prog_5_method_8_code 11 = .ok (.bipush 97, 2) := by decide +kernel
theorem d_Rd_begun_13 : decode prog_5_method_8_code 13 = .ok (.iload_n 1, 1) := by decide +kernel
theorem d_Rd_begun_14 : decode prog_5_method_8_code 14 = .ok (.bipush 97, 2) := by decide +kernel
theorem d_Rd_begun_16 : decode prog_5_method_8_code 16 = .ok (.isub, 1) := by decide +kernel
theorem d_Rd_begun_17 : decode prog_5_method_8_code 17 = .ok (.aload_n 0, 1) := by decide +kernel
theorem d_Rd_begun_18 : decode prog_5_method_8_code 18 = .ok (.getfield 35, 3) := by decide +kernel
theorem d_Rd_begun_21 : decode prog_5_method_8_code 21 = .ok (.aload_n 0, 1) := by decide +kernel
theorem d_Rd_begun_22 : decode prog_5_method_8_code 22 = .ok (.getfield 38, 3) := by decide +kernel
theorem d_Rd_begun_25 : decode prog_5_method_8_code 25 = .ok (.invokespecial 100, 3) := by decide +kernel
theorem d_Rd_begun_28 : decode prog_5_method_8_code 28 = .ok (.areturn, 1) := by decide +kernel
theorem d_Rd_begun_29 : decode prog_5_method_8_code 29 = .ok (.iload_n 1, 1) := by decide +kernel
theorem d_Rd_begun_30 : decode prog_5_method_8_code 30 = .ok (.invokestatic 103, 3) := by decide +kernel
theorem d_Rd_begun_33 : decode prog_5_method_8_code 33 = .ok (.ifCond .eq 25, 3) := by decide +kernel
theorem d_Rd_begun_36 : decode prog_5_method_8_code 36 = .ok (.new 15, 3) := by decide +kernel
theorem d_Rd_begun_39 : decode prog_5_method_8_code 39 = .ok (.dup, 1) := by decide +kernel
theorem d_Rd_begun_40 : decode prog_5_method_8_code 40 = .ok (.bipush 65, 2) := by decide +kernel
theorem d_Rd_begun_42 : decode prog_5_method_8_code 42 = .ok (.iload_n 1, 1) := by decide +kernel
theorem d_Rd_begun_43 : decode prog_5_method_8_code 43 = .ok (.bipush 65, 2) := by decide +kernel
theorem d_Rd_begun_45 : decode prog_5_method_8_code 45 = .ok (.isub, 1) := by decide +kernel
theorem d_Rd_begun_46 : decode prog_5_method_8_code 46 = .ok (.aload_n 0, 1) := by decide +kernel
theorem d_Rd_begun_47 : decode prog_5_method_8_code 47 = .ok (.getfield 35, 3) := by decide +kernel
theorem d_Rd_begun_50 : decode prog_5_method_8_code 50 = .ok (.aload_n 0, 1) := by decide +kernel
theorem d_Rd_begun_51 : decode prog_5_method_8_code 51 = .ok (.getfield 38, 3) := by decide +kernel
theorem d_Rd_begun_54 : decode prog_5_method_8_code 54 = .ok (.invokespecial 100, 3) := by decide +kernel
theorem d_Rd_begun_57 : decode prog_5_method_8_code 57 = .ok (.areturn, 1) := by decide +kernel
theorem d_Rd_begun_58 : decode prog_5_method_8_code 58 = .ok (.new 15, 3) := by decide +kernel
theorem d_Rd_begun_61 : decode prog_5_method_8_code 61 = .ok (.dup, 1) := by decide +kernel
theorem d_Rd_begun_62 : decode prog_5_method_8_code 62 = .ok (.iload_n 1, 1) := by decide +kernel
theorem d_Rd_begun_63 : decode prog_5_method_8_code 63 = .ok (.iconst 0, 1) := by decide +kernel
theorem d_Rd_begun_64 : decode prog_5_method_8_code 64 = .ok (.aload_n 0, 1) := by decide +kernel
theorem d_Rd_begun_65 : decode prog_5_method_8_code 65 = .ok (.getfield 35, 3) := by decide +kernel
theorem d_Rd_begun_68 : decode prog_5_method_8_code 68 = .ok (.aload_n 0, 1) := by decide +kernel
theorem d_Rd_begun_69 : decode prog_5_method_8_code 69 = .ok (.getfield 38, 3) := by decide +kernel
theorem d_Rd_begun_72 : decode prog_5_method_8_code 72 = .ok (.invokespecial 100, 3) := by decide +kernel
theorem d_Rd_begun_75 : decode prog_5_method_8_code 75 = .ok (.areturn, 1) := by decide +kernel
theorem d_Rd_shapeOf_0 : decode prog_5_method_9_code 0 = .ok (.iload_n 0, 1) := by decide +kernel
theorem d_Rd_shapeOf_1 : decode prog_5_method_9_code 1 = .ok (.invokestatic 96, 3) := by decide +kernel
theorem d_Rd_shapeOf_4 : decode prog_5_method_9_code 4 = .ok (.ifCond .eq 6, 3) := by decide +kernel
theorem d_Rd_shapeOf_7 : decode prog_5_method_9_code 7 = .ok (.ldc 106, 2) := by decide +kernel
theorem d_Rd_shapeOf_9 : decode prog_5_method_9_code 9 = .ok (.areturn, 1) := by decide +kernel
theorem d_Rd_shapeOf_10 : decode prog_5_method_9_code 10 = .ok (.iload_n 0, 1) := by decide +kernel
theorem d_Rd_shapeOf_11 : decode prog_5_method_9_code 11 = .ok (.invokestatic 103, 3) := by decide +kernel
theorem d_Rd_shapeOf_14 : decode prog_5_method_9_code 14 = .ok (.ifCond .eq 6, 3) := by decide +kernel
theorem d_Rd_shapeOf_17 : decode prog_5_method_9_code 17 = .ok (.ldc 108, 2) := by decide +kernel
theorem d_Rd_shapeOf_19 : decode prog_5_method_9_code 19 = .ok (.areturn, 1) := by decide +kernel
theorem d_Rd_shapeOf_20 : decode prog_5_method_9_code 20 = .ok (.iload_n 0, 1) := by decide +kernel
theorem d_Rd_shapeOf_21 : decode prog_5_method_9_code 21 = .ok (.lookupswitch 139 #[(33, 121), (38, 121), (39, 118), (42, 127), (43, 121), (58, 136), (60, 121), (63, 124), (64, 115), (91, 130), (94, 121), (124, 121), (126, 133)], 115) := by decide +kernel
theorem d_Rd_shapeOf_136 : decode prog_5_method_9_code 136 = .ok (.ldc 110, 2) := by decide +kernel
theorem d_Rd_shapeOf_138 : decode prog_5_method_9_code 138 = .ok (.areturn, 1) := by decide +kernel
theorem d_Rd_shapeOf_139 : decode prog_5_method_9_code 139 = .ok (.ldc 112, 2) := by decide +kernel
theorem d_Rd_shapeOf_141 : decode prog_5_method_9_code 141 = .ok (.areturn, 1) := by decide +kernel
theorem d_Rd_shapeOf_142 : decode prog_5_method_9_code 142 = .ok (.ldc 114, 2) := by decide +kernel
theorem d_Rd_shapeOf_144 : decode prog_5_method_9_code 144 = .ok (.areturn, 1) := by decide +kernel
theorem d_Rd_shapeOf_145 : decode prog_5_method_9_code 145 = .ok (.ldc 116, 2) := by decide +kernel
theorem d_Rd_shapeOf_147 : decode prog_5_method_9_code 147 = .ok (.areturn, 1) := by decide +kernel
theorem d_Rd_shapeOf_148 : decode prog_5_method_9_code 148 = .ok (.ldc 118, 2) := by decide +kernel
theorem d_Rd_shapeOf_150 : decode prog_5_method_9_code 150 = .ok (.areturn, 1) := by decide +kernel
theorem d_Rd_shapeOf_151 : decode prog_5_method_9_code 151 = .ok (.ldc 120, 2) := by decide +kernel
theorem d_Rd_shapeOf_153 : decode prog_5_method_9_code 153 = .ok (.areturn, 1) := by decide +kernel
theorem d_Rd_shapeOf_154 : decode prog_5_method_9_code 154 = .ok (.ldc 122, 2) := by decide +kernel
theorem d_Rd_shapeOf_156 : decode prog_5_method_9_code 156 = .ok (.areturn, 1) := by decide +kernel
theorem d_Rd_shapeOf_157 : decode prog_5_method_9_code 157 = .ok (.ldc 124, 2) := by decide +kernel
theorem d_Rd_shapeOf_159 : decode prog_5_method_9_code 159 = .ok (.areturn, 1) := by decide +kernel
theorem d_Rd_shapeOf_160 : decode prog_5_method_9_code 160 = .ok (.ldc 126, 2) := by decide +kernel
theorem d_Rd_shapeOf_162 : decode prog_5_method_9_code 162 = .ok (.areturn, 1) := by decide +kernel
theorem d_Rd_part_0 : decode prog_5_method_10_code 0 = .ok (.iload_n 2, 1) := by decide +kernel
theorem d_Rd_part_1 : decode prog_5_method_10_code 1 = .ok (.tableswitch 342 65 83 #[91, 211, 237, 182, 136, 204, 342, 342, 342, 342, 342, 342, 342, 342, 263, 342, 342, 342, 308], 91) := by decide +kernel
theorem d_Rd_part_92 : decode prog_5_method_10_code 92 = .ok (.aload_n 0, 1) := by decide +kernel
theorem d_Rd_part_93 : decode prog_5_method_10_code 93 = .ok (.iconst 0, 1) := by decide +kernel
theorem d_Rd_part_94 : decode prog_5_method_10_code 94 = .ok (.putfield 128, 3) := by decide +kernel
theorem d_Rd_part_97 : decode prog_5_method_10_code 97 = .ok (.aload_n 1, 1) := by decide +kernel
theorem d_Rd_part_98 : decode prog_5_method_10_code 98 = .ok (.aload_n 0, 1) := by decide +kernel
theorem d_Rd_part_99 : decode prog_5_method_10_code 99 = .ok (.iconst 0, 1) := by decide +kernel
theorem d_Rd_part_100 : decode prog_5_method_10_code 100 = .ok (.invokevirtual 131, 3) := by decide +kernel
theorem d_Rd_part_103 : decode prog_5_method_10_code 103 = .ok (.ifCond .eq 17, 3) := by decide +kernel
theorem d_Rd_part_106 : decode prog_5_method_10_code 106 = .ok (.aload_n 0, 1) := by decide +kernel
theorem d_Rd_part_107 : decode prog_5_method_10_code 107 = .ok (.getfield 21, 3) := by decide +kernel
theorem d_Rd_part_110 : decode prog_5_method_10_code 110 = .ok (.aload_n 0, 1) := by decide +kernel
theorem d_Rd_part_111 : decode prog_5_method_10_code 111 = .ok (.getfield 128, 3) := by decide +kernel
theorem d_Rd_part_114 : decode prog_5_method_10_code 114 = .ok (.invokestatic 135, 3) := by decide +kernel
theorem d_Rd_part_117 : decode prog_5_method_10_code 117 = .ok (.goto 4, 3) := by decide +kernel
theorem d_Rd_part_120 : decode prog_5_method_10_code 120 = .ok (.aconst_null, 1) := by decide +kernel
theorem d_Rd_part_121 : decode prog_5_method_10_code 121 = .ok (.putfield 141, 3) := by decide +kernel
theorem d_Rd_part_124 : decode prog_5_method_10_code 124 = .ok (.aload_n 1, 1) := by decide +kernel
theorem d_Rd_part_125 : decode prog_5_method_10_code 125 = .ok (.getfield 141, 3) := by decide +kernel
theorem d_Rd_part_128 : decode prog_5_method_10_code 128 = .ok (.ifnull 7, 3) := by decide +kernel
theorem d_Rd_part_131 : decode prog_5_method_10_code 131 = .ok (.iconst 1, 1) := by decide +kernel
theorem d_Rd_part_132 : decode prog_5_method_10_code 132 = .ok (.goto 4, 3) := by decide +kernel
theorem d_Rd_part_135 : decode prog_5_method_10_code 135 = .ok (.iconst 0, 1) := by decide +kernel
theorem d_Rd_part_136 : decode prog_5_method_10_code 136 = .ok (.ireturn, 1) := by decide +kernel
theorem d_Rd_part_137 : decode prog_5_method_10_code 137 = .ok (.aload_n 0, 1) := by decide +kernel
theorem d_Rd_part_138 : decode prog_5_method_10_code 138 = .ok (.iconst 0, 1) := by decide +kernel
theorem d_Rd_part_139 : decode prog_5_method_10_code 139 = .ok (.putfield 128, 3) := by decide +kernel
theorem d_Rd_part_142 : decode prog_5_method_10_code 142 = .ok (.aload_n 1, 1) := by decide +kernel
theorem d_Rd_part_143 : decode prog_5_method_10_code 143 = .ok (.aload_n 0, 1) := by decide +kernel
theorem d_Rd_part_144 : decode prog_5_method_10_code 144 = .ok (.iconst 0, 1) := by decide +kernel
theorem d_Rd_part_145 : decode prog_5_method_10_code 145 = .ok (.iconst 0, 1) := by decide +kernel
theorem d_Rd_part_146 : decode prog_5_method_10_code 146 = .ok (.invokevirtual 144, 3) := by decide +kernel
theorem d_Rd_part_149 : decode prog_5_method_10_code 149 = .ok (.ifCond .eq 17, 3) := by decide +kernel
theorem d_Rd_part_152 : decode prog_5_method_10_code 152 = .ok (.aload_n 0, 1) := by decide +kernel
theorem d_Rd_part_153 : decode prog_5_method_10_code 153 = .ok (.getfield 21, 3) := by decide +kernel
theorem d_Rd_part_156 : decode prog_5_method_10_code 156 = .ok (.aload_n 0, 1) := by decide +kernel
theorem d_Rd_part_157 : decode prog_5_method_10_code 157 = .ok (.getfield 128, 3) := by decide +kernel
theorem d_Rd_part_160 : decode prog_5_method_10_code 160 = .ok (.invokestatic 135, 3) := by decide +kernel
theorem d_Rd_part_163 : decode prog_5_method_10_code 163 = .ok (.goto 4, 3) := by decide +kernel
theorem d_Rd_part_166 : decode prog_5_method_10_code 166 = .ok (.aconst_null, 1) := by decide +kernel
theorem d_Rd_part_167 : decode prog_5_method_10_code 167 = .ok (.putfield 148, 3) := by decide +kernel
theorem d_Rd_part_170 : decode prog_5_method_10_code 170 = .ok (.aload_n 1, 1) := by decide +kernel
theorem d_Rd_part_171 : decode prog_5_method_10_code 171 = .ok (.getfield 148, 3) := by decide +kernel
theorem d_Rd_part_174 : decode prog_5_method_10_code 174 = .ok (.ifnull 7, 3) := by decide +kernel
theorem d_Rd_part_177 : decode prog_5_method_10_code 177 = .ok (.iconst 1, 1) := by decide +kernel
theorem d_Rd_part_178 : decode prog_5_method_10_code 178 = .ok (.goto 4, 3) := by decide +kernel
theorem d_Rd_part_181 : decode prog_5_method_10_code 181 = .ok (.iconst 0, 1) := by decide +kernel
theorem d_Rd_part_182 : decode prog_5_method_10_code 182 = .ok (.ireturn, 1) := by decide +kernel
theorem d_Rd_part_183 : decode prog_5_method_10_code 183 = .ok (.aload_n 1, 1) := by decide +kernel
theorem d_Rd_part_184 : decode prog_5_method_10_code 184 = .ok (.aload_n 0, 1) := by decide +kernel
theorem d_Rd_part_185 : decode prog_5_method_10_code 185 = .ok (.invokevirtual 151, 3) := by decide +kernel
theorem d_Rd_part_188 : decode prog_5_method_10_code 188 = .ok (.putfield 154, 3) := by decide +kernel
theorem d_Rd_part_191 : decode prog_5_method_10_code 191 = .ok (.aload_n 1, 1) := by decide +kernel
theorem d_Rd_part_192 : decode prog_5_method_10_code 192 = .ok (.getfield 154, 3) := by decide +kernel
theorem d_Rd_part_195 : decode prog_5_method_10_code 195 = .ok (.iconst (-1), 1) := by decide +kernel
theorem d_Rd_part_196 : decode prog_5_method_10_code 196 = .ok (.if_icmp .eq 7, 3) := by decide +kernel
theorem d_Rd_part_199 : decode prog_5_method_10_code 199 = .ok (.iconst 1, 1) := by decide +kernel
theorem d_Rd_part_200 : decode prog_5_method_10_code 200 = .ok (.goto 4, 3) := by decide +kernel
theorem d_Rd_part_203 : decode prog_5_method_10_code 203 = .ok (.iconst 0, 1) := by decide +kernel
theorem d_Rd_part_204 : decode prog_5_method_10_code 204 = .ok (.ireturn, 1) := by decide +kernel
theorem d_Rd_part_205 : decode prog_5_method_10_code 205 = .ok (.aload_n 0, 1) := by decide +kernel
theorem d_Rd_part_206 : decode prog_5_method_10_code 206 = .ok (.aload_n 1, 1) := by decide +kernel
theorem d_Rd_part_207 : decode prog_5_method_10_code 207 = .ok (.iload_n 3, 1) := by decide +kernel
theorem d_Rd_part_208 : decode prog_5_method_10_code 208 = .ok (.invokevirtual 157, 3) := by decide +kernel
theorem d_Rd_part_211 : decode prog_5_method_10_code 211 = .ok (.ireturn, 1) := by decide +kernel
theorem d_Rd_part_212 : decode prog_5_method_10_code 212 = .ok (.aload_n 1, 1) := by decide +kernel
theorem d_Rd_part_213 : decode prog_5_method_10_code 213 = .ok (.aload_n 0, 1) := by decide +kernel
theorem d_Rd_part_214 : decode prog_5_method_10_code 214 = .ok (.bipush 123, 2) := by decide +kernel
theorem d_Rd_part_216 : decode prog_5_method_10_code 216 = .ok (.bipush 125, 2) := by decide +kernel
theorem d_Rd_part_218 : decode prog_5_method_10_code 218 = .ok (.iload_n 3, 1) := by decide +kernel
theorem d_Rd_part_219 : decode prog_5_method_10_code 219 = .ok (.invokevirtual 161, 3) := by decide +kernel
theorem d_Rd_part_222 : decode prog_5_method_10_code 222 = .ok (.putfield 165, 3) := by decide +kernel
theorem d_Rd_part_225 : decode prog_5_method_10_code 225 = .ok (.aload_n 1, 1) := by decide +kernel
theorem d_Rd_part_226 : decode prog_5_method_10_code 226 = .ok (.getfield 165, 3) := by decide +kernel
theorem d_Rd_part_229 : decode prog_5_method_10_code 229 = .ok (.ifnull 7, 3) := by decide +kernel
theorem d_Rd_part_232 : decode prog_5_method_10_code 232 = .ok (.iconst 1, 1) := by decide +kernel
theorem d_Rd_part_233 : decode prog_5_method_10_code 233 = .ok (.goto 4, 3) := by decide +kernel
theorem d_Rd_part_236 : decode prog_5_method_10_code 236 = .ok (.iconst 0, 1) := by decide +kernel
theorem d_Rd_part_237 : decode prog_5_method_10_code 237 = .ok (.ireturn, 1) := by decide +kernel
theorem d_Rd_part_238 : decode prog_5_method_10_code 238 = .ok (.aload_n 1, 1) := by decide +kernel
theorem d_Rd_part_239 : decode prog_5_method_10_code 239 = .ok (.aload_n 0, 1) := by decide +kernel
theorem d_Rd_part_240 : decode prog_5_method_10_code 240 = .ok (.bipush 123, 2) := by decide +kernel
theorem d_Rd_part_242 : decode prog_5_method_10_code 242 = .ok (.bipush 125, 2) := by decide +kernel
theorem d_Rd_part_244 : decode prog_5_method_10_code 244 = .ok (.iload_n 3, 1) := by decide +kernel
theorem d_Rd_part_245 : decode prog_5_method_10_code 245 = .ok (.invokevirtual 161, 3) := by decide +kernel
theorem d_Rd_part_248 : decode prog_5_method_10_code 248 = .ok (.putfield 169, 3) := by decide +kernel
theorem d_Rd_part_251 : decode prog_5_method_10_code 251 = .ok (.aload_n 1, 1) := by decide +kernel
theorem d_Rd_part_252 : decode prog_5_method_10_code 252 = .ok (.getfield 169, 3) := by decide +kernel
theorem d_Rd_part_255 : decode prog_5_method_10_code 255 = .ok (.ifnull 7, 3) := by decide +kernel
theorem d_Rd_part_258 : decode prog_5_method_10_code 258 = .ok (.iconst 1, 1) := by decide +kernel
theorem d_Rd_part_259 : decode prog_5_method_10_code 259 = .ok (.goto 4, 3) := by decide +kernel
theorem d_Rd_part_262 : decode prog_5_method_10_code 262 = .ok (.iconst 0, 1) := by decide +kernel
theorem d_Rd_part_263 : decode prog_5_method_10_code 263 = .ok (.ireturn, 1) := by decide +kernel
theorem d_Rd_part_264 : decode prog_5_method_10_code 264 = .ok (.aload_n 1, 1) := by decide +kernel
theorem d_Rd_part_265 : decode prog_5_method_10_code 265 = .ok (.aload_n 0, 1) := by decide +kernel
theorem d_Rd_part_266 : decode prog_5_method_10_code 266 = .ok (.invokevirtual 59, 3) := by decide +kernel
theorem d_Rd_part_269 : decode prog_5_method_10_code 269 = .ok (.bipush 123, 2) := by decide +kernel
theorem d_Rd_part_271 : decode prog_5_method_10_code 271 = .ok (.if_icmp .ne 15, 3) := by decide +kernel
theorem d_Rd_part_274 : decode prog_5_method_10_code 274 = .ok (.aload_n 0, 1) := by decide +kernel
theorem d_Rd_part_275 : decode prog_5_method_10_code 275 = .ok (.bipush 123, 2) := by decide +kernel
theorem d_Rd_part_277 : decode prog_5_method_10_code 277 = .ok (.bipush 125, 2) := by decide +kernel
theorem d_Rd_part_279 : decode prog_5_method_10_code 279 = .ok (.iload_n 3, 1) := by decide +kernel
theorem d_Rd_part_280 : decode prog_5_method_10_code 280 = .ok (.invokevirtual 161, 3) := by decide +kernel
theorem d_Rd_part_283 : decode prog_5_method_10_code 283 = .ok (.goto 10, 3) := by decide +kernel
theorem d_Rd_part_286 : decode prog_5_method_10_code 286 = .ok (.new 53, 3) := by decide +kernel
theorem d_Rd_part_289 : decode prog_5_method_10_code 289 = .ok (.dup, 1) := by decide +kernel
theorem d_Rd_part_290 : decode prog_5_method_10_code 290 = .ok (.invokespecial 55, 3) := by decide +kernel
theorem d_Rd_part_293 : decode prog_5_method_10_code 293 = .ok (.putfield 169, 3) := by decide +kernel
theorem d_Rd_part_296 : decode prog_5_method_10_code 296 = .ok (.aload_n 1, 1) := by decide +kernel
theorem d_Rd_part_297 : decode prog_5_method_10_code 297 = .ok (.getfield 169, 3) := by decide +kernel
theorem d_Rd_part_300 : decode prog_5_method_10_code 300 = .ok (.ifnull 7, 3) := by decide +kernel
theorem d_Rd_part_303 : decode prog_5_method_10_code 303 = .ok (.iconst 1, 1) := by decide +kernel
theorem d_Rd_part_304 : decode prog_5_method_10_code 304 = .ok (.goto 4, 3) := by decide +kernel
theorem d_Rd_part_307 : decode prog_5_method_10_code 307 = .ok (.iconst 0, 1) := by decide +kernel
theorem d_Rd_part_308 : decode prog_5_method_10_code 308 = .ok (.ireturn, 1) := by decide +kernel
theorem d_Rd_part_309 : decode prog_5_method_10_code 309 = .ok (.aload_n 0, 1) := by decide +kernel
theorem d_Rd_part_310 : decode prog_5_method_10_code 310 = .ok (.aload_n 1, 1) := by decide +kernel
theorem d_Rd_part_311 : decode prog_5_method_10_code 311 = .ok (.getfield 172, 3) := by decide +kernel
theorem d_Rd_part_314 : decode prog_5_method_10_code 314 = .ok (.putfield 35, 3) := by decide +kernel
theorem d_Rd_part_317 : decode prog_5_method_10_code 317 = .ok (.aload_n 1, 1) := by decide +kernel
theorem d_Rd_part_318 : decode prog_5_method_10_code 318 = .ok (.aload_n 0, 1) := by decide +kernel
theorem d_Rd_part_319 : decode prog_5_method_10_code 319 = .ok (.bipush 91, 2) := by decide +kernel
theorem d_Rd_part_321 : decode prog_5_method_10_code 321 = .ok (.bipush 93, 2) := by decide +kernel
theorem d_Rd_part_323 : decode prog_5_method_10_code 323 = .ok (.iload_n 3, 1) := by decide +kernel
theorem d_Rd_part_324 : decode prog_5_method_10_code 324 = .ok (.invokevirtual 161, 3) := by decide +kernel
theorem d_Rd_part_327 : decode prog_5_method_10_code 327 = .ok (.putfield 165, 3) := by decide +kernel
theorem d_Rd_part_330 : decode prog_5_method_10_code 330 = .ok (.aload_n 1, 1) := by decide +kernel
theorem d_Rd_part_331 : decode prog_5_method_10_code 331 = .ok (.getfield 165, 3) := by decide +kernel
theorem d_Rd_part_334 : decode prog_5_method_10_code 334 = .ok (.ifnull 7, 3) := by decide +kernel
theorem d_Rd_part_337 : decode prog_5_method_10_code 337 = .ok (.iconst 1, 1) := by decide +kernel
theorem d_Rd_part_338 : decode prog_5_method_10_code 338 = .ok (.goto 4, 3) := by decide +kernel
theorem d_Rd_part_341 : decode prog_5_method_10_code 341 = .ok (.iconst 0, 1) := by decide +kernel
theorem d_Rd_part_342 : decode prog_5_method_10_code 342 = .ok (.ireturn, 1) := by decide +kernel
theorem d_Rd_part_343 : decode prog_5_method_10_code 343 = .ok (.aload_n 0, 1) := by decide +kernel
theorem d_Rd_part_344 : decode prog_5_method_10_code 344 = .ok (.iload_n 2, 1) := by decide +kernel
theorem d_Rd_part_345 : decode prog_5_method_10_code 345 = .ok (.invokevirtual 175, 3) := by decide +kernel
theorem d_Rd_part_348 : decode prog_5_method_10_code 348 = .ok (.ireturn, 1) := by decide +kernel
theorem d_Rd_enclosed_0 : decode prog_5_method_11_code 0 = .ok (.iload_n 3, 1) := by decide +kernel
theorem d_Rd_enclosed_1 : decode prog_5_method_11_code 1 = .ok (.iconst 2, 1) := by decide +kernel
theorem d_Rd_enclosed_2 : decode prog_5_method_11_code 2 = .ok (.if_icmp .ge 11, 3) := by decide +kernel
theorem d_Rd_enclosed_5 : decode prog_5_method_11_code 5 = .ok (.aload_n 0, 1) := by decide +kernel
theorem d_Rd_enclosed_6 : decode prog_5_method_11_code 6 = .ok (.iload_n 1, 1) := by decide +kernel
theorem d_Rd_enclosed_7 : decode prog_5_method_11_code 7 = .ok (.invokevirtual 175, 3) := by decide +kernel
theorem d_Rd_enclosed_10 : decode prog_5_method_11_code 10 = .ok (.ifCond .ne 5, 3) := by decide +kernel
theorem d_Rd_enclosed_13 : decode prog_5_method_11_code 13 = .ok (.aconst_null, 1) := by decide +kernel
theorem d_Rd_enclosed_14 : decode prog_5_method_11_code 14 = .ok (.areturn, 1) := by decide +kernel
theorem d_Rd_enclosed_15 : decode prog_5_method_11_code 15 = .ok (.aload_n 0, 1) := by decide +kernel
theorem d_Rd_enclosed_16 : decode prog_5_method_11_code 16 = .ok (.iload_n 3, 1) := by decide +kernel
theorem d_Rd_enclosed_17 : decode prog_5_method_11_code 17 = .ok (.iconst 1, 1) := by decide +kernel
theorem d_Rd_enclosed_18 : decode prog_5_method_11_code 18 = .ok (.iadd, 1) := by decide +kernel
theorem d_Rd_enclosed_19 : decode prog_5_method_11_code 19 = .ok (.iload_n 2, 1) := by decide +kernel
theorem d_Rd_enclosed_20 : decode prog_5_method_11_code 20 = .ok (.invokevirtual 46, 3) := by decide +kernel
theorem d_Rd_enclosed_23 : decode prog_5_method_11_code 23 = .ok (.astore 4, 2) := by decide +kernel
theorem d_Rd_enclosed_25 : decode prog_5_method_11_code 25 = .ok (.aload 4, 2) := by decide +kernel
theorem d_Rd_enclosed_27 : decode prog_5_method_11_code 27 = .ok (.ifnull 16, 3) := by decide +kernel
theorem d_Rd_enclosed_30 : decode prog_5_method_11_code 30 = .ok (.aload_n 0, 1) := by decide +kernel
theorem d_Rd_enclosed_31 : decode prog_5_method_11_code 31 = .ok (.iload_n 2, 1) := by decide +kernel
theorem d_Rd_enclosed_32 : decode prog_5_method_11_code 32 = .ok (.invokevirtual 175, 3) := by decide +kernel
theorem d_Rd_enclosed_35 : decode prog_5_method_11_code 35 = .ok (.ifCond .eq 8, 3) := by decide +kernel
theorem d_Rd_enclosed_38 : decode prog_5_method_11_code 38 = .ok (.aload 4, 2) := by decide +kernel
theorem d_Rd_enclosed_40 : decode prog_5_method_11_code 40 = .ok (.goto 4, 3) := by decide +kernel
theorem d_Rd_enclosed_43 : decode prog_5_method_11_code 43 = .ok (.aconst_null, 1) := by decide +kernel
theorem d_Rd_enclosed_44 : decode prog_5_method_11_code 44 = .ok (.areturn, 1) := by decide +kernel
theorem d_Rd_newFunction_0 : decode prog_5_method_12_code 0 = .ok (.aload_n 0, 1) := by decide +kernel
theorem d_Rd_newFunction_1 : decode prog_5_method_12_code 1 = .ok (.invokevirtual 59, 3) := by decide +kernel
theorem d_Rd_newFunction_4 : decode prog_5_method_12_code 4 = .ok (.istore_n 3, 1) := by decide +kernel
theorem d_Rd_newFunction_5 : decode prog_5_method_12_code 5 = .ok (.iload_n 3, 1) := by decide +kernel
theorem d_Rd_newFunction_6 : decode prog_5_method_12_code 6 = .ok (.invokestatic 103, 3) := by decide +kernel
theorem d_Rd_newFunction_9 : decode prog_5_method_12_code 9 = .ok (.ifCond .ne 5, 3) := by decide +kernel
theorem d_Rd_newFunction_12 : decode prog_5_method_12_code 12 = .ok (.iconst 0, 1) := by decide +kernel
theorem d_Rd_newFunction_13 : decode prog_5_method_12_code 13 = .ok (.ireturn, 1) := by decide +kernel
theorem d_Rd_newFunction_14 : decode prog_5_method_12_code 14 = .ok (.aload_n 1, 1) := by decide +kernel
theorem d_Rd_newFunction_15 : decode prog_5_method_12_code 15 = .ok (.iload_n 3, 1) := by decide +kernel
theorem d_Rd_newFunction_16 : decode prog_5_method_12_code 16 = .ok (.bipush 65, 2) := by decide +kernel
theorem d_Rd_newFunction_18 : decode prog_5_method_12_code 18 = .ok (.isub, 1) := by decide +kernel
theorem d_Rd_newFunction_19 : decode prog_5_method_12_code 19 = .ok (.putfield 154, 3) := by decide +kernel
theorem d_Rd_newFunction_22 : decode prog_5_method_12_code 22 = .ok (.iload_n 2, 1) := by decide +kernel
theorem d_Rd_newFunction_23 : decode prog_5_method_12_code 23 = .ok (.ifCond .gt 27, 3) := by decide +kernel
theorem d_Rd_newFunction_26 : decode prog_5_method_12_code 26 = .ok (.aload_n 1, 1) := by decide +kernel
theorem d_Rd_newFunction_27 : decode prog_5_method_12_code 27 = .ok (.getfield 154, 3) := by decide +kernel
theorem d_Rd_newFunction_30 : decode prog_5_method_12_code 30 = .ok (.aload_n 0, 1) := by decide +kernel
theorem d_Rd_newFunction_31 : decode prog_5_method_12_code 31 = .ok (.getfield 17, 3) := by decide +kernel
theorem d_Rd_newFunction_34 : decode prog_5_method_12_code 34 = .ok (.arraylength, 1) := by decide +kernel
theorem d_Rd_newFunction_35 : decode prog_5_method_12_code 35 = .ok (.if_icmp .ge 15, 3) := by decide +kernel
theorem d_Rd_newFunction_38 : decode prog_5_method_12_code 38 = .ok (.aload_n 0, 1) := by decide +kernel
theorem d_Rd_newFunction_39 : decode prog_5_method_12_code 39 = .ok (.getfield 17, 3) := by decide +kernel
theorem d_Rd_newFunction_42 : decode prog_5_method_12_code 42 = .ok (.aload_n 1, 1) := by decide +kernel
theorem d_Rd_newFunction_43 : decode prog_5_method_12_code 43 = .ok (.getfield 154, 3) := by decide +kernel
theorem d_Rd_newFunction_46 : decode prog_5_method_12_code 46 = .ok (.aaload, 1) := by decide +kernel
theorem d_Rd_newFunction_47 : decode prog_5_method_12_code 47 = .ok (.ifnull 13, 3) := by decide +kernel
theorem d_Rd_newFunction_50 : decode prog_5_method_12_code 50 = .ok (.aload_n 0, 1) := by decide +kernel
theorem d_Rd_newFunction_51 : decode prog_5_method_12_code 51 = .ok (.aload_n 1, 1) := by decide +kernel
theorem d_Rd_newFunction_52 : decode prog_5_method_12_code 52 = .ok (.getfield 172, 3) := by decide +kernel
theorem d_Rd_newFunction_55 : decode prog_5_method_12_code 55 = .ok (.putfield 35, 3) := by decide +kernel
theorem d_Rd_newFunction_58 : decode prog_5_method_12_code 58 = .ok (.iconst 0, 1) := by decide +kernel
theorem d_Rd_newFunction_59 : decode prog_5_method_12_code 59 = .ok (.ireturn, 1) := by decide +kernel
theorem d_Rd_newFunction_60 : decode prog_5_method_12_code 60 = .ok (.aload_n 0, 1) := by decide +kernel
theorem d_Rd_newFunction_61 : decode prog_5_method_12_code 61 = .ok (.getfield 17, 3) := by decide +kernel
theorem d_Rd_newFunction_64 : decode prog_5_method_12_code 64 = .ok (.aload_n 1, 1) := by decide +kernel
theorem d_Rd_newFunction_65 : decode prog_5_method_12_code 65 = .ok (.getfield 154, 3) := by decide +kernel
theorem d_Rd_newFunction_68 : decode prog_5_method_12_code 68 = .ok (.aload_n 1, 1) := by decide +kernel
theorem d_Rd_newFunction_69 : decode prog_5_method_12_code 69 = .ok (.aastore, 1) := by decide +kernel
theorem d_Rd_newFunction_70 : decode prog_5_method_12_code 70 = .ok (.aload_n 0, 1) := by decide +kernel
theorem d_Rd_newFunction_71 : decode prog_5_method_12_code 71 = .ok (.dup, 1) := by decide +kernel
theorem d_Rd_newFunction_72 : decode prog_5_method_12_code 72 = .ok (.getfield 35, 3) := by decide +kernel
theorem d_Rd_newFunction_75 : decode prog_5_method_12_code 75 = .ok (.iconst 1, 1) := by decide +kernel
theorem d_Rd_newFunction_76 : decode prog_5_method_12_code 76 = .ok (.iadd, 1) := by decide +kernel
theorem d_Rd_newFunction_77 : decode prog_5_method_12_code 77 = .ok (.putfield 35, 3) := by decide +kernel
theorem d_Rd_newFunction_80 : decode prog_5_method_12_code 80 = .ok (.iconst 1, 1) := by decide +kernel
theorem d_Rd_newFunction_81 : decode prog_5_method_12_code 81 = .ok (.ireturn, 1) := by decide +kernel
