theorem d_Rd_fieldDigit_0 : decode prog_5_method_13_code 0 = .ok (.aload_n 0, 1) := by decide +kernel
theorem d_Rd_fieldDigit_1 : decode prog_5_method_13_code 1 = .ok (.getfield 35, 3) := by decide +kernel
theorem d_Rd_fieldDigit_4 : decode prog_5_method_13_code 4 = .ok (.aload_n 0, 1) := by decide +kernel
theorem d_Rd_fieldDigit_5 : decode prog_5_method_13_code 5 = .ok (.getfield 31, 3) := by decide +kernel
theorem d_Rd_fieldDigit_8 : decode prog_5_method_13_code 8 = .ok (.if_icmp .ge 18, 3) := by decide +kernel
theorem d_Rd_fieldDigit_11 : decode prog_5_method_13_code 11 = .ok (.aload_n 0, 1) := by decide +kernel
theorem d_Rd_fieldDigit_12 : decode prog_5_method_13_code 12 = .ok (.getfield 9, 3) := by decide +kernel
theorem d_Rd_fieldDigit_15 : decode prog_5_method_13_code 15 = .ok (.aload_n 0, 1) := by decide +kernel
theorem d_Rd_fieldDigit_16 : decode prog_5_method_13_code 16 = .ok (.getfield 35, 3) := by decide +kernel
theorem d_Rd_fieldDigit_19 : decode prog_5_method_13_code 19 = .ok (.caload, 1) := by decide +kernel
theorem d_Rd_fieldDigit_20 : decode prog_5_method_13_code 20 = .ok (.bipush 48, 2) := by decide +kernel
theorem d_Rd_fieldDigit_22 : decode prog_5_method_13_code 22 = .ok (.isub, 1) := by decide +kernel
theorem d_Rd_fieldDigit_23 : decode prog_5_method_13_code 23 = .ok (.goto 4, 3) := by decide +kernel
theorem d_Rd_fieldDigit_26 : decode prog_5_method_13_code 26 = .ok (.iconst (-1), 1) := by decide +kernel
theorem d_Rd_fieldDigit_27 : decode prog_5_method_13_code 27 = .ok (.istore_n 1, 1) := by decide +kernel
theorem d_Rd_fieldDigit_28 : decode prog_5_method_13_code 28 = .ok (.iload_n 1, 1) := by decide +kernel
theorem d_Rd_fieldDigit_29 : decode prog_5_method_13_code 29 = .ok (.ifCond .lt 9, 3) := by decide +kernel
theorem d_Rd_fieldDigit_32 : decode prog_5_method_13_code 32 = .ok (.iload_n 1, 1) := by decide +kernel
theorem d_Rd_fieldDigit_33 : decode prog_5_method_13_code 33 = .ok (.bipush 6, 2) := by decide +kernel
theorem d_Rd_fieldDigit_35 : decode prog_5_method_13_code 35 = .ok (.if_icmp .lt 5, 3) := by decide +kernel
theorem d_Rd_fieldDigit_38 : decode prog_5_method_13_code 38 = .ok (.iconst (-1), 1) := by decide +kernel
theorem d_Rd_fieldDigit_39 : decode prog_5_method_13_code 39 = .ok (.ireturn, 1) := by decide +kernel
theorem d_Rd_fieldDigit_40 : decode prog_5_method_13_code 40 = .ok (.aload_n 0, 1) := by decide +kernel
theorem d_Rd_fieldDigit_41 : decode prog_5_method_13_code 41 = .ok (.dup, 1) := by decide +kernel
theorem d_Rd_fieldDigit_42 : decode prog_5_method_13_code 42 = .ok (.getfield 35, 3) := by decide +kernel
theorem d_Rd_fieldDigit_45 : decode prog_5_method_13_code 45 = .ok (.iconst 1, 1) := by decide +kernel
theorem d_Rd_fieldDigit_46 : decode prog_5_method_13_code 46 = .ok (.iadd, 1) := by decide +kernel
theorem d_Rd_fieldDigit_47 : decode prog_5_method_13_code 47 = .ok (.putfield 35, 3) := by decide +kernel
theorem d_Rd_fieldDigit_50 : decode prog_5_method_13_code 50 = .ok (.iload_n 1, 1) := by decide +kernel
theorem d_Rd_fieldDigit_51 : decode prog_5_method_13_code 51 = .ok (.ireturn, 1) := by decide +kernel
theorem d_Rd_ranked_0 : decode prog_5_method_14_code 0 = .ok (.iload_n 1, 1) := by decide +kernel
theorem d_Rd_ranked_1 : decode prog_5_method_14_code 1 = .ok (.iconst 2, 1) := by decide +kernel
theorem d_Rd_ranked_2 : decode prog_5_method_14_code 2 = .ok (.if_icmp .le 9, 3) := by decide +kernel
theorem d_Rd_ranked_5 : decode prog_5_method_14_code 5 = .ok (.aload_n 0, 1) := by decide +kernel
theorem d_Rd_ranked_6 : decode prog_5_method_14_code 6 = .ok (.iload_n 2, 1) := by decide +kernel
theorem d_Rd_ranked_7 : decode prog_5_method_14_code 7 = .ok (.invokevirtual 131, 3) := by decide +kernel
theorem d_Rd_ranked_10 : decode prog_5_method_14_code 10 = .ok (.ireturn, 1) := by decide +kernel
theorem d_Rd_ranked_11 : decode prog_5_method_14_code 11 = .ok (.aload_n 0, 1) := by decide +kernel
theorem d_Rd_ranked_12 : decode prog_5_method_14_code 12 = .ok (.iload_n 1, 1) := by decide +kernel
theorem d_Rd_ranked_13 : decode prog_5_method_14_code 13 = .ok (.iconst 1, 1) := by decide +kernel
theorem d_Rd_ranked_14 : decode prog_5_method_14_code 14 = .ok (.iadd, 1) := by decide +kernel
theorem d_Rd_ranked_15 : decode prog_5_method_14_code 15 = .ok (.iload_n 2, 1) := by decide +kernel
theorem d_Rd_ranked_16 : decode prog_5_method_14_code 16 = .ok (.invokevirtual 144, 3) := by decide +kernel
theorem d_Rd_ranked_19 : decode prog_5_method_14_code 19 = .ok (.ifCond .ne 5, 3) := by decide +kernel
theorem d_Rd_ranked_22 : decode prog_5_method_14_code 22 = .ok (.iconst 0, 1) := by decide +kernel
theorem d_Rd_ranked_23 : decode prog_5_method_14_code 23 = .ok (.ireturn, 1) := by decide +kernel
theorem d_Rd_ranked_24 : decode prog_5_method_14_code 24 = .ok (.iload_n 1, 1) := by decide +kernel
theorem d_Rd_ranked_25 : decode prog_5_method_14_code 25 = .ok (.ifCond .ne 7, 3) := by decide +kernel
theorem d_Rd_ranked_28 : decode prog_5_method_14_code 28 = .ok (.iconst 1, 1) := by decide +kernel
theorem d_Rd_ranked_29 : decode prog_5_method_14_code 29 = .ok (.goto 6, 3) := by decide +kernel
theorem d_Rd_ranked_32 : decode prog_5_method_14_code 32 = .ok (.sipush 400, 3) := by decide +kernel
theorem d_Rd_ranked_35 : decode prog_5_method_14_code 35 = .ok (.istore_n 3, 1) := by decide +kernel
theorem d_Rd_ranked_36 : decode prog_5_method_14_code 36 = .ok (.iconst 0, 1) := by decide +kernel
theorem d_Rd_ranked_37 : decode prog_5_method_14_code 37 = .ok (.istore 4, 2) := by decide +kernel
theorem d_Rd_ranked_39 : decode prog_5_method_14_code 39 = .ok (.iload 4, 2) := by decide +kernel
theorem d_Rd_ranked_41 : decode prog_5_method_14_code 41 = .ok (.iload_n 3, 1) := by decide +kernel
theorem d_Rd_ranked_42 : decode prog_5_method_14_code 42 = .ok (.if_icmp .ge 59, 3) := by decide +kernel
theorem d_Rd_ranked_45 : decode prog_5_method_14_code 45 = .ok (.aload_n 0, 1) := by decide +kernel
theorem d_Rd_ranked_46 : decode prog_5_method_14_code 46 = .ok (.invokevirtual 59, 3) := by decide +kernel
theorem d_Rd_ranked_49 : decode prog_5_method_14_code 49 = .ok (.istore 5, 2) := by decide +kernel
theorem d_Rd_ranked_51 : decode prog_5_method_14_code 51 = .ok (.iload_n 1, 1) := by decide +kernel
theorem d_Rd_ranked_52 : decode prog_5_method_14_code 52 = .ok (.iload 5, 2) := by decide +kernel
theorem d_Rd_ranked_54 : decode prog_5_method_14_code 54 = .ok (.invokestatic 180, 3) := by decide +kernel
theorem d_Rd_ranked_57 : decode prog_5_method_14_code 57 = .ok (.ifCond .ne 5, 3) := by decide +kernel
theorem d_Rd_ranked_60 : decode prog_5_method_14_code 60 = .ok (.iconst 1, 1) := by decide +kernel
theorem d_Rd_ranked_61 : decode prog_5_method_14_code 61 = .ok (.ireturn, 1) := by decide +kernel
theorem d_Rd_ranked_62 : decode prog_5_method_14_code 62 = .ok (.aload_n 0, 1) := by decide +kernel
theorem d_Rd_ranked_63 : decode prog_5_method_14_code 63 = .ok (.dup, 1) := by decide +kernel
theorem d_Rd_ranked_64 : decode prog_5_method_14_code 64 = .ok (.getfield 35, 3) := by decide +kernel
theorem d_Rd_ranked_67 : decode prog_5_method_14_code 67 = .ok (.iconst 1, 1) := by decide +kernel
theorem d_Rd_ranked_68 : decode prog_5_method_14_code 68 = .ok (.iadd, 1) := by decide +kernel
theorem d_Rd_ranked_69 : decode prog_5_method_14_code 69 = .ok (.putfield 35, 3) := by decide +kernel
theorem d_Rd_ranked_72 : decode prog_5_method_14_code 72 = .ok (.aload_n 0, 1) := by decide +kernel
theorem d_Rd_ranked_73 : decode prog_5_method_14_code 73 = .ok (.iload_n 1, 1) := by decide +kernel
theorem d_Rd_ranked_74 : decode prog_5_method_14_code 74 = .ok (.iconst 1, 1) := by decide +kernel
theorem d_Rd_ranked_75 : decode prog_5_method_14_code 75 = .ok (.iadd, 1) := by decide +kernel
theorem d_Rd_ranked_76 : decode prog_5_method_14_code 76 = .ok (.iload_n 2, 1) := by decide +kernel
theorem d_Rd_ranked_77 : decode prog_5_method_14_code 77 = .ok (.invokevirtual 144, 3) := by decide +kernel
theorem d_Rd_ranked_80 : decode prog_5_method_14_code 80 = .ok (.ifCond .eq 13, 3) := by decide +kernel
theorem d_Rd_ranked_83 : decode prog_5_method_14_code 83 = .ok (.aload_n 0, 1) := by decide +kernel
theorem d_Rd_ranked_84 : decode prog_5_method_14_code 84 = .ok (.iload 5, 2) := by decide +kernel
theorem d_Rd_ranked_86 : decode prog_5_method_14_code 86 = .ok (.iconst 0, 1) := by decide +kernel
theorem d_Rd_ranked_87 : decode prog_5_method_14_code 87 = .ok (.invokevirtual 184, 3) := by decide +kernel
theorem d_Rd_ranked_90 : decode prog_5_method_14_code 90 = .ok (.ifCond .ne 5, 3) := by decide +kernel
theorem d_Rd_ranked_93 : decode prog_5_method_14_code 93 = .ok (.iconst 0, 1) := by decide +kernel
theorem d_Rd_ranked_94 : decode prog_5_method_14_code 94 = .ok (.ireturn, 1) := by decide +kernel
theorem d_Rd_ranked_95 : decode prog_5_method_14_code 95 = .ok (.iinc 4 1, 3) := by decide +kernel
theorem d_Rd_ranked_98 : decode prog_5_method_14_code 98 = .ok (.goto (-59), 3) := by decide +kernel
theorem d_Rd_ranked_101 : decode prog_5_method_14_code 101 = .ok (.iconst 1, 1) := by decide +kernel
theorem d_Rd_ranked_102 : decode prog_5_method_14_code 102 = .ok (.ireturn, 1) := by decide +kernel
theorem d_Rd_joins_0 : decode prog_5_method_15_code 0 = .ok (.iload_n 1, 1) := by decide +kernel
theorem d_Rd_joins_1 : decode prog_5_method_15_code 1 = .ok (.tableswitch 147 37 61 #[136, 147, 147, 147, 147, 136, 125, 147, 125, 147, 136, 147, 147, 147, 147, 147, 147, 147, 147, 147, 147, 147, 147, 115, 115], 115) := by decide +kernel
theorem d_Rd_joins_116 : decode prog_5_method_15_code 116 = .ok (.iload_n 0, 1) := by decide +kernel
theorem d_Rd_joins_117 : decode prog_5_method_15_code 117 = .ok (.ifCond .ne 7, 3) := by decide +kernel
theorem d_Rd_joins_120 : decode prog_5_method_15_code 120 = .ok (.iconst 1, 1) := by decide +kernel
theorem d_Rd_joins_121 : decode prog_5_method_15_code 121 = .ok (.goto 4, 3) := by decide +kernel
theorem d_Rd_joins_124 : decode prog_5_method_15_code 124 = .ok (.iconst 0, 1) := by decide +kernel
theorem d_Rd_joins_125 : decode prog_5_method_15_code 125 = .ok (.ireturn, 1) := by decide +kernel
theorem d_Rd_joins_126 : decode prog_5_method_15_code 126 = .ok (.iload_n 0, 1) := by decide +kernel
theorem d_Rd_joins_127 : decode prog_5_method_15_code 127 = .ok (.iconst 1, 1) := by decide +kernel
theorem d_Rd_joins_128 : decode prog_5_method_15_code 128 = .ok (.if_icmp .ne 7, 3) := by decide +kernel
theorem d_Rd_joins_131 : decode prog_5_method_15_code 131 = .ok (.iconst 1, 1) := by decide +kernel
theorem d_Rd_joins_132 : decode prog_5_method_15_code 132 = .ok (.goto 4, 3) := by decide +kernel
theorem d_Rd_joins_135 : decode prog_5_method_15_code 135 = .ok (.iconst 0, 1) := by decide +kernel
theorem d_Rd_joins_136 : decode prog_5_method_15_code 136 = .ok (.ireturn, 1) := by decide +kernel
theorem d_Rd_joins_137 : decode prog_5_method_15_code 137 = .ok (.iload_n 0, 1) := by decide +kernel
theorem d_Rd_joins_138 : decode prog_5_method_15_code 138 = .ok (.iconst 2, 1) := by decide +kernel
theorem d_Rd_joins_139 : decode prog_5_method_15_code 139 = .ok (.if_icmp .ne 7, 3) := by decide +kernel
theorem d_Rd_joins_142 : decode prog_5_method_15_code 142 = .ok (.iconst 1, 1) := by decide +kernel
theorem d_Rd_joins_143 : decode prog_5_method_15_code 143 = .ok (.goto 4, 3) := by decide +kernel
theorem d_Rd_joins_146 : decode prog_5_method_15_code 146 = .ok (.iconst 0, 1) := by decide +kernel
theorem d_Rd_joins_147 : decode prog_5_method_15_code 147 = .ok (.ireturn, 1) := by decide +kernel
theorem d_Rd_joins_148 : decode prog_5_method_15_code 148 = .ok (.iconst 0, 1) := by decide +kernel
theorem d_Rd_joins_149 : decode prog_5_method_15_code 149 = .ok (.ireturn, 1) := by decide +kernel
theorem d_Rd_atom_0 : decode prog_5_method_16_code 0 = .ok (.aload_n 0, 1) := by decide +kernel
theorem d_Rd_atom_1 : decode prog_5_method_16_code 1 = .ok (.invokevirtual 59, 3) := by decide +kernel
theorem d_Rd_atom_4 : decode prog_5_method_16_code 4 = .ok (.istore_n 2, 1) := by decide +kernel
theorem d_Rd_atom_5 : decode prog_5_method_16_code 5 = .ok (.iload_n 2, 1) := by decide +kernel
theorem d_Rd_atom_6 : decode prog_5_method_16_code 6 = .ok (.invokestatic 188, 3) := by decide +kernel
theorem d_Rd_atom_9 : decode prog_5_method_16_code 9 = .ok (.ifCond .eq 14, 3) := by decide +kernel
theorem d_Rd_atom_12 : decode prog_5_method_16_code 12 = .ok (.aload_n 0, 1) := by decide +kernel
theorem d_Rd_atom_13 : decode prog_5_method_16_code 13 = .ok (.bipush 110, 2) := by decide +kernel
theorem d_Rd_atom_15 : decode prog_5_method_16_code 15 = .ok (.aload_n 0, 1) := by decide +kernel
theorem d_Rd_atom_16 : decode prog_5_method_16_code 16 = .ok (.invokevirtual 193, 3) := by decide +kernel
theorem d_Rd_atom_19 : decode prog_5_method_16_code 19 = .ok (.invokevirtual 184, 3) := by decide +kernel
theorem d_Rd_atom_22 : decode prog_5_method_16_code 22 = .ok (.ireturn, 1) := by decide +kernel
theorem d_Rd_atom_23 : decode prog_5_method_16_code 23 = .ok (.iload_n 2, 1) := by decide +kernel
theorem d_Rd_atom_24 : decode prog_5_method_16_code 24 = .ok (.invokestatic 96, 3) := by decide +kernel
theorem d_Rd_atom_27 : decode prog_5_method_16_code 27 = .ok (.ifCond .eq 24, 3) := by decide +kernel
theorem d_Rd_atom_30 : decode prog_5_method_16_code 30 = .ok (.aload_n 0, 1) := by decide +kernel
theorem d_Rd_atom_31 : decode prog_5_method_16_code 31 = .ok (.dup, 1) := by decide +kernel
theorem d_Rd_atom_32 : decode prog_5_method_16_code 32 = .ok (.getfield 35, 3) := by decide +kernel
theorem d_Rd_atom_35 : decode prog_5_method_16_code 35 = .ok (.iconst 1, 1) := by decide +kernel
theorem d_Rd_atom_36 : decode prog_5_method_16_code 36 = .ok (.iadd, 1) := by decide +kernel
theorem d_Rd_atom_37 : decode prog_5_method_16_code 37 = .ok (.putfield 35, 3) := by decide +kernel
theorem d_Rd_atom_40 : decode prog_5_method_16_code 40 = .ok (.aload_n 0, 1) := by decide +kernel
theorem d_Rd_atom_41 : decode prog_5_method_16_code 41 = .ok (.bipush 118, 2) := by decide +kernel
theorem d_Rd_atom_43 : decode prog_5_method_16_code 43 = .ok (.iload_n 2, 1) := by decide +kernel
theorem d_Rd_atom_44 : decode prog_5_method_16_code 44 = .ok (.bipush 97, 2) := by decide +kernel
theorem d_Rd_atom_46 : decode prog_5_method_16_code 46 = .ok (.isub, 1) := by decide +kernel
theorem d_Rd_atom_47 : decode prog_5_method_16_code 47 = .ok (.invokevirtual 184, 3) := by decide +kernel
theorem d_Rd_atom_50 : decode prog_5_method_16_code 50 = .ok (.ireturn, 1) := by decide +kernel
theorem d_Rd_atom_51 : decode prog_5_method_16_code 51 = .ok (.iload_n 2, 1) := by decide +kernel
theorem d_Rd_atom_52 : decode prog_5_method_16_code 52 = .ok (.bipush 35, 2) := by decide +kernel
theorem d_Rd_atom_54 : decode prog_5_method_16_code 54 = .ok (.if_icmp .ne 21, 3) := by decide +kernel
theorem d_Rd_atom_57 : decode prog_5_method_16_code 57 = .ok (.aload_n 0, 1) := by decide +kernel
theorem d_Rd_atom_58 : decode prog_5_method_16_code 58 = .ok (.dup, 1) := by decide +kernel
theorem d_Rd_atom_59 : decode prog_5_method_16_code 59 = .ok (.getfield 35, 3) := by decide +kernel
theorem d_Rd_atom_62 : decode prog_5_method_16_code 62 = .ok (.iconst 1, 1) := by decide +kernel
theorem d_Rd_atom_63 : decode prog_5_method_16_code 63 = .ok (.iadd, 1) := by decide +kernel
theorem d_Rd_atom_64 : decode prog_5_method_16_code 64 = .ok (.putfield 35, 3) := by decide +kernel
theorem d_Rd_atom_67 : decode prog_5_method_16_code 67 = .ok (.aload_n 0, 1) := by decide +kernel
theorem d_Rd_atom_68 : decode prog_5_method_16_code 68 = .ok (.bipush 35, 2) := by decide +kernel
theorem d_Rd_atom_70 : decode prog_5_method_16_code 70 = .ok (.iconst 0, 1) := by decide +kernel
theorem d_Rd_atom_71 : decode prog_5_method_16_code 71 = .ok (.invokevirtual 184, 3) := by decide +kernel
theorem d_Rd_atom_74 : decode prog_5_method_16_code 74 = .ok (.ireturn, 1) := by decide +kernel
theorem d_Rd_atom_75 : decode prog_5_method_16_code 75 = .ok (.iload_n 1, 1) := by decide +kernel
theorem d_Rd_atom_76 : decode prog_5_method_16_code 76 = .ok (.iconst 3, 1) := by decide +kernel
theorem d_Rd_atom_77 : decode prog_5_method_16_code 77 = .ok (.if_icmp .lt 5, 3) := by decide +kernel
theorem d_Rd_atom_80 : decode prog_5_method_16_code 80 = .ok (.iconst 0, 1) := by decide +kernel
theorem d_Rd_atom_81 : decode prog_5_method_16_code 81 = .ok (.ireturn, 1) := by decide +kernel
theorem d_Rd_atom_82 : decode prog_5_method_16_code 82 = .ok (.iload_n 2, 1) := by decide +kernel
theorem d_Rd_atom_83 : decode prog_5_method_16_code 83 = .ok (.lookupswitch 206 #[(39, 113), (40, 41), (45, 77), (64, 149)], 41) := by decide +kernel
theorem d_Rd_atom_124 : decode prog_5_method_16_code 124 = .ok (.aload_n 0, 1) := by decide +kernel
theorem d_Rd_atom_125 : decode prog_5_method_16_code 125 = .ok (.dup, 1) := by decide +kernel
theorem d_Rd_atom_126 : decode prog_5_method_16_code 126 = .ok (.getfield 35, 3) := by decide +kernel
theorem d_Rd_atom_129 : decode prog_5_method_16_code 129 = .ok (.iconst 1, 1) := by decide +kernel
theorem d_Rd_atom_130 : decode prog_5_method_16_code 130 = .ok (.iadd, 1) := by decide +kernel
theorem d_Rd_atom_131 : decode prog_5_method_16_code 131 = .ok (.putfield 35, 3) := by decide +kernel
theorem d_Rd_atom_134 : decode prog_5_method_16_code 134 = .ok (.aload_n 0, 1) := by decide +kernel
theorem d_Rd_atom_135 : decode prog_5_method_16_code 135 = .ok (.iconst 0, 1) := by decide +kernel
theorem d_Rd_atom_136 : decode prog_5_method_16_code 136 = .ok (.iload_n 1, 1) := by decide +kernel
theorem d_Rd_atom_137 : decode prog_5_method_16_code 137 = .ok (.iconst 1, 1) := by decide +kernel
theorem d_Rd_atom_138 : decode prog_5_method_16_code 138 = .ok (.iadd, 1) := by decide +kernel
theorem d_Rd_atom_139 : decode prog_5_method_16_code 139 = .ok (.invokevirtual 144, 3) := by decide +kernel
theorem d_Rd_atom_142 : decode prog_5_method_16_code 142 = .ok (.ifCond .eq 16, 3) := by decide +kernel
theorem d_Rd_atom_145 : decode prog_5_method_16_code 145 = .ok (.aload_n 0, 1) := by decide +kernel
theorem d_Rd_atom_146 : decode prog_5_method_16_code 146 = .ok (.bipush 41, 2) := by decide +kernel
theorem d_Rd_atom_148 : decode prog_5_method_16_code 148 = .ok (.invokevirtual 175, 3) := by decide +kernel
theorem d_Rd_atom_151 : decode prog_5_method_16_code 151 = .ok (.ifCond .eq 7, 3) := by decide +kernel
theorem d_Rd_atom_154 : decode prog_5_method_16_code 154 = .ok (.iconst 1, 1) := by decide +kernel
theorem d_Rd_atom_155 : decode prog_5_method_16_code 155 = .ok (.goto 4, 3) := by decide +kernel
theorem d_Rd_atom_158 : decode prog_5_method_16_code 158 = .ok (.iconst 0, 1) := by decide +kernel
theorem d_Rd_atom_159 : decode prog_5_method_16_code 159 = .ok (.ireturn, 1) := by decide +kernel
theorem d_Rd_atom_160 : decode prog_5_method_16_code 160 = .ok (.aload_n 0, 1) := by decide +kernel
theorem d_Rd_atom_161 : decode prog_5_method_16_code 161 = .ok (.dup, 1) := by decide +kernel
theorem d_Rd_atom_162 : decode prog_5_method_16_code 162 = .ok (.getfield 35, 3) := by decide +kernel
theorem d_Rd_atom_165 : decode prog_5_method_16_code 165 = .ok (.iconst 1, 1) := by decide +kernel
theorem d_Rd_atom_166 : decode prog_5_method_16_code 166 = .ok (.iadd, 1) := by decide +kernel
theorem d_Rd_atom_167 : decode prog_5_method_16_code 167 = .ok (.putfield 35, 3) := by decide +kernel
theorem d_Rd_atom_170 : decode prog_5_method_16_code 170 = .ok (.aload_n 0, 1) := by decide +kernel
theorem d_Rd_atom_171 : decode prog_5_method_16_code 171 = .ok (.iload_n 1, 1) := by decide +kernel
theorem d_Rd_atom_172 : decode prog_5_method_16_code 172 = .ok (.iconst 1, 1) := by decide +kernel
theorem d_Rd_atom_173 : decode prog_5_method_16_code 173 = .ok (.iadd, 1) := by decide +kernel
theorem d_Rd_atom_174 : decode prog_5_method_16_code 174 = .ok (.invokevirtual 131, 3) := by decide +kernel
theorem d_Rd_atom_177 : decode prog_5_method_16_code 177 = .ok (.ifCond .eq 17, 3) := by decide +kernel
theorem d_Rd_atom_180 : decode prog_5_method_16_code 180 = .ok (.aload_n 0, 1) := by decide +kernel
theorem d_Rd_atom_181 : decode prog_5_method_16_code 181 = .ok (.bipush 126, 2) := by decide +kernel
theorem d_Rd_atom_183 : decode prog_5_method_16_code 183 = .ok (.iconst 0, 1) := by decide +kernel
theorem d_Rd_atom_184 : decode prog_5_method_16_code 184 = .ok (.invokevirtual 184, 3) := by decide +kernel
theorem d_Rd_atom_187 : decode prog_5_method_16_code 187 = .ok (.ifCond .eq 7, 3) := by decide +kernel
theorem d_Rd_atom_190 : decode prog_5_method_16_code 190 = .ok (.iconst 1, 1) := by decide +kernel
theorem d_Rd_atom_191 : decode prog_5_method_16_code 191 = .ok (.goto 4, 3) := by decide +kernel
theorem d_Rd_atom_194 : decode prog_5_method_16_code 194 = .ok (.iconst 0, 1) := by decide +kernel
theorem d_Rd_atom_195 : decode prog_5_method_16_code 195 = .ok (.ireturn, 1) := by decide +kernel
theorem d_Rd_atom_196 : decode prog_5_method_16_code 196 = .ok (.aload_n 0, 1) := by decide +kernel
theorem d_Rd_atom_197 : decode prog_5_method_16_code 197 = .ok (.dup, 1) := by decide +kernel
theorem d_Rd_atom_198 : decode prog_5_method_16_code 198 = .ok (.getfield 35, 3) := by decide +kernel
theorem d_Rd_atom_201 : decode prog_5_method_16_code 201 = .ok (.iconst 1, 1) := by decide +kernel
theorem d_Rd_atom_202 : decode prog_5_method_16_code 202 = .ok (.iadd, 1) := by decide +kernel
theorem d_Rd_atom_203 : decode prog_5_method_16_code 203 = .ok (.putfield 35, 3) := by decide +kernel
theorem d_Rd_atom_206 : decode prog_5_method_16_code 206 = .ok (.aload_n 0, 1) := by decide +kernel
theorem d_Rd_atom_207 : decode prog_5_method_16_code 207 = .ok (.iload_n 1, 1) := by decide +kernel
theorem d_Rd_atom_208 : decode prog_5_method_16_code 208 = .ok (.iconst 1, 1) := by decide +kernel
theorem d_Rd_atom_209 : decode prog_5_method_16_code 209 = .ok (.iadd, 1) := by decide +kernel
theorem d_Rd_atom_210 : decode prog_5_method_16_code 210 = .ok (.invokevirtual 131, 3) := by decide +kernel
theorem d_Rd_atom_213 : decode prog_5_method_16_code 213 = .ok (.ifCond .eq 17, 3) := by decide +kernel
theorem d_Rd_atom_216 : decode prog_5_method_16_code 216 = .ok (.aload_n 0, 1) := by decide +kernel
theorem d_Rd_atom_217 : decode prog_5_method_16_code 217 = .ok (.bipush 39, 2) := by decide +kernel
theorem d_Rd_atom_219 : decode prog_5_method_16_code 219 = .ok (.iconst 0, 1) := by decide +kernel
theorem d_Rd_atom_220 : decode prog_5_method_16_code 220 = .ok (.invokevirtual 184, 3) := by decide +kernel
theorem d_Rd_atom_223 : decode prog_5_method_16_code 223 = .ok (.ifCond .eq 7, 3) := by decide +kernel
theorem d_Rd_atom_226 : decode prog_5_method_16_code 226 = .ok (.iconst 1, 1) := by decide +kernel
theorem d_Rd_atom_227 : decode prog_5_method_16_code 227 = .ok (.goto 4, 3) := by decide +kernel
theorem d_Rd_atom_230 : decode prog_5_method_16_code 230 = .ok (.iconst 0, 1) := by decide +kernel
theorem d_Rd_atom_231 : decode prog_5_method_16_code 231 = .ok (.ireturn, 1) := by decide +kernel
theorem d_Rd_atom_232 : decode prog_5_method_16_code 232 = .ok (.aload_n 0, 1) := by decide +kernel
theorem d_Rd_atom_233 : decode prog_5_method_16_code 233 = .ok (.dup, 1) := by decide +kernel
theorem d_Rd_atom_234 : decode prog_5_method_16_code 234 = .ok (.getfield 35, 3) := by decide +kernel
theorem d_Rd_atom_237 : decode prog_5_method_16_code 237 = .ok (.iconst 1, 1) := by decide +kernel
theorem d_Rd_atom_238 : decode prog_5_method_16_code 238 = .ok (.iadd, 1) := by decide +kernel
theorem d_Rd_atom_239 : decode prog_5_method_16_code 239 = .ok (.putfield 35, 3) := by decide +kernel
theorem d_Rd_atom_242 : decode prog_5_method_16_code 242 = .ok (.aload_n 0, 1) := by decide +kernel
theorem d_Rd_atom_243 : decode prog_5_method_16_code 243 = .ok (.iload_n 1, 1) := by decide +kernel
theorem d_Rd_atom_244 : decode prog_5_method_16_code 244 = .ok (.iconst 1, 1) := by decide +kernel
theorem d_Rd_atom_245 : decode prog_5_method_16_code 245 = .ok (.iadd, 1) := by decide +kernel
theorem d_Rd_atom_246 : decode prog_5_method_16_code 246 = .ok (.invokevirtual 131, 3) := by decide +kernel
theorem d_Rd_atom_249 : decode prog_5_method_16_code 249 = .ok (.ifCond .eq 12, 3) := by decide +kernel
theorem d_Rd_atom_252 : decode prog_5_method_16_code 252 = .ok (.aload_n 0, 1) := by decide +kernel
theorem d_Rd_atom_253 : decode prog_5_method_16_code 253 = .ok (.bipush 58, 2) := by decide +kernel
theorem d_Rd_atom_255 : decode prog_5_method_16_code 255 = .ok (.invokevirtual 175, 3) := by decide +kernel
theorem d_Rd_atom_258 : decode prog_5_method_16_code 258 = .ok (.ifCond .ne 5, 3) := by decide +kernel
theorem d_Rd_atom_261 : decode prog_5_method_16_code 261 = .ok (.iconst 0, 1) := by decide +kernel
theorem d_Rd_atom_262 : decode prog_5_method_16_code 262 = .ok (.ireturn, 1) := by decide +kernel
theorem d_Rd_atom_263 : decode prog_5_method_16_code 263 = .ok (.aload_n 0, 1) := by decide +kernel
theorem d_Rd_atom_264 : decode prog_5_method_16_code 264 = .ok (.invokevirtual 151, 3) := by decide +kernel
theorem d_Rd_atom_267 : decode prog_5_method_16_code 267 = .ok (.istore_n 3, 1) := by decide +kernel
theorem d_Rd_atom_268 : decode prog_5_method_16_code 268 = .ok (.iload_n 3, 1) := by decide +kernel
theorem d_Rd_atom_269 : decode prog_5_method_16_code 269 = .ok (.iconst (-1), 1) := by decide +kernel
theorem d_Rd_atom_270 : decode prog_5_method_16_code 270 = .ok (.if_icmp .eq 17, 3) := by decide +kernel
theorem d_Rd_atom_273 : decode prog_5_method_16_code 273 = .ok (.aload_n 0, 1) := by decide +kernel
theorem d_Rd_atom_274 : decode prog_5_method_16_code 274 = .ok (.bipush 64, 2) := by decide +kernel
theorem d_Rd_atom_276 : decode prog_5_method_16_code 276 = .ok (.iload_n 3, 1) := by decide +kernel
theorem d_Rd_atom_277 : decode prog_5_method_16_code 277 = .ok (.invokevirtual 184, 3) := by decide +kernel
theorem d_Rd_atom_280 : decode prog_5_method_16_code 280 = .ok (.ifCond .eq 7, 3) := by decide +kernel
theorem d_Rd_atom_283 : decode prog_5_method_16_code 283 = .ok (.iconst 1, 1) := by decide +kernel
theorem d_Rd_atom_284 : decode prog_5_method_16_code 284 = .ok (.goto 4, 3) := by decide +kernel
theorem d_Rd_atom_287 : decode prog_5_method_16_code 287 = .ok (.iconst 0, 1) := by decide +kernel
theorem d_Rd_atom_288 : decode prog_5_method_16_code 288 = .ok (.ireturn, 1) := by decide +kernel
theorem d_Rd_atom_289 : decode prog_5_method_16_code 289 = .ok (.iconst 0, 1) := by decide +kernel
theorem d_Rd_atom_290 : decode prog_5_method_16_code 290 = .ok (.ireturn, 1) := by decide +kernel
theorem d_Rd_number_0 : decode prog_5_method_17_code 0 = .ok (.iconst 0, 1) := by decide +kernel
theorem d_Rd_number_1 : decode prog_5_method_17_code 1 = .ok (.istore_n 1, 1) := by decide +kernel
theorem d_Rd_number_2 : decode prog_5_method_17_code 2 = .ok (.iconst 0, 1) := by decide +kernel
theorem d_Rd_number_3 : decode prog_5_method_17_code 3 = .ok (.istore_n 2, 1) := by decide +kernel
theorem d_Rd_number_4 : decode prog_5_method_17_code 4 = .ok (.iload_n 2, 1) := by decide +kernel
theorem d_Rd_number_5 : decode prog_5_method_17_code 5 = .ok (.iconst 4, 1) := by decide +kernel
theorem d_Rd_number_6 : decode prog_5_method_17_code 6 = .ok (.if_icmp .ge 63, 3) := by decide +kernel
theorem d_Rd_number_9 : decode prog_5_method_17_code 9 = .ok (.aload_n 0, 1) := by decide +kernel
theorem d_Rd_number_10 : decode prog_5_method_17_code 10 = .ok (.getfield 35, 3) := by decide +kernel
theorem d_Rd_number_13 : decode prog_5_method_17_code 13 = .ok (.aload_n 0, 1) := by decide +kernel
theorem d_Rd_number_14 : decode prog_5_method_17_code 14 = .ok (.getfield 31, 3) := by decide +kernel
theorem d_Rd_number_17 : decode prog_5_method_17_code 17 = .ok (.if_icmp .ge 52, 3) := by decide +kernel
theorem d_Rd_number_20 : decode prog_5_method_17_code 20 = .ok (.aload_n 0, 1) := by decide +kernel
theorem d_Rd_number_21 : decode prog_5_method_17_code 21 = .ok (.getfield 9, 3) := by decide +kernel
theorem d_Rd_number_24 : decode prog_5_method_17_code 24 = .ok (.aload_n 0, 1) := by decide +kernel
theorem d_Rd_number_25 : decode prog_5_method_17_code 25 = .ok (.getfield 35, 3) := by decide +kernel
theorem d_Rd_number_28 : decode prog_5_method_17_code 28 = .ok (.caload, 1) := by decide +kernel
theorem d_Rd_number_29 : decode prog_5_method_17_code 29 = .ok (.bipush 48, 2) := by decide +kernel
theorem d_Rd_number_31 : decode prog_5_method_17_code 31 = .ok (.isub, 1) := by decide +kernel
theorem d_Rd_number_32 : decode prog_5_method_17_code 32 = .ok (.istore_n 3, 1) := by decide +kernel
theorem d_Rd_number_33 : decode prog_5_method_17_code 33 = .ok (.iload_n 3, 1) := by decide +kernel
theorem d_Rd_number_34 : decode prog_5_method_17_code 34 = .ok (.ifCond .lt 35, 3) := by decide +kernel
theorem d_Rd_number_37 : decode prog_5_method_17_code 37 = .ok (.iload_n 3, 1) := by decide +kernel
theorem d_Rd_number_38 : decode prog_5_method_17_code 38 = .ok (.bipush 9, 2) := by decide +kernel
theorem d_Rd_number_40 : decode prog_5_method_17_code 40 = .ok (.if_icmp .le 6, 3) := by decide +kernel
theorem d_Rd_number_43 : decode prog_5_method_17_code 43 = .ok (.goto 26, 3) := by decide +kernel
theorem d_Rd_number_46 : decode prog_5_method_17_code 46 = .ok (.iload_n 1, 1) := by decide +kernel
theorem d_Rd_number_47 : decode prog_5_method_17_code 47 = .ok (.bipush 10, 2) := by decide +kernel
theorem d_Rd_number_49 : decode prog_5_method_17_code 49 = .ok (.imul, 1) := by decide +kernel
theorem d_Rd_number_50 : decode prog_5_method_17_code 50 = .ok (.iload_n 3, 1) := by decide +kernel
theorem d_Rd_number_51 : decode prog_5_method_17_code 51 = .ok (.iadd, 1) := by decide +kernel
theorem d_Rd_number_52 : decode prog_5_method_17_code 52 = .ok (.istore_n 1, 1) := by decide +kernel
theorem d_Rd_number_53 : decode prog_5_method_17_code 53 = .ok (.aload_n 0, 1) := by decide +kernel
theorem d_Rd_number_54 : decode prog_5_method_17_code 54 = .ok (.dup, 1) := by decide +kernel
theorem d_Rd_number_55 : decode prog_5_method_17_code 55 = .ok (.getfield 35, 3) := by decide +kernel
theorem d_Rd_number_58 : decode prog_5_method_17_code 58 = .ok (.iconst 1, 1) := by decide +kernel
theorem d_Rd_number_59 : decode prog_5_method_17_code 59 = .ok (.iadd, 1) := by decide +kernel
theorem d_Rd_number_60 : decode prog_5_method_17_code 60 = .ok (.putfield 35, 3) := by decide +kernel
theorem d_Rd_number_63 : decode prog_5_method_17_code 63 = .ok (.iinc 2 1, 3) := by decide +kernel
theorem d_Rd_number_66 : decode prog_5_method_17_code 66 = .ok (.goto (-62), 3) := by decide +kernel
theorem d_Rd_number_69 : decode prog_5_method_17_code 69 = .ok (.iload_n 1, 1) := by decide +kernel
theorem d_Rd_number_70 : decode prog_5_method_17_code 70 = .ok (.ireturn, 1) := by decide +kernel
theorem d_Rd_emit_0 : decode prog_5_method_18_code 0 = .ok (.aload_n 0, 1) := by decide +kernel
theorem d_Rd_emit_1 : decode prog_5_method_18_code 1 = .ok (.getfield 128, 3) := by decide +kernel
theorem d_Rd_emit_4 : decode prog_5_method_18_code 4 = .ok (.aload_n 0, 1) := by decide +kernel
theorem d_Rd_emit_5 : decode prog_5_method_18_code 5 = .ok (.getfield 21, 3) := by decide +kernel
theorem d_Rd_emit_8 : decode prog_5_method_18_code 8 = .ok (.arraylength, 1) := by decide +kernel
theorem d_Rd_emit_9 : decode prog_5_method_18_code 9 = .ok (.if_icmp .lt 5, 3) := by decide +kernel
theorem d_Rd_emit_12 : decode prog_5_method_18_code 12 = .ok (.iconst 0, 1) := by decide +kernel
theorem d_Rd_emit_13 : decode prog_5_method_18_code 13 = .ok (.ireturn, 1) := by decide +kernel
theorem d_Rd_emit_14 : decode prog_5_method_18_code 14 = .ok (.aload_n 0, 1) := by decide +kernel
theorem d_Rd_emit_15 : decode prog_5_method_18_code 15 = .ok (.getfield 21, 3) := by decide +kernel
theorem d_Rd_emit_18 : decode prog_5_method_18_code 18 = .ok (.aload_n 0, 1) := by decide +kernel
theorem d_Rd_emit_19 : decode prog_5_method_18_code 19 = .ok (.getfield 128, 3) := by decide +kernel
theorem d_Rd_emit_22 : decode prog_5_method_18_code 22 = .ok (.iload_n 2, 1) := by decide +kernel
theorem d_Rd_emit_23 : decode prog_5_method_18_code 23 = .ok (.bipush 7, 2) := by decide +kernel
theorem d_Rd_emit_25 : decode prog_5_method_18_code 25 = .ok (.ishl, 1) := by decide +kernel
theorem d_Rd_emit_26 : decode prog_5_method_18_code 26 = .ok (.iload_n 1, 1) := by decide +kernel
theorem d_Rd_emit_27 : decode prog_5_method_18_code 27 = .ok (.ior, 1) := by decide +kernel
theorem d_Rd_emit_28 : decode prog_5_method_18_code 28 = .ok (.iastore, 1) := by decide +kernel
theorem d_Rd_emit_29 : decode prog_5_method_18_code 29 = .ok (.aload_n 0, 1) := by decide +kernel
theorem d_Rd_emit_30 : decode prog_5_method_18_code 30 = .ok (.dup, 1) := by decide +kernel
theorem d_Rd_emit_31 : decode prog_5_method_18_code 31 = .ok (.getfield 128, 3) := by decide +kernel
theorem d_Rd_emit_34 : decode prog_5_method_18_code 34 = .ok (.iconst 1, 1) := by decide +kernel
theorem d_Rd_emit_35 : decode prog_5_method_18_code 35 = .ok (.iadd, 1) := by decide +kernel
theorem d_Rd_emit_36 : decode prog_5_method_18_code 36 = .ok (.putfield 128, 3) := by decide +kernel
theorem d_Rd_emit_39 : decode prog_5_method_18_code 39 = .ok (.iconst 1, 1) := by decide +kernel
theorem d_Rd_emit_40 : decode prog_5_method_18_code 40 = .ok (.ireturn, 1) := by decide +kernel
theorem d_Rd_isDigit_0 : decode prog_5_method_19_code 0 = .ok (.iload_n 0, 1) := by decide +kernel
theorem d_Rd_isDigit_1 : decode prog_5_method_19_code 1 = .ok (.bipush 48, 2) := by decide +kernel
theorem d_Rd_isDigit_3 : decode prog_5_method_19_code 3 = .ok (.if_icmp .lt 13, 3) := by decide +kernel
theorem d_Rd_isDigit_6 : decode prog_5_method_19_code 6 = .ok (.iload_n 0, 1) := by decide +kernel
theorem d_Rd_isDigit_7 : decode prog_5_method_19_code 7 = .ok (.bipush 57, 2) := by decide +kernel
theorem d_Rd_isDigit_9 : decode prog_5_method_19_code 9 = .ok (.if_icmp .gt 7, 3) := by decide +kernel
theorem d_Rd_isDigit_12 : decode prog_5_method_19_code 12 = .ok (.iconst 1, 1) := by decide +kernel
theorem d_Rd_isDigit_13 : decode prog_5_method_19_code 13 = .ok (.goto 4, 3) := by decide +kernel
theorem d_Rd_isDigit_16 : decode prog_5_method_19_code 16 = .ok (.iconst 0, 1) := by decide +kernel
theorem d_Rd_isDigit_17 : decode prog_5_method_19_code 17 = .ok (.ireturn, 1) := by decide +kernel
theorem d_Rd_isVariable_0 : decode prog_5_method_20_code 0 = .ok (.iload_n 0, 1) := by decide +kernel
theorem d_Rd_isVariable_1 : decode prog_5_method_20_code 1 = .ok (.bipush 97, 2) := by decide +kernel
theorem d_Rd_isVariable_3 : decode prog_5_method_20_code 3 = .ok (.if_icmp .lt 13, 3) := by decide +kernel
theorem d_Rd_isVariable_6 : decode prog_5_method_20_code 6 = .ok (.iload_n 0, 1) := by decide +kernel
theorem d_Rd_isVariable_7 : decode prog_5_method_20_code 7 = .ok (.bipush 122, 2) := by decide +kernel
theorem d_Rd_isVariable_9 : decode prog_5_method_20_code 9 = .ok (.if_icmp .gt 7, 3) := by decide +kernel
theorem d_Rd_isVariable_12 : decode prog_5_method_20_code 12 = .ok (.iconst 1, 1) := by decide +kernel
theorem d_Rd_isVariable_13 : decode prog_5_method_20_code 13 = .ok (.goto 4, 3) := by decide +kernel
theorem d_Rd_isVariable_16 : decode prog_5_method_20_code 16 = .ok (.iconst 0, 1) := by decide +kernel
theorem d_Rd_isVariable_17 : decode prog_5_method_20_code 17 = .ok (.ireturn, 1) := by decide +kernel
theorem d_Rd_isFunction_0 : decode prog_5_method_21_code 0 = .ok (.iload_n 0, 1) := by decide +kernel
theorem d_Rd_isFunction_1 : decode prog_5_method_21_code 1 = .ok (.bipush 65, 2) := by decide +kernel
theorem d_Rd_isFunction_3 : decode prog_5_method_21_code 3 = .ok (.if_icmp .lt 13, 3) := by decide +kernel
theorem d_Rd_isFunction_6 : decode prog_5_method_21_code 6 = .ok (.iload_n 0, 1) := by decide +kernel
theorem d_Rd_isFunction_7 : decode prog_5_method_21_code 7 = .ok (.bipush 90, 2) := by decide +kernel
theorem d_Rd_isFunction_9 : decode prog_5_method_21_code 9 = .ok (.if_icmp .gt 7, 3) := by decide +kernel
theorem d_Rd_isFunction_12 : decode prog_5_method_21_code 12 = .ok (.iconst 1, 1) := by decide +kernel
theorem d_Rd_isFunction_13 : decode prog_5_method_21_code 13 = .ok (.goto 4, 3) := by decide +kernel
theorem d_Rd_isFunction_16 : decode prog_5_method_21_code 16 = .ok (.iconst 0, 1) := by decide +kernel
theorem d_Rd_isFunction_17 : decode prog_5_method_21_code 17 = .ok (.ireturn, 1) := by decide +kernel
theorem d_Wk_init_0 : decode prog_10_method_1_code 0 = .ok (.aload_n 0, 1) := by decide +kernel
theorem d_Wk_init_1 : decode prog_10_method_1_code 1 = .ok (.invokespecial 3, 3) := by decide +kernel
theorem d_Wk_init_4 : decode prog_10_method_1_code 4 = .ok (.aload_n 0, 1) := by decide +kernel
theorem d_Wk_init_5 : decode prog_10_method_1_code 5 = .ok (.aload_n 1, 1) := by decide +kernel
theorem d_Wk_init_6 : decode prog_10_method_1_code 6 = .ok (.putfield 9, 3) := by decide +kernel
theorem d_Wk_init_9 : decode prog_10_method_1_code 9 = .ok (.aload_n 0, 1) := by decide +kernel
theorem d_Wk_init_10 : decode prog_10_method_1_code 10 = .ok (.aload_n 2, 1) := by decide +kernel
theorem d_Wk_init_11 : decode prog_10_method_1_code 11 = .ok (.putfield 15, 3) := by decide +kernel
theorem d_Wk_init_14 : decode prog_10_method_1_code 14 = .ok (.aload_n 0, 1) := by decide +kernel
theorem d_Wk_init_15 : decode prog_10_method_1_code 15 = .ok (.aload_n 3, 1) := by decide +kernel
theorem d_Wk_init_16 : decode prog_10_method_1_code 16 = .ok (.putfield 19, 3) := by decide +kernel
theorem d_Wk_init_19 : decode prog_10_method_1_code 19 = .ok (.return_, 1) := by decide +kernel
theorem d_Wk_walked_0 : decode prog_10_method_2_code 0 = .ok (.aload_n 0, 1) := by decide +kernel
theorem d_Wk_walked_1 : decode prog_10_method_2_code 1 = .ok (.aload_n 1, 1) := by decide +kernel
theorem d_Wk_walked_2 : decode prog_10_method_2_code 2 = .ok (.putfield 23, 3) := by decide +kernel
theorem d_Wk_walked_5 : decode prog_10_method_2_code 5 = .ok (.aload_n 0, 1) := by decide +kernel
theorem d_Wk_walked_6 : decode prog_10_method_2_code 6 = .ok (.iload_n 2, 1) := by decide +kernel
theorem d_Wk_walked_7 : decode prog_10_method_2_code 7 = .ok (.putfield 27, 3) := by decide +kernel
theorem d_Wk_walked_10 : decode prog_10_method_2_code 10 = .ok (.aload_n 0, 1) := by decide +kernel
theorem d_Wk_walked_11 : decode prog_10_method_2_code 11 = .ok (.iload_n 3, 1) := by decide +kernel
theorem d_Wk_walked_12 : decode prog_10_method_2_code 12 = .ok (.putfield 31, 3) := by decide +kernel
theorem d_Wk_walked_15 : decode prog_10_method_2_code 15 = .ok (.aload_n 0, 1) := by decide +kernel
theorem d_Wk_walked_16 : decode prog_10_method_2_code 16 = .ok (.iconst 0, 1) := by decide +kernel
theorem d_Wk_walked_17 : decode prog_10_method_2_code 17 = .ok (.putfield 34, 3) := by decide +kernel
theorem d_Wk_walked_20 : decode prog_10_method_2_code 20 = .ok (.aload_n 0, 1) := by decide +kernel
theorem d_Wk_walked_21 : decode prog_10_method_2_code 21 = .ok (.getfield 15, 3) := by decide +kernel
theorem d_Wk_walked_24 : decode prog_10_method_2_code 24 = .ok (.getfield 37, 3) := by decide +kernel
theorem d_Wk_walked_27 : decode prog_10_method_2_code 27 = .ok (.lconst 0, 1) := by decide +kernel
theorem d_Wk_walked_28 : decode prog_10_method_2_code 28 = .ok (.invokestatic 43, 3) := by decide +kernel
theorem d_Wk_walked_31 : decode prog_10_method_2_code 31 = .ok (.aload_n 0, 1) := by decide +kernel
theorem d_Wk_walked_32 : decode prog_10_method_2_code 32 = .ok (.getfield 19, 3) := by decide +kernel
theorem d_Wk_walked_35 : decode prog_10_method_2_code 35 = .ok (.invokevirtual 49, 3) := by decide +kernel
theorem d_Wk_walked_38 : decode prog_10_method_2_code 38 = .ok (.aload_n 0, 1) := by decide +kernel
theorem d_Wk_walked_39 : decode prog_10_method_2_code 39 = .ok (.getfield 23, 3) := by decide +kernel
theorem d_Wk_walked_42 : decode prog_10_method_2_code 42 = .ok (.ifnonnull 7, 3) := by decide +kernel
theorem d_Wk_walked_45 : decode prog_10_method_2_code 45 = .ok (.iconst 0, 1) := by decide +kernel
theorem d_Wk_walked_46 : decode prog_10_method_2_code 46 = .ok (.goto 16, 3) := by decide +kernel
theorem d_Wk_walked_49 : decode prog_10_method_2_code 49 = .ok (.aload_n 0, 1) := by decide +kernel
theorem d_Wk_walked_50 : decode prog_10_method_2_code 50 = .ok (.aload_n 0, 1) := by decide +kernel
theorem d_Wk_walked_51 : decode prog_10_method_2_code 51 = .ok (.getfield 23, 3) := by decide +kernel
theorem d_Wk_walked_54 : decode prog_10_method_2_code 54 = .ok (.getfield 54, 3) := by decide +kernel
theorem d_Wk_walked_57 : decode prog_10_method_2_code 57 = .ok (.iconst 0, 1) := by decide +kernel
theorem d_Wk_walked_58 : decode prog_10_method_2_code 58 = .ok (.iconst 0, 1) := by decide +kernel
theorem d_Wk_walked_59 : decode prog_10_method_2_code 59 = .ok (.invokevirtual 60, 3) := by decide +kernel
theorem d_Wk_walked_62 : decode prog_10_method_2_code 62 = .ok (.istore 4, 2) := by decide +kernel
theorem d_Wk_walked_64 : decode prog_10_method_2_code 64 = .ok (.iload 4, 2) := by decide +kernel
theorem d_Wk_walked_66 : decode prog_10_method_2_code 66 = .ok (.iconst 2, 1) := by decide +kernel
theorem d_Wk_walked_67 : decode prog_10_method_2_code 67 = .ok (.if_icmp .ne 13, 3) := by decide +kernel
theorem d_Wk_walked_70 : decode prog_10_method_2_code 70 = .ok (.aload_n 0, 1) := by decide +kernel
theorem d_Wk_walked_71 : decode prog_10_method_2_code 71 = .ok (.getfield 19, 3) := by decide +kernel
theorem d_Wk_walked_74 : decode prog_10_method_2_code 74 = .ok (.iconst 0, 1) := by decide +kernel
theorem d_Wk_walked_75 : decode prog_10_method_2_code 75 = .ok (.aconst_null, 1) := by decide +kernel
theorem d_Wk_walked_76 : decode prog_10_method_2_code 76 = .ok (.iconst 0, 1) := by decide +kernel
theorem d_Wk_walked_77 : decode prog_10_method_2_code 77 = .ok (.invokevirtual 64, 3) := by decide +kernel
theorem d_Wk_walked_80 : decode prog_10_method_2_code 80 = .ok (.iload 4, 2) := by decide +kernel
theorem d_Wk_walked_82 : decode prog_10_method_2_code 82 = .ok (.ireturn, 1) := by decide +kernel
theorem d_Wk_block_0 : decode prog_10_method_3_code 0 = .ok (.aload_n 1, 1) := by decide +kernel
theorem d_Wk_block_1 : decode prog_10_method_3_code 1 = .ok (.ifnull 9, 3) := by decide +kernel
theorem d_Wk_block_4 : decode prog_10_method_3_code 4 = .ok (.iload_n 2, 1) := by decide +kernel
theorem d_Wk_block_5 : decode prog_10_method_3_code 5 = .ok (.bipush 6, 2) := by decide +kernel
theorem d_Wk_block_7 : decode prog_10_method_3_code 7 = .ok (.if_icmp .le 5, 3) := by decide +kernel
theorem d_Wk_block_10 : decode prog_10_method_3_code 10 = .ok (.iconst 0, 1) := by decide +kernel
theorem d_Wk_block_11 : decode prog_10_method_3_code 11 = .ok (.ireturn, 1) := by decide +kernel
theorem d_Wk_block_12 : decode prog_10_method_3_code 12 = .ok (.aload_n 1, 1) := by decide +kernel
theorem d_Wk_block_13 : decode prog_10_method_3_code 13 = .ok (.getfield 68, 3) := by decide +kernel
theorem d_Wk_block_16 : decode prog_10_method_3_code 16 = .ok (.astore 4, 2) := by decide +kernel
theorem d_Wk_block_18 : decode prog_10_method_3_code 18 = .ok (.aload 4, 2) := by decide +kernel
theorem d_Wk_block_20 : decode prog_10_method_3_code 20 = .ok (.ifnull 31, 3) := by decide +kernel
theorem d_Wk_block_23 : decode prog_10_method_3_code 23 = .ok (.aload_n 0, 1) := by decide +kernel
theorem d_Wk_block_24 : decode prog_10_method_3_code 24 = .ok (.aload 4, 2) := by decide +kernel
theorem d_Wk_block_26 : decode prog_10_method_3_code 26 = .ok (.iload_n 2, 1) := by decide +kernel
theorem d_Wk_block_27 : decode prog_10_method_3_code 27 = .ok (.iload_n 3, 1) := by decide +kernel
theorem d_Wk_block_28 : decode prog_10_method_3_code 28 = .ok (.invokevirtual 74, 3) := by decide +kernel
theorem d_Wk_block_31 : decode prog_10_method_3_code 31 = .ok (.istore 5, 2) := by decide +kernel
theorem d_Wk_block_33 : decode prog_10_method_3_code 33 = .ok (.iload 5, 2) := by decide +kernel
theorem d_Wk_block_35 : decode prog_10_method_3_code 35 = .ok (.ifCond .eq 6, 3) := by decide +kernel
theorem d_Wk_block_38 : decode prog_10_method_3_code 38 = .ok (.iload 5, 2) := by decide +kernel
theorem d_Wk_block_40 : decode prog_10_method_3_code 40 = .ok (.ireturn, 1) := by decide +kernel
theorem d_Wk_block_41 : decode prog_10_method_3_code 41 = .ok (.aload 4, 2) := by decide +kernel
theorem d_Wk_block_43 : decode prog_10_method_3_code 43 = .ok (.getfield 78, 3) := by decide +kernel
theorem d_Wk_block_46 : decode prog_10_method_3_code 46 = .ok (.astore 4, 2) := by decide +kernel
theorem d_Wk_block_48 : decode prog_10_method_3_code 48 = .ok (.goto (-30), 3) := by decide +kernel
theorem d_Wk_block_51 : decode prog_10_method_3_code 51 = .ok (.iconst 0, 1) := by decide +kernel
theorem d_Wk_block_52 : decode prog_10_method_3_code 52 = .ok (.ireturn, 1) := by decide +kernel
theorem d_Wk_statement_0 : decode prog_10_method_4_code 0 = .ok (.aload_n 1, 1) := by decide +kernel
theorem d_Wk_statement_1 : decode prog_10_method_4_code 1 = .ok (.getfield 83, 3) := by decide +kernel
theorem d_Wk_statement_4 : decode prog_10_method_4_code 4 = .ok (.bipush 58, 2) := by decide +kernel
theorem d_Wk_statement_6 : decode prog_10_method_4_code 6 = .ok (.if_icmp .ne 5, 3) := by decide +kernel
theorem d_Wk_statement_9 : decode prog_10_method_4_code 9 = .ok (.iconst 0, 1) := by decide +kernel
theorem d_Wk_statement_10 : decode prog_10_method_4_code 10 = .ok (.ireturn, 1) := by decide +kernel
theorem d_Wk_statement_11 : decode prog_10_method_4_code 11 = .ok (.aload_n 0, 1) := by decide +kernel
theorem d_Wk_statement_12 : decode prog_10_method_4_code 12 = .ok (.invokevirtual 87, 3) := by decide +kernel
theorem d_Wk_statement_15 : decode prog_10_method_4_code 15 = .ok (.ifCond .ne 5, 3) := by decide +kernel
theorem d_Wk_statement_18 : decode prog_10_method_4_code 18 = .ok (.iconst 2, 1) := by decide +kernel
theorem d_Wk_statement_19 : decode prog_10_method_4_code 19 = .ok (.ireturn, 1) := by decide +kernel
theorem d_Wk_statement_20 : decode prog_10_method_4_code 20 = .ok (.aload_n 1, 1) := by decide +kernel
theorem d_Wk_statement_21 : decode prog_10_method_4_code 21 = .ok (.getfield 83, 3) := by decide +kernel
theorem d_Wk_statement_24 : decode prog_10_method_4_code 24 = .ok (.lookupswitch 152 #[(38, 142), (39, 130), (42, 92), (63, 84), (64, 124), (65, 116), (91, 100), (124, 136), (126, 108)], 84) := by decide +kernel
theorem d_Wk_statement_108 : decode prog_10_method_4_code 108 = .ok (.aload_n 0, 1) := by decide +kernel
theorem d_Wk_statement_109 : decode prog_10_method_4_code 109 = .ok (.aload_n 1, 1) := by decide +kernel
theorem d_Wk_statement_110 : decode prog_10_method_4_code 110 = .ok (.iload_n 2, 1) := by decide +kernel
theorem d_Wk_statement_111 : decode prog_10_method_4_code 111 = .ok (.iload_n 3, 1) := by decide +kernel
theorem d_Wk_statement_112 : decode prog_10_method_4_code 112 = .ok (.invokevirtual 91, 3) := by decide +kernel
theorem d_Wk_statement_115 : decode prog_10_method_4_code 115 = .ok (.ireturn, 1) := by decide +kernel
theorem d_Wk_statement_116 : decode prog_10_method_4_code 116 = .ok (.aload_n 0, 1) := by decide +kernel
theorem d_Wk_statement_117 : decode prog_10_method_4_code 117 = .ok (.aload_n 1, 1) := by decide +kernel
theorem d_Wk_statement_118 : decode prog_10_method_4_code 118 = .ok (.iload_n 2, 1) := by decide +kernel
theorem d_Wk_statement_119 : decode prog_10_method_4_code 119 = .ok (.iload_n 3, 1) := by decide +kernel
theorem d_Wk_statement_120 : decode prog_10_method_4_code 120 = .ok (.invokevirtual 94, 3) := by decide +kernel
theorem d_Wk_statement_123 : decode prog_10_method_4_code 123 = .ok (.ireturn, 1) := by decide +kernel
theorem d_Wk_statement_124 : decode prog_10_method_4_code 124 = .ok (.aload_n 0, 1) := by decide +kernel
theorem d_Wk_statement_125 : decode prog_10_method_4_code 125 = .ok (.aload_n 1, 1) := by decide +kernel
theorem d_Wk_statement_126 : decode prog_10_method_4_code 126 = .ok (.iload_n 2, 1) := by decide +kernel
theorem d_Wk_statement_127 : decode prog_10_method_4_code 127 = .ok (.iload_n 3, 1) := by decide +kernel
theorem d_Wk_statement_128 : decode prog_10_method_4_code 128 = .ok (.invokevirtual 97, 3) := by decide +kernel
theorem d_Wk_statement_131 : decode prog_10_method_4_code 131 = .ok (.ireturn, 1) := by decide +kernel
theorem d_Wk_statement_132 : decode prog_10_method_4_code 132 = .ok (.aload_n 0, 1) := by decide +kernel
theorem d_Wk_statement_133 : decode prog_10_method_4_code 133 = .ok (.aload_n 1, 1) := by decide +kernel
theorem d_Wk_statement_134 : decode prog_10_method_4_code 134 = .ok (.iload_n 2, 1) := by decide +kernel
theorem d_Wk_statement_135 : decode prog_10_method_4_code 135 = .ok (.iload_n 3, 1) := by decide +kernel
theorem d_Wk_statement_136 : decode prog_10_method_4_code 136 = .ok (.invokevirtual 100, 3) := by decide +kernel
theorem d_Wk_statement_139 : decode prog_10_method_4_code 139 = .ok (.ireturn, 1) := by decide +kernel
theorem d_Wk_statement_140 : decode prog_10_method_4_code 140 = .ok (.aload_n 0, 1) := by decide +kernel
theorem d_Wk_statement_141 : decode prog_10_method_4_code 141 = .ok (.aload_n 1, 1) := by decide +kernel
theorem d_Wk_statement_142 : decode prog_10_method_4_code 142 = .ok (.iload_n 2, 1) := by decide +kernel
theorem d_Wk_statement_143 : decode prog_10_method_4_code 143 = .ok (.iload_n 3, 1) := by decide +kernel
theorem d_Wk_statement_144 : decode prog_10_method_4_code 144 = .ok (.invokevirtual 103, 3) := by decide +kernel
theorem d_Wk_statement_147 : decode prog_10_method_4_code 147 = .ok (.ireturn, 1) := by decide +kernel
theorem d_Wk_statement_148 : decode prog_10_method_4_code 148 = .ok (.aload_n 0, 1) := by decide +kernel
theorem d_Wk_statement_149 : decode prog_10_method_4_code 149 = .ok (.aload_n 1, 1) := by decide +kernel
theorem d_Wk_statement_150 : decode prog_10_method_4_code 150 = .ok (.invokevirtual 106, 3) := by decide +kernel
theorem d_Wk_statement_153 : decode prog_10_method_4_code 153 = .ok (.ireturn, 1) := by decide +kernel
theorem d_Wk_statement_154 : decode prog_10_method_4_code 154 = .ok (.aload_n 0, 1) := by decide +kernel
theorem d_Wk_statement_155 : decode prog_10_method_4_code 155 = .ok (.aload_n 1, 1) := by decide +kernel
theorem d_Wk_statement_156 : decode prog_10_method_4_code 156 = .ok (.invokevirtual 110, 3) := by decide +kernel
theorem d_Wk_statement_159 : decode prog_10_method_4_code 159 = .ok (.ireturn, 1) := by decide +kernel
theorem d_Wk_statement_160 : decode prog_10_method_4_code 160 = .ok (.aload_n 0, 1) := by decide +kernel
theorem d_Wk_statement_161 : decode prog_10_method_4_code 161 = .ok (.aload_n 1, 1) := by decide +kernel
theorem d_Wk_statement_162 : decode prog_10_method_4_code 162 = .ok (.invokevirtual 113, 3) := by decide +kernel
theorem d_Wk_statement_165 : decode prog_10_method_4_code 165 = .ok (.ireturn, 1) := by decide +kernel
theorem d_Wk_statement_166 : decode prog_10_method_4_code 166 = .ok (.aload_n 0, 1) := by decide +kernel
theorem d_Wk_statement_167 : decode prog_10_method_4_code 167 = .ok (.getfield 19, 3) := by decide +kernel
theorem d_Wk_statement_170 : decode prog_10_method_4_code 170 = .ok (.aload_n 1, 1) := by decide +kernel
theorem d_Wk_statement_171 : decode prog_10_method_4_code 171 = .ok (.invokevirtual 116, 3) := by decide +kernel
theorem d_Wk_statement_174 : decode prog_10_method_4_code 174 = .ok (.iconst 0, 1) := by decide +kernel
theorem d_Wk_statement_175 : decode prog_10_method_4_code 175 = .ok (.ireturn, 1) := by decide +kernel
theorem d_Wk_statement_176 : decode prog_10_method_4_code 176 = .ok (.aload_n 0, 1) := by decide +kernel
theorem d_Wk_statement_177 : decode prog_10_method_4_code 177 = .ok (.aload_n 1, 1) := by decide +kernel
theorem d_Wk_statement_178 : decode prog_10_method_4_code 178 = .ok (.invokevirtual 120, 3) := by decide +kernel
theorem d_Wk_statement_181 : decode prog_10_method_4_code 181 = .ok (.ireturn, 1) := by decide +kernel
