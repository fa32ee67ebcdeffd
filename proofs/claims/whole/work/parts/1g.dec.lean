theorem d_Md_complete_0 : decode prog_12_method_17_code 0 = .ok (.aload_n 0, 1) := by decide +kernel
theorem d_Md_complete_1 : decode prog_12_method_17_code 1 = .ok (.getfield 170, 3) := by decide +kernel
theorem d_Md_complete_4 : decode prog_12_method_17_code 4 = .ok (.iconst (-1), 1) := by decide +kernel
theorem d_Md_complete_5 : decode prog_12_method_17_code 5 = .ok (.if_icmp .ne 165, 3) := by decide +kernel
theorem d_Md_complete_8 : decode prog_12_method_17_code 8 = .ok (.aload_n 0, 1) := by decide +kernel
theorem d_Md_complete_9 : decode prog_12_method_17_code 9 = .ok (.getfield 183, 3) := by decide +kernel
theorem d_Md_complete_12 : decode prog_12_method_17_code 12 = .ok (.ifCond .le 158, 3) := by decide +kernel
theorem d_Md_complete_15 : decode prog_12_method_17_code 15 = .ok (.aload_n 0, 1) := by decide +kernel
theorem d_Md_complete_16 : decode prog_12_method_17_code 16 = .ok (.getfield 55, 3) := by decide +kernel
theorem d_Md_complete_19 : decode prog_12_method_17_code 19 = .ok (.aload_n 0, 1) := by decide +kernel
theorem d_Md_complete_20 : decode prog_12_method_17_code 20 = .ok (.getfield 183, 3) := by decide +kernel
theorem d_Md_complete_23 : decode prog_12_method_17_code 23 = .ok (.iconst 1, 1) := by decide +kernel
theorem d_Md_complete_24 : decode prog_12_method_17_code 24 = .ok (.isub, 1) := by decide +kernel
theorem d_Md_complete_25 : decode prog_12_method_17_code 25 = .ok (.iaload, 1) := by decide +kernel
theorem d_Md_complete_26 : decode prog_12_method_17_code 26 = .ok (.bipush 95, 2) := by decide +kernel
theorem d_Md_complete_28 : decode prog_12_method_17_code 28 = .ok (.if_icmp .eq 35, 3) := by decide +kernel
theorem d_Md_complete_31 : decode prog_12_method_17_code 31 = .ok (.aload_n 0, 1) := by decide +kernel
theorem d_Md_complete_32 : decode prog_12_method_17_code 32 = .ok (.getfield 55, 3) := by decide +kernel
theorem d_Md_complete_35 : decode prog_12_method_17_code 35 = .ok (.aload_n 0, 1) := by decide +kernel
theorem d_Md_complete_36 : decode prog_12_method_17_code 36 = .ok (.getfield 183, 3) := by decide +kernel
theorem d_Md_complete_39 : decode prog_12_method_17_code 39 = .ok (.iconst 1, 1) := by decide +kernel
theorem d_Md_complete_40 : decode prog_12_method_17_code 40 = .ok (.isub, 1) := by decide +kernel
theorem d_Md_complete_41 : decode prog_12_method_17_code 41 = .ok (.iaload, 1) := by decide +kernel
theorem d_Md_complete_42 : decode prog_12_method_17_code 42 = .ok (.bipush 39, 2) := by decide +kernel
theorem d_Md_complete_44 : decode prog_12_method_17_code 44 = .ok (.if_icmp .eq 19, 3) := by decide +kernel
theorem d_Md_complete_47 : decode prog_12_method_17_code 47 = .ok (.aload_n 0, 1) := by decide +kernel
theorem d_Md_complete_48 : decode prog_12_method_17_code 48 = .ok (.getfield 55, 3) := by decide +kernel
theorem d_Md_complete_51 : decode prog_12_method_17_code 51 = .ok (.aload_n 0, 1) := by decide +kernel
theorem d_Md_complete_52 : decode prog_12_method_17_code 52 = .ok (.getfield 183, 3) := by decide +kernel
theorem d_Md_complete_55 : decode prog_12_method_17_code 55 = .ok (.iconst 1, 1) := by decide +kernel
theorem d_Md_complete_56 : decode prog_12_method_17_code 56 = .ok (.isub, 1) := by decide +kernel
theorem d_Md_complete_57 : decode prog_12_method_17_code 57 = .ok (.iaload, 1) := by decide +kernel
theorem d_Md_complete_58 : decode prog_12_method_17_code 58 = .ok (.bipush 64, 2) := by decide +kernel
theorem d_Md_complete_60 : decode prog_12_method_17_code 60 = .ok (.if_icmp .ne 110, 3) := by decide +kernel
theorem d_Md_complete_63 : decode prog_12_method_17_code 63 = .ok (.aload_n 0, 1) := by decide +kernel
theorem d_Md_complete_64 : decode prog_12_method_17_code 64 = .ok (.getfield 55, 3) := by decide +kernel
theorem d_Md_complete_67 : decode prog_12_method_17_code 67 = .ok (.aload_n 0, 1) := by decide +kernel
theorem d_Md_complete_68 : decode prog_12_method_17_code 68 = .ok (.getfield 183, 3) := by decide +kernel
theorem d_Md_complete_71 : decode prog_12_method_17_code 71 = .ok (.iconst 1, 1) := by decide +kernel
theorem d_Md_complete_72 : decode prog_12_method_17_code 72 = .ok (.isub, 1) := by decide +kernel
theorem d_Md_complete_73 : decode prog_12_method_17_code 73 = .ok (.iaload, 1) := by decide +kernel
theorem d_Md_complete_74 : decode prog_12_method_17_code 74 = .ok (.istore_n 1, 1) := by decide +kernel
theorem d_Md_complete_75 : decode prog_12_method_17_code 75 = .ok (.iconst 0, 1) := by decide +kernel
theorem d_Md_complete_76 : decode prog_12_method_17_code 76 = .ok (.istore_n 2, 1) := by decide +kernel
theorem d_Md_complete_77 : decode prog_12_method_17_code 77 = .ok (.iload_n 1, 1) := by decide +kernel
theorem d_Md_complete_78 : decode prog_12_method_17_code 78 = .ok (.bipush 64, 2) := by decide +kernel
theorem d_Md_complete_80 : decode prog_12_method_17_code 80 = .ok (.if_icmp .ne 52, 3) := by decide +kernel
theorem d_Md_complete_83 : decode prog_12_method_17_code 83 = .ok (.aload_n 0, 1) := by decide +kernel
theorem d_Md_complete_84 : decode prog_12_method_17_code 84 = .ok (.bipush 58, 2) := by decide +kernel
theorem d_Md_complete_86 : decode prog_12_method_17_code 86 = .ok (.invokevirtual 197, 3) := by decide +kernel
theorem d_Md_complete_89 : decode prog_12_method_17_code 89 = .ok (.aload_n 0, 1) := by decide +kernel
theorem d_Md_complete_90 : decode prog_12_method_17_code 90 = .ok (.invokevirtual 173, 3) := by decide +kernel
theorem d_Md_complete_93 : decode prog_12_method_17_code 93 = .ok (.bipush 48, 2) := by decide +kernel
theorem d_Md_complete_95 : decode prog_12_method_17_code 95 = .ok (.isub, 1) := by decide +kernel
theorem d_Md_complete_96 : decode prog_12_method_17_code 96 = .ok (.istore_n 2, 1) := by decide +kernel
theorem d_Md_complete_97 : decode prog_12_method_17_code 97 = .ok (.aload_n 0, 1) := by decide +kernel
theorem d_Md_complete_98 : decode prog_12_method_17_code 98 = .ok (.getfield 170, 3) := by decide +kernel
theorem d_Md_complete_101 : decode prog_12_method_17_code 101 = .ok (.iconst (-1), 1) := by decide +kernel
theorem d_Md_complete_102 : decode prog_12_method_17_code 102 = .ok (.if_icmp .ne 20, 3) := by decide +kernel
theorem d_Md_complete_105 : decode prog_12_method_17_code 105 = .ok (.iload_n 2, 1) := by decide +kernel
theorem d_Md_complete_106 : decode prog_12_method_17_code 106 = .ok (.ifCond .lt 8, 3) := by decide +kernel
theorem d_Md_complete_109 : decode prog_12_method_17_code 109 = .ok (.iload_n 2, 1) := by decide +kernel
theorem d_Md_complete_110 : decode prog_12_method_17_code 110 = .ok (.iconst 5, 1) := by decide +kernel
theorem d_Md_complete_111 : decode prog_12_method_17_code 111 = .ok (.if_icmp .le 11, 3) := by decide +kernel
theorem d_Md_complete_114 : decode prog_12_method_17_code 114 = .ok (.aload_n 0, 1) := by decide +kernel
theorem d_Md_complete_115 : decode prog_12_method_17_code 115 = .ok (.aload_n 0, 1) := by decide +kernel
theorem d_Md_complete_116 : decode prog_12_method_17_code 116 = .ok (.getfield 167, 3) := by decide +kernel
theorem d_Md_complete_119 : decode prog_12_method_17_code 119 = .ok (.putfield 170, 3) := by decide +kernel
theorem d_Md_complete_122 : decode prog_12_method_17_code 122 = .ok (.aload_n 0, 1) := by decide +kernel
theorem d_Md_complete_123 : decode prog_12_method_17_code 123 = .ok (.dup, 1) := by decide +kernel
theorem d_Md_complete_124 : decode prog_12_method_17_code 124 = .ok (.getfield 167, 3) := by decide +kernel
theorem d_Md_complete_127 : decode prog_12_method_17_code 127 = .ok (.iconst 1, 1) := by decide +kernel
theorem d_Md_complete_128 : decode prog_12_method_17_code 128 = .ok (.iadd, 1) := by decide +kernel
theorem d_Md_complete_129 : decode prog_12_method_17_code 129 = .ok (.putfield 167, 3) := by decide +kernel
theorem d_Md_complete_132 : decode prog_12_method_17_code 132 = .ok (.aload_n 0, 1) := by decide +kernel
theorem d_Md_complete_133 : decode prog_12_method_17_code 133 = .ok (.getfield 170, 3) := by decide +kernel
theorem d_Md_complete_136 : decode prog_12_method_17_code 136 = .ok (.iconst (-1), 1) := by decide +kernel
theorem d_Md_complete_137 : decode prog_12_method_17_code 137 = .ok (.if_icmp .eq 4, 3) := by decide +kernel
theorem d_Md_complete_140 : decode prog_12_method_17_code 140 = .ok (.return_, 1) := by decide +kernel
theorem d_Md_complete_141 : decode prog_12_method_17_code 141 = .ok (.aload_n 0, 1) := by decide +kernel
theorem d_Md_complete_142 : decode prog_12_method_17_code 142 = .ok (.iload_n 1, 1) := by decide +kernel
theorem d_Md_complete_143 : decode prog_12_method_17_code 143 = .ok (.iload_n 2, 1) := by decide +kernel
theorem d_Md_complete_144 : decode prog_12_method_17_code 144 = .ok (.invokevirtual 190, 3) := by decide +kernel
theorem d_Md_complete_147 : decode prog_12_method_17_code 147 = .ok (.aload_n 0, 1) := by decide +kernel
theorem d_Md_complete_148 : decode prog_12_method_17_code 148 = .ok (.dup, 1) := by decide +kernel
theorem d_Md_complete_149 : decode prog_12_method_17_code 149 = .ok (.getfield 183, 3) := by decide +kernel
theorem d_Md_complete_152 : decode prog_12_method_17_code 152 = .ok (.iconst 1, 1) := by decide +kernel
theorem d_Md_complete_153 : decode prog_12_method_17_code 153 = .ok (.isub, 1) := by decide +kernel
theorem d_Md_complete_154 : decode prog_12_method_17_code 154 = .ok (.putfield 183, 3) := by decide +kernel
theorem d_Md_complete_157 : decode prog_12_method_17_code 157 = .ok (.aload_n 0, 1) := by decide +kernel
theorem d_Md_complete_158 : decode prog_12_method_17_code 158 = .ok (.dup, 1) := by decide +kernel
theorem d_Md_complete_159 : decode prog_12_method_17_code 159 = .ok (.getfield 194, 3) := by decide +kernel
theorem d_Md_complete_162 : decode prog_12_method_17_code 162 = .ok (.iconst 1, 1) := by decide +kernel
theorem d_Md_complete_163 : decode prog_12_method_17_code 163 = .ok (.isub, 1) := by decide +kernel
theorem d_Md_complete_164 : decode prog_12_method_17_code 164 = .ok (.putfield 194, 3) := by decide +kernel
theorem d_Md_complete_167 : decode prog_12_method_17_code 167 = .ok (.goto (-167), 3) := by decide +kernel
theorem d_Md_complete_170 : decode prog_12_method_17_code 170 = .ok (.return_, 1) := by decide +kernel
theorem d_Md_readPlain_0 : decode prog_12_method_18_code 0 = .ok (.aload_n 0, 1) := by decide +kernel
theorem d_Md_readPlain_1 : decode prog_12_method_18_code 1 = .ok (.invokevirtual 173, 3) := by decide +kernel
theorem d_Md_readPlain_4 : decode prog_12_method_18_code 4 = .ok (.istore_n 1, 1) := by decide +kernel
theorem d_Md_readPlain_5 : decode prog_12_method_18_code 5 = .ok (.iload_n 1, 1) := by decide +kernel
theorem d_Md_readPlain_6 : decode prog_12_method_18_code 6 = .ok (.invokestatic 201, 3) := by decide +kernel
theorem d_Md_readPlain_9 : decode prog_12_method_18_code 9 = .ok (.ifCond .eq 61, 3) := by decide +kernel
theorem d_Md_readPlain_12 : decode prog_12_method_18_code 12 = .ok (.iconst 0, 1) := by decide +kernel
theorem d_Md_readPlain_13 : decode prog_12_method_18_code 13 = .ok (.istore_n 2, 1) := by decide +kernel
theorem d_Md_readPlain_14 : decode prog_12_method_18_code 14 = .ok (.iconst 0, 1) := by decide +kernel
theorem d_Md_readPlain_15 : decode prog_12_method_18_code 15 = .ok (.istore_n 3, 1) := by decide +kernel
theorem d_Md_readPlain_16 : decode prog_12_method_18_code 16 = .ok (.iload_n 3, 1) := by decide +kernel
theorem d_Md_readPlain_17 : decode prog_12_method_18_code 17 = .ok (.iconst 4, 1) := by decide +kernel
theorem d_Md_readPlain_18 : decode prog_12_method_18_code 18 = .ok (.if_icmp .ge 42, 3) := by decide +kernel
theorem d_Md_readPlain_21 : decode prog_12_method_18_code 21 = .ok (.aload_n 0, 1) := by decide +kernel
theorem d_Md_readPlain_22 : decode prog_12_method_18_code 22 = .ok (.invokevirtual 173, 3) := by decide +kernel
theorem d_Md_readPlain_25 : decode prog_12_method_18_code 25 = .ok (.invokestatic 201, 3) := by decide +kernel
theorem d_Md_readPlain_28 : decode prog_12_method_18_code 28 = .ok (.ifCond .eq 32, 3) := by decide +kernel
theorem d_Md_readPlain_31 : decode prog_12_method_18_code 31 = .ok (.bipush 10, 2) := by decide +kernel
theorem d_Md_readPlain_33 : decode prog_12_method_18_code 33 = .ok (.iload_n 2, 1) := by decide +kernel
theorem d_Md_readPlain_34 : decode prog_12_method_18_code 34 = .ok (.imul, 1) := by decide +kernel
theorem d_Md_readPlain_35 : decode prog_12_method_18_code 35 = .ok (.aload_n 0, 1) := by decide +kernel
theorem d_Md_readPlain_36 : decode prog_12_method_18_code 36 = .ok (.invokevirtual 173, 3) := by decide +kernel
theorem d_Md_readPlain_39 : decode prog_12_method_18_code 39 = .ok (.iadd, 1) := by decide +kernel
theorem d_Md_readPlain_40 : decode prog_12_method_18_code 40 = .ok (.bipush 48, 2) := by decide +kernel
theorem d_Md_readPlain_42 : decode prog_12_method_18_code 42 = .ok (.isub, 1) := by decide +kernel
theorem d_Md_readPlain_43 : decode prog_12_method_18_code 43 = .ok (.istore_n 2, 1) := by decide +kernel
theorem d_Md_readPlain_44 : decode prog_12_method_18_code 44 = .ok (.aload_n 0, 1) := by decide +kernel
theorem d_Md_readPlain_45 : decode prog_12_method_18_code 45 = .ok (.dup, 1) := by decide +kernel
theorem d_Md_readPlain_46 : decode prog_12_method_18_code 46 = .ok (.getfield 167, 3) := by decide +kernel
theorem d_Md_readPlain_49 : decode prog_12_method_18_code 49 = .ok (.iconst 1, 1) := by decide +kernel
theorem d_Md_readPlain_50 : decode prog_12_method_18_code 50 = .ok (.iadd, 1) := by decide +kernel
theorem d_Md_readPlain_51 : decode prog_12_method_18_code 51 = .ok (.putfield 167, 3) := by decide +kernel
theorem d_Md_readPlain_54 : decode prog_12_method_18_code 54 = .ok (.iinc 3 1, 3) := by decide +kernel
theorem d_Md_readPlain_57 : decode prog_12_method_18_code 57 = .ok (.goto (-41), 3) := by decide +kernel
theorem d_Md_readPlain_60 : decode prog_12_method_18_code 60 = .ok (.aload_n 0, 1) := by decide +kernel
theorem d_Md_readPlain_61 : decode prog_12_method_18_code 61 = .ok (.bipush 48, 2) := by decide +kernel
theorem d_Md_readPlain_63 : decode prog_12_method_18_code 63 = .ok (.iload_n 2, 1) := by decide +kernel
theorem d_Md_readPlain_64 : decode prog_12_method_18_code 64 = .ok (.invokevirtual 190, 3) := by decide +kernel
theorem d_Md_readPlain_67 : decode prog_12_method_18_code 67 = .ok (.goto 67, 3) := by decide +kernel
theorem d_Md_readPlain_70 : decode prog_12_method_18_code 70 = .ok (.iload_n 1, 1) := by decide +kernel
theorem d_Md_readPlain_71 : decode prog_12_method_18_code 71 = .ok (.invokestatic 205, 3) := by decide +kernel
theorem d_Md_readPlain_74 : decode prog_12_method_18_code 74 = .ok (.ifCond .eq 26, 3) := by decide +kernel
theorem d_Md_readPlain_77 : decode prog_12_method_18_code 77 = .ok (.aload_n 0, 1) := by decide +kernel
theorem d_Md_readPlain_78 : decode prog_12_method_18_code 78 = .ok (.bipush 97, 2) := by decide +kernel
theorem d_Md_readPlain_80 : decode prog_12_method_18_code 80 = .ok (.iload_n 1, 1) := by decide +kernel
theorem d_Md_readPlain_81 : decode prog_12_method_18_code 81 = .ok (.bipush 97, 2) := by decide +kernel
theorem d_Md_readPlain_83 : decode prog_12_method_18_code 83 = .ok (.isub, 1) := by decide +kernel
theorem d_Md_readPlain_84 : decode prog_12_method_18_code 84 = .ok (.invokevirtual 190, 3) := by decide +kernel
theorem d_Md_readPlain_87 : decode prog_12_method_18_code 87 = .ok (.aload_n 0, 1) := by decide +kernel
theorem d_Md_readPlain_88 : decode prog_12_method_18_code 88 = .ok (.dup, 1) := by decide +kernel
theorem d_Md_readPlain_89 : decode prog_12_method_18_code 89 = .ok (.getfield 167, 3) := by decide +kernel
theorem d_Md_readPlain_92 : decode prog_12_method_18_code 92 = .ok (.iconst 1, 1) := by decide +kernel
theorem d_Md_readPlain_93 : decode prog_12_method_18_code 93 = .ok (.iadd, 1) := by decide +kernel
theorem d_Md_readPlain_94 : decode prog_12_method_18_code 94 = .ok (.putfield 167, 3) := by decide +kernel
theorem d_Md_readPlain_97 : decode prog_12_method_18_code 97 = .ok (.goto 37, 3) := by decide +kernel
theorem d_Md_readPlain_100 : decode prog_12_method_18_code 100 = .ok (.iload_n 1, 1) := by decide +kernel
theorem d_Md_readPlain_101 : decode prog_12_method_18_code 101 = .ok (.bipush 35, 2) := by decide +kernel
theorem d_Md_readPlain_103 : decode prog_12_method_18_code 103 = .ok (.if_icmp .ne 23, 3) := by decide +kernel
theorem d_Md_readPlain_106 : decode prog_12_method_18_code 106 = .ok (.aload_n 0, 1) := by decide +kernel
theorem d_Md_readPlain_107 : decode prog_12_method_18_code 107 = .ok (.bipush 35, 2) := by decide +kernel
theorem d_Md_readPlain_109 : decode prog_12_method_18_code 109 = .ok (.iconst 0, 1) := by decide +kernel
theorem d_Md_readPlain_110 : decode prog_12_method_18_code 110 = .ok (.invokevirtual 190, 3) := by decide +kernel
theorem d_Md_readPlain_113 : decode prog_12_method_18_code 113 = .ok (.aload_n 0, 1) := by decide +kernel
theorem d_Md_readPlain_114 : decode prog_12_method_18_code 114 = .ok (.dup, 1) := by decide +kernel
theorem d_Md_readPlain_115 : decode prog_12_method_18_code 115 = .ok (.getfield 167, 3) := by decide +kernel
theorem d_Md_readPlain_118 : decode prog_12_method_18_code 118 = .ok (.iconst 1, 1) := by decide +kernel
theorem d_Md_readPlain_119 : decode prog_12_method_18_code 119 = .ok (.iadd, 1) := by decide +kernel
theorem d_Md_readPlain_120 : decode prog_12_method_18_code 120 = .ok (.putfield 167, 3) := by decide +kernel
theorem d_Md_readPlain_123 : decode prog_12_method_18_code 123 = .ok (.goto 11, 3) := by decide +kernel
theorem d_Md_readPlain_126 : decode prog_12_method_18_code 126 = .ok (.aload_n 0, 1) := by decide +kernel
theorem d_Md_readPlain_127 : decode prog_12_method_18_code 127 = .ok (.aload_n 0, 1) := by decide +kernel
theorem d_Md_readPlain_128 : decode prog_12_method_18_code 128 = .ok (.getfield 167, 3) := by decide +kernel
theorem d_Md_readPlain_131 : decode prog_12_method_18_code 131 = .ok (.putfield 170, 3) := by decide +kernel
theorem d_Md_readPlain_134 : decode prog_12_method_18_code 134 = .ok (.aload_n 0, 1) := by decide +kernel
theorem d_Md_readPlain_135 : decode prog_12_method_18_code 135 = .ok (.invokevirtual 208, 3) := by decide +kernel
theorem d_Md_readPlain_138 : decode prog_12_method_18_code 138 = .ok (.return_, 1) := by decide +kernel
theorem d_Md_hasParen_0 : decode prog_12_method_19_code 0 = .ok (.iconst 0, 1) := by decide +kernel
theorem d_Md_hasParen_1 : decode prog_12_method_19_code 1 = .ok (.istore_n 1, 1) := by decide +kernel
theorem d_Md_hasParen_2 : decode prog_12_method_19_code 2 = .ok (.iconst 0, 1) := by decide +kernel
theorem d_Md_hasParen_3 : decode prog_12_method_19_code 3 = .ok (.istore_n 2, 1) := by decide +kernel
theorem d_Md_hasParen_4 : decode prog_12_method_19_code 4 = .ok (.iload_n 2, 1) := by decide +kernel
theorem d_Md_hasParen_5 : decode prog_12_method_19_code 5 = .ok (.aload_n 0, 1) := by decide +kernel
theorem d_Md_hasParen_6 : decode prog_12_method_19_code 6 = .ok (.getfield 183, 3) := by decide +kernel
theorem d_Md_hasParen_9 : decode prog_12_method_19_code 9 = .ok (.if_icmp .ge 30, 3) := by decide +kernel
theorem d_Md_hasParen_12 : decode prog_12_method_19_code 12 = .ok (.iload_n 1, 1) := by decide +kernel
theorem d_Md_hasParen_13 : decode prog_12_method_19_code 13 = .ok (.ifCond .ne 14, 3) := by decide +kernel
theorem d_Md_hasParen_16 : decode prog_12_method_19_code 16 = .ok (.aload_n 0, 1) := by decide +kernel
theorem d_Md_hasParen_17 : decode prog_12_method_19_code 17 = .ok (.getfield 55, 3) := by decide +kernel
theorem d_Md_hasParen_20 : decode prog_12_method_19_code 20 = .ok (.iload_n 2, 1) := by decide +kernel
theorem d_Md_hasParen_21 : decode prog_12_method_19_code 21 = .ok (.iaload, 1) := by decide +kernel
theorem d_Md_hasParen_22 : decode prog_12_method_19_code 22 = .ok (.bipush 40, 2) := by decide +kernel
theorem d_Md_hasParen_24 : decode prog_12_method_19_code 24 = .ok (.if_icmp .ne 7, 3) := by decide +kernel
theorem d_Md_hasParen_27 : decode prog_12_method_19_code 27 = .ok (.iconst 1, 1) := by decide +kernel
theorem d_Md_hasParen_28 : decode prog_12_method_19_code 28 = .ok (.goto 4, 3) := by decide +kernel
theorem d_Md_hasParen_31 : decode prog_12_method_19_code 31 = .ok (.iconst 0, 1) := by decide +kernel
theorem d_Md_hasParen_32 : decode prog_12_method_19_code 32 = .ok (.istore_n 1, 1) := by decide +kernel
theorem d_Md_hasParen_33 : decode prog_12_method_19_code 33 = .ok (.iinc 2 1, 3) := by decide +kernel
theorem d_Md_hasParen_36 : decode prog_12_method_19_code 36 = .ok (.goto (-32), 3) := by decide +kernel
theorem d_Md_hasParen_39 : decode prog_12_method_19_code 39 = .ok (.iload_n 1, 1) := by decide +kernel
theorem d_Md_hasParen_40 : decode prog_12_method_19_code 40 = .ok (.ireturn, 1) := by decide +kernel
theorem d_Md_hasCompare_0 : decode prog_12_method_20_code 0 = .ok (.aload_n 0, 1) := by decide +kernel
theorem d_Md_hasCompare_1 : decode prog_12_method_20_code 1 = .ok (.getfield 183, 3) := by decide +kernel
theorem d_Md_hasCompare_4 : decode prog_12_method_20_code 4 = .ok (.iconst 1, 1) := by decide +kernel
theorem d_Md_hasCompare_5 : decode prog_12_method_20_code 5 = .ok (.isub, 1) := by decide +kernel
theorem d_Md_hasCompare_6 : decode prog_12_method_20_code 6 = .ok (.istore_n 1, 1) := by decide +kernel
theorem d_Md_hasCompare_7 : decode prog_12_method_20_code 7 = .ok (.iload_n 1, 1) := by decide +kernel
theorem d_Md_hasCompare_8 : decode prog_12_method_20_code 8 = .ok (.ifCond .lt 35, 3) := by decide +kernel
theorem d_Md_hasCompare_11 : decode prog_12_method_20_code 11 = .ok (.aload_n 0, 1) := by decide +kernel
theorem d_Md_hasCompare_12 : decode prog_12_method_20_code 12 = .ok (.getfield 55, 3) := by decide +kernel
theorem d_Md_hasCompare_15 : decode prog_12_method_20_code 15 = .ok (.iload_n 1, 1) := by decide +kernel
theorem d_Md_hasCompare_16 : decode prog_12_method_20_code 16 = .ok (.iaload, 1) := by decide +kernel
theorem d_Md_hasCompare_17 : decode prog_12_method_20_code 17 = .ok (.bipush 40, 2) := by decide +kernel
theorem d_Md_hasCompare_19 : decode prog_12_method_20_code 19 = .ok (.if_icmp .eq 24, 3) := by decide +kernel
theorem d_Md_hasCompare_22 : decode prog_12_method_20_code 22 = .ok (.aload_n 0, 1) := by decide +kernel
theorem d_Md_hasCompare_23 : decode prog_12_method_20_code 23 = .ok (.getfield 55, 3) := by decide +kernel
theorem d_Md_hasCompare_26 : decode prog_12_method_20_code 26 = .ok (.iload_n 1, 1) := by decide +kernel
theorem d_Md_hasCompare_27 : decode prog_12_method_20_code 27 = .ok (.iaload, 1) := by decide +kernel
theorem d_Md_hasCompare_28 : decode prog_12_method_20_code 28 = .ok (.invokestatic 186, 3) := by decide +kernel
theorem d_Md_hasCompare_31 : decode prog_12_method_20_code 31 = .ok (.iconst 1, 1) := by decide +kernel
theorem d_Md_hasCompare_32 : decode prog_12_method_20_code 32 = .ok (.if_icmp .ne 5, 3) := by decide +kernel
theorem d_Md_hasCompare_35 : decode prog_12_method_20_code 35 = .ok (.iconst 1, 1) := by decide +kernel
theorem d_Md_hasCompare_36 : decode prog_12_method_20_code 36 = .ok (.ireturn, 1) := by decide +kernel
theorem d_Md_hasCompare_37 : decode prog_12_method_20_code 37 = .ok (.iinc 1 (-1), 3) := by decide +kernel
theorem d_Md_hasCompare_40 : decode prog_12_method_20_code 40 = .ok (.goto (-33), 3) := by decide +kernel
theorem d_Md_hasCompare_43 : decode prog_12_method_20_code 43 = .ok (.iconst 0, 1) := by decide +kernel
theorem d_Md_hasCompare_44 : decode prog_12_method_20_code 44 = .ok (.ireturn, 1) := by decide +kernel
theorem d_Md_readCodes_0 : decode prog_12_method_21_code 0 = .ok (.aload_n 0, 1) := by decide +kernel
theorem d_Md_readCodes_1 : decode prog_12_method_21_code 1 = .ok (.getfield 180, 3) := by decide +kernel
theorem d_Md_readCodes_4 : decode prog_12_method_21_code 4 = .ok (.istore_n 2, 1) := by decide +kernel
theorem d_Md_readCodes_5 : decode prog_12_method_21_code 5 = .ok (.aload_n 0, 1) := by decide +kernel
theorem d_Md_readCodes_6 : decode prog_12_method_21_code 6 = .ok (.iconst 0, 1) := by decide +kernel
theorem d_Md_readCodes_7 : decode prog_12_method_21_code 7 = .ok (.putfield 183, 3) := by decide +kernel
theorem d_Md_readCodes_10 : decode prog_12_method_21_code 10 = .ok (.aload_n 0, 1) := by decide +kernel
theorem d_Md_readCodes_11 : decode prog_12_method_21_code 11 = .ok (.iconst 0, 1) := by decide +kernel
theorem d_Md_readCodes_12 : decode prog_12_method_21_code 12 = .ok (.putfield 194, 3) := by decide +kernel
theorem d_Md_readCodes_15 : decode prog_12_method_21_code 15 = .ok (.iconst 1, 1) := by decide +kernel
theorem d_Md_readCodes_16 : decode prog_12_method_21_code 16 = .ok (.istore_n 3, 1) := by decide +kernel
theorem d_Md_readCodes_17 : decode prog_12_method_21_code 17 = .ok (.iconst 1, 1) := by decide +kernel
theorem d_Md_readCodes_18 : decode prog_12_method_21_code 18 = .ok (.istore 4, 2) := by decide +kernel
theorem d_Md_readCodes_20 : decode prog_12_method_21_code 20 = .ok (.aload_n 0, 1) := by decide +kernel
theorem d_Md_readCodes_21 : decode prog_12_method_21_code 21 = .ok (.getfield 170, 3) := by decide +kernel
theorem d_Md_readCodes_24 : decode prog_12_method_21_code 24 = .ok (.iconst (-1), 1) := by decide +kernel
theorem d_Md_readCodes_25 : decode prog_12_method_21_code 25 = .ok (.if_icmp .ne 221, 3) := by decide +kernel
theorem d_Md_readCodes_28 : decode prog_12_method_21_code 28 = .ok (.iload_n 3, 1) := by decide +kernel
theorem d_Md_readCodes_29 : decode prog_12_method_21_code 29 = .ok (.ifCond .eq 217, 3) := by decide +kernel
theorem d_Md_readCodes_32 : decode prog_12_method_21_code 32 = .ok (.aload_n 0, 1) := by decide +kernel
theorem d_Md_readCodes_33 : decode prog_12_method_21_code 33 = .ok (.invokevirtual 173, 3) := by decide +kernel
theorem d_Md_readCodes_36 : decode prog_12_method_21_code 36 = .ok (.istore 5, 2) := by decide +kernel
theorem d_Md_readCodes_38 : decode prog_12_method_21_code 38 = .ok (.iload 4, 2) := by decide +kernel
theorem d_Md_readCodes_40 : decode prog_12_method_21_code 40 = .ok (.ifCond .eq 20, 3) := by decide +kernel
theorem d_Md_readCodes_43 : decode prog_12_method_21_code 43 = .ok (.iload 5, 2) := by decide +kernel
theorem d_Md_readCodes_45 : decode prog_12_method_21_code 45 = .ok (.invokestatic 211, 3) := by decide +kernel
theorem d_Md_readCodes_48 : decode prog_12_method_21_code 48 = .ok (.ifCond .eq 12, 3) := by decide +kernel
theorem d_Md_readCodes_51 : decode prog_12_method_21_code 51 = .ok (.aload_n 0, 1) := by decide +kernel
theorem d_Md_readCodes_52 : decode prog_12_method_21_code 52 = .ok (.iload 5, 2) := by decide +kernel
theorem d_Md_readCodes_54 : decode prog_12_method_21_code 54 = .ok (.invokevirtual 214, 3) := by decide +kernel
theorem d_Md_readCodes_57 : decode prog_12_method_21_code 57 = .ok (.goto 186, 3) := by decide +kernel
theorem d_Md_readCodes_60 : decode prog_12_method_21_code 60 = .ok (.iload 4, 2) := by decide +kernel
theorem d_Md_readCodes_62 : decode prog_12_method_21_code 62 = .ok (.ifCond .eq 13, 3) := by decide +kernel
theorem d_Md_readCodes_65 : decode prog_12_method_21_code 65 = .ok (.aload_n 0, 1) := by decide +kernel
theorem d_Md_readCodes_66 : decode prog_12_method_21_code 66 = .ok (.invokevirtual 217, 3) := by decide +kernel
theorem d_Md_readCodes_69 : decode prog_12_method_21_code 69 = .ok (.iconst 0, 1) := by decide +kernel
theorem d_Md_readCodes_70 : decode prog_12_method_21_code 70 = .ok (.istore 4, 2) := by decide +kernel
theorem d_Md_readCodes_72 : decode prog_12_method_21_code 72 = .ok (.goto 171, 3) := by decide +kernel
theorem d_Md_readCodes_75 : decode prog_12_method_21_code 75 = .ok (.aload_n 0, 1) := by decide +kernel
theorem d_Md_readCodes_76 : decode prog_12_method_21_code 76 = .ok (.getfield 183, 3) := by decide +kernel
theorem d_Md_readCodes_79 : decode prog_12_method_21_code 79 = .ok (.ifCond .ne 12, 3) := by decide +kernel
theorem d_Md_readCodes_82 : decode prog_12_method_21_code 82 = .ok (.iload_n 1, 1) := by decide +kernel
theorem d_Md_readCodes_83 : decode prog_12_method_21_code 83 = .ok (.ifCond .ne 8, 3) := by decide +kernel
theorem d_Md_readCodes_86 : decode prog_12_method_21_code 86 = .ok (.iconst 0, 1) := by decide +kernel
theorem d_Md_readCodes_87 : decode prog_12_method_21_code 87 = .ok (.istore_n 3, 1) := by decide +kernel
theorem d_Md_readCodes_88 : decode prog_12_method_21_code 88 = .ok (.goto 155, 3) := by decide +kernel
theorem d_Md_readCodes_91 : decode prog_12_method_21_code 91 = .ok (.iload 5, 2) := by decide +kernel
theorem d_Md_readCodes_93 : decode prog_12_method_21_code 93 = .ok (.invokestatic 186, 3) := by decide +kernel
theorem d_Md_readCodes_96 : decode prog_12_method_21_code 96 = .ok (.iconst 1, 1) := by decide +kernel
theorem d_Md_readCodes_97 : decode prog_12_method_21_code 97 = .ok (.if_icmp .gt 19, 3) := by decide +kernel
theorem d_Md_readCodes_100 : decode prog_12_method_21_code 100 = .ok (.iload 5, 2) := by decide +kernel
theorem d_Md_readCodes_102 : decode prog_12_method_21_code 102 = .ok (.invokestatic 186, 3) := by decide +kernel
theorem d_Md_readCodes_105 : decode prog_12_method_21_code 105 = .ok (.iconst 1, 1) := by decide +kernel
theorem d_Md_readCodes_106 : decode prog_12_method_21_code 106 = .ok (.if_icmp .ne 56, 3) := by decide +kernel
theorem d_Md_readCodes_109 : decode prog_12_method_21_code 109 = .ok (.aload_n 0, 1) := by decide +kernel
theorem d_Md_readCodes_110 : decode prog_12_method_21_code 110 = .ok (.invokevirtual 220, 3) := by decide +kernel
theorem d_Md_readCodes_113 : decode prog_12_method_21_code 113 = .ok (.ifCond .ne 49, 3) := by decide +kernel
theorem d_Md_readCodes_116 : decode prog_12_method_21_code 116 = .ok (.aload_n 0, 1) := by decide +kernel
theorem d_Md_readCodes_117 : decode prog_12_method_21_code 117 = .ok (.iload 5, 2) := by decide +kernel
theorem d_Md_readCodes_119 : decode prog_12_method_21_code 119 = .ok (.invokestatic 186, 3) := by decide +kernel
theorem d_Md_readCodes_122 : decode prog_12_method_21_code 122 = .ok (.invokevirtual 224, 3) := by decide +kernel
theorem d_Md_readCodes_125 : decode prog_12_method_21_code 125 = .ok (.aload_n 0, 1) := by decide +kernel
theorem d_Md_readCodes_126 : decode prog_12_method_21_code 126 = .ok (.getfield 55, 3) := by decide +kernel
theorem d_Md_readCodes_129 : decode prog_12_method_21_code 129 = .ok (.aload_n 0, 1) := by decide +kernel
theorem d_Md_readCodes_130 : decode prog_12_method_21_code 130 = .ok (.getfield 183, 3) := by decide +kernel
theorem d_Md_readCodes_133 : decode prog_12_method_21_code 133 = .ok (.iload 5, 2) := by decide +kernel
theorem d_Md_readCodes_135 : decode prog_12_method_21_code 135 = .ok (.iastore, 1) := by decide +kernel
theorem d_Md_readCodes_136 : decode prog_12_method_21_code 136 = .ok (.aload_n 0, 1) := by decide +kernel
theorem d_Md_readCodes_137 : decode prog_12_method_21_code 137 = .ok (.dup, 1) := by decide +kernel
theorem d_Md_readCodes_138 : decode prog_12_method_21_code 138 = .ok (.getfield 183, 3) := by decide +kernel
theorem d_Md_readCodes_141 : decode prog_12_method_21_code 141 = .ok (.iconst 1, 1) := by decide +kernel
theorem d_Md_readCodes_142 : decode prog_12_method_21_code 142 = .ok (.iadd, 1) := by decide +kernel
theorem d_Md_readCodes_143 : decode prog_12_method_21_code 143 = .ok (.putfield 183, 3) := by decide +kernel
theorem d_Md_readCodes_146 : decode prog_12_method_21_code 146 = .ok (.aload_n 0, 1) := by decide +kernel
theorem d_Md_readCodes_147 : decode prog_12_method_21_code 147 = .ok (.dup, 1) := by decide +kernel
theorem d_Md_readCodes_148 : decode prog_12_method_21_code 148 = .ok (.getfield 167, 3) := by decide +kernel
theorem d_Md_readCodes_151 : decode prog_12_method_21_code 151 = .ok (.iconst 1, 1) := by decide +kernel
theorem d_Md_readCodes_152 : decode prog_12_method_21_code 152 = .ok (.iadd, 1) := by decide +kernel
theorem d_Md_readCodes_153 : decode prog_12_method_21_code 153 = .ok (.putfield 167, 3) := by decide +kernel
theorem d_Md_readCodes_156 : decode prog_12_method_21_code 156 = .ok (.iconst 1, 1) := by decide +kernel
theorem d_Md_readCodes_157 : decode prog_12_method_21_code 157 = .ok (.istore 4, 2) := by decide +kernel
theorem d_Md_readCodes_159 : decode prog_12_method_21_code 159 = .ok (.goto 84, 3) := by decide +kernel
theorem d_Md_readCodes_162 : decode prog_12_method_21_code 162 = .ok (.iload 5, 2) := by decide +kernel
theorem d_Md_readCodes_164 : decode prog_12_method_21_code 164 = .ok (.bipush 41, 2) := by decide +kernel
theorem d_Md_readCodes_166 : decode prog_12_method_21_code 166 = .ok (.if_icmp .ne 52, 3) := by decide +kernel
theorem d_Md_readCodes_169 : decode prog_12_method_21_code 169 = .ok (.aload_n 0, 1) := by decide +kernel
theorem d_Md_readCodes_170 : decode prog_12_method_21_code 170 = .ok (.invokevirtual 227, 3) := by decide +kernel
theorem d_Md_readCodes_173 : decode prog_12_method_21_code 173 = .ok (.ifCond .eq 45, 3) := by decide +kernel
theorem d_Md_readCodes_176 : decode prog_12_method_21_code 176 = .ok (.aload_n 0, 1) := by decide +kernel
theorem d_Md_readCodes_177 : decode prog_12_method_21_code 177 = .ok (.iconst 1, 1) := by decide +kernel
theorem d_Md_readCodes_178 : decode prog_12_method_21_code 178 = .ok (.invokevirtual 224, 3) := by decide +kernel
theorem d_Md_readCodes_181 : decode prog_12_method_21_code 181 = .ok (.aload_n 0, 1) := by decide +kernel
theorem d_Md_readCodes_182 : decode prog_12_method_21_code 182 = .ok (.dup, 1) := by decide +kernel
theorem d_Md_readCodes_183 : decode prog_12_method_21_code 183 = .ok (.getfield 183, 3) := by decide +kernel
theorem d_Md_readCodes_186 : decode prog_12_method_21_code 186 = .ok (.iconst 1, 1) := by decide +kernel
theorem d_Md_readCodes_187 : decode prog_12_method_21_code 187 = .ok (.isub, 1) := by decide +kernel
theorem d_Md_readCodes_188 : decode prog_12_method_21_code 188 = .ok (.putfield 183, 3) := by decide +kernel
theorem d_Md_readCodes_191 : decode prog_12_method_21_code 191 = .ok (.aload_n 0, 1) := by decide +kernel
theorem d_Md_readCodes_192 : decode prog_12_method_21_code 192 = .ok (.dup, 1) := by decide +kernel
theorem d_Md_readCodes_193 : decode prog_12_method_21_code 193 = .ok (.getfield 194, 3) := by decide +kernel
theorem d_Md_readCodes_196 : decode prog_12_method_21_code 196 = .ok (.iconst 1, 1) := by decide +kernel
theorem d_Md_readCodes_197 : decode prog_12_method_21_code 197 = .ok (.isub, 1) := by decide +kernel
theorem d_Md_readCodes_198 : decode prog_12_method_21_code 198 = .ok (.putfield 194, 3) := by decide +kernel
theorem d_Md_readCodes_201 : decode prog_12_method_21_code 201 = .ok (.aload_n 0, 1) := by decide +kernel
theorem d_Md_readCodes_202 : decode prog_12_method_21_code 202 = .ok (.dup, 1) := by decide +kernel
theorem d_Md_readCodes_203 : decode prog_12_method_21_code 203 = .ok (.getfield 167, 3) := by decide +kernel
theorem d_Md_readCodes_206 : decode prog_12_method_21_code 206 = .ok (.iconst 1, 1) := by decide +kernel
theorem d_Md_readCodes_207 : decode prog_12_method_21_code 207 = .ok (.iadd, 1) := by decide +kernel
theorem d_Md_readCodes_208 : decode prog_12_method_21_code 208 = .ok (.putfield 167, 3) := by decide +kernel
theorem d_Md_readCodes_211 : decode prog_12_method_21_code 211 = .ok (.aload_n 0, 1) := by decide +kernel
theorem d_Md_readCodes_212 : decode prog_12_method_21_code 212 = .ok (.invokevirtual 208, 3) := by decide +kernel
theorem d_Md_readCodes_215 : decode prog_12_method_21_code 215 = .ok (.goto 28, 3) := by decide +kernel
theorem d_Md_readCodes_218 : decode prog_12_method_21_code 218 = .ok (.aload_n 0, 1) := by decide +kernel
theorem d_Md_readCodes_219 : decode prog_12_method_21_code 219 = .ok (.invokevirtual 227, 3) := by decide +kernel
theorem d_Md_readCodes_222 : decode prog_12_method_21_code 222 = .ok (.ifCond .eq 14, 3) := by decide +kernel
theorem d_Md_readCodes_225 : decode prog_12_method_21_code 225 = .ok (.aload_n 0, 1) := by decide +kernel
theorem d_Md_readCodes_226 : decode prog_12_method_21_code 226 = .ok (.aload_n 0, 1) := by decide +kernel
theorem d_Md_readCodes_227 : decode prog_12_method_21_code 227 = .ok (.getfield 167, 3) := by decide +kernel
theorem d_Md_readCodes_230 : decode prog_12_method_21_code 230 = .ok (.putfield 170, 3) := by decide +kernel
theorem d_Md_readCodes_233 : decode prog_12_method_21_code 233 = .ok (.goto 10, 3) := by decide +kernel
theorem d_Md_readCodes_236 : decode prog_12_method_21_code 236 = .ok (.aload_n 0, 1) := by decide +kernel
theorem d_Md_readCodes_237 : decode prog_12_method_21_code 237 = .ok (.iconst 1, 1) := by decide +kernel
theorem d_Md_readCodes_238 : decode prog_12_method_21_code 238 = .ok (.invokevirtual 224, 3) := by decide +kernel
theorem d_Md_readCodes_241 : decode prog_12_method_21_code 241 = .ok (.iconst 0, 1) := by decide +kernel
theorem d_Md_readCodes_242 : decode prog_12_method_21_code 242 = .ok (.istore_n 3, 1) := by decide +kernel
theorem d_Md_readCodes_243 : decode prog_12_method_21_code 243 = .ok (.goto (-223), 3) := by decide +kernel
theorem d_Md_readCodes_246 : decode prog_12_method_21_code 246 = .ok (.aload_n 0, 1) := by decide +kernel
theorem d_Md_readCodes_247 : decode prog_12_method_21_code 247 = .ok (.getfield 170, 3) := by decide +kernel
theorem d_Md_readCodes_250 : decode prog_12_method_21_code 250 = .ok (.iconst (-1), 1) := by decide +kernel
theorem d_Md_readCodes_251 : decode prog_12_method_21_code 251 = .ok (.if_icmp .ne 9, 3) := by decide +kernel
theorem d_Md_readCodes_254 : decode prog_12_method_21_code 254 = .ok (.aload_n 0, 1) := by decide +kernel
theorem d_Md_readCodes_255 : decode prog_12_method_21_code 255 = .ok (.iconst 0, 1) := by decide +kernel
theorem d_Md_readCodes_256 : decode prog_12_method_21_code 256 = .ok (.iconst 0, 1) := by decide +kernel
theorem d_Md_readCodes_257 : decode prog_12_method_21_code 257 = .ok (.invokevirtual 190, 3) := by decide +kernel
theorem d_Md_readCodes_260 : decode prog_12_method_21_code 260 = .ok (.iload_n 2, 1) := by decide +kernel
theorem d_Md_readCodes_261 : decode prog_12_method_21_code 261 = .ok (.ireturn, 1) := by decide +kernel
theorem d_Md_order_0 : decode prog_12_method_22_code 0 = .ok (.sipush 600, 3) := by decide +kernel
theorem d_Md_order_3 : decode prog_12_method_22_code 3 = .ok (.aload_n 0, 1) := by decide +kernel
theorem d_Md_order_4 : decode prog_12_method_22_code 4 = .ok (.getfield 177, 3) := by decide +kernel
theorem d_Md_order_7 : decode prog_12_method_22_code 7 = .ok (.imul, 1) := by decide +kernel
theorem d_Md_order_8 : decode prog_12_method_22_code 8 = .ok (.aload_n 0, 1) := by decide +kernel
theorem d_Md_order_9 : decode prog_12_method_22_code 9 = .ok (.getfield 230, 3) := by decide +kernel
theorem d_Md_order_12 : decode prog_12_method_22_code 12 = .ok (.iadd, 1) := by decide +kernel
theorem d_Md_order_13 : decode prog_12_method_22_code 13 = .ok (.istore_n 3, 1) := by decide +kernel
theorem d_Md_order_14 : decode prog_12_method_22_code 14 = .ok (.aload_n 0, 1) := by decide +kernel
theorem d_Md_order_15 : decode prog_12_method_22_code 15 = .ok (.getfield 19, 3) := by decide +kernel
theorem d_Md_order_18 : decode prog_12_method_22_code 18 = .ok (.iload_n 3, 1) := by decide +kernel
theorem d_Md_order_19 : decode prog_12_method_22_code 19 = .ok (.iload_n 1, 1) := by decide +kernel
theorem d_Md_order_20 : decode prog_12_method_22_code 20 = .ok (.iastore, 1) := by decide +kernel
theorem d_Md_order_21 : decode prog_12_method_22_code 21 = .ok (.aload_n 0, 1) := by decide +kernel
theorem d_Md_order_22 : decode prog_12_method_22_code 22 = .ok (.getfield 22, 3) := by decide +kernel
theorem d_Md_order_25 : decode prog_12_method_22_code 25 = .ok (.iload_n 3, 1) := by decide +kernel
theorem d_Md_order_26 : decode prog_12_method_22_code 26 = .ok (.iload_n 2, 1) := by decide +kernel
theorem d_Md_order_27 : decode prog_12_method_22_code 27 = .ok (.iastore, 1) := by decide +kernel
theorem d_Md_order_28 : decode prog_12_method_22_code 28 = .ok (.aload_n 0, 1) := by decide +kernel
theorem d_Md_order_29 : decode prog_12_method_22_code 29 = .ok (.getfield 25, 3) := by decide +kernel
theorem d_Md_order_32 : decode prog_12_method_22_code 32 = .ok (.iload_n 3, 1) := by decide +kernel
theorem d_Md_order_33 : decode prog_12_method_22_code 33 = .ok (.iconst 0, 1) := by decide +kernel
theorem d_Md_order_34 : decode prog_12_method_22_code 34 = .ok (.iastore, 1) := by decide +kernel
theorem d_Md_order_35 : decode prog_12_method_22_code 35 = .ok (.aload_n 0, 1) := by decide +kernel
theorem d_Md_order_36 : decode prog_12_method_22_code 36 = .ok (.getfield 28, 3) := by decide +kernel
theorem d_Md_order_39 : decode prog_12_method_22_code 39 = .ok (.iload_n 3, 1) := by decide +kernel
theorem d_Md_order_40 : decode prog_12_method_22_code 40 = .ok (.iconst 0, 1) := by decide +kernel
theorem d_Md_order_41 : decode prog_12_method_22_code 41 = .ok (.iastore, 1) := by decide +kernel
theorem d_Md_order_42 : decode prog_12_method_22_code 42 = .ok (.aload_n 0, 1) := by decide +kernel
theorem d_Md_order_43 : decode prog_12_method_22_code 43 = .ok (.getfield 31, 3) := by decide +kernel
theorem d_Md_order_46 : decode prog_12_method_22_code 46 = .ok (.iload_n 3, 1) := by decide +kernel
theorem d_Md_order_47 : decode prog_12_method_22_code 47 = .ok (.iconst 0, 1) := by decide +kernel
theorem d_Md_order_48 : decode prog_12_method_22_code 48 = .ok (.iastore, 1) := by decide +kernel
theorem d_Md_order_49 : decode prog_12_method_22_code 49 = .ok (.aload_n 0, 1) := by decide +kernel
theorem d_Md_order_50 : decode prog_12_method_22_code 50 = .ok (.getfield 34, 3) := by decide +kernel
theorem d_Md_order_53 : decode prog_12_method_22_code 53 = .ok (.iload_n 3, 1) := by decide +kernel
theorem d_Md_order_54 : decode prog_12_method_22_code 54 = .ok (.iconst 0, 1) := by decide +kernel
theorem d_Md_order_55 : decode prog_12_method_22_code 55 = .ok (.iastore, 1) := by decide +kernel
theorem d_Md_order_56 : decode prog_12_method_22_code 56 = .ok (.aload_n 0, 1) := by decide +kernel
theorem d_Md_order_57 : decode prog_12_method_22_code 57 = .ok (.dup, 1) := by decide +kernel
theorem d_Md_order_58 : decode prog_12_method_22_code 58 = .ok (.getfield 230, 3) := by decide +kernel
theorem d_Md_order_61 : decode prog_12_method_22_code 61 = .ok (.iconst 1, 1) := by decide +kernel
theorem d_Md_order_62 : decode prog_12_method_22_code 62 = .ok (.iadd, 1) := by decide +kernel
theorem d_Md_order_63 : decode prog_12_method_22_code 63 = .ok (.putfield 230, 3) := by decide +kernel
theorem d_Md_order_66 : decode prog_12_method_22_code 66 = .ok (.aload_n 0, 1) := by decide +kernel
theorem d_Md_order_67 : decode prog_12_method_22_code 67 = .ok (.getfield 230, 3) := by decide +kernel
theorem d_Md_order_70 : decode prog_12_method_22_code 70 = .ok (.iconst 1, 1) := by decide +kernel
theorem d_Md_order_71 : decode prog_12_method_22_code 71 = .ok (.isub, 1) := by decide +kernel
theorem d_Md_order_72 : decode prog_12_method_22_code 72 = .ok (.ireturn, 1) := by decide +kernel
theorem d_Md_open_0 : decode prog_12_method_23_code 0 = .ok (.aload_n 0, 1) := by decide +kernel
theorem d_Md_open_1 : decode prog_12_method_23_code 1 = .ok (.getfield 170, 3) := by decide +kernel
theorem d_Md_open_4 : decode prog_12_method_23_code 4 = .ok (.iconst (-1), 1) := by decide +kernel
theorem d_Md_open_5 : decode prog_12_method_23_code 5 = .ok (.if_icmp .eq 4, 3) := by decide +kernel
theorem d_Md_open_8 : decode prog_12_method_23_code 8 = .ok (.return_, 1) := by decide +kernel
theorem d_Md_open_9 : decode prog_12_method_23_code 9 = .ok (.aload_n 0, 1) := by decide +kernel
theorem d_Md_open_10 : decode prog_12_method_23_code 10 = .ok (.invokevirtual 173, 3) := by decide +kernel
theorem d_Md_open_13 : decode prog_12_method_23_code 13 = .ok (.iload_n 2, 1) := by decide +kernel
theorem d_Md_open_14 : decode prog_12_method_23_code 14 = .ok (.if_icmp .ne 11, 3) := by decide +kernel
theorem d_Md_open_17 : decode prog_12_method_23_code 17 = .ok (.aload_n 0, 1) := by decide +kernel
theorem d_Md_open_18 : decode prog_12_method_23_code 18 = .ok (.getfield 233, 3) := by decide +kernel
theorem d_Md_open_21 : decode prog_12_method_23_code 21 = .ok (.iconst 2, 1) := by decide +kernel
theorem d_Md_open_22 : decode prog_12_method_23_code 22 = .ok (.if_icmp .ne 12, 3) := by decide +kernel
theorem d_Md_open_25 : decode prog_12_method_23_code 25 = .ok (.aload_n 0, 1) := by decide +kernel
theorem d_Md_open_26 : decode prog_12_method_23_code 26 = .ok (.aload_n 0, 1) := by decide +kernel
theorem d_Md_open_27 : decode prog_12_method_23_code 27 = .ok (.getfield 167, 3) := by decide +kernel
theorem d_Md_open_30 : decode prog_12_method_23_code 30 = .ok (.putfield 170, 3) := by decide +kernel
theorem d_Md_open_33 : decode prog_12_method_23_code 33 = .ok (.return_, 1) := by decide +kernel
theorem d_Md_open_34 : decode prog_12_method_23_code 34 = .ok (.aload_n 0, 1) := by decide +kernel
theorem d_Md_open_35 : decode prog_12_method_23_code 35 = .ok (.dup, 1) := by decide +kernel
theorem d_Md_open_36 : decode prog_12_method_23_code 36 = .ok (.getfield 167, 3) := by decide +kernel
theorem d_Md_open_39 : decode prog_12_method_23_code 39 = .ok (.iconst 1, 1) := by decide +kernel
theorem d_Md_open_40 : decode prog_12_method_23_code 40 = .ok (.iadd, 1) := by decide +kernel
theorem d_Md_open_41 : decode prog_12_method_23_code 41 = .ok (.putfield 167, 3) := by decide +kernel
theorem d_Md_open_44 : decode prog_12_method_23_code 44 = .ok (.aload_n 0, 1) := by decide +kernel
theorem d_Md_open_45 : decode prog_12_method_23_code 45 = .ok (.getfield 46, 3) := by decide +kernel
theorem d_Md_open_48 : decode prog_12_method_23_code 48 = .ok (.aload_n 0, 1) := by decide +kernel
theorem d_Md_open_49 : decode prog_12_method_23_code 49 = .ok (.getfield 233, 3) := by decide +kernel
theorem d_Md_open_52 : decode prog_12_method_23_code 52 = .ok (.iload_n 1, 1) := by decide +kernel
theorem d_Md_open_53 : decode prog_12_method_23_code 53 = .ok (.iastore, 1) := by decide +kernel
theorem d_Md_open_54 : decode prog_12_method_23_code 54 = .ok (.aload_n 0, 1) := by decide +kernel
theorem d_Md_open_55 : decode prog_12_method_23_code 55 = .ok (.getfield 49, 3) := by decide +kernel
theorem d_Md_open_58 : decode prog_12_method_23_code 58 = .ok (.aload_n 0, 1) := by decide +kernel
theorem d_Md_open_59 : decode prog_12_method_23_code 59 = .ok (.getfield 233, 3) := by decide +kernel
theorem d_Md_open_62 : decode prog_12_method_23_code 62 = .ok (.iload_n 3, 1) := by decide +kernel
theorem d_Md_open_63 : decode prog_12_method_23_code 63 = .ok (.iastore, 1) := by decide +kernel
theorem d_Md_open_64 : decode prog_12_method_23_code 64 = .ok (.aload_n 0, 1) := by decide +kernel
theorem d_Md_open_65 : decode prog_12_method_23_code 65 = .ok (.dup, 1) := by decide +kernel
theorem d_Md_open_66 : decode prog_12_method_23_code 66 = .ok (.getfield 233, 3) := by decide +kernel
theorem d_Md_open_69 : decode prog_12_method_23_code 69 = .ok (.iconst 1, 1) := by decide +kernel
theorem d_Md_open_70 : decode prog_12_method_23_code 70 = .ok (.iadd, 1) := by decide +kernel
theorem d_Md_open_71 : decode prog_12_method_23_code 71 = .ok (.putfield 233, 3) := by decide +kernel
theorem d_Md_open_74 : decode prog_12_method_23_code 74 = .ok (.return_, 1) := by decide +kernel
theorem d_Md_aim_0 : decode prog_12_method_24_code 0 = .ok (.aload_n 0, 1) := by decide +kernel
theorem d_Md_aim_1 : decode prog_12_method_24_code 1 = .ok (.getfield 34, 3) := by decide +kernel
theorem d_Md_aim_4 : decode prog_12_method_24_code 4 = .ok (.sipush 600, 3) := by decide +kernel
theorem d_Md_aim_7 : decode prog_12_method_24_code 7 = .ok (.aload_n 0, 1) := by decide +kernel
theorem d_Md_aim_8 : decode prog_12_method_24_code 8 = .ok (.getfield 177, 3) := by decide +kernel
theorem d_Md_aim_11 : decode prog_12_method_24_code 11 = .ok (.imul, 1) := by decide +kernel
theorem d_Md_aim_12 : decode prog_12_method_24_code 12 = .ok (.iload_n 1, 1) := by decide +kernel
theorem d_Md_aim_13 : decode prog_12_method_24_code 13 = .ok (.iadd, 1) := by decide +kernel
theorem d_Md_aim_14 : decode prog_12_method_24_code 14 = .ok (.aload_n 0, 1) := by decide +kernel
theorem d_Md_aim_15 : decode prog_12_method_24_code 15 = .ok (.getfield 230, 3) := by decide +kernel
theorem d_Md_aim_18 : decode prog_12_method_24_code 18 = .ok (.iastore, 1) := by decide +kernel
theorem d_Md_aim_19 : decode prog_12_method_24_code 19 = .ok (.return_, 1) := by decide +kernel
