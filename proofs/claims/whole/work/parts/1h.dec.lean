theorem d_Md_close_0 : decode prog_12_method_25_code 0 = .ok (.aload_n 0, 1) := by decide +kernel
theorem d_Md_close_1 : decode prog_12_method_25_code 1 = .ok (.getfield 46, 3) := by decide +kernel
theorem d_Md_close_4 : decode prog_12_method_25_code 4 = .ok (.aload_n 0, 1) := by decide +kernel
theorem d_Md_close_5 : decode prog_12_method_25_code 5 = .ok (.getfield 233, 3) := by decide +kernel
theorem d_Md_close_8 : decode prog_12_method_25_code 8 = .ok (.iconst 1, 1) := by decide +kernel
theorem d_Md_close_9 : decode prog_12_method_25_code 9 = .ok (.isub, 1) := by decide +kernel
theorem d_Md_close_10 : decode prog_12_method_25_code 10 = .ok (.iaload, 1) := by decide +kernel
theorem d_Md_close_11 : decode prog_12_method_25_code 11 = .ok (.istore_n 1, 1) := by decide +kernel
theorem d_Md_close_12 : decode prog_12_method_25_code 12 = .ok (.aload_n 0, 1) := by decide +kernel
theorem d_Md_close_13 : decode prog_12_method_25_code 13 = .ok (.getfield 49, 3) := by decide +kernel
theorem d_Md_close_16 : decode prog_12_method_25_code 16 = .ok (.aload_n 0, 1) := by decide +kernel
theorem d_Md_close_17 : decode prog_12_method_25_code 17 = .ok (.getfield 233, 3) := by decide +kernel
theorem d_Md_close_20 : decode prog_12_method_25_code 20 = .ok (.iconst 1, 1) := by decide +kernel
theorem d_Md_close_21 : decode prog_12_method_25_code 21 = .ok (.isub, 1) := by decide +kernel
theorem d_Md_close_22 : decode prog_12_method_25_code 22 = .ok (.iaload, 1) := by decide +kernel
theorem d_Md_close_23 : decode prog_12_method_25_code 23 = .ok (.istore_n 2, 1) := by decide +kernel
theorem d_Md_close_24 : decode prog_12_method_25_code 24 = .ok (.aload_n 0, 1) := by decide +kernel
theorem d_Md_close_25 : decode prog_12_method_25_code 25 = .ok (.getfield 22, 3) := by decide +kernel
theorem d_Md_close_28 : decode prog_12_method_25_code 28 = .ok (.sipush 600, 3) := by decide +kernel
theorem d_Md_close_31 : decode prog_12_method_25_code 31 = .ok (.aload_n 0, 1) := by decide +kernel
theorem d_Md_close_32 : decode prog_12_method_25_code 32 = .ok (.getfield 177, 3) := by decide +kernel
theorem d_Md_close_35 : decode prog_12_method_25_code 35 = .ok (.imul, 1) := by decide +kernel
theorem d_Md_close_36 : decode prog_12_method_25_code 36 = .ok (.iload_n 2, 1) := by decide +kernel
theorem d_Md_close_37 : decode prog_12_method_25_code 37 = .ok (.iadd, 1) := by decide +kernel
theorem d_Md_close_38 : decode prog_12_method_25_code 38 = .ok (.iaload, 1) := by decide +kernel
theorem d_Md_close_39 : decode prog_12_method_25_code 39 = .ok (.istore_n 3, 1) := by decide +kernel
theorem d_Md_close_40 : decode prog_12_method_25_code 40 = .ok (.aload_n 0, 1) := by decide +kernel
theorem d_Md_close_41 : decode prog_12_method_25_code 41 = .ok (.dup, 1) := by decide +kernel
theorem d_Md_close_42 : decode prog_12_method_25_code 42 = .ok (.getfield 167, 3) := by decide +kernel
theorem d_Md_close_45 : decode prog_12_method_25_code 45 = .ok (.iconst 1, 1) := by decide +kernel
theorem d_Md_close_46 : decode prog_12_method_25_code 46 = .ok (.iadd, 1) := by decide +kernel
theorem d_Md_close_47 : decode prog_12_method_25_code 47 = .ok (.putfield 167, 3) := by decide +kernel
theorem d_Md_close_50 : decode prog_12_method_25_code 50 = .ok (.aload_n 0, 1) := by decide +kernel
theorem d_Md_close_51 : decode prog_12_method_25_code 51 = .ok (.dup, 1) := by decide +kernel
theorem d_Md_close_52 : decode prog_12_method_25_code 52 = .ok (.getfield 233, 3) := by decide +kernel
theorem d_Md_close_55 : decode prog_12_method_25_code 55 = .ok (.iconst 1, 1) := by decide +kernel
theorem d_Md_close_56 : decode prog_12_method_25_code 56 = .ok (.isub, 1) := by decide +kernel
theorem d_Md_close_57 : decode prog_12_method_25_code 57 = .ok (.putfield 233, 3) := by decide +kernel
theorem d_Md_close_60 : decode prog_12_method_25_code 60 = .ok (.iload_n 1, 1) := by decide +kernel
theorem d_Md_close_61 : decode prog_12_method_25_code 61 = .ok (.iconst 1, 1) := by decide +kernel
theorem d_Md_close_62 : decode prog_12_method_25_code 62 = .ok (.if_icmp .ne 46, 3) := by decide +kernel
theorem d_Md_close_65 : decode prog_12_method_25_code 65 = .ok (.aload_n 0, 1) := by decide +kernel
theorem d_Md_close_66 : decode prog_12_method_25_code 66 = .ok (.invokevirtual 173, 3) := by decide +kernel
theorem d_Md_close_69 : decode prog_12_method_25_code 69 = .ok (.bipush 123, 2) := by decide +kernel
theorem d_Md_close_71 : decode prog_12_method_25_code 71 = .ok (.if_icmp .ne 29, 3) := by decide +kernel
theorem d_Md_close_74 : decode prog_12_method_25_code 74 = .ok (.aload_n 0, 1) := by decide +kernel
theorem d_Md_close_75 : decode prog_12_method_25_code 75 = .ok (.bipush 17, 2) := by decide +kernel
theorem d_Md_close_77 : decode prog_12_method_25_code 77 = .ok (.iload_n 3, 1) := by decide +kernel
theorem d_Md_close_78 : decode prog_12_method_25_code 78 = .ok (.invokevirtual 236, 3) := by decide +kernel
theorem d_Md_close_81 : decode prog_12_method_25_code 81 = .ok (.istore 4, 2) := by decide +kernel
theorem d_Md_close_83 : decode prog_12_method_25_code 83 = .ok (.aload_n 0, 1) := by decide +kernel
theorem d_Md_close_84 : decode prog_12_method_25_code 84 = .ok (.iload_n 2, 1) := by decide +kernel
theorem d_Md_close_85 : decode prog_12_method_25_code 85 = .ok (.invokevirtual 240, 3) := by decide +kernel
theorem d_Md_close_88 : decode prog_12_method_25_code 88 = .ok (.aload_n 0, 1) := by decide +kernel
theorem d_Md_close_89 : decode prog_12_method_25_code 89 = .ok (.iconst 2, 1) := by decide +kernel
theorem d_Md_close_90 : decode prog_12_method_25_code 90 = .ok (.bipush 123, 2) := by decide +kernel
theorem d_Md_close_92 : decode prog_12_method_25_code 92 = .ok (.iload 4, 2) := by decide +kernel
theorem d_Md_close_94 : decode prog_12_method_25_code 94 = .ok (.invokevirtual 243, 3) := by decide +kernel
theorem d_Md_close_97 : decode prog_12_method_25_code 97 = .ok (.goto 139, 3) := by decide +kernel
theorem d_Md_close_100 : decode prog_12_method_25_code 100 = .ok (.aload_n 0, 1) := by decide +kernel
theorem d_Md_close_101 : decode prog_12_method_25_code 101 = .ok (.iload_n 2, 1) := by decide +kernel
theorem d_Md_close_102 : decode prog_12_method_25_code 102 = .ok (.invokevirtual 240, 3) := by decide +kernel
theorem d_Md_close_105 : decode prog_12_method_25_code 105 = .ok (.goto 131, 3) := by decide +kernel
theorem d_Md_close_108 : decode prog_12_method_25_code 108 = .ok (.iload_n 1, 1) := by decide +kernel
theorem d_Md_close_109 : decode prog_12_method_25_code 109 = .ok (.iconst 2, 1) := by decide +kernel
theorem d_Md_close_110 : decode prog_12_method_25_code 110 = .ok (.if_icmp .ne 11, 3) := by decide +kernel
theorem d_Md_close_113 : decode prog_12_method_25_code 113 = .ok (.aload_n 0, 1) := by decide +kernel
theorem d_Md_close_114 : decode prog_12_method_25_code 114 = .ok (.iload_n 2, 1) := by decide +kernel
theorem d_Md_close_115 : decode prog_12_method_25_code 115 = .ok (.invokevirtual 240, 3) := by decide +kernel
theorem d_Md_close_118 : decode prog_12_method_25_code 118 = .ok (.goto 118, 3) := by decide +kernel
theorem d_Md_close_121 : decode prog_12_method_25_code 121 = .ok (.iload_n 1, 1) := by decide +kernel
theorem d_Md_close_122 : decode prog_12_method_25_code 122 = .ok (.iconst 3, 1) := by decide +kernel
theorem d_Md_close_123 : decode prog_12_method_25_code 123 = .ok (.if_icmp .ne 37, 3) := by decide +kernel
theorem d_Md_close_126 : decode prog_12_method_25_code 126 = .ok (.aload_n 0, 1) := by decide +kernel
theorem d_Md_close_127 : decode prog_12_method_25_code 127 = .ok (.bipush 17, 2) := by decide +kernel
theorem d_Md_close_129 : decode prog_12_method_25_code 129 = .ok (.iload_n 3, 1) := by decide +kernel
theorem d_Md_close_130 : decode prog_12_method_25_code 130 = .ok (.invokevirtual 236, 3) := by decide +kernel
theorem d_Md_close_133 : decode prog_12_method_25_code 133 = .ok (.istore 4, 2) := by decide +kernel
theorem d_Md_close_135 : decode prog_12_method_25_code 135 = .ok (.aload_n 0, 1) := by decide +kernel
theorem d_Md_close_136 : decode prog_12_method_25_code 136 = .ok (.getfield 34, 3) := by decide +kernel
theorem d_Md_close_139 : decode prog_12_method_25_code 139 = .ok (.sipush 600, 3) := by decide +kernel
theorem d_Md_close_142 : decode prog_12_method_25_code 142 = .ok (.aload_n 0, 1) := by decide +kernel
theorem d_Md_close_143 : decode prog_12_method_25_code 143 = .ok (.getfield 177, 3) := by decide +kernel
theorem d_Md_close_146 : decode prog_12_method_25_code 146 = .ok (.imul, 1) := by decide +kernel
theorem d_Md_close_147 : decode prog_12_method_25_code 147 = .ok (.iload 4, 2) := by decide +kernel
theorem d_Md_close_149 : decode prog_12_method_25_code 149 = .ok (.iadd, 1) := by decide +kernel
theorem d_Md_close_150 : decode prog_12_method_25_code 150 = .ok (.iload_n 2, 1) := by decide +kernel
theorem d_Md_close_151 : decode prog_12_method_25_code 151 = .ok (.iastore, 1) := by decide +kernel
theorem d_Md_close_152 : decode prog_12_method_25_code 152 = .ok (.aload_n 0, 1) := by decide +kernel
theorem d_Md_close_153 : decode prog_12_method_25_code 153 = .ok (.iload_n 2, 1) := by decide +kernel
theorem d_Md_close_154 : decode prog_12_method_25_code 154 = .ok (.invokevirtual 240, 3) := by decide +kernel
theorem d_Md_close_157 : decode prog_12_method_25_code 157 = .ok (.goto 79, 3) := by decide +kernel
theorem d_Md_close_160 : decode prog_12_method_25_code 160 = .ok (.iload_n 1, 1) := by decide +kernel
theorem d_Md_close_161 : decode prog_12_method_25_code 161 = .ok (.iconst 4, 1) := by decide +kernel
theorem d_Md_close_162 : decode prog_12_method_25_code 162 = .ok (.if_icmp .ne 14, 3) := by decide +kernel
theorem d_Md_close_165 : decode prog_12_method_25_code 165 = .ok (.aload_n 0, 1) := by decide +kernel
theorem d_Md_close_166 : decode prog_12_method_25_code 166 = .ok (.bipush 8, 2) := by decide +kernel
theorem d_Md_close_168 : decode prog_12_method_25_code 168 = .ok (.iload_n 3, 1) := by decide +kernel
theorem d_Md_close_169 : decode prog_12_method_25_code 169 = .ok (.invokevirtual 236, 3) := by decide +kernel
theorem d_Md_close_172 : decode prog_12_method_25_code 172 = .ok (.pop, 1) := by decide +kernel
theorem d_Md_close_173 : decode prog_12_method_25_code 173 = .ok (.goto 63, 3) := by decide +kernel
theorem d_Md_close_176 : decode prog_12_method_25_code 176 = .ok (.iload_n 1, 1) := by decide +kernel
theorem d_Md_close_177 : decode prog_12_method_25_code 177 = .ok (.iconst 5, 1) := by decide +kernel
theorem d_Md_close_178 : decode prog_12_method_25_code 178 = .ok (.if_icmp .ne 28, 3) := by decide +kernel
theorem d_Md_close_181 : decode prog_12_method_25_code 181 = .ok (.aload_n 0, 1) := by decide +kernel
theorem d_Md_close_182 : decode prog_12_method_25_code 182 = .ok (.iload_n 2, 1) := by decide +kernel
theorem d_Md_close_183 : decode prog_12_method_25_code 183 = .ok (.invokevirtual 240, 3) := by decide +kernel
theorem d_Md_close_186 : decode prog_12_method_25_code 186 = .ok (.aload_n 0, 1) := by decide +kernel
theorem d_Md_close_187 : decode prog_12_method_25_code 187 = .ok (.bipush 10, 2) := by decide +kernel
theorem d_Md_close_189 : decode prog_12_method_25_code 189 = .ok (.iload_n 3, 1) := by decide +kernel
theorem d_Md_close_190 : decode prog_12_method_25_code 190 = .ok (.invokevirtual 236, 3) := by decide +kernel
theorem d_Md_close_193 : decode prog_12_method_25_code 193 = .ok (.pop, 1) := by decide +kernel
theorem d_Md_close_194 : decode prog_12_method_25_code 194 = .ok (.aload_n 0, 1) := by decide +kernel
theorem d_Md_close_195 : decode prog_12_method_25_code 195 = .ok (.bipush 6, 2) := by decide +kernel
theorem d_Md_close_197 : decode prog_12_method_25_code 197 = .ok (.bipush 123, 2) := by decide +kernel
theorem d_Md_close_199 : decode prog_12_method_25_code 199 = .ok (.iload_n 2, 1) := by decide +kernel
theorem d_Md_close_200 : decode prog_12_method_25_code 200 = .ok (.invokevirtual 243, 3) := by decide +kernel
theorem d_Md_close_203 : decode prog_12_method_25_code 203 = .ok (.goto 33, 3) := by decide +kernel
theorem d_Md_close_206 : decode prog_12_method_25_code 206 = .ok (.iload_n 1, 1) := by decide +kernel
theorem d_Md_close_207 : decode prog_12_method_25_code 207 = .ok (.bipush 6, 2) := by decide +kernel
theorem d_Md_close_209 : decode prog_12_method_25_code 209 = .ok (.if_icmp .ne 14, 3) := by decide +kernel
theorem d_Md_close_212 : decode prog_12_method_25_code 212 = .ok (.aload_n 0, 1) := by decide +kernel
theorem d_Md_close_213 : decode prog_12_method_25_code 213 = .ok (.bipush 11, 2) := by decide +kernel
theorem d_Md_close_215 : decode prog_12_method_25_code 215 = .ok (.iload_n 3, 1) := by decide +kernel
theorem d_Md_close_216 : decode prog_12_method_25_code 216 = .ok (.invokevirtual 236, 3) := by decide +kernel
theorem d_Md_close_219 : decode prog_12_method_25_code 219 = .ok (.pop, 1) := by decide +kernel
theorem d_Md_close_220 : decode prog_12_method_25_code 220 = .ok (.goto 16, 3) := by decide +kernel
theorem d_Md_close_223 : decode prog_12_method_25_code 223 = .ok (.aload_n 0, 1) := by decide +kernel
theorem d_Md_close_224 : decode prog_12_method_25_code 224 = .ok (.bipush 19, 2) := by decide +kernel
theorem d_Md_close_226 : decode prog_12_method_25_code 226 = .ok (.iload_n 3, 1) := by decide +kernel
theorem d_Md_close_227 : decode prog_12_method_25_code 227 = .ok (.invokevirtual 236, 3) := by decide +kernel
theorem d_Md_close_230 : decode prog_12_method_25_code 230 = .ok (.pop, 1) := by decide +kernel
theorem d_Md_close_231 : decode prog_12_method_25_code 231 = .ok (.aload_n 0, 1) := by decide +kernel
theorem d_Md_close_232 : decode prog_12_method_25_code 232 = .ok (.iload_n 2, 1) := by decide +kernel
theorem d_Md_close_233 : decode prog_12_method_25_code 233 = .ok (.invokevirtual 240, 3) := by decide +kernel
theorem d_Md_close_236 : decode prog_12_method_25_code 236 = .ok (.return_, 1) := by decide +kernel
theorem d_Md_readFunction_0 : decode prog_12_method_26_code 0 = .ok (.aload_n 0, 1) := by decide +kernel
theorem d_Md_readFunction_1 : decode prog_12_method_26_code 1 = .ok (.dup, 1) := by decide +kernel
theorem d_Md_readFunction_2 : decode prog_12_method_26_code 2 = .ok (.getfield 167, 3) := by decide +kernel
theorem d_Md_readFunction_5 : decode prog_12_method_26_code 5 = .ok (.iconst 1, 1) := by decide +kernel
theorem d_Md_readFunction_6 : decode prog_12_method_26_code 6 = .ok (.iadd, 1) := by decide +kernel
theorem d_Md_readFunction_7 : decode prog_12_method_26_code 7 = .ok (.putfield 167, 3) := by decide +kernel
theorem d_Md_readFunction_10 : decode prog_12_method_26_code 10 = .ok (.aload_n 0, 1) := by decide +kernel
theorem d_Md_readFunction_11 : decode prog_12_method_26_code 11 = .ok (.invokevirtual 173, 3) := by decide +kernel
theorem d_Md_readFunction_14 : decode prog_12_method_26_code 14 = .ok (.bipush 65, 2) := by decide +kernel
theorem d_Md_readFunction_16 : decode prog_12_method_26_code 16 = .ok (.isub, 1) := by decide +kernel
theorem d_Md_readFunction_17 : decode prog_12_method_26_code 17 = .ok (.istore_n 2, 1) := by decide +kernel
theorem d_Md_readFunction_18 : decode prog_12_method_26_code 18 = .ok (.aload_n 0, 1) := by decide +kernel
theorem d_Md_readFunction_19 : decode prog_12_method_26_code 19 = .ok (.invokevirtual 173, 3) := by decide +kernel
theorem d_Md_readFunction_22 : decode prog_12_method_26_code 22 = .ok (.invokestatic 247, 3) := by decide +kernel
theorem d_Md_readFunction_25 : decode prog_12_method_26_code 25 = .ok (.ifCond .ne 12, 3) := by decide +kernel
theorem d_Md_readFunction_28 : decode prog_12_method_26_code 28 = .ok (.aload_n 0, 1) := by decide +kernel
theorem d_Md_readFunction_29 : decode prog_12_method_26_code 29 = .ok (.aload_n 0, 1) := by decide +kernel
theorem d_Md_readFunction_30 : decode prog_12_method_26_code 30 = .ok (.getfield 167, 3) := by decide +kernel
theorem d_Md_readFunction_33 : decode prog_12_method_26_code 33 = .ok (.putfield 170, 3) := by decide +kernel
theorem d_Md_readFunction_36 : decode prog_12_method_26_code 36 = .ok (.return_, 1) := by decide +kernel
theorem d_Md_readFunction_37 : decode prog_12_method_26_code 37 = .ok (.aload_n 0, 1) := by decide +kernel
theorem d_Md_readFunction_38 : decode prog_12_method_26_code 38 = .ok (.getfield 233, 3) := by decide +kernel
theorem d_Md_readFunction_41 : decode prog_12_method_26_code 41 = .ok (.ifCond .gt 21, 3) := by decide +kernel
theorem d_Md_readFunction_44 : decode prog_12_method_26_code 44 = .ok (.aload_n 0, 1) := by decide +kernel
theorem d_Md_readFunction_45 : decode prog_12_method_26_code 45 = .ok (.getfield 37, 3) := by decide +kernel
theorem d_Md_readFunction_48 : decode prog_12_method_26_code 48 = .ok (.bipush 26, 2) := by decide +kernel
theorem d_Md_readFunction_50 : decode prog_12_method_26_code 50 = .ok (.aload_n 0, 1) := by decide +kernel
theorem d_Md_readFunction_51 : decode prog_12_method_26_code 51 = .ok (.getfield 177, 3) := by decide +kernel
theorem d_Md_readFunction_54 : decode prog_12_method_26_code 54 = .ok (.imul, 1) := by decide +kernel
theorem d_Md_readFunction_55 : decode prog_12_method_26_code 55 = .ok (.iload_n 2, 1) := by decide +kernel
theorem d_Md_readFunction_56 : decode prog_12_method_26_code 56 = .ok (.iadd, 1) := by decide +kernel
theorem d_Md_readFunction_57 : decode prog_12_method_26_code 57 = .ok (.iaload, 1) := by decide +kernel
theorem d_Md_readFunction_58 : decode prog_12_method_26_code 58 = .ok (.iconst (-1), 1) := by decide +kernel
theorem d_Md_readFunction_59 : decode prog_12_method_26_code 59 = .ok (.if_icmp .eq 9, 3) := by decide +kernel
theorem d_Md_readFunction_62 : decode prog_12_method_26_code 62 = .ok (.aload_n 0, 1) := by decide +kernel
theorem d_Md_readFunction_63 : decode prog_12_method_26_code 63 = .ok (.iload_n 1, 1) := by decide +kernel
theorem d_Md_readFunction_64 : decode prog_12_method_26_code 64 = .ok (.putfield 170, 3) := by decide +kernel
theorem d_Md_readFunction_67 : decode prog_12_method_26_code 67 = .ok (.return_, 1) := by decide +kernel
theorem d_Md_readFunction_68 : decode prog_12_method_26_code 68 = .ok (.aload_n 0, 1) := by decide +kernel
theorem d_Md_readFunction_69 : decode prog_12_method_26_code 69 = .ok (.dup, 1) := by decide +kernel
theorem d_Md_readFunction_70 : decode prog_12_method_26_code 70 = .ok (.getfield 167, 3) := by decide +kernel
theorem d_Md_readFunction_73 : decode prog_12_method_26_code 73 = .ok (.iconst 1, 1) := by decide +kernel
theorem d_Md_readFunction_74 : decode prog_12_method_26_code 74 = .ok (.iadd, 1) := by decide +kernel
theorem d_Md_readFunction_75 : decode prog_12_method_26_code 75 = .ok (.putfield 167, 3) := by decide +kernel
theorem d_Md_readFunction_78 : decode prog_12_method_26_code 78 = .ok (.aload_n 0, 1) := by decide +kernel
theorem d_Md_readFunction_79 : decode prog_12_method_26_code 79 = .ok (.bipush 17, 2) := by decide +kernel
theorem d_Md_readFunction_81 : decode prog_12_method_26_code 81 = .ok (.iload_n 1, 1) := by decide +kernel
theorem d_Md_readFunction_82 : decode prog_12_method_26_code 82 = .ok (.invokevirtual 236, 3) := by decide +kernel
theorem d_Md_readFunction_85 : decode prog_12_method_26_code 85 = .ok (.istore_n 3, 1) := by decide +kernel
theorem d_Md_readFunction_86 : decode prog_12_method_26_code 86 = .ok (.aload_n 0, 1) := by decide +kernel
theorem d_Md_readFunction_87 : decode prog_12_method_26_code 87 = .ok (.getfield 37, 3) := by decide +kernel
theorem d_Md_readFunction_90 : decode prog_12_method_26_code 90 = .ok (.bipush 26, 2) := by decide +kernel
theorem d_Md_readFunction_92 : decode prog_12_method_26_code 92 = .ok (.aload_n 0, 1) := by decide +kernel
theorem d_Md_readFunction_93 : decode prog_12_method_26_code 93 = .ok (.getfield 177, 3) := by decide +kernel
theorem d_Md_readFunction_96 : decode prog_12_method_26_code 96 = .ok (.imul, 1) := by decide +kernel
theorem d_Md_readFunction_97 : decode prog_12_method_26_code 97 = .ok (.iload_n 2, 1) := by decide +kernel
theorem d_Md_readFunction_98 : decode prog_12_method_26_code 98 = .ok (.iadd, 1) := by decide +kernel
theorem d_Md_readFunction_99 : decode prog_12_method_26_code 99 = .ok (.aload_n 0, 1) := by decide +kernel
theorem d_Md_readFunction_100 : decode prog_12_method_26_code 100 = .ok (.getfield 230, 3) := by decide +kernel
theorem d_Md_readFunction_103 : decode prog_12_method_26_code 103 = .ok (.iastore, 1) := by decide +kernel
theorem d_Md_readFunction_104 : decode prog_12_method_26_code 104 = .ok (.aload_n 0, 1) := by decide +kernel
theorem d_Md_readFunction_105 : decode prog_12_method_26_code 105 = .ok (.bipush 7, 2) := by decide +kernel
theorem d_Md_readFunction_107 : decode prog_12_method_26_code 107 = .ok (.bipush 123, 2) := by decide +kernel
theorem d_Md_readFunction_109 : decode prog_12_method_26_code 109 = .ok (.iload_n 3, 1) := by decide +kernel
theorem d_Md_readFunction_110 : decode prog_12_method_26_code 110 = .ok (.invokevirtual 243, 3) := by decide +kernel
theorem d_Md_readFunction_113 : decode prog_12_method_26_code 113 = .ok (.return_, 1) := by decide +kernel
theorem d_Md_readSimple_0 : decode prog_12_method_27_code 0 = .ok (.aload_n 0, 1) := by decide +kernel
theorem d_Md_readSimple_1 : decode prog_12_method_27_code 1 = .ok (.dup, 1) := by decide +kernel
theorem d_Md_readSimple_2 : decode prog_12_method_27_code 2 = .ok (.getfield 167, 3) := by decide +kernel
theorem d_Md_readSimple_5 : decode prog_12_method_27_code 5 = .ok (.iconst 1, 1) := by decide +kernel
theorem d_Md_readSimple_6 : decode prog_12_method_27_code 6 = .ok (.iadd, 1) := by decide +kernel
theorem d_Md_readSimple_7 : decode prog_12_method_27_code 7 = .ok (.putfield 167, 3) := by decide +kernel
theorem d_Md_readSimple_10 : decode prog_12_method_27_code 10 = .ok (.aload_n 0, 1) := by decide +kernel
theorem d_Md_readSimple_11 : decode prog_12_method_27_code 11 = .ok (.iload_n 1, 1) := by decide +kernel
theorem d_Md_readSimple_12 : decode prog_12_method_27_code 12 = .ok (.iload_n 2, 1) := by decide +kernel
theorem d_Md_readSimple_13 : decode prog_12_method_27_code 13 = .ok (.invokevirtual 236, 3) := by decide +kernel
theorem d_Md_readSimple_16 : decode prog_12_method_27_code 16 = .ok (.istore_n 3, 1) := by decide +kernel
theorem d_Md_readSimple_17 : decode prog_12_method_27_code 17 = .ok (.aload_n 0, 1) := by decide +kernel
theorem d_Md_readSimple_18 : decode prog_12_method_27_code 18 = .ok (.getfield 31, 3) := by decide +kernel
theorem d_Md_readSimple_21 : decode prog_12_method_27_code 21 = .ok (.sipush 600, 3) := by decide +kernel
theorem d_Md_readSimple_24 : decode prog_12_method_27_code 24 = .ok (.aload_n 0, 1) := by decide +kernel
theorem d_Md_readSimple_25 : decode prog_12_method_27_code 25 = .ok (.getfield 177, 3) := by decide +kernel
theorem d_Md_readSimple_28 : decode prog_12_method_27_code 28 = .ok (.imul, 1) := by decide +kernel
theorem d_Md_readSimple_29 : decode prog_12_method_27_code 29 = .ok (.iload_n 3, 1) := by decide +kernel
theorem d_Md_readSimple_30 : decode prog_12_method_27_code 30 = .ok (.iadd, 1) := by decide +kernel
theorem d_Md_readSimple_31 : decode prog_12_method_27_code 31 = .ok (.aload_n 0, 1) := by decide +kernel
theorem d_Md_readSimple_32 : decode prog_12_method_27_code 32 = .ok (.iconst 1, 1) := by decide +kernel
theorem d_Md_readSimple_33 : decode prog_12_method_27_code 33 = .ok (.invokevirtual 250, 3) := by decide +kernel
theorem d_Md_readSimple_36 : decode prog_12_method_27_code 36 = .ok (.iastore, 1) := by decide +kernel
theorem d_Md_readSimple_37 : decode prog_12_method_27_code 37 = .ok (.aload_n 0, 1) := by decide +kernel
theorem d_Md_readSimple_38 : decode prog_12_method_27_code 38 = .ok (.bipush 59, 2) := by decide +kernel
theorem d_Md_readSimple_40 : decode prog_12_method_27_code 40 = .ok (.invokevirtual 197, 3) := by decide +kernel
theorem d_Md_readSimple_43 : decode prog_12_method_27_code 43 = .ok (.iload_n 3, 1) := by decide +kernel
theorem d_Md_readSimple_44 : decode prog_12_method_27_code 44 = .ok (.ireturn, 1) := by decide +kernel
theorem d_Md_readSet_0 : decode prog_12_method_28_code 0 = .ok (.aload_n 0, 1) := by decide +kernel
theorem d_Md_readSet_1 : decode prog_12_method_28_code 1 = .ok (.invokevirtual 173, 3) := by decide +kernel
theorem d_Md_readSet_4 : decode prog_12_method_28_code 4 = .ok (.istore_n 2, 1) := by decide +kernel
theorem d_Md_readSet_5 : decode prog_12_method_28_code 5 = .ok (.aload_n 0, 1) := by decide +kernel
theorem d_Md_readSet_6 : decode prog_12_method_28_code 6 = .ok (.iload_n 2, 1) := by decide +kernel
theorem d_Md_readSet_7 : decode prog_12_method_28_code 7 = .ok (.bipush 64, 2) := by decide +kernel
theorem d_Md_readSet_9 : decode prog_12_method_28_code 9 = .ok (.if_icmp .ne 7, 3) := by decide +kernel
theorem d_Md_readSet_12 : decode prog_12_method_28_code 12 = .ok (.iconst 2, 1) := by decide +kernel
theorem d_Md_readSet_13 : decode prog_12_method_28_code 13 = .ok (.goto 14, 3) := by decide +kernel
theorem d_Md_readSet_16 : decode prog_12_method_28_code 16 = .ok (.iload_n 2, 1) := by decide +kernel
theorem d_Md_readSet_17 : decode prog_12_method_28_code 17 = .ok (.bipush 39, 2) := by decide +kernel
theorem d_Md_readSet_19 : decode prog_12_method_28_code 19 = .ok (.if_icmp .ne 7, 3) := by decide +kernel
theorem d_Md_readSet_22 : decode prog_12_method_28_code 22 = .ok (.iconst 3, 1) := by decide +kernel
theorem d_Md_readSet_23 : decode prog_12_method_28_code 23 = .ok (.goto 4, 3) := by decide +kernel
theorem d_Md_readSet_26 : decode prog_12_method_28_code 26 = .ok (.iconst 1, 1) := by decide +kernel
theorem d_Md_readSet_27 : decode prog_12_method_28_code 27 = .ok (.iload_n 1, 1) := by decide +kernel
theorem d_Md_readSet_28 : decode prog_12_method_28_code 28 = .ok (.invokevirtual 236, 3) := by decide +kernel
theorem d_Md_readSet_31 : decode prog_12_method_28_code 31 = .ok (.istore_n 3, 1) := by decide +kernel
theorem d_Md_readSet_32 : decode prog_12_method_28_code 32 = .ok (.sipush 600, 3) := by decide +kernel
theorem d_Md_readSet_35 : decode prog_12_method_28_code 35 = .ok (.aload_n 0, 1) := by decide +kernel
theorem d_Md_readSet_36 : decode prog_12_method_28_code 36 = .ok (.getfield 177, 3) := by decide +kernel
theorem d_Md_readSet_39 : decode prog_12_method_28_code 39 = .ok (.imul, 1) := by decide +kernel
theorem d_Md_readSet_40 : decode prog_12_method_28_code 40 = .ok (.iload_n 3, 1) := by decide +kernel
theorem d_Md_readSet_41 : decode prog_12_method_28_code 41 = .ok (.iadd, 1) := by decide +kernel
theorem d_Md_readSet_42 : decode prog_12_method_28_code 42 = .ok (.istore 4, 2) := by decide +kernel
theorem d_Md_readSet_44 : decode prog_12_method_28_code 44 = .ok (.aload_n 0, 1) := by decide +kernel
theorem d_Md_readSet_45 : decode prog_12_method_28_code 45 = .ok (.dup, 1) := by decide +kernel
theorem d_Md_readSet_46 : decode prog_12_method_28_code 46 = .ok (.getfield 167, 3) := by decide +kernel
theorem d_Md_readSet_49 : decode prog_12_method_28_code 49 = .ok (.iconst 1, 1) := by decide +kernel
theorem d_Md_readSet_50 : decode prog_12_method_28_code 50 = .ok (.iadd, 1) := by decide +kernel
theorem d_Md_readSet_51 : decode prog_12_method_28_code 51 = .ok (.putfield 167, 3) := by decide +kernel
theorem d_Md_readSet_54 : decode prog_12_method_28_code 54 = .ok (.iload_n 2, 1) := by decide +kernel
theorem d_Md_readSet_55 : decode prog_12_method_28_code 55 = .ok (.invokestatic 205, 3) := by decide +kernel
theorem d_Md_readSet_58 : decode prog_12_method_28_code 58 = .ok (.ifCond .eq 17, 3) := by decide +kernel
theorem d_Md_readSet_61 : decode prog_12_method_28_code 61 = .ok (.aload_n 0, 1) := by decide +kernel
theorem d_Md_readSet_62 : decode prog_12_method_28_code 62 = .ok (.getfield 25, 3) := by decide +kernel
theorem d_Md_readSet_65 : decode prog_12_method_28_code 65 = .ok (.iload 4, 2) := by decide +kernel
theorem d_Md_readSet_67 : decode prog_12_method_28_code 67 = .ok (.iload_n 2, 1) := by decide +kernel
theorem d_Md_readSet_68 : decode prog_12_method_28_code 68 = .ok (.bipush 97, 2) := by decide +kernel
theorem d_Md_readSet_70 : decode prog_12_method_28_code 70 = .ok (.isub, 1) := by decide +kernel
theorem d_Md_readSet_71 : decode prog_12_method_28_code 71 = .ok (.iastore, 1) := by decide +kernel
theorem d_Md_readSet_72 : decode prog_12_method_28_code 72 = .ok (.goto 15, 3) := by decide +kernel
theorem d_Md_readSet_75 : decode prog_12_method_28_code 75 = .ok (.aload_n 0, 1) := by decide +kernel
theorem d_Md_readSet_76 : decode prog_12_method_28_code 76 = .ok (.getfield 28, 3) := by decide +kernel
theorem d_Md_readSet_79 : decode prog_12_method_28_code 79 = .ok (.iload 4, 2) := by decide +kernel
theorem d_Md_readSet_81 : decode prog_12_method_28_code 81 = .ok (.aload_n 0, 1) := by decide +kernel
theorem d_Md_readSet_82 : decode prog_12_method_28_code 82 = .ok (.iconst 0, 1) := by decide +kernel
theorem d_Md_readSet_83 : decode prog_12_method_28_code 83 = .ok (.invokevirtual 250, 3) := by decide +kernel
theorem d_Md_readSet_86 : decode prog_12_method_28_code 86 = .ok (.iastore, 1) := by decide +kernel
theorem d_Md_readSet_87 : decode prog_12_method_28_code 87 = .ok (.iload_n 2, 1) := by decide +kernel
theorem d_Md_readSet_88 : decode prog_12_method_28_code 88 = .ok (.bipush 64, 2) := by decide +kernel
theorem d_Md_readSet_90 : decode prog_12_method_28_code 90 = .ok (.if_icmp .ne 64, 3) := by decide +kernel
theorem d_Md_readSet_93 : decode prog_12_method_28_code 93 = .ok (.aload_n 0, 1) := by decide +kernel
theorem d_Md_readSet_94 : decode prog_12_method_28_code 94 = .ok (.bipush 58, 2) := by decide +kernel
theorem d_Md_readSet_96 : decode prog_12_method_28_code 96 = .ok (.invokevirtual 197, 3) := by decide +kernel
theorem d_Md_readSet_99 : decode prog_12_method_28_code 99 = .ok (.aload_n 0, 1) := by decide +kernel
theorem d_Md_readSet_100 : decode prog_12_method_28_code 100 = .ok (.invokevirtual 173, 3) := by decide +kernel
theorem d_Md_readSet_103 : decode prog_12_method_28_code 103 = .ok (.bipush 48, 2) := by decide +kernel
theorem d_Md_readSet_105 : decode prog_12_method_28_code 105 = .ok (.isub, 1) := by decide +kernel
theorem d_Md_readSet_106 : decode prog_12_method_28_code 106 = .ok (.istore 5, 2) := by decide +kernel
theorem d_Md_readSet_108 : decode prog_12_method_28_code 108 = .ok (.aload_n 0, 1) := by decide +kernel
theorem d_Md_readSet_109 : decode prog_12_method_28_code 109 = .ok (.getfield 170, 3) := by decide +kernel
theorem d_Md_readSet_112 : decode prog_12_method_28_code 112 = .ok (.iconst (-1), 1) := by decide +kernel
theorem d_Md_readSet_113 : decode prog_12_method_28_code 113 = .ok (.if_icmp .ne 22, 3) := by decide +kernel
theorem d_Md_readSet_116 : decode prog_12_method_28_code 116 = .ok (.iload 5, 2) := by decide +kernel
theorem d_Md_readSet_118 : decode prog_12_method_28_code 118 = .ok (.ifCond .lt 9, 3) := by decide +kernel
theorem d_Md_readSet_121 : decode prog_12_method_28_code 121 = .ok (.iload 5, 2) := by decide +kernel
theorem d_Md_readSet_123 : decode prog_12_method_28_code 123 = .ok (.iconst 5, 1) := by decide +kernel
theorem d_Md_readSet_124 : decode prog_12_method_28_code 124 = .ok (.if_icmp .le 11, 3) := by decide +kernel
theorem d_Md_readSet_127 : decode prog_12_method_28_code 127 = .ok (.aload_n 0, 1) := by decide +kernel
theorem d_Md_readSet_128 : decode prog_12_method_28_code 128 = .ok (.aload_n 0, 1) := by decide +kernel
theorem d_Md_readSet_129 : decode prog_12_method_28_code 129 = .ok (.getfield 167, 3) := by decide +kernel
theorem d_Md_readSet_132 : decode prog_12_method_28_code 132 = .ok (.putfield 170, 3) := by decide +kernel
theorem d_Md_readSet_135 : decode prog_12_method_28_code 135 = .ok (.aload_n 0, 1) := by decide +kernel
theorem d_Md_readSet_136 : decode prog_12_method_28_code 136 = .ok (.dup, 1) := by decide +kernel
theorem d_Md_readSet_137 : decode prog_12_method_28_code 137 = .ok (.getfield 167, 3) := by decide +kernel
theorem d_Md_readSet_140 : decode prog_12_method_28_code 140 = .ok (.iconst 1, 1) := by decide +kernel
theorem d_Md_readSet_141 : decode prog_12_method_28_code 141 = .ok (.iadd, 1) := by decide +kernel
theorem d_Md_readSet_142 : decode prog_12_method_28_code 142 = .ok (.putfield 167, 3) := by decide +kernel
theorem d_Md_readSet_145 : decode prog_12_method_28_code 145 = .ok (.aload_n 0, 1) := by decide +kernel
theorem d_Md_readSet_146 : decode prog_12_method_28_code 146 = .ok (.getfield 25, 3) := by decide +kernel
theorem d_Md_readSet_149 : decode prog_12_method_28_code 149 = .ok (.iload 4, 2) := by decide +kernel
theorem d_Md_readSet_151 : decode prog_12_method_28_code 151 = .ok (.iload 5, 2) := by decide +kernel
theorem d_Md_readSet_153 : decode prog_12_method_28_code 153 = .ok (.iastore, 1) := by decide +kernel
theorem d_Md_readSet_154 : decode prog_12_method_28_code 154 = .ok (.aload_n 0, 1) := by decide +kernel
theorem d_Md_readSet_155 : decode prog_12_method_28_code 155 = .ok (.bipush 61, 2) := by decide +kernel
theorem d_Md_readSet_157 : decode prog_12_method_28_code 157 = .ok (.invokevirtual 197, 3) := by decide +kernel
theorem d_Md_readSet_160 : decode prog_12_method_28_code 160 = .ok (.aload_n 0, 1) := by decide +kernel
theorem d_Md_readSet_161 : decode prog_12_method_28_code 161 = .ok (.getfield 170, 3) := by decide +kernel
theorem d_Md_readSet_164 : decode prog_12_method_28_code 164 = .ok (.iconst (-1), 1) := by decide +kernel
theorem d_Md_readSet_165 : decode prog_12_method_28_code 165 = .ok (.if_icmp .eq 4, 3) := by decide +kernel
theorem d_Md_readSet_168 : decode prog_12_method_28_code 168 = .ok (.return_, 1) := by decide +kernel
theorem d_Md_readSet_169 : decode prog_12_method_28_code 169 = .ok (.aload_n 0, 1) := by decide +kernel
theorem d_Md_readSet_170 : decode prog_12_method_28_code 170 = .ok (.getfield 31, 3) := by decide +kernel
theorem d_Md_readSet_173 : decode prog_12_method_28_code 173 = .ok (.iload 4, 2) := by decide +kernel
theorem d_Md_readSet_175 : decode prog_12_method_28_code 175 = .ok (.aload_n 0, 1) := by decide +kernel
theorem d_Md_readSet_176 : decode prog_12_method_28_code 176 = .ok (.iconst 1, 1) := by decide +kernel
theorem d_Md_readSet_177 : decode prog_12_method_28_code 177 = .ok (.invokevirtual 250, 3) := by decide +kernel
theorem d_Md_readSet_180 : decode prog_12_method_28_code 180 = .ok (.iastore, 1) := by decide +kernel
theorem d_Md_readSet_181 : decode prog_12_method_28_code 181 = .ok (.aload_n 0, 1) := by decide +kernel
theorem d_Md_readSet_182 : decode prog_12_method_28_code 182 = .ok (.bipush 59, 2) := by decide +kernel
theorem d_Md_readSet_184 : decode prog_12_method_28_code 184 = .ok (.invokevirtual 197, 3) := by decide +kernel
theorem d_Md_readSet_187 : decode prog_12_method_28_code 187 = .ok (.return_, 1) := by decide +kernel
theorem d_Md_simpleOf_0 : decode prog_12_method_29_code 0 = .ok (.iload_n 0, 1) := by decide +kernel
theorem d_Md_simpleOf_1 : decode prog_12_method_29_code 1 = .ok (.lookupswitch 76 #[(33, 59), (38, 67), (43, 64), (60, 73), (94, 61), (124, 70)], 59) := by decide +kernel
theorem d_Md_simpleOf_60 : decode prog_12_method_29_code 60 = .ok (.iconst 4, 1) := by decide +kernel
theorem d_Md_simpleOf_61 : decode prog_12_method_29_code 61 = .ok (.ireturn, 1) := by decide +kernel
theorem d_Md_simpleOf_62 : decode prog_12_method_29_code 62 = .ok (.bipush 12, 2) := by decide +kernel
theorem d_Md_simpleOf_64 : decode prog_12_method_29_code 64 = .ok (.ireturn, 1) := by decide +kernel
theorem d_Md_simpleOf_65 : decode prog_12_method_29_code 65 = .ok (.bipush 13, 2) := by decide +kernel
theorem d_Md_simpleOf_67 : decode prog_12_method_29_code 67 = .ok (.ireturn, 1) := by decide +kernel
theorem d_Md_simpleOf_68 : decode prog_12_method_29_code 68 = .ok (.bipush 14, 2) := by decide +kernel
theorem d_Md_simpleOf_70 : decode prog_12_method_29_code 70 = .ok (.ireturn, 1) := by decide +kernel
theorem d_Md_simpleOf_71 : decode prog_12_method_29_code 71 = .ok (.bipush 15, 2) := by decide +kernel
theorem d_Md_simpleOf_73 : decode prog_12_method_29_code 73 = .ok (.ireturn, 1) := by decide +kernel
theorem d_Md_simpleOf_74 : decode prog_12_method_29_code 74 = .ok (.bipush 16, 2) := by decide +kernel
theorem d_Md_simpleOf_76 : decode prog_12_method_29_code 76 = .ok (.ireturn, 1) := by decide +kernel
theorem d_Md_simpleOf_77 : decode prog_12_method_29_code 77 = .ok (.iconst 0, 1) := by decide +kernel
theorem d_Md_simpleOf_78 : decode prog_12_method_29_code 78 = .ok (.ireturn, 1) := by decide +kernel
theorem d_Md_readBlockWith_0 : decode prog_12_method_30_code 0 = .ok (.aload_n 0, 1) := by decide +kernel
theorem d_Md_readBlockWith_1 : decode prog_12_method_30_code 1 = .ok (.dup, 1) := by decide +kernel
theorem d_Md_readBlockWith_2 : decode prog_12_method_30_code 2 = .ok (.getfield 167, 3) := by decide +kernel
theorem d_Md_readBlockWith_5 : decode prog_12_method_30_code 5 = .ok (.iconst 1, 1) := by decide +kernel
theorem d_Md_readBlockWith_6 : decode prog_12_method_30_code 6 = .ok (.iadd, 1) := by decide +kernel
theorem d_Md_readBlockWith_7 : decode prog_12_method_30_code 7 = .ok (.putfield 167, 3) := by decide +kernel
theorem d_Md_readBlockWith_10 : decode prog_12_method_30_code 10 = .ok (.aload_n 0, 1) := by decide +kernel
theorem d_Md_readBlockWith_11 : decode prog_12_method_30_code 11 = .ok (.iload_n 1, 1) := by decide +kernel
theorem d_Md_readBlockWith_12 : decode prog_12_method_30_code 12 = .ok (.iload_n 3, 1) := by decide +kernel
theorem d_Md_readBlockWith_13 : decode prog_12_method_30_code 13 = .ok (.invokevirtual 236, 3) := by decide +kernel
theorem d_Md_readBlockWith_16 : decode prog_12_method_30_code 16 = .ok (.istore 4, 2) := by decide +kernel
theorem d_Md_readBlockWith_18 : decode prog_12_method_30_code 18 = .ok (.aload_n 0, 1) := by decide +kernel
theorem d_Md_readBlockWith_19 : decode prog_12_method_30_code 19 = .ok (.getfield 31, 3) := by decide +kernel
theorem d_Md_readBlockWith_22 : decode prog_12_method_30_code 22 = .ok (.sipush 600, 3) := by decide +kernel
theorem d_Md_readBlockWith_25 : decode prog_12_method_30_code 25 = .ok (.aload_n 0, 1) := by decide +kernel
theorem d_Md_readBlockWith_26 : decode prog_12_method_30_code 26 = .ok (.getfield 177, 3) := by decide +kernel
theorem d_Md_readBlockWith_29 : decode prog_12_method_30_code 29 = .ok (.imul, 1) := by decide +kernel
theorem d_Md_readBlockWith_30 : decode prog_12_method_30_code 30 = .ok (.iload 4, 2) := by decide +kernel
theorem d_Md_readBlockWith_32 : decode prog_12_method_30_code 32 = .ok (.iadd, 1) := by decide +kernel
theorem d_Md_readBlockWith_33 : decode prog_12_method_30_code 33 = .ok (.aload_n 0, 1) := by decide +kernel
theorem d_Md_readBlockWith_34 : decode prog_12_method_30_code 34 = .ok (.iconst 1, 1) := by decide +kernel
theorem d_Md_readBlockWith_35 : decode prog_12_method_30_code 35 = .ok (.invokevirtual 250, 3) := by decide +kernel
theorem d_Md_readBlockWith_38 : decode prog_12_method_30_code 38 = .ok (.iastore, 1) := by decide +kernel
theorem d_Md_readBlockWith_39 : decode prog_12_method_30_code 39 = .ok (.aload_n 0, 1) := by decide +kernel
theorem d_Md_readBlockWith_40 : decode prog_12_method_30_code 40 = .ok (.iload_n 2, 1) := by decide +kernel
theorem d_Md_readBlockWith_41 : decode prog_12_method_30_code 41 = .ok (.bipush 123, 2) := by decide +kernel
theorem d_Md_readBlockWith_43 : decode prog_12_method_30_code 43 = .ok (.iload 4, 2) := by decide +kernel
theorem d_Md_readBlockWith_45 : decode prog_12_method_30_code 45 = .ok (.invokevirtual 243, 3) := by decide +kernel
theorem d_Md_readBlockWith_48 : decode prog_12_method_30_code 48 = .ok (.return_, 1) := by decide +kernel
theorem d_Md_readStatement_0 : decode prog_12_method_31_code 0 = .ok (.aload_n 0, 1) := by decide +kernel
theorem d_Md_readStatement_1 : decode prog_12_method_31_code 1 = .ok (.getfield 167, 3) := by decide +kernel
theorem d_Md_readStatement_4 : decode prog_12_method_31_code 4 = .ok (.istore_n 1, 1) := by decide +kernel
theorem d_Md_readStatement_5 : decode prog_12_method_31_code 5 = .ok (.aload_n 0, 1) := by decide +kernel
theorem d_Md_readStatement_6 : decode prog_12_method_31_code 6 = .ok (.invokevirtual 173, 3) := by decide +kernel
theorem d_Md_readStatement_9 : decode prog_12_method_31_code 9 = .ok (.istore_n 2, 1) := by decide +kernel
theorem d_Md_readStatement_10 : decode prog_12_method_31_code 10 = .ok (.aload_n 0, 1) := by decide +kernel
theorem d_Md_readStatement_11 : decode prog_12_method_31_code 11 = .ok (.getfield 254, 3) := by decide +kernel
theorem d_Md_readStatement_14 : decode prog_12_method_31_code 14 = .ok (.bipush 100, 2) := by decide +kernel
theorem d_Md_readStatement_16 : decode prog_12_method_31_code 16 = .ok (.if_icmp .ne 12, 3) := by decide +kernel
theorem d_Md_readStatement_19 : decode prog_12_method_31_code 19 = .ok (.aload_n 0, 1) := by decide +kernel
theorem d_Md_readStatement_20 : decode prog_12_method_31_code 20 = .ok (.aload_n 0, 1) := by decide +kernel
theorem d_Md_readStatement_21 : decode prog_12_method_31_code 21 = .ok (.getfield 167, 3) := by decide +kernel
theorem d_Md_readStatement_24 : decode prog_12_method_31_code 24 = .ok (.putfield 170, 3) := by decide +kernel
theorem d_Md_readStatement_27 : decode prog_12_method_31_code 27 = .ok (.return_, 1) := by decide +kernel
theorem d_Md_readStatement_28 : decode prog_12_method_31_code 28 = .ok (.aload_n 0, 1) := by decide +kernel
theorem d_Md_readStatement_29 : decode prog_12_method_31_code 29 = .ok (.dup, 1) := by decide +kernel
theorem d_Md_readStatement_30 : decode prog_12_method_31_code 30 = .ok (.getfield 254, 3) := by decide +kernel
theorem d_Md_readStatement_33 : decode prog_12_method_31_code 33 = .ok (.iconst 1, 1) := by decide +kernel
theorem d_Md_readStatement_34 : decode prog_12_method_31_code 34 = .ok (.iadd, 1) := by decide +kernel
theorem d_Md_readStatement_35 : decode prog_12_method_31_code 35 = .ok (.putfield 254, 3) := by decide +kernel
theorem d_Md_readStatement_38 : decode prog_12_method_31_code 38 = .ok (.iload_n 2, 1) := by decide +kernel
theorem d_Md_readStatement_39 : decode prog_12_method_31_code 39 = .ok (.invokestatic 205, 3) := by decide +kernel
theorem d_Md_readStatement_42 : decode prog_12_method_31_code 42 = .ok (.ifCond .ne 15, 3) := by decide +kernel
theorem d_Md_readStatement_45 : decode prog_12_method_31_code 45 = .ok (.iload_n 2, 1) := by decide +kernel
theorem d_Md_readStatement_46 : decode prog_12_method_31_code 46 = .ok (.bipush 64, 2) := by decide +kernel
theorem d_Md_readStatement_48 : decode prog_12_method_31_code 48 = .ok (.if_icmp .eq 9, 3) := by decide +kernel
theorem d_Md_readStatement_51 : decode prog_12_method_31_code 51 = .ok (.iload_n 2, 1) := by decide +kernel
theorem d_Md_readStatement_52 : decode prog_12_method_31_code 52 = .ok (.bipush 39, 2) := by decide +kernel
theorem d_Md_readStatement_54 : decode prog_12_method_31_code 54 = .ok (.if_icmp .ne 11, 3) := by decide +kernel
theorem d_Md_readStatement_57 : decode prog_12_method_31_code 57 = .ok (.aload_n 0, 1) := by decide +kernel
theorem d_Md_readStatement_58 : decode prog_12_method_31_code 58 = .ok (.iload_n 1, 1) := by decide +kernel
theorem d_Md_readStatement_59 : decode prog_12_method_31_code 59 = .ok (.invokevirtual 257, 3) := by decide +kernel
theorem d_Md_readStatement_62 : decode prog_12_method_31_code 62 = .ok (.goto 191, 3) := by decide +kernel
theorem d_Md_readStatement_65 : decode prog_12_method_31_code 65 = .ok (.iload_n 2, 1) := by decide +kernel
theorem d_Md_readStatement_66 : decode prog_12_method_31_code 66 = .ok (.invokestatic 260, 3) := by decide +kernel
theorem d_Md_readStatement_69 : decode prog_12_method_31_code 69 = .ok (.ifCond .eq 16, 3) := by decide +kernel
theorem d_Md_readStatement_72 : decode prog_12_method_31_code 72 = .ok (.aload_n 0, 1) := by decide +kernel
theorem d_Md_readStatement_73 : decode prog_12_method_31_code 73 = .ok (.iload_n 2, 1) := by decide +kernel
theorem d_Md_readStatement_74 : decode prog_12_method_31_code 74 = .ok (.invokestatic 260, 3) := by decide +kernel
theorem d_Md_readStatement_77 : decode prog_12_method_31_code 77 = .ok (.iload_n 1, 1) := by decide +kernel
theorem d_Md_readStatement_78 : decode prog_12_method_31_code 78 = .ok (.invokevirtual 263, 3) := by decide +kernel
theorem d_Md_readStatement_81 : decode prog_12_method_31_code 81 = .ok (.pop, 1) := by decide +kernel
theorem d_Md_readStatement_82 : decode prog_12_method_31_code 82 = .ok (.goto 171, 3) := by decide +kernel
theorem d_Md_readStatement_85 : decode prog_12_method_31_code 85 = .ok (.iload_n 2, 1) := by decide +kernel
theorem d_Md_readStatement_86 : decode prog_12_method_31_code 86 = .ok (.bipush 63, 2) := by decide +kernel
theorem d_Md_readStatement_88 : decode prog_12_method_31_code 88 = .ok (.if_icmp .ne 13, 3) := by decide +kernel
theorem d_Md_readStatement_91 : decode prog_12_method_31_code 91 = .ok (.aload_n 0, 1) := by decide +kernel
theorem d_Md_readStatement_92 : decode prog_12_method_31_code 92 = .ok (.iconst 5, 1) := by decide +kernel
theorem d_Md_readStatement_93 : decode prog_12_method_31_code 93 = .ok (.iconst 1, 1) := by decide +kernel
theorem d_Md_readStatement_94 : decode prog_12_method_31_code 94 = .ok (.iload_n 1, 1) := by decide +kernel
theorem d_Md_readStatement_95 : decode prog_12_method_31_code 95 = .ok (.invokevirtual 266, 3) := by decide +kernel
theorem d_Md_readStatement_98 : decode prog_12_method_31_code 98 = .ok (.goto 155, 3) := by decide +kernel
theorem d_Md_readStatement_101 : decode prog_12_method_31_code 101 = .ok (.iload_n 2, 1) := by decide +kernel
theorem d_Md_readStatement_102 : decode prog_12_method_31_code 102 = .ok (.bipush 42, 2) := by decide +kernel
theorem d_Md_readStatement_104 : decode prog_12_method_31_code 104 = .ok (.if_icmp .ne 14, 3) := by decide +kernel
theorem d_Md_readStatement_107 : decode prog_12_method_31_code 107 = .ok (.aload_n 0, 1) := by decide +kernel
theorem d_Md_readStatement_108 : decode prog_12_method_31_code 108 = .ok (.bipush 6, 2) := by decide +kernel
theorem d_Md_readStatement_110 : decode prog_12_method_31_code 110 = .ok (.iconst 3, 1) := by decide +kernel
theorem d_Md_readStatement_111 : decode prog_12_method_31_code 111 = .ok (.iload_n 1, 1) := by decide +kernel
theorem d_Md_readStatement_112 : decode prog_12_method_31_code 112 = .ok (.invokevirtual 266, 3) := by decide +kernel
theorem d_Md_readStatement_115 : decode prog_12_method_31_code 115 = .ok (.goto 138, 3) := by decide +kernel
theorem d_Md_readStatement_118 : decode prog_12_method_31_code 118 = .ok (.iload_n 2, 1) := by decide +kernel
theorem d_Md_readStatement_119 : decode prog_12_method_31_code 119 = .ok (.bipush 91, 2) := by decide +kernel
theorem d_Md_readStatement_121 : decode prog_12_method_31_code 121 = .ok (.if_icmp .ne 22, 3) := by decide +kernel
theorem d_Md_readStatement_124 : decode prog_12_method_31_code 124 = .ok (.aload_n 0, 1) := by decide +kernel
theorem d_Md_readStatement_125 : decode prog_12_method_31_code 125 = .ok (.bipush 7, 2) := by decide +kernel
theorem d_Md_readStatement_127 : decode prog_12_method_31_code 127 = .ok (.iload_n 1, 1) := by decide +kernel
theorem d_Md_readStatement_128 : decode prog_12_method_31_code 128 = .ok (.invokevirtual 236, 3) := by decide +kernel
theorem d_Md_readStatement_131 : decode prog_12_method_31_code 131 = .ok (.istore_n 3, 1) := by decide +kernel
theorem d_Md_readStatement_132 : decode prog_12_method_31_code 132 = .ok (.aload_n 0, 1) := by decide +kernel
theorem d_Md_readStatement_133 : decode prog_12_method_31_code 133 = .ok (.iconst 4, 1) := by decide +kernel
theorem d_Md_readStatement_134 : decode prog_12_method_31_code 134 = .ok (.bipush 91, 2) := by decide +kernel
theorem d_Md_readStatement_136 : decode prog_12_method_31_code 136 = .ok (.iload_n 3, 1) := by decide +kernel
theorem d_Md_readStatement_137 : decode prog_12_method_31_code 137 = .ok (.invokevirtual 243, 3) := by decide +kernel
theorem d_Md_readStatement_140 : decode prog_12_method_31_code 140 = .ok (.goto 113, 3) := by decide +kernel
theorem d_Md_readStatement_143 : decode prog_12_method_31_code 143 = .ok (.iload_n 2, 1) := by decide +kernel
theorem d_Md_readStatement_144 : decode prog_12_method_31_code 144 = .ok (.bipush 126, 2) := by decide +kernel
theorem d_Md_readStatement_146 : decode prog_12_method_31_code 146 = .ok (.if_icmp .ne 32, 3) := by decide +kernel
theorem d_Md_readStatement_149 : decode prog_12_method_31_code 149 = .ok (.aload_n 0, 1) := by decide +kernel
theorem d_Md_readStatement_150 : decode prog_12_method_31_code 150 = .ok (.bipush 9, 2) := by decide +kernel
theorem d_Md_readStatement_152 : decode prog_12_method_31_code 152 = .ok (.iload_n 1, 1) := by decide +kernel
theorem d_Md_readStatement_153 : decode prog_12_method_31_code 153 = .ok (.invokevirtual 236, 3) := by decide +kernel
theorem d_Md_readStatement_156 : decode prog_12_method_31_code 156 = .ok (.istore_n 3, 1) := by decide +kernel
theorem d_Md_readStatement_157 : decode prog_12_method_31_code 157 = .ok (.aload_n 0, 1) := by decide +kernel
theorem d_Md_readStatement_158 : decode prog_12_method_31_code 158 = .ok (.dup, 1) := by decide +kernel
theorem d_Md_readStatement_159 : decode prog_12_method_31_code 159 = .ok (.getfield 167, 3) := by decide +kernel
theorem d_Md_readStatement_162 : decode prog_12_method_31_code 162 = .ok (.iconst 1, 1) := by decide +kernel
theorem d_Md_readStatement_163 : decode prog_12_method_31_code 163 = .ok (.iadd, 1) := by decide +kernel
theorem d_Md_readStatement_164 : decode prog_12_method_31_code 164 = .ok (.putfield 167, 3) := by decide +kernel
theorem d_Md_readStatement_167 : decode prog_12_method_31_code 167 = .ok (.aload_n 0, 1) := by decide +kernel
theorem d_Md_readStatement_168 : decode prog_12_method_31_code 168 = .ok (.iconst 5, 1) := by decide +kernel
theorem d_Md_readStatement_169 : decode prog_12_method_31_code 169 = .ok (.bipush 123, 2) := by decide +kernel
theorem d_Md_readStatement_171 : decode prog_12_method_31_code 171 = .ok (.iload_n 3, 1) := by decide +kernel
theorem d_Md_readStatement_172 : decode prog_12_method_31_code 172 = .ok (.invokevirtual 243, 3) := by decide +kernel
theorem d_Md_readStatement_175 : decode prog_12_method_31_code 175 = .ok (.goto 78, 3) := by decide +kernel
theorem d_Md_readStatement_178 : decode prog_12_method_31_code 178 = .ok (.iload_n 2, 1) := by decide +kernel
theorem d_Md_readStatement_179 : decode prog_12_method_31_code 179 = .ok (.bipush 58, 2) := by decide +kernel
theorem d_Md_readStatement_181 : decode prog_12_method_31_code 181 = .ok (.if_icmp .ne 11, 3) := by decide +kernel
theorem d_Md_readStatement_184 : decode prog_12_method_31_code 184 = .ok (.aload_n 0, 1) := by decide +kernel
theorem d_Md_readStatement_185 : decode prog_12_method_31_code 185 = .ok (.iload_n 1, 1) := by decide +kernel
theorem d_Md_readStatement_186 : decode prog_12_method_31_code 186 = .ok (.invokevirtual 269, 3) := by decide +kernel
theorem d_Md_readStatement_189 : decode prog_12_method_31_code 189 = .ok (.goto 64, 3) := by decide +kernel
theorem d_Md_readStatement_192 : decode prog_12_method_31_code 192 = .ok (.iload_n 2, 1) := by decide +kernel
theorem d_Md_readStatement_193 : decode prog_12_method_31_code 193 = .ok (.invokestatic 247, 3) := by decide +kernel
theorem d_Md_readStatement_196 : decode prog_12_method_31_code 196 = .ok (.ifCond .eq 49, 3) := by decide +kernel
theorem d_Md_readStatement_199 : decode prog_12_method_31_code 199 = .ok (.aload_n 0, 1) := by decide +kernel
theorem d_Md_readStatement_200 : decode prog_12_method_31_code 200 = .ok (.bipush 18, 2) := by decide +kernel
theorem d_Md_readStatement_202 : decode prog_12_method_31_code 202 = .ok (.iload_n 1, 1) := by decide +kernel
theorem d_Md_readStatement_203 : decode prog_12_method_31_code 203 = .ok (.invokevirtual 236, 3) := by decide +kernel
theorem d_Md_readStatement_206 : decode prog_12_method_31_code 206 = .ok (.istore_n 3, 1) := by decide +kernel
theorem d_Md_readStatement_207 : decode prog_12_method_31_code 207 = .ok (.aload_n 0, 1) := by decide +kernel
theorem d_Md_readStatement_208 : decode prog_12_method_31_code 208 = .ok (.getfield 25, 3) := by decide +kernel
theorem d_Md_readStatement_211 : decode prog_12_method_31_code 211 = .ok (.sipush 600, 3) := by decide +kernel
theorem d_Md_readStatement_214 : decode prog_12_method_31_code 214 = .ok (.aload_n 0, 1) := by decide +kernel
theorem d_Md_readStatement_215 : decode prog_12_method_31_code 215 = .ok (.getfield 177, 3) := by decide +kernel
theorem d_Md_readStatement_218 : decode prog_12_method_31_code 218 = .ok (.imul, 1) := by decide +kernel
theorem d_Md_readStatement_219 : decode prog_12_method_31_code 219 = .ok (.iload_n 3, 1) := by decide +kernel
theorem d_Md_readStatement_220 : decode prog_12_method_31_code 220 = .ok (.iadd, 1) := by decide +kernel
theorem d_Md_readStatement_221 : decode prog_12_method_31_code 221 = .ok (.iload_n 2, 1) := by decide +kernel
theorem d_Md_readStatement_222 : decode prog_12_method_31_code 222 = .ok (.bipush 65, 2) := by decide +kernel
theorem d_Md_readStatement_224 : decode prog_12_method_31_code 224 = .ok (.isub, 1) := by decide +kernel
theorem d_Md_readStatement_225 : decode prog_12_method_31_code 225 = .ok (.iastore, 1) := by decide +kernel
theorem d_Md_readStatement_226 : decode prog_12_method_31_code 226 = .ok (.aload_n 0, 1) := by decide +kernel
theorem d_Md_readStatement_227 : decode prog_12_method_31_code 227 = .ok (.dup, 1) := by decide +kernel
theorem d_Md_readStatement_228 : decode prog_12_method_31_code 228 = .ok (.getfield 167, 3) := by decide +kernel
theorem d_Md_readStatement_231 : decode prog_12_method_31_code 231 = .ok (.iconst 1, 1) := by decide +kernel
theorem d_Md_readStatement_232 : decode prog_12_method_31_code 232 = .ok (.iadd, 1) := by decide +kernel
theorem d_Md_readStatement_233 : decode prog_12_method_31_code 233 = .ok (.putfield 167, 3) := by decide +kernel
theorem d_Md_readStatement_236 : decode prog_12_method_31_code 236 = .ok (.aload_n 0, 1) := by decide +kernel
theorem d_Md_readStatement_237 : decode prog_12_method_31_code 237 = .ok (.bipush 59, 2) := by decide +kernel
theorem d_Md_readStatement_239 : decode prog_12_method_31_code 239 = .ok (.invokevirtual 197, 3) := by decide +kernel
theorem d_Md_readStatement_242 : decode prog_12_method_31_code 242 = .ok (.goto 11, 3) := by decide +kernel
theorem d_Md_readStatement_245 : decode prog_12_method_31_code 245 = .ok (.aload_n 0, 1) := by decide +kernel
theorem d_Md_readStatement_246 : decode prog_12_method_31_code 246 = .ok (.aload_n 0, 1) := by decide +kernel
theorem d_Md_readStatement_247 : decode prog_12_method_31_code 247 = .ok (.getfield 167, 3) := by decide +kernel
theorem d_Md_readStatement_250 : decode prog_12_method_31_code 250 = .ok (.putfield 170, 3) := by decide +kernel
theorem d_Md_readStatement_253 : decode prog_12_method_31_code 253 = .ok (.return_, 1) := by decide +kernel
