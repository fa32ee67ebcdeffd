theorem d_Md_isEndHere_0 : decode prog_12_method_32_code 0 = .ok (.aload_n 0, 1) := by decide +kernel
theorem d_Md_isEndHere_1 : decode prog_12_method_32_code 1 = .ok (.getfield 233, 3) := by decide +kernel
theorem d_Md_isEndHere_4 : decode prog_12_method_32_code 4 = .ok (.ifCond .le 36, 3) := by decide +kernel
theorem d_Md_isEndHere_7 : decode prog_12_method_32_code 7 = .ok (.aload_n 0, 1) := by decide +kernel
theorem d_Md_isEndHere_8 : decode prog_12_method_32_code 8 = .ok (.invokevirtual 173, 3) := by decide +kernel
theorem d_Md_isEndHere_11 : decode prog_12_method_32_code 11 = .ok (.aload_n 0, 1) := by decide +kernel
theorem d_Md_isEndHere_12 : decode prog_12_method_32_code 12 = .ok (.getfield 46, 3) := by decide +kernel
theorem d_Md_isEndHere_15 : decode prog_12_method_32_code 15 = .ok (.aload_n 0, 1) := by decide +kernel
theorem d_Md_isEndHere_16 : decode prog_12_method_32_code 16 = .ok (.getfield 233, 3) := by decide +kernel
theorem d_Md_isEndHere_19 : decode prog_12_method_32_code 19 = .ok (.iconst 1, 1) := by decide +kernel
theorem d_Md_isEndHere_20 : decode prog_12_method_32_code 20 = .ok (.isub, 1) := by decide +kernel
theorem d_Md_isEndHere_21 : decode prog_12_method_32_code 21 = .ok (.iaload, 1) := by decide +kernel
theorem d_Md_isEndHere_22 : decode prog_12_method_32_code 22 = .ok (.iconst 4, 1) := by decide +kernel
theorem d_Md_isEndHere_23 : decode prog_12_method_32_code 23 = .ok (.if_icmp .ne 8, 3) := by decide +kernel
theorem d_Md_isEndHere_26 : decode prog_12_method_32_code 26 = .ok (.bipush 93, 2) := by decide +kernel
theorem d_Md_isEndHere_28 : decode prog_12_method_32_code 28 = .ok (.goto 5, 3) := by decide +kernel
theorem d_Md_isEndHere_31 : decode prog_12_method_32_code 31 = .ok (.bipush 125, 2) := by decide +kernel
theorem d_Md_isEndHere_33 : decode prog_12_method_32_code 33 = .ok (.if_icmp .ne 7, 3) := by decide +kernel
theorem d_Md_isEndHere_36 : decode prog_12_method_32_code 36 = .ok (.iconst 1, 1) := by decide +kernel
theorem d_Md_isEndHere_37 : decode prog_12_method_32_code 37 = .ok (.goto 4, 3) := by decide +kernel
theorem d_Md_isEndHere_40 : decode prog_12_method_32_code 40 = .ok (.iconst 0, 1) := by decide +kernel
theorem d_Md_isEndHere_41 : decode prog_12_method_32_code 41 = .ok (.ireturn, 1) := by decide +kernel
theorem d_Md_read_0 : decode prog_12_method_33_code 0 = .ok (.aload_n 0, 1) := by decide +kernel
theorem d_Md_read_1 : decode prog_12_method_33_code 1 = .ok (.iconst 0, 1) := by decide +kernel
theorem d_Md_read_2 : decode prog_12_method_33_code 2 = .ok (.putfield 164, 3) := by decide +kernel
theorem d_Md_read_5 : decode prog_12_method_33_code 5 = .ok (.aload_n 0, 1) := by decide +kernel
theorem d_Md_read_6 : decode prog_12_method_33_code 6 = .ok (.iconst 1, 1) := by decide +kernel
theorem d_Md_read_7 : decode prog_12_method_33_code 7 = .ok (.aload_n 0, 1) := by decide +kernel
theorem d_Md_read_8 : decode prog_12_method_33_code 8 = .ok (.getfield 126, 3) := by decide +kernel
theorem d_Md_read_11 : decode prog_12_method_33_code 11 = .ok (.isub, 1) := by decide +kernel
theorem d_Md_read_12 : decode prog_12_method_33_code 12 = .ok (.putfield 177, 3) := by decide +kernel
theorem d_Md_read_15 : decode prog_12_method_33_code 15 = .ok (.aload_n 0, 1) := by decide +kernel
theorem d_Md_read_16 : decode prog_12_method_33_code 16 = .ok (.iconst 0, 1) := by decide +kernel
theorem d_Md_read_17 : decode prog_12_method_33_code 17 = .ok (.putfield 167, 3) := by decide +kernel
theorem d_Md_read_20 : decode prog_12_method_33_code 20 = .ok (.aload_n 0, 1) := by decide +kernel
theorem d_Md_read_21 : decode prog_12_method_33_code 21 = .ok (.iconst (-1), 1) := by decide +kernel
theorem d_Md_read_22 : decode prog_12_method_33_code 22 = .ok (.putfield 170, 3) := by decide +kernel
theorem d_Md_read_25 : decode prog_12_method_33_code 25 = .ok (.aload_n 0, 1) := by decide +kernel
theorem d_Md_read_26 : decode prog_12_method_33_code 26 = .ok (.iconst 0, 1) := by decide +kernel
theorem d_Md_read_27 : decode prog_12_method_33_code 27 = .ok (.putfield 230, 3) := by decide +kernel
theorem d_Md_read_30 : decode prog_12_method_33_code 30 = .ok (.aload_n 0, 1) := by decide +kernel
theorem d_Md_read_31 : decode prog_12_method_33_code 31 = .ok (.iconst 0, 1) := by decide +kernel
theorem d_Md_read_32 : decode prog_12_method_33_code 32 = .ok (.putfield 180, 3) := by decide +kernel
theorem d_Md_read_35 : decode prog_12_method_33_code 35 = .ok (.aload_n 0, 1) := by decide +kernel
theorem d_Md_read_36 : decode prog_12_method_33_code 36 = .ok (.iconst 0, 1) := by decide +kernel
theorem d_Md_read_37 : decode prog_12_method_33_code 37 = .ok (.putfield 254, 3) := by decide +kernel
theorem d_Md_read_40 : decode prog_12_method_33_code 40 = .ok (.aload_n 0, 1) := by decide +kernel
theorem d_Md_read_41 : decode prog_12_method_33_code 41 = .ok (.iconst 0, 1) := by decide +kernel
theorem d_Md_read_42 : decode prog_12_method_33_code 42 = .ok (.putfield 233, 3) := by decide +kernel
theorem d_Md_read_45 : decode prog_12_method_33_code 45 = .ok (.iconst 0, 1) := by decide +kernel
theorem d_Md_read_46 : decode prog_12_method_33_code 46 = .ok (.istore_n 1, 1) := by decide +kernel
theorem d_Md_read_47 : decode prog_12_method_33_code 47 = .ok (.iload_n 1, 1) := by decide +kernel
theorem d_Md_read_48 : decode prog_12_method_33_code 48 = .ok (.bipush 26, 2) := by decide +kernel
theorem d_Md_read_50 : decode prog_12_method_33_code 50 = .ok (.if_icmp .ge 24, 3) := by decide +kernel
theorem d_Md_read_53 : decode prog_12_method_33_code 53 = .ok (.aload_n 0, 1) := by decide +kernel
theorem d_Md_read_54 : decode prog_12_method_33_code 54 = .ok (.getfield 37, 3) := by decide +kernel
theorem d_Md_read_57 : decode prog_12_method_33_code 57 = .ok (.bipush 26, 2) := by decide +kernel
theorem d_Md_read_59 : decode prog_12_method_33_code 59 = .ok (.aload_n 0, 1) := by decide +kernel
theorem d_Md_read_60 : decode prog_12_method_33_code 60 = .ok (.getfield 177, 3) := by decide +kernel
theorem d_Md_read_63 : decode prog_12_method_33_code 63 = .ok (.imul, 1) := by decide +kernel
theorem d_Md_read_64 : decode prog_12_method_33_code 64 = .ok (.iload_n 1, 1) := by decide +kernel
theorem d_Md_read_65 : decode prog_12_method_33_code 65 = .ok (.iadd, 1) := by decide +kernel
theorem d_Md_read_66 : decode prog_12_method_33_code 66 = .ok (.iconst (-1), 1) := by decide +kernel
theorem d_Md_read_67 : decode prog_12_method_33_code 67 = .ok (.iastore, 1) := by decide +kernel
theorem d_Md_read_68 : decode prog_12_method_33_code 68 = .ok (.iinc 1 1, 3) := by decide +kernel
theorem d_Md_read_71 : decode prog_12_method_33_code 71 = .ok (.goto (-24), 3) := by decide +kernel
theorem d_Md_read_74 : decode prog_12_method_33_code 74 = .ok (.aload_n 0, 1) := by decide +kernel
theorem d_Md_read_75 : decode prog_12_method_33_code 75 = .ok (.getfield 170, 3) := by decide +kernel
theorem d_Md_read_78 : decode prog_12_method_33_code 78 = .ok (.iconst (-1), 1) := by decide +kernel
theorem d_Md_read_79 : decode prog_12_method_33_code 79 = .ok (.if_icmp .ne 93, 3) := by decide +kernel
theorem d_Md_read_82 : decode prog_12_method_33_code 82 = .ok (.aload_n 0, 1) := by decide +kernel
theorem d_Md_read_83 : decode prog_12_method_33_code 83 = .ok (.getfield 167, 3) := by decide +kernel
theorem d_Md_read_86 : decode prog_12_method_33_code 86 = .ok (.aload_n 0, 1) := by decide +kernel
theorem d_Md_read_87 : decode prog_12_method_33_code 87 = .ok (.getfield 117, 3) := by decide +kernel
theorem d_Md_read_90 : decode prog_12_method_33_code 90 = .ok (.if_icmp .lt 10, 3) := by decide +kernel
theorem d_Md_read_93 : decode prog_12_method_33_code 93 = .ok (.aload_n 0, 1) := by decide +kernel
theorem d_Md_read_94 : decode prog_12_method_33_code 94 = .ok (.getfield 233, 3) := by decide +kernel
theorem d_Md_read_97 : decode prog_12_method_33_code 97 = .ok (.ifCond .le 75, 3) := by decide +kernel
theorem d_Md_read_100 : decode prog_12_method_33_code 100 = .ok (.aload_n 0, 1) := by decide +kernel
theorem d_Md_read_101 : decode prog_12_method_33_code 101 = .ok (.invokevirtual 173, 3) := by decide +kernel
theorem d_Md_read_104 : decode prog_12_method_33_code 104 = .ok (.bipush 10, 2) := by decide +kernel
theorem d_Md_read_106 : decode prog_12_method_33_code 106 = .ok (.if_icmp .ne 16, 3) := by decide +kernel
theorem d_Md_read_109 : decode prog_12_method_33_code 109 = .ok (.aload_n 0, 1) := by decide +kernel
theorem d_Md_read_110 : decode prog_12_method_33_code 110 = .ok (.dup, 1) := by decide +kernel
theorem d_Md_read_111 : decode prog_12_method_33_code 111 = .ok (.getfield 167, 3) := by decide +kernel
theorem d_Md_read_114 : decode prog_12_method_33_code 114 = .ok (.iconst 1, 1) := by decide +kernel
theorem d_Md_read_115 : decode prog_12_method_33_code 115 = .ok (.iadd, 1) := by decide +kernel
theorem d_Md_read_116 : decode prog_12_method_33_code 116 = .ok (.putfield 167, 3) := by decide +kernel
theorem d_Md_read_119 : decode prog_12_method_33_code 119 = .ok (.goto (-19), 3) := by decide +kernel
theorem d_Md_read_122 : decode prog_12_method_33_code 122 = .ok (.aload_n 0, 1) := by decide +kernel
theorem d_Md_read_123 : decode prog_12_method_33_code 123 = .ok (.invokevirtual 272, 3) := by decide +kernel
theorem d_Md_read_126 : decode prog_12_method_33_code 126 = .ok (.ifCond .eq 10, 3) := by decide +kernel
theorem d_Md_read_129 : decode prog_12_method_33_code 129 = .ok (.aload_n 0, 1) := by decide +kernel
theorem d_Md_read_130 : decode prog_12_method_33_code 130 = .ok (.invokevirtual 275, 3) := by decide +kernel
theorem d_Md_read_133 : decode prog_12_method_33_code 133 = .ok (.goto (-59), 3) := by decide +kernel
theorem d_Md_read_136 : decode prog_12_method_33_code 136 = .ok (.aload_n 0, 1) := by decide +kernel
theorem d_Md_read_137 : decode prog_12_method_33_code 137 = .ok (.getfield 167, 3) := by decide +kernel
theorem d_Md_read_140 : decode prog_12_method_33_code 140 = .ok (.aload_n 0, 1) := by decide +kernel
theorem d_Md_read_141 : decode prog_12_method_33_code 141 = .ok (.getfield 117, 3) := by decide +kernel
theorem d_Md_read_144 : decode prog_12_method_33_code 144 = .ok (.if_icmp .ge 10, 3) := by decide +kernel
theorem d_Md_read_147 : decode prog_12_method_33_code 147 = .ok (.aload_n 0, 1) := by decide +kernel
theorem d_Md_read_148 : decode prog_12_method_33_code 148 = .ok (.invokevirtual 278, 3) := by decide +kernel
theorem d_Md_read_151 : decode prog_12_method_33_code 151 = .ok (.goto (-77), 3) := by decide +kernel
theorem d_Md_read_154 : decode prog_12_method_33_code 154 = .ok (.aload_n 0, 1) := by decide +kernel
theorem d_Md_read_155 : decode prog_12_method_33_code 155 = .ok (.getfield 233, 3) := by decide +kernel
theorem d_Md_read_158 : decode prog_12_method_33_code 158 = .ok (.ifCond .le (-84), 3) := by decide +kernel
theorem d_Md_read_161 : decode prog_12_method_33_code 161 = .ok (.aload_n 0, 1) := by decide +kernel
theorem d_Md_read_162 : decode prog_12_method_33_code 162 = .ok (.aload_n 0, 1) := by decide +kernel
theorem d_Md_read_163 : decode prog_12_method_33_code 163 = .ok (.getfield 167, 3) := by decide +kernel
theorem d_Md_read_166 : decode prog_12_method_33_code 166 = .ok (.putfield 170, 3) := by decide +kernel
theorem d_Md_read_169 : decode prog_12_method_33_code 169 = .ok (.goto (-95), 3) := by decide +kernel
theorem d_Md_read_172 : decode prog_12_method_33_code 172 = .ok (.aload_n 0, 1) := by decide +kernel
theorem d_Md_read_173 : decode prog_12_method_33_code 173 = .ok (.getfield 117, 3) := by decide +kernel
theorem d_Md_read_176 : decode prog_12_method_33_code 176 = .ok (.istore_n 1, 1) := by decide +kernel
theorem d_Md_read_177 : decode prog_12_method_33_code 177 = .ok (.aload_n 0, 1) := by decide +kernel
theorem d_Md_read_178 : decode prog_12_method_33_code 178 = .ok (.iconst 0, 1) := by decide +kernel
theorem d_Md_read_179 : decode prog_12_method_33_code 179 = .ok (.putfield 117, 3) := by decide +kernel
theorem d_Md_read_182 : decode prog_12_method_33_code 182 = .ok (.aload_n 0, 1) := by decide +kernel
theorem d_Md_read_183 : decode prog_12_method_33_code 183 = .ok (.getfield 170, 3) := by decide +kernel
theorem d_Md_read_186 : decode prog_12_method_33_code 186 = .ok (.iconst (-1), 1) := by decide +kernel
theorem d_Md_read_187 : decode prog_12_method_33_code 187 = .ok (.if_icmp .eq 10, 3) := by decide +kernel
theorem d_Md_read_190 : decode prog_12_method_33_code 190 = .ok (.iconst (-1), 1) := by decide +kernel
theorem d_Md_read_191 : decode prog_12_method_33_code 191 = .ok (.aload_n 0, 1) := by decide +kernel
theorem d_Md_read_192 : decode prog_12_method_33_code 192 = .ok (.getfield 170, 3) := by decide +kernel
theorem d_Md_read_195 : decode prog_12_method_33_code 195 = .ok (.isub, 1) := by decide +kernel
theorem d_Md_read_196 : decode prog_12_method_33_code 196 = .ok (.ireturn, 1) := by decide +kernel
theorem d_Md_read_197 : decode prog_12_method_33_code 197 = .ok (.aload_n 0, 1) := by decide +kernel
theorem d_Md_read_198 : decode prog_12_method_33_code 198 = .ok (.bipush 20, 2) := by decide +kernel
theorem d_Md_read_200 : decode prog_12_method_33_code 200 = .ok (.iconst 0, 1) := by decide +kernel
theorem d_Md_read_201 : decode prog_12_method_33_code 201 = .ok (.invokevirtual 236, 3) := by decide +kernel
theorem d_Md_read_204 : decode prog_12_method_33_code 204 = .ok (.pop, 1) := by decide +kernel
theorem d_Md_read_205 : decode prog_12_method_33_code 205 = .ok (.iconst 0, 1) := by decide +kernel
theorem d_Md_read_206 : decode prog_12_method_33_code 206 = .ok (.istore_n 2, 1) := by decide +kernel
theorem d_Md_read_207 : decode prog_12_method_33_code 207 = .ok (.iload_n 2, 1) := by decide +kernel
theorem d_Md_read_208 : decode prog_12_method_33_code 208 = .ok (.iload_n 1, 1) := by decide +kernel
theorem d_Md_read_209 : decode prog_12_method_33_code 209 = .ok (.if_icmp .ge 30, 3) := by decide +kernel
theorem d_Md_read_212 : decode prog_12_method_33_code 212 = .ok (.aload_n 0, 1) := by decide +kernel
theorem d_Md_read_213 : decode prog_12_method_33_code 213 = .ok (.getfield 16, 3) := by decide +kernel
theorem d_Md_read_216 : decode prog_12_method_33_code 216 = .ok (.sipush 400, 3) := by decide +kernel
theorem d_Md_read_219 : decode prog_12_method_33_code 219 = .ok (.aload_n 0, 1) := by decide +kernel
theorem d_Md_read_220 : decode prog_12_method_33_code 220 = .ok (.getfield 177, 3) := by decide +kernel
theorem d_Md_read_223 : decode prog_12_method_33_code 223 = .ok (.imul, 1) := by decide +kernel
theorem d_Md_read_224 : decode prog_12_method_33_code 224 = .ok (.iload_n 2, 1) := by decide +kernel
theorem d_Md_read_225 : decode prog_12_method_33_code 225 = .ok (.iadd, 1) := by decide +kernel
theorem d_Md_read_226 : decode prog_12_method_33_code 226 = .ok (.aload_n 0, 1) := by decide +kernel
theorem d_Md_read_227 : decode prog_12_method_33_code 227 = .ok (.getfield 7, 3) := by decide +kernel
theorem d_Md_read_230 : decode prog_12_method_33_code 230 = .ok (.iload_n 2, 1) := by decide +kernel
theorem d_Md_read_231 : decode prog_12_method_33_code 231 = .ok (.iaload, 1) := by decide +kernel
theorem d_Md_read_232 : decode prog_12_method_33_code 232 = .ok (.iastore, 1) := by decide +kernel
theorem d_Md_read_233 : decode prog_12_method_33_code 233 = .ok (.iinc 2 1, 3) := by decide +kernel
theorem d_Md_read_236 : decode prog_12_method_33_code 236 = .ok (.goto (-29), 3) := by decide +kernel
theorem d_Md_read_239 : decode prog_12_method_33_code 239 = .ok (.aload_n 0, 1) := by decide +kernel
theorem d_Md_read_240 : decode prog_12_method_33_code 240 = .ok (.getfield 13, 3) := by decide +kernel
theorem d_Md_read_243 : decode prog_12_method_33_code 243 = .ok (.aload_n 0, 1) := by decide +kernel
theorem d_Md_read_244 : decode prog_12_method_33_code 244 = .ok (.getfield 177, 3) := by decide +kernel
theorem d_Md_read_247 : decode prog_12_method_33_code 247 = .ok (.iload_n 1, 1) := by decide +kernel
theorem d_Md_read_248 : decode prog_12_method_33_code 248 = .ok (.iastore, 1) := by decide +kernel
theorem d_Md_read_249 : decode prog_12_method_33_code 249 = .ok (.aload_n 0, 1) := by decide +kernel
theorem d_Md_read_250 : decode prog_12_method_33_code 250 = .ok (.aload_n 0, 1) := by decide +kernel
theorem d_Md_read_251 : decode prog_12_method_33_code 251 = .ok (.getfield 177, 3) := by decide +kernel
theorem d_Md_read_254 : decode prog_12_method_33_code 254 = .ok (.putfield 126, 3) := by decide +kernel
theorem d_Md_read_257 : decode prog_12_method_33_code 257 = .ok (.aload_n 0, 1) := by decide +kernel
theorem d_Md_read_258 : decode prog_12_method_33_code 258 = .ok (.invokevirtual 129, 3) := by decide +kernel
theorem d_Md_read_261 : decode prog_12_method_33_code 261 = .ok (.aload_n 0, 1) := by decide +kernel
theorem d_Md_read_262 : decode prog_12_method_33_code 262 = .ok (.getfield 254, 3) := by decide +kernel
theorem d_Md_read_265 : decode prog_12_method_33_code 265 = .ok (.ireturn, 1) := by decide +kernel
theorem d_Md_isObject_0 : decode prog_12_method_34_code 0 = .ok (.lload_n 1, 1) := by decide +kernel
theorem d_Md_isObject_1 : decode prog_12_method_34_code 1 = .ok (.lconst 0, 1) := by decide +kernel
theorem d_Md_isObject_2 : decode prog_12_method_34_code 2 = .ok (.lcmp, 1) := by decide +kernel
theorem d_Md_isObject_3 : decode prog_12_method_34_code 3 = .ok (.ifCond .lt 17, 3) := by decide +kernel
theorem d_Md_isObject_6 : decode prog_12_method_34_code 6 = .ok (.lload_n 1, 1) := by decide +kernel
theorem d_Md_isObject_7 : decode prog_12_method_34_code 7 = .ok (.aload_n 0, 1) := by decide +kernel
theorem d_Md_isObject_8 : decode prog_12_method_34_code 8 = .ok (.getfield 120, 3) := by decide +kernel
theorem d_Md_isObject_11 : decode prog_12_method_34_code 11 = .ok (.i2l, 1) := by decide +kernel
theorem d_Md_isObject_12 : decode prog_12_method_34_code 12 = .ok (.lcmp, 1) := by decide +kernel
theorem d_Md_isObject_13 : decode prog_12_method_34_code 13 = .ok (.ifCond .ge 7, 3) := by decide +kernel
theorem d_Md_isObject_16 : decode prog_12_method_34_code 16 = .ok (.iconst 1, 1) := by decide +kernel
theorem d_Md_isObject_17 : decode prog_12_method_34_code 17 = .ok (.goto 4, 3) := by decide +kernel
theorem d_Md_isObject_20 : decode prog_12_method_34_code 20 = .ok (.iconst 0, 1) := by decide +kernel
theorem d_Md_isObject_21 : decode prog_12_method_34_code 21 = .ok (.ireturn, 1) := by decide +kernel
theorem d_Md_isField_0 : decode prog_12_method_35_code 0 = .ok (.aload_n 0, 1) := by decide +kernel
theorem d_Md_isField_1 : decode prog_12_method_35_code 1 = .ok (.iload_n 1, 1) := by decide +kernel
theorem d_Md_isField_2 : decode prog_12_method_35_code 2 = .ok (.i2l, 1) := by decide +kernel
theorem d_Md_isField_3 : decode prog_12_method_35_code 3 = .ok (.invokevirtual 281, 3) := by decide +kernel
theorem d_Md_isField_6 : decode prog_12_method_35_code 6 = .ok (.ifCond .eq 17, 3) := by decide +kernel
theorem d_Md_isField_9 : decode prog_12_method_35_code 9 = .ok (.iload_n 2, 1) := by decide +kernel
theorem d_Md_isField_10 : decode prog_12_method_35_code 10 = .ok (.ifCond .lt 13, 3) := by decide +kernel
theorem d_Md_isField_13 : decode prog_12_method_35_code 13 = .ok (.iload_n 2, 1) := by decide +kernel
theorem d_Md_isField_14 : decode prog_12_method_35_code 14 = .ok (.bipush 6, 2) := by decide +kernel
theorem d_Md_isField_16 : decode prog_12_method_35_code 16 = .ok (.if_icmp .ge 7, 3) := by decide +kernel
theorem d_Md_isField_19 : decode prog_12_method_35_code 19 = .ok (.iconst 1, 1) := by decide +kernel
theorem d_Md_isField_20 : decode prog_12_method_35_code 20 = .ok (.goto 4, 3) := by decide +kernel
theorem d_Md_isField_23 : decode prog_12_method_35_code 23 = .ok (.iconst 0, 1) := by decide +kernel
theorem d_Md_isField_24 : decode prog_12_method_35_code 24 = .ok (.ireturn, 1) := by decide +kernel
theorem d_Md_addObject_0 : decode prog_12_method_36_code 0 = .ok (.aload_n 0, 1) := by decide +kernel
theorem d_Md_addObject_1 : decode prog_12_method_36_code 1 = .ok (.getfield 120, 3) := by decide +kernel
theorem d_Md_addObject_4 : decode prog_12_method_36_code 4 = .ok (.bipush 12, 2) := by decide +kernel
theorem d_Md_addObject_6 : decode prog_12_method_36_code 6 = .ok (.if_icmp .ne 5, 3) := by decide +kernel
theorem d_Md_addObject_9 : decode prog_12_method_36_code 9 = .ok (.iconst (-1), 1) := by decide +kernel
theorem d_Md_addObject_10 : decode prog_12_method_36_code 10 = .ok (.ireturn, 1) := by decide +kernel
theorem d_Md_addObject_11 : decode prog_12_method_36_code 11 = .ok (.iconst 0, 1) := by decide +kernel
theorem d_Md_addObject_12 : decode prog_12_method_36_code 12 = .ok (.istore_n 3, 1) := by decide +kernel
theorem d_Md_addObject_13 : decode prog_12_method_36_code 13 = .ok (.iload_n 3, 1) := by decide +kernel
theorem d_Md_addObject_14 : decode prog_12_method_36_code 14 = .ok (.bipush 6, 2) := by decide +kernel
theorem d_Md_addObject_16 : decode prog_12_method_36_code 16 = .ok (.if_icmp .ge 32, 3) := by decide +kernel
theorem d_Md_addObject_19 : decode prog_12_method_36_code 19 = .ok (.aload_n 0, 1) := by decide +kernel
theorem d_Md_addObject_20 : decode prog_12_method_36_code 20 = .ok (.getfield 58, 3) := by decide +kernel
theorem d_Md_addObject_23 : decode prog_12_method_36_code 23 = .ok (.bipush 6, 2) := by decide +kernel
theorem d_Md_addObject_25 : decode prog_12_method_36_code 25 = .ok (.aload_n 0, 1) := by decide +kernel
theorem d_Md_addObject_26 : decode prog_12_method_36_code 26 = .ok (.getfield 120, 3) := by decide +kernel
theorem d_Md_addObject_29 : decode prog_12_method_36_code 29 = .ok (.imul, 1) := by decide +kernel
theorem d_Md_addObject_30 : decode prog_12_method_36_code 30 = .ok (.iload_n 3, 1) := by decide +kernel
theorem d_Md_addObject_31 : decode prog_12_method_36_code 31 = .ok (.iadd, 1) := by decide +kernel
theorem d_Md_addObject_32 : decode prog_12_method_36_code 32 = .ok (.iload_n 3, 1) := by decide +kernel
theorem d_Md_addObject_33 : decode prog_12_method_36_code 33 = .ok (.ifCond .ne 7, 3) := by decide +kernel
theorem d_Md_addObject_36 : decode prog_12_method_36_code 36 = .ok (.lload_n 1, 1) := by decide +kernel
theorem d_Md_addObject_37 : decode prog_12_method_36_code 37 = .ok (.goto 4, 3) := by decide +kernel
theorem d_Md_addObject_40 : decode prog_12_method_36_code 40 = .ok (.lconst 0, 1) := by decide +kernel
theorem d_Md_addObject_41 : decode prog_12_method_36_code 41 = .ok (.lastore, 1) := by decide +kernel
theorem d_Md_addObject_42 : decode prog_12_method_36_code 42 = .ok (.iinc 3 1, 3) := by decide +kernel
theorem d_Md_addObject_45 : decode prog_12_method_36_code 45 = .ok (.goto (-32), 3) := by decide +kernel
theorem d_Md_addObject_48 : decode prog_12_method_36_code 48 = .ok (.aload_n 0, 1) := by decide +kernel
theorem d_Md_addObject_49 : decode prog_12_method_36_code 49 = .ok (.dup, 1) := by decide +kernel
theorem d_Md_addObject_50 : decode prog_12_method_36_code 50 = .ok (.getfield 120, 3) := by decide +kernel
theorem d_Md_addObject_53 : decode prog_12_method_36_code 53 = .ok (.iconst 1, 1) := by decide +kernel
theorem d_Md_addObject_54 : decode prog_12_method_36_code 54 = .ok (.iadd, 1) := by decide +kernel
theorem d_Md_addObject_55 : decode prog_12_method_36_code 55 = .ok (.putfield 120, 3) := by decide +kernel
theorem d_Md_addObject_58 : decode prog_12_method_36_code 58 = .ok (.aload_n 0, 1) := by decide +kernel
theorem d_Md_addObject_59 : decode prog_12_method_36_code 59 = .ok (.getfield 120, 3) := by decide +kernel
theorem d_Md_addObject_62 : decode prog_12_method_36_code 62 = .ok (.iconst 1, 1) := by decide +kernel
theorem d_Md_addObject_63 : decode prog_12_method_36_code 63 = .ok (.isub, 1) := by decide +kernel
theorem d_Md_addObject_64 : decode prog_12_method_36_code 64 = .ok (.ireturn, 1) := by decide +kernel
theorem d_Md_object_0 : decode prog_12_method_37_code 0 = .ok (.aload_n 0, 1) := by decide +kernel
theorem d_Md_object_1 : decode prog_12_method_37_code 1 = .ok (.iconst 0, 1) := by decide +kernel
theorem d_Md_object_2 : decode prog_12_method_37_code 2 = .ok (.putfield 164, 3) := by decide +kernel
theorem d_Md_object_5 : decode prog_12_method_37_code 5 = .ok (.aload_n 0, 1) := by decide +kernel
theorem d_Md_object_6 : decode prog_12_method_37_code 6 = .ok (.iload_n 1, 1) := by decide +kernel
theorem d_Md_object_7 : decode prog_12_method_37_code 7 = .ok (.i2l, 1) := by decide +kernel
theorem d_Md_object_8 : decode prog_12_method_37_code 8 = .ok (.invokevirtual 285, 3) := by decide +kernel
theorem d_Md_object_11 : decode prog_12_method_37_code 11 = .ok (.ireturn, 1) := by decide +kernel
theorem d_Md_field_0 : decode prog_12_method_38_code 0 = .ok (.aload_n 0, 1) := by decide +kernel
theorem d_Md_field_1 : decode prog_12_method_38_code 1 = .ok (.aload_n 0, 1) := by decide +kernel
theorem d_Md_field_2 : decode prog_12_method_38_code 2 = .ok (.iload_n 1, 1) := by decide +kernel
theorem d_Md_field_3 : decode prog_12_method_38_code 3 = .ok (.iload_n 2, 1) := by decide +kernel
theorem d_Md_field_4 : decode prog_12_method_38_code 4 = .ok (.invokevirtual 289, 3) := by decide +kernel
theorem d_Md_field_7 : decode prog_12_method_38_code 7 = .ok (.ifCond .eq 7, 3) := by decide +kernel
theorem d_Md_field_10 : decode prog_12_method_38_code 10 = .ok (.iconst 0, 1) := by decide +kernel
theorem d_Md_field_11 : decode prog_12_method_38_code 11 = .ok (.goto 4, 3) := by decide +kernel
theorem d_Md_field_14 : decode prog_12_method_38_code 14 = .ok (.iconst 1, 1) := by decide +kernel
theorem d_Md_field_15 : decode prog_12_method_38_code 15 = .ok (.putfield 164, 3) := by decide +kernel
theorem d_Md_field_18 : decode prog_12_method_38_code 18 = .ok (.aload_n 0, 1) := by decide +kernel
theorem d_Md_field_19 : decode prog_12_method_38_code 19 = .ok (.getfield 164, 3) := by decide +kernel
theorem d_Md_field_22 : decode prog_12_method_38_code 22 = .ok (.ifCond .ne 19, 3) := by decide +kernel
theorem d_Md_field_25 : decode prog_12_method_38_code 25 = .ok (.aload_n 0, 1) := by decide +kernel
theorem d_Md_field_26 : decode prog_12_method_38_code 26 = .ok (.getfield 58, 3) := by decide +kernel
theorem d_Md_field_29 : decode prog_12_method_38_code 29 = .ok (.bipush 6, 2) := by decide +kernel
theorem d_Md_field_31 : decode prog_12_method_38_code 31 = .ok (.iload_n 1, 1) := by decide +kernel
theorem d_Md_field_32 : decode prog_12_method_38_code 32 = .ok (.imul, 1) := by decide +kernel
theorem d_Md_field_33 : decode prog_12_method_38_code 33 = .ok (.iload_n 2, 1) := by decide +kernel
theorem d_Md_field_34 : decode prog_12_method_38_code 34 = .ok (.iadd, 1) := by decide +kernel
theorem d_Md_field_35 : decode prog_12_method_38_code 35 = .ok (.laload, 1) := by decide +kernel
theorem d_Md_field_36 : decode prog_12_method_38_code 36 = .ok (.lload_n 3, 1) := by decide +kernel
theorem d_Md_field_37 : decode prog_12_method_38_code 37 = .ok (.lcmp, 1) := by decide +kernel
theorem d_Md_field_38 : decode prog_12_method_38_code 38 = .ok (.ifCond .ne 5, 3) := by decide +kernel
theorem d_Md_field_41 : decode prog_12_method_38_code 41 = .ok (.iconst 0, 1) := by decide +kernel
theorem d_Md_field_42 : decode prog_12_method_38_code 42 = .ok (.ireturn, 1) := by decide +kernel
theorem d_Md_field_43 : decode prog_12_method_38_code 43 = .ok (.aload_n 0, 1) := by decide +kernel
theorem d_Md_field_44 : decode prog_12_method_38_code 44 = .ok (.getfield 58, 3) := by decide +kernel
theorem d_Md_field_47 : decode prog_12_method_38_code 47 = .ok (.bipush 6, 2) := by decide +kernel
theorem d_Md_field_49 : decode prog_12_method_38_code 49 = .ok (.iload_n 1, 1) := by decide +kernel
theorem d_Md_field_50 : decode prog_12_method_38_code 50 = .ok (.imul, 1) := by decide +kernel
theorem d_Md_field_51 : decode prog_12_method_38_code 51 = .ok (.iload_n 2, 1) := by decide +kernel
theorem d_Md_field_52 : decode prog_12_method_38_code 52 = .ok (.iadd, 1) := by decide +kernel
theorem d_Md_field_53 : decode prog_12_method_38_code 53 = .ok (.lload_n 3, 1) := by decide +kernel
theorem d_Md_field_54 : decode prog_12_method_38_code 54 = .ok (.lastore, 1) := by decide +kernel
theorem d_Md_field_55 : decode prog_12_method_38_code 55 = .ok (.iconst 1, 1) := by decide +kernel
theorem d_Md_field_56 : decode prog_12_method_38_code 56 = .ok (.ireturn, 1) := by decide +kernel
theorem d_Md_at_0 : decode prog_12_method_39_code 0 = .ok (.aload_n 0, 1) := by decide +kernel
theorem d_Md_at_1 : decode prog_12_method_39_code 1 = .ok (.aload_n 0, 1) := by decide +kernel
theorem d_Md_at_2 : decode prog_12_method_39_code 2 = .ok (.iload_n 1, 1) := by decide +kernel
theorem d_Md_at_3 : decode prog_12_method_39_code 3 = .ok (.iload_n 2, 1) := by decide +kernel
theorem d_Md_at_4 : decode prog_12_method_39_code 4 = .ok (.invokevirtual 289, 3) := by decide +kernel
theorem d_Md_at_7 : decode prog_12_method_39_code 7 = .ok (.ifCond .eq 7, 3) := by decide +kernel
theorem d_Md_at_10 : decode prog_12_method_39_code 10 = .ok (.iconst 0, 1) := by decide +kernel
theorem d_Md_at_11 : decode prog_12_method_39_code 11 = .ok (.goto 4, 3) := by decide +kernel
theorem d_Md_at_14 : decode prog_12_method_39_code 14 = .ok (.iconst 1, 1) := by decide +kernel
theorem d_Md_at_15 : decode prog_12_method_39_code 15 = .ok (.putfield 164, 3) := by decide +kernel
theorem d_Md_at_18 : decode prog_12_method_39_code 18 = .ok (.aload_n 0, 1) := by decide +kernel
theorem d_Md_at_19 : decode prog_12_method_39_code 19 = .ok (.getfield 164, 3) := by decide +kernel
theorem d_Md_at_22 : decode prog_12_method_39_code 22 = .ok (.ifCond .ne 17, 3) := by decide +kernel
theorem d_Md_at_25 : decode prog_12_method_39_code 25 = .ok (.aload_n 0, 1) := by decide +kernel
theorem d_Md_at_26 : decode prog_12_method_39_code 26 = .ok (.getfield 58, 3) := by decide +kernel
theorem d_Md_at_29 : decode prog_12_method_39_code 29 = .ok (.bipush 6, 2) := by decide +kernel
theorem d_Md_at_31 : decode prog_12_method_39_code 31 = .ok (.iload_n 1, 1) := by decide +kernel
theorem d_Md_at_32 : decode prog_12_method_39_code 32 = .ok (.imul, 1) := by decide +kernel
theorem d_Md_at_33 : decode prog_12_method_39_code 33 = .ok (.iload_n 2, 1) := by decide +kernel
theorem d_Md_at_34 : decode prog_12_method_39_code 34 = .ok (.iadd, 1) := by decide +kernel
theorem d_Md_at_35 : decode prog_12_method_39_code 35 = .ok (.laload, 1) := by decide +kernel
theorem d_Md_at_36 : decode prog_12_method_39_code 36 = .ok (.goto 4, 3) := by decide +kernel
theorem d_Md_at_39 : decode prog_12_method_39_code 39 = .ok (.lconst 0, 1) := by decide +kernel
theorem d_Md_at_40 : decode prog_12_method_39_code 40 = .ok (.lreturn, 1) := by decide +kernel
theorem d_Md_makeList_0 : decode prog_12_method_40_code 0 = .ok (.lload_n 1, 1) := by decide +kernel
theorem d_Md_makeList_1 : decode prog_12_method_40_code 1 = .ok (.lconst 0, 1) := by decide +kernel
theorem d_Md_makeList_2 : decode prog_12_method_40_code 2 = .ok (.lcmp, 1) := by decide +kernel
theorem d_Md_makeList_3 : decode prog_12_method_40_code 3 = .ok (.ifCond .lt 11, 3) := by decide +kernel
theorem d_Md_makeList_6 : decode prog_12_method_40_code 6 = .ok (.lload_n 1, 1) := by decide +kernel
theorem d_Md_makeList_7 : decode prog_12_method_40_code 7 = .ok (.ldc2_w 293, 3) := by decide +kernel
theorem d_Md_makeList_10 : decode prog_12_method_40_code 10 = .ok (.lcmp, 1) := by decide +kernel
theorem d_Md_makeList_11 : decode prog_12_method_40_code 11 = .ok (.ifCond .le 5, 3) := by decide +kernel
theorem d_Md_makeList_14 : decode prog_12_method_40_code 14 = .ok (.iconst 0, 1) := by decide +kernel
theorem d_Md_makeList_15 : decode prog_12_method_40_code 15 = .ok (.ireturn, 1) := by decide +kernel
theorem d_Md_makeList_16 : decode prog_12_method_40_code 16 = .ok (.aload_n 0, 1) := by decide +kernel
theorem d_Md_makeList_17 : decode prog_12_method_40_code 17 = .ok (.lload_n 1, 1) := by decide +kernel
theorem d_Md_makeList_18 : decode prog_12_method_40_code 18 = .ok (.l2i, 1) := by decide +kernel
theorem d_Md_makeList_19 : decode prog_12_method_40_code 19 = .ok (.putfield 123, 3) := by decide +kernel
theorem d_Md_makeList_22 : decode prog_12_method_40_code 22 = .ok (.iconst 0, 1) := by decide +kernel
theorem d_Md_makeList_23 : decode prog_12_method_40_code 23 = .ok (.istore_n 3, 1) := by decide +kernel
theorem d_Md_makeList_24 : decode prog_12_method_40_code 24 = .ok (.iload_n 3, 1) := by decide +kernel
theorem d_Md_makeList_25 : decode prog_12_method_40_code 25 = .ok (.bipush 20, 2) := by decide +kernel
theorem d_Md_makeList_27 : decode prog_12_method_40_code 27 = .ok (.if_icmp .ge 16, 3) := by decide +kernel
theorem d_Md_makeList_30 : decode prog_12_method_40_code 30 = .ok (.aload_n 0, 1) := by decide +kernel
theorem d_Md_makeList_31 : decode prog_12_method_40_code 31 = .ok (.getfield 62, 3) := by decide +kernel
theorem d_Md_makeList_34 : decode prog_12_method_40_code 34 = .ok (.iload_n 3, 1) := by decide +kernel
theorem d_Md_makeList_35 : decode prog_12_method_40_code 35 = .ok (.lconst 0, 1) := by decide +kernel
theorem d_Md_makeList_36 : decode prog_12_method_40_code 36 = .ok (.lastore, 1) := by decide +kernel
theorem d_Md_makeList_37 : decode prog_12_method_40_code 37 = .ok (.iinc 3 1, 3) := by decide +kernel
theorem d_Md_makeList_40 : decode prog_12_method_40_code 40 = .ok (.goto (-16), 3) := by decide +kernel
theorem d_Md_makeList_43 : decode prog_12_method_40_code 43 = .ok (.iconst 1, 1) := by decide +kernel
theorem d_Md_makeList_44 : decode prog_12_method_40_code 44 = .ok (.ireturn, 1) := by decide +kernel
theorem d_Md_list_0 : decode prog_12_method_41_code 0 = .ok (.aload_n 0, 1) := by decide +kernel
theorem d_Md_list_1 : decode prog_12_method_41_code 1 = .ok (.iconst 0, 1) := by decide +kernel
theorem d_Md_list_2 : decode prog_12_method_41_code 2 = .ok (.putfield 164, 3) := by decide +kernel
theorem d_Md_list_5 : decode prog_12_method_41_code 5 = .ok (.aload_n 0, 1) := by decide +kernel
theorem d_Md_list_6 : decode prog_12_method_41_code 6 = .ok (.iload_n 1, 1) := by decide +kernel
theorem d_Md_list_7 : decode prog_12_method_41_code 7 = .ok (.i2l, 1) := by decide +kernel
theorem d_Md_list_8 : decode prog_12_method_41_code 8 = .ok (.invokevirtual 295, 3) := by decide +kernel
theorem d_Md_list_11 : decode prog_12_method_41_code 11 = .ok (.ifCond .eq 7, 3) := by decide +kernel
theorem d_Md_list_14 : decode prog_12_method_41_code 14 = .ok (.iconst 0, 1) := by decide +kernel
theorem d_Md_list_15 : decode prog_12_method_41_code 15 = .ok (.goto 4, 3) := by decide +kernel
theorem d_Md_list_18 : decode prog_12_method_41_code 18 = .ok (.iconst 3, 1) := by decide +kernel
theorem d_Md_list_19 : decode prog_12_method_41_code 19 = .ok (.ireturn, 1) := by decide +kernel
theorem d_Md_failAt_0 : decode prog_12_method_42_code 0 = .ok (.aload_n 0, 1) := by decide +kernel
theorem d_Md_failAt_1 : decode prog_12_method_42_code 1 = .ok (.iconst 0, 1) := by decide +kernel
theorem d_Md_failAt_2 : decode prog_12_method_42_code 2 = .ok (.putfield 164, 3) := by decide +kernel
theorem d_Md_failAt_5 : decode prog_12_method_42_code 5 = .ok (.iload_n 1, 1) := by decide +kernel
theorem d_Md_failAt_6 : decode prog_12_method_42_code 6 = .ok (.ifCond .ge 7, 3) := by decide +kernel
theorem d_Md_failAt_9 : decode prog_12_method_42_code 9 = .ok (.iconst (-1), 1) := by decide +kernel
theorem d_Md_failAt_10 : decode prog_12_method_42_code 10 = .ok (.goto 4, 3) := by decide +kernel
theorem d_Md_failAt_13 : decode prog_12_method_42_code 13 = .ok (.iload_n 1, 1) := by decide +kernel
theorem d_Md_failAt_14 : decode prog_12_method_42_code 14 = .ok (.istore_n 2, 1) := by decide +kernel
theorem d_Md_failAt_15 : decode prog_12_method_42_code 15 = .ok (.iload_n 2, 1) := by decide +kernel
theorem d_Md_failAt_16 : decode prog_12_method_42_code 16 = .ok (.aload_n 0, 1) := by decide +kernel
theorem d_Md_failAt_17 : decode prog_12_method_42_code 17 = .ok (.getfield 65, 3) := by decide +kernel
theorem d_Md_failAt_20 : decode prog_12_method_42_code 20 = .ok (.if_icmp .ne 5, 3) := by decide +kernel
theorem d_Md_failAt_23 : decode prog_12_method_42_code 23 = .ok (.iconst 0, 1) := by decide +kernel
theorem d_Md_failAt_24 : decode prog_12_method_42_code 24 = .ok (.ireturn, 1) := by decide +kernel
theorem d_Md_failAt_25 : decode prog_12_method_42_code 25 = .ok (.aload_n 0, 1) := by decide +kernel
theorem d_Md_failAt_26 : decode prog_12_method_42_code 26 = .ok (.iload_n 2, 1) := by decide +kernel
theorem d_Md_failAt_27 : decode prog_12_method_42_code 27 = .ok (.putfield 65, 3) := by decide +kernel
theorem d_Md_failAt_30 : decode prog_12_method_42_code 30 = .ok (.iconst 1, 1) := by decide +kernel
theorem d_Md_failAt_31 : decode prog_12_method_42_code 31 = .ok (.ireturn, 1) := by decide +kernel
theorem d_Md_reckon_0 : decode prog_12_method_43_code 0 = .ok (.iload_n 0, 1) := by decide +kernel
theorem d_Md_reckon_1 : decode prog_12_method_43_code 1 = .ok (.lookupswitch 91 #[(37, 67), (42, 59), (43, 71), (45, 75), (47, 63), (60, 79)], 59) := by decide +kernel
theorem d_Md_reckon_60 : decode prog_12_method_43_code 60 = .ok (.lload_n 1, 1) := by decide +kernel
theorem d_Md_reckon_61 : decode prog_12_method_43_code 61 = .ok (.lload_n 3, 1) := by decide +kernel
theorem d_Md_reckon_62 : decode prog_12_method_43_code 62 = .ok (.lmul, 1) := by decide +kernel
theorem d_Md_reckon_63 : decode prog_12_method_43_code 63 = .ok (.lreturn, 1) := by decide +kernel
theorem d_Md_reckon_64 : decode prog_12_method_43_code 64 = .ok (.lload_n 1, 1) := by decide +kernel
theorem d_Md_reckon_65 : decode prog_12_method_43_code 65 = .ok (.lload_n 3, 1) := by decide +kernel
theorem d_Md_reckon_66 : decode prog_12_method_43_code 66 = .ok (.ldiv, 1) := by decide +kernel
theorem d_Md_reckon_67 : decode prog_12_method_43_code 67 = .ok (.lreturn, 1) := by decide +kernel
theorem d_Md_reckon_68 : decode prog_12_method_43_code 68 = .ok (.lload_n 1, 1) := by decide +kernel
theorem d_Md_reckon_69 : decode prog_12_method_43_code 69 = .ok (.lload_n 3, 1) := by decide +kernel
theorem d_Md_reckon_70 : decode prog_12_method_43_code 70 = .ok (.lrem, 1) := by decide +kernel
theorem d_Md_reckon_71 : decode prog_12_method_43_code 71 = .ok (.lreturn, 1) := by decide +kernel
theorem d_Md_reckon_72 : decode prog_12_method_43_code 72 = .ok (.lload_n 1, 1) := by decide +kernel
theorem d_Md_reckon_73 : decode prog_12_method_43_code 73 = .ok (.lload_n 3, 1) := by decide +kernel
theorem d_Md_reckon_74 : decode prog_12_method_43_code 74 = .ok (.ladd, 1) := by decide +kernel
theorem d_Md_reckon_75 : decode prog_12_method_43_code 75 = .ok (.lreturn, 1) := by decide +kernel
theorem d_Md_reckon_76 : decode prog_12_method_43_code 76 = .ok (.lload_n 1, 1) := by decide +kernel
theorem d_Md_reckon_77 : decode prog_12_method_43_code 77 = .ok (.lload_n 3, 1) := by decide +kernel
theorem d_Md_reckon_78 : decode prog_12_method_43_code 78 = .ok (.lsub, 1) := by decide +kernel
theorem d_Md_reckon_79 : decode prog_12_method_43_code 79 = .ok (.lreturn, 1) := by decide +kernel
theorem d_Md_reckon_80 : decode prog_12_method_43_code 80 = .ok (.lload_n 1, 1) := by decide +kernel
theorem d_Md_reckon_81 : decode prog_12_method_43_code 81 = .ok (.lload_n 3, 1) := by decide +kernel
theorem d_Md_reckon_82 : decode prog_12_method_43_code 82 = .ok (.lcmp, 1) := by decide +kernel
theorem d_Md_reckon_83 : decode prog_12_method_43_code 83 = .ok (.ifCond .ge 7, 3) := by decide +kernel
theorem d_Md_reckon_86 : decode prog_12_method_43_code 86 = .ok (.lconst 1, 1) := by decide +kernel
theorem d_Md_reckon_87 : decode prog_12_method_43_code 87 = .ok (.goto 4, 3) := by decide +kernel
theorem d_Md_reckon_90 : decode prog_12_method_43_code 90 = .ok (.lconst 0, 1) := by decide +kernel
theorem d_Md_reckon_91 : decode prog_12_method_43_code 91 = .ok (.lreturn, 1) := by decide +kernel
theorem d_Md_reckon_92 : decode prog_12_method_43_code 92 = .ok (.lload_n 1, 1) := by decide +kernel
theorem d_Md_reckon_93 : decode prog_12_method_43_code 93 = .ok (.lload_n 3, 1) := by decide +kernel
theorem d_Md_reckon_94 : decode prog_12_method_43_code 94 = .ok (.lcmp, 1) := by decide +kernel
theorem d_Md_reckon_95 : decode prog_12_method_43_code 95 = .ok (.ifCond .ne 7, 3) := by decide +kernel
theorem d_Md_reckon_98 : decode prog_12_method_43_code 98 = .ok (.lconst 1, 1) := by decide +kernel
theorem d_Md_reckon_99 : decode prog_12_method_43_code 99 = .ok (.goto 4, 3) := by decide +kernel
theorem d_Md_reckon_102 : decode prog_12_method_43_code 102 = .ok (.lconst 0, 1) := by decide +kernel
theorem d_Md_reckon_103 : decode prog_12_method_43_code 103 = .ok (.lreturn, 1) := by decide +kernel
theorem d_Md_ask_0 : decode prog_12_method_44_code 0 = .ok (.iconst 0, 1) := by decide +kernel
theorem d_Md_ask_1 : decode prog_12_method_44_code 1 = .ok (.istore_n 2, 1) := by decide +kernel
theorem d_Md_ask_2 : decode prog_12_method_44_code 2 = .ok (.aload_n 0, 1) := by decide +kernel
theorem d_Md_ask_3 : decode prog_12_method_44_code 3 = .ok (.iconst 0, 1) := by decide +kernel
theorem d_Md_ask_4 : decode prog_12_method_44_code 4 = .ok (.putfield 298, 3) := by decide +kernel
theorem d_Md_ask_7 : decode prog_12_method_44_code 7 = .ok (.sipush 1000, 3) := by decide +kernel
theorem d_Md_ask_10 : decode prog_12_method_44_code 10 = .ok (.aload_n 0, 1) := by decide +kernel
theorem d_Md_ask_11 : decode prog_12_method_44_code 11 = .ok (.getfield 126, 3) := by decide +kernel
theorem d_Md_ask_14 : decode prog_12_method_44_code 14 = .ok (.imul, 1) := by decide +kernel
theorem d_Md_ask_15 : decode prog_12_method_44_code 15 = .ok (.iload_n 1, 1) := by decide +kernel
theorem d_Md_ask_16 : decode prog_12_method_44_code 16 = .ok (.iadd, 1) := by decide +kernel
theorem d_Md_ask_17 : decode prog_12_method_44_code 17 = .ok (.istore_n 3, 1) := by decide +kernel
theorem d_Md_ask_18 : decode prog_12_method_44_code 18 = .ok (.aload_n 0, 1) := by decide +kernel
theorem d_Md_ask_19 : decode prog_12_method_44_code 19 = .ok (.getfield 40, 3) := by decide +kernel
theorem d_Md_ask_22 : decode prog_12_method_44_code 22 = .ok (.iload_n 3, 1) := by decide +kernel
theorem d_Md_ask_23 : decode prog_12_method_44_code 23 = .ok (.iaload, 1) := by decide +kernel
theorem d_Md_ask_24 : decode prog_12_method_44_code 24 = .ok (.ifCond .eq 324, 3) := by decide +kernel
theorem d_Md_ask_27 : decode prog_12_method_44_code 27 = .ok (.aload_n 0, 1) := by decide +kernel
theorem d_Md_ask_28 : decode prog_12_method_44_code 28 = .ok (.getfield 298, 3) := by decide +kernel
theorem d_Md_ask_31 : decode prog_12_method_44_code 31 = .ok (.ifCond .ne 317, 3) := by decide +kernel
theorem d_Md_ask_34 : decode prog_12_method_44_code 34 = .ok (.aload_n 0, 1) := by decide +kernel
theorem d_Md_ask_35 : decode prog_12_method_44_code 35 = .ok (.getfield 40, 3) := by decide +kernel
theorem d_Md_ask_38 : decode prog_12_method_44_code 38 = .ok (.iload_n 3, 1) := by decide +kernel
theorem d_Md_ask_39 : decode prog_12_method_44_code 39 = .ok (.iaload, 1) := by decide +kernel
theorem d_Md_ask_40 : decode prog_12_method_44_code 40 = .ok (.istore 4, 2) := by decide +kernel
theorem d_Md_ask_42 : decode prog_12_method_44_code 42 = .ok (.iload_n 2, 1) := by decide +kernel
theorem d_Md_ask_43 : decode prog_12_method_44_code 43 = .ok (.ifCond .le 14, 3) := by decide +kernel
theorem d_Md_ask_46 : decode prog_12_method_44_code 46 = .ok (.aload_n 0, 1) := by decide +kernel
theorem d_Md_ask_47 : decode prog_12_method_44_code 47 = .ok (.getfield 111, 3) := by decide +kernel
theorem d_Md_ask_50 : decode prog_12_method_44_code 50 = .ok (.iload_n 2, 1) := by decide +kernel
theorem d_Md_ask_51 : decode prog_12_method_44_code 51 = .ok (.iconst 1, 1) := by decide +kernel
theorem d_Md_ask_52 : decode prog_12_method_44_code 52 = .ok (.isub, 1) := by decide +kernel
theorem d_Md_ask_53 : decode prog_12_method_44_code 53 = .ok (.laload, 1) := by decide +kernel
theorem d_Md_ask_54 : decode prog_12_method_44_code 54 = .ok (.goto 4, 3) := by decide +kernel
theorem d_Md_ask_57 : decode prog_12_method_44_code 57 = .ok (.lconst 0, 1) := by decide +kernel
theorem d_Md_ask_58 : decode prog_12_method_44_code 58 = .ok (.lstore 5, 2) := by decide +kernel
theorem d_Md_ask_60 : decode prog_12_method_44_code 60 = .ok (.iload 4, 2) := by decide +kernel
theorem d_Md_ask_62 : decode prog_12_method_44_code 62 = .ok (.bipush 48, 2) := by decide +kernel
theorem d_Md_ask_64 : decode prog_12_method_44_code 64 = .ok (.if_icmp .eq 17, 3) := by decide +kernel
theorem d_Md_ask_67 : decode prog_12_method_44_code 67 = .ok (.iload 4, 2) := by decide +kernel
theorem d_Md_ask_69 : decode prog_12_method_44_code 69 = .ok (.bipush 97, 2) := by decide +kernel
theorem d_Md_ask_71 : decode prog_12_method_44_code 71 = .ok (.if_icmp .eq 10, 3) := by decide +kernel
theorem d_Md_ask_74 : decode prog_12_method_44_code 74 = .ok (.iload 4, 2) := by decide +kernel
theorem d_Md_ask_76 : decode prog_12_method_44_code 76 = .ok (.bipush 35, 2) := by decide +kernel
theorem d_Md_ask_78 : decode prog_12_method_44_code 78 = .ok (.if_icmp .ne 58, 3) := by decide +kernel
theorem d_Md_ask_81 : decode prog_12_method_44_code 81 = .ok (.aload_n 0, 1) := by decide +kernel
theorem d_Md_ask_82 : decode prog_12_method_44_code 82 = .ok (.getfield 111, 3) := by decide +kernel
theorem d_Md_ask_85 : decode prog_12_method_44_code 85 = .ok (.iload_n 2, 1) := by decide +kernel
theorem d_Md_ask_86 : decode prog_12_method_44_code 86 = .ok (.iload 4, 2) := by decide +kernel
theorem d_Md_ask_88 : decode prog_12_method_44_code 88 = .ok (.bipush 48, 2) := by decide +kernel
theorem d_Md_ask_90 : decode prog_12_method_44_code 90 = .ok (.if_icmp .ne 13, 3) := by decide +kernel
theorem d_Md_ask_93 : decode prog_12_method_44_code 93 = .ok (.aload_n 0, 1) := by decide +kernel
theorem d_Md_ask_94 : decode prog_12_method_44_code 94 = .ok (.getfield 43, 3) := by decide +kernel
theorem d_Md_ask_97 : decode prog_12_method_44_code 97 = .ok (.iload_n 3, 1) := by decide +kernel
theorem d_Md_ask_98 : decode prog_12_method_44_code 98 = .ok (.iaload, 1) := by decide +kernel
theorem d_Md_ask_99 : decode prog_12_method_44_code 99 = .ok (.i2l, 1) := by decide +kernel
theorem d_Md_ask_100 : decode prog_12_method_44_code 100 = .ok (.goto 29, 3) := by decide +kernel
theorem d_Md_ask_103 : decode prog_12_method_44_code 103 = .ok (.iload 4, 2) := by decide +kernel
theorem d_Md_ask_105 : decode prog_12_method_44_code 105 = .ok (.bipush 97, 2) := by decide +kernel
theorem d_Md_ask_107 : decode prog_12_method_44_code 107 = .ok (.if_icmp .ne 17, 3) := by decide +kernel
theorem d_Md_ask_110 : decode prog_12_method_44_code 110 = .ok (.aload_n 0, 1) := by decide +kernel
theorem d_Md_ask_111 : decode prog_12_method_44_code 111 = .ok (.getfield 69, 3) := by decide +kernel
theorem d_Md_ask_114 : decode prog_12_method_44_code 114 = .ok (.aload_n 0, 1) := by decide +kernel
theorem d_Md_ask_115 : decode prog_12_method_44_code 115 = .ok (.getfield 43, 3) := by decide +kernel
theorem d_Md_ask_118 : decode prog_12_method_44_code 118 = .ok (.iload_n 3, 1) := by decide +kernel
theorem d_Md_ask_119 : decode prog_12_method_44_code 119 = .ok (.iaload, 1) := by decide +kernel
theorem d_Md_ask_120 : decode prog_12_method_44_code 120 = .ok (.laload, 1) := by decide +kernel
theorem d_Md_ask_121 : decode prog_12_method_44_code 121 = .ok (.goto 8, 3) := by decide +kernel
theorem d_Md_ask_124 : decode prog_12_method_44_code 124 = .ok (.aload_n 0, 1) := by decide +kernel
theorem d_Md_ask_125 : decode prog_12_method_44_code 125 = .ok (.getfield 120, 3) := by decide +kernel
theorem d_Md_ask_128 : decode prog_12_method_44_code 128 = .ok (.i2l, 1) := by decide +kernel
theorem d_Md_ask_129 : decode prog_12_method_44_code 129 = .ok (.lastore, 1) := by decide +kernel
theorem d_Md_ask_130 : decode prog_12_method_44_code 130 = .ok (.iinc 2 1, 3) := by decide +kernel
theorem d_Md_ask_133 : decode prog_12_method_44_code 133 = .ok (.goto 209, 3) := by decide +kernel
theorem d_Md_ask_136 : decode prog_12_method_44_code 136 = .ok (.iload 4, 2) := by decide +kernel
theorem d_Md_ask_138 : decode prog_12_method_44_code 138 = .ok (.bipush 95, 2) := by decide +kernel
theorem d_Md_ask_140 : decode prog_12_method_44_code 140 = .ok (.if_icmp .ne 18, 3) := by decide +kernel
theorem d_Md_ask_143 : decode prog_12_method_44_code 143 = .ok (.aload_n 0, 1) := by decide +kernel
theorem d_Md_ask_144 : decode prog_12_method_44_code 144 = .ok (.getfield 111, 3) := by decide +kernel
theorem d_Md_ask_147 : decode prog_12_method_44_code 147 = .ok (.iload_n 2, 1) := by decide +kernel
theorem d_Md_ask_148 : decode prog_12_method_44_code 148 = .ok (.iconst 1, 1) := by decide +kernel
theorem d_Md_ask_149 : decode prog_12_method_44_code 149 = .ok (.isub, 1) := by decide +kernel
theorem d_Md_ask_150 : decode prog_12_method_44_code 150 = .ok (.lconst 0, 1) := by decide +kernel
theorem d_Md_ask_151 : decode prog_12_method_44_code 151 = .ok (.lload 5, 2) := by decide +kernel
theorem d_Md_ask_153 : decode prog_12_method_44_code 153 = .ok (.lsub, 1) := by decide +kernel
theorem d_Md_ask_154 : decode prog_12_method_44_code 154 = .ok (.lastore, 1) := by decide +kernel
theorem d_Md_ask_155 : decode prog_12_method_44_code 155 = .ok (.goto 187, 3) := by decide +kernel
theorem d_Md_ask_158 : decode prog_12_method_44_code 158 = .ok (.iload 4, 2) := by decide +kernel
theorem d_Md_ask_160 : decode prog_12_method_44_code 160 = .ok (.bipush 64, 2) := by decide +kernel
theorem d_Md_ask_162 : decode prog_12_method_44_code 162 = .ok (.if_icmp .ne 57, 3) := by decide +kernel
theorem d_Md_ask_165 : decode prog_12_method_44_code 165 = .ok (.aload_n 0, 1) := by decide +kernel
theorem d_Md_ask_166 : decode prog_12_method_44_code 166 = .ok (.aload_n 0, 1) := by decide +kernel
theorem d_Md_ask_167 : decode prog_12_method_44_code 167 = .ok (.lload 5, 2) := by decide +kernel
theorem d_Md_ask_169 : decode prog_12_method_44_code 169 = .ok (.invokevirtual 281, 3) := by decide +kernel
theorem d_Md_ask_172 : decode prog_12_method_44_code 172 = .ok (.ifCond .eq 7, 3) := by decide +kernel
theorem d_Md_ask_175 : decode prog_12_method_44_code 175 = .ok (.iconst 0, 1) := by decide +kernel
theorem d_Md_ask_176 : decode prog_12_method_44_code 176 = .ok (.goto 4, 3) := by decide +kernel
theorem d_Md_ask_179 : decode prog_12_method_44_code 179 = .ok (.iconst 2, 1) := by decide +kernel
theorem d_Md_ask_180 : decode prog_12_method_44_code 180 = .ok (.putfield 298, 3) := by decide +kernel
theorem d_Md_ask_183 : decode prog_12_method_44_code 183 = .ok (.aload_n 0, 1) := by decide +kernel
theorem d_Md_ask_184 : decode prog_12_method_44_code 184 = .ok (.getfield 298, 3) := by decide +kernel
theorem d_Md_ask_187 : decode prog_12_method_44_code 187 = .ok (.ifCond .ne 155, 3) := by decide +kernel
theorem d_Md_ask_190 : decode prog_12_method_44_code 190 = .ok (.aload_n 0, 1) := by decide +kernel
theorem d_Md_ask_191 : decode prog_12_method_44_code 191 = .ok (.getfield 111, 3) := by decide +kernel
theorem d_Md_ask_194 : decode prog_12_method_44_code 194 = .ok (.iload_n 2, 1) := by decide +kernel
theorem d_Md_ask_195 : decode prog_12_method_44_code 195 = .ok (.iconst 1, 1) := by decide +kernel
theorem d_Md_ask_196 : decode prog_12_method_44_code 196 = .ok (.isub, 1) := by decide +kernel
theorem d_Md_ask_197 : decode prog_12_method_44_code 197 = .ok (.aload_n 0, 1) := by decide +kernel
theorem d_Md_ask_198 : decode prog_12_method_44_code 198 = .ok (.getfield 58, 3) := by decide +kernel
theorem d_Md_ask_201 : decode prog_12_method_44_code 201 = .ok (.bipush 6, 2) := by decide +kernel
theorem d_Md_ask_203 : decode prog_12_method_44_code 203 = .ok (.lload 5, 2) := by decide +kernel
theorem d_Md_ask_205 : decode prog_12_method_44_code 205 = .ok (.l2i, 1) := by decide +kernel
theorem d_Md_ask_206 : decode prog_12_method_44_code 206 = .ok (.imul, 1) := by decide +kernel
theorem d_Md_ask_207 : decode prog_12_method_44_code 207 = .ok (.aload_n 0, 1) := by decide +kernel
theorem d_Md_ask_208 : decode prog_12_method_44_code 208 = .ok (.getfield 43, 3) := by decide +kernel
theorem d_Md_ask_211 : decode prog_12_method_44_code 211 = .ok (.iload_n 3, 1) := by decide +kernel
theorem d_Md_ask_212 : decode prog_12_method_44_code 212 = .ok (.iaload, 1) := by decide +kernel
theorem d_Md_ask_213 : decode prog_12_method_44_code 213 = .ok (.iadd, 1) := by decide +kernel
theorem d_Md_ask_214 : decode prog_12_method_44_code 214 = .ok (.laload, 1) := by decide +kernel
theorem d_Md_ask_215 : decode prog_12_method_44_code 215 = .ok (.lastore, 1) := by decide +kernel
theorem d_Md_ask_216 : decode prog_12_method_44_code 216 = .ok (.goto 126, 3) := by decide +kernel
theorem d_Md_ask_219 : decode prog_12_method_44_code 219 = .ok (.iload 4, 2) := by decide +kernel
theorem d_Md_ask_221 : decode prog_12_method_44_code 221 = .ok (.bipush 39, 2) := by decide +kernel
theorem d_Md_ask_223 : decode prog_12_method_44_code 223 = .ok (.if_icmp .ne 56, 3) := by decide +kernel
theorem d_Md_ask_226 : decode prog_12_method_44_code 226 = .ok (.aload_n 0, 1) := by decide +kernel
theorem d_Md_ask_227 : decode prog_12_method_44_code 227 = .ok (.lload 5, 2) := by decide +kernel
theorem d_Md_ask_229 : decode prog_12_method_44_code 229 = .ok (.lconst 0, 1) := by decide +kernel
theorem d_Md_ask_230 : decode prog_12_method_44_code 230 = .ok (.lcmp, 1) := by decide +kernel
theorem d_Md_ask_231 : decode prog_12_method_44_code 231 = .ok (.ifCond .lt 18, 3) := by decide +kernel
theorem d_Md_ask_234 : decode prog_12_method_44_code 234 = .ok (.lload 5, 2) := by decide +kernel
theorem d_Md_ask_236 : decode prog_12_method_44_code 236 = .ok (.aload_n 0, 1) := by decide +kernel
theorem d_Md_ask_237 : decode prog_12_method_44_code 237 = .ok (.getfield 123, 3) := by decide +kernel
theorem d_Md_ask_240 : decode prog_12_method_44_code 240 = .ok (.i2l, 1) := by decide +kernel
theorem d_Md_ask_241 : decode prog_12_method_44_code 241 = .ok (.lcmp, 1) := by decide +kernel
theorem d_Md_ask_242 : decode prog_12_method_44_code 242 = .ok (.ifCond .ge 7, 3) := by decide +kernel
theorem d_Md_ask_245 : decode prog_12_method_44_code 245 = .ok (.iconst 0, 1) := by decide +kernel
theorem d_Md_ask_246 : decode prog_12_method_44_code 246 = .ok (.goto 4, 3) := by decide +kernel
theorem d_Md_ask_249 : decode prog_12_method_44_code 249 = .ok (.iconst 2, 1) := by decide +kernel
theorem d_Md_ask_250 : decode prog_12_method_44_code 250 = .ok (.putfield 298, 3) := by decide +kernel
theorem d_Md_ask_253 : decode prog_12_method_44_code 253 = .ok (.aload_n 0, 1) := by decide +kernel
theorem d_Md_ask_254 : decode prog_12_method_44_code 254 = .ok (.getfield 298, 3) := by decide +kernel
theorem d_Md_ask_257 : decode prog_12_method_44_code 257 = .ok (.ifCond .ne 85, 3) := by decide +kernel
theorem d_Md_ask_260 : decode prog_12_method_44_code 260 = .ok (.aload_n 0, 1) := by decide +kernel
theorem d_Md_ask_261 : decode prog_12_method_44_code 261 = .ok (.getfield 111, 3) := by decide +kernel
theorem d_Md_ask_264 : decode prog_12_method_44_code 264 = .ok (.iload_n 2, 1) := by decide +kernel
theorem d_Md_ask_265 : decode prog_12_method_44_code 265 = .ok (.iconst 1, 1) := by decide +kernel
theorem d_Md_ask_266 : decode prog_12_method_44_code 266 = .ok (.isub, 1) := by decide +kernel
theorem d_Md_ask_267 : decode prog_12_method_44_code 267 = .ok (.aload_n 0, 1) := by decide +kernel
theorem d_Md_ask_268 : decode prog_12_method_44_code 268 = .ok (.getfield 62, 3) := by decide +kernel
theorem d_Md_ask_271 : decode prog_12_method_44_code 271 = .ok (.lload 5, 2) := by decide +kernel
theorem d_Md_ask_273 : decode prog_12_method_44_code 273 = .ok (.l2i, 1) := by decide +kernel
theorem d_Md_ask_274 : decode prog_12_method_44_code 274 = .ok (.laload, 1) := by decide +kernel
theorem d_Md_ask_275 : decode prog_12_method_44_code 275 = .ok (.lastore, 1) := by decide +kernel
theorem d_Md_ask_276 : decode prog_12_method_44_code 276 = .ok (.goto 66, 3) := by decide +kernel
theorem d_Md_ask_279 : decode prog_12_method_44_code 279 = .ok (.aload_n 0, 1) := by decide +kernel
theorem d_Md_ask_280 : decode prog_12_method_44_code 280 = .ok (.lload 5, 2) := by decide +kernel
theorem d_Md_ask_282 : decode prog_12_method_44_code 282 = .ok (.lconst 0, 1) := by decide +kernel
theorem d_Md_ask_283 : decode prog_12_method_44_code 283 = .ok (.lcmp, 1) := by decide +kernel
theorem d_Md_ask_284 : decode prog_12_method_44_code 284 = .ok (.ifCond .ne 21, 3) := by decide +kernel
theorem d_Md_ask_287 : decode prog_12_method_44_code 287 = .ok (.iload 4, 2) := by decide +kernel
theorem d_Md_ask_289 : decode prog_12_method_44_code 289 = .ok (.bipush 47, 2) := by decide +kernel
theorem d_Md_ask_291 : decode prog_12_method_44_code 291 = .ok (.if_icmp .eq 10, 3) := by decide +kernel
theorem d_Md_ask_294 : decode prog_12_method_44_code 294 = .ok (.iload 4, 2) := by decide +kernel
theorem d_Md_ask_296 : decode prog_12_method_44_code 296 = .ok (.bipush 37, 2) := by decide +kernel
theorem d_Md_ask_298 : decode prog_12_method_44_code 298 = .ok (.if_icmp .ne 7, 3) := by decide +kernel
theorem d_Md_ask_301 : decode prog_12_method_44_code 301 = .ok (.iconst 1, 1) := by decide +kernel
theorem d_Md_ask_302 : decode prog_12_method_44_code 302 = .ok (.goto 4, 3) := by decide +kernel
theorem d_Md_ask_305 : decode prog_12_method_44_code 305 = .ok (.iconst 0, 1) := by decide +kernel
theorem d_Md_ask_306 : decode prog_12_method_44_code 306 = .ok (.putfield 298, 3) := by decide +kernel
theorem d_Md_ask_309 : decode prog_12_method_44_code 309 = .ok (.iinc 2 (-1), 3) := by decide +kernel
theorem d_Md_ask_312 : decode prog_12_method_44_code 312 = .ok (.aload_n 0, 1) := by decide +kernel
theorem d_Md_ask_313 : decode prog_12_method_44_code 313 = .ok (.getfield 298, 3) := by decide +kernel
theorem d_Md_ask_316 : decode prog_12_method_44_code 316 = .ok (.ifCond .ne 26, 3) := by decide +kernel
theorem d_Md_ask_319 : decode prog_12_method_44_code 319 = .ok (.aload_n 0, 1) := by decide +kernel
theorem d_Md_ask_320 : decode prog_12_method_44_code 320 = .ok (.getfield 111, 3) := by decide +kernel
theorem d_Md_ask_323 : decode prog_12_method_44_code 323 = .ok (.iload_n 2, 1) := by decide +kernel
theorem d_Md_ask_324 : decode prog_12_method_44_code 324 = .ok (.iconst 1, 1) := by decide +kernel
theorem d_Md_ask_325 : decode prog_12_method_44_code 325 = .ok (.isub, 1) := by decide +kernel
theorem d_Md_ask_326 : decode prog_12_method_44_code 326 = .ok (.iload 4, 2) := by decide +kernel
theorem d_Md_ask_328 : decode prog_12_method_44_code 328 = .ok (.aload_n 0, 1) := by decide +kernel
theorem d_Md_ask_329 : decode prog_12_method_44_code 329 = .ok (.getfield 111, 3) := by decide +kernel
theorem d_Md_ask_332 : decode prog_12_method_44_code 332 = .ok (.iload_n 2, 1) := by decide +kernel
theorem d_Md_ask_333 : decode prog_12_method_44_code 333 = .ok (.iconst 1, 1) := by decide +kernel
theorem d_Md_ask_334 : decode prog_12_method_44_code 334 = .ok (.isub, 1) := by decide +kernel
theorem d_Md_ask_335 : decode prog_12_method_44_code 335 = .ok (.laload, 1) := by decide +kernel
theorem d_Md_ask_336 : decode prog_12_method_44_code 336 = .ok (.lload 5, 2) := by decide +kernel
theorem d_Md_ask_338 : decode prog_12_method_44_code 338 = .ok (.invokestatic 301, 3) := by decide +kernel
theorem d_Md_ask_341 : decode prog_12_method_44_code 341 = .ok (.lastore, 1) := by decide +kernel
theorem d_Md_ask_342 : decode prog_12_method_44_code 342 = .ok (.iinc 3 1, 3) := by decide +kernel
theorem d_Md_ask_345 : decode prog_12_method_44_code 345 = .ok (.goto (-327), 3) := by decide +kernel
theorem d_Md_ask_348 : decode prog_12_method_44_code 348 = .ok (.aload_n 0, 1) := by decide +kernel
theorem d_Md_ask_349 : decode prog_12_method_44_code 349 = .ok (.iload_n 2, 1) := by decide +kernel
theorem d_Md_ask_350 : decode prog_12_method_44_code 350 = .ok (.ifCond .le 14, 3) := by decide +kernel
theorem d_Md_ask_353 : decode prog_12_method_44_code 353 = .ok (.aload_n 0, 1) := by decide +kernel
theorem d_Md_ask_354 : decode prog_12_method_44_code 354 = .ok (.getfield 111, 3) := by decide +kernel
theorem d_Md_ask_357 : decode prog_12_method_44_code 357 = .ok (.iload_n 2, 1) := by decide +kernel
theorem d_Md_ask_358 : decode prog_12_method_44_code 358 = .ok (.iconst 1, 1) := by decide +kernel
theorem d_Md_ask_359 : decode prog_12_method_44_code 359 = .ok (.isub, 1) := by decide +kernel
theorem d_Md_ask_360 : decode prog_12_method_44_code 360 = .ok (.laload, 1) := by decide +kernel
theorem d_Md_ask_361 : decode prog_12_method_44_code 361 = .ok (.goto 4, 3) := by decide +kernel
theorem d_Md_ask_364 : decode prog_12_method_44_code 364 = .ok (.lconst 0, 1) := by decide +kernel
theorem d_Md_ask_365 : decode prog_12_method_44_code 365 = .ok (.putfield 305, 3) := by decide +kernel
theorem d_Md_ask_368 : decode prog_12_method_44_code 368 = .ok (.aload_n 0, 1) := by decide +kernel
theorem d_Md_ask_369 : decode prog_12_method_44_code 369 = .ok (.getfield 298, 3) := by decide +kernel
theorem d_Md_ask_372 : decode prog_12_method_44_code 372 = .ok (.ifCond .ne 7, 3) := by decide +kernel
theorem d_Md_ask_375 : decode prog_12_method_44_code 375 = .ok (.iconst 1, 1) := by decide +kernel
theorem d_Md_ask_376 : decode prog_12_method_44_code 376 = .ok (.goto 4, 3) := by decide +kernel
theorem d_Md_ask_379 : decode prog_12_method_44_code 379 = .ok (.iconst 0, 1) := by decide +kernel
theorem d_Md_ask_380 : decode prog_12_method_44_code 380 = .ok (.ireturn, 1) := by decide +kernel
