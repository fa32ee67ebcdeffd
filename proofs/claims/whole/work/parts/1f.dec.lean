theorem d_Md_init_0 : decode prog_12_method_1_code 0 = .ok (.aload_n 0, 1) := by decide +kernel
theorem d_Md_init_1 : decode prog_12_method_1_code 1 = .ok (.invokespecial 1, 3) := by decide +kernel
theorem d_Md_init_4 : decode prog_12_method_1_code 4 = .ok (.aload_n 0, 1) := by decide +kernel
theorem d_Md_init_5 : decode prog_12_method_1_code 5 = .ok (.sipush 400, 3) := by decide +kernel
theorem d_Md_init_8 : decode prog_12_method_1_code 8 = .ok (.newarray .int, 2) := by decide +kernel
theorem d_Md_init_10 : decode prog_12_method_1_code 10 = .ok (.putfield 7, 3) := by decide +kernel
theorem d_Md_init_13 : decode prog_12_method_1_code 13 = .ok (.aload_n 0, 1) := by decide +kernel
theorem d_Md_init_14 : decode prog_12_method_1_code 14 = .ok (.iconst 2, 1) := by decide +kernel
theorem d_Md_init_15 : decode prog_12_method_1_code 15 = .ok (.newarray .int, 2) := by decide +kernel
theorem d_Md_init_17 : decode prog_12_method_1_code 17 = .ok (.putfield 13, 3) := by decide +kernel
theorem d_Md_init_20 : decode prog_12_method_1_code 20 = .ok (.aload_n 0, 1) := by decide +kernel
theorem d_Md_init_21 : decode prog_12_method_1_code 21 = .ok (.sipush 800, 3) := by decide +kernel
theorem d_Md_init_24 : decode prog_12_method_1_code 24 = .ok (.newarray .int, 2) := by decide +kernel
theorem d_Md_init_26 : decode prog_12_method_1_code 26 = .ok (.putfield 16, 3) := by decide +kernel
theorem d_Md_init_29 : decode prog_12_method_1_code 29 = .ok (.aload_n 0, 1) := by decide +kernel
theorem d_Md_init_30 : decode prog_12_method_1_code 30 = .ok (.sipush 1200, 3) := by decide +kernel
theorem d_Md_init_33 : decode prog_12_method_1_code 33 = .ok (.newarray .int, 2) := by decide +kernel
theorem d_Md_init_35 : decode prog_12_method_1_code 35 = .ok (.putfield 19, 3) := by decide +kernel
theorem d_Md_init_38 : decode prog_12_method_1_code 38 = .ok (.aload_n 0, 1) := by decide +kernel
theorem d_Md_init_39 : decode prog_12_method_1_code 39 = .ok (.sipush 1200, 3) := by decide +kernel
theorem d_Md_init_42 : decode prog_12_method_1_code 42 = .ok (.newarray .int, 2) := by decide +kernel
theorem d_Md_init_44 : decode prog_12_method_1_code 44 = .ok (.putfield 22, 3) := by decide +kernel
theorem d_Md_init_47 : decode prog_12_method_1_code 47 = .ok (.aload_n 0, 1) := by decide +kernel
theorem d_Md_init_48 : decode prog_12_method_1_code 48 = .ok (.sipush 1200, 3) := by decide +kernel
theorem d_Md_init_51 : decode prog_12_method_1_code 51 = .ok (.newarray .int, 2) := by decide +kernel
theorem d_Md_init_53 : decode prog_12_method_1_code 53 = .ok (.putfield 25, 3) := by decide +kernel
theorem d_Md_init_56 : decode prog_12_method_1_code 56 = .ok (.aload_n 0, 1) := by decide +kernel
theorem d_Md_init_57 : decode prog_12_method_1_code 57 = .ok (.sipush 1200, 3) := by decide +kernel
theorem d_Md_init_60 : decode prog_12_method_1_code 60 = .ok (.newarray .int, 2) := by decide +kernel
theorem d_Md_init_62 : decode prog_12_method_1_code 62 = .ok (.putfield 28, 3) := by decide +kernel
theorem d_Md_init_65 : decode prog_12_method_1_code 65 = .ok (.aload_n 0, 1) := by decide +kernel
theorem d_Md_init_66 : decode prog_12_method_1_code 66 = .ok (.sipush 1200, 3) := by decide +kernel
theorem d_Md_init_69 : decode prog_12_method_1_code 69 = .ok (.newarray .int, 2) := by decide +kernel
theorem d_Md_init_71 : decode prog_12_method_1_code 71 = .ok (.putfield 31, 3) := by decide +kernel
theorem d_Md_init_74 : decode prog_12_method_1_code 74 = .ok (.aload_n 0, 1) := by decide +kernel
theorem d_Md_init_75 : decode prog_12_method_1_code 75 = .ok (.sipush 1200, 3) := by decide +kernel
theorem d_Md_init_78 : decode prog_12_method_1_code 78 = .ok (.newarray .int, 2) := by decide +kernel
theorem d_Md_init_80 : decode prog_12_method_1_code 80 = .ok (.putfield 34, 3) := by decide +kernel
theorem d_Md_init_83 : decode prog_12_method_1_code 83 = .ok (.aload_n 0, 1) := by decide +kernel
theorem d_Md_init_84 : decode prog_12_method_1_code 84 = .ok (.bipush 52, 2) := by decide +kernel
theorem d_Md_init_86 : decode prog_12_method_1_code 86 = .ok (.newarray .int, 2) := by decide +kernel
theorem d_Md_init_88 : decode prog_12_method_1_code 88 = .ok (.putfield 37, 3) := by decide +kernel
theorem d_Md_init_91 : decode prog_12_method_1_code 91 = .ok (.aload_n 0, 1) := by decide +kernel
theorem d_Md_init_92 : decode prog_12_method_1_code 92 = .ok (.sipush 2000, 3) := by decide +kernel
theorem d_Md_init_95 : decode prog_12_method_1_code 95 = .ok (.newarray .int, 2) := by decide +kernel
theorem d_Md_init_97 : decode prog_12_method_1_code 97 = .ok (.putfield 40, 3) := by decide +kernel
theorem d_Md_init_100 : decode prog_12_method_1_code 100 = .ok (.aload_n 0, 1) := by decide +kernel
theorem d_Md_init_101 : decode prog_12_method_1_code 101 = .ok (.sipush 2000, 3) := by decide +kernel
theorem d_Md_init_104 : decode prog_12_method_1_code 104 = .ok (.newarray .int, 2) := by decide +kernel
theorem d_Md_init_106 : decode prog_12_method_1_code 106 = .ok (.putfield 43, 3) := by decide +kernel
theorem d_Md_init_109 : decode prog_12_method_1_code 109 = .ok (.aload_n 0, 1) := by decide +kernel
theorem d_Md_init_110 : decode prog_12_method_1_code 110 = .ok (.iconst 4, 1) := by decide +kernel
theorem d_Md_init_111 : decode prog_12_method_1_code 111 = .ok (.newarray .int, 2) := by decide +kernel
theorem d_Md_init_113 : decode prog_12_method_1_code 113 = .ok (.putfield 46, 3) := by decide +kernel
theorem d_Md_init_116 : decode prog_12_method_1_code 116 = .ok (.aload_n 0, 1) := by decide +kernel
theorem d_Md_init_117 : decode prog_12_method_1_code 117 = .ok (.iconst 4, 1) := by decide +kernel
theorem d_Md_init_118 : decode prog_12_method_1_code 118 = .ok (.newarray .int, 2) := by decide +kernel
theorem d_Md_init_120 : decode prog_12_method_1_code 120 = .ok (.putfield 49, 3) := by decide +kernel
theorem d_Md_init_123 : decode prog_12_method_1_code 123 = .ok (.aload_n 0, 1) := by decide +kernel
theorem d_Md_init_124 : decode prog_12_method_1_code 124 = .ok (.iconst 4, 1) := by decide +kernel
theorem d_Md_init_125 : decode prog_12_method_1_code 125 = .ok (.newarray .int, 2) := by decide +kernel
theorem d_Md_init_127 : decode prog_12_method_1_code 127 = .ok (.putfield 52, 3) := by decide +kernel
theorem d_Md_init_130 : decode prog_12_method_1_code 130 = .ok (.aload_n 0, 1) := by decide +kernel
theorem d_Md_init_131 : decode prog_12_method_1_code 131 = .ok (.bipush 64, 2) := by decide +kernel
theorem d_Md_init_133 : decode prog_12_method_1_code 133 = .ok (.newarray .int, 2) := by decide +kernel
theorem d_Md_init_135 : decode prog_12_method_1_code 135 = .ok (.putfield 55, 3) := by decide +kernel
theorem d_Md_init_138 : decode prog_12_method_1_code 138 = .ok (.aload_n 0, 1) := by decide +kernel
theorem d_Md_init_139 : decode prog_12_method_1_code 139 = .ok (.bipush 72, 2) := by decide +kernel
theorem d_Md_init_141 : decode prog_12_method_1_code 141 = .ok (.newarray .long, 2) := by decide +kernel
theorem d_Md_init_143 : decode prog_12_method_1_code 143 = .ok (.putfield 58, 3) := by decide +kernel
theorem d_Md_init_146 : decode prog_12_method_1_code 146 = .ok (.aload_n 0, 1) := by decide +kernel
theorem d_Md_init_147 : decode prog_12_method_1_code 147 = .ok (.bipush 20, 2) := by decide +kernel
theorem d_Md_init_149 : decode prog_12_method_1_code 149 = .ok (.newarray .long, 2) := by decide +kernel
theorem d_Md_init_151 : decode prog_12_method_1_code 151 = .ok (.putfield 62, 3) := by decide +kernel
theorem d_Md_init_154 : decode prog_12_method_1_code 154 = .ok (.aload_n 0, 1) := by decide +kernel
theorem d_Md_init_155 : decode prog_12_method_1_code 155 = .ok (.iconst (-1), 1) := by decide +kernel
theorem d_Md_init_156 : decode prog_12_method_1_code 156 = .ok (.putfield 65, 3) := by decide +kernel
theorem d_Md_init_159 : decode prog_12_method_1_code 159 = .ok (.aload_n 0, 1) := by decide +kernel
theorem d_Md_init_160 : decode prog_12_method_1_code 160 = .ok (.bipush 26, 2) := by decide +kernel
theorem d_Md_init_162 : decode prog_12_method_1_code 162 = .ok (.newarray .long, 2) := by decide +kernel
theorem d_Md_init_164 : decode prog_12_method_1_code 164 = .ok (.putfield 69, 3) := by decide +kernel
theorem d_Md_init_167 : decode prog_12_method_1_code 167 = .ok (.aload_n 0, 1) := by decide +kernel
theorem d_Md_init_168 : decode prog_12_method_1_code 168 = .ok (.bipush 40, 2) := by decide +kernel
theorem d_Md_init_170 : decode prog_12_method_1_code 170 = .ok (.newarray .int, 2) := by decide +kernel
theorem d_Md_init_172 : decode prog_12_method_1_code 172 = .ok (.putfield 72, 3) := by decide +kernel
theorem d_Md_init_175 : decode prog_12_method_1_code 175 = .ok (.aload_n 0, 1) := by decide +kernel
theorem d_Md_init_176 : decode prog_12_method_1_code 176 = .ok (.bipush 8, 2) := by decide +kernel
theorem d_Md_init_178 : decode prog_12_method_1_code 178 = .ok (.newarray .int, 2) := by decide +kernel
theorem d_Md_init_180 : decode prog_12_method_1_code 180 = .ok (.putfield 75, 3) := by decide +kernel
theorem d_Md_init_183 : decode prog_12_method_1_code 183 = .ok (.aload_n 0, 1) := by decide +kernel
theorem d_Md_init_184 : decode prog_12_method_1_code 184 = .ok (.bipush 12, 2) := by decide +kernel
theorem d_Md_init_186 : decode prog_12_method_1_code 186 = .ok (.newarray .int, 2) := by decide +kernel
theorem d_Md_init_188 : decode prog_12_method_1_code 188 = .ok (.putfield 78, 3) := by decide +kernel
theorem d_Md_init_191 : decode prog_12_method_1_code 191 = .ok (.aload_n 0, 1) := by decide +kernel
theorem d_Md_init_192 : decode prog_12_method_1_code 192 = .ok (.bipush 20, 2) := by decide +kernel
theorem d_Md_init_194 : decode prog_12_method_1_code 194 = .ok (.newarray .int, 2) := by decide +kernel
theorem d_Md_init_196 : decode prog_12_method_1_code 196 = .ok (.putfield 81, 3) := by decide +kernel
theorem d_Md_init_199 : decode prog_12_method_1_code 199 = .ok (.aload_n 0, 1) := by decide +kernel
theorem d_Md_init_200 : decode prog_12_method_1_code 200 = .ok (.iconst 2, 1) := by decide +kernel
theorem d_Md_init_201 : decode prog_12_method_1_code 201 = .ok (.newarray .int, 2) := by decide +kernel
theorem d_Md_init_203 : decode prog_12_method_1_code 203 = .ok (.putfield 84, 3) := by decide +kernel
theorem d_Md_init_206 : decode prog_12_method_1_code 206 = .ok (.aload_n 0, 1) := by decide +kernel
theorem d_Md_init_207 : decode prog_12_method_1_code 207 = .ok (.bipush 16, 2) := by decide +kernel
theorem d_Md_init_209 : decode prog_12_method_1_code 209 = .ok (.newarray .int, 2) := by decide +kernel
theorem d_Md_init_211 : decode prog_12_method_1_code 211 = .ok (.putfield 87, 3) := by decide +kernel
theorem d_Md_init_214 : decode prog_12_method_1_code 214 = .ok (.aload_n 0, 1) := by decide +kernel
theorem d_Md_init_215 : decode prog_12_method_1_code 215 = .ok (.bipush 16, 2) := by decide +kernel
theorem d_Md_init_217 : decode prog_12_method_1_code 217 = .ok (.newarray .int, 2) := by decide +kernel
theorem d_Md_init_219 : decode prog_12_method_1_code 219 = .ok (.putfield 90, 3) := by decide +kernel
theorem d_Md_init_222 : decode prog_12_method_1_code 222 = .ok (.aload_n 0, 1) := by decide +kernel
theorem d_Md_init_223 : decode prog_12_method_1_code 223 = .ok (.bipush 16, 2) := by decide +kernel
theorem d_Md_init_225 : decode prog_12_method_1_code 225 = .ok (.newarray .int, 2) := by decide +kernel
theorem d_Md_init_227 : decode prog_12_method_1_code 227 = .ok (.putfield 93, 3) := by decide +kernel
theorem d_Md_init_230 : decode prog_12_method_1_code 230 = .ok (.aload_n 0, 1) := by decide +kernel
theorem d_Md_init_231 : decode prog_12_method_1_code 231 = .ok (.bipush 16, 2) := by decide +kernel
theorem d_Md_init_233 : decode prog_12_method_1_code 233 = .ok (.newarray .int, 2) := by decide +kernel
theorem d_Md_init_235 : decode prog_12_method_1_code 235 = .ok (.putfield 96, 3) := by decide +kernel
theorem d_Md_init_238 : decode prog_12_method_1_code 238 = .ok (.aload_n 0, 1) := by decide +kernel
theorem d_Md_init_239 : decode prog_12_method_1_code 239 = .ok (.bipush 16, 2) := by decide +kernel
theorem d_Md_init_241 : decode prog_12_method_1_code 241 = .ok (.newarray .int, 2) := by decide +kernel
theorem d_Md_init_243 : decode prog_12_method_1_code 243 = .ok (.putfield 99, 3) := by decide +kernel
theorem d_Md_init_246 : decode prog_12_method_1_code 246 = .ok (.aload_n 0, 1) := by decide +kernel
theorem d_Md_init_247 : decode prog_12_method_1_code 247 = .ok (.bipush 16, 2) := by decide +kernel
theorem d_Md_init_249 : decode prog_12_method_1_code 249 = .ok (.newarray .int, 2) := by decide +kernel
theorem d_Md_init_251 : decode prog_12_method_1_code 251 = .ok (.putfield 102, 3) := by decide +kernel
theorem d_Md_init_254 : decode prog_12_method_1_code 254 = .ok (.aload_n 0, 1) := by decide +kernel
theorem d_Md_init_255 : decode prog_12_method_1_code 255 = .ok (.sipush 1152, 3) := by decide +kernel
theorem d_Md_init_258 : decode prog_12_method_1_code 258 = .ok (.newarray .long, 2) := by decide +kernel
theorem d_Md_init_260 : decode prog_12_method_1_code 260 = .ok (.putfield 105, 3) := by decide +kernel
theorem d_Md_init_263 : decode prog_12_method_1_code 263 = .ok (.aload_n 0, 1) := by decide +kernel
theorem d_Md_init_264 : decode prog_12_method_1_code 264 = .ok (.bipush 16, 2) := by decide +kernel
theorem d_Md_init_266 : decode prog_12_method_1_code 266 = .ok (.newarray .int, 2) := by decide +kernel
theorem d_Md_init_268 : decode prog_12_method_1_code 268 = .ok (.putfield 108, 3) := by decide +kernel
theorem d_Md_init_271 : decode prog_12_method_1_code 271 = .ok (.aload_n 0, 1) := by decide +kernel
theorem d_Md_init_272 : decode prog_12_method_1_code 272 = .ok (.bipush 64, 2) := by decide +kernel
theorem d_Md_init_274 : decode prog_12_method_1_code 274 = .ok (.newarray .long, 2) := by decide +kernel
theorem d_Md_init_276 : decode prog_12_method_1_code 276 = .ok (.putfield 111, 3) := by decide +kernel
theorem d_Md_init_279 : decode prog_12_method_1_code 279 = .ok (.aload_n 0, 1) := by decide +kernel
theorem d_Md_init_280 : decode prog_12_method_1_code 280 = .ok (.invokevirtual 114, 3) := by decide +kernel
theorem d_Md_init_283 : decode prog_12_method_1_code 283 = .ok (.return_, 1) := by decide +kernel
theorem d_Md_empty_0 : decode prog_12_method_2_code 0 = .ok (.aload_n 0, 1) := by decide +kernel
theorem d_Md_empty_1 : decode prog_12_method_2_code 1 = .ok (.iconst 0, 1) := by decide +kernel
theorem d_Md_empty_2 : decode prog_12_method_2_code 2 = .ok (.putfield 117, 3) := by decide +kernel
theorem d_Md_empty_5 : decode prog_12_method_2_code 5 = .ok (.aload_n 0, 1) := by decide +kernel
theorem d_Md_empty_6 : decode prog_12_method_2_code 6 = .ok (.iconst 0, 1) := by decide +kernel
theorem d_Md_empty_7 : decode prog_12_method_2_code 7 = .ok (.putfield 120, 3) := by decide +kernel
theorem d_Md_empty_10 : decode prog_12_method_2_code 10 = .ok (.aload_n 0, 1) := by decide +kernel
theorem d_Md_empty_11 : decode prog_12_method_2_code 11 = .ok (.iconst 0, 1) := by decide +kernel
theorem d_Md_empty_12 : decode prog_12_method_2_code 12 = .ok (.putfield 123, 3) := by decide +kernel
theorem d_Md_empty_15 : decode prog_12_method_2_code 15 = .ok (.aload_n 0, 1) := by decide +kernel
theorem d_Md_empty_16 : decode prog_12_method_2_code 16 = .ok (.iconst (-1), 1) := by decide +kernel
theorem d_Md_empty_17 : decode prog_12_method_2_code 17 = .ok (.putfield 65, 3) := by decide +kernel
theorem d_Md_empty_20 : decode prog_12_method_2_code 20 = .ok (.iconst 0, 1) := by decide +kernel
theorem d_Md_empty_21 : decode prog_12_method_2_code 21 = .ok (.istore_n 1, 1) := by decide +kernel
theorem d_Md_empty_22 : decode prog_12_method_2_code 22 = .ok (.iload_n 1, 1) := by decide +kernel
theorem d_Md_empty_23 : decode prog_12_method_2_code 23 = .ok (.iconst 2, 1) := by decide +kernel
theorem d_Md_empty_24 : decode prog_12_method_2_code 24 = .ok (.if_icmp .ge 16, 3) := by decide +kernel
theorem d_Md_empty_27 : decode prog_12_method_2_code 27 = .ok (.aload_n 0, 1) := by decide +kernel
theorem d_Md_empty_28 : decode prog_12_method_2_code 28 = .ok (.getfield 13, 3) := by decide +kernel
theorem d_Md_empty_31 : decode prog_12_method_2_code 31 = .ok (.iload_n 1, 1) := by decide +kernel
theorem d_Md_empty_32 : decode prog_12_method_2_code 32 = .ok (.iconst 0, 1) := by decide +kernel
theorem d_Md_empty_33 : decode prog_12_method_2_code 33 = .ok (.iastore, 1) := by decide +kernel
theorem d_Md_empty_34 : decode prog_12_method_2_code 34 = .ok (.iinc 1 1, 3) := by decide +kernel
theorem d_Md_empty_37 : decode prog_12_method_2_code 37 = .ok (.goto (-15), 3) := by decide +kernel
theorem d_Md_empty_40 : decode prog_12_method_2_code 40 = .ok (.aload_n 0, 1) := by decide +kernel
theorem d_Md_empty_41 : decode prog_12_method_2_code 41 = .ok (.getfield 19, 3) := by decide +kernel
theorem d_Md_empty_44 : decode prog_12_method_2_code 44 = .ok (.sipush 600, 3) := by decide +kernel
theorem d_Md_empty_47 : decode prog_12_method_2_code 47 = .ok (.aload_n 0, 1) := by decide +kernel
theorem d_Md_empty_48 : decode prog_12_method_2_code 48 = .ok (.getfield 126, 3) := by decide +kernel
theorem d_Md_empty_51 : decode prog_12_method_2_code 51 = .ok (.imul, 1) := by decide +kernel
theorem d_Md_empty_52 : decode prog_12_method_2_code 52 = .ok (.bipush 20, 2) := by decide +kernel
theorem d_Md_empty_54 : decode prog_12_method_2_code 54 = .ok (.iastore, 1) := by decide +kernel
theorem d_Md_empty_55 : decode prog_12_method_2_code 55 = .ok (.aload_n 0, 1) := by decide +kernel
theorem d_Md_empty_56 : decode prog_12_method_2_code 56 = .ok (.invokevirtual 129, 3) := by decide +kernel
theorem d_Md_empty_59 : decode prog_12_method_2_code 59 = .ok (.return_, 1) := by decide +kernel
theorem d_Md_forget_0 : decode prog_12_method_3_code 0 = .ok (.iconst 0, 1) := by decide +kernel
theorem d_Md_forget_1 : decode prog_12_method_3_code 1 = .ok (.istore_n 1, 1) := by decide +kernel
theorem d_Md_forget_2 : decode prog_12_method_3_code 2 = .ok (.iload_n 1, 1) := by decide +kernel
theorem d_Md_forget_3 : decode prog_12_method_3_code 3 = .ok (.bipush 26, 2) := by decide +kernel
theorem d_Md_forget_5 : decode prog_12_method_3_code 5 = .ok (.if_icmp .ge 16, 3) := by decide +kernel
theorem d_Md_forget_8 : decode prog_12_method_3_code 8 = .ok (.aload_n 0, 1) := by decide +kernel
theorem d_Md_forget_9 : decode prog_12_method_3_code 9 = .ok (.getfield 69, 3) := by decide +kernel
theorem d_Md_forget_12 : decode prog_12_method_3_code 12 = .ok (.iload_n 1, 1) := by decide +kernel
theorem d_Md_forget_13 : decode prog_12_method_3_code 13 = .ok (.lconst 0, 1) := by decide +kernel
theorem d_Md_forget_14 : decode prog_12_method_3_code 14 = .ok (.lastore, 1) := by decide +kernel
theorem d_Md_forget_15 : decode prog_12_method_3_code 15 = .ok (.iinc 1 1, 3) := by decide +kernel
theorem d_Md_forget_18 : decode prog_12_method_3_code 18 = .ok (.goto (-16), 3) := by decide +kernel
theorem d_Md_forget_21 : decode prog_12_method_3_code 21 = .ok (.aload_n 0, 1) := by decide +kernel
theorem d_Md_forget_22 : decode prog_12_method_3_code 22 = .ok (.lconst 0, 1) := by decide +kernel
theorem d_Md_forget_23 : decode prog_12_method_3_code 23 = .ok (.putfield 132, 3) := by decide +kernel
theorem d_Md_forget_26 : decode prog_12_method_3_code 26 = .ok (.aload_n 0, 1) := by decide +kernel
theorem d_Md_forget_27 : decode prog_12_method_3_code 27 = .ok (.iconst 0, 1) := by decide +kernel
theorem d_Md_forget_28 : decode prog_12_method_3_code 28 = .ok (.putfield 136, 3) := by decide +kernel
theorem d_Md_forget_31 : decode prog_12_method_3_code 31 = .ok (.aload_n 0, 1) := by decide +kernel
theorem d_Md_forget_32 : decode prog_12_method_3_code 32 = .ok (.iconst 0, 1) := by decide +kernel
theorem d_Md_forget_33 : decode prog_12_method_3_code 33 = .ok (.putfield 139, 3) := by decide +kernel
theorem d_Md_forget_36 : decode prog_12_method_3_code 36 = .ok (.aload_n 0, 1) := by decide +kernel
theorem d_Md_forget_37 : decode prog_12_method_3_code 37 = .ok (.iconst 0, 1) := by decide +kernel
theorem d_Md_forget_38 : decode prog_12_method_3_code 38 = .ok (.putfield 142, 3) := by decide +kernel
theorem d_Md_forget_41 : decode prog_12_method_3_code 41 = .ok (.aload_n 0, 1) := by decide +kernel
theorem d_Md_forget_42 : decode prog_12_method_3_code 42 = .ok (.iconst 0, 1) := by decide +kernel
theorem d_Md_forget_43 : decode prog_12_method_3_code 43 = .ok (.putfield 145, 3) := by decide +kernel
theorem d_Md_forget_46 : decode prog_12_method_3_code 46 = .ok (.aload_n 0, 1) := by decide +kernel
theorem d_Md_forget_47 : decode prog_12_method_3_code 47 = .ok (.iconst 0, 1) := by decide +kernel
theorem d_Md_forget_48 : decode prog_12_method_3_code 48 = .ok (.putfield 148, 3) := by decide +kernel
theorem d_Md_forget_51 : decode prog_12_method_3_code 51 = .ok (.aload_n 0, 1) := by decide +kernel
theorem d_Md_forget_52 : decode prog_12_method_3_code 52 = .ok (.iconst 0, 1) := by decide +kernel
theorem d_Md_forget_53 : decode prog_12_method_3_code 53 = .ok (.putfield 152, 3) := by decide +kernel
theorem d_Md_forget_56 : decode prog_12_method_3_code 56 = .ok (.aload_n 0, 1) := by decide +kernel
theorem d_Md_forget_57 : decode prog_12_method_3_code 57 = .ok (.iconst 0, 1) := by decide +kernel
theorem d_Md_forget_58 : decode prog_12_method_3_code 58 = .ok (.putfield 155, 3) := by decide +kernel
theorem d_Md_forget_61 : decode prog_12_method_3_code 61 = .ok (.aload_n 0, 1) := by decide +kernel
theorem d_Md_forget_62 : decode prog_12_method_3_code 62 = .ok (.iconst (-1), 1) := by decide +kernel
theorem d_Md_forget_63 : decode prog_12_method_3_code 63 = .ok (.putfield 158, 3) := by decide +kernel
theorem d_Md_forget_66 : decode prog_12_method_3_code 66 = .ok (.aload_n 0, 1) := by decide +kernel
theorem d_Md_forget_67 : decode prog_12_method_3_code 67 = .ok (.iconst 0, 1) := by decide +kernel
theorem d_Md_forget_68 : decode prog_12_method_3_code 68 = .ok (.putfield 161, 3) := by decide +kernel
theorem d_Md_forget_71 : decode prog_12_method_3_code 71 = .ok (.return_, 1) := by decide +kernel
theorem d_Md_thrown_0 : decode prog_12_method_4_code 0 = .ok (.aload_n 0, 1) := by decide +kernel
theorem d_Md_thrown_1 : decode prog_12_method_4_code 1 = .ok (.getfield 164, 3) := by decide +kernel
theorem d_Md_thrown_4 : decode prog_12_method_4_code 4 = .ok (.ireturn, 1) := by decide +kernel
theorem d_Md_clear_0 : decode prog_12_method_5_code 0 = .ok (.aload_n 0, 1) := by decide +kernel
theorem d_Md_clear_1 : decode prog_12_method_5_code 1 = .ok (.iconst 0, 1) := by decide +kernel
theorem d_Md_clear_2 : decode prog_12_method_5_code 2 = .ok (.putfield 164, 3) := by decide +kernel
theorem d_Md_clear_5 : decode prog_12_method_5_code 5 = .ok (.aload_n 0, 1) := by decide +kernel
theorem d_Md_clear_6 : decode prog_12_method_5_code 6 = .ok (.invokevirtual 114, 3) := by decide +kernel
theorem d_Md_clear_9 : decode prog_12_method_5_code 9 = .ok (.return_, 1) := by decide +kernel
theorem d_Md_unit_0 : decode prog_12_method_6_code 0 = .ok (.aload_n 0, 1) := by decide +kernel
theorem d_Md_unit_1 : decode prog_12_method_6_code 1 = .ok (.iconst 0, 1) := by decide +kernel
theorem d_Md_unit_2 : decode prog_12_method_6_code 2 = .ok (.putfield 164, 3) := by decide +kernel
theorem d_Md_unit_5 : decode prog_12_method_6_code 5 = .ok (.iload_n 1, 1) := by decide +kernel
theorem d_Md_unit_6 : decode prog_12_method_6_code 6 = .ok (.bipush 10, 2) := by decide +kernel
theorem d_Md_unit_8 : decode prog_12_method_6_code 8 = .ok (.if_icmp .eq 15, 3) := by decide +kernel
theorem d_Md_unit_11 : decode prog_12_method_6_code 11 = .ok (.iload_n 1, 1) := by decide +kernel
theorem d_Md_unit_12 : decode prog_12_method_6_code 12 = .ok (.bipush 32, 2) := by decide +kernel
theorem d_Md_unit_14 : decode prog_12_method_6_code 14 = .ok (.if_icmp .lt 19, 3) := by decide +kernel
theorem d_Md_unit_17 : decode prog_12_method_6_code 17 = .ok (.iload_n 1, 1) := by decide +kernel
theorem d_Md_unit_18 : decode prog_12_method_6_code 18 = .ok (.bipush 126, 2) := by decide +kernel
theorem d_Md_unit_20 : decode prog_12_method_6_code 20 = .ok (.if_icmp .gt 13, 3) := by decide +kernel
theorem d_Md_unit_23 : decode prog_12_method_6_code 23 = .ok (.aload_n 0, 1) := by decide +kernel
theorem d_Md_unit_24 : decode prog_12_method_6_code 24 = .ok (.getfield 117, 3) := by decide +kernel
theorem d_Md_unit_27 : decode prog_12_method_6_code 27 = .ok (.sipush 400, 3) := by decide +kernel
theorem d_Md_unit_30 : decode prog_12_method_6_code 30 = .ok (.if_icmp .ne 5, 3) := by decide +kernel
theorem d_Md_unit_33 : decode prog_12_method_6_code 33 = .ok (.iconst 0, 1) := by decide +kernel
theorem d_Md_unit_34 : decode prog_12_method_6_code 34 = .ok (.ireturn, 1) := by decide +kernel
theorem d_Md_unit_35 : decode prog_12_method_6_code 35 = .ok (.aload_n 0, 1) := by decide +kernel
theorem d_Md_unit_36 : decode prog_12_method_6_code 36 = .ok (.getfield 7, 3) := by decide +kernel
theorem d_Md_unit_39 : decode prog_12_method_6_code 39 = .ok (.aload_n 0, 1) := by decide +kernel
theorem d_Md_unit_40 : decode prog_12_method_6_code 40 = .ok (.getfield 117, 3) := by decide +kernel
theorem d_Md_unit_43 : decode prog_12_method_6_code 43 = .ok (.iload_n 1, 1) := by decide +kernel
theorem d_Md_unit_44 : decode prog_12_method_6_code 44 = .ok (.iastore, 1) := by decide +kernel
theorem d_Md_unit_45 : decode prog_12_method_6_code 45 = .ok (.aload_n 0, 1) := by decide +kernel
theorem d_Md_unit_46 : decode prog_12_method_6_code 46 = .ok (.dup, 1) := by decide +kernel
theorem d_Md_unit_47 : decode prog_12_method_6_code 47 = .ok (.getfield 117, 3) := by decide +kernel
theorem d_Md_unit_50 : decode prog_12_method_6_code 50 = .ok (.iconst 1, 1) := by decide +kernel
theorem d_Md_unit_51 : decode prog_12_method_6_code 51 = .ok (.iadd, 1) := by decide +kernel
theorem d_Md_unit_52 : decode prog_12_method_6_code 52 = .ok (.putfield 117, 3) := by decide +kernel
theorem d_Md_unit_55 : decode prog_12_method_6_code 55 = .ok (.iconst 1, 1) := by decide +kernel
theorem d_Md_unit_56 : decode prog_12_method_6_code 56 = .ok (.ireturn, 1) := by decide +kernel
theorem d_Md_peek_0 : decode prog_12_method_7_code 0 = .ok (.aload_n 0, 1) := by decide +kernel
theorem d_Md_peek_1 : decode prog_12_method_7_code 1 = .ok (.getfield 167, 3) := by decide +kernel
theorem d_Md_peek_4 : decode prog_12_method_7_code 4 = .ok (.aload_n 0, 1) := by decide +kernel
theorem d_Md_peek_5 : decode prog_12_method_7_code 5 = .ok (.getfield 117, 3) := by decide +kernel
theorem d_Md_peek_8 : decode prog_12_method_7_code 8 = .ok (.if_icmp .ge 15, 3) := by decide +kernel
theorem d_Md_peek_11 : decode prog_12_method_7_code 11 = .ok (.aload_n 0, 1) := by decide +kernel
theorem d_Md_peek_12 : decode prog_12_method_7_code 12 = .ok (.getfield 7, 3) := by decide +kernel
theorem d_Md_peek_15 : decode prog_12_method_7_code 15 = .ok (.aload_n 0, 1) := by decide +kernel
theorem d_Md_peek_16 : decode prog_12_method_7_code 16 = .ok (.getfield 167, 3) := by decide +kernel
theorem d_Md_peek_19 : decode prog_12_method_7_code 19 = .ok (.iaload, 1) := by decide +kernel
theorem d_Md_peek_20 : decode prog_12_method_7_code 20 = .ok (.goto 4, 3) := by decide +kernel
theorem d_Md_peek_23 : decode prog_12_method_7_code 23 = .ok (.iconst (-1), 1) := by decide +kernel
theorem d_Md_peek_24 : decode prog_12_method_7_code 24 = .ok (.ireturn, 1) := by decide +kernel
theorem d_Md_expect_0 : decode prog_12_method_8_code 0 = .ok (.aload_n 0, 1) := by decide +kernel
theorem d_Md_expect_1 : decode prog_12_method_8_code 1 = .ok (.getfield 170, 3) := by decide +kernel
theorem d_Md_expect_4 : decode prog_12_method_8_code 4 = .ok (.iconst (-1), 1) := by decide +kernel
theorem d_Md_expect_5 : decode prog_12_method_8_code 5 = .ok (.if_icmp .eq 4, 3) := by decide +kernel
theorem d_Md_expect_8 : decode prog_12_method_8_code 8 = .ok (.return_, 1) := by decide +kernel
theorem d_Md_expect_9 : decode prog_12_method_8_code 9 = .ok (.aload_n 0, 1) := by decide +kernel
theorem d_Md_expect_10 : decode prog_12_method_8_code 10 = .ok (.invokevirtual 173, 3) := by decide +kernel
theorem d_Md_expect_13 : decode prog_12_method_8_code 13 = .ok (.iload_n 1, 1) := by decide +kernel
theorem d_Md_expect_14 : decode prog_12_method_8_code 14 = .ok (.if_icmp .ne 16, 3) := by decide +kernel
theorem d_Md_expect_17 : decode prog_12_method_8_code 17 = .ok (.aload_n 0, 1) := by decide +kernel
theorem d_Md_expect_18 : decode prog_12_method_8_code 18 = .ok (.dup, 1) := by decide +kernel
theorem d_Md_expect_19 : decode prog_12_method_8_code 19 = .ok (.getfield 167, 3) := by decide +kernel
theorem d_Md_expect_22 : decode prog_12_method_8_code 22 = .ok (.iconst 1, 1) := by decide +kernel
theorem d_Md_expect_23 : decode prog_12_method_8_code 23 = .ok (.iadd, 1) := by decide +kernel
theorem d_Md_expect_24 : decode prog_12_method_8_code 24 = .ok (.putfield 167, 3) := by decide +kernel
theorem d_Md_expect_27 : decode prog_12_method_8_code 27 = .ok (.goto 11, 3) := by decide +kernel
theorem d_Md_expect_30 : decode prog_12_method_8_code 30 = .ok (.aload_n 0, 1) := by decide +kernel
theorem d_Md_expect_31 : decode prog_12_method_8_code 31 = .ok (.aload_n 0, 1) := by decide +kernel
theorem d_Md_expect_32 : decode prog_12_method_8_code 32 = .ok (.getfield 167, 3) := by decide +kernel
theorem d_Md_expect_35 : decode prog_12_method_8_code 35 = .ok (.putfield 170, 3) := by decide +kernel
theorem d_Md_expect_38 : decode prog_12_method_8_code 38 = .ok (.return_, 1) := by decide +kernel
theorem d_Md_isDigit_0 : decode prog_12_method_9_code 0 = .ok (.iload_n 0, 1) := by decide +kernel
theorem d_Md_isDigit_1 : decode prog_12_method_9_code 1 = .ok (.bipush 48, 2) := by decide +kernel
theorem d_Md_isDigit_3 : decode prog_12_method_9_code 3 = .ok (.if_icmp .lt 13, 3) := by decide +kernel
theorem d_Md_isDigit_6 : decode prog_12_method_9_code 6 = .ok (.iload_n 0, 1) := by decide +kernel
theorem d_Md_isDigit_7 : decode prog_12_method_9_code 7 = .ok (.bipush 57, 2) := by decide +kernel
theorem d_Md_isDigit_9 : decode prog_12_method_9_code 9 = .ok (.if_icmp .gt 7, 3) := by decide +kernel
theorem d_Md_isDigit_12 : decode prog_12_method_9_code 12 = .ok (.iconst 1, 1) := by decide +kernel
theorem d_Md_isDigit_13 : decode prog_12_method_9_code 13 = .ok (.goto 4, 3) := by decide +kernel
theorem d_Md_isDigit_16 : decode prog_12_method_9_code 16 = .ok (.iconst 0, 1) := by decide +kernel
theorem d_Md_isDigit_17 : decode prog_12_method_9_code 17 = .ok (.ireturn, 1) := by decide +kernel
theorem d_Md_isVariable_0 : decode prog_12_method_10_code 0 = .ok (.iload_n 0, 1) := by decide +kernel
theorem d_Md_isVariable_1 : decode prog_12_method_10_code 1 = .ok (.bipush 97, 2) := by decide +kernel
theorem d_Md_isVariable_3 : decode prog_12_method_10_code 3 = .ok (.if_icmp .lt 13, 3) := by decide +kernel
theorem d_Md_isVariable_6 : decode prog_12_method_10_code 6 = .ok (.iload_n 0, 1) := by decide +kernel
theorem d_Md_isVariable_7 : decode prog_12_method_10_code 7 = .ok (.bipush 122, 2) := by decide +kernel
theorem d_Md_isVariable_9 : decode prog_12_method_10_code 9 = .ok (.if_icmp .gt 7, 3) := by decide +kernel
theorem d_Md_isVariable_12 : decode prog_12_method_10_code 12 = .ok (.iconst 1, 1) := by decide +kernel
theorem d_Md_isVariable_13 : decode prog_12_method_10_code 13 = .ok (.goto 4, 3) := by decide +kernel
theorem d_Md_isVariable_16 : decode prog_12_method_10_code 16 = .ok (.iconst 0, 1) := by decide +kernel
theorem d_Md_isVariable_17 : decode prog_12_method_10_code 17 = .ok (.ireturn, 1) := by decide +kernel
theorem d_Md_isFunction_0 : decode prog_12_method_11_code 0 = .ok (.iload_n 0, 1) := by decide +kernel
theorem d_Md_isFunction_1 : decode prog_12_method_11_code 1 = .ok (.bipush 65, 2) := by decide +kernel
theorem d_Md_isFunction_3 : decode prog_12_method_11_code 3 = .ok (.if_icmp .lt 13, 3) := by decide +kernel
theorem d_Md_isFunction_6 : decode prog_12_method_11_code 6 = .ok (.iload_n 0, 1) := by decide +kernel
theorem d_Md_isFunction_7 : decode prog_12_method_11_code 7 = .ok (.bipush 90, 2) := by decide +kernel
theorem d_Md_isFunction_9 : decode prog_12_method_11_code 9 = .ok (.if_icmp .gt 7, 3) := by decide +kernel
theorem d_Md_isFunction_12 : decode prog_12_method_11_code 12 = .ok (.iconst 1, 1) := by decide +kernel
theorem d_Md_isFunction_13 : decode prog_12_method_11_code 13 = .ok (.goto 4, 3) := by decide +kernel
theorem d_Md_isFunction_16 : decode prog_12_method_11_code 16 = .ok (.iconst 0, 1) := by decide +kernel
theorem d_Md_isFunction_17 : decode prog_12_method_11_code 17 = .ok (.ireturn, 1) := by decide +kernel
theorem d_Md_code_0 : decode prog_12_method_12_code 0 = .ok (.aload_n 0, 1) := by decide +kernel
theorem d_Md_code_1 : decode prog_12_method_12_code 1 = .ok (.getfield 40, 3) := by decide +kernel
theorem d_Md_code_4 : decode prog_12_method_12_code 4 = .ok (.sipush 1000, 3) := by decide +kernel
theorem d_Md_code_7 : decode prog_12_method_12_code 7 = .ok (.aload_n 0, 1) := by decide +kernel
theorem d_Md_code_8 : decode prog_12_method_12_code 8 = .ok (.getfield 177, 3) := by decide +kernel
theorem d_Md_code_11 : decode prog_12_method_12_code 11 = .ok (.imul, 1) := by decide +kernel
theorem d_Md_code_12 : decode prog_12_method_12_code 12 = .ok (.aload_n 0, 1) := by decide +kernel
theorem d_Md_code_13 : decode prog_12_method_12_code 13 = .ok (.getfield 180, 3) := by decide +kernel
theorem d_Md_code_16 : decode prog_12_method_12_code 16 = .ok (.iadd, 1) := by decide +kernel
theorem d_Md_code_17 : decode prog_12_method_12_code 17 = .ok (.iload_n 1, 1) := by decide +kernel
theorem d_Md_code_18 : decode prog_12_method_12_code 18 = .ok (.iastore, 1) := by decide +kernel
theorem d_Md_code_19 : decode prog_12_method_12_code 19 = .ok (.aload_n 0, 1) := by decide +kernel
theorem d_Md_code_20 : decode prog_12_method_12_code 20 = .ok (.getfield 43, 3) := by decide +kernel
theorem d_Md_code_23 : decode prog_12_method_12_code 23 = .ok (.sipush 1000, 3) := by decide +kernel
theorem d_Md_code_26 : decode prog_12_method_12_code 26 = .ok (.aload_n 0, 1) := by decide +kernel
theorem d_Md_code_27 : decode prog_12_method_12_code 27 = .ok (.getfield 177, 3) := by decide +kernel
theorem d_Md_code_30 : decode prog_12_method_12_code 30 = .ok (.imul, 1) := by decide +kernel
theorem d_Md_code_31 : decode prog_12_method_12_code 31 = .ok (.aload_n 0, 1) := by decide +kernel
theorem d_Md_code_32 : decode prog_12_method_12_code 32 = .ok (.getfield 180, 3) := by decide +kernel
theorem d_Md_code_35 : decode prog_12_method_12_code 35 = .ok (.iadd, 1) := by decide +kernel
theorem d_Md_code_36 : decode prog_12_method_12_code 36 = .ok (.iload_n 2, 1) := by decide +kernel
theorem d_Md_code_37 : decode prog_12_method_12_code 37 = .ok (.iastore, 1) := by decide +kernel
theorem d_Md_code_38 : decode prog_12_method_12_code 38 = .ok (.aload_n 0, 1) := by decide +kernel
theorem d_Md_code_39 : decode prog_12_method_12_code 39 = .ok (.dup, 1) := by decide +kernel
theorem d_Md_code_40 : decode prog_12_method_12_code 40 = .ok (.getfield 180, 3) := by decide +kernel
theorem d_Md_code_43 : decode prog_12_method_12_code 43 = .ok (.iconst 1, 1) := by decide +kernel
theorem d_Md_code_44 : decode prog_12_method_12_code 44 = .ok (.iadd, 1) := by decide +kernel
theorem d_Md_code_45 : decode prog_12_method_12_code 45 = .ok (.putfield 180, 3) := by decide +kernel
theorem d_Md_code_48 : decode prog_12_method_12_code 48 = .ok (.return_, 1) := by decide +kernel
theorem d_Md_isNest_0 : decode prog_12_method_13_code 0 = .ok (.iload_n 0, 1) := by decide +kernel
theorem d_Md_isNest_1 : decode prog_12_method_13_code 1 = .ok (.bipush 45, 2) := by decide +kernel
theorem d_Md_isNest_3 : decode prog_12_method_13_code 3 = .ok (.if_icmp .eq 21, 3) := by decide +kernel
theorem d_Md_isNest_6 : decode prog_12_method_13_code 6 = .ok (.iload_n 0, 1) := by decide +kernel
theorem d_Md_isNest_7 : decode prog_12_method_13_code 7 = .ok (.bipush 40, 2) := by decide +kernel
theorem d_Md_isNest_9 : decode prog_12_method_13_code 9 = .ok (.if_icmp .eq 15, 3) := by decide +kernel
theorem d_Md_isNest_12 : decode prog_12_method_13_code 12 = .ok (.iload_n 0, 1) := by decide +kernel
theorem d_Md_isNest_13 : decode prog_12_method_13_code 13 = .ok (.bipush 64, 2) := by decide +kernel
theorem d_Md_isNest_15 : decode prog_12_method_13_code 15 = .ok (.if_icmp .eq 9, 3) := by decide +kernel
theorem d_Md_isNest_18 : decode prog_12_method_13_code 18 = .ok (.iload_n 0, 1) := by decide +kernel
theorem d_Md_isNest_19 : decode prog_12_method_13_code 19 = .ok (.bipush 39, 2) := by decide +kernel
theorem d_Md_isNest_21 : decode prog_12_method_13_code 21 = .ok (.if_icmp .ne 7, 3) := by decide +kernel
theorem d_Md_isNest_24 : decode prog_12_method_13_code 24 = .ok (.iconst 1, 1) := by decide +kernel
theorem d_Md_isNest_25 : decode prog_12_method_13_code 25 = .ok (.goto 4, 3) := by decide +kernel
theorem d_Md_isNest_28 : decode prog_12_method_13_code 28 = .ok (.iconst 0, 1) := by decide +kernel
theorem d_Md_isNest_29 : decode prog_12_method_13_code 29 = .ok (.ireturn, 1) := by decide +kernel
theorem d_Md_strength_0 : decode prog_12_method_14_code 0 = .ok (.iload_n 0, 1) := by decide +kernel
theorem d_Md_strength_1 : decode prog_12_method_14_code 1 = .ok (.bipush 42, 2) := by decide +kernel
theorem d_Md_strength_3 : decode prog_12_method_14_code 3 = .ok (.if_icmp .eq 15, 3) := by decide +kernel
theorem d_Md_strength_6 : decode prog_12_method_14_code 6 = .ok (.iload_n 0, 1) := by decide +kernel
theorem d_Md_strength_7 : decode prog_12_method_14_code 7 = .ok (.bipush 47, 2) := by decide +kernel
theorem d_Md_strength_9 : decode prog_12_method_14_code 9 = .ok (.if_icmp .eq 9, 3) := by decide +kernel
theorem d_Md_strength_12 : decode prog_12_method_14_code 12 = .ok (.iload_n 0, 1) := by decide +kernel
theorem d_Md_strength_13 : decode prog_12_method_14_code 13 = .ok (.bipush 37, 2) := by decide +kernel
theorem d_Md_strength_15 : decode prog_12_method_14_code 15 = .ok (.if_icmp .ne 5, 3) := by decide +kernel
theorem d_Md_strength_18 : decode prog_12_method_14_code 18 = .ok (.iconst 3, 1) := by decide +kernel
theorem d_Md_strength_19 : decode prog_12_method_14_code 19 = .ok (.ireturn, 1) := by decide +kernel
theorem d_Md_strength_20 : decode prog_12_method_14_code 20 = .ok (.iload_n 0, 1) := by decide +kernel
theorem d_Md_strength_21 : decode prog_12_method_14_code 21 = .ok (.bipush 43, 2) := by decide +kernel
theorem d_Md_strength_23 : decode prog_12_method_14_code 23 = .ok (.if_icmp .eq 9, 3) := by decide +kernel
theorem d_Md_strength_26 : decode prog_12_method_14_code 26 = .ok (.iload_n 0, 1) := by decide +kernel
theorem d_Md_strength_27 : decode prog_12_method_14_code 27 = .ok (.bipush 45, 2) := by decide +kernel
theorem d_Md_strength_29 : decode prog_12_method_14_code 29 = .ok (.if_icmp .ne 5, 3) := by decide +kernel
theorem d_Md_strength_32 : decode prog_12_method_14_code 32 = .ok (.iconst 2, 1) := by decide +kernel
theorem d_Md_strength_33 : decode prog_12_method_14_code 33 = .ok (.ireturn, 1) := by decide +kernel
theorem d_Md_strength_34 : decode prog_12_method_14_code 34 = .ok (.iload_n 0, 1) := by decide +kernel
theorem d_Md_strength_35 : decode prog_12_method_14_code 35 = .ok (.bipush 60, 2) := by decide +kernel
theorem d_Md_strength_37 : decode prog_12_method_14_code 37 = .ok (.if_icmp .eq 9, 3) := by decide +kernel
theorem d_Md_strength_40 : decode prog_12_method_14_code 40 = .ok (.iload_n 0, 1) := by decide +kernel
theorem d_Md_strength_41 : decode prog_12_method_14_code 41 = .ok (.bipush 61, 2) := by decide +kernel
theorem d_Md_strength_43 : decode prog_12_method_14_code 43 = .ok (.if_icmp .ne 7, 3) := by decide +kernel
theorem d_Md_strength_46 : decode prog_12_method_14_code 46 = .ok (.iconst 1, 1) := by decide +kernel
theorem d_Md_strength_47 : decode prog_12_method_14_code 47 = .ok (.goto 4, 3) := by decide +kernel
theorem d_Md_strength_50 : decode prog_12_method_14_code 50 = .ok (.iconst 0, 1) := by decide +kernel
theorem d_Md_strength_51 : decode prog_12_method_14_code 51 = .ok (.ireturn, 1) := by decide +kernel
theorem d_Md_drain_0 : decode prog_12_method_15_code 0 = .ok (.aload_n 0, 1) := by decide +kernel
theorem d_Md_drain_1 : decode prog_12_method_15_code 1 = .ok (.getfield 183, 3) := by decide +kernel
theorem d_Md_drain_4 : decode prog_12_method_15_code 4 = .ok (.ifCond .le 48, 3) := by decide +kernel
theorem d_Md_drain_7 : decode prog_12_method_15_code 7 = .ok (.aload_n 0, 1) := by decide +kernel
theorem d_Md_drain_8 : decode prog_12_method_15_code 8 = .ok (.getfield 55, 3) := by decide +kernel
theorem d_Md_drain_11 : decode prog_12_method_15_code 11 = .ok (.aload_n 0, 1) := by decide +kernel
theorem d_Md_drain_12 : decode prog_12_method_15_code 12 = .ok (.getfield 183, 3) := by decide +kernel
theorem d_Md_drain_15 : decode prog_12_method_15_code 15 = .ok (.iconst 1, 1) := by decide +kernel
theorem d_Md_drain_16 : decode prog_12_method_15_code 16 = .ok (.isub, 1) := by decide +kernel
theorem d_Md_drain_17 : decode prog_12_method_15_code 17 = .ok (.iaload, 1) := by decide +kernel
theorem d_Md_drain_18 : decode prog_12_method_15_code 18 = .ok (.invokestatic 186, 3) := by decide +kernel
theorem d_Md_drain_21 : decode prog_12_method_15_code 21 = .ok (.iload_n 1, 1) := by decide +kernel
theorem d_Md_drain_22 : decode prog_12_method_15_code 22 = .ok (.if_icmp .lt 30, 3) := by decide +kernel
theorem d_Md_drain_25 : decode prog_12_method_15_code 25 = .ok (.aload_n 0, 1) := by decide +kernel
theorem d_Md_drain_26 : decode prog_12_method_15_code 26 = .ok (.dup, 1) := by decide +kernel
theorem d_Md_drain_27 : decode prog_12_method_15_code 27 = .ok (.getfield 183, 3) := by decide +kernel
theorem d_Md_drain_30 : decode prog_12_method_15_code 30 = .ok (.iconst 1, 1) := by decide +kernel
theorem d_Md_drain_31 : decode prog_12_method_15_code 31 = .ok (.isub, 1) := by decide +kernel
theorem d_Md_drain_32 : decode prog_12_method_15_code 32 = .ok (.putfield 183, 3) := by decide +kernel
theorem d_Md_drain_35 : decode prog_12_method_15_code 35 = .ok (.aload_n 0, 1) := by decide +kernel
theorem d_Md_drain_36 : decode prog_12_method_15_code 36 = .ok (.aload_n 0, 1) := by decide +kernel
theorem d_Md_drain_37 : decode prog_12_method_15_code 37 = .ok (.getfield 55, 3) := by decide +kernel
theorem d_Md_drain_40 : decode prog_12_method_15_code 40 = .ok (.aload_n 0, 1) := by decide +kernel
theorem d_Md_drain_41 : decode prog_12_method_15_code 41 = .ok (.getfield 183, 3) := by decide +kernel
theorem d_Md_drain_44 : decode prog_12_method_15_code 44 = .ok (.iaload, 1) := by decide +kernel
theorem d_Md_drain_45 : decode prog_12_method_15_code 45 = .ok (.iconst 0, 1) := by decide +kernel
theorem d_Md_drain_46 : decode prog_12_method_15_code 46 = .ok (.invokevirtual 190, 3) := by decide +kernel
theorem d_Md_drain_49 : decode prog_12_method_15_code 49 = .ok (.goto (-49), 3) := by decide +kernel
theorem d_Md_drain_52 : decode prog_12_method_15_code 52 = .ok (.return_, 1) := by decide +kernel
theorem d_Md_nest_0 : decode prog_12_method_16_code 0 = .ok (.aload_n 0, 1) := by decide +kernel
theorem d_Md_nest_1 : decode prog_12_method_16_code 1 = .ok (.getfield 194, 3) := by decide +kernel
theorem d_Md_nest_4 : decode prog_12_method_16_code 4 = .ok (.iconst 3, 1) := by decide +kernel
theorem d_Md_nest_5 : decode prog_12_method_16_code 5 = .ok (.if_icmp .ne 12, 3) := by decide +kernel
theorem d_Md_nest_8 : decode prog_12_method_16_code 8 = .ok (.aload_n 0, 1) := by decide +kernel
theorem d_Md_nest_9 : decode prog_12_method_16_code 9 = .ok (.aload_n 0, 1) := by decide +kernel
theorem d_Md_nest_10 : decode prog_12_method_16_code 10 = .ok (.getfield 167, 3) := by decide +kernel
theorem d_Md_nest_13 : decode prog_12_method_16_code 13 = .ok (.putfield 170, 3) := by decide +kernel
theorem d_Md_nest_16 : decode prog_12_method_16_code 16 = .ok (.return_, 1) := by decide +kernel
theorem d_Md_nest_17 : decode prog_12_method_16_code 17 = .ok (.aload_n 0, 1) := by decide +kernel
theorem d_Md_nest_18 : decode prog_12_method_16_code 18 = .ok (.getfield 55, 3) := by decide +kernel
theorem d_Md_nest_21 : decode prog_12_method_16_code 21 = .ok (.aload_n 0, 1) := by decide +kernel
theorem d_Md_nest_22 : decode prog_12_method_16_code 22 = .ok (.getfield 183, 3) := by decide +kernel
theorem d_Md_nest_25 : decode prog_12_method_16_code 25 = .ok (.iload_n 1, 1) := by decide +kernel
theorem d_Md_nest_26 : decode prog_12_method_16_code 26 = .ok (.bipush 45, 2) := by decide +kernel
theorem d_Md_nest_28 : decode prog_12_method_16_code 28 = .ok (.if_icmp .ne 8, 3) := by decide +kernel
theorem d_Md_nest_31 : decode prog_12_method_16_code 31 = .ok (.bipush 95, 2) := by decide +kernel
theorem d_Md_nest_33 : decode prog_12_method_16_code 33 = .ok (.goto 4, 3) := by decide +kernel
theorem d_Md_nest_36 : decode prog_12_method_16_code 36 = .ok (.iload_n 1, 1) := by decide +kernel
theorem d_Md_nest_37 : decode prog_12_method_16_code 37 = .ok (.iastore, 1) := by decide +kernel
theorem d_Md_nest_38 : decode prog_12_method_16_code 38 = .ok (.aload_n 0, 1) := by decide +kernel
theorem d_Md_nest_39 : decode prog_12_method_16_code 39 = .ok (.dup, 1) := by decide +kernel
theorem d_Md_nest_40 : decode prog_12_method_16_code 40 = .ok (.getfield 183, 3) := by decide +kernel
theorem d_Md_nest_43 : decode prog_12_method_16_code 43 = .ok (.iconst 1, 1) := by decide +kernel
theorem d_Md_nest_44 : decode prog_12_method_16_code 44 = .ok (.iadd, 1) := by decide +kernel
theorem d_Md_nest_45 : decode prog_12_method_16_code 45 = .ok (.putfield 183, 3) := by decide +kernel
theorem d_Md_nest_48 : decode prog_12_method_16_code 48 = .ok (.aload_n 0, 1) := by decide +kernel
theorem d_Md_nest_49 : decode prog_12_method_16_code 49 = .ok (.dup, 1) := by decide +kernel
theorem d_Md_nest_50 : decode prog_12_method_16_code 50 = .ok (.getfield 194, 3) := by decide +kernel
theorem d_Md_nest_53 : decode prog_12_method_16_code 53 = .ok (.iconst 1, 1) := by decide +kernel
theorem d_Md_nest_54 : decode prog_12_method_16_code 54 = .ok (.iadd, 1) := by decide +kernel
theorem d_Md_nest_55 : decode prog_12_method_16_code 55 = .ok (.putfield 194, 3) := by decide +kernel
theorem d_Md_nest_58 : decode prog_12_method_16_code 58 = .ok (.aload_n 0, 1) := by decide +kernel
theorem d_Md_nest_59 : decode prog_12_method_16_code 59 = .ok (.dup, 1) := by decide +kernel
theorem d_Md_nest_60 : decode prog_12_method_16_code 60 = .ok (.getfield 167, 3) := by decide +kernel
theorem d_Md_nest_63 : decode prog_12_method_16_code 63 = .ok (.iconst 1, 1) := by decide +kernel
theorem d_Md_nest_64 : decode prog_12_method_16_code 64 = .ok (.iadd, 1) := by decide +kernel
theorem d_Md_nest_65 : decode prog_12_method_16_code 65 = .ok (.putfield 167, 3) := by decide +kernel
theorem d_Md_nest_68 : decode prog_12_method_16_code 68 = .ok (.return_, 1) := by decide +kernel
