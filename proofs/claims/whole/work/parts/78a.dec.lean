theorem d_Lw_law_0 : decode code 0 = .ok (.new 8, 3) := by decide +kernel
theorem d_Lw_law_3 : decode code 3 = .ok (.dup, 1) := by decide +kernel
theorem d_Lw_law_4 : decode code 4 = .ok (.invokespecial 32, 3) := by decide +kernel
theorem d_Lw_law_7 : decode code 7 = .ok (.astore_n 1, 1) := by decide +kernel
theorem d_Lw_law_8 : decode code 8 = .ok (.new 33, 3) := by decide +kernel
theorem d_Lw_law_11 : decode code 11 = .ok (.dup, 1) := by decide +kernel
theorem d_Lw_law_12 : decode code 12 = .ok (.invokespecial 35, 3) := by decide +kernel
theorem d_Lw_law_15 : decode code 15 = .ok (.astore_n 2, 1) := by decide +kernel
theorem d_Lw_law_16 : decode code 16 = .ok (.iconst 1, 1) := by decide +kernel
theorem d_Lw_law_17 : decode code 17 = .ok (.newarray .long, 2) := by decide +kernel
theorem d_Lw_law_19 : decode code 19 = .ok (.astore_n 3, 1) := by decide +kernel
theorem d_Lw_law_20 : decode code 20 = .ok (.iconst 0, 1) := by decide +kernel
theorem d_Lw_law_21 : decode code 21 = .ok (.istore 4, 2) := by decide +kernel
theorem d_Lw_law_23 : decode code 23 = .ok (.iload 4, 2) := by decide +kernel
theorem d_Lw_law_25 : decode code 25 = .ok (.aload_n 0, 1) := by decide +kernel
theorem d_Lw_law_26 : decode code 26 = .ok (.arraylength, 1) := by decide +kernel
theorem d_Lw_law_27 : decode code 27 = .ok (.iconst 5, 1) := by decide +kernel
theorem d_Lw_law_28 : decode code 28 = .ok (.isub, 1) := by decide +kernel
theorem d_Lw_law_29 : decode code 29 = .ok (.if_icmp .gt 722, 3) := by decide +kernel
theorem d_Lw_law_32 : decode code 32 = .ok (.aload_n 0, 1) := by decide +kernel
theorem d_Lw_law_33 : decode code 33 = .ok (.iload 4, 2) := by decide +kernel
theorem d_Lw_law_35 : decode code 35 = .ok (.iaload, 1) := by decide +kernel
theorem d_Lw_law_36 : decode code 36 = .ok (.bipush 31, 2) := by decide +kernel
theorem d_Lw_law_38 : decode code 38 = .ok (.iand, 1) := by decide +kernel
theorem d_Lw_law_39 : decode code 39 = .ok (.tableswitch 706 0 16 #[81, 106, 119, 144, 263, 351, 418, 443, 499, 555, 580, 593, 618, 632, 657, 682, 695], 81) := by decide +kernel
theorem d_Lw_law_120 : decode code 120 = .ok (.aload_n 1, 1) := by decide +kernel
theorem d_Lw_law_121 : decode code 121 = .ok (.aload_n 0, 1) := by decide +kernel
theorem d_Lw_law_122 : decode code 122 = .ok (.iload 4, 2) := by decide +kernel
theorem d_Lw_law_124 : decode code 124 = .ok (.iconst 1, 1) := by decide +kernel
theorem d_Lw_law_125 : decode code 125 = .ok (.iadd, 1) := by decide +kernel
theorem d_Lw_law_126 : decode code 126 = .ok (.iaload, 1) := by decide +kernel
theorem d_Lw_law_127 : decode code 127 = .ok (.invokevirtual 36, 3) := by decide +kernel
theorem d_Lw_law_130 : decode code 130 = .ok (.aload_n 2, 1) := by decide +kernel
theorem d_Lw_law_131 : decode code 131 = .ok (.aload_n 0, 1) := by decide +kernel
theorem d_Lw_law_132 : decode code 132 = .ok (.iload 4, 2) := by decide +kernel
theorem d_Lw_law_134 : decode code 134 = .ok (.iconst 1, 1) := by decide +kernel
theorem d_Lw_law_135 : decode code 135 = .ok (.iadd, 1) := by decide +kernel
theorem d_Lw_law_136 : decode code 136 = .ok (.iaload, 1) := by decide +kernel
theorem d_Lw_law_137 : decode code 137 = .ok (.invokevirtual 40, 3) := by decide +kernel
theorem d_Lw_law_140 : decode code 140 = .ok (.if_icmp .eq 605, 3) := by decide +kernel
theorem d_Lw_law_143 : decode code 143 = .ok (.iconst 0, 1) := by decide +kernel
theorem d_Lw_law_144 : decode code 144 = .ok (.ireturn, 1) := by decide +kernel
theorem d_Lw_law_145 : decode code 145 = .ok (.aload_n 1, 1) := by decide +kernel
theorem d_Lw_law_146 : decode code 146 = .ok (.invokevirtual 41, 3) := by decide +kernel
theorem d_Lw_law_149 : decode code 149 = .ok (.aload_n 2, 1) := by decide +kernel
theorem d_Lw_law_150 : decode code 150 = .ok (.invokevirtual 45, 3) := by decide +kernel
theorem d_Lw_law_153 : decode code 153 = .ok (.if_icmp .eq 592, 3) := by decide +kernel
theorem d_Lw_law_156 : decode code 156 = .ok (.iconst 0, 1) := by decide +kernel
theorem d_Lw_law_157 : decode code 157 = .ok (.ireturn, 1) := by decide +kernel
theorem d_Lw_law_158 : decode code 158 = .ok (.aload_n 1, 1) := by decide +kernel
theorem d_Lw_law_159 : decode code 159 = .ok (.aload_n 0, 1) := by decide +kernel
theorem d_Lw_law_160 : decode code 160 = .ok (.iload 4, 2) := by decide +kernel
theorem d_Lw_law_162 : decode code 162 = .ok (.iconst 1, 1) := by decide +kernel
theorem d_Lw_law_163 : decode code 163 = .ok (.iadd, 1) := by decide +kernel
theorem d_Lw_law_164 : decode code 164 = .ok (.iaload, 1) := by decide +kernel
theorem d_Lw_law_165 : decode code 165 = .ok (.invokevirtual 46, 3) := by decide +kernel
theorem d_Lw_law_168 : decode code 168 = .ok (.aload_n 2, 1) := by decide +kernel
theorem d_Lw_law_169 : decode code 169 = .ok (.aload_n 0, 1) := by decide +kernel
theorem d_Lw_law_170 : decode code 170 = .ok (.iload 4, 2) := by decide +kernel
theorem d_Lw_law_172 : decode code 172 = .ok (.iconst 1, 1) := by decide +kernel
theorem d_Lw_law_173 : decode code 173 = .ok (.iadd, 1) := by decide +kernel
theorem d_Lw_law_174 : decode code 174 = .ok (.iaload, 1) := by decide +kernel
theorem d_Lw_law_175 : decode code 175 = .ok (.invokevirtual 49, 3) := by decide +kernel
theorem d_Lw_law_178 : decode code 178 = .ok (.if_icmp .eq 567, 3) := by decide +kernel
theorem d_Lw_law_181 : decode code 181 = .ok (.iconst 0, 1) := by decide +kernel
theorem d_Lw_law_182 : decode code 182 = .ok (.ireturn, 1) := by decide +kernel
theorem d_Lw_law_183 : decode code 183 = .ok (.aload_n 1, 1) := by decide +kernel
theorem d_Lw_law_184 : decode code 184 = .ok (.aload_n 0, 1) := by decide +kernel
theorem d_Lw_law_185 : decode code 185 = .ok (.iload 4, 2) := by decide +kernel
theorem d_Lw_law_187 : decode code 187 = .ok (.iconst 1, 1) := by decide +kernel
theorem d_Lw_law_188 : decode code 188 = .ok (.iadd, 1) := by decide +kernel
theorem d_Lw_law_189 : decode code 189 = .ok (.iaload, 1) := by decide +kernel
theorem d_Lw_law_190 : decode code 190 = .ok (.aload_n 0, 1) := by decide +kernel
theorem d_Lw_law_191 : decode code 191 = .ok (.iload 4, 2) := by decide +kernel
theorem d_Lw_law_193 : decode code 193 = .ok (.iconst 2, 1) := by decide +kernel
theorem d_Lw_law_194 : decode code 194 = .ok (.iadd, 1) := by decide +kernel
theorem d_Lw_law_195 : decode code 195 = .ok (.iaload, 1) := by decide +kernel
theorem d_Lw_law_196 : decode code 196 = .ok (.aload_n 0, 1) := by decide +kernel
theorem d_Lw_law_197 : decode code 197 = .ok (.iload 4, 2) := by decide +kernel
theorem d_Lw_law_199 : decode code 199 = .ok (.iconst 3, 1) := by decide +kernel
theorem d_Lw_law_200 : decode code 200 = .ok (.iadd, 1) := by decide +kernel
theorem d_Lw_law_201 : decode code 201 = .ok (.iaload, 1) := by decide +kernel
theorem d_Lw_law_202 : decode code 202 = .ok (.i2l, 1) := by decide +kernel
theorem d_Lw_law_203 : decode code 203 = .ok (.bipush 32, 2) := by decide +kernel
theorem d_Lw_law_205 : decode code 205 = .ok (.lshl, 1) := by decide +kernel
theorem d_Lw_law_206 : decode code 206 = .ok (.aload_n 0, 1) := by decide +kernel
theorem d_Lw_law_207 : decode code 207 = .ok (.iload 4, 2) := by decide +kernel
theorem d_Lw_law_209 : decode code 209 = .ok (.iconst 4, 1) := by decide +kernel
theorem d_Lw_law_210 : decode code 210 = .ok (.iadd, 1) := by decide +kernel
theorem d_Lw_law_211 : decode code 211 = .ok (.iaload, 1) := by decide +kernel
