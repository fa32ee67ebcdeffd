theorem d_Lw_law_212 : decode code 212 = .ok (.i2l, 1) := by decide +kernel
theorem d_Lw_law_213 : decode code 213 = .ok (.ldc2_w 50, 3) := by decide +kernel
theorem d_Lw_law_216 : decode code 216 = .ok (.land, 1) := by decide +kernel
theorem d_Lw_law_217 : decode code 217 = .ok (.lor, 1) := by decide +kernel
theorem d_Lw_law_218 : decode code 218 = .ok (.aload_n 3, 1) := by decide +kernel
theorem d_Lw_law_219 : decode code 219 = .ok (.invokestatic 52, 3) := by decide +kernel
theorem d_Lw_law_222 : decode code 222 = .ok (.istore 5, 2) := by decide +kernel
theorem d_Lw_law_224 : decode code 224 = .ok (.aload_n 2, 1) := by decide +kernel
theorem d_Lw_law_225 : decode code 225 = .ok (.aload_n 0, 1) := by decide +kernel
theorem d_Lw_law_226 : decode code 226 = .ok (.iload 4, 2) := by decide +kernel
theorem d_Lw_law_228 : decode code 228 = .ok (.iconst 1, 1) := by decide +kernel
theorem d_Lw_law_229 : decode code 229 = .ok (.iadd, 1) := by decide +kernel
theorem d_Lw_law_230 : decode code 230 = .ok (.iaload, 1) := by decide +kernel
theorem d_Lw_law_231 : decode code 231 = .ok (.aload_n 0, 1) := by decide +kernel
theorem d_Lw_law_232 : decode code 232 = .ok (.iload 4, 2) := by decide +kernel
theorem d_Lw_law_234 : decode code 234 = .ok (.iconst 2, 1) := by decide +kernel
theorem d_Lw_law_235 : decode code 235 = .ok (.iadd, 1) := by decide +kernel
theorem d_Lw_law_236 : decode code 236 = .ok (.iaload, 1) := by decide +kernel
theorem d_Lw_law_237 : decode code 237 = .ok (.aload_n 0, 1) := by decide +kernel
theorem d_Lw_law_238 : decode code 238 = .ok (.iload 4, 2) := by decide +kernel
theorem d_Lw_law_240 : decode code 240 = .ok (.iconst 3, 1) := by decide +kernel
theorem d_Lw_law_241 : decode code 241 = .ok (.iadd, 1) := by decide +kernel
theorem d_Lw_law_242 : decode code 242 = .ok (.iaload, 1) := by decide +kernel
theorem d_Lw_law_243 : decode code 243 = .ok (.i2l, 1) := by decide +kernel
theorem d_Lw_law_244 : decode code 244 = .ok (.bipush 32, 2) := by decide +kernel
theorem d_Lw_law_246 : decode code 246 = .ok (.lshl, 1) := by decide +kernel
theorem d_Lw_law_247 : decode code 247 = .ok (.aload_n 0, 1) := by decide +kernel
theorem d_Lw_law_248 : decode code 248 = .ok (.iload 4, 2) := by decide +kernel
theorem d_Lw_law_250 : decode code 250 = .ok (.iconst 4, 1) := by decide +kernel
theorem d_Lw_law_251 : decode code 251 = .ok (.iadd, 1) := by decide +kernel
theorem d_Lw_law_252 : decode code 252 = .ok (.iaload, 1) := by decide +kernel
theorem d_Lw_law_253 : decode code 253 = .ok (.i2l, 1) := by decide +kernel
theorem d_Lw_law_254 : decode code 254 = .ok (.ldc2_w 50, 3) := by decide +kernel
theorem d_Lw_law_257 : decode code 257 = .ok (.land, 1) := by decide +kernel
theorem d_Lw_law_258 : decode code 258 = .ok (.lor, 1) := by decide +kernel
theorem d_Lw_law_259 : decode code 259 = .ok (.invokevirtual 57, 3) := by decide +kernel
theorem d_Lw_law_262 : decode code 262 = .ok (.istore 6, 2) := by decide +kernel
theorem d_Lw_law_264 : decode code 264 = .ok (.aload_n 2, 1) := by decide +kernel
theorem d_Lw_law_265 : decode code 265 = .ok (.invokevirtual 58, 3) := by decide +kernel
theorem d_Lw_law_268 : decode code 268 = .ok (.iload 5, 2) := by decide +kernel
theorem d_Lw_law_270 : decode code 270 = .ok (.if_icmp .eq 5, 3) := by decide +kernel
theorem d_Lw_law_273 : decode code 273 = .ok (.iconst 0, 1) := by decide +kernel
theorem d_Lw_law_274 : decode code 274 = .ok (.ireturn, 1) := by decide +kernel
theorem d_Lw_law_275 : decode code 275 = .ok (.iload 5, 2) := by decide +kernel
theorem d_Lw_law_277 : decode code 277 = .ok (.ifCond .ne 22, 3) := by decide +kernel
theorem d_Lw_law_280 : decode code 280 = .ok (.aload_n 3, 1) := by decide +kernel
theorem d_Lw_law_281 : decode code 281 = .ok (.iconst 0, 1) := by decide +kernel
theorem d_Lw_law_282 : decode code 282 = .ok (.laload, 1) := by decide +kernel
theorem d_Lw_law_283 : decode code 283 = .ok (.iload 6, 2) := by decide +kernel
theorem d_Lw_law_285 : decode code 285 = .ok (.ifCond .eq 7, 3) := by decide +kernel
theorem d_Lw_law_288 : decode code 288 = .ok (.lconst 1, 1) := by decide +kernel
theorem d_Lw_law_289 : decode code 289 = .ok (.goto 4, 3) := by decide +kernel
theorem d_Lw_law_292 : decode code 292 = .ok (.lconst 0, 1) := by decide +kernel
theorem d_Lw_law_293 : decode code 293 = .ok (.lcmp, 1) := by decide +kernel
theorem d_Lw_law_294 : decode code 294 = .ok (.ifCond .eq 5, 3) := by decide +kernel
theorem d_Lw_law_297 : decode code 297 = .ok (.iconst 0, 1) := by decide +kernel
theorem d_Lw_law_298 : decode code 298 = .ok (.ireturn, 1) := by decide +kernel
theorem d_Lw_law_299 : decode code 299 = .ok (.goto 446, 3) := by decide +kernel
theorem d_Lw_law_302 : decode code 302 = .ok (.aload_n 1, 1) := by decide +kernel
theorem d_Lw_law_303 : decode code 303 = .ok (.aload_n 0, 1) := by decide +kernel
theorem d_Lw_law_304 : decode code 304 = .ok (.iload 4, 2) := by decide +kernel
theorem d_Lw_law_306 : decode code 306 = .ok (.iconst 1, 1) := by decide +kernel
theorem d_Lw_law_307 : decode code 307 = .ok (.iadd, 1) := by decide +kernel
theorem d_Lw_law_308 : decode code 308 = .ok (.iaload, 1) := by decide +kernel
theorem d_Lw_law_309 : decode code 309 = .ok (.i2l, 1) := by decide +kernel
theorem d_Lw_law_310 : decode code 310 = .ok (.bipush 32, 2) := by decide +kernel
theorem d_Lw_law_312 : decode code 312 = .ok (.lshl, 1) := by decide +kernel
theorem d_Lw_law_313 : decode code 313 = .ok (.aload_n 0, 1) := by decide +kernel
theorem d_Lw_law_314 : decode code 314 = .ok (.iload 4, 2) := by decide +kernel
theorem d_Lw_law_316 : decode code 316 = .ok (.iconst 2, 1) := by decide +kernel
theorem d_Lw_law_317 : decode code 317 = .ok (.iadd, 1) := by decide +kernel
theorem d_Lw_law_318 : decode code 318 = .ok (.iaload, 1) := by decide +kernel
theorem d_Lw_law_319 : decode code 319 = .ok (.i2l, 1) := by decide +kernel
theorem d_Lw_law_320 : decode code 320 = .ok (.ldc2_w 50, 3) := by decide +kernel
theorem d_Lw_law_323 : decode code 323 = .ok (.land, 1) := by decide +kernel
theorem d_Lw_law_324 : decode code 324 = .ok (.lor, 1) := by decide +kernel
theorem d_Lw_law_325 : decode code 325 = .ok (.aload_n 3, 1) := by decide +kernel
theorem d_Lw_law_326 : decode code 326 = .ok (.invokestatic 61, 3) := by decide +kernel
theorem d_Lw_law_329 : decode code 329 = .ok (.istore 5, 2) := by decide +kernel
theorem d_Lw_law_331 : decode code 331 = .ok (.aload_n 2, 1) := by decide +kernel
theorem d_Lw_law_332 : decode code 332 = .ok (.aload_n 0, 1) := by decide +kernel
theorem d_Lw_law_333 : decode code 333 = .ok (.iload 4, 2) := by decide +kernel
theorem d_Lw_law_335 : decode code 335 = .ok (.iconst 1, 1) := by decide +kernel
theorem d_Lw_law_336 : decode code 336 = .ok (.iadd, 1) := by decide +kernel
theorem d_Lw_law_337 : decode code 337 = .ok (.iaload, 1) := by decide +kernel
theorem d_Lw_law_338 : decode code 338 = .ok (.i2l, 1) := by decide +kernel
theorem d_Lw_law_339 : decode code 339 = .ok (.bipush 32, 2) := by decide +kernel
theorem d_Lw_law_341 : decode code 341 = .ok (.lshl, 1) := by decide +kernel
theorem d_Lw_law_342 : decode code 342 = .ok (.aload_n 0, 1) := by decide +kernel
theorem d_Lw_law_343 : decode code 343 = .ok (.iload 4, 2) := by decide +kernel
