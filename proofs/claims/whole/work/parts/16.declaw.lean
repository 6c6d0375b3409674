/-! the law's own decode rows (written by a program) -/
abbrev cXL_law : ByteArray := code
theorem dXL_law_0 : decode cXL_law 0 = .ok (.new 8, 3) := by decide +kernel
theorem dXL_law_3 : decode cXL_law 3 = .ok (.dup, 1) := by decide +kernel
theorem dXL_law_4 : decode cXL_law 4 = .ok (.invokespecial 50, 3) := by decide +kernel
theorem dXL_law_7 : decode cXL_law 7 = .ok (.astore_n 1, 1) := by decide +kernel
theorem dXL_law_8 : decode cXL_law 8 = .ok (.new 51, 3) := by decide +kernel
theorem dXL_law_11 : decode cXL_law 11 = .ok (.dup, 1) := by decide +kernel
theorem dXL_law_12 : decode cXL_law 12 = .ok (.invokespecial 53, 3) := by decide +kernel
theorem dXL_law_15 : decode cXL_law 15 = .ok (.astore_n 2, 1) := by decide +kernel
theorem dXL_law_16 : decode cXL_law 16 = .ok (.iconst 1, 1) := by decide +kernel
theorem dXL_law_17 : decode cXL_law 17 = .ok (.newarray .long, 2) := by decide +kernel
theorem dXL_law_19 : decode cXL_law 19 = .ok (.astore_n 3, 1) := by decide +kernel
theorem dXL_law_20 : decode cXL_law 20 = .ok (.iconst 0, 1) := by decide +kernel
theorem dXL_law_21 : decode cXL_law 21 = .ok (.istore 4, 2) := by decide +kernel
theorem dXL_law_23 : decode cXL_law 23 = .ok (.iload 4, 2) := by decide +kernel
theorem dXL_law_25 : decode cXL_law 25 = .ok (.aload_n 0, 1) := by decide +kernel
theorem dXL_law_26 : decode cXL_law 26 = .ok (.arraylength, 1) := by decide +kernel
theorem dXL_law_27 : decode cXL_law 27 = .ok (.iconst 5, 1) := by decide +kernel
theorem dXL_law_28 : decode cXL_law 28 = .ok (.isub, 1) := by decide +kernel
theorem dXL_law_29 : decode cXL_law 29 = .ok (.if_icmp .gt 567, 3) := by decide +kernel
theorem dXL_law_32 : decode cXL_law 32 = .ok (.aload_n 0, 1) := by decide +kernel
theorem dXL_law_33 : decode cXL_law 33 = .ok (.iload 4, 2) := by decide +kernel
theorem dXL_law_35 : decode cXL_law 35 = .ok (.iaload, 1) := by decide +kernel
theorem dXL_law_36 : decode cXL_law 36 = .ok (.bipush 15, 2) := by decide +kernel
theorem dXL_law_38 : decode cXL_law 38 = .ok (.iand, 1) := by decide +kernel
theorem dXL_law_39 : decode cXL_law 39 = .ok (.tableswitch 551 0 8 #[49, 160, 227, 263, 307, 351, 427, 451, 507], 49) := by decide +kernel
theorem dXL_law_88 : decode cXL_law 88 = .ok (.aload_n 1, 1) := by decide +kernel
theorem dXL_law_89 : decode cXL_law 89 = .ok (.aload_n 0, 1) := by decide +kernel
theorem dXL_law_90 : decode cXL_law 90 = .ok (.iload 4, 2) := by decide +kernel
theorem dXL_law_92 : decode cXL_law 92 = .ok (.iconst 1, 1) := by decide +kernel
theorem dXL_law_93 : decode cXL_law 93 = .ok (.iadd, 1) := by decide +kernel
theorem dXL_law_94 : decode cXL_law 94 = .ok (.iaload, 1) := by decide +kernel
theorem dXL_law_95 : decode cXL_law 95 = .ok (.aload_n 0, 1) := by decide +kernel
theorem dXL_law_96 : decode cXL_law 96 = .ok (.iload 4, 2) := by decide +kernel
theorem dXL_law_98 : decode cXL_law 98 = .ok (.iconst 2, 1) := by decide +kernel
theorem dXL_law_99 : decode cXL_law 99 = .ok (.iadd, 1) := by decide +kernel
theorem dXL_law_100 : decode cXL_law 100 = .ok (.iaload, 1) := by decide +kernel
theorem dXL_law_101 : decode cXL_law 101 = .ok (.aload_n 0, 1) := by decide +kernel
theorem dXL_law_102 : decode cXL_law 102 = .ok (.iload 4, 2) := by decide +kernel
theorem dXL_law_104 : decode cXL_law 104 = .ok (.iconst 3, 1) := by decide +kernel
theorem dXL_law_105 : decode cXL_law 105 = .ok (.iadd, 1) := by decide +kernel
theorem dXL_law_106 : decode cXL_law 106 = .ok (.iaload, 1) := by decide +kernel
theorem dXL_law_107 : decode cXL_law 107 = .ok (.i2l, 1) := by decide +kernel
theorem dXL_law_108 : decode cXL_law 108 = .ok (.bipush 32, 2) := by decide +kernel
theorem dXL_law_110 : decode cXL_law 110 = .ok (.lshl, 1) := by decide +kernel
theorem dXL_law_111 : decode cXL_law 111 = .ok (.aload_n 0, 1) := by decide +kernel
theorem dXL_law_112 : decode cXL_law 112 = .ok (.iload 4, 2) := by decide +kernel
theorem dXL_law_114 : decode cXL_law 114 = .ok (.iconst 4, 1) := by decide +kernel
theorem dXL_law_115 : decode cXL_law 115 = .ok (.iadd, 1) := by decide +kernel
theorem dXL_law_116 : decode cXL_law 116 = .ok (.iaload, 1) := by decide +kernel
theorem dXL_law_117 : decode cXL_law 117 = .ok (.i2l, 1) := by decide +kernel
theorem dXL_law_118 : decode cXL_law 118 = .ok (.ldc2_w 54, 3) := by decide +kernel
theorem dXL_law_121 : decode cXL_law 121 = .ok (.land, 1) := by decide +kernel
theorem dXL_law_122 : decode cXL_law 122 = .ok (.lor, 1) := by decide +kernel
theorem dXL_law_123 : decode cXL_law 123 = .ok (.aload_n 3, 1) := by decide +kernel
theorem dXL_law_124 : decode cXL_law 124 = .ok (.invokestatic 56, 3) := by decide +kernel
theorem dXL_law_127 : decode cXL_law 127 = .ok (.istore 5, 2) := by decide +kernel
theorem dXL_law_129 : decode cXL_law 129 = .ok (.aload_n 2, 1) := by decide +kernel
theorem dXL_law_130 : decode cXL_law 130 = .ok (.aload_n 0, 1) := by decide +kernel
theorem dXL_law_131 : decode cXL_law 131 = .ok (.iload 4, 2) := by decide +kernel
theorem dXL_law_133 : decode cXL_law 133 = .ok (.iconst 1, 1) := by decide +kernel
theorem dXL_law_134 : decode cXL_law 134 = .ok (.iadd, 1) := by decide +kernel
theorem dXL_law_135 : decode cXL_law 135 = .ok (.iaload, 1) := by decide +kernel
theorem dXL_law_136 : decode cXL_law 136 = .ok (.aload_n 0, 1) := by decide +kernel
theorem dXL_law_137 : decode cXL_law 137 = .ok (.iload 4, 2) := by decide +kernel
theorem dXL_law_139 : decode cXL_law 139 = .ok (.iconst 2, 1) := by decide +kernel
theorem dXL_law_140 : decode cXL_law 140 = .ok (.iadd, 1) := by decide +kernel
theorem dXL_law_141 : decode cXL_law 141 = .ok (.iaload, 1) := by decide +kernel
theorem dXL_law_142 : decode cXL_law 142 = .ok (.aload_n 0, 1) := by decide +kernel
theorem dXL_law_143 : decode cXL_law 143 = .ok (.iload 4, 2) := by decide +kernel
theorem dXL_law_145 : decode cXL_law 145 = .ok (.iconst 3, 1) := by decide +kernel
theorem dXL_law_146 : decode cXL_law 146 = .ok (.iadd, 1) := by decide +kernel
theorem dXL_law_147 : decode cXL_law 147 = .ok (.iaload, 1) := by decide +kernel
theorem dXL_law_148 : decode cXL_law 148 = .ok (.i2l, 1) := by decide +kernel
theorem dXL_law_149 : decode cXL_law 149 = .ok (.bipush 32, 2) := by decide +kernel
theorem dXL_law_151 : decode cXL_law 151 = .ok (.lshl, 1) := by decide +kernel
theorem dXL_law_152 : decode cXL_law 152 = .ok (.aload_n 0, 1) := by decide +kernel
theorem dXL_law_153 : decode cXL_law 153 = .ok (.iload 4, 2) := by decide +kernel
theorem dXL_law_155 : decode cXL_law 155 = .ok (.iconst 4, 1) := by decide +kernel
theorem dXL_law_156 : decode cXL_law 156 = .ok (.iadd, 1) := by decide +kernel
theorem dXL_law_157 : decode cXL_law 157 = .ok (.iaload, 1) := by decide +kernel
theorem dXL_law_158 : decode cXL_law 158 = .ok (.i2l, 1) := by decide +kernel
theorem dXL_law_159 : decode cXL_law 159 = .ok (.ldc2_w 54, 3) := by decide +kernel
theorem dXL_law_162 : decode cXL_law 162 = .ok (.land, 1) := by decide +kernel
theorem dXL_law_163 : decode cXL_law 163 = .ok (.lor, 1) := by decide +kernel
theorem dXL_law_164 : decode cXL_law 164 = .ok (.invokevirtual 61, 3) := by decide +kernel
theorem dXL_law_167 : decode cXL_law 167 = .ok (.lstore 6, 2) := by decide +kernel
theorem dXL_law_169 : decode cXL_law 169 = .ok (.aload_n 2, 1) := by decide +kernel
theorem dXL_law_170 : decode cXL_law 170 = .ok (.invokevirtual 62, 3) := by decide +kernel
theorem dXL_law_173 : decode cXL_law 173 = .ok (.iload 5, 2) := by decide +kernel
theorem dXL_law_175 : decode cXL_law 175 = .ok (.if_icmp .eq 5, 3) := by decide +kernel
theorem dXL_law_178 : decode cXL_law 178 = .ok (.iconst 0, 1) := by decide +kernel
theorem dXL_law_179 : decode cXL_law 179 = .ok (.ireturn, 1) := by decide +kernel
theorem dXL_law_180 : decode cXL_law 180 = .ok (.iload 5, 2) := by decide +kernel
theorem dXL_law_182 : decode cXL_law 182 = .ok (.ifCond .ne 14, 3) := by decide +kernel
theorem dXL_law_185 : decode cXL_law 185 = .ok (.aload_n 3, 1) := by decide +kernel
theorem dXL_law_186 : decode cXL_law 186 = .ok (.iconst 0, 1) := by decide +kernel
theorem dXL_law_187 : decode cXL_law 187 = .ok (.laload, 1) := by decide +kernel
theorem dXL_law_188 : decode cXL_law 188 = .ok (.lload 6, 2) := by decide +kernel
theorem dXL_law_190 : decode cXL_law 190 = .ok (.lcmp, 1) := by decide +kernel
theorem dXL_law_191 : decode cXL_law 191 = .ok (.ifCond .eq 5, 3) := by decide +kernel
theorem dXL_law_194 : decode cXL_law 194 = .ok (.iconst 0, 1) := by decide +kernel
theorem dXL_law_195 : decode cXL_law 195 = .ok (.ireturn, 1) := by decide +kernel
theorem dXL_law_196 : decode cXL_law 196 = .ok (.goto 394, 3) := by decide +kernel
theorem dXL_law_199 : decode cXL_law 199 = .ok (.aload_n 1, 1) := by decide +kernel
theorem dXL_law_200 : decode cXL_law 200 = .ok (.aload_n 0, 1) := by decide +kernel
theorem dXL_law_201 : decode cXL_law 201 = .ok (.iload 4, 2) := by decide +kernel
theorem dXL_law_203 : decode cXL_law 203 = .ok (.iconst 1, 1) := by decide +kernel
theorem dXL_law_204 : decode cXL_law 204 = .ok (.iadd, 1) := by decide +kernel
theorem dXL_law_205 : decode cXL_law 205 = .ok (.iaload, 1) := by decide +kernel
theorem dXL_law_206 : decode cXL_law 206 = .ok (.aload_n 0, 1) := by decide +kernel
theorem dXL_law_207 : decode cXL_law 207 = .ok (.iload 4, 2) := by decide +kernel
theorem dXL_law_209 : decode cXL_law 209 = .ok (.iconst 2, 1) := by decide +kernel
theorem dXL_law_210 : decode cXL_law 210 = .ok (.iadd, 1) := by decide +kernel
theorem dXL_law_211 : decode cXL_law 211 = .ok (.iaload, 1) := by decide +kernel
theorem dXL_law_212 : decode cXL_law 212 = .ok (.aload_n 3, 1) := by decide +kernel
theorem dXL_law_213 : decode cXL_law 213 = .ok (.invokestatic 65, 3) := by decide +kernel
theorem dXL_law_216 : decode cXL_law 216 = .ok (.istore 5, 2) := by decide +kernel
theorem dXL_law_218 : decode cXL_law 218 = .ok (.aload_n 2, 1) := by decide +kernel
theorem dXL_law_219 : decode cXL_law 219 = .ok (.aload_n 0, 1) := by decide +kernel
theorem dXL_law_220 : decode cXL_law 220 = .ok (.iload 4, 2) := by decide +kernel
theorem dXL_law_222 : decode cXL_law 222 = .ok (.iconst 1, 1) := by decide +kernel
theorem dXL_law_223 : decode cXL_law 223 = .ok (.iadd, 1) := by decide +kernel
theorem dXL_law_224 : decode cXL_law 224 = .ok (.iaload, 1) := by decide +kernel
theorem dXL_law_225 : decode cXL_law 225 = .ok (.aload_n 0, 1) := by decide +kernel
theorem dXL_law_226 : decode cXL_law 226 = .ok (.iload 4, 2) := by decide +kernel
theorem dXL_law_228 : decode cXL_law 228 = .ok (.iconst 2, 1) := by decide +kernel
theorem dXL_law_229 : decode cXL_law 229 = .ok (.iadd, 1) := by decide +kernel
theorem dXL_law_230 : decode cXL_law 230 = .ok (.iaload, 1) := by decide +kernel
theorem dXL_law_231 : decode cXL_law 231 = .ok (.invokevirtual 68, 3) := by decide +kernel
theorem dXL_law_234 : decode cXL_law 234 = .ok (.lstore 6, 2) := by decide +kernel
theorem dXL_law_236 : decode cXL_law 236 = .ok (.aload_n 2, 1) := by decide +kernel
theorem dXL_law_237 : decode cXL_law 237 = .ok (.invokevirtual 62, 3) := by decide +kernel
theorem dXL_law_240 : decode cXL_law 240 = .ok (.iload 5, 2) := by decide +kernel
theorem dXL_law_242 : decode cXL_law 242 = .ok (.if_icmp .eq 5, 3) := by decide +kernel
theorem dXL_law_245 : decode cXL_law 245 = .ok (.iconst 0, 1) := by decide +kernel
theorem dXL_law_246 : decode cXL_law 246 = .ok (.ireturn, 1) := by decide +kernel
theorem dXL_law_247 : decode cXL_law 247 = .ok (.iload 5, 2) := by decide +kernel
theorem dXL_law_249 : decode cXL_law 249 = .ok (.ifCond .ne 14, 3) := by decide +kernel
theorem dXL_law_252 : decode cXL_law 252 = .ok (.aload_n 3, 1) := by decide +kernel
theorem dXL_law_253 : decode cXL_law 253 = .ok (.iconst 0, 1) := by decide +kernel
theorem dXL_law_254 : decode cXL_law 254 = .ok (.laload, 1) := by decide +kernel
theorem dXL_law_255 : decode cXL_law 255 = .ok (.lload 6, 2) := by decide +kernel
theorem dXL_law_257 : decode cXL_law 257 = .ok (.lcmp, 1) := by decide +kernel
theorem dXL_law_258 : decode cXL_law 258 = .ok (.ifCond .eq 5, 3) := by decide +kernel
theorem dXL_law_261 : decode cXL_law 261 = .ok (.iconst 0, 1) := by decide +kernel
theorem dXL_law_262 : decode cXL_law 262 = .ok (.ireturn, 1) := by decide +kernel
theorem dXL_law_263 : decode cXL_law 263 = .ok (.goto 327, 3) := by decide +kernel
theorem dXL_law_266 : decode cXL_law 266 = .ok (.aload_n 1, 1) := by decide +kernel
theorem dXL_law_267 : decode cXL_law 267 = .ok (.aload_n 0, 1) := by decide +kernel
theorem dXL_law_268 : decode cXL_law 268 = .ok (.iload 4, 2) := by decide +kernel
theorem dXL_law_270 : decode cXL_law 270 = .ok (.iconst 1, 1) := by decide +kernel
theorem dXL_law_271 : decode cXL_law 271 = .ok (.iadd, 1) := by decide +kernel
theorem dXL_law_272 : decode cXL_law 272 = .ok (.iaload, 1) := by decide +kernel
theorem dXL_law_273 : decode cXL_law 273 = .ok (.invokestatic 69, 3) := by decide +kernel
theorem dXL_law_276 : decode cXL_law 276 = .ok (.istore 5, 2) := by decide +kernel
theorem dXL_law_278 : decode cXL_law 278 = .ok (.aload_n 2, 1) := by decide +kernel
theorem dXL_law_279 : decode cXL_law 279 = .ok (.aload_n 0, 1) := by decide +kernel
theorem dXL_law_280 : decode cXL_law 280 = .ok (.iload 4, 2) := by decide +kernel
theorem dXL_law_282 : decode cXL_law 282 = .ok (.iconst 1, 1) := by decide +kernel
theorem dXL_law_283 : decode cXL_law 283 = .ok (.iadd, 1) := by decide +kernel
theorem dXL_law_284 : decode cXL_law 284 = .ok (.iaload, 1) := by decide +kernel
theorem dXL_law_285 : decode cXL_law 285 = .ok (.invokevirtual 72, 3) := by decide +kernel
theorem dXL_law_288 : decode cXL_law 288 = .ok (.aload_n 2, 1) := by decide +kernel
theorem dXL_law_289 : decode cXL_law 289 = .ok (.invokevirtual 62, 3) := by decide +kernel
theorem dXL_law_292 : decode cXL_law 292 = .ok (.iload 5, 2) := by decide +kernel
theorem dXL_law_294 : decode cXL_law 294 = .ok (.if_icmp .eq 5, 3) := by decide +kernel
theorem dXL_law_297 : decode cXL_law 297 = .ok (.iconst 0, 1) := by decide +kernel
theorem dXL_law_298 : decode cXL_law 298 = .ok (.ireturn, 1) := by decide +kernel
theorem dXL_law_299 : decode cXL_law 299 = .ok (.goto 291, 3) := by decide +kernel
theorem dXL_law_302 : decode cXL_law 302 = .ok (.aload_n 1, 1) := by decide +kernel
theorem dXL_law_303 : decode cXL_law 303 = .ok (.aload_n 3, 1) := by decide +kernel
theorem dXL_law_304 : decode cXL_law 304 = .ok (.invokestatic 73, 3) := by decide +kernel
theorem dXL_law_307 : decode cXL_law 307 = .ok (.istore 5, 2) := by decide +kernel
theorem dXL_law_309 : decode cXL_law 309 = .ok (.aload_n 2, 1) := by decide +kernel
theorem dXL_law_310 : decode cXL_law 310 = .ok (.invokevirtual 76, 3) := by decide +kernel
theorem dXL_law_313 : decode cXL_law 313 = .ok (.istore 6, 2) := by decide +kernel
theorem dXL_law_315 : decode cXL_law 315 = .ok (.aload_n 2, 1) := by decide +kernel
theorem dXL_law_316 : decode cXL_law 316 = .ok (.invokevirtual 62, 3) := by decide +kernel
theorem dXL_law_319 : decode cXL_law 319 = .ok (.iload 5, 2) := by decide +kernel
theorem dXL_law_321 : decode cXL_law 321 = .ok (.if_icmp .eq 5, 3) := by decide +kernel
theorem dXL_law_324 : decode cXL_law 324 = .ok (.iconst 0, 1) := by decide +kernel
theorem dXL_law_325 : decode cXL_law 325 = .ok (.ireturn, 1) := by decide +kernel
theorem dXL_law_326 : decode cXL_law 326 = .ok (.iload 5, 2) := by decide +kernel
theorem dXL_law_328 : decode cXL_law 328 = .ok (.ifCond .ne 15, 3) := by decide +kernel
theorem dXL_law_331 : decode cXL_law 331 = .ok (.aload_n 3, 1) := by decide +kernel
theorem dXL_law_332 : decode cXL_law 332 = .ok (.iconst 0, 1) := by decide +kernel
theorem dXL_law_333 : decode cXL_law 333 = .ok (.laload, 1) := by decide +kernel
theorem dXL_law_334 : decode cXL_law 334 = .ok (.iload 6, 2) := by decide +kernel
theorem dXL_law_336 : decode cXL_law 336 = .ok (.i2l, 1) := by decide +kernel
theorem dXL_law_337 : decode cXL_law 337 = .ok (.lcmp, 1) := by decide +kernel
theorem dXL_law_338 : decode cXL_law 338 = .ok (.ifCond .eq 5, 3) := by decide +kernel
theorem dXL_law_341 : decode cXL_law 341 = .ok (.iconst 0, 1) := by decide +kernel
theorem dXL_law_342 : decode cXL_law 342 = .ok (.ireturn, 1) := by decide +kernel
theorem dXL_law_343 : decode cXL_law 343 = .ok (.goto 247, 3) := by decide +kernel
theorem dXL_law_346 : decode cXL_law 346 = .ok (.aload_n 1, 1) := by decide +kernel
theorem dXL_law_347 : decode cXL_law 347 = .ok (.aload_n 3, 1) := by decide +kernel
theorem dXL_law_348 : decode cXL_law 348 = .ok (.invokestatic 77, 3) := by decide +kernel
theorem dXL_law_351 : decode cXL_law 351 = .ok (.istore 5, 2) := by decide +kernel
theorem dXL_law_353 : decode cXL_law 353 = .ok (.aload_n 2, 1) := by decide +kernel
theorem dXL_law_354 : decode cXL_law 354 = .ok (.invokevirtual 79, 3) := by decide +kernel
theorem dXL_law_357 : decode cXL_law 357 = .ok (.istore 6, 2) := by decide +kernel
theorem dXL_law_359 : decode cXL_law 359 = .ok (.aload_n 2, 1) := by decide +kernel
theorem dXL_law_360 : decode cXL_law 360 = .ok (.invokevirtual 62, 3) := by decide +kernel
theorem dXL_law_363 : decode cXL_law 363 = .ok (.iload 5, 2) := by decide +kernel
theorem dXL_law_365 : decode cXL_law 365 = .ok (.if_icmp .eq 5, 3) := by decide +kernel
theorem dXL_law_368 : decode cXL_law 368 = .ok (.iconst 0, 1) := by decide +kernel
theorem dXL_law_369 : decode cXL_law 369 = .ok (.ireturn, 1) := by decide +kernel
theorem dXL_law_370 : decode cXL_law 370 = .ok (.iload 5, 2) := by decide +kernel
theorem dXL_law_372 : decode cXL_law 372 = .ok (.ifCond .ne 15, 3) := by decide +kernel
theorem dXL_law_375 : decode cXL_law 375 = .ok (.aload_n 3, 1) := by decide +kernel
theorem dXL_law_376 : decode cXL_law 376 = .ok (.iconst 0, 1) := by decide +kernel
theorem dXL_law_377 : decode cXL_law 377 = .ok (.laload, 1) := by decide +kernel
theorem dXL_law_378 : decode cXL_law 378 = .ok (.iload 6, 2) := by decide +kernel
theorem dXL_law_380 : decode cXL_law 380 = .ok (.i2l, 1) := by decide +kernel
theorem dXL_law_381 : decode cXL_law 381 = .ok (.lcmp, 1) := by decide +kernel
theorem dXL_law_382 : decode cXL_law 382 = .ok (.ifCond .eq 5, 3) := by decide +kernel
theorem dXL_law_385 : decode cXL_law 385 = .ok (.iconst 0, 1) := by decide +kernel
theorem dXL_law_386 : decode cXL_law 386 = .ok (.ireturn, 1) := by decide +kernel
theorem dXL_law_387 : decode cXL_law 387 = .ok (.goto 203, 3) := by decide +kernel
theorem dXL_law_390 : decode cXL_law 390 = .ok (.aload_n 1, 1) := by decide +kernel
theorem dXL_law_391 : decode cXL_law 391 = .ok (.aload_n 0, 1) := by decide +kernel
theorem dXL_law_392 : decode cXL_law 392 = .ok (.iload 4, 2) := by decide +kernel
theorem dXL_law_394 : decode cXL_law 394 = .ok (.iconst 1, 1) := by decide +kernel
theorem dXL_law_395 : decode cXL_law 395 = .ok (.iadd, 1) := by decide +kernel
theorem dXL_law_396 : decode cXL_law 396 = .ok (.iaload, 1) := by decide +kernel
theorem dXL_law_397 : decode cXL_law 397 = .ok (.aload_n 0, 1) := by decide +kernel
theorem dXL_law_398 : decode cXL_law 398 = .ok (.iload 4, 2) := by decide +kernel
theorem dXL_law_400 : decode cXL_law 400 = .ok (.iconst 2, 1) := by decide +kernel
theorem dXL_law_401 : decode cXL_law 401 = .ok (.iadd, 1) := by decide +kernel
theorem dXL_law_402 : decode cXL_law 402 = .ok (.iaload, 1) := by decide +kernel
theorem dXL_law_403 : decode cXL_law 403 = .ok (.aload_n 0, 1) := by decide +kernel
theorem dXL_law_404 : decode cXL_law 404 = .ok (.iload 4, 2) := by decide +kernel
theorem dXL_law_406 : decode cXL_law 406 = .ok (.iconst 3, 1) := by decide +kernel
theorem dXL_law_407 : decode cXL_law 407 = .ok (.iadd, 1) := by decide +kernel
theorem dXL_law_408 : decode cXL_law 408 = .ok (.iaload, 1) := by decide +kernel
theorem dXL_law_409 : decode cXL_law 409 = .ok (.ifCond .eq 7, 3) := by decide +kernel
theorem dXL_law_412 : decode cXL_law 412 = .ok (.iconst 1, 1) := by decide +kernel
theorem dXL_law_413 : decode cXL_law 413 = .ok (.goto 4, 3) := by decide +kernel
theorem dXL_law_416 : decode cXL_law 416 = .ok (.iconst 0, 1) := by decide +kernel
theorem dXL_law_417 : decode cXL_law 417 = .ok (.invokestatic 80, 3) := by decide +kernel
theorem dXL_law_420 : decode cXL_law 420 = .ok (.istore 5, 2) := by decide +kernel
theorem dXL_law_422 : decode cXL_law 422 = .ok (.aload_n 2, 1) := by decide +kernel
theorem dXL_law_423 : decode cXL_law 423 = .ok (.aload_n 0, 1) := by decide +kernel
theorem dXL_law_424 : decode cXL_law 424 = .ok (.iload 4, 2) := by decide +kernel
theorem dXL_law_426 : decode cXL_law 426 = .ok (.iconst 1, 1) := by decide +kernel
theorem dXL_law_427 : decode cXL_law 427 = .ok (.iadd, 1) := by decide +kernel
theorem dXL_law_428 : decode cXL_law 428 = .ok (.iaload, 1) := by decide +kernel
theorem dXL_law_429 : decode cXL_law 429 = .ok (.aload_n 0, 1) := by decide +kernel
theorem dXL_law_430 : decode cXL_law 430 = .ok (.iload 4, 2) := by decide +kernel
theorem dXL_law_432 : decode cXL_law 432 = .ok (.iconst 2, 1) := by decide +kernel
theorem dXL_law_433 : decode cXL_law 433 = .ok (.iadd, 1) := by decide +kernel
theorem dXL_law_434 : decode cXL_law 434 = .ok (.iaload, 1) := by decide +kernel
theorem dXL_law_435 : decode cXL_law 435 = .ok (.aload_n 0, 1) := by decide +kernel
theorem dXL_law_436 : decode cXL_law 436 = .ok (.iload 4, 2) := by decide +kernel
theorem dXL_law_438 : decode cXL_law 438 = .ok (.iconst 3, 1) := by decide +kernel
theorem dXL_law_439 : decode cXL_law 439 = .ok (.iadd, 1) := by decide +kernel
theorem dXL_law_440 : decode cXL_law 440 = .ok (.iaload, 1) := by decide +kernel
theorem dXL_law_441 : decode cXL_law 441 = .ok (.ifCond .eq 7, 3) := by decide +kernel
theorem dXL_law_444 : decode cXL_law 444 = .ok (.iconst 1, 1) := by decide +kernel
theorem dXL_law_445 : decode cXL_law 445 = .ok (.goto 4, 3) := by decide +kernel
theorem dXL_law_448 : decode cXL_law 448 = .ok (.iconst 0, 1) := by decide +kernel
theorem dXL_law_449 : decode cXL_law 449 = .ok (.invokevirtual 83, 3) := by decide +kernel
theorem dXL_law_452 : decode cXL_law 452 = .ok (.aload_n 2, 1) := by decide +kernel
theorem dXL_law_453 : decode cXL_law 453 = .ok (.invokevirtual 62, 3) := by decide +kernel
theorem dXL_law_456 : decode cXL_law 456 = .ok (.iload 5, 2) := by decide +kernel
theorem dXL_law_458 : decode cXL_law 458 = .ok (.if_icmp .eq 5, 3) := by decide +kernel
theorem dXL_law_461 : decode cXL_law 461 = .ok (.iconst 0, 1) := by decide +kernel
theorem dXL_law_462 : decode cXL_law 462 = .ok (.ireturn, 1) := by decide +kernel
theorem dXL_law_463 : decode cXL_law 463 = .ok (.goto 127, 3) := by decide +kernel
theorem dXL_law_466 : decode cXL_law 466 = .ok (.aload_n 1, 1) := by decide +kernel
theorem dXL_law_467 : decode cXL_law 467 = .ok (.invokestatic 84, 3) := by decide +kernel
theorem dXL_law_470 : decode cXL_law 470 = .ok (.istore 5, 2) := by decide +kernel
theorem dXL_law_472 : decode cXL_law 472 = .ok (.aload_n 2, 1) := by decide +kernel
theorem dXL_law_473 : decode cXL_law 473 = .ok (.invokevirtual 87, 3) := by decide +kernel
theorem dXL_law_476 : decode cXL_law 476 = .ok (.aload_n 2, 1) := by decide +kernel
theorem dXL_law_477 : decode cXL_law 477 = .ok (.invokevirtual 62, 3) := by decide +kernel
theorem dXL_law_480 : decode cXL_law 480 = .ok (.iload 5, 2) := by decide +kernel
theorem dXL_law_482 : decode cXL_law 482 = .ok (.if_icmp .eq 5, 3) := by decide +kernel
theorem dXL_law_485 : decode cXL_law 485 = .ok (.iconst 0, 1) := by decide +kernel
theorem dXL_law_486 : decode cXL_law 486 = .ok (.ireturn, 1) := by decide +kernel
theorem dXL_law_487 : decode cXL_law 487 = .ok (.goto 103, 3) := by decide +kernel
theorem dXL_law_490 : decode cXL_law 490 = .ok (.aload_n 1, 1) := by decide +kernel
theorem dXL_law_491 : decode cXL_law 491 = .ok (.aload_n 0, 1) := by decide +kernel
theorem dXL_law_492 : decode cXL_law 492 = .ok (.iload 4, 2) := by decide +kernel
theorem dXL_law_494 : decode cXL_law 494 = .ok (.iconst 1, 1) := by decide +kernel
theorem dXL_law_495 : decode cXL_law 495 = .ok (.iadd, 1) := by decide +kernel
theorem dXL_law_496 : decode cXL_law 496 = .ok (.iaload, 1) := by decide +kernel
theorem dXL_law_497 : decode cXL_law 497 = .ok (.aload_n 3, 1) := by decide +kernel
theorem dXL_law_498 : decode cXL_law 498 = .ok (.invokestatic 88, 3) := by decide +kernel
theorem dXL_law_501 : decode cXL_law 501 = .ok (.istore 5, 2) := by decide +kernel
theorem dXL_law_503 : decode cXL_law 503 = .ok (.aload_n 2, 1) := by decide +kernel
theorem dXL_law_504 : decode cXL_law 504 = .ok (.aload_n 0, 1) := by decide +kernel
theorem dXL_law_505 : decode cXL_law 505 = .ok (.iload 4, 2) := by decide +kernel
theorem dXL_law_507 : decode cXL_law 507 = .ok (.iconst 1, 1) := by decide +kernel
theorem dXL_law_508 : decode cXL_law 508 = .ok (.iadd, 1) := by decide +kernel
theorem dXL_law_509 : decode cXL_law 509 = .ok (.iaload, 1) := by decide +kernel
theorem dXL_law_510 : decode cXL_law 510 = .ok (.invokevirtual 91, 3) := by decide +kernel
theorem dXL_law_513 : decode cXL_law 513 = .ok (.istore 6, 2) := by decide +kernel
theorem dXL_law_515 : decode cXL_law 515 = .ok (.aload_n 2, 1) := by decide +kernel
theorem dXL_law_516 : decode cXL_law 516 = .ok (.invokevirtual 62, 3) := by decide +kernel
theorem dXL_law_519 : decode cXL_law 519 = .ok (.iload 5, 2) := by decide +kernel
theorem dXL_law_521 : decode cXL_law 521 = .ok (.if_icmp .eq 5, 3) := by decide +kernel
theorem dXL_law_524 : decode cXL_law 524 = .ok (.iconst 0, 1) := by decide +kernel
theorem dXL_law_525 : decode cXL_law 525 = .ok (.ireturn, 1) := by decide +kernel
theorem dXL_law_526 : decode cXL_law 526 = .ok (.iload 5, 2) := by decide +kernel
theorem dXL_law_528 : decode cXL_law 528 = .ok (.ifCond .ne 15, 3) := by decide +kernel
theorem dXL_law_531 : decode cXL_law 531 = .ok (.aload_n 3, 1) := by decide +kernel
theorem dXL_law_532 : decode cXL_law 532 = .ok (.iconst 0, 1) := by decide +kernel
theorem dXL_law_533 : decode cXL_law 533 = .ok (.laload, 1) := by decide +kernel
theorem dXL_law_534 : decode cXL_law 534 = .ok (.iload 6, 2) := by decide +kernel
theorem dXL_law_536 : decode cXL_law 536 = .ok (.i2l, 1) := by decide +kernel
theorem dXL_law_537 : decode cXL_law 537 = .ok (.lcmp, 1) := by decide +kernel
theorem dXL_law_538 : decode cXL_law 538 = .ok (.ifCond .eq 5, 3) := by decide +kernel
theorem dXL_law_541 : decode cXL_law 541 = .ok (.iconst 0, 1) := by decide +kernel
theorem dXL_law_542 : decode cXL_law 542 = .ok (.ireturn, 1) := by decide +kernel
theorem dXL_law_543 : decode cXL_law 543 = .ok (.goto 47, 3) := by decide +kernel
theorem dXL_law_546 : decode cXL_law 546 = .ok (.aload_n 1, 1) := by decide +kernel
theorem dXL_law_547 : decode cXL_law 547 = .ok (.aload_n 3, 1) := by decide +kernel
theorem dXL_law_548 : decode cXL_law 548 = .ok (.invokestatic 92, 3) := by decide +kernel
theorem dXL_law_551 : decode cXL_law 551 = .ok (.istore 5, 2) := by decide +kernel
theorem dXL_law_553 : decode cXL_law 553 = .ok (.aload_n 2, 1) := by decide +kernel
theorem dXL_law_554 : decode cXL_law 554 = .ok (.invokevirtual 94, 3) := by decide +kernel
theorem dXL_law_557 : decode cXL_law 557 = .ok (.istore 6, 2) := by decide +kernel
theorem dXL_law_559 : decode cXL_law 559 = .ok (.aload_n 2, 1) := by decide +kernel
theorem dXL_law_560 : decode cXL_law 560 = .ok (.invokevirtual 62, 3) := by decide +kernel
theorem dXL_law_563 : decode cXL_law 563 = .ok (.iload 5, 2) := by decide +kernel
theorem dXL_law_565 : decode cXL_law 565 = .ok (.if_icmp .eq 5, 3) := by decide +kernel
theorem dXL_law_568 : decode cXL_law 568 = .ok (.iconst 0, 1) := by decide +kernel
theorem dXL_law_569 : decode cXL_law 569 = .ok (.ireturn, 1) := by decide +kernel
theorem dXL_law_570 : decode cXL_law 570 = .ok (.iload 5, 2) := by decide +kernel
theorem dXL_law_572 : decode cXL_law 572 = .ok (.ifCond .ne 15, 3) := by decide +kernel
theorem dXL_law_575 : decode cXL_law 575 = .ok (.aload_n 3, 1) := by decide +kernel
theorem dXL_law_576 : decode cXL_law 576 = .ok (.iconst 0, 1) := by decide +kernel
theorem dXL_law_577 : decode cXL_law 577 = .ok (.laload, 1) := by decide +kernel
theorem dXL_law_578 : decode cXL_law 578 = .ok (.iload 6, 2) := by decide +kernel
theorem dXL_law_580 : decode cXL_law 580 = .ok (.i2l, 1) := by decide +kernel
theorem dXL_law_581 : decode cXL_law 581 = .ok (.lcmp, 1) := by decide +kernel
theorem dXL_law_582 : decode cXL_law 582 = .ok (.ifCond .eq 5, 3) := by decide +kernel
theorem dXL_law_585 : decode cXL_law 585 = .ok (.iconst 0, 1) := by decide +kernel
theorem dXL_law_586 : decode cXL_law 586 = .ok (.ireturn, 1) := by decide +kernel
theorem dXL_law_587 : decode cXL_law 587 = .ok (.goto 3, 3) := by decide +kernel
theorem dXL_law_590 : decode cXL_law 590 = .ok (.iinc 4 5, 3) := by decide +kernel
theorem dXL_law_593 : decode cXL_law 593 = .ok (.goto (-570), 3) := by decide +kernel
theorem dXL_law_596 : decode cXL_law 596 = .ok (.iconst 1, 1) := by decide +kernel
theorem dXL_law_597 : decode cXL_law 597 = .ok (.ireturn, 1) := by decide +kernel
