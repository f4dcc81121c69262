theorem dd_LW_law_0 : decode cd_LW_law 0 = .ok (.new 8, 3) := by decide +kernel
theorem dd_LW_law_3 : decode cd_LW_law 3 = .ok (.dup, 1) := by decide +kernel
theorem dd_LW_law_4 : decode cd_LW_law 4 = .ok (.invokespecial 57, 3) := by decide +kernel
theorem dd_LW_law_7 : decode cd_LW_law 7 = .ok (.astore_n 1, 1) := by decide +kernel
theorem dd_LW_law_8 : decode cd_LW_law 8 = .ok (.new 58, 3) := by decide +kernel
theorem dd_LW_law_11 : decode cd_LW_law 11 = .ok (.dup, 1) := by decide +kernel
theorem dd_LW_law_12 : decode cd_LW_law 12 = .ok (.invokespecial 60, 3) := by decide +kernel
theorem dd_LW_law_15 : decode cd_LW_law 15 = .ok (.astore_n 2, 1) := by decide +kernel
theorem dd_LW_law_16 : decode cd_LW_law 16 = .ok (.iconst 1, 1) := by decide +kernel
theorem dd_LW_law_17 : decode cd_LW_law 17 = .ok (.newarray .long, 2) := by decide +kernel
theorem dd_LW_law_19 : decode cd_LW_law 19 = .ok (.astore_n 3, 1) := by decide +kernel
theorem dd_LW_law_20 : decode cd_LW_law 20 = .ok (.iconst 0, 1) := by decide +kernel
theorem dd_LW_law_21 : decode cd_LW_law 21 = .ok (.istore 4, 2) := by decide +kernel
theorem dd_LW_law_23 : decode cd_LW_law 23 = .ok (.iload 4, 2) := by decide +kernel
theorem dd_LW_law_25 : decode cd_LW_law 25 = .ok (.aload_n 0, 1) := by decide +kernel
theorem dd_LW_law_26 : decode cd_LW_law 26 = .ok (.arraylength, 1) := by decide +kernel
theorem dd_LW_law_27 : decode cd_LW_law 27 = .ok (.bipush 6, 2) := by decide +kernel
theorem dd_LW_law_29 : decode cd_LW_law 29 = .ok (.isub, 1) := by decide +kernel
theorem dd_LW_law_30 : decode cd_LW_law 30 = .ok (.if_icmp .gt 516, 3) := by decide +kernel
theorem dd_LW_law_33 : decode cd_LW_law 33 = .ok (.aload_n 0, 1) := by decide +kernel
theorem dd_LW_law_34 : decode cd_LW_law 34 = .ok (.iload 4, 2) := by decide +kernel
theorem dd_LW_law_36 : decode cd_LW_law 36 = .ok (.iaload, 1) := by decide +kernel
theorem dd_LW_law_37 : decode cd_LW_law 37 = .ok (.bipush 15, 2) := by decide +kernel
theorem dd_LW_law_39 : decode cd_LW_law 39 = .ok (.iand, 1) := by decide +kernel
theorem dd_LW_law_40 : decode cd_LW_law 40 = .ok (.tableswitch 500 0 11 #[64, 168, 193, 221, 234, 262, 302, 339, 379, 428, 444, 472], 64) := by decide +kernel
theorem dd_LW_law_104 : decode cd_LW_law 104 = .ok (.aload_n 1, 1) := by decide +kernel
theorem dd_LW_law_105 : decode cd_LW_law 105 = .ok (.aload_n 0, 1) := by decide +kernel
theorem dd_LW_law_106 : decode cd_LW_law 106 = .ok (.iload 4, 2) := by decide +kernel
theorem dd_LW_law_108 : decode cd_LW_law 108 = .ok (.iconst 1, 1) := by decide +kernel
theorem dd_LW_law_109 : decode cd_LW_law 109 = .ok (.iadd, 1) := by decide +kernel
theorem dd_LW_law_110 : decode cd_LW_law 110 = .ok (.iaload, 1) := by decide +kernel
theorem dd_LW_law_111 : decode cd_LW_law 111 = .ok (.aload_n 0, 1) := by decide +kernel
theorem dd_LW_law_112 : decode cd_LW_law 112 = .ok (.iload 4, 2) := by decide +kernel
theorem dd_LW_law_114 : decode cd_LW_law 114 = .ok (.iconst 2, 1) := by decide +kernel
theorem dd_LW_law_115 : decode cd_LW_law 115 = .ok (.iadd, 1) := by decide +kernel
theorem dd_LW_law_116 : decode cd_LW_law 116 = .ok (.iaload, 1) := by decide +kernel
theorem dd_LW_law_117 : decode cd_LW_law 117 = .ok (.aload_n 0, 1) := by decide +kernel
theorem dd_LW_law_118 : decode cd_LW_law 118 = .ok (.iload 4, 2) := by decide +kernel
theorem dd_LW_law_120 : decode cd_LW_law 120 = .ok (.iconst 3, 1) := by decide +kernel
theorem dd_LW_law_121 : decode cd_LW_law 121 = .ok (.iadd, 1) := by decide +kernel
theorem dd_LW_law_122 : decode cd_LW_law 122 = .ok (.iaload, 1) := by decide +kernel
theorem dd_LW_law_123 : decode cd_LW_law 123 = .ok (.aload_n 0, 1) := by decide +kernel
theorem dd_LW_law_124 : decode cd_LW_law 124 = .ok (.iload 4, 2) := by decide +kernel
theorem dd_LW_law_126 : decode cd_LW_law 126 = .ok (.iconst 4, 1) := by decide +kernel
theorem dd_LW_law_127 : decode cd_LW_law 127 = .ok (.iadd, 1) := by decide +kernel
theorem dd_LW_law_128 : decode cd_LW_law 128 = .ok (.iaload, 1) := by decide +kernel
theorem dd_LW_law_129 : decode cd_LW_law 129 = .ok (.aload_n 0, 1) := by decide +kernel
theorem dd_LW_law_130 : decode cd_LW_law 130 = .ok (.iload 4, 2) := by decide +kernel
theorem dd_LW_law_132 : decode cd_LW_law 132 = .ok (.iconst 5, 1) := by decide +kernel
theorem dd_LW_law_133 : decode cd_LW_law 133 = .ok (.iadd, 1) := by decide +kernel
theorem dd_LW_law_134 : decode cd_LW_law 134 = .ok (.iaload, 1) := by decide +kernel
theorem dd_LW_law_135 : decode cd_LW_law 135 = .ok (.aload_n 3, 1) := by decide +kernel
theorem dd_LW_law_136 : decode cd_LW_law 136 = .ok (.invokestatic 61, 3) := by decide +kernel
theorem dd_LW_law_139 : decode cd_LW_law 139 = .ok (.istore 5, 2) := by decide +kernel
theorem dd_LW_law_141 : decode cd_LW_law 141 = .ok (.aload_n 2, 1) := by decide +kernel
theorem dd_LW_law_142 : decode cd_LW_law 142 = .ok (.aload_n 0, 1) := by decide +kernel
theorem dd_LW_law_143 : decode cd_LW_law 143 = .ok (.iload 4, 2) := by decide +kernel
theorem dd_LW_law_145 : decode cd_LW_law 145 = .ok (.iconst 1, 1) := by decide +kernel
theorem dd_LW_law_146 : decode cd_LW_law 146 = .ok (.iadd, 1) := by decide +kernel
theorem dd_LW_law_147 : decode cd_LW_law 147 = .ok (.iaload, 1) := by decide +kernel
theorem dd_LW_law_148 : decode cd_LW_law 148 = .ok (.aload_n 0, 1) := by decide +kernel
theorem dd_LW_law_149 : decode cd_LW_law 149 = .ok (.iload 4, 2) := by decide +kernel
theorem dd_LW_law_151 : decode cd_LW_law 151 = .ok (.iconst 2, 1) := by decide +kernel
theorem dd_LW_law_152 : decode cd_LW_law 152 = .ok (.iadd, 1) := by decide +kernel
theorem dd_LW_law_153 : decode cd_LW_law 153 = .ok (.iaload, 1) := by decide +kernel
theorem dd_LW_law_154 : decode cd_LW_law 154 = .ok (.aload_n 0, 1) := by decide +kernel
theorem dd_LW_law_155 : decode cd_LW_law 155 = .ok (.iload 4, 2) := by decide +kernel
theorem dd_LW_law_157 : decode cd_LW_law 157 = .ok (.iconst 3, 1) := by decide +kernel
theorem dd_LW_law_158 : decode cd_LW_law 158 = .ok (.iadd, 1) := by decide +kernel
theorem dd_LW_law_159 : decode cd_LW_law 159 = .ok (.iaload, 1) := by decide +kernel
theorem dd_LW_law_160 : decode cd_LW_law 160 = .ok (.aload_n 0, 1) := by decide +kernel
theorem dd_LW_law_161 : decode cd_LW_law 161 = .ok (.iload 4, 2) := by decide +kernel
theorem dd_LW_law_163 : decode cd_LW_law 163 = .ok (.iconst 4, 1) := by decide +kernel
theorem dd_LW_law_164 : decode cd_LW_law 164 = .ok (.iadd, 1) := by decide +kernel
theorem dd_LW_law_165 : decode cd_LW_law 165 = .ok (.iaload, 1) := by decide +kernel
theorem dd_LW_law_166 : decode cd_LW_law 166 = .ok (.aload_n 0, 1) := by decide +kernel
theorem dd_LW_law_167 : decode cd_LW_law 167 = .ok (.iload 4, 2) := by decide +kernel
theorem dd_LW_law_169 : decode cd_LW_law 169 = .ok (.iconst 5, 1) := by decide +kernel
theorem dd_LW_law_170 : decode cd_LW_law 170 = .ok (.iadd, 1) := by decide +kernel
theorem dd_LW_law_171 : decode cd_LW_law 171 = .ok (.iaload, 1) := by decide +kernel
theorem dd_LW_law_172 : decode cd_LW_law 172 = .ok (.invokevirtual 66, 3) := by decide +kernel
theorem dd_LW_law_175 : decode cd_LW_law 175 = .ok (.istore 6, 2) := by decide +kernel
theorem dd_LW_law_177 : decode cd_LW_law 177 = .ok (.aload_n 2, 1) := by decide +kernel
theorem dd_LW_law_178 : decode cd_LW_law 178 = .ok (.invokevirtual 67, 3) := by decide +kernel
theorem dd_LW_law_181 : decode cd_LW_law 181 = .ok (.iload 5, 2) := by decide +kernel
theorem dd_LW_law_183 : decode cd_LW_law 183 = .ok (.if_icmp .eq 5, 3) := by decide +kernel
theorem dd_LW_law_188 : decode cd_LW_law 188 = .ok (.iload 5, 2) := by decide +kernel
theorem dd_LW_law_190 : decode cd_LW_law 190 = .ok (.ifCond .ne 15, 3) := by decide +kernel
theorem dd_LW_law_193 : decode cd_LW_law 193 = .ok (.aload_n 3, 1) := by decide +kernel
theorem dd_LW_law_194 : decode cd_LW_law 194 = .ok (.iconst 0, 1) := by decide +kernel
theorem dd_LW_law_195 : decode cd_LW_law 195 = .ok (.laload, 1) := by decide +kernel
theorem dd_LW_law_196 : decode cd_LW_law 196 = .ok (.iload 6, 2) := by decide +kernel
theorem dd_LW_law_198 : decode cd_LW_law 198 = .ok (.i2l, 1) := by decide +kernel
theorem dd_LW_law_199 : decode cd_LW_law 199 = .ok (.lcmp, 1) := by decide +kernel
theorem dd_LW_law_200 : decode cd_LW_law 200 = .ok (.ifCond .eq 5, 3) := by decide +kernel
theorem dd_LW_law_205 : decode cd_LW_law 205 = .ok (.goto 335, 3) := by decide +kernel
theorem dd_LW_law_208 : decode cd_LW_law 208 = .ok (.aload_n 1, 1) := by decide +kernel
theorem dd_LW_law_209 : decode cd_LW_law 209 = .ok (.aload_n 0, 1) := by decide +kernel
theorem dd_LW_law_210 : decode cd_LW_law 210 = .ok (.iload 4, 2) := by decide +kernel
theorem dd_LW_law_212 : decode cd_LW_law 212 = .ok (.iconst 1, 1) := by decide +kernel
theorem dd_LW_law_213 : decode cd_LW_law 213 = .ok (.iadd, 1) := by decide +kernel
theorem dd_LW_law_214 : decode cd_LW_law 214 = .ok (.iaload, 1) := by decide +kernel
theorem dd_LW_law_215 : decode cd_LW_law 215 = .ok (.invokestatic 70, 3) := by decide +kernel
theorem dd_LW_law_218 : decode cd_LW_law 218 = .ok (.istore 5, 2) := by decide +kernel
theorem dd_LW_law_220 : decode cd_LW_law 220 = .ok (.aload_n 2, 1) := by decide +kernel
theorem dd_LW_law_221 : decode cd_LW_law 221 = .ok (.aload_n 0, 1) := by decide +kernel
theorem dd_LW_law_222 : decode cd_LW_law 222 = .ok (.iload 4, 2) := by decide +kernel
theorem dd_LW_law_224 : decode cd_LW_law 224 = .ok (.iconst 1, 1) := by decide +kernel
theorem dd_LW_law_225 : decode cd_LW_law 225 = .ok (.iadd, 1) := by decide +kernel
theorem dd_LW_law_226 : decode cd_LW_law 226 = .ok (.iaload, 1) := by decide +kernel
theorem dd_LW_law_227 : decode cd_LW_law 227 = .ok (.invokevirtual 73, 3) := by decide +kernel
theorem dd_LW_law_230 : decode cd_LW_law 230 = .ok (.goto 310, 3) := by decide +kernel
theorem dd_LW_law_233 : decode cd_LW_law 233 = .ok (.aload_n 1, 1) := by decide +kernel
theorem dd_LW_law_234 : decode cd_LW_law 234 = .ok (.aload_n 0, 1) := by decide +kernel
theorem dd_LW_law_235 : decode cd_LW_law 235 = .ok (.iload 4, 2) := by decide +kernel
theorem dd_LW_law_237 : decode cd_LW_law 237 = .ok (.iconst 1, 1) := by decide +kernel
theorem dd_LW_law_238 : decode cd_LW_law 238 = .ok (.iadd, 1) := by decide +kernel
theorem dd_LW_law_239 : decode cd_LW_law 239 = .ok (.iaload, 1) := by decide +kernel
theorem dd_LW_law_240 : decode cd_LW_law 240 = .ok (.aload_n 3, 1) := by decide +kernel
theorem dd_LW_law_241 : decode cd_LW_law 241 = .ok (.invokestatic 74, 3) := by decide +kernel
theorem dd_LW_law_244 : decode cd_LW_law 244 = .ok (.istore 5, 2) := by decide +kernel
theorem dd_LW_law_246 : decode cd_LW_law 246 = .ok (.aload_n 2, 1) := by decide +kernel
theorem dd_LW_law_247 : decode cd_LW_law 247 = .ok (.aload_n 0, 1) := by decide +kernel
theorem dd_LW_law_248 : decode cd_LW_law 248 = .ok (.iload 4, 2) := by decide +kernel
theorem dd_LW_law_250 : decode cd_LW_law 250 = .ok (.iconst 1, 1) := by decide +kernel
theorem dd_LW_law_251 : decode cd_LW_law 251 = .ok (.iadd, 1) := by decide +kernel
theorem dd_LW_law_252 : decode cd_LW_law 252 = .ok (.iaload, 1) := by decide +kernel
theorem dd_LW_law_253 : decode cd_LW_law 253 = .ok (.invokevirtual 77, 3) := by decide +kernel
theorem dd_LW_law_256 : decode cd_LW_law 256 = .ok (.istore 6, 2) := by decide +kernel
theorem dd_LW_law_258 : decode cd_LW_law 258 = .ok (.goto 282, 3) := by decide +kernel
theorem dd_LW_law_261 : decode cd_LW_law 261 = .ok (.aload_n 1, 1) := by decide +kernel
theorem dd_LW_law_262 : decode cd_LW_law 262 = .ok (.invokevirtual 78, 3) := by decide +kernel
theorem dd_LW_law_265 : decode cd_LW_law 265 = .ok (.pop, 1) := by decide +kernel
theorem dd_LW_law_266 : decode cd_LW_law 266 = .ok (.aload_n 2, 1) := by decide +kernel
theorem dd_LW_law_267 : decode cd_LW_law 267 = .ok (.invokevirtual 81, 3) := by decide +kernel
theorem dd_LW_law_270 : decode cd_LW_law 270 = .ok (.pop, 1) := by decide +kernel
theorem dd_LW_law_271 : decode cd_LW_law 271 = .ok (.goto 269, 3) := by decide +kernel
theorem dd_LW_law_274 : decode cd_LW_law 274 = .ok (.aload_n 1, 1) := by decide +kernel
theorem dd_LW_law_275 : decode cd_LW_law 275 = .ok (.aload_n 0, 1) := by decide +kernel
theorem dd_LW_law_276 : decode cd_LW_law 276 = .ok (.iload 4, 2) := by decide +kernel
theorem dd_LW_law_278 : decode cd_LW_law 278 = .ok (.iconst 1, 1) := by decide +kernel
theorem dd_LW_law_279 : decode cd_LW_law 279 = .ok (.iadd, 1) := by decide +kernel
theorem dd_LW_law_280 : decode cd_LW_law 280 = .ok (.iaload, 1) := by decide +kernel
theorem dd_LW_law_281 : decode cd_LW_law 281 = .ok (.aload_n 3, 1) := by decide +kernel
theorem dd_LW_law_282 : decode cd_LW_law 282 = .ok (.invokestatic 82, 3) := by decide +kernel
theorem dd_LW_law_285 : decode cd_LW_law 285 = .ok (.istore 5, 2) := by decide +kernel
theorem dd_LW_law_287 : decode cd_LW_law 287 = .ok (.aload_n 2, 1) := by decide +kernel
theorem dd_LW_law_288 : decode cd_LW_law 288 = .ok (.aload_n 0, 1) := by decide +kernel
theorem dd_LW_law_289 : decode cd_LW_law 289 = .ok (.iload 4, 2) := by decide +kernel
theorem dd_LW_law_291 : decode cd_LW_law 291 = .ok (.iconst 1, 1) := by decide +kernel
theorem dd_LW_law_292 : decode cd_LW_law 292 = .ok (.iadd, 1) := by decide +kernel
theorem dd_LW_law_293 : decode cd_LW_law 293 = .ok (.iaload, 1) := by decide +kernel
theorem dd_LW_law_294 : decode cd_LW_law 294 = .ok (.invokevirtual 84, 3) := by decide +kernel
theorem dd_LW_law_297 : decode cd_LW_law 297 = .ok (.istore 6, 2) := by decide +kernel
theorem dd_LW_law_299 : decode cd_LW_law 299 = .ok (.goto 241, 3) := by decide +kernel
theorem dd_LW_law_302 : decode cd_LW_law 302 = .ok (.aload_n 1, 1) := by decide +kernel
theorem dd_LW_law_303 : decode cd_LW_law 303 = .ok (.aload_n 0, 1) := by decide +kernel
theorem dd_LW_law_304 : decode cd_LW_law 304 = .ok (.iload 4, 2) := by decide +kernel
theorem dd_LW_law_306 : decode cd_LW_law 306 = .ok (.iconst 1, 1) := by decide +kernel
theorem dd_LW_law_307 : decode cd_LW_law 307 = .ok (.iadd, 1) := by decide +kernel
theorem dd_LW_law_308 : decode cd_LW_law 308 = .ok (.iaload, 1) := by decide +kernel
theorem dd_LW_law_309 : decode cd_LW_law 309 = .ok (.aload_n 0, 1) := by decide +kernel
theorem dd_LW_law_310 : decode cd_LW_law 310 = .ok (.iload 4, 2) := by decide +kernel
theorem dd_LW_law_312 : decode cd_LW_law 312 = .ok (.iconst 2, 1) := by decide +kernel
theorem dd_LW_law_313 : decode cd_LW_law 313 = .ok (.iadd, 1) := by decide +kernel
theorem dd_LW_law_314 : decode cd_LW_law 314 = .ok (.iaload, 1) := by decide +kernel
theorem dd_LW_law_315 : decode cd_LW_law 315 = .ok (.aload_n 3, 1) := by decide +kernel
theorem dd_LW_law_316 : decode cd_LW_law 316 = .ok (.invokestatic 85, 3) := by decide +kernel
theorem dd_LW_law_319 : decode cd_LW_law 319 = .ok (.istore 5, 2) := by decide +kernel
theorem dd_LW_law_321 : decode cd_LW_law 321 = .ok (.aload_n 2, 1) := by decide +kernel
theorem dd_LW_law_322 : decode cd_LW_law 322 = .ok (.aload_n 0, 1) := by decide +kernel
theorem dd_LW_law_323 : decode cd_LW_law 323 = .ok (.iload 4, 2) := by decide +kernel
theorem dd_LW_law_325 : decode cd_LW_law 325 = .ok (.iconst 1, 1) := by decide +kernel
theorem dd_LW_law_326 : decode cd_LW_law 326 = .ok (.iadd, 1) := by decide +kernel
theorem dd_LW_law_327 : decode cd_LW_law 327 = .ok (.iaload, 1) := by decide +kernel
theorem dd_LW_law_328 : decode cd_LW_law 328 = .ok (.aload_n 0, 1) := by decide +kernel
theorem dd_LW_law_329 : decode cd_LW_law 329 = .ok (.iload 4, 2) := by decide +kernel
theorem dd_LW_law_331 : decode cd_LW_law 331 = .ok (.iconst 2, 1) := by decide +kernel
theorem dd_LW_law_332 : decode cd_LW_law 332 = .ok (.iadd, 1) := by decide +kernel
theorem dd_LW_law_333 : decode cd_LW_law 333 = .ok (.iaload, 1) := by decide +kernel
theorem dd_LW_law_334 : decode cd_LW_law 334 = .ok (.invokevirtual 88, 3) := by decide +kernel
theorem dd_LW_law_337 : decode cd_LW_law 337 = .ok (.istore 6, 2) := by decide +kernel
theorem dd_LW_law_339 : decode cd_LW_law 339 = .ok (.goto 201, 3) := by decide +kernel
theorem dd_LW_law_342 : decode cd_LW_law 342 = .ok (.aload_n 1, 1) := by decide +kernel
theorem dd_LW_law_343 : decode cd_LW_law 343 = .ok (.aload_n 0, 1) := by decide +kernel
theorem dd_LW_law_344 : decode cd_LW_law 344 = .ok (.iload 4, 2) := by decide +kernel
theorem dd_LW_law_346 : decode cd_LW_law 346 = .ok (.iconst 1, 1) := by decide +kernel
theorem dd_LW_law_347 : decode cd_LW_law 347 = .ok (.iadd, 1) := by decide +kernel
theorem dd_LW_law_348 : decode cd_LW_law 348 = .ok (.iaload, 1) := by decide +kernel
theorem dd_LW_law_349 : decode cd_LW_law 349 = .ok (.aload_n 0, 1) := by decide +kernel
theorem dd_LW_law_350 : decode cd_LW_law 350 = .ok (.iload 4, 2) := by decide +kernel
theorem dd_LW_law_352 : decode cd_LW_law 352 = .ok (.iconst 2, 1) := by decide +kernel
theorem dd_LW_law_353 : decode cd_LW_law 353 = .ok (.iadd, 1) := by decide +kernel
theorem dd_LW_law_354 : decode cd_LW_law 354 = .ok (.iaload, 1) := by decide +kernel
theorem dd_LW_law_355 : decode cd_LW_law 355 = .ok (.invokestatic 89, 3) := by decide +kernel
theorem dd_LW_law_358 : decode cd_LW_law 358 = .ok (.istore 5, 2) := by decide +kernel
theorem dd_LW_law_360 : decode cd_LW_law 360 = .ok (.aload_n 2, 1) := by decide +kernel
theorem dd_LW_law_361 : decode cd_LW_law 361 = .ok (.aload_n 0, 1) := by decide +kernel
theorem dd_LW_law_362 : decode cd_LW_law 362 = .ok (.iload 4, 2) := by decide +kernel
theorem dd_LW_law_364 : decode cd_LW_law 364 = .ok (.iconst 1, 1) := by decide +kernel
theorem dd_LW_law_365 : decode cd_LW_law 365 = .ok (.iadd, 1) := by decide +kernel
theorem dd_LW_law_366 : decode cd_LW_law 366 = .ok (.iaload, 1) := by decide +kernel
theorem dd_LW_law_367 : decode cd_LW_law 367 = .ok (.aload_n 0, 1) := by decide +kernel
theorem dd_LW_law_368 : decode cd_LW_law 368 = .ok (.iload 4, 2) := by decide +kernel
theorem dd_LW_law_370 : decode cd_LW_law 370 = .ok (.iconst 2, 1) := by decide +kernel
theorem dd_LW_law_371 : decode cd_LW_law 371 = .ok (.iadd, 1) := by decide +kernel
theorem dd_LW_law_372 : decode cd_LW_law 372 = .ok (.iaload, 1) := by decide +kernel
theorem dd_LW_law_373 : decode cd_LW_law 373 = .ok (.invokevirtual 92, 3) := by decide +kernel
theorem dd_LW_law_376 : decode cd_LW_law 376 = .ok (.goto 164, 3) := by decide +kernel
theorem dd_LW_law_379 : decode cd_LW_law 379 = .ok (.aload_n 1, 1) := by decide +kernel
theorem dd_LW_law_380 : decode cd_LW_law 380 = .ok (.aload_n 0, 1) := by decide +kernel
theorem dd_LW_law_381 : decode cd_LW_law 381 = .ok (.iload 4, 2) := by decide +kernel
theorem dd_LW_law_383 : decode cd_LW_law 383 = .ok (.iconst 1, 1) := by decide +kernel
theorem dd_LW_law_384 : decode cd_LW_law 384 = .ok (.iadd, 1) := by decide +kernel
theorem dd_LW_law_385 : decode cd_LW_law 385 = .ok (.iaload, 1) := by decide +kernel
theorem dd_LW_law_386 : decode cd_LW_law 386 = .ok (.aload_n 0, 1) := by decide +kernel
theorem dd_LW_law_387 : decode cd_LW_law 387 = .ok (.iload 4, 2) := by decide +kernel
theorem dd_LW_law_389 : decode cd_LW_law 389 = .ok (.iconst 2, 1) := by decide +kernel
theorem dd_LW_law_390 : decode cd_LW_law 390 = .ok (.iadd, 1) := by decide +kernel
theorem dd_LW_law_391 : decode cd_LW_law 391 = .ok (.iaload, 1) := by decide +kernel
theorem dd_LW_law_392 : decode cd_LW_law 392 = .ok (.aload_n 3, 1) := by decide +kernel
theorem dd_LW_law_393 : decode cd_LW_law 393 = .ok (.invokestatic 93, 3) := by decide +kernel
theorem dd_LW_law_396 : decode cd_LW_law 396 = .ok (.istore 5, 2) := by decide +kernel
theorem dd_LW_law_398 : decode cd_LW_law 398 = .ok (.aload_n 2, 1) := by decide +kernel
theorem dd_LW_law_399 : decode cd_LW_law 399 = .ok (.aload_n 0, 1) := by decide +kernel
theorem dd_LW_law_400 : decode cd_LW_law 400 = .ok (.iload 4, 2) := by decide +kernel
theorem dd_LW_law_402 : decode cd_LW_law 402 = .ok (.iconst 1, 1) := by decide +kernel
theorem dd_LW_law_403 : decode cd_LW_law 403 = .ok (.iadd, 1) := by decide +kernel
theorem dd_LW_law_404 : decode cd_LW_law 404 = .ok (.iaload, 1) := by decide +kernel
theorem dd_LW_law_405 : decode cd_LW_law 405 = .ok (.aload_n 0, 1) := by decide +kernel
theorem dd_LW_law_406 : decode cd_LW_law 406 = .ok (.iload 4, 2) := by decide +kernel
theorem dd_LW_law_408 : decode cd_LW_law 408 = .ok (.iconst 2, 1) := by decide +kernel
theorem dd_LW_law_409 : decode cd_LW_law 409 = .ok (.iadd, 1) := by decide +kernel
theorem dd_LW_law_410 : decode cd_LW_law 410 = .ok (.iaload, 1) := by decide +kernel
theorem dd_LW_law_411 : decode cd_LW_law 411 = .ok (.invokevirtual 95, 3) := by decide +kernel
theorem dd_LW_law_414 : decode cd_LW_law 414 = .ok (.istore 6, 2) := by decide +kernel
theorem dd_LW_law_416 : decode cd_LW_law 416 = .ok (.goto 124, 3) := by decide +kernel
theorem dd_LW_law_419 : decode cd_LW_law 419 = .ok (.aload_n 1, 1) := by decide +kernel
theorem dd_LW_law_420 : decode cd_LW_law 420 = .ok (.aload_n 0, 1) := by decide +kernel
theorem dd_LW_law_421 : decode cd_LW_law 421 = .ok (.iload 4, 2) := by decide +kernel
theorem dd_LW_law_423 : decode cd_LW_law 423 = .ok (.iconst 1, 1) := by decide +kernel
theorem dd_LW_law_424 : decode cd_LW_law 424 = .ok (.iadd, 1) := by decide +kernel
theorem dd_LW_law_425 : decode cd_LW_law 425 = .ok (.iaload, 1) := by decide +kernel
theorem dd_LW_law_426 : decode cd_LW_law 426 = .ok (.aload_n 0, 1) := by decide +kernel
theorem dd_LW_law_427 : decode cd_LW_law 427 = .ok (.iload 4, 2) := by decide +kernel
theorem dd_LW_law_429 : decode cd_LW_law 429 = .ok (.iconst 2, 1) := by decide +kernel
theorem dd_LW_law_430 : decode cd_LW_law 430 = .ok (.iadd, 1) := by decide +kernel
theorem dd_LW_law_431 : decode cd_LW_law 431 = .ok (.iaload, 1) := by decide +kernel
theorem dd_LW_law_432 : decode cd_LW_law 432 = .ok (.aload_n 0, 1) := by decide +kernel
theorem dd_LW_law_433 : decode cd_LW_law 433 = .ok (.iload 4, 2) := by decide +kernel
theorem dd_LW_law_435 : decode cd_LW_law 435 = .ok (.iconst 3, 1) := by decide +kernel
theorem dd_LW_law_436 : decode cd_LW_law 436 = .ok (.iadd, 1) := by decide +kernel
theorem dd_LW_law_437 : decode cd_LW_law 437 = .ok (.iaload, 1) := by decide +kernel
theorem dd_LW_law_438 : decode cd_LW_law 438 = .ok (.invokestatic 96, 3) := by decide +kernel
theorem dd_LW_law_441 : decode cd_LW_law 441 = .ok (.istore 5, 2) := by decide +kernel
theorem dd_LW_law_443 : decode cd_LW_law 443 = .ok (.aload_n 2, 1) := by decide +kernel
theorem dd_LW_law_444 : decode cd_LW_law 444 = .ok (.aload_n 0, 1) := by decide +kernel
theorem dd_LW_law_445 : decode cd_LW_law 445 = .ok (.iload 4, 2) := by decide +kernel
theorem dd_LW_law_447 : decode cd_LW_law 447 = .ok (.iconst 1, 1) := by decide +kernel
theorem dd_LW_law_448 : decode cd_LW_law 448 = .ok (.iadd, 1) := by decide +kernel
theorem dd_LW_law_449 : decode cd_LW_law 449 = .ok (.iaload, 1) := by decide +kernel
theorem dd_LW_law_450 : decode cd_LW_law 450 = .ok (.aload_n 0, 1) := by decide +kernel
theorem dd_LW_law_451 : decode cd_LW_law 451 = .ok (.iload 4, 2) := by decide +kernel
theorem dd_LW_law_453 : decode cd_LW_law 453 = .ok (.iconst 2, 1) := by decide +kernel
theorem dd_LW_law_454 : decode cd_LW_law 454 = .ok (.iadd, 1) := by decide +kernel
theorem dd_LW_law_455 : decode cd_LW_law 455 = .ok (.iaload, 1) := by decide +kernel
theorem dd_LW_law_456 : decode cd_LW_law 456 = .ok (.aload_n 0, 1) := by decide +kernel
theorem dd_LW_law_457 : decode cd_LW_law 457 = .ok (.iload 4, 2) := by decide +kernel
theorem dd_LW_law_459 : decode cd_LW_law 459 = .ok (.iconst 3, 1) := by decide +kernel
theorem dd_LW_law_460 : decode cd_LW_law 460 = .ok (.iadd, 1) := by decide +kernel
theorem dd_LW_law_461 : decode cd_LW_law 461 = .ok (.iaload, 1) := by decide +kernel
theorem dd_LW_law_462 : decode cd_LW_law 462 = .ok (.invokevirtual 99, 3) := by decide +kernel
theorem dd_LW_law_465 : decode cd_LW_law 465 = .ok (.goto 75, 3) := by decide +kernel
theorem dd_LW_law_468 : decode cd_LW_law 468 = .ok (.aload_n 1, 1) := by decide +kernel
theorem dd_LW_law_469 : decode cd_LW_law 469 = .ok (.aload_n 3, 1) := by decide +kernel
theorem dd_LW_law_470 : decode cd_LW_law 470 = .ok (.invokestatic 100, 3) := by decide +kernel
theorem dd_LW_law_473 : decode cd_LW_law 473 = .ok (.istore 5, 2) := by decide +kernel
theorem dd_LW_law_475 : decode cd_LW_law 475 = .ok (.aload_n 2, 1) := by decide +kernel
theorem dd_LW_law_476 : decode cd_LW_law 476 = .ok (.invokevirtual 103, 3) := by decide +kernel
theorem dd_LW_law_479 : decode cd_LW_law 479 = .ok (.istore 6, 2) := by decide +kernel
theorem dd_LW_law_481 : decode cd_LW_law 481 = .ok (.goto 59, 3) := by decide +kernel
theorem dd_LW_law_484 : decode cd_LW_law 484 = .ok (.aload_n 1, 1) := by decide +kernel
theorem dd_LW_law_485 : decode cd_LW_law 485 = .ok (.aload_n 0, 1) := by decide +kernel
theorem dd_LW_law_486 : decode cd_LW_law 486 = .ok (.iload 4, 2) := by decide +kernel
theorem dd_LW_law_488 : decode cd_LW_law 488 = .ok (.iconst 1, 1) := by decide +kernel
theorem dd_LW_law_489 : decode cd_LW_law 489 = .ok (.iadd, 1) := by decide +kernel
theorem dd_LW_law_490 : decode cd_LW_law 490 = .ok (.iaload, 1) := by decide +kernel
theorem dd_LW_law_491 : decode cd_LW_law 491 = .ok (.aload_n 3, 1) := by decide +kernel
theorem dd_LW_law_492 : decode cd_LW_law 492 = .ok (.invokestatic 104, 3) := by decide +kernel
theorem dd_LW_law_495 : decode cd_LW_law 495 = .ok (.istore 5, 2) := by decide +kernel
theorem dd_LW_law_497 : decode cd_LW_law 497 = .ok (.aload_n 2, 1) := by decide +kernel
theorem dd_LW_law_498 : decode cd_LW_law 498 = .ok (.aload_n 0, 1) := by decide +kernel
theorem dd_LW_law_499 : decode cd_LW_law 499 = .ok (.iload 4, 2) := by decide +kernel
theorem dd_LW_law_501 : decode cd_LW_law 501 = .ok (.iconst 1, 1) := by decide +kernel
theorem dd_LW_law_502 : decode cd_LW_law 502 = .ok (.iadd, 1) := by decide +kernel
theorem dd_LW_law_503 : decode cd_LW_law 503 = .ok (.iaload, 1) := by decide +kernel
theorem dd_LW_law_504 : decode cd_LW_law 504 = .ok (.invokevirtual 106, 3) := by decide +kernel
theorem dd_LW_law_507 : decode cd_LW_law 507 = .ok (.istore 6, 2) := by decide +kernel
theorem dd_LW_law_509 : decode cd_LW_law 509 = .ok (.goto 31, 3) := by decide +kernel
theorem dd_LW_law_512 : decode cd_LW_law 512 = .ok (.aload_n 1, 1) := by decide +kernel
theorem dd_LW_law_513 : decode cd_LW_law 513 = .ok (.aload_n 0, 1) := by decide +kernel
theorem dd_LW_law_514 : decode cd_LW_law 514 = .ok (.iload 4, 2) := by decide +kernel
theorem dd_LW_law_516 : decode cd_LW_law 516 = .ok (.iconst 1, 1) := by decide +kernel
theorem dd_LW_law_517 : decode cd_LW_law 517 = .ok (.iadd, 1) := by decide +kernel
theorem dd_LW_law_518 : decode cd_LW_law 518 = .ok (.iaload, 1) := by decide +kernel
theorem dd_LW_law_519 : decode cd_LW_law 519 = .ok (.aload_n 3, 1) := by decide +kernel
theorem dd_LW_law_520 : decode cd_LW_law 520 = .ok (.invokestatic 107, 3) := by decide +kernel
theorem dd_LW_law_523 : decode cd_LW_law 523 = .ok (.istore 5, 2) := by decide +kernel
theorem dd_LW_law_525 : decode cd_LW_law 525 = .ok (.aload_n 2, 1) := by decide +kernel
theorem dd_LW_law_526 : decode cd_LW_law 526 = .ok (.aload_n 0, 1) := by decide +kernel
theorem dd_LW_law_527 : decode cd_LW_law 527 = .ok (.iload 4, 2) := by decide +kernel
theorem dd_LW_law_529 : decode cd_LW_law 529 = .ok (.iconst 1, 1) := by decide +kernel
theorem dd_LW_law_530 : decode cd_LW_law 530 = .ok (.iadd, 1) := by decide +kernel
theorem dd_LW_law_531 : decode cd_LW_law 531 = .ok (.iaload, 1) := by decide +kernel
theorem dd_LW_law_532 : decode cd_LW_law 532 = .ok (.invokevirtual 109, 3) := by decide +kernel
theorem dd_LW_law_535 : decode cd_LW_law 535 = .ok (.istore 6, 2) := by decide +kernel
theorem dd_LW_law_537 : decode cd_LW_law 537 = .ok (.goto 3, 3) := by decide +kernel
theorem dd_LW_law_540 : decode cd_LW_law 540 = .ok (.iinc 4 6, 3) := by decide +kernel
theorem dd_LW_law_543 : decode cd_LW_law 543 = .ok (.goto (-520), 3) := by decide +kernel
theorem dd_LW_law_546 : decode cd_LW_law 546 = .ok (.iconst 1, 1) := by decide +kernel
theorem dd_LW_law_547 : decode cd_LW_law 547 = .ok (.ireturn, 1) := by decide +kernel
