theorem dd_LW_law_0 : decode cd_LW_law 0 = .ok (.new 8, 3) := by decide +kernel
theorem dd_LW_law_3 : decode cd_LW_law 3 = .ok (.dup, 1) := by decide +kernel
theorem dd_LW_law_4 : decode cd_LW_law 4 = .ok (.invokespecial 57, 3) := by decide +kernel
theorem dd_LW_law_7 : decode cd_LW_law 7 = .ok (.astore_n 1, 1) := by decide +kernel
theorem dd_LW_law_8 : decode cd_LW_law 8 = .ok (.new 58, 3) := by decide +kernel
theorem dd_LW_law_11 : decode cd_LW_law 11 = .ok (.dup, 1) := by decide +kernel
theorem dd_LW_law_12 : decode cd_LW_law 12 = .ok (.invokespecial 60, 3) := by decide +kernel
theorem dd_LW_law_15 : decode cd_LW_law 15 = .ok (.astore_n 2, 1) := by decide +kernel
theorem dd_LW_law_16 : decode cd_LW_law 16 = .ok (.iconst 1, 1) := by decide +kernel
theorem dd_LW_law_17 : decode cd_LW_law 17 = .ok (.newarray .long, 2) := by decide +kernel
theorem dd_LW_law_19 : decode cd_LW_law 19 = .ok (.astore_n 3, 1) := by decide +kernel
theorem dd_LW_law_20 : decode cd_LW_law 20 = .ok (.iconst 0, 1) := by decide +kernel
theorem dd_LW_law_21 : decode cd_LW_law 21 = .ok (.istore 4, 2) := by decide +kernel
theorem dd_LW_law_23 : decode cd_LW_law 23 = .ok (.iload 4, 2) := by decide +kernel
theorem dd_LW_law_25 : decode cd_LW_law 25 = .ok (.aload_n 0, 1) := by decide +kernel
theorem dd_LW_law_26 : decode cd_LW_law 26 = .ok (.arraylength, 1) := by decide +kernel
theorem dd_LW_law_27 : decode cd_LW_law 27 = .ok (.bipush 6, 2) := by decide +kernel
theorem dd_LW_law_29 : decode cd_LW_law 29 = .ok (.isub, 1) := by decide +kernel
theorem dd_LW_law_30 : decode cd_LW_law 30 = .ok (.if_icmp .gt 745, 3) := by decide +kernel
theorem dd_LW_law_33 : decode cd_LW_law 33 = .ok (.aload_n 0, 1) := by decide +kernel
theorem dd_LW_law_34 : decode cd_LW_law 34 = .ok (.iload 4, 2) := by decide +kernel
theorem dd_LW_law_36 : decode cd_LW_law 36 = .ok (.iaload, 1) := by decide +kernel
theorem dd_LW_law_37 : decode cd_LW_law 37 = .ok (.bipush 15, 2) := by decide +kernel
theorem dd_LW_law_39 : decode cd_LW_law 39 = .ok (.iand, 1) := by decide +kernel
theorem dd_LW_law_40 : decode cd_LW_law 40 = .ok (.tableswitch 729 0 11 #[64, 168, 204, 260, 273, 329, 397, 445, 513, 573, 617, 673], 64) := by decide +kernel
theorem dd_LW_law_104 : decode cd_LW_law 104 = .ok (.aload_n 1, 1) := by decide +kernel
theorem dd_LW_law_105 : decode cd_LW_law 105 = .ok (.aload_n 0, 1) := by decide +kernel
theorem dd_LW_law_106 : decode cd_LW_law 106 = .ok (.iload 4, 2) := by decide +kernel
theorem dd_LW_law_108 : decode cd_LW_law 108 = .ok (.iconst 1, 1) := by decide +kernel
theorem dd_LW_law_109 : decode cd_LW_law 109 = .ok (.iadd, 1) := by decide +kernel
theorem dd_LW_law_110 : decode cd_LW_law 110 = .ok (.iaload, 1) := by decide +kernel
theorem dd_LW_law_111 : decode cd_LW_law 111 = .ok (.aload_n 0, 1) := by decide +kernel
theorem dd_LW_law_112 : decode cd_LW_law 112 = .ok (.iload 4, 2) := by decide +kernel
theorem dd_LW_law_114 : decode cd_LW_law 114 = .ok (.iconst 2, 1) := by decide +kernel
theorem dd_LW_law_115 : decode cd_LW_law 115 = .ok (.iadd, 1) := by decide +kernel
theorem dd_LW_law_116 : decode cd_LW_law 116 = .ok (.iaload, 1) := by decide +kernel
theorem dd_LW_law_117 : decode cd_LW_law 117 = .ok (.aload_n 0, 1) := by decide +kernel
theorem dd_LW_law_118 : decode cd_LW_law 118 = .ok (.iload 4, 2) := by decide +kernel
theorem dd_LW_law_120 : decode cd_LW_law 120 = .ok (.iconst 3, 1) := by decide +kernel
theorem dd_LW_law_121 : decode cd_LW_law 121 = .ok (.iadd, 1) := by decide +kernel
theorem dd_LW_law_122 : decode cd_LW_law 122 = .ok (.iaload, 1) := by decide +kernel
theorem dd_LW_law_123 : decode cd_LW_law 123 = .ok (.aload_n 0, 1) := by decide +kernel
theorem dd_LW_law_124 : decode cd_LW_law 124 = .ok (.iload 4, 2) := by decide +kernel
theorem dd_LW_law_126 : decode cd_LW_law 126 = .ok (.iconst 4, 1) := by decide +kernel
theorem dd_LW_law_127 : decode cd_LW_law 127 = .ok (.iadd, 1) := by decide +kernel
theorem dd_LW_law_128 : decode cd_LW_law 128 = .ok (.iaload, 1) := by decide +kernel
theorem dd_LW_law_129 : decode cd_LW_law 129 = .ok (.aload_n 0, 1) := by decide +kernel
theorem dd_LW_law_130 : decode cd_LW_law 130 = .ok (.iload 4, 2) := by decide +kernel
theorem dd_LW_law_132 : decode cd_LW_law 132 = .ok (.iconst 5, 1) := by decide +kernel
theorem dd_LW_law_133 : decode cd_LW_law 133 = .ok (.iadd, 1) := by decide +kernel
theorem dd_LW_law_134 : decode cd_LW_law 134 = .ok (.iaload, 1) := by decide +kernel
theorem dd_LW_law_135 : decode cd_LW_law 135 = .ok (.aload_n 3, 1) := by decide +kernel
theorem dd_LW_law_136 : decode cd_LW_law 136 = .ok (.invokestatic 61, 3) := by decide +kernel
theorem dd_LW_law_139 : decode cd_LW_law 139 = .ok (.istore 5, 2) := by decide +kernel
theorem dd_LW_law_141 : decode cd_LW_law 141 = .ok (.aload_n 2, 1) := by decide +kernel
theorem dd_LW_law_142 : decode cd_LW_law 142 = .ok (.aload_n 0, 1) := by decide +kernel
theorem dd_LW_law_143 : decode cd_LW_law 143 = .ok (.iload 4, 2) := by decide +kernel
theorem dd_LW_law_145 : decode cd_LW_law 145 = .ok (.iconst 1, 1) := by decide +kernel
theorem dd_LW_law_146 : decode cd_LW_law 146 = .ok (.iadd, 1) := by decide +kernel
theorem dd_LW_law_147 : decode cd_LW_law 147 = .ok (.iaload, 1) := by decide +kernel
theorem dd_LW_law_148 : decode cd_LW_law 148 = .ok (.aload_n 0, 1) := by decide +kernel
theorem dd_LW_law_149 : decode cd_LW_law 149 = .ok (.iload 4, 2) := by decide +kernel
theorem dd_LW_law_151 : decode cd_LW_law 151 = .ok (.iconst 2, 1) := by decide +kernel
theorem dd_LW_law_152 : decode cd_LW_law 152 = .ok (.iadd, 1) := by decide +kernel
theorem dd_LW_law_153 : decode cd_LW_law 153 = .ok (.iaload, 1) := by decide +kernel
theorem dd_LW_law_154 : decode cd_LW_law 154 = .ok (.aload_n 0, 1) := by decide +kernel
theorem dd_LW_law_155 : decode cd_LW_law 155 = .ok (.iload 4, 2) := by decide +kernel
theorem dd_LW_law_157 : decode cd_LW_law 157 = .ok (.iconst 3, 1) := by decide +kernel
theorem dd_LW_law_158 : decode cd_LW_law 158 = .ok (.iadd, 1) := by decide +kernel
theorem dd_LW_law_159 : decode cd_LW_law 159 = .ok (.iaload, 1) := by decide +kernel
theorem dd_LW_law_160 : decode cd_LW_law 160 = .ok (.aload_n 0, 1) := by decide +kernel
theorem dd_LW_law_161 : decode cd_LW_law 161 = .ok (.iload 4, 2) := by decide +kernel
theorem dd_LW_law_163 : decode cd_LW_law 163 = .ok (.iconst 4, 1) := by decide +kernel
theorem dd_LW_law_164 : decode cd_LW_law 164 = .ok (.iadd, 1) := by decide +kernel
theorem dd_LW_law_165 : decode cd_LW_law 165 = .ok (.iaload, 1) := by decide +kernel
theorem dd_LW_law_166 : decode cd_LW_law 166 = .ok (.aload_n 0, 1) := by decide +kernel
theorem dd_LW_law_167 : decode cd_LW_law 167 = .ok (.iload 4, 2) := by decide +kernel
theorem dd_LW_law_169 : decode cd_LW_law 169 = .ok (.iconst 5, 1) := by decide +kernel
theorem dd_LW_law_170 : decode cd_LW_law 170 = .ok (.iadd, 1) := by decide +kernel
theorem dd_LW_law_171 : decode cd_LW_law 171 = .ok (.iaload, 1) := by decide +kernel
theorem dd_LW_law_172 : decode cd_LW_law 172 = .ok (.invokevirtual 66, 3) := by decide +kernel
theorem dd_LW_law_175 : decode cd_LW_law 175 = .ok (.istore 6, 2) := by decide +kernel
theorem dd_LW_law_177 : decode cd_LW_law 177 = .ok (.aload_n 2, 1) := by decide +kernel
theorem dd_LW_law_178 : decode cd_LW_law 178 = .ok (.invokevirtual 67, 3) := by decide +kernel
theorem dd_LW_law_181 : decode cd_LW_law 181 = .ok (.iload 5, 2) := by decide +kernel
theorem dd_LW_law_183 : decode cd_LW_law 183 = .ok (.if_icmp .eq 5, 3) := by decide +kernel
theorem dd_LW_law_188 : decode cd_LW_law 188 = .ok (.iload 5, 2) := by decide +kernel
theorem dd_LW_law_190 : decode cd_LW_law 190 = .ok (.ifCond .ne 15, 3) := by decide +kernel
theorem dd_LW_law_193 : decode cd_LW_law 193 = .ok (.aload_n 3, 1) := by decide +kernel
theorem dd_LW_law_194 : decode cd_LW_law 194 = .ok (.iconst 0, 1) := by decide +kernel
theorem dd_LW_law_195 : decode cd_LW_law 195 = .ok (.laload, 1) := by decide +kernel
theorem dd_LW_law_196 : decode cd_LW_law 196 = .ok (.iload 6, 2) := by decide +kernel
theorem dd_LW_law_198 : decode cd_LW_law 198 = .ok (.i2l, 1) := by decide +kernel
theorem dd_LW_law_199 : decode cd_LW_law 199 = .ok (.lcmp, 1) := by decide +kernel
theorem dd_LW_law_200 : decode cd_LW_law 200 = .ok (.ifCond .eq 5, 3) := by decide +kernel
theorem dd_LW_law_205 : decode cd_LW_law 205 = .ok (.goto 564, 3) := by decide +kernel
theorem dd_LW_law_208 : decode cd_LW_law 208 = .ok (.aload_n 1, 1) := by decide +kernel
theorem dd_LW_law_209 : decode cd_LW_law 209 = .ok (.aload_n 0, 1) := by decide +kernel
theorem dd_LW_law_210 : decode cd_LW_law 210 = .ok (.iload 4, 2) := by decide +kernel
theorem dd_LW_law_212 : decode cd_LW_law 212 = .ok (.iconst 1, 1) := by decide +kernel
theorem dd_LW_law_213 : decode cd_LW_law 213 = .ok (.iadd, 1) := by decide +kernel
theorem dd_LW_law_214 : decode cd_LW_law 214 = .ok (.iaload, 1) := by decide +kernel
theorem dd_LW_law_215 : decode cd_LW_law 215 = .ok (.invokestatic 70, 3) := by decide +kernel
theorem dd_LW_law_218 : decode cd_LW_law 218 = .ok (.istore 5, 2) := by decide +kernel
theorem dd_LW_law_220 : decode cd_LW_law 220 = .ok (.aload_n 2, 1) := by decide +kernel
theorem dd_LW_law_221 : decode cd_LW_law 221 = .ok (.aload_n 0, 1) := by decide +kernel
theorem dd_LW_law_222 : decode cd_LW_law 222 = .ok (.iload 4, 2) := by decide +kernel
theorem dd_LW_law_224 : decode cd_LW_law 224 = .ok (.iconst 1, 1) := by decide +kernel
theorem dd_LW_law_225 : decode cd_LW_law 225 = .ok (.iadd, 1) := by decide +kernel
theorem dd_LW_law_226 : decode cd_LW_law 226 = .ok (.iaload, 1) := by decide +kernel
theorem dd_LW_law_227 : decode cd_LW_law 227 = .ok (.invokevirtual 73, 3) := by decide +kernel
theorem dd_LW_law_230 : decode cd_LW_law 230 = .ok (.aload_n 2, 1) := by decide +kernel
theorem dd_LW_law_231 : decode cd_LW_law 231 = .ok (.invokevirtual 67, 3) := by decide +kernel
theorem dd_LW_law_234 : decode cd_LW_law 234 = .ok (.iload 5, 2) := by decide +kernel
theorem dd_LW_law_236 : decode cd_LW_law 236 = .ok (.if_icmp .eq 5, 3) := by decide +kernel
theorem dd_LW_law_241 : decode cd_LW_law 241 = .ok (.goto 528, 3) := by decide +kernel
theorem dd_LW_law_244 : decode cd_LW_law 244 = .ok (.aload_n 1, 1) := by decide +kernel
theorem dd_LW_law_245 : decode cd_LW_law 245 = .ok (.aload_n 0, 1) := by decide +kernel
theorem dd_LW_law_246 : decode cd_LW_law 246 = .ok (.iload 4, 2) := by decide +kernel
theorem dd_LW_law_248 : decode cd_LW_law 248 = .ok (.iconst 1, 1) := by decide +kernel
theorem dd_LW_law_249 : decode cd_LW_law 249 = .ok (.iadd, 1) := by decide +kernel
theorem dd_LW_law_250 : decode cd_LW_law 250 = .ok (.iaload, 1) := by decide +kernel
theorem dd_LW_law_251 : decode cd_LW_law 251 = .ok (.aload_n 3, 1) := by decide +kernel
theorem dd_LW_law_252 : decode cd_LW_law 252 = .ok (.invokestatic 74, 3) := by decide +kernel
theorem dd_LW_law_255 : decode cd_LW_law 255 = .ok (.istore 5, 2) := by decide +kernel
theorem dd_LW_law_257 : decode cd_LW_law 257 = .ok (.aload_n 2, 1) := by decide +kernel
theorem dd_LW_law_258 : decode cd_LW_law 258 = .ok (.aload_n 0, 1) := by decide +kernel
theorem dd_LW_law_259 : decode cd_LW_law 259 = .ok (.iload 4, 2) := by decide +kernel
theorem dd_LW_law_261 : decode cd_LW_law 261 = .ok (.iconst 1, 1) := by decide +kernel
theorem dd_LW_law_262 : decode cd_LW_law 262 = .ok (.iadd, 1) := by decide +kernel
theorem dd_LW_law_263 : decode cd_LW_law 263 = .ok (.iaload, 1) := by decide +kernel
theorem dd_LW_law_264 : decode cd_LW_law 264 = .ok (.invokevirtual 77, 3) := by decide +kernel
theorem dd_LW_law_267 : decode cd_LW_law 267 = .ok (.istore 6, 2) := by decide +kernel
theorem dd_LW_law_269 : decode cd_LW_law 269 = .ok (.aload_n 2, 1) := by decide +kernel
theorem dd_LW_law_270 : decode cd_LW_law 270 = .ok (.invokevirtual 67, 3) := by decide +kernel
theorem dd_LW_law_273 : decode cd_LW_law 273 = .ok (.iload 5, 2) := by decide +kernel
theorem dd_LW_law_275 : decode cd_LW_law 275 = .ok (.if_icmp .eq 5, 3) := by decide +kernel
theorem dd_LW_law_280 : decode cd_LW_law 280 = .ok (.iload 5, 2) := by decide +kernel
theorem dd_LW_law_282 : decode cd_LW_law 282 = .ok (.ifCond .ne 15, 3) := by decide +kernel
theorem dd_LW_law_297 : decode cd_LW_law 297 = .ok (.goto 472, 3) := by decide +kernel
theorem dd_LW_law_300 : decode cd_LW_law 300 = .ok (.aload_n 1, 1) := by decide +kernel
theorem dd_LW_law_301 : decode cd_LW_law 301 = .ok (.invokevirtual 78, 3) := by decide +kernel
theorem dd_LW_law_304 : decode cd_LW_law 304 = .ok (.aload_n 2, 1) := by decide +kernel
theorem dd_LW_law_305 : decode cd_LW_law 305 = .ok (.invokevirtual 81, 3) := by decide +kernel
theorem dd_LW_law_308 : decode cd_LW_law 308 = .ok (.if_icmp .eq 461, 3) := by decide +kernel
theorem dd_LW_law_313 : decode cd_LW_law 313 = .ok (.aload_n 1, 1) := by decide +kernel
theorem dd_LW_law_314 : decode cd_LW_law 314 = .ok (.aload_n 0, 1) := by decide +kernel
theorem dd_LW_law_315 : decode cd_LW_law 315 = .ok (.iload 4, 2) := by decide +kernel
theorem dd_LW_law_317 : decode cd_LW_law 317 = .ok (.iconst 1, 1) := by decide +kernel
theorem dd_LW_law_318 : decode cd_LW_law 318 = .ok (.iadd, 1) := by decide +kernel
theorem dd_LW_law_319 : decode cd_LW_law 319 = .ok (.iaload, 1) := by decide +kernel
theorem dd_LW_law_320 : decode cd_LW_law 320 = .ok (.aload_n 3, 1) := by decide +kernel
theorem dd_LW_law_321 : decode cd_LW_law 321 = .ok (.invokestatic 82, 3) := by decide +kernel
theorem dd_LW_law_324 : decode cd_LW_law 324 = .ok (.istore 5, 2) := by decide +kernel
theorem dd_LW_law_326 : decode cd_LW_law 326 = .ok (.aload_n 2, 1) := by decide +kernel
theorem dd_LW_law_327 : decode cd_LW_law 327 = .ok (.aload_n 0, 1) := by decide +kernel
theorem dd_LW_law_328 : decode cd_LW_law 328 = .ok (.iload 4, 2) := by decide +kernel
theorem dd_LW_law_330 : decode cd_LW_law 330 = .ok (.iconst 1, 1) := by decide +kernel
theorem dd_LW_law_331 : decode cd_LW_law 331 = .ok (.iadd, 1) := by decide +kernel
theorem dd_LW_law_332 : decode cd_LW_law 332 = .ok (.iaload, 1) := by decide +kernel
theorem dd_LW_law_333 : decode cd_LW_law 333 = .ok (.invokevirtual 84, 3) := by decide +kernel
theorem dd_LW_law_336 : decode cd_LW_law 336 = .ok (.istore 6, 2) := by decide +kernel
theorem dd_LW_law_338 : decode cd_LW_law 338 = .ok (.aload_n 2, 1) := by decide +kernel
theorem dd_LW_law_339 : decode cd_LW_law 339 = .ok (.invokevirtual 67, 3) := by decide +kernel
theorem dd_LW_law_342 : decode cd_LW_law 342 = .ok (.iload 5, 2) := by decide +kernel
theorem dd_LW_law_344 : decode cd_LW_law 344 = .ok (.if_icmp .eq 5, 3) := by decide +kernel
theorem dd_LW_law_349 : decode cd_LW_law 349 = .ok (.iload 5, 2) := by decide +kernel
theorem dd_LW_law_351 : decode cd_LW_law 351 = .ok (.ifCond .ne 15, 3) := by decide +kernel
theorem dd_LW_law_366 : decode cd_LW_law 366 = .ok (.goto 403, 3) := by decide +kernel
theorem dd_LW_law_369 : decode cd_LW_law 369 = .ok (.aload_n 1, 1) := by decide +kernel
theorem dd_LW_law_370 : decode cd_LW_law 370 = .ok (.aload_n 0, 1) := by decide +kernel
theorem dd_LW_law_371 : decode cd_LW_law 371 = .ok (.iload 4, 2) := by decide +kernel
theorem dd_LW_law_373 : decode cd_LW_law 373 = .ok (.iconst 1, 1) := by decide +kernel
theorem dd_LW_law_374 : decode cd_LW_law 374 = .ok (.iadd, 1) := by decide +kernel
theorem dd_LW_law_375 : decode cd_LW_law 375 = .ok (.iaload, 1) := by decide +kernel
theorem dd_LW_law_376 : decode cd_LW_law 376 = .ok (.aload_n 0, 1) := by decide +kernel
theorem dd_LW_law_377 : decode cd_LW_law 377 = .ok (.iload 4, 2) := by decide +kernel
theorem dd_LW_law_379 : decode cd_LW_law 379 = .ok (.iconst 2, 1) := by decide +kernel
theorem dd_LW_law_380 : decode cd_LW_law 380 = .ok (.iadd, 1) := by decide +kernel
theorem dd_LW_law_381 : decode cd_LW_law 381 = .ok (.iaload, 1) := by decide +kernel
theorem dd_LW_law_382 : decode cd_LW_law 382 = .ok (.aload_n 3, 1) := by decide +kernel
theorem dd_LW_law_383 : decode cd_LW_law 383 = .ok (.invokestatic 85, 3) := by decide +kernel
theorem dd_LW_law_386 : decode cd_LW_law 386 = .ok (.istore 5, 2) := by decide +kernel
theorem dd_LW_law_388 : decode cd_LW_law 388 = .ok (.aload_n 2, 1) := by decide +kernel
theorem dd_LW_law_389 : decode cd_LW_law 389 = .ok (.aload_n 0, 1) := by decide +kernel
theorem dd_LW_law_390 : decode cd_LW_law 390 = .ok (.iload 4, 2) := by decide +kernel
theorem dd_LW_law_392 : decode cd_LW_law 392 = .ok (.iconst 1, 1) := by decide +kernel
theorem dd_LW_law_393 : decode cd_LW_law 393 = .ok (.iadd, 1) := by decide +kernel
theorem dd_LW_law_394 : decode cd_LW_law 394 = .ok (.iaload, 1) := by decide +kernel
theorem dd_LW_law_395 : decode cd_LW_law 395 = .ok (.aload_n 0, 1) := by decide +kernel
theorem dd_LW_law_396 : decode cd_LW_law 396 = .ok (.iload 4, 2) := by decide +kernel
theorem dd_LW_law_398 : decode cd_LW_law 398 = .ok (.iconst 2, 1) := by decide +kernel
theorem dd_LW_law_399 : decode cd_LW_law 399 = .ok (.iadd, 1) := by decide +kernel
theorem dd_LW_law_400 : decode cd_LW_law 400 = .ok (.iaload, 1) := by decide +kernel
theorem dd_LW_law_401 : decode cd_LW_law 401 = .ok (.invokevirtual 88, 3) := by decide +kernel
theorem dd_LW_law_404 : decode cd_LW_law 404 = .ok (.istore 6, 2) := by decide +kernel
theorem dd_LW_law_406 : decode cd_LW_law 406 = .ok (.aload_n 2, 1) := by decide +kernel
theorem dd_LW_law_407 : decode cd_LW_law 407 = .ok (.invokevirtual 67, 3) := by decide +kernel
theorem dd_LW_law_410 : decode cd_LW_law 410 = .ok (.iload 5, 2) := by decide +kernel
theorem dd_LW_law_412 : decode cd_LW_law 412 = .ok (.if_icmp .eq 5, 3) := by decide +kernel
theorem dd_LW_law_417 : decode cd_LW_law 417 = .ok (.iload 5, 2) := by decide +kernel
theorem dd_LW_law_419 : decode cd_LW_law 419 = .ok (.ifCond .ne 15, 3) := by decide +kernel
theorem dd_LW_law_422 : decode cd_LW_law 422 = .ok (.aload_n 3, 1) := by decide +kernel
theorem dd_LW_law_423 : decode cd_LW_law 423 = .ok (.iconst 0, 1) := by decide +kernel
theorem dd_LW_law_424 : decode cd_LW_law 424 = .ok (.laload, 1) := by decide +kernel
theorem dd_LW_law_425 : decode cd_LW_law 425 = .ok (.iload 6, 2) := by decide +kernel
theorem dd_LW_law_427 : decode cd_LW_law 427 = .ok (.i2l, 1) := by decide +kernel
theorem dd_LW_law_428 : decode cd_LW_law 428 = .ok (.lcmp, 1) := by decide +kernel
theorem dd_LW_law_429 : decode cd_LW_law 429 = .ok (.ifCond .eq 5, 3) := by decide +kernel
theorem dd_LW_law_434 : decode cd_LW_law 434 = .ok (.goto 335, 3) := by decide +kernel
theorem dd_LW_law_437 : decode cd_LW_law 437 = .ok (.aload_n 1, 1) := by decide +kernel
theorem dd_LW_law_438 : decode cd_LW_law 438 = .ok (.aload_n 0, 1) := by decide +kernel
theorem dd_LW_law_439 : decode cd_LW_law 439 = .ok (.iload 4, 2) := by decide +kernel
theorem dd_LW_law_441 : decode cd_LW_law 441 = .ok (.iconst 1, 1) := by decide +kernel
theorem dd_LW_law_442 : decode cd_LW_law 442 = .ok (.iadd, 1) := by decide +kernel
theorem dd_LW_law_443 : decode cd_LW_law 443 = .ok (.iaload, 1) := by decide +kernel
theorem dd_LW_law_444 : decode cd_LW_law 444 = .ok (.aload_n 0, 1) := by decide +kernel
theorem dd_LW_law_445 : decode cd_LW_law 445 = .ok (.iload 4, 2) := by decide +kernel
theorem dd_LW_law_447 : decode cd_LW_law 447 = .ok (.iconst 2, 1) := by decide +kernel
theorem dd_LW_law_448 : decode cd_LW_law 448 = .ok (.iadd, 1) := by decide +kernel
theorem dd_LW_law_449 : decode cd_LW_law 449 = .ok (.iaload, 1) := by decide +kernel
theorem dd_LW_law_450 : decode cd_LW_law 450 = .ok (.invokestatic 89, 3) := by decide +kernel
theorem dd_LW_law_453 : decode cd_LW_law 453 = .ok (.istore 5, 2) := by decide +kernel
theorem dd_LW_law_455 : decode cd_LW_law 455 = .ok (.aload_n 2, 1) := by decide +kernel
theorem dd_LW_law_456 : decode cd_LW_law 456 = .ok (.aload_n 0, 1) := by decide +kernel
theorem dd_LW_law_457 : decode cd_LW_law 457 = .ok (.iload 4, 2) := by decide +kernel
theorem dd_LW_law_459 : decode cd_LW_law 459 = .ok (.iconst 1, 1) := by decide +kernel
theorem dd_LW_law_460 : decode cd_LW_law 460 = .ok (.iadd, 1) := by decide +kernel
theorem dd_LW_law_461 : decode cd_LW_law 461 = .ok (.iaload, 1) := by decide +kernel
theorem dd_LW_law_462 : decode cd_LW_law 462 = .ok (.aload_n 0, 1) := by decide +kernel
theorem dd_LW_law_463 : decode cd_LW_law 463 = .ok (.iload 4, 2) := by decide +kernel
theorem dd_LW_law_465 : decode cd_LW_law 465 = .ok (.iconst 2, 1) := by decide +kernel
theorem dd_LW_law_466 : decode cd_LW_law 466 = .ok (.iadd, 1) := by decide +kernel
theorem dd_LW_law_467 : decode cd_LW_law 467 = .ok (.iaload, 1) := by decide +kernel
theorem dd_LW_law_468 : decode cd_LW_law 468 = .ok (.invokevirtual 92, 3) := by decide +kernel
theorem dd_LW_law_471 : decode cd_LW_law 471 = .ok (.aload_n 2, 1) := by decide +kernel
theorem dd_LW_law_472 : decode cd_LW_law 472 = .ok (.invokevirtual 67, 3) := by decide +kernel
theorem dd_LW_law_475 : decode cd_LW_law 475 = .ok (.iload 5, 2) := by decide +kernel
theorem dd_LW_law_477 : decode cd_LW_law 477 = .ok (.if_icmp .eq 5, 3) := by decide +kernel
theorem dd_LW_law_482 : decode cd_LW_law 482 = .ok (.goto 287, 3) := by decide +kernel
theorem dd_LW_law_485 : decode cd_LW_law 485 = .ok (.aload_n 1, 1) := by decide +kernel
theorem dd_LW_law_486 : decode cd_LW_law 486 = .ok (.aload_n 0, 1) := by decide +kernel
theorem dd_LW_law_487 : decode cd_LW_law 487 = .ok (.iload 4, 2) := by decide +kernel
theorem dd_LW_law_489 : decode cd_LW_law 489 = .ok (.iconst 1, 1) := by decide +kernel
theorem dd_LW_law_490 : decode cd_LW_law 490 = .ok (.iadd, 1) := by decide +kernel
theorem dd_LW_law_491 : decode cd_LW_law 491 = .ok (.iaload, 1) := by decide +kernel
theorem dd_LW_law_492 : decode cd_LW_law 492 = .ok (.aload_n 0, 1) := by decide +kernel
theorem dd_LW_law_493 : decode cd_LW_law 493 = .ok (.iload 4, 2) := by decide +kernel
theorem dd_LW_law_495 : decode cd_LW_law 495 = .ok (.iconst 2, 1) := by decide +kernel
theorem dd_LW_law_496 : decode cd_LW_law 496 = .ok (.iadd, 1) := by decide +kernel
theorem dd_LW_law_497 : decode cd_LW_law 497 = .ok (.iaload, 1) := by decide +kernel
theorem dd_LW_law_498 : decode cd_LW_law 498 = .ok (.aload_n 3, 1) := by decide +kernel
theorem dd_LW_law_499 : decode cd_LW_law 499 = .ok (.invokestatic 93, 3) := by decide +kernel
theorem dd_LW_law_502 : decode cd_LW_law 502 = .ok (.istore 5, 2) := by decide +kernel
theorem dd_LW_law_504 : decode cd_LW_law 504 = .ok (.aload_n 2, 1) := by decide +kernel
theorem dd_LW_law_505 : decode cd_LW_law 505 = .ok (.aload_n 0, 1) := by decide +kernel
theorem dd_LW_law_506 : decode cd_LW_law 506 = .ok (.iload 4, 2) := by decide +kernel
theorem dd_LW_law_508 : decode cd_LW_law 508 = .ok (.iconst 1, 1) := by decide +kernel
theorem dd_LW_law_509 : decode cd_LW_law 509 = .ok (.iadd, 1) := by decide +kernel
theorem dd_LW_law_510 : decode cd_LW_law 510 = .ok (.iaload, 1) := by decide +kernel
theorem dd_LW_law_511 : decode cd_LW_law 511 = .ok (.aload_n 0, 1) := by decide +kernel
theorem dd_LW_law_512 : decode cd_LW_law 512 = .ok (.iload 4, 2) := by decide +kernel
theorem dd_LW_law_514 : decode cd_LW_law 514 = .ok (.iconst 2, 1) := by decide +kernel
theorem dd_LW_law_515 : decode cd_LW_law 515 = .ok (.iadd, 1) := by decide +kernel
theorem dd_LW_law_516 : decode cd_LW_law 516 = .ok (.iaload, 1) := by decide +kernel
theorem dd_LW_law_517 : decode cd_LW_law 517 = .ok (.invokevirtual 95, 3) := by decide +kernel
theorem dd_LW_law_520 : decode cd_LW_law 520 = .ok (.istore 6, 2) := by decide +kernel
theorem dd_LW_law_522 : decode cd_LW_law 522 = .ok (.aload_n 2, 1) := by decide +kernel
theorem dd_LW_law_523 : decode cd_LW_law 523 = .ok (.invokevirtual 67, 3) := by decide +kernel
theorem dd_LW_law_526 : decode cd_LW_law 526 = .ok (.iload 5, 2) := by decide +kernel
theorem dd_LW_law_528 : decode cd_LW_law 528 = .ok (.if_icmp .eq 5, 3) := by decide +kernel
theorem dd_LW_law_533 : decode cd_LW_law 533 = .ok (.iload 5, 2) := by decide +kernel
theorem dd_LW_law_535 : decode cd_LW_law 535 = .ok (.ifCond .ne 15, 3) := by decide +kernel
theorem dd_LW_law_550 : decode cd_LW_law 550 = .ok (.goto 219, 3) := by decide +kernel
theorem dd_LW_law_553 : decode cd_LW_law 553 = .ok (.aload_n 1, 1) := by decide +kernel
theorem dd_LW_law_554 : decode cd_LW_law 554 = .ok (.aload_n 0, 1) := by decide +kernel
theorem dd_LW_law_555 : decode cd_LW_law 555 = .ok (.iload 4, 2) := by decide +kernel
theorem dd_LW_law_557 : decode cd_LW_law 557 = .ok (.iconst 1, 1) := by decide +kernel
theorem dd_LW_law_558 : decode cd_LW_law 558 = .ok (.iadd, 1) := by decide +kernel
theorem dd_LW_law_559 : decode cd_LW_law 559 = .ok (.iaload, 1) := by decide +kernel
theorem dd_LW_law_560 : decode cd_LW_law 560 = .ok (.aload_n 0, 1) := by decide +kernel
theorem dd_LW_law_561 : decode cd_LW_law 561 = .ok (.iload 4, 2) := by decide +kernel
theorem dd_LW_law_563 : decode cd_LW_law 563 = .ok (.iconst 2, 1) := by decide +kernel
theorem dd_LW_law_564 : decode cd_LW_law 564 = .ok (.iadd, 1) := by decide +kernel
theorem dd_LW_law_565 : decode cd_LW_law 565 = .ok (.iaload, 1) := by decide +kernel
theorem dd_LW_law_566 : decode cd_LW_law 566 = .ok (.aload_n 0, 1) := by decide +kernel
theorem dd_LW_law_567 : decode cd_LW_law 567 = .ok (.iload 4, 2) := by decide +kernel
theorem dd_LW_law_569 : decode cd_LW_law 569 = .ok (.iconst 3, 1) := by decide +kernel
theorem dd_LW_law_570 : decode cd_LW_law 570 = .ok (.iadd, 1) := by decide +kernel
theorem dd_LW_law_571 : decode cd_LW_law 571 = .ok (.iaload, 1) := by decide +kernel
theorem dd_LW_law_572 : decode cd_LW_law 572 = .ok (.invokestatic 96, 3) := by decide +kernel
theorem dd_LW_law_575 : decode cd_LW_law 575 = .ok (.istore 5, 2) := by decide +kernel
theorem dd_LW_law_577 : decode cd_LW_law 577 = .ok (.aload_n 2, 1) := by decide +kernel
theorem dd_LW_law_578 : decode cd_LW_law 578 = .ok (.aload_n 0, 1) := by decide +kernel
theorem dd_LW_law_579 : decode cd_LW_law 579 = .ok (.iload 4, 2) := by decide +kernel
theorem dd_LW_law_581 : decode cd_LW_law 581 = .ok (.iconst 1, 1) := by decide +kernel
theorem dd_LW_law_582 : decode cd_LW_law 582 = .ok (.iadd, 1) := by decide +kernel
theorem dd_LW_law_583 : decode cd_LW_law 583 = .ok (.iaload, 1) := by decide +kernel
theorem dd_LW_law_584 : decode cd_LW_law 584 = .ok (.aload_n 0, 1) := by decide +kernel
theorem dd_LW_law_585 : decode cd_LW_law 585 = .ok (.iload 4, 2) := by decide +kernel
theorem dd_LW_law_587 : decode cd_LW_law 587 = .ok (.iconst 2, 1) := by decide +kernel
theorem dd_LW_law_588 : decode cd_LW_law 588 = .ok (.iadd, 1) := by decide +kernel
theorem dd_LW_law_589 : decode cd_LW_law 589 = .ok (.iaload, 1) := by decide +kernel
theorem dd_LW_law_590 : decode cd_LW_law 590 = .ok (.aload_n 0, 1) := by decide +kernel
theorem dd_LW_law_591 : decode cd_LW_law 591 = .ok (.iload 4, 2) := by decide +kernel
theorem dd_LW_law_593 : decode cd_LW_law 593 = .ok (.iconst 3, 1) := by decide +kernel
theorem dd_LW_law_594 : decode cd_LW_law 594 = .ok (.iadd, 1) := by decide +kernel
theorem dd_LW_law_595 : decode cd_LW_law 595 = .ok (.iaload, 1) := by decide +kernel
theorem dd_LW_law_596 : decode cd_LW_law 596 = .ok (.invokevirtual 99, 3) := by decide +kernel
theorem dd_LW_law_599 : decode cd_LW_law 599 = .ok (.aload_n 2, 1) := by decide +kernel
theorem dd_LW_law_600 : decode cd_LW_law 600 = .ok (.invokevirtual 67, 3) := by decide +kernel
theorem dd_LW_law_603 : decode cd_LW_law 603 = .ok (.iload 5, 2) := by decide +kernel
theorem dd_LW_law_605 : decode cd_LW_law 605 = .ok (.if_icmp .eq 5, 3) := by decide +kernel
theorem dd_LW_law_610 : decode cd_LW_law 610 = .ok (.goto 159, 3) := by decide +kernel
theorem dd_LW_law_613 : decode cd_LW_law 613 = .ok (.aload_n 1, 1) := by decide +kernel
theorem dd_LW_law_614 : decode cd_LW_law 614 = .ok (.aload_n 3, 1) := by decide +kernel
theorem dd_LW_law_615 : decode cd_LW_law 615 = .ok (.invokestatic 100, 3) := by decide +kernel
theorem dd_LW_law_618 : decode cd_LW_law 618 = .ok (.istore 5, 2) := by decide +kernel
theorem dd_LW_law_620 : decode cd_LW_law 620 = .ok (.aload_n 2, 1) := by decide +kernel
theorem dd_LW_law_621 : decode cd_LW_law 621 = .ok (.invokevirtual 103, 3) := by decide +kernel
theorem dd_LW_law_624 : decode cd_LW_law 624 = .ok (.istore 6, 2) := by decide +kernel
theorem dd_LW_law_626 : decode cd_LW_law 626 = .ok (.aload_n 2, 1) := by decide +kernel
theorem dd_LW_law_627 : decode cd_LW_law 627 = .ok (.invokevirtual 67, 3) := by decide +kernel
theorem dd_LW_law_630 : decode cd_LW_law 630 = .ok (.iload 5, 2) := by decide +kernel
theorem dd_LW_law_632 : decode cd_LW_law 632 = .ok (.if_icmp .eq 5, 3) := by decide +kernel
theorem dd_LW_law_637 : decode cd_LW_law 637 = .ok (.iload 5, 2) := by decide +kernel
theorem dd_LW_law_639 : decode cd_LW_law 639 = .ok (.ifCond .ne 15, 3) := by decide +kernel
theorem dd_LW_law_654 : decode cd_LW_law 654 = .ok (.goto 115, 3) := by decide +kernel
theorem dd_LW_law_657 : decode cd_LW_law 657 = .ok (.aload_n 1, 1) := by decide +kernel
theorem dd_LW_law_658 : decode cd_LW_law 658 = .ok (.aload_n 0, 1) := by decide +kernel
theorem dd_LW_law_659 : decode cd_LW_law 659 = .ok (.iload 4, 2) := by decide +kernel
theorem dd_LW_law_661 : decode cd_LW_law 661 = .ok (.iconst 1, 1) := by decide +kernel
theorem dd_LW_law_662 : decode cd_LW_law 662 = .ok (.iadd, 1) := by decide +kernel
theorem dd_LW_law_663 : decode cd_LW_law 663 = .ok (.iaload, 1) := by decide +kernel
theorem dd_LW_law_664 : decode cd_LW_law 664 = .ok (.aload_n 3, 1) := by decide +kernel
theorem dd_LW_law_665 : decode cd_LW_law 665 = .ok (.invokestatic 104, 3) := by decide +kernel
theorem dd_LW_law_668 : decode cd_LW_law 668 = .ok (.istore 5, 2) := by decide +kernel
theorem dd_LW_law_670 : decode cd_LW_law 670 = .ok (.aload_n 2, 1) := by decide +kernel
theorem dd_LW_law_671 : decode cd_LW_law 671 = .ok (.aload_n 0, 1) := by decide +kernel
theorem dd_LW_law_672 : decode cd_LW_law 672 = .ok (.iload 4, 2) := by decide +kernel
theorem dd_LW_law_674 : decode cd_LW_law 674 = .ok (.iconst 1, 1) := by decide +kernel
theorem dd_LW_law_675 : decode cd_LW_law 675 = .ok (.iadd, 1) := by decide +kernel
theorem dd_LW_law_676 : decode cd_LW_law 676 = .ok (.iaload, 1) := by decide +kernel
theorem dd_LW_law_677 : decode cd_LW_law 677 = .ok (.invokevirtual 106, 3) := by decide +kernel
theorem dd_LW_law_680 : decode cd_LW_law 680 = .ok (.istore 6, 2) := by decide +kernel
theorem dd_LW_law_682 : decode cd_LW_law 682 = .ok (.aload_n 2, 1) := by decide +kernel
theorem dd_LW_law_683 : decode cd_LW_law 683 = .ok (.invokevirtual 67, 3) := by decide +kernel
theorem dd_LW_law_686 : decode cd_LW_law 686 = .ok (.iload 5, 2) := by decide +kernel
theorem dd_LW_law_688 : decode cd_LW_law 688 = .ok (.if_icmp .eq 5, 3) := by decide +kernel
theorem dd_LW_law_693 : decode cd_LW_law 693 = .ok (.iload 5, 2) := by decide +kernel
theorem dd_LW_law_695 : decode cd_LW_law 695 = .ok (.ifCond .ne 15, 3) := by decide +kernel
theorem dd_LW_law_698 : decode cd_LW_law 698 = .ok (.aload_n 3, 1) := by decide +kernel
theorem dd_LW_law_699 : decode cd_LW_law 699 = .ok (.iconst 0, 1) := by decide +kernel
theorem dd_LW_law_700 : decode cd_LW_law 700 = .ok (.laload, 1) := by decide +kernel
theorem dd_LW_law_701 : decode cd_LW_law 701 = .ok (.iload 6, 2) := by decide +kernel
theorem dd_LW_law_703 : decode cd_LW_law 703 = .ok (.i2l, 1) := by decide +kernel
theorem dd_LW_law_704 : decode cd_LW_law 704 = .ok (.lcmp, 1) := by decide +kernel
theorem dd_LW_law_705 : decode cd_LW_law 705 = .ok (.ifCond .eq 5, 3) := by decide +kernel
theorem dd_LW_law_710 : decode cd_LW_law 710 = .ok (.goto 59, 3) := by decide +kernel
theorem dd_LW_law_713 : decode cd_LW_law 713 = .ok (.aload_n 1, 1) := by decide +kernel
theorem dd_LW_law_714 : decode cd_LW_law 714 = .ok (.aload_n 0, 1) := by decide +kernel
theorem dd_LW_law_715 : decode cd_LW_law 715 = .ok (.iload 4, 2) := by decide +kernel
theorem dd_LW_law_717 : decode cd_LW_law 717 = .ok (.iconst 1, 1) := by decide +kernel
theorem dd_LW_law_718 : decode cd_LW_law 718 = .ok (.iadd, 1) := by decide +kernel
theorem dd_LW_law_719 : decode cd_LW_law 719 = .ok (.iaload, 1) := by decide +kernel
theorem dd_LW_law_720 : decode cd_LW_law 720 = .ok (.aload_n 3, 1) := by decide +kernel
theorem dd_LW_law_721 : decode cd_LW_law 721 = .ok (.invokestatic 107, 3) := by decide +kernel
theorem dd_LW_law_724 : decode cd_LW_law 724 = .ok (.istore 5, 2) := by decide +kernel
theorem dd_LW_law_726 : decode cd_LW_law 726 = .ok (.aload_n 2, 1) := by decide +kernel
theorem dd_LW_law_727 : decode cd_LW_law 727 = .ok (.aload_n 0, 1) := by decide +kernel
theorem dd_LW_law_728 : decode cd_LW_law 728 = .ok (.iload 4, 2) := by decide +kernel
theorem dd_LW_law_730 : decode cd_LW_law 730 = .ok (.iconst 1, 1) := by decide +kernel
theorem dd_LW_law_731 : decode cd_LW_law 731 = .ok (.iadd, 1) := by decide +kernel
theorem dd_LW_law_732 : decode cd_LW_law 732 = .ok (.iaload, 1) := by decide +kernel
theorem dd_LW_law_733 : decode cd_LW_law 733 = .ok (.invokevirtual 109, 3) := by decide +kernel
theorem dd_LW_law_736 : decode cd_LW_law 736 = .ok (.istore 6, 2) := by decide +kernel
theorem dd_LW_law_738 : decode cd_LW_law 738 = .ok (.aload_n 2, 1) := by decide +kernel
theorem dd_LW_law_739 : decode cd_LW_law 739 = .ok (.invokevirtual 67, 3) := by decide +kernel
theorem dd_LW_law_742 : decode cd_LW_law 742 = .ok (.iload 5, 2) := by decide +kernel
theorem dd_LW_law_744 : decode cd_LW_law 744 = .ok (.if_icmp .eq 5, 3) := by decide +kernel
theorem dd_LW_law_749 : decode cd_LW_law 749 = .ok (.iload 5, 2) := by decide +kernel
theorem dd_LW_law_751 : decode cd_LW_law 751 = .ok (.ifCond .ne 15, 3) := by decide +kernel
theorem dd_LW_law_754 : decode cd_LW_law 754 = .ok (.aload_n 3, 1) := by decide +kernel
theorem dd_LW_law_755 : decode cd_LW_law 755 = .ok (.iconst 0, 1) := by decide +kernel
theorem dd_LW_law_756 : decode cd_LW_law 756 = .ok (.laload, 1) := by decide +kernel
theorem dd_LW_law_757 : decode cd_LW_law 757 = .ok (.iload 6, 2) := by decide +kernel
theorem dd_LW_law_759 : decode cd_LW_law 759 = .ok (.i2l, 1) := by decide +kernel
theorem dd_LW_law_760 : decode cd_LW_law 760 = .ok (.lcmp, 1) := by decide +kernel
theorem dd_LW_law_761 : decode cd_LW_law 761 = .ok (.ifCond .eq 5, 3) := by decide +kernel
theorem dd_LW_law_766 : decode cd_LW_law 766 = .ok (.goto 3, 3) := by decide +kernel
theorem dd_LW_law_769 : decode cd_LW_law 769 = .ok (.iinc 4 6, 3) := by decide +kernel
theorem dd_LW_law_772 : decode cd_LW_law 772 = .ok (.goto (-749), 3) := by decide +kernel
theorem dd_LW_law_775 : decode cd_LW_law 775 = .ok (.iconst 1, 1) := by decide +kernel
theorem dd_LW_law_776 : decode cd_LW_law 776 = .ok (.ireturn, 1) := by decide +kernel
