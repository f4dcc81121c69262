theorem dd_MO_init_0 : decode cd_MO_init 0 = .ok (.aload_n 0, 1) := by decide +kernel
theorem dd_MO_init_1 : decode cd_MO_init 1 = .ok (.invokespecial 1, 3) := by decide +kernel
theorem dd_MO_init_4 : decode cd_MO_init 4 = .ok (.aload_n 0, 1) := by decide +kernel
theorem dd_MO_init_5 : decode cd_MO_init 5 = .ok (.sipush 1220, 3) := by decide +kernel
theorem dd_MO_init_8 : decode cd_MO_init 8 = .ok (.newarray .int, 2) := by decide +kernel
theorem dd_MO_init_10 : decode cd_MO_init 10 = .ok (.putfield 7, 3) := by decide +kernel
theorem dd_MO_init_13 : decode cd_MO_init 13 = .ok (.aload_n 0, 1) := by decide +kernel
theorem dd_MO_init_14 : decode cd_MO_init 14 = .ok (.sipush 5000, 3) := by decide +kernel
theorem dd_MO_init_17 : decode cd_MO_init 17 = .ok (.newarray .int, 2) := by decide +kernel
theorem dd_MO_init_19 : decode cd_MO_init 19 = .ok (.putfield 13, 3) := by decide +kernel
theorem dd_MO_init_22 : decode cd_MO_init 22 = .ok (.aload_n 0, 1) := by decide +kernel
theorem dd_MO_init_23 : decode cd_MO_init 23 = .ok (.bipush 25, 2) := by decide +kernel
theorem dd_MO_init_25 : decode cd_MO_init 25 = .ok (.newarray .int, 2) := by decide +kernel
theorem dd_MO_init_27 : decode cd_MO_init 27 = .ok (.dup, 1) := by decide +kernel
theorem dd_MO_init_28 : decode cd_MO_init 28 = .ok (.iconst 0, 1) := by decide +kernel
theorem dd_MO_init_29 : decode cd_MO_init 29 = .ok (.bipush 48, 2) := by decide +kernel
theorem dd_MO_init_31 : decode cd_MO_init 31 = .ok (.iastore, 1) := by decide +kernel
theorem dd_MO_init_32 : decode cd_MO_init 32 = .ok (.dup, 1) := by decide +kernel
theorem dd_MO_init_33 : decode cd_MO_init 33 = .ok (.iconst 1, 1) := by decide +kernel
theorem dd_MO_init_34 : decode cd_MO_init 34 = .ok (.bipush 49, 2) := by decide +kernel
theorem dd_MO_init_36 : decode cd_MO_init 36 = .ok (.iastore, 1) := by decide +kernel
theorem dd_MO_init_37 : decode cd_MO_init 37 = .ok (.dup, 1) := by decide +kernel
theorem dd_MO_init_38 : decode cd_MO_init 38 = .ok (.iconst 2, 1) := by decide +kernel
theorem dd_MO_init_39 : decode cd_MO_init 39 = .ok (.bipush 50, 2) := by decide +kernel
theorem dd_MO_init_41 : decode cd_MO_init 41 = .ok (.iastore, 1) := by decide +kernel
theorem dd_MO_init_42 : decode cd_MO_init 42 = .ok (.dup, 1) := by decide +kernel
theorem dd_MO_init_43 : decode cd_MO_init 43 = .ok (.iconst 3, 1) := by decide +kernel
theorem dd_MO_init_44 : decode cd_MO_init 44 = .ok (.bipush 51, 2) := by decide +kernel
theorem dd_MO_init_46 : decode cd_MO_init 46 = .ok (.iastore, 1) := by decide +kernel
theorem dd_MO_init_47 : decode cd_MO_init 47 = .ok (.dup, 1) := by decide +kernel
theorem dd_MO_init_48 : decode cd_MO_init 48 = .ok (.iconst 4, 1) := by decide +kernel
theorem dd_MO_init_49 : decode cd_MO_init 49 = .ok (.bipush 52, 2) := by decide +kernel
theorem dd_MO_init_51 : decode cd_MO_init 51 = .ok (.iastore, 1) := by decide +kernel
theorem dd_MO_init_52 : decode cd_MO_init 52 = .ok (.dup, 1) := by decide +kernel
theorem dd_MO_init_53 : decode cd_MO_init 53 = .ok (.iconst 5, 1) := by decide +kernel
theorem dd_MO_init_54 : decode cd_MO_init 54 = .ok (.bipush 53, 2) := by decide +kernel
theorem dd_MO_init_56 : decode cd_MO_init 56 = .ok (.iastore, 1) := by decide +kernel
theorem dd_MO_init_57 : decode cd_MO_init 57 = .ok (.dup, 1) := by decide +kernel
theorem dd_MO_init_58 : decode cd_MO_init 58 = .ok (.bipush 6, 2) := by decide +kernel
theorem dd_MO_init_60 : decode cd_MO_init 60 = .ok (.bipush 54, 2) := by decide +kernel
theorem dd_MO_init_62 : decode cd_MO_init 62 = .ok (.iastore, 1) := by decide +kernel
theorem dd_MO_init_63 : decode cd_MO_init 63 = .ok (.dup, 1) := by decide +kernel
theorem dd_MO_init_64 : decode cd_MO_init 64 = .ok (.bipush 7, 2) := by decide +kernel
theorem dd_MO_init_66 : decode cd_MO_init 66 = .ok (.bipush 55, 2) := by decide +kernel
theorem dd_MO_init_68 : decode cd_MO_init 68 = .ok (.iastore, 1) := by decide +kernel
theorem dd_MO_init_69 : decode cd_MO_init 69 = .ok (.dup, 1) := by decide +kernel
theorem dd_MO_init_70 : decode cd_MO_init 70 = .ok (.bipush 8, 2) := by decide +kernel
theorem dd_MO_init_72 : decode cd_MO_init 72 = .ok (.bipush 56, 2) := by decide +kernel
theorem dd_MO_init_74 : decode cd_MO_init 74 = .ok (.iastore, 1) := by decide +kernel
theorem dd_MO_init_75 : decode cd_MO_init 75 = .ok (.dup, 1) := by decide +kernel
theorem dd_MO_init_76 : decode cd_MO_init 76 = .ok (.bipush 9, 2) := by decide +kernel
theorem dd_MO_init_78 : decode cd_MO_init 78 = .ok (.bipush 57, 2) := by decide +kernel
theorem dd_MO_init_80 : decode cd_MO_init 80 = .ok (.iastore, 1) := by decide +kernel
theorem dd_MO_init_81 : decode cd_MO_init 81 = .ok (.dup, 1) := by decide +kernel
theorem dd_MO_init_82 : decode cd_MO_init 82 = .ok (.bipush 10, 2) := by decide +kernel
theorem dd_MO_init_84 : decode cd_MO_init 84 = .ok (.bipush 38, 2) := by decide +kernel
theorem dd_MO_init_86 : decode cd_MO_init 86 = .ok (.iastore, 1) := by decide +kernel
theorem dd_MO_init_87 : decode cd_MO_init 87 = .ok (.dup, 1) := by decide +kernel
theorem dd_MO_init_88 : decode cd_MO_init 88 = .ok (.bipush 11, 2) := by decide +kernel
theorem dd_MO_init_90 : decode cd_MO_init 90 = .ok (.bipush 13, 2) := by decide +kernel
theorem dd_MO_init_92 : decode cd_MO_init 92 = .ok (.iastore, 1) := by decide +kernel
theorem dd_MO_init_93 : decode cd_MO_init 93 = .ok (.dup, 1) := by decide +kernel
theorem dd_MO_init_94 : decode cd_MO_init 94 = .ok (.bipush 12, 2) := by decide +kernel
theorem dd_MO_init_96 : decode cd_MO_init 96 = .ok (.bipush 9, 2) := by decide +kernel
theorem dd_MO_init_98 : decode cd_MO_init 98 = .ok (.iastore, 1) := by decide +kernel
theorem dd_MO_init_99 : decode cd_MO_init 99 = .ok (.dup, 1) := by decide +kernel
theorem dd_MO_init_100 : decode cd_MO_init 100 = .ok (.bipush 13, 2) := by decide +kernel
theorem dd_MO_init_102 : decode cd_MO_init 102 = .ok (.bipush 44, 2) := by decide +kernel
theorem dd_MO_init_104 : decode cd_MO_init 104 = .ok (.iastore, 1) := by decide +kernel
theorem dd_MO_init_105 : decode cd_MO_init 105 = .ok (.dup, 1) := by decide +kernel
theorem dd_MO_init_106 : decode cd_MO_init 106 = .ok (.bipush 14, 2) := by decide +kernel
theorem dd_MO_init_108 : decode cd_MO_init 108 = .ok (.bipush 58, 2) := by decide +kernel
theorem dd_MO_init_110 : decode cd_MO_init 110 = .ok (.iastore, 1) := by decide +kernel
theorem dd_MO_init_111 : decode cd_MO_init 111 = .ok (.dup, 1) := by decide +kernel
theorem dd_MO_init_112 : decode cd_MO_init 112 = .ok (.bipush 15, 2) := by decide +kernel
theorem dd_MO_init_114 : decode cd_MO_init 114 = .ok (.bipush 35, 2) := by decide +kernel
theorem dd_MO_init_116 : decode cd_MO_init 116 = .ok (.iastore, 1) := by decide +kernel
theorem dd_MO_init_117 : decode cd_MO_init 117 = .ok (.dup, 1) := by decide +kernel
theorem dd_MO_init_118 : decode cd_MO_init 118 = .ok (.bipush 16, 2) := by decide +kernel
theorem dd_MO_init_120 : decode cd_MO_init 120 = .ok (.bipush 45, 2) := by decide +kernel
theorem dd_MO_init_122 : decode cd_MO_init 122 = .ok (.iastore, 1) := by decide +kernel
theorem dd_MO_init_123 : decode cd_MO_init 123 = .ok (.dup, 1) := by decide +kernel
theorem dd_MO_init_124 : decode cd_MO_init 124 = .ok (.bipush 17, 2) := by decide +kernel
theorem dd_MO_init_126 : decode cd_MO_init 126 = .ok (.bipush 46, 2) := by decide +kernel
theorem dd_MO_init_128 : decode cd_MO_init 128 = .ok (.iastore, 1) := by decide +kernel
theorem dd_MO_init_129 : decode cd_MO_init 129 = .ok (.dup, 1) := by decide +kernel
theorem dd_MO_init_130 : decode cd_MO_init 130 = .ok (.bipush 18, 2) := by decide +kernel
theorem dd_MO_init_132 : decode cd_MO_init 132 = .ok (.bipush 36, 2) := by decide +kernel
theorem dd_MO_init_134 : decode cd_MO_init 134 = .ok (.iastore, 1) := by decide +kernel
theorem dd_MO_init_135 : decode cd_MO_init 135 = .ok (.dup, 1) := by decide +kernel
theorem dd_MO_init_136 : decode cd_MO_init 136 = .ok (.bipush 19, 2) := by decide +kernel
theorem dd_MO_init_138 : decode cd_MO_init 138 = .ok (.bipush 47, 2) := by decide +kernel
theorem dd_MO_init_140 : decode cd_MO_init 140 = .ok (.iastore, 1) := by decide +kernel
theorem dd_MO_init_141 : decode cd_MO_init 141 = .ok (.dup, 1) := by decide +kernel
theorem dd_MO_init_142 : decode cd_MO_init 142 = .ok (.bipush 20, 2) := by decide +kernel
theorem dd_MO_init_144 : decode cd_MO_init 144 = .ok (.bipush 43, 2) := by decide +kernel
theorem dd_MO_init_146 : decode cd_MO_init 146 = .ok (.iastore, 1) := by decide +kernel
theorem dd_MO_init_147 : decode cd_MO_init 147 = .ok (.dup, 1) := by decide +kernel
theorem dd_MO_init_148 : decode cd_MO_init 148 = .ok (.bipush 21, 2) := by decide +kernel
theorem dd_MO_init_150 : decode cd_MO_init 150 = .ok (.bipush 37, 2) := by decide +kernel
theorem dd_MO_init_152 : decode cd_MO_init 152 = .ok (.iastore, 1) := by decide +kernel
theorem dd_MO_init_153 : decode cd_MO_init 153 = .ok (.dup, 1) := by decide +kernel
theorem dd_MO_init_154 : decode cd_MO_init 154 = .ok (.bipush 22, 2) := by decide +kernel
theorem dd_MO_init_156 : decode cd_MO_init 156 = .ok (.bipush 42, 2) := by decide +kernel
theorem dd_MO_init_158 : decode cd_MO_init 158 = .ok (.iastore, 1) := by decide +kernel
theorem dd_MO_init_159 : decode cd_MO_init 159 = .ok (.dup, 1) := by decide +kernel
theorem dd_MO_init_160 : decode cd_MO_init 160 = .ok (.bipush 23, 2) := by decide +kernel
theorem dd_MO_init_162 : decode cd_MO_init 162 = .ok (.bipush 61, 2) := by decide +kernel
theorem dd_MO_init_164 : decode cd_MO_init 164 = .ok (.iastore, 1) := by decide +kernel
theorem dd_MO_init_165 : decode cd_MO_init 165 = .ok (.dup, 1) := by decide +kernel
theorem dd_MO_init_166 : decode cd_MO_init 166 = .ok (.bipush 24, 2) := by decide +kernel
theorem dd_MO_init_168 : decode cd_MO_init 168 = .ok (.bipush 94, 2) := by decide +kernel
theorem dd_MO_init_170 : decode cd_MO_init 170 = .ok (.iastore, 1) := by decide +kernel
theorem dd_MO_init_171 : decode cd_MO_init 171 = .ok (.putfield 16, 3) := by decide +kernel
theorem dd_MO_init_174 : decode cd_MO_init 174 = .ok (.aload_n 0, 1) := by decide +kernel
theorem dd_MO_init_175 : decode cd_MO_init 175 = .ok (.bipush 29, 2) := by decide +kernel
theorem dd_MO_init_177 : decode cd_MO_init 177 = .ok (.newarray .int, 2) := by decide +kernel
theorem dd_MO_init_179 : decode cd_MO_init 179 = .ok (.dup, 1) := by decide +kernel
theorem dd_MO_init_180 : decode cd_MO_init 180 = .ok (.iconst 0, 1) := by decide +kernel
theorem dd_MO_init_181 : decode cd_MO_init 181 = .ok (.bipush 59, 2) := by decide +kernel
theorem dd_MO_init_183 : decode cd_MO_init 183 = .ok (.iastore, 1) := by decide +kernel
theorem dd_MO_init_184 : decode cd_MO_init 184 = .ok (.dup, 1) := by decide +kernel
theorem dd_MO_init_185 : decode cd_MO_init 185 = .ok (.iconst 1, 1) := by decide +kernel
theorem dd_MO_init_186 : decode cd_MO_init 186 = .ok (.bipush 60, 2) := by decide +kernel
theorem dd_MO_init_188 : decode cd_MO_init 188 = .ok (.iastore, 1) := by decide +kernel
theorem dd_MO_init_189 : decode cd_MO_init 189 = .ok (.dup, 1) := by decide +kernel
theorem dd_MO_init_190 : decode cd_MO_init 190 = .ok (.iconst 2, 1) := by decide +kernel
theorem dd_MO_init_191 : decode cd_MO_init 191 = .ok (.bipush 62, 2) := by decide +kernel
theorem dd_MO_init_193 : decode cd_MO_init 193 = .ok (.iastore, 1) := by decide +kernel
theorem dd_MO_init_194 : decode cd_MO_init 194 = .ok (.dup, 1) := by decide +kernel
theorem dd_MO_init_195 : decode cd_MO_init 195 = .ok (.iconst 3, 1) := by decide +kernel
theorem dd_MO_init_196 : decode cd_MO_init 196 = .ok (.bipush 64, 2) := by decide +kernel
theorem dd_MO_init_198 : decode cd_MO_init 198 = .ok (.iastore, 1) := by decide +kernel
theorem dd_MO_init_199 : decode cd_MO_init 199 = .ok (.dup, 1) := by decide +kernel
theorem dd_MO_init_200 : decode cd_MO_init 200 = .ok (.iconst 4, 1) := by decide +kernel
theorem dd_MO_init_201 : decode cd_MO_init 201 = .ok (.bipush 91, 2) := by decide +kernel
theorem dd_MO_init_203 : decode cd_MO_init 203 = .ok (.iastore, 1) := by decide +kernel
theorem dd_MO_init_204 : decode cd_MO_init 204 = .ok (.dup, 1) := by decide +kernel
theorem dd_MO_init_205 : decode cd_MO_init 205 = .ok (.iconst 5, 1) := by decide +kernel
theorem dd_MO_init_206 : decode cd_MO_init 206 = .ok (.bipush 92, 2) := by decide +kernel
theorem dd_MO_init_208 : decode cd_MO_init 208 = .ok (.iastore, 1) := by decide +kernel
theorem dd_MO_init_209 : decode cd_MO_init 209 = .ok (.dup, 1) := by decide +kernel
theorem dd_MO_init_210 : decode cd_MO_init 210 = .ok (.bipush 6, 2) := by decide +kernel
theorem dd_MO_init_212 : decode cd_MO_init 212 = .ok (.bipush 93, 2) := by decide +kernel
theorem dd_MO_init_214 : decode cd_MO_init 214 = .ok (.iastore, 1) := by decide +kernel
theorem dd_MO_init_215 : decode cd_MO_init 215 = .ok (.dup, 1) := by decide +kernel
theorem dd_MO_init_216 : decode cd_MO_init 216 = .ok (.bipush 7, 2) := by decide +kernel
theorem dd_MO_init_218 : decode cd_MO_init 218 = .ok (.bipush 95, 2) := by decide +kernel
theorem dd_MO_init_220 : decode cd_MO_init 220 = .ok (.iastore, 1) := by decide +kernel
theorem dd_MO_init_221 : decode cd_MO_init 221 = .ok (.dup, 1) := by decide +kernel
theorem dd_MO_init_222 : decode cd_MO_init 222 = .ok (.bipush 8, 2) := by decide +kernel
theorem dd_MO_init_224 : decode cd_MO_init 224 = .ok (.bipush 96, 2) := by decide +kernel
theorem dd_MO_init_226 : decode cd_MO_init 226 = .ok (.iastore, 1) := by decide +kernel
theorem dd_MO_init_227 : decode cd_MO_init 227 = .ok (.dup, 1) := by decide +kernel
theorem dd_MO_init_228 : decode cd_MO_init 228 = .ok (.bipush 9, 2) := by decide +kernel
theorem dd_MO_init_230 : decode cd_MO_init 230 = .ok (.bipush 126, 2) := by decide +kernel
theorem dd_MO_init_232 : decode cd_MO_init 232 = .ok (.iastore, 1) := by decide +kernel
theorem dd_MO_init_233 : decode cd_MO_init 233 = .ok (.dup, 1) := by decide +kernel
theorem dd_MO_init_234 : decode cd_MO_init 234 = .ok (.bipush 10, 2) := by decide +kernel
theorem dd_MO_init_236 : decode cd_MO_init 236 = .ok (.bipush 33, 2) := by decide +kernel
theorem dd_MO_init_238 : decode cd_MO_init 238 = .ok (.iastore, 1) := by decide +kernel
theorem dd_MO_init_239 : decode cd_MO_init 239 = .ok (.dup, 1) := by decide +kernel
theorem dd_MO_init_240 : decode cd_MO_init 240 = .ok (.bipush 11, 2) := by decide +kernel
theorem dd_MO_init_242 : decode cd_MO_init 242 = .ok (.bipush 13, 2) := by decide +kernel
theorem dd_MO_init_244 : decode cd_MO_init 244 = .ok (.iastore, 1) := by decide +kernel
theorem dd_MO_init_245 : decode cd_MO_init 245 = .ok (.dup, 1) := by decide +kernel
theorem dd_MO_init_246 : decode cd_MO_init 246 = .ok (.bipush 12, 2) := by decide +kernel
theorem dd_MO_init_248 : decode cd_MO_init 248 = .ok (.bipush 9, 2) := by decide +kernel
theorem dd_MO_init_250 : decode cd_MO_init 250 = .ok (.iastore, 1) := by decide +kernel
theorem dd_MO_init_251 : decode cd_MO_init 251 = .ok (.dup, 1) := by decide +kernel
theorem dd_MO_init_252 : decode cd_MO_init 252 = .ok (.bipush 13, 2) := by decide +kernel
theorem dd_MO_init_254 : decode cd_MO_init 254 = .ok (.bipush 44, 2) := by decide +kernel
theorem dd_MO_init_256 : decode cd_MO_init 256 = .ok (.iastore, 1) := by decide +kernel
theorem dd_MO_init_257 : decode cd_MO_init 257 = .ok (.dup, 1) := by decide +kernel
theorem dd_MO_init_258 : decode cd_MO_init 258 = .ok (.bipush 14, 2) := by decide +kernel
theorem dd_MO_init_260 : decode cd_MO_init 260 = .ok (.bipush 58, 2) := by decide +kernel
theorem dd_MO_init_262 : decode cd_MO_init 262 = .ok (.iastore, 1) := by decide +kernel
theorem dd_MO_init_263 : decode cd_MO_init 263 = .ok (.dup, 1) := by decide +kernel
theorem dd_MO_init_264 : decode cd_MO_init 264 = .ok (.bipush 15, 2) := by decide +kernel
theorem dd_MO_init_266 : decode cd_MO_init 266 = .ok (.bipush 10, 2) := by decide +kernel
theorem dd_MO_init_268 : decode cd_MO_init 268 = .ok (.iastore, 1) := by decide +kernel
theorem dd_MO_init_269 : decode cd_MO_init 269 = .ok (.dup, 1) := by decide +kernel
theorem dd_MO_init_270 : decode cd_MO_init 270 = .ok (.bipush 16, 2) := by decide +kernel
theorem dd_MO_init_272 : decode cd_MO_init 272 = .ok (.bipush 45, 2) := by decide +kernel
theorem dd_MO_init_274 : decode cd_MO_init 274 = .ok (.iastore, 1) := by decide +kernel
theorem dd_MO_init_275 : decode cd_MO_init 275 = .ok (.dup, 1) := by decide +kernel
theorem dd_MO_init_276 : decode cd_MO_init 276 = .ok (.bipush 17, 2) := by decide +kernel
theorem dd_MO_init_278 : decode cd_MO_init 278 = .ok (.bipush 46, 2) := by decide +kernel
theorem dd_MO_init_280 : decode cd_MO_init 280 = .ok (.iastore, 1) := by decide +kernel
theorem dd_MO_init_281 : decode cd_MO_init 281 = .ok (.dup, 1) := by decide +kernel
theorem dd_MO_init_282 : decode cd_MO_init 282 = .ok (.bipush 18, 2) := by decide +kernel
theorem dd_MO_init_284 : decode cd_MO_init 284 = .ok (.bipush 36, 2) := by decide +kernel
theorem dd_MO_init_286 : decode cd_MO_init 286 = .ok (.iastore, 1) := by decide +kernel
theorem dd_MO_init_287 : decode cd_MO_init 287 = .ok (.dup, 1) := by decide +kernel
theorem dd_MO_init_288 : decode cd_MO_init 288 = .ok (.bipush 19, 2) := by decide +kernel
theorem dd_MO_init_290 : decode cd_MO_init 290 = .ok (.bipush 47, 2) := by decide +kernel
theorem dd_MO_init_292 : decode cd_MO_init 292 = .ok (.iastore, 1) := by decide +kernel
theorem dd_MO_init_293 : decode cd_MO_init 293 = .ok (.dup, 1) := by decide +kernel
theorem dd_MO_init_294 : decode cd_MO_init 294 = .ok (.bipush 20, 2) := by decide +kernel
theorem dd_MO_init_296 : decode cd_MO_init 296 = .ok (.bipush 34, 2) := by decide +kernel
theorem dd_MO_init_298 : decode cd_MO_init 298 = .ok (.iastore, 1) := by decide +kernel
theorem dd_MO_init_299 : decode cd_MO_init 299 = .ok (.dup, 1) := by decide +kernel
theorem dd_MO_init_300 : decode cd_MO_init 300 = .ok (.bipush 21, 2) := by decide +kernel
theorem dd_MO_init_302 : decode cd_MO_init 302 = .ok (.bipush 124, 2) := by decide +kernel
theorem dd_MO_init_304 : decode cd_MO_init 304 = .ok (.iastore, 1) := by decide +kernel
theorem dd_MO_init_305 : decode cd_MO_init 305 = .ok (.dup, 1) := by decide +kernel
theorem dd_MO_init_306 : decode cd_MO_init 306 = .ok (.bipush 22, 2) := by decide +kernel
theorem dd_MO_init_308 : decode cd_MO_init 308 = .ok (.bipush 42, 2) := by decide +kernel
theorem dd_MO_init_310 : decode cd_MO_init 310 = .ok (.iastore, 1) := by decide +kernel
theorem dd_MO_init_311 : decode cd_MO_init 311 = .ok (.dup, 1) := by decide +kernel
theorem dd_MO_init_312 : decode cd_MO_init 312 = .ok (.bipush 23, 2) := by decide +kernel
theorem dd_MO_init_314 : decode cd_MO_init 314 = .ok (.bipush 40, 2) := by decide +kernel
theorem dd_MO_init_316 : decode cd_MO_init 316 = .ok (.iastore, 1) := by decide +kernel
theorem dd_MO_init_317 : decode cd_MO_init 317 = .ok (.dup, 1) := by decide +kernel
theorem dd_MO_init_318 : decode cd_MO_init 318 = .ok (.bipush 24, 2) := by decide +kernel
theorem dd_MO_init_320 : decode cd_MO_init 320 = .ok (.bipush 41, 2) := by decide +kernel
theorem dd_MO_init_322 : decode cd_MO_init 322 = .ok (.iastore, 1) := by decide +kernel
theorem dd_MO_init_323 : decode cd_MO_init 323 = .ok (.dup, 1) := by decide +kernel
theorem dd_MO_init_324 : decode cd_MO_init 324 = .ok (.bipush 25, 2) := by decide +kernel
theorem dd_MO_init_326 : decode cd_MO_init 326 = .ok (.bipush 63, 2) := by decide +kernel
theorem dd_MO_init_328 : decode cd_MO_init 328 = .ok (.iastore, 1) := by decide +kernel
theorem dd_MO_init_329 : decode cd_MO_init 329 = .ok (.dup, 1) := by decide +kernel
theorem dd_MO_init_330 : decode cd_MO_init 330 = .ok (.bipush 26, 2) := by decide +kernel
theorem dd_MO_init_332 : decode cd_MO_init 332 = .ok (.bipush 123, 2) := by decide +kernel
theorem dd_MO_init_334 : decode cd_MO_init 334 = .ok (.iastore, 1) := by decide +kernel
theorem dd_MO_init_335 : decode cd_MO_init 335 = .ok (.dup, 1) := by decide +kernel
theorem dd_MO_init_336 : decode cd_MO_init 336 = .ok (.bipush 27, 2) := by decide +kernel
theorem dd_MO_init_338 : decode cd_MO_init 338 = .ok (.bipush 125, 2) := by decide +kernel
theorem dd_MO_init_340 : decode cd_MO_init 340 = .ok (.iastore, 1) := by decide +kernel
theorem dd_MO_init_341 : decode cd_MO_init 341 = .ok (.dup, 1) := by decide +kernel
theorem dd_MO_init_342 : decode cd_MO_init 342 = .ok (.bipush 28, 2) := by decide +kernel
theorem dd_MO_init_344 : decode cd_MO_init 344 = .ok (.bipush 39, 2) := by decide +kernel
theorem dd_MO_init_346 : decode cd_MO_init 346 = .ok (.iastore, 1) := by decide +kernel
theorem dd_MO_init_347 : decode cd_MO_init 347 = .ok (.putfield 19, 3) := by decide +kernel
theorem dd_MO_init_350 : decode cd_MO_init 350 = .ok (.aload_n 0, 1) := by decide +kernel
theorem dd_MO_init_351 : decode cd_MO_init 351 = .ok (.sipush 2900, 3) := by decide +kernel
theorem dd_MO_init_354 : decode cd_MO_init 354 = .ok (.newarray .int, 2) := by decide +kernel
theorem dd_MO_init_356 : decode cd_MO_init 356 = .ok (.putfield 22, 3) := by decide +kernel
theorem dd_MO_init_359 : decode cd_MO_init 359 = .ok (.aload_n 0, 1) := by decide +kernel
theorem dd_MO_init_360 : decode cd_MO_init 360 = .ok (.sipush 928, 3) := by decide +kernel
theorem dd_MO_init_363 : decode cd_MO_init 363 = .ok (.newarray .int, 2) := by decide +kernel
theorem dd_MO_init_365 : decode cd_MO_init 365 = .ok (.putfield 25, 3) := by decide +kernel
theorem dd_MO_init_368 : decode cd_MO_init 368 = .ok (.aload_n 0, 1) := by decide +kernel
theorem dd_MO_init_369 : decode cd_MO_init 369 = .ok (.sipush 928, 3) := by decide +kernel
theorem dd_MO_init_372 : decode cd_MO_init 372 = .ok (.newarray .boolean, 2) := by decide +kernel
theorem dd_MO_init_374 : decode cd_MO_init 374 = .ok (.putfield 28, 3) := by decide +kernel
theorem dd_MO_init_377 : decode cd_MO_init 377 = .ok (.aload_n 0, 1) := by decide +kernel
theorem dd_MO_init_378 : decode cd_MO_init 378 = .ok (.sipush 929, 3) := by decide +kernel
theorem dd_MO_init_381 : decode cd_MO_init 381 = .ok (.newarray .int, 2) := by decide +kernel
theorem dd_MO_init_383 : decode cd_MO_init 383 = .ok (.putfield 32, 3) := by decide +kernel
theorem dd_MO_init_386 : decode cd_MO_init 386 = .ok (.aload_n 0, 1) := by decide +kernel
theorem dd_MO_init_387 : decode cd_MO_init 387 = .ok (.sipush 930, 3) := by decide +kernel
theorem dd_MO_init_390 : decode cd_MO_init 390 = .ok (.newarray .int, 2) := by decide +kernel
theorem dd_MO_init_392 : decode cd_MO_init 392 = .ok (.putfield 35, 3) := by decide +kernel
theorem dd_MO_init_395 : decode cd_MO_init 395 = .ok (.aload_n 0, 1) := by decide +kernel
theorem dd_MO_init_396 : decode cd_MO_init 396 = .ok (.bipush 90, 2) := by decide +kernel
theorem dd_MO_init_398 : decode cd_MO_init 398 = .ok (.newarray .int, 2) := by decide +kernel
theorem dd_MO_init_400 : decode cd_MO_init 400 = .ok (.putfield 38, 3) := by decide +kernel
theorem dd_MO_init_403 : decode cd_MO_init 403 = .ok (.aload_n 0, 1) := by decide +kernel
theorem dd_MO_init_404 : decode cd_MO_init 404 = .ok (.sipush 1860, 3) := by decide +kernel
theorem dd_MO_init_407 : decode cd_MO_init 407 = .ok (.newarray .int, 2) := by decide +kernel
theorem dd_MO_init_409 : decode cd_MO_init 409 = .ok (.putfield 41, 3) := by decide +kernel
theorem dd_MO_init_412 : decode cd_MO_init 412 = .ok (.aload_n 0, 1) := by decide +kernel
theorem dd_MO_init_413 : decode cd_MO_init 413 = .ok (.sipush 1860, 3) := by decide +kernel
theorem dd_MO_init_416 : decode cd_MO_init 416 = .ok (.newarray .int, 2) := by decide +kernel
theorem dd_MO_init_418 : decode cd_MO_init 418 = .ok (.putfield 44, 3) := by decide +kernel
theorem dd_MO_init_421 : decode cd_MO_init 421 = .ok (.aload_n 0, 1) := by decide +kernel
theorem dd_MO_init_422 : decode cd_MO_init 422 = .ok (.sipush 1860, 3) := by decide +kernel
theorem dd_MO_init_425 : decode cd_MO_init 425 = .ok (.newarray .int, 2) := by decide +kernel
theorem dd_MO_init_427 : decode cd_MO_init 427 = .ok (.putfield 47, 3) := by decide +kernel
theorem dd_MO_init_430 : decode cd_MO_init 430 = .ok (.aload_n 0, 1) := by decide +kernel
theorem dd_MO_init_431 : decode cd_MO_init 431 = .ok (.sipush 1860, 3) := by decide +kernel
theorem dd_MO_init_434 : decode cd_MO_init 434 = .ok (.newarray .int, 2) := by decide +kernel
theorem dd_MO_init_436 : decode cd_MO_init 436 = .ok (.putfield 50, 3) := by decide +kernel
theorem dd_MO_init_439 : decode cd_MO_init 439 = .ok (.aload_n 0, 1) := by decide +kernel
theorem dd_MO_init_440 : decode cd_MO_init 440 = .ok (.sipush 1860, 3) := by decide +kernel
theorem dd_MO_init_443 : decode cd_MO_init 443 = .ok (.newarray .int, 2) := by decide +kernel
theorem dd_MO_init_445 : decode cd_MO_init 445 = .ok (.putfield 53, 3) := by decide +kernel
theorem dd_MO_init_448 : decode cd_MO_init 448 = .ok (.aload_n 0, 1) := by decide +kernel
theorem dd_MO_init_449 : decode cd_MO_init 449 = .ok (.sipush 1860, 3) := by decide +kernel
theorem dd_MO_init_452 : decode cd_MO_init 452 = .ok (.newarray .int, 2) := by decide +kernel
theorem dd_MO_init_454 : decode cd_MO_init 454 = .ok (.putfield 56, 3) := by decide +kernel
theorem dd_MO_init_457 : decode cd_MO_init 457 = .ok (.aload_n 0, 1) := by decide +kernel
theorem dd_MO_init_458 : decode cd_MO_init 458 = .ok (.sipush 928, 3) := by decide +kernel
theorem dd_MO_init_461 : decode cd_MO_init 461 = .ok (.newarray .boolean, 2) := by decide +kernel
theorem dd_MO_init_463 : decode cd_MO_init 463 = .ok (.putfield 59, 3) := by decide +kernel
theorem dd_MO_init_466 : decode cd_MO_init 466 = .ok (.aload_n 0, 1) := by decide +kernel
theorem dd_MO_init_467 : decode cd_MO_init 467 = .ok (.sipush 1200, 3) := by decide +kernel
theorem dd_MO_init_470 : decode cd_MO_init 470 = .ok (.newarray .int, 2) := by decide +kernel
theorem dd_MO_init_472 : decode cd_MO_init 472 = .ok (.putfield 62, 3) := by decide +kernel
theorem dd_MO_init_475 : decode cd_MO_init 475 = .ok (.aload_n 0, 1) := by decide +kernel
theorem dd_MO_init_476 : decode cd_MO_init 476 = .ok (.bipush 60, 2) := by decide +kernel
theorem dd_MO_init_478 : decode cd_MO_init 478 = .ok (.newarray .int, 2) := by decide +kernel
theorem dd_MO_init_480 : decode cd_MO_init 480 = .ok (.putfield 65, 3) := by decide +kernel
theorem dd_MO_init_483 : decode cd_MO_init 483 = .ok (.iconst 1, 1) := by decide +kernel
theorem dd_MO_init_484 : decode cd_MO_init 484 = .ok (.istore_n 1, 1) := by decide +kernel
theorem dd_MO_init_485 : decode cd_MO_init 485 = .ok (.iconst 0, 1) := by decide +kernel
theorem dd_MO_init_486 : decode cd_MO_init 486 = .ok (.istore_n 2, 1) := by decide +kernel
theorem dd_MO_init_487 : decode cd_MO_init 487 = .ok (.iload_n 2, 1) := by decide +kernel
theorem dd_MO_init_488 : decode cd_MO_init 488 = .ok (.sipush 929, 3) := by decide +kernel
theorem dd_MO_init_491 : decode cd_MO_init 491 = .ok (.if_icmp .ge 24, 3) := by decide +kernel
theorem dd_MO_init_494 : decode cd_MO_init 494 = .ok (.aload_n 0, 1) := by decide +kernel
theorem dd_MO_init_495 : decode cd_MO_init 495 = .ok (.getfield 32, 3) := by decide +kernel
theorem dd_MO_init_498 : decode cd_MO_init 498 = .ok (.iload_n 2, 1) := by decide +kernel
theorem dd_MO_init_499 : decode cd_MO_init 499 = .ok (.iload_n 1, 1) := by decide +kernel
theorem dd_MO_init_500 : decode cd_MO_init 500 = .ok (.iastore, 1) := by decide +kernel
theorem dd_MO_init_501 : decode cd_MO_init 501 = .ok (.iload_n 1, 1) := by decide +kernel
theorem dd_MO_init_502 : decode cd_MO_init 502 = .ok (.iconst 3, 1) := by decide +kernel
theorem dd_MO_init_503 : decode cd_MO_init 503 = .ok (.imul, 1) := by decide +kernel
theorem dd_MO_init_504 : decode cd_MO_init 504 = .ok (.sipush 929, 3) := by decide +kernel
theorem dd_MO_init_507 : decode cd_MO_init 507 = .ok (.irem, 1) := by decide +kernel
theorem dd_MO_init_508 : decode cd_MO_init 508 = .ok (.istore_n 1, 1) := by decide +kernel
theorem dd_MO_init_509 : decode cd_MO_init 509 = .ok (.iinc 2 1, 3) := by decide +kernel
theorem dd_MO_init_512 : decode cd_MO_init 512 = .ok (.goto (-25), 3) := by decide +kernel
theorem dd_MO_init_515 : decode cd_MO_init 515 = .ok (.return_, 1) := by decide +kernel
theorem dd_MO_thrown_0 : decode cd_MO_thrown 0 = .ok (.aload_n 0, 1) := by decide +kernel
theorem dd_MO_thrown_1 : decode cd_MO_thrown 1 = .ok (.getfield 68, 3) := by decide +kernel
theorem dd_MO_thrown_4 : decode cd_MO_thrown 4 = .ok (.ireturn, 1) := by decide +kernel
theorem dd_MO_writeAll_0 : decode cd_MO_writeAll 0 = .ok (.aload_n 0, 1) := by decide +kernel
theorem dd_MO_writeAll_1 : decode cd_MO_writeAll 1 = .ok (.iconst 0, 1) := by decide +kernel
theorem dd_MO_writeAll_2 : decode cd_MO_writeAll 2 = .ok (.putfield 89, 3) := by decide +kernel
theorem dd_MO_writeAll_5 : decode cd_MO_writeAll 5 = .ok (.aload_n 0, 1) := by decide +kernel
theorem dd_MO_writeAll_6 : decode cd_MO_writeAll 6 = .ok (.iconst 0, 1) := by decide +kernel
theorem dd_MO_writeAll_7 : decode cd_MO_writeAll 7 = .ok (.putfield 102, 3) := by decide +kernel
theorem dd_MO_writeAll_10 : decode cd_MO_writeAll 10 = .ok (.iconst 0, 1) := by decide +kernel
theorem dd_MO_writeAll_11 : decode cd_MO_writeAll 11 = .ok (.istore_n 1, 1) := by decide +kernel
theorem dd_MO_writeAll_12 : decode cd_MO_writeAll 12 = .ok (.iconst 0, 1) := by decide +kernel
theorem dd_MO_writeAll_13 : decode cd_MO_writeAll 13 = .ok (.istore_n 2, 1) := by decide +kernel
theorem dd_MO_writeAll_14 : decode cd_MO_writeAll 14 = .ok (.iload_n 2, 1) := by decide +kernel
theorem dd_MO_writeAll_15 : decode cd_MO_writeAll 15 = .ok (.aload_n 0, 1) := by decide +kernel
theorem dd_MO_writeAll_16 : decode cd_MO_writeAll 16 = .ok (.getfield 72, 3) := by decide +kernel
theorem dd_MO_writeAll_19 : decode cd_MO_writeAll 19 = .ok (.if_icmp .ge 217, 3) := by decide +kernel
theorem dd_MO_writeAll_236 : decode cd_MO_writeAll 236 = .ok (.return_, 1) := by decide +kernel
theorem dd_MO_codewords_0 : decode cd_MO_codewords 0 = .ok (.aload_n 0, 1) := by decide +kernel
theorem dd_MO_codewords_1 : decode cd_MO_codewords 1 = .ok (.iconst 0, 1) := by decide +kernel
theorem dd_MO_codewords_2 : decode cd_MO_codewords 2 = .ok (.putfield 68, 3) := by decide +kernel
theorem dd_MO_codewords_5 : decode cd_MO_codewords 5 = .ok (.aload_n 0, 1) := by decide +kernel
theorem dd_MO_codewords_6 : decode cd_MO_codewords 6 = .ok (.invokevirtual 131, 3) := by decide +kernel
theorem dd_MO_codewords_9 : decode cd_MO_codewords 9 = .ok (.aload_n 0, 1) := by decide +kernel
theorem dd_MO_codewords_10 : decode cd_MO_codewords 10 = .ok (.getfield 89, 3) := by decide +kernel
theorem dd_MO_codewords_13 : decode cd_MO_codewords 13 = .ok (.ireturn, 1) := by decide +kernel
theorem dd_MO_codeword_0 : decode cd_MO_codeword 0 = .ok (.aload_n 0, 1) := by decide +kernel
theorem dd_MO_codeword_1 : decode cd_MO_codeword 1 = .ok (.invokevirtual 131, 3) := by decide +kernel
theorem dd_MO_codeword_4 : decode cd_MO_codeword 4 = .ok (.aload_n 0, 1) := by decide +kernel
theorem dd_MO_codeword_5 : decode cd_MO_codeword 5 = .ok (.iload_n 1, 1) := by decide +kernel
theorem dd_MO_codeword_6 : decode cd_MO_codeword 6 = .ok (.ifCond .lt 15, 3) := by decide +kernel
theorem dd_MO_codeword_9 : decode cd_MO_codeword 9 = .ok (.iload_n 1, 1) := by decide +kernel
theorem dd_MO_codeword_10 : decode cd_MO_codeword 10 = .ok (.aload_n 0, 1) := by decide +kernel
theorem dd_MO_codeword_11 : decode cd_MO_codeword 11 = .ok (.getfield 89, 3) := by decide +kernel
theorem dd_MO_codeword_14 : decode cd_MO_codeword 14 = .ok (.if_icmp .ge 7, 3) := by decide +kernel
theorem dd_MO_codeword_21 : decode cd_MO_codeword 21 = .ok (.iconst 1, 1) := by decide +kernel
theorem dd_MO_codeword_22 : decode cd_MO_codeword 22 = .ok (.putfield 68, 3) := by decide +kernel
theorem dd_MO_codeword_25 : decode cd_MO_codeword 25 = .ok (.aload_n 0, 1) := by decide +kernel
theorem dd_MO_codeword_26 : decode cd_MO_codeword 26 = .ok (.getfield 68, 3) := by decide +kernel
theorem dd_MO_codeword_29 : decode cd_MO_codeword 29 = .ok (.ifCond .le 7, 3) := by decide +kernel
theorem dd_MO_codeword_32 : decode cd_MO_codeword 32 = .ok (.iconst 0, 1) := by decide +kernel
theorem dd_MO_codeword_33 : decode cd_MO_codeword 33 = .ok (.goto 9, 3) := by decide +kernel
theorem dd_MO_codeword_42 : decode cd_MO_codeword 42 = .ok (.ireturn, 1) := by decide +kernel
theorem dd_MO_feed_0 : decode cd_MO_feed 0 = .ok (.aload_n 0, 1) := by decide +kernel
theorem dd_MO_feed_1 : decode cd_MO_feed 1 = .ok (.aload_n 0, 1) := by decide +kernel
theorem dd_MO_feed_2 : decode cd_MO_feed 2 = .ok (.getfield 72, 3) := by decide +kernel
theorem dd_MO_feed_5 : decode cd_MO_feed 5 = .ok (.bipush 20, 2) := by decide +kernel
theorem dd_MO_feed_7 : decode cd_MO_feed 7 = .ok (.iadd, 1) := by decide +kernel
theorem dd_MO_feed_8 : decode cd_MO_feed 8 = .ok (.sipush 1200, 3) := by decide +kernel
theorem dd_MO_feed_11 : decode cd_MO_feed 11 = .ok (.if_icmp .le 7, 3) := by decide +kernel
theorem dd_MO_feed_18 : decode cd_MO_feed 18 = .ok (.iconst 0, 1) := by decide +kernel
theorem dd_MO_feed_19 : decode cd_MO_feed 19 = .ok (.putfield 68, 3) := by decide +kernel
theorem dd_MO_feed_22 : decode cd_MO_feed 22 = .ok (.aload_n 0, 1) := by decide +kernel
theorem dd_MO_feed_23 : decode cd_MO_feed 23 = .ok (.getfield 68, 3) := by decide +kernel
theorem dd_MO_feed_26 : decode cd_MO_feed 26 = .ok (.ifCond .le 5, 3) := by decide +kernel
theorem dd_MO_feed_31 : decode cd_MO_feed 31 = .ok (.iconst 0, 1) := by decide +kernel
theorem dd_MO_feed_32 : decode cd_MO_feed 32 = .ok (.istore 6, 2) := by decide +kernel
theorem dd_MO_feed_34 : decode cd_MO_feed 34 = .ok (.iload 6, 2) := by decide +kernel
theorem dd_MO_feed_36 : decode cd_MO_feed 36 = .ok (.bipush 20, 2) := by decide +kernel
theorem dd_MO_feed_38 : decode cd_MO_feed 38 = .ok (.if_icmp .ge 86, 3) := by decide +kernel
theorem dd_MO_feed_41 : decode cd_MO_feed 41 = .ok (.iload 6, 2) := by decide +kernel
theorem dd_MO_feed_43 : decode cd_MO_feed 43 = .ok (.iconst 4, 1) := by decide +kernel
theorem dd_MO_feed_44 : decode cd_MO_feed 44 = .ok (.if_icmp .ge 7, 3) := by decide +kernel
theorem dd_MO_feed_47 : decode cd_MO_feed 47 = .ok (.iload_n 1, 1) := by decide +kernel
theorem dd_MO_feed_48 : decode cd_MO_feed 48 = .ok (.goto 39, 3) := by decide +kernel
theorem dd_MO_feed_51 : decode cd_MO_feed 51 = .ok (.iload 6, 2) := by decide +kernel
theorem dd_MO_feed_53 : decode cd_MO_feed 53 = .ok (.bipush 8, 2) := by decide +kernel
theorem dd_MO_feed_55 : decode cd_MO_feed 55 = .ok (.if_icmp .ge 7, 3) := by decide +kernel
theorem dd_MO_feed_58 : decode cd_MO_feed 58 = .ok (.iload_n 2, 1) := by decide +kernel
theorem dd_MO_feed_59 : decode cd_MO_feed 59 = .ok (.goto 28, 3) := by decide +kernel
theorem dd_MO_feed_62 : decode cd_MO_feed 62 = .ok (.iload 6, 2) := by decide +kernel
theorem dd_MO_feed_64 : decode cd_MO_feed 64 = .ok (.bipush 12, 2) := by decide +kernel
theorem dd_MO_feed_66 : decode cd_MO_feed 66 = .ok (.if_icmp .ge 7, 3) := by decide +kernel
theorem dd_MO_feed_69 : decode cd_MO_feed 69 = .ok (.iload_n 3, 1) := by decide +kernel
theorem dd_MO_feed_70 : decode cd_MO_feed 70 = .ok (.goto 17, 3) := by decide +kernel
theorem dd_MO_feed_73 : decode cd_MO_feed 73 = .ok (.iload 6, 2) := by decide +kernel
theorem dd_MO_feed_75 : decode cd_MO_feed 75 = .ok (.bipush 16, 2) := by decide +kernel
theorem dd_MO_feed_77 : decode cd_MO_feed 77 = .ok (.if_icmp .ge 8, 3) := by decide +kernel
theorem dd_MO_feed_80 : decode cd_MO_feed 80 = .ok (.iload 4, 2) := by decide +kernel
theorem dd_MO_feed_82 : decode cd_MO_feed 82 = .ok (.goto 5, 3) := by decide +kernel
theorem dd_MO_feed_85 : decode cd_MO_feed 85 = .ok (.iload 5, 2) := by decide +kernel
theorem dd_MO_feed_87 : decode cd_MO_feed 87 = .ok (.istore 7, 2) := by decide +kernel
theorem dd_MO_feed_89 : decode cd_MO_feed 89 = .ok (.aload_n 0, 1) := by decide +kernel
theorem dd_MO_feed_90 : decode cd_MO_feed 90 = .ok (.getfield 7, 3) := by decide +kernel
theorem dd_MO_feed_93 : decode cd_MO_feed 93 = .ok (.aload_n 0, 1) := by decide +kernel
theorem dd_MO_feed_94 : decode cd_MO_feed 94 = .ok (.getfield 72, 3) := by decide +kernel
theorem dd_MO_feed_97 : decode cd_MO_feed 97 = .ok (.iload 6, 2) := by decide +kernel
theorem dd_MO_feed_99 : decode cd_MO_feed 99 = .ok (.iadd, 1) := by decide +kernel
theorem dd_MO_feed_100 : decode cd_MO_feed 100 = .ok (.iload 7, 2) := by decide +kernel
theorem dd_MO_feed_102 : decode cd_MO_feed 102 = .ok (.bipush 24, 2) := by decide +kernel
theorem dd_MO_feed_104 : decode cd_MO_feed 104 = .ok (.bipush 8, 2) := by decide +kernel
theorem dd_MO_feed_106 : decode cd_MO_feed 106 = .ok (.iload 6, 2) := by decide +kernel
theorem dd_MO_feed_108 : decode cd_MO_feed 108 = .ok (.iconst 4, 1) := by decide +kernel
theorem dd_MO_feed_109 : decode cd_MO_feed 109 = .ok (.irem, 1) := by decide +kernel
theorem dd_MO_feed_110 : decode cd_MO_feed 110 = .ok (.imul, 1) := by decide +kernel
theorem dd_MO_feed_111 : decode cd_MO_feed 111 = .ok (.isub, 1) := by decide +kernel
theorem dd_MO_feed_112 : decode cd_MO_feed 112 = .ok (.ishr, 1) := by decide +kernel
theorem dd_MO_feed_113 : decode cd_MO_feed 113 = .ok (.sipush 255, 3) := by decide +kernel
theorem dd_MO_feed_116 : decode cd_MO_feed 116 = .ok (.iand, 1) := by decide +kernel
theorem dd_MO_feed_117 : decode cd_MO_feed 117 = .ok (.iastore, 1) := by decide +kernel
theorem dd_MO_feed_118 : decode cd_MO_feed 118 = .ok (.iinc 6 1, 3) := by decide +kernel
theorem dd_MO_feed_121 : decode cd_MO_feed 121 = .ok (.goto (-87), 3) := by decide +kernel
theorem dd_MO_feed_124 : decode cd_MO_feed 124 = .ok (.aload_n 0, 1) := by decide +kernel
theorem dd_MO_feed_125 : decode cd_MO_feed 125 = .ok (.aload_n 0, 1) := by decide +kernel
theorem dd_MO_feed_126 : decode cd_MO_feed 126 = .ok (.getfield 72, 3) := by decide +kernel
theorem dd_MO_feed_129 : decode cd_MO_feed 129 = .ok (.bipush 20, 2) := by decide +kernel
theorem dd_MO_feed_131 : decode cd_MO_feed 131 = .ok (.iadd, 1) := by decide +kernel
theorem dd_MO_feed_132 : decode cd_MO_feed 132 = .ok (.putfield 72, 3) := by decide +kernel
theorem dd_MO_feed_135 : decode cd_MO_feed 135 = .ok (.aload_n 0, 1) := by decide +kernel
theorem dd_MO_feed_136 : decode cd_MO_feed 136 = .ok (.getfield 72, 3) := by decide +kernel
theorem dd_MO_feed_139 : decode cd_MO_feed 139 = .ok (.ireturn, 1) := by decide +kernel
theorem dd_MO_end_0 : decode cd_MO_end 0 = .ok (.aload_n 0, 1) := by decide +kernel
theorem dd_MO_end_1 : decode cd_MO_end 1 = .ok (.iload_n 1, 1) := by decide +kernel
theorem dd_MO_end_2 : decode cd_MO_end 2 = .ok (.ifCond .lt 15, 3) := by decide +kernel
theorem dd_MO_end_5 : decode cd_MO_end 5 = .ok (.iload_n 1, 1) := by decide +kernel
theorem dd_MO_end_6 : decode cd_MO_end 6 = .ok (.aload_n 0, 1) := by decide +kernel
theorem dd_MO_end_7 : decode cd_MO_end 7 = .ok (.getfield 72, 3) := by decide +kernel
theorem dd_MO_end_10 : decode cd_MO_end 10 = .ok (.if_icmp .gt 7, 3) := by decide +kernel
theorem dd_MO_end_13 : decode cd_MO_end 13 = .ok (.iconst 0, 1) := by decide +kernel
theorem dd_MO_end_14 : decode cd_MO_end 14 = .ok (.goto 4, 3) := by decide +kernel
theorem dd_MO_end_17 : decode cd_MO_end 17 = .ok (.iconst 1, 1) := by decide +kernel
theorem dd_MO_end_18 : decode cd_MO_end 18 = .ok (.putfield 68, 3) := by decide +kernel
theorem dd_MO_end_21 : decode cd_MO_end 21 = .ok (.aload_n 0, 1) := by decide +kernel
theorem dd_MO_end_22 : decode cd_MO_end 22 = .ok (.aload_n 0, 1) := by decide +kernel
theorem dd_MO_end_23 : decode cd_MO_end 23 = .ok (.getfield 68, 3) := by decide +kernel
theorem dd_MO_end_26 : decode cd_MO_end 26 = .ok (.ifCond .le 10, 3) := by decide +kernel
theorem dd_MO_end_29 : decode cd_MO_end 29 = .ok (.aload_n 0, 1) := by decide +kernel
theorem dd_MO_end_30 : decode cd_MO_end 30 = .ok (.getfield 72, 3) := by decide +kernel
theorem dd_MO_end_33 : decode cd_MO_end 33 = .ok (.goto 4, 3) := by decide +kernel
theorem dd_MO_end_36 : decode cd_MO_end 36 = .ok (.iload_n 1, 1) := by decide +kernel
theorem dd_MO_end_37 : decode cd_MO_end 37 = .ok (.putfield 72, 3) := by decide +kernel
theorem dd_MO_end_40 : decode cd_MO_end 40 = .ok (.return_, 1) := by decide +kernel
theorem dd_MO_byteAt_0 : decode cd_MO_byteAt 0 = .ok (.aload_n 0, 1) := by decide +kernel
theorem dd_MO_byteAt_1 : decode cd_MO_byteAt 1 = .ok (.iload_n 1, 1) := by decide +kernel
theorem dd_MO_byteAt_2 : decode cd_MO_byteAt 2 = .ok (.ifCond .lt 15, 3) := by decide +kernel
theorem dd_MO_byteAt_5 : decode cd_MO_byteAt 5 = .ok (.iload_n 1, 1) := by decide +kernel
theorem dd_MO_byteAt_6 : decode cd_MO_byteAt 6 = .ok (.aload_n 0, 1) := by decide +kernel
theorem dd_MO_byteAt_7 : decode cd_MO_byteAt 7 = .ok (.getfield 72, 3) := by decide +kernel
theorem dd_MO_byteAt_10 : decode cd_MO_byteAt 10 = .ok (.if_icmp .ge 7, 3) := by decide +kernel
theorem dd_MO_byteAt_17 : decode cd_MO_byteAt 17 = .ok (.iconst 1, 1) := by decide +kernel
theorem dd_MO_byteAt_18 : decode cd_MO_byteAt 18 = .ok (.putfield 68, 3) := by decide +kernel
theorem dd_MO_byteAt_21 : decode cd_MO_byteAt 21 = .ok (.aload_n 0, 1) := by decide +kernel
theorem dd_MO_byteAt_22 : decode cd_MO_byteAt 22 = .ok (.getfield 68, 3) := by decide +kernel
theorem dd_MO_byteAt_25 : decode cd_MO_byteAt 25 = .ok (.ifCond .le 7, 3) := by decide +kernel
theorem dd_MO_byteAt_28 : decode cd_MO_byteAt 28 = .ok (.iconst 0, 1) := by decide +kernel
theorem dd_MO_byteAt_29 : decode cd_MO_byteAt 29 = .ok (.goto 9, 3) := by decide +kernel
theorem dd_MO_byteAt_38 : decode cd_MO_byteAt 38 = .ok (.ireturn, 1) := by decide +kernel
theorem dd_MO_solve_0 : decode cd_MO_solve 0 = .ok (.aload_n 0, 1) := by decide +kernel
theorem dd_MO_solve_1 : decode cd_MO_solve 1 = .ok (.aload_n 0, 1) := by decide +kernel
theorem dd_MO_solve_2 : decode cd_MO_solve 2 = .ok (.getfield 134, 3) := by decide +kernel
theorem dd_MO_solve_5 : decode cd_MO_solve 5 = .ok (.ifCond .ne 7, 3) := by decide +kernel
theorem dd_MO_solve_8 : decode cd_MO_solve 8 = .ok (.iconst 1, 1) := by decide +kernel
theorem dd_MO_solve_9 : decode cd_MO_solve 9 = .ok (.goto 4, 3) := by decide +kernel
theorem dd_MO_solve_13 : decode cd_MO_solve 13 = .ok (.putfield 68, 3) := by decide +kernel
theorem dd_MO_solve_16 : decode cd_MO_solve 16 = .ok (.aload_n 0, 1) := by decide +kernel
theorem dd_MO_solve_17 : decode cd_MO_solve 17 = .ok (.getfield 68, 3) := by decide +kernel
theorem dd_MO_solve_20 : decode cd_MO_solve 20 = .ok (.ifCond .le 5, 3) := by decide +kernel
theorem dd_MO_solve_23 : decode cd_MO_solve 23 = .ok (.iconst 0, 1) := by decide +kernel
theorem dd_MO_solve_24 : decode cd_MO_solve 24 = .ok (.ireturn, 1) := by decide +kernel
theorem dd_MO_place_0 : decode cd_MO_place 0 = .ok (.aload_n 0, 1) := by decide +kernel
theorem dd_MO_place_1 : decode cd_MO_place 1 = .ok (.aload_n 0, 1) := by decide +kernel
theorem dd_MO_place_2 : decode cd_MO_place 2 = .ok (.getfield 134, 3) := by decide +kernel
theorem dd_MO_place_5 : decode cd_MO_place 5 = .ok (.ifCond .ne 7, 3) := by decide +kernel
theorem dd_MO_place_8 : decode cd_MO_place 8 = .ok (.iconst 1, 1) := by decide +kernel
theorem dd_MO_place_9 : decode cd_MO_place 9 = .ok (.goto 17, 3) := by decide +kernel
theorem dd_MO_place_26 : decode cd_MO_place 26 = .ok (.putfield 68, 3) := by decide +kernel
theorem dd_MO_place_29 : decode cd_MO_place 29 = .ok (.aload_n 0, 1) := by decide +kernel
theorem dd_MO_place_30 : decode cd_MO_place 30 = .ok (.getfield 68, 3) := by decide +kernel
theorem dd_MO_place_33 : decode cd_MO_place 33 = .ok (.ifCond .le 7, 3) := by decide +kernel
theorem dd_MO_place_36 : decode cd_MO_place 36 = .ok (.iconst 0, 1) := by decide +kernel
theorem dd_MO_place_37 : decode cd_MO_place 37 = .ok (.goto 14, 3) := by decide +kernel
theorem dd_MO_place_51 : decode cd_MO_place 51 = .ok (.ireturn, 1) := by decide +kernel
theorem dd_MO_put_0 : decode cd_MO_put 0 = .ok (.aload_n 0, 1) := by decide +kernel
theorem dd_MO_put_1 : decode cd_MO_put 1 = .ok (.aload_n 0, 1) := by decide +kernel
theorem dd_MO_put_2 : decode cd_MO_put 2 = .ok (.getfield 134, 3) := by decide +kernel
theorem dd_MO_put_5 : decode cd_MO_put 5 = .ok (.ifCond .ne 7, 3) := by decide +kernel
theorem dd_MO_put_8 : decode cd_MO_put 8 = .ok (.iconst 1, 1) := by decide +kernel
theorem dd_MO_put_9 : decode cd_MO_put 9 = .ok (.goto 33, 3) := by decide +kernel
theorem dd_MO_put_42 : decode cd_MO_put 42 = .ok (.putfield 68, 3) := by decide +kernel
theorem dd_MO_put_45 : decode cd_MO_put 45 = .ok (.aload_n 0, 1) := by decide +kernel
theorem dd_MO_put_46 : decode cd_MO_put 46 = .ok (.getfield 68, 3) := by decide +kernel
theorem dd_MO_put_49 : decode cd_MO_put 49 = .ok (.ifCond .ne 15, 3) := by decide +kernel
theorem dd_MO_put_64 : decode cd_MO_put 64 = .ok (.return_, 1) := by decide +kernel
theorem dd_MO_solved_0 : decode cd_MO_solved 0 = .ok (.aload_n 0, 1) := by decide +kernel
theorem dd_MO_solved_1 : decode cd_MO_solved 1 = .ok (.iload_n 1, 1) := by decide +kernel
theorem dd_MO_solved_2 : decode cd_MO_solved 2 = .ok (.ifCond .lt 12, 3) := by decide +kernel
theorem dd_MO_solved_5 : decode cd_MO_solved 5 = .ok (.iload_n 1, 1) := by decide +kernel
theorem dd_MO_solved_6 : decode cd_MO_solved 6 = .ok (.iconst 3, 1) := by decide +kernel
theorem dd_MO_solved_7 : decode cd_MO_solved 7 = .ok (.if_icmp .gt 7, 3) := by decide +kernel
theorem dd_MO_solved_10 : decode cd_MO_solved 10 = .ok (.iconst 0, 1) := by decide +kernel
theorem dd_MO_solved_11 : decode cd_MO_solved 11 = .ok (.goto 4, 3) := by decide +kernel
theorem dd_MO_solved_14 : decode cd_MO_solved 14 = .ok (.iconst 1, 1) := by decide +kernel
theorem dd_MO_solved_15 : decode cd_MO_solved 15 = .ok (.putfield 68, 3) := by decide +kernel
theorem dd_MO_solved_18 : decode cd_MO_solved 18 = .ok (.aload_n 0, 1) := by decide +kernel
theorem dd_MO_solved_19 : decode cd_MO_solved 19 = .ok (.getfield 68, 3) := by decide +kernel
theorem dd_MO_solved_22 : decode cd_MO_solved 22 = .ok (.ifCond .le 5, 3) := by decide +kernel
theorem dd_MO_solved_25 : decode cd_MO_solved 25 = .ok (.iconst 0, 1) := by decide +kernel
theorem dd_MO_solved_26 : decode cd_MO_solved 26 = .ok (.ireturn, 1) := by decide +kernel
theorem dd_MO_solved_27 : decode cd_MO_solved 27 = .ok (.iload_n 1, 1) := by decide +kernel
theorem dd_MO_solved_28 : decode cd_MO_solved 28 = .ok (.ifCond .ne 10, 3) := by decide +kernel
theorem dd_MO_solved_31 : decode cd_MO_solved 31 = .ok (.aload_n 0, 1) := by decide +kernel
theorem dd_MO_solved_32 : decode cd_MO_solved 32 = .ok (.getfield 198, 3) := by decide +kernel
theorem dd_MO_solved_35 : decode cd_MO_solved 35 = .ok (.goto 31, 3) := by decide +kernel
theorem dd_MO_solved_38 : decode cd_MO_solved 38 = .ok (.iload_n 1, 1) := by decide +kernel
theorem dd_MO_solved_39 : decode cd_MO_solved 39 = .ok (.iconst 1, 1) := by decide +kernel
theorem dd_MO_solved_40 : decode cd_MO_solved 40 = .ok (.if_icmp .ne 10, 3) := by decide +kernel
theorem dd_MO_solved_43 : decode cd_MO_solved 43 = .ok (.aload_n 0, 1) := by decide +kernel
theorem dd_MO_solved_44 : decode cd_MO_solved 44 = .ok (.getfield 201, 3) := by decide +kernel
theorem dd_MO_solved_47 : decode cd_MO_solved 47 = .ok (.goto 19, 3) := by decide +kernel
theorem dd_MO_solved_50 : decode cd_MO_solved 50 = .ok (.iload_n 1, 1) := by decide +kernel
theorem dd_MO_solved_51 : decode cd_MO_solved 51 = .ok (.iconst 2, 1) := by decide +kernel
theorem dd_MO_solved_52 : decode cd_MO_solved 52 = .ok (.if_icmp .ne 10, 3) := by decide +kernel
theorem dd_MO_solved_55 : decode cd_MO_solved 55 = .ok (.aload_n 0, 1) := by decide +kernel
theorem dd_MO_solved_56 : decode cd_MO_solved 56 = .ok (.getfield 192, 3) := by decide +kernel
theorem dd_MO_solved_59 : decode cd_MO_solved 59 = .ok (.goto 7, 3) := by decide +kernel
theorem dd_MO_solved_62 : decode cd_MO_solved 62 = .ok (.aload_n 0, 1) := by decide +kernel
theorem dd_MO_solved_63 : decode cd_MO_solved 63 = .ok (.getfield 228, 3) := by decide +kernel
theorem dd_MO_solved_66 : decode cd_MO_solved 66 = .ok (.ireturn, 1) := by decide +kernel
theorem dd_MO_count_0 : decode cd_MO_count 0 = .ok (.aload_n 0, 1) := by decide +kernel
theorem dd_MO_count_1 : decode cd_MO_count 1 = .ok (.iload_n 1, 1) := by decide +kernel
theorem dd_MO_count_2 : decode cd_MO_count 2 = .ok (.ifCond .lt 12, 3) := by decide +kernel
theorem dd_MO_count_5 : decode cd_MO_count 5 = .ok (.iload_n 1, 1) := by decide +kernel
theorem dd_MO_count_6 : decode cd_MO_count 6 = .ok (.iconst 2, 1) := by decide +kernel
theorem dd_MO_count_7 : decode cd_MO_count 7 = .ok (.if_icmp .gt 7, 3) := by decide +kernel
theorem dd_MO_count_10 : decode cd_MO_count 10 = .ok (.iconst 0, 1) := by decide +kernel
theorem dd_MO_count_11 : decode cd_MO_count 11 = .ok (.goto 4, 3) := by decide +kernel
theorem dd_MO_count_14 : decode cd_MO_count 14 = .ok (.iconst 1, 1) := by decide +kernel
theorem dd_MO_count_15 : decode cd_MO_count 15 = .ok (.putfield 68, 3) := by decide +kernel
theorem dd_MO_count_18 : decode cd_MO_count 18 = .ok (.aload_n 0, 1) := by decide +kernel
theorem dd_MO_count_19 : decode cd_MO_count 19 = .ok (.getfield 68, 3) := by decide +kernel
theorem dd_MO_count_22 : decode cd_MO_count 22 = .ok (.ifCond .le 7, 3) := by decide +kernel
theorem dd_MO_count_25 : decode cd_MO_count 25 = .ok (.iconst 0, 1) := by decide +kernel
theorem dd_MO_count_26 : decode cd_MO_count 26 = .ok (.goto 30, 3) := by decide +kernel
theorem dd_MO_count_29 : decode cd_MO_count 29 = .ok (.iload_n 1, 1) := by decide +kernel
theorem dd_MO_count_30 : decode cd_MO_count 30 = .ok (.ifCond .ne 10, 3) := by decide +kernel
theorem dd_MO_count_33 : decode cd_MO_count 33 = .ok (.aload_n 0, 1) := by decide +kernel
theorem dd_MO_count_34 : decode cd_MO_count 34 = .ok (.getfield 72, 3) := by decide +kernel
theorem dd_MO_count_37 : decode cd_MO_count 37 = .ok (.goto 19, 3) := by decide +kernel
theorem dd_MO_count_40 : decode cd_MO_count 40 = .ok (.iload_n 1, 1) := by decide +kernel
theorem dd_MO_count_41 : decode cd_MO_count 41 = .ok (.iconst 1, 1) := by decide +kernel
theorem dd_MO_count_42 : decode cd_MO_count 42 = .ok (.if_icmp .ne 10, 3) := by decide +kernel
theorem dd_MO_count_45 : decode cd_MO_count 45 = .ok (.aload_n 0, 1) := by decide +kernel
theorem dd_MO_count_46 : decode cd_MO_count 46 = .ok (.getfield 134, 3) := by decide +kernel
theorem dd_MO_count_49 : decode cd_MO_count 49 = .ok (.goto 7, 3) := by decide +kernel
theorem dd_MO_count_52 : decode cd_MO_count 52 = .ok (.aload_n 0, 1) := by decide +kernel
theorem dd_MO_count_53 : decode cd_MO_count 53 = .ok (.getfield 137, 3) := by decide +kernel
theorem dd_MO_count_56 : decode cd_MO_count 56 = .ok (.ireturn, 1) := by decide +kernel
theorem dd_MO_make_0 : decode cd_MO_make 0 = .ok (.aload_n 0, 1) := by decide +kernel
theorem dd_MO_make_1 : decode cd_MO_make 1 = .ok (.iload_n 1, 1) := by decide +kernel
theorem dd_MO_make_2 : decode cd_MO_make 2 = .ok (.ifCond .lt 24, 3) := by decide +kernel
theorem dd_MO_make_5 : decode cd_MO_make 5 = .ok (.iload_n 1, 1) := by decide +kernel
theorem dd_MO_make_6 : decode cd_MO_make 6 = .ok (.bipush 8, 2) := by decide +kernel
theorem dd_MO_make_8 : decode cd_MO_make 8 = .ok (.if_icmp .gt 18, 3) := by decide +kernel
theorem dd_MO_make_11 : decode cd_MO_make 11 = .ok (.iload_n 2, 1) := by decide +kernel
theorem dd_MO_make_12 : decode cd_MO_make 12 = .ok (.iconst 1, 1) := by decide +kernel
theorem dd_MO_make_13 : decode cd_MO_make 13 = .ok (.if_icmp .lt 13, 3) := by decide +kernel
theorem dd_MO_make_16 : decode cd_MO_make 16 = .ok (.iload_n 2, 1) := by decide +kernel
theorem dd_MO_make_17 : decode cd_MO_make 17 = .ok (.bipush 30, 2) := by decide +kernel
theorem dd_MO_make_19 : decode cd_MO_make 19 = .ok (.if_icmp .gt 7, 3) := by decide +kernel
theorem dd_MO_make_22 : decode cd_MO_make 22 = .ok (.iconst 0, 1) := by decide +kernel
theorem dd_MO_make_23 : decode cd_MO_make 23 = .ok (.goto 4, 3) := by decide +kernel
theorem dd_MO_make_26 : decode cd_MO_make 26 = .ok (.iconst 1, 1) := by decide +kernel
theorem dd_MO_make_27 : decode cd_MO_make 27 = .ok (.putfield 68, 3) := by decide +kernel
theorem dd_MO_make_30 : decode cd_MO_make 30 = .ok (.aload_n 0, 1) := by decide +kernel
theorem dd_MO_make_31 : decode cd_MO_make 31 = .ok (.getfield 68, 3) := by decide +kernel
theorem dd_MO_make_34 : decode cd_MO_make 34 = .ok (.ifCond .le 5, 3) := by decide +kernel
theorem dd_MO_make_37 : decode cd_MO_make 37 = .ok (.iconst 0, 1) := by decide +kernel
theorem dd_MO_make_38 : decode cd_MO_make 38 = .ok (.ireturn, 1) := by decide +kernel
theorem dd_MO_make_39 : decode cd_MO_make 39 = .ok (.aload_n 0, 1) := by decide +kernel
theorem dd_MO_make_40 : decode cd_MO_make 40 = .ok (.invokevirtual 131, 3) := by decide +kernel
theorem dd_MO_make_43 : decode cd_MO_make 43 = .ok (.iconst 2, 1) := by decide +kernel
theorem dd_MO_make_44 : decode cd_MO_make 44 = .ok (.iload_n 1, 1) := by decide +kernel
theorem dd_MO_make_45 : decode cd_MO_make 45 = .ok (.ishl, 1) := by decide +kernel
theorem dd_MO_make_46 : decode cd_MO_make 46 = .ok (.istore_n 3, 1) := by decide +kernel
theorem dd_MO_make_47 : decode cd_MO_make 47 = .ok (.iconst 1, 1) := by decide +kernel
theorem dd_MO_make_48 : decode cd_MO_make 48 = .ok (.aload_n 0, 1) := by decide +kernel
theorem dd_MO_make_49 : decode cd_MO_make 49 = .ok (.getfield 89, 3) := by decide +kernel
theorem dd_MO_make_52 : decode cd_MO_make 52 = .ok (.iadd, 1) := by decide +kernel
theorem dd_MO_make_53 : decode cd_MO_make 53 = .ok (.iload_n 3, 1) := by decide +kernel
theorem dd_MO_make_54 : decode cd_MO_make 54 = .ok (.iadd, 1) := by decide +kernel
theorem dd_MO_make_55 : decode cd_MO_make 55 = .ok (.iload_n 2, 1) := by decide +kernel
theorem dd_MO_make_56 : decode cd_MO_make 56 = .ok (.iadd, 1) := by decide +kernel
theorem dd_MO_make_57 : decode cd_MO_make 57 = .ok (.iconst 1, 1) := by decide +kernel
theorem dd_MO_make_58 : decode cd_MO_make 58 = .ok (.isub, 1) := by decide +kernel
theorem dd_MO_make_59 : decode cd_MO_make 59 = .ok (.iload_n 2, 1) := by decide +kernel
theorem dd_MO_make_60 : decode cd_MO_make 60 = .ok (.idiv, 1) := by decide +kernel
theorem dd_MO_make_61 : decode cd_MO_make 61 = .ok (.istore 4, 2) := by decide +kernel
theorem dd_MO_make_63 : decode cd_MO_make 63 = .ok (.iload 4, 2) := by decide +kernel
theorem dd_MO_make_65 : decode cd_MO_make 65 = .ok (.iconst 3, 1) := by decide +kernel
theorem dd_MO_make_66 : decode cd_MO_make 66 = .ok (.if_icmp .ge 7, 3) := by decide +kernel
theorem dd_MO_make_69 : decode cd_MO_make 69 = .ok (.iconst 3, 1) := by decide +kernel
theorem dd_MO_make_70 : decode cd_MO_make 70 = .ok (.goto 5, 3) := by decide +kernel
theorem dd_MO_make_73 : decode cd_MO_make 73 = .ok (.iload 4, 2) := by decide +kernel
theorem dd_MO_make_75 : decode cd_MO_make 75 = .ok (.istore 4, 2) := by decide +kernel
theorem dd_MO_make_77 : decode cd_MO_make 77 = .ok (.aload_n 0, 1) := by decide +kernel
theorem dd_MO_make_78 : decode cd_MO_make 78 = .ok (.iload 4, 2) := by decide +kernel
theorem dd_MO_make_80 : decode cd_MO_make 80 = .ok (.bipush 90, 2) := by decide +kernel
theorem dd_MO_make_82 : decode cd_MO_make 82 = .ok (.if_icmp .gt 13, 3) := by decide +kernel
theorem dd_MO_make_85 : decode cd_MO_make 85 = .ok (.iload 4, 2) := by decide +kernel
theorem dd_MO_make_87 : decode cd_MO_make 87 = .ok (.iload_n 2, 1) := by decide +kernel
theorem dd_MO_make_88 : decode cd_MO_make 88 = .ok (.imul, 1) := by decide +kernel
theorem dd_MO_make_89 : decode cd_MO_make 89 = .ok (.sipush 928, 3) := by decide +kernel
theorem dd_MO_make_92 : decode cd_MO_make 92 = .ok (.if_icmp .le 7, 3) := by decide +kernel
theorem dd_MO_make_95 : decode cd_MO_make 95 = .ok (.iconst 2, 1) := by decide +kernel
theorem dd_MO_make_96 : decode cd_MO_make 96 = .ok (.goto 4, 3) := by decide +kernel
theorem dd_MO_make_99 : decode cd_MO_make 99 = .ok (.iconst 0, 1) := by decide +kernel
theorem dd_MO_make_100 : decode cd_MO_make 100 = .ok (.putfield 68, 3) := by decide +kernel
theorem dd_MO_make_103 : decode cd_MO_make 103 = .ok (.aload_n 0, 1) := by decide +kernel
theorem dd_MO_make_104 : decode cd_MO_make 104 = .ok (.getfield 68, 3) := by decide +kernel
theorem dd_MO_make_107 : decode cd_MO_make 107 = .ok (.ifCond .le 5, 3) := by decide +kernel
theorem dd_MO_make_110 : decode cd_MO_make 110 = .ok (.iconst 0, 1) := by decide +kernel
theorem dd_MO_make_111 : decode cd_MO_make 111 = .ok (.ireturn, 1) := by decide +kernel
theorem dd_MO_make_112 : decode cd_MO_make 112 = .ok (.aload_n 0, 1) := by decide +kernel
theorem dd_MO_make_113 : decode cd_MO_make 113 = .ok (.iload 4, 2) := by decide +kernel
theorem dd_MO_make_115 : decode cd_MO_make 115 = .ok (.putfield 134, 3) := by decide +kernel
theorem dd_MO_make_118 : decode cd_MO_make 118 = .ok (.aload_n 0, 1) := by decide +kernel
theorem dd_MO_make_119 : decode cd_MO_make 119 = .ok (.iload_n 2, 1) := by decide +kernel
theorem dd_MO_make_120 : decode cd_MO_make 120 = .ok (.putfield 137, 3) := by decide +kernel
theorem dd_MO_make_123 : decode cd_MO_make 123 = .ok (.aload_n 0, 1) := by decide +kernel
theorem dd_MO_make_124 : decode cd_MO_make 124 = .ok (.getfield 134, 3) := by decide +kernel
theorem dd_MO_make_127 : decode cd_MO_make 127 = .ok (.aload_n 0, 1) := by decide +kernel
theorem dd_MO_make_128 : decode cd_MO_make 128 = .ok (.getfield 137, 3) := by decide +kernel
theorem dd_MO_make_131 : decode cd_MO_make 131 = .ok (.imul, 1) := by decide +kernel
theorem dd_MO_make_132 : decode cd_MO_make 132 = .ok (.istore 5, 2) := by decide +kernel
theorem dd_MO_make_134 : decode cd_MO_make 134 = .ok (.iconst 0, 1) := by decide +kernel
theorem dd_MO_make_135 : decode cd_MO_make 135 = .ok (.istore 6, 2) := by decide +kernel
theorem dd_MO_make_137 : decode cd_MO_make 137 = .ok (.iload 6, 2) := by decide +kernel
theorem dd_MO_make_139 : decode cd_MO_make 139 = .ok (.iload 5, 2) := by decide +kernel
theorem dd_MO_make_141 : decode cd_MO_make 141 = .ok (.iload_n 3, 1) := by decide +kernel
theorem dd_MO_make_142 : decode cd_MO_make 142 = .ok (.isub, 1) := by decide +kernel
theorem dd_MO_make_143 : decode cd_MO_make 143 = .ok (.if_icmp .ge 52, 3) := by decide +kernel
theorem dd_MO_make_146 : decode cd_MO_make 146 = .ok (.aload_n 0, 1) := by decide +kernel
theorem dd_MO_make_147 : decode cd_MO_make 147 = .ok (.getfield 25, 3) := by decide +kernel
theorem dd_MO_make_150 : decode cd_MO_make 150 = .ok (.iload 6, 2) := by decide +kernel
theorem dd_MO_make_152 : decode cd_MO_make 152 = .ok (.iload 6, 2) := by decide +kernel
theorem dd_MO_make_154 : decode cd_MO_make 154 = .ok (.ifCond .ne 10, 3) := by decide +kernel
theorem dd_MO_make_157 : decode cd_MO_make 157 = .ok (.iload 5, 2) := by decide +kernel
theorem dd_MO_make_159 : decode cd_MO_make 159 = .ok (.iload_n 3, 1) := by decide +kernel
theorem dd_MO_make_160 : decode cd_MO_make 160 = .ok (.isub, 1) := by decide +kernel
theorem dd_MO_make_161 : decode cd_MO_make 161 = .ok (.goto 27, 3) := by decide +kernel
theorem dd_MO_make_164 : decode cd_MO_make 164 = .ok (.iload 6, 2) := by decide +kernel
theorem dd_MO_make_166 : decode cd_MO_make 166 = .ok (.aload_n 0, 1) := by decide +kernel
theorem dd_MO_make_167 : decode cd_MO_make 167 = .ok (.getfield 89, 3) := by decide +kernel
theorem dd_MO_make_170 : decode cd_MO_make 170 = .ok (.if_icmp .gt 15, 3) := by decide +kernel
theorem dd_MO_make_185 : decode cd_MO_make 185 = .ok (.sipush 900, 3) := by decide +kernel
theorem dd_MO_make_188 : decode cd_MO_make 188 = .ok (.iastore, 1) := by decide +kernel
theorem dd_MO_make_189 : decode cd_MO_make 189 = .ok (.iinc 6 1, 3) := by decide +kernel
theorem dd_MO_make_192 : decode cd_MO_make 192 = .ok (.goto (-55), 3) := by decide +kernel
theorem dd_MO_make_195 : decode cd_MO_make 195 = .ok (.aload_n 0, 1) := by decide +kernel
theorem dd_MO_make_196 : decode cd_MO_make 196 = .ok (.iload 5, 2) := by decide +kernel
theorem dd_MO_make_198 : decode cd_MO_make 198 = .ok (.iload_n 3, 1) := by decide +kernel
theorem dd_MO_make_199 : decode cd_MO_make 199 = .ok (.invokevirtual 143, 3) := by decide +kernel
theorem dd_MO_make_202 : decode cd_MO_make 202 = .ok (.iconst 0, 1) := by decide +kernel
theorem dd_MO_make_203 : decode cd_MO_make 203 = .ok (.istore 6, 2) := by decide +kernel
theorem dd_MO_make_205 : decode cd_MO_make 205 = .ok (.iload 6, 2) := by decide +kernel
theorem dd_MO_make_207 : decode cd_MO_make 207 = .ok (.iload 5, 2) := by decide +kernel
theorem dd_MO_make_209 : decode cd_MO_make 209 = .ok (.if_icmp .ge 27, 3) := by decide +kernel
theorem dd_MO_make_212 : decode cd_MO_make 212 = .ok (.aload_n 0, 1) := by decide +kernel
theorem dd_MO_make_213 : decode cd_MO_make 213 = .ok (.getfield 22, 3) := by decide +kernel
theorem dd_MO_make_216 : decode cd_MO_make 216 = .ok (.aload_n 0, 1) := by decide +kernel
theorem dd_MO_make_217 : decode cd_MO_make 217 = .ok (.iload 6, 2) := by decide +kernel
theorem dd_MO_make_219 : decode cd_MO_make 219 = .ok (.invokevirtual 146, 3) := by decide +kernel
theorem dd_MO_make_222 : decode cd_MO_make 222 = .ok (.aload_n 0, 1) := by decide +kernel
theorem dd_MO_make_223 : decode cd_MO_make 223 = .ok (.getfield 25, 3) := by decide +kernel
theorem dd_MO_make_226 : decode cd_MO_make 226 = .ok (.iload 6, 2) := by decide +kernel
theorem dd_MO_make_228 : decode cd_MO_make 228 = .ok (.iaload, 1) := by decide +kernel
theorem dd_MO_make_229 : decode cd_MO_make 229 = .ok (.iastore, 1) := by decide +kernel
theorem dd_MO_make_230 : decode cd_MO_make 230 = .ok (.iinc 6 1, 3) := by decide +kernel
theorem dd_MO_make_233 : decode cd_MO_make 233 = .ok (.goto (-28), 3) := by decide +kernel
theorem dd_MO_make_236 : decode cd_MO_make 236 = .ok (.iconst 0, 1) := by decide +kernel
theorem dd_MO_make_237 : decode cd_MO_make 237 = .ok (.istore 6, 2) := by decide +kernel
theorem dd_MO_make_239 : decode cd_MO_make 239 = .ok (.iload 6, 2) := by decide +kernel
theorem dd_MO_make_241 : decode cd_MO_make 241 = .ok (.aload_n 0, 1) := by decide +kernel
theorem dd_MO_make_242 : decode cd_MO_make 242 = .ok (.getfield 134, 3) := by decide +kernel
theorem dd_MO_make_245 : decode cd_MO_make 245 = .ok (.if_icmp .ge 54, 3) := by decide +kernel
theorem dd_MO_make_248 : decode cd_MO_make 248 = .ok (.aload_n 0, 1) := by decide +kernel
theorem dd_MO_make_249 : decode cd_MO_make 249 = .ok (.getfield 22, 3) := by decide +kernel
theorem dd_MO_make_252 : decode cd_MO_make 252 = .ok (.aload_n 0, 1) := by decide +kernel
theorem dd_MO_make_253 : decode cd_MO_make 253 = .ok (.iload 6, 2) := by decide +kernel
theorem dd_MO_make_255 : decode cd_MO_make 255 = .ok (.iconst 0, 1) := by decide +kernel
theorem dd_MO_make_256 : decode cd_MO_make 256 = .ok (.invokevirtual 140, 3) := by decide +kernel
theorem dd_MO_make_259 : decode cd_MO_make 259 = .ok (.aload_n 0, 1) := by decide +kernel
theorem dd_MO_make_260 : decode cd_MO_make 260 = .ok (.iload 6, 2) := by decide +kernel
theorem dd_MO_make_262 : decode cd_MO_make 262 = .ok (.iconst 0, 1) := by decide +kernel
theorem dd_MO_make_263 : decode cd_MO_make 263 = .ok (.iload_n 1, 1) := by decide +kernel
theorem dd_MO_make_264 : decode cd_MO_make 264 = .ok (.invokevirtual 149, 3) := by decide +kernel
theorem dd_MO_make_267 : decode cd_MO_make 267 = .ok (.iastore, 1) := by decide +kernel
theorem dd_MO_make_268 : decode cd_MO_make 268 = .ok (.aload_n 0, 1) := by decide +kernel
theorem dd_MO_make_269 : decode cd_MO_make 269 = .ok (.getfield 22, 3) := by decide +kernel
theorem dd_MO_make_272 : decode cd_MO_make 272 = .ok (.aload_n 0, 1) := by decide +kernel
theorem dd_MO_make_273 : decode cd_MO_make 273 = .ok (.iload 6, 2) := by decide +kernel
theorem dd_MO_make_275 : decode cd_MO_make 275 = .ok (.aload_n 0, 1) := by decide +kernel
theorem dd_MO_make_276 : decode cd_MO_make 276 = .ok (.getfield 137, 3) := by decide +kernel
theorem dd_MO_make_279 : decode cd_MO_make 279 = .ok (.iconst 1, 1) := by decide +kernel
theorem dd_MO_make_280 : decode cd_MO_make 280 = .ok (.iadd, 1) := by decide +kernel
theorem dd_MO_make_281 : decode cd_MO_make 281 = .ok (.invokevirtual 140, 3) := by decide +kernel
theorem dd_MO_make_284 : decode cd_MO_make 284 = .ok (.aload_n 0, 1) := by decide +kernel
theorem dd_MO_make_285 : decode cd_MO_make 285 = .ok (.iload 6, 2) := by decide +kernel
theorem dd_MO_make_287 : decode cd_MO_make 287 = .ok (.iconst 1, 1) := by decide +kernel
theorem dd_MO_make_288 : decode cd_MO_make 288 = .ok (.iload_n 1, 1) := by decide +kernel
theorem dd_MO_make_289 : decode cd_MO_make 289 = .ok (.invokevirtual 149, 3) := by decide +kernel
theorem dd_MO_make_292 : decode cd_MO_make 292 = .ok (.iastore, 1) := by decide +kernel
theorem dd_MO_make_293 : decode cd_MO_make 293 = .ok (.iinc 6 1, 3) := by decide +kernel
theorem dd_MO_make_296 : decode cd_MO_make 296 = .ok (.goto (-57), 3) := by decide +kernel
theorem dd_MO_make_299 : decode cd_MO_make 299 = .ok (.aload_n 0, 1) := by decide +kernel
theorem dd_MO_make_300 : decode cd_MO_make 300 = .ok (.getfield 134, 3) := by decide +kernel
theorem dd_MO_make_303 : decode cd_MO_make 303 = .ok (.ireturn, 1) := by decide +kernel
theorem dd_MO_at_0 : decode cd_MO_at 0 = .ok (.iload_n 1, 1) := by decide +kernel
theorem dd_MO_at_1 : decode cd_MO_at 1 = .ok (.aload_n 0, 1) := by decide +kernel
theorem dd_MO_at_2 : decode cd_MO_at 2 = .ok (.getfield 137, 3) := by decide +kernel
theorem dd_MO_at_5 : decode cd_MO_at 5 = .ok (.iconst 2, 1) := by decide +kernel
theorem dd_MO_at_6 : decode cd_MO_at 6 = .ok (.iadd, 1) := by decide +kernel
theorem dd_MO_at_7 : decode cd_MO_at 7 = .ok (.imul, 1) := by decide +kernel
theorem dd_MO_at_8 : decode cd_MO_at 8 = .ok (.iload_n 2, 1) := by decide +kernel
theorem dd_MO_at_9 : decode cd_MO_at 9 = .ok (.iadd, 1) := by decide +kernel
theorem dd_MO_at_10 : decode cd_MO_at 10 = .ok (.ireturn, 1) := by decide +kernel
theorem dd_MO_placeOf_0 : decode cd_MO_placeOf 0 = .ok (.aload_n 0, 1) := by decide +kernel
theorem dd_MO_placeOf_1 : decode cd_MO_placeOf 1 = .ok (.iload_n 1, 1) := by decide +kernel
theorem dd_MO_placeOf_2 : decode cd_MO_placeOf 2 = .ok (.aload_n 0, 1) := by decide +kernel
theorem dd_MO_placeOf_3 : decode cd_MO_placeOf 3 = .ok (.getfield 137, 3) := by decide +kernel
theorem dd_MO_placeOf_6 : decode cd_MO_placeOf 6 = .ok (.idiv, 1) := by decide +kernel
theorem dd_MO_placeOf_7 : decode cd_MO_placeOf 7 = .ok (.iconst 1, 1) := by decide +kernel
theorem dd_MO_placeOf_8 : decode cd_MO_placeOf 8 = .ok (.iload_n 1, 1) := by decide +kernel
theorem dd_MO_placeOf_9 : decode cd_MO_placeOf 9 = .ok (.aload_n 0, 1) := by decide +kernel
theorem dd_MO_placeOf_10 : decode cd_MO_placeOf 10 = .ok (.getfield 137, 3) := by decide +kernel
theorem dd_MO_placeOf_13 : decode cd_MO_placeOf 13 = .ok (.irem, 1) := by decide +kernel
theorem dd_MO_placeOf_14 : decode cd_MO_placeOf 14 = .ok (.iadd, 1) := by decide +kernel
theorem dd_MO_placeOf_15 : decode cd_MO_placeOf 15 = .ok (.invokevirtual 140, 3) := by decide +kernel
theorem dd_MO_placeOf_18 : decode cd_MO_placeOf 18 = .ok (.ireturn, 1) := by decide +kernel
theorem dd_MO_indicator_0 : decode cd_MO_indicator 0 = .ok (.iload_n 2, 1) := by decide +kernel
theorem dd_MO_indicator_1 : decode cd_MO_indicator 1 = .ok (.ifCond .eq 11, 3) := by decide +kernel
theorem dd_MO_indicator_4 : decode cd_MO_indicator 4 = .ok (.iload_n 1, 1) := by decide +kernel
theorem dd_MO_indicator_5 : decode cd_MO_indicator 5 = .ok (.iconst 2, 1) := by decide +kernel
theorem dd_MO_indicator_6 : decode cd_MO_indicator 6 = .ok (.iadd, 1) := by decide +kernel
theorem dd_MO_indicator_7 : decode cd_MO_indicator 7 = .ok (.iconst 3, 1) := by decide +kernel
theorem dd_MO_indicator_8 : decode cd_MO_indicator 8 = .ok (.irem, 1) := by decide +kernel
theorem dd_MO_indicator_9 : decode cd_MO_indicator 9 = .ok (.goto 6, 3) := by decide +kernel
theorem dd_MO_indicator_12 : decode cd_MO_indicator 12 = .ok (.iload_n 1, 1) := by decide +kernel
theorem dd_MO_indicator_13 : decode cd_MO_indicator 13 = .ok (.iconst 3, 1) := by decide +kernel
theorem dd_MO_indicator_14 : decode cd_MO_indicator 14 = .ok (.irem, 1) := by decide +kernel
theorem dd_MO_indicator_15 : decode cd_MO_indicator 15 = .ok (.istore 4, 2) := by decide +kernel
theorem dd_MO_indicator_17 : decode cd_MO_indicator 17 = .ok (.iload 4, 2) := by decide +kernel
theorem dd_MO_indicator_19 : decode cd_MO_indicator 19 = .ok (.ifCond .ne 14, 3) := by decide +kernel
theorem dd_MO_indicator_22 : decode cd_MO_indicator 22 = .ok (.aload_n 0, 1) := by decide +kernel
theorem dd_MO_indicator_23 : decode cd_MO_indicator 23 = .ok (.getfield 134, 3) := by decide +kernel
theorem dd_MO_indicator_26 : decode cd_MO_indicator 26 = .ok (.iconst 1, 1) := by decide +kernel
theorem dd_MO_indicator_27 : decode cd_MO_indicator 27 = .ok (.isub, 1) := by decide +kernel
theorem dd_MO_indicator_28 : decode cd_MO_indicator 28 = .ok (.iconst 3, 1) := by decide +kernel
theorem dd_MO_indicator_29 : decode cd_MO_indicator 29 = .ok (.idiv, 1) := by decide +kernel
theorem dd_MO_indicator_30 : decode cd_MO_indicator 30 = .ok (.goto 30, 3) := by decide +kernel
theorem dd_MO_indicator_33 : decode cd_MO_indicator 33 = .ok (.iload 4, 2) := by decide +kernel
theorem dd_MO_indicator_35 : decode cd_MO_indicator 35 = .ok (.iconst 1, 1) := by decide +kernel
theorem dd_MO_indicator_36 : decode cd_MO_indicator 36 = .ok (.if_icmp .ne 18, 3) := by decide +kernel
theorem dd_MO_indicator_39 : decode cd_MO_indicator 39 = .ok (.iconst 3, 1) := by decide +kernel
theorem dd_MO_indicator_40 : decode cd_MO_indicator 40 = .ok (.iload_n 3, 1) := by decide +kernel
theorem dd_MO_indicator_41 : decode cd_MO_indicator 41 = .ok (.imul, 1) := by decide +kernel
theorem dd_MO_indicator_42 : decode cd_MO_indicator 42 = .ok (.aload_n 0, 1) := by decide +kernel
theorem dd_MO_indicator_43 : decode cd_MO_indicator 43 = .ok (.getfield 134, 3) := by decide +kernel
theorem dd_MO_indicator_46 : decode cd_MO_indicator 46 = .ok (.iconst 1, 1) := by decide +kernel
theorem dd_MO_indicator_47 : decode cd_MO_indicator 47 = .ok (.isub, 1) := by decide +kernel
theorem dd_MO_indicator_48 : decode cd_MO_indicator 48 = .ok (.iconst 3, 1) := by decide +kernel
theorem dd_MO_indicator_49 : decode cd_MO_indicator 49 = .ok (.irem, 1) := by decide +kernel
theorem dd_MO_indicator_50 : decode cd_MO_indicator 50 = .ok (.iadd, 1) := by decide +kernel
theorem dd_MO_indicator_51 : decode cd_MO_indicator 51 = .ok (.goto 9, 3) := by decide +kernel
theorem dd_MO_indicator_54 : decode cd_MO_indicator 54 = .ok (.aload_n 0, 1) := by decide +kernel
theorem dd_MO_indicator_55 : decode cd_MO_indicator 55 = .ok (.getfield 137, 3) := by decide +kernel
theorem dd_MO_indicator_58 : decode cd_MO_indicator 58 = .ok (.iconst 1, 1) := by decide +kernel
theorem dd_MO_indicator_59 : decode cd_MO_indicator 59 = .ok (.isub, 1) := by decide +kernel
theorem dd_MO_indicator_60 : decode cd_MO_indicator 60 = .ok (.istore 5, 2) := by decide +kernel
theorem dd_MO_indicator_62 : decode cd_MO_indicator 62 = .ok (.bipush 30, 2) := by decide +kernel
theorem dd_MO_indicator_64 : decode cd_MO_indicator 64 = .ok (.iload_n 1, 1) := by decide +kernel
theorem dd_MO_indicator_65 : decode cd_MO_indicator 65 = .ok (.iconst 3, 1) := by decide +kernel
theorem dd_MO_indicator_66 : decode cd_MO_indicator 66 = .ok (.idiv, 1) := by decide +kernel
theorem dd_MO_indicator_67 : decode cd_MO_indicator 67 = .ok (.imul, 1) := by decide +kernel
theorem dd_MO_indicator_68 : decode cd_MO_indicator 68 = .ok (.iload 5, 2) := by decide +kernel
theorem dd_MO_indicator_70 : decode cd_MO_indicator 70 = .ok (.iadd, 1) := by decide +kernel
theorem dd_MO_indicator_71 : decode cd_MO_indicator 71 = .ok (.ireturn, 1) := by decide +kernel
theorem dd_MO_makeChecks_0 : decode cd_MO_makeChecks 0 = .ok (.iconst 0, 1) := by decide +kernel
theorem dd_MO_makeChecks_1 : decode cd_MO_makeChecks 1 = .ok (.istore_n 3, 1) := by decide +kernel
theorem dd_MO_makeChecks_2 : decode cd_MO_makeChecks 2 = .ok (.iload_n 3, 1) := by decide +kernel
theorem dd_MO_makeChecks_3 : decode cd_MO_makeChecks 3 = .ok (.iload_n 2, 1) := by decide +kernel
theorem dd_MO_makeChecks_4 : decode cd_MO_makeChecks 4 = .ok (.if_icmp .gt 24, 3) := by decide +kernel
theorem dd_MO_makeChecks_7 : decode cd_MO_makeChecks 7 = .ok (.aload_n 0, 1) := by decide +kernel
theorem dd_MO_makeChecks_8 : decode cd_MO_makeChecks 8 = .ok (.getfield 41, 3) := by decide +kernel
theorem dd_MO_makeChecks_11 : decode cd_MO_makeChecks 11 = .ok (.iload_n 3, 1) := by decide +kernel
theorem dd_MO_makeChecks_12 : decode cd_MO_makeChecks 12 = .ok (.iload_n 3, 1) := by decide +kernel
theorem dd_MO_makeChecks_13 : decode cd_MO_makeChecks 13 = .ok (.ifCond .ne 7, 3) := by decide +kernel
theorem dd_MO_makeChecks_16 : decode cd_MO_makeChecks 16 = .ok (.iconst 1, 1) := by decide +kernel
theorem dd_MO_makeChecks_17 : decode cd_MO_makeChecks 17 = .ok (.goto 4, 3) := by decide +kernel
theorem dd_MO_makeChecks_20 : decode cd_MO_makeChecks 20 = .ok (.iconst 0, 1) := by decide +kernel
theorem dd_MO_makeChecks_21 : decode cd_MO_makeChecks 21 = .ok (.iastore, 1) := by decide +kernel
theorem dd_MO_makeChecks_22 : decode cd_MO_makeChecks 22 = .ok (.iinc 3 1, 3) := by decide +kernel
theorem dd_MO_makeChecks_25 : decode cd_MO_makeChecks 25 = .ok (.goto (-23), 3) := by decide +kernel
theorem dd_MO_makeChecks_28 : decode cd_MO_makeChecks 28 = .ok (.iconst 1, 1) := by decide +kernel
theorem dd_MO_makeChecks_29 : decode cd_MO_makeChecks 29 = .ok (.istore_n 3, 1) := by decide +kernel
theorem dd_MO_makeChecks_30 : decode cd_MO_makeChecks 30 = .ok (.iload_n 3, 1) := by decide +kernel
theorem dd_MO_makeChecks_31 : decode cd_MO_makeChecks 31 = .ok (.iload_n 2, 1) := by decide +kernel
theorem dd_MO_makeChecks_32 : decode cd_MO_makeChecks 32 = .ok (.if_icmp .gt 75, 3) := by decide +kernel
theorem dd_MO_makeChecks_35 : decode cd_MO_makeChecks 35 = .ok (.iload_n 3, 1) := by decide +kernel
theorem dd_MO_makeChecks_36 : decode cd_MO_makeChecks 36 = .ok (.istore 4, 2) := by decide +kernel
theorem dd_MO_makeChecks_38 : decode cd_MO_makeChecks 38 = .ok (.iload 4, 2) := by decide +kernel
theorem dd_MO_makeChecks_40 : decode cd_MO_makeChecks 40 = .ok (.ifCond .lt 61, 3) := by decide +kernel
theorem dd_MO_makeChecks_43 : decode cd_MO_makeChecks 43 = .ok (.iload 4, 2) := by decide +kernel
theorem dd_MO_makeChecks_45 : decode cd_MO_makeChecks 45 = .ok (.ifCond .le 15, 3) := by decide +kernel
theorem dd_MO_makeChecks_48 : decode cd_MO_makeChecks 48 = .ok (.aload_n 0, 1) := by decide +kernel
theorem dd_MO_makeChecks_49 : decode cd_MO_makeChecks 49 = .ok (.getfield 41, 3) := by decide +kernel
theorem dd_MO_makeChecks_52 : decode cd_MO_makeChecks 52 = .ok (.iload 4, 2) := by decide +kernel
theorem dd_MO_makeChecks_54 : decode cd_MO_makeChecks 54 = .ok (.iconst 1, 1) := by decide +kernel
theorem dd_MO_makeChecks_55 : decode cd_MO_makeChecks 55 = .ok (.isub, 1) := by decide +kernel
theorem dd_MO_makeChecks_56 : decode cd_MO_makeChecks 56 = .ok (.iaload, 1) := by decide +kernel
theorem dd_MO_makeChecks_57 : decode cd_MO_makeChecks 57 = .ok (.goto 4, 3) := by decide +kernel
theorem dd_MO_makeChecks_60 : decode cd_MO_makeChecks 60 = .ok (.iconst 0, 1) := by decide +kernel
theorem dd_MO_makeChecks_61 : decode cd_MO_makeChecks 61 = .ok (.istore 5, 2) := by decide +kernel
theorem dd_MO_makeChecks_63 : decode cd_MO_makeChecks 63 = .ok (.aload_n 0, 1) := by decide +kernel
theorem dd_MO_makeChecks_64 : decode cd_MO_makeChecks 64 = .ok (.getfield 41, 3) := by decide +kernel
theorem dd_MO_makeChecks_67 : decode cd_MO_makeChecks 67 = .ok (.iload 4, 2) := by decide +kernel
theorem dd_MO_makeChecks_69 : decode cd_MO_makeChecks 69 = .ok (.iload 5, 2) := by decide +kernel
theorem dd_MO_makeChecks_71 : decode cd_MO_makeChecks 71 = .ok (.sipush 929, 3) := by decide +kernel
theorem dd_MO_makeChecks_74 : decode cd_MO_makeChecks 74 = .ok (.aload_n 0, 1) := by decide +kernel
theorem dd_MO_makeChecks_75 : decode cd_MO_makeChecks 75 = .ok (.getfield 32, 3) := by decide +kernel
theorem dd_MO_makeChecks_78 : decode cd_MO_makeChecks 78 = .ok (.iload_n 3, 1) := by decide +kernel
theorem dd_MO_makeChecks_79 : decode cd_MO_makeChecks 79 = .ok (.iaload, 1) := by decide +kernel
theorem dd_MO_makeChecks_80 : decode cd_MO_makeChecks 80 = .ok (.isub, 1) := by decide +kernel
theorem dd_MO_makeChecks_81 : decode cd_MO_makeChecks 81 = .ok (.aload_n 0, 1) := by decide +kernel
theorem dd_MO_makeChecks_82 : decode cd_MO_makeChecks 82 = .ok (.getfield 41, 3) := by decide +kernel
theorem dd_MO_makeChecks_85 : decode cd_MO_makeChecks 85 = .ok (.iload 4, 2) := by decide +kernel
theorem dd_MO_makeChecks_87 : decode cd_MO_makeChecks 87 = .ok (.iaload, 1) := by decide +kernel
theorem dd_MO_makeChecks_88 : decode cd_MO_makeChecks 88 = .ok (.imul, 1) := by decide +kernel
theorem dd_MO_makeChecks_89 : decode cd_MO_makeChecks 89 = .ok (.iadd, 1) := by decide +kernel
theorem dd_MO_makeChecks_90 : decode cd_MO_makeChecks 90 = .ok (.sipush 929, 3) := by decide +kernel
theorem dd_MO_makeChecks_93 : decode cd_MO_makeChecks 93 = .ok (.irem, 1) := by decide +kernel
theorem dd_MO_makeChecks_94 : decode cd_MO_makeChecks 94 = .ok (.iastore, 1) := by decide +kernel
theorem dd_MO_makeChecks_95 : decode cd_MO_makeChecks 95 = .ok (.iinc 4 (-1), 3) := by decide +kernel
theorem dd_MO_makeChecks_98 : decode cd_MO_makeChecks 98 = .ok (.goto (-60), 3) := by decide +kernel
theorem dd_MO_makeChecks_101 : decode cd_MO_makeChecks 101 = .ok (.iinc 3 1, 3) := by decide +kernel
theorem dd_MO_makeChecks_104 : decode cd_MO_makeChecks 104 = .ok (.goto (-74), 3) := by decide +kernel
theorem dd_MO_makeChecks_107 : decode cd_MO_makeChecks 107 = .ok (.iload_n 1, 1) := by decide +kernel
theorem dd_MO_makeChecks_108 : decode cd_MO_makeChecks 108 = .ok (.iload_n 2, 1) := by decide +kernel
theorem dd_MO_makeChecks_109 : decode cd_MO_makeChecks 109 = .ok (.isub, 1) := by decide +kernel
theorem dd_MO_makeChecks_110 : decode cd_MO_makeChecks 110 = .ok (.istore_n 3, 1) := by decide +kernel
theorem dd_MO_makeChecks_111 : decode cd_MO_makeChecks 111 = .ok (.iload_n 3, 1) := by decide +kernel
theorem dd_MO_makeChecks_112 : decode cd_MO_makeChecks 112 = .ok (.iload_n 1, 1) := by decide +kernel
theorem dd_MO_makeChecks_113 : decode cd_MO_makeChecks 113 = .ok (.if_icmp .ge 16, 3) := by decide +kernel
theorem dd_MO_makeChecks_116 : decode cd_MO_makeChecks 116 = .ok (.aload_n 0, 1) := by decide +kernel
theorem dd_MO_makeChecks_117 : decode cd_MO_makeChecks 117 = .ok (.getfield 25, 3) := by decide +kernel
theorem dd_MO_makeChecks_120 : decode cd_MO_makeChecks 120 = .ok (.iload_n 3, 1) := by decide +kernel
theorem dd_MO_makeChecks_121 : decode cd_MO_makeChecks 121 = .ok (.iconst 0, 1) := by decide +kernel
theorem dd_MO_makeChecks_122 : decode cd_MO_makeChecks 122 = .ok (.iastore, 1) := by decide +kernel
theorem dd_MO_makeChecks_123 : decode cd_MO_makeChecks 123 = .ok (.iinc 3 1, 3) := by decide +kernel
theorem dd_MO_makeChecks_126 : decode cd_MO_makeChecks 126 = .ok (.goto (-15), 3) := by decide +kernel
theorem dd_MO_makeChecks_129 : decode cd_MO_makeChecks 129 = .ok (.iconst 0, 1) := by decide +kernel
theorem dd_MO_makeChecks_130 : decode cd_MO_makeChecks 130 = .ok (.istore_n 3, 1) := by decide +kernel
theorem dd_MO_makeChecks_131 : decode cd_MO_makeChecks 131 = .ok (.iload_n 3, 1) := by decide +kernel
theorem dd_MO_makeChecks_132 : decode cd_MO_makeChecks 132 = .ok (.iload_n 1, 1) := by decide +kernel
theorem dd_MO_makeChecks_133 : decode cd_MO_makeChecks 133 = .ok (.if_icmp .ge 21, 3) := by decide +kernel
theorem dd_MO_makeChecks_136 : decode cd_MO_makeChecks 136 = .ok (.aload_n 0, 1) := by decide +kernel
theorem dd_MO_makeChecks_137 : decode cd_MO_makeChecks 137 = .ok (.getfield 56, 3) := by decide +kernel
theorem dd_MO_makeChecks_140 : decode cd_MO_makeChecks 140 = .ok (.iload_n 3, 1) := by decide +kernel
theorem dd_MO_makeChecks_141 : decode cd_MO_makeChecks 141 = .ok (.aload_n 0, 1) := by decide +kernel
theorem dd_MO_makeChecks_142 : decode cd_MO_makeChecks 142 = .ok (.getfield 25, 3) := by decide +kernel
theorem dd_MO_makeChecks_145 : decode cd_MO_makeChecks 145 = .ok (.iload_n 3, 1) := by decide +kernel
theorem dd_MO_makeChecks_146 : decode cd_MO_makeChecks 146 = .ok (.iaload, 1) := by decide +kernel
theorem dd_MO_makeChecks_147 : decode cd_MO_makeChecks 147 = .ok (.iastore, 1) := by decide +kernel
theorem dd_MO_makeChecks_148 : decode cd_MO_makeChecks 148 = .ok (.iinc 3 1, 3) := by decide +kernel
theorem dd_MO_makeChecks_151 : decode cd_MO_makeChecks 151 = .ok (.goto (-20), 3) := by decide +kernel
theorem dd_MO_makeChecks_154 : decode cd_MO_makeChecks 154 = .ok (.iconst 0, 1) := by decide +kernel
theorem dd_MO_makeChecks_155 : decode cd_MO_makeChecks 155 = .ok (.istore_n 3, 1) := by decide +kernel
theorem dd_MO_makeChecks_156 : decode cd_MO_makeChecks 156 = .ok (.iload_n 3, 1) := by decide +kernel
theorem dd_MO_makeChecks_157 : decode cd_MO_makeChecks 157 = .ok (.iload_n 1, 1) := by decide +kernel
theorem dd_MO_makeChecks_158 : decode cd_MO_makeChecks 158 = .ok (.iload_n 2, 1) := by decide +kernel
theorem dd_MO_makeChecks_159 : decode cd_MO_makeChecks 159 = .ok (.isub, 1) := by decide +kernel
theorem dd_MO_makeChecks_160 : decode cd_MO_makeChecks 160 = .ok (.if_icmp .ge 71, 3) := by decide +kernel
theorem dd_MO_makeChecks_163 : decode cd_MO_makeChecks 163 = .ok (.aload_n 0, 1) := by decide +kernel
theorem dd_MO_makeChecks_164 : decode cd_MO_makeChecks 164 = .ok (.getfield 56, 3) := by decide +kernel
theorem dd_MO_makeChecks_167 : decode cd_MO_makeChecks 167 = .ok (.iload_n 3, 1) := by decide +kernel
theorem dd_MO_makeChecks_168 : decode cd_MO_makeChecks 168 = .ok (.iaload, 1) := by decide +kernel
theorem dd_MO_makeChecks_169 : decode cd_MO_makeChecks 169 = .ok (.istore 4, 2) := by decide +kernel
theorem dd_MO_makeChecks_171 : decode cd_MO_makeChecks 171 = .ok (.iconst 0, 1) := by decide +kernel
theorem dd_MO_makeChecks_172 : decode cd_MO_makeChecks 172 = .ok (.istore 5, 2) := by decide +kernel
theorem dd_MO_makeChecks_174 : decode cd_MO_makeChecks 174 = .ok (.iload 5, 2) := by decide +kernel
theorem dd_MO_makeChecks_176 : decode cd_MO_makeChecks 176 = .ok (.iload_n 2, 1) := by decide +kernel
theorem dd_MO_makeChecks_177 : decode cd_MO_makeChecks 177 = .ok (.if_icmp .gt 48, 3) := by decide +kernel
theorem dd_MO_makeChecks_180 : decode cd_MO_makeChecks 180 = .ok (.aload_n 0, 1) := by decide +kernel
theorem dd_MO_makeChecks_181 : decode cd_MO_makeChecks 181 = .ok (.getfield 56, 3) := by decide +kernel
theorem dd_MO_makeChecks_184 : decode cd_MO_makeChecks 184 = .ok (.iload_n 3, 1) := by decide +kernel
theorem dd_MO_makeChecks_185 : decode cd_MO_makeChecks 185 = .ok (.iload 5, 2) := by decide +kernel
theorem dd_MO_makeChecks_187 : decode cd_MO_makeChecks 187 = .ok (.iadd, 1) := by decide +kernel
theorem dd_MO_makeChecks_188 : decode cd_MO_makeChecks 188 = .ok (.aload_n 0, 1) := by decide +kernel
theorem dd_MO_makeChecks_189 : decode cd_MO_makeChecks 189 = .ok (.getfield 56, 3) := by decide +kernel
theorem dd_MO_makeChecks_192 : decode cd_MO_makeChecks 192 = .ok (.iload_n 3, 1) := by decide +kernel
theorem dd_MO_makeChecks_193 : decode cd_MO_makeChecks 193 = .ok (.iload 5, 2) := by decide +kernel
theorem dd_MO_makeChecks_195 : decode cd_MO_makeChecks 195 = .ok (.iadd, 1) := by decide +kernel
theorem dd_MO_makeChecks_196 : decode cd_MO_makeChecks 196 = .ok (.iaload, 1) := by decide +kernel
theorem dd_MO_makeChecks_197 : decode cd_MO_makeChecks 197 = .ok (.sipush 929, 3) := by decide +kernel
theorem dd_MO_makeChecks_200 : decode cd_MO_makeChecks 200 = .ok (.iload 4, 2) := by decide +kernel
theorem dd_MO_makeChecks_202 : decode cd_MO_makeChecks 202 = .ok (.isub, 1) := by decide +kernel
theorem dd_MO_makeChecks_203 : decode cd_MO_makeChecks 203 = .ok (.aload_n 0, 1) := by decide +kernel
theorem dd_MO_makeChecks_204 : decode cd_MO_makeChecks 204 = .ok (.getfield 41, 3) := by decide +kernel
theorem dd_MO_makeChecks_207 : decode cd_MO_makeChecks 207 = .ok (.iload_n 2, 1) := by decide +kernel
theorem dd_MO_makeChecks_208 : decode cd_MO_makeChecks 208 = .ok (.iload 5, 2) := by decide +kernel
theorem dd_MO_makeChecks_210 : decode cd_MO_makeChecks 210 = .ok (.isub, 1) := by decide +kernel
theorem dd_MO_makeChecks_211 : decode cd_MO_makeChecks 211 = .ok (.iaload, 1) := by decide +kernel
theorem dd_MO_makeChecks_212 : decode cd_MO_makeChecks 212 = .ok (.imul, 1) := by decide +kernel
theorem dd_MO_makeChecks_213 : decode cd_MO_makeChecks 213 = .ok (.iadd, 1) := by decide +kernel
theorem dd_MO_makeChecks_214 : decode cd_MO_makeChecks 214 = .ok (.sipush 929, 3) := by decide +kernel
theorem dd_MO_makeChecks_217 : decode cd_MO_makeChecks 217 = .ok (.irem, 1) := by decide +kernel
theorem dd_MO_makeChecks_218 : decode cd_MO_makeChecks 218 = .ok (.iastore, 1) := by decide +kernel
theorem dd_MO_makeChecks_219 : decode cd_MO_makeChecks 219 = .ok (.iinc 5 1, 3) := by decide +kernel
theorem dd_MO_makeChecks_222 : decode cd_MO_makeChecks 222 = .ok (.goto (-48), 3) := by decide +kernel
theorem dd_MO_makeChecks_225 : decode cd_MO_makeChecks 225 = .ok (.iinc 3 1, 3) := by decide +kernel
theorem dd_MO_makeChecks_228 : decode cd_MO_makeChecks 228 = .ok (.goto (-72), 3) := by decide +kernel
theorem dd_MO_makeChecks_231 : decode cd_MO_makeChecks 231 = .ok (.iload_n 1, 1) := by decide +kernel
theorem dd_MO_makeChecks_232 : decode cd_MO_makeChecks 232 = .ok (.iload_n 2, 1) := by decide +kernel
theorem dd_MO_makeChecks_233 : decode cd_MO_makeChecks 233 = .ok (.isub, 1) := by decide +kernel
theorem dd_MO_makeChecks_234 : decode cd_MO_makeChecks 234 = .ok (.istore_n 3, 1) := by decide +kernel
theorem dd_MO_makeChecks_235 : decode cd_MO_makeChecks 235 = .ok (.iload_n 3, 1) := by decide +kernel
theorem dd_MO_makeChecks_236 : decode cd_MO_makeChecks 236 = .ok (.iload_n 1, 1) := by decide +kernel
theorem dd_MO_makeChecks_237 : decode cd_MO_makeChecks 237 = .ok (.if_icmp .ge 29, 3) := by decide +kernel
theorem dd_MO_makeChecks_240 : decode cd_MO_makeChecks 240 = .ok (.aload_n 0, 1) := by decide +kernel
theorem dd_MO_makeChecks_241 : decode cd_MO_makeChecks 241 = .ok (.getfield 25, 3) := by decide +kernel
theorem dd_MO_makeChecks_244 : decode cd_MO_makeChecks 244 = .ok (.iload_n 3, 1) := by decide +kernel
theorem dd_MO_makeChecks_245 : decode cd_MO_makeChecks 245 = .ok (.sipush 929, 3) := by decide +kernel
theorem dd_MO_makeChecks_248 : decode cd_MO_makeChecks 248 = .ok (.aload_n 0, 1) := by decide +kernel
theorem dd_MO_makeChecks_249 : decode cd_MO_makeChecks 249 = .ok (.getfield 56, 3) := by decide +kernel
theorem dd_MO_makeChecks_252 : decode cd_MO_makeChecks 252 = .ok (.iload_n 3, 1) := by decide +kernel
theorem dd_MO_makeChecks_253 : decode cd_MO_makeChecks 253 = .ok (.iaload, 1) := by decide +kernel
theorem dd_MO_makeChecks_254 : decode cd_MO_makeChecks 254 = .ok (.isub, 1) := by decide +kernel
theorem dd_MO_makeChecks_255 : decode cd_MO_makeChecks 255 = .ok (.sipush 929, 3) := by decide +kernel
theorem dd_MO_makeChecks_258 : decode cd_MO_makeChecks 258 = .ok (.irem, 1) := by decide +kernel
theorem dd_MO_makeChecks_259 : decode cd_MO_makeChecks 259 = .ok (.iastore, 1) := by decide +kernel
theorem dd_MO_makeChecks_260 : decode cd_MO_makeChecks 260 = .ok (.iinc 3 1, 3) := by decide +kernel
theorem dd_MO_makeChecks_263 : decode cd_MO_makeChecks 263 = .ok (.goto (-28), 3) := by decide +kernel
theorem dd_MO_makeChecks_266 : decode cd_MO_makeChecks 266 = .ok (.return_, 1) := by decide +kernel
theorem dd_MO_blank_0 : decode cd_MO_blank 0 = .ok (.aload_n 0, 1) := by decide +kernel
theorem dd_MO_blank_1 : decode cd_MO_blank 1 = .ok (.iload_n 1, 1) := by decide +kernel
theorem dd_MO_blank_2 : decode cd_MO_blank 2 = .ok (.iconst 3, 1) := by decide +kernel
theorem dd_MO_blank_3 : decode cd_MO_blank 3 = .ok (.if_icmp .lt 33, 3) := by decide +kernel
theorem dd_MO_blank_6 : decode cd_MO_blank 6 = .ok (.iload_n 1, 1) := by decide +kernel
theorem dd_MO_blank_7 : decode cd_MO_blank 7 = .ok (.bipush 90, 2) := by decide +kernel
theorem dd_MO_blank_9 : decode cd_MO_blank 9 = .ok (.if_icmp .gt 27, 3) := by decide +kernel
theorem dd_MO_blank_12 : decode cd_MO_blank 12 = .ok (.iload_n 2, 1) := by decide +kernel
theorem dd_MO_blank_13 : decode cd_MO_blank 13 = .ok (.iconst 1, 1) := by decide +kernel
theorem dd_MO_blank_14 : decode cd_MO_blank 14 = .ok (.if_icmp .lt 22, 3) := by decide +kernel
theorem dd_MO_blank_17 : decode cd_MO_blank 17 = .ok (.iload_n 2, 1) := by decide +kernel
theorem dd_MO_blank_18 : decode cd_MO_blank 18 = .ok (.bipush 30, 2) := by decide +kernel
theorem dd_MO_blank_20 : decode cd_MO_blank 20 = .ok (.if_icmp .gt 16, 3) := by decide +kernel
theorem dd_MO_blank_23 : decode cd_MO_blank 23 = .ok (.iload_n 1, 1) := by decide +kernel
theorem dd_MO_blank_24 : decode cd_MO_blank 24 = .ok (.iload_n 2, 1) := by decide +kernel
theorem dd_MO_blank_25 : decode cd_MO_blank 25 = .ok (.imul, 1) := by decide +kernel
theorem dd_MO_blank_26 : decode cd_MO_blank 26 = .ok (.sipush 928, 3) := by decide +kernel
theorem dd_MO_blank_29 : decode cd_MO_blank 29 = .ok (.if_icmp .gt 7, 3) := by decide +kernel
theorem dd_MO_blank_32 : decode cd_MO_blank 32 = .ok (.iconst 0, 1) := by decide +kernel
theorem dd_MO_blank_33 : decode cd_MO_blank 33 = .ok (.goto 4, 3) := by decide +kernel
theorem dd_MO_blank_36 : decode cd_MO_blank 36 = .ok (.iconst 1, 1) := by decide +kernel
theorem dd_MO_blank_37 : decode cd_MO_blank 37 = .ok (.putfield 68, 3) := by decide +kernel
theorem dd_MO_blank_40 : decode cd_MO_blank 40 = .ok (.aload_n 0, 1) := by decide +kernel
theorem dd_MO_blank_41 : decode cd_MO_blank 41 = .ok (.getfield 68, 3) := by decide +kernel
theorem dd_MO_blank_44 : decode cd_MO_blank 44 = .ok (.ifCond .le 4, 3) := by decide +kernel
theorem dd_MO_blank_47 : decode cd_MO_blank 47 = .ok (.return_, 1) := by decide +kernel
theorem dd_MO_blank_48 : decode cd_MO_blank 48 = .ok (.aload_n 0, 1) := by decide +kernel
theorem dd_MO_blank_49 : decode cd_MO_blank 49 = .ok (.iload_n 1, 1) := by decide +kernel
theorem dd_MO_blank_50 : decode cd_MO_blank 50 = .ok (.putfield 134, 3) := by decide +kernel
theorem dd_MO_blank_53 : decode cd_MO_blank 53 = .ok (.aload_n 0, 1) := by decide +kernel
theorem dd_MO_blank_54 : decode cd_MO_blank 54 = .ok (.iload_n 2, 1) := by decide +kernel
theorem dd_MO_blank_55 : decode cd_MO_blank 55 = .ok (.putfield 137, 3) := by decide +kernel
theorem dd_MO_blank_58 : decode cd_MO_blank 58 = .ok (.iconst 0, 1) := by decide +kernel
theorem dd_MO_blank_59 : decode cd_MO_blank 59 = .ok (.istore_n 3, 1) := by decide +kernel
theorem dd_MO_blank_60 : decode cd_MO_blank 60 = .ok (.iload_n 3, 1) := by decide +kernel
theorem dd_MO_blank_61 : decode cd_MO_blank 61 = .ok (.aload_n 0, 1) := by decide +kernel
theorem dd_MO_blank_62 : decode cd_MO_blank 62 = .ok (.getfield 134, 3) := by decide +kernel
theorem dd_MO_blank_65 : decode cd_MO_blank 65 = .ok (.aload_n 0, 1) := by decide +kernel
theorem dd_MO_blank_66 : decode cd_MO_blank 66 = .ok (.getfield 137, 3) := by decide +kernel
theorem dd_MO_blank_69 : decode cd_MO_blank 69 = .ok (.iconst 2, 1) := by decide +kernel
theorem dd_MO_blank_70 : decode cd_MO_blank 70 = .ok (.iadd, 1) := by decide +kernel
theorem dd_MO_blank_71 : decode cd_MO_blank 71 = .ok (.imul, 1) := by decide +kernel
theorem dd_MO_blank_72 : decode cd_MO_blank 72 = .ok (.if_icmp .ge 16, 3) := by decide +kernel
theorem dd_MO_blank_75 : decode cd_MO_blank 75 = .ok (.aload_n 0, 1) := by decide +kernel
theorem dd_MO_blank_76 : decode cd_MO_blank 76 = .ok (.getfield 22, 3) := by decide +kernel
theorem dd_MO_blank_79 : decode cd_MO_blank 79 = .ok (.iload_n 3, 1) := by decide +kernel
theorem dd_MO_blank_80 : decode cd_MO_blank 80 = .ok (.iconst (-1), 1) := by decide +kernel
theorem dd_MO_blank_81 : decode cd_MO_blank 81 = .ok (.iastore, 1) := by decide +kernel
theorem dd_MO_blank_82 : decode cd_MO_blank 82 = .ok (.iinc 3 1, 3) := by decide +kernel
theorem dd_MO_blank_85 : decode cd_MO_blank 85 = .ok (.goto (-25), 3) := by decide +kernel
theorem dd_MO_blank_88 : decode cd_MO_blank 88 = .ok (.return_, 1) := by decide +kernel
