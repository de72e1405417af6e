theorem dX1_init_0 : decode cX1_init 0 = .ok (.aload_n 0, 1) := by decide +kernel
theorem dX1_init_1 : decode cX1_init 1 = .ok (.invokespecial 1, 3) := by decide +kernel
theorem dX1_init_4 : decode cX1_init 4 = .ok (.aload_n 0, 1) := by decide +kernel
theorem dX1_init_5 : decode cX1_init 5 = .ok (.bipush 40, 2) := by decide +kernel
theorem dX1_init_7 : decode cX1_init 7 = .ok (.newarray .int, 2) := by decide +kernel
theorem dX1_init_9 : decode cX1_init 9 = .ok (.putfield 7, 3) := by decide +kernel
theorem dX1_init_12 : decode cX1_init 12 = .ok (.aload_n 0, 1) := by decide +kernel
theorem dX1_init_13 : decode cX1_init 13 = .ok (.bipush 40, 2) := by decide +kernel
theorem dX1_init_15 : decode cX1_init 15 = .ok (.newarray .int, 2) := by decide +kernel
theorem dX1_init_17 : decode cX1_init 17 = .ok (.putfield 13, 3) := by decide +kernel
theorem dX1_init_20 : decode cX1_init 20 = .ok (.aload_n 0, 1) := by decide +kernel
theorem dX1_init_21 : decode cX1_init 21 = .ok (.bipush 16, 2) := by decide +kernel
theorem dX1_init_23 : decode cX1_init 23 = .ok (.newarray .int, 2) := by decide +kernel
theorem dX1_init_25 : decode cX1_init 25 = .ok (.putfield 16, 3) := by decide +kernel
theorem dX1_init_28 : decode cX1_init 28 = .ok (.aload_n 0, 1) := by decide +kernel
theorem dX1_init_29 : decode cX1_init 29 = .ok (.bipush 16, 2) := by decide +kernel
theorem dX1_init_31 : decode cX1_init 31 = .ok (.newarray .long, 2) := by decide +kernel
theorem dX1_init_33 : decode cX1_init 33 = .ok (.putfield 19, 3) := by decide +kernel
theorem dX1_init_36 : decode cX1_init 36 = .ok (.aload_n 0, 1) := by decide +kernel
theorem dX1_init_37 : decode cX1_init 37 = .ok (.bipush 12, 2) := by decide +kernel
theorem dX1_init_39 : decode cX1_init 39 = .ok (.newarray .long, 2) := by decide +kernel
theorem dX1_init_41 : decode cX1_init 41 = .ok (.putfield 23, 3) := by decide +kernel
theorem dX1_init_44 : decode cX1_init 44 = .ok (.aload_n 0, 1) := by decide +kernel
theorem dX1_init_45 : decode cX1_init 45 = .ok (.bipush 12, 2) := by decide +kernel
theorem dX1_init_47 : decode cX1_init 47 = .ok (.newarray .long, 2) := by decide +kernel
theorem dX1_init_49 : decode cX1_init 49 = .ok (.putfield 26, 3) := by decide +kernel
theorem dX1_init_52 : decode cX1_init 52 = .ok (.aload_n 0, 1) := by decide +kernel
theorem dX1_init_53 : decode cX1_init 53 = .ok (.bipush 65, 2) := by decide +kernel
theorem dX1_init_55 : decode cX1_init 55 = .ok (.newarray .int, 2) := by decide +kernel
theorem dX1_init_57 : decode cX1_init 57 = .ok (.dup, 1) := by decide +kernel
theorem dX1_init_58 : decode cX1_init 58 = .ok (.iconst 0, 1) := by decide +kernel
theorem dX1_init_59 : decode cX1_init 59 = .ok (.iconst 0, 1) := by decide +kernel
theorem dX1_init_60 : decode cX1_init 60 = .ok (.iastore, 1) := by decide +kernel
theorem dX1_init_61 : decode cX1_init 61 = .ok (.dup, 1) := by decide +kernel
theorem dX1_init_62 : decode cX1_init 62 = .ok (.iconst 1, 1) := by decide +kernel
theorem dX1_init_63 : decode cX1_init 63 = .ok (.bipush 20, 2) := by decide +kernel
theorem dX1_init_65 : decode cX1_init 65 = .ok (.iastore, 1) := by decide +kernel
theorem dX1_init_66 : decode cX1_init 66 = .ok (.dup, 1) := by decide +kernel
theorem dX1_init_67 : decode cX1_init 67 = .ok (.iconst 2, 1) := by decide +kernel
theorem dX1_init_68 : decode cX1_init 68 = .ok (.bipush 79, 2) := by decide +kernel
theorem dX1_init_70 : decode cX1_init 70 = .ok (.iastore, 1) := by decide +kernel
theorem dX1_init_71 : decode cX1_init 71 = .ok (.dup, 1) := by decide +kernel
theorem dX1_init_72 : decode cX1_init 72 = .ok (.iconst 3, 1) := by decide +kernel
theorem dX1_init_73 : decode cX1_init 73 = .ok (.sipush 177, 3) := by decide +kernel
theorem dX1_init_76 : decode cX1_init 76 = .ok (.iastore, 1) := by decide +kernel
theorem dX1_init_77 : decode cX1_init 77 = .ok (.dup, 1) := by decide +kernel
theorem dX1_init_78 : decode cX1_init 78 = .ok (.iconst 4, 1) := by decide +kernel
theorem dX1_init_79 : decode cX1_init 79 = .ok (.sipush 315, 3) := by decide +kernel
theorem dX1_init_82 : decode cX1_init 82 = .ok (.iastore, 1) := by decide +kernel
theorem dX1_init_83 : decode cX1_init 83 = .ok (.dup, 1) := by decide +kernel
theorem dX1_init_84 : decode cX1_init 84 = .ok (.iconst 5, 1) := by decide +kernel
theorem dX1_init_85 : decode cX1_init 85 = .ok (.sipush 491, 3) := by decide +kernel
theorem dX1_init_88 : decode cX1_init 88 = .ok (.iastore, 1) := by decide +kernel
theorem dX1_init_89 : decode cX1_init 89 = .ok (.dup, 1) := by decide +kernel
theorem dX1_init_90 : decode cX1_init 90 = .ok (.bipush 6, 2) := by decide +kernel
theorem dX1_init_92 : decode cX1_init 92 = .ok (.sipush 705, 3) := by decide +kernel
theorem dX1_init_95 : decode cX1_init 95 = .ok (.iastore, 1) := by decide +kernel
theorem dX1_init_96 : decode cX1_init 96 = .ok (.dup, 1) := by decide +kernel
theorem dX1_init_97 : decode cX1_init 97 = .ok (.bipush 7, 2) := by decide +kernel
theorem dX1_init_99 : decode cX1_init 99 = .ok (.sipush 958, 3) := by decide +kernel
theorem dX1_init_102 : decode cX1_init 102 = .ok (.iastore, 1) := by decide +kernel
theorem dX1_init_103 : decode cX1_init 103 = .ok (.dup, 1) := by decide +kernel
theorem dX1_init_104 : decode cX1_init 104 = .ok (.bipush 8, 2) := by decide +kernel
theorem dX1_init_106 : decode cX1_init 106 = .ok (.sipush 1247, 3) := by decide +kernel
theorem dX1_init_109 : decode cX1_init 109 = .ok (.iastore, 1) := by decide +kernel
theorem dX1_init_110 : decode cX1_init 110 = .ok (.dup, 1) := by decide +kernel
theorem dX1_init_111 : decode cX1_init 111 = .ok (.bipush 9, 2) := by decide +kernel
theorem dX1_init_113 : decode cX1_init 113 = .ok (.sipush 1573, 3) := by decide +kernel
theorem dX1_init_116 : decode cX1_init 116 = .ok (.iastore, 1) := by decide +kernel
theorem dX1_init_117 : decode cX1_init 117 = .ok (.dup, 1) := by decide +kernel
theorem dX1_init_118 : decode cX1_init 118 = .ok (.bipush 10, 2) := by decide +kernel
theorem dX1_init_120 : decode cX1_init 120 = .ok (.sipush 1935, 3) := by decide +kernel
theorem dX1_init_123 : decode cX1_init 123 = .ok (.iastore, 1) := by decide +kernel
theorem dX1_init_124 : decode cX1_init 124 = .ok (.dup, 1) := by decide +kernel
theorem dX1_init_125 : decode cX1_init 125 = .ok (.bipush 11, 2) := by decide +kernel
theorem dX1_init_127 : decode cX1_init 127 = .ok (.sipush 2331, 3) := by decide +kernel
theorem dX1_init_130 : decode cX1_init 130 = .ok (.iastore, 1) := by decide +kernel
theorem dX1_init_131 : decode cX1_init 131 = .ok (.dup, 1) := by decide +kernel
theorem dX1_init_132 : decode cX1_init 132 = .ok (.bipush 12, 2) := by decide +kernel
theorem dX1_init_134 : decode cX1_init 134 = .ok (.sipush 2761, 3) := by decide +kernel
theorem dX1_init_137 : decode cX1_init 137 = .ok (.iastore, 1) := by decide +kernel
theorem dX1_init_138 : decode cX1_init 138 = .ok (.dup, 1) := by decide +kernel
theorem dX1_init_139 : decode cX1_init 139 = .ok (.bipush 13, 2) := by decide +kernel
theorem dX1_init_141 : decode cX1_init 141 = .ok (.sipush 3224, 3) := by decide +kernel
theorem dX1_init_144 : decode cX1_init 144 = .ok (.iastore, 1) := by decide +kernel
theorem dX1_init_145 : decode cX1_init 145 = .ok (.dup, 1) := by decide +kernel
theorem dX1_init_146 : decode cX1_init 146 = .ok (.bipush 14, 2) := by decide +kernel
theorem dX1_init_148 : decode cX1_init 148 = .ok (.sipush 3719, 3) := by decide +kernel
theorem dX1_init_151 : decode cX1_init 151 = .ok (.iastore, 1) := by decide +kernel
theorem dX1_init_152 : decode cX1_init 152 = .ok (.dup, 1) := by decide +kernel
theorem dX1_init_153 : decode cX1_init 153 = .ok (.bipush 15, 2) := by decide +kernel
theorem dX1_init_155 : decode cX1_init 155 = .ok (.sipush 4244, 3) := by decide +kernel
theorem dX1_init_158 : decode cX1_init 158 = .ok (.iastore, 1) := by decide +kernel
theorem dX1_init_159 : decode cX1_init 159 = .ok (.dup, 1) := by decide +kernel
theorem dX1_init_160 : decode cX1_init 160 = .ok (.bipush 16, 2) := by decide +kernel
theorem dX1_init_162 : decode cX1_init 162 = .ok (.sipush 4799, 3) := by decide +kernel
theorem dX1_init_165 : decode cX1_init 165 = .ok (.iastore, 1) := by decide +kernel
theorem dX1_init_166 : decode cX1_init 166 = .ok (.dup, 1) := by decide +kernel
theorem dX1_init_167 : decode cX1_init 167 = .ok (.bipush 17, 2) := by decide +kernel
theorem dX1_init_169 : decode cX1_init 169 = .ok (.sipush 5381, 3) := by decide +kernel
theorem dX1_init_172 : decode cX1_init 172 = .ok (.iastore, 1) := by decide +kernel
theorem dX1_init_173 : decode cX1_init 173 = .ok (.dup, 1) := by decide +kernel
theorem dX1_init_174 : decode cX1_init 174 = .ok (.bipush 18, 2) := by decide +kernel
theorem dX1_init_176 : decode cX1_init 176 = .ok (.sipush 5990, 3) := by decide +kernel
theorem dX1_init_179 : decode cX1_init 179 = .ok (.iastore, 1) := by decide +kernel
theorem dX1_init_180 : decode cX1_init 180 = .ok (.dup, 1) := by decide +kernel
theorem dX1_init_181 : decode cX1_init 181 = .ok (.bipush 19, 2) := by decide +kernel
theorem dX1_init_183 : decode cX1_init 183 = .ok (.sipush 6624, 3) := by decide +kernel
theorem dX1_init_186 : decode cX1_init 186 = .ok (.iastore, 1) := by decide +kernel
theorem dX1_init_187 : decode cX1_init 187 = .ok (.dup, 1) := by decide +kernel
theorem dX1_init_188 : decode cX1_init 188 = .ok (.bipush 20, 2) := by decide +kernel
theorem dX1_init_190 : decode cX1_init 190 = .ok (.sipush 7282, 3) := by decide +kernel
theorem dX1_init_193 : decode cX1_init 193 = .ok (.iastore, 1) := by decide +kernel
theorem dX1_init_194 : decode cX1_init 194 = .ok (.dup, 1) := by decide +kernel
theorem dX1_init_195 : decode cX1_init 195 = .ok (.bipush 21, 2) := by decide +kernel
theorem dX1_init_197 : decode cX1_init 197 = .ok (.sipush 7961, 3) := by decide +kernel
theorem dX1_init_200 : decode cX1_init 200 = .ok (.iastore, 1) := by decide +kernel
theorem dX1_init_201 : decode cX1_init 201 = .ok (.dup, 1) := by decide +kernel
theorem dX1_init_202 : decode cX1_init 202 = .ok (.bipush 22, 2) := by decide +kernel
theorem dX1_init_204 : decode cX1_init 204 = .ok (.sipush 8661, 3) := by decide +kernel
theorem dX1_init_207 : decode cX1_init 207 = .ok (.iastore, 1) := by decide +kernel
theorem dX1_init_208 : decode cX1_init 208 = .ok (.dup, 1) := by decide +kernel
theorem dX1_init_209 : decode cX1_init 209 = .ok (.bipush 23, 2) := by decide +kernel
theorem dX1_init_211 : decode cX1_init 211 = .ok (.sipush 9379, 3) := by decide +kernel
theorem dX1_init_214 : decode cX1_init 214 = .ok (.iastore, 1) := by decide +kernel
theorem dX1_init_215 : decode cX1_init 215 = .ok (.dup, 1) := by decide +kernel
theorem dX1_init_216 : decode cX1_init 216 = .ok (.bipush 24, 2) := by decide +kernel
theorem dX1_init_218 : decode cX1_init 218 = .ok (.sipush 10114, 3) := by decide +kernel
theorem dX1_init_221 : decode cX1_init 221 = .ok (.iastore, 1) := by decide +kernel
theorem dX1_init_222 : decode cX1_init 222 = .ok (.dup, 1) := by decide +kernel
theorem dX1_init_223 : decode cX1_init 223 = .ok (.bipush 25, 2) := by decide +kernel
theorem dX1_init_225 : decode cX1_init 225 = .ok (.sipush 10864, 3) := by decide +kernel
theorem dX1_init_228 : decode cX1_init 228 = .ok (.iastore, 1) := by decide +kernel
theorem dX1_init_229 : decode cX1_init 229 = .ok (.dup, 1) := by decide +kernel
theorem dX1_init_230 : decode cX1_init 230 = .ok (.bipush 26, 2) := by decide +kernel
theorem dX1_init_232 : decode cX1_init 232 = .ok (.sipush 11628, 3) := by decide +kernel
theorem dX1_init_235 : decode cX1_init 235 = .ok (.iastore, 1) := by decide +kernel
theorem dX1_init_236 : decode cX1_init 236 = .ok (.dup, 1) := by decide +kernel
theorem dX1_init_237 : decode cX1_init 237 = .ok (.bipush 27, 2) := by decide +kernel
theorem dX1_init_239 : decode cX1_init 239 = .ok (.sipush 12403, 3) := by decide +kernel
theorem dX1_init_242 : decode cX1_init 242 = .ok (.iastore, 1) := by decide +kernel
theorem dX1_init_243 : decode cX1_init 243 = .ok (.dup, 1) := by decide +kernel
theorem dX1_init_244 : decode cX1_init 244 = .ok (.bipush 28, 2) := by decide +kernel
theorem dX1_init_246 : decode cX1_init 246 = .ok (.sipush 13188, 3) := by decide +kernel
theorem dX1_init_249 : decode cX1_init 249 = .ok (.iastore, 1) := by decide +kernel
theorem dX1_init_250 : decode cX1_init 250 = .ok (.dup, 1) := by decide +kernel
theorem dX1_init_251 : decode cX1_init 251 = .ok (.bipush 29, 2) := by decide +kernel
theorem dX1_init_253 : decode cX1_init 253 = .ok (.sipush 13980, 3) := by decide +kernel
theorem dX1_init_256 : decode cX1_init 256 = .ok (.iastore, 1) := by decide +kernel
theorem dX1_init_257 : decode cX1_init 257 = .ok (.dup, 1) := by decide +kernel
theorem dX1_init_258 : decode cX1_init 258 = .ok (.bipush 30, 2) := by decide +kernel
theorem dX1_init_260 : decode cX1_init 260 = .ok (.sipush 14778, 3) := by decide +kernel
theorem dX1_init_263 : decode cX1_init 263 = .ok (.iastore, 1) := by decide +kernel
theorem dX1_init_264 : decode cX1_init 264 = .ok (.dup, 1) := by decide +kernel
theorem dX1_init_265 : decode cX1_init 265 = .ok (.bipush 31, 2) := by decide +kernel
theorem dX1_init_267 : decode cX1_init 267 = .ok (.sipush 15580, 3) := by decide +kernel
theorem dX1_init_270 : decode cX1_init 270 = .ok (.iastore, 1) := by decide +kernel
theorem dX1_init_271 : decode cX1_init 271 = .ok (.dup, 1) := by decide +kernel
theorem dX1_init_272 : decode cX1_init 272 = .ok (.bipush 32, 2) := by decide +kernel
theorem dX1_init_274 : decode cX1_init 274 = .ok (.sipush 16384, 3) := by decide +kernel
theorem dX1_init_277 : decode cX1_init 277 = .ok (.iastore, 1) := by decide +kernel
theorem dX1_init_278 : decode cX1_init 278 = .ok (.dup, 1) := by decide +kernel
theorem dX1_init_279 : decode cX1_init 279 = .ok (.bipush 33, 2) := by decide +kernel
theorem dX1_init_281 : decode cX1_init 281 = .ok (.sipush 17188, 3) := by decide +kernel
theorem dX1_init_284 : decode cX1_init 284 = .ok (.iastore, 1) := by decide +kernel
theorem dX1_init_285 : decode cX1_init 285 = .ok (.dup, 1) := by decide +kernel
theorem dX1_init_286 : decode cX1_init 286 = .ok (.bipush 34, 2) := by decide +kernel
theorem dX1_init_288 : decode cX1_init 288 = .ok (.sipush 17990, 3) := by decide +kernel
theorem dX1_init_291 : decode cX1_init 291 = .ok (.iastore, 1) := by decide +kernel
theorem dX1_init_292 : decode cX1_init 292 = .ok (.dup, 1) := by decide +kernel
theorem dX1_init_293 : decode cX1_init 293 = .ok (.bipush 35, 2) := by decide +kernel
theorem dX1_init_295 : decode cX1_init 295 = .ok (.sipush 18788, 3) := by decide +kernel
theorem dX1_init_298 : decode cX1_init 298 = .ok (.iastore, 1) := by decide +kernel
theorem dX1_init_299 : decode cX1_init 299 = .ok (.dup, 1) := by decide +kernel
theorem dX1_init_300 : decode cX1_init 300 = .ok (.bipush 36, 2) := by decide +kernel
theorem dX1_init_302 : decode cX1_init 302 = .ok (.sipush 19580, 3) := by decide +kernel
theorem dX1_init_305 : decode cX1_init 305 = .ok (.iastore, 1) := by decide +kernel
theorem dX1_init_306 : decode cX1_init 306 = .ok (.dup, 1) := by decide +kernel
theorem dX1_init_307 : decode cX1_init 307 = .ok (.bipush 37, 2) := by decide +kernel
theorem dX1_init_309 : decode cX1_init 309 = .ok (.sipush 20365, 3) := by decide +kernel
theorem dX1_init_312 : decode cX1_init 312 = .ok (.iastore, 1) := by decide +kernel
theorem dX1_init_313 : decode cX1_init 313 = .ok (.dup, 1) := by decide +kernel
theorem dX1_init_314 : decode cX1_init 314 = .ok (.bipush 38, 2) := by decide +kernel
theorem dX1_init_316 : decode cX1_init 316 = .ok (.sipush 21140, 3) := by decide +kernel
theorem dX1_init_319 : decode cX1_init 319 = .ok (.iastore, 1) := by decide +kernel
theorem dX1_init_320 : decode cX1_init 320 = .ok (.dup, 1) := by decide +kernel
theorem dX1_init_321 : decode cX1_init 321 = .ok (.bipush 39, 2) := by decide +kernel
theorem dX1_init_323 : decode cX1_init 323 = .ok (.sipush 21904, 3) := by decide +kernel
theorem dX1_init_326 : decode cX1_init 326 = .ok (.iastore, 1) := by decide +kernel
theorem dX1_init_327 : decode cX1_init 327 = .ok (.dup, 1) := by decide +kernel
theorem dX1_init_328 : decode cX1_init 328 = .ok (.bipush 40, 2) := by decide +kernel
theorem dX1_init_330 : decode cX1_init 330 = .ok (.sipush 22654, 3) := by decide +kernel
theorem dX1_init_333 : decode cX1_init 333 = .ok (.iastore, 1) := by decide +kernel
theorem dX1_init_334 : decode cX1_init 334 = .ok (.dup, 1) := by decide +kernel
theorem dX1_init_335 : decode cX1_init 335 = .ok (.bipush 41, 2) := by decide +kernel
theorem dX1_init_337 : decode cX1_init 337 = .ok (.sipush 23389, 3) := by decide +kernel
theorem dX1_init_340 : decode cX1_init 340 = .ok (.iastore, 1) := by decide +kernel
theorem dX1_init_341 : decode cX1_init 341 = .ok (.dup, 1) := by decide +kernel
theorem dX1_init_342 : decode cX1_init 342 = .ok (.bipush 42, 2) := by decide +kernel
theorem dX1_init_344 : decode cX1_init 344 = .ok (.sipush 24107, 3) := by decide +kernel
theorem dX1_init_347 : decode cX1_init 347 = .ok (.iastore, 1) := by decide +kernel
theorem dX1_init_348 : decode cX1_init 348 = .ok (.dup, 1) := by decide +kernel
theorem dX1_init_349 : decode cX1_init 349 = .ok (.bipush 43, 2) := by decide +kernel
theorem dX1_init_351 : decode cX1_init 351 = .ok (.sipush 24807, 3) := by decide +kernel
theorem dX1_init_354 : decode cX1_init 354 = .ok (.iastore, 1) := by decide +kernel
theorem dX1_init_355 : decode cX1_init 355 = .ok (.dup, 1) := by decide +kernel
theorem dX1_init_356 : decode cX1_init 356 = .ok (.bipush 44, 2) := by decide +kernel
theorem dX1_init_358 : decode cX1_init 358 = .ok (.sipush 25486, 3) := by decide +kernel
theorem dX1_init_361 : decode cX1_init 361 = .ok (.iastore, 1) := by decide +kernel
theorem dX1_init_362 : decode cX1_init 362 = .ok (.dup, 1) := by decide +kernel
theorem dX1_init_363 : decode cX1_init 363 = .ok (.bipush 45, 2) := by decide +kernel
theorem dX1_init_365 : decode cX1_init 365 = .ok (.sipush 26144, 3) := by decide +kernel
theorem dX1_init_368 : decode cX1_init 368 = .ok (.iastore, 1) := by decide +kernel
theorem dX1_init_369 : decode cX1_init 369 = .ok (.dup, 1) := by decide +kernel
theorem dX1_init_370 : decode cX1_init 370 = .ok (.bipush 46, 2) := by decide +kernel
theorem dX1_init_372 : decode cX1_init 372 = .ok (.sipush 26778, 3) := by decide +kernel
theorem dX1_init_375 : decode cX1_init 375 = .ok (.iastore, 1) := by decide +kernel
theorem dX1_init_376 : decode cX1_init 376 = .ok (.dup, 1) := by decide +kernel
theorem dX1_init_377 : decode cX1_init 377 = .ok (.bipush 47, 2) := by decide +kernel
theorem dX1_init_379 : decode cX1_init 379 = .ok (.sipush 27387, 3) := by decide +kernel
theorem dX1_init_382 : decode cX1_init 382 = .ok (.iastore, 1) := by decide +kernel
theorem dX1_init_383 : decode cX1_init 383 = .ok (.dup, 1) := by decide +kernel
theorem dX1_init_384 : decode cX1_init 384 = .ok (.bipush 48, 2) := by decide +kernel
theorem dX1_init_386 : decode cX1_init 386 = .ok (.sipush 27969, 3) := by decide +kernel
theorem dX1_init_389 : decode cX1_init 389 = .ok (.iastore, 1) := by decide +kernel
theorem dX1_init_390 : decode cX1_init 390 = .ok (.dup, 1) := by decide +kernel
theorem dX1_init_391 : decode cX1_init 391 = .ok (.bipush 49, 2) := by decide +kernel
theorem dX1_init_393 : decode cX1_init 393 = .ok (.sipush 28524, 3) := by decide +kernel
theorem dX1_init_396 : decode cX1_init 396 = .ok (.iastore, 1) := by decide +kernel
theorem dX1_init_397 : decode cX1_init 397 = .ok (.dup, 1) := by decide +kernel
theorem dX1_init_398 : decode cX1_init 398 = .ok (.bipush 50, 2) := by decide +kernel
theorem dX1_init_400 : decode cX1_init 400 = .ok (.sipush 29049, 3) := by decide +kernel
theorem dX1_init_403 : decode cX1_init 403 = .ok (.iastore, 1) := by decide +kernel
theorem dX1_init_404 : decode cX1_init 404 = .ok (.dup, 1) := by decide +kernel
theorem dX1_init_405 : decode cX1_init 405 = .ok (.bipush 51, 2) := by decide +kernel
theorem dX1_init_407 : decode cX1_init 407 = .ok (.sipush 29544, 3) := by decide +kernel
theorem dX1_init_410 : decode cX1_init 410 = .ok (.iastore, 1) := by decide +kernel
theorem dX1_init_411 : decode cX1_init 411 = .ok (.dup, 1) := by decide +kernel
theorem dX1_init_412 : decode cX1_init 412 = .ok (.bipush 52, 2) := by decide +kernel
theorem dX1_init_414 : decode cX1_init 414 = .ok (.sipush 30007, 3) := by decide +kernel
theorem dX1_init_417 : decode cX1_init 417 = .ok (.iastore, 1) := by decide +kernel
theorem dX1_init_418 : decode cX1_init 418 = .ok (.dup, 1) := by decide +kernel
theorem dX1_init_419 : decode cX1_init 419 = .ok (.bipush 53, 2) := by decide +kernel
theorem dX1_init_421 : decode cX1_init 421 = .ok (.sipush 30437, 3) := by decide +kernel
theorem dX1_init_424 : decode cX1_init 424 = .ok (.iastore, 1) := by decide +kernel
theorem dX1_init_425 : decode cX1_init 425 = .ok (.dup, 1) := by decide +kernel
theorem dX1_init_426 : decode cX1_init 426 = .ok (.bipush 54, 2) := by decide +kernel
theorem dX1_init_428 : decode cX1_init 428 = .ok (.sipush 30833, 3) := by decide +kernel
theorem dX1_init_431 : decode cX1_init 431 = .ok (.iastore, 1) := by decide +kernel
theorem dX1_init_432 : decode cX1_init 432 = .ok (.dup, 1) := by decide +kernel
theorem dX1_init_433 : decode cX1_init 433 = .ok (.bipush 55, 2) := by decide +kernel
theorem dX1_init_435 : decode cX1_init 435 = .ok (.sipush 31195, 3) := by decide +kernel
theorem dX1_init_438 : decode cX1_init 438 = .ok (.iastore, 1) := by decide +kernel
theorem dX1_init_439 : decode cX1_init 439 = .ok (.dup, 1) := by decide +kernel
theorem dX1_init_440 : decode cX1_init 440 = .ok (.bipush 56, 2) := by decide +kernel
theorem dX1_init_442 : decode cX1_init 442 = .ok (.sipush 31521, 3) := by decide +kernel
theorem dX1_init_445 : decode cX1_init 445 = .ok (.iastore, 1) := by decide +kernel
theorem dX1_init_446 : decode cX1_init 446 = .ok (.dup, 1) := by decide +kernel
theorem dX1_init_447 : decode cX1_init 447 = .ok (.bipush 57, 2) := by decide +kernel
theorem dX1_init_449 : decode cX1_init 449 = .ok (.sipush 31810, 3) := by decide +kernel
theorem dX1_init_452 : decode cX1_init 452 = .ok (.iastore, 1) := by decide +kernel
theorem dX1_init_453 : decode cX1_init 453 = .ok (.dup, 1) := by decide +kernel
theorem dX1_init_454 : decode cX1_init 454 = .ok (.bipush 58, 2) := by decide +kernel
theorem dX1_init_456 : decode cX1_init 456 = .ok (.sipush 32063, 3) := by decide +kernel
theorem dX1_init_459 : decode cX1_init 459 = .ok (.iastore, 1) := by decide +kernel
theorem dX1_init_460 : decode cX1_init 460 = .ok (.dup, 1) := by decide +kernel
theorem dX1_init_461 : decode cX1_init 461 = .ok (.bipush 59, 2) := by decide +kernel
theorem dX1_init_463 : decode cX1_init 463 = .ok (.sipush 32277, 3) := by decide +kernel
theorem dX1_init_466 : decode cX1_init 466 = .ok (.iastore, 1) := by decide +kernel
theorem dX1_init_467 : decode cX1_init 467 = .ok (.dup, 1) := by decide +kernel
theorem dX1_init_468 : decode cX1_init 468 = .ok (.bipush 60, 2) := by decide +kernel
theorem dX1_init_470 : decode cX1_init 470 = .ok (.sipush 32453, 3) := by decide +kernel
theorem dX1_init_473 : decode cX1_init 473 = .ok (.iastore, 1) := by decide +kernel
theorem dX1_init_474 : decode cX1_init 474 = .ok (.dup, 1) := by decide +kernel
theorem dX1_init_475 : decode cX1_init 475 = .ok (.bipush 61, 2) := by decide +kernel
theorem dX1_init_477 : decode cX1_init 477 = .ok (.sipush 32591, 3) := by decide +kernel
theorem dX1_init_480 : decode cX1_init 480 = .ok (.iastore, 1) := by decide +kernel
theorem dX1_init_481 : decode cX1_init 481 = .ok (.dup, 1) := by decide +kernel
theorem dX1_init_482 : decode cX1_init 482 = .ok (.bipush 62, 2) := by decide +kernel
theorem dX1_init_484 : decode cX1_init 484 = .ok (.sipush 32689, 3) := by decide +kernel
theorem dX1_init_487 : decode cX1_init 487 = .ok (.iastore, 1) := by decide +kernel
theorem dX1_init_488 : decode cX1_init 488 = .ok (.dup, 1) := by decide +kernel
theorem dX1_init_489 : decode cX1_init 489 = .ok (.bipush 63, 2) := by decide +kernel
theorem dX1_init_491 : decode cX1_init 491 = .ok (.sipush 32748, 3) := by decide +kernel
theorem dX1_init_494 : decode cX1_init 494 = .ok (.iastore, 1) := by decide +kernel
theorem dX1_init_495 : decode cX1_init 495 = .ok (.dup, 1) := by decide +kernel
theorem dX1_init_496 : decode cX1_init 496 = .ok (.bipush 64, 2) := by decide +kernel
theorem dX1_init_498 : decode cX1_init 498 = .ok (.ldc 29, 2) := by decide +kernel
theorem dX1_init_500 : decode cX1_init 500 = .ok (.iastore, 1) := by decide +kernel
theorem dX1_init_501 : decode cX1_init 501 = .ok (.putfield 30, 3) := by decide +kernel
theorem dX1_init_504 : decode cX1_init 504 = .ok (.aload_n 0, 1) := by decide +kernel
theorem dX1_init_505 : decode cX1_init 505 = .ok (.bipush 7, 2) := by decide +kernel
theorem dX1_init_507 : decode cX1_init 507 = .ok (.newarray .int, 2) := by decide +kernel
theorem dX1_init_509 : decode cX1_init 509 = .ok (.dup, 1) := by decide +kernel
theorem dX1_init_510 : decode cX1_init 510 = .ok (.iconst 0, 1) := by decide +kernel
theorem dX1_init_511 : decode cX1_init 511 = .ok (.iconst 0, 1) := by decide +kernel
theorem dX1_init_512 : decode cX1_init 512 = .ok (.iastore, 1) := by decide +kernel
theorem dX1_init_513 : decode cX1_init 513 = .ok (.dup, 1) := by decide +kernel
theorem dX1_init_514 : decode cX1_init 514 = .ok (.iconst 1, 1) := by decide +kernel
theorem dX1_init_515 : decode cX1_init 515 = .ok (.iconst 3, 1) := by decide +kernel
theorem dX1_init_516 : decode cX1_init 516 = .ok (.iastore, 1) := by decide +kernel
theorem dX1_init_517 : decode cX1_init 517 = .ok (.dup, 1) := by decide +kernel
theorem dX1_init_518 : decode cX1_init 518 = .ok (.iconst 2, 1) := by decide +kernel
theorem dX1_init_519 : decode cX1_init 519 = .ok (.bipush 11, 2) := by decide +kernel
theorem dX1_init_521 : decode cX1_init 521 = .ok (.iastore, 1) := by decide +kernel
theorem dX1_init_522 : decode cX1_init 522 = .ok (.dup, 1) := by decide +kernel
theorem dX1_init_523 : decode cX1_init 523 = .ok (.iconst 3, 1) := by decide +kernel
theorem dX1_init_524 : decode cX1_init 524 = .ok (.bipush 24, 2) := by decide +kernel
theorem dX1_init_526 : decode cX1_init 526 = .ok (.iastore, 1) := by decide +kernel
theorem dX1_init_527 : decode cX1_init 527 = .ok (.dup, 1) := by decide +kernel
theorem dX1_init_528 : decode cX1_init 528 = .ok (.iconst 4, 1) := by decide +kernel
theorem dX1_init_529 : decode cX1_init 529 = .ok (.bipush 43, 2) := by decide +kernel
theorem dX1_init_531 : decode cX1_init 531 = .ok (.iastore, 1) := by decide +kernel
theorem dX1_init_532 : decode cX1_init 532 = .ok (.dup, 1) := by decide +kernel
theorem dX1_init_533 : decode cX1_init 533 = .ok (.iconst 5, 1) := by decide +kernel
theorem dX1_init_534 : decode cX1_init 534 = .ok (.bipush 68, 2) := by decide +kernel
theorem dX1_init_536 : decode cX1_init 536 = .ok (.iastore, 1) := by decide +kernel
theorem dX1_init_537 : decode cX1_init 537 = .ok (.dup, 1) := by decide +kernel
theorem dX1_init_538 : decode cX1_init 538 = .ok (.bipush 6, 2) := by decide +kernel
theorem dX1_init_540 : decode cX1_init 540 = .ok (.bipush 100, 2) := by decide +kernel
theorem dX1_init_542 : decode cX1_init 542 = .ok (.iastore, 1) := by decide +kernel
theorem dX1_init_543 : decode cX1_init 543 = .ok (.putfield 33, 3) := by decide +kernel
theorem dX1_init_546 : decode cX1_init 546 = .ok (.return_, 1) := by decide +kernel
theorem dX1_thrown_0 : decode cX1_thrown 0 = .ok (.aload_n 0, 1) := by decide +kernel
theorem dX1_thrown_1 : decode cX1_thrown 1 = .ok (.getfield 36, 3) := by decide +kernel
theorem dX1_thrown_4 : decode cX1_thrown 4 = .ok (.ireturn, 1) := by decide +kernel
theorem dX1_in_0 : decode cX1_in 0 = .ok (.lload_n 0, 1) := by decide +kernel
theorem dX1_in_1 : decode cX1_in 1 = .ok (.lload_n 2, 1) := by decide +kernel
theorem dX1_in_2 : decode cX1_in 2 = .ok (.lcmp, 1) := by decide +kernel
theorem dX1_in_3 : decode cX1_in 3 = .ok (.ifCond .lt 14, 3) := by decide +kernel
theorem dX1_in_6 : decode cX1_in 6 = .ok (.lload_n 0, 1) := by decide +kernel
theorem dX1_in_7 : decode cX1_in 7 = .ok (.lload 4, 2) := by decide +kernel
theorem dX1_in_9 : decode cX1_in 9 = .ok (.lcmp, 1) := by decide +kernel
theorem dX1_in_10 : decode cX1_in 10 = .ok (.ifCond .gt 7, 3) := by decide +kernel
theorem dX1_in_13 : decode cX1_in 13 = .ok (.iconst 1, 1) := by decide +kernel
theorem dX1_in_14 : decode cX1_in 14 = .ok (.goto 4, 3) := by decide +kernel
theorem dX1_in_17 : decode cX1_in 17 = .ok (.iconst 0, 1) := by decide +kernel
theorem dX1_in_18 : decode cX1_in 18 = .ok (.ireturn, 1) := by decide +kernel
theorem dX1_floor_0 : decode cX1_floor 0 = .ok (.lload_n 0, 1) := by decide +kernel
theorem dX1_floor_1 : decode cX1_floor 1 = .ok (.lload_n 2, 1) := by decide +kernel
theorem dX1_floor_2 : decode cX1_floor 2 = .ok (.ldiv, 1) := by decide +kernel
theorem dX1_floor_3 : decode cX1_floor 3 = .ok (.lstore 4, 2) := by decide +kernel
theorem dX1_floor_5 : decode cX1_floor 5 = .ok (.lload_n 0, 1) := by decide +kernel
theorem dX1_floor_6 : decode cX1_floor 6 = .ok (.lload_n 2, 1) := by decide +kernel
theorem dX1_floor_7 : decode cX1_floor 7 = .ok (.lrem, 1) := by decide +kernel
theorem dX1_floor_8 : decode cX1_floor 8 = .ok (.lconst 0, 1) := by decide +kernel
theorem dX1_floor_9 : decode cX1_floor 9 = .ok (.lcmp, 1) := by decide +kernel
theorem dX1_floor_10 : decode cX1_floor 10 = .ok (.ifCond .ge 10, 3) := by decide +kernel
theorem dX1_floor_13 : decode cX1_floor 13 = .ok (.lload 4, 2) := by decide +kernel
theorem dX1_floor_15 : decode cX1_floor 15 = .ok (.lconst 1, 1) := by decide +kernel
theorem dX1_floor_16 : decode cX1_floor 16 = .ok (.lsub, 1) := by decide +kernel
theorem dX1_floor_17 : decode cX1_floor 17 = .ok (.goto 5, 3) := by decide +kernel
theorem dX1_floor_20 : decode cX1_floor 20 = .ok (.lload 4, 2) := by decide +kernel
theorem dX1_floor_22 : decode cX1_floor 22 = .ok (.lreturn, 1) := by decide +kernel
theorem dX1_up_0 : decode cX1_up 0 = .ok (.lload_n 0, 1) := by decide +kernel
theorem dX1_up_1 : decode cX1_up 1 = .ok (.lload_n 2, 1) := by decide +kernel
theorem dX1_up_2 : decode cX1_up 2 = .ok (.ladd, 1) := by decide +kernel
theorem dX1_up_3 : decode cX1_up 3 = .ok (.lconst 1, 1) := by decide +kernel
theorem dX1_up_4 : decode cX1_up 4 = .ok (.lsub, 1) := by decide +kernel
theorem dX1_up_5 : decode cX1_up 5 = .ok (.lload_n 2, 1) := by decide +kernel
theorem dX1_up_6 : decode cX1_up 6 = .ok (.ldiv, 1) := by decide +kernel
theorem dX1_up_7 : decode cX1_up 7 = .ok (.lreturn, 1) := by decide +kernel
theorem dX1_isInTable_0 : decode cX1_isInTable 0 = .ok (.aload_n 0, 1) := by decide +kernel
theorem dX1_isInTable_1 : decode cX1_isInTable 1 = .ok (.getfield 40, 3) := by decide +kernel
theorem dX1_isInTable_4 : decode cX1_isInTable 4 = .ok (.iconst 1, 1) := by decide +kernel
theorem dX1_isInTable_5 : decode cX1_isInTable 5 = .ok (.if_icmp .le 33, 3) := by decide +kernel
theorem dX1_isInTable_8 : decode cX1_isInTable 8 = .ok (.lload_n 1, 1) := by decide +kernel
theorem dX1_isInTable_9 : decode cX1_isInTable 9 = .ok (.aload_n 0, 1) := by decide +kernel
theorem dX1_isInTable_10 : decode cX1_isInTable 10 = .ok (.getfield 7, 3) := by decide +kernel
theorem dX1_isInTable_13 : decode cX1_isInTable 13 = .ok (.iconst 0, 1) := by decide +kernel
theorem dX1_isInTable_14 : decode cX1_isInTable 14 = .ok (.iaload, 1) := by decide +kernel
theorem dX1_isInTable_15 : decode cX1_isInTable 15 = .ok (.i2l, 1) := by decide +kernel
theorem dX1_isInTable_16 : decode cX1_isInTable 16 = .ok (.aload_n 0, 1) := by decide +kernel
theorem dX1_isInTable_17 : decode cX1_isInTable 17 = .ok (.getfield 7, 3) := by decide +kernel
theorem dX1_isInTable_20 : decode cX1_isInTable 20 = .ok (.aload_n 0, 1) := by decide +kernel
theorem dX1_isInTable_21 : decode cX1_isInTable 21 = .ok (.getfield 40, 3) := by decide +kernel
theorem dX1_isInTable_24 : decode cX1_isInTable 24 = .ok (.iconst 1, 1) := by decide +kernel
theorem dX1_isInTable_25 : decode cX1_isInTable 25 = .ok (.isub, 1) := by decide +kernel
theorem dX1_isInTable_26 : decode cX1_isInTable 26 = .ok (.iaload, 1) := by decide +kernel
theorem dX1_isInTable_27 : decode cX1_isInTable 27 = .ok (.i2l, 1) := by decide +kernel
theorem dX1_isInTable_28 : decode cX1_isInTable 28 = .ok (.invokestatic 43, 3) := by decide +kernel
theorem dX1_isInTable_31 : decode cX1_isInTable 31 = .ok (.ifCond .eq 7, 3) := by decide +kernel
theorem dX1_isInTable_34 : decode cX1_isInTable 34 = .ok (.iconst 1, 1) := by decide +kernel
theorem dX1_isInTable_35 : decode cX1_isInTable 35 = .ok (.goto 4, 3) := by decide +kernel
theorem dX1_isInTable_38 : decode cX1_isInTable 38 = .ok (.iconst 0, 1) := by decide +kernel
theorem dX1_isInTable_39 : decode cX1_isInTable 39 = .ok (.ireturn, 1) := by decide +kernel
theorem dX1_isHeight_0 : decode cX1_isHeight 0 = .ok (.lload_n 0, 1) := by decide +kernel
theorem dX1_isHeight_1 : decode cX1_isHeight 1 = .ok (.ldc2_w 47, 3) := by decide +kernel
theorem dX1_isHeight_4 : decode cX1_isHeight 4 = .ok (.ldc2_w 49, 3) := by decide +kernel
theorem dX1_isHeight_7 : decode cX1_isHeight 7 = .ok (.invokestatic 43, 3) := by decide +kernel
theorem dX1_isHeight_10 : decode cX1_isHeight 10 = .ok (.ireturn, 1) := by decide +kernel
theorem dX1_tableHeight_0 : decode cX1_tableHeight 0 = .ok (.iconst 0, 1) := by decide +kernel
theorem dX1_tableHeight_1 : decode cX1_tableHeight 1 = .ok (.istore_n 2, 1) := by decide +kernel
theorem dX1_tableHeight_2 : decode cX1_tableHeight 2 = .ok (.aload_n 0, 1) := by decide +kernel
theorem dX1_tableHeight_3 : decode cX1_tableHeight 3 = .ok (.getfield 7, 3) := by decide +kernel
theorem dX1_tableHeight_6 : decode cX1_tableHeight 6 = .ok (.iload_n 2, 1) := by decide +kernel
theorem dX1_tableHeight_7 : decode cX1_tableHeight 7 = .ok (.iaload, 1) := by decide +kernel
theorem dX1_tableHeight_8 : decode cX1_tableHeight 8 = .ok (.iload_n 1, 1) := by decide +kernel
theorem dX1_tableHeight_9 : decode cX1_tableHeight 9 = .ok (.if_icmp .ge 9, 3) := by decide +kernel
theorem dX1_tableHeight_12 : decode cX1_tableHeight 12 = .ok (.iinc 2 1, 3) := by decide +kernel
theorem dX1_tableHeight_15 : decode cX1_tableHeight 15 = .ok (.goto (-13), 3) := by decide +kernel
theorem dX1_tableHeight_18 : decode cX1_tableHeight 18 = .ok (.aload_n 0, 1) := by decide +kernel
theorem dX1_tableHeight_19 : decode cX1_tableHeight 19 = .ok (.getfield 7, 3) := by decide +kernel
theorem dX1_tableHeight_22 : decode cX1_tableHeight 22 = .ok (.iload_n 2, 1) := by decide +kernel
theorem dX1_tableHeight_23 : decode cX1_tableHeight 23 = .ok (.iaload, 1) := by decide +kernel
theorem dX1_tableHeight_24 : decode cX1_tableHeight 24 = .ok (.iload_n 1, 1) := by decide +kernel
theorem dX1_tableHeight_25 : decode cX1_tableHeight 25 = .ok (.if_icmp .ne 11, 3) := by decide +kernel
theorem dX1_tableHeight_28 : decode cX1_tableHeight 28 = .ok (.aload_n 0, 1) := by decide +kernel
theorem dX1_tableHeight_29 : decode cX1_tableHeight 29 = .ok (.getfield 13, 3) := by decide +kernel
theorem dX1_tableHeight_32 : decode cX1_tableHeight 32 = .ok (.iload_n 2, 1) := by decide +kernel
theorem dX1_tableHeight_33 : decode cX1_tableHeight 33 = .ok (.iaload, 1) := by decide +kernel
theorem dX1_tableHeight_34 : decode cX1_tableHeight 34 = .ok (.i2l, 1) := by decide +kernel
theorem dX1_tableHeight_35 : decode cX1_tableHeight 35 = .ok (.lreturn, 1) := by decide +kernel
theorem dX1_tableHeight_36 : decode cX1_tableHeight 36 = .ok (.aload_n 0, 1) := by decide +kernel
theorem dX1_tableHeight_37 : decode cX1_tableHeight 37 = .ok (.getfield 7, 3) := by decide +kernel
theorem dX1_tableHeight_40 : decode cX1_tableHeight 40 = .ok (.iload_n 2, 1) := by decide +kernel
theorem dX1_tableHeight_41 : decode cX1_tableHeight 41 = .ok (.iaload, 1) := by decide +kernel
theorem dX1_tableHeight_42 : decode cX1_tableHeight 42 = .ok (.aload_n 0, 1) := by decide +kernel
theorem dX1_tableHeight_43 : decode cX1_tableHeight 43 = .ok (.getfield 7, 3) := by decide +kernel
theorem dX1_tableHeight_46 : decode cX1_tableHeight 46 = .ok (.iload_n 2, 1) := by decide +kernel
theorem dX1_tableHeight_47 : decode cX1_tableHeight 47 = .ok (.iconst 1, 1) := by decide +kernel
theorem dX1_tableHeight_48 : decode cX1_tableHeight 48 = .ok (.isub, 1) := by decide +kernel
theorem dX1_tableHeight_49 : decode cX1_tableHeight 49 = .ok (.iaload, 1) := by decide +kernel
theorem dX1_tableHeight_50 : decode cX1_tableHeight 50 = .ok (.isub, 1) := by decide +kernel
theorem dX1_tableHeight_51 : decode cX1_tableHeight 51 = .ok (.i2l, 1) := by decide +kernel
theorem dX1_tableHeight_52 : decode cX1_tableHeight 52 = .ok (.lstore_n 3, 1) := by decide +kernel
theorem dX1_tableHeight_53 : decode cX1_tableHeight 53 = .ok (.ldc2_w 51, 3) := by decide +kernel
theorem dX1_tableHeight_56 : decode cX1_tableHeight 56 = .ok (.iload_n 1, 1) := by decide +kernel
theorem dX1_tableHeight_57 : decode cX1_tableHeight 57 = .ok (.aload_n 0, 1) := by decide +kernel
theorem dX1_tableHeight_58 : decode cX1_tableHeight 58 = .ok (.getfield 7, 3) := by decide +kernel
theorem dX1_tableHeight_61 : decode cX1_tableHeight 61 = .ok (.iload_n 2, 1) := by decide +kernel
theorem dX1_tableHeight_62 : decode cX1_tableHeight 62 = .ok (.iconst 1, 1) := by decide +kernel
theorem dX1_tableHeight_63 : decode cX1_tableHeight 63 = .ok (.isub, 1) := by decide +kernel
theorem dX1_tableHeight_64 : decode cX1_tableHeight 64 = .ok (.iaload, 1) := by decide +kernel
theorem dX1_tableHeight_65 : decode cX1_tableHeight 65 = .ok (.isub, 1) := by decide +kernel
theorem dX1_tableHeight_66 : decode cX1_tableHeight 66 = .ok (.i2l, 1) := by decide +kernel
theorem dX1_tableHeight_67 : decode cX1_tableHeight 67 = .ok (.lmul, 1) := by decide +kernel
theorem dX1_tableHeight_68 : decode cX1_tableHeight 68 = .ok (.lstore 5, 2) := by decide +kernel
theorem dX1_tableHeight_70 : decode cX1_tableHeight 70 = .ok (.lload 5, 2) := by decide +kernel
theorem dX1_tableHeight_72 : decode cX1_tableHeight 72 = .ok (.lload_n 3, 1) := by decide +kernel
theorem dX1_tableHeight_73 : decode cX1_tableHeight 73 = .ok (.ldiv, 1) := by decide +kernel
theorem dX1_tableHeight_74 : decode cX1_tableHeight 74 = .ok (.l2i, 1) := by decide +kernel
theorem dX1_tableHeight_75 : decode cX1_tableHeight 75 = .ok (.istore 7, 2) := by decide +kernel
theorem dX1_tableHeight_77 : decode cX1_tableHeight 77 = .ok (.aload_n 0, 1) := by decide +kernel
theorem dX1_tableHeight_78 : decode cX1_tableHeight 78 = .ok (.getfield 30, 3) := by decide +kernel
theorem dX1_tableHeight_81 : decode cX1_tableHeight 81 = .ok (.iload 7, 2) := by decide +kernel
theorem dX1_tableHeight_83 : decode cX1_tableHeight 83 = .ok (.iaload, 1) := by decide +kernel
theorem dX1_tableHeight_84 : decode cX1_tableHeight 84 = .ok (.i2l, 1) := by decide +kernel
theorem dX1_tableHeight_85 : decode cX1_tableHeight 85 = .ok (.aload_n 0, 1) := by decide +kernel
theorem dX1_tableHeight_86 : decode cX1_tableHeight 86 = .ok (.getfield 30, 3) := by decide +kernel
theorem dX1_tableHeight_89 : decode cX1_tableHeight 89 = .ok (.iload 7, 2) := by decide +kernel
theorem dX1_tableHeight_91 : decode cX1_tableHeight 91 = .ok (.iconst 1, 1) := by decide +kernel
theorem dX1_tableHeight_92 : decode cX1_tableHeight 92 = .ok (.iadd, 1) := by decide +kernel
theorem dX1_tableHeight_93 : decode cX1_tableHeight 93 = .ok (.iaload, 1) := by decide +kernel
theorem dX1_tableHeight_94 : decode cX1_tableHeight 94 = .ok (.aload_n 0, 1) := by decide +kernel
theorem dX1_tableHeight_95 : decode cX1_tableHeight 95 = .ok (.getfield 30, 3) := by decide +kernel
theorem dX1_tableHeight_98 : decode cX1_tableHeight 98 = .ok (.iload 7, 2) := by decide +kernel
theorem dX1_tableHeight_100 : decode cX1_tableHeight 100 = .ok (.iaload, 1) := by decide +kernel
theorem dX1_tableHeight_101 : decode cX1_tableHeight 101 = .ok (.isub, 1) := by decide +kernel
theorem dX1_tableHeight_102 : decode cX1_tableHeight 102 = .ok (.i2l, 1) := by decide +kernel
theorem dX1_tableHeight_103 : decode cX1_tableHeight 103 = .ok (.lload 5, 2) := by decide +kernel
theorem dX1_tableHeight_105 : decode cX1_tableHeight 105 = .ok (.iload 7, 2) := by decide +kernel
theorem dX1_tableHeight_107 : decode cX1_tableHeight 107 = .ok (.i2l, 1) := by decide +kernel
theorem dX1_tableHeight_108 : decode cX1_tableHeight 108 = .ok (.lload_n 3, 1) := by decide +kernel
theorem dX1_tableHeight_109 : decode cX1_tableHeight 109 = .ok (.lmul, 1) := by decide +kernel
theorem dX1_tableHeight_110 : decode cX1_tableHeight 110 = .ok (.lsub, 1) := by decide +kernel
theorem dX1_tableHeight_111 : decode cX1_tableHeight 111 = .ok (.lmul, 1) := by decide +kernel
theorem dX1_tableHeight_112 : decode cX1_tableHeight 112 = .ok (.lload_n 3, 1) := by decide +kernel
theorem dX1_tableHeight_113 : decode cX1_tableHeight 113 = .ok (.ldiv, 1) := by decide +kernel
theorem dX1_tableHeight_114 : decode cX1_tableHeight 114 = .ok (.ladd, 1) := by decide +kernel
theorem dX1_tableHeight_115 : decode cX1_tableHeight 115 = .ok (.lstore 8, 2) := by decide +kernel
theorem dX1_tableHeight_117 : decode cX1_tableHeight 117 = .ok (.aload_n 0, 1) := by decide +kernel
theorem dX1_tableHeight_118 : decode cX1_tableHeight 118 = .ok (.getfield 13, 3) := by decide +kernel
theorem dX1_tableHeight_121 : decode cX1_tableHeight 121 = .ok (.iload_n 2, 1) := by decide +kernel
theorem dX1_tableHeight_122 : decode cX1_tableHeight 122 = .ok (.iconst 1, 1) := by decide +kernel
theorem dX1_tableHeight_123 : decode cX1_tableHeight 123 = .ok (.isub, 1) := by decide +kernel
theorem dX1_tableHeight_124 : decode cX1_tableHeight 124 = .ok (.iaload, 1) := by decide +kernel
theorem dX1_tableHeight_125 : decode cX1_tableHeight 125 = .ok (.i2l, 1) := by decide +kernel
theorem dX1_tableHeight_126 : decode cX1_tableHeight 126 = .ok (.aload_n 0, 1) := by decide +kernel
theorem dX1_tableHeight_127 : decode cX1_tableHeight 127 = .ok (.getfield 13, 3) := by decide +kernel
theorem dX1_tableHeight_130 : decode cX1_tableHeight 130 = .ok (.iload_n 2, 1) := by decide +kernel
theorem dX1_tableHeight_131 : decode cX1_tableHeight 131 = .ok (.iaload, 1) := by decide +kernel
theorem dX1_tableHeight_132 : decode cX1_tableHeight 132 = .ok (.aload_n 0, 1) := by decide +kernel
theorem dX1_tableHeight_133 : decode cX1_tableHeight 133 = .ok (.getfield 13, 3) := by decide +kernel
theorem dX1_tableHeight_136 : decode cX1_tableHeight 136 = .ok (.iload_n 2, 1) := by decide +kernel
theorem dX1_tableHeight_137 : decode cX1_tableHeight 137 = .ok (.iconst 1, 1) := by decide +kernel
theorem dX1_tableHeight_138 : decode cX1_tableHeight 138 = .ok (.isub, 1) := by decide +kernel
theorem dX1_tableHeight_139 : decode cX1_tableHeight 139 = .ok (.iaload, 1) := by decide +kernel
theorem dX1_tableHeight_140 : decode cX1_tableHeight 140 = .ok (.isub, 1) := by decide +kernel
theorem dX1_tableHeight_141 : decode cX1_tableHeight 141 = .ok (.i2l, 1) := by decide +kernel
theorem dX1_tableHeight_142 : decode cX1_tableHeight 142 = .ok (.lload 8, 2) := by decide +kernel
theorem dX1_tableHeight_144 : decode cX1_tableHeight 144 = .ok (.lmul, 1) := by decide +kernel
theorem dX1_tableHeight_145 : decode cX1_tableHeight 145 = .ok (.ldc2_w 53, 3) := by decide +kernel
theorem dX1_tableHeight_148 : decode cX1_tableHeight 148 = .ok (.invokestatic 55, 3) := by decide +kernel
theorem dX1_tableHeight_151 : decode cX1_tableHeight 151 = .ok (.ladd, 1) := by decide +kernel
theorem dX1_tableHeight_152 : decode cX1_tableHeight 152 = .ok (.lreturn, 1) := by decide +kernel
theorem dX1_heightAt_0 : decode cX1_heightAt 0 = .ok (.aload_n 0, 1) := by decide +kernel
theorem dX1_heightAt_1 : decode cX1_heightAt 1 = .ok (.getfield 59, 3) := by decide +kernel
theorem dX1_heightAt_4 : decode cX1_heightAt 4 = .ok (.iconst 1, 1) := by decide +kernel
theorem dX1_heightAt_5 : decode cX1_heightAt 5 = .ok (.isub, 1) := by decide +kernel
theorem dX1_heightAt_6 : decode cX1_heightAt 6 = .ok (.istore_n 2, 1) := by decide +kernel
theorem dX1_heightAt_7 : decode cX1_heightAt 7 = .ok (.iload_n 2, 1) := by decide +kernel
theorem dX1_heightAt_8 : decode cX1_heightAt 8 = .ok (.ifCond .lt 19, 3) := by decide +kernel
theorem dX1_heightAt_11 : decode cX1_heightAt 11 = .ok (.aload_n 0, 1) := by decide +kernel
theorem dX1_heightAt_12 : decode cX1_heightAt 12 = .ok (.getfield 16, 3) := by decide +kernel
theorem dX1_heightAt_15 : decode cX1_heightAt 15 = .ok (.iload_n 2, 1) := by decide +kernel
theorem dX1_heightAt_16 : decode cX1_heightAt 16 = .ok (.iaload, 1) := by decide +kernel
theorem dX1_heightAt_17 : decode cX1_heightAt 17 = .ok (.iload_n 1, 1) := by decide +kernel
theorem dX1_heightAt_18 : decode cX1_heightAt 18 = .ok (.if_icmp .le 9, 3) := by decide +kernel
theorem dX1_heightAt_21 : decode cX1_heightAt 21 = .ok (.iinc 2 (-1), 3) := by decide +kernel
theorem dX1_heightAt_24 : decode cX1_heightAt 24 = .ok (.goto (-17), 3) := by decide +kernel
theorem dX1_heightAt_27 : decode cX1_heightAt 27 = .ok (.iload_n 2, 1) := by decide +kernel
theorem dX1_heightAt_28 : decode cX1_heightAt 28 = .ok (.ifCond .ge 7, 3) := by decide +kernel
theorem dX1_heightAt_31 : decode cX1_heightAt 31 = .ok (.lconst 0, 1) := by decide +kernel
theorem dX1_heightAt_32 : decode cX1_heightAt 32 = .ok (.goto 9, 3) := by decide +kernel
theorem dX1_heightAt_35 : decode cX1_heightAt 35 = .ok (.aload_n 0, 1) := by decide +kernel
theorem dX1_heightAt_36 : decode cX1_heightAt 36 = .ok (.getfield 19, 3) := by decide +kernel
theorem dX1_heightAt_39 : decode cX1_heightAt 39 = .ok (.iload_n 2, 1) := by decide +kernel
theorem dX1_heightAt_40 : decode cX1_heightAt 40 = .ok (.laload, 1) := by decide +kernel
theorem dX1_heightAt_41 : decode cX1_heightAt 41 = .ok (.lstore_n 3, 1) := by decide +kernel
theorem dX1_heightAt_42 : decode cX1_heightAt 42 = .ok (.iload_n 2, 1) := by decide +kernel
theorem dX1_heightAt_43 : decode cX1_heightAt 43 = .ok (.ifCond .ge 7, 3) := by decide +kernel
theorem dX1_heightAt_46 : decode cX1_heightAt 46 = .ok (.iconst 0, 1) := by decide +kernel
theorem dX1_heightAt_47 : decode cX1_heightAt 47 = .ok (.goto 15, 3) := by decide +kernel
theorem dX1_heightAt_50 : decode cX1_heightAt 50 = .ok (.iload_n 1, 1) := by decide +kernel
theorem dX1_heightAt_51 : decode cX1_heightAt 51 = .ok (.aload_n 0, 1) := by decide +kernel
theorem dX1_heightAt_52 : decode cX1_heightAt 52 = .ok (.getfield 16, 3) := by decide +kernel
theorem dX1_heightAt_55 : decode cX1_heightAt 55 = .ok (.iload_n 2, 1) := by decide +kernel
theorem dX1_heightAt_56 : decode cX1_heightAt 56 = .ok (.iaload, 1) := by decide +kernel
theorem dX1_heightAt_57 : decode cX1_heightAt 57 = .ok (.isub, 1) := by decide +kernel
theorem dX1_heightAt_58 : decode cX1_heightAt 58 = .ok (.sipush 600, 3) := by decide +kernel
theorem dX1_heightAt_61 : decode cX1_heightAt 61 = .ok (.idiv, 1) := by decide +kernel
theorem dX1_heightAt_62 : decode cX1_heightAt 62 = .ok (.istore 5, 2) := by decide +kernel
theorem dX1_heightAt_64 : decode cX1_heightAt 64 = .ok (.iload 5, 2) := by decide +kernel
theorem dX1_heightAt_66 : decode cX1_heightAt 66 = .ok (.ifCond .le 15, 3) := by decide +kernel
theorem dX1_heightAt_69 : decode cX1_heightAt 69 = .ok (.lload_n 3, 1) := by decide +kernel
theorem dX1_heightAt_70 : decode cX1_heightAt 70 = .ok (.ldc2_w 62, 3) := by decide +kernel
theorem dX1_heightAt_73 : decode cX1_heightAt 73 = .ok (.ldiv, 1) := by decide +kernel
theorem dX1_heightAt_74 : decode cX1_heightAt 74 = .ok (.lstore_n 3, 1) := by decide +kernel
theorem dX1_heightAt_75 : decode cX1_heightAt 75 = .ok (.iinc 5 (-1), 3) := by decide +kernel
theorem dX1_heightAt_78 : decode cX1_heightAt 78 = .ok (.goto (-14), 3) := by decide +kernel
theorem dX1_heightAt_81 : decode cX1_heightAt 81 = .ok (.aload_n 0, 1) := by decide +kernel
theorem dX1_heightAt_82 : decode cX1_heightAt 82 = .ok (.iload_n 1, 1) := by decide +kernel
theorem dX1_heightAt_83 : decode cX1_heightAt 83 = .ok (.invokevirtual 64, 3) := by decide +kernel
theorem dX1_heightAt_86 : decode cX1_heightAt 86 = .ok (.lload_n 3, 1) := by decide +kernel
theorem dX1_heightAt_87 : decode cX1_heightAt 87 = .ok (.ladd, 1) := by decide +kernel
theorem dX1_heightAt_88 : decode cX1_heightAt 88 = .ok (.lreturn, 1) := by decide +kernel
theorem dX1_turn_0 : decode cX1_turn 0 = .ok (.lload_n 1, 1) := by decide +kernel
theorem dX1_turn_1 : decode cX1_turn 1 = .ok (.lconst 0, 1) := by decide +kernel
theorem dX1_turn_2 : decode cX1_turn 2 = .ok (.ldc2_w 68, 3) := by decide +kernel
theorem dX1_turn_5 : decode cX1_turn 5 = .ok (.invokestatic 43, 3) := by decide +kernel
theorem dX1_turn_8 : decode cX1_turn 8 = .ok (.ifCond .eq 49, 3) := by decide +kernel
theorem dX1_turn_11 : decode cX1_turn 11 = .ok (.lload_n 3, 1) := by decide +kernel
theorem dX1_turn_12 : decode cX1_turn 12 = .ok (.invokestatic 70, 3) := by decide +kernel
theorem dX1_turn_15 : decode cX1_turn 15 = .ok (.ifCond .eq 42, 3) := by decide +kernel
theorem dX1_turn_18 : decode cX1_turn 18 = .ok (.aload_n 0, 1) := by decide +kernel
theorem dX1_turn_19 : decode cX1_turn 19 = .ok (.getfield 40, 3) := by decide +kernel
theorem dX1_turn_22 : decode cX1_turn 22 = .ok (.ifCond .eq 31, 3) := by decide +kernel
theorem dX1_turn_25 : decode cX1_turn 25 = .ok (.lload_n 1, 1) := by decide +kernel
theorem dX1_turn_26 : decode cX1_turn 26 = .ok (.aload_n 0, 1) := by decide +kernel
theorem dX1_turn_27 : decode cX1_turn 27 = .ok (.getfield 7, 3) := by decide +kernel
theorem dX1_turn_30 : decode cX1_turn 30 = .ok (.aload_n 0, 1) := by decide +kernel
theorem dX1_turn_31 : decode cX1_turn 31 = .ok (.getfield 40, 3) := by decide +kernel
theorem dX1_turn_34 : decode cX1_turn 34 = .ok (.ifCond .le 12, 3) := by decide +kernel
theorem dX1_turn_37 : decode cX1_turn 37 = .ok (.aload_n 0, 1) := by decide +kernel
theorem dX1_turn_38 : decode cX1_turn 38 = .ok (.getfield 40, 3) := by decide +kernel
theorem dX1_turn_41 : decode cX1_turn 41 = .ok (.iconst 1, 1) := by decide +kernel
theorem dX1_turn_42 : decode cX1_turn 42 = .ok (.isub, 1) := by decide +kernel
theorem dX1_turn_43 : decode cX1_turn 43 = .ok (.goto 4, 3) := by decide +kernel
theorem dX1_turn_46 : decode cX1_turn 46 = .ok (.iconst 0, 1) := by decide +kernel
theorem dX1_turn_47 : decode cX1_turn 47 = .ok (.iaload, 1) := by decide +kernel
theorem dX1_turn_48 : decode cX1_turn 48 = .ok (.i2l, 1) := by decide +kernel
theorem dX1_turn_49 : decode cX1_turn 49 = .ok (.lcmp, 1) := by decide +kernel
theorem dX1_turn_50 : decode cX1_turn 50 = .ok (.ifCond .le 7, 3) := by decide +kernel
theorem dX1_turn_53 : decode cX1_turn 53 = .ok (.iconst 1, 1) := by decide +kernel
theorem dX1_turn_54 : decode cX1_turn 54 = .ok (.goto 4, 3) := by decide +kernel
theorem dX1_turn_57 : decode cX1_turn 57 = .ok (.iconst 0, 1) := by decide +kernel
theorem dX1_turn_58 : decode cX1_turn 58 = .ok (.istore 5, 2) := by decide +kernel
theorem dX1_turn_60 : decode cX1_turn 60 = .ok (.aload_n 0, 1) := by decide +kernel
theorem dX1_turn_61 : decode cX1_turn 61 = .ok (.iload 5, 2) := by decide +kernel
theorem dX1_turn_63 : decode cX1_turn 63 = .ok (.ifCond .ne 7, 3) := by decide +kernel
theorem dX1_turn_66 : decode cX1_turn 66 = .ok (.iconst 1, 1) := by decide +kernel
theorem dX1_turn_67 : decode cX1_turn 67 = .ok (.goto 17, 3) := by decide +kernel
theorem dX1_turn_70 : decode cX1_turn 70 = .ok (.aload_n 0, 1) := by decide +kernel
theorem dX1_turn_71 : decode cX1_turn 71 = .ok (.getfield 40, 3) := by decide +kernel
theorem dX1_turn_74 : decode cX1_turn 74 = .ok (.bipush 40, 2) := by decide +kernel
theorem dX1_turn_76 : decode cX1_turn 76 = .ok (.if_icmp .ne 7, 3) := by decide +kernel
theorem dX1_turn_79 : decode cX1_turn 79 = .ok (.iconst 2, 1) := by decide +kernel
theorem dX1_turn_80 : decode cX1_turn 80 = .ok (.goto 4, 3) := by decide +kernel
theorem dX1_turn_83 : decode cX1_turn 83 = .ok (.iconst 0, 1) := by decide +kernel
theorem dX1_turn_84 : decode cX1_turn 84 = .ok (.putfield 36, 3) := by decide +kernel
theorem dX1_turn_87 : decode cX1_turn 87 = .ok (.aload_n 0, 1) := by decide +kernel
theorem dX1_turn_88 : decode cX1_turn 88 = .ok (.getfield 36, 3) := by decide +kernel
theorem dX1_turn_91 : decode cX1_turn 91 = .ok (.ifCond .le 5, 3) := by decide +kernel
theorem dX1_turn_94 : decode cX1_turn 94 = .ok (.iconst 0, 1) := by decide +kernel
theorem dX1_turn_95 : decode cX1_turn 95 = .ok (.ireturn, 1) := by decide +kernel
theorem dX1_turn_96 : decode cX1_turn 96 = .ok (.aload_n 0, 1) := by decide +kernel
theorem dX1_turn_97 : decode cX1_turn 97 = .ok (.getfield 40, 3) := by decide +kernel
theorem dX1_turn_100 : decode cX1_turn 100 = .ok (.ifCond .le 126, 3) := by decide +kernel
theorem dX1_turn_103 : decode cX1_turn 103 = .ok (.aload_n 0, 1) := by decide +kernel
theorem dX1_turn_104 : decode cX1_turn 104 = .ok (.getfield 13, 3) := by decide +kernel
theorem dX1_turn_107 : decode cX1_turn 107 = .ok (.aload_n 0, 1) := by decide +kernel
theorem dX1_turn_108 : decode cX1_turn 108 = .ok (.getfield 40, 3) := by decide +kernel
theorem dX1_turn_111 : decode cX1_turn 111 = .ok (.iconst 1, 1) := by decide +kernel
theorem dX1_turn_112 : decode cX1_turn 112 = .ok (.isub, 1) := by decide +kernel
theorem dX1_turn_113 : decode cX1_turn 113 = .ok (.iaload, 1) := by decide +kernel
theorem dX1_turn_114 : decode cX1_turn 114 = .ok (.istore 6, 2) := by decide +kernel
theorem dX1_turn_116 : decode cX1_turn 116 = .ok (.aload_n 0, 1) := by decide +kernel
theorem dX1_turn_117 : decode cX1_turn 117 = .ok (.getfield 40, 3) := by decide +kernel
theorem dX1_turn_120 : decode cX1_turn 120 = .ok (.iconst 1, 1) := by decide +kernel
theorem dX1_turn_121 : decode cX1_turn 121 = .ok (.if_icmp .le 35, 3) := by decide +kernel
theorem dX1_turn_124 : decode cX1_turn 124 = .ok (.iload 6, 2) := by decide +kernel
theorem dX1_turn_126 : decode cX1_turn 126 = .ok (.aload_n 0, 1) := by decide +kernel
theorem dX1_turn_127 : decode cX1_turn 127 = .ok (.getfield 13, 3) := by decide +kernel
theorem dX1_turn_130 : decode cX1_turn 130 = .ok (.aload_n 0, 1) := by decide +kernel
theorem dX1_turn_131 : decode cX1_turn 131 = .ok (.getfield 40, 3) := by decide +kernel
theorem dX1_turn_134 : decode cX1_turn 134 = .ok (.iconst 1, 1) := by decide +kernel
theorem dX1_turn_135 : decode cX1_turn 135 = .ok (.if_icmp .le 12, 3) := by decide +kernel
theorem dX1_turn_138 : decode cX1_turn 138 = .ok (.aload_n 0, 1) := by decide +kernel
theorem dX1_turn_139 : decode cX1_turn 139 = .ok (.getfield 40, 3) := by decide +kernel
theorem dX1_turn_142 : decode cX1_turn 142 = .ok (.iconst 2, 1) := by decide +kernel
theorem dX1_turn_143 : decode cX1_turn 143 = .ok (.isub, 1) := by decide +kernel
theorem dX1_turn_144 : decode cX1_turn 144 = .ok (.goto 4, 3) := by decide +kernel
theorem dX1_turn_147 : decode cX1_turn 147 = .ok (.iconst 0, 1) := by decide +kernel
theorem dX1_turn_148 : decode cX1_turn 148 = .ok (.iaload, 1) := by decide +kernel
theorem dX1_turn_149 : decode cX1_turn 149 = .ok (.if_icmp .le 7, 3) := by decide +kernel
theorem dX1_turn_152 : decode cX1_turn 152 = .ok (.iconst 1, 1) := by decide +kernel
theorem dX1_turn_153 : decode cX1_turn 153 = .ok (.goto 4, 3) := by decide +kernel
theorem dX1_turn_156 : decode cX1_turn 156 = .ok (.iconst 0, 1) := by decide +kernel
theorem dX1_turn_157 : decode cX1_turn 157 = .ok (.istore 7, 2) := by decide +kernel
theorem dX1_turn_159 : decode cX1_turn 159 = .ok (.aload_n 0, 1) := by decide +kernel
theorem dX1_turn_160 : decode cX1_turn 160 = .ok (.getfield 40, 3) := by decide +kernel
theorem dX1_turn_163 : decode cX1_turn 163 = .ok (.iconst 1, 1) := by decide +kernel
theorem dX1_turn_164 : decode cX1_turn 164 = .ok (.if_icmp .ne 19, 3) := by decide +kernel
theorem dX1_turn_167 : decode cX1_turn 167 = .ok (.lload_n 3, 1) := by decide +kernel
theorem dX1_turn_168 : decode cX1_turn 168 = .ok (.iload 6, 2) := by decide +kernel
theorem dX1_turn_170 : decode cX1_turn 170 = .ok (.i2l, 1) := by decide +kernel
theorem dX1_turn_171 : decode cX1_turn 171 = .ok (.lcmp, 1) := by decide +kernel
theorem dX1_turn_172 : decode cX1_turn 172 = .ok (.ifCond .eq 7, 3) := by decide +kernel
theorem dX1_turn_175 : decode cX1_turn 175 = .ok (.iconst 1, 1) := by decide +kernel
theorem dX1_turn_176 : decode cX1_turn 176 = .ok (.goto 41, 3) := by decide +kernel
theorem dX1_turn_179 : decode cX1_turn 179 = .ok (.iconst 0, 1) := by decide +kernel
theorem dX1_turn_180 : decode cX1_turn 180 = .ok (.goto 37, 3) := by decide +kernel
theorem dX1_turn_183 : decode cX1_turn 183 = .ok (.iload 7, 2) := by decide +kernel
theorem dX1_turn_185 : decode cX1_turn 185 = .ok (.ifCond .eq 19, 3) := by decide +kernel
theorem dX1_turn_188 : decode cX1_turn 188 = .ok (.lload_n 3, 1) := by decide +kernel
theorem dX1_turn_189 : decode cX1_turn 189 = .ok (.iload 6, 2) := by decide +kernel
theorem dX1_turn_191 : decode cX1_turn 191 = .ok (.i2l, 1) := by decide +kernel
theorem dX1_turn_192 : decode cX1_turn 192 = .ok (.lcmp, 1) := by decide +kernel
theorem dX1_turn_193 : decode cX1_turn 193 = .ok (.ifCond .ge 7, 3) := by decide +kernel
theorem dX1_turn_196 : decode cX1_turn 196 = .ok (.iconst 1, 1) := by decide +kernel
theorem dX1_turn_197 : decode cX1_turn 197 = .ok (.goto 20, 3) := by decide +kernel
theorem dX1_turn_200 : decode cX1_turn 200 = .ok (.iconst 0, 1) := by decide +kernel
theorem dX1_turn_201 : decode cX1_turn 201 = .ok (.goto 16, 3) := by decide +kernel
theorem dX1_turn_204 : decode cX1_turn 204 = .ok (.lload_n 3, 1) := by decide +kernel
theorem dX1_turn_205 : decode cX1_turn 205 = .ok (.iload 6, 2) := by decide +kernel
theorem dX1_turn_207 : decode cX1_turn 207 = .ok (.i2l, 1) := by decide +kernel
theorem dX1_turn_208 : decode cX1_turn 208 = .ok (.lcmp, 1) := by decide +kernel
theorem dX1_turn_209 : decode cX1_turn 209 = .ok (.ifCond .le 7, 3) := by decide +kernel
theorem dX1_turn_212 : decode cX1_turn 212 = .ok (.iconst 1, 1) := by decide +kernel
theorem dX1_turn_213 : decode cX1_turn 213 = .ok (.goto 4, 3) := by decide +kernel
theorem dX1_turn_216 : decode cX1_turn 216 = .ok (.iconst 0, 1) := by decide +kernel
theorem dX1_turn_217 : decode cX1_turn 217 = .ok (.istore 8, 2) := by decide +kernel
theorem dX1_turn_219 : decode cX1_turn 219 = .ok (.iload 8, 2) := by decide +kernel
theorem dX1_turn_221 : decode cX1_turn 221 = .ok (.ifCond .ne 5, 3) := by decide +kernel
theorem dX1_turn_224 : decode cX1_turn 224 = .ok (.iconst 0, 1) := by decide +kernel
theorem dX1_turn_225 : decode cX1_turn 225 = .ok (.ireturn, 1) := by decide +kernel
theorem dX1_turn_226 : decode cX1_turn 226 = .ok (.aload_n 0, 1) := by decide +kernel
theorem dX1_turn_227 : decode cX1_turn 227 = .ok (.getfield 7, 3) := by decide +kernel
theorem dX1_turn_230 : decode cX1_turn 230 = .ok (.aload_n 0, 1) := by decide +kernel
theorem dX1_turn_231 : decode cX1_turn 231 = .ok (.getfield 40, 3) := by decide +kernel
theorem dX1_turn_234 : decode cX1_turn 234 = .ok (.lload_n 1, 1) := by decide +kernel
theorem dX1_turn_235 : decode cX1_turn 235 = .ok (.l2i, 1) := by decide +kernel
theorem dX1_turn_236 : decode cX1_turn 236 = .ok (.iastore, 1) := by decide +kernel
theorem dX1_turn_237 : decode cX1_turn 237 = .ok (.aload_n 0, 1) := by decide +kernel
theorem dX1_turn_238 : decode cX1_turn 238 = .ok (.getfield 13, 3) := by decide +kernel
theorem dX1_turn_241 : decode cX1_turn 241 = .ok (.aload_n 0, 1) := by decide +kernel
theorem dX1_turn_242 : decode cX1_turn 242 = .ok (.getfield 40, 3) := by decide +kernel
theorem dX1_turn_245 : decode cX1_turn 245 = .ok (.lload_n 3, 1) := by decide +kernel
theorem dX1_turn_246 : decode cX1_turn 246 = .ok (.l2i, 1) := by decide +kernel
theorem dX1_turn_247 : decode cX1_turn 247 = .ok (.iastore, 1) := by decide +kernel
theorem dX1_turn_248 : decode cX1_turn 248 = .ok (.aload_n 0, 1) := by decide +kernel
theorem dX1_turn_249 : decode cX1_turn 249 = .ok (.dup, 1) := by decide +kernel
theorem dX1_turn_250 : decode cX1_turn 250 = .ok (.getfield 40, 3) := by decide +kernel
theorem dX1_turn_253 : decode cX1_turn 253 = .ok (.iconst 1, 1) := by decide +kernel
theorem dX1_turn_254 : decode cX1_turn 254 = .ok (.iadd, 1) := by decide +kernel
theorem dX1_turn_255 : decode cX1_turn 255 = .ok (.putfield 40, 3) := by decide +kernel
theorem dX1_turn_258 : decode cX1_turn 258 = .ok (.iconst 1, 1) := by decide +kernel
theorem dX1_turn_259 : decode cX1_turn 259 = .ok (.ireturn, 1) := by decide +kernel
theorem dX1_height_0 : decode cX1_height 0 = .ok (.aload_n 0, 1) := by decide +kernel
theorem dX1_height_1 : decode cX1_height 1 = .ok (.aload_n 0, 1) := by decide +kernel
theorem dX1_height_2 : decode cX1_height 2 = .ok (.lload_n 1, 1) := by decide +kernel
theorem dX1_height_3 : decode cX1_height 3 = .ok (.invokevirtual 74, 3) := by decide +kernel
theorem dX1_height_6 : decode cX1_height 6 = .ok (.ifCond .eq 7, 3) := by decide +kernel
theorem dX1_height_9 : decode cX1_height 9 = .ok (.iconst 0, 1) := by decide +kernel
theorem dX1_height_10 : decode cX1_height 10 = .ok (.goto 4, 3) := by decide +kernel
theorem dX1_height_13 : decode cX1_height 13 = .ok (.iconst 1, 1) := by decide +kernel
theorem dX1_height_14 : decode cX1_height 14 = .ok (.putfield 36, 3) := by decide +kernel
theorem dX1_height_17 : decode cX1_height 17 = .ok (.aload_n 0, 1) := by decide +kernel
theorem dX1_height_18 : decode cX1_height 18 = .ok (.getfield 36, 3) := by decide +kernel
theorem dX1_height_21 : decode cX1_height 21 = .ok (.ifCond .le 7, 3) := by decide +kernel
theorem dX1_height_24 : decode cX1_height 24 = .ok (.lconst 0, 1) := by decide +kernel
theorem dX1_height_25 : decode cX1_height 25 = .ok (.goto 9, 3) := by decide +kernel
theorem dX1_height_28 : decode cX1_height 28 = .ok (.aload_n 0, 1) := by decide +kernel
theorem dX1_height_29 : decode cX1_height 29 = .ok (.lload_n 1, 1) := by decide +kernel
theorem dX1_height_30 : decode cX1_height 30 = .ok (.l2i, 1) := by decide +kernel
theorem dX1_height_31 : decode cX1_height 31 = .ok (.invokevirtual 77, 3) := by decide +kernel
theorem dX1_height_34 : decode cX1_height 34 = .ok (.lreturn, 1) := by decide +kernel
theorem dX1_observe_0 : decode cX1_observe 0 = .ok (.aload_n 0, 1) := by decide +kernel
theorem dX1_observe_1 : decode cX1_observe 1 = .ok (.lload_n 1, 1) := by decide +kernel
theorem dX1_observe_2 : decode cX1_observe 2 = .ok (.invokevirtual 74, 3) := by decide +kernel
theorem dX1_observe_5 : decode cX1_observe 5 = .ok (.ifCond .eq 49, 3) := by decide +kernel
theorem dX1_observe_8 : decode cX1_observe 8 = .ok (.aload_n 0, 1) := by decide +kernel
theorem dX1_observe_9 : decode cX1_observe 9 = .ok (.getfield 59, 3) := by decide +kernel
theorem dX1_observe_12 : decode cX1_observe 12 = .ok (.ifCond .eq 31, 3) := by decide +kernel
theorem dX1_observe_15 : decode cX1_observe 15 = .ok (.lload_n 1, 1) := by decide +kernel
theorem dX1_observe_16 : decode cX1_observe 16 = .ok (.aload_n 0, 1) := by decide +kernel
theorem dX1_observe_17 : decode cX1_observe 17 = .ok (.getfield 16, 3) := by decide +kernel
theorem dX1_observe_20 : decode cX1_observe 20 = .ok (.aload_n 0, 1) := by decide +kernel
theorem dX1_observe_21 : decode cX1_observe 21 = .ok (.getfield 59, 3) := by decide +kernel
theorem dX1_observe_24 : decode cX1_observe 24 = .ok (.ifCond .le 12, 3) := by decide +kernel
theorem dX1_observe_27 : decode cX1_observe 27 = .ok (.aload_n 0, 1) := by decide +kernel
theorem dX1_observe_28 : decode cX1_observe 28 = .ok (.getfield 59, 3) := by decide +kernel
theorem dX1_observe_31 : decode cX1_observe 31 = .ok (.iconst 1, 1) := by decide +kernel
theorem dX1_observe_32 : decode cX1_observe 32 = .ok (.isub, 1) := by decide +kernel
theorem dX1_observe_33 : decode cX1_observe 33 = .ok (.goto 4, 3) := by decide +kernel
theorem dX1_observe_36 : decode cX1_observe 36 = .ok (.iconst 0, 1) := by decide +kernel
theorem dX1_observe_37 : decode cX1_observe 37 = .ok (.iaload, 1) := by decide +kernel
theorem dX1_observe_38 : decode cX1_observe 38 = .ok (.i2l, 1) := by decide +kernel
theorem dX1_observe_39 : decode cX1_observe 39 = .ok (.lcmp, 1) := by decide +kernel
theorem dX1_observe_40 : decode cX1_observe 40 = .ok (.ifCond .lt 14, 3) := by decide +kernel
theorem dX1_observe_43 : decode cX1_observe 43 = .ok (.lload_n 3, 1) := by decide +kernel
theorem dX1_observe_44 : decode cX1_observe 44 = .ok (.invokestatic 70, 3) := by decide +kernel
theorem dX1_observe_47 : decode cX1_observe 47 = .ok (.ifCond .eq 7, 3) := by decide +kernel
theorem dX1_observe_50 : decode cX1_observe 50 = .ok (.iconst 1, 1) := by decide +kernel
theorem dX1_observe_51 : decode cX1_observe 51 = .ok (.goto 4, 3) := by decide +kernel
theorem dX1_observe_54 : decode cX1_observe 54 = .ok (.iconst 0, 1) := by decide +kernel
theorem dX1_observe_55 : decode cX1_observe 55 = .ok (.istore 5, 2) := by decide +kernel
theorem dX1_observe_57 : decode cX1_observe 57 = .ok (.aload_n 0, 1) := by decide +kernel
theorem dX1_observe_58 : decode cX1_observe 58 = .ok (.iload 5, 2) := by decide +kernel
theorem dX1_observe_60 : decode cX1_observe 60 = .ok (.ifCond .ne 7, 3) := by decide +kernel
theorem dX1_observe_63 : decode cX1_observe 63 = .ok (.iconst 1, 1) := by decide +kernel
theorem dX1_observe_64 : decode cX1_observe 64 = .ok (.goto 17, 3) := by decide +kernel
theorem dX1_observe_67 : decode cX1_observe 67 = .ok (.aload_n 0, 1) := by decide +kernel
theorem dX1_observe_68 : decode cX1_observe 68 = .ok (.getfield 59, 3) := by decide +kernel
theorem dX1_observe_71 : decode cX1_observe 71 = .ok (.bipush 16, 2) := by decide +kernel
theorem dX1_observe_73 : decode cX1_observe 73 = .ok (.if_icmp .ne 7, 3) := by decide +kernel
theorem dX1_observe_76 : decode cX1_observe 76 = .ok (.iconst 2, 1) := by decide +kernel
theorem dX1_observe_77 : decode cX1_observe 77 = .ok (.goto 4, 3) := by decide +kernel
theorem dX1_observe_80 : decode cX1_observe 80 = .ok (.iconst 0, 1) := by decide +kernel
theorem dX1_observe_81 : decode cX1_observe 81 = .ok (.putfield 36, 3) := by decide +kernel
theorem dX1_observe_84 : decode cX1_observe 84 = .ok (.aload_n 0, 1) := by decide +kernel
theorem dX1_observe_85 : decode cX1_observe 85 = .ok (.getfield 36, 3) := by decide +kernel
theorem dX1_observe_88 : decode cX1_observe 88 = .ok (.ifCond .le 5, 3) := by decide +kernel
theorem dX1_observe_91 : decode cX1_observe 91 = .ok (.iconst 0, 1) := by decide +kernel
theorem dX1_observe_92 : decode cX1_observe 92 = .ok (.ireturn, 1) := by decide +kernel
theorem dX1_observe_93 : decode cX1_observe 93 = .ok (.aload_n 0, 1) := by decide +kernel
theorem dX1_observe_94 : decode cX1_observe 94 = .ok (.getfield 16, 3) := by decide +kernel
theorem dX1_observe_97 : decode cX1_observe 97 = .ok (.aload_n 0, 1) := by decide +kernel
theorem dX1_observe_98 : decode cX1_observe 98 = .ok (.getfield 59, 3) := by decide +kernel
theorem dX1_observe_101 : decode cX1_observe 101 = .ok (.lload_n 1, 1) := by decide +kernel
theorem dX1_observe_102 : decode cX1_observe 102 = .ok (.l2i, 1) := by decide +kernel
theorem dX1_observe_103 : decode cX1_observe 103 = .ok (.iastore, 1) := by decide +kernel
theorem dX1_observe_104 : decode cX1_observe 104 = .ok (.aload_n 0, 1) := by decide +kernel
theorem dX1_observe_105 : decode cX1_observe 105 = .ok (.getfield 19, 3) := by decide +kernel
theorem dX1_observe_108 : decode cX1_observe 108 = .ok (.aload_n 0, 1) := by decide +kernel
theorem dX1_observe_109 : decode cX1_observe 109 = .ok (.getfield 59, 3) := by decide +kernel
theorem dX1_observe_112 : decode cX1_observe 112 = .ok (.lload_n 3, 1) := by decide +kernel
theorem dX1_observe_113 : decode cX1_observe 113 = .ok (.aload_n 0, 1) := by decide +kernel
theorem dX1_observe_114 : decode cX1_observe 114 = .ok (.lload_n 1, 1) := by decide +kernel
theorem dX1_observe_115 : decode cX1_observe 115 = .ok (.l2i, 1) := by decide +kernel
theorem dX1_observe_116 : decode cX1_observe 116 = .ok (.invokevirtual 64, 3) := by decide +kernel
theorem dX1_observe_119 : decode cX1_observe 119 = .ok (.lsub, 1) := by decide +kernel
theorem dX1_observe_120 : decode cX1_observe 120 = .ok (.lastore, 1) := by decide +kernel
theorem dX1_observe_121 : decode cX1_observe 121 = .ok (.aload_n 0, 1) := by decide +kernel
theorem dX1_observe_122 : decode cX1_observe 122 = .ok (.dup, 1) := by decide +kernel
theorem dX1_observe_123 : decode cX1_observe 123 = .ok (.getfield 59, 3) := by decide +kernel
theorem dX1_observe_126 : decode cX1_observe 126 = .ok (.iconst 1, 1) := by decide +kernel
theorem dX1_observe_127 : decode cX1_observe 127 = .ok (.iadd, 1) := by decide +kernel
theorem dX1_observe_128 : decode cX1_observe 128 = .ok (.putfield 59, 3) := by decide +kernel
theorem dX1_observe_131 : decode cX1_observe 131 = .ok (.aload_n 0, 1) := by decide +kernel
theorem dX1_observe_132 : decode cX1_observe 132 = .ok (.getfield 59, 3) := by decide +kernel
theorem dX1_observe_135 : decode cX1_observe 135 = .ok (.ireturn, 1) := by decide +kernel
theorem dX1_span_0 : decode cX1_span 0 = .ok (.aload_n 0, 1) := by decide +kernel
theorem dX1_span_1 : decode cX1_span 1 = .ok (.aload_n 0, 1) := by decide +kernel
theorem dX1_span_2 : decode cX1_span 2 = .ok (.lload 5, 2) := by decide +kernel
theorem dX1_span_4 : decode cX1_span 4 = .ok (.invokevirtual 74, 3) := by decide +kernel
theorem dX1_span_7 : decode cX1_span 7 = .ok (.ifCond .eq 32, 3) := by decide +kernel
theorem dX1_span_10 : decode cX1_span 10 = .ok (.lload_n 1, 1) := by decide +kernel
theorem dX1_span_11 : decode cX1_span 11 = .ok (.invokestatic 70, 3) := by decide +kernel
theorem dX1_span_14 : decode cX1_span 14 = .ok (.ifCond .eq 25, 3) := by decide +kernel
theorem dX1_span_17 : decode cX1_span 17 = .ok (.lload_n 3, 1) := by decide +kernel
theorem dX1_span_18 : decode cX1_span 18 = .ok (.invokestatic 70, 3) := by decide +kernel
theorem dX1_span_21 : decode cX1_span 21 = .ok (.ifCond .eq 18, 3) := by decide +kernel
theorem dX1_span_24 : decode cX1_span 24 = .ok (.iload 7, 2) := by decide +kernel
theorem dX1_span_26 : decode cX1_span 26 = .ok (.ifCond .lt 13, 3) := by decide +kernel
theorem dX1_span_29 : decode cX1_span 29 = .ok (.iload 7, 2) := by decide +kernel
theorem dX1_span_31 : decode cX1_span 31 = .ok (.iconst 4, 1) := by decide +kernel
theorem dX1_span_32 : decode cX1_span 32 = .ok (.if_icmp .ge 7, 3) := by decide +kernel
theorem dX1_span_35 : decode cX1_span 35 = .ok (.iconst 0, 1) := by decide +kernel
theorem dX1_span_36 : decode cX1_span 36 = .ok (.goto 4, 3) := by decide +kernel
theorem dX1_span_39 : decode cX1_span 39 = .ok (.iconst 1, 1) := by decide +kernel
theorem dX1_span_40 : decode cX1_span 40 = .ok (.putfield 36, 3) := by decide +kernel
theorem dX1_span_43 : decode cX1_span 43 = .ok (.aload_n 0, 1) := by decide +kernel
theorem dX1_span_44 : decode cX1_span 44 = .ok (.getfield 36, 3) := by decide +kernel
theorem dX1_span_47 : decode cX1_span 47 = .ok (.ifCond .le 5, 3) := by decide +kernel
theorem dX1_span_50 : decode cX1_span 50 = .ok (.iconst 0, 1) := by decide +kernel
theorem dX1_span_51 : decode cX1_span 51 = .ok (.ireturn, 1) := by decide +kernel
theorem dX1_span_52 : decode cX1_span 52 = .ok (.iconst (-1), 1) := by decide +kernel
theorem dX1_span_53 : decode cX1_span 53 = .ok (.istore 8, 2) := by decide +kernel
theorem dX1_span_55 : decode cX1_span 55 = .ok (.iconst 0, 1) := by decide +kernel
theorem dX1_span_56 : decode cX1_span 56 = .ok (.istore 9, 2) := by decide +kernel
theorem dX1_span_58 : decode cX1_span 58 = .ok (.iconst (-1), 1) := by decide +kernel
theorem dX1_span_59 : decode cX1_span 59 = .ok (.istore 10, 2) := by decide +kernel
theorem dX1_span_61 : decode cX1_span 61 = .ok (.iconst 0, 1) := by decide +kernel
theorem dX1_span_62 : decode cX1_span 62 = .ok (.istore 11, 2) := by decide +kernel
theorem dX1_span_64 : decode cX1_span 64 = .ok (.iconst (-1), 1) := by decide +kernel
theorem dX1_span_65 : decode cX1_span 65 = .ok (.istore 12, 2) := by decide +kernel
theorem dX1_span_67 : decode cX1_span 67 = .ok (.lload 5, 2) := by decide +kernel
theorem dX1_span_69 : decode cX1_span 69 = .ok (.l2i, 1) := by decide +kernel
theorem dX1_span_70 : decode cX1_span 70 = .ok (.istore 13, 2) := by decide +kernel
theorem dX1_span_72 : decode cX1_span 72 = .ok (.iload 13, 2) := by decide +kernel
theorem dX1_span_74 : decode cX1_span 74 = .ok (.aload_n 0, 1) := by decide +kernel
theorem dX1_span_75 : decode cX1_span 75 = .ok (.getfield 7, 3) := by decide +kernel
theorem dX1_span_78 : decode cX1_span 78 = .ok (.aload_n 0, 1) := by decide +kernel
theorem dX1_span_79 : decode cX1_span 79 = .ok (.getfield 40, 3) := by decide +kernel
theorem dX1_span_82 : decode cX1_span 82 = .ok (.iconst 1, 1) := by decide +kernel
theorem dX1_span_83 : decode cX1_span 83 = .ok (.isub, 1) := by decide +kernel
theorem dX1_span_84 : decode cX1_span 84 = .ok (.iaload, 1) := by decide +kernel
theorem dX1_span_85 : decode cX1_span 85 = .ok (.if_icmp .gt 126, 3) := by decide +kernel
theorem dX1_span_88 : decode cX1_span 88 = .ok (.lload_n 1, 1) := by decide +kernel
theorem dX1_span_89 : decode cX1_span 89 = .ok (.aload_n 0, 1) := by decide +kernel
theorem dX1_span_90 : decode cX1_span 90 = .ok (.iload 13, 2) := by decide +kernel
theorem dX1_span_92 : decode cX1_span 92 = .ok (.invokevirtual 77, 3) := by decide +kernel
theorem dX1_span_95 : decode cX1_span 95 = .ok (.ladd, 1) := by decide +kernel
theorem dX1_span_96 : decode cX1_span 96 = .ok (.lload_n 3, 1) := by decide +kernel
theorem dX1_span_97 : decode cX1_span 97 = .ok (.lcmp, 1) := by decide +kernel
theorem dX1_span_98 : decode cX1_span 98 = .ok (.ifCond .lt 7, 3) := by decide +kernel
theorem dX1_span_101 : decode cX1_span 101 = .ok (.iconst 1, 1) := by decide +kernel
theorem dX1_span_102 : decode cX1_span 102 = .ok (.goto 4, 3) := by decide +kernel
theorem dX1_span_105 : decode cX1_span 105 = .ok (.iconst 0, 1) := by decide +kernel
theorem dX1_span_106 : decode cX1_span 106 = .ok (.istore 14, 2) := by decide +kernel
theorem dX1_span_108 : decode cX1_span 108 = .ok (.iload 14, 2) := by decide +kernel
theorem dX1_span_110 : decode cX1_span 110 = .ok (.ifCond .eq 10, 3) := by decide +kernel
theorem dX1_span_113 : decode cX1_span 113 = .ok (.iload 11, 2) := by decide +kernel
theorem dX1_span_115 : decode cX1_span 115 = .ok (.iconst 1, 1) := by decide +kernel
theorem dX1_span_116 : decode cX1_span 116 = .ok (.iadd, 1) := by decide +kernel
theorem dX1_span_117 : decode cX1_span 117 = .ok (.goto 4, 3) := by decide +kernel
theorem dX1_span_120 : decode cX1_span 120 = .ok (.iconst 0, 1) := by decide +kernel
theorem dX1_span_121 : decode cX1_span 121 = .ok (.istore 11, 2) := by decide +kernel
theorem dX1_span_123 : decode cX1_span 123 = .ok (.iload 14, 2) := by decide +kernel
theorem dX1_span_125 : decode cX1_span 125 = .ok (.ifCond .eq 13, 3) := by decide +kernel
theorem dX1_span_128 : decode cX1_span 128 = .ok (.iload 8, 2) := by decide +kernel
theorem dX1_span_130 : decode cX1_span 130 = .ok (.ifCond .ge 8, 3) := by decide +kernel
theorem dX1_span_133 : decode cX1_span 133 = .ok (.iload 13, 2) := by decide +kernel
theorem dX1_span_135 : decode cX1_span 135 = .ok (.goto 5, 3) := by decide +kernel
theorem dX1_span_138 : decode cX1_span 138 = .ok (.iload 8, 2) := by decide +kernel
theorem dX1_span_140 : decode cX1_span 140 = .ok (.istore 8, 2) := by decide +kernel
theorem dX1_span_142 : decode cX1_span 142 = .ok (.iload 14, 2) := by decide +kernel
theorem dX1_span_144 : decode cX1_span 144 = .ok (.ifCond .eq 20, 3) := by decide +kernel
theorem dX1_span_147 : decode cX1_span 147 = .ok (.iload 8, 2) := by decide +kernel
theorem dX1_span_149 : decode cX1_span 149 = .ok (.iload 13, 2) := by decide +kernel
theorem dX1_span_151 : decode cX1_span 151 = .ok (.iload 11, 2) := by decide +kernel
theorem dX1_span_153 : decode cX1_span 153 = .ok (.isub, 1) := by decide +kernel
theorem dX1_span_154 : decode cX1_span 154 = .ok (.iconst 1, 1) := by decide +kernel
theorem dX1_span_155 : decode cX1_span 155 = .ok (.iadd, 1) := by decide +kernel
theorem dX1_span_156 : decode cX1_span 156 = .ok (.if_icmp .ne 8, 3) := by decide +kernel
theorem dX1_span_159 : decode cX1_span 159 = .ok (.iload 13, 2) := by decide +kernel
theorem dX1_span_161 : decode cX1_span 161 = .ok (.goto 5, 3) := by decide +kernel
theorem dX1_span_164 : decode cX1_span 164 = .ok (.iload 12, 2) := by decide +kernel
theorem dX1_span_166 : decode cX1_span 166 = .ok (.istore 12, 2) := by decide +kernel
theorem dX1_span_168 : decode cX1_span 168 = .ok (.iload 11, 2) := by decide +kernel
theorem dX1_span_170 : decode cX1_span 170 = .ok (.iload 9, 2) := by decide +kernel
theorem dX1_span_172 : decode cX1_span 172 = .ok (.if_icmp .le 13, 3) := by decide +kernel
theorem dX1_span_175 : decode cX1_span 175 = .ok (.iload 13, 2) := by decide +kernel
theorem dX1_span_177 : decode cX1_span 177 = .ok (.iload 11, 2) := by decide +kernel
theorem dX1_span_179 : decode cX1_span 179 = .ok (.isub, 1) := by decide +kernel
theorem dX1_span_180 : decode cX1_span 180 = .ok (.iconst 1, 1) := by decide +kernel
theorem dX1_span_181 : decode cX1_span 181 = .ok (.iadd, 1) := by decide +kernel
theorem dX1_span_182 : decode cX1_span 182 = .ok (.goto 5, 3) := by decide +kernel
theorem dX1_span_185 : decode cX1_span 185 = .ok (.iload 10, 2) := by decide +kernel
theorem dX1_span_187 : decode cX1_span 187 = .ok (.istore 10, 2) := by decide +kernel
theorem dX1_span_189 : decode cX1_span 189 = .ok (.iload 11, 2) := by decide +kernel
theorem dX1_span_191 : decode cX1_span 191 = .ok (.iload 9, 2) := by decide +kernel
theorem dX1_span_193 : decode cX1_span 193 = .ok (.if_icmp .le 8, 3) := by decide +kernel
theorem dX1_span_196 : decode cX1_span 196 = .ok (.iload 11, 2) := by decide +kernel
theorem dX1_span_198 : decode cX1_span 198 = .ok (.goto 5, 3) := by decide +kernel
theorem dX1_span_201 : decode cX1_span 201 = .ok (.iload 9, 2) := by decide +kernel
theorem dX1_span_203 : decode cX1_span 203 = .ok (.istore 9, 2) := by decide +kernel
theorem dX1_span_205 : decode cX1_span 205 = .ok (.iinc 13 1, 3) := by decide +kernel
theorem dX1_span_208 : decode cX1_span 208 = .ok (.goto (-136), 3) := by decide +kernel
theorem dX1_span_211 : decode cX1_span 211 = .ok (.iload 7, 2) := by decide +kernel
theorem dX1_span_213 : decode cX1_span 213 = .ok (.ifCond .ne 8, 3) := by decide +kernel
theorem dX1_span_216 : decode cX1_span 216 = .ok (.iload 8, 2) := by decide +kernel
theorem dX1_span_218 : decode cX1_span 218 = .ok (.goto 41, 3) := by decide +kernel
theorem dX1_span_221 : decode cX1_span 221 = .ok (.iload 7, 2) := by decide +kernel
theorem dX1_span_223 : decode cX1_span 223 = .ok (.iconst 1, 1) := by decide +kernel
theorem dX1_span_224 : decode cX1_span 224 = .ok (.if_icmp .ne 8, 3) := by decide +kernel
theorem dX1_span_227 : decode cX1_span 227 = .ok (.iload 12, 2) := by decide +kernel
theorem dX1_span_229 : decode cX1_span 229 = .ok (.goto 30, 3) := by decide +kernel
theorem dX1_span_232 : decode cX1_span 232 = .ok (.iload 10, 2) := by decide +kernel
theorem dX1_span_234 : decode cX1_span 234 = .ok (.ifCond .ge 7, 3) := by decide +kernel
theorem dX1_span_237 : decode cX1_span 237 = .ok (.iconst (-1), 1) := by decide +kernel
theorem dX1_span_238 : decode cX1_span 238 = .ok (.goto 21, 3) := by decide +kernel
theorem dX1_span_241 : decode cX1_span 241 = .ok (.iload 7, 2) := by decide +kernel
theorem dX1_span_243 : decode cX1_span 243 = .ok (.iconst 2, 1) := by decide +kernel
theorem dX1_span_244 : decode cX1_span 244 = .ok (.if_icmp .ne 8, 3) := by decide +kernel
theorem dX1_span_247 : decode cX1_span 247 = .ok (.iload 10, 2) := by decide +kernel
theorem dX1_span_249 : decode cX1_span 249 = .ok (.goto 10, 3) := by decide +kernel
theorem dX1_span_252 : decode cX1_span 252 = .ok (.iload 10, 2) := by decide +kernel
theorem dX1_span_254 : decode cX1_span 254 = .ok (.iload 9, 2) := by decide +kernel
theorem dX1_span_256 : decode cX1_span 256 = .ok (.iadd, 1) := by decide +kernel
theorem dX1_span_257 : decode cX1_span 257 = .ok (.iconst 1, 1) := by decide +kernel
theorem dX1_span_258 : decode cX1_span 258 = .ok (.isub, 1) := by decide +kernel
theorem dX1_span_259 : decode cX1_span 259 = .ok (.ireturn, 1) := by decide +kernel
theorem dX1_squatOf_0 : decode cX1_squatOf 0 = .ok (.lload_n 1, 1) := by decide +kernel
theorem dX1_squatOf_1 : decode cX1_squatOf 1 = .ok (.ldc2_w 80, 3) := by decide +kernel
theorem dX1_squatOf_4 : decode cX1_squatOf 4 = .ok (.ldiv, 1) := by decide +kernel
theorem dX1_squatOf_5 : decode cX1_squatOf 5 = .ok (.l2i, 1) := by decide +kernel
theorem dX1_squatOf_6 : decode cX1_squatOf 6 = .ok (.istore 5, 2) := by decide +kernel
theorem dX1_squatOf_8 : decode cX1_squatOf 8 = .ok (.iload 5, 2) := by decide +kernel
theorem dX1_squatOf_10 : decode cX1_squatOf 10 = .ok (.iconst 5, 1) := by decide +kernel
theorem dX1_squatOf_11 : decode cX1_squatOf 11 = .ok (.if_icmp .le 9, 3) := by decide +kernel
theorem dX1_squatOf_14 : decode cX1_squatOf 14 = .ok (.ldc2_w 82, 3) := by decide +kernel
theorem dX1_squatOf_17 : decode cX1_squatOf 17 = .ok (.goto 40, 3) := by decide +kernel
theorem dX1_squatOf_20 : decode cX1_squatOf 20 = .ok (.aload_n 0, 1) := by decide +kernel
theorem dX1_squatOf_21 : decode cX1_squatOf 21 = .ok (.getfield 33, 3) := by decide +kernel
theorem dX1_squatOf_24 : decode cX1_squatOf 24 = .ok (.iload 5, 2) := by decide +kernel
theorem dX1_squatOf_26 : decode cX1_squatOf 26 = .ok (.iaload, 1) := by decide +kernel
theorem dX1_squatOf_27 : decode cX1_squatOf 27 = .ok (.i2l, 1) := by decide +kernel
theorem dX1_squatOf_28 : decode cX1_squatOf 28 = .ok (.aload_n 0, 1) := by decide +kernel
theorem dX1_squatOf_29 : decode cX1_squatOf 29 = .ok (.getfield 33, 3) := by decide +kernel
theorem dX1_squatOf_32 : decode cX1_squatOf 32 = .ok (.iload 5, 2) := by decide +kernel
theorem dX1_squatOf_34 : decode cX1_squatOf 34 = .ok (.iconst 1, 1) := by decide +kernel
theorem dX1_squatOf_35 : decode cX1_squatOf 35 = .ok (.iadd, 1) := by decide +kernel
theorem dX1_squatOf_36 : decode cX1_squatOf 36 = .ok (.iaload, 1) := by decide +kernel
theorem dX1_squatOf_37 : decode cX1_squatOf 37 = .ok (.aload_n 0, 1) := by decide +kernel
theorem dX1_squatOf_38 : decode cX1_squatOf 38 = .ok (.getfield 33, 3) := by decide +kernel
theorem dX1_squatOf_41 : decode cX1_squatOf 41 = .ok (.iload 5, 2) := by decide +kernel
theorem dX1_squatOf_43 : decode cX1_squatOf 43 = .ok (.iaload, 1) := by decide +kernel
theorem dX1_squatOf_44 : decode cX1_squatOf 44 = .ok (.isub, 1) := by decide +kernel
theorem dX1_squatOf_45 : decode cX1_squatOf 45 = .ok (.i2l, 1) := by decide +kernel
theorem dX1_squatOf_46 : decode cX1_squatOf 46 = .ok (.lload_n 1, 1) := by decide +kernel
theorem dX1_squatOf_47 : decode cX1_squatOf 47 = .ok (.ldc2_w 80, 3) := by decide +kernel
theorem dX1_squatOf_50 : decode cX1_squatOf 50 = .ok (.lrem, 1) := by decide +kernel
theorem dX1_squatOf_51 : decode cX1_squatOf 51 = .ok (.lmul, 1) := by decide +kernel
theorem dX1_squatOf_52 : decode cX1_squatOf 52 = .ok (.ldc2_w 80, 3) := by decide +kernel
theorem dX1_squatOf_55 : decode cX1_squatOf 55 = .ok (.ldiv, 1) := by decide +kernel
theorem dX1_squatOf_56 : decode cX1_squatOf 56 = .ok (.ladd, 1) := by decide +kernel
theorem dX1_squatOf_57 : decode cX1_squatOf 57 = .ok (.lstore 6, 2) := by decide +kernel
theorem dX1_squatOf_59 : decode cX1_squatOf 59 = .ok (.lload_n 3, 1) := by decide +kernel
theorem dX1_squatOf_60 : decode cX1_squatOf 60 = .ok (.lload 6, 2) := by decide +kernel
theorem dX1_squatOf_62 : decode cX1_squatOf 62 = .ok (.lmul, 1) := by decide +kernel
theorem dX1_squatOf_63 : decode cX1_squatOf 63 = .ok (.ldc2_w 84, 3) := by decide +kernel
theorem dX1_squatOf_66 : decode cX1_squatOf 66 = .ok (.invokestatic 86, 3) := by decide +kernel
theorem dX1_squatOf_69 : decode cX1_squatOf 69 = .ok (.lreturn, 1) := by decide +kernel
theorem dX1_squat_0 : decode cX1_squat 0 = .ok (.aload_n 0, 1) := by decide +kernel
theorem dX1_squat_1 : decode cX1_squat 1 = .ok (.lload_n 1, 1) := by decide +kernel
theorem dX1_squat_2 : decode cX1_squat 2 = .ok (.lconst 0, 1) := by decide +kernel
theorem dX1_squat_3 : decode cX1_squat 3 = .ok (.ldc2_w 89, 3) := by decide +kernel
theorem dX1_squat_6 : decode cX1_squat 6 = .ok (.invokestatic 43, 3) := by decide +kernel
theorem dX1_squat_9 : decode cX1_squat 9 = .ok (.ifCond .eq 18, 3) := by decide +kernel
theorem dX1_squat_12 : decode cX1_squat 12 = .ok (.lload_n 3, 1) := by decide +kernel
theorem dX1_squat_13 : decode cX1_squat 13 = .ok (.lconst 0, 1) := by decide +kernel
theorem dX1_squat_14 : decode cX1_squat 14 = .ok (.ldc2_w 91, 3) := by decide +kernel
theorem dX1_squat_17 : decode cX1_squat 17 = .ok (.invokestatic 43, 3) := by decide +kernel
theorem dX1_squat_20 : decode cX1_squat 20 = .ok (.ifCond .eq 7, 3) := by decide +kernel
theorem dX1_squat_23 : decode cX1_squat 23 = .ok (.iconst 0, 1) := by decide +kernel
theorem dX1_squat_24 : decode cX1_squat 24 = .ok (.goto 4, 3) := by decide +kernel
theorem dX1_squat_27 : decode cX1_squat 27 = .ok (.iconst 1, 1) := by decide +kernel
theorem dX1_squat_28 : decode cX1_squat 28 = .ok (.putfield 36, 3) := by decide +kernel
theorem dX1_squat_31 : decode cX1_squat 31 = .ok (.aload_n 0, 1) := by decide +kernel
theorem dX1_squat_32 : decode cX1_squat 32 = .ok (.getfield 36, 3) := by decide +kernel
theorem dX1_squat_35 : decode cX1_squat 35 = .ok (.ifCond .le 7, 3) := by decide +kernel
theorem dX1_squat_38 : decode cX1_squat 38 = .ok (.lconst 0, 1) := by decide +kernel
theorem dX1_squat_39 : decode cX1_squat 39 = .ok (.goto 9, 3) := by decide +kernel
theorem dX1_squat_42 : decode cX1_squat 42 = .ok (.aload_n 0, 1) := by decide +kernel
theorem dX1_squat_43 : decode cX1_squat 43 = .ok (.lload_n 1, 1) := by decide +kernel
theorem dX1_squat_44 : decode cX1_squat 44 = .ok (.lload_n 3, 1) := by decide +kernel
theorem dX1_squat_45 : decode cX1_squat 45 = .ok (.invokevirtual 93, 3) := by decide +kernel
theorem dX1_squat_48 : decode cX1_squat 48 = .ok (.lreturn, 1) := by decide +kernel
theorem dX1_passing_0 : decode cX1_passing 0 = .ok (.aload_n 0, 1) := by decide +kernel
theorem dX1_passing_1 : decode cX1_passing 1 = .ok (.lload_n 1, 1) := by decide +kernel
theorem dX1_passing_2 : decode cX1_passing 2 = .ok (.lconst 0, 1) := by decide +kernel
theorem dX1_passing_3 : decode cX1_passing 3 = .ok (.ldc2_w 96, 3) := by decide +kernel
theorem dX1_passing_6 : decode cX1_passing 6 = .ok (.invokestatic 43, 3) := by decide +kernel
theorem dX1_passing_9 : decode cX1_passing 9 = .ok (.ifCond .eq 14, 3) := by decide +kernel
theorem dX1_passing_12 : decode cX1_passing 12 = .ok (.lload_n 3, 1) := by decide +kernel
theorem dX1_passing_13 : decode cX1_passing 13 = .ok (.lconst 0, 1) := by decide +kernel
theorem dX1_passing_14 : decode cX1_passing 14 = .ok (.ldc2_w 89, 3) := by decide +kernel
theorem dX1_passing_17 : decode cX1_passing 17 = .ok (.invokestatic 43, 3) := by decide +kernel
theorem dX1_passing_20 : decode cX1_passing 20 = .ok (.ifCond .ne 7, 3) := by decide +kernel
theorem dX1_passing_23 : decode cX1_passing 23 = .ok (.iconst 1, 1) := by decide +kernel
theorem dX1_passing_24 : decode cX1_passing 24 = .ok (.goto 14, 3) := by decide +kernel
theorem dX1_passing_27 : decode cX1_passing 27 = .ok (.lload_n 3, 1) := by decide +kernel
theorem dX1_passing_28 : decode cX1_passing 28 = .ok (.lconst 0, 1) := by decide +kernel
theorem dX1_passing_29 : decode cX1_passing 29 = .ok (.lcmp, 1) := by decide +kernel
theorem dX1_passing_30 : decode cX1_passing 30 = .ok (.ifCond .ne 7, 3) := by decide +kernel
theorem dX1_passing_33 : decode cX1_passing 33 = .ok (.iconst 2, 1) := by decide +kernel
theorem dX1_passing_34 : decode cX1_passing 34 = .ok (.goto 4, 3) := by decide +kernel
theorem dX1_passing_37 : decode cX1_passing 37 = .ok (.iconst 0, 1) := by decide +kernel
theorem dX1_passing_38 : decode cX1_passing 38 = .ok (.putfield 36, 3) := by decide +kernel
theorem dX1_passing_41 : decode cX1_passing 41 = .ok (.aload_n 0, 1) := by decide +kernel
theorem dX1_passing_42 : decode cX1_passing 42 = .ok (.getfield 36, 3) := by decide +kernel
theorem dX1_passing_45 : decode cX1_passing 45 = .ok (.ifCond .le 7, 3) := by decide +kernel
theorem dX1_passing_48 : decode cX1_passing 48 = .ok (.lconst 0, 1) := by decide +kernel
theorem dX1_passing_49 : decode cX1_passing 49 = .ok (.goto 12, 3) := by decide +kernel
theorem dX1_passing_52 : decode cX1_passing 52 = .ok (.ldc2_w 82, 3) := by decide +kernel
theorem dX1_passing_55 : decode cX1_passing 55 = .ok (.lload_n 1, 1) := by decide +kernel
theorem dX1_passing_56 : decode cX1_passing 56 = .ok (.lmul, 1) := by decide +kernel
theorem dX1_passing_57 : decode cX1_passing 57 = .ok (.lload_n 3, 1) := by decide +kernel
theorem dX1_passing_58 : decode cX1_passing 58 = .ok (.invokestatic 86, 3) := by decide +kernel
theorem dX1_passing_61 : decode cX1_passing 61 = .ok (.lreturn, 1) := by decide +kernel
theorem dX1_cosine_0 : decode cX1_cosine 0 = .ok (.aload_n 0, 1) := by decide +kernel
theorem dX1_cosine_1 : decode cX1_cosine 1 = .ok (.iload_n 1, 1) := by decide +kernel
theorem dX1_cosine_2 : decode cX1_cosine 2 = .ok (.ifCond .lt 13, 3) := by decide +kernel
theorem dX1_cosine_5 : decode cX1_cosine 5 = .ok (.iload_n 1, 1) := by decide +kernel
theorem dX1_cosine_6 : decode cX1_cosine 6 = .ok (.bipush 65, 2) := by decide +kernel
theorem dX1_cosine_8 : decode cX1_cosine 8 = .ok (.if_icmp .ge 7, 3) := by decide +kernel
theorem dX1_cosine_11 : decode cX1_cosine 11 = .ok (.iconst 0, 1) := by decide +kernel
theorem dX1_cosine_12 : decode cX1_cosine 12 = .ok (.goto 4, 3) := by decide +kernel
theorem dX1_cosine_15 : decode cX1_cosine 15 = .ok (.iconst 1, 1) := by decide +kernel
theorem dX1_cosine_16 : decode cX1_cosine 16 = .ok (.putfield 36, 3) := by decide +kernel
theorem dX1_cosine_19 : decode cX1_cosine 19 = .ok (.aload_n 0, 1) := by decide +kernel
theorem dX1_cosine_20 : decode cX1_cosine 20 = .ok (.getfield 36, 3) := by decide +kernel
theorem dX1_cosine_23 : decode cX1_cosine 23 = .ok (.ifCond .le 7, 3) := by decide +kernel
theorem dX1_cosine_26 : decode cX1_cosine 26 = .ok (.iconst 0, 1) := by decide +kernel
theorem dX1_cosine_27 : decode cX1_cosine 27 = .ok (.goto 9, 3) := by decide +kernel
theorem dX1_cosine_30 : decode cX1_cosine 30 = .ok (.aload_n 0, 1) := by decide +kernel
theorem dX1_cosine_31 : decode cX1_cosine 31 = .ok (.getfield 30, 3) := by decide +kernel
theorem dX1_cosine_34 : decode cX1_cosine 34 = .ok (.iload_n 1, 1) := by decide +kernel
theorem dX1_cosine_35 : decode cX1_cosine 35 = .ok (.iaload, 1) := by decide +kernel
theorem dX1_cosine_36 : decode cX1_cosine 36 = .ok (.ireturn, 1) := by decide +kernel
theorem dX1_draft_0 : decode cX1_draft 0 = .ok (.aload_n 0, 1) := by decide +kernel
theorem dX1_draft_1 : decode cX1_draft 1 = .ok (.lload_n 1, 1) := by decide +kernel
theorem dX1_draft_2 : decode cX1_draft 2 = .ok (.lconst 0, 1) := by decide +kernel
theorem dX1_draft_3 : decode cX1_draft 3 = .ok (.ldc2_w 91, 3) := by decide +kernel
theorem dX1_draft_6 : decode cX1_draft 6 = .ok (.invokestatic 43, 3) := by decide +kernel
theorem dX1_draft_9 : decode cX1_draft 9 = .ok (.ifCond .eq 34, 3) := by decide +kernel
theorem dX1_draft_12 : decode cX1_draft 12 = .ok (.lload_n 3, 1) := by decide +kernel
theorem dX1_draft_13 : decode cX1_draft 13 = .ok (.ldc2_w 98, 3) := by decide +kernel
theorem dX1_draft_16 : decode cX1_draft 16 = .ok (.ldc2_w 100, 3) := by decide +kernel
theorem dX1_draft_19 : decode cX1_draft 19 = .ok (.invokestatic 43, 3) := by decide +kernel
theorem dX1_draft_22 : decode cX1_draft 22 = .ok (.ifCond .eq 21, 3) := by decide +kernel
theorem dX1_draft_25 : decode cX1_draft 25 = .ok (.lload 5, 2) := by decide +kernel
theorem dX1_draft_27 : decode cX1_draft 27 = .ok (.ldc2_w 98, 3) := by decide +kernel
theorem dX1_draft_30 : decode cX1_draft 30 = .ok (.ldc2_w 100, 3) := by decide +kernel
theorem dX1_draft_33 : decode cX1_draft 33 = .ok (.invokestatic 43, 3) := by decide +kernel
theorem dX1_draft_36 : decode cX1_draft 36 = .ok (.ifCond .eq 7, 3) := by decide +kernel
theorem dX1_draft_39 : decode cX1_draft 39 = .ok (.iconst 0, 1) := by decide +kernel
theorem dX1_draft_40 : decode cX1_draft 40 = .ok (.goto 4, 3) := by decide +kernel
theorem dX1_draft_43 : decode cX1_draft 43 = .ok (.iconst 1, 1) := by decide +kernel
theorem dX1_draft_44 : decode cX1_draft 44 = .ok (.putfield 36, 3) := by decide +kernel
theorem dX1_draft_47 : decode cX1_draft 47 = .ok (.aload_n 0, 1) := by decide +kernel
theorem dX1_draft_48 : decode cX1_draft 48 = .ok (.getfield 36, 3) := by decide +kernel
theorem dX1_draft_51 : decode cX1_draft 51 = .ok (.ifCond .le 7, 3) := by decide +kernel
theorem dX1_draft_54 : decode cX1_draft 54 = .ok (.lconst 0, 1) := by decide +kernel
theorem dX1_draft_55 : decode cX1_draft 55 = .ok (.goto 11, 3) := by decide +kernel
theorem dX1_draft_58 : decode cX1_draft 58 = .ok (.lload_n 1, 1) := by decide +kernel
theorem dX1_draft_59 : decode cX1_draft 59 = .ok (.lload_n 3, 1) := by decide +kernel
theorem dX1_draft_60 : decode cX1_draft 60 = .ok (.lmul, 1) := by decide +kernel
theorem dX1_draft_61 : decode cX1_draft 61 = .ok (.lload 5, 2) := by decide +kernel
theorem dX1_draft_63 : decode cX1_draft 63 = .ok (.invokestatic 86, 3) := by decide +kernel
theorem dX1_draft_66 : decode cX1_draft 66 = .ok (.lreturn, 1) := by decide +kernel
theorem dX1_place_0 : decode cX1_place 0 = .ok (.lload_n 1, 1) := by decide +kernel
theorem dX1_place_1 : decode cX1_place 1 = .ok (.lconst 0, 1) := by decide +kernel
theorem dX1_place_2 : decode cX1_place 2 = .ok (.ldc2_w 96, 3) := by decide +kernel
theorem dX1_place_5 : decode cX1_place 5 = .ok (.invokestatic 43, 3) := by decide +kernel
theorem dX1_place_8 : decode cX1_place 8 = .ok (.ifCond .eq 48, 3) := by decide +kernel
theorem dX1_place_11 : decode cX1_place 11 = .ok (.aload_n 0, 1) := by decide +kernel
theorem dX1_place_12 : decode cX1_place 12 = .ok (.getfield 102, 3) := by decide +kernel
theorem dX1_place_15 : decode cX1_place 15 = .ok (.ifCond .eq 30, 3) := by decide +kernel
theorem dX1_place_18 : decode cX1_place 18 = .ok (.lload_n 1, 1) := by decide +kernel
theorem dX1_place_19 : decode cX1_place 19 = .ok (.aload_n 0, 1) := by decide +kernel
theorem dX1_place_20 : decode cX1_place 20 = .ok (.getfield 23, 3) := by decide +kernel
theorem dX1_place_23 : decode cX1_place 23 = .ok (.aload_n 0, 1) := by decide +kernel
theorem dX1_place_24 : decode cX1_place 24 = .ok (.getfield 102, 3) := by decide +kernel
theorem dX1_place_27 : decode cX1_place 27 = .ok (.ifCond .le 12, 3) := by decide +kernel
theorem dX1_place_30 : decode cX1_place 30 = .ok (.aload_n 0, 1) := by decide +kernel
theorem dX1_place_31 : decode cX1_place 31 = .ok (.getfield 102, 3) := by decide +kernel
theorem dX1_place_34 : decode cX1_place 34 = .ok (.iconst 1, 1) := by decide +kernel
theorem dX1_place_35 : decode cX1_place 35 = .ok (.isub, 1) := by decide +kernel
theorem dX1_place_36 : decode cX1_place 36 = .ok (.goto 4, 3) := by decide +kernel
theorem dX1_place_39 : decode cX1_place 39 = .ok (.iconst 0, 1) := by decide +kernel
theorem dX1_place_40 : decode cX1_place 40 = .ok (.laload, 1) := by decide +kernel
theorem dX1_place_41 : decode cX1_place 41 = .ok (.lcmp, 1) := by decide +kernel
theorem dX1_place_42 : decode cX1_place 42 = .ok (.ifCond .le 14, 3) := by decide +kernel
theorem dX1_place_45 : decode cX1_place 45 = .ok (.lload_n 3, 1) := by decide +kernel
theorem dX1_place_46 : decode cX1_place 46 = .ok (.invokestatic 70, 3) := by decide +kernel
theorem dX1_place_49 : decode cX1_place 49 = .ok (.ifCond .eq 7, 3) := by decide +kernel
theorem dX1_place_52 : decode cX1_place 52 = .ok (.iconst 1, 1) := by decide +kernel
theorem dX1_place_53 : decode cX1_place 53 = .ok (.goto 4, 3) := by decide +kernel
theorem dX1_place_56 : decode cX1_place 56 = .ok (.iconst 0, 1) := by decide +kernel
theorem dX1_place_57 : decode cX1_place 57 = .ok (.istore 5, 2) := by decide +kernel
theorem dX1_place_59 : decode cX1_place 59 = .ok (.aload_n 0, 1) := by decide +kernel
theorem dX1_place_60 : decode cX1_place 60 = .ok (.iload 5, 2) := by decide +kernel
theorem dX1_place_62 : decode cX1_place 62 = .ok (.ifCond .ne 7, 3) := by decide +kernel
theorem dX1_place_65 : decode cX1_place 65 = .ok (.iconst 1, 1) := by decide +kernel
theorem dX1_place_66 : decode cX1_place 66 = .ok (.goto 17, 3) := by decide +kernel
theorem dX1_place_69 : decode cX1_place 69 = .ok (.aload_n 0, 1) := by decide +kernel
theorem dX1_place_70 : decode cX1_place 70 = .ok (.getfield 102, 3) := by decide +kernel
theorem dX1_place_73 : decode cX1_place 73 = .ok (.bipush 12, 2) := by decide +kernel
theorem dX1_place_75 : decode cX1_place 75 = .ok (.if_icmp .ne 7, 3) := by decide +kernel
theorem dX1_place_78 : decode cX1_place 78 = .ok (.iconst 2, 1) := by decide +kernel
theorem dX1_place_79 : decode cX1_place 79 = .ok (.goto 4, 3) := by decide +kernel
theorem dX1_place_82 : decode cX1_place 82 = .ok (.iconst 0, 1) := by decide +kernel
theorem dX1_place_83 : decode cX1_place 83 = .ok (.putfield 36, 3) := by decide +kernel
theorem dX1_place_86 : decode cX1_place 86 = .ok (.aload_n 0, 1) := by decide +kernel
theorem dX1_place_87 : decode cX1_place 87 = .ok (.getfield 36, 3) := by decide +kernel
theorem dX1_place_90 : decode cX1_place 90 = .ok (.ifCond .le 5, 3) := by decide +kernel
theorem dX1_place_93 : decode cX1_place 93 = .ok (.iconst 0, 1) := by decide +kernel
theorem dX1_place_94 : decode cX1_place 94 = .ok (.ireturn, 1) := by decide +kernel
theorem dX1_place_95 : decode cX1_place 95 = .ok (.aload_n 0, 1) := by decide +kernel
theorem dX1_place_96 : decode cX1_place 96 = .ok (.getfield 23, 3) := by decide +kernel
theorem dX1_place_99 : decode cX1_place 99 = .ok (.aload_n 0, 1) := by decide +kernel
theorem dX1_place_100 : decode cX1_place 100 = .ok (.getfield 102, 3) := by decide +kernel
theorem dX1_place_103 : decode cX1_place 103 = .ok (.lload_n 1, 1) := by decide +kernel
theorem dX1_place_104 : decode cX1_place 104 = .ok (.lastore, 1) := by decide +kernel
theorem dX1_place_105 : decode cX1_place 105 = .ok (.aload_n 0, 1) := by decide +kernel
theorem dX1_place_106 : decode cX1_place 106 = .ok (.getfield 26, 3) := by decide +kernel
theorem dX1_place_109 : decode cX1_place 109 = .ok (.aload_n 0, 1) := by decide +kernel
theorem dX1_place_110 : decode cX1_place 110 = .ok (.getfield 102, 3) := by decide +kernel
theorem dX1_place_113 : decode cX1_place 113 = .ok (.lload_n 3, 1) := by decide +kernel
theorem dX1_place_114 : decode cX1_place 114 = .ok (.lastore, 1) := by decide +kernel
theorem dX1_place_115 : decode cX1_place 115 = .ok (.aload_n 0, 1) := by decide +kernel
theorem dX1_place_116 : decode cX1_place 116 = .ok (.dup, 1) := by decide +kernel
theorem dX1_place_117 : decode cX1_place 117 = .ok (.getfield 102, 3) := by decide +kernel
theorem dX1_place_120 : decode cX1_place 120 = .ok (.iconst 1, 1) := by decide +kernel
theorem dX1_place_121 : decode cX1_place 121 = .ok (.iadd, 1) := by decide +kernel
theorem dX1_place_122 : decode cX1_place 122 = .ok (.putfield 102, 3) := by decide +kernel
theorem dX1_place_125 : decode cX1_place 125 = .ok (.aload_n 0, 1) := by decide +kernel
theorem dX1_place_126 : decode cX1_place 126 = .ok (.getfield 102, 3) := by decide +kernel
theorem dX1_place_129 : decode cX1_place 129 = .ok (.iconst 1, 1) := by decide +kernel
theorem dX1_place_130 : decode cX1_place 130 = .ok (.isub, 1) := by decide +kernel
theorem dX1_place_131 : decode cX1_place 131 = .ok (.ireturn, 1) := by decide +kernel
theorem dX1_depth_0 : decode cX1_depth 0 = .ok (.iload_n 1, 1) := by decide +kernel
theorem dX1_depth_1 : decode cX1_depth 1 = .ok (.ifCond .lt 15, 3) := by decide +kernel
theorem dX1_depth_4 : decode cX1_depth 4 = .ok (.iload_n 1, 1) := by decide +kernel
theorem dX1_depth_5 : decode cX1_depth 5 = .ok (.aload_n 0, 1) := by decide +kernel
theorem dX1_depth_6 : decode cX1_depth 6 = .ok (.getfield 102, 3) := by decide +kernel
theorem dX1_depth_9 : decode cX1_depth 9 = .ok (.if_icmp .ge 7, 3) := by decide +kernel
theorem dX1_depth_12 : decode cX1_depth 12 = .ok (.iconst 1, 1) := by decide +kernel
theorem dX1_depth_13 : decode cX1_depth 13 = .ok (.goto 4, 3) := by decide +kernel
theorem dX1_depth_16 : decode cX1_depth 16 = .ok (.iconst 0, 1) := by decide +kernel
theorem dX1_depth_17 : decode cX1_depth 17 = .ok (.istore 4, 2) := by decide +kernel
theorem dX1_depth_19 : decode cX1_depth 19 = .ok (.aload_n 0, 1) := by decide +kernel
theorem dX1_depth_20 : decode cX1_depth 20 = .ok (.iload 4, 2) := by decide +kernel
theorem dX1_depth_22 : decode cX1_depth 22 = .ok (.ifCond .ne 7, 3) := by decide +kernel
theorem dX1_depth_25 : decode cX1_depth 25 = .ok (.iconst 1, 1) := by decide +kernel
theorem dX1_depth_26 : decode cX1_depth 26 = .ok (.goto 16, 3) := by decide +kernel
theorem dX1_depth_29 : decode cX1_depth 29 = .ok (.aload_n 0, 1) := by decide +kernel
theorem dX1_depth_30 : decode cX1_depth 30 = .ok (.lload_n 2, 1) := by decide +kernel
theorem dX1_depth_31 : decode cX1_depth 31 = .ok (.invokevirtual 74, 3) := by decide +kernel
theorem dX1_depth_34 : decode cX1_depth 34 = .ok (.ifCond .ne 7, 3) := by decide +kernel
theorem dX1_depth_37 : decode cX1_depth 37 = .ok (.iconst 2, 1) := by decide +kernel
theorem dX1_depth_38 : decode cX1_depth 38 = .ok (.goto 4, 3) := by decide +kernel
theorem dX1_depth_41 : decode cX1_depth 41 = .ok (.iconst 0, 1) := by decide +kernel
theorem dX1_depth_42 : decode cX1_depth 42 = .ok (.putfield 36, 3) := by decide +kernel
theorem dX1_depth_45 : decode cX1_depth 45 = .ok (.aload_n 0, 1) := by decide +kernel
theorem dX1_depth_46 : decode cX1_depth 46 = .ok (.getfield 36, 3) := by decide +kernel
theorem dX1_depth_49 : decode cX1_depth 49 = .ok (.ifCond .le 7, 3) := by decide +kernel
theorem dX1_depth_52 : decode cX1_depth 52 = .ok (.lconst 0, 1) := by decide +kernel
theorem dX1_depth_53 : decode cX1_depth 53 = .ok (.goto 16, 3) := by decide +kernel
theorem dX1_depth_56 : decode cX1_depth 56 = .ok (.aload_n 0, 1) := by decide +kernel
theorem dX1_depth_57 : decode cX1_depth 57 = .ok (.getfield 26, 3) := by decide +kernel
theorem dX1_depth_60 : decode cX1_depth 60 = .ok (.iload_n 1, 1) := by decide +kernel
theorem dX1_depth_61 : decode cX1_depth 61 = .ok (.laload, 1) := by decide +kernel
theorem dX1_depth_62 : decode cX1_depth 62 = .ok (.aload_n 0, 1) := by decide +kernel
theorem dX1_depth_63 : decode cX1_depth 63 = .ok (.lload_n 2, 1) := by decide +kernel
theorem dX1_depth_64 : decode cX1_depth 64 = .ok (.l2i, 1) := by decide +kernel
theorem dX1_depth_65 : decode cX1_depth 65 = .ok (.invokevirtual 77, 3) := by decide +kernel
theorem dX1_depth_68 : decode cX1_depth 68 = .ok (.ladd, 1) := by decide +kernel
theorem dX1_depth_69 : decode cX1_depth 69 = .ok (.lreturn, 1) := by decide +kernel
theorem dX1_maySail_0 : decode cX1_maySail 0 = .ok (.lload_n 2, 1) := by decide +kernel
theorem dX1_maySail_1 : decode cX1_maySail 1 = .ok (.lconst 0, 1) := by decide +kernel
theorem dX1_maySail_2 : decode cX1_maySail 2 = .ok (.lcmp, 1) := by decide +kernel
theorem dX1_maySail_3 : decode cX1_maySail 3 = .ok (.ifCond .ge 7, 3) := by decide +kernel
theorem dX1_maySail_6 : decode cX1_maySail 6 = .ok (.lload_n 2, 1) := by decide +kernel
theorem dX1_maySail_7 : decode cX1_maySail 7 = .ok (.goto 12, 3) := by decide +kernel
theorem dX1_maySail_10 : decode cX1_maySail 10 = .ok (.lload_n 2, 1) := by decide +kernel
theorem dX1_maySail_11 : decode cX1_maySail 11 = .ok (.aload_n 0, 1) := by decide +kernel
theorem dX1_maySail_12 : decode cX1_maySail 12 = .ok (.lload 4, 2) := by decide +kernel
theorem dX1_maySail_14 : decode cX1_maySail 14 = .ok (.lload_n 2, 1) := by decide +kernel
theorem dX1_maySail_15 : decode cX1_maySail 15 = .ok (.invokevirtual 93, 3) := by decide +kernel
theorem dX1_maySail_18 : decode cX1_maySail 18 = .ok (.ladd, 1) := by decide +kernel
theorem dX1_maySail_19 : decode cX1_maySail 19 = .ok (.lstore 6, 2) := by decide +kernel
theorem dX1_maySail_21 : decode cX1_maySail 21 = .ok (.iconst 1, 1) := by decide +kernel
theorem dX1_maySail_22 : decode cX1_maySail 22 = .ok (.istore 8, 2) := by decide +kernel
theorem dX1_maySail_24 : decode cX1_maySail 24 = .ok (.iconst 0, 1) := by decide +kernel
theorem dX1_maySail_25 : decode cX1_maySail 25 = .ok (.istore 9, 2) := by decide +kernel
theorem dX1_maySail_27 : decode cX1_maySail 27 = .ok (.iload 9, 2) := by decide +kernel
theorem dX1_maySail_29 : decode cX1_maySail 29 = .ok (.aload_n 0, 1) := by decide +kernel
theorem dX1_maySail_30 : decode cX1_maySail 30 = .ok (.getfield 102, 3) := by decide +kernel
theorem dX1_maySail_33 : decode cX1_maySail 33 = .ok (.if_icmp .ge 85, 3) := by decide +kernel
theorem dX1_maySail_36 : decode cX1_maySail 36 = .ok (.iload 8, 2) := by decide +kernel
theorem dX1_maySail_38 : decode cX1_maySail 38 = .ok (.ifCond .eq 80, 3) := by decide +kernel
theorem dX1_maySail_41 : decode cX1_maySail 41 = .ok (.iload_n 1, 1) := by decide +kernel
theorem dX1_maySail_42 : decode cX1_maySail 42 = .ok (.i2l, 1) := by decide +kernel
theorem dX1_maySail_43 : decode cX1_maySail 43 = .ok (.ldc2_w 82, 3) := by decide +kernel
theorem dX1_maySail_46 : decode cX1_maySail 46 = .ok (.aload_n 0, 1) := by decide +kernel
theorem dX1_maySail_47 : decode cX1_maySail 47 = .ok (.getfield 23, 3) := by decide +kernel
theorem dX1_maySail_50 : decode cX1_maySail 50 = .ok (.iload 9, 2) := by decide +kernel
theorem dX1_maySail_52 : decode cX1_maySail 52 = .ok (.laload, 1) := by decide +kernel
theorem dX1_maySail_53 : decode cX1_maySail 53 = .ok (.lmul, 1) := by decide +kernel
theorem dX1_maySail_54 : decode cX1_maySail 54 = .ok (.lload 4, 2) := by decide +kernel
theorem dX1_maySail_56 : decode cX1_maySail 56 = .ok (.invokestatic 86, 3) := by decide +kernel
theorem dX1_maySail_59 : decode cX1_maySail 59 = .ok (.ladd, 1) := by decide +kernel
theorem dX1_maySail_60 : decode cX1_maySail 60 = .ok (.lstore 10, 2) := by decide +kernel
theorem dX1_maySail_62 : decode cX1_maySail 62 = .ok (.aload_n 0, 1) := by decide +kernel
theorem dX1_maySail_63 : decode cX1_maySail 63 = .ok (.lload 10, 2) := by decide +kernel
theorem dX1_maySail_65 : decode cX1_maySail 65 = .ok (.invokevirtual 74, 3) := by decide +kernel
theorem dX1_maySail_68 : decode cX1_maySail 68 = .ok (.ifCond .eq 41, 3) := by decide +kernel
theorem dX1_maySail_71 : decode cX1_maySail 71 = .ok (.aload_n 0, 1) := by decide +kernel
theorem dX1_maySail_72 : decode cX1_maySail 72 = .ok (.getfield 26, 3) := by decide +kernel
theorem dX1_maySail_75 : decode cX1_maySail 75 = .ok (.iload 9, 2) := by decide +kernel
theorem dX1_maySail_77 : decode cX1_maySail 77 = .ok (.laload, 1) := by decide +kernel
theorem dX1_maySail_78 : decode cX1_maySail 78 = .ok (.aload_n 0, 1) := by decide +kernel
theorem dX1_maySail_79 : decode cX1_maySail 79 = .ok (.aload_n 0, 1) := by decide +kernel
theorem dX1_maySail_80 : decode cX1_maySail 80 = .ok (.lload 10, 2) := by decide +kernel
theorem dX1_maySail_82 : decode cX1_maySail 82 = .ok (.invokevirtual 74, 3) := by decide +kernel
theorem dX1_maySail_85 : decode cX1_maySail 85 = .ok (.ifCond .eq 9, 3) := by decide +kernel
theorem dX1_maySail_88 : decode cX1_maySail 88 = .ok (.lload 10, 2) := by decide +kernel
theorem dX1_maySail_90 : decode cX1_maySail 90 = .ok (.l2i, 1) := by decide +kernel
theorem dX1_maySail_91 : decode cX1_maySail 91 = .ok (.goto 4, 3) := by decide +kernel
theorem dX1_maySail_94 : decode cX1_maySail 94 = .ok (.iload_n 1, 1) := by decide +kernel
theorem dX1_maySail_95 : decode cX1_maySail 95 = .ok (.invokevirtual 77, 3) := by decide +kernel
theorem dX1_maySail_98 : decode cX1_maySail 98 = .ok (.ladd, 1) := by decide +kernel
theorem dX1_maySail_99 : decode cX1_maySail 99 = .ok (.lload 6, 2) := by decide +kernel
theorem dX1_maySail_101 : decode cX1_maySail 101 = .ok (.lcmp, 1) := by decide +kernel
theorem dX1_maySail_102 : decode cX1_maySail 102 = .ok (.ifCond .lt 7, 3) := by decide +kernel
theorem dX1_maySail_105 : decode cX1_maySail 105 = .ok (.iconst 1, 1) := by decide +kernel
theorem dX1_maySail_106 : decode cX1_maySail 106 = .ok (.goto 4, 3) := by decide +kernel
theorem dX1_maySail_109 : decode cX1_maySail 109 = .ok (.iconst 0, 1) := by decide +kernel
theorem dX1_maySail_110 : decode cX1_maySail 110 = .ok (.istore 8, 2) := by decide +kernel
theorem dX1_maySail_112 : decode cX1_maySail 112 = .ok (.iinc 9 1, 3) := by decide +kernel
theorem dX1_maySail_115 : decode cX1_maySail 115 = .ok (.goto (-88), 3) := by decide +kernel
theorem dX1_maySail_118 : decode cX1_maySail 118 = .ok (.iload 8, 2) := by decide +kernel
theorem dX1_maySail_120 : decode cX1_maySail 120 = .ok (.ireturn, 1) := by decide +kernel
theorem dX1_sail_0 : decode cX1_sail 0 = .ok (.aload_n 0, 1) := by decide +kernel
theorem dX1_sail_1 : decode cX1_sail 1 = .ok (.lload 5, 2) := by decide +kernel
theorem dX1_sail_3 : decode cX1_sail 3 = .ok (.invokevirtual 74, 3) := by decide +kernel
theorem dX1_sail_6 : decode cX1_sail 6 = .ok (.ifCond .eq 36, 3) := by decide +kernel
theorem dX1_sail_9 : decode cX1_sail 9 = .ok (.lload_n 1, 1) := by decide +kernel
theorem dX1_sail_10 : decode cX1_sail 10 = .ok (.invokestatic 70, 3) := by decide +kernel
theorem dX1_sail_13 : decode cX1_sail 13 = .ok (.ifCond .eq 29, 3) := by decide +kernel
theorem dX1_sail_16 : decode cX1_sail 16 = .ok (.lload_n 3, 1) := by decide +kernel
theorem dX1_sail_17 : decode cX1_sail 17 = .ok (.lconst 0, 1) := by decide +kernel
theorem dX1_sail_18 : decode cX1_sail 18 = .ok (.ldc2_w 89, 3) := by decide +kernel
theorem dX1_sail_21 : decode cX1_sail 21 = .ok (.invokestatic 43, 3) := by decide +kernel
theorem dX1_sail_24 : decode cX1_sail 24 = .ok (.ifCond .eq 18, 3) := by decide +kernel
theorem dX1_sail_27 : decode cX1_sail 27 = .ok (.iload 7, 2) := by decide +kernel
theorem dX1_sail_29 : decode cX1_sail 29 = .ok (.ifCond .lt 13, 3) := by decide +kernel
theorem dX1_sail_32 : decode cX1_sail 32 = .ok (.iload 7, 2) := by decide +kernel
theorem dX1_sail_34 : decode cX1_sail 34 = .ok (.iconst 2, 1) := by decide +kernel
theorem dX1_sail_35 : decode cX1_sail 35 = .ok (.if_icmp .ge 7, 3) := by decide +kernel
theorem dX1_sail_38 : decode cX1_sail 38 = .ok (.iconst 1, 1) := by decide +kernel
theorem dX1_sail_39 : decode cX1_sail 39 = .ok (.goto 4, 3) := by decide +kernel
theorem dX1_sail_42 : decode cX1_sail 42 = .ok (.iconst 0, 1) := by decide +kernel
theorem dX1_sail_43 : decode cX1_sail 43 = .ok (.istore 8, 2) := by decide +kernel
theorem dX1_sail_45 : decode cX1_sail 45 = .ok (.aload_n 0, 1) := by decide +kernel
theorem dX1_sail_46 : decode cX1_sail 46 = .ok (.iload 8, 2) := by decide +kernel
theorem dX1_sail_48 : decode cX1_sail 48 = .ok (.ifCond .ne 7, 3) := by decide +kernel
theorem dX1_sail_51 : decode cX1_sail 51 = .ok (.iconst 1, 1) := by decide +kernel
theorem dX1_sail_52 : decode cX1_sail 52 = .ok (.goto 25, 3) := by decide +kernel
theorem dX1_sail_55 : decode cX1_sail 55 = .ok (.aload_n 0, 1) := by decide +kernel
theorem dX1_sail_56 : decode cX1_sail 56 = .ok (.getfield 102, 3) := by decide +kernel
theorem dX1_sail_59 : decode cX1_sail 59 = .ok (.ifCond .ne 7, 3) := by decide +kernel
theorem dX1_sail_62 : decode cX1_sail 62 = .ok (.iconst 2, 1) := by decide +kernel
theorem dX1_sail_63 : decode cX1_sail 63 = .ok (.goto 14, 3) := by decide +kernel
theorem dX1_sail_66 : decode cX1_sail 66 = .ok (.lload_n 3, 1) := by decide +kernel
theorem dX1_sail_67 : decode cX1_sail 67 = .ok (.lconst 0, 1) := by decide +kernel
theorem dX1_sail_68 : decode cX1_sail 68 = .ok (.lcmp, 1) := by decide +kernel
theorem dX1_sail_69 : decode cX1_sail 69 = .ok (.ifCond .ne 7, 3) := by decide +kernel
theorem dX1_sail_72 : decode cX1_sail 72 = .ok (.iconst 3, 1) := by decide +kernel
theorem dX1_sail_73 : decode cX1_sail 73 = .ok (.goto 4, 3) := by decide +kernel
theorem dX1_sail_76 : decode cX1_sail 76 = .ok (.iconst 0, 1) := by decide +kernel
theorem dX1_sail_77 : decode cX1_sail 77 = .ok (.putfield 36, 3) := by decide +kernel
theorem dX1_sail_80 : decode cX1_sail 80 = .ok (.aload_n 0, 1) := by decide +kernel
theorem dX1_sail_81 : decode cX1_sail 81 = .ok (.getfield 36, 3) := by decide +kernel
theorem dX1_sail_84 : decode cX1_sail 84 = .ok (.ifCond .le 5, 3) := by decide +kernel
theorem dX1_sail_87 : decode cX1_sail 87 = .ok (.iconst 0, 1) := by decide +kernel
theorem dX1_sail_88 : decode cX1_sail 88 = .ok (.ireturn, 1) := by decide +kernel
theorem dX1_sail_89 : decode cX1_sail 89 = .ok (.lload 5, 2) := by decide +kernel
theorem dX1_sail_91 : decode cX1_sail 91 = .ok (.l2i, 1) := by decide +kernel
theorem dX1_sail_92 : decode cX1_sail 92 = .ok (.istore 9, 2) := by decide +kernel
theorem dX1_sail_94 : decode cX1_sail 94 = .ok (.aload_n 0, 1) := by decide +kernel
theorem dX1_sail_95 : decode cX1_sail 95 = .ok (.getfield 7, 3) := by decide +kernel
theorem dX1_sail_98 : decode cX1_sail 98 = .ok (.aload_n 0, 1) := by decide +kernel
theorem dX1_sail_99 : decode cX1_sail 99 = .ok (.getfield 40, 3) := by decide +kernel
theorem dX1_sail_102 : decode cX1_sail 102 = .ok (.iconst 1, 1) := by decide +kernel
theorem dX1_sail_103 : decode cX1_sail 103 = .ok (.isub, 1) := by decide +kernel
theorem dX1_sail_104 : decode cX1_sail 104 = .ok (.iaload, 1) := by decide +kernel
theorem dX1_sail_105 : decode cX1_sail 105 = .ok (.istore 10, 2) := by decide +kernel
theorem dX1_sail_107 : decode cX1_sail 107 = .ok (.iload 9, 2) := by decide +kernel
theorem dX1_sail_109 : decode cX1_sail 109 = .ok (.iload 10, 2) := by decide +kernel
theorem dX1_sail_111 : decode cX1_sail 111 = .ok (.if_icmp .gt 20, 3) := by decide +kernel
theorem dX1_sail_114 : decode cX1_sail 114 = .ok (.aload_n 0, 1) := by decide +kernel
theorem dX1_sail_115 : decode cX1_sail 115 = .ok (.iload 9, 2) := by decide +kernel
theorem dX1_sail_117 : decode cX1_sail 117 = .ok (.lload_n 1, 1) := by decide +kernel
theorem dX1_sail_118 : decode cX1_sail 118 = .ok (.lload_n 3, 1) := by decide +kernel
theorem dX1_sail_119 : decode cX1_sail 119 = .ok (.invokevirtual 105, 3) := by decide +kernel
theorem dX1_sail_122 : decode cX1_sail 122 = .ok (.ifCond .ne 9, 3) := by decide +kernel
theorem dX1_sail_125 : decode cX1_sail 125 = .ok (.iinc 9 1, 3) := by decide +kernel
theorem dX1_sail_128 : decode cX1_sail 128 = .ok (.goto (-21), 3) := by decide +kernel
theorem dX1_sail_131 : decode cX1_sail 131 = .ok (.iload 9, 2) := by decide +kernel
theorem dX1_sail_133 : decode cX1_sail 133 = .ok (.iload 10, 2) := by decide +kernel
theorem dX1_sail_135 : decode cX1_sail 135 = .ok (.if_icmp .le 5, 3) := by decide +kernel
theorem dX1_sail_138 : decode cX1_sail 138 = .ok (.iconst (-1), 1) := by decide +kernel
theorem dX1_sail_139 : decode cX1_sail 139 = .ok (.ireturn, 1) := by decide +kernel
theorem dX1_sail_140 : decode cX1_sail 140 = .ok (.iload 7, 2) := by decide +kernel
theorem dX1_sail_142 : decode cX1_sail 142 = .ok (.ifCond .ne 6, 3) := by decide +kernel
theorem dX1_sail_145 : decode cX1_sail 145 = .ok (.iload 9, 2) := by decide +kernel
theorem dX1_sail_147 : decode cX1_sail 147 = .ok (.ireturn, 1) := by decide +kernel
theorem dX1_sail_148 : decode cX1_sail 148 = .ok (.iload 9, 2) := by decide +kernel
theorem dX1_sail_150 : decode cX1_sail 150 = .ok (.iload 10, 2) := by decide +kernel
theorem dX1_sail_152 : decode cX1_sail 152 = .ok (.if_icmp .ge 22, 3) := by decide +kernel
theorem dX1_sail_155 : decode cX1_sail 155 = .ok (.aload_n 0, 1) := by decide +kernel
theorem dX1_sail_156 : decode cX1_sail 156 = .ok (.iload 9, 2) := by decide +kernel
theorem dX1_sail_158 : decode cX1_sail 158 = .ok (.iconst 1, 1) := by decide +kernel
theorem dX1_sail_159 : decode cX1_sail 159 = .ok (.iadd, 1) := by decide +kernel
theorem dX1_sail_160 : decode cX1_sail 160 = .ok (.lload_n 1, 1) := by decide +kernel
theorem dX1_sail_161 : decode cX1_sail 161 = .ok (.lload_n 3, 1) := by decide +kernel
theorem dX1_sail_162 : decode cX1_sail 162 = .ok (.invokevirtual 105, 3) := by decide +kernel
theorem dX1_sail_165 : decode cX1_sail 165 = .ok (.ifCond .eq 9, 3) := by decide +kernel
theorem dX1_sail_168 : decode cX1_sail 168 = .ok (.iinc 9 1, 3) := by decide +kernel
theorem dX1_sail_171 : decode cX1_sail 171 = .ok (.goto (-23), 3) := by decide +kernel
theorem dX1_sail_174 : decode cX1_sail 174 = .ok (.iload 9, 2) := by decide +kernel
theorem dX1_sail_176 : decode cX1_sail 176 = .ok (.ireturn, 1) := by decide +kernel
theorem dX1_read_0 : decode cX1_read 0 = .ok (.iload_n 1, 1) := by decide +kernel
theorem dX1_read_1 : decode cX1_read 1 = .ok (.ifCond .lt 24, 3) := by decide +kernel
theorem dX1_read_4 : decode cX1_read 4 = .ok (.iload_n 1, 1) := by decide +kernel
theorem dX1_read_5 : decode cX1_read 5 = .ok (.aload_n 0, 1) := by decide +kernel
theorem dX1_read_6 : decode cX1_read 6 = .ok (.getfield 40, 3) := by decide +kernel
theorem dX1_read_9 : decode cX1_read 9 = .ok (.if_icmp .ge 16, 3) := by decide +kernel
theorem dX1_read_12 : decode cX1_read 12 = .ok (.iload_n 2, 1) := by decide +kernel
theorem dX1_read_13 : decode cX1_read 13 = .ok (.ifCond .eq 8, 3) := by decide +kernel
theorem dX1_read_16 : decode cX1_read 16 = .ok (.iload_n 2, 1) := by decide +kernel
theorem dX1_read_17 : decode cX1_read 17 = .ok (.iconst 1, 1) := by decide +kernel
theorem dX1_read_18 : decode cX1_read 18 = .ok (.if_icmp .ne 7, 3) := by decide +kernel
theorem dX1_read_21 : decode cX1_read 21 = .ok (.iconst 1, 1) := by decide +kernel
theorem dX1_read_22 : decode cX1_read 22 = .ok (.goto 4, 3) := by decide +kernel
theorem dX1_read_25 : decode cX1_read 25 = .ok (.iconst 0, 1) := by decide +kernel
theorem dX1_read_26 : decode cX1_read 26 = .ok (.istore_n 3, 1) := by decide +kernel
theorem dX1_read_27 : decode cX1_read 27 = .ok (.iload_n 1, 1) := by decide +kernel
theorem dX1_read_28 : decode cX1_read 28 = .ok (.bipush 100, 2) := by decide +kernel
theorem dX1_read_30 : decode cX1_read 30 = .ok (.if_icmp .lt 28, 3) := by decide +kernel
theorem dX1_read_33 : decode cX1_read 33 = .ok (.iload_n 1, 1) := by decide +kernel
theorem dX1_read_34 : decode cX1_read 34 = .ok (.bipush 100, 2) := by decide +kernel
theorem dX1_read_36 : decode cX1_read 36 = .ok (.isub, 1) := by decide +kernel
theorem dX1_read_37 : decode cX1_read 37 = .ok (.aload_n 0, 1) := by decide +kernel
theorem dX1_read_38 : decode cX1_read 38 = .ok (.getfield 59, 3) := by decide +kernel
theorem dX1_read_41 : decode cX1_read 41 = .ok (.if_icmp .ge 17, 3) := by decide +kernel
theorem dX1_read_44 : decode cX1_read 44 = .ok (.iload_n 2, 1) := by decide +kernel
theorem dX1_read_45 : decode cX1_read 45 = .ok (.iconst 2, 1) := by decide +kernel
theorem dX1_read_46 : decode cX1_read 46 = .ok (.if_icmp .eq 8, 3) := by decide +kernel
theorem dX1_read_49 : decode cX1_read 49 = .ok (.iload_n 2, 1) := by decide +kernel
theorem dX1_read_50 : decode cX1_read 50 = .ok (.iconst 3, 1) := by decide +kernel
theorem dX1_read_51 : decode cX1_read 51 = .ok (.if_icmp .ne 7, 3) := by decide +kernel
theorem dX1_read_54 : decode cX1_read 54 = .ok (.iconst 1, 1) := by decide +kernel
theorem dX1_read_55 : decode cX1_read 55 = .ok (.goto 4, 3) := by decide +kernel
theorem dX1_read_58 : decode cX1_read 58 = .ok (.iconst 0, 1) := by decide +kernel
theorem dX1_read_59 : decode cX1_read 59 = .ok (.istore 4, 2) := by decide +kernel
theorem dX1_read_61 : decode cX1_read 61 = .ok (.aload_n 0, 1) := by decide +kernel
theorem dX1_read_62 : decode cX1_read 62 = .ok (.iload_n 3, 1) := by decide +kernel
theorem dX1_read_63 : decode cX1_read 63 = .ok (.ifCond .ne 8, 3) := by decide +kernel
theorem dX1_read_66 : decode cX1_read 66 = .ok (.iload 4, 2) := by decide +kernel
theorem dX1_read_68 : decode cX1_read 68 = .ok (.ifCond .eq 7, 3) := by decide +kernel
theorem dX1_read_71 : decode cX1_read 71 = .ok (.iconst 0, 1) := by decide +kernel
theorem dX1_read_72 : decode cX1_read 72 = .ok (.goto 4, 3) := by decide +kernel
theorem dX1_read_75 : decode cX1_read 75 = .ok (.iconst 1, 1) := by decide +kernel
theorem dX1_read_76 : decode cX1_read 76 = .ok (.putfield 36, 3) := by decide +kernel
theorem dX1_read_79 : decode cX1_read 79 = .ok (.aload_n 0, 1) := by decide +kernel
theorem dX1_read_80 : decode cX1_read 80 = .ok (.getfield 36, 3) := by decide +kernel
theorem dX1_read_83 : decode cX1_read 83 = .ok (.ifCond .le 5, 3) := by decide +kernel
theorem dX1_read_86 : decode cX1_read 86 = .ok (.lconst 0, 1) := by decide +kernel
theorem dX1_read_87 : decode cX1_read 87 = .ok (.lreturn, 1) := by decide +kernel
theorem dX1_read_88 : decode cX1_read 88 = .ok (.iload_n 2, 1) := by decide +kernel
theorem dX1_read_89 : decode cX1_read 89 = .ok (.ifCond .ne 13, 3) := by decide +kernel
theorem dX1_read_92 : decode cX1_read 92 = .ok (.aload_n 0, 1) := by decide +kernel
theorem dX1_read_93 : decode cX1_read 93 = .ok (.getfield 7, 3) := by decide +kernel
theorem dX1_read_96 : decode cX1_read 96 = .ok (.iload_n 1, 1) := by decide +kernel
theorem dX1_read_97 : decode cX1_read 97 = .ok (.iaload, 1) := by decide +kernel
theorem dX1_read_98 : decode cX1_read 98 = .ok (.i2l, 1) := by decide +kernel
theorem dX1_read_99 : decode cX1_read 99 = .ok (.goto 45, 3) := by decide +kernel
theorem dX1_read_102 : decode cX1_read 102 = .ok (.iload_n 2, 1) := by decide +kernel
theorem dX1_read_103 : decode cX1_read 103 = .ok (.iconst 1, 1) := by decide +kernel
theorem dX1_read_104 : decode cX1_read 104 = .ok (.if_icmp .ne 13, 3) := by decide +kernel
theorem dX1_read_107 : decode cX1_read 107 = .ok (.aload_n 0, 1) := by decide +kernel
theorem dX1_read_108 : decode cX1_read 108 = .ok (.getfield 13, 3) := by decide +kernel
theorem dX1_read_111 : decode cX1_read 111 = .ok (.iload_n 1, 1) := by decide +kernel
theorem dX1_read_112 : decode cX1_read 112 = .ok (.iaload, 1) := by decide +kernel
theorem dX1_read_113 : decode cX1_read 113 = .ok (.i2l, 1) := by decide +kernel
theorem dX1_read_114 : decode cX1_read 114 = .ok (.goto 30, 3) := by decide +kernel
theorem dX1_read_117 : decode cX1_read 117 = .ok (.iload_n 2, 1) := by decide +kernel
theorem dX1_read_118 : decode cX1_read 118 = .ok (.iconst 2, 1) := by decide +kernel
theorem dX1_read_119 : decode cX1_read 119 = .ok (.if_icmp .ne 16, 3) := by decide +kernel
theorem dX1_read_122 : decode cX1_read 122 = .ok (.aload_n 0, 1) := by decide +kernel
theorem dX1_read_123 : decode cX1_read 123 = .ok (.getfield 16, 3) := by decide +kernel
theorem dX1_read_126 : decode cX1_read 126 = .ok (.iload_n 1, 1) := by decide +kernel
theorem dX1_read_127 : decode cX1_read 127 = .ok (.bipush 100, 2) := by decide +kernel
theorem dX1_read_129 : decode cX1_read 129 = .ok (.isub, 1) := by decide +kernel
theorem dX1_read_130 : decode cX1_read 130 = .ok (.iaload, 1) := by decide +kernel
theorem dX1_read_131 : decode cX1_read 131 = .ok (.i2l, 1) := by decide +kernel
theorem dX1_read_132 : decode cX1_read 132 = .ok (.goto 12, 3) := by decide +kernel
theorem dX1_read_135 : decode cX1_read 135 = .ok (.aload_n 0, 1) := by decide +kernel
theorem dX1_read_136 : decode cX1_read 136 = .ok (.getfield 19, 3) := by decide +kernel
theorem dX1_read_139 : decode cX1_read 139 = .ok (.iload_n 1, 1) := by decide +kernel
theorem dX1_read_140 : decode cX1_read 140 = .ok (.bipush 100, 2) := by decide +kernel
theorem dX1_read_142 : decode cX1_read 142 = .ok (.isub, 1) := by decide +kernel
theorem dX1_read_143 : decode cX1_read 143 = .ok (.laload, 1) := by decide +kernel
theorem dX1_read_144 : decode cX1_read 144 = .ok (.lreturn, 1) := by decide +kernel
theorem dX1_count_0 : decode cX1_count 0 = .ok (.aload_n 0, 1) := by decide +kernel
theorem dX1_count_1 : decode cX1_count 1 = .ok (.iconst 0, 1) := by decide +kernel
theorem dX1_count_2 : decode cX1_count 2 = .ok (.putfield 36, 3) := by decide +kernel
theorem dX1_count_5 : decode cX1_count 5 = .ok (.iload_n 1, 1) := by decide +kernel
theorem dX1_count_6 : decode cX1_count 6 = .ok (.tableswitch 92 0 4 #[34, 39, 44, 49, 68], 34) := by decide +kernel
theorem dX1_count_40 : decode cX1_count 40 = .ok (.aload_n 0, 1) := by decide +kernel
theorem dX1_count_41 : decode cX1_count 41 = .ok (.getfield 40, 3) := by decide +kernel
theorem dX1_count_44 : decode cX1_count 44 = .ok (.ireturn, 1) := by decide +kernel
theorem dX1_count_45 : decode cX1_count 45 = .ok (.aload_n 0, 1) := by decide +kernel
theorem dX1_count_46 : decode cX1_count 46 = .ok (.getfield 59, 3) := by decide +kernel
theorem dX1_count_49 : decode cX1_count 49 = .ok (.ireturn, 1) := by decide +kernel
theorem dX1_count_50 : decode cX1_count 50 = .ok (.aload_n 0, 1) := by decide +kernel
theorem dX1_count_51 : decode cX1_count 51 = .ok (.getfield 102, 3) := by decide +kernel
theorem dX1_count_54 : decode cX1_count 54 = .ok (.ireturn, 1) := by decide +kernel
theorem dX1_count_55 : decode cX1_count 55 = .ok (.aload_n 0, 1) := by decide +kernel
theorem dX1_count_56 : decode cX1_count 56 = .ok (.getfield 40, 3) := by decide +kernel
theorem dX1_count_59 : decode cX1_count 59 = .ok (.iconst 1, 1) := by decide +kernel
theorem dX1_count_60 : decode cX1_count 60 = .ok (.if_icmp .le 12, 3) := by decide +kernel
theorem dX1_count_63 : decode cX1_count 63 = .ok (.aload_n 0, 1) := by decide +kernel
theorem dX1_count_64 : decode cX1_count 64 = .ok (.getfield 7, 3) := by decide +kernel
theorem dX1_count_67 : decode cX1_count 67 = .ok (.iconst 0, 1) := by decide +kernel
theorem dX1_count_68 : decode cX1_count 68 = .ok (.iaload, 1) := by decide +kernel
theorem dX1_count_69 : decode cX1_count 69 = .ok (.goto 4, 3) := by decide +kernel
theorem dX1_count_72 : decode cX1_count 72 = .ok (.iconst (-1), 1) := by decide +kernel
theorem dX1_count_73 : decode cX1_count 73 = .ok (.ireturn, 1) := by decide +kernel
theorem dX1_count_74 : decode cX1_count 74 = .ok (.aload_n 0, 1) := by decide +kernel
theorem dX1_count_75 : decode cX1_count 75 = .ok (.getfield 40, 3) := by decide +kernel
theorem dX1_count_78 : decode cX1_count 78 = .ok (.iconst 1, 1) := by decide +kernel
theorem dX1_count_79 : decode cX1_count 79 = .ok (.if_icmp .le 17, 3) := by decide +kernel
theorem dX1_count_82 : decode cX1_count 82 = .ok (.aload_n 0, 1) := by decide +kernel
theorem dX1_count_83 : decode cX1_count 83 = .ok (.getfield 7, 3) := by decide +kernel
theorem dX1_count_86 : decode cX1_count 86 = .ok (.aload_n 0, 1) := by decide +kernel
theorem dX1_count_87 : decode cX1_count 87 = .ok (.getfield 40, 3) := by decide +kernel
theorem dX1_count_90 : decode cX1_count 90 = .ok (.iconst 1, 1) := by decide +kernel
theorem dX1_count_91 : decode cX1_count 91 = .ok (.isub, 1) := by decide +kernel
theorem dX1_count_92 : decode cX1_count 92 = .ok (.iaload, 1) := by decide +kernel
theorem dX1_count_93 : decode cX1_count 93 = .ok (.goto 4, 3) := by decide +kernel
theorem dX1_count_96 : decode cX1_count 96 = .ok (.iconst (-1), 1) := by decide +kernel
theorem dX1_count_97 : decode cX1_count 97 = .ok (.ireturn, 1) := by decide +kernel
theorem dX1_count_98 : decode cX1_count 98 = .ok (.iconst (-1), 1) := by decide +kernel
theorem dX1_count_99 : decode cX1_count 99 = .ok (.ireturn, 1) := by decide +kernel
