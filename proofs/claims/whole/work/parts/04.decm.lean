theorem dX8_init_0 : decode cX8_init 0 = .ok (.aload_n 0, 1) := by decide +kernel
theorem dX8_init_1 : decode cX8_init 1 = .ok (.invokespecial 1, 3) := by decide +kernel
theorem dX8_init_4 : decode cX8_init 4 = .ok (.aload_n 0, 1) := by decide +kernel
theorem dX8_init_5 : decode cX8_init 5 = .ok (.sipush 200, 3) := by decide +kernel
theorem dX8_init_8 : decode cX8_init 8 = .ok (.newarray .int, 2) := by decide +kernel
theorem dX8_init_10 : decode cX8_init 10 = .ok (.putfield 7, 3) := by decide +kernel
theorem dX8_init_13 : decode cX8_init 13 = .ok (.aload_n 0, 1) := by decide +kernel
theorem dX8_init_14 : decode cX8_init 14 = .ok (.bipush 6, 2) := by decide +kernel
theorem dX8_init_16 : decode cX8_init 16 = .ok (.newarray .int, 2) := by decide +kernel
theorem dX8_init_18 : decode cX8_init 18 = .ok (.putfield 13, 3) := by decide +kernel
theorem dX8_init_21 : decode cX8_init 21 = .ok (.aload_n 0, 1) := by decide +kernel
theorem dX8_init_22 : decode cX8_init 22 = .ok (.bipush 6, 2) := by decide +kernel
theorem dX8_init_24 : decode cX8_init 24 = .ok (.newarray .int, 2) := by decide +kernel
theorem dX8_init_26 : decode cX8_init 26 = .ok (.putfield 16, 3) := by decide +kernel
theorem dX8_init_29 : decode cX8_init 29 = .ok (.aload_n 0, 1) := by decide +kernel
theorem dX8_init_30 : decode cX8_init 30 = .ok (.bipush 102, 2) := by decide +kernel
theorem dX8_init_32 : decode cX8_init 32 = .ok (.newarray .int, 2) := by decide +kernel
theorem dX8_init_34 : decode cX8_init 34 = .ok (.putfield 19, 3) := by decide +kernel
theorem dX8_init_37 : decode cX8_init 37 = .ok (.aload_n 0, 1) := by decide +kernel
theorem dX8_init_38 : decode cX8_init 38 = .ok (.bipush 6, 2) := by decide +kernel
theorem dX8_init_40 : decode cX8_init 40 = .ok (.newarray .int, 2) := by decide +kernel
theorem dX8_init_42 : decode cX8_init 42 = .ok (.putfield 22, 3) := by decide +kernel
theorem dX8_init_45 : decode cX8_init 45 = .ok (.aload_n 0, 1) := by decide +kernel
theorem dX8_init_46 : decode cX8_init 46 = .ok (.bipush 6, 2) := by decide +kernel
theorem dX8_init_48 : decode cX8_init 48 = .ok (.newarray .int, 2) := by decide +kernel
theorem dX8_init_50 : decode cX8_init 50 = .ok (.putfield 25, 3) := by decide +kernel
theorem dX8_init_53 : decode cX8_init 53 = .ok (.aload_n 0, 1) := by decide +kernel
theorem dX8_init_54 : decode cX8_init 54 = .ok (.bipush 102, 2) := by decide +kernel
theorem dX8_init_56 : decode cX8_init 56 = .ok (.newarray .int, 2) := by decide +kernel
theorem dX8_init_58 : decode cX8_init 58 = .ok (.putfield 28, 3) := by decide +kernel
theorem dX8_init_61 : decode cX8_init 61 = .ok (.aload_n 0, 1) := by decide +kernel
theorem dX8_init_62 : decode cX8_init 62 = .ok (.sipush 816, 3) := by decide +kernel
theorem dX8_init_65 : decode cX8_init 65 = .ok (.newarray .int, 2) := by decide +kernel
theorem dX8_init_67 : decode cX8_init 67 = .ok (.putfield 31, 3) := by decide +kernel
theorem dX8_init_70 : decode cX8_init 70 = .ok (.aload_n 0, 1) := by decide +kernel
theorem dX8_init_71 : decode cX8_init 71 = .ok (.bipush 30, 2) := by decide +kernel
theorem dX8_init_73 : decode cX8_init 73 = .ok (.newarray .int, 2) := by decide +kernel
theorem dX8_init_75 : decode cX8_init 75 = .ok (.putfield 34, 3) := by decide +kernel
theorem dX8_init_78 : decode cX8_init 78 = .ok (.aload_n 0, 1) := by decide +kernel
theorem dX8_init_79 : decode cX8_init 79 = .ok (.bipush 16, 2) := by decide +kernel
theorem dX8_init_81 : decode cX8_init 81 = .ok (.newarray .long, 2) := by decide +kernel
theorem dX8_init_83 : decode cX8_init 83 = .ok (.putfield 37, 3) := by decide +kernel
theorem dX8_init_86 : decode cX8_init 86 = .ok (.aload_n 0, 1) := by decide +kernel
theorem dX8_init_87 : decode cX8_init 87 = .ok (.bipush 16, 2) := by decide +kernel
theorem dX8_init_89 : decode cX8_init 89 = .ok (.newarray .int, 2) := by decide +kernel
theorem dX8_init_91 : decode cX8_init 91 = .ok (.putfield 41, 3) := by decide +kernel
theorem dX8_init_94 : decode cX8_init 94 = .ok (.aload_n 0, 1) := by decide +kernel
theorem dX8_init_95 : decode cX8_init 95 = .ok (.sipush 272, 3) := by decide +kernel
theorem dX8_init_98 : decode cX8_init 98 = .ok (.newarray .long, 2) := by decide +kernel
theorem dX8_init_100 : decode cX8_init 100 = .ok (.putfield 44, 3) := by decide +kernel
theorem dX8_init_103 : decode cX8_init 103 = .ok (.aload_n 0, 1) := by decide +kernel
theorem dX8_init_104 : decode cX8_init 104 = .ok (.bipush 16, 2) := by decide +kernel
theorem dX8_init_106 : decode cX8_init 106 = .ok (.newarray .int, 2) := by decide +kernel
theorem dX8_init_108 : decode cX8_init 108 = .ok (.putfield 47, 3) := by decide +kernel
theorem dX8_init_111 : decode cX8_init 111 = .ok (.aload_n 0, 1) := by decide +kernel
theorem dX8_init_112 : decode cX8_init 112 = .ok (.bipush 36, 2) := by decide +kernel
theorem dX8_init_114 : decode cX8_init 114 = .ok (.newarray .int, 2) := by decide +kernel
theorem dX8_init_116 : decode cX8_init 116 = .ok (.putfield 50, 3) := by decide +kernel
theorem dX8_init_119 : decode cX8_init 119 = .ok (.aload_n 0, 1) := by decide +kernel
theorem dX8_init_120 : decode cX8_init 120 = .ok (.bipush 36, 2) := by decide +kernel
theorem dX8_init_122 : decode cX8_init 122 = .ok (.newarray .int, 2) := by decide +kernel
theorem dX8_init_124 : decode cX8_init 124 = .ok (.putfield 53, 3) := by decide +kernel
theorem dX8_init_127 : decode cX8_init 127 = .ok (.aload_n 0, 1) := by decide +kernel
theorem dX8_init_128 : decode cX8_init 128 = .ok (.bipush 96, 2) := by decide +kernel
theorem dX8_init_130 : decode cX8_init 130 = .ok (.newarray .int, 2) := by decide +kernel
theorem dX8_init_132 : decode cX8_init 132 = .ok (.putfield 56, 3) := by decide +kernel
theorem dX8_init_135 : decode cX8_init 135 = .ok (.aload_n 0, 1) := by decide +kernel
theorem dX8_init_136 : decode cX8_init 136 = .ok (.bipush 96, 2) := by decide +kernel
theorem dX8_init_138 : decode cX8_init 138 = .ok (.newarray .int, 2) := by decide +kernel
theorem dX8_init_140 : decode cX8_init 140 = .ok (.putfield 59, 3) := by decide +kernel
theorem dX8_init_143 : decode cX8_init 143 = .ok (.aload_n 0, 1) := by decide +kernel
theorem dX8_init_144 : decode cX8_init 144 = .ok (.bipush 96, 2) := by decide +kernel
theorem dX8_init_146 : decode cX8_init 146 = .ok (.newarray .int, 2) := by decide +kernel
theorem dX8_init_148 : decode cX8_init 148 = .ok (.putfield 62, 3) := by decide +kernel
theorem dX8_init_151 : decode cX8_init 151 = .ok (.aload_n 0, 1) := by decide +kernel
theorem dX8_init_152 : decode cX8_init 152 = .ok (.bipush 96, 2) := by decide +kernel
theorem dX8_init_154 : decode cX8_init 154 = .ok (.newarray .int, 2) := by decide +kernel
theorem dX8_init_156 : decode cX8_init 156 = .ok (.putfield 65, 3) := by decide +kernel
theorem dX8_init_159 : decode cX8_init 159 = .ok (.aload_n 0, 1) := by decide +kernel
theorem dX8_init_160 : decode cX8_init 160 = .ok (.invokevirtual 68, 3) := by decide +kernel
theorem dX8_init_163 : decode cX8_init 163 = .ok (.aload_n 0, 1) := by decide +kernel
theorem dX8_init_164 : decode cX8_init 164 = .ok (.bipush 14, 2) := by decide +kernel
theorem dX8_init_166 : decode cX8_init 166 = .ok (.putfield 71, 3) := by decide +kernel
theorem dX8_init_169 : decode cX8_init 169 = .ok (.aload_n 0, 1) := by decide +kernel
theorem dX8_init_170 : decode cX8_init 170 = .ok (.iconst 0, 1) := by decide +kernel
theorem dX8_init_171 : decode cX8_init 171 = .ok (.iconst 0, 1) := by decide +kernel
theorem dX8_init_172 : decode cX8_init 172 = .ok (.invokevirtual 75, 3) := by decide +kernel
theorem dX8_init_175 : decode cX8_init 175 = .ok (.aload_n 0, 1) := by decide +kernel
theorem dX8_init_176 : decode cX8_init 176 = .ok (.iconst 0, 1) := by decide +kernel
theorem dX8_init_177 : decode cX8_init 177 = .ok (.iconst 5, 1) := by decide +kernel
theorem dX8_init_178 : decode cX8_init 178 = .ok (.bipush 6, 2) := by decide +kernel
theorem dX8_init_180 : decode cX8_init 180 = .ok (.bipush 7, 2) := by decide +kernel
theorem dX8_init_182 : decode cX8_init 182 = .ok (.iconst 5, 1) := by decide +kernel
theorem dX8_init_183 : decode cX8_init 183 = .ok (.bipush 6, 2) := by decide +kernel
theorem dX8_init_185 : decode cX8_init 185 = .ok (.invokevirtual 79, 3) := by decide +kernel
theorem dX8_init_188 : decode cX8_init 188 = .ok (.aload_n 0, 1) := by decide +kernel
theorem dX8_init_189 : decode cX8_init 189 = .ok (.iconst 5, 1) := by decide +kernel
theorem dX8_init_190 : decode cX8_init 190 = .ok (.bipush 7, 2) := by decide +kernel
theorem dX8_init_192 : decode cX8_init 192 = .ok (.bipush 12, 2) := by decide +kernel
theorem dX8_init_194 : decode cX8_init 194 = .ok (.bipush 11, 2) := by decide +kernel
theorem dX8_init_196 : decode cX8_init 196 = .ok (.bipush 12, 2) := by decide +kernel
theorem dX8_init_198 : decode cX8_init 198 = .ok (.bipush 13, 2) := by decide +kernel
theorem dX8_init_200 : decode cX8_init 200 = .ok (.invokevirtual 79, 3) := by decide +kernel
theorem dX8_init_203 : decode cX8_init 203 = .ok (.aload_n 0, 1) := by decide +kernel
theorem dX8_init_204 : decode cX8_init 204 = .ok (.bipush 10, 2) := by decide +kernel
theorem dX8_init_206 : decode cX8_init 206 = .ok (.bipush 11, 2) := by decide +kernel
theorem dX8_init_208 : decode cX8_init 208 = .ok (.bipush 12, 2) := by decide +kernel
theorem dX8_init_210 : decode cX8_init 210 = .ok (.bipush 13, 2) := by decide +kernel
theorem dX8_init_212 : decode cX8_init 212 = .ok (.bipush 12, 2) := by decide +kernel
theorem dX8_init_214 : decode cX8_init 214 = .ok (.iconst 0, 1) := by decide +kernel
theorem dX8_init_215 : decode cX8_init 215 = .ok (.invokevirtual 79, 3) := by decide +kernel
theorem dX8_init_218 : decode cX8_init 218 = .ok (.aload_n 0, 1) := by decide +kernel
theorem dX8_init_219 : decode cX8_init 219 = .ok (.iconst 0, 1) := by decide +kernel
theorem dX8_init_220 : decode cX8_init 220 = .ok (.iconst 2, 1) := by decide +kernel
theorem dX8_init_221 : decode cX8_init 221 = .ok (.invokevirtual 75, 3) := by decide +kernel
theorem dX8_init_224 : decode cX8_init 224 = .ok (.aload_n 0, 1) := by decide +kernel
theorem dX8_init_225 : decode cX8_init 225 = .ok (.iconst 0, 1) := by decide +kernel
theorem dX8_init_226 : decode cX8_init 226 = .ok (.bipush 6, 2) := by decide +kernel
theorem dX8_init_228 : decode cX8_init 228 = .ok (.bipush 7, 2) := by decide +kernel
theorem dX8_init_230 : decode cX8_init 230 = .ok (.bipush 8, 2) := by decide +kernel
theorem dX8_init_232 : decode cX8_init 232 = .ok (.bipush 6, 2) := by decide +kernel
theorem dX8_init_234 : decode cX8_init 234 = .ok (.bipush 7, 2) := by decide +kernel
theorem dX8_init_236 : decode cX8_init 236 = .ok (.invokevirtual 79, 3) := by decide +kernel
theorem dX8_init_239 : decode cX8_init 239 = .ok (.aload_n 0, 1) := by decide +kernel
theorem dX8_init_240 : decode cX8_init 240 = .ok (.iconst 5, 1) := by decide +kernel
theorem dX8_init_241 : decode cX8_init 241 = .ok (.bipush 8, 2) := by decide +kernel
theorem dX8_init_243 : decode cX8_init 243 = .ok (.bipush 7, 2) := by decide +kernel
theorem dX8_init_245 : decode cX8_init 245 = .ok (.bipush 6, 2) := by decide +kernel
theorem dX8_init_247 : decode cX8_init 247 = .ok (.bipush 7, 2) := by decide +kernel
theorem dX8_init_249 : decode cX8_init 249 = .ok (.bipush 11, 2) := by decide +kernel
theorem dX8_init_251 : decode cX8_init 251 = .ok (.invokevirtual 79, 3) := by decide +kernel
theorem dX8_init_254 : decode cX8_init 254 = .ok (.aload_n 0, 1) := by decide +kernel
theorem dX8_init_255 : decode cX8_init 255 = .ok (.bipush 10, 2) := by decide +kernel
theorem dX8_init_257 : decode cX8_init 257 = .ok (.bipush 9, 2) := by decide +kernel
theorem dX8_init_259 : decode cX8_init 259 = .ok (.bipush 10, 2) := by decide +kernel
theorem dX8_init_261 : decode cX8_init 261 = .ok (.bipush 11, 2) := by decide +kernel
theorem dX8_init_263 : decode cX8_init 263 = .ok (.bipush 10, 2) := by decide +kernel
theorem dX8_init_265 : decode cX8_init 265 = .ok (.iconst 0, 1) := by decide +kernel
theorem dX8_init_266 : decode cX8_init 266 = .ok (.invokevirtual 79, 3) := by decide +kernel
theorem dX8_init_269 : decode cX8_init 269 = .ok (.aload_n 0, 1) := by decide +kernel
theorem dX8_init_270 : decode cX8_init 270 = .ok (.iconst 3, 1) := by decide +kernel
theorem dX8_init_271 : decode cX8_init 271 = .ok (.iconst 0, 1) := by decide +kernel
theorem dX8_init_272 : decode cX8_init 272 = .ok (.invokevirtual 75, 3) := by decide +kernel
theorem dX8_init_275 : decode cX8_init 275 = .ok (.aload_n 0, 1) := by decide +kernel
theorem dX8_init_276 : decode cX8_init 276 = .ok (.iconst 0, 1) := by decide +kernel
theorem dX8_init_277 : decode cX8_init 277 = .ok (.iconst 4, 1) := by decide +kernel
theorem dX8_init_278 : decode cX8_init 278 = .ok (.iconst 5, 1) := by decide +kernel
theorem dX8_init_279 : decode cX8_init 279 = .ok (.bipush 6, 2) := by decide +kernel
theorem dX8_init_281 : decode cX8_init 281 = .ok (.ldc 83, 2) := by decide +kernel
theorem dX8_init_283 : decode cX8_init 283 = .ok (.iconst 5, 1) := by decide +kernel
theorem dX8_init_284 : decode cX8_init 284 = .ok (.invokevirtual 79, 3) := by decide +kernel
theorem dX8_init_287 : decode cX8_init 287 = .ok (.aload_n 0, 1) := by decide +kernel
theorem dX8_init_288 : decode cX8_init 288 = .ok (.iconst 5, 1) := by decide +kernel
theorem dX8_init_289 : decode cX8_init 289 = .ok (.bipush 6, 2) := by decide +kernel
theorem dX8_init_291 : decode cX8_init 291 = .ok (.iconst 5, 1) := by decide +kernel
theorem dX8_init_292 : decode cX8_init 292 = .ok (.iconst 4, 1) := by decide +kernel
theorem dX8_init_293 : decode cX8_init 293 = .ok (.iconst 5, 1) := by decide +kernel
theorem dX8_init_294 : decode cX8_init 294 = .ok (.bipush 6, 2) := by decide +kernel
theorem dX8_init_296 : decode cX8_init 296 = .ok (.invokevirtual 79, 3) := by decide +kernel
theorem dX8_init_299 : decode cX8_init 299 = .ok (.aload_n 0, 1) := by decide +kernel
theorem dX8_init_300 : decode cX8_init 300 = .ok (.bipush 10, 2) := by decide +kernel
theorem dX8_init_302 : decode cX8_init 302 = .ok (.ldc 83, 2) := by decide +kernel
theorem dX8_init_304 : decode cX8_init 304 = .ok (.iconst 5, 1) := by decide +kernel
theorem dX8_init_305 : decode cX8_init 305 = .ok (.bipush 6, 2) := by decide +kernel
theorem dX8_init_307 : decode cX8_init 307 = .ok (.iconst 5, 1) := by decide +kernel
theorem dX8_init_308 : decode cX8_init 308 = .ok (.iconst 0, 1) := by decide +kernel
theorem dX8_init_309 : decode cX8_init 309 = .ok (.invokevirtual 79, 3) := by decide +kernel
theorem dX8_init_312 : decode cX8_init 312 = .ok (.aload_n 0, 1) := by decide +kernel
theorem dX8_init_313 : decode cX8_init 313 = .ok (.iconst 3, 1) := by decide +kernel
theorem dX8_init_314 : decode cX8_init 314 = .ok (.iconst 3, 1) := by decide +kernel
theorem dX8_init_315 : decode cX8_init 315 = .ok (.invokevirtual 75, 3) := by decide +kernel
theorem dX8_init_318 : decode cX8_init 318 = .ok (.aload_n 0, 1) := by decide +kernel
theorem dX8_init_319 : decode cX8_init 319 = .ok (.iconst 0, 1) := by decide +kernel
theorem dX8_init_320 : decode cX8_init 320 = .ok (.bipush 7, 2) := by decide +kernel
theorem dX8_init_322 : decode cX8_init 322 = .ok (.bipush 8, 2) := by decide +kernel
theorem dX8_init_324 : decode cX8_init 324 = .ok (.bipush 9, 2) := by decide +kernel
theorem dX8_init_326 : decode cX8_init 326 = .ok (.bipush 7, 2) := by decide +kernel
theorem dX8_init_328 : decode cX8_init 328 = .ok (.bipush 8, 2) := by decide +kernel
theorem dX8_init_330 : decode cX8_init 330 = .ok (.invokevirtual 79, 3) := by decide +kernel
theorem dX8_init_333 : decode cX8_init 333 = .ok (.aload_n 0, 1) := by decide +kernel
theorem dX8_init_334 : decode cX8_init 334 = .ok (.iconst 5, 1) := by decide +kernel
theorem dX8_init_335 : decode cX8_init 335 = .ok (.bipush 9, 2) := by decide +kernel
theorem dX8_init_337 : decode cX8_init 337 = .ok (.bipush 8, 2) := by decide +kernel
theorem dX8_init_339 : decode cX8_init 339 = .ok (.bipush 7, 2) := by decide +kernel
theorem dX8_init_341 : decode cX8_init 341 = .ok (.bipush 8, 2) := by decide +kernel
theorem dX8_init_343 : decode cX8_init 343 = .ok (.bipush 9, 2) := by decide +kernel
theorem dX8_init_345 : decode cX8_init 345 = .ok (.invokevirtual 79, 3) := by decide +kernel
theorem dX8_init_348 : decode cX8_init 348 = .ok (.aload_n 0, 1) := by decide +kernel
theorem dX8_init_349 : decode cX8_init 349 = .ok (.bipush 10, 2) := by decide +kernel
theorem dX8_init_351 : decode cX8_init 351 = .ok (.bipush 7, 2) := by decide +kernel
theorem dX8_init_353 : decode cX8_init 353 = .ok (.bipush 8, 2) := by decide +kernel
theorem dX8_init_355 : decode cX8_init 355 = .ok (.bipush 9, 2) := by decide +kernel
theorem dX8_init_357 : decode cX8_init 357 = .ok (.bipush 8, 2) := by decide +kernel
theorem dX8_init_359 : decode cX8_init 359 = .ok (.iconst 0, 1) := by decide +kernel
theorem dX8_init_360 : decode cX8_init 360 = .ok (.invokevirtual 79, 3) := by decide +kernel
theorem dX8_init_363 : decode cX8_init 363 = .ok (.aload_n 0, 1) := by decide +kernel
theorem dX8_init_364 : decode cX8_init 364 = .ok (.bipush 28, 2) := by decide +kernel
theorem dX8_init_366 : decode cX8_init 366 = .ok (.bipush 28, 2) := by decide +kernel
theorem dX8_init_368 : decode cX8_init 368 = .ok (.invokevirtual 75, 3) := by decide +kernel
theorem dX8_init_371 : decode cX8_init 371 = .ok (.aload_n 0, 1) := by decide +kernel
theorem dX8_init_372 : decode cX8_init 372 = .ok (.iconst 0, 1) := by decide +kernel
theorem dX8_init_373 : decode cX8_init 373 = .ok (.iconst 2, 1) := by decide +kernel
theorem dX8_init_374 : decode cX8_init 374 = .ok (.iconst 2, 1) := by decide +kernel
theorem dX8_init_375 : decode cX8_init 375 = .ok (.iconst 2, 1) := by decide +kernel
theorem dX8_init_376 : decode cX8_init 376 = .ok (.iconst 3, 1) := by decide +kernel
theorem dX8_init_377 : decode cX8_init 377 = .ok (.iconst 3, 1) := by decide +kernel
theorem dX8_init_378 : decode cX8_init 378 = .ok (.invokevirtual 79, 3) := by decide +kernel
theorem dX8_init_381 : decode cX8_init 381 = .ok (.aload_n 0, 1) := by decide +kernel
theorem dX8_init_382 : decode cX8_init 382 = .ok (.iconst 5, 1) := by decide +kernel
theorem dX8_init_383 : decode cX8_init 383 = .ok (.iconst 3, 1) := by decide +kernel
theorem dX8_init_384 : decode cX8_init 384 = .ok (.iconst 2, 1) := by decide +kernel
theorem dX8_init_385 : decode cX8_init 385 = .ok (.iconst 2, 1) := by decide +kernel
theorem dX8_init_386 : decode cX8_init 386 = .ok (.iconst 2, 1) := by decide +kernel
theorem dX8_init_387 : decode cX8_init 387 = .ok (.iconst 3, 1) := by decide +kernel
theorem dX8_init_388 : decode cX8_init 388 = .ok (.invokevirtual 79, 3) := by decide +kernel
theorem dX8_init_391 : decode cX8_init 391 = .ok (.aload_n 0, 1) := by decide +kernel
theorem dX8_init_392 : decode cX8_init 392 = .ok (.bipush 10, 2) := by decide +kernel
theorem dX8_init_394 : decode cX8_init 394 = .ok (.iconst 3, 1) := by decide +kernel
theorem dX8_init_395 : decode cX8_init 395 = .ok (.iconst 3, 1) := by decide +kernel
theorem dX8_init_396 : decode cX8_init 396 = .ok (.iconst 2, 1) := by decide +kernel
theorem dX8_init_397 : decode cX8_init 397 = .ok (.iconst 2, 1) := by decide +kernel
theorem dX8_init_398 : decode cX8_init 398 = .ok (.iconst 0, 1) := by decide +kernel
theorem dX8_init_399 : decode cX8_init 399 = .ok (.invokevirtual 79, 3) := by decide +kernel
theorem dX8_init_402 : decode cX8_init 402 = .ok (.aload_n 0, 1) := by decide +kernel
theorem dX8_init_403 : decode cX8_init 403 = .ok (.getfield 28, 3) := by decide +kernel
theorem dX8_init_406 : decode cX8_init 406 = .ok (.bipush 96, 2) := by decide +kernel
theorem dX8_init_408 : decode cX8_init 408 = .ok (.bipush 12, 2) := by decide +kernel
theorem dX8_init_410 : decode cX8_init 410 = .ok (.iastore, 1) := by decide +kernel
theorem dX8_init_411 : decode cX8_init 411 = .ok (.aload_n 0, 1) := by decide +kernel
theorem dX8_init_412 : decode cX8_init 412 = .ok (.iconst 2, 1) := by decide +kernel
theorem dX8_init_413 : decode cX8_init 413 = .ok (.iconst 3, 1) := by decide +kernel
theorem dX8_init_414 : decode cX8_init 414 = .ok (.iconst 2, 1) := by decide +kernel
theorem dX8_init_415 : decode cX8_init 415 = .ok (.iconst 1, 1) := by decide +kernel
theorem dX8_init_416 : decode cX8_init 416 = .ok (.invokevirtual 84, 3) := by decide +kernel
theorem dX8_init_419 : decode cX8_init 419 = .ok (.aload_n 0, 1) := by decide +kernel
theorem dX8_init_420 : decode cX8_init 420 = .ok (.invokevirtual 88, 3) := by decide +kernel
theorem dX8_init_423 : decode cX8_init 423 = .ok (.return_, 1) := by decide +kernel
theorem dX8_in_0 : decode cX8_in 0 = .ok (.lload_n 0, 1) := by decide +kernel
theorem dX8_in_1 : decode cX8_in 1 = .ok (.lload_n 2, 1) := by decide +kernel
theorem dX8_in_2 : decode cX8_in 2 = .ok (.lcmp, 1) := by decide +kernel
theorem dX8_in_3 : decode cX8_in 3 = .ok (.ifCond .lt 14, 3) := by decide +kernel
theorem dX8_in_6 : decode cX8_in 6 = .ok (.lload_n 0, 1) := by decide +kernel
theorem dX8_in_7 : decode cX8_in 7 = .ok (.lload 4, 2) := by decide +kernel
theorem dX8_in_9 : decode cX8_in 9 = .ok (.lcmp, 1) := by decide +kernel
theorem dX8_in_10 : decode cX8_in 10 = .ok (.ifCond .gt 7, 3) := by decide +kernel
theorem dX8_in_13 : decode cX8_in 13 = .ok (.iconst 1, 1) := by decide +kernel
theorem dX8_in_14 : decode cX8_in 14 = .ok (.goto 4, 3) := by decide +kernel
theorem dX8_in_17 : decode cX8_in 17 = .ok (.iconst 0, 1) := by decide +kernel
theorem dX8_in_18 : decode cX8_in 18 = .ok (.ireturn, 1) := by decide +kernel
theorem dX8_has_0 : decode cX8_has 0 = .ok (.iload_n 0, 1) := by decide +kernel
theorem dX8_has_1 : decode cX8_has 1 = .ok (.iload_n 1, 1) := by decide +kernel
theorem dX8_has_2 : decode cX8_has 2 = .ok (.ishr, 1) := by decide +kernel
theorem dX8_has_3 : decode cX8_has 3 = .ok (.iconst 1, 1) := by decide +kernel
theorem dX8_has_4 : decode cX8_has 4 = .ok (.iand, 1) := by decide +kernel
theorem dX8_has_5 : decode cX8_has 5 = .ok (.iconst 1, 1) := by decide +kernel
theorem dX8_has_6 : decode cX8_has 6 = .ok (.if_icmp .ne 7, 3) := by decide +kernel
theorem dX8_has_9 : decode cX8_has 9 = .ok (.iconst 1, 1) := by decide +kernel
theorem dX8_has_10 : decode cX8_has 10 = .ok (.goto 4, 3) := by decide +kernel
theorem dX8_has_13 : decode cX8_has 13 = .ok (.iconst 0, 1) := by decide +kernel
theorem dX8_has_14 : decode cX8_has 14 = .ok (.ireturn, 1) := by decide +kernel
theorem dX8_empty_0 : decode cX8_empty 0 = .ok (.aload_n 0, 1) := by decide +kernel
theorem dX8_empty_1 : decode cX8_empty 1 = .ok (.iconst 0, 1) := by decide +kernel
theorem dX8_empty_2 : decode cX8_empty 2 = .ok (.putfield 91, 3) := by decide +kernel
theorem dX8_empty_5 : decode cX8_empty 5 = .ok (.aload_n 0, 1) := by decide +kernel
theorem dX8_empty_6 : decode cX8_empty 6 = .ok (.iconst 0, 1) := by decide +kernel
theorem dX8_empty_7 : decode cX8_empty 7 = .ok (.putfield 71, 3) := by decide +kernel
theorem dX8_empty_10 : decode cX8_empty 10 = .ok (.iconst 0, 1) := by decide +kernel
theorem dX8_empty_11 : decode cX8_empty 11 = .ok (.istore_n 1, 1) := by decide +kernel
theorem dX8_empty_12 : decode cX8_empty 12 = .ok (.iload_n 1, 1) := by decide +kernel
theorem dX8_empty_13 : decode cX8_empty 13 = .ok (.bipush 96, 2) := by decide +kernel
theorem dX8_empty_15 : decode cX8_empty 15 = .ok (.if_icmp .ge 17, 3) := by decide +kernel
theorem dX8_empty_18 : decode cX8_empty 18 = .ok (.aload_n 0, 1) := by decide +kernel
theorem dX8_empty_19 : decode cX8_empty 19 = .ok (.getfield 28, 3) := by decide +kernel
theorem dX8_empty_22 : decode cX8_empty 22 = .ok (.iload_n 1, 1) := by decide +kernel
theorem dX8_empty_23 : decode cX8_empty 23 = .ok (.ldc 83, 2) := by decide +kernel
theorem dX8_empty_25 : decode cX8_empty 25 = .ok (.iastore, 1) := by decide +kernel
theorem dX8_empty_26 : decode cX8_empty 26 = .ok (.iinc 1 1, 3) := by decide +kernel
theorem dX8_empty_29 : decode cX8_empty 29 = .ok (.goto (-17), 3) := by decide +kernel
theorem dX8_empty_32 : decode cX8_empty 32 = .ok (.aload_n 0, 1) := by decide +kernel
theorem dX8_empty_33 : decode cX8_empty 33 = .ok (.getfield 28, 3) := by decide +kernel
theorem dX8_empty_36 : decode cX8_empty 36 = .ok (.bipush 96, 2) := by decide +kernel
theorem dX8_empty_38 : decode cX8_empty 38 = .ok (.bipush 20, 2) := by decide +kernel
theorem dX8_empty_40 : decode cX8_empty 40 = .ok (.iastore, 1) := by decide +kernel
theorem dX8_empty_41 : decode cX8_empty 41 = .ok (.aload_n 0, 1) := by decide +kernel
theorem dX8_empty_42 : decode cX8_empty 42 = .ok (.iconst 2, 1) := by decide +kernel
theorem dX8_empty_43 : decode cX8_empty 43 = .ok (.iconst 3, 1) := by decide +kernel
theorem dX8_empty_44 : decode cX8_empty 44 = .ok (.iconst 2, 1) := by decide +kernel
theorem dX8_empty_45 : decode cX8_empty 45 = .ok (.iconst 0, 1) := by decide +kernel
theorem dX8_empty_46 : decode cX8_empty 46 = .ok (.invokevirtual 84, 3) := by decide +kernel
theorem dX8_empty_49 : decode cX8_empty 49 = .ok (.aload_n 0, 1) := by decide +kernel
theorem dX8_empty_50 : decode cX8_empty 50 = .ok (.getfield 28, 3) := by decide +kernel
theorem dX8_empty_53 : decode cX8_empty 53 = .ok (.bipush 101, 2) := by decide +kernel
theorem dX8_empty_55 : decode cX8_empty 55 = .ok (.iconst 0, 1) := by decide +kernel
theorem dX8_empty_56 : decode cX8_empty 56 = .ok (.iastore, 1) := by decide +kernel
theorem dX8_empty_57 : decode cX8_empty 57 = .ok (.return_, 1) := by decide +kernel
theorem dX8_rulesAre_0 : decode cX8_rulesAre 0 = .ok (.aload_n 0, 1) := by decide +kernel
theorem dX8_rulesAre_1 : decode cX8_rulesAre 1 = .ok (.getfield 28, 3) := by decide +kernel
theorem dX8_rulesAre_4 : decode cX8_rulesAre 4 = .ok (.bipush 97, 2) := by decide +kernel
theorem dX8_rulesAre_6 : decode cX8_rulesAre 6 = .ok (.iload_n 1, 1) := by decide +kernel
theorem dX8_rulesAre_7 : decode cX8_rulesAre 7 = .ok (.iastore, 1) := by decide +kernel
theorem dX8_rulesAre_8 : decode cX8_rulesAre 8 = .ok (.aload_n 0, 1) := by decide +kernel
theorem dX8_rulesAre_9 : decode cX8_rulesAre 9 = .ok (.getfield 28, 3) := by decide +kernel
theorem dX8_rulesAre_12 : decode cX8_rulesAre 12 = .ok (.bipush 98, 2) := by decide +kernel
theorem dX8_rulesAre_14 : decode cX8_rulesAre 14 = .ok (.iload_n 2, 1) := by decide +kernel
theorem dX8_rulesAre_15 : decode cX8_rulesAre 15 = .ok (.iastore, 1) := by decide +kernel
theorem dX8_rulesAre_16 : decode cX8_rulesAre 16 = .ok (.aload_n 0, 1) := by decide +kernel
theorem dX8_rulesAre_17 : decode cX8_rulesAre 17 = .ok (.getfield 28, 3) := by decide +kernel
theorem dX8_rulesAre_20 : decode cX8_rulesAre 20 = .ok (.bipush 99, 2) := by decide +kernel
theorem dX8_rulesAre_22 : decode cX8_rulesAre 22 = .ok (.iload_n 3, 1) := by decide +kernel
theorem dX8_rulesAre_23 : decode cX8_rulesAre 23 = .ok (.iastore, 1) := by decide +kernel
theorem dX8_rulesAre_24 : decode cX8_rulesAre 24 = .ok (.aload_n 0, 1) := by decide +kernel
theorem dX8_rulesAre_25 : decode cX8_rulesAre 25 = .ok (.getfield 28, 3) := by decide +kernel
theorem dX8_rulesAre_28 : decode cX8_rulesAre 28 = .ok (.bipush 100, 2) := by decide +kernel
theorem dX8_rulesAre_30 : decode cX8_rulesAre 30 = .ok (.iload 4, 2) := by decide +kernel
theorem dX8_rulesAre_32 : decode cX8_rulesAre 32 = .ok (.iastore, 1) := by decide +kernel
theorem dX8_rulesAre_33 : decode cX8_rulesAre 33 = .ok (.return_, 1) := by decide +kernel
theorem dX8_stationIs_0 : decode cX8_stationIs 0 = .ok (.aload_n 0, 1) := by decide +kernel
theorem dX8_stationIs_1 : decode cX8_stationIs 1 = .ok (.getfield 22, 3) := by decide +kernel
theorem dX8_stationIs_4 : decode cX8_stationIs 4 = .ok (.aload_n 0, 1) := by decide +kernel
theorem dX8_stationIs_5 : decode cX8_stationIs 5 = .ok (.getfield 91, 3) := by decide +kernel
theorem dX8_stationIs_8 : decode cX8_stationIs 8 = .ok (.iload_n 1, 1) := by decide +kernel
theorem dX8_stationIs_9 : decode cX8_stationIs 9 = .ok (.iastore, 1) := by decide +kernel
theorem dX8_stationIs_10 : decode cX8_stationIs 10 = .ok (.aload_n 0, 1) := by decide +kernel
theorem dX8_stationIs_11 : decode cX8_stationIs 11 = .ok (.getfield 25, 3) := by decide +kernel
theorem dX8_stationIs_14 : decode cX8_stationIs 14 = .ok (.aload_n 0, 1) := by decide +kernel
theorem dX8_stationIs_15 : decode cX8_stationIs 15 = .ok (.getfield 91, 3) := by decide +kernel
theorem dX8_stationIs_18 : decode cX8_stationIs 18 = .ok (.iload_n 2, 1) := by decide +kernel
theorem dX8_stationIs_19 : decode cX8_stationIs 19 = .ok (.iastore, 1) := by decide +kernel
theorem dX8_stationIs_20 : decode cX8_stationIs 20 = .ok (.aload_n 0, 1) := by decide +kernel
theorem dX8_stationIs_21 : decode cX8_stationIs 21 = .ok (.dup, 1) := by decide +kernel
theorem dX8_stationIs_22 : decode cX8_stationIs 22 = .ok (.getfield 91, 3) := by decide +kernel
theorem dX8_stationIs_25 : decode cX8_stationIs 25 = .ok (.iconst 1, 1) := by decide +kernel
theorem dX8_stationIs_26 : decode cX8_stationIs 26 = .ok (.iadd, 1) := by decide +kernel
theorem dX8_stationIs_27 : decode cX8_stationIs 27 = .ok (.putfield 91, 3) := by decide +kernel
theorem dX8_stationIs_30 : decode cX8_stationIs 30 = .ok (.return_, 1) := by decide +kernel
theorem dX8_valuesAre_0 : decode cX8_valuesAre 0 = .ok (.bipush 16, 2) := by decide +kernel
theorem dX8_valuesAre_2 : decode cX8_valuesAre 2 = .ok (.aload_n 0, 1) := by decide +kernel
theorem dX8_valuesAre_3 : decode cX8_valuesAre 3 = .ok (.getfield 91, 3) := by decide +kernel
theorem dX8_valuesAre_6 : decode cX8_valuesAre 6 = .ok (.iconst 1, 1) := by decide +kernel
theorem dX8_valuesAre_7 : decode cX8_valuesAre 7 = .ok (.isub, 1) := by decide +kernel
theorem dX8_valuesAre_8 : decode cX8_valuesAre 8 = .ok (.imul, 1) := by decide +kernel
theorem dX8_valuesAre_9 : decode cX8_valuesAre 9 = .ok (.iload_n 1, 1) := by decide +kernel
theorem dX8_valuesAre_10 : decode cX8_valuesAre 10 = .ok (.iadd, 1) := by decide +kernel
theorem dX8_valuesAre_11 : decode cX8_valuesAre 11 = .ok (.istore 7, 2) := by decide +kernel
theorem dX8_valuesAre_13 : decode cX8_valuesAre 13 = .ok (.aload_n 0, 1) := by decide +kernel
theorem dX8_valuesAre_14 : decode cX8_valuesAre 14 = .ok (.getfield 28, 3) := by decide +kernel
theorem dX8_valuesAre_17 : decode cX8_valuesAre 17 = .ok (.iload 7, 2) := by decide +kernel
theorem dX8_valuesAre_19 : decode cX8_valuesAre 19 = .ok (.iload_n 2, 1) := by decide +kernel
theorem dX8_valuesAre_20 : decode cX8_valuesAre 20 = .ok (.iastore, 1) := by decide +kernel
theorem dX8_valuesAre_21 : decode cX8_valuesAre 21 = .ok (.aload_n 0, 1) := by decide +kernel
theorem dX8_valuesAre_22 : decode cX8_valuesAre 22 = .ok (.getfield 28, 3) := by decide +kernel
theorem dX8_valuesAre_25 : decode cX8_valuesAre 25 = .ok (.iload 7, 2) := by decide +kernel
theorem dX8_valuesAre_27 : decode cX8_valuesAre 27 = .ok (.iconst 1, 1) := by decide +kernel
theorem dX8_valuesAre_28 : decode cX8_valuesAre 28 = .ok (.iadd, 1) := by decide +kernel
theorem dX8_valuesAre_29 : decode cX8_valuesAre 29 = .ok (.iload_n 3, 1) := by decide +kernel
theorem dX8_valuesAre_30 : decode cX8_valuesAre 30 = .ok (.iastore, 1) := by decide +kernel
theorem dX8_valuesAre_31 : decode cX8_valuesAre 31 = .ok (.aload_n 0, 1) := by decide +kernel
theorem dX8_valuesAre_32 : decode cX8_valuesAre 32 = .ok (.getfield 28, 3) := by decide +kernel
theorem dX8_valuesAre_35 : decode cX8_valuesAre 35 = .ok (.iload 7, 2) := by decide +kernel
theorem dX8_valuesAre_37 : decode cX8_valuesAre 37 = .ok (.iconst 2, 1) := by decide +kernel
theorem dX8_valuesAre_38 : decode cX8_valuesAre 38 = .ok (.iadd, 1) := by decide +kernel
theorem dX8_valuesAre_39 : decode cX8_valuesAre 39 = .ok (.iload 4, 2) := by decide +kernel
theorem dX8_valuesAre_41 : decode cX8_valuesAre 41 = .ok (.iastore, 1) := by decide +kernel
theorem dX8_valuesAre_42 : decode cX8_valuesAre 42 = .ok (.aload_n 0, 1) := by decide +kernel
theorem dX8_valuesAre_43 : decode cX8_valuesAre 43 = .ok (.getfield 28, 3) := by decide +kernel
theorem dX8_valuesAre_46 : decode cX8_valuesAre 46 = .ok (.iload 7, 2) := by decide +kernel
theorem dX8_valuesAre_48 : decode cX8_valuesAre 48 = .ok (.iconst 3, 1) := by decide +kernel
theorem dX8_valuesAre_49 : decode cX8_valuesAre 49 = .ok (.iadd, 1) := by decide +kernel
theorem dX8_valuesAre_50 : decode cX8_valuesAre 50 = .ok (.iload 5, 2) := by decide +kernel
theorem dX8_valuesAre_52 : decode cX8_valuesAre 52 = .ok (.iastore, 1) := by decide +kernel
theorem dX8_valuesAre_53 : decode cX8_valuesAre 53 = .ok (.iload_n 1, 1) := by decide +kernel
theorem dX8_valuesAre_54 : decode cX8_valuesAre 54 = .ok (.bipush 10, 2) := by decide +kernel
theorem dX8_valuesAre_56 : decode cX8_valuesAre 56 = .ok (.if_icmp .ge 14, 3) := by decide +kernel
theorem dX8_valuesAre_59 : decode cX8_valuesAre 59 = .ok (.aload_n 0, 1) := by decide +kernel
theorem dX8_valuesAre_60 : decode cX8_valuesAre 60 = .ok (.getfield 28, 3) := by decide +kernel
theorem dX8_valuesAre_63 : decode cX8_valuesAre 63 = .ok (.iload 7, 2) := by decide +kernel
theorem dX8_valuesAre_65 : decode cX8_valuesAre 65 = .ok (.iconst 4, 1) := by decide +kernel
theorem dX8_valuesAre_66 : decode cX8_valuesAre 66 = .ok (.iadd, 1) := by decide +kernel
theorem dX8_valuesAre_67 : decode cX8_valuesAre 67 = .ok (.iload 6, 2) := by decide +kernel
theorem dX8_valuesAre_69 : decode cX8_valuesAre 69 = .ok (.iastore, 1) := by decide +kernel
theorem dX8_valuesAre_70 : decode cX8_valuesAre 70 = .ok (.return_, 1) := by decide +kernel
theorem dX8_write_0 : decode cX8_write 0 = .ok (.iload_n 1, 1) := by decide +kernel
theorem dX8_write_1 : decode cX8_write 1 = .ok (.i2l, 1) := by decide +kernel
theorem dX8_write_2 : decode cX8_write 2 = .ok (.ldc2_w 94, 3) := by decide +kernel
theorem dX8_write_5 : decode cX8_write 5 = .ok (.ldc2_w 96, 3) := by decide +kernel
theorem dX8_write_8 : decode cX8_write 8 = .ok (.invokestatic 98, 3) := by decide +kernel
theorem dX8_write_11 : decode cX8_write 11 = .ok (.ifCond .ne 5, 3) := by decide +kernel
theorem dX8_write_14 : decode cX8_write 14 = .ok (.iconst (-1), 1) := by decide +kernel
theorem dX8_write_15 : decode cX8_write 15 = .ok (.ireturn, 1) := by decide +kernel
theorem dX8_write_16 : decode cX8_write 16 = .ok (.aload_n 0, 1) := by decide +kernel
theorem dX8_write_17 : decode cX8_write 17 = .ok (.getfield 102, 3) := by decide +kernel
theorem dX8_write_20 : decode cX8_write 20 = .ok (.sipush 200, 3) := by decide +kernel
theorem dX8_write_23 : decode cX8_write 23 = .ok (.if_icmp .ne 6, 3) := by decide +kernel
theorem dX8_write_26 : decode cX8_write 26 = .ok (.bipush (-3), 2) := by decide +kernel
theorem dX8_write_28 : decode cX8_write 28 = .ok (.ireturn, 1) := by decide +kernel
theorem dX8_write_29 : decode cX8_write 29 = .ok (.aload_n 0, 1) := by decide +kernel
theorem dX8_write_30 : decode cX8_write 30 = .ok (.getfield 7, 3) := by decide +kernel
theorem dX8_write_33 : decode cX8_write 33 = .ok (.aload_n 0, 1) := by decide +kernel
theorem dX8_write_34 : decode cX8_write 34 = .ok (.getfield 102, 3) := by decide +kernel
theorem dX8_write_37 : decode cX8_write 37 = .ok (.iload_n 1, 1) := by decide +kernel
theorem dX8_write_38 : decode cX8_write 38 = .ok (.iastore, 1) := by decide +kernel
theorem dX8_write_39 : decode cX8_write 39 = .ok (.aload_n 0, 1) := by decide +kernel
theorem dX8_write_40 : decode cX8_write 40 = .ok (.dup, 1) := by decide +kernel
theorem dX8_write_41 : decode cX8_write 41 = .ok (.getfield 102, 3) := by decide +kernel
theorem dX8_write_44 : decode cX8_write 44 = .ok (.iconst 1, 1) := by decide +kernel
theorem dX8_write_45 : decode cX8_write 45 = .ok (.iadd, 1) := by decide +kernel
theorem dX8_write_46 : decode cX8_write 46 = .ok (.putfield 102, 3) := by decide +kernel
theorem dX8_write_49 : decode cX8_write 49 = .ok (.aload_n 0, 1) := by decide +kernel
theorem dX8_write_50 : decode cX8_write 50 = .ok (.getfield 102, 3) := by decide +kernel
theorem dX8_write_53 : decode cX8_write 53 = .ok (.ireturn, 1) := by decide +kernel
theorem dX8_wipe_0 : decode cX8_wipe 0 = .ok (.aload_n 0, 1) := by decide +kernel
theorem dX8_wipe_1 : decode cX8_wipe 1 = .ok (.getfield 102, 3) := by decide +kernel
theorem dX8_wipe_4 : decode cX8_wipe 4 = .ok (.istore_n 1, 1) := by decide +kernel
theorem dX8_wipe_5 : decode cX8_wipe 5 = .ok (.aload_n 0, 1) := by decide +kernel
theorem dX8_wipe_6 : decode cX8_wipe 6 = .ok (.iconst 0, 1) := by decide +kernel
theorem dX8_wipe_7 : decode cX8_wipe 7 = .ok (.putfield 102, 3) := by decide +kernel
theorem dX8_wipe_10 : decode cX8_wipe 10 = .ok (.iload_n 1, 1) := by decide +kernel
theorem dX8_wipe_11 : decode cX8_wipe 11 = .ok (.ireturn, 1) := by decide +kernel
theorem dX8_letterAt_0 : decode cX8_letterAt 0 = .ok (.iload_n 1, 1) := by decide +kernel
theorem dX8_letterAt_1 : decode cX8_letterAt 1 = .ok (.aload_n 0, 1) := by decide +kernel
theorem dX8_letterAt_2 : decode cX8_letterAt 2 = .ok (.getfield 102, 3) := by decide +kernel
theorem dX8_letterAt_5 : decode cX8_letterAt 5 = .ok (.if_icmp .ge 12, 3) := by decide +kernel
theorem dX8_letterAt_8 : decode cX8_letterAt 8 = .ok (.aload_n 0, 1) := by decide +kernel
theorem dX8_letterAt_9 : decode cX8_letterAt 9 = .ok (.getfield 7, 3) := by decide +kernel
theorem dX8_letterAt_12 : decode cX8_letterAt 12 = .ok (.iload_n 1, 1) := by decide +kernel
theorem dX8_letterAt_13 : decode cX8_letterAt 13 = .ok (.iaload, 1) := by decide +kernel
theorem dX8_letterAt_14 : decode cX8_letterAt 14 = .ok (.goto 4, 3) := by decide +kernel
theorem dX8_letterAt_17 : decode cX8_letterAt 17 = .ok (.iconst 0, 1) := by decide +kernel
theorem dX8_letterAt_18 : decode cX8_letterAt 18 = .ok (.ireturn, 1) := by decide +kernel
theorem dX8_sign_0 : decode cX8_sign 0 = .ok (.aload_n 0, 1) := by decide +kernel
theorem dX8_sign_1 : decode cX8_sign 1 = .ok (.aload_n 0, 1) := by decide +kernel
theorem dX8_sign_2 : decode cX8_sign 2 = .ok (.getfield 105, 3) := by decide +kernel
theorem dX8_sign_5 : decode cX8_sign 5 = .ok (.invokevirtual 108, 3) := by decide +kernel
theorem dX8_sign_8 : decode cX8_sign 8 = .ok (.istore_n 3, 1) := by decide +kernel
theorem dX8_sign_9 : decode cX8_sign 9 = .ok (.iload_n 3, 1) := by decide +kernel
theorem dX8_sign_10 : decode cX8_sign 10 = .ok (.i2l, 1) := by decide +kernel
theorem dX8_sign_11 : decode cX8_sign 11 = .ok (.ldc2_w 112, 3) := by decide +kernel
theorem dX8_sign_14 : decode cX8_sign 14 = .ok (.ldc2_w 114, 3) := by decide +kernel
theorem dX8_sign_17 : decode cX8_sign 17 = .ok (.invokestatic 98, 3) := by decide +kernel
theorem dX8_sign_20 : decode cX8_sign 20 = .ok (.ifCond .eq 10, 3) := by decide +kernel
theorem dX8_sign_23 : decode cX8_sign 23 = .ok (.iload_n 3, 1) := by decide +kernel
theorem dX8_sign_24 : decode cX8_sign 24 = .ok (.bipush 48, 2) := by decide +kernel
theorem dX8_sign_26 : decode cX8_sign 26 = .ok (.isub, 1) := by decide +kernel
theorem dX8_sign_27 : decode cX8_sign 27 = .ok (.goto 25, 3) := by decide +kernel
theorem dX8_sign_30 : decode cX8_sign 30 = .ok (.iload_n 3, 1) := by decide +kernel
theorem dX8_sign_31 : decode cX8_sign 31 = .ok (.i2l, 1) := by decide +kernel
theorem dX8_sign_32 : decode cX8_sign 32 = .ok (.ldc2_w 116, 3) := by decide +kernel
theorem dX8_sign_35 : decode cX8_sign 35 = .ok (.ldc2_w 118, 3) := by decide +kernel
theorem dX8_sign_38 : decode cX8_sign 38 = .ok (.invokestatic 98, 3) := by decide +kernel
theorem dX8_sign_41 : decode cX8_sign 41 = .ok (.ifCond .eq 10, 3) := by decide +kernel
theorem dX8_sign_44 : decode cX8_sign 44 = .ok (.iload_n 3, 1) := by decide +kernel
theorem dX8_sign_45 : decode cX8_sign 45 = .ok (.bipush 87, 2) := by decide +kernel
theorem dX8_sign_47 : decode cX8_sign 47 = .ok (.isub, 1) := by decide +kernel
theorem dX8_sign_48 : decode cX8_sign 48 = .ok (.goto 4, 3) := by decide +kernel
theorem dX8_sign_51 : decode cX8_sign 51 = .ok (.iconst (-1), 1) := by decide +kernel
theorem dX8_sign_52 : decode cX8_sign 52 = .ok (.istore 4, 2) := by decide +kernel
theorem dX8_sign_54 : decode cX8_sign 54 = .ok (.iload 4, 2) := by decide +kernel
theorem dX8_sign_56 : decode cX8_sign 56 = .ok (.i2l, 1) := by decide +kernel
theorem dX8_sign_57 : decode cX8_sign 57 = .ok (.iload_n 1, 1) := by decide +kernel
theorem dX8_sign_58 : decode cX8_sign 58 = .ok (.i2l, 1) := by decide +kernel
theorem dX8_sign_59 : decode cX8_sign 59 = .ok (.iload_n 2, 1) := by decide +kernel
theorem dX8_sign_60 : decode cX8_sign 60 = .ok (.i2l, 1) := by decide +kernel
theorem dX8_sign_61 : decode cX8_sign 61 = .ok (.invokestatic 98, 3) := by decide +kernel
theorem dX8_sign_64 : decode cX8_sign 64 = .ok (.ifCond .ne 6, 3) := by decide +kernel
theorem dX8_sign_67 : decode cX8_sign 67 = .ok (.bipush (-4), 2) := by decide +kernel
theorem dX8_sign_69 : decode cX8_sign 69 = .ok (.ireturn, 1) := by decide +kernel
theorem dX8_sign_70 : decode cX8_sign 70 = .ok (.aload_n 0, 1) := by decide +kernel
theorem dX8_sign_71 : decode cX8_sign 71 = .ok (.dup, 1) := by decide +kernel
theorem dX8_sign_72 : decode cX8_sign 72 = .ok (.getfield 105, 3) := by decide +kernel
theorem dX8_sign_75 : decode cX8_sign 75 = .ok (.iconst 1, 1) := by decide +kernel
theorem dX8_sign_76 : decode cX8_sign 76 = .ok (.iadd, 1) := by decide +kernel
theorem dX8_sign_77 : decode cX8_sign 77 = .ok (.putfield 105, 3) := by decide +kernel
theorem dX8_sign_80 : decode cX8_sign 80 = .ok (.iload 4, 2) := by decide +kernel
theorem dX8_sign_82 : decode cX8_sign 82 = .ok (.ireturn, 1) := by decide +kernel
theorem dX8_ends_0 : decode cX8_ends 0 = .ok (.aload_n 0, 1) := by decide +kernel
theorem dX8_ends_1 : decode cX8_ends 1 = .ok (.dup, 1) := by decide +kernel
theorem dX8_ends_2 : decode cX8_ends 2 = .ok (.getfield 105, 3) := by decide +kernel
theorem dX8_ends_5 : decode cX8_ends 5 = .ok (.iconst 1, 1) := by decide +kernel
theorem dX8_ends_6 : decode cX8_ends 6 = .ok (.iadd, 1) := by decide +kernel
theorem dX8_ends_7 : decode cX8_ends 7 = .ok (.putfield 105, 3) := by decide +kernel
theorem dX8_ends_10 : decode cX8_ends 10 = .ok (.aload_n 0, 1) := by decide +kernel
theorem dX8_ends_11 : decode cX8_ends 11 = .ok (.aload_n 0, 1) := by decide +kernel
theorem dX8_ends_12 : decode cX8_ends 12 = .ok (.getfield 105, 3) := by decide +kernel
theorem dX8_ends_15 : decode cX8_ends 15 = .ok (.iconst 1, 1) := by decide +kernel
theorem dX8_ends_16 : decode cX8_ends 16 = .ok (.isub, 1) := by decide +kernel
theorem dX8_ends_17 : decode cX8_ends 17 = .ok (.invokevirtual 108, 3) := by decide +kernel
theorem dX8_ends_20 : decode cX8_ends 20 = .ok (.bipush 59, 2) := by decide +kernel
theorem dX8_ends_22 : decode cX8_ends 22 = .ok (.if_icmp .ne 7, 3) := by decide +kernel
theorem dX8_ends_25 : decode cX8_ends 25 = .ok (.iconst 1, 1) := by decide +kernel
theorem dX8_ends_26 : decode cX8_ends 26 = .ok (.goto 4, 3) := by decide +kernel
theorem dX8_ends_29 : decode cX8_ends 29 = .ok (.iconst 0, 1) := by decide +kernel
theorem dX8_ends_30 : decode cX8_ends 30 = .ok (.ireturn, 1) := by decide +kernel
theorem dX8_yearsItem_0 : decode cX8_yearsItem 0 = .ok (.aload_n 0, 1) := by decide +kernel
theorem dX8_yearsItem_1 : decode cX8_yearsItem 1 = .ok (.aload_n 0, 1) := by decide +kernel
theorem dX8_yearsItem_2 : decode cX8_yearsItem 2 = .ok (.iconst 4, 1) := by decide +kernel
theorem dX8_yearsItem_3 : decode cX8_yearsItem 3 = .ok (.bipush 16, 2) := by decide +kernel
theorem dX8_yearsItem_5 : decode cX8_yearsItem 5 = .ok (.invokevirtual 120, 3) := by decide +kernel
theorem dX8_yearsItem_8 : decode cX8_yearsItem 8 = .ok (.putfield 71, 3) := by decide +kernel
theorem dX8_yearsItem_11 : decode cX8_yearsItem 11 = .ok (.aload_n 0, 1) := by decide +kernel
theorem dX8_yearsItem_12 : decode cX8_yearsItem 12 = .ok (.getfield 71, 3) := by decide +kernel
theorem dX8_yearsItem_15 : decode cX8_yearsItem 15 = .ok (.bipush (-4), 2) := by decide +kernel
theorem dX8_yearsItem_17 : decode cX8_yearsItem 17 = .ok (.if_icmp .eq 14, 3) := by decide +kernel
theorem dX8_yearsItem_20 : decode cX8_yearsItem 20 = .ok (.aload_n 0, 1) := by decide +kernel
theorem dX8_yearsItem_21 : decode cX8_yearsItem 21 = .ok (.invokevirtual 124, 3) := by decide +kernel
theorem dX8_yearsItem_24 : decode cX8_yearsItem 24 = .ok (.ifCond .eq 7, 3) := by decide +kernel
theorem dX8_yearsItem_27 : decode cX8_yearsItem 27 = .ok (.iconst 1, 1) := by decide +kernel
theorem dX8_yearsItem_28 : decode cX8_yearsItem 28 = .ok (.goto 4, 3) := by decide +kernel
theorem dX8_yearsItem_31 : decode cX8_yearsItem 31 = .ok (.iconst 0, 1) := by decide +kernel
theorem dX8_yearsItem_32 : decode cX8_yearsItem 32 = .ok (.ireturn, 1) := by decide +kernel
theorem dX8_stationItem_0 : decode cX8_stationItem 0 = .ok (.aload_n 0, 1) := by decide +kernel
theorem dX8_stationItem_1 : decode cX8_stationItem 1 = .ok (.iconst 0, 1) := by decide +kernel
theorem dX8_stationItem_2 : decode cX8_stationItem 2 = .ok (.bipush 28, 2) := by decide +kernel
theorem dX8_stationItem_4 : decode cX8_stationItem 4 = .ok (.invokevirtual 120, 3) := by decide +kernel
theorem dX8_stationItem_7 : decode cX8_stationItem 7 = .ok (.istore_n 1, 1) := by decide +kernel
theorem dX8_stationItem_8 : decode cX8_stationItem 8 = .ok (.iload_n 1, 1) := by decide +kernel
theorem dX8_stationItem_9 : decode cX8_stationItem 9 = .ok (.bipush (-4), 2) := by decide +kernel
theorem dX8_stationItem_11 : decode cX8_stationItem 11 = .ok (.if_icmp .ne 8, 3) := by decide +kernel
theorem dX8_stationItem_14 : decode cX8_stationItem 14 = .ok (.bipush (-4), 2) := by decide +kernel
theorem dX8_stationItem_16 : decode cX8_stationItem 16 = .ok (.goto 10, 3) := by decide +kernel
theorem dX8_stationItem_19 : decode cX8_stationItem 19 = .ok (.aload_n 0, 1) := by decide +kernel
theorem dX8_stationItem_20 : decode cX8_stationItem 20 = .ok (.iconst 0, 1) := by decide +kernel
theorem dX8_stationItem_21 : decode cX8_stationItem 21 = .ok (.bipush 28, 2) := by decide +kernel
theorem dX8_stationItem_23 : decode cX8_stationItem 23 = .ok (.invokevirtual 120, 3) := by decide +kernel
theorem dX8_stationItem_26 : decode cX8_stationItem 26 = .ok (.istore_n 2, 1) := by decide +kernel
theorem dX8_stationItem_27 : decode cX8_stationItem 27 = .ok (.iload_n 2, 1) := by decide +kernel
theorem dX8_stationItem_28 : decode cX8_stationItem 28 = .ok (.bipush (-4), 2) := by decide +kernel
theorem dX8_stationItem_30 : decode cX8_stationItem 30 = .ok (.if_icmp .eq 12, 3) := by decide +kernel
theorem dX8_stationItem_33 : decode cX8_stationItem 33 = .ok (.aload_n 0, 1) := by decide +kernel
theorem dX8_stationItem_34 : decode cX8_stationItem 34 = .ok (.getfield 91, 3) := by decide +kernel
theorem dX8_stationItem_37 : decode cX8_stationItem 37 = .ok (.bipush 6, 2) := by decide +kernel
theorem dX8_stationItem_39 : decode cX8_stationItem 39 = .ok (.if_icmp .ne 5, 3) := by decide +kernel
theorem dX8_stationItem_42 : decode cX8_stationItem 42 = .ok (.iconst 0, 1) := by decide +kernel
theorem dX8_stationItem_43 : decode cX8_stationItem 43 = .ok (.ireturn, 1) := by decide +kernel
theorem dX8_stationItem_44 : decode cX8_stationItem 44 = .ok (.aload_n 0, 1) := by decide +kernel
theorem dX8_stationItem_45 : decode cX8_stationItem 45 = .ok (.iload_n 1, 1) := by decide +kernel
theorem dX8_stationItem_46 : decode cX8_stationItem 46 = .ok (.iload_n 2, 1) := by decide +kernel
theorem dX8_stationItem_47 : decode cX8_stationItem 47 = .ok (.invokevirtual 75, 3) := by decide +kernel
theorem dX8_stationItem_50 : decode cX8_stationItem 50 = .ok (.iconst 0, 1) := by decide +kernel
theorem dX8_stationItem_51 : decode cX8_stationItem 51 = .ok (.istore_n 3, 1) := by decide +kernel
theorem dX8_stationItem_52 : decode cX8_stationItem 52 = .ok (.iload_n 3, 1) := by decide +kernel
theorem dX8_stationItem_53 : decode cX8_stationItem 53 = .ok (.aload_n 0, 1) := by decide +kernel
theorem dX8_stationItem_54 : decode cX8_stationItem 54 = .ok (.getfield 71, 3) := by decide +kernel
theorem dX8_stationItem_57 : decode cX8_stationItem 57 = .ok (.if_icmp .ge 75, 3) := by decide +kernel
theorem dX8_stationItem_60 : decode cX8_stationItem 60 = .ok (.ldc 83, 2) := by decide +kernel
theorem dX8_stationItem_62 : decode cX8_stationItem 62 = .ok (.istore 4, 2) := by decide +kernel
theorem dX8_stationItem_64 : decode cX8_stationItem 64 = .ok (.aload_n 0, 1) := by decide +kernel
theorem dX8_stationItem_65 : decode cX8_stationItem 65 = .ok (.aload_n 0, 1) := by decide +kernel
theorem dX8_stationItem_66 : decode cX8_stationItem 66 = .ok (.getfield 105, 3) := by decide +kernel
theorem dX8_stationItem_69 : decode cX8_stationItem 69 = .ok (.invokevirtual 108, 3) := by decide +kernel
theorem dX8_stationItem_72 : decode cX8_stationItem 72 = .ok (.bipush 46, 2) := by decide +kernel
theorem dX8_stationItem_74 : decode cX8_stationItem 74 = .ok (.if_icmp .ne 16, 3) := by decide +kernel
theorem dX8_stationItem_77 : decode cX8_stationItem 77 = .ok (.aload_n 0, 1) := by decide +kernel
theorem dX8_stationItem_78 : decode cX8_stationItem 78 = .ok (.dup, 1) := by decide +kernel
theorem dX8_stationItem_79 : decode cX8_stationItem 79 = .ok (.getfield 105, 3) := by decide +kernel
theorem dX8_stationItem_82 : decode cX8_stationItem 82 = .ok (.iconst 1, 1) := by decide +kernel
theorem dX8_stationItem_83 : decode cX8_stationItem 83 = .ok (.iadd, 1) := by decide +kernel
theorem dX8_stationItem_84 : decode cX8_stationItem 84 = .ok (.putfield 105, 3) := by decide +kernel
theorem dX8_stationItem_87 : decode cX8_stationItem 87 = .ok (.goto 12, 3) := by decide +kernel
theorem dX8_stationItem_90 : decode cX8_stationItem 90 = .ok (.aload_n 0, 1) := by decide +kernel
theorem dX8_stationItem_91 : decode cX8_stationItem 91 = .ok (.iconst 0, 1) := by decide +kernel
theorem dX8_stationItem_92 : decode cX8_stationItem 92 = .ok (.bipush 28, 2) := by decide +kernel
theorem dX8_stationItem_94 : decode cX8_stationItem 94 = .ok (.invokevirtual 120, 3) := by decide +kernel
theorem dX8_stationItem_97 : decode cX8_stationItem 97 = .ok (.istore 4, 2) := by decide +kernel
theorem dX8_stationItem_99 : decode cX8_stationItem 99 = .ok (.iload 4, 2) := by decide +kernel
theorem dX8_stationItem_101 : decode cX8_stationItem 101 = .ok (.bipush (-4), 2) := by decide +kernel
theorem dX8_stationItem_103 : decode cX8_stationItem 103 = .ok (.if_icmp .ne 5, 3) := by decide +kernel
theorem dX8_stationItem_106 : decode cX8_stationItem 106 = .ok (.iconst 0, 1) := by decide +kernel
theorem dX8_stationItem_107 : decode cX8_stationItem 107 = .ok (.ireturn, 1) := by decide +kernel
theorem dX8_stationItem_108 : decode cX8_stationItem 108 = .ok (.aload_n 0, 1) := by decide +kernel
theorem dX8_stationItem_109 : decode cX8_stationItem 109 = .ok (.getfield 28, 3) := by decide +kernel
theorem dX8_stationItem_112 : decode cX8_stationItem 112 = .ok (.bipush 16, 2) := by decide +kernel
theorem dX8_stationItem_114 : decode cX8_stationItem 114 = .ok (.aload_n 0, 1) := by decide +kernel
theorem dX8_stationItem_115 : decode cX8_stationItem 115 = .ok (.getfield 91, 3) := by decide +kernel
theorem dX8_stationItem_118 : decode cX8_stationItem 118 = .ok (.iconst 1, 1) := by decide +kernel
theorem dX8_stationItem_119 : decode cX8_stationItem 119 = .ok (.isub, 1) := by decide +kernel
theorem dX8_stationItem_120 : decode cX8_stationItem 120 = .ok (.imul, 1) := by decide +kernel
theorem dX8_stationItem_121 : decode cX8_stationItem 121 = .ok (.iload_n 3, 1) := by decide +kernel
theorem dX8_stationItem_122 : decode cX8_stationItem 122 = .ok (.iadd, 1) := by decide +kernel
theorem dX8_stationItem_123 : decode cX8_stationItem 123 = .ok (.iload 4, 2) := by decide +kernel
theorem dX8_stationItem_125 : decode cX8_stationItem 125 = .ok (.iastore, 1) := by decide +kernel
theorem dX8_stationItem_126 : decode cX8_stationItem 126 = .ok (.iinc 3 1, 3) := by decide +kernel
theorem dX8_stationItem_129 : decode cX8_stationItem 129 = .ok (.goto (-77), 3) := by decide +kernel
theorem dX8_stationItem_132 : decode cX8_stationItem 132 = .ok (.aload_n 0, 1) := by decide +kernel
theorem dX8_stationItem_133 : decode cX8_stationItem 133 = .ok (.invokevirtual 124, 3) := by decide +kernel
theorem dX8_stationItem_136 : decode cX8_stationItem 136 = .ok (.ireturn, 1) := by decide +kernel
theorem dX8_penaltyItem_0 : decode cX8_penaltyItem 0 = .ok (.aload_n 0, 1) := by decide +kernel
theorem dX8_penaltyItem_1 : decode cX8_penaltyItem 1 = .ok (.iconst 0, 1) := by decide +kernel
theorem dX8_penaltyItem_2 : decode cX8_penaltyItem 2 = .ok (.bipush 9, 2) := by decide +kernel
theorem dX8_penaltyItem_4 : decode cX8_penaltyItem 4 = .ok (.invokevirtual 120, 3) := by decide +kernel
theorem dX8_penaltyItem_7 : decode cX8_penaltyItem 7 = .ok (.istore_n 1, 1) := by decide +kernel
theorem dX8_penaltyItem_8 : decode cX8_penaltyItem 8 = .ok (.iload_n 1, 1) := by decide +kernel
theorem dX8_penaltyItem_9 : decode cX8_penaltyItem 9 = .ok (.bipush (-4), 2) := by decide +kernel
theorem dX8_penaltyItem_11 : decode cX8_penaltyItem 11 = .ok (.if_icmp .ne 8, 3) := by decide +kernel
theorem dX8_penaltyItem_14 : decode cX8_penaltyItem 14 = .ok (.bipush (-4), 2) := by decide +kernel
theorem dX8_penaltyItem_16 : decode cX8_penaltyItem 16 = .ok (.goto 10, 3) := by decide +kernel
theorem dX8_penaltyItem_19 : decode cX8_penaltyItem 19 = .ok (.aload_n 0, 1) := by decide +kernel
theorem dX8_penaltyItem_20 : decode cX8_penaltyItem 20 = .ok (.iconst 0, 1) := by decide +kernel
theorem dX8_penaltyItem_21 : decode cX8_penaltyItem 21 = .ok (.bipush 9, 2) := by decide +kernel
theorem dX8_penaltyItem_23 : decode cX8_penaltyItem 23 = .ok (.invokevirtual 120, 3) := by decide +kernel
theorem dX8_penaltyItem_26 : decode cX8_penaltyItem 26 = .ok (.istore_n 2, 1) := by decide +kernel
theorem dX8_penaltyItem_27 : decode cX8_penaltyItem 27 = .ok (.iload_n 2, 1) := by decide +kernel
theorem dX8_penaltyItem_28 : decode cX8_penaltyItem 28 = .ok (.bipush (-4), 2) := by decide +kernel
theorem dX8_penaltyItem_30 : decode cX8_penaltyItem 30 = .ok (.if_icmp .ne 5, 3) := by decide +kernel
theorem dX8_penaltyItem_33 : decode cX8_penaltyItem 33 = .ok (.iconst 0, 1) := by decide +kernel
theorem dX8_penaltyItem_34 : decode cX8_penaltyItem 34 = .ok (.ireturn, 1) := by decide +kernel
theorem dX8_penaltyItem_35 : decode cX8_penaltyItem 35 = .ok (.aload_n 0, 1) := by decide +kernel
theorem dX8_penaltyItem_36 : decode cX8_penaltyItem 36 = .ok (.getfield 28, 3) := by decide +kernel
theorem dX8_penaltyItem_39 : decode cX8_penaltyItem 39 = .ok (.bipush 96, 2) := by decide +kernel
theorem dX8_penaltyItem_41 : decode cX8_penaltyItem 41 = .ok (.bipush 10, 2) := by decide +kernel
theorem dX8_penaltyItem_43 : decode cX8_penaltyItem 43 = .ok (.iload_n 1, 1) := by decide +kernel
theorem dX8_penaltyItem_44 : decode cX8_penaltyItem 44 = .ok (.imul, 1) := by decide +kernel
theorem dX8_penaltyItem_45 : decode cX8_penaltyItem 45 = .ok (.iload_n 2, 1) := by decide +kernel
theorem dX8_penaltyItem_46 : decode cX8_penaltyItem 46 = .ok (.iadd, 1) := by decide +kernel
theorem dX8_penaltyItem_47 : decode cX8_penaltyItem 47 = .ok (.iastore, 1) := by decide +kernel
theorem dX8_penaltyItem_48 : decode cX8_penaltyItem 48 = .ok (.aload_n 0, 1) := by decide +kernel
theorem dX8_penaltyItem_49 : decode cX8_penaltyItem 49 = .ok (.invokevirtual 124, 3) := by decide +kernel
theorem dX8_penaltyItem_52 : decode cX8_penaltyItem 52 = .ok (.ireturn, 1) := by decide +kernel
theorem dX8_rulesItem_0 : decode cX8_rulesItem 0 = .ok (.aload_n 0, 1) := by decide +kernel
theorem dX8_rulesItem_1 : decode cX8_rulesItem 1 = .ok (.iconst 1, 1) := by decide +kernel
theorem dX8_rulesItem_2 : decode cX8_rulesItem 2 = .ok (.iconst 4, 1) := by decide +kernel
theorem dX8_rulesItem_3 : decode cX8_rulesItem 3 = .ok (.invokevirtual 120, 3) := by decide +kernel
theorem dX8_rulesItem_6 : decode cX8_rulesItem 6 = .ok (.istore_n 1, 1) := by decide +kernel
theorem dX8_rulesItem_7 : decode cX8_rulesItem 7 = .ok (.iload_n 1, 1) := by decide +kernel
theorem dX8_rulesItem_8 : decode cX8_rulesItem 8 = .ok (.bipush (-4), 2) := by decide +kernel
theorem dX8_rulesItem_10 : decode cX8_rulesItem 10 = .ok (.if_icmp .ne 8, 3) := by decide +kernel
theorem dX8_rulesItem_13 : decode cX8_rulesItem 13 = .ok (.bipush (-4), 2) := by decide +kernel
theorem dX8_rulesItem_15 : decode cX8_rulesItem 15 = .ok (.goto 9, 3) := by decide +kernel
theorem dX8_rulesItem_18 : decode cX8_rulesItem 18 = .ok (.aload_n 0, 1) := by decide +kernel
theorem dX8_rulesItem_19 : decode cX8_rulesItem 19 = .ok (.iconst 1, 1) := by decide +kernel
theorem dX8_rulesItem_20 : decode cX8_rulesItem 20 = .ok (.iconst 5, 1) := by decide +kernel
theorem dX8_rulesItem_21 : decode cX8_rulesItem 21 = .ok (.invokevirtual 120, 3) := by decide +kernel
theorem dX8_rulesItem_24 : decode cX8_rulesItem 24 = .ok (.istore_n 2, 1) := by decide +kernel
theorem dX8_rulesItem_25 : decode cX8_rulesItem 25 = .ok (.iload_n 2, 1) := by decide +kernel
theorem dX8_rulesItem_26 : decode cX8_rulesItem 26 = .ok (.bipush (-4), 2) := by decide +kernel
theorem dX8_rulesItem_28 : decode cX8_rulesItem 28 = .ok (.if_icmp .ne 8, 3) := by decide +kernel
theorem dX8_rulesItem_31 : decode cX8_rulesItem 31 = .ok (.bipush (-4), 2) := by decide +kernel
theorem dX8_rulesItem_33 : decode cX8_rulesItem 33 = .ok (.goto 9, 3) := by decide +kernel
theorem dX8_rulesItem_36 : decode cX8_rulesItem 36 = .ok (.aload_n 0, 1) := by decide +kernel
theorem dX8_rulesItem_37 : decode cX8_rulesItem 37 = .ok (.iconst 1, 1) := by decide +kernel
theorem dX8_rulesItem_38 : decode cX8_rulesItem 38 = .ok (.iconst 5, 1) := by decide +kernel
theorem dX8_rulesItem_39 : decode cX8_rulesItem 39 = .ok (.invokevirtual 120, 3) := by decide +kernel
theorem dX8_rulesItem_42 : decode cX8_rulesItem 42 = .ok (.istore_n 3, 1) := by decide +kernel
theorem dX8_rulesItem_43 : decode cX8_rulesItem 43 = .ok (.iload_n 3, 1) := by decide +kernel
theorem dX8_rulesItem_44 : decode cX8_rulesItem 44 = .ok (.bipush (-4), 2) := by decide +kernel
theorem dX8_rulesItem_46 : decode cX8_rulesItem 46 = .ok (.if_icmp .ne 8, 3) := by decide +kernel
theorem dX8_rulesItem_49 : decode cX8_rulesItem 49 = .ok (.bipush (-4), 2) := by decide +kernel
theorem dX8_rulesItem_51 : decode cX8_rulesItem 51 = .ok (.goto 9, 3) := by decide +kernel
theorem dX8_rulesItem_54 : decode cX8_rulesItem 54 = .ok (.aload_n 0, 1) := by decide +kernel
theorem dX8_rulesItem_55 : decode cX8_rulesItem 55 = .ok (.iconst 0, 1) := by decide +kernel
theorem dX8_rulesItem_56 : decode cX8_rulesItem 56 = .ok (.iconst 2, 1) := by decide +kernel
theorem dX8_rulesItem_57 : decode cX8_rulesItem 57 = .ok (.invokevirtual 120, 3) := by decide +kernel
theorem dX8_rulesItem_60 : decode cX8_rulesItem 60 = .ok (.istore 4, 2) := by decide +kernel
theorem dX8_rulesItem_62 : decode cX8_rulesItem 62 = .ok (.iload 4, 2) := by decide +kernel
theorem dX8_rulesItem_64 : decode cX8_rulesItem 64 = .ok (.bipush (-4), 2) := by decide +kernel
theorem dX8_rulesItem_66 : decode cX8_rulesItem 66 = .ok (.if_icmp .ne 5, 3) := by decide +kernel
theorem dX8_rulesItem_69 : decode cX8_rulesItem 69 = .ok (.iconst 0, 1) := by decide +kernel
theorem dX8_rulesItem_70 : decode cX8_rulesItem 70 = .ok (.ireturn, 1) := by decide +kernel
theorem dX8_rulesItem_71 : decode cX8_rulesItem 71 = .ok (.aload_n 0, 1) := by decide +kernel
theorem dX8_rulesItem_72 : decode cX8_rulesItem 72 = .ok (.iload_n 1, 1) := by decide +kernel
theorem dX8_rulesItem_73 : decode cX8_rulesItem 73 = .ok (.iload_n 2, 1) := by decide +kernel
theorem dX8_rulesItem_74 : decode cX8_rulesItem 74 = .ok (.iload_n 3, 1) := by decide +kernel
theorem dX8_rulesItem_75 : decode cX8_rulesItem 75 = .ok (.iload 4, 2) := by decide +kernel
theorem dX8_rulesItem_77 : decode cX8_rulesItem 77 = .ok (.invokevirtual 84, 3) := by decide +kernel
theorem dX8_rulesItem_80 : decode cX8_rulesItem 80 = .ok (.aload_n 0, 1) := by decide +kernel
theorem dX8_rulesItem_81 : decode cX8_rulesItem 81 = .ok (.invokevirtual 124, 3) := by decide +kernel
theorem dX8_rulesItem_84 : decode cX8_rulesItem 84 = .ok (.ireturn, 1) := by decide +kernel
theorem dX8_item_0 : decode cX8_item 0 = .ok (.iload_n 1, 1) := by decide +kernel
theorem dX8_item_1 : decode cX8_item 1 = .ok (.bipush 115, 2) := by decide +kernel
theorem dX8_item_3 : decode cX8_item 3 = .ok (.if_icmp .ne 10, 3) := by decide +kernel
theorem dX8_item_6 : decode cX8_item 6 = .ok (.aload_n 0, 1) := by decide +kernel
theorem dX8_item_7 : decode cX8_item 7 = .ok (.invokevirtual 128, 3) := by decide +kernel
theorem dX8_item_10 : decode cX8_item 10 = .ok (.goto 34, 3) := by decide +kernel
theorem dX8_item_13 : decode cX8_item 13 = .ok (.iload_n 1, 1) := by decide +kernel
theorem dX8_item_14 : decode cX8_item 14 = .ok (.bipush 112, 2) := by decide +kernel
theorem dX8_item_16 : decode cX8_item 16 = .ok (.if_icmp .ne 10, 3) := by decide +kernel
theorem dX8_item_19 : decode cX8_item 19 = .ok (.aload_n 0, 1) := by decide +kernel
theorem dX8_item_20 : decode cX8_item 20 = .ok (.invokevirtual 131, 3) := by decide +kernel
theorem dX8_item_23 : decode cX8_item 23 = .ok (.goto 21, 3) := by decide +kernel
theorem dX8_item_26 : decode cX8_item 26 = .ok (.iload_n 1, 1) := by decide +kernel
theorem dX8_item_27 : decode cX8_item 27 = .ok (.bipush 108, 2) := by decide +kernel
theorem dX8_item_29 : decode cX8_item 29 = .ok (.if_icmp .ne 14, 3) := by decide +kernel
theorem dX8_item_32 : decode cX8_item 32 = .ok (.aload_n 0, 1) := by decide +kernel
theorem dX8_item_33 : decode cX8_item 33 = .ok (.invokevirtual 134, 3) := by decide +kernel
theorem dX8_item_36 : decode cX8_item 36 = .ok (.ifCond .eq 7, 3) := by decide +kernel
theorem dX8_item_39 : decode cX8_item 39 = .ok (.iconst 1, 1) := by decide +kernel
theorem dX8_item_40 : decode cX8_item 40 = .ok (.goto 4, 3) := by decide +kernel
theorem dX8_item_43 : decode cX8_item 43 = .ok (.iconst 0, 1) := by decide +kernel
theorem dX8_item_44 : decode cX8_item 44 = .ok (.ireturn, 1) := by decide +kernel
theorem dX8_readAll_0 : decode cX8_readAll 0 = .ok (.aload_n 0, 1) := by decide +kernel
theorem dX8_readAll_1 : decode cX8_readAll 1 = .ok (.invokevirtual 68, 3) := by decide +kernel
theorem dX8_readAll_4 : decode cX8_readAll 4 = .ok (.aload_n 0, 1) := by decide +kernel
theorem dX8_readAll_5 : decode cX8_readAll 5 = .ok (.iconst 0, 1) := by decide +kernel
theorem dX8_readAll_6 : decode cX8_readAll 6 = .ok (.putfield 105, 3) := by decide +kernel
theorem dX8_readAll_9 : decode cX8_readAll 9 = .ok (.aload_n 0, 1) := by decide +kernel
theorem dX8_readAll_10 : decode cX8_readAll 10 = .ok (.getfield 105, 3) := by decide +kernel
theorem dX8_readAll_13 : decode cX8_readAll 13 = .ok (.aload_n 0, 1) := by decide +kernel
theorem dX8_readAll_14 : decode cX8_readAll 14 = .ok (.getfield 102, 3) := by decide +kernel
theorem dX8_readAll_17 : decode cX8_readAll 17 = .ok (.if_icmp .ge 67, 3) := by decide +kernel
theorem dX8_readAll_20 : decode cX8_readAll 20 = .ok (.aload_n 0, 1) := by decide +kernel
theorem dX8_readAll_21 : decode cX8_readAll 21 = .ok (.getfield 105, 3) := by decide +kernel
theorem dX8_readAll_24 : decode cX8_readAll 24 = .ok (.istore_n 1, 1) := by decide +kernel
theorem dX8_readAll_25 : decode cX8_readAll 25 = .ok (.aload_n 0, 1) := by decide +kernel
theorem dX8_readAll_26 : decode cX8_readAll 26 = .ok (.aload_n 0, 1) := by decide +kernel
theorem dX8_readAll_27 : decode cX8_readAll 27 = .ok (.getfield 105, 3) := by decide +kernel
theorem dX8_readAll_30 : decode cX8_readAll 30 = .ok (.invokevirtual 108, 3) := by decide +kernel
theorem dX8_readAll_33 : decode cX8_readAll 33 = .ok (.istore_n 2, 1) := by decide +kernel
theorem dX8_readAll_34 : decode cX8_readAll 34 = .ok (.aload_n 0, 1) := by decide +kernel
theorem dX8_readAll_35 : decode cX8_readAll 35 = .ok (.dup, 1) := by decide +kernel
theorem dX8_readAll_36 : decode cX8_readAll 36 = .ok (.getfield 105, 3) := by decide +kernel
theorem dX8_readAll_39 : decode cX8_readAll 39 = .ok (.iconst 1, 1) := by decide +kernel
theorem dX8_readAll_40 : decode cX8_readAll 40 = .ok (.iadd, 1) := by decide +kernel
theorem dX8_readAll_41 : decode cX8_readAll 41 = .ok (.putfield 105, 3) := by decide +kernel
theorem dX8_readAll_44 : decode cX8_readAll 44 = .ok (.iload_n 1, 1) := by decide +kernel
theorem dX8_readAll_45 : decode cX8_readAll 45 = .ok (.ifCond .ne 24, 3) := by decide +kernel
theorem dX8_readAll_48 : decode cX8_readAll 48 = .ok (.iload_n 2, 1) := by decide +kernel
theorem dX8_readAll_49 : decode cX8_readAll 49 = .ok (.bipush 121, 2) := by decide +kernel
theorem dX8_readAll_51 : decode cX8_readAll 51 = .ok (.if_icmp .ne 14, 3) := by decide +kernel
theorem dX8_readAll_54 : decode cX8_readAll 54 = .ok (.aload_n 0, 1) := by decide +kernel
theorem dX8_readAll_55 : decode cX8_readAll 55 = .ok (.invokevirtual 137, 3) := by decide +kernel
theorem dX8_readAll_58 : decode cX8_readAll 58 = .ok (.ifCond .eq 7, 3) := by decide +kernel
theorem dX8_readAll_61 : decode cX8_readAll 61 = .ok (.iconst 1, 1) := by decide +kernel
theorem dX8_readAll_62 : decode cX8_readAll 62 = .ok (.goto 12, 3) := by decide +kernel
theorem dX8_readAll_65 : decode cX8_readAll 65 = .ok (.iconst 0, 1) := by decide +kernel
theorem dX8_readAll_66 : decode cX8_readAll 66 = .ok (.goto 8, 3) := by decide +kernel
theorem dX8_readAll_69 : decode cX8_readAll 69 = .ok (.aload_n 0, 1) := by decide +kernel
theorem dX8_readAll_70 : decode cX8_readAll 70 = .ok (.iload_n 2, 1) := by decide +kernel
theorem dX8_readAll_71 : decode cX8_readAll 71 = .ok (.invokevirtual 140, 3) := by decide +kernel
theorem dX8_readAll_74 : decode cX8_readAll 74 = .ok (.istore_n 3, 1) := by decide +kernel
theorem dX8_readAll_75 : decode cX8_readAll 75 = .ok (.iload_n 3, 1) := by decide +kernel
theorem dX8_readAll_76 : decode cX8_readAll 76 = .ok (.ifCond .ne 5, 3) := by decide +kernel
theorem dX8_readAll_79 : decode cX8_readAll 79 = .ok (.iload_n 1, 1) := by decide +kernel
theorem dX8_readAll_80 : decode cX8_readAll 80 = .ok (.ireturn, 1) := by decide +kernel
theorem dX8_readAll_81 : decode cX8_readAll 81 = .ok (.goto (-72), 3) := by decide +kernel
theorem dX8_readAll_84 : decode cX8_readAll 84 = .ok (.bipush (-4), 2) := by decide +kernel
theorem dX8_readAll_86 : decode cX8_readAll 86 = .ok (.ireturn, 1) := by decide +kernel
theorem dX8_fault_0 : decode cX8_fault 0 = .ok (.aload_n 0, 1) := by decide +kernel
theorem dX8_fault_1 : decode cX8_fault 1 = .ok (.invokevirtual 144, 3) := by decide +kernel
theorem dX8_fault_4 : decode cX8_fault 4 = .ok (.ireturn, 1) := by decide +kernel
theorem dX8_lay_0 : decode cX8_lay 0 = .ok (.aload_n 0, 1) := by decide +kernel
theorem dX8_lay_1 : decode cX8_lay 1 = .ok (.invokevirtual 144, 3) := by decide +kernel
theorem dX8_lay_4 : decode cX8_lay 4 = .ok (.bipush (-4), 2) := by decide +kernel
theorem dX8_lay_6 : decode cX8_lay 6 = .ok (.if_icmp .ne 11, 3) := by decide +kernel
theorem dX8_lay_9 : decode cX8_lay 9 = .ok (.aload_n 0, 1) := by decide +kernel
theorem dX8_lay_10 : decode cX8_lay 10 = .ok (.getfield 91, 3) := by decide +kernel
theorem dX8_lay_13 : decode cX8_lay 13 = .ok (.iconst 2, 1) := by decide +kernel
theorem dX8_lay_14 : decode cX8_lay 14 = .ok (.if_icmp .ge 6, 3) := by decide +kernel
theorem dX8_lay_17 : decode cX8_lay 17 = .ok (.bipush (-2), 2) := by decide +kernel
theorem dX8_lay_19 : decode cX8_lay 19 = .ok (.ireturn, 1) := by decide +kernel
theorem dX8_lay_20 : decode cX8_lay 20 = .ok (.aload_n 0, 1) := by decide +kernel
theorem dX8_lay_21 : decode cX8_lay 21 = .ok (.invokevirtual 88, 3) := by decide +kernel
theorem dX8_lay_24 : decode cX8_lay 24 = .ok (.aload_n 0, 1) := by decide +kernel
theorem dX8_lay_25 : decode cX8_lay 25 = .ok (.getfield 148, 3) := by decide +kernel
theorem dX8_lay_28 : decode cX8_lay 28 = .ok (.ireturn, 1) := by decide +kernel
theorem dX8_begin_0 : decode cX8_begin 0 = .ok (.aload_n 0, 1) := by decide +kernel
theorem dX8_begin_1 : decode cX8_begin 1 = .ok (.aload_n 0, 1) := by decide +kernel
theorem dX8_begin_2 : decode cX8_begin 2 = .ok (.getfield 91, 3) := by decide +kernel
theorem dX8_begin_5 : decode cX8_begin 5 = .ok (.putfield 148, 3) := by decide +kernel
theorem dX8_begin_8 : decode cX8_begin 8 = .ok (.aload_n 0, 1) := by decide +kernel
theorem dX8_begin_9 : decode cX8_begin 9 = .ok (.aload_n 0, 1) := by decide +kernel
theorem dX8_begin_10 : decode cX8_begin 10 = .ok (.getfield 71, 3) := by decide +kernel
theorem dX8_begin_13 : decode cX8_begin 13 = .ok (.putfield 151, 3) := by decide +kernel
theorem dX8_begin_16 : decode cX8_begin 16 = .ok (.iconst 0, 1) := by decide +kernel
theorem dX8_begin_17 : decode cX8_begin 17 = .ok (.istore_n 1, 1) := by decide +kernel
theorem dX8_begin_18 : decode cX8_begin 18 = .ok (.iload_n 1, 1) := by decide +kernel
theorem dX8_begin_19 : decode cX8_begin 19 = .ok (.bipush 6, 2) := by decide +kernel
theorem dX8_begin_21 : decode cX8_begin 21 = .ok (.if_icmp .ge 33, 3) := by decide +kernel
theorem dX8_begin_24 : decode cX8_begin 24 = .ok (.aload_n 0, 1) := by decide +kernel
theorem dX8_begin_25 : decode cX8_begin 25 = .ok (.getfield 13, 3) := by decide +kernel
theorem dX8_begin_28 : decode cX8_begin 28 = .ok (.iload_n 1, 1) := by decide +kernel
theorem dX8_begin_29 : decode cX8_begin 29 = .ok (.aload_n 0, 1) := by decide +kernel
theorem dX8_begin_30 : decode cX8_begin 30 = .ok (.getfield 22, 3) := by decide +kernel
theorem dX8_begin_33 : decode cX8_begin 33 = .ok (.iload_n 1, 1) := by decide +kernel
theorem dX8_begin_34 : decode cX8_begin 34 = .ok (.iaload, 1) := by decide +kernel
theorem dX8_begin_35 : decode cX8_begin 35 = .ok (.iastore, 1) := by decide +kernel
theorem dX8_begin_36 : decode cX8_begin 36 = .ok (.aload_n 0, 1) := by decide +kernel
theorem dX8_begin_37 : decode cX8_begin 37 = .ok (.getfield 16, 3) := by decide +kernel
theorem dX8_begin_40 : decode cX8_begin 40 = .ok (.iload_n 1, 1) := by decide +kernel
theorem dX8_begin_41 : decode cX8_begin 41 = .ok (.aload_n 0, 1) := by decide +kernel
theorem dX8_begin_42 : decode cX8_begin 42 = .ok (.getfield 25, 3) := by decide +kernel
theorem dX8_begin_45 : decode cX8_begin 45 = .ok (.iload_n 1, 1) := by decide +kernel
theorem dX8_begin_46 : decode cX8_begin 46 = .ok (.iaload, 1) := by decide +kernel
theorem dX8_begin_47 : decode cX8_begin 47 = .ok (.iastore, 1) := by decide +kernel
theorem dX8_begin_48 : decode cX8_begin 48 = .ok (.iinc 1 1, 3) := by decide +kernel
theorem dX8_begin_51 : decode cX8_begin 51 = .ok (.goto (-33), 3) := by decide +kernel
theorem dX8_begin_54 : decode cX8_begin 54 = .ok (.iconst 0, 1) := by decide +kernel
theorem dX8_begin_55 : decode cX8_begin 55 = .ok (.istore_n 1, 1) := by decide +kernel
theorem dX8_begin_56 : decode cX8_begin 56 = .ok (.iload_n 1, 1) := by decide +kernel
theorem dX8_begin_57 : decode cX8_begin 57 = .ok (.bipush 102, 2) := by decide +kernel
theorem dX8_begin_59 : decode cX8_begin 59 = .ok (.if_icmp .ge 21, 3) := by decide +kernel
theorem dX8_begin_62 : decode cX8_begin 62 = .ok (.aload_n 0, 1) := by decide +kernel
theorem dX8_begin_63 : decode cX8_begin 63 = .ok (.getfield 19, 3) := by decide +kernel
theorem dX8_begin_66 : decode cX8_begin 66 = .ok (.iload_n 1, 1) := by decide +kernel
theorem dX8_begin_67 : decode cX8_begin 67 = .ok (.aload_n 0, 1) := by decide +kernel
theorem dX8_begin_68 : decode cX8_begin 68 = .ok (.getfield 28, 3) := by decide +kernel
theorem dX8_begin_71 : decode cX8_begin 71 = .ok (.iload_n 1, 1) := by decide +kernel
theorem dX8_begin_72 : decode cX8_begin 72 = .ok (.iaload, 1) := by decide +kernel
theorem dX8_begin_73 : decode cX8_begin 73 = .ok (.iastore, 1) := by decide +kernel
theorem dX8_begin_74 : decode cX8_begin 74 = .ok (.iinc 1 1, 3) := by decide +kernel
theorem dX8_begin_77 : decode cX8_begin 77 = .ok (.goto (-21), 3) := by decide +kernel
theorem dX8_begin_80 : decode cX8_begin 80 = .ok (.aload_n 0, 1) := by decide +kernel
theorem dX8_begin_81 : decode cX8_begin 81 = .ok (.iconst 0, 1) := by decide +kernel
theorem dX8_begin_82 : decode cX8_begin 82 = .ok (.putfield 154, 3) := by decide +kernel
theorem dX8_begin_85 : decode cX8_begin 85 = .ok (.aload_n 0, 1) := by decide +kernel
theorem dX8_begin_86 : decode cX8_begin 86 = .ok (.iconst 0, 1) := by decide +kernel
theorem dX8_begin_87 : decode cX8_begin 87 = .ok (.putfield 157, 3) := by decide +kernel
theorem dX8_begin_90 : decode cX8_begin 90 = .ok (.return_, 1) := by decide +kernel
theorem dX8_isStation_0 : decode cX8_isStation 0 = .ok (.iload_n 1, 1) := by decide +kernel
theorem dX8_isStation_1 : decode cX8_isStation 1 = .ok (.i2l, 1) := by decide +kernel
theorem dX8_isStation_2 : decode cX8_isStation 2 = .ok (.lconst 0, 1) := by decide +kernel
theorem dX8_isStation_3 : decode cX8_isStation 3 = .ok (.aload_n 0, 1) := by decide +kernel
theorem dX8_isStation_4 : decode cX8_isStation 4 = .ok (.getfield 148, 3) := by decide +kernel
theorem dX8_isStation_7 : decode cX8_isStation 7 = .ok (.iconst 1, 1) := by decide +kernel
theorem dX8_isStation_8 : decode cX8_isStation 8 = .ok (.isub, 1) := by decide +kernel
theorem dX8_isStation_9 : decode cX8_isStation 9 = .ok (.i2l, 1) := by decide +kernel
theorem dX8_isStation_10 : decode cX8_isStation 10 = .ok (.invokestatic 98, 3) := by decide +kernel
theorem dX8_isStation_13 : decode cX8_isStation 13 = .ok (.ireturn, 1) := by decide +kernel
theorem dX8_isYear_0 : decode cX8_isYear 0 = .ok (.iload_n 1, 1) := by decide +kernel
theorem dX8_isYear_1 : decode cX8_isYear 1 = .ok (.i2l, 1) := by decide +kernel
theorem dX8_isYear_2 : decode cX8_isYear 2 = .ok (.lconst 0, 1) := by decide +kernel
theorem dX8_isYear_3 : decode cX8_isYear 3 = .ok (.aload_n 0, 1) := by decide +kernel
theorem dX8_isYear_4 : decode cX8_isYear 4 = .ok (.getfield 151, 3) := by decide +kernel
theorem dX8_isYear_7 : decode cX8_isYear 7 = .ok (.iconst 1, 1) := by decide +kernel
theorem dX8_isYear_8 : decode cX8_isYear 8 = .ok (.isub, 1) := by decide +kernel
theorem dX8_isYear_9 : decode cX8_isYear 9 = .ok (.i2l, 1) := by decide +kernel
theorem dX8_isYear_10 : decode cX8_isYear 10 = .ok (.invokestatic 98, 3) := by decide +kernel
theorem dX8_isYear_13 : decode cX8_isYear 13 = .ok (.ireturn, 1) := by decide +kernel
theorem dX8_areTwo_0 : decode cX8_areTwo 0 = .ok (.aload_n 0, 1) := by decide +kernel
theorem dX8_areTwo_1 : decode cX8_areTwo 1 = .ok (.iload_n 1, 1) := by decide +kernel
theorem dX8_areTwo_2 : decode cX8_areTwo 2 = .ok (.invokevirtual 161, 3) := by decide +kernel
theorem dX8_areTwo_5 : decode cX8_areTwo 5 = .ok (.ifCond .eq 20, 3) := by decide +kernel
theorem dX8_areTwo_8 : decode cX8_areTwo 8 = .ok (.aload_n 0, 1) := by decide +kernel
theorem dX8_areTwo_9 : decode cX8_areTwo 9 = .ok (.iload_n 2, 1) := by decide +kernel
theorem dX8_areTwo_10 : decode cX8_areTwo 10 = .ok (.invokevirtual 161, 3) := by decide +kernel
theorem dX8_areTwo_13 : decode cX8_areTwo 13 = .ok (.ifCond .eq 12, 3) := by decide +kernel
theorem dX8_areTwo_16 : decode cX8_areTwo 16 = .ok (.iload_n 1, 1) := by decide +kernel
theorem dX8_areTwo_17 : decode cX8_areTwo 17 = .ok (.iload_n 2, 1) := by decide +kernel
theorem dX8_areTwo_18 : decode cX8_areTwo 18 = .ok (.if_icmp .eq 7, 3) := by decide +kernel
theorem dX8_areTwo_21 : decode cX8_areTwo 21 = .ok (.iconst 1, 1) := by decide +kernel
theorem dX8_areTwo_22 : decode cX8_areTwo 22 = .ok (.goto 4, 3) := by decide +kernel
theorem dX8_areTwo_25 : decode cX8_areTwo 25 = .ok (.iconst 0, 1) := by decide +kernel
theorem dX8_areTwo_26 : decode cX8_areTwo 26 = .ok (.ireturn, 1) := by decide +kernel
theorem dX8_valueOf_0 : decode cX8_valueOf 0 = .ok (.aload_n 0, 1) := by decide +kernel
theorem dX8_valueOf_1 : decode cX8_valueOf 1 = .ok (.getfield 19, 3) := by decide +kernel
theorem dX8_valueOf_4 : decode cX8_valueOf 4 = .ok (.bipush 16, 2) := by decide +kernel
theorem dX8_valueOf_6 : decode cX8_valueOf 6 = .ok (.iload_n 1, 1) := by decide +kernel
theorem dX8_valueOf_7 : decode cX8_valueOf 7 = .ok (.imul, 1) := by decide +kernel
theorem dX8_valueOf_8 : decode cX8_valueOf 8 = .ok (.iload_n 2, 1) := by decide +kernel
theorem dX8_valueOf_9 : decode cX8_valueOf 9 = .ok (.iadd, 1) := by decide +kernel
theorem dX8_valueOf_10 : decode cX8_valueOf 10 = .ok (.iaload, 1) := by decide +kernel
theorem dX8_valueOf_11 : decode cX8_valueOf 11 = .ok (.ireturn, 1) := by decide +kernel
theorem dX8_isThere_0 : decode cX8_isThere 0 = .ok (.aload_n 0, 1) := by decide +kernel
theorem dX8_isThere_1 : decode cX8_isThere 1 = .ok (.iload_n 1, 1) := by decide +kernel
theorem dX8_isThere_2 : decode cX8_isThere 2 = .ok (.iload_n 2, 1) := by decide +kernel
theorem dX8_isThere_3 : decode cX8_isThere 3 = .ok (.invokevirtual 164, 3) := by decide +kernel
theorem dX8_isThere_6 : decode cX8_isThere 6 = .ok (.ldc 83, 2) := by decide +kernel
theorem dX8_isThere_8 : decode cX8_isThere 8 = .ok (.if_icmp .eq 7, 3) := by decide +kernel
theorem dX8_isThere_11 : decode cX8_isThere 11 = .ok (.iconst 1, 1) := by decide +kernel
theorem dX8_isThere_12 : decode cX8_isThere 12 = .ok (.goto 4, 3) := by decide +kernel
theorem dX8_isThere_15 : decode cX8_isThere 15 = .ok (.iconst 0, 1) := by decide +kernel
theorem dX8_isThere_16 : decode cX8_isThere 16 = .ok (.ireturn, 1) := by decide +kernel
theorem dX8_told_0 : decode cX8_told 0 = .ok (.iload_n 0, 1) := by decide +kernel
theorem dX8_told_1 : decode cX8_told 1 = .ok (.ldc 83, 2) := by decide +kernel
theorem dX8_told_3 : decode cX8_told 3 = .ok (.if_icmp .ne 8, 3) := by decide +kernel
theorem dX8_told_6 : decode cX8_told 6 = .ok (.bipush (-4), 2) := by decide +kernel
theorem dX8_told_8 : decode cX8_told 8 = .ok (.goto 7, 3) := by decide +kernel
theorem dX8_told_11 : decode cX8_told 11 = .ok (.iload_n 0, 1) := by decide +kernel
theorem dX8_told_12 : decode cX8_told 12 = .ok (.ldc 167, 2) := by decide +kernel
theorem dX8_told_14 : decode cX8_told 14 = .ok (.iadd, 1) := by decide +kernel
theorem dX8_told_15 : decode cX8_told 15 = .ok (.ireturn, 1) := by decide +kernel
theorem dX8_note_0 : decode cX8_note 0 = .ok (.aload_n 0, 1) := by decide +kernel
theorem dX8_note_1 : decode cX8_note 1 = .ok (.getfield 154, 3) := by decide +kernel
theorem dX8_note_4 : decode cX8_note 4 = .ok (.bipush 8, 2) := by decide +kernel
theorem dX8_note_6 : decode cX8_note 6 = .ok (.if_icmp .ne 43, 3) := by decide +kernel
theorem dX8_note_9 : decode cX8_note 9 = .ok (.iconst 0, 1) := by decide +kernel
theorem dX8_note_10 : decode cX8_note 10 = .ok (.istore_n 1, 1) := by decide +kernel
theorem dX8_note_11 : decode cX8_note 11 = .ok (.iload_n 1, 1) := by decide +kernel
theorem dX8_note_12 : decode cX8_note 12 = .ok (.sipush 714, 3) := by decide +kernel
theorem dX8_note_15 : decode cX8_note 15 = .ok (.if_icmp .ge 24, 3) := by decide +kernel
theorem dX8_note_18 : decode cX8_note 18 = .ok (.aload_n 0, 1) := by decide +kernel
theorem dX8_note_19 : decode cX8_note 19 = .ok (.getfield 31, 3) := by decide +kernel
theorem dX8_note_22 : decode cX8_note 22 = .ok (.iload_n 1, 1) := by decide +kernel
theorem dX8_note_23 : decode cX8_note 23 = .ok (.aload_n 0, 1) := by decide +kernel
theorem dX8_note_24 : decode cX8_note 24 = .ok (.getfield 31, 3) := by decide +kernel
theorem dX8_note_27 : decode cX8_note 27 = .ok (.bipush 102, 2) := by decide +kernel
theorem dX8_note_29 : decode cX8_note 29 = .ok (.iload_n 1, 1) := by decide +kernel
theorem dX8_note_30 : decode cX8_note 30 = .ok (.iadd, 1) := by decide +kernel
theorem dX8_note_31 : decode cX8_note 31 = .ok (.iaload, 1) := by decide +kernel
theorem dX8_note_32 : decode cX8_note 32 = .ok (.iastore, 1) := by decide +kernel
theorem dX8_note_33 : decode cX8_note 33 = .ok (.iinc 1 1, 3) := by decide +kernel
theorem dX8_note_36 : decode cX8_note 36 = .ok (.goto (-25), 3) := by decide +kernel
theorem dX8_note_39 : decode cX8_note 39 = .ok (.aload_n 0, 1) := by decide +kernel
theorem dX8_note_40 : decode cX8_note 40 = .ok (.dup, 1) := by decide +kernel
theorem dX8_note_41 : decode cX8_note 41 = .ok (.getfield 154, 3) := by decide +kernel
theorem dX8_note_44 : decode cX8_note 44 = .ok (.iconst 1, 1) := by decide +kernel
theorem dX8_note_45 : decode cX8_note 45 = .ok (.isub, 1) := by decide +kernel
theorem dX8_note_46 : decode cX8_note 46 = .ok (.putfield 154, 3) := by decide +kernel
theorem dX8_note_49 : decode cX8_note 49 = .ok (.iconst 0, 1) := by decide +kernel
theorem dX8_note_50 : decode cX8_note 50 = .ok (.istore_n 1, 1) := by decide +kernel
theorem dX8_note_51 : decode cX8_note 51 = .ok (.iload_n 1, 1) := by decide +kernel
theorem dX8_note_52 : decode cX8_note 52 = .ok (.bipush 102, 2) := by decide +kernel
theorem dX8_note_54 : decode cX8_note 54 = .ok (.if_icmp .ge 29, 3) := by decide +kernel
theorem dX8_note_57 : decode cX8_note 57 = .ok (.aload_n 0, 1) := by decide +kernel
theorem dX8_note_58 : decode cX8_note 58 = .ok (.getfield 31, 3) := by decide +kernel
theorem dX8_note_61 : decode cX8_note 61 = .ok (.bipush 102, 2) := by decide +kernel
theorem dX8_note_63 : decode cX8_note 63 = .ok (.aload_n 0, 1) := by decide +kernel
theorem dX8_note_64 : decode cX8_note 64 = .ok (.getfield 154, 3) := by decide +kernel
theorem dX8_note_67 : decode cX8_note 67 = .ok (.imul, 1) := by decide +kernel
theorem dX8_note_68 : decode cX8_note 68 = .ok (.iload_n 1, 1) := by decide +kernel
theorem dX8_note_69 : decode cX8_note 69 = .ok (.iadd, 1) := by decide +kernel
theorem dX8_note_70 : decode cX8_note 70 = .ok (.aload_n 0, 1) := by decide +kernel
theorem dX8_note_71 : decode cX8_note 71 = .ok (.getfield 19, 3) := by decide +kernel
theorem dX8_note_74 : decode cX8_note 74 = .ok (.iload_n 1, 1) := by decide +kernel
theorem dX8_note_75 : decode cX8_note 75 = .ok (.iaload, 1) := by decide +kernel
theorem dX8_note_76 : decode cX8_note 76 = .ok (.iastore, 1) := by decide +kernel
theorem dX8_note_77 : decode cX8_note 77 = .ok (.iinc 1 1, 3) := by decide +kernel
theorem dX8_note_80 : decode cX8_note 80 = .ok (.goto (-29), 3) := by decide +kernel
theorem dX8_note_83 : decode cX8_note 83 = .ok (.aload_n 0, 1) := by decide +kernel
theorem dX8_note_84 : decode cX8_note 84 = .ok (.dup, 1) := by decide +kernel
theorem dX8_note_85 : decode cX8_note 85 = .ok (.getfield 154, 3) := by decide +kernel
theorem dX8_note_88 : decode cX8_note 88 = .ok (.iconst 1, 1) := by decide +kernel
theorem dX8_note_89 : decode cX8_note 89 = .ok (.iadd, 1) := by decide +kernel
theorem dX8_note_90 : decode cX8_note 90 = .ok (.putfield 154, 3) := by decide +kernel
theorem dX8_note_93 : decode cX8_note 93 = .ok (.aload_n 0, 1) := by decide +kernel
theorem dX8_note_94 : decode cX8_note 94 = .ok (.iconst 0, 1) := by decide +kernel
theorem dX8_note_95 : decode cX8_note 95 = .ok (.putfield 157, 3) := by decide +kernel
theorem dX8_note_98 : decode cX8_note 98 = .ok (.return_, 1) := by decide +kernel
theorem dX8_change_0 : decode cX8_change 0 = .ok (.aload_n 0, 1) := by decide +kernel
theorem dX8_change_1 : decode cX8_change 1 = .ok (.getfield 19, 3) := by decide +kernel
theorem dX8_change_4 : decode cX8_change 4 = .ok (.iload_n 1, 1) := by decide +kernel
theorem dX8_change_5 : decode cX8_change 5 = .ok (.iaload, 1) := by decide +kernel
theorem dX8_change_6 : decode cX8_change 6 = .ok (.istore_n 3, 1) := by decide +kernel
theorem dX8_change_7 : decode cX8_change 7 = .ok (.aload_n 0, 1) := by decide +kernel
theorem dX8_change_8 : decode cX8_change 8 = .ok (.invokevirtual 168, 3) := by decide +kernel
theorem dX8_change_11 : decode cX8_change 11 = .ok (.aload_n 0, 1) := by decide +kernel
theorem dX8_change_12 : decode cX8_change 12 = .ok (.getfield 19, 3) := by decide +kernel
theorem dX8_change_15 : decode cX8_change 15 = .ok (.iload_n 1, 1) := by decide +kernel
theorem dX8_change_16 : decode cX8_change 16 = .ok (.iload_n 2, 1) := by decide +kernel
theorem dX8_change_17 : decode cX8_change 17 = .ok (.iastore, 1) := by decide +kernel
theorem dX8_change_18 : decode cX8_change 18 = .ok (.iload_n 3, 1) := by decide +kernel
theorem dX8_change_19 : decode cX8_change 19 = .ok (.ireturn, 1) := by decide +kernel
theorem dX8_value_0 : decode cX8_value 0 = .ok (.aload_n 0, 1) := by decide +kernel
theorem dX8_value_1 : decode cX8_value 1 = .ok (.iload_n 1, 1) := by decide +kernel
theorem dX8_value_2 : decode cX8_value 2 = .ok (.invokevirtual 161, 3) := by decide +kernel
theorem dX8_value_5 : decode cX8_value 5 = .ok (.ifCond .eq 23, 3) := by decide +kernel
theorem dX8_value_8 : decode cX8_value 8 = .ok (.aload_n 0, 1) := by decide +kernel
theorem dX8_value_9 : decode cX8_value 9 = .ok (.iload_n 2, 1) := by decide +kernel
theorem dX8_value_10 : decode cX8_value 10 = .ok (.invokevirtual 171, 3) := by decide +kernel
theorem dX8_value_13 : decode cX8_value 13 = .ok (.ifCond .eq 15, 3) := by decide +kernel
theorem dX8_value_16 : decode cX8_value 16 = .ok (.aload_n 0, 1) := by decide +kernel
theorem dX8_value_17 : decode cX8_value 17 = .ok (.iload_n 1, 1) := by decide +kernel
theorem dX8_value_18 : decode cX8_value 18 = .ok (.iload_n 2, 1) := by decide +kernel
theorem dX8_value_19 : decode cX8_value 19 = .ok (.invokevirtual 164, 3) := by decide +kernel
theorem dX8_value_22 : decode cX8_value 22 = .ok (.invokestatic 174, 3) := by decide +kernel
theorem dX8_value_25 : decode cX8_value 25 = .ok (.goto 4, 3) := by decide +kernel
theorem dX8_value_28 : decode cX8_value 28 = .ok (.iconst (-1), 1) := by decide +kernel
theorem dX8_value_29 : decode cX8_value 29 = .ok (.ireturn, 1) := by decide +kernel
theorem dX8_set_0 : decode cX8_set 0 = .ok (.aload_n 0, 1) := by decide +kernel
theorem dX8_set_1 : decode cX8_set 1 = .ok (.iload_n 1, 1) := by decide +kernel
theorem dX8_set_2 : decode cX8_set 2 = .ok (.invokevirtual 161, 3) := by decide +kernel
theorem dX8_set_5 : decode cX8_set 5 = .ok (.ifCond .eq 25, 3) := by decide +kernel
theorem dX8_set_8 : decode cX8_set 8 = .ok (.aload_n 0, 1) := by decide +kernel
theorem dX8_set_9 : decode cX8_set 9 = .ok (.iload_n 2, 1) := by decide +kernel
theorem dX8_set_10 : decode cX8_set 10 = .ok (.invokevirtual 171, 3) := by decide +kernel
theorem dX8_set_13 : decode cX8_set 13 = .ok (.ifCond .eq 17, 3) := by decide +kernel
theorem dX8_set_16 : decode cX8_set 16 = .ok (.iload_n 3, 1) := by decide +kernel
theorem dX8_set_17 : decode cX8_set 17 = .ok (.i2l, 1) := by decide +kernel
theorem dX8_set_18 : decode cX8_set 18 = .ok (.ldc2_w 177, 3) := by decide +kernel
theorem dX8_set_21 : decode cX8_set 21 = .ok (.ldc2_w 179, 3) := by decide +kernel
theorem dX8_set_24 : decode cX8_set 24 = .ok (.invokestatic 98, 3) := by decide +kernel
theorem dX8_set_27 : decode cX8_set 27 = .ok (.ifCond .ne 5, 3) := by decide +kernel
theorem dX8_set_30 : decode cX8_set 30 = .ok (.iconst (-1), 1) := by decide +kernel
theorem dX8_set_31 : decode cX8_set 31 = .ok (.ireturn, 1) := by decide +kernel
theorem dX8_set_32 : decode cX8_set 32 = .ok (.aload_n 0, 1) := by decide +kernel
theorem dX8_set_33 : decode cX8_set 33 = .ok (.iload_n 1, 1) := by decide +kernel
theorem dX8_set_34 : decode cX8_set 34 = .ok (.iload_n 2, 1) := by decide +kernel
theorem dX8_set_35 : decode cX8_set 35 = .ok (.invokevirtual 164, 3) := by decide +kernel
theorem dX8_set_38 : decode cX8_set 38 = .ok (.iload_n 3, 1) := by decide +kernel
theorem dX8_set_39 : decode cX8_set 39 = .ok (.if_icmp .ne 8, 3) := by decide +kernel
theorem dX8_set_42 : decode cX8_set 42 = .ok (.bipush (-2), 2) := by decide +kernel
theorem dX8_set_44 : decode cX8_set 44 = .ok (.goto 17, 3) := by decide +kernel
theorem dX8_set_47 : decode cX8_set 47 = .ok (.aload_n 0, 1) := by decide +kernel
theorem dX8_set_48 : decode cX8_set 48 = .ok (.bipush 16, 2) := by decide +kernel
theorem dX8_set_50 : decode cX8_set 50 = .ok (.iload_n 1, 1) := by decide +kernel
theorem dX8_set_51 : decode cX8_set 51 = .ok (.imul, 1) := by decide +kernel
theorem dX8_set_52 : decode cX8_set 52 = .ok (.iload_n 2, 1) := by decide +kernel
theorem dX8_set_53 : decode cX8_set 53 = .ok (.iadd, 1) := by decide +kernel
theorem dX8_set_54 : decode cX8_set 54 = .ok (.iload_n 3, 1) := by decide +kernel
theorem dX8_set_55 : decode cX8_set 55 = .ok (.invokevirtual 181, 3) := by decide +kernel
theorem dX8_set_58 : decode cX8_set 58 = .ok (.invokestatic 174, 3) := by decide +kernel
theorem dX8_set_61 : decode cX8_set 61 = .ok (.ireturn, 1) := by decide +kernel
theorem dX8_lose_0 : decode cX8_lose 0 = .ok (.aload_n 0, 1) := by decide +kernel
theorem dX8_lose_1 : decode cX8_lose 1 = .ok (.iload_n 1, 1) := by decide +kernel
theorem dX8_lose_2 : decode cX8_lose 2 = .ok (.invokevirtual 161, 3) := by decide +kernel
theorem dX8_lose_5 : decode cX8_lose 5 = .ok (.ifCond .eq 11, 3) := by decide +kernel
theorem dX8_lose_8 : decode cX8_lose 8 = .ok (.aload_n 0, 1) := by decide +kernel
theorem dX8_lose_9 : decode cX8_lose 9 = .ok (.iload_n 2, 1) := by decide +kernel
theorem dX8_lose_10 : decode cX8_lose 10 = .ok (.invokevirtual 171, 3) := by decide +kernel
theorem dX8_lose_13 : decode cX8_lose 13 = .ok (.ifCond .ne 5, 3) := by decide +kernel
theorem dX8_lose_16 : decode cX8_lose 16 = .ok (.iconst (-1), 1) := by decide +kernel
theorem dX8_lose_17 : decode cX8_lose 17 = .ok (.ireturn, 1) := by decide +kernel
theorem dX8_lose_18 : decode cX8_lose 18 = .ok (.aload_n 0, 1) := by decide +kernel
theorem dX8_lose_19 : decode cX8_lose 19 = .ok (.iload_n 1, 1) := by decide +kernel
theorem dX8_lose_20 : decode cX8_lose 20 = .ok (.iload_n 2, 1) := by decide +kernel
theorem dX8_lose_21 : decode cX8_lose 21 = .ok (.invokevirtual 184, 3) := by decide +kernel
theorem dX8_lose_24 : decode cX8_lose 24 = .ok (.ifCond .eq 21, 3) := by decide +kernel
theorem dX8_lose_27 : decode cX8_lose 27 = .ok (.aload_n 0, 1) := by decide +kernel
theorem dX8_lose_28 : decode cX8_lose 28 = .ok (.bipush 16, 2) := by decide +kernel
theorem dX8_lose_30 : decode cX8_lose 30 = .ok (.iload_n 1, 1) := by decide +kernel
theorem dX8_lose_31 : decode cX8_lose 31 = .ok (.imul, 1) := by decide +kernel
theorem dX8_lose_32 : decode cX8_lose 32 = .ok (.iload_n 2, 1) := by decide +kernel
theorem dX8_lose_33 : decode cX8_lose 33 = .ok (.iadd, 1) := by decide +kernel
theorem dX8_lose_34 : decode cX8_lose 34 = .ok (.ldc 83, 2) := by decide +kernel
theorem dX8_lose_36 : decode cX8_lose 36 = .ok (.invokevirtual 181, 3) := by decide +kernel
theorem dX8_lose_39 : decode cX8_lose 39 = .ok (.invokestatic 174, 3) := by decide +kernel
theorem dX8_lose_42 : decode cX8_lose 42 = .ok (.goto 5, 3) := by decide +kernel
theorem dX8_lose_45 : decode cX8_lose 45 = .ok (.bipush (-2), 2) := by decide +kernel
theorem dX8_lose_47 : decode cX8_lose 47 = .ok (.ireturn, 1) := by decide +kernel
theorem dX8_penalty_0 : decode cX8_penalty 0 = .ok (.iload_n 1, 1) := by decide +kernel
theorem dX8_penalty_1 : decode cX8_penalty 1 = .ok (.i2l, 1) := by decide +kernel
theorem dX8_penalty_2 : decode cX8_penalty 2 = .ok (.lconst 0, 1) := by decide +kernel
theorem dX8_penalty_3 : decode cX8_penalty 3 = .ok (.ldc2_w 188, 3) := by decide +kernel
theorem dX8_penalty_6 : decode cX8_penalty 6 = .ok (.invokestatic 98, 3) := by decide +kernel
theorem dX8_penalty_9 : decode cX8_penalty 9 = .ok (.ifCond .ne 5, 3) := by decide +kernel
theorem dX8_penalty_12 : decode cX8_penalty 12 = .ok (.iconst (-1), 1) := by decide +kernel
theorem dX8_penalty_13 : decode cX8_penalty 13 = .ok (.ireturn, 1) := by decide +kernel
theorem dX8_penalty_14 : decode cX8_penalty 14 = .ok (.aload_n 0, 1) := by decide +kernel
theorem dX8_penalty_15 : decode cX8_penalty 15 = .ok (.getfield 19, 3) := by decide +kernel
theorem dX8_penalty_18 : decode cX8_penalty 18 = .ok (.bipush 96, 2) := by decide +kernel
theorem dX8_penalty_20 : decode cX8_penalty 20 = .ok (.iaload, 1) := by decide +kernel
theorem dX8_penalty_21 : decode cX8_penalty 21 = .ok (.iload_n 1, 1) := by decide +kernel
theorem dX8_penalty_22 : decode cX8_penalty 22 = .ok (.if_icmp .ne 8, 3) := by decide +kernel
theorem dX8_penalty_25 : decode cX8_penalty 25 = .ok (.bipush (-2), 2) := by decide +kernel
theorem dX8_penalty_27 : decode cX8_penalty 27 = .ok (.goto 10, 3) := by decide +kernel
theorem dX8_penalty_30 : decode cX8_penalty 30 = .ok (.aload_n 0, 1) := by decide +kernel
theorem dX8_penalty_31 : decode cX8_penalty 31 = .ok (.bipush 96, 2) := by decide +kernel
theorem dX8_penalty_33 : decode cX8_penalty 33 = .ok (.iload_n 1, 1) := by decide +kernel
theorem dX8_penalty_34 : decode cX8_penalty 34 = .ok (.invokevirtual 181, 3) := by decide +kernel
theorem dX8_penalty_37 : decode cX8_penalty 37 = .ok (.ireturn, 1) := by decide +kernel
theorem dX8_rule_0 : decode cX8_rule 0 = .ok (.iload_n 1, 1) := by decide +kernel
theorem dX8_rule_1 : decode cX8_rule 1 = .ok (.ifCond .ne 15, 3) := by decide +kernel
theorem dX8_rule_4 : decode cX8_rule 4 = .ok (.iload_n 2, 1) := by decide +kernel
theorem dX8_rule_5 : decode cX8_rule 5 = .ok (.i2l, 1) := by decide +kernel
theorem dX8_rule_6 : decode cX8_rule 6 = .ok (.lconst 1, 1) := by decide +kernel
theorem dX8_rule_7 : decode cX8_rule 7 = .ok (.ldc2_w 190, 3) := by decide +kernel
theorem dX8_rule_10 : decode cX8_rule 10 = .ok (.invokestatic 98, 3) := by decide +kernel
theorem dX8_rule_13 : decode cX8_rule 13 = .ok (.goto 49, 3) := by decide +kernel
theorem dX8_rule_16 : decode cX8_rule 16 = .ok (.iload_n 1, 1) := by decide +kernel
theorem dX8_rule_17 : decode cX8_rule 17 = .ok (.i2l, 1) := by decide +kernel
theorem dX8_rule_18 : decode cX8_rule 18 = .ok (.lconst 1, 1) := by decide +kernel
theorem dX8_rule_19 : decode cX8_rule 19 = .ok (.ldc2_w 192, 3) := by decide +kernel
theorem dX8_rule_22 : decode cX8_rule 22 = .ok (.invokestatic 98, 3) := by decide +kernel
theorem dX8_rule_25 : decode cX8_rule 25 = .ok (.ifCond .eq 15, 3) := by decide +kernel
theorem dX8_rule_28 : decode cX8_rule 28 = .ok (.iload_n 2, 1) := by decide +kernel
theorem dX8_rule_29 : decode cX8_rule 29 = .ok (.i2l, 1) := by decide +kernel
theorem dX8_rule_30 : decode cX8_rule 30 = .ok (.lconst 1, 1) := by decide +kernel
theorem dX8_rule_31 : decode cX8_rule 31 = .ok (.ldc2_w 194, 3) := by decide +kernel
theorem dX8_rule_34 : decode cX8_rule 34 = .ok (.invokestatic 98, 3) := by decide +kernel
theorem dX8_rule_37 : decode cX8_rule 37 = .ok (.goto 25, 3) := by decide +kernel
theorem dX8_rule_40 : decode cX8_rule 40 = .ok (.iload_n 1, 1) := by decide +kernel
theorem dX8_rule_41 : decode cX8_rule 41 = .ok (.iconst 3, 1) := by decide +kernel
theorem dX8_rule_42 : decode cX8_rule 42 = .ok (.if_icmp .ne 19, 3) := by decide +kernel
theorem dX8_rule_45 : decode cX8_rule 45 = .ok (.iload_n 2, 1) := by decide +kernel
theorem dX8_rule_46 : decode cX8_rule 46 = .ok (.i2l, 1) := by decide +kernel
theorem dX8_rule_47 : decode cX8_rule 47 = .ok (.lconst 0, 1) := by decide +kernel
theorem dX8_rule_48 : decode cX8_rule 48 = .ok (.ldc2_w 192, 3) := by decide +kernel
theorem dX8_rule_51 : decode cX8_rule 51 = .ok (.invokestatic 98, 3) := by decide +kernel
theorem dX8_rule_54 : decode cX8_rule 54 = .ok (.ifCond .eq 7, 3) := by decide +kernel
theorem dX8_rule_57 : decode cX8_rule 57 = .ok (.iconst 1, 1) := by decide +kernel
theorem dX8_rule_58 : decode cX8_rule 58 = .ok (.goto 4, 3) := by decide +kernel
theorem dX8_rule_61 : decode cX8_rule 61 = .ok (.iconst 0, 1) := by decide +kernel
theorem dX8_rule_62 : decode cX8_rule 62 = .ok (.istore_n 3, 1) := by decide +kernel
theorem dX8_rule_63 : decode cX8_rule 63 = .ok (.iload_n 3, 1) := by decide +kernel
theorem dX8_rule_64 : decode cX8_rule 64 = .ok (.ifCond .ne 5, 3) := by decide +kernel
theorem dX8_rule_67 : decode cX8_rule 67 = .ok (.iconst (-1), 1) := by decide +kernel
theorem dX8_rule_68 : decode cX8_rule 68 = .ok (.ireturn, 1) := by decide +kernel
theorem dX8_rule_69 : decode cX8_rule 69 = .ok (.aload_n 0, 1) := by decide +kernel
theorem dX8_rule_70 : decode cX8_rule 70 = .ok (.getfield 19, 3) := by decide +kernel
theorem dX8_rule_73 : decode cX8_rule 73 = .ok (.bipush 97, 2) := by decide +kernel
theorem dX8_rule_75 : decode cX8_rule 75 = .ok (.iload_n 1, 1) := by decide +kernel
theorem dX8_rule_76 : decode cX8_rule 76 = .ok (.iadd, 1) := by decide +kernel
theorem dX8_rule_77 : decode cX8_rule 77 = .ok (.iaload, 1) := by decide +kernel
theorem dX8_rule_78 : decode cX8_rule 78 = .ok (.iload_n 2, 1) := by decide +kernel
theorem dX8_rule_79 : decode cX8_rule 79 = .ok (.if_icmp .ne 8, 3) := by decide +kernel
theorem dX8_rule_82 : decode cX8_rule 82 = .ok (.bipush (-2), 2) := by decide +kernel
theorem dX8_rule_84 : decode cX8_rule 84 = .ok (.goto 12, 3) := by decide +kernel
theorem dX8_rule_87 : decode cX8_rule 87 = .ok (.aload_n 0, 1) := by decide +kernel
theorem dX8_rule_88 : decode cX8_rule 88 = .ok (.bipush 97, 2) := by decide +kernel
theorem dX8_rule_90 : decode cX8_rule 90 = .ok (.iload_n 1, 1) := by decide +kernel
theorem dX8_rule_91 : decode cX8_rule 91 = .ok (.iadd, 1) := by decide +kernel
theorem dX8_rule_92 : decode cX8_rule 92 = .ok (.iload_n 2, 1) := by decide +kernel
theorem dX8_rule_93 : decode cX8_rule 93 = .ok (.invokevirtual 181, 3) := by decide +kernel
theorem dX8_rule_96 : decode cX8_rule 96 = .ok (.ireturn, 1) := by decide +kernel
theorem dX8_undo_0 : decode cX8_undo 0 = .ok (.aload_n 0, 1) := by decide +kernel
theorem dX8_undo_1 : decode cX8_undo 1 = .ok (.getfield 154, 3) := by decide +kernel
theorem dX8_undo_4 : decode cX8_undo 4 = .ok (.ifCond .ne 6, 3) := by decide +kernel
theorem dX8_undo_7 : decode cX8_undo 7 = .ok (.bipush (-2), 2) := by decide +kernel
theorem dX8_undo_9 : decode cX8_undo 9 = .ok (.ireturn, 1) := by decide +kernel
theorem dX8_undo_10 : decode cX8_undo 10 = .ok (.aload_n 0, 1) := by decide +kernel
theorem dX8_undo_11 : decode cX8_undo 11 = .ok (.dup, 1) := by decide +kernel
theorem dX8_undo_12 : decode cX8_undo 12 = .ok (.getfield 154, 3) := by decide +kernel
theorem dX8_undo_15 : decode cX8_undo 15 = .ok (.iconst 1, 1) := by decide +kernel
theorem dX8_undo_16 : decode cX8_undo 16 = .ok (.isub, 1) := by decide +kernel
theorem dX8_undo_17 : decode cX8_undo 17 = .ok (.putfield 154, 3) := by decide +kernel
theorem dX8_undo_20 : decode cX8_undo 20 = .ok (.iconst 0, 1) := by decide +kernel
theorem dX8_undo_21 : decode cX8_undo 21 = .ok (.istore_n 1, 1) := by decide +kernel
theorem dX8_undo_22 : decode cX8_undo 22 = .ok (.iload_n 1, 1) := by decide +kernel
theorem dX8_undo_23 : decode cX8_undo 23 = .ok (.bipush 102, 2) := by decide +kernel
theorem dX8_undo_25 : decode cX8_undo 25 = .ok (.if_icmp .ge 29, 3) := by decide +kernel
theorem dX8_undo_28 : decode cX8_undo 28 = .ok (.aload_n 0, 1) := by decide +kernel
theorem dX8_undo_29 : decode cX8_undo 29 = .ok (.getfield 19, 3) := by decide +kernel
theorem dX8_undo_32 : decode cX8_undo 32 = .ok (.iload_n 1, 1) := by decide +kernel
theorem dX8_undo_33 : decode cX8_undo 33 = .ok (.aload_n 0, 1) := by decide +kernel
theorem dX8_undo_34 : decode cX8_undo 34 = .ok (.getfield 31, 3) := by decide +kernel
theorem dX8_undo_37 : decode cX8_undo 37 = .ok (.bipush 102, 2) := by decide +kernel
theorem dX8_undo_39 : decode cX8_undo 39 = .ok (.aload_n 0, 1) := by decide +kernel
theorem dX8_undo_40 : decode cX8_undo 40 = .ok (.getfield 154, 3) := by decide +kernel
theorem dX8_undo_43 : decode cX8_undo 43 = .ok (.imul, 1) := by decide +kernel
theorem dX8_undo_44 : decode cX8_undo 44 = .ok (.iload_n 1, 1) := by decide +kernel
theorem dX8_undo_45 : decode cX8_undo 45 = .ok (.iadd, 1) := by decide +kernel
theorem dX8_undo_46 : decode cX8_undo 46 = .ok (.iaload, 1) := by decide +kernel
theorem dX8_undo_47 : decode cX8_undo 47 = .ok (.iastore, 1) := by decide +kernel
theorem dX8_undo_48 : decode cX8_undo 48 = .ok (.iinc 1 1, 3) := by decide +kernel
theorem dX8_undo_51 : decode cX8_undo 51 = .ok (.goto (-29), 3) := by decide +kernel
theorem dX8_undo_54 : decode cX8_undo 54 = .ok (.aload_n 0, 1) := by decide +kernel
theorem dX8_undo_55 : decode cX8_undo 55 = .ok (.iconst 0, 1) := by decide +kernel
theorem dX8_undo_56 : decode cX8_undo 56 = .ok (.putfield 157, 3) := by decide +kernel
theorem dX8_undo_59 : decode cX8_undo 59 = .ok (.aload_n 0, 1) := by decide +kernel
theorem dX8_undo_60 : decode cX8_undo 60 = .ok (.getfield 154, 3) := by decide +kernel
theorem dX8_undo_63 : decode cX8_undo 63 = .ok (.ireturn, 1) := by decide +kernel
theorem dX8_day_0 : decode cX8_day 0 = .ok (.iload_n 1, 1) := by decide +kernel
theorem dX8_day_1 : decode cX8_day 1 = .ok (.i2l, 1) := by decide +kernel
theorem dX8_day_2 : decode cX8_day 2 = .ok (.lconst 0, 1) := by decide +kernel
theorem dX8_day_3 : decode cX8_day 3 = .ok (.ldc2_w 179, 3) := by decide +kernel
theorem dX8_day_6 : decode cX8_day 6 = .ok (.invokestatic 98, 3) := by decide +kernel
theorem dX8_day_9 : decode cX8_day 9 = .ok (.ifCond .eq 15, 3) := by decide +kernel
theorem dX8_day_12 : decode cX8_day 12 = .ok (.iload_n 2, 1) := by decide +kernel
theorem dX8_day_13 : decode cX8_day 13 = .ok (.i2l, 1) := by decide +kernel
theorem dX8_day_14 : decode cX8_day 14 = .ok (.lconst 1, 1) := by decide +kernel
theorem dX8_day_15 : decode cX8_day 15 = .ok (.ldc2_w 196, 3) := by decide +kernel
theorem dX8_day_18 : decode cX8_day 18 = .ok (.invokestatic 98, 3) := by decide +kernel
theorem dX8_day_21 : decode cX8_day 21 = .ok (.ifCond .ne 5, 3) := by decide +kernel
theorem dX8_day_24 : decode cX8_day 24 = .ok (.iconst (-1), 1) := by decide +kernel
theorem dX8_day_25 : decode cX8_day 25 = .ok (.ireturn, 1) := by decide +kernel
theorem dX8_day_26 : decode cX8_day 26 = .ok (.iconst 0, 1) := by decide +kernel
theorem dX8_day_27 : decode cX8_day 27 = .ok (.istore_n 3, 1) := by decide +kernel
theorem dX8_day_28 : decode cX8_day 28 = .ok (.iconst 0, 1) := by decide +kernel
theorem dX8_day_29 : decode cX8_day 29 = .ok (.istore 4, 2) := by decide +kernel
theorem dX8_day_31 : decode cX8_day 31 = .ok (.iload 4, 2) := by decide +kernel
theorem dX8_day_33 : decode cX8_day 33 = .ok (.iload_n 2, 1) := by decide +kernel
theorem dX8_day_34 : decode cX8_day 34 = .ok (.if_icmp .ge 113, 3) := by decide +kernel
theorem dX8_day_37 : decode cX8_day 37 = .ok (.ldc2_w 198, 3) := by decide +kernel
theorem dX8_day_40 : decode cX8_day 40 = .ok (.iload_n 1, 1) := by decide +kernel
theorem dX8_day_41 : decode cX8_day 41 = .ok (.i2l, 1) := by decide +kernel
theorem dX8_day_42 : decode cX8_day 42 = .ok (.lmul, 1) := by decide +kernel
theorem dX8_day_43 : decode cX8_day 43 = .ok (.ldc2_w 200, 3) := by decide +kernel
theorem dX8_day_46 : decode cX8_day 46 = .ok (.iload 4, 2) := by decide +kernel
theorem dX8_day_48 : decode cX8_day 48 = .ok (.i2l, 1) := by decide +kernel
theorem dX8_day_49 : decode cX8_day 49 = .ok (.lmul, 1) := by decide +kernel
theorem dX8_day_50 : decode cX8_day 50 = .ok (.ladd, 1) := by decide +kernel
theorem dX8_day_51 : decode cX8_day 51 = .ok (.lconst 1, 1) := by decide +kernel
theorem dX8_day_52 : decode cX8_day 52 = .ok (.ladd, 1) := by decide +kernel
theorem dX8_day_53 : decode cX8_day 53 = .ok (.lstore 5, 2) := by decide +kernel
theorem dX8_day_55 : decode cX8_day 55 = .ok (.lload 5, 2) := by decide +kernel
theorem dX8_day_57 : decode cX8_day 57 = .ok (.lload 5, 2) := by decide +kernel
theorem dX8_day_59 : decode cX8_day 59 = .ok (.lmul, 1) := by decide +kernel
theorem dX8_day_60 : decode cX8_day 60 = .ok (.ldc2_w 202, 3) := by decide +kernel
theorem dX8_day_63 : decode cX8_day 63 = .ok (.lrem, 1) := by decide +kernel
theorem dX8_day_64 : decode cX8_day 64 = .ok (.l2i, 1) := by decide +kernel
theorem dX8_day_65 : decode cX8_day 65 = .ok (.istore 7, 2) := by decide +kernel
theorem dX8_day_67 : decode cX8_day 67 = .ok (.bipush 16, 2) := by decide +kernel
theorem dX8_day_69 : decode cX8_day 69 = .ok (.iload 7, 2) := by decide +kernel
theorem dX8_day_71 : decode cX8_day 71 = .ok (.aload_n 0, 1) := by decide +kernel
theorem dX8_day_72 : decode cX8_day 72 = .ok (.getfield 148, 3) := by decide +kernel
theorem dX8_day_75 : decode cX8_day 75 = .ok (.irem, 1) := by decide +kernel
theorem dX8_day_76 : decode cX8_day 76 = .ok (.imul, 1) := by decide +kernel
theorem dX8_day_77 : decode cX8_day 77 = .ok (.iload 7, 2) := by decide +kernel
theorem dX8_day_79 : decode cX8_day 79 = .ok (.bipush 8, 2) := by decide +kernel
theorem dX8_day_81 : decode cX8_day 81 = .ok (.idiv, 1) := by decide +kernel
theorem dX8_day_82 : decode cX8_day 82 = .ok (.aload_n 0, 1) := by decide +kernel
theorem dX8_day_83 : decode cX8_day 83 = .ok (.getfield 151, 3) := by decide +kernel
theorem dX8_day_86 : decode cX8_day 86 = .ok (.irem, 1) := by decide +kernel
theorem dX8_day_87 : decode cX8_day 87 = .ok (.iadd, 1) := by decide +kernel
theorem dX8_day_88 : decode cX8_day 88 = .ok (.istore 8, 2) := by decide +kernel
theorem dX8_day_90 : decode cX8_day 90 = .ok (.iload 7, 2) := by decide +kernel
theorem dX8_day_92 : decode cX8_day 92 = .ok (.sipush 128, 3) := by decide +kernel
theorem dX8_day_95 : decode cX8_day 95 = .ok (.idiv, 1) := by decide +kernel
theorem dX8_day_96 : decode cX8_day 96 = .ok (.bipush 30, 2) := by decide +kernel
theorem dX8_day_98 : decode cX8_day 98 = .ok (.irem, 1) := by decide +kernel
theorem dX8_day_99 : decode cX8_day 99 = .ok (.istore 9, 2) := by decide +kernel
theorem dX8_day_101 : decode cX8_day 101 = .ok (.iload 9, 2) := by decide +kernel
theorem dX8_day_103 : decode cX8_day 103 = .ok (.bipush 29, 2) := by decide +kernel
theorem dX8_day_105 : decode cX8_day 105 = .ok (.if_icmp .ne 8, 3) := by decide +kernel
theorem dX8_day_108 : decode cX8_day 108 = .ok (.ldc 83, 2) := by decide +kernel
theorem dX8_day_110 : decode cX8_day 110 = .ok (.goto 5, 3) := by decide +kernel
theorem dX8_day_113 : decode cX8_day 113 = .ok (.iload 9, 2) := by decide +kernel
theorem dX8_day_115 : decode cX8_day 115 = .ok (.istore 9, 2) := by decide +kernel
theorem dX8_day_117 : decode cX8_day 117 = .ok (.aload_n 0, 1) := by decide +kernel
theorem dX8_day_118 : decode cX8_day 118 = .ok (.getfield 19, 3) := by decide +kernel
theorem dX8_day_121 : decode cX8_day 121 = .ok (.iload 8, 2) := by decide +kernel
theorem dX8_day_123 : decode cX8_day 123 = .ok (.iaload, 1) := by decide +kernel
theorem dX8_day_124 : decode cX8_day 124 = .ok (.iload 9, 2) := by decide +kernel
theorem dX8_day_126 : decode cX8_day 126 = .ok (.if_icmp .eq 15, 3) := by decide +kernel
theorem dX8_day_129 : decode cX8_day 129 = .ok (.aload_n 0, 1) := by decide +kernel
theorem dX8_day_130 : decode cX8_day 130 = .ok (.iload 8, 2) := by decide +kernel
theorem dX8_day_132 : decode cX8_day 132 = .ok (.iload 9, 2) := by decide +kernel
theorem dX8_day_134 : decode cX8_day 134 = .ok (.invokevirtual 181, 3) := by decide +kernel
theorem dX8_day_137 : decode cX8_day 137 = .ok (.pop, 1) := by decide +kernel
theorem dX8_day_138 : decode cX8_day 138 = .ok (.iinc 3 1, 3) := by decide +kernel
theorem dX8_day_141 : decode cX8_day 141 = .ok (.iinc 4 1, 3) := by decide +kernel
theorem dX8_day_144 : decode cX8_day 144 = .ok (.goto (-113), 3) := by decide +kernel
theorem dX8_day_147 : decode cX8_day 147 = .ok (.iload_n 3, 1) := by decide +kernel
theorem dX8_day_148 : decode cX8_day 148 = .ok (.ireturn, 1) := by decide +kernel
theorem dX8_square_0 : decode cX8_square 0 = .ok (.aload_n 0, 1) := by decide +kernel
theorem dX8_square_1 : decode cX8_square 1 = .ok (.getfield 13, 3) := by decide +kernel
theorem dX8_square_4 : decode cX8_square 4 = .ok (.iload_n 1, 1) := by decide +kernel
theorem dX8_square_5 : decode cX8_square 5 = .ok (.iaload, 1) := by decide +kernel
theorem dX8_square_6 : decode cX8_square 6 = .ok (.aload_n 0, 1) := by decide +kernel
theorem dX8_square_7 : decode cX8_square 7 = .ok (.getfield 13, 3) := by decide +kernel
theorem dX8_square_10 : decode cX8_square 10 = .ok (.iload_n 2, 1) := by decide +kernel
theorem dX8_square_11 : decode cX8_square 11 = .ok (.iaload, 1) := by decide +kernel
theorem dX8_square_12 : decode cX8_square 12 = .ok (.isub, 1) := by decide +kernel
theorem dX8_square_13 : decode cX8_square 13 = .ok (.aload_n 0, 1) := by decide +kernel
theorem dX8_square_14 : decode cX8_square 14 = .ok (.getfield 13, 3) := by decide +kernel
theorem dX8_square_17 : decode cX8_square 17 = .ok (.iload_n 1, 1) := by decide +kernel
theorem dX8_square_18 : decode cX8_square 18 = .ok (.iaload, 1) := by decide +kernel
theorem dX8_square_19 : decode cX8_square 19 = .ok (.aload_n 0, 1) := by decide +kernel
theorem dX8_square_20 : decode cX8_square 20 = .ok (.getfield 13, 3) := by decide +kernel
theorem dX8_square_23 : decode cX8_square 23 = .ok (.iload_n 2, 1) := by decide +kernel
theorem dX8_square_24 : decode cX8_square 24 = .ok (.iaload, 1) := by decide +kernel
theorem dX8_square_25 : decode cX8_square 25 = .ok (.isub, 1) := by decide +kernel
theorem dX8_square_26 : decode cX8_square 26 = .ok (.imul, 1) := by decide +kernel
theorem dX8_square_27 : decode cX8_square 27 = .ok (.aload_n 0, 1) := by decide +kernel
theorem dX8_square_28 : decode cX8_square 28 = .ok (.getfield 16, 3) := by decide +kernel
theorem dX8_square_31 : decode cX8_square 31 = .ok (.iload_n 1, 1) := by decide +kernel
theorem dX8_square_32 : decode cX8_square 32 = .ok (.iaload, 1) := by decide +kernel
theorem dX8_square_33 : decode cX8_square 33 = .ok (.aload_n 0, 1) := by decide +kernel
theorem dX8_square_34 : decode cX8_square 34 = .ok (.getfield 16, 3) := by decide +kernel
theorem dX8_square_37 : decode cX8_square 37 = .ok (.iload_n 2, 1) := by decide +kernel
theorem dX8_square_38 : decode cX8_square 38 = .ok (.iaload, 1) := by decide +kernel
theorem dX8_square_39 : decode cX8_square 39 = .ok (.isub, 1) := by decide +kernel
theorem dX8_square_40 : decode cX8_square 40 = .ok (.aload_n 0, 1) := by decide +kernel
theorem dX8_square_41 : decode cX8_square 41 = .ok (.getfield 16, 3) := by decide +kernel
theorem dX8_square_44 : decode cX8_square 44 = .ok (.iload_n 1, 1) := by decide +kernel
theorem dX8_square_45 : decode cX8_square 45 = .ok (.iaload, 1) := by decide +kernel
theorem dX8_square_46 : decode cX8_square 46 = .ok (.aload_n 0, 1) := by decide +kernel
theorem dX8_square_47 : decode cX8_square 47 = .ok (.getfield 16, 3) := by decide +kernel
theorem dX8_square_50 : decode cX8_square 50 = .ok (.iload_n 2, 1) := by decide +kernel
theorem dX8_square_51 : decode cX8_square 51 = .ok (.iaload, 1) := by decide +kernel
theorem dX8_square_52 : decode cX8_square 52 = .ok (.isub, 1) := by decide +kernel
theorem dX8_square_53 : decode cX8_square 53 = .ok (.imul, 1) := by decide +kernel
theorem dX8_square_54 : decode cX8_square 54 = .ok (.iadd, 1) := by decide +kernel
theorem dX8_square_55 : decode cX8_square 55 = .ok (.ireturn, 1) := by decide +kernel
theorem dX8_rankOf_0 : decode cX8_rankOf 0 = .ok (.iconst 0, 1) := by decide +kernel
theorem dX8_rankOf_1 : decode cX8_rankOf 1 = .ok (.istore_n 3, 1) := by decide +kernel
theorem dX8_rankOf_2 : decode cX8_rankOf 2 = .ok (.iconst 0, 1) := by decide +kernel
theorem dX8_rankOf_3 : decode cX8_rankOf 3 = .ok (.istore 4, 2) := by decide +kernel
theorem dX8_rankOf_5 : decode cX8_rankOf 5 = .ok (.iload 4, 2) := by decide +kernel
theorem dX8_rankOf_7 : decode cX8_rankOf 7 = .ok (.aload_n 0, 1) := by decide +kernel
theorem dX8_rankOf_8 : decode cX8_rankOf 8 = .ok (.getfield 148, 3) := by decide +kernel
theorem dX8_rankOf_11 : decode cX8_rankOf 11 = .ok (.if_icmp .ge 79, 3) := by decide +kernel
theorem dX8_rankOf_14 : decode cX8_rankOf 14 = .ok (.aload_n 0, 1) := by decide +kernel
theorem dX8_rankOf_15 : decode cX8_rankOf 15 = .ok (.iload_n 1, 1) := by decide +kernel
theorem dX8_rankOf_16 : decode cX8_rankOf 16 = .ok (.iload 4, 2) := by decide +kernel
theorem dX8_rankOf_18 : decode cX8_rankOf 18 = .ok (.invokevirtual 204, 3) := by decide +kernel
theorem dX8_rankOf_21 : decode cX8_rankOf 21 = .ok (.aload_n 0, 1) := by decide +kernel
theorem dX8_rankOf_22 : decode cX8_rankOf 22 = .ok (.iload_n 1, 1) := by decide +kernel
theorem dX8_rankOf_23 : decode cX8_rankOf 23 = .ok (.iload_n 2, 1) := by decide +kernel
theorem dX8_rankOf_24 : decode cX8_rankOf 24 = .ok (.invokevirtual 204, 3) := by decide +kernel
theorem dX8_rankOf_27 : decode cX8_rankOf 27 = .ok (.if_icmp .lt 25, 3) := by decide +kernel
theorem dX8_rankOf_30 : decode cX8_rankOf 30 = .ok (.aload_n 0, 1) := by decide +kernel
theorem dX8_rankOf_31 : decode cX8_rankOf 31 = .ok (.iload_n 1, 1) := by decide +kernel
theorem dX8_rankOf_32 : decode cX8_rankOf 32 = .ok (.iload 4, 2) := by decide +kernel
theorem dX8_rankOf_34 : decode cX8_rankOf 34 = .ok (.invokevirtual 204, 3) := by decide +kernel
theorem dX8_rankOf_37 : decode cX8_rankOf 37 = .ok (.aload_n 0, 1) := by decide +kernel
theorem dX8_rankOf_38 : decode cX8_rankOf 38 = .ok (.iload_n 1, 1) := by decide +kernel
theorem dX8_rankOf_39 : decode cX8_rankOf 39 = .ok (.iload_n 2, 1) := by decide +kernel
theorem dX8_rankOf_40 : decode cX8_rankOf 40 = .ok (.invokevirtual 204, 3) := by decide +kernel
theorem dX8_rankOf_43 : decode cX8_rankOf 43 = .ok (.if_icmp .ne 13, 3) := by decide +kernel
theorem dX8_rankOf_46 : decode cX8_rankOf 46 = .ok (.iload 4, 2) := by decide +kernel
theorem dX8_rankOf_48 : decode cX8_rankOf 48 = .ok (.iload_n 2, 1) := by decide +kernel
theorem dX8_rankOf_49 : decode cX8_rankOf 49 = .ok (.if_icmp .ge 7, 3) := by decide +kernel
theorem dX8_rankOf_52 : decode cX8_rankOf 52 = .ok (.iconst 1, 1) := by decide +kernel
theorem dX8_rankOf_53 : decode cX8_rankOf 53 = .ok (.goto 4, 3) := by decide +kernel
theorem dX8_rankOf_56 : decode cX8_rankOf 56 = .ok (.iconst 0, 1) := by decide +kernel
theorem dX8_rankOf_57 : decode cX8_rankOf 57 = .ok (.istore 5, 2) := by decide +kernel
theorem dX8_rankOf_59 : decode cX8_rankOf 59 = .ok (.iload_n 3, 1) := by decide +kernel
theorem dX8_rankOf_60 : decode cX8_rankOf 60 = .ok (.iload 4, 2) := by decide +kernel
theorem dX8_rankOf_62 : decode cX8_rankOf 62 = .ok (.iload_n 1, 1) := by decide +kernel
theorem dX8_rankOf_63 : decode cX8_rankOf 63 = .ok (.if_icmp .eq 18, 3) := by decide +kernel
theorem dX8_rankOf_66 : decode cX8_rankOf 66 = .ok (.iload 4, 2) := by decide +kernel
theorem dX8_rankOf_68 : decode cX8_rankOf 68 = .ok (.iload_n 2, 1) := by decide +kernel
theorem dX8_rankOf_69 : decode cX8_rankOf 69 = .ok (.if_icmp .eq 12, 3) := by decide +kernel
theorem dX8_rankOf_72 : decode cX8_rankOf 72 = .ok (.iload 5, 2) := by decide +kernel
theorem dX8_rankOf_74 : decode cX8_rankOf 74 = .ok (.ifCond .eq 7, 3) := by decide +kernel
theorem dX8_rankOf_77 : decode cX8_rankOf 77 = .ok (.iconst 1, 1) := by decide +kernel
theorem dX8_rankOf_78 : decode cX8_rankOf 78 = .ok (.goto 4, 3) := by decide +kernel
theorem dX8_rankOf_81 : decode cX8_rankOf 81 = .ok (.iconst 0, 1) := by decide +kernel
theorem dX8_rankOf_82 : decode cX8_rankOf 82 = .ok (.iadd, 1) := by decide +kernel
theorem dX8_rankOf_83 : decode cX8_rankOf 83 = .ok (.istore_n 3, 1) := by decide +kernel
theorem dX8_rankOf_84 : decode cX8_rankOf 84 = .ok (.iinc 4 1, 3) := by decide +kernel
theorem dX8_rankOf_87 : decode cX8_rankOf 87 = .ok (.goto (-82), 3) := by decide +kernel
theorem dX8_rankOf_90 : decode cX8_rankOf 90 = .ok (.iload_n 3, 1) := by decide +kernel
theorem dX8_rankOf_91 : decode cX8_rankOf 91 = .ok (.ireturn, 1) := by decide +kernel
theorem dX8_nearest_0 : decode cX8_nearest 0 = .ok (.aload_n 0, 1) := by decide +kernel
theorem dX8_nearest_1 : decode cX8_nearest 1 = .ok (.iload_n 1, 1) := by decide +kernel
theorem dX8_nearest_2 : decode cX8_nearest 2 = .ok (.invokevirtual 161, 3) := by decide +kernel
theorem dX8_nearest_5 : decode cX8_nearest 5 = .ok (.ifCond .eq 7, 3) := by decide +kernel
theorem dX8_nearest_8 : decode cX8_nearest 8 = .ok (.iload_n 2, 1) := by decide +kernel
theorem dX8_nearest_9 : decode cX8_nearest 9 = .ok (.ifCond .ge 5, 3) := by decide +kernel
theorem dX8_nearest_12 : decode cX8_nearest 12 = .ok (.iconst (-1), 1) := by decide +kernel
theorem dX8_nearest_13 : decode cX8_nearest 13 = .ok (.ireturn, 1) := by decide +kernel
theorem dX8_nearest_14 : decode cX8_nearest 14 = .ok (.iconst 0, 1) := by decide +kernel
theorem dX8_nearest_15 : decode cX8_nearest 15 = .ok (.istore_n 3, 1) := by decide +kernel
theorem dX8_nearest_16 : decode cX8_nearest 16 = .ok (.iload_n 3, 1) := by decide +kernel
theorem dX8_nearest_17 : decode cX8_nearest 17 = .ok (.aload_n 0, 1) := by decide +kernel
theorem dX8_nearest_18 : decode cX8_nearest 18 = .ok (.getfield 148, 3) := by decide +kernel
theorem dX8_nearest_21 : decode cX8_nearest 21 = .ok (.if_icmp .ge 26, 3) := by decide +kernel
theorem dX8_nearest_24 : decode cX8_nearest 24 = .ok (.iload_n 3, 1) := by decide +kernel
theorem dX8_nearest_25 : decode cX8_nearest 25 = .ok (.iload_n 1, 1) := by decide +kernel
theorem dX8_nearest_26 : decode cX8_nearest 26 = .ok (.if_icmp .eq 15, 3) := by decide +kernel
theorem dX8_nearest_29 : decode cX8_nearest 29 = .ok (.aload_n 0, 1) := by decide +kernel
theorem dX8_nearest_30 : decode cX8_nearest 30 = .ok (.iload_n 1, 1) := by decide +kernel
theorem dX8_nearest_31 : decode cX8_nearest 31 = .ok (.iload_n 3, 1) := by decide +kernel
theorem dX8_nearest_32 : decode cX8_nearest 32 = .ok (.invokevirtual 207, 3) := by decide +kernel
theorem dX8_nearest_35 : decode cX8_nearest 35 = .ok (.iload_n 2, 1) := by decide +kernel
theorem dX8_nearest_36 : decode cX8_nearest 36 = .ok (.if_icmp .ne 5, 3) := by decide +kernel
theorem dX8_nearest_39 : decode cX8_nearest 39 = .ok (.iload_n 3, 1) := by decide +kernel
theorem dX8_nearest_40 : decode cX8_nearest 40 = .ok (.ireturn, 1) := by decide +kernel
theorem dX8_nearest_41 : decode cX8_nearest 41 = .ok (.iinc 3 1, 3) := by decide +kernel
theorem dX8_nearest_44 : decode cX8_nearest 44 = .ok (.goto (-28), 3) := by decide +kernel
theorem dX8_nearest_47 : decode cX8_nearest 47 = .ok (.bipush (-4), 2) := by decide +kernel
theorem dX8_nearest_49 : decode cX8_nearest 49 = .ok (.ireturn, 1) := by decide +kernel
theorem dX8_isPair_0 : decode cX8_isPair 0 = .ok (.aload_n 0, 1) := by decide +kernel
theorem dX8_isPair_1 : decode cX8_isPair 1 = .ok (.iload_n 1, 1) := by decide +kernel
theorem dX8_isPair_2 : decode cX8_isPair 2 = .ok (.iload_n 2, 1) := by decide +kernel
theorem dX8_isPair_3 : decode cX8_isPair 3 = .ok (.invokevirtual 207, 3) := by decide +kernel
theorem dX8_isPair_6 : decode cX8_isPair 6 = .ok (.aload_n 0, 1) := by decide +kernel
theorem dX8_isPair_7 : decode cX8_isPair 7 = .ok (.getfield 19, 3) := by decide +kernel
theorem dX8_isPair_10 : decode cX8_isPair 10 = .ok (.bipush 98, 2) := by decide +kernel
theorem dX8_isPair_12 : decode cX8_isPair 12 = .ok (.iaload, 1) := by decide +kernel
theorem dX8_isPair_13 : decode cX8_isPair 13 = .ok (.if_icmp .lt 19, 3) := by decide +kernel
theorem dX8_isPair_16 : decode cX8_isPair 16 = .ok (.aload_n 0, 1) := by decide +kernel
theorem dX8_isPair_17 : decode cX8_isPair 17 = .ok (.iload_n 2, 1) := by decide +kernel
theorem dX8_isPair_18 : decode cX8_isPair 18 = .ok (.iload_n 1, 1) := by decide +kernel
theorem dX8_isPair_19 : decode cX8_isPair 19 = .ok (.invokevirtual 207, 3) := by decide +kernel
theorem dX8_isPair_22 : decode cX8_isPair 22 = .ok (.aload_n 0, 1) := by decide +kernel
theorem dX8_isPair_23 : decode cX8_isPair 23 = .ok (.getfield 19, 3) := by decide +kernel
theorem dX8_isPair_26 : decode cX8_isPair 26 = .ok (.bipush 98, 2) := by decide +kernel
theorem dX8_isPair_28 : decode cX8_isPair 28 = .ok (.iaload, 1) := by decide +kernel
theorem dX8_isPair_29 : decode cX8_isPair 29 = .ok (.if_icmp .ge 7, 3) := by decide +kernel
theorem dX8_isPair_32 : decode cX8_isPair 32 = .ok (.iconst 1, 1) := by decide +kernel
theorem dX8_isPair_33 : decode cX8_isPair 33 = .ok (.goto 4, 3) := by decide +kernel
theorem dX8_isPair_36 : decode cX8_isPair 36 = .ok (.iconst 0, 1) := by decide +kernel
theorem dX8_isPair_37 : decode cX8_isPair 37 = .ok (.ireturn, 1) := by decide +kernel
theorem dX8_pair_0 : decode cX8_pair 0 = .ok (.aload_n 0, 1) := by decide +kernel
theorem dX8_pair_1 : decode cX8_pair 1 = .ok (.iload_n 1, 1) := by decide +kernel
theorem dX8_pair_2 : decode cX8_pair 2 = .ok (.iload_n 2, 1) := by decide +kernel
theorem dX8_pair_3 : decode cX8_pair 3 = .ok (.invokevirtual 210, 3) := by decide +kernel
theorem dX8_pair_6 : decode cX8_pair 6 = .ok (.ifCond .eq 20, 3) := by decide +kernel
theorem dX8_pair_9 : decode cX8_pair 9 = .ok (.aload_n 0, 1) := by decide +kernel
theorem dX8_pair_10 : decode cX8_pair 10 = .ok (.iload_n 1, 1) := by decide +kernel
theorem dX8_pair_11 : decode cX8_pair 11 = .ok (.iload_n 2, 1) := by decide +kernel
theorem dX8_pair_12 : decode cX8_pair 12 = .ok (.invokevirtual 213, 3) := by decide +kernel
theorem dX8_pair_15 : decode cX8_pair 15 = .ok (.ifCond .eq 7, 3) := by decide +kernel
theorem dX8_pair_18 : decode cX8_pair 18 = .ok (.iconst 1, 1) := by decide +kernel
theorem dX8_pair_19 : decode cX8_pair 19 = .ok (.goto 8, 3) := by decide +kernel
theorem dX8_pair_22 : decode cX8_pair 22 = .ok (.iconst 0, 1) := by decide +kernel
theorem dX8_pair_23 : decode cX8_pair 23 = .ok (.goto 4, 3) := by decide +kernel
theorem dX8_pair_26 : decode cX8_pair 26 = .ok (.iconst (-1), 1) := by decide +kernel
theorem dX8_pair_27 : decode cX8_pair 27 = .ok (.ireturn, 1) := by decide +kernel
theorem dX8_rowOf_0 : decode cX8_rowOf 0 = .ok (.aload_n 0, 1) := by decide +kernel
theorem dX8_rowOf_1 : decode cX8_rowOf 1 = .ok (.iconst 0, 1) := by decide +kernel
theorem dX8_rowOf_2 : decode cX8_rowOf 2 = .ok (.putfield 216, 3) := by decide +kernel
theorem dX8_rowOf_5 : decode cX8_rowOf 5 = .ok (.iconst 0, 1) := by decide +kernel
theorem dX8_rowOf_6 : decode cX8_rowOf 6 = .ok (.istore_n 3, 1) := by decide +kernel
theorem dX8_rowOf_7 : decode cX8_rowOf 7 = .ok (.iload_n 3, 1) := by decide +kernel
theorem dX8_rowOf_8 : decode cX8_rowOf 8 = .ok (.aload_n 0, 1) := by decide +kernel
theorem dX8_rowOf_9 : decode cX8_rowOf 9 = .ok (.getfield 151, 3) := by decide +kernel
theorem dX8_rowOf_12 : decode cX8_rowOf 12 = .ok (.if_icmp .ge 70, 3) := by decide +kernel
theorem dX8_rowOf_15 : decode cX8_rowOf 15 = .ok (.aload_n 0, 1) := by decide +kernel
theorem dX8_rowOf_16 : decode cX8_rowOf 16 = .ok (.iload_n 1, 1) := by decide +kernel
theorem dX8_rowOf_17 : decode cX8_rowOf 17 = .ok (.iload_n 3, 1) := by decide +kernel
theorem dX8_rowOf_18 : decode cX8_rowOf 18 = .ok (.invokevirtual 184, 3) := by decide +kernel
theorem dX8_rowOf_21 : decode cX8_rowOf 21 = .ok (.ifCond .eq 55, 3) := by decide +kernel
theorem dX8_rowOf_24 : decode cX8_rowOf 24 = .ok (.aload_n 0, 1) := by decide +kernel
theorem dX8_rowOf_25 : decode cX8_rowOf 25 = .ok (.iload_n 2, 1) := by decide +kernel
theorem dX8_rowOf_26 : decode cX8_rowOf 26 = .ok (.iload_n 3, 1) := by decide +kernel
theorem dX8_rowOf_27 : decode cX8_rowOf 27 = .ok (.invokevirtual 184, 3) := by decide +kernel
theorem dX8_rowOf_30 : decode cX8_rowOf 30 = .ok (.ifCond .eq 46, 3) := by decide +kernel
theorem dX8_rowOf_33 : decode cX8_rowOf 33 = .ok (.aload_n 0, 1) := by decide +kernel
theorem dX8_rowOf_34 : decode cX8_rowOf 34 = .ok (.getfield 37, 3) := by decide +kernel
theorem dX8_rowOf_37 : decode cX8_rowOf 37 = .ok (.aload_n 0, 1) := by decide +kernel
theorem dX8_rowOf_38 : decode cX8_rowOf 38 = .ok (.getfield 216, 3) := by decide +kernel
theorem dX8_rowOf_41 : decode cX8_rowOf 41 = .ok (.aload_n 0, 1) := by decide +kernel
theorem dX8_rowOf_42 : decode cX8_rowOf 42 = .ok (.iload_n 1, 1) := by decide +kernel
theorem dX8_rowOf_43 : decode cX8_rowOf 43 = .ok (.iload_n 3, 1) := by decide +kernel
theorem dX8_rowOf_44 : decode cX8_rowOf 44 = .ok (.invokevirtual 164, 3) := by decide +kernel
theorem dX8_rowOf_47 : decode cX8_rowOf 47 = .ok (.aload_n 0, 1) := by decide +kernel
theorem dX8_rowOf_48 : decode cX8_rowOf 48 = .ok (.iload_n 2, 1) := by decide +kernel
theorem dX8_rowOf_49 : decode cX8_rowOf 49 = .ok (.iload_n 3, 1) := by decide +kernel
theorem dX8_rowOf_50 : decode cX8_rowOf 50 = .ok (.invokevirtual 164, 3) := by decide +kernel
theorem dX8_rowOf_53 : decode cX8_rowOf 53 = .ok (.isub, 1) := by decide +kernel
theorem dX8_rowOf_54 : decode cX8_rowOf 54 = .ok (.i2l, 1) := by decide +kernel
theorem dX8_rowOf_55 : decode cX8_rowOf 55 = .ok (.lastore, 1) := by decide +kernel
theorem dX8_rowOf_56 : decode cX8_rowOf 56 = .ok (.aload_n 0, 1) := by decide +kernel
theorem dX8_rowOf_57 : decode cX8_rowOf 57 = .ok (.getfield 41, 3) := by decide +kernel
theorem dX8_rowOf_60 : decode cX8_rowOf 60 = .ok (.aload_n 0, 1) := by decide +kernel
theorem dX8_rowOf_61 : decode cX8_rowOf 61 = .ok (.getfield 216, 3) := by decide +kernel
theorem dX8_rowOf_64 : decode cX8_rowOf 64 = .ok (.iload_n 3, 1) := by decide +kernel
theorem dX8_rowOf_65 : decode cX8_rowOf 65 = .ok (.iastore, 1) := by decide +kernel
theorem dX8_rowOf_66 : decode cX8_rowOf 66 = .ok (.aload_n 0, 1) := by decide +kernel
theorem dX8_rowOf_67 : decode cX8_rowOf 67 = .ok (.dup, 1) := by decide +kernel
theorem dX8_rowOf_68 : decode cX8_rowOf 68 = .ok (.getfield 216, 3) := by decide +kernel
theorem dX8_rowOf_71 : decode cX8_rowOf 71 = .ok (.iconst 1, 1) := by decide +kernel
theorem dX8_rowOf_72 : decode cX8_rowOf 72 = .ok (.iadd, 1) := by decide +kernel
theorem dX8_rowOf_73 : decode cX8_rowOf 73 = .ok (.putfield 216, 3) := by decide +kernel
theorem dX8_rowOf_76 : decode cX8_rowOf 76 = .ok (.iinc 3 1, 3) := by decide +kernel
theorem dX8_rowOf_79 : decode cX8_rowOf 79 = .ok (.goto (-72), 3) := by decide +kernel
theorem dX8_rowOf_82 : decode cX8_rowOf 82 = .ok (.return_, 1) := by decide +kernel
theorem dX8_sumOf_0 : decode cX8_sumOf 0 = .ok (.lconst 0, 1) := by decide +kernel
theorem dX8_sumOf_1 : decode cX8_sumOf 1 = .ok (.lstore_n 3, 1) := by decide +kernel
theorem dX8_sumOf_2 : decode cX8_sumOf 2 = .ok (.iload_n 1, 1) := by decide +kernel
theorem dX8_sumOf_3 : decode cX8_sumOf 3 = .ok (.istore 5, 2) := by decide +kernel
theorem dX8_sumOf_5 : decode cX8_sumOf 5 = .ok (.iload 5, 2) := by decide +kernel
theorem dX8_sumOf_7 : decode cX8_sumOf 7 = .ok (.iload_n 2, 1) := by decide +kernel
theorem dX8_sumOf_8 : decode cX8_sumOf 8 = .ok (.if_icmp .gt 19, 3) := by decide +kernel
theorem dX8_sumOf_11 : decode cX8_sumOf 11 = .ok (.lload_n 3, 1) := by decide +kernel
theorem dX8_sumOf_12 : decode cX8_sumOf 12 = .ok (.aload_n 0, 1) := by decide +kernel
theorem dX8_sumOf_13 : decode cX8_sumOf 13 = .ok (.getfield 37, 3) := by decide +kernel
theorem dX8_sumOf_16 : decode cX8_sumOf 16 = .ok (.iload 5, 2) := by decide +kernel
theorem dX8_sumOf_18 : decode cX8_sumOf 18 = .ok (.laload, 1) := by decide +kernel
theorem dX8_sumOf_19 : decode cX8_sumOf 19 = .ok (.ladd, 1) := by decide +kernel
theorem dX8_sumOf_20 : decode cX8_sumOf 20 = .ok (.lstore_n 3, 1) := by decide +kernel
theorem dX8_sumOf_21 : decode cX8_sumOf 21 = .ok (.iinc 5 1, 3) := by decide +kernel
theorem dX8_sumOf_24 : decode cX8_sumOf 24 = .ok (.goto (-19), 3) := by decide +kernel
theorem dX8_sumOf_27 : decode cX8_sumOf 27 = .ok (.lload_n 3, 1) := by decide +kernel
theorem dX8_sumOf_28 : decode cX8_sumOf 28 = .ok (.lreturn, 1) := by decide +kernel
theorem dX8_spreadOf_0 : decode cX8_spreadOf 0 = .ok (.lconst 0, 1) := by decide +kernel
theorem dX8_spreadOf_1 : decode cX8_spreadOf 1 = .ok (.lstore_n 3, 1) := by decide +kernel
theorem dX8_spreadOf_2 : decode cX8_spreadOf 2 = .ok (.iload_n 1, 1) := by decide +kernel
theorem dX8_spreadOf_3 : decode cX8_spreadOf 3 = .ok (.istore 5, 2) := by decide +kernel
theorem dX8_spreadOf_5 : decode cX8_spreadOf 5 = .ok (.iload 5, 2) := by decide +kernel
theorem dX8_spreadOf_7 : decode cX8_spreadOf 7 = .ok (.iload_n 2, 1) := by decide +kernel
theorem dX8_spreadOf_8 : decode cX8_spreadOf 8 = .ok (.if_icmp .gt 27, 3) := by decide +kernel
theorem dX8_spreadOf_11 : decode cX8_spreadOf 11 = .ok (.lload_n 3, 1) := by decide +kernel
theorem dX8_spreadOf_12 : decode cX8_spreadOf 12 = .ok (.aload_n 0, 1) := by decide +kernel
theorem dX8_spreadOf_13 : decode cX8_spreadOf 13 = .ok (.getfield 37, 3) := by decide +kernel
theorem dX8_spreadOf_16 : decode cX8_spreadOf 16 = .ok (.iload 5, 2) := by decide +kernel
theorem dX8_spreadOf_18 : decode cX8_spreadOf 18 = .ok (.laload, 1) := by decide +kernel
theorem dX8_spreadOf_19 : decode cX8_spreadOf 19 = .ok (.aload_n 0, 1) := by decide +kernel
theorem dX8_spreadOf_20 : decode cX8_spreadOf 20 = .ok (.getfield 37, 3) := by decide +kernel
theorem dX8_spreadOf_23 : decode cX8_spreadOf 23 = .ok (.iload 5, 2) := by decide +kernel
theorem dX8_spreadOf_25 : decode cX8_spreadOf 25 = .ok (.laload, 1) := by decide +kernel
theorem dX8_spreadOf_26 : decode cX8_spreadOf 26 = .ok (.lmul, 1) := by decide +kernel
theorem dX8_spreadOf_27 : decode cX8_spreadOf 27 = .ok (.ladd, 1) := by decide +kernel
theorem dX8_spreadOf_28 : decode cX8_spreadOf 28 = .ok (.lstore_n 3, 1) := by decide +kernel
theorem dX8_spreadOf_29 : decode cX8_spreadOf 29 = .ok (.iinc 5 1, 3) := by decide +kernel
theorem dX8_spreadOf_32 : decode cX8_spreadOf 32 = .ok (.goto (-27), 3) := by decide +kernel
theorem dX8_spreadOf_35 : decode cX8_spreadOf 35 = .ok (.aload_n 0, 1) := by decide +kernel
theorem dX8_spreadOf_36 : decode cX8_spreadOf 36 = .ok (.iload_n 1, 1) := by decide +kernel
theorem dX8_spreadOf_37 : decode cX8_spreadOf 37 = .ok (.iload_n 2, 1) := by decide +kernel
theorem dX8_spreadOf_38 : decode cX8_spreadOf 38 = .ok (.invokevirtual 219, 3) := by decide +kernel
theorem dX8_spreadOf_41 : decode cX8_spreadOf 41 = .ok (.lstore 5, 2) := by decide +kernel
theorem dX8_spreadOf_43 : decode cX8_spreadOf 43 = .ok (.ldc2_w 223, 3) := by decide +kernel
theorem dX8_spreadOf_46 : decode cX8_spreadOf 46 = .ok (.lload_n 3, 1) := by decide +kernel
theorem dX8_spreadOf_47 : decode cX8_spreadOf 47 = .ok (.lmul, 1) := by decide +kernel
theorem dX8_spreadOf_48 : decode cX8_spreadOf 48 = .ok (.ldc 225, 2) := by decide +kernel
theorem dX8_spreadOf_50 : decode cX8_spreadOf 50 = .ok (.iload_n 2, 1) := by decide +kernel
theorem dX8_spreadOf_51 : decode cX8_spreadOf 51 = .ok (.iload_n 1, 1) := by decide +kernel
theorem dX8_spreadOf_52 : decode cX8_spreadOf 52 = .ok (.isub, 1) := by decide +kernel
theorem dX8_spreadOf_53 : decode cX8_spreadOf 53 = .ok (.iconst 1, 1) := by decide +kernel
theorem dX8_spreadOf_54 : decode cX8_spreadOf 54 = .ok (.iadd, 1) := by decide +kernel
theorem dX8_spreadOf_55 : decode cX8_spreadOf 55 = .ok (.idiv, 1) := by decide +kernel
theorem dX8_spreadOf_56 : decode cX8_spreadOf 56 = .ok (.i2l, 1) := by decide +kernel
theorem dX8_spreadOf_57 : decode cX8_spreadOf 57 = .ok (.lload 5, 2) := by decide +kernel
theorem dX8_spreadOf_59 : decode cX8_spreadOf 59 = .ok (.lmul, 1) := by decide +kernel
theorem dX8_spreadOf_60 : decode cX8_spreadOf 60 = .ok (.lload 5, 2) := by decide +kernel
theorem dX8_spreadOf_62 : decode cX8_spreadOf 62 = .ok (.lmul, 1) := by decide +kernel
theorem dX8_spreadOf_63 : decode cX8_spreadOf 63 = .ok (.lsub, 1) := by decide +kernel
theorem dX8_spreadOf_64 : decode cX8_spreadOf 64 = .ok (.lreturn, 1) := by decide +kernel
theorem dX8_learn_0 : decode cX8_learn 0 = .ok (.aload_n 0, 1) := by decide +kernel
theorem dX8_learn_1 : decode cX8_learn 1 = .ok (.iload_n 1, 1) := by decide +kernel
theorem dX8_learn_2 : decode cX8_learn 2 = .ok (.iload_n 2, 1) := by decide +kernel
theorem dX8_learn_3 : decode cX8_learn 3 = .ok (.invokevirtual 226, 3) := by decide +kernel
theorem dX8_learn_6 : decode cX8_learn 6 = .ok (.aload_n 0, 1) := by decide +kernel
theorem dX8_learn_7 : decode cX8_learn 7 = .ok (.getfield 19, 3) := by decide +kernel
theorem dX8_learn_10 : decode cX8_learn 10 = .ok (.bipush 97, 2) := by decide +kernel
theorem dX8_learn_12 : decode cX8_learn 12 = .ok (.iaload, 1) := by decide +kernel
theorem dX8_learn_13 : decode cX8_learn 13 = .ok (.istore_n 3, 1) := by decide +kernel
theorem dX8_learn_14 : decode cX8_learn 14 = .ok (.iconst 0, 1) := by decide +kernel
theorem dX8_learn_15 : decode cX8_learn 15 = .ok (.istore 4, 2) := by decide +kernel
theorem dX8_learn_17 : decode cX8_learn 17 = .ok (.iload 4, 2) := by decide +kernel
theorem dX8_learn_19 : decode cX8_learn 19 = .ok (.sipush 272, 3) := by decide +kernel
theorem dX8_learn_22 : decode cX8_learn 22 = .ok (.if_icmp .ge 19, 3) := by decide +kernel
theorem dX8_learn_25 : decode cX8_learn 25 = .ok (.aload_n 0, 1) := by decide +kernel
theorem dX8_learn_26 : decode cX8_learn 26 = .ok (.getfield 44, 3) := by decide +kernel
theorem dX8_learn_29 : decode cX8_learn 29 = .ok (.iload 4, 2) := by decide +kernel
theorem dX8_learn_31 : decode cX8_learn 31 = .ok (.ldc2_w 229, 3) := by decide +kernel
theorem dX8_learn_34 : decode cX8_learn 34 = .ok (.lastore, 1) := by decide +kernel
theorem dX8_learn_35 : decode cX8_learn 35 = .ok (.iinc 4 1, 3) := by decide +kernel
theorem dX8_learn_38 : decode cX8_learn 38 = .ok (.goto (-21), 3) := by decide +kernel
theorem dX8_learn_41 : decode cX8_learn 41 = .ok (.aload_n 0, 1) := by decide +kernel
theorem dX8_learn_42 : decode cX8_learn 42 = .ok (.getfield 216, 3) := by decide +kernel
theorem dX8_learn_45 : decode cX8_learn 45 = .ok (.ifCond .ne 11, 3) := by decide +kernel
theorem dX8_learn_48 : decode cX8_learn 48 = .ok (.aload_n 0, 1) := by decide +kernel
theorem dX8_learn_49 : decode cX8_learn 49 = .ok (.getfield 44, 3) := by decide +kernel
theorem dX8_learn_52 : decode cX8_learn 52 = .ok (.iconst 0, 1) := by decide +kernel
theorem dX8_learn_53 : decode cX8_learn 53 = .ok (.lconst 0, 1) := by decide +kernel
theorem dX8_learn_54 : decode cX8_learn 54 = .ok (.lastore, 1) := by decide +kernel
theorem dX8_learn_55 : decode cX8_learn 55 = .ok (.return_, 1) := by decide +kernel
theorem dX8_learn_56 : decode cX8_learn 56 = .ok (.iconst 0, 1) := by decide +kernel
theorem dX8_learn_57 : decode cX8_learn 57 = .ok (.istore 4, 2) := by decide +kernel
theorem dX8_learn_59 : decode cX8_learn 59 = .ok (.iload 4, 2) := by decide +kernel
theorem dX8_learn_61 : decode cX8_learn 61 = .ok (.aload_n 0, 1) := by decide +kernel
theorem dX8_learn_62 : decode cX8_learn 62 = .ok (.getfield 216, 3) := by decide +kernel
theorem dX8_learn_65 : decode cX8_learn 65 = .ok (.if_icmp .ge 50, 3) := by decide +kernel
theorem dX8_learn_68 : decode cX8_learn 68 = .ok (.aload_n 0, 1) := by decide +kernel
theorem dX8_learn_69 : decode cX8_learn 69 = .ok (.getfield 44, 3) := by decide +kernel
theorem dX8_learn_72 : decode cX8_learn 72 = .ok (.iload 4, 2) := by decide +kernel
theorem dX8_learn_74 : decode cX8_learn 74 = .ok (.iload 4, 2) := by decide +kernel
theorem dX8_learn_76 : decode cX8_learn 76 = .ok (.ifCond .eq 14, 3) := by decide +kernel
theorem dX8_learn_79 : decode cX8_learn 79 = .ok (.aload_n 0, 1) := by decide +kernel
theorem dX8_learn_80 : decode cX8_learn 80 = .ok (.getfield 216, 3) := by decide +kernel
theorem dX8_learn_83 : decode cX8_learn 83 = .ok (.iload 4, 2) := by decide +kernel
theorem dX8_learn_85 : decode cX8_learn 85 = .ok (.isub, 1) := by decide +kernel
theorem dX8_learn_86 : decode cX8_learn 86 = .ok (.iload_n 3, 1) := by decide +kernel
theorem dX8_learn_87 : decode cX8_learn 87 = .ok (.if_icmp .lt 18, 3) := by decide +kernel
theorem dX8_learn_90 : decode cX8_learn 90 = .ok (.aload_n 0, 1) := by decide +kernel
theorem dX8_learn_91 : decode cX8_learn 91 = .ok (.iload 4, 2) := by decide +kernel
theorem dX8_learn_93 : decode cX8_learn 93 = .ok (.aload_n 0, 1) := by decide +kernel
theorem dX8_learn_94 : decode cX8_learn 94 = .ok (.getfield 216, 3) := by decide +kernel
theorem dX8_learn_97 : decode cX8_learn 97 = .ok (.iconst 1, 1) := by decide +kernel
theorem dX8_learn_98 : decode cX8_learn 98 = .ok (.isub, 1) := by decide +kernel
theorem dX8_learn_99 : decode cX8_learn 99 = .ok (.invokevirtual 231, 3) := by decide +kernel
theorem dX8_learn_102 : decode cX8_learn 102 = .ok (.goto 6, 3) := by decide +kernel
theorem dX8_learn_105 : decode cX8_learn 105 = .ok (.ldc2_w 229, 3) := by decide +kernel
theorem dX8_learn_108 : decode cX8_learn 108 = .ok (.lastore, 1) := by decide +kernel
theorem dX8_learn_109 : decode cX8_learn 109 = .ok (.iinc 4 1, 3) := by decide +kernel
theorem dX8_learn_112 : decode cX8_learn 112 = .ok (.goto (-53), 3) := by decide +kernel
theorem dX8_learn_115 : decode cX8_learn 115 = .ok (.iconst 1, 1) := by decide +kernel
theorem dX8_learn_116 : decode cX8_learn 116 = .ok (.istore 4, 2) := by decide +kernel
theorem dX8_learn_118 : decode cX8_learn 118 = .ok (.iload 4, 2) := by decide +kernel
theorem dX8_learn_120 : decode cX8_learn 120 = .ok (.aload_n 0, 1) := by decide +kernel
theorem dX8_learn_121 : decode cX8_learn 121 = .ok (.getfield 216, 3) := by decide +kernel
theorem dX8_learn_124 : decode cX8_learn 124 = .ok (.if_icmp .ge 148, 3) := by decide +kernel
theorem dX8_learn_127 : decode cX8_learn 127 = .ok (.iconst 0, 1) := by decide +kernel
theorem dX8_learn_128 : decode cX8_learn 128 = .ok (.istore 5, 2) := by decide +kernel
theorem dX8_learn_130 : decode cX8_learn 130 = .ok (.iload 5, 2) := by decide +kernel
theorem dX8_learn_132 : decode cX8_learn 132 = .ok (.aload_n 0, 1) := by decide +kernel
theorem dX8_learn_133 : decode cX8_learn 133 = .ok (.getfield 216, 3) := by decide +kernel
theorem dX8_learn_136 : decode cX8_learn 136 = .ok (.if_icmp .ge 130, 3) := by decide +kernel
theorem dX8_learn_139 : decode cX8_learn 139 = .ok (.iload 5, 2) := by decide +kernel
theorem dX8_learn_141 : decode cX8_learn 141 = .ok (.iload_n 3, 1) := by decide +kernel
theorem dX8_learn_142 : decode cX8_learn 142 = .ok (.iadd, 1) := by decide +kernel
theorem dX8_learn_143 : decode cX8_learn 143 = .ok (.istore 6, 2) := by decide +kernel
theorem dX8_learn_145 : decode cX8_learn 145 = .ok (.iload 6, 2) := by decide +kernel
theorem dX8_learn_147 : decode cX8_learn 147 = .ok (.aload_n 0, 1) := by decide +kernel
theorem dX8_learn_148 : decode cX8_learn 148 = .ok (.getfield 216, 3) := by decide +kernel
theorem dX8_learn_151 : decode cX8_learn 151 = .ok (.if_icmp .ge 109, 3) := by decide +kernel
theorem dX8_learn_154 : decode cX8_learn 154 = .ok (.aload_n 0, 1) := by decide +kernel
theorem dX8_learn_155 : decode cX8_learn 155 = .ok (.getfield 44, 3) := by decide +kernel
theorem dX8_learn_158 : decode cX8_learn 158 = .ok (.bipush 17, 2) := by decide +kernel
theorem dX8_learn_160 : decode cX8_learn 160 = .ok (.iload 4, 2) := by decide +kernel
theorem dX8_learn_162 : decode cX8_learn 162 = .ok (.iconst 1, 1) := by decide +kernel
theorem dX8_learn_163 : decode cX8_learn 163 = .ok (.isub, 1) := by decide +kernel
theorem dX8_learn_164 : decode cX8_learn 164 = .ok (.imul, 1) := by decide +kernel
theorem dX8_learn_165 : decode cX8_learn 165 = .ok (.iload 6, 2) := by decide +kernel
theorem dX8_learn_167 : decode cX8_learn 167 = .ok (.iadd, 1) := by decide +kernel
theorem dX8_learn_168 : decode cX8_learn 168 = .ok (.laload, 1) := by decide +kernel
theorem dX8_learn_169 : decode cX8_learn 169 = .ok (.ldc2_w 229, 3) := by decide +kernel
theorem dX8_learn_172 : decode cX8_learn 172 = .ok (.lcmp, 1) := by decide +kernel
theorem dX8_learn_173 : decode cX8_learn 173 = .ok (.ifCond .ge 81, 3) := by decide +kernel
theorem dX8_learn_176 : decode cX8_learn 176 = .ok (.aload_n 0, 1) := by decide +kernel
theorem dX8_learn_177 : decode cX8_learn 177 = .ok (.iload 5, 2) := by decide +kernel
theorem dX8_learn_179 : decode cX8_learn 179 = .ok (.iload 6, 2) := by decide +kernel
theorem dX8_learn_181 : decode cX8_learn 181 = .ok (.iconst 1, 1) := by decide +kernel
theorem dX8_learn_182 : decode cX8_learn 182 = .ok (.isub, 1) := by decide +kernel
theorem dX8_learn_183 : decode cX8_learn 183 = .ok (.invokevirtual 231, 3) := by decide +kernel
theorem dX8_learn_186 : decode cX8_learn 186 = .ok (.aload_n 0, 1) := by decide +kernel
theorem dX8_learn_187 : decode cX8_learn 187 = .ok (.getfield 44, 3) := by decide +kernel
theorem dX8_learn_190 : decode cX8_learn 190 = .ok (.bipush 17, 2) := by decide +kernel
theorem dX8_learn_192 : decode cX8_learn 192 = .ok (.iload 4, 2) := by decide +kernel
theorem dX8_learn_194 : decode cX8_learn 194 = .ok (.iconst 1, 1) := by decide +kernel
theorem dX8_learn_195 : decode cX8_learn 195 = .ok (.isub, 1) := by decide +kernel
theorem dX8_learn_196 : decode cX8_learn 196 = .ok (.imul, 1) := by decide +kernel
theorem dX8_learn_197 : decode cX8_learn 197 = .ok (.iload 6, 2) := by decide +kernel
theorem dX8_learn_199 : decode cX8_learn 199 = .ok (.iadd, 1) := by decide +kernel
theorem dX8_learn_200 : decode cX8_learn 200 = .ok (.laload, 1) := by decide +kernel
theorem dX8_learn_201 : decode cX8_learn 201 = .ok (.ladd, 1) := by decide +kernel
theorem dX8_learn_202 : decode cX8_learn 202 = .ok (.lstore 7, 2) := by decide +kernel
theorem dX8_learn_204 : decode cX8_learn 204 = .ok (.aload_n 0, 1) := by decide +kernel
theorem dX8_learn_205 : decode cX8_learn 205 = .ok (.getfield 44, 3) := by decide +kernel
theorem dX8_learn_208 : decode cX8_learn 208 = .ok (.bipush 17, 2) := by decide +kernel
theorem dX8_learn_210 : decode cX8_learn 210 = .ok (.iload 4, 2) := by decide +kernel
theorem dX8_learn_212 : decode cX8_learn 212 = .ok (.imul, 1) := by decide +kernel
theorem dX8_learn_213 : decode cX8_learn 213 = .ok (.iload 5, 2) := by decide +kernel
theorem dX8_learn_215 : decode cX8_learn 215 = .ok (.iadd, 1) := by decide +kernel
theorem dX8_learn_216 : decode cX8_learn 216 = .ok (.lload 7, 2) := by decide +kernel
theorem dX8_learn_218 : decode cX8_learn 218 = .ok (.aload_n 0, 1) := by decide +kernel
theorem dX8_learn_219 : decode cX8_learn 219 = .ok (.getfield 44, 3) := by decide +kernel
theorem dX8_learn_222 : decode cX8_learn 222 = .ok (.bipush 17, 2) := by decide +kernel
theorem dX8_learn_224 : decode cX8_learn 224 = .ok (.iload 4, 2) := by decide +kernel
theorem dX8_learn_226 : decode cX8_learn 226 = .ok (.imul, 1) := by decide +kernel
theorem dX8_learn_227 : decode cX8_learn 227 = .ok (.iload 5, 2) := by decide +kernel
theorem dX8_learn_229 : decode cX8_learn 229 = .ok (.iadd, 1) := by decide +kernel
theorem dX8_learn_230 : decode cX8_learn 230 = .ok (.laload, 1) := by decide +kernel
theorem dX8_learn_231 : decode cX8_learn 231 = .ok (.lcmp, 1) := by decide +kernel
theorem dX8_learn_232 : decode cX8_learn 232 = .ok (.ifCond .ge 8, 3) := by decide +kernel
theorem dX8_learn_235 : decode cX8_learn 235 = .ok (.lload 7, 2) := by decide +kernel
theorem dX8_learn_237 : decode cX8_learn 237 = .ok (.goto 16, 3) := by decide +kernel
theorem dX8_learn_240 : decode cX8_learn 240 = .ok (.aload_n 0, 1) := by decide +kernel
theorem dX8_learn_241 : decode cX8_learn 241 = .ok (.getfield 44, 3) := by decide +kernel
theorem dX8_learn_244 : decode cX8_learn 244 = .ok (.bipush 17, 2) := by decide +kernel
theorem dX8_learn_246 : decode cX8_learn 246 = .ok (.iload 4, 2) := by decide +kernel
theorem dX8_learn_248 : decode cX8_learn 248 = .ok (.imul, 1) := by decide +kernel
theorem dX8_learn_249 : decode cX8_learn 249 = .ok (.iload 5, 2) := by decide +kernel
theorem dX8_learn_251 : decode cX8_learn 251 = .ok (.iadd, 1) := by decide +kernel
theorem dX8_learn_252 : decode cX8_learn 252 = .ok (.laload, 1) := by decide +kernel
theorem dX8_learn_253 : decode cX8_learn 253 = .ok (.lastore, 1) := by decide +kernel
theorem dX8_learn_254 : decode cX8_learn 254 = .ok (.iinc 6 1, 3) := by decide +kernel
theorem dX8_learn_257 : decode cX8_learn 257 = .ok (.goto (-112), 3) := by decide +kernel
theorem dX8_learn_260 : decode cX8_learn 260 = .ok (.iinc 5 1, 3) := by decide +kernel
theorem dX8_learn_263 : decode cX8_learn 263 = .ok (.goto (-133), 3) := by decide +kernel
theorem dX8_learn_266 : decode cX8_learn 266 = .ok (.iinc 4 1, 3) := by decide +kernel
theorem dX8_learn_269 : decode cX8_learn 269 = .ok (.goto (-151), 3) := by decide +kernel
theorem dX8_learn_272 : decode cX8_learn 272 = .ok (.return_, 1) := by decide +kernel
theorem dX8_breaksBy_0 : decode cX8_breaksBy 0 = .ok (.iconst 0, 1) := by decide +kernel
theorem dX8_breaksBy_1 : decode cX8_breaksBy 1 = .ok (.istore_n 2, 1) := by decide +kernel
theorem dX8_breaksBy_2 : decode cX8_breaksBy 2 = .ok (.iconst 1, 1) := by decide +kernel
theorem dX8_breaksBy_3 : decode cX8_breaksBy 3 = .ok (.istore_n 3, 1) := by decide +kernel
theorem dX8_breaksBy_4 : decode cX8_breaksBy 4 = .ok (.iload_n 3, 1) := by decide +kernel
theorem dX8_breaksBy_5 : decode cX8_breaksBy 5 = .ok (.bipush 16, 2) := by decide +kernel
theorem dX8_breaksBy_7 : decode cX8_breaksBy 7 = .ok (.if_icmp .ge 73, 3) := by decide +kernel
theorem dX8_breaksBy_10 : decode cX8_breaksBy 10 = .ok (.aload_n 0, 1) := by decide +kernel
theorem dX8_breaksBy_11 : decode cX8_breaksBy 11 = .ok (.getfield 44, 3) := by decide +kernel
theorem dX8_breaksBy_14 : decode cX8_breaksBy 14 = .ok (.bipush 17, 2) := by decide +kernel
theorem dX8_breaksBy_16 : decode cX8_breaksBy 16 = .ok (.iload_n 3, 1) := by decide +kernel
theorem dX8_breaksBy_17 : decode cX8_breaksBy 17 = .ok (.imul, 1) := by decide +kernel
theorem dX8_breaksBy_18 : decode cX8_breaksBy 18 = .ok (.laload, 1) := by decide +kernel
theorem dX8_breaksBy_19 : decode cX8_breaksBy 19 = .ok (.ldc2_w 223, 3) := by decide +kernel
theorem dX8_breaksBy_22 : decode cX8_breaksBy 22 = .ok (.iload_n 1, 1) := by decide +kernel
theorem dX8_breaksBy_23 : decode cX8_breaksBy 23 = .ok (.i2l, 1) := by decide +kernel
theorem dX8_breaksBy_24 : decode cX8_breaksBy 24 = .ok (.lmul, 1) := by decide +kernel
theorem dX8_breaksBy_25 : decode cX8_breaksBy 25 = .ok (.iload_n 3, 1) := by decide +kernel
theorem dX8_breaksBy_26 : decode cX8_breaksBy 26 = .ok (.i2l, 1) := by decide +kernel
theorem dX8_breaksBy_27 : decode cX8_breaksBy 27 = .ok (.lmul, 1) := by decide +kernel
theorem dX8_breaksBy_28 : decode cX8_breaksBy 28 = .ok (.ladd, 1) := by decide +kernel
theorem dX8_breaksBy_29 : decode cX8_breaksBy 29 = .ok (.lstore 4, 2) := by decide +kernel
theorem dX8_breaksBy_31 : decode cX8_breaksBy 31 = .ok (.aload_n 0, 1) := by decide +kernel
theorem dX8_breaksBy_32 : decode cX8_breaksBy 32 = .ok (.getfield 44, 3) := by decide +kernel
theorem dX8_breaksBy_35 : decode cX8_breaksBy 35 = .ok (.bipush 17, 2) := by decide +kernel
theorem dX8_breaksBy_37 : decode cX8_breaksBy 37 = .ok (.iload_n 3, 1) := by decide +kernel
theorem dX8_breaksBy_38 : decode cX8_breaksBy 38 = .ok (.imul, 1) := by decide +kernel
theorem dX8_breaksBy_39 : decode cX8_breaksBy 39 = .ok (.laload, 1) := by decide +kernel
theorem dX8_breaksBy_40 : decode cX8_breaksBy 40 = .ok (.ldc2_w 229, 3) := by decide +kernel
theorem dX8_breaksBy_43 : decode cX8_breaksBy 43 = .ok (.lcmp, 1) := by decide +kernel
theorem dX8_breaksBy_44 : decode cX8_breaksBy 44 = .ok (.ifCond .ge 30, 3) := by decide +kernel
theorem dX8_breaksBy_47 : decode cX8_breaksBy 47 = .ok (.lload 4, 2) := by decide +kernel
theorem dX8_breaksBy_49 : decode cX8_breaksBy 49 = .ok (.aload_n 0, 1) := by decide +kernel
theorem dX8_breaksBy_50 : decode cX8_breaksBy 50 = .ok (.getfield 44, 3) := by decide +kernel
theorem dX8_breaksBy_53 : decode cX8_breaksBy 53 = .ok (.bipush 17, 2) := by decide +kernel
theorem dX8_breaksBy_55 : decode cX8_breaksBy 55 = .ok (.iload_n 2, 1) := by decide +kernel
theorem dX8_breaksBy_56 : decode cX8_breaksBy 56 = .ok (.imul, 1) := by decide +kernel
theorem dX8_breaksBy_57 : decode cX8_breaksBy 57 = .ok (.laload, 1) := by decide +kernel
theorem dX8_breaksBy_58 : decode cX8_breaksBy 58 = .ok (.ldc2_w 223, 3) := by decide +kernel
theorem dX8_breaksBy_61 : decode cX8_breaksBy 61 = .ok (.iload_n 1, 1) := by decide +kernel
theorem dX8_breaksBy_62 : decode cX8_breaksBy 62 = .ok (.i2l, 1) := by decide +kernel
theorem dX8_breaksBy_63 : decode cX8_breaksBy 63 = .ok (.lmul, 1) := by decide +kernel
theorem dX8_breaksBy_64 : decode cX8_breaksBy 64 = .ok (.iload_n 2, 1) := by decide +kernel
theorem dX8_breaksBy_65 : decode cX8_breaksBy 65 = .ok (.i2l, 1) := by decide +kernel
theorem dX8_breaksBy_66 : decode cX8_breaksBy 66 = .ok (.lmul, 1) := by decide +kernel
theorem dX8_breaksBy_67 : decode cX8_breaksBy 67 = .ok (.ladd, 1) := by decide +kernel
theorem dX8_breaksBy_68 : decode cX8_breaksBy 68 = .ok (.lcmp, 1) := by decide +kernel
theorem dX8_breaksBy_69 : decode cX8_breaksBy 69 = .ok (.ifCond .ge 5, 3) := by decide +kernel
theorem dX8_breaksBy_72 : decode cX8_breaksBy 72 = .ok (.iload_n 3, 1) := by decide +kernel
theorem dX8_breaksBy_73 : decode cX8_breaksBy 73 = .ok (.istore_n 2, 1) := by decide +kernel
theorem dX8_breaksBy_74 : decode cX8_breaksBy 74 = .ok (.iinc 3 1, 3) := by decide +kernel
theorem dX8_breaksBy_77 : decode cX8_breaksBy 77 = .ok (.goto (-73), 3) := by decide +kernel
theorem dX8_breaksBy_80 : decode cX8_breaksBy 80 = .ok (.iload_n 2, 1) := by decide +kernel
theorem dX8_breaksBy_81 : decode cX8_breaksBy 81 = .ok (.ireturn, 1) := by decide +kernel
theorem dX8_findBest_0 : decode cX8_findBest 0 = .ok (.aload_n 0, 1) := by decide +kernel
theorem dX8_findBest_1 : decode cX8_findBest 1 = .ok (.iload_n 1, 1) := by decide +kernel
theorem dX8_findBest_2 : decode cX8_findBest 2 = .ok (.iload_n 2, 1) := by decide +kernel
theorem dX8_findBest_3 : decode cX8_findBest 3 = .ok (.invokevirtual 234, 3) := by decide +kernel
theorem dX8_findBest_6 : decode cX8_findBest 6 = .ok (.aload_n 0, 1) := by decide +kernel
theorem dX8_findBest_7 : decode cX8_findBest 7 = .ok (.aload_n 0, 1) := by decide +kernel
theorem dX8_findBest_8 : decode cX8_findBest 8 = .ok (.aload_n 0, 1) := by decide +kernel
theorem dX8_findBest_9 : decode cX8_findBest 9 = .ok (.getfield 19, 3) := by decide +kernel
theorem dX8_findBest_12 : decode cX8_findBest 12 = .ok (.bipush 96, 2) := by decide +kernel
theorem dX8_findBest_14 : decode cX8_findBest 14 = .ok (.iaload, 1) := by decide +kernel
theorem dX8_findBest_15 : decode cX8_findBest 15 = .ok (.invokevirtual 237, 3) := by decide +kernel
theorem dX8_findBest_18 : decode cX8_findBest 18 = .ok (.putfield 240, 3) := by decide +kernel
theorem dX8_findBest_21 : decode cX8_findBest 21 = .ok (.iconst 0, 1) := by decide +kernel
theorem dX8_findBest_22 : decode cX8_findBest 22 = .ok (.istore_n 3, 1) := by decide +kernel
theorem dX8_findBest_23 : decode cX8_findBest 23 = .ok (.aload_n 0, 1) := by decide +kernel
theorem dX8_findBest_24 : decode cX8_findBest 24 = .ok (.getfield 240, 3) := by decide +kernel
theorem dX8_findBest_27 : decode cX8_findBest 27 = .ok (.istore 4, 2) := by decide +kernel
theorem dX8_findBest_29 : decode cX8_findBest 29 = .ok (.iload 4, 2) := by decide +kernel
theorem dX8_findBest_31 : decode cX8_findBest 31 = .ok (.ifCond .le 106, 3) := by decide +kernel
theorem dX8_findBest_34 : decode cX8_findBest 34 = .ok (.iload_n 3, 1) := by decide +kernel
theorem dX8_findBest_35 : decode cX8_findBest 35 = .ok (.aload_n 0, 1) := by decide +kernel
theorem dX8_findBest_36 : decode cX8_findBest 36 = .ok (.getfield 19, 3) := by decide +kernel
theorem dX8_findBest_39 : decode cX8_findBest 39 = .ok (.bipush 97, 2) := by decide +kernel
theorem dX8_findBest_41 : decode cX8_findBest 41 = .ok (.iaload, 1) := by decide +kernel
theorem dX8_findBest_42 : decode cX8_findBest 42 = .ok (.iadd, 1) := by decide +kernel
theorem dX8_findBest_43 : decode cX8_findBest 43 = .ok (.istore 5, 2) := by decide +kernel
theorem dX8_findBest_45 : decode cX8_findBest 45 = .ok (.aload_n 0, 1) := by decide +kernel
theorem dX8_findBest_46 : decode cX8_findBest 46 = .ok (.getfield 44, 3) := by decide +kernel
theorem dX8_findBest_49 : decode cX8_findBest 49 = .ok (.bipush 17, 2) := by decide +kernel
theorem dX8_findBest_51 : decode cX8_findBest 51 = .ok (.iload 4, 2) := by decide +kernel
theorem dX8_findBest_53 : decode cX8_findBest 53 = .ok (.iconst 1, 1) := by decide +kernel
theorem dX8_findBest_54 : decode cX8_findBest 54 = .ok (.isub, 1) := by decide +kernel
theorem dX8_findBest_55 : decode cX8_findBest 55 = .ok (.imul, 1) := by decide +kernel
theorem dX8_findBest_56 : decode cX8_findBest 56 = .ok (.iload 5, 2) := by decide +kernel
theorem dX8_findBest_58 : decode cX8_findBest 58 = .ok (.iadd, 1) := by decide +kernel
theorem dX8_findBest_59 : decode cX8_findBest 59 = .ok (.laload, 1) := by decide +kernel
theorem dX8_findBest_60 : decode cX8_findBest 60 = .ok (.ldc2_w 229, 3) := by decide +kernel
theorem dX8_findBest_63 : decode cX8_findBest 63 = .ok (.lcmp, 1) := by decide +kernel
theorem dX8_findBest_64 : decode cX8_findBest 64 = .ok (.ifCond .ge 44, 3) := by decide +kernel
theorem dX8_findBest_67 : decode cX8_findBest 67 = .ok (.aload_n 0, 1) := by decide +kernel
theorem dX8_findBest_68 : decode cX8_findBest 68 = .ok (.iload_n 3, 1) := by decide +kernel
theorem dX8_findBest_69 : decode cX8_findBest 69 = .ok (.iload 5, 2) := by decide +kernel
theorem dX8_findBest_71 : decode cX8_findBest 71 = .ok (.iconst 1, 1) := by decide +kernel
theorem dX8_findBest_72 : decode cX8_findBest 72 = .ok (.isub, 1) := by decide +kernel
theorem dX8_findBest_73 : decode cX8_findBest 73 = .ok (.invokevirtual 231, 3) := by decide +kernel
theorem dX8_findBest_76 : decode cX8_findBest 76 = .ok (.aload_n 0, 1) := by decide +kernel
theorem dX8_findBest_77 : decode cX8_findBest 77 = .ok (.getfield 44, 3) := by decide +kernel
theorem dX8_findBest_80 : decode cX8_findBest 80 = .ok (.bipush 17, 2) := by decide +kernel
theorem dX8_findBest_82 : decode cX8_findBest 82 = .ok (.iload 4, 2) := by decide +kernel
theorem dX8_findBest_84 : decode cX8_findBest 84 = .ok (.iconst 1, 1) := by decide +kernel
theorem dX8_findBest_85 : decode cX8_findBest 85 = .ok (.isub, 1) := by decide +kernel
theorem dX8_findBest_86 : decode cX8_findBest 86 = .ok (.imul, 1) := by decide +kernel
theorem dX8_findBest_87 : decode cX8_findBest 87 = .ok (.iload 5, 2) := by decide +kernel
theorem dX8_findBest_89 : decode cX8_findBest 89 = .ok (.iadd, 1) := by decide +kernel
theorem dX8_findBest_90 : decode cX8_findBest 90 = .ok (.laload, 1) := by decide +kernel
theorem dX8_findBest_91 : decode cX8_findBest 91 = .ok (.ladd, 1) := by decide +kernel
theorem dX8_findBest_92 : decode cX8_findBest 92 = .ok (.aload_n 0, 1) := by decide +kernel
theorem dX8_findBest_93 : decode cX8_findBest 93 = .ok (.getfield 44, 3) := by decide +kernel
theorem dX8_findBest_96 : decode cX8_findBest 96 = .ok (.bipush 17, 2) := by decide +kernel
theorem dX8_findBest_98 : decode cX8_findBest 98 = .ok (.iload 4, 2) := by decide +kernel
theorem dX8_findBest_100 : decode cX8_findBest 100 = .ok (.imul, 1) := by decide +kernel
theorem dX8_findBest_101 : decode cX8_findBest 101 = .ok (.iload_n 3, 1) := by decide +kernel
theorem dX8_findBest_102 : decode cX8_findBest 102 = .ok (.iadd, 1) := by decide +kernel
theorem dX8_findBest_103 : decode cX8_findBest 103 = .ok (.laload, 1) := by decide +kernel
theorem dX8_findBest_104 : decode cX8_findBest 104 = .ok (.lcmp, 1) := by decide +kernel
theorem dX8_findBest_105 : decode cX8_findBest 105 = .ok (.ifCond .eq 9, 3) := by decide +kernel
theorem dX8_findBest_108 : decode cX8_findBest 108 = .ok (.iinc 5 1, 3) := by decide +kernel
theorem dX8_findBest_111 : decode cX8_findBest 111 = .ok (.goto (-66), 3) := by decide +kernel
theorem dX8_findBest_114 : decode cX8_findBest 114 = .ok (.aload_n 0, 1) := by decide +kernel
theorem dX8_findBest_115 : decode cX8_findBest 115 = .ok (.getfield 47, 3) := by decide +kernel
theorem dX8_findBest_118 : decode cX8_findBest 118 = .ok (.aload_n 0, 1) := by decide +kernel
theorem dX8_findBest_119 : decode cX8_findBest 119 = .ok (.getfield 240, 3) := by decide +kernel
theorem dX8_findBest_122 : decode cX8_findBest 122 = .ok (.iload 4, 2) := by decide +kernel
theorem dX8_findBest_124 : decode cX8_findBest 124 = .ok (.isub, 1) := by decide +kernel
theorem dX8_findBest_125 : decode cX8_findBest 125 = .ok (.iload 5, 2) := by decide +kernel
theorem dX8_findBest_127 : decode cX8_findBest 127 = .ok (.iastore, 1) := by decide +kernel
theorem dX8_findBest_128 : decode cX8_findBest 128 = .ok (.iload 5, 2) := by decide +kernel
theorem dX8_findBest_130 : decode cX8_findBest 130 = .ok (.istore_n 3, 1) := by decide +kernel
theorem dX8_findBest_131 : decode cX8_findBest 131 = .ok (.iinc 4 (-1), 3) := by decide +kernel
theorem dX8_findBest_134 : decode cX8_findBest 134 = .ok (.goto (-105), 3) := by decide +kernel
theorem dX8_findBest_137 : decode cX8_findBest 137 = .ok (.return_, 1) := by decide +kernel
theorem dX8_entry_0 : decode cX8_entry 0 = .ok (.aload_n 0, 1) := by decide +kernel
theorem dX8_entry_1 : decode cX8_entry 1 = .ok (.iload_n 1, 1) := by decide +kernel
theorem dX8_entry_2 : decode cX8_entry 2 = .ok (.iload_n 2, 1) := by decide +kernel
theorem dX8_entry_3 : decode cX8_entry 3 = .ok (.invokevirtual 210, 3) := by decide +kernel
theorem dX8_entry_6 : decode cX8_entry 6 = .ok (.ifCond .eq 8, 3) := by decide +kernel
theorem dX8_entry_9 : decode cX8_entry 9 = .ok (.iload_n 3, 1) := by decide +kernel
theorem dX8_entry_10 : decode cX8_entry 10 = .ok (.iconst (-1), 1) := by decide +kernel
theorem dX8_entry_11 : decode cX8_entry 11 = .ok (.if_icmp .ge 5, 3) := by decide +kernel
theorem dX8_entry_14 : decode cX8_entry 14 = .ok (.iconst (-1), 1) := by decide +kernel
theorem dX8_entry_15 : decode cX8_entry 15 = .ok (.ireturn, 1) := by decide +kernel
theorem dX8_entry_16 : decode cX8_entry 16 = .ok (.aload_n 0, 1) := by decide +kernel
theorem dX8_entry_17 : decode cX8_entry 17 = .ok (.iload_n 1, 1) := by decide +kernel
theorem dX8_entry_18 : decode cX8_entry 18 = .ok (.iload_n 2, 1) := by decide +kernel
theorem dX8_entry_19 : decode cX8_entry 19 = .ok (.invokevirtual 226, 3) := by decide +kernel
theorem dX8_entry_22 : decode cX8_entry 22 = .ok (.iload_n 3, 1) := by decide +kernel
theorem dX8_entry_23 : decode cX8_entry 23 = .ok (.ifCond .ge 10, 3) := by decide +kernel
theorem dX8_entry_26 : decode cX8_entry 26 = .ok (.aload_n 0, 1) := by decide +kernel
theorem dX8_entry_27 : decode cX8_entry 27 = .ok (.getfield 216, 3) := by decide +kernel
theorem dX8_entry_30 : decode cX8_entry 30 = .ok (.goto 26, 3) := by decide +kernel
theorem dX8_entry_33 : decode cX8_entry 33 = .ok (.iload_n 3, 1) := by decide +kernel
theorem dX8_entry_34 : decode cX8_entry 34 = .ok (.aload_n 0, 1) := by decide +kernel
theorem dX8_entry_35 : decode cX8_entry 35 = .ok (.getfield 216, 3) := by decide +kernel
theorem dX8_entry_38 : decode cX8_entry 38 = .ok (.if_icmp .ge 16, 3) := by decide +kernel
theorem dX8_entry_41 : decode cX8_entry 41 = .ok (.aload_n 0, 1) := by decide +kernel
theorem dX8_entry_42 : decode cX8_entry 42 = .ok (.getfield 37, 3) := by decide +kernel
theorem dX8_entry_45 : decode cX8_entry 45 = .ok (.iload_n 3, 1) := by decide +kernel
theorem dX8_entry_46 : decode cX8_entry 46 = .ok (.laload, 1) := by decide +kernel
theorem dX8_entry_47 : decode cX8_entry 47 = .ok (.l2i, 1) := by decide +kernel
theorem dX8_entry_48 : decode cX8_entry 48 = .ok (.ldc 167, 2) := by decide +kernel
theorem dX8_entry_50 : decode cX8_entry 50 = .ok (.iadd, 1) := by decide +kernel
theorem dX8_entry_51 : decode cX8_entry 51 = .ok (.goto 5, 3) := by decide +kernel
theorem dX8_entry_54 : decode cX8_entry 54 = .ok (.bipush (-4), 2) := by decide +kernel
theorem dX8_entry_56 : decode cX8_entry 56 = .ok (.ireturn, 1) := by decide +kernel
theorem dX8_year_0 : decode cX8_year 0 = .ok (.aload_n 0, 1) := by decide +kernel
theorem dX8_year_1 : decode cX8_year 1 = .ok (.iload_n 1, 1) := by decide +kernel
theorem dX8_year_2 : decode cX8_year 2 = .ok (.iload_n 2, 1) := by decide +kernel
theorem dX8_year_3 : decode cX8_year 3 = .ok (.invokevirtual 210, 3) := by decide +kernel
theorem dX8_year_6 : decode cX8_year 6 = .ok (.ifCond .eq 7, 3) := by decide +kernel
theorem dX8_year_9 : decode cX8_year 9 = .ok (.iload_n 3, 1) := by decide +kernel
theorem dX8_year_10 : decode cX8_year 10 = .ok (.ifCond .ge 5, 3) := by decide +kernel
theorem dX8_year_13 : decode cX8_year 13 = .ok (.iconst (-1), 1) := by decide +kernel
theorem dX8_year_14 : decode cX8_year 14 = .ok (.ireturn, 1) := by decide +kernel
theorem dX8_year_15 : decode cX8_year 15 = .ok (.aload_n 0, 1) := by decide +kernel
theorem dX8_year_16 : decode cX8_year 16 = .ok (.iload_n 1, 1) := by decide +kernel
theorem dX8_year_17 : decode cX8_year 17 = .ok (.iload_n 2, 1) := by decide +kernel
theorem dX8_year_18 : decode cX8_year 18 = .ok (.invokevirtual 226, 3) := by decide +kernel
theorem dX8_year_21 : decode cX8_year 21 = .ok (.iload_n 3, 1) := by decide +kernel
theorem dX8_year_22 : decode cX8_year 22 = .ok (.aload_n 0, 1) := by decide +kernel
theorem dX8_year_23 : decode cX8_year 23 = .ok (.getfield 216, 3) := by decide +kernel
theorem dX8_year_26 : decode cX8_year 26 = .ok (.if_icmp .ge 12, 3) := by decide +kernel
theorem dX8_year_29 : decode cX8_year 29 = .ok (.aload_n 0, 1) := by decide +kernel
theorem dX8_year_30 : decode cX8_year 30 = .ok (.getfield 41, 3) := by decide +kernel
theorem dX8_year_33 : decode cX8_year 33 = .ok (.iload_n 3, 1) := by decide +kernel
theorem dX8_year_34 : decode cX8_year 34 = .ok (.iaload, 1) := by decide +kernel
theorem dX8_year_35 : decode cX8_year 35 = .ok (.goto 5, 3) := by decide +kernel
theorem dX8_year_38 : decode cX8_year 38 = .ok (.bipush (-4), 2) := by decide +kernel
theorem dX8_year_40 : decode cX8_year 40 = .ok (.ireturn, 1) := by decide +kernel
theorem dX8_spread_0 : decode cX8_spread 0 = .ok (.aload_n 0, 1) := by decide +kernel
theorem dX8_spread_1 : decode cX8_spread 1 = .ok (.iload_n 1, 1) := by decide +kernel
theorem dX8_spread_2 : decode cX8_spread 2 = .ok (.iload_n 2, 1) := by decide +kernel
theorem dX8_spread_3 : decode cX8_spread 3 = .ok (.invokevirtual 210, 3) := by decide +kernel
theorem dX8_spread_6 : decode cX8_spread 6 = .ok (.ifCond .ne 7, 3) := by decide +kernel
theorem dX8_spread_9 : decode cX8_spread 9 = .ok (.ldc2_w 243, 3) := by decide +kernel
theorem dX8_spread_12 : decode cX8_spread 12 = .ok (.lreturn, 1) := by decide +kernel
theorem dX8_spread_13 : decode cX8_spread 13 = .ok (.aload_n 0, 1) := by decide +kernel
theorem dX8_spread_14 : decode cX8_spread 14 = .ok (.iload_n 1, 1) := by decide +kernel
theorem dX8_spread_15 : decode cX8_spread 15 = .ok (.iload_n 2, 1) := by decide +kernel
theorem dX8_spread_16 : decode cX8_spread 16 = .ok (.invokevirtual 226, 3) := by decide +kernel
theorem dX8_spread_19 : decode cX8_spread 19 = .ok (.iload_n 3, 1) := by decide +kernel
theorem dX8_spread_20 : decode cX8_spread 20 = .ok (.i2l, 1) := by decide +kernel
theorem dX8_spread_21 : decode cX8_spread 21 = .ok (.lconst 0, 1) := by decide +kernel
theorem dX8_spread_22 : decode cX8_spread 22 = .ok (.aload_n 0, 1) := by decide +kernel
theorem dX8_spread_23 : decode cX8_spread 23 = .ok (.getfield 216, 3) := by decide +kernel
theorem dX8_spread_26 : decode cX8_spread 26 = .ok (.iconst 1, 1) := by decide +kernel
theorem dX8_spread_27 : decode cX8_spread 27 = .ok (.isub, 1) := by decide +kernel
theorem dX8_spread_28 : decode cX8_spread 28 = .ok (.i2l, 1) := by decide +kernel
theorem dX8_spread_29 : decode cX8_spread 29 = .ok (.invokestatic 98, 3) := by decide +kernel
theorem dX8_spread_32 : decode cX8_spread 32 = .ok (.ifCond .eq 31, 3) := by decide +kernel
theorem dX8_spread_35 : decode cX8_spread 35 = .ok (.iload 4, 2) := by decide +kernel
theorem dX8_spread_37 : decode cX8_spread 37 = .ok (.i2l, 1) := by decide +kernel
theorem dX8_spread_38 : decode cX8_spread 38 = .ok (.iload_n 3, 1) := by decide +kernel
theorem dX8_spread_39 : decode cX8_spread 39 = .ok (.i2l, 1) := by decide +kernel
theorem dX8_spread_40 : decode cX8_spread 40 = .ok (.aload_n 0, 1) := by decide +kernel
theorem dX8_spread_41 : decode cX8_spread 41 = .ok (.getfield 216, 3) := by decide +kernel
theorem dX8_spread_44 : decode cX8_spread 44 = .ok (.iconst 1, 1) := by decide +kernel
theorem dX8_spread_45 : decode cX8_spread 45 = .ok (.isub, 1) := by decide +kernel
theorem dX8_spread_46 : decode cX8_spread 46 = .ok (.i2l, 1) := by decide +kernel
theorem dX8_spread_47 : decode cX8_spread 47 = .ok (.invokestatic 98, 3) := by decide +kernel
theorem dX8_spread_50 : decode cX8_spread 50 = .ok (.ifCond .eq 13, 3) := by decide +kernel
theorem dX8_spread_53 : decode cX8_spread 53 = .ok (.aload_n 0, 1) := by decide +kernel
theorem dX8_spread_54 : decode cX8_spread 54 = .ok (.iload_n 3, 1) := by decide +kernel
theorem dX8_spread_55 : decode cX8_spread 55 = .ok (.iload 4, 2) := by decide +kernel
theorem dX8_spread_57 : decode cX8_spread 57 = .ok (.invokevirtual 231, 3) := by decide +kernel
theorem dX8_spread_60 : decode cX8_spread 60 = .ok (.goto 6, 3) := by decide +kernel
theorem dX8_spread_63 : decode cX8_spread 63 = .ok (.ldc2_w 243, 3) := by decide +kernel
theorem dX8_spread_66 : decode cX8_spread 66 = .ok (.lreturn, 1) := by decide +kernel
theorem dX8_split_0 : decode cX8_split 0 = .ok (.aload_n 0, 1) := by decide +kernel
theorem dX8_split_1 : decode cX8_split 1 = .ok (.iload_n 1, 1) := by decide +kernel
theorem dX8_split_2 : decode cX8_split 2 = .ok (.iload_n 2, 1) := by decide +kernel
theorem dX8_split_3 : decode cX8_split 3 = .ok (.invokevirtual 210, 3) := by decide +kernel
theorem dX8_split_6 : decode cX8_split 6 = .ok (.ifCond .eq 8, 3) := by decide +kernel
theorem dX8_split_9 : decode cX8_split 9 = .ok (.iload_n 3, 1) := by decide +kernel
theorem dX8_split_10 : decode cX8_split 10 = .ok (.iconst (-1), 1) := by decide +kernel
theorem dX8_split_11 : decode cX8_split 11 = .ok (.if_icmp .ge 5, 3) := by decide +kernel
theorem dX8_split_14 : decode cX8_split 14 = .ok (.iconst (-1), 1) := by decide +kernel
theorem dX8_split_15 : decode cX8_split 15 = .ok (.ireturn, 1) := by decide +kernel
theorem dX8_split_16 : decode cX8_split 16 = .ok (.aload_n 0, 1) := by decide +kernel
theorem dX8_split_17 : decode cX8_split 17 = .ok (.iload_n 1, 1) := by decide +kernel
theorem dX8_split_18 : decode cX8_split 18 = .ok (.iload_n 2, 1) := by decide +kernel
theorem dX8_split_19 : decode cX8_split 19 = .ok (.invokevirtual 245, 3) := by decide +kernel
theorem dX8_split_22 : decode cX8_split 22 = .ok (.iload_n 3, 1) := by decide +kernel
theorem dX8_split_23 : decode cX8_split 23 = .ok (.ifCond .ge 10, 3) := by decide +kernel
theorem dX8_split_26 : decode cX8_split 26 = .ok (.aload_n 0, 1) := by decide +kernel
theorem dX8_split_27 : decode cX8_split 27 = .ok (.getfield 240, 3) := by decide +kernel
theorem dX8_split_30 : decode cX8_split 30 = .ok (.goto 27, 3) := by decide +kernel
theorem dX8_split_33 : decode cX8_split 33 = .ok (.iload_n 3, 1) := by decide +kernel
theorem dX8_split_34 : decode cX8_split 34 = .ok (.aload_n 0, 1) := by decide +kernel
theorem dX8_split_35 : decode cX8_split 35 = .ok (.getfield 240, 3) := by decide +kernel
theorem dX8_split_38 : decode cX8_split 38 = .ok (.if_icmp .ge 17, 3) := by decide +kernel
theorem dX8_split_41 : decode cX8_split 41 = .ok (.aload_n 0, 1) := by decide +kernel
theorem dX8_split_42 : decode cX8_split 42 = .ok (.getfield 41, 3) := by decide +kernel
theorem dX8_split_45 : decode cX8_split 45 = .ok (.aload_n 0, 1) := by decide +kernel
theorem dX8_split_46 : decode cX8_split 46 = .ok (.getfield 47, 3) := by decide +kernel
theorem dX8_split_49 : decode cX8_split 49 = .ok (.iload_n 3, 1) := by decide +kernel
theorem dX8_split_50 : decode cX8_split 50 = .ok (.iaload, 1) := by decide +kernel
theorem dX8_split_51 : decode cX8_split 51 = .ok (.iaload, 1) := by decide +kernel
theorem dX8_split_52 : decode cX8_split 52 = .ok (.goto 5, 3) := by decide +kernel
theorem dX8_split_55 : decode cX8_split 55 = .ok (.bipush (-4), 2) := by decide +kernel
theorem dX8_split_57 : decode cX8_split 57 = .ok (.ireturn, 1) := by decide +kernel
theorem dX8_cost_0 : decode cX8_cost 0 = .ok (.aload_n 0, 1) := by decide +kernel
theorem dX8_cost_1 : decode cX8_cost 1 = .ok (.iload_n 1, 1) := by decide +kernel
theorem dX8_cost_2 : decode cX8_cost 2 = .ok (.iload_n 2, 1) := by decide +kernel
theorem dX8_cost_3 : decode cX8_cost 3 = .ok (.invokevirtual 210, 3) := by decide +kernel
theorem dX8_cost_6 : decode cX8_cost 6 = .ok (.ifCond .ne 7, 3) := by decide +kernel
theorem dX8_cost_9 : decode cX8_cost 9 = .ok (.ldc2_w 243, 3) := by decide +kernel
theorem dX8_cost_12 : decode cX8_cost 12 = .ok (.lreturn, 1) := by decide +kernel
theorem dX8_cost_13 : decode cX8_cost 13 = .ok (.aload_n 0, 1) := by decide +kernel
theorem dX8_cost_14 : decode cX8_cost 14 = .ok (.iload_n 1, 1) := by decide +kernel
theorem dX8_cost_15 : decode cX8_cost 15 = .ok (.iload_n 2, 1) := by decide +kernel
theorem dX8_cost_16 : decode cX8_cost 16 = .ok (.invokevirtual 245, 3) := by decide +kernel
theorem dX8_cost_19 : decode cX8_cost 19 = .ok (.aload_n 0, 1) := by decide +kernel
theorem dX8_cost_20 : decode cX8_cost 20 = .ok (.getfield 44, 3) := by decide +kernel
theorem dX8_cost_23 : decode cX8_cost 23 = .ok (.bipush 17, 2) := by decide +kernel
theorem dX8_cost_25 : decode cX8_cost 25 = .ok (.aload_n 0, 1) := by decide +kernel
theorem dX8_cost_26 : decode cX8_cost 26 = .ok (.getfield 240, 3) := by decide +kernel
theorem dX8_cost_29 : decode cX8_cost 29 = .ok (.imul, 1) := by decide +kernel
theorem dX8_cost_30 : decode cX8_cost 30 = .ok (.laload, 1) := by decide +kernel
theorem dX8_cost_31 : decode cX8_cost 31 = .ok (.ldc2_w 223, 3) := by decide +kernel
theorem dX8_cost_34 : decode cX8_cost 34 = .ok (.aload_n 0, 1) := by decide +kernel
theorem dX8_cost_35 : decode cX8_cost 35 = .ok (.getfield 19, 3) := by decide +kernel
theorem dX8_cost_38 : decode cX8_cost 38 = .ok (.bipush 96, 2) := by decide +kernel
theorem dX8_cost_40 : decode cX8_cost 40 = .ok (.iaload, 1) := by decide +kernel
theorem dX8_cost_41 : decode cX8_cost 41 = .ok (.i2l, 1) := by decide +kernel
theorem dX8_cost_42 : decode cX8_cost 42 = .ok (.lmul, 1) := by decide +kernel
theorem dX8_cost_43 : decode cX8_cost 43 = .ok (.aload_n 0, 1) := by decide +kernel
theorem dX8_cost_44 : decode cX8_cost 44 = .ok (.getfield 240, 3) := by decide +kernel
theorem dX8_cost_47 : decode cX8_cost 47 = .ok (.i2l, 1) := by decide +kernel
theorem dX8_cost_48 : decode cX8_cost 48 = .ok (.lmul, 1) := by decide +kernel
theorem dX8_cost_49 : decode cX8_cost 49 = .ok (.ladd, 1) := by decide +kernel
theorem dX8_cost_50 : decode cX8_cost 50 = .ok (.lreturn, 1) := by decide +kernel
theorem dX8_spreads_0 : decode cX8_spreads 0 = .ok (.aload_n 0, 1) := by decide +kernel
theorem dX8_spreads_1 : decode cX8_spreads 1 = .ok (.iload_n 1, 1) := by decide +kernel
theorem dX8_spreads_2 : decode cX8_spreads 2 = .ok (.iload_n 2, 1) := by decide +kernel
theorem dX8_spreads_3 : decode cX8_spreads 3 = .ok (.invokevirtual 210, 3) := by decide +kernel
theorem dX8_spreads_6 : decode cX8_spreads 6 = .ok (.ifCond .eq 7, 3) := by decide +kernel
theorem dX8_spreads_9 : decode cX8_spreads 9 = .ok (.iload_n 3, 1) := by decide +kernel
theorem dX8_spreads_10 : decode cX8_spreads 10 = .ok (.ifCond .ge 7, 3) := by decide +kernel
theorem dX8_spreads_13 : decode cX8_spreads 13 = .ok (.ldc2_w 243, 3) := by decide +kernel
theorem dX8_spreads_16 : decode cX8_spreads 16 = .ok (.lreturn, 1) := by decide +kernel
theorem dX8_spreads_17 : decode cX8_spreads 17 = .ok (.aload_n 0, 1) := by decide +kernel
theorem dX8_spreads_18 : decode cX8_spreads 18 = .ok (.iload_n 1, 1) := by decide +kernel
theorem dX8_spreads_19 : decode cX8_spreads 19 = .ok (.iload_n 2, 1) := by decide +kernel
theorem dX8_spreads_20 : decode cX8_spreads 20 = .ok (.invokevirtual 234, 3) := by decide +kernel
theorem dX8_spreads_23 : decode cX8_spreads 23 = .ok (.iload_n 3, 1) := by decide +kernel
theorem dX8_spreads_24 : decode cX8_spreads 24 = .ok (.bipush 16, 2) := by decide +kernel
theorem dX8_spreads_26 : decode cX8_spreads 26 = .ok (.if_icmp .ge 31, 3) := by decide +kernel
theorem dX8_spreads_29 : decode cX8_spreads 29 = .ok (.aload_n 0, 1) := by decide +kernel
theorem dX8_spreads_30 : decode cX8_spreads 30 = .ok (.getfield 44, 3) := by decide +kernel
theorem dX8_spreads_33 : decode cX8_spreads 33 = .ok (.bipush 17, 2) := by decide +kernel
theorem dX8_spreads_35 : decode cX8_spreads 35 = .ok (.iload_n 3, 1) := by decide +kernel
theorem dX8_spreads_36 : decode cX8_spreads 36 = .ok (.imul, 1) := by decide +kernel
theorem dX8_spreads_37 : decode cX8_spreads 37 = .ok (.laload, 1) := by decide +kernel
theorem dX8_spreads_38 : decode cX8_spreads 38 = .ok (.ldc2_w 229, 3) := by decide +kernel
theorem dX8_spreads_41 : decode cX8_spreads 41 = .ok (.lcmp, 1) := by decide +kernel
theorem dX8_spreads_42 : decode cX8_spreads 42 = .ok (.ifCond .ge 15, 3) := by decide +kernel
theorem dX8_spreads_45 : decode cX8_spreads 45 = .ok (.aload_n 0, 1) := by decide +kernel
theorem dX8_spreads_46 : decode cX8_spreads 46 = .ok (.getfield 44, 3) := by decide +kernel
theorem dX8_spreads_49 : decode cX8_spreads 49 = .ok (.bipush 17, 2) := by decide +kernel
theorem dX8_spreads_51 : decode cX8_spreads 51 = .ok (.iload_n 3, 1) := by decide +kernel
theorem dX8_spreads_52 : decode cX8_spreads 52 = .ok (.imul, 1) := by decide +kernel
theorem dX8_spreads_53 : decode cX8_spreads 53 = .ok (.laload, 1) := by decide +kernel
theorem dX8_spreads_54 : decode cX8_spreads 54 = .ok (.goto 6, 3) := by decide +kernel
theorem dX8_spreads_57 : decode cX8_spreads 57 = .ok (.ldc2_w 248, 3) := by decide +kernel
theorem dX8_spreads_60 : decode cX8_spreads 60 = .ok (.lreturn, 1) := by decide +kernel
theorem dX8_breaks_0 : decode cX8_breaks 0 = .ok (.aload_n 0, 1) := by decide +kernel
theorem dX8_breaks_1 : decode cX8_breaks 1 = .ok (.iload_n 1, 1) := by decide +kernel
theorem dX8_breaks_2 : decode cX8_breaks 2 = .ok (.iload_n 2, 1) := by decide +kernel
theorem dX8_breaks_3 : decode cX8_breaks 3 = .ok (.invokevirtual 210, 3) := by decide +kernel
theorem dX8_breaks_6 : decode cX8_breaks 6 = .ok (.ifCond .eq 15, 3) := by decide +kernel
theorem dX8_breaks_9 : decode cX8_breaks 9 = .ok (.iload_n 3, 1) := by decide +kernel
theorem dX8_breaks_10 : decode cX8_breaks 10 = .ok (.i2l, 1) := by decide +kernel
theorem dX8_breaks_11 : decode cX8_breaks 11 = .ok (.lconst 0, 1) := by decide +kernel
theorem dX8_breaks_12 : decode cX8_breaks 12 = .ok (.ldc2_w 188, 3) := by decide +kernel
theorem dX8_breaks_15 : decode cX8_breaks 15 = .ok (.invokestatic 98, 3) := by decide +kernel
theorem dX8_breaks_18 : decode cX8_breaks 18 = .ok (.ifCond .ne 5, 3) := by decide +kernel
theorem dX8_breaks_21 : decode cX8_breaks 21 = .ok (.iconst (-1), 1) := by decide +kernel
theorem dX8_breaks_22 : decode cX8_breaks 22 = .ok (.ireturn, 1) := by decide +kernel
theorem dX8_breaks_23 : decode cX8_breaks 23 = .ok (.aload_n 0, 1) := by decide +kernel
theorem dX8_breaks_24 : decode cX8_breaks 24 = .ok (.iload_n 1, 1) := by decide +kernel
theorem dX8_breaks_25 : decode cX8_breaks 25 = .ok (.iload_n 2, 1) := by decide +kernel
theorem dX8_breaks_26 : decode cX8_breaks 26 = .ok (.invokevirtual 234, 3) := by decide +kernel
theorem dX8_breaks_29 : decode cX8_breaks 29 = .ok (.aload_n 0, 1) := by decide +kernel
theorem dX8_breaks_30 : decode cX8_breaks 30 = .ok (.iload_n 3, 1) := by decide +kernel
theorem dX8_breaks_31 : decode cX8_breaks 31 = .ok (.invokevirtual 237, 3) := by decide +kernel
theorem dX8_breaks_34 : decode cX8_breaks 34 = .ok (.ireturn, 1) := by decide +kernel
theorem dX8_least_0 : decode cX8_least 0 = .ok (.aload_n 0, 1) := by decide +kernel
theorem dX8_least_1 : decode cX8_least 1 = .ok (.iload_n 1, 1) := by decide +kernel
theorem dX8_least_2 : decode cX8_least 2 = .ok (.iload_n 2, 1) := by decide +kernel
theorem dX8_least_3 : decode cX8_least 3 = .ok (.invokevirtual 210, 3) := by decide +kernel
theorem dX8_least_6 : decode cX8_least 6 = .ok (.ifCond .eq 7, 3) := by decide +kernel
theorem dX8_least_9 : decode cX8_least 9 = .ok (.iload_n 3, 1) := by decide +kernel
theorem dX8_least_10 : decode cX8_least 10 = .ok (.ifCond .ge 5, 3) := by decide +kernel
theorem dX8_least_13 : decode cX8_least 13 = .ok (.iconst (-1), 1) := by decide +kernel
theorem dX8_least_14 : decode cX8_least 14 = .ok (.ireturn, 1) := by decide +kernel
theorem dX8_least_15 : decode cX8_least 15 = .ok (.aload_n 0, 1) := by decide +kernel
theorem dX8_least_16 : decode cX8_least 16 = .ok (.iload_n 1, 1) := by decide +kernel
theorem dX8_least_17 : decode cX8_least 17 = .ok (.iload_n 2, 1) := by decide +kernel
theorem dX8_least_18 : decode cX8_least 18 = .ok (.invokevirtual 234, 3) := by decide +kernel
theorem dX8_least_21 : decode cX8_least 21 = .ok (.iconst 0, 1) := by decide +kernel
theorem dX8_least_22 : decode cX8_least 22 = .ok (.istore 4, 2) := by decide +kernel
theorem dX8_least_24 : decode cX8_least 24 = .ok (.iload 4, 2) := by decide +kernel
theorem dX8_least_26 : decode cX8_least 26 = .ok (.ldc 83, 2) := by decide +kernel
theorem dX8_least_28 : decode cX8_least 28 = .ok (.if_icmp .gt 22, 3) := by decide +kernel
theorem dX8_least_31 : decode cX8_least 31 = .ok (.aload_n 0, 1) := by decide +kernel
theorem dX8_least_32 : decode cX8_least 32 = .ok (.iload 4, 2) := by decide +kernel
theorem dX8_least_34 : decode cX8_least 34 = .ok (.invokevirtual 237, 3) := by decide +kernel
theorem dX8_least_37 : decode cX8_least 37 = .ok (.iload_n 3, 1) := by decide +kernel
theorem dX8_least_38 : decode cX8_least 38 = .ok (.if_icmp .gt 6, 3) := by decide +kernel
theorem dX8_least_41 : decode cX8_least 41 = .ok (.iload 4, 2) := by decide +kernel
theorem dX8_least_43 : decode cX8_least 43 = .ok (.ireturn, 1) := by decide +kernel
theorem dX8_least_44 : decode cX8_least 44 = .ok (.iinc 4 1, 3) := by decide +kernel
theorem dX8_least_47 : decode cX8_least 47 = .ok (.goto (-23), 3) := by decide +kernel
theorem dX8_least_50 : decode cX8_least 50 = .ok (.bipush (-4), 2) := by decide +kernel
theorem dX8_least_52 : decode cX8_least 52 = .ok (.ireturn, 1) := by decide +kernel
theorem dX8_findBreaks_0 : decode cX8_findBreaks 0 = .ok (.iconst 0, 1) := by decide +kernel
theorem dX8_findBreaks_1 : decode cX8_findBreaks 1 = .ok (.istore_n 1, 1) := by decide +kernel
theorem dX8_findBreaks_2 : decode cX8_findBreaks 2 = .ok (.iload_n 1, 1) := by decide +kernel
theorem dX8_findBreaks_3 : decode cX8_findBreaks 3 = .ok (.aload_n 0, 1) := by decide +kernel
theorem dX8_findBreaks_4 : decode cX8_findBreaks 4 = .ok (.getfield 148, 3) := by decide +kernel
theorem dX8_findBreaks_7 : decode cX8_findBreaks 7 = .ok (.if_icmp .ge 127, 3) := by decide +kernel
theorem dX8_findBreaks_10 : decode cX8_findBreaks 10 = .ok (.iload_n 1, 1) := by decide +kernel
theorem dX8_findBreaks_11 : decode cX8_findBreaks 11 = .ok (.iconst 1, 1) := by decide +kernel
theorem dX8_findBreaks_12 : decode cX8_findBreaks 12 = .ok (.iadd, 1) := by decide +kernel
theorem dX8_findBreaks_13 : decode cX8_findBreaks 13 = .ok (.istore_n 2, 1) := by decide +kernel
theorem dX8_findBreaks_14 : decode cX8_findBreaks 14 = .ok (.iload_n 2, 1) := by decide +kernel
theorem dX8_findBreaks_15 : decode cX8_findBreaks 15 = .ok (.aload_n 0, 1) := by decide +kernel
theorem dX8_findBreaks_16 : decode cX8_findBreaks 16 = .ok (.getfield 148, 3) := by decide +kernel
theorem dX8_findBreaks_19 : decode cX8_findBreaks 19 = .ok (.if_icmp .ge 109, 3) := by decide +kernel
theorem dX8_findBreaks_22 : decode cX8_findBreaks 22 = .ok (.iconst 0, 1) := by decide +kernel
theorem dX8_findBreaks_23 : decode cX8_findBreaks 23 = .ok (.istore_n 3, 1) := by decide +kernel
theorem dX8_findBreaks_24 : decode cX8_findBreaks 24 = .ok (.aload_n 0, 1) := by decide +kernel
theorem dX8_findBreaks_25 : decode cX8_findBreaks 25 = .ok (.iload_n 1, 1) := by decide +kernel
theorem dX8_findBreaks_26 : decode cX8_findBreaks 26 = .ok (.iload_n 2, 1) := by decide +kernel
theorem dX8_findBreaks_27 : decode cX8_findBreaks 27 = .ok (.invokevirtual 213, 3) := by decide +kernel
theorem dX8_findBreaks_30 : decode cX8_findBreaks 30 = .ok (.ifCond .eq 44, 3) := by decide +kernel
theorem dX8_findBreaks_33 : decode cX8_findBreaks 33 = .ok (.aload_n 0, 1) := by decide +kernel
theorem dX8_findBreaks_34 : decode cX8_findBreaks 34 = .ok (.iload_n 1, 1) := by decide +kernel
theorem dX8_findBreaks_35 : decode cX8_findBreaks 35 = .ok (.iload_n 2, 1) := by decide +kernel
theorem dX8_findBreaks_36 : decode cX8_findBreaks 36 = .ok (.invokevirtual 245, 3) := by decide +kernel
theorem dX8_findBreaks_39 : decode cX8_findBreaks 39 = .ok (.iconst 0, 1) := by decide +kernel
theorem dX8_findBreaks_40 : decode cX8_findBreaks 40 = .ok (.istore 4, 2) := by decide +kernel
theorem dX8_findBreaks_42 : decode cX8_findBreaks 42 = .ok (.iload 4, 2) := by decide +kernel
theorem dX8_findBreaks_44 : decode cX8_findBreaks 44 = .ok (.aload_n 0, 1) := by decide +kernel
theorem dX8_findBreaks_45 : decode cX8_findBreaks 45 = .ok (.getfield 240, 3) := by decide +kernel
theorem dX8_findBreaks_48 : decode cX8_findBreaks 48 = .ok (.if_icmp .ge 26, 3) := by decide +kernel
theorem dX8_findBreaks_51 : decode cX8_findBreaks 51 = .ok (.iload_n 3, 1) := by decide +kernel
theorem dX8_findBreaks_52 : decode cX8_findBreaks 52 = .ok (.iconst 1, 1) := by decide +kernel
theorem dX8_findBreaks_53 : decode cX8_findBreaks 53 = .ok (.aload_n 0, 1) := by decide +kernel
theorem dX8_findBreaks_54 : decode cX8_findBreaks 54 = .ok (.getfield 41, 3) := by decide +kernel
theorem dX8_findBreaks_57 : decode cX8_findBreaks 57 = .ok (.aload_n 0, 1) := by decide +kernel
theorem dX8_findBreaks_58 : decode cX8_findBreaks 58 = .ok (.getfield 47, 3) := by decide +kernel
theorem dX8_findBreaks_61 : decode cX8_findBreaks 61 = .ok (.iload 4, 2) := by decide +kernel
theorem dX8_findBreaks_63 : decode cX8_findBreaks 63 = .ok (.iaload, 1) := by decide +kernel
theorem dX8_findBreaks_64 : decode cX8_findBreaks 64 = .ok (.iaload, 1) := by decide +kernel
theorem dX8_findBreaks_65 : decode cX8_findBreaks 65 = .ok (.ishl, 1) := by decide +kernel
theorem dX8_findBreaks_66 : decode cX8_findBreaks 66 = .ok (.ior, 1) := by decide +kernel
theorem dX8_findBreaks_67 : decode cX8_findBreaks 67 = .ok (.istore_n 3, 1) := by decide +kernel
theorem dX8_findBreaks_68 : decode cX8_findBreaks 68 = .ok (.iinc 4 1, 3) := by decide +kernel
theorem dX8_findBreaks_71 : decode cX8_findBreaks 71 = .ok (.goto (-29), 3) := by decide +kernel
theorem dX8_findBreaks_74 : decode cX8_findBreaks 74 = .ok (.aload_n 0, 1) := by decide +kernel
theorem dX8_findBreaks_75 : decode cX8_findBreaks 75 = .ok (.getfield 50, 3) := by decide +kernel
theorem dX8_findBreaks_78 : decode cX8_findBreaks 78 = .ok (.bipush 6, 2) := by decide +kernel
theorem dX8_findBreaks_80 : decode cX8_findBreaks 80 = .ok (.iload_n 1, 1) := by decide +kernel
theorem dX8_findBreaks_81 : decode cX8_findBreaks 81 = .ok (.imul, 1) := by decide +kernel
theorem dX8_findBreaks_82 : decode cX8_findBreaks 82 = .ok (.iload_n 2, 1) := by decide +kernel
theorem dX8_findBreaks_83 : decode cX8_findBreaks 83 = .ok (.iadd, 1) := by decide +kernel
theorem dX8_findBreaks_84 : decode cX8_findBreaks 84 = .ok (.iload_n 3, 1) := by decide +kernel
theorem dX8_findBreaks_85 : decode cX8_findBreaks 85 = .ok (.iastore, 1) := by decide +kernel
theorem dX8_findBreaks_86 : decode cX8_findBreaks 86 = .ok (.aload_n 0, 1) := by decide +kernel
theorem dX8_findBreaks_87 : decode cX8_findBreaks 87 = .ok (.getfield 50, 3) := by decide +kernel
theorem dX8_findBreaks_90 : decode cX8_findBreaks 90 = .ok (.bipush 6, 2) := by decide +kernel
theorem dX8_findBreaks_92 : decode cX8_findBreaks 92 = .ok (.iload_n 2, 1) := by decide +kernel
theorem dX8_findBreaks_93 : decode cX8_findBreaks 93 = .ok (.imul, 1) := by decide +kernel
theorem dX8_findBreaks_94 : decode cX8_findBreaks 94 = .ok (.iload_n 1, 1) := by decide +kernel
theorem dX8_findBreaks_95 : decode cX8_findBreaks 95 = .ok (.iadd, 1) := by decide +kernel
theorem dX8_findBreaks_96 : decode cX8_findBreaks 96 = .ok (.iload_n 3, 1) := by decide +kernel
theorem dX8_findBreaks_97 : decode cX8_findBreaks 97 = .ok (.iastore, 1) := by decide +kernel
theorem dX8_findBreaks_98 : decode cX8_findBreaks 98 = .ok (.aload_n 0, 1) := by decide +kernel
theorem dX8_findBreaks_99 : decode cX8_findBreaks 99 = .ok (.getfield 53, 3) := by decide +kernel
theorem dX8_findBreaks_102 : decode cX8_findBreaks 102 = .ok (.bipush 6, 2) := by decide +kernel
theorem dX8_findBreaks_104 : decode cX8_findBreaks 104 = .ok (.iload_n 1, 1) := by decide +kernel
theorem dX8_findBreaks_105 : decode cX8_findBreaks 105 = .ok (.imul, 1) := by decide +kernel
theorem dX8_findBreaks_106 : decode cX8_findBreaks 106 = .ok (.iload_n 2, 1) := by decide +kernel
theorem dX8_findBreaks_107 : decode cX8_findBreaks 107 = .ok (.iadd, 1) := by decide +kernel
theorem dX8_findBreaks_108 : decode cX8_findBreaks 108 = .ok (.iload_n 3, 1) := by decide +kernel
theorem dX8_findBreaks_109 : decode cX8_findBreaks 109 = .ok (.iastore, 1) := by decide +kernel
theorem dX8_findBreaks_110 : decode cX8_findBreaks 110 = .ok (.aload_n 0, 1) := by decide +kernel
theorem dX8_findBreaks_111 : decode cX8_findBreaks 111 = .ok (.getfield 53, 3) := by decide +kernel
theorem dX8_findBreaks_114 : decode cX8_findBreaks 114 = .ok (.bipush 6, 2) := by decide +kernel
theorem dX8_findBreaks_116 : decode cX8_findBreaks 116 = .ok (.iload_n 2, 1) := by decide +kernel
theorem dX8_findBreaks_117 : decode cX8_findBreaks 117 = .ok (.imul, 1) := by decide +kernel
theorem dX8_findBreaks_118 : decode cX8_findBreaks 118 = .ok (.iload_n 1, 1) := by decide +kernel
theorem dX8_findBreaks_119 : decode cX8_findBreaks 119 = .ok (.iadd, 1) := by decide +kernel
theorem dX8_findBreaks_120 : decode cX8_findBreaks 120 = .ok (.iload_n 3, 1) := by decide +kernel
theorem dX8_findBreaks_121 : decode cX8_findBreaks 121 = .ok (.iastore, 1) := by decide +kernel
theorem dX8_findBreaks_122 : decode cX8_findBreaks 122 = .ok (.iinc 2 1, 3) := by decide +kernel
theorem dX8_findBreaks_125 : decode cX8_findBreaks 125 = .ok (.goto (-111), 3) := by decide +kernel
theorem dX8_findBreaks_128 : decode cX8_findBreaks 128 = .ok (.iinc 1 1, 3) := by decide +kernel
theorem dX8_findBreaks_131 : decode cX8_findBreaks 131 = .ok (.goto (-129), 3) := by decide +kernel
theorem dX8_findBreaks_134 : decode cX8_findBreaks 134 = .ok (.return_, 1) := by decide +kernel
theorem dX8_withWhom_0 : decode cX8_withWhom 0 = .ok (.iconst 0, 1) := by decide +kernel
theorem dX8_withWhom_1 : decode cX8_withWhom 1 = .ok (.istore 4, 2) := by decide +kernel
theorem dX8_withWhom_3 : decode cX8_withWhom 3 = .ok (.iconst 0, 1) := by decide +kernel
theorem dX8_withWhom_4 : decode cX8_withWhom 4 = .ok (.istore 5, 2) := by decide +kernel
theorem dX8_withWhom_6 : decode cX8_withWhom 6 = .ok (.iload 5, 2) := by decide +kernel
theorem dX8_withWhom_8 : decode cX8_withWhom 8 = .ok (.aload_n 0, 1) := by decide +kernel
theorem dX8_withWhom_9 : decode cX8_withWhom 9 = .ok (.getfield 148, 3) := by decide +kernel
theorem dX8_withWhom_12 : decode cX8_withWhom 12 = .ok (.if_icmp .ge 44, 3) := by decide +kernel
theorem dX8_withWhom_15 : decode cX8_withWhom 15 = .ok (.iload 4, 2) := by decide +kernel
theorem dX8_withWhom_17 : decode cX8_withWhom 17 = .ok (.iload 5, 2) := by decide +kernel
theorem dX8_withWhom_19 : decode cX8_withWhom 19 = .ok (.iload_n 2, 1) := by decide +kernel
theorem dX8_withWhom_20 : decode cX8_withWhom 20 = .ok (.if_icmp .eq 26, 3) := by decide +kernel
theorem dX8_withWhom_23 : decode cX8_withWhom 23 = .ok (.aload_n 1, 1) := by decide +kernel
theorem dX8_withWhom_24 : decode cX8_withWhom 24 = .ok (.bipush 6, 2) := by decide +kernel
theorem dX8_withWhom_26 : decode cX8_withWhom 26 = .ok (.iload_n 2, 1) := by decide +kernel
theorem dX8_withWhom_27 : decode cX8_withWhom 27 = .ok (.imul, 1) := by decide +kernel
theorem dX8_withWhom_28 : decode cX8_withWhom 28 = .ok (.iload 5, 2) := by decide +kernel
theorem dX8_withWhom_30 : decode cX8_withWhom 30 = .ok (.iadd, 1) := by decide +kernel
theorem dX8_withWhom_31 : decode cX8_withWhom 31 = .ok (.iaload, 1) := by decide +kernel
theorem dX8_withWhom_32 : decode cX8_withWhom 32 = .ok (.iload_n 3, 1) := by decide +kernel
theorem dX8_withWhom_33 : decode cX8_withWhom 33 = .ok (.invokestatic 250, 3) := by decide +kernel
theorem dX8_withWhom_36 : decode cX8_withWhom 36 = .ok (.ifCond .eq 10, 3) := by decide +kernel
theorem dX8_withWhom_39 : decode cX8_withWhom 39 = .ok (.iconst 1, 1) := by decide +kernel
theorem dX8_withWhom_40 : decode cX8_withWhom 40 = .ok (.iload 5, 2) := by decide +kernel
theorem dX8_withWhom_42 : decode cX8_withWhom 42 = .ok (.ishl, 1) := by decide +kernel
theorem dX8_withWhom_43 : decode cX8_withWhom 43 = .ok (.goto 4, 3) := by decide +kernel
theorem dX8_withWhom_46 : decode cX8_withWhom 46 = .ok (.iconst 0, 1) := by decide +kernel
theorem dX8_withWhom_47 : decode cX8_withWhom 47 = .ok (.ior, 1) := by decide +kernel
theorem dX8_withWhom_48 : decode cX8_withWhom 48 = .ok (.istore 4, 2) := by decide +kernel
theorem dX8_withWhom_50 : decode cX8_withWhom 50 = .ok (.iinc 5 1, 3) := by decide +kernel
theorem dX8_withWhom_53 : decode cX8_withWhom 53 = .ok (.goto (-47), 3) := by decide +kernel
theorem dX8_withWhom_56 : decode cX8_withWhom 56 = .ok (.iload 4, 2) := by decide +kernel
theorem dX8_withWhom_58 : decode cX8_withWhom 58 = .ok (.ireturn, 1) := by decide +kernel
theorem dX8_ones_0 : decode cX8_ones 0 = .ok (.iconst 0, 1) := by decide +kernel
theorem dX8_ones_1 : decode cX8_ones 1 = .ok (.istore_n 1, 1) := by decide +kernel
theorem dX8_ones_2 : decode cX8_ones 2 = .ok (.iload_n 0, 1) := by decide +kernel
theorem dX8_ones_3 : decode cX8_ones 3 = .ok (.istore_n 2, 1) := by decide +kernel
theorem dX8_ones_4 : decode cX8_ones 4 = .ok (.iload_n 2, 1) := by decide +kernel
theorem dX8_ones_5 : decode cX8_ones 5 = .ok (.ifCond .eq 15, 3) := by decide +kernel
theorem dX8_ones_8 : decode cX8_ones 8 = .ok (.iinc 1 1, 3) := by decide +kernel
theorem dX8_ones_11 : decode cX8_ones 11 = .ok (.iload_n 2, 1) := by decide +kernel
theorem dX8_ones_12 : decode cX8_ones 12 = .ok (.iload_n 2, 1) := by decide +kernel
theorem dX8_ones_13 : decode cX8_ones 13 = .ok (.iconst 1, 1) := by decide +kernel
theorem dX8_ones_14 : decode cX8_ones 14 = .ok (.isub, 1) := by decide +kernel
theorem dX8_ones_15 : decode cX8_ones 15 = .ok (.iand, 1) := by decide +kernel
theorem dX8_ones_16 : decode cX8_ones 16 = .ok (.istore_n 2, 1) := by decide +kernel
theorem dX8_ones_17 : decode cX8_ones 17 = .ok (.goto (-13), 3) := by decide +kernel
theorem dX8_ones_20 : decode cX8_ones 20 = .ok (.iload_n 1, 1) := by decide +kernel
theorem dX8_ones_21 : decode cX8_ones 21 = .ok (.ireturn, 1) := by decide +kernel
theorem dX8_finds_0 : decode cX8_finds 0 = .ok (.aload_n 0, 1) := by decide +kernel
theorem dX8_finds_1 : decode cX8_finds 1 = .ok (.getfield 56, 3) := by decide +kernel
theorem dX8_finds_4 : decode cX8_finds 4 = .ok (.aload_n 0, 1) := by decide +kernel
theorem dX8_finds_5 : decode cX8_finds 5 = .ok (.getfield 253, 3) := by decide +kernel
theorem dX8_finds_8 : decode cX8_finds 8 = .ok (.iload_n 1, 1) := by decide +kernel
theorem dX8_finds_9 : decode cX8_finds 9 = .ok (.iastore, 1) := by decide +kernel
theorem dX8_finds_10 : decode cX8_finds 10 = .ok (.aload_n 0, 1) := by decide +kernel
theorem dX8_finds_11 : decode cX8_finds 11 = .ok (.getfield 59, 3) := by decide +kernel
theorem dX8_finds_14 : decode cX8_finds 14 = .ok (.aload_n 0, 1) := by decide +kernel
theorem dX8_finds_15 : decode cX8_finds 15 = .ok (.getfield 253, 3) := by decide +kernel
theorem dX8_finds_18 : decode cX8_finds 18 = .ok (.iload_n 2, 1) := by decide +kernel
theorem dX8_finds_19 : decode cX8_finds 19 = .ok (.iastore, 1) := by decide +kernel
theorem dX8_finds_20 : decode cX8_finds 20 = .ok (.aload_n 0, 1) := by decide +kernel
theorem dX8_finds_21 : decode cX8_finds 21 = .ok (.getfield 65, 3) := by decide +kernel
theorem dX8_finds_24 : decode cX8_finds 24 = .ok (.aload_n 0, 1) := by decide +kernel
theorem dX8_finds_25 : decode cX8_finds 25 = .ok (.getfield 253, 3) := by decide +kernel
theorem dX8_finds_28 : decode cX8_finds 28 = .ok (.aload_n 0, 1) := by decide +kernel
theorem dX8_finds_29 : decode cX8_finds 29 = .ok (.aload_n 0, 1) := by decide +kernel
theorem dX8_finds_30 : decode cX8_finds 30 = .ok (.getfield 53, 3) := by decide +kernel
theorem dX8_finds_33 : decode cX8_finds 33 = .ok (.iload_n 1, 1) := by decide +kernel
theorem dX8_finds_34 : decode cX8_finds 34 = .ok (.iload_n 2, 1) := by decide +kernel
theorem dX8_finds_35 : decode cX8_finds 35 = .ok (.invokevirtual 256, 3) := by decide +kernel
theorem dX8_finds_38 : decode cX8_finds 38 = .ok (.iastore, 1) := by decide +kernel
theorem dX8_finds_39 : decode cX8_finds 39 = .ok (.aload_n 0, 1) := by decide +kernel
theorem dX8_finds_40 : decode cX8_finds 40 = .ok (.getfield 62, 3) := by decide +kernel
theorem dX8_finds_43 : decode cX8_finds 43 = .ok (.aload_n 0, 1) := by decide +kernel
theorem dX8_finds_44 : decode cX8_finds 44 = .ok (.getfield 253, 3) := by decide +kernel
theorem dX8_finds_47 : decode cX8_finds 47 = .ok (.aload_n 0, 1) := by decide +kernel
theorem dX8_finds_48 : decode cX8_finds 48 = .ok (.getfield 65, 3) := by decide +kernel
theorem dX8_finds_51 : decode cX8_finds 51 = .ok (.aload_n 0, 1) := by decide +kernel
theorem dX8_finds_52 : decode cX8_finds 52 = .ok (.getfield 253, 3) := by decide +kernel
theorem dX8_finds_55 : decode cX8_finds 55 = .ok (.iaload, 1) := by decide +kernel
theorem dX8_finds_56 : decode cX8_finds 56 = .ok (.invokestatic 260, 3) := by decide +kernel
theorem dX8_finds_59 : decode cX8_finds 59 = .ok (.iastore, 1) := by decide +kernel
theorem dX8_finds_60 : decode cX8_finds 60 = .ok (.aload_n 0, 1) := by decide +kernel
theorem dX8_finds_61 : decode cX8_finds 61 = .ok (.dup, 1) := by decide +kernel
theorem dX8_finds_62 : decode cX8_finds 62 = .ok (.getfield 253, 3) := by decide +kernel
theorem dX8_finds_65 : decode cX8_finds 65 = .ok (.iconst 1, 1) := by decide +kernel
theorem dX8_finds_66 : decode cX8_finds 66 = .ok (.iadd, 1) := by decide +kernel
theorem dX8_finds_67 : decode cX8_finds 67 = .ok (.putfield 253, 3) := by decide +kernel
theorem dX8_finds_70 : decode cX8_finds 70 = .ok (.aload_n 0, 1) := by decide +kernel
theorem dX8_finds_71 : decode cX8_finds 71 = .ok (.getfield 19, 3) := by decide +kernel
theorem dX8_finds_74 : decode cX8_finds 74 = .ok (.bipush 100, 2) := by decide +kernel
theorem dX8_finds_76 : decode cX8_finds 76 = .ok (.iaload, 1) := by decide +kernel
theorem dX8_finds_77 : decode cX8_finds 77 = .ok (.istore_n 3, 1) := by decide +kernel
theorem dX8_finds_78 : decode cX8_finds 78 = .ok (.iconst 0, 1) := by decide +kernel
theorem dX8_finds_79 : decode cX8_finds 79 = .ok (.istore 4, 2) := by decide +kernel
theorem dX8_finds_81 : decode cX8_finds 81 = .ok (.iload 4, 2) := by decide +kernel
theorem dX8_finds_83 : decode cX8_finds 83 = .ok (.aload_n 0, 1) := by decide +kernel
theorem dX8_finds_84 : decode cX8_finds 84 = .ok (.getfield 148, 3) := by decide +kernel
theorem dX8_finds_87 : decode cX8_finds 87 = .ok (.if_icmp .ge 93, 3) := by decide +kernel
theorem dX8_finds_90 : decode cX8_finds 90 = .ok (.iload_n 2, 1) := by decide +kernel
theorem dX8_finds_91 : decode cX8_finds 91 = .ok (.iload_n 3, 1) := by decide +kernel
theorem dX8_finds_92 : decode cX8_finds 92 = .ok (.isub, 1) := by decide +kernel
theorem dX8_finds_93 : decode cX8_finds 93 = .ok (.istore 5, 2) := by decide +kernel
theorem dX8_finds_95 : decode cX8_finds 95 = .ok (.iload 5, 2) := by decide +kernel
theorem dX8_finds_97 : decode cX8_finds 97 = .ok (.iload_n 2, 1) := by decide +kernel
theorem dX8_finds_98 : decode cX8_finds 98 = .ok (.iload_n 3, 1) := by decide +kernel
theorem dX8_finds_99 : decode cX8_finds 99 = .ok (.iadd, 1) := by decide +kernel
theorem dX8_finds_100 : decode cX8_finds 100 = .ok (.if_icmp .gt 74, 3) := by decide +kernel
theorem dX8_finds_103 : decode cX8_finds 103 = .ok (.iload 4, 2) := by decide +kernel
theorem dX8_finds_105 : decode cX8_finds 105 = .ok (.iload_n 1, 1) := by decide +kernel
theorem dX8_finds_106 : decode cX8_finds 106 = .ok (.if_icmp .eq 68, 3) := by decide +kernel
theorem dX8_finds_109 : decode cX8_finds 109 = .ok (.iload 5, 2) := by decide +kernel
theorem dX8_finds_111 : decode cX8_finds 111 = .ok (.i2l, 1) := by decide +kernel
theorem dX8_finds_112 : decode cX8_finds 112 = .ok (.lconst 0, 1) := by decide +kernel
theorem dX8_finds_113 : decode cX8_finds 113 = .ok (.aload_n 0, 1) := by decide +kernel
theorem dX8_finds_114 : decode cX8_finds 114 = .ok (.getfield 151, 3) := by decide +kernel
theorem dX8_finds_117 : decode cX8_finds 117 = .ok (.iconst 1, 1) := by decide +kernel
theorem dX8_finds_118 : decode cX8_finds 118 = .ok (.isub, 1) := by decide +kernel
theorem dX8_finds_119 : decode cX8_finds 119 = .ok (.i2l, 1) := by decide +kernel
theorem dX8_finds_120 : decode cX8_finds 120 = .ok (.invokestatic 98, 3) := by decide +kernel
theorem dX8_finds_123 : decode cX8_finds 123 = .ok (.ifCond .eq 45, 3) := by decide +kernel
theorem dX8_finds_126 : decode cX8_finds 126 = .ok (.aload_n 0, 1) := by decide +kernel
theorem dX8_finds_127 : decode cX8_finds 127 = .ok (.getfield 53, 3) := by decide +kernel
theorem dX8_finds_130 : decode cX8_finds 130 = .ok (.bipush 6, 2) := by decide +kernel
theorem dX8_finds_132 : decode cX8_finds 132 = .ok (.iload_n 1, 1) := by decide +kernel
theorem dX8_finds_133 : decode cX8_finds 133 = .ok (.imul, 1) := by decide +kernel
theorem dX8_finds_134 : decode cX8_finds 134 = .ok (.iload 4, 2) := by decide +kernel
theorem dX8_finds_136 : decode cX8_finds 136 = .ok (.iadd, 1) := by decide +kernel
theorem dX8_finds_137 : decode cX8_finds 137 = .ok (.dup2, 1) := by decide +kernel
theorem dX8_finds_138 : decode cX8_finds 138 = .ok (.iaload, 1) := by decide +kernel
theorem dX8_finds_139 : decode cX8_finds 139 = .ok (.iconst 1, 1) := by decide +kernel
theorem dX8_finds_140 : decode cX8_finds 140 = .ok (.iload 5, 2) := by decide +kernel
theorem dX8_finds_142 : decode cX8_finds 142 = .ok (.ishl, 1) := by decide +kernel
theorem dX8_finds_143 : decode cX8_finds 143 = .ok (.iconst (-1), 1) := by decide +kernel
theorem dX8_finds_144 : decode cX8_finds 144 = .ok (.ixor, 1) := by decide +kernel
theorem dX8_finds_145 : decode cX8_finds 145 = .ok (.iand, 1) := by decide +kernel
theorem dX8_finds_146 : decode cX8_finds 146 = .ok (.iastore, 1) := by decide +kernel
theorem dX8_finds_147 : decode cX8_finds 147 = .ok (.aload_n 0, 1) := by decide +kernel
theorem dX8_finds_148 : decode cX8_finds 148 = .ok (.getfield 53, 3) := by decide +kernel
theorem dX8_finds_151 : decode cX8_finds 151 = .ok (.bipush 6, 2) := by decide +kernel
theorem dX8_finds_153 : decode cX8_finds 153 = .ok (.iload 4, 2) := by decide +kernel
theorem dX8_finds_155 : decode cX8_finds 155 = .ok (.imul, 1) := by decide +kernel
theorem dX8_finds_156 : decode cX8_finds 156 = .ok (.iload_n 1, 1) := by decide +kernel
theorem dX8_finds_157 : decode cX8_finds 157 = .ok (.iadd, 1) := by decide +kernel
theorem dX8_finds_158 : decode cX8_finds 158 = .ok (.dup2, 1) := by decide +kernel
theorem dX8_finds_159 : decode cX8_finds 159 = .ok (.iaload, 1) := by decide +kernel
theorem dX8_finds_160 : decode cX8_finds 160 = .ok (.iconst 1, 1) := by decide +kernel
theorem dX8_finds_161 : decode cX8_finds 161 = .ok (.iload 5, 2) := by decide +kernel
theorem dX8_finds_163 : decode cX8_finds 163 = .ok (.ishl, 1) := by decide +kernel
theorem dX8_finds_164 : decode cX8_finds 164 = .ok (.iconst (-1), 1) := by decide +kernel
theorem dX8_finds_165 : decode cX8_finds 165 = .ok (.ixor, 1) := by decide +kernel
theorem dX8_finds_166 : decode cX8_finds 166 = .ok (.iand, 1) := by decide +kernel
theorem dX8_finds_167 : decode cX8_finds 167 = .ok (.iastore, 1) := by decide +kernel
theorem dX8_finds_168 : decode cX8_finds 168 = .ok (.iinc 5 1, 3) := by decide +kernel
theorem dX8_finds_171 : decode cX8_finds 171 = .ok (.goto (-76), 3) := by decide +kernel
theorem dX8_finds_174 : decode cX8_finds 174 = .ok (.iinc 4 1, 3) := by decide +kernel
theorem dX8_finds_177 : decode cX8_finds 177 = .ok (.goto (-96), 3) := by decide +kernel
theorem dX8_finds_180 : decode cX8_finds 180 = .ok (.return_, 1) := by decide +kernel
theorem dX8_know_0 : decode cX8_know 0 = .ok (.aload_n 0, 1) := by decide +kernel
theorem dX8_know_1 : decode cX8_know 1 = .ok (.getfield 157, 3) := by decide +kernel
theorem dX8_know_4 : decode cX8_know 4 = .ok (.ifCond .eq 4, 3) := by decide +kernel
theorem dX8_know_7 : decode cX8_know 7 = .ok (.return_, 1) := by decide +kernel
theorem dX8_know_8 : decode cX8_know 8 = .ok (.aload_n 0, 1) := by decide +kernel
theorem dX8_know_9 : decode cX8_know 9 = .ok (.iconst 1, 1) := by decide +kernel
theorem dX8_know_10 : decode cX8_know 10 = .ok (.putfield 157, 3) := by decide +kernel
theorem dX8_know_13 : decode cX8_know 13 = .ok (.aload_n 0, 1) := by decide +kernel
theorem dX8_know_14 : decode cX8_know 14 = .ok (.invokevirtual 263, 3) := by decide +kernel
theorem dX8_know_17 : decode cX8_know 17 = .ok (.aload_n 0, 1) := by decide +kernel
theorem dX8_know_18 : decode cX8_know 18 = .ok (.iconst 0, 1) := by decide +kernel
theorem dX8_know_19 : decode cX8_know 19 = .ok (.putfield 253, 3) := by decide +kernel
theorem dX8_know_22 : decode cX8_know 22 = .ok (.iconst 1, 1) := by decide +kernel
theorem dX8_know_23 : decode cX8_know 23 = .ok (.istore_n 1, 1) := by decide +kernel
theorem dX8_know_24 : decode cX8_know 24 = .ok (.iload_n 1, 1) := by decide +kernel
theorem dX8_know_25 : decode cX8_know 25 = .ok (.ifCond .eq 115, 3) := by decide +kernel
theorem dX8_know_28 : decode cX8_know 28 = .ok (.aload_n 0, 1) := by decide +kernel
theorem dX8_know_29 : decode cX8_know 29 = .ok (.getfield 19, 3) := by decide +kernel
theorem dX8_know_32 : decode cX8_know 32 = .ok (.bipush 99, 2) := by decide +kernel
theorem dX8_know_34 : decode cX8_know 34 = .ok (.iaload, 1) := by decide +kernel
theorem dX8_know_35 : decode cX8_know 35 = .ok (.iconst 1, 1) := by decide +kernel
theorem dX8_know_36 : decode cX8_know 36 = .ok (.isub, 1) := by decide +kernel
theorem dX8_know_37 : decode cX8_know 37 = .ok (.istore_n 2, 1) := by decide +kernel
theorem dX8_know_38 : decode cX8_know 38 = .ok (.bipush (-4), 2) := by decide +kernel
theorem dX8_know_40 : decode cX8_know 40 = .ok (.istore_n 3, 1) := by decide +kernel
theorem dX8_know_41 : decode cX8_know 41 = .ok (.bipush (-4), 2) := by decide +kernel
theorem dX8_know_43 : decode cX8_know 43 = .ok (.istore 4, 2) := by decide +kernel
theorem dX8_know_45 : decode cX8_know 45 = .ok (.iconst 0, 1) := by decide +kernel
theorem dX8_know_46 : decode cX8_know 46 = .ok (.istore 5, 2) := by decide +kernel
theorem dX8_know_48 : decode cX8_know 48 = .ok (.iload 5, 2) := by decide +kernel
theorem dX8_know_50 : decode cX8_know 50 = .ok (.aload_n 0, 1) := by decide +kernel
theorem dX8_know_51 : decode cX8_know 51 = .ok (.getfield 148, 3) := by decide +kernel
theorem dX8_know_54 : decode cX8_know 54 = .ok (.if_icmp .ge 60, 3) := by decide +kernel
theorem dX8_know_57 : decode cX8_know 57 = .ok (.iconst 0, 1) := by decide +kernel
theorem dX8_know_58 : decode cX8_know 58 = .ok (.istore 6, 2) := by decide +kernel
theorem dX8_know_60 : decode cX8_know 60 = .ok (.iload 6, 2) := by decide +kernel
theorem dX8_know_62 : decode cX8_know 62 = .ok (.aload_n 0, 1) := by decide +kernel
theorem dX8_know_63 : decode cX8_know 63 = .ok (.getfield 151, 3) := by decide +kernel
theorem dX8_know_66 : decode cX8_know 66 = .ok (.if_icmp .ge 42, 3) := by decide +kernel
theorem dX8_know_69 : decode cX8_know 69 = .ok (.aload_n 0, 1) := by decide +kernel
theorem dX8_know_70 : decode cX8_know 70 = .ok (.aload_n 0, 1) := by decide +kernel
theorem dX8_know_71 : decode cX8_know 71 = .ok (.getfield 53, 3) := by decide +kernel
theorem dX8_know_74 : decode cX8_know 74 = .ok (.iload 5, 2) := by decide +kernel
theorem dX8_know_76 : decode cX8_know 76 = .ok (.iload 6, 2) := by decide +kernel
theorem dX8_know_78 : decode cX8_know 78 = .ok (.invokevirtual 256, 3) := by decide +kernel
theorem dX8_know_81 : decode cX8_know 81 = .ok (.invokestatic 260, 3) := by decide +kernel
theorem dX8_know_84 : decode cX8_know 84 = .ok (.istore 7, 2) := by decide +kernel
theorem dX8_know_86 : decode cX8_know 86 = .ok (.iload 7, 2) := by decide +kernel
theorem dX8_know_88 : decode cX8_know 88 = .ok (.iload_n 2, 1) := by decide +kernel
theorem dX8_know_89 : decode cX8_know 89 = .ok (.if_icmp .le 13, 3) := by decide +kernel
theorem dX8_know_92 : decode cX8_know 92 = .ok (.iload 7, 2) := by decide +kernel
theorem dX8_know_94 : decode cX8_know 94 = .ok (.istore_n 2, 1) := by decide +kernel
theorem dX8_know_95 : decode cX8_know 95 = .ok (.iload 5, 2) := by decide +kernel
theorem dX8_know_97 : decode cX8_know 97 = .ok (.istore_n 3, 1) := by decide +kernel
theorem dX8_know_98 : decode cX8_know 98 = .ok (.iload 6, 2) := by decide +kernel
theorem dX8_know_100 : decode cX8_know 100 = .ok (.istore 4, 2) := by decide +kernel
theorem dX8_know_102 : decode cX8_know 102 = .ok (.iinc 6 1, 3) := by decide +kernel
theorem dX8_know_105 : decode cX8_know 105 = .ok (.goto (-45), 3) := by decide +kernel
theorem dX8_know_108 : decode cX8_know 108 = .ok (.iinc 5 1, 3) := by decide +kernel
theorem dX8_know_111 : decode cX8_know 111 = .ok (.goto (-63), 3) := by decide +kernel
theorem dX8_know_114 : decode cX8_know 114 = .ok (.iload_n 3, 1) := by decide +kernel
theorem dX8_know_115 : decode cX8_know 115 = .ok (.bipush (-4), 2) := by decide +kernel
theorem dX8_know_117 : decode cX8_know 117 = .ok (.if_icmp .eq 7, 3) := by decide +kernel
theorem dX8_know_120 : decode cX8_know 120 = .ok (.iconst 1, 1) := by decide +kernel
theorem dX8_know_121 : decode cX8_know 121 = .ok (.goto 4, 3) := by decide +kernel
theorem dX8_know_124 : decode cX8_know 124 = .ok (.iconst 0, 1) := by decide +kernel
theorem dX8_know_125 : decode cX8_know 125 = .ok (.istore_n 1, 1) := by decide +kernel
theorem dX8_know_126 : decode cX8_know 126 = .ok (.iload_n 1, 1) := by decide +kernel
theorem dX8_know_127 : decode cX8_know 127 = .ok (.ifCond .eq 10, 3) := by decide +kernel
theorem dX8_know_130 : decode cX8_know 130 = .ok (.aload_n 0, 1) := by decide +kernel
theorem dX8_know_131 : decode cX8_know 131 = .ok (.iload_n 3, 1) := by decide +kernel
theorem dX8_know_132 : decode cX8_know 132 = .ok (.iload 4, 2) := by decide +kernel
theorem dX8_know_134 : decode cX8_know 134 = .ok (.invokevirtual 266, 3) := by decide +kernel
theorem dX8_know_137 : decode cX8_know 137 = .ok (.goto (-113), 3) := by decide +kernel
theorem dX8_know_140 : decode cX8_know 140 = .ok (.return_, 1) := by decide +kernel
theorem dX8_votes_0 : decode cX8_votes 0 = .ok (.aload_n 0, 1) := by decide +kernel
theorem dX8_votes_1 : decode cX8_votes 1 = .ok (.iload_n 1, 1) := by decide +kernel
theorem dX8_votes_2 : decode cX8_votes 2 = .ok (.invokevirtual 161, 3) := by decide +kernel
theorem dX8_votes_5 : decode cX8_votes 5 = .ok (.ifCond .eq 11, 3) := by decide +kernel
theorem dX8_votes_8 : decode cX8_votes 8 = .ok (.aload_n 0, 1) := by decide +kernel
theorem dX8_votes_9 : decode cX8_votes 9 = .ok (.iload_n 2, 1) := by decide +kernel
theorem dX8_votes_10 : decode cX8_votes 10 = .ok (.invokevirtual 171, 3) := by decide +kernel
theorem dX8_votes_13 : decode cX8_votes 13 = .ok (.ifCond .ne 5, 3) := by decide +kernel
theorem dX8_votes_16 : decode cX8_votes 16 = .ok (.iconst (-1), 1) := by decide +kernel
theorem dX8_votes_17 : decode cX8_votes 17 = .ok (.ireturn, 1) := by decide +kernel
theorem dX8_votes_18 : decode cX8_votes 18 = .ok (.aload_n 0, 1) := by decide +kernel
theorem dX8_votes_19 : decode cX8_votes 19 = .ok (.invokevirtual 269, 3) := by decide +kernel
theorem dX8_votes_22 : decode cX8_votes 22 = .ok (.aload_n 0, 1) := by decide +kernel
theorem dX8_votes_23 : decode cX8_votes 23 = .ok (.aload_n 0, 1) := by decide +kernel
theorem dX8_votes_24 : decode cX8_votes 24 = .ok (.getfield 50, 3) := by decide +kernel
theorem dX8_votes_27 : decode cX8_votes 27 = .ok (.iload_n 1, 1) := by decide +kernel
theorem dX8_votes_28 : decode cX8_votes 28 = .ok (.iload_n 2, 1) := by decide +kernel
theorem dX8_votes_29 : decode cX8_votes 29 = .ok (.invokevirtual 256, 3) := by decide +kernel
theorem dX8_votes_32 : decode cX8_votes 32 = .ok (.invokestatic 260, 3) := by decide +kernel
theorem dX8_votes_35 : decode cX8_votes 35 = .ok (.ireturn, 1) := by decide +kernel
theorem dX8_nearestOf_0 : decode cX8_nearestOf 0 = .ok (.ldc2_w 192, 3) := by decide +kernel
theorem dX8_nearestOf_3 : decode cX8_nearestOf 3 = .ok (.lload_n 0, 1) := by decide +kernel
theorem dX8_nearestOf_4 : decode cX8_nearestOf 4 = .ok (.lmul, 1) := by decide +kernel
theorem dX8_nearestOf_5 : decode cX8_nearestOf 5 = .ok (.lload_n 2, 1) := by decide +kernel
theorem dX8_nearestOf_6 : decode cX8_nearestOf 6 = .ok (.ladd, 1) := by decide +kernel
theorem dX8_nearestOf_7 : decode cX8_nearestOf 7 = .ok (.lstore 4, 2) := by decide +kernel
theorem dX8_nearestOf_9 : decode cX8_nearestOf 9 = .ok (.ldc2_w 192, 3) := by decide +kernel
theorem dX8_nearestOf_12 : decode cX8_nearestOf 12 = .ok (.lload_n 2, 1) := by decide +kernel
theorem dX8_nearestOf_13 : decode cX8_nearestOf 13 = .ok (.lmul, 1) := by decide +kernel
theorem dX8_nearestOf_14 : decode cX8_nearestOf 14 = .ok (.lstore 6, 2) := by decide +kernel
theorem dX8_nearestOf_16 : decode cX8_nearestOf 16 = .ok (.lload 4, 2) := by decide +kernel
theorem dX8_nearestOf_18 : decode cX8_nearestOf 18 = .ok (.lload 6, 2) := by decide +kernel
theorem dX8_nearestOf_20 : decode cX8_nearestOf 20 = .ok (.ldiv, 1) := by decide +kernel
theorem dX8_nearestOf_21 : decode cX8_nearestOf 21 = .ok (.lstore 8, 2) := by decide +kernel
theorem dX8_nearestOf_23 : decode cX8_nearestOf 23 = .ok (.lload 8, 2) := by decide +kernel
theorem dX8_nearestOf_25 : decode cX8_nearestOf 25 = .ok (.lload 6, 2) := by decide +kernel
theorem dX8_nearestOf_27 : decode cX8_nearestOf 27 = .ok (.lmul, 1) := by decide +kernel
theorem dX8_nearestOf_28 : decode cX8_nearestOf 28 = .ok (.lload 4, 2) := by decide +kernel
theorem dX8_nearestOf_30 : decode cX8_nearestOf 30 = .ok (.lcmp, 1) := by decide +kernel
theorem dX8_nearestOf_31 : decode cX8_nearestOf 31 = .ok (.ifCond .le 10, 3) := by decide +kernel
theorem dX8_nearestOf_34 : decode cX8_nearestOf 34 = .ok (.lload 8, 2) := by decide +kernel
theorem dX8_nearestOf_36 : decode cX8_nearestOf 36 = .ok (.lconst 1, 1) := by decide +kernel
theorem dX8_nearestOf_37 : decode cX8_nearestOf 37 = .ok (.lsub, 1) := by decide +kernel
theorem dX8_nearestOf_38 : decode cX8_nearestOf 38 = .ok (.goto 5, 3) := by decide +kernel
theorem dX8_nearestOf_41 : decode cX8_nearestOf 41 = .ok (.lload 8, 2) := by decide +kernel
theorem dX8_nearestOf_43 : decode cX8_nearestOf 43 = .ok (.lreturn, 1) := by decide +kernel
theorem dX8_rises_0 : decode cX8_rises 0 = .ok (.aload_n 0, 1) := by decide +kernel
theorem dX8_rises_1 : decode cX8_rises 1 = .ok (.iload_n 1, 1) := by decide +kernel
theorem dX8_rises_2 : decode cX8_rises 2 = .ok (.iload_n 2, 1) := by decide +kernel
theorem dX8_rises_3 : decode cX8_rises 3 = .ok (.if_icmp .ge 7, 3) := by decide +kernel
theorem dX8_rises_6 : decode cX8_rises 6 = .ok (.iload_n 1, 1) := by decide +kernel
theorem dX8_rises_7 : decode cX8_rises 7 = .ok (.goto 4, 3) := by decide +kernel
theorem dX8_rises_10 : decode cX8_rises 10 = .ok (.iload_n 2, 1) := by decide +kernel
theorem dX8_rises_11 : decode cX8_rises 11 = .ok (.iload_n 1, 1) := by decide +kernel
theorem dX8_rises_12 : decode cX8_rises 12 = .ok (.iload_n 2, 1) := by decide +kernel
theorem dX8_rises_13 : decode cX8_rises 13 = .ok (.if_icmp .ge 7, 3) := by decide +kernel
theorem dX8_rises_16 : decode cX8_rises 16 = .ok (.iload_n 2, 1) := by decide +kernel
theorem dX8_rises_17 : decode cX8_rises 17 = .ok (.goto 4, 3) := by decide +kernel
theorem dX8_rises_20 : decode cX8_rises 20 = .ok (.iload_n 1, 1) := by decide +kernel
theorem dX8_rises_21 : decode cX8_rises 21 = .ok (.invokevirtual 245, 3) := by decide +kernel
theorem dX8_rises_24 : decode cX8_rises 24 = .ok (.lconst 0, 1) := by decide +kernel
theorem dX8_rises_25 : decode cX8_rises 25 = .ok (.lstore 4, 2) := by decide +kernel
theorem dX8_rises_27 : decode cX8_rises 27 = .ok (.iconst 0, 1) := by decide +kernel
theorem dX8_rises_28 : decode cX8_rises 28 = .ok (.istore 6, 2) := by decide +kernel
theorem dX8_rises_30 : decode cX8_rises 30 = .ok (.iload 6, 2) := by decide +kernel
theorem dX8_rises_32 : decode cX8_rises 32 = .ok (.aload_n 0, 1) := by decide +kernel
theorem dX8_rises_33 : decode cX8_rises 33 = .ok (.getfield 240, 3) := by decide +kernel
theorem dX8_rises_36 : decode cX8_rises 36 = .ok (.if_icmp .ge 121, 3) := by decide +kernel
theorem dX8_rises_39 : decode cX8_rises 39 = .ok (.iload 6, 2) := by decide +kernel
theorem dX8_rises_41 : decode cX8_rises 41 = .ok (.ifCond .ne 7, 3) := by decide +kernel
theorem dX8_rises_44 : decode cX8_rises 44 = .ok (.iconst 0, 1) := by decide +kernel
theorem dX8_rises_45 : decode cX8_rises 45 = .ok (.goto 12, 3) := by decide +kernel
theorem dX8_rises_48 : decode cX8_rises 48 = .ok (.aload_n 0, 1) := by decide +kernel
theorem dX8_rises_49 : decode cX8_rises 49 = .ok (.getfield 47, 3) := by decide +kernel
theorem dX8_rises_52 : decode cX8_rises 52 = .ok (.iload 6, 2) := by decide +kernel
theorem dX8_rises_54 : decode cX8_rises 54 = .ok (.iconst 1, 1) := by decide +kernel
theorem dX8_rises_55 : decode cX8_rises 55 = .ok (.isub, 1) := by decide +kernel
theorem dX8_rises_56 : decode cX8_rises 56 = .ok (.iaload, 1) := by decide +kernel
theorem dX8_rises_57 : decode cX8_rises 57 = .ok (.istore 7, 2) := by decide +kernel
theorem dX8_rises_59 : decode cX8_rises 59 = .ok (.aload_n 0, 1) := by decide +kernel
theorem dX8_rises_60 : decode cX8_rises 60 = .ok (.getfield 47, 3) := by decide +kernel
theorem dX8_rises_63 : decode cX8_rises 63 = .ok (.iload 6, 2) := by decide +kernel
theorem dX8_rises_65 : decode cX8_rises 65 = .ok (.iaload, 1) := by decide +kernel
theorem dX8_rises_66 : decode cX8_rises 66 = .ok (.istore 8, 2) := by decide +kernel
theorem dX8_rises_68 : decode cX8_rises 68 = .ok (.iload 6, 2) := by decide +kernel
theorem dX8_rises_70 : decode cX8_rises 70 = .ok (.iconst 1, 1) := by decide +kernel
theorem dX8_rises_71 : decode cX8_rises 71 = .ok (.iadd, 1) := by decide +kernel
theorem dX8_rises_72 : decode cX8_rises 72 = .ok (.aload_n 0, 1) := by decide +kernel
theorem dX8_rises_73 : decode cX8_rises 73 = .ok (.getfield 240, 3) := by decide +kernel
theorem dX8_rises_76 : decode cX8_rises 76 = .ok (.if_icmp .ge 15, 3) := by decide +kernel
theorem dX8_rises_79 : decode cX8_rises 79 = .ok (.aload_n 0, 1) := by decide +kernel
theorem dX8_rises_80 : decode cX8_rises 80 = .ok (.getfield 47, 3) := by decide +kernel
theorem dX8_rises_83 : decode cX8_rises 83 = .ok (.iload 6, 2) := by decide +kernel
theorem dX8_rises_85 : decode cX8_rises 85 = .ok (.iconst 1, 1) := by decide +kernel
theorem dX8_rises_86 : decode cX8_rises 86 = .ok (.iadd, 1) := by decide +kernel
theorem dX8_rises_87 : decode cX8_rises 87 = .ok (.iaload, 1) := by decide +kernel
theorem dX8_rises_88 : decode cX8_rises 88 = .ok (.goto 7, 3) := by decide +kernel
theorem dX8_rises_91 : decode cX8_rises 91 = .ok (.aload_n 0, 1) := by decide +kernel
theorem dX8_rises_92 : decode cX8_rises 92 = .ok (.getfield 216, 3) := by decide +kernel
theorem dX8_rises_95 : decode cX8_rises 95 = .ok (.istore 9, 2) := by decide +kernel
theorem dX8_rises_97 : decode cX8_rises 97 = .ok (.aload_n 0, 1) := by decide +kernel
theorem dX8_rises_98 : decode cX8_rises 98 = .ok (.getfield 41, 3) := by decide +kernel
theorem dX8_rises_101 : decode cX8_rises 101 = .ok (.iload 8, 2) := by decide +kernel
theorem dX8_rises_103 : decode cX8_rises 103 = .ok (.iaload, 1) := by decide +kernel
theorem dX8_rises_104 : decode cX8_rises 104 = .ok (.iload_n 3, 1) := by decide +kernel
theorem dX8_rises_105 : decode cX8_rises 105 = .ok (.if_icmp .ne 46, 3) := by decide +kernel
theorem dX8_rises_108 : decode cX8_rises 108 = .ok (.ldc 225, 2) := by decide +kernel
theorem dX8_rises_110 : decode cX8_rises 110 = .ok (.iload 9, 2) := by decide +kernel
theorem dX8_rises_112 : decode cX8_rises 112 = .ok (.iload 8, 2) := by decide +kernel
theorem dX8_rises_114 : decode cX8_rises 114 = .ok (.isub, 1) := by decide +kernel
theorem dX8_rises_115 : decode cX8_rises 115 = .ok (.idiv, 1) := by decide +kernel
theorem dX8_rises_116 : decode cX8_rises 116 = .ok (.i2l, 1) := by decide +kernel
theorem dX8_rises_117 : decode cX8_rises 117 = .ok (.aload_n 0, 1) := by decide +kernel
theorem dX8_rises_118 : decode cX8_rises 118 = .ok (.iload 8, 2) := by decide +kernel
theorem dX8_rises_120 : decode cX8_rises 120 = .ok (.iload 9, 2) := by decide +kernel
theorem dX8_rises_122 : decode cX8_rises 122 = .ok (.iconst 1, 1) := by decide +kernel
theorem dX8_rises_123 : decode cX8_rises 123 = .ok (.isub, 1) := by decide +kernel
theorem dX8_rises_124 : decode cX8_rises 124 = .ok (.invokevirtual 219, 3) := by decide +kernel
theorem dX8_rises_127 : decode cX8_rises 127 = .ok (.lmul, 1) := by decide +kernel
theorem dX8_rises_128 : decode cX8_rises 128 = .ok (.ldc 225, 2) := by decide +kernel
theorem dX8_rises_130 : decode cX8_rises 130 = .ok (.iload 8, 2) := by decide +kernel
theorem dX8_rises_132 : decode cX8_rises 132 = .ok (.iload 7, 2) := by decide +kernel
theorem dX8_rises_134 : decode cX8_rises 134 = .ok (.isub, 1) := by decide +kernel
theorem dX8_rises_135 : decode cX8_rises 135 = .ok (.idiv, 1) := by decide +kernel
theorem dX8_rises_136 : decode cX8_rises 136 = .ok (.i2l, 1) := by decide +kernel
theorem dX8_rises_137 : decode cX8_rises 137 = .ok (.aload_n 0, 1) := by decide +kernel
theorem dX8_rises_138 : decode cX8_rises 138 = .ok (.iload 7, 2) := by decide +kernel
theorem dX8_rises_140 : decode cX8_rises 140 = .ok (.iload 8, 2) := by decide +kernel
theorem dX8_rises_142 : decode cX8_rises 142 = .ok (.iconst 1, 1) := by decide +kernel
theorem dX8_rises_143 : decode cX8_rises 143 = .ok (.isub, 1) := by decide +kernel
theorem dX8_rises_144 : decode cX8_rises 144 = .ok (.invokevirtual 219, 3) := by decide +kernel
theorem dX8_rises_147 : decode cX8_rises 147 = .ok (.lmul, 1) := by decide +kernel
theorem dX8_rises_148 : decode cX8_rises 148 = .ok (.lsub, 1) := by decide +kernel
theorem dX8_rises_149 : decode cX8_rises 149 = .ok (.lstore 4, 2) := by decide +kernel
theorem dX8_rises_151 : decode cX8_rises 151 = .ok (.iinc 6 1, 3) := by decide +kernel
theorem dX8_rises_154 : decode cX8_rises 154 = .ok (.goto (-124), 3) := by decide +kernel
theorem dX8_rises_157 : decode cX8_rises 157 = .ok (.iload_n 1, 1) := by decide +kernel
theorem dX8_rises_158 : decode cX8_rises 158 = .ok (.iload_n 2, 1) := by decide +kernel
theorem dX8_rises_159 : decode cX8_rises 159 = .ok (.if_icmp .ge 8, 3) := by decide +kernel
theorem dX8_rises_162 : decode cX8_rises 162 = .ok (.lload 4, 2) := by decide +kernel
theorem dX8_rises_164 : decode cX8_rises 164 = .ok (.goto 6, 3) := by decide +kernel
theorem dX8_rises_167 : decode cX8_rises 167 = .ok (.lload 4, 2) := by decide +kernel
theorem dX8_rises_169 : decode cX8_rises 169 = .ok (.lneg, 1) := by decide +kernel
theorem dX8_rises_170 : decode cX8_rises 170 = .ok (.lreturn, 1) := by decide +kernel
theorem dX8_sizeOf_0 : decode cX8_sizeOf 0 = .ok (.lconst 0, 1) := by decide +kernel
theorem dX8_sizeOf_1 : decode cX8_sizeOf 1 = .ok (.lstore_n 2, 1) := by decide +kernel
theorem dX8_sizeOf_2 : decode cX8_sizeOf 2 = .ok (.iconst 0, 1) := by decide +kernel
theorem dX8_sizeOf_3 : decode cX8_sizeOf 3 = .ok (.istore 4, 2) := by decide +kernel
theorem dX8_sizeOf_5 : decode cX8_sizeOf 5 = .ok (.iload 4, 2) := by decide +kernel
theorem dX8_sizeOf_7 : decode cX8_sizeOf 7 = .ok (.aload_n 0, 1) := by decide +kernel
theorem dX8_sizeOf_8 : decode cX8_sizeOf 8 = .ok (.getfield 148, 3) := by decide +kernel
theorem dX8_sizeOf_11 : decode cX8_sizeOf 11 = .ok (.if_icmp .ge 48, 3) := by decide +kernel
theorem dX8_sizeOf_14 : decode cX8_sizeOf 14 = .ok (.lload_n 2, 1) := by decide +kernel
theorem dX8_sizeOf_15 : decode cX8_sizeOf 15 = .ok (.aload_n 0, 1) := by decide +kernel
theorem dX8_sizeOf_16 : decode cX8_sizeOf 16 = .ok (.getfield 65, 3) := by decide +kernel
theorem dX8_sizeOf_19 : decode cX8_sizeOf 19 = .ok (.iload_n 1, 1) := by decide +kernel
theorem dX8_sizeOf_20 : decode cX8_sizeOf 20 = .ok (.iaload, 1) := by decide +kernel
theorem dX8_sizeOf_21 : decode cX8_sizeOf 21 = .ok (.iload 4, 2) := by decide +kernel
theorem dX8_sizeOf_23 : decode cX8_sizeOf 23 = .ok (.invokestatic 250, 3) := by decide +kernel
theorem dX8_sizeOf_26 : decode cX8_sizeOf 26 = .ok (.ifCond .eq 24, 3) := by decide +kernel
theorem dX8_sizeOf_29 : decode cX8_sizeOf 29 = .ok (.aload_n 0, 1) := by decide +kernel
theorem dX8_sizeOf_30 : decode cX8_sizeOf 30 = .ok (.aload_n 0, 1) := by decide +kernel
theorem dX8_sizeOf_31 : decode cX8_sizeOf 31 = .ok (.getfield 56, 3) := by decide +kernel
theorem dX8_sizeOf_34 : decode cX8_sizeOf 34 = .ok (.iload_n 1, 1) := by decide +kernel
theorem dX8_sizeOf_35 : decode cX8_sizeOf 35 = .ok (.iaload, 1) := by decide +kernel
theorem dX8_sizeOf_36 : decode cX8_sizeOf 36 = .ok (.iload 4, 2) := by decide +kernel
theorem dX8_sizeOf_38 : decode cX8_sizeOf 38 = .ok (.aload_n 0, 1) := by decide +kernel
theorem dX8_sizeOf_39 : decode cX8_sizeOf 39 = .ok (.getfield 59, 3) := by decide +kernel
theorem dX8_sizeOf_42 : decode cX8_sizeOf 42 = .ok (.iload_n 1, 1) := by decide +kernel
theorem dX8_sizeOf_43 : decode cX8_sizeOf 43 = .ok (.iaload, 1) := by decide +kernel
theorem dX8_sizeOf_44 : decode cX8_sizeOf 44 = .ok (.invokevirtual 272, 3) := by decide +kernel
theorem dX8_sizeOf_47 : decode cX8_sizeOf 47 = .ok (.goto 4, 3) := by decide +kernel
theorem dX8_sizeOf_50 : decode cX8_sizeOf 50 = .ok (.lconst 0, 1) := by decide +kernel
theorem dX8_sizeOf_51 : decode cX8_sizeOf 51 = .ok (.ladd, 1) := by decide +kernel
theorem dX8_sizeOf_52 : decode cX8_sizeOf 52 = .ok (.lstore_n 2, 1) := by decide +kernel
theorem dX8_sizeOf_53 : decode cX8_sizeOf 53 = .ok (.iinc 4 1, 3) := by decide +kernel
theorem dX8_sizeOf_56 : decode cX8_sizeOf 56 = .ok (.goto (-51), 3) := by decide +kernel
theorem dX8_sizeOf_59 : decode cX8_sizeOf 59 = .ok (.lload_n 2, 1) := by decide +kernel
theorem dX8_sizeOf_60 : decode cX8_sizeOf 60 = .ok (.ldc2_w 223, 3) := by decide +kernel
theorem dX8_sizeOf_63 : decode cX8_sizeOf 63 = .ok (.aload_n 0, 1) := by decide +kernel
theorem dX8_sizeOf_64 : decode cX8_sizeOf 64 = .ok (.getfield 62, 3) := by decide +kernel
theorem dX8_sizeOf_67 : decode cX8_sizeOf 67 = .ok (.iload_n 1, 1) := by decide +kernel
theorem dX8_sizeOf_68 : decode cX8_sizeOf 68 = .ok (.iaload, 1) := by decide +kernel
theorem dX8_sizeOf_69 : decode cX8_sizeOf 69 = .ok (.i2l, 1) := by decide +kernel
theorem dX8_sizeOf_70 : decode cX8_sizeOf 70 = .ok (.lmul, 1) := by decide +kernel
theorem dX8_sizeOf_71 : decode cX8_sizeOf 71 = .ok (.invokestatic 276, 3) := by decide +kernel
theorem dX8_sizeOf_74 : decode cX8_sizeOf 74 = .ok (.l2i, 1) := by decide +kernel
theorem dX8_sizeOf_75 : decode cX8_sizeOf 75 = .ok (.ireturn, 1) := by decide +kernel
theorem dX8_culprit_0 : decode cX8_culprit 0 = .ok (.iload_n 1, 1) := by decide +kernel
theorem dX8_culprit_1 : decode cX8_culprit 1 = .ok (.iconst (-1), 1) := by decide +kernel
theorem dX8_culprit_2 : decode cX8_culprit 2 = .ok (.if_icmp .lt 15, 3) := by decide +kernel
theorem dX8_culprit_5 : decode cX8_culprit 5 = .ok (.iload_n 2, 1) := by decide +kernel
theorem dX8_culprit_6 : decode cX8_culprit 6 = .ok (.i2l, 1) := by decide +kernel
theorem dX8_culprit_7 : decode cX8_culprit 7 = .ok (.lconst 0, 1) := by decide +kernel
theorem dX8_culprit_8 : decode cX8_culprit 8 = .ok (.ldc2_w 280, 3) := by decide +kernel
theorem dX8_culprit_11 : decode cX8_culprit 11 = .ok (.invokestatic 98, 3) := by decide +kernel
theorem dX8_culprit_14 : decode cX8_culprit 14 = .ok (.ifCond .ne 5, 3) := by decide +kernel
theorem dX8_culprit_17 : decode cX8_culprit 17 = .ok (.iconst (-1), 1) := by decide +kernel
theorem dX8_culprit_18 : decode cX8_culprit 18 = .ok (.ireturn, 1) := by decide +kernel
theorem dX8_culprit_19 : decode cX8_culprit 19 = .ok (.aload_n 0, 1) := by decide +kernel
theorem dX8_culprit_20 : decode cX8_culprit 20 = .ok (.invokevirtual 269, 3) := by decide +kernel
theorem dX8_culprit_23 : decode cX8_culprit 23 = .ok (.iload_n 1, 1) := by decide +kernel
theorem dX8_culprit_24 : decode cX8_culprit 24 = .ok (.ifCond .lt 11, 3) := by decide +kernel
theorem dX8_culprit_27 : decode cX8_culprit 27 = .ok (.iload_n 1, 1) := by decide +kernel
theorem dX8_culprit_28 : decode cX8_culprit 28 = .ok (.aload_n 0, 1) := by decide +kernel
theorem dX8_culprit_29 : decode cX8_culprit 29 = .ok (.getfield 253, 3) := by decide +kernel
theorem dX8_culprit_32 : decode cX8_culprit 32 = .ok (.if_icmp .lt 17, 3) := by decide +kernel
theorem dX8_culprit_35 : decode cX8_culprit 35 = .ok (.iload_n 1, 1) := by decide +kernel
theorem dX8_culprit_36 : decode cX8_culprit 36 = .ok (.ifCond .ge 10, 3) := by decide +kernel
theorem dX8_culprit_39 : decode cX8_culprit 39 = .ok (.aload_n 0, 1) := by decide +kernel
theorem dX8_culprit_40 : decode cX8_culprit 40 = .ok (.getfield 253, 3) := by decide +kernel
theorem dX8_culprit_43 : decode cX8_culprit 43 = .ok (.goto 5, 3) := by decide +kernel
theorem dX8_culprit_46 : decode cX8_culprit 46 = .ok (.bipush (-4), 2) := by decide +kernel
theorem dX8_culprit_48 : decode cX8_culprit 48 = .ok (.ireturn, 1) := by decide +kernel
theorem dX8_culprit_49 : decode cX8_culprit 49 = .ok (.iload_n 2, 1) := by decide +kernel
theorem dX8_culprit_50 : decode cX8_culprit 50 = .ok (.ifCond .ne 12, 3) := by decide +kernel
theorem dX8_culprit_53 : decode cX8_culprit 53 = .ok (.aload_n 0, 1) := by decide +kernel
theorem dX8_culprit_54 : decode cX8_culprit 54 = .ok (.getfield 56, 3) := by decide +kernel
theorem dX8_culprit_57 : decode cX8_culprit 57 = .ok (.iload_n 1, 1) := by decide +kernel
theorem dX8_culprit_58 : decode cX8_culprit 58 = .ok (.iaload, 1) := by decide +kernel
theorem dX8_culprit_59 : decode cX8_culprit 59 = .ok (.goto 39, 3) := by decide +kernel
theorem dX8_culprit_62 : decode cX8_culprit 62 = .ok (.iload_n 2, 1) := by decide +kernel
theorem dX8_culprit_63 : decode cX8_culprit 63 = .ok (.iconst 1, 1) := by decide +kernel
theorem dX8_culprit_64 : decode cX8_culprit 64 = .ok (.if_icmp .ne 12, 3) := by decide +kernel
theorem dX8_culprit_67 : decode cX8_culprit 67 = .ok (.aload_n 0, 1) := by decide +kernel
theorem dX8_culprit_68 : decode cX8_culprit 68 = .ok (.getfield 59, 3) := by decide +kernel
theorem dX8_culprit_71 : decode cX8_culprit 71 = .ok (.iload_n 1, 1) := by decide +kernel
theorem dX8_culprit_72 : decode cX8_culprit 72 = .ok (.iaload, 1) := by decide +kernel
theorem dX8_culprit_73 : decode cX8_culprit 73 = .ok (.goto 25, 3) := by decide +kernel
theorem dX8_culprit_76 : decode cX8_culprit 76 = .ok (.iload_n 2, 1) := by decide +kernel
theorem dX8_culprit_77 : decode cX8_culprit 77 = .ok (.iconst 2, 1) := by decide +kernel
theorem dX8_culprit_78 : decode cX8_culprit 78 = .ok (.if_icmp .ne 12, 3) := by decide +kernel
theorem dX8_culprit_81 : decode cX8_culprit 81 = .ok (.aload_n 0, 1) := by decide +kernel
theorem dX8_culprit_82 : decode cX8_culprit 82 = .ok (.getfield 62, 3) := by decide +kernel
theorem dX8_culprit_85 : decode cX8_culprit 85 = .ok (.iload_n 1, 1) := by decide +kernel
theorem dX8_culprit_86 : decode cX8_culprit 86 = .ok (.iaload, 1) := by decide +kernel
theorem dX8_culprit_87 : decode cX8_culprit 87 = .ok (.goto 11, 3) := by decide +kernel
theorem dX8_culprit_90 : decode cX8_culprit 90 = .ok (.aload_n 0, 1) := by decide +kernel
theorem dX8_culprit_91 : decode cX8_culprit 91 = .ok (.iload_n 1, 1) := by decide +kernel
theorem dX8_culprit_92 : decode cX8_culprit 92 = .ok (.invokevirtual 282, 3) := by decide +kernel
theorem dX8_culprit_95 : decode cX8_culprit 95 = .ok (.ldc 167, 2) := by decide +kernel
theorem dX8_culprit_97 : decode cX8_culprit 97 = .ok (.iadd, 1) := by decide +kernel
theorem dX8_culprit_98 : decode cX8_culprit 98 = .ok (.ireturn, 1) := by decide +kernel
theorem dX8_mend_0 : decode cX8_mend 0 = .ok (.iload_n 1, 1) := by decide +kernel
theorem dX8_mend_1 : decode cX8_mend 1 = .ok (.ifCond .ge 5, 3) := by decide +kernel
theorem dX8_mend_4 : decode cX8_mend 4 = .ok (.iconst (-1), 1) := by decide +kernel
theorem dX8_mend_5 : decode cX8_mend 5 = .ok (.ireturn, 1) := by decide +kernel
theorem dX8_mend_6 : decode cX8_mend 6 = .ok (.aload_n 0, 1) := by decide +kernel
theorem dX8_mend_7 : decode cX8_mend 7 = .ok (.invokevirtual 269, 3) := by decide +kernel
theorem dX8_mend_10 : decode cX8_mend 10 = .ok (.iload_n 1, 1) := by decide +kernel
theorem dX8_mend_11 : decode cX8_mend 11 = .ok (.aload_n 0, 1) := by decide +kernel
theorem dX8_mend_12 : decode cX8_mend 12 = .ok (.getfield 253, 3) := by decide +kernel
theorem dX8_mend_15 : decode cX8_mend 15 = .ok (.if_icmp .lt 6, 3) := by decide +kernel
theorem dX8_mend_18 : decode cX8_mend 18 = .ok (.bipush (-4), 2) := by decide +kernel
theorem dX8_mend_20 : decode cX8_mend 20 = .ok (.ireturn, 1) := by decide +kernel
theorem dX8_mend_21 : decode cX8_mend 21 = .ok (.aload_n 0, 1) := by decide +kernel
theorem dX8_mend_22 : decode cX8_mend 22 = .ok (.getfield 19, 3) := by decide +kernel
theorem dX8_mend_25 : decode cX8_mend 25 = .ok (.bipush 101, 2) := by decide +kernel
theorem dX8_mend_27 : decode cX8_mend 27 = .ok (.iaload, 1) := by decide +kernel
theorem dX8_mend_28 : decode cX8_mend 28 = .ok (.bipush 10, 2) := by decide +kernel
theorem dX8_mend_30 : decode cX8_mend 30 = .ok (.if_icmp .ne 6, 3) := by decide +kernel
theorem dX8_mend_33 : decode cX8_mend 33 = .ok (.bipush (-3), 2) := by decide +kernel
theorem dX8_mend_35 : decode cX8_mend 35 = .ok (.ireturn, 1) := by decide +kernel
theorem dX8_mend_36 : decode cX8_mend 36 = .ok (.aload_n 0, 1) := by decide +kernel
theorem dX8_mend_37 : decode cX8_mend 37 = .ok (.getfield 56, 3) := by decide +kernel
theorem dX8_mend_40 : decode cX8_mend 40 = .ok (.iload_n 1, 1) := by decide +kernel
theorem dX8_mend_41 : decode cX8_mend 41 = .ok (.iaload, 1) := by decide +kernel
theorem dX8_mend_42 : decode cX8_mend 42 = .ok (.istore_n 2, 1) := by decide +kernel
theorem dX8_mend_43 : decode cX8_mend 43 = .ok (.aload_n 0, 1) := by decide +kernel
theorem dX8_mend_44 : decode cX8_mend 44 = .ok (.getfield 59, 3) := by decide +kernel
theorem dX8_mend_47 : decode cX8_mend 47 = .ok (.iload_n 1, 1) := by decide +kernel
theorem dX8_mend_48 : decode cX8_mend 48 = .ok (.iaload, 1) := by decide +kernel
theorem dX8_mend_49 : decode cX8_mend 49 = .ok (.istore_n 3, 1) := by decide +kernel
theorem dX8_mend_50 : decode cX8_mend 50 = .ok (.aload_n 0, 1) := by decide +kernel
theorem dX8_mend_51 : decode cX8_mend 51 = .ok (.iload_n 1, 1) := by decide +kernel
theorem dX8_mend_52 : decode cX8_mend 52 = .ok (.invokevirtual 282, 3) := by decide +kernel
theorem dX8_mend_55 : decode cX8_mend 55 = .ok (.istore 4, 2) := by decide +kernel
theorem dX8_mend_57 : decode cX8_mend 57 = .ok (.iload 4, 2) := by decide +kernel
theorem dX8_mend_59 : decode cX8_mend 59 = .ok (.ifCond .eq 7, 3) := by decide +kernel
theorem dX8_mend_62 : decode cX8_mend 62 = .ok (.iconst 1, 1) := by decide +kernel
theorem dX8_mend_63 : decode cX8_mend 63 = .ok (.goto 4, 3) := by decide +kernel
theorem dX8_mend_66 : decode cX8_mend 66 = .ok (.iconst 0, 1) := by decide +kernel
theorem dX8_mend_67 : decode cX8_mend 67 = .ok (.istore 5, 2) := by decide +kernel
theorem dX8_mend_69 : decode cX8_mend 69 = .ok (.iconst 0, 1) := by decide +kernel
theorem dX8_mend_70 : decode cX8_mend 70 = .ok (.istore 6, 2) := by decide +kernel
theorem dX8_mend_72 : decode cX8_mend 72 = .ok (.iload 6, 2) := by decide +kernel
theorem dX8_mend_74 : decode cX8_mend 74 = .ok (.iload_n 3, 1) := by decide +kernel
theorem dX8_mend_75 : decode cX8_mend 75 = .ok (.if_icmp .ge 54, 3) := by decide +kernel
theorem dX8_mend_78 : decode cX8_mend 78 = .ok (.iload 5, 2) := by decide +kernel
theorem dX8_mend_80 : decode cX8_mend 80 = .ok (.ifCond .eq 40, 3) := by decide +kernel
theorem dX8_mend_83 : decode cX8_mend 83 = .ok (.aload_n 0, 1) := by decide +kernel
theorem dX8_mend_84 : decode cX8_mend 84 = .ok (.iload_n 2, 1) := by decide +kernel
theorem dX8_mend_85 : decode cX8_mend 85 = .ok (.iload 6, 2) := by decide +kernel
theorem dX8_mend_87 : decode cX8_mend 87 = .ok (.invokevirtual 184, 3) := by decide +kernel
theorem dX8_mend_90 : decode cX8_mend 90 = .ok (.ifCond .eq 26, 3) := by decide +kernel
theorem dX8_mend_93 : decode cX8_mend 93 = .ok (.aload_n 0, 1) := by decide +kernel
theorem dX8_mend_94 : decode cX8_mend 94 = .ok (.iload_n 2, 1) := by decide +kernel
theorem dX8_mend_95 : decode cX8_mend 95 = .ok (.iload 6, 2) := by decide +kernel
theorem dX8_mend_97 : decode cX8_mend 97 = .ok (.invokevirtual 164, 3) := by decide +kernel
theorem dX8_mend_100 : decode cX8_mend 100 = .ok (.iload 4, 2) := by decide +kernel
theorem dX8_mend_102 : decode cX8_mend 102 = .ok (.iadd, 1) := by decide +kernel
theorem dX8_mend_103 : decode cX8_mend 103 = .ok (.i2l, 1) := by decide +kernel
theorem dX8_mend_104 : decode cX8_mend 104 = .ok (.ldc2_w 177, 3) := by decide +kernel
theorem dX8_mend_107 : decode cX8_mend 107 = .ok (.ldc2_w 179, 3) := by decide +kernel
theorem dX8_mend_110 : decode cX8_mend 110 = .ok (.invokestatic 98, 3) := by decide +kernel
theorem dX8_mend_113 : decode cX8_mend 113 = .ok (.ifCond .eq 7, 3) := by decide +kernel
theorem dX8_mend_116 : decode cX8_mend 116 = .ok (.iconst 1, 1) := by decide +kernel
theorem dX8_mend_117 : decode cX8_mend 117 = .ok (.goto 4, 3) := by decide +kernel
theorem dX8_mend_120 : decode cX8_mend 120 = .ok (.iconst 0, 1) := by decide +kernel
theorem dX8_mend_121 : decode cX8_mend 121 = .ok (.istore 5, 2) := by decide +kernel
theorem dX8_mend_123 : decode cX8_mend 123 = .ok (.iinc 6 1, 3) := by decide +kernel
theorem dX8_mend_126 : decode cX8_mend 126 = .ok (.goto (-54), 3) := by decide +kernel
theorem dX8_mend_129 : decode cX8_mend 129 = .ok (.iload 5, 2) := by decide +kernel
theorem dX8_mend_131 : decode cX8_mend 131 = .ok (.ifCond .ne 6, 3) := by decide +kernel
theorem dX8_mend_134 : decode cX8_mend 134 = .ok (.bipush (-2), 2) := by decide +kernel
theorem dX8_mend_136 : decode cX8_mend 136 = .ok (.ireturn, 1) := by decide +kernel
theorem dX8_mend_137 : decode cX8_mend 137 = .ok (.aload_n 0, 1) := by decide +kernel
theorem dX8_mend_138 : decode cX8_mend 138 = .ok (.invokevirtual 168, 3) := by decide +kernel
theorem dX8_mend_141 : decode cX8_mend 141 = .ok (.iconst 0, 1) := by decide +kernel
theorem dX8_mend_142 : decode cX8_mend 142 = .ok (.istore 6, 2) := by decide +kernel
theorem dX8_mend_144 : decode cX8_mend 144 = .ok (.iload 6, 2) := by decide +kernel
theorem dX8_mend_146 : decode cX8_mend 146 = .ok (.iload_n 3, 1) := by decide +kernel
theorem dX8_mend_147 : decode cX8_mend 147 = .ok (.if_icmp .ge 40, 3) := by decide +kernel
theorem dX8_mend_150 : decode cX8_mend 150 = .ok (.aload_n 0, 1) := by decide +kernel
theorem dX8_mend_151 : decode cX8_mend 151 = .ok (.getfield 19, 3) := by decide +kernel
theorem dX8_mend_154 : decode cX8_mend 154 = .ok (.bipush 16, 2) := by decide +kernel
theorem dX8_mend_156 : decode cX8_mend 156 = .ok (.iload_n 2, 1) := by decide +kernel
theorem dX8_mend_157 : decode cX8_mend 157 = .ok (.imul, 1) := by decide +kernel
theorem dX8_mend_158 : decode cX8_mend 158 = .ok (.iload 6, 2) := by decide +kernel
theorem dX8_mend_160 : decode cX8_mend 160 = .ok (.iadd, 1) := by decide +kernel
theorem dX8_mend_161 : decode cX8_mend 161 = .ok (.dup2, 1) := by decide +kernel
theorem dX8_mend_162 : decode cX8_mend 162 = .ok (.iaload, 1) := by decide +kernel
theorem dX8_mend_163 : decode cX8_mend 163 = .ok (.aload_n 0, 1) := by decide +kernel
theorem dX8_mend_164 : decode cX8_mend 164 = .ok (.iload_n 2, 1) := by decide +kernel
theorem dX8_mend_165 : decode cX8_mend 165 = .ok (.iload 6, 2) := by decide +kernel
theorem dX8_mend_167 : decode cX8_mend 167 = .ok (.invokevirtual 184, 3) := by decide +kernel
theorem dX8_mend_170 : decode cX8_mend 170 = .ok (.ifCond .eq 8, 3) := by decide +kernel
theorem dX8_mend_173 : decode cX8_mend 173 = .ok (.iload 4, 2) := by decide +kernel
theorem dX8_mend_175 : decode cX8_mend 175 = .ok (.goto 4, 3) := by decide +kernel
theorem dX8_mend_178 : decode cX8_mend 178 = .ok (.iconst 0, 1) := by decide +kernel
theorem dX8_mend_179 : decode cX8_mend 179 = .ok (.iadd, 1) := by decide +kernel
theorem dX8_mend_180 : decode cX8_mend 180 = .ok (.iastore, 1) := by decide +kernel
theorem dX8_mend_181 : decode cX8_mend 181 = .ok (.iinc 6 1, 3) := by decide +kernel
theorem dX8_mend_184 : decode cX8_mend 184 = .ok (.goto (-40), 3) := by decide +kernel
theorem dX8_mend_187 : decode cX8_mend 187 = .ok (.aload_n 0, 1) := by decide +kernel
theorem dX8_mend_188 : decode cX8_mend 188 = .ok (.getfield 34, 3) := by decide +kernel
theorem dX8_mend_191 : decode cX8_mend 191 = .ok (.iconst 3, 1) := by decide +kernel
theorem dX8_mend_192 : decode cX8_mend 192 = .ok (.aload_n 0, 1) := by decide +kernel
theorem dX8_mend_193 : decode cX8_mend 193 = .ok (.getfield 19, 3) := by decide +kernel
theorem dX8_mend_196 : decode cX8_mend 196 = .ok (.bipush 101, 2) := by decide +kernel
theorem dX8_mend_198 : decode cX8_mend 198 = .ok (.iaload, 1) := by decide +kernel
theorem dX8_mend_199 : decode cX8_mend 199 = .ok (.imul, 1) := by decide +kernel
theorem dX8_mend_200 : decode cX8_mend 200 = .ok (.iload_n 2, 1) := by decide +kernel
theorem dX8_mend_201 : decode cX8_mend 201 = .ok (.iastore, 1) := by decide +kernel
theorem dX8_mend_202 : decode cX8_mend 202 = .ok (.aload_n 0, 1) := by decide +kernel
theorem dX8_mend_203 : decode cX8_mend 203 = .ok (.getfield 34, 3) := by decide +kernel
theorem dX8_mend_206 : decode cX8_mend 206 = .ok (.iconst 3, 1) := by decide +kernel
theorem dX8_mend_207 : decode cX8_mend 207 = .ok (.aload_n 0, 1) := by decide +kernel
theorem dX8_mend_208 : decode cX8_mend 208 = .ok (.getfield 19, 3) := by decide +kernel
theorem dX8_mend_211 : decode cX8_mend 211 = .ok (.bipush 101, 2) := by decide +kernel
theorem dX8_mend_213 : decode cX8_mend 213 = .ok (.iaload, 1) := by decide +kernel
theorem dX8_mend_214 : decode cX8_mend 214 = .ok (.imul, 1) := by decide +kernel
theorem dX8_mend_215 : decode cX8_mend 215 = .ok (.iconst 1, 1) := by decide +kernel
theorem dX8_mend_216 : decode cX8_mend 216 = .ok (.iadd, 1) := by decide +kernel
theorem dX8_mend_217 : decode cX8_mend 217 = .ok (.iload_n 3, 1) := by decide +kernel
theorem dX8_mend_218 : decode cX8_mend 218 = .ok (.iastore, 1) := by decide +kernel
theorem dX8_mend_219 : decode cX8_mend 219 = .ok (.aload_n 0, 1) := by decide +kernel
theorem dX8_mend_220 : decode cX8_mend 220 = .ok (.getfield 34, 3) := by decide +kernel
theorem dX8_mend_223 : decode cX8_mend 223 = .ok (.iconst 3, 1) := by decide +kernel
theorem dX8_mend_224 : decode cX8_mend 224 = .ok (.aload_n 0, 1) := by decide +kernel
theorem dX8_mend_225 : decode cX8_mend 225 = .ok (.getfield 19, 3) := by decide +kernel
theorem dX8_mend_228 : decode cX8_mend 228 = .ok (.bipush 101, 2) := by decide +kernel
theorem dX8_mend_230 : decode cX8_mend 230 = .ok (.iaload, 1) := by decide +kernel
theorem dX8_mend_231 : decode cX8_mend 231 = .ok (.imul, 1) := by decide +kernel
theorem dX8_mend_232 : decode cX8_mend 232 = .ok (.iconst 2, 1) := by decide +kernel
theorem dX8_mend_233 : decode cX8_mend 233 = .ok (.iadd, 1) := by decide +kernel
theorem dX8_mend_234 : decode cX8_mend 234 = .ok (.iload 4, 2) := by decide +kernel
theorem dX8_mend_236 : decode cX8_mend 236 = .ok (.iastore, 1) := by decide +kernel
theorem dX8_mend_237 : decode cX8_mend 237 = .ok (.aload_n 0, 1) := by decide +kernel
theorem dX8_mend_238 : decode cX8_mend 238 = .ok (.getfield 19, 3) := by decide +kernel
theorem dX8_mend_241 : decode cX8_mend 241 = .ok (.bipush 101, 2) := by decide +kernel
theorem dX8_mend_243 : decode cX8_mend 243 = .ok (.dup2, 1) := by decide +kernel
theorem dX8_mend_244 : decode cX8_mend 244 = .ok (.iaload, 1) := by decide +kernel
theorem dX8_mend_245 : decode cX8_mend 245 = .ok (.iconst 1, 1) := by decide +kernel
theorem dX8_mend_246 : decode cX8_mend 246 = .ok (.iadd, 1) := by decide +kernel
theorem dX8_mend_247 : decode cX8_mend 247 = .ok (.iastore, 1) := by decide +kernel
theorem dX8_mend_248 : decode cX8_mend 248 = .ok (.aload_n 0, 1) := by decide +kernel
theorem dX8_mend_249 : decode cX8_mend 249 = .ok (.getfield 19, 3) := by decide +kernel
theorem dX8_mend_252 : decode cX8_mend 252 = .ok (.bipush 101, 2) := by decide +kernel
theorem dX8_mend_254 : decode cX8_mend 254 = .ok (.iaload, 1) := by decide +kernel
theorem dX8_mend_255 : decode cX8_mend 255 = .ok (.ireturn, 1) := by decide +kernel
theorem dX8_mends_0 : decode cX8_mends 0 = .ok (.iconst 0, 1) := by decide +kernel
theorem dX8_mends_1 : decode cX8_mends 1 = .ok (.istore_n 1, 1) := by decide +kernel
theorem dX8_mends_2 : decode cX8_mends 2 = .ok (.iload_n 1, 1) := by decide +kernel
theorem dX8_mends_3 : decode cX8_mends 3 = .ok (.bipush 12, 2) := by decide +kernel
theorem dX8_mends_5 : decode cX8_mends 5 = .ok (.if_icmp .ge 17, 3) := by decide +kernel
theorem dX8_mends_8 : decode cX8_mends 8 = .ok (.aload_n 0, 1) := by decide +kernel
theorem dX8_mends_9 : decode cX8_mends 9 = .ok (.iconst 0, 1) := by decide +kernel
theorem dX8_mends_10 : decode cX8_mends 10 = .ok (.invokevirtual 285, 3) := by decide +kernel
theorem dX8_mends_13 : decode cX8_mends 13 = .ok (.ifCond .le 9, 3) := by decide +kernel
theorem dX8_mends_16 : decode cX8_mends 16 = .ok (.iinc 1 1, 3) := by decide +kernel
theorem dX8_mends_19 : decode cX8_mends 19 = .ok (.goto (-17), 3) := by decide +kernel
theorem dX8_mends_22 : decode cX8_mends 22 = .ok (.iload_n 1, 1) := by decide +kernel
theorem dX8_mends_23 : decode cX8_mends 23 = .ok (.ireturn, 1) := by decide +kernel
theorem dX8_ledger_0 : decode cX8_ledger 0 = .ok (.iload_n 1, 1) := by decide +kernel
theorem dX8_ledger_1 : decode cX8_ledger 1 = .ok (.iconst (-1), 1) := by decide +kernel
theorem dX8_ledger_2 : decode cX8_ledger 2 = .ok (.if_icmp .lt 15, 3) := by decide +kernel
theorem dX8_ledger_5 : decode cX8_ledger 5 = .ok (.iload_n 2, 1) := by decide +kernel
theorem dX8_ledger_6 : decode cX8_ledger 6 = .ok (.i2l, 1) := by decide +kernel
theorem dX8_ledger_7 : decode cX8_ledger 7 = .ok (.lconst 0, 1) := by decide +kernel
theorem dX8_ledger_8 : decode cX8_ledger 8 = .ok (.ldc2_w 192, 3) := by decide +kernel
theorem dX8_ledger_11 : decode cX8_ledger 11 = .ok (.invokestatic 98, 3) := by decide +kernel
theorem dX8_ledger_14 : decode cX8_ledger 14 = .ok (.ifCond .ne 5, 3) := by decide +kernel
theorem dX8_ledger_17 : decode cX8_ledger 17 = .ok (.iconst (-1), 1) := by decide +kernel
theorem dX8_ledger_18 : decode cX8_ledger 18 = .ok (.ireturn, 1) := by decide +kernel
theorem dX8_ledger_19 : decode cX8_ledger 19 = .ok (.iload_n 1, 1) := by decide +kernel
theorem dX8_ledger_20 : decode cX8_ledger 20 = .ok (.ifCond .lt 14, 3) := by decide +kernel
theorem dX8_ledger_23 : decode cX8_ledger 23 = .ok (.iload_n 1, 1) := by decide +kernel
theorem dX8_ledger_24 : decode cX8_ledger 24 = .ok (.aload_n 0, 1) := by decide +kernel
theorem dX8_ledger_25 : decode cX8_ledger 25 = .ok (.getfield 19, 3) := by decide +kernel
theorem dX8_ledger_28 : decode cX8_ledger 28 = .ok (.bipush 101, 2) := by decide +kernel
theorem dX8_ledger_30 : decode cX8_ledger 30 = .ok (.iaload, 1) := by decide +kernel
theorem dX8_ledger_31 : decode cX8_ledger 31 = .ok (.if_icmp .lt 20, 3) := by decide +kernel
theorem dX8_ledger_34 : decode cX8_ledger 34 = .ok (.iload_n 1, 1) := by decide +kernel
theorem dX8_ledger_35 : decode cX8_ledger 35 = .ok (.ifCond .ge 13, 3) := by decide +kernel
theorem dX8_ledger_38 : decode cX8_ledger 38 = .ok (.aload_n 0, 1) := by decide +kernel
theorem dX8_ledger_39 : decode cX8_ledger 39 = .ok (.getfield 19, 3) := by decide +kernel
theorem dX8_ledger_42 : decode cX8_ledger 42 = .ok (.bipush 101, 2) := by decide +kernel
theorem dX8_ledger_44 : decode cX8_ledger 44 = .ok (.iaload, 1) := by decide +kernel
theorem dX8_ledger_45 : decode cX8_ledger 45 = .ok (.goto 5, 3) := by decide +kernel
theorem dX8_ledger_48 : decode cX8_ledger 48 = .ok (.bipush (-4), 2) := by decide +kernel
theorem dX8_ledger_50 : decode cX8_ledger 50 = .ok (.ireturn, 1) := by decide +kernel
theorem dX8_ledger_51 : decode cX8_ledger 51 = .ok (.aload_n 0, 1) := by decide +kernel
theorem dX8_ledger_52 : decode cX8_ledger 52 = .ok (.getfield 34, 3) := by decide +kernel
theorem dX8_ledger_55 : decode cX8_ledger 55 = .ok (.iconst 3, 1) := by decide +kernel
theorem dX8_ledger_56 : decode cX8_ledger 56 = .ok (.iload_n 1, 1) := by decide +kernel
theorem dX8_ledger_57 : decode cX8_ledger 57 = .ok (.imul, 1) := by decide +kernel
theorem dX8_ledger_58 : decode cX8_ledger 58 = .ok (.iload_n 2, 1) := by decide +kernel
theorem dX8_ledger_59 : decode cX8_ledger 59 = .ok (.iadd, 1) := by decide +kernel
theorem dX8_ledger_60 : decode cX8_ledger 60 = .ok (.iaload, 1) := by decide +kernel
theorem dX8_ledger_61 : decode cX8_ledger 61 = .ok (.iload_n 2, 1) := by decide +kernel
theorem dX8_ledger_62 : decode cX8_ledger 62 = .ok (.iconst 2, 1) := by decide +kernel
theorem dX8_ledger_63 : decode cX8_ledger 63 = .ok (.if_icmp .ne 8, 3) := by decide +kernel
theorem dX8_ledger_66 : decode cX8_ledger 66 = .ok (.ldc 167, 2) := by decide +kernel
theorem dX8_ledger_68 : decode cX8_ledger 68 = .ok (.goto 4, 3) := by decide +kernel
theorem dX8_ledger_71 : decode cX8_ledger 71 = .ok (.iconst 0, 1) := by decide +kernel
theorem dX8_ledger_72 : decode cX8_ledger 72 = .ok (.iadd, 1) := by decide +kernel
theorem dX8_ledger_73 : decode cX8_ledger 73 = .ok (.ireturn, 1) := by decide +kernel
theorem dX8_canMake_0 : decode cX8_canMake 0 = .ok (.lconst 0, 1) := by decide +kernel
theorem dX8_canMake_1 : decode cX8_canMake 1 = .ok (.lstore_n 3, 1) := by decide +kernel
theorem dX8_canMake_2 : decode cX8_canMake 2 = .ok (.iconst 0, 1) := by decide +kernel
theorem dX8_canMake_3 : decode cX8_canMake 3 = .ok (.istore 5, 2) := by decide +kernel
theorem dX8_canMake_5 : decode cX8_canMake 5 = .ok (.iconst 0, 1) := by decide +kernel
theorem dX8_canMake_6 : decode cX8_canMake 6 = .ok (.istore 6, 2) := by decide +kernel
theorem dX8_canMake_8 : decode cX8_canMake 8 = .ok (.iload 6, 2) := by decide +kernel
theorem dX8_canMake_10 : decode cX8_canMake 10 = .ok (.aload_n 0, 1) := by decide +kernel
theorem dX8_canMake_11 : decode cX8_canMake 11 = .ok (.getfield 148, 3) := by decide +kernel
theorem dX8_canMake_14 : decode cX8_canMake 14 = .ok (.if_icmp .ge 88, 3) := by decide +kernel
theorem dX8_canMake_17 : decode cX8_canMake 17 = .ok (.iload 6, 2) := by decide +kernel
theorem dX8_canMake_19 : decode cX8_canMake 19 = .ok (.iload_n 1, 1) := by decide +kernel
theorem dX8_canMake_20 : decode cX8_canMake 20 = .ok (.if_icmp .eq 76, 3) := by decide +kernel
theorem dX8_canMake_23 : decode cX8_canMake 23 = .ok (.aload_n 0, 1) := by decide +kernel
theorem dX8_canMake_24 : decode cX8_canMake 24 = .ok (.iload_n 1, 1) := by decide +kernel
theorem dX8_canMake_25 : decode cX8_canMake 25 = .ok (.iload 6, 2) := by decide +kernel
theorem dX8_canMake_27 : decode cX8_canMake 27 = .ok (.invokevirtual 213, 3) := by decide +kernel
theorem dX8_canMake_30 : decode cX8_canMake 30 = .ok (.ifCond .eq 66, 3) := by decide +kernel
theorem dX8_canMake_33 : decode cX8_canMake 33 = .ok (.aload_n 0, 1) := by decide +kernel
theorem dX8_canMake_34 : decode cX8_canMake 34 = .ok (.iload 6, 2) := by decide +kernel
theorem dX8_canMake_36 : decode cX8_canMake 36 = .ok (.iload_n 2, 1) := by decide +kernel
theorem dX8_canMake_37 : decode cX8_canMake 37 = .ok (.invokevirtual 184, 3) := by decide +kernel
theorem dX8_canMake_40 : decode cX8_canMake 40 = .ok (.ifCond .eq 56, 3) := by decide +kernel
theorem dX8_canMake_43 : decode cX8_canMake 43 = .ok (.aload_n 0, 1) := by decide +kernel
theorem dX8_canMake_44 : decode cX8_canMake 44 = .ok (.iload_n 1, 1) := by decide +kernel
theorem dX8_canMake_45 : decode cX8_canMake 45 = .ok (.iload 6, 2) := by decide +kernel
theorem dX8_canMake_47 : decode cX8_canMake 47 = .ok (.invokevirtual 226, 3) := by decide +kernel
theorem dX8_canMake_50 : decode cX8_canMake 50 = .ok (.aload_n 0, 1) := by decide +kernel
theorem dX8_canMake_51 : decode cX8_canMake 51 = .ok (.getfield 216, 3) := by decide +kernel
theorem dX8_canMake_54 : decode cX8_canMake 54 = .ok (.ifCond .le 42, 3) := by decide +kernel
theorem dX8_canMake_57 : decode cX8_canMake 57 = .ok (.lload_n 3, 1) := by decide +kernel
theorem dX8_canMake_58 : decode cX8_canMake 58 = .ok (.ldc2_w 223, 3) := by decide +kernel
theorem dX8_canMake_61 : decode cX8_canMake 61 = .ok (.aload_n 0, 1) := by decide +kernel
theorem dX8_canMake_62 : decode cX8_canMake 62 = .ok (.iload 6, 2) := by decide +kernel
theorem dX8_canMake_64 : decode cX8_canMake 64 = .ok (.iload_n 2, 1) := by decide +kernel
theorem dX8_canMake_65 : decode cX8_canMake 65 = .ok (.invokevirtual 164, 3) := by decide +kernel
theorem dX8_canMake_68 : decode cX8_canMake 68 = .ok (.i2l, 1) := by decide +kernel
theorem dX8_canMake_69 : decode cX8_canMake 69 = .ok (.lmul, 1) := by decide +kernel
theorem dX8_canMake_70 : decode cX8_canMake 70 = .ok (.ldc 225, 2) := by decide +kernel
theorem dX8_canMake_72 : decode cX8_canMake 72 = .ok (.aload_n 0, 1) := by decide +kernel
theorem dX8_canMake_73 : decode cX8_canMake 73 = .ok (.getfield 216, 3) := by decide +kernel
theorem dX8_canMake_76 : decode cX8_canMake 76 = .ok (.idiv, 1) := by decide +kernel
theorem dX8_canMake_77 : decode cX8_canMake 77 = .ok (.i2l, 1) := by decide +kernel
theorem dX8_canMake_78 : decode cX8_canMake 78 = .ok (.aload_n 0, 1) := by decide +kernel
theorem dX8_canMake_79 : decode cX8_canMake 79 = .ok (.iconst 0, 1) := by decide +kernel
theorem dX8_canMake_80 : decode cX8_canMake 80 = .ok (.aload_n 0, 1) := by decide +kernel
theorem dX8_canMake_81 : decode cX8_canMake 81 = .ok (.getfield 216, 3) := by decide +kernel
theorem dX8_canMake_84 : decode cX8_canMake 84 = .ok (.iconst 1, 1) := by decide +kernel
theorem dX8_canMake_85 : decode cX8_canMake 85 = .ok (.isub, 1) := by decide +kernel
theorem dX8_canMake_86 : decode cX8_canMake 86 = .ok (.invokevirtual 219, 3) := by decide +kernel
theorem dX8_canMake_89 : decode cX8_canMake 89 = .ok (.lmul, 1) := by decide +kernel
theorem dX8_canMake_90 : decode cX8_canMake 90 = .ok (.ladd, 1) := by decide +kernel
theorem dX8_canMake_91 : decode cX8_canMake 91 = .ok (.ladd, 1) := by decide +kernel
theorem dX8_canMake_92 : decode cX8_canMake 92 = .ok (.lstore_n 3, 1) := by decide +kernel
theorem dX8_canMake_93 : decode cX8_canMake 93 = .ok (.iinc 5 1, 3) := by decide +kernel
theorem dX8_canMake_96 : decode cX8_canMake 96 = .ok (.iinc 6 1, 3) := by decide +kernel
theorem dX8_canMake_99 : decode cX8_canMake 99 = .ok (.goto (-91), 3) := by decide +kernel
theorem dX8_canMake_102 : decode cX8_canMake 102 = .ok (.aload_n 0, 1) := by decide +kernel
theorem dX8_canMake_103 : decode cX8_canMake 103 = .ok (.iload 5, 2) := by decide +kernel
theorem dX8_canMake_105 : decode cX8_canMake 105 = .ok (.ifCond .ne 7, 3) := by decide +kernel
theorem dX8_canMake_108 : decode cX8_canMake 108 = .ok (.iconst 0, 1) := by decide +kernel
theorem dX8_canMake_109 : decode cX8_canMake 109 = .ok (.goto 15, 3) := by decide +kernel
theorem dX8_canMake_112 : decode cX8_canMake 112 = .ok (.lload_n 3, 1) := by decide +kernel
theorem dX8_canMake_113 : decode cX8_canMake 113 = .ok (.ldc2_w 223, 3) := by decide +kernel
theorem dX8_canMake_116 : decode cX8_canMake 116 = .ok (.iload 5, 2) := by decide +kernel
theorem dX8_canMake_118 : decode cX8_canMake 118 = .ok (.i2l, 1) := by decide +kernel
theorem dX8_canMake_119 : decode cX8_canMake 119 = .ok (.lmul, 1) := by decide +kernel
theorem dX8_canMake_120 : decode cX8_canMake 120 = .ok (.invokestatic 276, 3) := by decide +kernel
theorem dX8_canMake_123 : decode cX8_canMake 123 = .ok (.l2i, 1) := by decide +kernel
theorem dX8_canMake_124 : decode cX8_canMake 124 = .ok (.putfield 288, 3) := by decide +kernel
theorem dX8_canMake_127 : decode cX8_canMake 127 = .ok (.iload 5, 2) := by decide +kernel
theorem dX8_canMake_129 : decode cX8_canMake 129 = .ok (.ifCond .le 7, 3) := by decide +kernel
theorem dX8_canMake_132 : decode cX8_canMake 132 = .ok (.iconst 1, 1) := by decide +kernel
theorem dX8_canMake_133 : decode cX8_canMake 133 = .ok (.goto 4, 3) := by decide +kernel
theorem dX8_canMake_136 : decode cX8_canMake 136 = .ok (.iconst 0, 1) := by decide +kernel
theorem dX8_canMake_137 : decode cX8_canMake 137 = .ok (.ireturn, 1) := by decide +kernel
theorem dX8_made_0 : decode cX8_made 0 = .ok (.aload_n 0, 1) := by decide +kernel
theorem dX8_made_1 : decode cX8_made 1 = .ok (.iload_n 1, 1) := by decide +kernel
theorem dX8_made_2 : decode cX8_made 2 = .ok (.invokevirtual 161, 3) := by decide +kernel
theorem dX8_made_5 : decode cX8_made 5 = .ok (.ifCond .eq 11, 3) := by decide +kernel
theorem dX8_made_8 : decode cX8_made 8 = .ok (.aload_n 0, 1) := by decide +kernel
theorem dX8_made_9 : decode cX8_made 9 = .ok (.iload_n 2, 1) := by decide +kernel
theorem dX8_made_10 : decode cX8_made 10 = .ok (.invokevirtual 171, 3) := by decide +kernel
theorem dX8_made_13 : decode cX8_made 13 = .ok (.ifCond .ne 5, 3) := by decide +kernel
theorem dX8_made_16 : decode cX8_made 16 = .ok (.iconst (-1), 1) := by decide +kernel
theorem dX8_made_17 : decode cX8_made 17 = .ok (.ireturn, 1) := by decide +kernel
theorem dX8_made_18 : decode cX8_made 18 = .ok (.aload_n 0, 1) := by decide +kernel
theorem dX8_made_19 : decode cX8_made 19 = .ok (.iload_n 1, 1) := by decide +kernel
theorem dX8_made_20 : decode cX8_made 20 = .ok (.iload_n 2, 1) := by decide +kernel
theorem dX8_made_21 : decode cX8_made 21 = .ok (.invokevirtual 184, 3) := by decide +kernel
theorem dX8_made_24 : decode cX8_made 24 = .ok (.ifCond .eq 8, 3) := by decide +kernel
theorem dX8_made_27 : decode cX8_made 27 = .ok (.bipush (-2), 2) := by decide +kernel
theorem dX8_made_29 : decode cX8_made 29 = .ok (.goto 24, 3) := by decide +kernel
theorem dX8_made_32 : decode cX8_made 32 = .ok (.aload_n 0, 1) := by decide +kernel
theorem dX8_made_33 : decode cX8_made 33 = .ok (.iload_n 1, 1) := by decide +kernel
theorem dX8_made_34 : decode cX8_made 34 = .ok (.iload_n 2, 1) := by decide +kernel
theorem dX8_made_35 : decode cX8_made 35 = .ok (.invokevirtual 291, 3) := by decide +kernel
theorem dX8_made_38 : decode cX8_made 38 = .ok (.ifCond .eq 13, 3) := by decide +kernel
theorem dX8_made_41 : decode cX8_made 41 = .ok (.aload_n 0, 1) := by decide +kernel
theorem dX8_made_42 : decode cX8_made 42 = .ok (.getfield 288, 3) := by decide +kernel
theorem dX8_made_45 : decode cX8_made 45 = .ok (.ldc 167, 2) := by decide +kernel
theorem dX8_made_47 : decode cX8_made 47 = .ok (.iadd, 1) := by decide +kernel
theorem dX8_made_48 : decode cX8_made 48 = .ok (.goto 5, 3) := by decide +kernel
theorem dX8_made_51 : decode cX8_made 51 = .ok (.bipush (-4), 2) := by decide +kernel
theorem dX8_made_53 : decode cX8_made 53 = .ok (.ireturn, 1) := by decide +kernel
theorem dX8_make_0 : decode cX8_make 0 = .ok (.aload_n 0, 1) := by decide +kernel
theorem dX8_make_1 : decode cX8_make 1 = .ok (.iload_n 1, 1) := by decide +kernel
theorem dX8_make_2 : decode cX8_make 2 = .ok (.invokevirtual 161, 3) := by decide +kernel
theorem dX8_make_5 : decode cX8_make 5 = .ok (.ifCond .eq 11, 3) := by decide +kernel
theorem dX8_make_8 : decode cX8_make 8 = .ok (.aload_n 0, 1) := by decide +kernel
theorem dX8_make_9 : decode cX8_make 9 = .ok (.iload_n 2, 1) := by decide +kernel
theorem dX8_make_10 : decode cX8_make 10 = .ok (.invokevirtual 171, 3) := by decide +kernel
theorem dX8_make_13 : decode cX8_make 13 = .ok (.ifCond .ne 5, 3) := by decide +kernel
theorem dX8_make_16 : decode cX8_make 16 = .ok (.iconst (-1), 1) := by decide +kernel
theorem dX8_make_17 : decode cX8_make 17 = .ok (.ireturn, 1) := by decide +kernel
theorem dX8_make_18 : decode cX8_make 18 = .ok (.aload_n 0, 1) := by decide +kernel
theorem dX8_make_19 : decode cX8_make 19 = .ok (.iload_n 1, 1) := by decide +kernel
theorem dX8_make_20 : decode cX8_make 20 = .ok (.iload_n 2, 1) := by decide +kernel
theorem dX8_make_21 : decode cX8_make 21 = .ok (.invokevirtual 184, 3) := by decide +kernel
theorem dX8_make_24 : decode cX8_make 24 = .ok (.ifCond .eq 6, 3) := by decide +kernel
theorem dX8_make_27 : decode cX8_make 27 = .ok (.bipush (-2), 2) := by decide +kernel
theorem dX8_make_29 : decode cX8_make 29 = .ok (.ireturn, 1) := by decide +kernel
theorem dX8_make_30 : decode cX8_make 30 = .ok (.aload_n 0, 1) := by decide +kernel
theorem dX8_make_31 : decode cX8_make 31 = .ok (.iload_n 1, 1) := by decide +kernel
theorem dX8_make_32 : decode cX8_make 32 = .ok (.iload_n 2, 1) := by decide +kernel
theorem dX8_make_33 : decode cX8_make 33 = .ok (.invokevirtual 291, 3) := by decide +kernel
theorem dX8_make_36 : decode cX8_make 36 = .ok (.ifCond .ne 6, 3) := by decide +kernel
theorem dX8_make_39 : decode cX8_make 39 = .ok (.bipush (-4), 2) := by decide +kernel
theorem dX8_make_41 : decode cX8_make 41 = .ok (.ireturn, 1) := by decide +kernel
theorem dX8_make_42 : decode cX8_make 42 = .ok (.aload_n 0, 1) := by decide +kernel
theorem dX8_make_43 : decode cX8_make 43 = .ok (.getfield 288, 3) := by decide +kernel
theorem dX8_make_46 : decode cX8_make 46 = .ok (.i2l, 1) := by decide +kernel
theorem dX8_make_47 : decode cX8_make 47 = .ok (.ldc2_w 177, 3) := by decide +kernel
theorem dX8_make_50 : decode cX8_make 50 = .ok (.ldc2_w 179, 3) := by decide +kernel
theorem dX8_make_53 : decode cX8_make 53 = .ok (.invokestatic 98, 3) := by decide +kernel
theorem dX8_make_56 : decode cX8_make 56 = .ok (.ifCond .ne 6, 3) := by decide +kernel
theorem dX8_make_59 : decode cX8_make 59 = .ok (.bipush (-3), 2) := by decide +kernel
theorem dX8_make_61 : decode cX8_make 61 = .ok (.ireturn, 1) := by decide +kernel
theorem dX8_make_62 : decode cX8_make 62 = .ok (.aload_n 0, 1) := by decide +kernel
theorem dX8_make_63 : decode cX8_make 63 = .ok (.bipush 16, 2) := by decide +kernel
theorem dX8_make_65 : decode cX8_make 65 = .ok (.iload_n 1, 1) := by decide +kernel
theorem dX8_make_66 : decode cX8_make 66 = .ok (.imul, 1) := by decide +kernel
theorem dX8_make_67 : decode cX8_make 67 = .ok (.iload_n 2, 1) := by decide +kernel
theorem dX8_make_68 : decode cX8_make 68 = .ok (.iadd, 1) := by decide +kernel
theorem dX8_make_69 : decode cX8_make 69 = .ok (.aload_n 0, 1) := by decide +kernel
theorem dX8_make_70 : decode cX8_make 70 = .ok (.getfield 288, 3) := by decide +kernel
theorem dX8_make_73 : decode cX8_make 73 = .ok (.invokevirtual 181, 3) := by decide +kernel
theorem dX8_make_76 : decode cX8_make 76 = .ok (.pop, 1) := by decide +kernel
theorem dX8_make_77 : decode cX8_make 77 = .ok (.aload_n 0, 1) := by decide +kernel
theorem dX8_make_78 : decode cX8_make 78 = .ok (.getfield 288, 3) := by decide +kernel
theorem dX8_make_81 : decode cX8_make 81 = .ok (.ldc 167, 2) := by decide +kernel
theorem dX8_make_83 : decode cX8_make 83 = .ok (.iadd, 1) := by decide +kernel
theorem dX8_make_84 : decode cX8_make 84 = .ok (.ireturn, 1) := by decide +kernel
theorem dX8_rise_0 : decode cX8_rise 0 = .ok (.aload_n 0, 1) := by decide +kernel
theorem dX8_rise_1 : decode cX8_rise 1 = .ok (.iload_n 1, 1) := by decide +kernel
theorem dX8_rise_2 : decode cX8_rise 2 = .ok (.invokevirtual 161, 3) := by decide +kernel
theorem dX8_rise_5 : decode cX8_rise 5 = .ok (.ifCond .ne 5, 3) := by decide +kernel
theorem dX8_rise_8 : decode cX8_rise 8 = .ok (.iconst (-1), 1) := by decide +kernel
theorem dX8_rise_9 : decode cX8_rise 9 = .ok (.ireturn, 1) := by decide +kernel
theorem dX8_rise_10 : decode cX8_rise 10 = .ok (.ldc 167, 2) := by decide +kernel
theorem dX8_rise_12 : decode cX8_rise 12 = .ok (.istore_n 2, 1) := by decide +kernel
theorem dX8_rise_13 : decode cX8_rise 13 = .ok (.iconst 0, 1) := by decide +kernel
theorem dX8_rise_14 : decode cX8_rise 14 = .ok (.istore_n 3, 1) := by decide +kernel
theorem dX8_rise_15 : decode cX8_rise 15 = .ok (.iload_n 3, 1) := by decide +kernel
theorem dX8_rise_16 : decode cX8_rise 16 = .ok (.aload_n 0, 1) := by decide +kernel
theorem dX8_rise_17 : decode cX8_rise 17 = .ok (.getfield 151, 3) := by decide +kernel
theorem dX8_rise_20 : decode cX8_rise 20 = .ok (.if_icmp .ge 87, 3) := by decide +kernel
theorem dX8_rise_23 : decode cX8_rise 23 = .ok (.iconst 0, 1) := by decide +kernel
theorem dX8_rise_24 : decode cX8_rise 24 = .ok (.istore 4, 2) := by decide +kernel
theorem dX8_rise_26 : decode cX8_rise 26 = .ok (.iload 4, 2) := by decide +kernel
theorem dX8_rise_28 : decode cX8_rise 28 = .ok (.iload_n 3, 1) := by decide +kernel
theorem dX8_rise_29 : decode cX8_rise 29 = .ok (.if_icmp .ge 72, 3) := by decide +kernel
theorem dX8_rise_32 : decode cX8_rise 32 = .ok (.aload_n 0, 1) := by decide +kernel
theorem dX8_rise_33 : decode cX8_rise 33 = .ok (.iload_n 1, 1) := by decide +kernel
theorem dX8_rise_34 : decode cX8_rise 34 = .ok (.iload_n 3, 1) := by decide +kernel
theorem dX8_rise_35 : decode cX8_rise 35 = .ok (.invokevirtual 184, 3) := by decide +kernel
theorem dX8_rise_38 : decode cX8_rise 38 = .ok (.ifCond .eq 57, 3) := by decide +kernel
theorem dX8_rise_41 : decode cX8_rise 41 = .ok (.aload_n 0, 1) := by decide +kernel
theorem dX8_rise_42 : decode cX8_rise 42 = .ok (.iload_n 1, 1) := by decide +kernel
theorem dX8_rise_43 : decode cX8_rise 43 = .ok (.iload 4, 2) := by decide +kernel
theorem dX8_rise_45 : decode cX8_rise 45 = .ok (.invokevirtual 184, 3) := by decide +kernel
theorem dX8_rise_48 : decode cX8_rise 48 = .ok (.ifCond .eq 47, 3) := by decide +kernel
theorem dX8_rise_51 : decode cX8_rise 51 = .ok (.iload_n 2, 1) := by decide +kernel
theorem dX8_rise_52 : decode cX8_rise 52 = .ok (.aload_n 0, 1) := by decide +kernel
theorem dX8_rise_53 : decode cX8_rise 53 = .ok (.iload_n 1, 1) := by decide +kernel
theorem dX8_rise_54 : decode cX8_rise 54 = .ok (.iload_n 3, 1) := by decide +kernel
theorem dX8_rise_55 : decode cX8_rise 55 = .ok (.invokevirtual 164, 3) := by decide +kernel
theorem dX8_rise_58 : decode cX8_rise 58 = .ok (.aload_n 0, 1) := by decide +kernel
theorem dX8_rise_59 : decode cX8_rise 59 = .ok (.iload_n 1, 1) := by decide +kernel
theorem dX8_rise_60 : decode cX8_rise 60 = .ok (.iload 4, 2) := by decide +kernel
theorem dX8_rise_62 : decode cX8_rise 62 = .ok (.invokevirtual 164, 3) := by decide +kernel
theorem dX8_rise_65 : decode cX8_rise 65 = .ok (.if_icmp .le 7, 3) := by decide +kernel
theorem dX8_rise_68 : decode cX8_rise 68 = .ok (.iconst 1, 1) := by decide +kernel
theorem dX8_rise_69 : decode cX8_rise 69 = .ok (.goto 24, 3) := by decide +kernel
theorem dX8_rise_72 : decode cX8_rise 72 = .ok (.aload_n 0, 1) := by decide +kernel
theorem dX8_rise_73 : decode cX8_rise 73 = .ok (.iload_n 1, 1) := by decide +kernel
theorem dX8_rise_74 : decode cX8_rise 74 = .ok (.iload_n 3, 1) := by decide +kernel
theorem dX8_rise_75 : decode cX8_rise 75 = .ok (.invokevirtual 164, 3) := by decide +kernel
theorem dX8_rise_78 : decode cX8_rise 78 = .ok (.aload_n 0, 1) := by decide +kernel
theorem dX8_rise_79 : decode cX8_rise 79 = .ok (.iload_n 1, 1) := by decide +kernel
theorem dX8_rise_80 : decode cX8_rise 80 = .ok (.iload 4, 2) := by decide +kernel
theorem dX8_rise_82 : decode cX8_rise 82 = .ok (.invokevirtual 164, 3) := by decide +kernel
theorem dX8_rise_85 : decode cX8_rise 85 = .ok (.if_icmp .ge 7, 3) := by decide +kernel
theorem dX8_rise_88 : decode cX8_rise 88 = .ok (.iconst (-1), 1) := by decide +kernel
theorem dX8_rise_89 : decode cX8_rise 89 = .ok (.goto 4, 3) := by decide +kernel
theorem dX8_rise_92 : decode cX8_rise 92 = .ok (.iconst 0, 1) := by decide +kernel
theorem dX8_rise_93 : decode cX8_rise 93 = .ok (.iadd, 1) := by decide +kernel
theorem dX8_rise_94 : decode cX8_rise 94 = .ok (.istore_n 2, 1) := by decide +kernel
theorem dX8_rise_95 : decode cX8_rise 95 = .ok (.iinc 4 1, 3) := by decide +kernel
theorem dX8_rise_98 : decode cX8_rise 98 = .ok (.goto (-72), 3) := by decide +kernel
theorem dX8_rise_101 : decode cX8_rise 101 = .ok (.iinc 3 1, 3) := by decide +kernel
theorem dX8_rise_104 : decode cX8_rise 104 = .ok (.goto (-89), 3) := by decide +kernel
theorem dX8_rise_107 : decode cX8_rise 107 = .ok (.iload_n 2, 1) := by decide +kernel
theorem dX8_rise_108 : decode cX8_rise 108 = .ok (.ireturn, 1) := by decide +kernel
theorem dX8_pairs_0 : decode cX8_pairs 0 = .ok (.iconst 0, 1) := by decide +kernel
theorem dX8_pairs_1 : decode cX8_pairs 1 = .ok (.istore_n 1, 1) := by decide +kernel
theorem dX8_pairs_2 : decode cX8_pairs 2 = .ok (.iconst 0, 1) := by decide +kernel
theorem dX8_pairs_3 : decode cX8_pairs 3 = .ok (.istore_n 2, 1) := by decide +kernel
theorem dX8_pairs_4 : decode cX8_pairs 4 = .ok (.iload_n 2, 1) := by decide +kernel
theorem dX8_pairs_5 : decode cX8_pairs 5 = .ok (.aload_n 0, 1) := by decide +kernel
theorem dX8_pairs_6 : decode cX8_pairs 6 = .ok (.getfield 148, 3) := by decide +kernel
theorem dX8_pairs_9 : decode cX8_pairs 9 = .ok (.if_icmp .ge 39, 3) := by decide +kernel
theorem dX8_pairs_12 : decode cX8_pairs 12 = .ok (.iconst 0, 1) := by decide +kernel
theorem dX8_pairs_13 : decode cX8_pairs 13 = .ok (.istore_n 3, 1) := by decide +kernel
theorem dX8_pairs_14 : decode cX8_pairs 14 = .ok (.iload_n 3, 1) := by decide +kernel
theorem dX8_pairs_15 : decode cX8_pairs 15 = .ok (.iload_n 2, 1) := by decide +kernel
theorem dX8_pairs_16 : decode cX8_pairs 16 = .ok (.if_icmp .ge 26, 3) := by decide +kernel
theorem dX8_pairs_19 : decode cX8_pairs 19 = .ok (.iload_n 1, 1) := by decide +kernel
theorem dX8_pairs_20 : decode cX8_pairs 20 = .ok (.aload_n 0, 1) := by decide +kernel
theorem dX8_pairs_21 : decode cX8_pairs 21 = .ok (.iload_n 2, 1) := by decide +kernel
theorem dX8_pairs_22 : decode cX8_pairs 22 = .ok (.iload_n 3, 1) := by decide +kernel
theorem dX8_pairs_23 : decode cX8_pairs 23 = .ok (.invokevirtual 213, 3) := by decide +kernel
theorem dX8_pairs_26 : decode cX8_pairs 26 = .ok (.ifCond .eq 7, 3) := by decide +kernel
theorem dX8_pairs_29 : decode cX8_pairs 29 = .ok (.iconst 1, 1) := by decide +kernel
theorem dX8_pairs_30 : decode cX8_pairs 30 = .ok (.goto 4, 3) := by decide +kernel
theorem dX8_pairs_33 : decode cX8_pairs 33 = .ok (.iconst 0, 1) := by decide +kernel
theorem dX8_pairs_34 : decode cX8_pairs 34 = .ok (.iadd, 1) := by decide +kernel
theorem dX8_pairs_35 : decode cX8_pairs 35 = .ok (.istore_n 1, 1) := by decide +kernel
theorem dX8_pairs_36 : decode cX8_pairs 36 = .ok (.iinc 3 1, 3) := by decide +kernel
theorem dX8_pairs_39 : decode cX8_pairs 39 = .ok (.goto (-25), 3) := by decide +kernel
theorem dX8_pairs_42 : decode cX8_pairs 42 = .ok (.iinc 2 1, 3) := by decide +kernel
theorem dX8_pairs_45 : decode cX8_pairs 45 = .ok (.goto (-41), 3) := by decide +kernel
theorem dX8_pairs_48 : decode cX8_pairs 48 = .ok (.iload_n 1, 1) := by decide +kernel
theorem dX8_pairs_49 : decode cX8_pairs 49 = .ok (.ireturn, 1) := by decide +kernel
theorem dX8_missing_0 : decode cX8_missing 0 = .ok (.iconst 0, 1) := by decide +kernel
theorem dX8_missing_1 : decode cX8_missing 1 = .ok (.istore_n 1, 1) := by decide +kernel
theorem dX8_missing_2 : decode cX8_missing 2 = .ok (.iconst 0, 1) := by decide +kernel
theorem dX8_missing_3 : decode cX8_missing 3 = .ok (.istore_n 2, 1) := by decide +kernel
theorem dX8_missing_4 : decode cX8_missing 4 = .ok (.iload_n 2, 1) := by decide +kernel
theorem dX8_missing_5 : decode cX8_missing 5 = .ok (.aload_n 0, 1) := by decide +kernel
theorem dX8_missing_6 : decode cX8_missing 6 = .ok (.getfield 148, 3) := by decide +kernel
theorem dX8_missing_9 : decode cX8_missing 9 = .ok (.if_icmp .ge 42, 3) := by decide +kernel
theorem dX8_missing_12 : decode cX8_missing 12 = .ok (.iconst 0, 1) := by decide +kernel
theorem dX8_missing_13 : decode cX8_missing 13 = .ok (.istore_n 3, 1) := by decide +kernel
theorem dX8_missing_14 : decode cX8_missing 14 = .ok (.iload_n 3, 1) := by decide +kernel
theorem dX8_missing_15 : decode cX8_missing 15 = .ok (.aload_n 0, 1) := by decide +kernel
theorem dX8_missing_16 : decode cX8_missing 16 = .ok (.getfield 151, 3) := by decide +kernel
theorem dX8_missing_19 : decode cX8_missing 19 = .ok (.if_icmp .ge 26, 3) := by decide +kernel
theorem dX8_missing_22 : decode cX8_missing 22 = .ok (.iload_n 1, 1) := by decide +kernel
theorem dX8_missing_23 : decode cX8_missing 23 = .ok (.aload_n 0, 1) := by decide +kernel
theorem dX8_missing_24 : decode cX8_missing 24 = .ok (.iload_n 2, 1) := by decide +kernel
theorem dX8_missing_25 : decode cX8_missing 25 = .ok (.iload_n 3, 1) := by decide +kernel
theorem dX8_missing_26 : decode cX8_missing 26 = .ok (.invokevirtual 184, 3) := by decide +kernel
theorem dX8_missing_29 : decode cX8_missing 29 = .ok (.ifCond .eq 7, 3) := by decide +kernel
theorem dX8_missing_32 : decode cX8_missing 32 = .ok (.iconst 0, 1) := by decide +kernel
theorem dX8_missing_33 : decode cX8_missing 33 = .ok (.goto 4, 3) := by decide +kernel
theorem dX8_missing_36 : decode cX8_missing 36 = .ok (.iconst 1, 1) := by decide +kernel
theorem dX8_missing_37 : decode cX8_missing 37 = .ok (.iadd, 1) := by decide +kernel
theorem dX8_missing_38 : decode cX8_missing 38 = .ok (.istore_n 1, 1) := by decide +kernel
theorem dX8_missing_39 : decode cX8_missing 39 = .ok (.iinc 3 1, 3) := by decide +kernel
theorem dX8_missing_42 : decode cX8_missing 42 = .ok (.goto (-28), 3) := by decide +kernel
theorem dX8_missing_45 : decode cX8_missing 45 = .ok (.iinc 2 1, 3) := by decide +kernel
theorem dX8_missing_48 : decode cX8_missing 48 = .ok (.goto (-44), 3) := by decide +kernel
theorem dX8_missing_51 : decode cX8_missing 51 = .ok (.iload_n 1, 1) := by decide +kernel
theorem dX8_missing_52 : decode cX8_missing 52 = .ok (.ireturn, 1) := by decide +kernel
theorem dX8_count_0 : decode cX8_count 0 = .ok (.iload_n 1, 1) := by decide +kernel
theorem dX8_count_1 : decode cX8_count 1 = .ok (.tableswitch 101 0 10 #[59, 64, 69, 69, 69, 69, 69, 81, 86, 91, 96], 59) := by decide +kernel
theorem dX8_count_60 : decode cX8_count 60 = .ok (.aload_n 0, 1) := by decide +kernel
theorem dX8_count_61 : decode cX8_count 61 = .ok (.getfield 148, 3) := by decide +kernel
theorem dX8_count_64 : decode cX8_count 64 = .ok (.ireturn, 1) := by decide +kernel
theorem dX8_count_65 : decode cX8_count 65 = .ok (.aload_n 0, 1) := by decide +kernel
theorem dX8_count_66 : decode cX8_count 66 = .ok (.getfield 151, 3) := by decide +kernel
theorem dX8_count_69 : decode cX8_count 69 = .ok (.ireturn, 1) := by decide +kernel
theorem dX8_count_70 : decode cX8_count 70 = .ok (.aload_n 0, 1) := by decide +kernel
theorem dX8_count_71 : decode cX8_count 71 = .ok (.getfield 19, 3) := by decide +kernel
theorem dX8_count_74 : decode cX8_count 74 = .ok (.bipush 96, 2) := by decide +kernel
theorem dX8_count_76 : decode cX8_count 76 = .ok (.iload_n 1, 1) := by decide +kernel
theorem dX8_count_77 : decode cX8_count 77 = .ok (.iadd, 1) := by decide +kernel
theorem dX8_count_78 : decode cX8_count 78 = .ok (.iconst 2, 1) := by decide +kernel
theorem dX8_count_79 : decode cX8_count 79 = .ok (.isub, 1) := by decide +kernel
theorem dX8_count_80 : decode cX8_count 80 = .ok (.iaload, 1) := by decide +kernel
theorem dX8_count_81 : decode cX8_count 81 = .ok (.ireturn, 1) := by decide +kernel
theorem dX8_count_82 : decode cX8_count 82 = .ok (.aload_n 0, 1) := by decide +kernel
theorem dX8_count_83 : decode cX8_count 83 = .ok (.invokevirtual 294, 3) := by decide +kernel
theorem dX8_count_86 : decode cX8_count 86 = .ok (.ireturn, 1) := by decide +kernel
theorem dX8_count_87 : decode cX8_count 87 = .ok (.aload_n 0, 1) := by decide +kernel
theorem dX8_count_88 : decode cX8_count 88 = .ok (.invokevirtual 297, 3) := by decide +kernel
theorem dX8_count_91 : decode cX8_count 91 = .ok (.ireturn, 1) := by decide +kernel
theorem dX8_count_92 : decode cX8_count 92 = .ok (.aload_n 0, 1) := by decide +kernel
theorem dX8_count_93 : decode cX8_count 93 = .ok (.getfield 154, 3) := by decide +kernel
theorem dX8_count_96 : decode cX8_count 96 = .ok (.ireturn, 1) := by decide +kernel
theorem dX8_count_97 : decode cX8_count 97 = .ok (.aload_n 0, 1) := by decide +kernel
theorem dX8_count_98 : decode cX8_count 98 = .ok (.getfield 102, 3) := by decide +kernel
theorem dX8_count_101 : decode cX8_count 101 = .ok (.ireturn, 1) := by decide +kernel
theorem dX8_count_102 : decode cX8_count 102 = .ok (.iconst (-1), 1) := by decide +kernel
theorem dX8_count_103 : decode cX8_count 103 = .ok (.ireturn, 1) := by decide +kernel
