theorem dL_acts_0 : decode cL_acts 0 = .ok (.aload_n 0, 1) := by decide +kernel
theorem dL_acts_1 : decode cL_acts 1 = .ok (.iconst 0, 1) := by decide +kernel
theorem dL_acts_2 : decode cL_acts 2 = .ok (.invokevirtual 11, 3) := by decide +kernel
theorem dL_acts_5 : decode cL_acts 5 = .ok (.istore 4, 2) := by decide +kernel
theorem dL_acts_7 : decode cL_acts 7 = .ok (.iload 4, 2) := by decide +kernel
theorem dL_acts_9 : decode cL_acts 9 = .ok (.ifCond .ne 7, 3) := by decide +kernel
theorem dL_acts_12 : decode cL_acts 12 = .ok (.iconst 0, 1) := by decide +kernel
theorem dL_acts_13 : decode cL_acts 13 = .ok (.goto 9, 3) := by decide +kernel
theorem dL_acts_16 : decode cL_acts 16 = .ok (.iload_n 2, 1) := by decide +kernel
theorem dL_acts_17 : decode cL_acts 17 = .ok (.iload 4, 2) := by decide +kernel
theorem dL_acts_19 : decode cL_acts 19 = .ok (.invokestatic 66, 3) := by decide +kernel
theorem dL_acts_22 : decode cL_acts 22 = .ok (.istore 5, 2) := by decide +kernel
theorem dL_acts_24 : decode cL_acts 24 = .ok (.iload_n 3, 1) := by decide +kernel
theorem dL_acts_25 : decode cL_acts 25 = .ok (.sipush 401, 3) := by decide +kernel
theorem dL_acts_28 : decode cL_acts 28 = .ok (.invokestatic 66, 3) := by decide +kernel
theorem dL_acts_31 : decode cL_acts 31 = .ok (.sipush 200, 3) := by decide +kernel
theorem dL_acts_34 : decode cL_acts 34 = .ok (.isub, 1) := by decide +kernel
theorem dL_acts_35 : decode cL_acts 35 = .ok (.istore 6, 2) := by decide +kernel
theorem dL_acts_37 : decode cL_acts 37 = .ok (.iload_n 3, 1) := by decide +kernel
theorem dL_acts_38 : decode cL_acts 38 = .ok (.bipush 9, 2) := by decide +kernel
theorem dL_acts_40 : decode cL_acts 40 = .ok (.ishr, 1) := by decide +kernel
theorem dL_acts_41 : decode cL_acts 41 = .ok (.sipush 401, 3) := by decide +kernel
theorem dL_acts_44 : decode cL_acts 44 = .ok (.invokestatic 66, 3) := by decide +kernel
theorem dL_acts_47 : decode cL_acts 47 = .ok (.sipush 200, 3) := by decide +kernel
theorem dL_acts_50 : decode cL_acts 50 = .ok (.isub, 1) := by decide +kernel
theorem dL_acts_51 : decode cL_acts 51 = .ok (.istore 7, 2) := by decide +kernel
theorem dL_acts_53 : decode cL_acts 53 = .ok (.iload_n 1, 1) := by decide +kernel
theorem dL_acts_54 : decode cL_acts 54 = .ok (.iconst 4, 1) := by decide +kernel
theorem dL_acts_55 : decode cL_acts 55 = .ok (.if_icmp .ge 237, 3) := by decide +kernel
theorem dL_acts_58 : decode cL_acts 58 = .ok (.iload_n 2, 1) := by decide +kernel
theorem dL_acts_59 : decode cL_acts 59 = .ok (.iconst 3, 1) := by decide +kernel
theorem dL_acts_60 : decode cL_acts 60 = .ok (.ishr, 1) := by decide +kernel
theorem dL_acts_61 : decode cL_acts 61 = .ok (.bipush 100, 2) := by decide +kernel
theorem dL_acts_63 : decode cL_acts 63 = .ok (.invokestatic 66, 3) := by decide +kernel
theorem dL_acts_66 : decode cL_acts 66 = .ok (.istore 8, 2) := by decide +kernel
theorem dL_acts_68 : decode cL_acts 68 = .ok (.iload_n 2, 1) := by decide +kernel
theorem dL_acts_69 : decode cL_acts 69 = .ok (.bipush 10, 2) := by decide +kernel
theorem dL_acts_71 : decode cL_acts 71 = .ok (.ishr, 1) := by decide +kernel
theorem dL_acts_72 : decode cL_acts 72 = .ok (.bipush 41, 2) := by decide +kernel
theorem dL_acts_74 : decode cL_acts 74 = .ok (.invokestatic 66, 3) := by decide +kernel
theorem dL_acts_77 : decode cL_acts 77 = .ok (.istore 9, 2) := by decide +kernel
theorem dL_acts_79 : decode cL_acts 79 = .ok (.iconst 0, 1) := by decide +kernel
theorem dL_acts_80 : decode cL_acts 80 = .ok (.istore 10, 2) := by decide +kernel
theorem dL_acts_82 : decode cL_acts 82 = .ok (.iconst 0, 1) := by decide +kernel
theorem dL_acts_83 : decode cL_acts 83 = .ok (.istore 11, 2) := by decide +kernel
theorem dL_acts_85 : decode cL_acts 85 = .ok (.iconst 0, 1) := by decide +kernel
theorem dL_acts_86 : decode cL_acts 86 = .ok (.istore 12, 2) := by decide +kernel
theorem dL_acts_88 : decode cL_acts 88 = .ok (.iload 12, 2) := by decide +kernel
theorem dL_acts_90 : decode cL_acts 90 = .ok (.iload 4, 2) := by decide +kernel
theorem dL_acts_92 : decode cL_acts 92 = .ok (.if_icmp .ge 53, 3) := by decide +kernel
theorem dL_acts_95 : decode cL_acts 95 = .ok (.iload 10, 2) := by decide +kernel
theorem dL_acts_97 : decode cL_acts 97 = .ok (.aload_n 0, 1) := by decide +kernel
theorem dL_acts_98 : decode cL_acts 98 = .ok (.iload 12, 2) := by decide +kernel
theorem dL_acts_100 : decode cL_acts 100 = .ok (.iconst 0, 1) := by decide +kernel
theorem dL_acts_101 : decode cL_acts 101 = .ok (.invokevirtual 19, 3) := by decide +kernel
theorem dL_acts_104 : decode cL_acts 104 = .ok (.iload 8, 2) := by decide +kernel
theorem dL_acts_106 : decode cL_acts 106 = .ok (.if_icmp .ne 7, 3) := by decide +kernel
theorem dL_acts_109 : decode cL_acts 109 = .ok (.iconst 1, 1) := by decide +kernel
theorem dL_acts_110 : decode cL_acts 110 = .ok (.goto 4, 3) := by decide +kernel
theorem dL_acts_113 : decode cL_acts 113 = .ok (.iconst 0, 1) := by decide +kernel
theorem dL_acts_114 : decode cL_acts 114 = .ok (.ior, 1) := by decide +kernel
theorem dL_acts_115 : decode cL_acts 115 = .ok (.istore 10, 2) := by decide +kernel
theorem dL_acts_117 : decode cL_acts 117 = .ok (.iload 11, 2) := by decide +kernel
theorem dL_acts_119 : decode cL_acts 119 = .ok (.aload_n 0, 1) := by decide +kernel
theorem dL_acts_120 : decode cL_acts 120 = .ok (.iload 12, 2) := by decide +kernel
theorem dL_acts_122 : decode cL_acts 122 = .ok (.iconst 0, 1) := by decide +kernel
theorem dL_acts_123 : decode cL_acts 123 = .ok (.invokevirtual 19, 3) := by decide +kernel
theorem dL_acts_126 : decode cL_acts 126 = .ok (.iload 8, 2) := by decide +kernel
theorem dL_acts_128 : decode cL_acts 128 = .ok (.if_icmp .ge 7, 3) := by decide +kernel
theorem dL_acts_131 : decode cL_acts 131 = .ok (.iconst 1, 1) := by decide +kernel
theorem dL_acts_132 : decode cL_acts 132 = .ok (.goto 4, 3) := by decide +kernel
theorem dL_acts_135 : decode cL_acts 135 = .ok (.iconst 0, 1) := by decide +kernel
theorem dL_acts_136 : decode cL_acts 136 = .ok (.iadd, 1) := by decide +kernel
theorem dL_acts_137 : decode cL_acts 137 = .ok (.istore 11, 2) := by decide +kernel
theorem dL_acts_139 : decode cL_acts 139 = .ok (.iinc 12 1, 3) := by decide +kernel
theorem dL_acts_142 : decode cL_acts 142 = .ok (.goto (-54), 3) := by decide +kernel
theorem dL_acts_145 : decode cL_acts 145 = .ok (.aload_n 0, 1) := by decide +kernel
theorem dL_acts_146 : decode cL_acts 146 = .ok (.iload 8, 2) := by decide +kernel
theorem dL_acts_148 : decode cL_acts 148 = .ok (.iload 6, 2) := by decide +kernel
theorem dL_acts_150 : decode cL_acts 150 = .ok (.iload 7, 2) := by decide +kernel
theorem dL_acts_152 : decode cL_acts 152 = .ok (.iload 9, 2) := by decide +kernel
theorem dL_acts_154 : decode cL_acts 154 = .ok (.invokevirtual 78, 3) := by decide +kernel
theorem dL_acts_157 : decode cL_acts 157 = .ok (.istore 12, 2) := by decide +kernel
theorem dL_acts_159 : decode cL_acts 159 = .ok (.iload 12, 2) := by decide +kernel
theorem dL_acts_161 : decode cL_acts 161 = .ok (.iload 10, 2) := by decide +kernel
theorem dL_acts_163 : decode cL_acts 163 = .ok (.ifCond .eq 8, 3) := by decide +kernel
theorem dL_acts_166 : decode cL_acts 166 = .ok (.bipush (-4), 2) := by decide +kernel
theorem dL_acts_168 : decode cL_acts 168 = .ok (.goto 17, 3) := by decide +kernel
theorem dL_acts_171 : decode cL_acts 171 = .ok (.iload 4, 2) := by decide +kernel
theorem dL_acts_173 : decode cL_acts 173 = .ok (.bipush 10, 2) := by decide +kernel
theorem dL_acts_175 : decode cL_acts 175 = .ok (.if_icmp .ne 8, 3) := by decide +kernel
theorem dL_acts_178 : decode cL_acts 178 = .ok (.bipush (-3), 2) := by decide +kernel
theorem dL_acts_180 : decode cL_acts 180 = .ok (.goto 5, 3) := by decide +kernel
theorem dL_acts_183 : decode cL_acts 183 = .ok (.iload 11, 2) := by decide +kernel
theorem dL_acts_185 : decode cL_acts 185 = .ok (.if_icmp .ne 105, 3) := by decide +kernel
theorem dL_acts_188 : decode cL_acts 188 = .ok (.iload 12, 2) := by decide +kernel
theorem dL_acts_190 : decode cL_acts 190 = .ok (.ifCond .lt 82, 3) := by decide +kernel
theorem dL_acts_193 : decode cL_acts 193 = .ok (.aload_n 0, 1) := by decide +kernel
theorem dL_acts_194 : decode cL_acts 194 = .ok (.iload 12, 2) := by decide +kernel
theorem dL_acts_196 : decode cL_acts 196 = .ok (.iconst 0, 1) := by decide +kernel
theorem dL_acts_197 : decode cL_acts 197 = .ok (.invokevirtual 19, 3) := by decide +kernel
theorem dL_acts_200 : decode cL_acts 200 = .ok (.iload 8, 2) := by decide +kernel
theorem dL_acts_202 : decode cL_acts 202 = .ok (.if_icmp .ne 88, 3) := by decide +kernel
theorem dL_acts_205 : decode cL_acts 205 = .ok (.aload_n 0, 1) := by decide +kernel
theorem dL_acts_206 : decode cL_acts 206 = .ok (.iload 12, 2) := by decide +kernel
theorem dL_acts_208 : decode cL_acts 208 = .ok (.iconst 1, 1) := by decide +kernel
theorem dL_acts_209 : decode cL_acts 209 = .ok (.invokevirtual 19, 3) := by decide +kernel
theorem dL_acts_212 : decode cL_acts 212 = .ok (.iload 6, 2) := by decide +kernel
theorem dL_acts_214 : decode cL_acts 214 = .ok (.sipush 1000, 3) := by decide +kernel
theorem dL_acts_217 : decode cL_acts 217 = .ok (.iadd, 1) := by decide +kernel
theorem dL_acts_218 : decode cL_acts 218 = .ok (.if_icmp .ne 72, 3) := by decide +kernel
theorem dL_acts_221 : decode cL_acts 221 = .ok (.aload_n 0, 1) := by decide +kernel
theorem dL_acts_222 : decode cL_acts 222 = .ok (.iload 12, 2) := by decide +kernel
theorem dL_acts_224 : decode cL_acts 224 = .ok (.iconst 2, 1) := by decide +kernel
theorem dL_acts_225 : decode cL_acts 225 = .ok (.invokevirtual 19, 3) := by decide +kernel
theorem dL_acts_228 : decode cL_acts 228 = .ok (.iload 7, 2) := by decide +kernel
theorem dL_acts_230 : decode cL_acts 230 = .ok (.sipush 1000, 3) := by decide +kernel
theorem dL_acts_233 : decode cL_acts 233 = .ok (.iadd, 1) := by decide +kernel
theorem dL_acts_234 : decode cL_acts 234 = .ok (.if_icmp .ne 56, 3) := by decide +kernel
theorem dL_acts_237 : decode cL_acts 237 = .ok (.aload_n 0, 1) := by decide +kernel
theorem dL_acts_238 : decode cL_acts 238 = .ok (.iload 12, 2) := by decide +kernel
theorem dL_acts_240 : decode cL_acts 240 = .ok (.iconst 3, 1) := by decide +kernel
theorem dL_acts_241 : decode cL_acts 241 = .ok (.invokevirtual 19, 3) := by decide +kernel
theorem dL_acts_244 : decode cL_acts 244 = .ok (.iload 9, 2) := by decide +kernel
theorem dL_acts_246 : decode cL_acts 246 = .ok (.if_icmp .ne 44, 3) := by decide +kernel
theorem dL_acts_249 : decode cL_acts 249 = .ok (.aload_n 0, 1) := by decide +kernel
theorem dL_acts_250 : decode cL_acts 250 = .ok (.iload 12, 2) := by decide +kernel
theorem dL_acts_252 : decode cL_acts 252 = .ok (.iconst 4, 1) := by decide +kernel
theorem dL_acts_253 : decode cL_acts 253 = .ok (.invokevirtual 19, 3) := by decide +kernel
theorem dL_acts_256 : decode cL_acts 256 = .ok (.bipush (-5), 2) := by decide +kernel
theorem dL_acts_258 : decode cL_acts 258 = .ok (.if_icmp .ne 32, 3) := by decide +kernel
theorem dL_acts_261 : decode cL_acts 261 = .ok (.aload_n 0, 1) := by decide +kernel
theorem dL_acts_262 : decode cL_acts 262 = .ok (.iload 12, 2) := by decide +kernel
theorem dL_acts_264 : decode cL_acts 264 = .ok (.bipush 6, 2) := by decide +kernel
theorem dL_acts_266 : decode cL_acts 266 = .ok (.invokevirtual 19, 3) := by decide +kernel
theorem dL_acts_269 : decode cL_acts 269 = .ok (.ifCond .ne 21, 3) := by decide +kernel
theorem dL_acts_272 : decode cL_acts 272 = .ok (.aload_n 0, 1) := by decide +kernel
theorem dL_acts_273 : decode cL_acts 273 = .ok (.bipush 100, 2) := by decide +kernel
theorem dL_acts_275 : decode cL_acts 275 = .ok (.iconst 0, 1) := by decide +kernel
theorem dL_acts_276 : decode cL_acts 276 = .ok (.iconst 0, 1) := by decide +kernel
theorem dL_acts_277 : decode cL_acts 277 = .ok (.iconst 0, 1) := by decide +kernel
theorem dL_acts_278 : decode cL_acts 278 = .ok (.invokevirtual 78, 3) := by decide +kernel
theorem dL_acts_281 : decode cL_acts 281 = .ok (.bipush (-2), 2) := by decide +kernel
theorem dL_acts_283 : decode cL_acts 283 = .ok (.if_icmp .ne 7, 3) := by decide +kernel
theorem dL_acts_286 : decode cL_acts 286 = .ok (.iconst 1, 1) := by decide +kernel
theorem dL_acts_287 : decode cL_acts 287 = .ok (.goto 4, 3) := by decide +kernel
theorem dL_acts_290 : decode cL_acts 290 = .ok (.iconst 0, 1) := by decide +kernel
theorem dL_acts_291 : decode cL_acts 291 = .ok (.ireturn, 1) := by decide +kernel
theorem dL_acts_292 : decode cL_acts 292 = .ok (.iload 4, 2) := by decide +kernel
theorem dL_acts_294 : decode cL_acts 294 = .ok (.ifCond .ne 50, 3) := by decide +kernel
theorem dL_acts_297 : decode cL_acts 297 = .ok (.aload_n 0, 1) := by decide +kernel
theorem dL_acts_298 : decode cL_acts 298 = .ok (.iconst 0, 1) := by decide +kernel
theorem dL_acts_299 : decode cL_acts 299 = .ok (.iconst 0, 1) := by decide +kernel
theorem dL_acts_300 : decode cL_acts 300 = .ok (.iconst 0, 1) := by decide +kernel
theorem dL_acts_301 : decode cL_acts 301 = .ok (.invokevirtual 82, 3) := by decide +kernel
theorem dL_acts_304 : decode cL_acts 304 = .ok (.iconst (-1), 1) := by decide +kernel
theorem dL_acts_305 : decode cL_acts 305 = .ok (.if_icmp .ne 37, 3) := by decide +kernel
theorem dL_acts_308 : decode cL_acts 308 = .ok (.aload_n 0, 1) := by decide +kernel
theorem dL_acts_309 : decode cL_acts 309 = .ok (.iconst 0, 1) := by decide +kernel
theorem dL_acts_310 : decode cL_acts 310 = .ok (.invokevirtual 85, 3) := by decide +kernel
theorem dL_acts_313 : decode cL_acts 313 = .ok (.iconst (-1), 1) := by decide +kernel
theorem dL_acts_314 : decode cL_acts 314 = .ok (.if_icmp .ne 28, 3) := by decide +kernel
theorem dL_acts_317 : decode cL_acts 317 = .ok (.aload_n 0, 1) := by decide +kernel
theorem dL_acts_318 : decode cL_acts 318 = .ok (.iconst 0, 1) := by decide +kernel
theorem dL_acts_319 : decode cL_acts 319 = .ok (.iconst 0, 1) := by decide +kernel
theorem dL_acts_320 : decode cL_acts 320 = .ok (.iconst 0, 1) := by decide +kernel
theorem dL_acts_321 : decode cL_acts 321 = .ok (.invokevirtual 88, 3) := by decide +kernel
theorem dL_acts_324 : decode cL_acts 324 = .ok (.iconst (-1), 1) := by decide +kernel
theorem dL_acts_325 : decode cL_acts 325 = .ok (.if_icmp .ne 17, 3) := by decide +kernel
theorem dL_acts_328 : decode cL_acts 328 = .ok (.aload_n 0, 1) := by decide +kernel
theorem dL_acts_329 : decode cL_acts 329 = .ok (.iconst 0, 1) := by decide +kernel
theorem dL_acts_330 : decode cL_acts 330 = .ok (.iconst 1, 1) := by decide +kernel
theorem dL_acts_331 : decode cL_acts 331 = .ok (.invokevirtual 91, 3) := by decide +kernel
theorem dL_acts_334 : decode cL_acts 334 = .ok (.iconst (-1), 1) := by decide +kernel
theorem dL_acts_335 : decode cL_acts 335 = .ok (.if_icmp .ne 7, 3) := by decide +kernel
theorem dL_acts_338 : decode cL_acts 338 = .ok (.iconst 1, 1) := by decide +kernel
theorem dL_acts_339 : decode cL_acts 339 = .ok (.goto 4, 3) := by decide +kernel
theorem dL_acts_342 : decode cL_acts 342 = .ok (.iconst 0, 1) := by decide +kernel
theorem dL_acts_343 : decode cL_acts 343 = .ok (.ireturn, 1) := by decide +kernel
theorem dL_acts_344 : decode cL_acts 344 = .ok (.iload_n 1, 1) := by decide +kernel
theorem dL_acts_345 : decode cL_acts 345 = .ok (.bipush 7, 2) := by decide +kernel
theorem dL_acts_347 : decode cL_acts 347 = .ok (.if_icmp .ge 173, 3) := by decide +kernel
theorem dL_acts_350 : decode cL_acts 350 = .ok (.iload_n 3, 1) := by decide +kernel
theorem dL_acts_351 : decode cL_acts 351 = .ok (.sipush 361, 3) := by decide +kernel
theorem dL_acts_354 : decode cL_acts 354 = .ok (.invokestatic 66, 3) := by decide +kernel
theorem dL_acts_357 : decode cL_acts 357 = .ok (.istore 8, 2) := by decide +kernel
theorem dL_acts_359 : decode cL_acts 359 = .ok (.iload 8, 2) := by decide +kernel
theorem dL_acts_361 : decode cL_acts 361 = .ok (.sipush 360, 3) := by decide +kernel
theorem dL_acts_364 : decode cL_acts 364 = .ok (.if_icmp .ne 7, 3) := by decide +kernel
theorem dL_acts_367 : decode cL_acts 367 = .ok (.iconst 0, 1) := by decide +kernel
theorem dL_acts_368 : decode cL_acts 368 = .ok (.goto 12, 3) := by decide +kernel
theorem dL_acts_371 : decode cL_acts 371 = .ok (.iload_n 3, 1) := by decide +kernel
theorem dL_acts_372 : decode cL_acts 372 = .ok (.bipush 9, 2) := by decide +kernel
theorem dL_acts_374 : decode cL_acts 374 = .ok (.ishr, 1) := by decide +kernel
theorem dL_acts_375 : decode cL_acts 375 = .ok (.bipush 61, 2) := by decide +kernel
theorem dL_acts_377 : decode cL_acts 377 = .ok (.invokestatic 66, 3) := by decide +kernel
theorem dL_acts_380 : decode cL_acts 380 = .ok (.istore 9, 2) := by decide +kernel
theorem dL_acts_382 : decode cL_acts 382 = .ok (.aload_n 0, 1) := by decide +kernel
theorem dL_acts_383 : decode cL_acts 383 = .ok (.iload 5, 2) := by decide +kernel
theorem dL_acts_385 : decode cL_acts 385 = .ok (.iconst 4, 1) := by decide +kernel
theorem dL_acts_386 : decode cL_acts 386 = .ok (.invokevirtual 19, 3) := by decide +kernel
theorem dL_acts_389 : decode cL_acts 389 = .ok (.istore 10, 2) := by decide +kernel
theorem dL_acts_391 : decode cL_acts 391 = .ok (.iload 8, 2) := by decide +kernel
theorem dL_acts_393 : decode cL_acts 393 = .ok (.sipush 360, 3) := by decide +kernel
theorem dL_acts_396 : decode cL_acts 396 = .ok (.if_icmp .ne 16, 3) := by decide +kernel
theorem dL_acts_399 : decode cL_acts 399 = .ok (.iload 10, 2) := by decide +kernel
theorem dL_acts_401 : decode cL_acts 401 = .ok (.ifCond .ge 7, 3) := by decide +kernel
theorem dL_acts_404 : decode cL_acts 404 = .ok (.iconst 1, 1) := by decide +kernel
theorem dL_acts_405 : decode cL_acts 405 = .ok (.goto 31, 3) := by decide +kernel
theorem dL_acts_408 : decode cL_acts 408 = .ok (.iconst 0, 1) := by decide +kernel
theorem dL_acts_409 : decode cL_acts 409 = .ok (.goto 27, 3) := by decide +kernel
theorem dL_acts_412 : decode cL_acts 412 = .ok (.iload 10, 2) := by decide +kernel
theorem dL_acts_414 : decode cL_acts 414 = .ok (.iload 8, 2) := by decide +kernel
theorem dL_acts_416 : decode cL_acts 416 = .ok (.if_icmp .ne 19, 3) := by decide +kernel
theorem dL_acts_419 : decode cL_acts 419 = .ok (.aload_n 0, 1) := by decide +kernel
theorem dL_acts_420 : decode cL_acts 420 = .ok (.iload 5, 2) := by decide +kernel
theorem dL_acts_422 : decode cL_acts 422 = .ok (.iconst 5, 1) := by decide +kernel
theorem dL_acts_423 : decode cL_acts 423 = .ok (.invokevirtual 19, 3) := by decide +kernel
theorem dL_acts_426 : decode cL_acts 426 = .ok (.iload 9, 2) := by decide +kernel
theorem dL_acts_428 : decode cL_acts 428 = .ok (.if_icmp .ne 7, 3) := by decide +kernel
theorem dL_acts_431 : decode cL_acts 431 = .ok (.iconst 1, 1) := by decide +kernel
theorem dL_acts_432 : decode cL_acts 432 = .ok (.goto 4, 3) := by decide +kernel
theorem dL_acts_435 : decode cL_acts 435 = .ok (.iconst 0, 1) := by decide +kernel
theorem dL_acts_436 : decode cL_acts 436 = .ok (.istore 11, 2) := by decide +kernel
theorem dL_acts_438 : decode cL_acts 438 = .ok (.aload_n 0, 1) := by decide +kernel
theorem dL_acts_439 : decode cL_acts 439 = .ok (.iload 5, 2) := by decide +kernel
theorem dL_acts_441 : decode cL_acts 441 = .ok (.iload 8, 2) := by decide +kernel
theorem dL_acts_443 : decode cL_acts 443 = .ok (.iload 9, 2) := by decide +kernel
theorem dL_acts_445 : decode cL_acts 445 = .ok (.invokevirtual 88, 3) := by decide +kernel
theorem dL_acts_448 : decode cL_acts 448 = .ok (.iload 11, 2) := by decide +kernel
theorem dL_acts_450 : decode cL_acts 450 = .ok (.ifCond .eq 8, 3) := by decide +kernel
theorem dL_acts_453 : decode cL_acts 453 = .ok (.bipush (-5), 2) := by decide +kernel
theorem dL_acts_455 : decode cL_acts 455 = .ok (.goto 16, 3) := by decide +kernel
theorem dL_acts_458 : decode cL_acts 458 = .ok (.iload 10, 2) := by decide +kernel
theorem dL_acts_460 : decode cL_acts 460 = .ok (.ifCond .ge 9, 3) := by decide +kernel
theorem dL_acts_463 : decode cL_acts 463 = .ok (.sipush 360, 3) := by decide +kernel
theorem dL_acts_466 : decode cL_acts 466 = .ok (.goto 5, 3) := by decide +kernel
theorem dL_acts_469 : decode cL_acts 469 = .ok (.iload 10, 2) := by decide +kernel
theorem dL_acts_471 : decode cL_acts 471 = .ok (.if_icmp .ne 47, 3) := by decide +kernel
theorem dL_acts_474 : decode cL_acts 474 = .ok (.aload_n 0, 1) := by decide +kernel
theorem dL_acts_475 : decode cL_acts 475 = .ok (.iload 5, 2) := by decide +kernel
theorem dL_acts_477 : decode cL_acts 477 = .ok (.iconst 4, 1) := by decide +kernel
theorem dL_acts_478 : decode cL_acts 478 = .ok (.invokevirtual 19, 3) := by decide +kernel
theorem dL_acts_481 : decode cL_acts 481 = .ok (.iload 8, 2) := by decide +kernel
theorem dL_acts_483 : decode cL_acts 483 = .ok (.sipush 360, 3) := by decide +kernel
theorem dL_acts_486 : decode cL_acts 486 = .ok (.if_icmp .ne 8, 3) := by decide +kernel
theorem dL_acts_489 : decode cL_acts 489 = .ok (.bipush (-5), 2) := by decide +kernel
theorem dL_acts_491 : decode cL_acts 491 = .ok (.goto 5, 3) := by decide +kernel
theorem dL_acts_494 : decode cL_acts 494 = .ok (.iload 8, 2) := by decide +kernel
theorem dL_acts_496 : decode cL_acts 496 = .ok (.if_icmp .ne 22, 3) := by decide +kernel
theorem dL_acts_499 : decode cL_acts 499 = .ok (.aload_n 0, 1) := by decide +kernel
theorem dL_acts_500 : decode cL_acts 500 = .ok (.iload 5, 2) := by decide +kernel
theorem dL_acts_502 : decode cL_acts 502 = .ok (.sipush 360, 3) := by decide +kernel
theorem dL_acts_505 : decode cL_acts 505 = .ok (.iconst 1, 1) := by decide +kernel
theorem dL_acts_506 : decode cL_acts 506 = .ok (.invokevirtual 88, 3) := by decide +kernel
theorem dL_acts_509 : decode cL_acts 509 = .ok (.bipush (-2), 2) := by decide +kernel
theorem dL_acts_511 : decode cL_acts 511 = .ok (.if_icmp .ne 7, 3) := by decide +kernel
theorem dL_acts_514 : decode cL_acts 514 = .ok (.iconst 1, 1) := by decide +kernel
theorem dL_acts_515 : decode cL_acts 515 = .ok (.goto 4, 3) := by decide +kernel
theorem dL_acts_518 : decode cL_acts 518 = .ok (.iconst 0, 1) := by decide +kernel
theorem dL_acts_519 : decode cL_acts 519 = .ok (.ireturn, 1) := by decide +kernel
theorem dL_acts_520 : decode cL_acts 520 = .ok (.iload_n 1, 1) := by decide +kernel
theorem dL_acts_521 : decode cL_acts 521 = .ok (.bipush 9, 2) := by decide +kernel
theorem dL_acts_523 : decode cL_acts 523 = .ok (.if_icmp .ge 123, 3) := by decide +kernel
theorem dL_acts_526 : decode cL_acts 526 = .ok (.aload_n 0, 1) := by decide +kernel
theorem dL_acts_527 : decode cL_acts 527 = .ok (.iload 5, 2) := by decide +kernel
theorem dL_acts_529 : decode cL_acts 529 = .ok (.iconst 1, 1) := by decide +kernel
theorem dL_acts_530 : decode cL_acts 530 = .ok (.invokevirtual 19, 3) := by decide +kernel
theorem dL_acts_533 : decode cL_acts 533 = .ok (.iload 6, 2) := by decide +kernel
theorem dL_acts_535 : decode cL_acts 535 = .ok (.sipush 1000, 3) := by decide +kernel
theorem dL_acts_538 : decode cL_acts 538 = .ok (.iadd, 1) := by decide +kernel
theorem dL_acts_539 : decode cL_acts 539 = .ok (.if_icmp .ne 23, 3) := by decide +kernel
theorem dL_acts_542 : decode cL_acts 542 = .ok (.aload_n 0, 1) := by decide +kernel
theorem dL_acts_543 : decode cL_acts 543 = .ok (.iload 5, 2) := by decide +kernel
theorem dL_acts_545 : decode cL_acts 545 = .ok (.iconst 2, 1) := by decide +kernel
theorem dL_acts_546 : decode cL_acts 546 = .ok (.invokevirtual 19, 3) := by decide +kernel
theorem dL_acts_549 : decode cL_acts 549 = .ok (.iload 7, 2) := by decide +kernel
theorem dL_acts_551 : decode cL_acts 551 = .ok (.sipush 1000, 3) := by decide +kernel
theorem dL_acts_554 : decode cL_acts 554 = .ok (.iadd, 1) := by decide +kernel
theorem dL_acts_555 : decode cL_acts 555 = .ok (.if_icmp .ne 7, 3) := by decide +kernel
theorem dL_acts_558 : decode cL_acts 558 = .ok (.iconst 1, 1) := by decide +kernel
theorem dL_acts_559 : decode cL_acts 559 = .ok (.goto 4, 3) := by decide +kernel
theorem dL_acts_562 : decode cL_acts 562 = .ok (.iconst 0, 1) := by decide +kernel
theorem dL_acts_563 : decode cL_acts 563 = .ok (.istore 8, 2) := by decide +kernel
theorem dL_acts_565 : decode cL_acts 565 = .ok (.aload_n 0, 1) := by decide +kernel
theorem dL_acts_566 : decode cL_acts 566 = .ok (.iload 5, 2) := by decide +kernel
theorem dL_acts_568 : decode cL_acts 568 = .ok (.iload 6, 2) := by decide +kernel
theorem dL_acts_570 : decode cL_acts 570 = .ok (.iload 7, 2) := by decide +kernel
theorem dL_acts_572 : decode cL_acts 572 = .ok (.invokevirtual 82, 3) := by decide +kernel
theorem dL_acts_575 : decode cL_acts 575 = .ok (.istore 9, 2) := by decide +kernel
theorem dL_acts_577 : decode cL_acts 577 = .ok (.iload 9, 2) := by decide +kernel
theorem dL_acts_579 : decode cL_acts 579 = .ok (.iload 8, 2) := by decide +kernel
theorem dL_acts_581 : decode cL_acts 581 = .ok (.ifCond .eq 8, 3) := by decide +kernel
theorem dL_acts_584 : decode cL_acts 584 = .ok (.bipush (-5), 2) := by decide +kernel
theorem dL_acts_586 : decode cL_acts 586 = .ok (.goto 20, 3) := by decide +kernel
theorem dL_acts_589 : decode cL_acts 589 = .ok (.aload_n 0, 1) := by decide +kernel
theorem dL_acts_590 : decode cL_acts 590 = .ok (.iconst 3, 1) := by decide +kernel
theorem dL_acts_591 : decode cL_acts 591 = .ok (.invokevirtual 49, 3) := by decide +kernel
theorem dL_acts_594 : decode cL_acts 594 = .ok (.ifCond .ge 7, 3) := by decide +kernel
theorem dL_acts_597 : decode cL_acts 597 = .ok (.iconst 0, 1) := by decide +kernel
theorem dL_acts_598 : decode cL_acts 598 = .ok (.goto 8, 3) := by decide +kernel
theorem dL_acts_601 : decode cL_acts 601 = .ok (.aload_n 0, 1) := by decide +kernel
theorem dL_acts_602 : decode cL_acts 602 = .ok (.iconst 3, 1) := by decide +kernel
theorem dL_acts_603 : decode cL_acts 603 = .ok (.invokevirtual 49, 3) := by decide +kernel
theorem dL_acts_606 : decode cL_acts 606 = .ok (.if_icmp .ne 38, 3) := by decide +kernel
theorem dL_acts_609 : decode cL_acts 609 = .ok (.aload_n 0, 1) := by decide +kernel
theorem dL_acts_610 : decode cL_acts 610 = .ok (.iload 5, 2) := by decide +kernel
theorem dL_acts_612 : decode cL_acts 612 = .ok (.iconst 1, 1) := by decide +kernel
theorem dL_acts_613 : decode cL_acts 613 = .ok (.invokevirtual 19, 3) := by decide +kernel
theorem dL_acts_616 : decode cL_acts 616 = .ok (.iload 6, 2) := by decide +kernel
theorem dL_acts_618 : decode cL_acts 618 = .ok (.sipush 1000, 3) := by decide +kernel
theorem dL_acts_621 : decode cL_acts 621 = .ok (.iadd, 1) := by decide +kernel
theorem dL_acts_622 : decode cL_acts 622 = .ok (.if_icmp .ne 22, 3) := by decide +kernel
theorem dL_acts_625 : decode cL_acts 625 = .ok (.aload_n 0, 1) := by decide +kernel
theorem dL_acts_626 : decode cL_acts 626 = .ok (.iload 5, 2) := by decide +kernel
theorem dL_acts_628 : decode cL_acts 628 = .ok (.sipush 401, 3) := by decide +kernel
theorem dL_acts_631 : decode cL_acts 631 = .ok (.iconst 0, 1) := by decide +kernel
theorem dL_acts_632 : decode cL_acts 632 = .ok (.invokevirtual 82, 3) := by decide +kernel
theorem dL_acts_635 : decode cL_acts 635 = .ok (.bipush (-2), 2) := by decide +kernel
theorem dL_acts_637 : decode cL_acts 637 = .ok (.if_icmp .ne 7, 3) := by decide +kernel
theorem dL_acts_640 : decode cL_acts 640 = .ok (.iconst 1, 1) := by decide +kernel
theorem dL_acts_641 : decode cL_acts 641 = .ok (.goto 4, 3) := by decide +kernel
theorem dL_acts_644 : decode cL_acts 644 = .ok (.iconst 0, 1) := by decide +kernel
theorem dL_acts_645 : decode cL_acts 645 = .ok (.ireturn, 1) := by decide +kernel
theorem dL_acts_646 : decode cL_acts 646 = .ok (.iload_n 1, 1) := by decide +kernel
theorem dL_acts_647 : decode cL_acts 647 = .ok (.bipush 11, 2) := by decide +kernel
theorem dL_acts_649 : decode cL_acts 649 = .ok (.if_icmp .ge 94, 3) := by decide +kernel
theorem dL_acts_652 : decode cL_acts 652 = .ok (.iload_n 3, 1) := by decide +kernel
theorem dL_acts_653 : decode cL_acts 653 = .ok (.iconst 3, 1) := by decide +kernel
theorem dL_acts_654 : decode cL_acts 654 = .ok (.iand, 1) := by decide +kernel
theorem dL_acts_655 : decode cL_acts 655 = .ok (.ifCond .ne 7, 3) := by decide +kernel
theorem dL_acts_658 : decode cL_acts 658 = .ok (.iconst 1, 1) := by decide +kernel
theorem dL_acts_659 : decode cL_acts 659 = .ok (.goto 4, 3) := by decide +kernel
theorem dL_acts_662 : decode cL_acts 662 = .ok (.iconst 0, 1) := by decide +kernel
theorem dL_acts_663 : decode cL_acts 663 = .ok (.istore 8, 2) := by decide +kernel
theorem dL_acts_665 : decode cL_acts 665 = .ok (.aload_n 0, 1) := by decide +kernel
theorem dL_acts_666 : decode cL_acts 666 = .ok (.iload 5, 2) := by decide +kernel
theorem dL_acts_668 : decode cL_acts 668 = .ok (.bipush 6, 2) := by decide +kernel
theorem dL_acts_670 : decode cL_acts 670 = .ok (.invokevirtual 19, 3) := by decide +kernel
theorem dL_acts_673 : decode cL_acts 673 = .ok (.iconst 1, 1) := by decide +kernel
theorem dL_acts_674 : decode cL_acts 674 = .ok (.if_icmp .ne 7, 3) := by decide +kernel
theorem dL_acts_677 : decode cL_acts 677 = .ok (.iconst 1, 1) := by decide +kernel
theorem dL_acts_678 : decode cL_acts 678 = .ok (.goto 4, 3) := by decide +kernel
theorem dL_acts_681 : decode cL_acts 681 = .ok (.iconst 0, 1) := by decide +kernel
theorem dL_acts_682 : decode cL_acts 682 = .ok (.istore 9, 2) := by decide +kernel
theorem dL_acts_684 : decode cL_acts 684 = .ok (.aload_n 0, 1) := by decide +kernel
theorem dL_acts_685 : decode cL_acts 685 = .ok (.iload 5, 2) := by decide +kernel
theorem dL_acts_687 : decode cL_acts 687 = .ok (.iload 8, 2) := by decide +kernel
theorem dL_acts_689 : decode cL_acts 689 = .ok (.invokevirtual 91, 3) := by decide +kernel
theorem dL_acts_692 : decode cL_acts 692 = .ok (.iload 9, 2) := by decide +kernel
theorem dL_acts_694 : decode cL_acts 694 = .ok (.iload 8, 2) := by decide +kernel
theorem dL_acts_696 : decode cL_acts 696 = .ok (.if_icmp .ne 8, 3) := by decide +kernel
theorem dL_acts_699 : decode cL_acts 699 = .ok (.bipush (-5), 2) := by decide +kernel
theorem dL_acts_701 : decode cL_acts 701 = .ok (.goto 11, 3) := by decide +kernel
theorem dL_acts_704 : decode cL_acts 704 = .ok (.aload_n 0, 1) := by decide +kernel
theorem dL_acts_705 : decode cL_acts 705 = .ok (.iconst 1, 1) := by decide +kernel
theorem dL_acts_706 : decode cL_acts 706 = .ok (.invokevirtual 11, 3) := by decide +kernel
theorem dL_acts_709 : decode cL_acts 709 = .ok (.invokestatic 46, 3) := by decide +kernel
theorem dL_acts_712 : decode cL_acts 712 = .ok (.if_icmp .ne 29, 3) := by decide +kernel
theorem dL_acts_715 : decode cL_acts 715 = .ok (.aload_n 0, 1) := by decide +kernel
theorem dL_acts_716 : decode cL_acts 716 = .ok (.iload 5, 2) := by decide +kernel
theorem dL_acts_718 : decode cL_acts 718 = .ok (.bipush 6, 2) := by decide +kernel
theorem dL_acts_720 : decode cL_acts 720 = .ok (.invokevirtual 19, 3) := by decide +kernel
theorem dL_acts_723 : decode cL_acts 723 = .ok (.iconst 1, 1) := by decide +kernel
theorem dL_acts_724 : decode cL_acts 724 = .ok (.if_icmp .ne 7, 3) := by decide +kernel
theorem dL_acts_727 : decode cL_acts 727 = .ok (.iconst 1, 1) := by decide +kernel
theorem dL_acts_728 : decode cL_acts 728 = .ok (.goto 4, 3) := by decide +kernel
theorem dL_acts_731 : decode cL_acts 731 = .ok (.iconst 0, 1) := by decide +kernel
theorem dL_acts_732 : decode cL_acts 732 = .ok (.iload 8, 2) := by decide +kernel
theorem dL_acts_734 : decode cL_acts 734 = .ok (.if_icmp .ne 7, 3) := by decide +kernel
theorem dL_acts_737 : decode cL_acts 737 = .ok (.iconst 1, 1) := by decide +kernel
theorem dL_acts_738 : decode cL_acts 738 = .ok (.goto 4, 3) := by decide +kernel
theorem dL_acts_741 : decode cL_acts 741 = .ok (.iconst 0, 1) := by decide +kernel
theorem dL_acts_742 : decode cL_acts 742 = .ok (.ireturn, 1) := by decide +kernel
theorem dL_acts_743 : decode cL_acts 743 = .ok (.iload_n 1, 1) := by decide +kernel
theorem dL_acts_744 : decode cL_acts 744 = .ok (.bipush 11, 2) := by decide +kernel
theorem dL_acts_746 : decode cL_acts 746 = .ok (.if_icmp .ne 84, 3) := by decide +kernel
theorem dL_acts_749 : decode cL_acts 749 = .ok (.aload_n 0, 1) := by decide +kernel
theorem dL_acts_750 : decode cL_acts 750 = .ok (.iconst 4, 1) := by decide +kernel
theorem dL_acts_751 : decode cL_acts 751 = .ok (.invokevirtual 49, 3) := by decide +kernel
theorem dL_acts_754 : decode cL_acts 754 = .ok (.istore 8, 2) := by decide +kernel
theorem dL_acts_756 : decode cL_acts 756 = .ok (.aload_n 0, 1) := by decide +kernel
theorem dL_acts_757 : decode cL_acts 757 = .ok (.iconst 1, 1) := by decide +kernel
theorem dL_acts_758 : decode cL_acts 758 = .ok (.invokevirtual 11, 3) := by decide +kernel
theorem dL_acts_761 : decode cL_acts 761 = .ok (.istore 9, 2) := by decide +kernel
theorem dL_acts_763 : decode cL_acts 763 = .ok (.aload_n 0, 1) := by decide +kernel
theorem dL_acts_764 : decode cL_acts 764 = .ok (.invokevirtual 60, 3) := by decide +kernel
theorem dL_acts_767 : decode cL_acts 767 = .ok (.istore 10, 2) := by decide +kernel
theorem dL_acts_769 : decode cL_acts 769 = .ok (.iload 10, 2) := by decide +kernel
theorem dL_acts_771 : decode cL_acts 771 = .ok (.iload 8, 2) := by decide +kernel
theorem dL_acts_773 : decode cL_acts 773 = .ok (.ifCond .ge 8, 3) := by decide +kernel
theorem dL_acts_776 : decode cL_acts 776 = .ok (.bipush (-4), 2) := by decide +kernel
theorem dL_acts_778 : decode cL_acts 778 = .ok (.goto 18, 3) := by decide +kernel
theorem dL_acts_781 : decode cL_acts 781 = .ok (.iload 8, 2) := by decide +kernel
theorem dL_acts_783 : decode cL_acts 783 = .ok (.ifCond .ne 8, 3) := by decide +kernel
theorem dL_acts_786 : decode cL_acts 786 = .ok (.bipush (-5), 2) := by decide +kernel
theorem dL_acts_788 : decode cL_acts 788 = .ok (.goto 8, 3) := by decide +kernel
theorem dL_acts_791 : decode cL_acts 791 = .ok (.iload 8, 2) := by decide +kernel
theorem dL_acts_793 : decode cL_acts 793 = .ok (.invokestatic 46, 3) := by decide +kernel
theorem dL_acts_796 : decode cL_acts 796 = .ok (.if_icmp .ne 32, 3) := by decide +kernel
theorem dL_acts_799 : decode cL_acts 799 = .ok (.aload_n 0, 1) := by decide +kernel
theorem dL_acts_800 : decode cL_acts 800 = .ok (.iconst 1, 1) := by decide +kernel
theorem dL_acts_801 : decode cL_acts 801 = .ok (.invokevirtual 11, 3) := by decide +kernel
theorem dL_acts_804 : decode cL_acts 804 = .ok (.iload 8, 2) := by decide +kernel
theorem dL_acts_806 : decode cL_acts 806 = .ok (.ifCond .le 13, 3) := by decide +kernel
theorem dL_acts_809 : decode cL_acts 809 = .ok (.iload 9, 2) := by decide +kernel
theorem dL_acts_811 : decode cL_acts 811 = .ok (.iload 8, 2) := by decide +kernel
theorem dL_acts_813 : decode cL_acts 813 = .ok (.iconst (-1), 1) := by decide +kernel
theorem dL_acts_814 : decode cL_acts 814 = .ok (.ixor, 1) := by decide +kernel
theorem dL_acts_815 : decode cL_acts 815 = .ok (.iand, 1) := by decide +kernel
theorem dL_acts_816 : decode cL_acts 816 = .ok (.goto 5, 3) := by decide +kernel
theorem dL_acts_819 : decode cL_acts 819 = .ok (.iload 9, 2) := by decide +kernel
theorem dL_acts_821 : decode cL_acts 821 = .ok (.if_icmp .ne 7, 3) := by decide +kernel
theorem dL_acts_824 : decode cL_acts 824 = .ok (.iconst 1, 1) := by decide +kernel
theorem dL_acts_825 : decode cL_acts 825 = .ok (.goto 4, 3) := by decide +kernel
theorem dL_acts_828 : decode cL_acts 828 = .ok (.iconst 0, 1) := by decide +kernel
theorem dL_acts_829 : decode cL_acts 829 = .ok (.ireturn, 1) := by decide +kernel
theorem dL_acts_830 : decode cL_acts 830 = .ok (.aload_n 0, 1) := by decide +kernel
theorem dL_acts_831 : decode cL_acts 831 = .ok (.iload 5, 2) := by decide +kernel
theorem dL_acts_833 : decode cL_acts 833 = .ok (.iconst 0, 1) := by decide +kernel
theorem dL_acts_834 : decode cL_acts 834 = .ok (.invokevirtual 19, 3) := by decide +kernel
theorem dL_acts_837 : decode cL_acts 837 = .ok (.istore 8, 2) := by decide +kernel
theorem dL_acts_839 : decode cL_acts 839 = .ok (.aload_n 0, 1) := by decide +kernel
theorem dL_acts_840 : decode cL_acts 840 = .ok (.iload 5, 2) := by decide +kernel
theorem dL_acts_842 : decode cL_acts 842 = .ok (.invokevirtual 85, 3) := by decide +kernel
theorem dL_acts_845 : decode cL_acts 845 = .ok (.iload 4, 2) := by decide +kernel
theorem dL_acts_847 : decode cL_acts 847 = .ok (.iconst 1, 1) := by decide +kernel
theorem dL_acts_848 : decode cL_acts 848 = .ok (.isub, 1) := by decide +kernel
theorem dL_acts_849 : decode cL_acts 849 = .ok (.if_icmp .ne 40, 3) := by decide +kernel
theorem dL_acts_852 : decode cL_acts 852 = .ok (.aload_n 0, 1) := by decide +kernel
theorem dL_acts_853 : decode cL_acts 853 = .ok (.iconst 0, 1) := by decide +kernel
theorem dL_acts_854 : decode cL_acts 854 = .ok (.invokevirtual 11, 3) := by decide +kernel
theorem dL_acts_857 : decode cL_acts 857 = .ok (.iload 4, 2) := by decide +kernel
theorem dL_acts_859 : decode cL_acts 859 = .ok (.iconst 1, 1) := by decide +kernel
theorem dL_acts_860 : decode cL_acts 860 = .ok (.isub, 1) := by decide +kernel
theorem dL_acts_861 : decode cL_acts 861 = .ok (.if_icmp .ne 28, 3) := by decide +kernel
theorem dL_acts_864 : decode cL_acts 864 = .ok (.iload 5, 2) := by decide +kernel
theorem dL_acts_866 : decode cL_acts 866 = .ok (.iload 4, 2) := by decide +kernel
theorem dL_acts_868 : decode cL_acts 868 = .ok (.iconst 1, 1) := by decide +kernel
theorem dL_acts_869 : decode cL_acts 869 = .ok (.isub, 1) := by decide +kernel
theorem dL_acts_870 : decode cL_acts 870 = .ok (.if_icmp .eq 15, 3) := by decide +kernel
theorem dL_acts_873 : decode cL_acts 873 = .ok (.aload_n 0, 1) := by decide +kernel
theorem dL_acts_874 : decode cL_acts 874 = .ok (.iload 5, 2) := by decide +kernel
theorem dL_acts_876 : decode cL_acts 876 = .ok (.iconst 0, 1) := by decide +kernel
theorem dL_acts_877 : decode cL_acts 877 = .ok (.invokevirtual 19, 3) := by decide +kernel
theorem dL_acts_880 : decode cL_acts 880 = .ok (.iload 8, 2) := by decide +kernel
theorem dL_acts_882 : decode cL_acts 882 = .ok (.if_icmp .le 7, 3) := by decide +kernel
theorem dL_acts_885 : decode cL_acts 885 = .ok (.iconst 1, 1) := by decide +kernel
theorem dL_acts_886 : decode cL_acts 886 = .ok (.goto 4, 3) := by decide +kernel
theorem dL_acts_889 : decode cL_acts 889 = .ok (.iconst 0, 1) := by decide +kernel
theorem dL_acts_890 : decode cL_acts 890 = .ok (.ireturn, 1) := by decide +kernel
set_option maxRecDepth 20000 in
theorem ggL_law_X6_init : GoodIn wsL_law wsX6_init := goodIn_r _ [5, 6, 7, 8, 9, 10, 11, 12, 13, 14, 15, 16, 17, 18, 19, 20, 21, 22, 23, 24, 25, 26, 27, 28, 29, 30, 31, 32, 33, 34, 35, 36, 37, 38, 39, 40, 41, 42, 43, 44, 45, 46, 47, 48, 49, 50, 51, 52, 53, 54, 55, 56, 57, 58, 59, 60, 61, 62, 63, 64, 65, 66, 67, 68, 69, 485, 486, 476, 477, 478, 479, 480, 481, 482, 483, 484, 487, 488, 489, 490, 491, 492, 493, 494, 495, 496, 497, 498, 499, 500, 501, 502, 503, 504] (by decide +kernel) (by decide +kernel)
set_option maxRecDepth 20000 in
theorem gL_law_X6_init : GoodIn wsL_law (wsX6_init) := ggL_law_X6_init
set_option maxRecDepth 20000 in
theorem ggL_law_X6_undo : GoodIn wsL_law wsX6_undo := goodIn_r _ [73, 17, 12, 74, 75, 76, 77, 16, 78, 79, 46, 80, 81, 82, 11, 83, 40, 84, 85, 86, 87, 88, 476, 477, 478, 479, 480, 481, 482, 483, 484, 487, 488, 485, 486] (by decide +kernel) (by decide +kernel)
set_option maxRecDepth 20000 in
theorem gL_law_X6_undo : GoodIn wsL_law (wsV RL 96 RX6 yX6_undo wsX6_undo) := goodIn_app (goodIn_of _ (by decide +kernel)) ggL_law_X6_undo
set_option maxRecDepth 20000 in
theorem ggL_law_X6_restore : GoodIn wsL_law wsX6_restore := goodIn_r _ [92, 93, 17, 12, 13, 94, 95, 96, 97, 16, 98, 79, 46, 99, 100, 101, 102, 80, 81, 82, 11, 83, 40, 84, 85, 86, 87, 88, 103, 476, 477, 478, 479, 480, 481, 482, 483, 484, 485, 486, 487, 488] (by decide +kernel) (by decide +kernel)
set_option maxRecDepth 20000 in
theorem gL_law_X6_restore : GoodIn wsL_law (wsV RL 99 RX6 yX6_restore wsX6_restore) := goodIn_app (goodIn_of _ (by decide +kernel)) ggL_law_X6_restore
set_option maxRecDepth 20000 in
theorem ggL_law_X6_readPhoto : GoodIn wsL_law wsX6_readPhoto := goodIn_r _ [107, 21, 23, 108, 109, 110, 111, 112, 20, 113, 114, 115, 116, 117, 118, 119, 120, 121, 122, 123, 124, 51, 125, 126, 127, 128, 129, 130, 131, 132, 133, 134, 135, 136, 137, 138, 139, 2, 140, 141, 142, 143, 144, 145, 146, 147, 12, 94, 148, 17, 149, 150, 151, 11, 152, 88, 40, 95, 96, 97, 16, 98, 79, 46, 99, 100, 101, 102, 80, 81, 82, 83, 84, 85, 86, 87, 153, 154, 155, 156, 476, 477, 478, 479, 480, 481, 482, 483, 484, 489, 490, 491, 492, 485, 486, 487, 488] (by decide +kernel) (by decide +kernel)
set_option maxRecDepth 20000 in
theorem gL_law_X6_readPhoto : GoodIn wsL_law (wsV RL 102 RX6 yX6_readPhoto wsX6_readPhoto) := goodIn_app (goodIn_of _ (by decide +kernel)) ggL_law_X6_readPhoto
set_option maxRecDepth 20000 in
theorem ggL_law_X6_count : GoodIn wsL_law wsX6_count := goodIn_r _ [160, 12, 94, 31, 17, 74, 21, 161, 162, 163, 164, 11, 165, 88, 166, 167, 168, 169, 40, 170, 171, 172, 173, 174, 175, 176, 177, 178, 179, 180, 181, 182, 183, 184, 30, 185, 61, 63, 186, 62, 187, 188, 189, 190, 191, 192, 193, 194, 195, 196, 197, 198, 199, 200, 64, 201, 202, 203, 26, 204, 56, 205, 206, 207, 208, 209, 210, 211, 212, 213, 214, 215, 216, 217, 218, 219, 220, 221, 222, 223, 224, 225, 226, 2, 227, 228, 229, 230, 231, 232, 233, 234, 235, 236, 237, 238, 239, 240, 241, 242, 243, 476, 477, 478, 479, 480, 481, 482, 483, 484, 485, 486, 487, 488, 489, 490, 491, 492, 497, 498, 499, 500, 493, 494, 495, 496] (by decide +kernel) (by decide +kernel)
set_option maxRecDepth 20000 in
theorem gL_law_X6_count : GoodIn wsL_law (wsV RL 11 RX6 yX6_count wsX6_count) := goodIn_app (goodIn_of _ (by decide +kernel)) ggL_law_X6_count
set_option maxRecDepth 20000 in
theorem ggL_law_X6_track : GoodIn wsL_law wsX6_track := goodIn_r _ [247, 31, 27, 141, 142, 2, 143, 182, 183, 184, 30, 185, 61, 63, 186, 62, 187, 167, 168, 11, 169, 40, 188, 189, 190, 191, 192, 193, 194, 195, 196, 163, 164, 165, 88, 166, 197, 198, 199, 200, 64, 201, 202, 203, 26, 204, 56, 205, 206, 207, 208, 209, 210, 211, 212, 213, 214, 215, 216, 217, 218, 219, 220, 221, 222, 223, 224, 225, 226, 227, 228, 229, 230, 231, 232, 233, 234, 235, 236, 237, 238, 239, 240, 241, 242, 243, 248, 249, 250, 251, 252, 253, 254, 255, 256, 257, 258, 259, 260, 261, 262, 263, 476, 477, 478, 479, 480, 481, 482, 483, 484, 497, 498, 499, 500, 485, 486, 493, 494, 495, 496] (by decide +kernel) (by decide +kernel)
set_option maxRecDepth 20000 in
theorem gL_law_X6_track : GoodIn wsL_law (wsV RL 63 RX6 yX6_track wsX6_track) := goodIn_app (goodIn_of _ (by decide +kernel)) ggL_law_X6_track
set_option maxRecDepth 20000 in
theorem ggL_law_X6_angleAt : GoodIn wsL_law wsX6_angleAt := goodIn_r _ [267, 35, 268, 269, 141, 142, 2, 143, 270, 271, 272, 34, 273, 274, 275, 276, 69, 277, 171, 172, 11, 173, 88, 174, 175, 176, 177, 166, 167, 168, 169, 40, 178, 179, 180, 181, 278, 279, 280, 281, 282, 283, 284, 285, 286, 287, 288, 289, 290, 291, 292, 293, 294, 295, 296, 297, 298, 220, 299, 300, 301, 302, 303, 304, 305, 306, 307, 308, 309, 310, 233, 234, 235, 236, 237, 238, 311, 476, 477, 478, 479, 480, 481, 482, 483, 484, 501, 502, 503, 504, 485, 486] (by decide +kernel) (by decide +kernel)
set_option maxRecDepth 20000 in
theorem gL_law_X6_angleAt : GoodIn wsL_law (wsV RL 75 RX6 yX6_angleAt wsX6_angleAt) := goodIn_app (goodIn_of _ (by decide +kernel)) ggL_law_X6_angleAt
set_option maxRecDepth 20000 in
theorem ggL_law_L_cell : GoodIn wsL_law wsL_cell := goodIn_r _ [315, 316] (by decide +kernel) (by decide +kernel)
set_option maxRecDepth 20000 in
theorem gL_law_L_cell : GoodIn wsL_law (va_wsS RL 105 yL_cell wsL_cell) := goodIn_app (goodIn_of _ (by decide +kernel)) ggL_law_L_cell
set_option maxRecDepth 20000 in
theorem ggL_law_L_low : GoodIn wsL_law wsL_low := goodIn_r _ [319, 320] (by decide +kernel) (by decide +kernel)
set_option maxRecDepth 20000 in
theorem gL_law_L_low : GoodIn wsL_law (va_wsS RL 66 yL_low wsL_low) := goodIn_app (goodIn_of _ (by decide +kernel)) ggL_law_L_low
set_option maxRecDepth 20000 in
theorem ggL_law_L_digest : GoodIn wsL_law wsL_digest := goodIn_r _ [323, 324, 325, 157, 158, 159, 2, 160, 12, 94, 31, 17, 74, 21, 161, 162, 163, 164, 11, 165, 88, 166, 167, 168, 169, 40, 170, 171, 172, 173, 174, 175, 176, 177, 178, 179, 180, 181, 182, 183, 184, 30, 185, 61, 63, 186, 62, 187, 188, 189, 190, 191, 192, 193, 194, 195, 196, 197, 198, 199, 200, 64, 201, 202, 203, 26, 204, 56, 205, 206, 207, 208, 209, 210, 211, 212, 213, 214, 215, 216, 217, 218, 219, 220, 221, 222, 223, 224, 225, 226, 227, 228, 229, 230, 231, 232, 233, 234, 235, 236, 237, 238, 239, 240, 241, 242, 243, 326, 327, 328, 329, 148, 35, 330, 331, 332, 333, 334, 141, 142, 143, 335, 336, 270, 271, 272, 34, 273, 274, 275, 276, 69, 277, 278, 279, 280, 281, 282, 283, 284, 285, 286, 287, 288, 289, 290, 291, 292, 293, 294, 295, 296, 297, 298, 299, 300, 301, 302, 303, 304, 305, 306, 307, 308, 309, 310, 337, 476, 477, 478, 479, 480, 481, 482, 483, 484, 485, 486, 487, 488, 489, 490, 491, 492, 497, 498, 499, 500, 493, 494, 495, 496, 501, 502, 503, 504] (by decide +kernel) (by decide +kernel)
set_option maxRecDepth 20000 in
theorem gL_law_L_digest : GoodIn wsL_law (va_wsS RL 109 yL_digest wsL_digest) := goodIn_app (goodIn_of _ (by decide +kernel)) ggL_law_L_digest
set_option maxRecDepth 20000 in
theorem ggL_law_L_acts : GoodIn wsL_law wsL_acts := goodIn_app (a := [_]) (goodIn_r _ [340] rfl (by decide +kernel)) (goodIn_r _ [157, 158, 159, 2, 160, 12, 94, 31, 17, 74, 21, 161, 162, 163, 164, 11, 165, 88, 166, 167, 168, 169, 40, 170, 171, 172, 173, 174, 175, 176, 177, 178, 179, 180, 181, 182, 183, 184, 30, 185, 61, 63, 186, 62, 187, 188, 189, 190, 191, 192, 193, 194, 195, 196, 197, 198, 199, 200, 64, 201, 202, 203, 26, 204, 56, 205, 206, 207, 208, 209, 210, 211, 212, 213, 214, 215, 216, 217, 218, 219, 220, 221, 222, 223, 224, 225, 226, 227, 228, 229, 230, 231, 232, 233, 234, 235, 236, 237, 238, 239, 240, 241, 242, 243, 317, 318, 314, 319, 320, 326, 327, 328, 329, 148, 35, 330, 331, 332, 333, 334, 141, 142, 143, 335, 336, 270, 271, 272, 34, 273, 274, 275, 276, 69, 277, 278, 279, 280, 281, 282, 283, 284, 285, 286, 287, 288, 289, 290, 291, 292, 293, 294, 295, 296, 297, 298, 299, 300, 301, 302, 303, 304, 305, 306, 307, 308, 309, 310, 337, 341, 342, 343, 344, 23, 137, 138, 139, 140, 144, 145, 146, 147, 149, 150, 151, 152, 95, 96, 97, 16, 98, 79, 46, 99, 100, 101, 102, 80, 81, 82, 83, 84, 85, 86, 87, 153, 154, 155, 156, 345, 346, 347, 348, 349, 350, 351, 352, 27, 259, 353, 354, 355, 356, 357, 358, 359, 360, 361, 362, 363, 364, 365, 366, 367, 368, 369, 370, 371, 372, 373, 374, 375, 376, 260, 261, 262, 263, 377, 378, 379, 380, 381, 382, 383, 476, 477, 478, 479, 480, 481, 482, 483, 484, 485, 486, 487, 488, 489, 490, 491, 492, 497, 498, 499, 500, 493, 494, 495, 496, 501, 502, 503, 504] (by decide +kernel) (by decide +kernel))
set_option maxRecDepth 20000 in
theorem gL_law_L_acts : GoodIn wsL_law (va_wsS RL 113 yL_acts wsL_acts) := goodIn_app (goodIn_of _ (by decide +kernel)) ggL_law_L_acts
set_option maxRecDepth 20000 in
theorem ggL_law_L_photos : GoodIn wsL_law wsL_photos := goodIn_app (a := [_]) (goodIn_r _ [386] rfl (by decide +kernel)) (goodIn_r _ [157, 158, 159, 2, 160, 12, 94, 31, 17, 74, 21, 161, 162, 163, 164, 11, 165, 88, 166, 167, 168, 169, 40, 170, 171, 172, 173, 174, 175, 176, 177, 178, 179, 180, 181, 182, 183, 184, 30, 185, 61, 63, 186, 62, 187, 188, 189, 190, 191, 192, 193, 194, 195, 196, 197, 198, 199, 200, 64, 201, 202, 203, 26, 204, 56, 205, 206, 207, 208, 209, 210, 211, 212, 213, 214, 215, 216, 217, 218, 219, 220, 221, 222, 223, 224, 225, 226, 227, 228, 229, 230, 231, 232, 233, 234, 235, 236, 237, 238, 239, 240, 241, 242, 243, 326, 327, 328, 329, 148, 35, 330, 331, 332, 333, 334, 141, 142, 143, 335, 336, 270, 271, 272, 34, 273, 274, 275, 276, 69, 277, 278, 279, 280, 281, 282, 283, 284, 285, 286, 287, 288, 289, 290, 291, 292, 293, 294, 295, 296, 297, 298, 299, 300, 301, 302, 303, 304, 305, 306, 307, 308, 309, 310, 337, 387, 388, 389, 390, 372, 391, 392, 354, 393, 394, 395, 396, 27, 397, 398, 399, 400, 401, 402, 403, 404, 405, 406, 407, 408, 409, 410, 411, 412, 413, 414, 415, 416, 353, 476, 477, 478, 479, 480, 481, 482, 483, 484, 485, 486, 487, 488, 489, 490, 491, 492, 497, 498, 499, 500, 493, 494, 495, 496, 501, 502, 503, 504] (by decide +kernel) (by decide +kernel))
set_option maxRecDepth 20000 in
theorem gL_law_L_photos : GoodIn wsL_law (va_wsS RL 117 yL_photos wsL_photos) := goodIn_app (goodIn_of _ (by decide +kernel)) ggL_law_L_photos
set_option maxRecDepth 20000 in
theorem ggL_law_L_best : GoodIn wsL_law wsL_best := goodIn_app (a := [_]) (goodIn_r _ [419] rfl (by decide +kernel)) (goodIn_r _ [420, 157, 158, 159, 2, 160, 12, 94, 31, 17, 74, 21, 161, 162, 163, 164, 11, 165, 88, 166, 167, 168, 169, 40, 170, 171, 172, 173, 174, 175, 176, 177, 178, 179, 180, 181, 182, 183, 184, 30, 185, 61, 63, 186, 62, 187, 188, 189, 190, 191, 192, 193, 194, 195, 196, 197, 198, 199, 200, 64, 201, 202, 203, 26, 204, 56, 205, 206, 207, 208, 209, 210, 211, 212, 213, 214, 215, 216, 217, 218, 219, 220, 221, 222, 223, 224, 225, 226, 227, 228, 229, 230, 231, 232, 233, 234, 235, 236, 237, 238, 239, 240, 241, 242, 243, 377, 378, 314, 379, 373, 374, 375, 376, 27, 141, 142, 143, 259, 353, 354, 260, 261, 262, 263, 421, 422, 423, 424, 148, 425, 426, 427, 428, 429, 430, 431, 432, 433, 434, 435, 436, 437, 438, 439, 440, 441, 442, 443, 444, 445, 446, 447, 380, 381, 382, 383, 95, 96, 97, 16, 98, 79, 46, 99, 100, 101, 102, 80, 81, 82, 83, 84, 85, 86, 87, 337, 393, 394, 395, 396, 397, 398, 399, 400, 331, 332, 333, 334, 401, 402, 403, 404, 405, 406, 407, 372, 408, 409, 410, 411, 412, 301, 302, 413, 414, 415, 416, 326, 327, 328, 329, 35, 330, 335, 336, 270, 271, 272, 34, 273, 274, 275, 276, 69, 277, 278, 279, 280, 281, 282, 283, 284, 285, 286, 287, 288, 289, 290, 291, 292, 293, 294, 295, 296, 297, 298, 299, 300, 303, 304, 305, 306, 307, 308, 309, 310, 448, 449, 450, 451, 452, 453, 454, 455, 456, 476, 477, 478, 479, 480, 481, 482, 483, 484, 485, 486, 487, 488, 489, 490, 491, 492, 497, 498, 499, 500, 493, 494, 495, 496, 501, 502, 503, 504] (by decide +kernel) (by decide +kernel))
set_option maxRecDepth 20000 in
theorem gL_law_L_best : GoodIn wsL_law (va_wsS RL 121 yL_best wsL_best) := goodIn_app (goodIn_of _ (by decide +kernel)) ggL_law_L_best
set_option maxRecDepth 20000 in
theorem ggL_law_L_track : GoodIn wsL_law wsL_track := goodIn_app (a := [_]) (goodIn_r _ [459] rfl (by decide +kernel)) (goodIn_r _ [157, 158, 159, 2, 160, 12, 94, 31, 17, 74, 21, 161, 162, 163, 164, 11, 165, 88, 166, 167, 168, 169, 40, 170, 171, 172, 173, 174, 175, 176, 177, 178, 179, 180, 181, 182, 183, 184, 30, 185, 61, 63, 186, 62, 187, 188, 189, 190, 191, 192, 193, 194, 195, 196, 197, 198, 199, 200, 64, 201, 202, 203, 26, 204, 56, 205, 206, 207, 208, 209, 210, 211, 212, 213, 214, 215, 216, 217, 218, 219, 220, 221, 222, 223, 224, 225, 226, 227, 228, 229, 230, 231, 232, 233, 234, 235, 236, 237, 238, 239, 240, 241, 242, 243, 244, 245, 246, 247, 27, 141, 142, 143, 248, 249, 250, 251, 252, 253, 254, 255, 256, 257, 258, 259, 260, 261, 262, 263, 326, 327, 328, 329, 148, 35, 330, 331, 332, 333, 334, 335, 336, 270, 271, 272, 34, 273, 274, 275, 276, 69, 277, 278, 279, 280, 281, 282, 283, 284, 285, 286, 287, 288, 289, 290, 291, 292, 293, 294, 295, 296, 297, 298, 299, 300, 301, 302, 303, 304, 305, 306, 307, 308, 309, 310, 337, 387, 388, 389, 390, 372, 391, 392, 354, 377, 378, 314, 379, 393, 394, 395, 396, 397, 398, 399, 400, 401, 402, 403, 404, 405, 406, 407, 408, 409, 410, 411, 412, 413, 414, 415, 416, 353, 476, 477, 478, 479, 480, 481, 482, 483, 484, 485, 486, 487, 488, 489, 490, 491, 492, 497, 498, 499, 500, 493, 494, 495, 496, 501, 502, 503, 504] (by decide +kernel) (by decide +kernel))
set_option maxRecDepth 20000 in
theorem gL_law_L_track : GoodIn wsL_law (va_wsS RL 123 yL_track wsL_track) := goodIn_app (goodIn_of _ (by decide +kernel)) ggL_law_L_track
set_option maxRecDepth 20000 in
theorem ggL_law_L_arcs : GoodIn wsL_law wsL_arcs := goodIn_app (a := [_]) (goodIn_r _ [462] rfl (by decide +kernel)) (goodIn_r _ [463, 420, 393, 394, 395, 2, 396, 12, 27, 397, 398, 399, 400, 331, 332, 333, 11, 334, 88, 401, 402, 403, 404, 405, 406, 407, 372, 167, 168, 169, 40, 408, 409, 410, 411, 412, 301, 220, 302, 413, 414, 415, 416, 207, 208, 26, 209, 210, 211, 212, 162, 163, 164, 165, 166, 353, 214, 215, 216, 56, 205, 217, 218, 219, 221, 222, 223, 224, 225, 226, 227, 228, 229, 230, 231, 452, 453, 454, 455, 456, 431, 432, 433, 434, 435, 141, 142, 143, 426, 436, 437, 438, 439, 440, 441, 442, 443, 444, 445, 446, 447, 326, 327, 328, 329, 148, 35, 330, 335, 179, 180, 181, 336, 175, 176, 177, 178, 270, 271, 272, 34, 273, 274, 275, 276, 69, 277, 171, 172, 173, 174, 278, 279, 280, 281, 282, 283, 284, 285, 286, 287, 288, 289, 290, 291, 292, 293, 294, 295, 296, 297, 298, 299, 300, 303, 304, 305, 306, 307, 308, 309, 310, 233, 234, 235, 236, 237, 238, 337, 157, 158, 159, 160, 94, 31, 17, 74, 21, 161, 170, 182, 183, 184, 30, 185, 61, 63, 186, 62, 187, 188, 189, 190, 191, 192, 193, 194, 195, 196, 197, 198, 199, 200, 64, 201, 202, 203, 204, 206, 213, 232, 239, 240, 241, 242, 243, 448, 449, 314, 450, 451, 476, 477, 478, 479, 480, 481, 482, 483, 484, 485, 486, 493, 494, 495, 496, 501, 502, 503, 504, 487, 488, 489, 490, 491, 492, 497, 498, 499, 500] (by decide +kernel) (by decide +kernel))
set_option maxRecDepth 20000 in
theorem gL_law_L_arcs : GoodIn wsL_law (va_wsS RL 125 yL_arcs wsL_arcs) := goodIn_app (goodIn_of _ (by decide +kernel)) ggL_law_L_arcs
set_option maxRecDepth 20000 in
theorem ggL_law_L_spins : GoodIn wsL_law wsL_spins := goodIn_app (a := [_]) (goodIn_r _ [466] rfl (by decide +kernel)) (goodIn_r _ [157, 158, 159, 2, 160, 12, 94, 31, 17, 74, 21, 161, 162, 163, 164, 11, 165, 88, 166, 167, 168, 169, 40, 170, 171, 172, 173, 174, 175, 176, 177, 178, 179, 180, 181, 182, 183, 184, 30, 185, 61, 63, 186, 62, 187, 188, 189, 190, 191, 192, 193, 194, 195, 196, 197, 198, 199, 200, 64, 201, 202, 203, 26, 204, 56, 205, 206, 207, 208, 209, 210, 211, 212, 213, 214, 215, 216, 217, 218, 219, 220, 221, 222, 223, 224, 225, 226, 227, 228, 229, 230, 231, 232, 233, 234, 235, 236, 237, 238, 239, 240, 241, 242, 243, 317, 318, 314, 319, 320, 467, 468, 469, 470, 35, 141, 142, 143, 471, 289, 290, 34, 291, 69, 282, 292, 293, 294, 295, 296, 283, 297, 298, 299, 300, 301, 302, 303, 304, 305, 306, 307, 308, 309, 354, 326, 327, 328, 329, 148, 330, 331, 332, 333, 334, 335, 336, 270, 271, 272, 273, 274, 275, 276, 277, 278, 279, 280, 281, 284, 285, 286, 287, 288, 310, 337, 472, 473, 474, 475, 268, 269, 264, 265, 266, 267, 311, 377, 378, 379, 476, 477, 478, 479, 480, 481, 482, 483, 484, 485, 486, 487, 488, 489, 490, 491, 492, 497, 498, 499, 500, 493, 494, 495, 496, 501, 502, 503, 504] (by decide +kernel) (by decide +kernel))
set_option maxRecDepth 20000 in
theorem gL_law_L_spins : GoodIn wsL_law (va_wsS RL 128 yL_spins wsL_spins) := goodIn_app (goodIn_of _ (by decide +kernel)) ggL_law_L_spins
theorem dL_law_0 : decode cL_law 0 = .ok (.new 12, 3) := by decide +kernel
theorem dL_law_3 : decode cL_law 3 = .ok (.dup, 1) := by decide +kernel
theorem dL_law_4 : decode cL_law 4 = .ok (.invokespecial 95, 3) := by decide +kernel
theorem dL_law_7 : decode cL_law 7 = .ok (.astore_n 1, 1) := by decide +kernel
theorem dL_law_8 : decode cL_law 8 = .ok (.aload_n 1, 1) := by decide +kernel
theorem dL_law_9 : decode cL_law 9 = .ok (.invokevirtual 96, 3) := by decide +kernel
theorem dL_law_12 : decode cL_law 12 = .ok (.bipush (-5), 2) := by decide +kernel
theorem dL_law_14 : decode cL_law 14 = .ok (.if_icmp .ne 51, 3) := by decide +kernel
theorem dL_law_17 : decode cL_law 17 = .ok (.aload_n 1, 1) := by decide +kernel
theorem dL_law_18 : decode cL_law 18 = .ok (.invokevirtual 99, 3) := by decide +kernel
theorem dL_law_21 : decode cL_law 21 = .ok (.bipush (-5), 2) := by decide +kernel
theorem dL_law_23 : decode cL_law 23 = .ok (.if_icmp .ne 42, 3) := by decide +kernel
theorem dL_law_26 : decode cL_law 26 = .ok (.aload_n 1, 1) := by decide +kernel
theorem dL_law_27 : decode cL_law 27 = .ok (.invokevirtual 102, 3) := by decide +kernel
theorem dL_law_30 : decode cL_law 30 = .ok (.bipush (-100), 2) := by decide +kernel
theorem dL_law_32 : decode cL_law 32 = .ok (.if_icmp .ne 33, 3) := by decide +kernel
theorem dL_law_35 : decode cL_law 35 = .ok (.aload_n 1, 1) := by decide +kernel
theorem dL_law_36 : decode cL_law 36 = .ok (.iconst 3, 1) := by decide +kernel
theorem dL_law_37 : decode cL_law 37 = .ok (.invokevirtual 11, 3) := by decide +kernel
theorem dL_law_40 : decode cL_law 40 = .ok (.ifCond .ne 25, 3) := by decide +kernel
theorem dL_law_43 : decode cL_law 43 = .ok (.aload_n 1, 1) := by decide +kernel
theorem dL_law_44 : decode cL_law 44 = .ok (.iconst 0, 1) := by decide +kernel
theorem dL_law_45 : decode cL_law 45 = .ok (.iconst 0, 1) := by decide +kernel
theorem dL_law_46 : decode cL_law 46 = .ok (.invokevirtual 63, 3) := by decide +kernel
theorem dL_law_49 : decode cL_law 49 = .ok (.bipush (-5), 2) := by decide +kernel
theorem dL_law_51 : decode cL_law 51 = .ok (.if_icmp .ne 14, 3) := by decide +kernel
theorem dL_law_54 : decode cL_law 54 = .ok (.aload_n 1, 1) := by decide +kernel
theorem dL_law_55 : decode cL_law 55 = .ok (.bipush 100, 2) := by decide +kernel
theorem dL_law_57 : decode cL_law 57 = .ok (.invokevirtual 75, 3) := by decide +kernel
theorem dL_law_60 : decode cL_law 60 = .ok (.bipush (-2), 2) := by decide +kernel
theorem dL_law_62 : decode cL_law 62 = .ok (.if_icmp .eq 5, 3) := by decide +kernel
theorem dL_law_65 : decode cL_law 65 = .ok (.iconst 0, 1) := by decide +kernel
theorem dL_law_66 : decode cL_law 66 = .ok (.ireturn, 1) := by decide +kernel
theorem dL_law_67 : decode cL_law 67 = .ok (.iconst 0, 1) := by decide +kernel
theorem dL_law_68 : decode cL_law 68 = .ok (.istore_n 2, 1) := by decide +kernel
theorem dL_law_69 : decode cL_law 69 = .ok (.iload_n 2, 1) := by decide +kernel
theorem dL_law_70 : decode cL_law 70 = .ok (.bipush 16, 2) := by decide +kernel
theorem dL_law_72 : decode cL_law 72 = .ok (.if_icmp .ge 242, 3) := by decide +kernel
theorem dL_law_75 : decode cL_law 75 = .ok (.aload_n 0, 1) := by decide +kernel
theorem dL_law_76 : decode cL_law 76 = .ok (.iconst 2, 1) := by decide +kernel
theorem dL_law_77 : decode cL_law 77 = .ok (.iload_n 2, 1) := by decide +kernel
theorem dL_law_78 : decode cL_law 78 = .ok (.imul, 1) := by decide +kernel
theorem dL_law_79 : decode cL_law 79 = .ok (.invokestatic 105, 3) := by decide +kernel
theorem dL_law_82 : decode cL_law 82 = .ok (.istore_n 3, 1) := by decide +kernel
theorem dL_law_83 : decode cL_law 83 = .ok (.aload_n 0, 1) := by decide +kernel
theorem dL_law_84 : decode cL_law 84 = .ok (.iconst 2, 1) := by decide +kernel
theorem dL_law_85 : decode cL_law 85 = .ok (.iload_n 2, 1) := by decide +kernel
theorem dL_law_86 : decode cL_law 86 = .ok (.imul, 1) := by decide +kernel
theorem dL_law_87 : decode cL_law 87 = .ok (.iconst 1, 1) := by decide +kernel
theorem dL_law_88 : decode cL_law 88 = .ok (.iadd, 1) := by decide +kernel
theorem dL_law_89 : decode cL_law 89 = .ok (.invokestatic 105, 3) := by decide +kernel
theorem dL_law_92 : decode cL_law 92 = .ok (.istore 4, 2) := by decide +kernel
theorem dL_law_94 : decode cL_law 94 = .ok (.iload_n 2, 1) := by decide +kernel
theorem dL_law_95 : decode cL_law 95 = .ok (.iconst 4, 1) := by decide +kernel
theorem dL_law_96 : decode cL_law 96 = .ok (.if_icmp .ge 7, 3) := by decide +kernel
theorem dL_law_99 : decode cL_law 99 = .ok (.iconst 0, 1) := by decide +kernel
theorem dL_law_100 : decode cL_law 100 = .ok (.goto 12, 3) := by decide +kernel
theorem dL_law_103 : decode cL_law 103 = .ok (.iload_n 3, 1) := by decide +kernel
theorem dL_law_104 : decode cL_law 104 = .ok (.bipush 18, 2) := by decide +kernel
theorem dL_law_106 : decode cL_law 106 = .ok (.ishr, 1) := by decide +kernel
theorem dL_law_107 : decode cL_law 107 = .ok (.bipush 13, 2) := by decide +kernel
theorem dL_law_109 : decode cL_law 109 = .ok (.invokestatic 66, 3) := by decide +kernel
theorem dL_law_112 : decode cL_law 112 = .ok (.istore 5, 2) := by decide +kernel
theorem dL_law_114 : decode cL_law 114 = .ok (.aload_n 1, 1) := by decide +kernel
theorem dL_law_115 : decode cL_law 115 = .ok (.iconst 4, 1) := by decide +kernel
theorem dL_law_116 : decode cL_law 116 = .ok (.invokevirtual 11, 3) := by decide +kernel
theorem dL_law_119 : decode cL_law 119 = .ok (.istore 6, 2) := by decide +kernel
theorem dL_law_121 : decode cL_law 121 = .ok (.aload_n 1, 1) := by decide +kernel
theorem dL_law_122 : decode cL_law 122 = .ok (.invokestatic 109, 3) := by decide +kernel
theorem dL_law_125 : decode cL_law 125 = .ok (.lstore 7, 2) := by decide +kernel
theorem dL_law_127 : decode cL_law 127 = .ok (.aload_n 1, 1) := by decide +kernel
theorem dL_law_128 : decode cL_law 128 = .ok (.iload 5, 2) := by decide +kernel
theorem dL_law_130 : decode cL_law 130 = .ok (.iload_n 3, 1) := by decide +kernel
theorem dL_law_131 : decode cL_law 131 = .ok (.iload 4, 2) := by decide +kernel
theorem dL_law_133 : decode cL_law 133 = .ok (.invokestatic 113, 3) := by decide +kernel
theorem dL_law_136 : decode cL_law 136 = .ok (.istore 9, 2) := by decide +kernel
theorem dL_law_138 : decode cL_law 138 = .ok (.iload 6, 2) := by decide +kernel
theorem dL_law_140 : decode cL_law 140 = .ok (.iconst 4, 1) := by decide +kernel
theorem dL_law_141 : decode cL_law 141 = .ok (.if_icmp .ne 7, 3) := by decide +kernel
theorem dL_law_144 : decode cL_law 144 = .ok (.iconst 3, 1) := by decide +kernel
theorem dL_law_145 : decode cL_law 145 = .ok (.goto 5, 3) := by decide +kernel
theorem dL_law_148 : decode cL_law 148 = .ok (.iload 6, 2) := by decide +kernel
theorem dL_law_150 : decode cL_law 150 = .ok (.istore 10, 2) := by decide +kernel
theorem dL_law_152 : decode cL_law 152 = .ok (.iload 9, 2) := by decide +kernel
theorem dL_law_154 : decode cL_law 154 = .ok (.ifCond .eq 64, 3) := by decide +kernel
theorem dL_law_157 : decode cL_law 157 = .ok (.iload 4, 2) := by decide +kernel
theorem dL_law_159 : decode cL_law 159 = .ok (.sipush 3072, 3) := by decide +kernel
theorem dL_law_162 : decode cL_law 162 = .ok (.iand, 1) := by decide +kernel
theorem dL_law_163 : decode cL_law 163 = .ok (.ifCond .ne 55, 3) := by decide +kernel
theorem dL_law_166 : decode cL_law 166 = .ok (.aload_n 1, 1) := by decide +kernel
theorem dL_law_167 : decode cL_law 167 = .ok (.iconst 4, 1) := by decide +kernel
theorem dL_law_168 : decode cL_law 168 = .ok (.invokevirtual 11, 3) := by decide +kernel
theorem dL_law_171 : decode cL_law 171 = .ok (.iload 6, 2) := by decide +kernel
theorem dL_law_173 : decode cL_law 173 = .ok (.if_icmp .ne 19, 3) := by decide +kernel
theorem dL_law_176 : decode cL_law 176 = .ok (.iload 6, 2) := by decide +kernel
theorem dL_law_178 : decode cL_law 178 = .ok (.iconst 4, 1) := by decide +kernel
theorem dL_law_179 : decode cL_law 179 = .ok (.if_icmp .ne 39, 3) := by decide +kernel
theorem dL_law_182 : decode cL_law 182 = .ok (.aload_n 1, 1) := by decide +kernel
theorem dL_law_183 : decode cL_law 183 = .ok (.invokestatic 109, 3) := by decide +kernel
theorem dL_law_186 : decode cL_law 186 = .ok (.lload 7, 2) := by decide +kernel
theorem dL_law_188 : decode cL_law 188 = .ok (.lcmp, 1) := by decide +kernel
theorem dL_law_189 : decode cL_law 189 = .ok (.ifCond .eq 29, 3) := by decide +kernel
theorem dL_law_192 : decode cL_law 192 = .ok (.aload_n 1, 1) := by decide +kernel
theorem dL_law_193 : decode cL_law 193 = .ok (.invokevirtual 96, 3) := by decide +kernel
theorem dL_law_196 : decode cL_law 196 = .ok (.iload 10, 2) := by decide +kernel
theorem dL_law_198 : decode cL_law 198 = .ok (.if_icmp .ne 17, 3) := by decide +kernel
theorem dL_law_201 : decode cL_law 201 = .ok (.aload_n 1, 1) := by decide +kernel
theorem dL_law_202 : decode cL_law 202 = .ok (.invokestatic 109, 3) := by decide +kernel
theorem dL_law_205 : decode cL_law 205 = .ok (.lload 7, 2) := by decide +kernel
theorem dL_law_207 : decode cL_law 207 = .ok (.lcmp, 1) := by decide +kernel
theorem dL_law_208 : decode cL_law 208 = .ok (.ifCond .ne 7, 3) := by decide +kernel
theorem dL_law_211 : decode cL_law 211 = .ok (.iconst 1, 1) := by decide +kernel
theorem dL_law_212 : decode cL_law 212 = .ok (.goto 4, 3) := by decide +kernel
theorem dL_law_215 : decode cL_law 215 = .ok (.iconst 0, 1) := by decide +kernel
theorem dL_law_216 : decode cL_law 216 = .ok (.istore 9, 2) := by decide +kernel
theorem dL_law_218 : decode cL_law 218 = .ok (.aload_n 1, 1) := by decide +kernel
theorem dL_law_219 : decode cL_law 219 = .ok (.iconst 0, 1) := by decide +kernel
theorem dL_law_220 : decode cL_law 220 = .ok (.invokevirtual 11, 3) := by decide +kernel
theorem dL_law_223 : decode cL_law 223 = .ok (.istore 11, 2) := by decide +kernel
theorem dL_law_225 : decode cL_law 225 = .ok (.iload 9, 2) := by decide +kernel
theorem dL_law_227 : decode cL_law 227 = .ok (.ifCond .eq 79, 3) := by decide +kernel
theorem dL_law_230 : decode cL_law 230 = .ok (.aload_n 1, 1) := by decide +kernel
theorem dL_law_231 : decode cL_law 231 = .ok (.invokestatic 117, 3) := by decide +kernel
theorem dL_law_234 : decode cL_law 234 = .ok (.ifCond .eq 72, 3) := by decide +kernel
theorem dL_law_237 : decode cL_law 237 = .ok (.aload_n 1, 1) := by decide +kernel
theorem dL_law_238 : decode cL_law 238 = .ok (.invokestatic 121, 3) := by decide +kernel
theorem dL_law_241 : decode cL_law 241 = .ok (.ifCond .eq 65, 3) := by decide +kernel
theorem dL_law_244 : decode cL_law 244 = .ok (.aload_n 1, 1) := by decide +kernel
theorem dL_law_245 : decode cL_law 245 = .ok (.invokestatic 123, 3) := by decide +kernel
theorem dL_law_248 : decode cL_law 248 = .ok (.ifCond .eq 58, 3) := by decide +kernel
theorem dL_law_251 : decode cL_law 251 = .ok (.iload 11, 2) := by decide +kernel
theorem dL_law_253 : decode cL_law 253 = .ok (.iconst 2, 1) := by decide +kernel
theorem dL_law_254 : decode cL_law 254 = .ok (.if_icmp .le 36, 3) := by decide +kernel
theorem dL_law_257 : decode cL_law 257 = .ok (.aload_n 1, 1) := by decide +kernel
theorem dL_law_258 : decode cL_law 258 = .ok (.iload_n 3, 1) := by decide +kernel
theorem dL_law_259 : decode cL_law 259 = .ok (.iconst 3, 1) := by decide +kernel
theorem dL_law_260 : decode cL_law 260 = .ok (.ishr, 1) := by decide +kernel
theorem dL_law_261 : decode cL_law 261 = .ok (.iload 11, 2) := by decide +kernel
theorem dL_law_263 : decode cL_law 263 = .ok (.invokestatic 66, 3) := by decide +kernel
theorem dL_law_266 : decode cL_law 266 = .ok (.iload 4, 2) := by decide +kernel
theorem dL_law_268 : decode cL_law 268 = .ok (.iconst 3, 1) := by decide +kernel
theorem dL_law_269 : decode cL_law 269 = .ok (.ishr, 1) := by decide +kernel
theorem dL_law_270 : decode cL_law 270 = .ok (.iload 11, 2) := by decide +kernel
theorem dL_law_272 : decode cL_law 272 = .ok (.invokestatic 66, 3) := by decide +kernel
theorem dL_law_275 : decode cL_law 275 = .ok (.iload_n 3, 1) := by decide +kernel
theorem dL_law_276 : decode cL_law 276 = .ok (.bipush 11, 2) := by decide +kernel
theorem dL_law_278 : decode cL_law 278 = .ok (.ishr, 1) := by decide +kernel
theorem dL_law_279 : decode cL_law 279 = .ok (.iload 11, 2) := by decide +kernel
theorem dL_law_281 : decode cL_law 281 = .ok (.invokestatic 66, 3) := by decide +kernel
theorem dL_law_284 : decode cL_law 284 = .ok (.invokestatic 125, 3) := by decide +kernel
theorem dL_law_287 : decode cL_law 287 = .ok (.ifCond .eq 19, 3) := by decide +kernel
theorem dL_law_290 : decode cL_law 290 = .ok (.iload_n 2, 1) := by decide +kernel
theorem dL_law_291 : decode cL_law 291 = .ok (.iconst 4, 1) := by decide +kernel
theorem dL_law_292 : decode cL_law 292 = .ok (.irem, 1) := by decide +kernel
theorem dL_law_293 : decode cL_law 293 = .ok (.iconst 3, 1) := by decide +kernel
theorem dL_law_294 : decode cL_law 294 = .ok (.if_icmp .ne 14, 3) := by decide +kernel
theorem dL_law_297 : decode cL_law 297 = .ok (.aload_n 1, 1) := by decide +kernel
theorem dL_law_298 : decode cL_law 298 = .ok (.iload 4, 2) := by decide +kernel
theorem dL_law_300 : decode cL_law 300 = .ok (.invokestatic 128, 3) := by decide +kernel
theorem dL_law_303 : decode cL_law 303 = .ok (.ifCond .ne 5, 3) := by decide +kernel
theorem dL_law_306 : decode cL_law 306 = .ok (.iconst 0, 1) := by decide +kernel
theorem dL_law_307 : decode cL_law 307 = .ok (.ireturn, 1) := by decide +kernel
theorem dL_law_308 : decode cL_law 308 = .ok (.iinc 2 1, 3) := by decide +kernel
theorem dL_law_311 : decode cL_law 311 = .ok (.goto (-242), 3) := by decide +kernel
theorem dL_law_314 : decode cL_law 314 = .ok (.iconst 1, 1) := by decide +kernel
theorem dL_law_315 : decode cL_law 315 = .ok (.ireturn, 1) := by decide +kernel
