theorem dL_arcs_0 : decode cL_arcs 0 = .ok (.iload_n 1, 1) := by decide +kernel
theorem dL_arcs_1 : decode cL_arcs 1 = .ok (.iload_n 2, 1) := by decide +kernel
theorem dL_arcs_2 : decode cL_arcs 2 = .ok (.if_icmp .eq 13, 3) := by decide +kernel
theorem dL_arcs_5 : decode cL_arcs 5 = .ok (.iload_n 1, 1) := by decide +kernel
theorem dL_arcs_6 : decode cL_arcs 6 = .ok (.iload_n 3, 1) := by decide +kernel
theorem dL_arcs_7 : decode cL_arcs 7 = .ok (.if_icmp .eq 8, 3) := by decide +kernel
theorem dL_arcs_10 : decode cL_arcs 10 = .ok (.iload_n 2, 1) := by decide +kernel
theorem dL_arcs_11 : decode cL_arcs 11 = .ok (.iload_n 3, 1) := by decide +kernel
theorem dL_arcs_12 : decode cL_arcs 12 = .ok (.if_icmp .ne 38, 3) := by decide +kernel
theorem dL_arcs_15 : decode cL_arcs 15 = .ok (.aload_n 0, 1) := by decide +kernel
theorem dL_arcs_16 : decode cL_arcs 16 = .ok (.iload_n 1, 1) := by decide +kernel
theorem dL_arcs_17 : decode cL_arcs 17 = .ok (.iload_n 2, 1) := by decide +kernel
theorem dL_arcs_18 : decode cL_arcs 18 = .ok (.iload_n 3, 1) := by decide +kernel
theorem dL_arcs_19 : decode cL_arcs 19 = .ok (.invokevirtual 28, 3) := by decide +kernel
theorem dL_arcs_22 : decode cL_arcs 22 = .ok (.bipush (-2), 2) := by decide +kernel
theorem dL_arcs_24 : decode cL_arcs 24 = .ok (.if_icmp .ne 24, 3) := by decide +kernel
theorem dL_arcs_27 : decode cL_arcs 27 = .ok (.aload_n 0, 1) := by decide +kernel
theorem dL_arcs_28 : decode cL_arcs 28 = .ok (.iload_n 1, 1) := by decide +kernel
theorem dL_arcs_29 : decode cL_arcs 29 = .ok (.iload_n 2, 1) := by decide +kernel
theorem dL_arcs_30 : decode cL_arcs 30 = .ok (.iload_n 3, 1) := by decide +kernel
theorem dL_arcs_31 : decode cL_arcs 31 = .ok (.iconst 0, 1) := by decide +kernel
theorem dL_arcs_32 : decode cL_arcs 32 = .ok (.iconst 0, 1) := by decide +kernel
theorem dL_arcs_33 : decode cL_arcs 33 = .ok (.iconst 0, 1) := by decide +kernel
theorem dL_arcs_34 : decode cL_arcs 34 = .ok (.invokevirtual 32, 3) := by decide +kernel
theorem dL_arcs_37 : decode cL_arcs 37 = .ok (.ldc2_w 36, 3) := by decide +kernel
theorem dL_arcs_40 : decode cL_arcs 40 = .ok (.lcmp, 1) := by decide +kernel
theorem dL_arcs_41 : decode cL_arcs 41 = .ok (.ifCond .ne 7, 3) := by decide +kernel
theorem dL_arcs_44 : decode cL_arcs 44 = .ok (.iconst 1, 1) := by decide +kernel
theorem dL_arcs_45 : decode cL_arcs 45 = .ok (.goto 4, 3) := by decide +kernel
theorem dL_arcs_48 : decode cL_arcs 48 = .ok (.iconst 0, 1) := by decide +kernel
theorem dL_arcs_49 : decode cL_arcs 49 = .ok (.ireturn, 1) := by decide +kernel
theorem dL_arcs_50 : decode cL_arcs 50 = .ok (.aload_n 0, 1) := by decide +kernel
theorem dL_arcs_51 : decode cL_arcs 51 = .ok (.iload_n 1, 1) := by decide +kernel
theorem dL_arcs_52 : decode cL_arcs 52 = .ok (.bipush 6, 2) := by decide +kernel
theorem dL_arcs_54 : decode cL_arcs 54 = .ok (.invokevirtual 19, 3) := by decide +kernel
theorem dL_arcs_57 : decode cL_arcs 57 = .ok (.aload_n 0, 1) := by decide +kernel
theorem dL_arcs_58 : decode cL_arcs 58 = .ok (.iload_n 2, 1) := by decide +kernel
theorem dL_arcs_59 : decode cL_arcs 59 = .ok (.bipush 6, 2) := by decide +kernel
theorem dL_arcs_61 : decode cL_arcs 61 = .ok (.invokevirtual 19, 3) := by decide +kernel
theorem dL_arcs_64 : decode cL_arcs 64 = .ok (.iadd, 1) := by decide +kernel
theorem dL_arcs_65 : decode cL_arcs 65 = .ok (.aload_n 0, 1) := by decide +kernel
theorem dL_arcs_66 : decode cL_arcs 66 = .ok (.iload_n 3, 1) := by decide +kernel
theorem dL_arcs_67 : decode cL_arcs 67 = .ok (.bipush 6, 2) := by decide +kernel
theorem dL_arcs_69 : decode cL_arcs 69 = .ok (.invokevirtual 19, 3) := by decide +kernel
theorem dL_arcs_72 : decode cL_arcs 72 = .ok (.iadd, 1) := by decide +kernel
theorem dL_arcs_73 : decode cL_arcs 73 = .ok (.ifCond .le 38, 3) := by decide +kernel
theorem dL_arcs_76 : decode cL_arcs 76 = .ok (.aload_n 0, 1) := by decide +kernel
theorem dL_arcs_77 : decode cL_arcs 77 = .ok (.iload_n 1, 1) := by decide +kernel
theorem dL_arcs_78 : decode cL_arcs 78 = .ok (.iload_n 2, 1) := by decide +kernel
theorem dL_arcs_79 : decode cL_arcs 79 = .ok (.iload_n 3, 1) := by decide +kernel
theorem dL_arcs_80 : decode cL_arcs 80 = .ok (.invokevirtual 28, 3) := by decide +kernel
theorem dL_arcs_83 : decode cL_arcs 83 = .ok (.bipush (-4), 2) := by decide +kernel
theorem dL_arcs_85 : decode cL_arcs 85 = .ok (.if_icmp .ne 24, 3) := by decide +kernel
theorem dL_arcs_88 : decode cL_arcs 88 = .ok (.aload_n 0, 1) := by decide +kernel
theorem dL_arcs_89 : decode cL_arcs 89 = .ok (.iload_n 1, 1) := by decide +kernel
theorem dL_arcs_90 : decode cL_arcs 90 = .ok (.iload_n 2, 1) := by decide +kernel
theorem dL_arcs_91 : decode cL_arcs 91 = .ok (.iload_n 3, 1) := by decide +kernel
theorem dL_arcs_92 : decode cL_arcs 92 = .ok (.iconst 0, 1) := by decide +kernel
theorem dL_arcs_93 : decode cL_arcs 93 = .ok (.iconst 0, 1) := by decide +kernel
theorem dL_arcs_94 : decode cL_arcs 94 = .ok (.iconst 0, 1) := by decide +kernel
theorem dL_arcs_95 : decode cL_arcs 95 = .ok (.invokevirtual 32, 3) := by decide +kernel
theorem dL_arcs_98 : decode cL_arcs 98 = .ok (.ldc2_w 38, 3) := by decide +kernel
theorem dL_arcs_101 : decode cL_arcs 101 = .ok (.lcmp, 1) := by decide +kernel
theorem dL_arcs_102 : decode cL_arcs 102 = .ok (.ifCond .ne 7, 3) := by decide +kernel
theorem dL_arcs_105 : decode cL_arcs 105 = .ok (.iconst 1, 1) := by decide +kernel
theorem dL_arcs_106 : decode cL_arcs 106 = .ok (.goto 4, 3) := by decide +kernel
theorem dL_arcs_109 : decode cL_arcs 109 = .ok (.iconst 0, 1) := by decide +kernel
theorem dL_arcs_110 : decode cL_arcs 110 = .ok (.ireturn, 1) := by decide +kernel
theorem dL_arcs_111 : decode cL_arcs 111 = .ok (.aload_n 0, 1) := by decide +kernel
theorem dL_arcs_112 : decode cL_arcs 112 = .ok (.iload_n 1, 1) := by decide +kernel
theorem dL_arcs_113 : decode cL_arcs 113 = .ok (.iload_n 2, 1) := by decide +kernel
theorem dL_arcs_114 : decode cL_arcs 114 = .ok (.iload_n 3, 1) := by decide +kernel
theorem dL_arcs_115 : decode cL_arcs 115 = .ok (.invokevirtual 28, 3) := by decide +kernel
theorem dL_arcs_118 : decode cL_arcs 118 = .ok (.istore 4, 2) := by decide +kernel
theorem dL_arcs_120 : decode cL_arcs 120 = .ok (.iconst 0, 1) := by decide +kernel
theorem dL_arcs_121 : decode cL_arcs 121 = .ok (.istore 5, 2) := by decide +kernel
theorem dL_arcs_123 : decode cL_arcs 123 = .ok (.iload 5, 2) := by decide +kernel
theorem dL_arcs_125 : decode cL_arcs 125 = .ok (.aload_n 0, 1) := by decide +kernel
theorem dL_arcs_126 : decode cL_arcs 126 = .ok (.iconst 0, 1) := by decide +kernel
theorem dL_arcs_127 : decode cL_arcs 127 = .ok (.invokevirtual 11, 3) := by decide +kernel
theorem dL_arcs_130 : decode cL_arcs 130 = .ok (.if_icmp .ge 235, 3) := by decide +kernel
theorem dL_arcs_133 : decode cL_arcs 133 = .ok (.iconst 1, 1) := by decide +kernel
theorem dL_arcs_134 : decode cL_arcs 134 = .ok (.istore 6, 2) := by decide +kernel
theorem dL_arcs_136 : decode cL_arcs 136 = .ok (.iconst 0, 1) := by decide +kernel
theorem dL_arcs_137 : decode cL_arcs 137 = .ok (.istore 7, 2) := by decide +kernel
theorem dL_arcs_139 : decode cL_arcs 139 = .ok (.iload 7, 2) := by decide +kernel
theorem dL_arcs_141 : decode cL_arcs 141 = .ok (.iconst 2, 1) := by decide +kernel
theorem dL_arcs_142 : decode cL_arcs 142 = .ok (.if_icmp .ge 175, 3) := by decide +kernel
theorem dL_arcs_145 : decode cL_arcs 145 = .ok (.aload_n 0, 1) := by decide +kernel
theorem dL_arcs_146 : decode cL_arcs 146 = .ok (.iload_n 1, 1) := by decide +kernel
theorem dL_arcs_147 : decode cL_arcs 147 = .ok (.iload_n 2, 1) := by decide +kernel
theorem dL_arcs_148 : decode cL_arcs 148 = .ok (.iload_n 3, 1) := by decide +kernel
theorem dL_arcs_149 : decode cL_arcs 149 = .ok (.aload_n 0, 1) := by decide +kernel
theorem dL_arcs_150 : decode cL_arcs 150 = .ok (.iload 5, 2) := by decide +kernel
theorem dL_arcs_152 : decode cL_arcs 152 = .ok (.iconst 0, 1) := by decide +kernel
theorem dL_arcs_153 : decode cL_arcs 153 = .ok (.invokevirtual 19, 3) := by decide +kernel
theorem dL_arcs_156 : decode cL_arcs 156 = .ok (.iload 7, 2) := by decide +kernel
theorem dL_arcs_158 : decode cL_arcs 158 = .ok (.iconst 0, 1) := by decide +kernel
theorem dL_arcs_159 : decode cL_arcs 159 = .ok (.invokevirtual 32, 3) := by decide +kernel
theorem dL_arcs_162 : decode cL_arcs 162 = .ok (.invokestatic 40, 3) := by decide +kernel
theorem dL_arcs_165 : decode cL_arcs 165 = .ok (.lstore 8, 2) := by decide +kernel
theorem dL_arcs_167 : decode cL_arcs 167 = .ok (.aload_n 0, 1) := by decide +kernel
theorem dL_arcs_168 : decode cL_arcs 168 = .ok (.iload_n 1, 1) := by decide +kernel
theorem dL_arcs_169 : decode cL_arcs 169 = .ok (.iload_n 2, 1) := by decide +kernel
theorem dL_arcs_170 : decode cL_arcs 170 = .ok (.iload_n 3, 1) := by decide +kernel
theorem dL_arcs_171 : decode cL_arcs 171 = .ok (.aload_n 0, 1) := by decide +kernel
theorem dL_arcs_172 : decode cL_arcs 172 = .ok (.iload 5, 2) := by decide +kernel
theorem dL_arcs_174 : decode cL_arcs 174 = .ok (.iconst 0, 1) := by decide +kernel
theorem dL_arcs_175 : decode cL_arcs 175 = .ok (.invokevirtual 19, 3) := by decide +kernel
theorem dL_arcs_178 : decode cL_arcs 178 = .ok (.iload 7, 2) := by decide +kernel
theorem dL_arcs_180 : decode cL_arcs 180 = .ok (.iconst 1, 1) := by decide +kernel
theorem dL_arcs_181 : decode cL_arcs 181 = .ok (.invokevirtual 32, 3) := by decide +kernel
theorem dL_arcs_184 : decode cL_arcs 184 = .ok (.lstore 10, 2) := by decide +kernel
theorem dL_arcs_186 : decode cL_arcs 186 = .ok (.lload 8, 2) := by decide +kernel
theorem dL_arcs_188 : decode cL_arcs 188 = .ok (.aload_n 0, 1) := by decide +kernel
theorem dL_arcs_189 : decode cL_arcs 189 = .ok (.iload 5, 2) := by decide +kernel
theorem dL_arcs_191 : decode cL_arcs 191 = .ok (.iconst 1, 1) := by decide +kernel
theorem dL_arcs_192 : decode cL_arcs 192 = .ok (.iload 7, 2) := by decide +kernel
theorem dL_arcs_194 : decode cL_arcs 194 = .ok (.iadd, 1) := by decide +kernel
theorem dL_arcs_195 : decode cL_arcs 195 = .ok (.invokevirtual 19, 3) := by decide +kernel
theorem dL_arcs_198 : decode cL_arcs 198 = .ok (.sipush 1000, 3) := by decide +kernel
theorem dL_arcs_201 : decode cL_arcs 201 = .ok (.isub, 1) := by decide +kernel
theorem dL_arcs_202 : decode cL_arcs 202 = .ok (.i2l, 1) := by decide +kernel
theorem dL_arcs_203 : decode cL_arcs 203 = .ok (.lload 10, 2) := by decide +kernel
theorem dL_arcs_205 : decode cL_arcs 205 = .ok (.lmul, 1) := by decide +kernel
theorem dL_arcs_206 : decode cL_arcs 206 = .ok (.lsub, 1) := by decide +kernel
theorem dL_arcs_207 : decode cL_arcs 207 = .ok (.lstore 12, 2) := by decide +kernel
theorem dL_arcs_209 : decode cL_arcs 209 = .ok (.lload 10, 2) := by decide +kernel
theorem dL_arcs_211 : decode cL_arcs 211 = .ok (.lconst 1, 1) := by decide +kernel
theorem dL_arcs_212 : decode cL_arcs 212 = .ok (.lcmp, 1) := by decide +kernel
theorem dL_arcs_213 : decode cL_arcs 213 = .ok (.ifCond .lt 29, 3) := by decide +kernel
theorem dL_arcs_216 : decode cL_arcs 216 = .ok (.lload 8, 2) := by decide +kernel
theorem dL_arcs_218 : decode cL_arcs 218 = .ok (.aload_n 0, 1) := by decide +kernel
theorem dL_arcs_219 : decode cL_arcs 219 = .ok (.iload_n 3, 1) := by decide +kernel
theorem dL_arcs_220 : decode cL_arcs 220 = .ok (.iload_n 1, 1) := by decide +kernel
theorem dL_arcs_221 : decode cL_arcs 221 = .ok (.iload_n 2, 1) := by decide +kernel
theorem dL_arcs_222 : decode cL_arcs 222 = .ok (.aload_n 0, 1) := by decide +kernel
theorem dL_arcs_223 : decode cL_arcs 223 = .ok (.iload 5, 2) := by decide +kernel
theorem dL_arcs_225 : decode cL_arcs 225 = .ok (.iconst 0, 1) := by decide +kernel
theorem dL_arcs_226 : decode cL_arcs 226 = .ok (.invokevirtual 19, 3) := by decide +kernel
theorem dL_arcs_229 : decode cL_arcs 229 = .ok (.iload 7, 2) := by decide +kernel
theorem dL_arcs_231 : decode cL_arcs 231 = .ok (.iconst 0, 1) := by decide +kernel
theorem dL_arcs_232 : decode cL_arcs 232 = .ok (.invokevirtual 32, 3) := by decide +kernel
theorem dL_arcs_235 : decode cL_arcs 235 = .ok (.invokestatic 40, 3) := by decide +kernel
theorem dL_arcs_238 : decode cL_arcs 238 = .ok (.lcmp, 1) := by decide +kernel
theorem dL_arcs_239 : decode cL_arcs 239 = .ok (.ifCond .eq 5, 3) := by decide +kernel
theorem dL_arcs_242 : decode cL_arcs 242 = .ok (.iconst 0, 1) := by decide +kernel
theorem dL_arcs_243 : decode cL_arcs 243 = .ok (.ireturn, 1) := by decide +kernel
theorem dL_arcs_244 : decode cL_arcs 244 = .ok (.iload 5, 2) := by decide +kernel
theorem dL_arcs_246 : decode cL_arcs 246 = .ok (.iload_n 1, 1) := by decide +kernel
theorem dL_arcs_247 : decode cL_arcs 247 = .ok (.if_icmp .eq 15, 3) := by decide +kernel
theorem dL_arcs_250 : decode cL_arcs 250 = .ok (.iload 5, 2) := by decide +kernel
theorem dL_arcs_252 : decode cL_arcs 252 = .ok (.iload_n 2, 1) := by decide +kernel
theorem dL_arcs_253 : decode cL_arcs 253 = .ok (.if_icmp .eq 9, 3) := by decide +kernel
theorem dL_arcs_256 : decode cL_arcs 256 = .ok (.iload 5, 2) := by decide +kernel
theorem dL_arcs_258 : decode cL_arcs 258 = .ok (.iload_n 3, 1) := by decide +kernel
theorem dL_arcs_259 : decode cL_arcs 259 = .ok (.if_icmp .ne 12, 3) := by decide +kernel
theorem dL_arcs_262 : decode cL_arcs 262 = .ok (.lload 12, 2) := by decide +kernel
theorem dL_arcs_264 : decode cL_arcs 264 = .ok (.lconst 0, 1) := by decide +kernel
theorem dL_arcs_265 : decode cL_arcs 265 = .ok (.lcmp, 1) := by decide +kernel
theorem dL_arcs_266 : decode cL_arcs 266 = .ok (.ifCond .eq 5, 3) := by decide +kernel
theorem dL_arcs_269 : decode cL_arcs 269 = .ok (.iconst 0, 1) := by decide +kernel
theorem dL_arcs_270 : decode cL_arcs 270 = .ok (.ireturn, 1) := by decide +kernel
theorem dL_arcs_271 : decode cL_arcs 271 = .ok (.iload 6, 2) := by decide +kernel
theorem dL_arcs_273 : decode cL_arcs 273 = .ok (.lload 12, 2) := by decide +kernel
theorem dL_arcs_275 : decode cL_arcs 275 = .ok (.lconst 0, 1) := by decide +kernel
theorem dL_arcs_276 : decode cL_arcs 276 = .ok (.lcmp, 1) := by decide +kernel
theorem dL_arcs_277 : decode cL_arcs 277 = .ok (.ifCond .ge 9, 3) := by decide +kernel
theorem dL_arcs_280 : decode cL_arcs 280 = .ok (.lload 12, 2) := by decide +kernel
theorem dL_arcs_282 : decode cL_arcs 282 = .ok (.lneg, 1) := by decide +kernel
theorem dL_arcs_283 : decode cL_arcs 283 = .ok (.goto 5, 3) := by decide +kernel
theorem dL_arcs_286 : decode cL_arcs 286 = .ok (.lload 12, 2) := by decide +kernel
theorem dL_arcs_288 : decode cL_arcs 288 = .ok (.aload_n 0, 1) := by decide +kernel
theorem dL_arcs_289 : decode cL_arcs 289 = .ok (.iload 5, 2) := by decide +kernel
theorem dL_arcs_291 : decode cL_arcs 291 = .ok (.iconst 3, 1) := by decide +kernel
theorem dL_arcs_292 : decode cL_arcs 292 = .ok (.invokevirtual 19, 3) := by decide +kernel
theorem dL_arcs_295 : decode cL_arcs 295 = .ok (.i2l, 1) := by decide +kernel
theorem dL_arcs_296 : decode cL_arcs 296 = .ok (.lload 10, 2) := by decide +kernel
theorem dL_arcs_298 : decode cL_arcs 298 = .ok (.lmul, 1) := by decide +kernel
theorem dL_arcs_299 : decode cL_arcs 299 = .ok (.lcmp, 1) := by decide +kernel
theorem dL_arcs_300 : decode cL_arcs 300 = .ok (.ifCond .gt 7, 3) := by decide +kernel
theorem dL_arcs_303 : decode cL_arcs 303 = .ok (.iconst 1, 1) := by decide +kernel
theorem dL_arcs_304 : decode cL_arcs 304 = .ok (.goto 4, 3) := by decide +kernel
theorem dL_arcs_307 : decode cL_arcs 307 = .ok (.iconst 0, 1) := by decide +kernel
theorem dL_arcs_308 : decode cL_arcs 308 = .ok (.iand, 1) := by decide +kernel
theorem dL_arcs_309 : decode cL_arcs 309 = .ok (.istore 6, 2) := by decide +kernel
theorem dL_arcs_311 : decode cL_arcs 311 = .ok (.iinc 7 1, 3) := by decide +kernel
theorem dL_arcs_314 : decode cL_arcs 314 = .ok (.goto (-175), 3) := by decide +kernel
theorem dL_arcs_317 : decode cL_arcs 317 = .ok (.iload 4, 2) := by decide +kernel
theorem dL_arcs_319 : decode cL_arcs 319 = .ok (.iload 5, 2) := by decide +kernel
theorem dL_arcs_321 : decode cL_arcs 321 = .ok (.ishr, 1) := by decide +kernel
theorem dL_arcs_322 : decode cL_arcs 322 = .ok (.iconst 1, 1) := by decide +kernel
theorem dL_arcs_323 : decode cL_arcs 323 = .ok (.iand, 1) := by decide +kernel
theorem dL_arcs_324 : decode cL_arcs 324 = .ok (.iconst 1, 1) := by decide +kernel
theorem dL_arcs_325 : decode cL_arcs 325 = .ok (.if_icmp .ne 7, 3) := by decide +kernel
theorem dL_arcs_328 : decode cL_arcs 328 = .ok (.iconst 1, 1) := by decide +kernel
theorem dL_arcs_329 : decode cL_arcs 329 = .ok (.goto 4, 3) := by decide +kernel
theorem dL_arcs_332 : decode cL_arcs 332 = .ok (.iconst 0, 1) := by decide +kernel
theorem dL_arcs_333 : decode cL_arcs 333 = .ok (.iload 6, 2) := by decide +kernel
theorem dL_arcs_335 : decode cL_arcs 335 = .ok (.ifCond .eq 18, 3) := by decide +kernel
theorem dL_arcs_338 : decode cL_arcs 338 = .ok (.aload_n 0, 1) := by decide +kernel
theorem dL_arcs_339 : decode cL_arcs 339 = .ok (.iload 5, 2) := by decide +kernel
theorem dL_arcs_341 : decode cL_arcs 341 = .ok (.bipush 6, 2) := by decide +kernel
theorem dL_arcs_343 : decode cL_arcs 343 = .ok (.invokevirtual 19, 3) := by decide +kernel
theorem dL_arcs_346 : decode cL_arcs 346 = .ok (.ifCond .ne 7, 3) := by decide +kernel
theorem dL_arcs_349 : decode cL_arcs 349 = .ok (.iconst 1, 1) := by decide +kernel
theorem dL_arcs_350 : decode cL_arcs 350 = .ok (.goto 4, 3) := by decide +kernel
theorem dL_arcs_353 : decode cL_arcs 353 = .ok (.iconst 0, 1) := by decide +kernel
theorem dL_arcs_354 : decode cL_arcs 354 = .ok (.if_icmp .eq 5, 3) := by decide +kernel
theorem dL_arcs_357 : decode cL_arcs 357 = .ok (.iconst 0, 1) := by decide +kernel
theorem dL_arcs_358 : decode cL_arcs 358 = .ok (.ireturn, 1) := by decide +kernel
theorem dL_arcs_359 : decode cL_arcs 359 = .ok (.iinc 5 1, 3) := by decide +kernel
theorem dL_arcs_362 : decode cL_arcs 362 = .ok (.goto (-239), 3) := by decide +kernel
theorem dL_arcs_365 : decode cL_arcs 365 = .ok (.iload 4, 2) := by decide +kernel
theorem dL_arcs_367 : decode cL_arcs 367 = .ok (.iload_n 1, 1) := by decide +kernel
theorem dL_arcs_368 : decode cL_arcs 368 = .ok (.ishr, 1) := by decide +kernel
theorem dL_arcs_369 : decode cL_arcs 369 = .ok (.iconst 1, 1) := by decide +kernel
theorem dL_arcs_370 : decode cL_arcs 370 = .ok (.iand, 1) := by decide +kernel
theorem dL_arcs_371 : decode cL_arcs 371 = .ok (.iconst 1, 1) := by decide +kernel
theorem dL_arcs_372 : decode cL_arcs 372 = .ok (.if_icmp .ne 45, 3) := by decide +kernel
theorem dL_arcs_375 : decode cL_arcs 375 = .ok (.iload 4, 2) := by decide +kernel
theorem dL_arcs_377 : decode cL_arcs 377 = .ok (.iload_n 2, 1) := by decide +kernel
theorem dL_arcs_378 : decode cL_arcs 378 = .ok (.ishr, 1) := by decide +kernel
theorem dL_arcs_379 : decode cL_arcs 379 = .ok (.iconst 1, 1) := by decide +kernel
theorem dL_arcs_380 : decode cL_arcs 380 = .ok (.iand, 1) := by decide +kernel
theorem dL_arcs_381 : decode cL_arcs 381 = .ok (.iconst 1, 1) := by decide +kernel
theorem dL_arcs_382 : decode cL_arcs 382 = .ok (.if_icmp .ne 35, 3) := by decide +kernel
theorem dL_arcs_385 : decode cL_arcs 385 = .ok (.iload 4, 2) := by decide +kernel
theorem dL_arcs_387 : decode cL_arcs 387 = .ok (.iload_n 3, 1) := by decide +kernel
theorem dL_arcs_388 : decode cL_arcs 388 = .ok (.ishr, 1) := by decide +kernel
theorem dL_arcs_389 : decode cL_arcs 389 = .ok (.iconst 1, 1) := by decide +kernel
theorem dL_arcs_390 : decode cL_arcs 390 = .ok (.iand, 1) := by decide +kernel
theorem dL_arcs_391 : decode cL_arcs 391 = .ok (.iconst 1, 1) := by decide +kernel
theorem dL_arcs_392 : decode cL_arcs 392 = .ok (.if_icmp .ne 25, 3) := by decide +kernel
theorem dL_arcs_395 : decode cL_arcs 395 = .ok (.aload_n 0, 1) := by decide +kernel
theorem dL_arcs_396 : decode cL_arcs 396 = .ok (.iload_n 1, 1) := by decide +kernel
theorem dL_arcs_397 : decode cL_arcs 397 = .ok (.iload_n 2, 1) := by decide +kernel
theorem dL_arcs_398 : decode cL_arcs 398 = .ok (.iload_n 3, 1) := by decide +kernel
theorem dL_arcs_399 : decode cL_arcs 399 = .ok (.bipush 100, 2) := by decide +kernel
theorem dL_arcs_401 : decode cL_arcs 401 = .ok (.iconst 0, 1) := by decide +kernel
theorem dL_arcs_402 : decode cL_arcs 402 = .ok (.iconst 0, 1) := by decide +kernel
theorem dL_arcs_403 : decode cL_arcs 403 = .ok (.invokevirtual 32, 3) := by decide +kernel
theorem dL_arcs_406 : decode cL_arcs 406 = .ok (.ldc2_w 36, 3) := by decide +kernel
theorem dL_arcs_409 : decode cL_arcs 409 = .ok (.lcmp, 1) := by decide +kernel
theorem dL_arcs_410 : decode cL_arcs 410 = .ok (.ifCond .ne 7, 3) := by decide +kernel
theorem dL_arcs_413 : decode cL_arcs 413 = .ok (.iconst 1, 1) := by decide +kernel
theorem dL_arcs_414 : decode cL_arcs 414 = .ok (.goto 4, 3) := by decide +kernel
theorem dL_arcs_417 : decode cL_arcs 417 = .ok (.iconst 0, 1) := by decide +kernel
theorem dL_arcs_418 : decode cL_arcs 418 = .ok (.ireturn, 1) := by decide +kernel
set_option maxRecDepth 20000 in
theorem ggL_best_X6_count : GoodIn wsL_best wsX6_count := goodIn_r _ [6, 7, 8, 9, 10, 11, 12, 13, 14, 15, 16, 17, 18, 19, 20, 21, 22, 23, 24, 25, 26, 27, 28, 29, 30, 31, 32, 33, 34, 35, 36, 37, 38, 39, 40, 41, 42, 43, 44, 45, 46, 47, 48, 49, 50, 51, 52, 53, 54, 55, 56, 57, 58, 59, 60, 61, 62, 63, 64, 65, 66, 67, 68, 69, 70, 71, 72, 73, 74, 75, 76, 77, 78, 79, 80, 81, 82, 83, 84, 85, 86, 87, 88, 5, 89, 90, 91, 92, 93, 94, 95, 96, 97, 98, 99, 100, 101, 102, 103, 104, 105, 266, 267, 268, 269, 270, 271, 272, 273, 274, 275, 276, 277, 278, 279, 280, 281, 282, 283, 284, 285, 286, 287, 288, 289, 290] (by decide +kernel) (by decide +kernel)
set_option maxRecDepth 20000 in
theorem gL_best_X6_count : GoodIn wsL_best (wsV RL 11 RX6 yX6_count wsX6_count) := goodIn_app (goodIn_of _ (by decide +kernel)) ggL_best_X6_count
set_option maxRecDepth 20000 in
theorem ggL_best_L_bits : GoodIn wsL_best wsL_bits := goodIn_r _ [109] (by decide +kernel) (by decide +kernel)
set_option maxRecDepth 20000 in
theorem gL_best_L_bits : GoodIn wsL_best (va_wsS RL 46 yL_bits wsL_bits) := goodIn_app (goodIn_of _ (by decide +kernel)) ggL_best_L_bits
set_option maxRecDepth 20000 in
theorem ggL_best_X6_best : GoodIn wsL_best wsX6_best := goodIn_r _ [113, 7, 114, 115, 116, 5, 117, 14, 15, 16, 17, 18, 19, 20, 21, 22, 23, 24, 118, 62, 63, 64, 65, 66, 67, 68, 69, 70, 71, 72, 73, 74, 75, 76, 77, 78, 79, 80, 81, 82, 83, 84, 85, 86, 87, 88, 89, 90, 91, 92, 93, 94, 95, 96, 97, 98, 99, 100, 101, 102, 103, 104, 119, 120, 121, 122, 123, 124, 266, 267, 268, 269, 270, 271, 272, 273, 274, 275, 276, 287, 288, 289, 290] (by decide +kernel) (by decide +kernel)
set_option maxRecDepth 20000 in
theorem gL_best_X6_best : GoodIn wsL_best (wsV RL 49 RX6 yX6_best wsX6_best) := goodIn_app (goodIn_of _ (by decide +kernel)) ggL_best_X6_best
set_option maxRecDepth 20000 in
theorem ggL_best_X6_lands : GoodIn wsL_best wsX6_lands := goodIn_r _ [128, 114, 7, 129, 130, 14, 15, 16, 17, 18, 19, 20, 21, 22, 23, 24, 118, 62, 63, 64, 65, 66, 67, 68, 69, 70, 71, 72, 73, 74, 75, 76, 77, 78, 79, 80, 81, 82, 83, 84, 85, 86, 87, 88, 5, 89, 90, 91, 92, 93, 94, 95, 96, 97, 98, 99, 100, 101, 102, 103, 104, 131, 266, 267, 268, 269, 270, 271, 272, 273, 274, 275, 276, 287, 288, 289, 290] (by decide +kernel) (by decide +kernel)
set_option maxRecDepth 20000 in
theorem gL_best_X6_lands : GoodIn wsL_best (wsV RL 52 RX6 yX6_lands wsX6_lands) := goodIn_app (goodIn_of _ (by decide +kernel)) ggL_best_X6_lands
set_option maxRecDepth 20000 in
theorem ggL_best_X6_bestAt : GoodIn wsL_best wsX6_bestAt := goodIn_r _ [135, 136, 114, 7, 137, 138, 139, 5, 140, 115, 116, 117, 14, 15, 16, 17, 18, 19, 20, 21, 22, 23, 24, 118, 62, 63, 64, 65, 66, 67, 68, 69, 70, 71, 72, 73, 74, 75, 76, 77, 78, 79, 80, 81, 82, 83, 84, 85, 86, 87, 88, 89, 90, 91, 92, 93, 94, 95, 96, 97, 98, 99, 100, 101, 102, 103, 104, 131, 141, 142, 143, 144, 145, 146, 147, 148, 149, 150, 151, 152, 266, 267, 268, 269, 270, 271, 272, 273, 274, 275, 276, 287, 288, 289, 290] (by decide +kernel) (by decide +kernel)
set_option maxRecDepth 20000 in
theorem gL_best_X6_bestAt : GoodIn wsL_best (wsV RL 56 RX6 yX6_bestAt wsX6_bestAt) := goodIn_app (goodIn_of _ (by decide +kernel)) ggL_best_X6_bestAt
set_option maxRecDepth 20000 in
theorem ggL_best_X6_dropMissed : GoodIn wsL_best wsX6_dropMissed := goodIn_r _ [156, 7, 114, 10, 8, 129, 14, 15, 16, 17, 18, 19, 20, 21, 22, 23, 24, 118, 62, 63, 64, 65, 66, 67, 68, 69, 70, 71, 72, 73, 74, 75, 76, 77, 78, 79, 80, 81, 82, 83, 84, 85, 86, 87, 88, 5, 89, 90, 91, 92, 93, 94, 95, 96, 97, 98, 99, 100, 101, 102, 103, 104, 119, 157, 158, 159, 160, 161, 162, 163, 164, 165, 166, 167, 168, 169, 170, 171, 172, 173, 174, 175, 176, 120, 266, 267, 268, 269, 270, 271, 272, 273, 274, 275, 276, 287, 288, 289, 290, 277, 278] (by decide +kernel) (by decide +kernel)
set_option maxRecDepth 20000 in
theorem gL_best_X6_dropMissed : GoodIn wsL_best (wsV RL 60 RX6 yX6_dropMissed wsX6_dropMissed) := goodIn_app (goodIn_of _ (by decide +kernel)) ggL_best_X6_dropMissed
set_option maxRecDepth 20000 in
theorem ggL_best_X6_hits : GoodIn wsL_best wsX6_hits := goodIn_r _ [180, 7, 114, 181, 182, 183, 5, 184, 185, 186, 187, 17, 188, 19, 189, 190, 191, 192, 193, 194, 195, 196, 21, 22, 23, 24, 197, 198, 199, 200, 201, 202, 82, 203, 204, 205, 206, 207, 69, 70, 64, 71, 72, 73, 74, 14, 15, 16, 18, 20, 119, 76, 77, 78, 66, 67, 79, 80, 81, 83, 84, 85, 86, 87, 88, 89, 90, 91, 92, 93, 266, 267, 268, 269, 270, 271, 272, 273, 274, 275, 276, 287, 288, 289, 290] (by decide +kernel) (by decide +kernel)
set_option maxRecDepth 20000 in
theorem gL_best_X6_hits : GoodIn wsL_best (wsV RL 28 RX6 yX6_hits wsX6_hits) := goodIn_app (goodIn_of _ (by decide +kernel)) ggL_best_X6_hits
set_option maxRecDepth 20000 in
theorem ggL_best_X6_photo : GoodIn wsL_best wsX6_photo := goodIn_r _ [211, 7, 129, 212, 213, 185, 186, 187, 17, 188, 19, 115, 116, 5, 117, 214, 34, 35, 36, 24, 215, 30, 31, 32, 20, 21, 22, 23, 33, 216, 217, 218, 219, 220, 221, 222, 223, 224, 225, 26, 27, 28, 29, 226, 227, 228, 229, 230, 231, 232, 233, 234, 235, 236, 237, 238, 239, 240, 241, 242, 243, 244, 245, 246, 82, 247, 248, 202, 203, 249, 250, 251, 252, 253, 254, 255, 256, 95, 96, 97, 98, 99, 100, 176, 88, 89, 266, 267, 268, 269, 270, 271, 272, 273, 274, 275, 276, 291, 292, 293, 294] (by decide +kernel) (by decide +kernel)
set_option maxRecDepth 20000 in
theorem gL_best_X6_photo : GoodIn wsL_best (wsV RL 19 RX6 yX6_photo wsX6_photo) := goodIn_app (goodIn_of _ (by decide +kernel)) ggL_best_X6_photo
set_option maxRecDepth 20000 in
theorem ggL_best_L_upper : GoodIn wsL_best wsL_upper := goodIn_r _ [259, 260] (by decide +kernel) (by decide +kernel)
set_option maxRecDepth 20000 in
theorem gL_best_L_upper : GoodIn wsL_best (va_wsS RL 40 yL_upper wsL_upper) := goodIn_app (goodIn_of _ (by decide +kernel)) ggL_best_L_upper
set_option maxRecDepth 20000 in
theorem ggL_best_X6_arc : GoodIn wsL_best wsX6_arc := goodIn_r _ [264, 265, 136, 137, 114, 181, 182, 183, 5, 184, 7, 185, 186, 187, 17, 188, 19, 189, 190, 191, 138, 139, 140, 115, 116, 117, 192, 193, 194, 195, 196, 21, 22, 23, 24, 197, 198, 199, 200, 201, 202, 82, 203, 204, 205, 206, 207, 69, 70, 64, 71, 72, 73, 74, 131, 91, 92, 93, 66, 79, 141, 85, 86, 87, 142, 143, 144, 145, 81, 83, 146, 147, 148, 149, 150, 151, 152, 266, 267, 268, 269, 270, 271, 272, 273, 274, 275, 276, 287, 288, 289, 290] (by decide +kernel) (by decide +kernel)
set_option maxRecDepth 20000 in
theorem gL_best_X6_arc : GoodIn wsL_best (wsV RL 32 RX6 yX6_arc wsX6_arc) := goodIn_app (goodIn_of _ (by decide +kernel)) ggL_best_X6_arc
theorem dL_best_0 : decode cL_best 0 = .ok (.aload_n 0, 1) := by decide +kernel
theorem dL_best_1 : decode cL_best 1 = .ok (.iconst 1, 1) := by decide +kernel
theorem dL_best_2 : decode cL_best 2 = .ok (.invokevirtual 11, 3) := by decide +kernel
theorem dL_best_5 : decode cL_best 5 = .ok (.istore_n 1, 1) := by decide +kernel
theorem dL_best_6 : decode cL_best 6 = .ok (.iload_n 1, 1) := by decide +kernel
theorem dL_best_7 : decode cL_best 7 = .ok (.invokestatic 46, 3) := by decide +kernel
theorem dL_best_10 : decode cL_best 10 = .ok (.iconst 3, 1) := by decide +kernel
theorem dL_best_11 : decode cL_best 11 = .ok (.if_icmp .ge 61, 3) := by decide +kernel
theorem dL_best_14 : decode cL_best 14 = .ok (.aload_n 0, 1) := by decide +kernel
theorem dL_best_15 : decode cL_best 15 = .ok (.iconst 0, 1) := by decide +kernel
theorem dL_best_16 : decode cL_best 16 = .ok (.invokevirtual 49, 3) := by decide +kernel
theorem dL_best_19 : decode cL_best 19 = .ok (.bipush (-4), 2) := by decide +kernel
theorem dL_best_21 : decode cL_best 21 = .ok (.if_icmp .ne 49, 3) := by decide +kernel
theorem dL_best_24 : decode cL_best 24 = .ok (.aload_n 0, 1) := by decide +kernel
theorem dL_best_25 : decode cL_best 25 = .ok (.invokevirtual 52, 3) := by decide +kernel
theorem dL_best_28 : decode cL_best 28 = .ok (.bipush (-4), 2) := by decide +kernel
theorem dL_best_30 : decode cL_best 30 = .ok (.if_icmp .ne 40, 3) := by decide +kernel
theorem dL_best_33 : decode cL_best 33 = .ok (.aload_n 0, 1) := by decide +kernel
theorem dL_best_34 : decode cL_best 34 = .ok (.iconst 0, 1) := by decide +kernel
theorem dL_best_35 : decode cL_best 35 = .ok (.iconst 0, 1) := by decide +kernel
theorem dL_best_36 : decode cL_best 36 = .ok (.iconst 0, 1) := by decide +kernel
theorem dL_best_37 : decode cL_best 37 = .ok (.invokevirtual 56, 3) := by decide +kernel
theorem dL_best_40 : decode cL_best 40 = .ok (.ldc2_w 38, 3) := by decide +kernel
theorem dL_best_43 : decode cL_best 43 = .ok (.lcmp, 1) := by decide +kernel
theorem dL_best_44 : decode cL_best 44 = .ok (.ifCond .ne 26, 3) := by decide +kernel
theorem dL_best_47 : decode cL_best 47 = .ok (.aload_n 0, 1) := by decide +kernel
theorem dL_best_48 : decode cL_best 48 = .ok (.invokevirtual 60, 3) := by decide +kernel
theorem dL_best_51 : decode cL_best 51 = .ok (.bipush (-4), 2) := by decide +kernel
theorem dL_best_53 : decode cL_best 53 = .ok (.if_icmp .ne 17, 3) := by decide +kernel
theorem dL_best_56 : decode cL_best 56 = .ok (.aload_n 0, 1) := by decide +kernel
theorem dL_best_57 : decode cL_best 57 = .ok (.iconst 5, 1) := by decide +kernel
theorem dL_best_58 : decode cL_best 58 = .ok (.invokevirtual 49, 3) := by decide +kernel
theorem dL_best_61 : decode cL_best 61 = .ok (.bipush (-2), 2) := by decide +kernel
theorem dL_best_63 : decode cL_best 63 = .ok (.if_icmp .ne 7, 3) := by decide +kernel
theorem dL_best_66 : decode cL_best 66 = .ok (.iconst 1, 1) := by decide +kernel
theorem dL_best_67 : decode cL_best 67 = .ok (.goto 4, 3) := by decide +kernel
theorem dL_best_70 : decode cL_best 70 = .ok (.iconst 0, 1) := by decide +kernel
theorem dL_best_71 : decode cL_best 71 = .ok (.ireturn, 1) := by decide +kernel
theorem dL_best_72 : decode cL_best 72 = .ok (.aload_n 0, 1) := by decide +kernel
theorem dL_best_73 : decode cL_best 73 = .ok (.iconst 0, 1) := by decide +kernel
theorem dL_best_74 : decode cL_best 74 = .ok (.invokevirtual 49, 3) := by decide +kernel
theorem dL_best_77 : decode cL_best 77 = .ok (.istore_n 2, 1) := by decide +kernel
theorem dL_best_78 : decode cL_best 78 = .ok (.aload_n 0, 1) := by decide +kernel
theorem dL_best_79 : decode cL_best 79 = .ok (.iconst 1, 1) := by decide +kernel
theorem dL_best_80 : decode cL_best 80 = .ok (.invokevirtual 49, 3) := by decide +kernel
theorem dL_best_83 : decode cL_best 83 = .ok (.istore_n 3, 1) := by decide +kernel
theorem dL_best_84 : decode cL_best 84 = .ok (.aload_n 0, 1) := by decide +kernel
theorem dL_best_85 : decode cL_best 85 = .ok (.iconst 2, 1) := by decide +kernel
theorem dL_best_86 : decode cL_best 86 = .ok (.invokevirtual 49, 3) := by decide +kernel
theorem dL_best_89 : decode cL_best 89 = .ok (.istore 4, 2) := by decide +kernel
theorem dL_best_91 : decode cL_best 91 = .ok (.aload_n 0, 1) := by decide +kernel
theorem dL_best_92 : decode cL_best 92 = .ok (.iconst 4, 1) := by decide +kernel
theorem dL_best_93 : decode cL_best 93 = .ok (.invokevirtual 49, 3) := by decide +kernel
theorem dL_best_96 : decode cL_best 96 = .ok (.istore 5, 2) := by decide +kernel
theorem dL_best_98 : decode cL_best 98 = .ok (.aload_n 0, 1) := by decide +kernel
theorem dL_best_99 : decode cL_best 99 = .ok (.invokevirtual 52, 3) := by decide +kernel
theorem dL_best_102 : decode cL_best 102 = .ok (.istore 6, 2) := by decide +kernel
theorem dL_best_104 : decode cL_best 104 = .ok (.iconst 0, 1) := by decide +kernel
theorem dL_best_105 : decode cL_best 105 = .ok (.istore 7, 2) := by decide +kernel
theorem dL_best_107 : decode cL_best 107 = .ok (.iload 7, 2) := by decide +kernel
theorem dL_best_109 : decode cL_best 109 = .ok (.aload_n 0, 1) := by decide +kernel
theorem dL_best_110 : decode cL_best 110 = .ok (.iconst 0, 1) := by decide +kernel
theorem dL_best_111 : decode cL_best 111 = .ok (.invokevirtual 11, 3) := by decide +kernel
theorem dL_best_114 : decode cL_best 114 = .ok (.if_icmp .ge 88, 3) := by decide +kernel
theorem dL_best_117 : decode cL_best 117 = .ok (.iload 7, 2) := by decide +kernel
theorem dL_best_119 : decode cL_best 119 = .ok (.iconst 1, 1) := by decide +kernel
theorem dL_best_120 : decode cL_best 120 = .ok (.iadd, 1) := by decide +kernel
theorem dL_best_121 : decode cL_best 121 = .ok (.istore 8, 2) := by decide +kernel
theorem dL_best_123 : decode cL_best 123 = .ok (.iload 8, 2) := by decide +kernel
theorem dL_best_125 : decode cL_best 125 = .ok (.aload_n 0, 1) := by decide +kernel
theorem dL_best_126 : decode cL_best 126 = .ok (.iconst 0, 1) := by decide +kernel
theorem dL_best_127 : decode cL_best 127 = .ok (.invokevirtual 11, 3) := by decide +kernel
theorem dL_best_130 : decode cL_best 130 = .ok (.if_icmp .ge 66, 3) := by decide +kernel
theorem dL_best_133 : decode cL_best 133 = .ok (.aload_n 0, 1) := by decide +kernel
theorem dL_best_134 : decode cL_best 134 = .ok (.iconst 0, 1) := by decide +kernel
theorem dL_best_135 : decode cL_best 135 = .ok (.invokevirtual 11, 3) := by decide +kernel
theorem dL_best_138 : decode cL_best 138 = .ok (.iconst 1, 1) := by decide +kernel
theorem dL_best_139 : decode cL_best 139 = .ok (.isub, 1) := by decide +kernel
theorem dL_best_140 : decode cL_best 140 = .ok (.istore 9, 2) := by decide +kernel
theorem dL_best_142 : decode cL_best 142 = .ok (.iload 8, 2) := by decide +kernel
theorem dL_best_144 : decode cL_best 144 = .ok (.iload 9, 2) := by decide +kernel
theorem dL_best_146 : decode cL_best 146 = .ok (.if_icmp .ge 16, 3) := by decide +kernel
theorem dL_best_149 : decode cL_best 149 = .ok (.aload_n 0, 1) := by decide +kernel
theorem dL_best_150 : decode cL_best 150 = .ok (.iload 7, 2) := by decide +kernel
theorem dL_best_152 : decode cL_best 152 = .ok (.iload 8, 2) := by decide +kernel
theorem dL_best_154 : decode cL_best 154 = .ok (.iload 9, 2) := by decide +kernel
theorem dL_best_156 : decode cL_best 156 = .ok (.invokevirtual 28, 3) := by decide +kernel
theorem dL_best_159 : decode cL_best 159 = .ok (.goto 5, 3) := by decide +kernel
theorem dL_best_162 : decode cL_best 162 = .ok (.bipush (-4), 2) := by decide +kernel
theorem dL_best_164 : decode cL_best 164 = .ok (.istore 10, 2) := by decide +kernel
theorem dL_best_166 : decode cL_best 166 = .ok (.iload 10, 2) := by decide +kernel
theorem dL_best_168 : decode cL_best 168 = .ok (.ifCond .lt 22, 3) := by decide +kernel
theorem dL_best_171 : decode cL_best 171 = .ok (.iload_n 1, 1) := by decide +kernel
theorem dL_best_172 : decode cL_best 172 = .ok (.iload 10, 2) := by decide +kernel
theorem dL_best_174 : decode cL_best 174 = .ok (.iconst (-1), 1) := by decide +kernel
theorem dL_best_175 : decode cL_best 175 = .ok (.ixor, 1) := by decide +kernel
theorem dL_best_176 : decode cL_best 176 = .ok (.iand, 1) := by decide +kernel
theorem dL_best_177 : decode cL_best 177 = .ok (.invokestatic 46, 3) := by decide +kernel
theorem dL_best_180 : decode cL_best 180 = .ok (.aload_n 0, 1) := by decide +kernel
theorem dL_best_181 : decode cL_best 181 = .ok (.iconst 3, 1) := by decide +kernel
theorem dL_best_182 : decode cL_best 182 = .ok (.invokevirtual 49, 3) := by decide +kernel
theorem dL_best_185 : decode cL_best 185 = .ok (.if_icmp .ge 5, 3) := by decide +kernel
theorem dL_best_188 : decode cL_best 188 = .ok (.iconst 0, 1) := by decide +kernel
theorem dL_best_189 : decode cL_best 189 = .ok (.ireturn, 1) := by decide +kernel
theorem dL_best_190 : decode cL_best 190 = .ok (.iinc 8 1, 3) := by decide +kernel
theorem dL_best_193 : decode cL_best 193 = .ok (.goto (-70), 3) := by decide +kernel
theorem dL_best_196 : decode cL_best 196 = .ok (.iinc 7 1, 3) := by decide +kernel
theorem dL_best_199 : decode cL_best 199 = .ok (.goto (-92), 3) := by decide +kernel
theorem dL_best_202 : decode cL_best 202 = .ok (.aload_n 0, 1) := by decide +kernel
theorem dL_best_203 : decode cL_best 203 = .ok (.iload_n 2, 1) := by decide +kernel
theorem dL_best_204 : decode cL_best 204 = .ok (.iconst 0, 1) := by decide +kernel
theorem dL_best_205 : decode cL_best 205 = .ok (.invokevirtual 19, 3) := by decide +kernel
theorem dL_best_208 : decode cL_best 208 = .ok (.istore 7, 2) := by decide +kernel
theorem dL_best_210 : decode cL_best 210 = .ok (.iload 7, 2) := by decide +kernel
theorem dL_best_212 : decode cL_best 212 = .ok (.bipush 100, 2) := by decide +kernel
theorem dL_best_214 : decode cL_best 214 = .ok (.if_icmp .ge 63, 3) := by decide +kernel
theorem dL_best_217 : decode cL_best 217 = .ok (.iload 6, 2) := by decide +kernel
theorem dL_best_219 : decode cL_best 219 = .ok (.ifCond .lt 10, 3) := by decide +kernel
theorem dL_best_222 : decode cL_best 222 = .ok (.iload 7, 2) := by decide +kernel
theorem dL_best_224 : decode cL_best 224 = .ok (.iload 6, 2) := by decide +kernel
theorem dL_best_226 : decode cL_best 226 = .ok (.if_icmp .gt 51, 3) := by decide +kernel
theorem dL_best_229 : decode cL_best 229 = .ok (.aload_n 0, 1) := by decide +kernel
theorem dL_best_230 : decode cL_best 230 = .ok (.iload 7, 2) := by decide +kernel
theorem dL_best_232 : decode cL_best 232 = .ok (.iconst 1, 1) := by decide +kernel
theorem dL_best_233 : decode cL_best 233 = .ok (.iconst 0, 1) := by decide +kernel
theorem dL_best_234 : decode cL_best 234 = .ok (.invokevirtual 56, 3) := by decide +kernel
theorem dL_best_237 : decode cL_best 237 = .ok (.invokestatic 40, 3) := by decide +kernel
theorem dL_best_240 : decode cL_best 240 = .ok (.lconst 0, 1) := by decide +kernel
theorem dL_best_241 : decode cL_best 241 = .ok (.lcmp, 1) := by decide +kernel
theorem dL_best_242 : decode cL_best 242 = .ok (.ifCond .gt 7, 3) := by decide +kernel
theorem dL_best_245 : decode cL_best 245 = .ok (.iconst 1, 1) := by decide +kernel
theorem dL_best_246 : decode cL_best 246 = .ok (.goto 4, 3) := by decide +kernel
theorem dL_best_249 : decode cL_best 249 = .ok (.iconst 0, 1) := by decide +kernel
theorem dL_best_250 : decode cL_best 250 = .ok (.istore 8, 2) := by decide +kernel
theorem dL_best_252 : decode cL_best 252 = .ok (.iload 8, 2) := by decide +kernel
theorem dL_best_254 : decode cL_best 254 = .ok (.iload 7, 2) := by decide +kernel
theorem dL_best_256 : decode cL_best 256 = .ok (.iload 6, 2) := by decide +kernel
theorem dL_best_258 : decode cL_best 258 = .ok (.if_icmp .ne 7, 3) := by decide +kernel
theorem dL_best_261 : decode cL_best 261 = .ok (.iconst 1, 1) := by decide +kernel
theorem dL_best_262 : decode cL_best 262 = .ok (.goto 4, 3) := by decide +kernel
theorem dL_best_265 : decode cL_best 265 = .ok (.iconst 0, 1) := by decide +kernel
theorem dL_best_266 : decode cL_best 266 = .ok (.if_icmp .eq 5, 3) := by decide +kernel
theorem dL_best_269 : decode cL_best 269 = .ok (.iconst 0, 1) := by decide +kernel
theorem dL_best_270 : decode cL_best 270 = .ok (.ireturn, 1) := by decide +kernel
theorem dL_best_271 : decode cL_best 271 = .ok (.iinc 7 1, 3) := by decide +kernel
theorem dL_best_274 : decode cL_best 274 = .ok (.goto (-64), 3) := by decide +kernel
theorem dL_best_277 : decode cL_best 277 = .ok (.iload_n 2, 1) := by decide +kernel
theorem dL_best_278 : decode cL_best 278 = .ok (.iload_n 3, 1) := by decide +kernel
theorem dL_best_279 : decode cL_best 279 = .ok (.if_icmp .ge 91, 3) := by decide +kernel
theorem dL_best_282 : decode cL_best 282 = .ok (.iload_n 3, 1) := by decide +kernel
theorem dL_best_283 : decode cL_best 283 = .ok (.iload 4, 2) := by decide +kernel
theorem dL_best_285 : decode cL_best 285 = .ok (.if_icmp .ge 85, 3) := by decide +kernel
theorem dL_best_288 : decode cL_best 288 = .ok (.iload_n 1, 1) := by decide +kernel
theorem dL_best_289 : decode cL_best 289 = .ok (.aload_n 0, 1) := by decide +kernel
theorem dL_best_290 : decode cL_best 290 = .ok (.iload_n 2, 1) := by decide +kernel
theorem dL_best_291 : decode cL_best 291 = .ok (.iload_n 3, 1) := by decide +kernel
theorem dL_best_292 : decode cL_best 292 = .ok (.iload 4, 2) := by decide +kernel
theorem dL_best_294 : decode cL_best 294 = .ok (.invokevirtual 28, 3) := by decide +kernel
theorem dL_best_297 : decode cL_best 297 = .ok (.iconst (-1), 1) := by decide +kernel
theorem dL_best_298 : decode cL_best 298 = .ok (.ixor, 1) := by decide +kernel
theorem dL_best_299 : decode cL_best 299 = .ok (.iand, 1) := by decide +kernel
theorem dL_best_300 : decode cL_best 300 = .ok (.iload 5, 2) := by decide +kernel
theorem dL_best_302 : decode cL_best 302 = .ok (.if_icmp .ne 68, 3) := by decide +kernel
theorem dL_best_305 : decode cL_best 305 = .ok (.iload 5, 2) := by decide +kernel
theorem dL_best_307 : decode cL_best 307 = .ok (.invokestatic 46, 3) := by decide +kernel
theorem dL_best_310 : decode cL_best 310 = .ok (.aload_n 0, 1) := by decide +kernel
theorem dL_best_311 : decode cL_best 311 = .ok (.iconst 3, 1) := by decide +kernel
theorem dL_best_312 : decode cL_best 312 = .ok (.invokevirtual 49, 3) := by decide +kernel
theorem dL_best_315 : decode cL_best 315 = .ok (.if_icmp .ne 55, 3) := by decide +kernel
theorem dL_best_318 : decode cL_best 318 = .ok (.aload_n 0, 1) := by decide +kernel
theorem dL_best_319 : decode cL_best 319 = .ok (.bipush 7, 2) := by decide +kernel
theorem dL_best_321 : decode cL_best 321 = .ok (.iconst 0, 1) := by decide +kernel
theorem dL_best_322 : decode cL_best 322 = .ok (.iconst 0, 1) := by decide +kernel
theorem dL_best_323 : decode cL_best 323 = .ok (.invokevirtual 56, 3) := by decide +kernel
theorem dL_best_326 : decode cL_best 326 = .ok (.aload_n 0, 1) := by decide +kernel
theorem dL_best_327 : decode cL_best 327 = .ok (.iload_n 2, 1) := by decide +kernel
theorem dL_best_328 : decode cL_best 328 = .ok (.iload_n 3, 1) := by decide +kernel
theorem dL_best_329 : decode cL_best 329 = .ok (.iload 4, 2) := by decide +kernel
theorem dL_best_331 : decode cL_best 331 = .ok (.bipush 7, 2) := by decide +kernel
theorem dL_best_333 : decode cL_best 333 = .ok (.iconst 0, 1) := by decide +kernel
theorem dL_best_334 : decode cL_best 334 = .ok (.iconst 0, 1) := by decide +kernel
theorem dL_best_335 : decode cL_best 335 = .ok (.invokevirtual 32, 3) := by decide +kernel
theorem dL_best_338 : decode cL_best 338 = .ok (.lcmp, 1) := by decide +kernel
theorem dL_best_339 : decode cL_best 339 = .ok (.ifCond .ne 31, 3) := by decide +kernel
theorem dL_best_342 : decode cL_best 342 = .ok (.aload_n 0, 1) := by decide +kernel
theorem dL_best_343 : decode cL_best 343 = .ok (.bipush 7, 2) := by decide +kernel
theorem dL_best_345 : decode cL_best 345 = .ok (.iconst 1, 1) := by decide +kernel
theorem dL_best_346 : decode cL_best 346 = .ok (.iconst 1, 1) := by decide +kernel
theorem dL_best_347 : decode cL_best 347 = .ok (.invokevirtual 56, 3) := by decide +kernel
theorem dL_best_350 : decode cL_best 350 = .ok (.aload_n 0, 1) := by decide +kernel
theorem dL_best_351 : decode cL_best 351 = .ok (.iload_n 2, 1) := by decide +kernel
theorem dL_best_352 : decode cL_best 352 = .ok (.iload_n 3, 1) := by decide +kernel
theorem dL_best_353 : decode cL_best 353 = .ok (.iload 4, 2) := by decide +kernel
theorem dL_best_355 : decode cL_best 355 = .ok (.bipush 7, 2) := by decide +kernel
theorem dL_best_357 : decode cL_best 357 = .ok (.iconst 1, 1) := by decide +kernel
theorem dL_best_358 : decode cL_best 358 = .ok (.iconst 1, 1) := by decide +kernel
theorem dL_best_359 : decode cL_best 359 = .ok (.invokevirtual 32, 3) := by decide +kernel
theorem dL_best_362 : decode cL_best 362 = .ok (.lcmp, 1) := by decide +kernel
theorem dL_best_363 : decode cL_best 363 = .ok (.ifCond .ne 7, 3) := by decide +kernel
theorem dL_best_366 : decode cL_best 366 = .ok (.iconst 1, 1) := by decide +kernel
theorem dL_best_367 : decode cL_best 367 = .ok (.goto 4, 3) := by decide +kernel
theorem dL_best_370 : decode cL_best 370 = .ok (.iconst 0, 1) := by decide +kernel
theorem dL_best_371 : decode cL_best 371 = .ok (.ireturn, 1) := by decide +kernel
set_option maxRecDepth 20000 in
theorem ggL_track_X6_count : GoodIn wsL_track wsX6_count := goodIn_r _ [5, 6, 7, 8, 9, 10, 11, 12, 13, 14, 15, 16, 17, 18, 19, 20, 21, 22, 23, 24, 25, 26, 27, 28, 29, 30, 31, 32, 33, 34, 35, 36, 37, 38, 39, 40, 41, 42, 43, 44, 45, 46, 47, 48, 49, 50, 51, 52, 53, 54, 55, 56, 57, 58, 59, 60, 61, 62, 63, 64, 65, 66, 67, 68, 69, 70, 71, 72, 73, 74, 75, 76, 77, 78, 79, 80, 81, 82, 83, 84, 85, 86, 87, 4, 88, 89, 90, 91, 92, 93, 94, 95, 96, 97, 98, 99, 100, 101, 102, 103, 104, 223, 224, 225, 226, 227, 228, 229, 230, 231, 232, 233, 234, 235, 236, 237, 238, 239, 240, 241, 242, 243, 244, 245, 246, 247] (by decide +kernel) (by decide +kernel)
set_option maxRecDepth 20000 in
theorem gL_track_X6_count : GoodIn wsL_track (wsV RL 11 RX6 yX6_count wsX6_count) := goodIn_app (goodIn_of _ (by decide +kernel)) ggL_track_X6_count
set_option maxRecDepth 20000 in
theorem ggL_track_X6_track : GoodIn wsL_track wsX6_track := goodIn_r _ [108, 8, 109, 110, 111, 4, 112, 36, 37, 38, 39, 40, 41, 42, 43, 44, 45, 20, 21, 16, 22, 23, 46, 47, 48, 49, 50, 51, 52, 53, 54, 14, 15, 17, 18, 19, 55, 56, 57, 58, 59, 60, 61, 62, 63, 64, 65, 66, 67, 68, 69, 70, 71, 72, 73, 74, 75, 76, 77, 78, 79, 80, 81, 82, 83, 84, 85, 86, 87, 88, 89, 90, 91, 92, 93, 94, 95, 96, 97, 98, 99, 100, 101, 102, 103, 104, 113, 114, 115, 116, 117, 118, 119, 120, 121, 122, 123, 124, 125, 126, 127, 128, 223, 224, 225, 226, 227, 228, 229, 230, 231, 240, 241, 242, 243, 232, 233, 244, 245, 246, 247] (by decide +kernel) (by decide +kernel)
set_option maxRecDepth 20000 in
theorem gL_track_X6_track : GoodIn wsL_track (wsV RL 63 RX6 yX6_track wsX6_track) := goodIn_app (goodIn_of _ (by decide +kernel)) ggL_track_X6_track
set_option maxRecDepth 20000 in
theorem ggL_track_X6_photo : GoodIn wsL_track wsX6_photo := goodIn_r _ [132, 6, 133, 134, 135, 136, 137, 138, 16, 139, 18, 110, 111, 4, 112, 140, 33, 34, 35, 23, 141, 29, 30, 31, 19, 20, 21, 22, 32, 142, 143, 144, 145, 146, 147, 148, 149, 150, 151, 25, 26, 27, 28, 152, 153, 154, 155, 156, 157, 158, 159, 160, 161, 162, 163, 164, 165, 166, 167, 168, 169, 170, 171, 172, 81, 173, 174, 175, 176, 177, 178, 179, 180, 181, 182, 183, 184, 94, 95, 96, 97, 98, 99, 185, 87, 88, 223, 224, 225, 226, 227, 228, 229, 230, 231, 232, 233, 248, 249, 250, 251] (by decide +kernel) (by decide +kernel)
set_option maxRecDepth 20000 in
theorem gL_track_X6_photo : GoodIn wsL_track (wsV RL 19 RX6 yX6_photo wsX6_photo) := goodIn_app (goodIn_of _ (by decide +kernel)) ggL_track_X6_photo
set_option maxRecDepth 20000 in
theorem ggL_track_X6_fitsFrom : GoodIn wsL_track wsX6_fitsFrom := goodIn_r _ [189, 6, 7, 8, 136, 137, 138, 16, 139, 18, 190, 20, 21, 22, 23, 191, 51, 52, 39, 53, 42, 54, 14, 15, 17, 19, 192, 56, 57, 58, 59, 60, 61, 62, 63, 64, 65, 66, 67, 68, 69, 70, 71, 72, 73, 74, 75, 76, 77, 78, 79, 80, 81, 82, 83, 84, 85, 86, 87, 4, 88, 89, 90, 91, 92, 93, 94, 95, 96, 97, 98, 99, 100, 101, 102, 103, 104, 193, 223, 224, 225, 226, 227, 228, 229, 230, 231, 232, 233, 240, 241, 242, 243, 244, 245, 246, 247] (by decide +kernel) (by decide +kernel)
set_option maxRecDepth 20000 in
theorem gL_track_X6_fitsFrom : GoodIn wsL_track (wsV RL 25 RX6 yX6_fitsFrom wsX6_fitsFrom) := goodIn_app (goodIn_of _ (by decide +kernel)) ggL_track_X6_fitsFrom
set_option maxRecDepth 20000 in
theorem ggL_track_L_bits : GoodIn wsL_track wsL_bits := goodIn_r _ [197] (by decide +kernel) (by decide +kernel)
set_option maxRecDepth 20000 in
theorem gL_track_L_bits : GoodIn wsL_track (va_wsS RL 46 yL_bits wsL_bits) := goodIn_app (goodIn_of _ (by decide +kernel)) ggL_track_L_bits
set_option maxRecDepth 20000 in
theorem ggL_track_X6_hits : GoodIn wsL_track wsX6_hits := goodIn_r _ [201, 6, 109, 202, 203, 204, 4, 205, 136, 137, 138, 16, 139, 18, 206, 207, 208, 209, 210, 211, 212, 190, 20, 21, 22, 23, 213, 214, 215, 216, 217, 175, 81, 176, 218, 219, 220, 221, 68, 69, 63, 70, 71, 72, 73, 13, 14, 15, 17, 19, 222, 75, 76, 77, 65, 66, 78, 79, 80, 82, 83, 84, 85, 86, 87, 88, 89, 90, 91, 92, 223, 224, 225, 226, 227, 228, 229, 230, 231, 232, 233, 244, 245, 246, 247] (by decide +kernel) (by decide +kernel)
set_option maxRecDepth 20000 in
theorem gL_track_X6_hits : GoodIn wsL_track (wsV RL 28 RX6 yX6_hits wsX6_hits) := goodIn_app (goodIn_of _ (by decide +kernel)) ggL_track_X6_hits
