section
theorem dL_hours_286 : decode cL_hours 286 = .ok (.istore 6, 2) := by decide +kernel
theorem dL_hours_288 : decode cL_hours 288 = .ok (.aload_n 2, 1) := by decide +kernel
theorem dL_hours_289 : decode cL_hours 289 = .ok (.bipush 50, 2) := by decide +kernel
theorem dL_hours_291 : decode cL_hours 291 = .ok (.iload 8, 2) := by decide +kernel
theorem dL_hours_293 : decode cL_hours 293 = .ok (.iadd, 1) := by decide +kernel
theorem dL_hours_294 : decode cL_hours 294 = .ok (.iload 9, 2) := by decide +kernel
theorem dL_hours_296 : decode cL_hours 296 = .ok (.ifCond .eq 13, 3) := by decide +kernel
theorem dL_hours_299 : decode cL_hours 299 = .ok (.aload_n 2, 1) := by decide +kernel
theorem dL_hours_300 : decode cL_hours 300 = .ok (.bipush 50, 2) := by decide +kernel
theorem dL_hours_302 : decode cL_hours 302 = .ok (.iload 8, 2) := by decide +kernel
theorem dL_hours_304 : decode cL_hours 304 = .ok (.iadd, 1) := by decide +kernel
theorem dL_hours_305 : decode cL_hours 305 = .ok (.iaload, 1) := by decide +kernel
theorem dL_hours_306 : decode cL_hours 306 = .ok (.goto 4, 3) := by decide +kernel
theorem dL_hours_309 : decode cL_hours 309 = .ok (.iconst 0, 1) := by decide +kernel
theorem dL_hours_310 : decode cL_hours 310 = .ok (.iastore, 1) := by decide +kernel
theorem dL_hours_311 : decode cL_hours 311 = .ok (.aload_n 2, 1) := by decide +kernel
theorem dL_hours_312 : decode cL_hours 312 = .ok (.bipush 40, 2) := by decide +kernel
theorem dL_hours_314 : decode cL_hours 314 = .ok (.iload 8, 2) := by decide +kernel
theorem dL_hours_316 : decode cL_hours 316 = .ok (.iadd, 1) := by decide +kernel
theorem dL_hours_317 : decode cL_hours 317 = .ok (.iload 10, 2) := by decide +kernel
theorem dL_hours_319 : decode cL_hours 319 = .ok (.iastore, 1) := by decide +kernel
theorem dL_hours_320 : decode cL_hours 320 = .ok (.iload_n 3, 1) := by decide +kernel
theorem dL_hours_321 : decode cL_hours 321 = .ok (.aload_n 0, 1) := by decide +kernel
theorem dL_hours_322 : decode cL_hours 322 = .ok (.iload 8, 2) := by decide +kernel
theorem dL_hours_324 : decode cL_hours 324 = .ok (.invokevirtual 91, 3) := by decide +kernel
theorem dL_hours_327 : decode cL_hours 327 = .ok (.iadd, 1) := by decide +kernel
theorem dL_hours_328 : decode cL_hours 328 = .ok (.istore_n 3, 1) := by decide +kernel
theorem dL_hours_329 : decode cL_hours 329 = .ok (.iload 4, 2) := by decide +kernel
theorem dL_hours_331 : decode cL_hours 331 = .ok (.aload_n 0, 1) := by decide +kernel
theorem dL_hours_332 : decode cL_hours 332 = .ok (.iload 8, 2) := by decide +kernel
theorem dL_hours_334 : decode cL_hours 334 = .ok (.invokevirtual 61, 3) := by decide +kernel
theorem dL_hours_337 : decode cL_hours 337 = .ok (.iadd, 1) := by decide +kernel
theorem dL_hours_338 : decode cL_hours 338 = .ok (.istore 4, 2) := by decide +kernel
theorem dL_hours_340 : decode cL_hours 340 = .ok (.iinc 8 1, 3) := by decide +kernel
theorem dL_hours_343 : decode cL_hours 343 = .ok (.goto (-186), 3) := by decide +kernel
theorem dL_hours_346 : decode cL_hours 346 = .ok (.aload_n 1, 1) := by decide +kernel
theorem dL_hours_347 : decode cL_hours 347 = .ok (.iconst 3, 1) := by decide +kernel
theorem dL_hours_348 : decode cL_hours 348 = .ok (.dup2, 1) := by decide +kernel
theorem dL_hours_349 : decode cL_hours 349 = .ok (.iaload, 1) := by decide +kernel
theorem dL_hours_350 : decode cL_hours 350 = .ok (.iload 7, 2) := by decide +kernel
theorem dL_hours_352 : decode cL_hours 352 = .ok (.isub, 1) := by decide +kernel
theorem dL_hours_353 : decode cL_hours 353 = .ok (.iastore, 1) := by decide +kernel
theorem dL_hours_354 : decode cL_hours 354 = .ok (.iload 6, 2) := by decide +kernel
theorem dL_hours_356 : decode cL_hours 356 = .ok (.ifCond .eq 43, 3) := by decide +kernel
theorem dL_hours_359 : decode cL_hours 359 = .ok (.iload 7, 2) := by decide +kernel
theorem dL_hours_361 : decode cL_hours 361 = .ok (.iload 5, 2) := by decide +kernel
theorem dL_hours_363 : decode cL_hours 363 = .ok (.iload_n 3, 1) := by decide +kernel
theorem dL_hours_364 : decode cL_hours 364 = .ok (.iadd, 1) := by decide +kernel
theorem dL_hours_365 : decode cL_hours 365 = .ok (.iload 4, 2) := by decide +kernel
theorem dL_hours_367 : decode cL_hours 367 = .ok (.iadd, 1) := by decide +kernel
theorem dL_hours_368 : decode cL_hours 368 = .ok (.if_icmp .ne 31, 3) := by decide +kernel
theorem dL_hours_371 : decode cL_hours 371 = .ok (.iload_n 3, 1) := by decide +kernel
theorem dL_hours_372 : decode cL_hours 372 = .ok (.ifCond .lt 27, 3) := by decide +kernel
theorem dL_hours_375 : decode cL_hours 375 = .ok (.iload 4, 2) := by decide +kernel
theorem dL_hours_377 : decode cL_hours 377 = .ok (.ifCond .lt 22, 3) := by decide +kernel
theorem dL_hours_380 : decode cL_hours 380 = .ok (.aload_n 0, 1) := by decide +kernel
theorem dL_hours_381 : decode cL_hours 381 = .ok (.aload_n 1, 1) := by decide +kernel
theorem dL_hours_382 : decode cL_hours 382 = .ok (.invokestatic 101, 3) := by decide +kernel
theorem dL_hours_385 : decode cL_hours 385 = .ok (.ifCond .eq 14, 3) := by decide +kernel
theorem dL_hours_388 : decode cL_hours 388 = .ok (.aload_n 0, 1) := by decide +kernel
theorem dL_hours_389 : decode cL_hours 389 = .ok (.invokestatic 57, 3) := by decide +kernel
theorem dL_hours_392 : decode cL_hours 392 = .ok (.ifCond .eq 7, 3) := by decide +kernel
theorem dL_hours_395 : decode cL_hours 395 = .ok (.iconst 1, 1) := by decide +kernel
theorem dL_hours_396 : decode cL_hours 396 = .ok (.goto 4, 3) := by decide +kernel
theorem dL_hours_399 : decode cL_hours 399 = .ok (.iconst 0, 1) := by decide +kernel
theorem dL_hours_400 : decode cL_hours 400 = .ok (.ireturn, 1) := by decide +kernel
theorem dL_isMove_0 : decode cL_isMove 0 = .ok (.aload_n 0, 1) := by decide +kernel
theorem dL_isMove_1 : decode cL_isMove 1 = .ok (.iload_n 3, 1) := by decide +kernel
theorem dL_isMove_2 : decode cL_isMove 2 = .ok (.invokevirtual 105, 3) := by decide +kernel
theorem dL_isMove_5 : decode cL_isMove 5 = .ok (.istore 4, 2) := by decide +kernel
theorem dL_isMove_7 : decode cL_isMove 7 = .ok (.iload 4, 2) := by decide +kernel
theorem dL_isMove_9 : decode cL_isMove 9 = .ok (.bipush 100, 2) := by decide +kernel
theorem dL_isMove_11 : decode cL_isMove 11 = .ok (.idiv, 1) := by decide +kernel
theorem dL_isMove_12 : decode cL_isMove 12 = .ok (.bipush 100, 2) := by decide +kernel
theorem dL_isMove_14 : decode cL_isMove 14 = .ok (.irem, 1) := by decide +kernel
theorem dL_isMove_15 : decode cL_isMove 15 = .ok (.istore 5, 2) := by decide +kernel
theorem dL_isMove_17 : decode cL_isMove 17 = .ok (.iload 4, 2) := by decide +kernel
theorem dL_isMove_19 : decode cL_isMove 19 = .ok (.bipush 10, 2) := by decide +kernel
theorem dL_isMove_21 : decode cL_isMove 21 = .ok (.idiv, 1) := by decide +kernel
theorem dL_isMove_22 : decode cL_isMove 22 = .ok (.bipush 10, 2) := by decide +kernel
theorem dL_isMove_24 : decode cL_isMove 24 = .ok (.irem, 1) := by decide +kernel
theorem dL_isMove_25 : decode cL_isMove 25 = .ok (.istore 6, 2) := by decide +kernel
theorem dL_isMove_27 : decode cL_isMove 27 = .ok (.iconst 0, 1) := by decide +kernel
theorem dL_isMove_28 : decode cL_isMove 28 = .ok (.istore 7, 2) := by decide +kernel
theorem dL_isMove_30 : decode cL_isMove 30 = .ok (.iconst 0, 1) := by decide +kernel
theorem dL_isMove_31 : decode cL_isMove 31 = .ok (.istore 8, 2) := by decide +kernel
theorem dL_isMove_33 : decode cL_isMove 33 = .ok (.iconst 0, 1) := by decide +kernel
theorem dL_isMove_34 : decode cL_isMove 34 = .ok (.istore 9, 2) := by decide +kernel
theorem dL_isMove_36 : decode cL_isMove 36 = .ok (.iload 9, 2) := by decide +kernel
theorem dL_isMove_38 : decode cL_isMove 38 = .ok (.iload_n 3, 1) := by decide +kernel
theorem dL_isMove_39 : decode cL_isMove 39 = .ok (.if_icmp .ge 93, 3) := by decide +kernel
theorem dL_isMove_42 : decode cL_isMove 42 = .ok (.aload_n 0, 1) := by decide +kernel
theorem dL_isMove_43 : decode cL_isMove 43 = .ok (.iload 9, 2) := by decide +kernel
theorem dL_isMove_45 : decode cL_isMove 45 = .ok (.invokevirtual 105, 3) := by decide +kernel
theorem dL_isMove_48 : decode cL_isMove 48 = .ok (.istore 10, 2) := by decide +kernel
theorem dL_isMove_50 : decode cL_isMove 50 = .ok (.iload 7, 2) := by decide +kernel
theorem dL_isMove_52 : decode cL_isMove 52 = .ok (.iload 10, 2) := by decide +kernel
theorem dL_isMove_54 : decode cL_isMove 54 = .ok (.bipush 10, 2) := by decide +kernel
theorem dL_isMove_56 : decode cL_isMove 56 = .ok (.idiv, 1) := by decide +kernel
theorem dL_isMove_57 : decode cL_isMove 57 = .ok (.bipush 10, 2) := by decide +kernel
theorem dL_isMove_59 : decode cL_isMove 59 = .ok (.irem, 1) := by decide +kernel
theorem dL_isMove_60 : decode cL_isMove 60 = .ok (.iload 6, 2) := by decide +kernel
theorem dL_isMove_62 : decode cL_isMove 62 = .ok (.if_icmp .ne 22, 3) := by decide +kernel
theorem dL_isMove_65 : decode cL_isMove 65 = .ok (.iload 10, 2) := by decide +kernel
theorem dL_isMove_67 : decode cL_isMove 67 = .ok (.sipush 10000, 3) := by decide +kernel
theorem dL_isMove_70 : decode cL_isMove 70 = .ok (.idiv, 1) := by decide +kernel
theorem dL_isMove_71 : decode cL_isMove 71 = .ok (.aload_n 1, 1) := by decide +kernel
theorem dL_isMove_72 : decode cL_isMove 72 = .ok (.iconst 0, 1) := by decide +kernel
theorem dL_isMove_73 : decode cL_isMove 73 = .ok (.iaload, 1) := by decide +kernel
theorem dL_isMove_74 : decode cL_isMove 74 = .ok (.bipush 6, 2) := by decide +kernel
theorem dL_isMove_76 : decode cL_isMove 76 = .ok (.isub, 1) := by decide +kernel
theorem dL_isMove_77 : decode cL_isMove 77 = .ok (.if_icmp .le 7, 3) := by decide +kernel
theorem dL_isMove_80 : decode cL_isMove 80 = .ok (.iconst 1, 1) := by decide +kernel
theorem dL_isMove_81 : decode cL_isMove 81 = .ok (.goto 4, 3) := by decide +kernel
theorem dL_isMove_84 : decode cL_isMove 84 = .ok (.iconst 0, 1) := by decide +kernel
theorem dL_isMove_85 : decode cL_isMove 85 = .ok (.iadd, 1) := by decide +kernel
theorem dL_isMove_86 : decode cL_isMove 86 = .ok (.istore 7, 2) := by decide +kernel
theorem dL_isMove_88 : decode cL_isMove 88 = .ok (.iload 8, 2) := by decide +kernel
theorem dL_isMove_90 : decode cL_isMove 90 = .ok (.iload 10, 2) := by decide +kernel
theorem dL_isMove_92 : decode cL_isMove 92 = .ok (.bipush 10, 2) := by decide +kernel
theorem dL_isMove_94 : decode cL_isMove 94 = .ok (.idiv, 1) := by decide +kernel
theorem dL_isMove_95 : decode cL_isMove 95 = .ok (.bipush 10, 2) := by decide +kernel
theorem dL_isMove_97 : decode cL_isMove 97 = .ok (.irem, 1) := by decide +kernel
theorem dL_isMove_98 : decode cL_isMove 98 = .ok (.iload 6, 2) := by decide +kernel
theorem dL_isMove_100 : decode cL_isMove 100 = .ok (.if_icmp .ne 22, 3) := by decide +kernel
theorem dL_isMove_103 : decode cL_isMove 103 = .ok (.iload 10, 2) := by decide +kernel
theorem dL_isMove_105 : decode cL_isMove 105 = .ok (.sipush 10000, 3) := by decide +kernel
theorem dL_isMove_108 : decode cL_isMove 108 = .ok (.idiv, 1) := by decide +kernel
theorem dL_isMove_109 : decode cL_isMove 109 = .ok (.aload_n 1, 1) := by decide +kernel
theorem dL_isMove_110 : decode cL_isMove 110 = .ok (.iconst 0, 1) := by decide +kernel
theorem dL_isMove_111 : decode cL_isMove 111 = .ok (.iaload, 1) := by decide +kernel
theorem dL_isMove_112 : decode cL_isMove 112 = .ok (.bipush 24, 2) := by decide +kernel
theorem dL_isMove_114 : decode cL_isMove 114 = .ok (.isub, 1) := by decide +kernel
theorem dL_isMove_115 : decode cL_isMove 115 = .ok (.if_icmp .le 7, 3) := by decide +kernel
theorem dL_isMove_118 : decode cL_isMove 118 = .ok (.iconst 1, 1) := by decide +kernel
theorem dL_isMove_119 : decode cL_isMove 119 = .ok (.goto 4, 3) := by decide +kernel
theorem dL_isMove_122 : decode cL_isMove 122 = .ok (.iconst 0, 1) := by decide +kernel
theorem dL_isMove_123 : decode cL_isMove 123 = .ok (.iadd, 1) := by decide +kernel
theorem dL_isMove_124 : decode cL_isMove 124 = .ok (.istore 8, 2) := by decide +kernel
theorem dL_isMove_126 : decode cL_isMove 126 = .ok (.iinc 9 1, 3) := by decide +kernel
theorem dL_isMove_129 : decode cL_isMove 129 = .ok (.goto (-93), 3) := by decide +kernel
theorem dL_isMove_132 : decode cL_isMove 132 = .ok (.iload 4, 2) := by decide +kernel
theorem dL_isMove_134 : decode cL_isMove 134 = .ok (.bipush 10, 2) := by decide +kernel
theorem dL_isMove_136 : decode cL_isMove 136 = .ok (.irem, 1) := by decide +kernel
theorem dL_isMove_137 : decode cL_isMove 137 = .ok (.iconst 1, 1) := by decide +kernel
theorem dL_isMove_138 : decode cL_isMove 138 = .ok (.if_icmp .ne 7, 3) := by decide +kernel
theorem dL_isMove_141 : decode cL_isMove 141 = .ok (.iconst 1, 1) := by decide +kernel
theorem dL_isMove_142 : decode cL_isMove 142 = .ok (.goto 4, 3) := by decide +kernel
theorem dL_isMove_145 : decode cL_isMove 145 = .ok (.iconst 0, 1) := by decide +kernel
theorem dL_isMove_146 : decode cL_isMove 146 = .ok (.istore 9, 2) := by decide +kernel
theorem dL_isMove_148 : decode cL_isMove 148 = .ok (.aload_n 2, 1) := by decide +kernel
theorem dL_isMove_149 : decode cL_isMove 149 = .ok (.bipush 50, 2) := by decide +kernel
theorem dL_isMove_151 : decode cL_isMove 151 = .ok (.iload 5, 2) := by decide +kernel
theorem dL_isMove_153 : decode cL_isMove 153 = .ok (.iadd, 1) := by decide +kernel
theorem dL_isMove_154 : decode cL_isMove 154 = .ok (.iaload, 1) := by decide +kernel
theorem dL_isMove_155 : decode cL_isMove 155 = .ok (.ifCond .le 79, 3) := by decide +kernel
theorem dL_isMove_158 : decode cL_isMove 158 = .ok (.aload_n 2, 1) := by decide +kernel
theorem dL_isMove_159 : decode cL_isMove 159 = .ok (.bipush 50, 2) := by decide +kernel
theorem dL_isMove_161 : decode cL_isMove 161 = .ok (.iload 5, 2) := by decide +kernel
theorem dL_isMove_163 : decode cL_isMove 163 = .ok (.iadd, 1) := by decide +kernel
theorem dL_isMove_164 : decode cL_isMove 164 = .ok (.iaload, 1) := by decide +kernel
theorem dL_isMove_165 : decode cL_isMove 165 = .ok (.aload_n 1, 1) := by decide +kernel
theorem dL_isMove_166 : decode cL_isMove 166 = .ok (.iconst 0, 1) := by decide +kernel
theorem dL_isMove_167 : decode cL_isMove 167 = .ok (.iaload, 1) := by decide +kernel
theorem dL_isMove_168 : decode cL_isMove 168 = .ok (.if_icmp .gt 66, 3) := by decide +kernel
theorem dL_isMove_171 : decode cL_isMove 171 = .ok (.aload_n 0, 1) := by decide +kernel
theorem dL_isMove_172 : decode cL_isMove 172 = .ok (.iload 5, 2) := by decide +kernel
theorem dL_isMove_174 : decode cL_isMove 174 = .ok (.invokevirtual 80, 3) := by decide +kernel
theorem dL_isMove_177 : decode cL_isMove 177 = .ok (.iload 9, 2) := by decide +kernel
theorem dL_isMove_179 : decode cL_isMove 179 = .ok (.ifCond .eq 7, 3) := by decide +kernel
theorem dL_isMove_182 : decode cL_isMove 182 = .ok (.iconst 3, 1) := by decide +kernel
theorem dL_isMove_183 : decode cL_isMove 183 = .ok (.goto 4, 3) := by decide +kernel
theorem dL_isMove_186 : decode cL_isMove 186 = .ok (.iconst 1, 1) := by decide +kernel
theorem dL_isMove_187 : decode cL_isMove 187 = .ok (.if_icmp .ne 47, 3) := by decide +kernel
theorem dL_isMove_190 : decode cL_isMove 190 = .ok (.iload 9, 2) := by decide +kernel
theorem dL_isMove_192 : decode cL_isMove 192 = .ok (.ifCond .eq 28, 3) := by decide +kernel
theorem dL_isMove_195 : decode cL_isMove 195 = .ok (.aload_n 2, 1) := by decide +kernel
theorem dL_isMove_196 : decode cL_isMove 196 = .ok (.bipush 40, 2) := by decide +kernel
theorem dL_isMove_198 : decode cL_isMove 198 = .ok (.iload 5, 2) := by decide +kernel
theorem dL_isMove_200 : decode cL_isMove 200 = .ok (.iadd, 1) := by decide +kernel
theorem dL_isMove_201 : decode cL_isMove 201 = .ok (.iaload, 1) := by decide +kernel
theorem dL_isMove_202 : decode cL_isMove 202 = .ok (.iconst 2, 1) := by decide +kernel
theorem dL_isMove_203 : decode cL_isMove 203 = .ok (.if_icmp .eq 27, 3) := by decide +kernel
theorem dL_isMove_206 : decode cL_isMove 206 = .ok (.aload_n 2, 1) := by decide +kernel
theorem dL_isMove_207 : decode cL_isMove 207 = .ok (.bipush 40, 2) := by decide +kernel
theorem dL_isMove_209 : decode cL_isMove 209 = .ok (.iload 5, 2) := by decide +kernel
theorem dL_isMove_211 : decode cL_isMove 211 = .ok (.iadd, 1) := by decide +kernel
theorem dL_isMove_212 : decode cL_isMove 212 = .ok (.iaload, 1) := by decide +kernel
theorem dL_isMove_213 : decode cL_isMove 213 = .ok (.iconst 1, 1) := by decide +kernel
theorem dL_isMove_214 : decode cL_isMove 214 = .ok (.if_icmp .ne 20, 3) := by decide +kernel
theorem dL_isMove_217 : decode cL_isMove 217 = .ok (.goto 13, 3) := by decide +kernel
theorem dL_isMove_220 : decode cL_isMove 220 = .ok (.aload_n 2, 1) := by decide +kernel
theorem dL_isMove_221 : decode cL_isMove 221 = .ok (.bipush 40, 2) := by decide +kernel
theorem dL_isMove_223 : decode cL_isMove 223 = .ok (.iload 5, 2) := by decide +kernel
theorem dL_isMove_225 : decode cL_isMove 225 = .ok (.iadd, 1) := by decide +kernel
theorem dL_isMove_226 : decode cL_isMove 226 = .ok (.iaload, 1) := by decide +kernel
theorem dL_isMove_227 : decode cL_isMove 227 = .ok (.ifCond .ne 7, 3) := by decide +kernel
theorem dL_isMove_230 : decode cL_isMove 230 = .ok (.iconst 1, 1) := by decide +kernel
theorem dL_isMove_231 : decode cL_isMove 231 = .ok (.goto 4, 3) := by decide +kernel
theorem dL_isMove_234 : decode cL_isMove 234 = .ok (.iconst 0, 1) := by decide +kernel
theorem dL_isMove_235 : decode cL_isMove 235 = .ok (.istore 10, 2) := by decide +kernel
theorem dL_isMove_237 : decode cL_isMove 237 = .ok (.iload 10, 2) := by decide +kernel
theorem dL_isMove_239 : decode cL_isMove 239 = .ok (.ifCond .eq 47, 3) := by decide +kernel
theorem dL_isMove_242 : decode cL_isMove 242 = .ok (.iload 4, 2) := by decide +kernel
theorem dL_isMove_244 : decode cL_isMove 244 = .ok (.sipush 10000, 3) := by decide +kernel
theorem dL_isMove_247 : decode cL_isMove 247 = .ok (.idiv, 1) := by decide +kernel
theorem dL_isMove_248 : decode cL_isMove 248 = .ok (.aload_n 1, 1) := by decide +kernel
theorem dL_isMove_249 : decode cL_isMove 249 = .ok (.iconst 0, 1) := by decide +kernel
theorem dL_isMove_250 : decode cL_isMove 250 = .ok (.iaload, 1) := by decide +kernel
theorem dL_isMove_251 : decode cL_isMove 251 = .ok (.if_icmp .ne 35, 3) := by decide +kernel
theorem dL_isMove_254 : decode cL_isMove 254 = .ok (.iload 7, 2) := by decide +kernel
theorem dL_isMove_256 : decode cL_isMove 256 = .ok (.ifCond .ne 30, 3) := by decide +kernel
theorem dL_isMove_259 : decode cL_isMove 259 = .ok (.iload 8, 2) := by decide +kernel
theorem dL_isMove_261 : decode cL_isMove 261 = .ok (.iconst 3, 1) := by decide +kernel
theorem dL_isMove_262 : decode cL_isMove 262 = .ok (.if_icmp .ge 24, 3) := by decide +kernel
theorem dL_isMove_265 : decode cL_isMove 265 = .ok (.aload_n 0, 1) := by decide +kernel
theorem dL_isMove_266 : decode cL_isMove 266 = .ok (.iload 6, 2) := by decide +kernel
theorem dL_isMove_268 : decode cL_isMove 268 = .ok (.invokevirtual 108, 3) := by decide +kernel
theorem dL_isMove_271 : decode cL_isMove 271 = .ok (.ifCond .ne 15, 3) := by decide +kernel
theorem dL_isMove_274 : decode cL_isMove 274 = .ok (.aload_n 0, 1) := by decide +kernel
theorem dL_isMove_275 : decode cL_isMove 275 = .ok (.iload_n 3, 1) := by decide +kernel
theorem dL_isMove_276 : decode cL_isMove 276 = .ok (.invokevirtual 112, 3) := by decide +kernel
theorem dL_isMove_279 : decode cL_isMove 279 = .ok (.ifCond .eq 7, 3) := by decide +kernel
theorem dL_isMove_282 : decode cL_isMove 282 = .ok (.iconst 1, 1) := by decide +kernel
theorem dL_isMove_283 : decode cL_isMove 283 = .ok (.goto 4, 3) := by decide +kernel
theorem dL_isMove_286 : decode cL_isMove 286 = .ok (.iconst 0, 1) := by decide +kernel
theorem dL_isMove_287 : decode cL_isMove 287 = .ok (.ireturn, 1) := by decide +kernel
theorem dL_isMoney_0 : decode cL_isMoney 0 = .ok (.aload_n 0, 1) := by decide +kernel
theorem dL_isMoney_1 : decode cL_isMoney 1 = .ok (.invokevirtual 115, 3) := by decide +kernel
theorem dL_isMoney_4 : decode cL_isMoney 4 = .ok (.aload_n 0, 1) := by decide +kernel
theorem dL_isMoney_5 : decode cL_isMoney 5 = .ok (.invokevirtual 118, 3) := by decide +kernel
theorem dL_isMoney_8 : decode cL_isMoney 8 = .ok (.iadd, 1) := by decide +kernel
theorem dL_isMoney_9 : decode cL_isMoney 9 = .ok (.istore_n 2, 1) := by decide +kernel
theorem dL_isMoney_10 : decode cL_isMoney 10 = .ok (.iconst 0, 1) := by decide +kernel
theorem dL_isMoney_11 : decode cL_isMoney 11 = .ok (.istore_n 3, 1) := by decide +kernel
theorem dL_isMoney_12 : decode cL_isMoney 12 = .ok (.iload_n 3, 1) := by decide +kernel
theorem dL_isMoney_13 : decode cL_isMoney 13 = .ok (.bipush 6, 2) := by decide +kernel
theorem dL_isMoney_15 : decode cL_isMoney 15 = .ok (.if_icmp .ge 17, 3) := by decide +kernel
theorem dL_isMoney_18 : decode cL_isMoney 18 = .ok (.iload_n 2, 1) := by decide +kernel
theorem dL_isMoney_19 : decode cL_isMoney 19 = .ok (.aload_n 0, 1) := by decide +kernel
theorem dL_isMoney_20 : decode cL_isMoney 20 = .ok (.iload_n 3, 1) := by decide +kernel
theorem dL_isMoney_21 : decode cL_isMoney 21 = .ok (.invokevirtual 121, 3) := by decide +kernel
theorem dL_isMoney_24 : decode cL_isMoney 24 = .ok (.iadd, 1) := by decide +kernel
theorem dL_isMoney_25 : decode cL_isMoney 25 = .ok (.istore_n 2, 1) := by decide +kernel
theorem dL_isMoney_26 : decode cL_isMoney 26 = .ok (.iinc 3 1, 3) := by decide +kernel
theorem dL_isMoney_29 : decode cL_isMoney 29 = .ok (.goto (-17), 3) := by decide +kernel
theorem dL_isMoney_32 : decode cL_isMoney 32 = .ok (.iconst 0, 1) := by decide +kernel
theorem dL_isMoney_33 : decode cL_isMoney 33 = .ok (.istore_n 3, 1) := by decide +kernel
theorem dL_isMoney_34 : decode cL_isMoney 34 = .ok (.iload_n 3, 1) := by decide +kernel
theorem dL_isMoney_35 : decode cL_isMoney 35 = .ok (.aload_n 1, 1) := by decide +kernel
theorem dL_isMoney_36 : decode cL_isMoney 36 = .ok (.iconst 1, 1) := by decide +kernel
theorem dL_isMoney_37 : decode cL_isMoney 37 = .ok (.iaload, 1) := by decide +kernel
theorem dL_isMoney_38 : decode cL_isMoney 38 = .ok (.if_icmp .ge 17, 3) := by decide +kernel
theorem dL_isMoney_41 : decode cL_isMoney 41 = .ok (.iload_n 2, 1) := by decide +kernel
theorem dL_isMoney_42 : decode cL_isMoney 42 = .ok (.aload_n 0, 1) := by decide +kernel
theorem dL_isMoney_43 : decode cL_isMoney 43 = .ok (.iload_n 3, 1) := by decide +kernel
theorem dL_isMoney_44 : decode cL_isMoney 44 = .ok (.invokevirtual 67, 3) := by decide +kernel
theorem dL_isMoney_47 : decode cL_isMoney 47 = .ok (.isub, 1) := by decide +kernel
theorem dL_isMoney_48 : decode cL_isMoney 48 = .ok (.istore_n 2, 1) := by decide +kernel
theorem dL_isMoney_49 : decode cL_isMoney 49 = .ok (.iinc 3 1, 3) := by decide +kernel
theorem dL_isMoney_52 : decode cL_isMoney 52 = .ok (.goto (-18), 3) := by decide +kernel
theorem dL_isMoney_55 : decode cL_isMoney 55 = .ok (.iload_n 2, 1) := by decide +kernel
theorem dL_isMoney_56 : decode cL_isMoney 56 = .ok (.ifCond .ne 7, 3) := by decide +kernel
theorem dL_isMoney_59 : decode cL_isMoney 59 = .ok (.iconst 1, 1) := by decide +kernel
theorem dL_isMoney_60 : decode cL_isMoney 60 = .ok (.goto 4, 3) := by decide +kernel
theorem dL_isMoney_63 : decode cL_isMoney 63 = .ok (.iconst 0, 1) := by decide +kernel
theorem dL_isMoney_64 : decode cL_isMoney 64 = .ok (.ireturn, 1) := by decide +kernel
theorem dL_isPort_0 : decode cL_isPort 0 = .ok (.iconst 1, 1) := by decide +kernel
theorem dL_isPort_1 : decode cL_isPort 1 = .ok (.istore 4, 2) := by decide +kernel
theorem dL_isPort_3 : decode cL_isPort 3 = .ok (.iconst 0, 1) := by decide +kernel
theorem dL_isPort_4 : decode cL_isPort 4 = .ok (.istore 5, 2) := by decide +kernel
theorem dL_isPort_6 : decode cL_isPort 6 = .ok (.iconst 0, 1) := by decide +kernel
theorem dL_isPort_7 : decode cL_isPort 7 = .ok (.istore 6, 2) := by decide +kernel
theorem dL_isPort_9 : decode cL_isPort 9 = .ok (.iload 6, 2) := by decide +kernel
theorem dL_isPort_11 : decode cL_isPort 11 = .ok (.aload_n 1, 1) := by decide +kernel
theorem dL_isPort_12 : decode cL_isPort 12 = .ok (.iconst 1, 1) := by decide +kernel
theorem dL_isPort_13 : decode cL_isPort 13 = .ok (.iaload, 1) := by decide +kernel
theorem dL_isPort_14 : decode cL_isPort 14 = .ok (.if_icmp .ge 131, 3) := by decide +kernel
theorem dL_isPort_17 : decode cL_isPort 17 = .ok (.aload_n 2, 1) := by decide +kernel
theorem dL_isPort_18 : decode cL_isPort 18 = .ok (.bipush 40, 2) := by decide +kernel
theorem dL_isPort_20 : decode cL_isPort 20 = .ok (.iload 6, 2) := by decide +kernel
theorem dL_isPort_22 : decode cL_isPort 22 = .ok (.iadd, 1) := by decide +kernel
theorem dL_isPort_23 : decode cL_isPort 23 = .ok (.iaload, 1) := by decide +kernel
theorem dL_isPort_24 : decode cL_isPort 24 = .ok (.iconst 1, 1) := by decide +kernel
theorem dL_isPort_25 : decode cL_isPort 25 = .ok (.if_icmp .eq 25, 3) := by decide +kernel
theorem dL_isPort_28 : decode cL_isPort 28 = .ok (.aload_n 2, 1) := by decide +kernel
theorem dL_isPort_29 : decode cL_isPort 29 = .ok (.bipush 40, 2) := by decide +kernel
theorem dL_isPort_31 : decode cL_isPort 31 = .ok (.iload 6, 2) := by decide +kernel
theorem dL_isPort_33 : decode cL_isPort 33 = .ok (.iadd, 1) := by decide +kernel
theorem dL_isPort_34 : decode cL_isPort 34 = .ok (.iaload, 1) := by decide +kernel
theorem dL_isPort_35 : decode cL_isPort 35 = .ok (.iconst 2, 1) := by decide +kernel
theorem dL_isPort_36 : decode cL_isPort 36 = .ok (.if_icmp .eq 14, 3) := by decide +kernel
theorem dL_isPort_39 : decode cL_isPort 39 = .ok (.aload_n 2, 1) := by decide +kernel
theorem dL_isPort_40 : decode cL_isPort 40 = .ok (.bipush 40, 2) := by decide +kernel
theorem dL_isPort_42 : decode cL_isPort 42 = .ok (.iload 6, 2) := by decide +kernel
theorem dL_isPort_44 : decode cL_isPort 44 = .ok (.iadd, 1) := by decide +kernel
theorem dL_isPort_45 : decode cL_isPort 45 = .ok (.iaload, 1) := by decide +kernel
theorem dL_isPort_46 : decode cL_isPort 46 = .ok (.iconst 3, 1) := by decide +kernel
theorem dL_isPort_47 : decode cL_isPort 47 = .ok (.if_icmp .ne 7, 3) := by decide +kernel
theorem dL_isPort_50 : decode cL_isPort 50 = .ok (.iconst 1, 1) := by decide +kernel
theorem dL_isPort_51 : decode cL_isPort 51 = .ok (.goto 4, 3) := by decide +kernel
theorem dL_isPort_54 : decode cL_isPort 54 = .ok (.iconst 0, 1) := by decide +kernel
theorem dL_isPort_55 : decode cL_isPort 55 = .ok (.istore 7, 2) := by decide +kernel
theorem dL_isPort_57 : decode cL_isPort 57 = .ok (.iload 4, 2) := by decide +kernel
theorem dL_isPort_59 : decode cL_isPort 59 = .ok (.ifCond .eq 54, 3) := by decide +kernel
theorem dL_isPort_62 : decode cL_isPort 62 = .ok (.iload 7, 2) := by decide +kernel
theorem dL_isPort_64 : decode cL_isPort 64 = .ok (.ifCond .eq 18, 3) := by decide +kernel
theorem dL_isPort_67 : decode cL_isPort 67 = .ok (.iload 5, 2) := by decide +kernel
theorem dL_isPort_69 : decode cL_isPort 69 = .ok (.aload_n 2, 1) := by decide +kernel
theorem dL_isPort_70 : decode cL_isPort 70 = .ok (.bipush 30, 2) := by decide +kernel
theorem dL_isPort_72 : decode cL_isPort 72 = .ok (.iload 6, 2) := by decide +kernel
theorem dL_isPort_74 : decode cL_isPort 74 = .ok (.iadd, 1) := by decide +kernel
theorem dL_isPort_75 : decode cL_isPort 75 = .ok (.iaload, 1) := by decide +kernel
theorem dL_isPort_76 : decode cL_isPort 76 = .ok (.ishr, 1) := by decide +kernel
theorem dL_isPort_77 : decode cL_isPort 77 = .ok (.iconst 1, 1) := by decide +kernel
theorem dL_isPort_78 : decode cL_isPort 78 = .ok (.iand, 1) := by decide +kernel
theorem dL_isPort_79 : decode cL_isPort 79 = .ok (.ifCond .ne 34, 3) := by decide +kernel
theorem dL_isPort_82 : decode cL_isPort 82 = .ok (.aload_n 0, 1) := by decide +kernel
theorem dL_isPort_83 : decode cL_isPort 83 = .ok (.iload 6, 2) := by decide +kernel
theorem dL_isPort_85 : decode cL_isPort 85 = .ok (.iload_n 3, 1) := by decide +kernel
theorem dL_isPort_86 : decode cL_isPort 86 = .ok (.sipush 3000, 3) := by decide +kernel
theorem dL_isPort_89 : decode cL_isPort 89 = .ok (.irem, 1) := by decide +kernel
theorem dL_isPort_90 : decode cL_isPort 90 = .ok (.invokevirtual 124, 3) := by decide +kernel
theorem dL_isPort_93 : decode cL_isPort 93 = .ok (.aload_n 0, 1) := by decide +kernel
theorem dL_isPort_94 : decode cL_isPort 94 = .ok (.aload_n 1, 1) := by decide +kernel
theorem dL_isPort_95 : decode cL_isPort 95 = .ok (.aload_n 2, 1) := by decide +kernel
theorem dL_isPort_96 : decode cL_isPort 96 = .ok (.iload 6, 2) := by decide +kernel
theorem dL_isPort_98 : decode cL_isPort 98 = .ok (.iload_n 3, 1) := by decide +kernel
theorem dL_isPort_99 : decode cL_isPort 99 = .ok (.sipush 3000, 3) := by decide +kernel
theorem dL_isPort_102 : decode cL_isPort 102 = .ok (.irem, 1) := by decide +kernel
theorem dL_isPort_103 : decode cL_isPort 103 = .ok (.invokestatic 128, 3) := by decide +kernel
theorem dL_isPort_106 : decode cL_isPort 106 = .ok (.if_icmp .ne 7, 3) := by decide +kernel
theorem dL_isPort_109 : decode cL_isPort 109 = .ok (.iconst 1, 1) := by decide +kernel
theorem dL_isPort_110 : decode cL_isPort 110 = .ok (.goto 4, 3) := by decide +kernel
theorem dL_isPort_113 : decode cL_isPort 113 = .ok (.iconst 0, 1) := by decide +kernel
theorem dL_isPort_114 : decode cL_isPort 114 = .ok (.istore 4, 2) := by decide +kernel
theorem dL_isPort_116 : decode cL_isPort 116 = .ok (.iload 5, 2) := by decide +kernel
theorem dL_isPort_118 : decode cL_isPort 118 = .ok (.iload 7, 2) := by decide +kernel
theorem dL_isPort_120 : decode cL_isPort 120 = .ok (.ifCond .eq 15, 3) := by decide +kernel
theorem dL_isPort_123 : decode cL_isPort 123 = .ok (.iconst 1, 1) := by decide +kernel
theorem dL_isPort_124 : decode cL_isPort 124 = .ok (.aload_n 2, 1) := by decide +kernel
theorem dL_isPort_125 : decode cL_isPort 125 = .ok (.bipush 30, 2) := by decide +kernel
theorem dL_isPort_127 : decode cL_isPort 127 = .ok (.iload 6, 2) := by decide +kernel
theorem dL_isPort_129 : decode cL_isPort 129 = .ok (.iadd, 1) := by decide +kernel
theorem dL_isPort_130 : decode cL_isPort 130 = .ok (.iaload, 1) := by decide +kernel
theorem dL_isPort_131 : decode cL_isPort 131 = .ok (.ishl, 1) := by decide +kernel
theorem dL_isPort_132 : decode cL_isPort 132 = .ok (.goto 4, 3) := by decide +kernel
theorem dL_isPort_135 : decode cL_isPort 135 = .ok (.iconst 0, 1) := by decide +kernel
theorem dL_isPort_136 : decode cL_isPort 136 = .ok (.ior, 1) := by decide +kernel
theorem dL_isPort_137 : decode cL_isPort 137 = .ok (.istore 5, 2) := by decide +kernel
theorem dL_isPort_139 : decode cL_isPort 139 = .ok (.iinc 6 1, 3) := by decide +kernel
theorem dL_isPort_142 : decode cL_isPort 142 = .ok (.goto (-133), 3) := by decide +kernel
theorem dL_isPort_145 : decode cL_isPort 145 = .ok (.iconst 0, 1) := by decide +kernel
theorem dL_isPort_146 : decode cL_isPort 146 = .ok (.istore 6, 2) := by decide +kernel
theorem dL_isPort_148 : decode cL_isPort 148 = .ok (.iload 6, 2) := by decide +kernel
theorem dL_isPort_150 : decode cL_isPort 150 = .ok (.bipush 6, 2) := by decide +kernel
theorem dL_isPort_152 : decode cL_isPort 152 = .ok (.if_icmp .ge 47, 3) := by decide +kernel
theorem dL_isPort_155 : decode cL_isPort 155 = .ok (.iload 4, 2) := by decide +kernel
theorem dL_isPort_157 : decode cL_isPort 157 = .ok (.ifCond .eq 33, 3) := by decide +kernel
theorem dL_isPort_160 : decode cL_isPort 160 = .ok (.aload_n 0, 1) := by decide +kernel
theorem dL_isPort_161 : decode cL_isPort 161 = .ok (.invokevirtual 64, 3) := by decide +kernel
theorem dL_isPort_164 : decode cL_isPort 164 = .ok (.iload 6, 2) := by decide +kernel
theorem dL_isPort_166 : decode cL_isPort 166 = .ok (.ishr, 1) := by decide +kernel
theorem dL_isPort_167 : decode cL_isPort 167 = .ok (.iconst 1, 1) := by decide +kernel
theorem dL_isPort_168 : decode cL_isPort 168 = .ok (.iand, 1) := by decide +kernel
theorem dL_isPort_169 : decode cL_isPort 169 = .ok (.ifCond .eq 17, 3) := by decide +kernel
theorem dL_isPort_172 : decode cL_isPort 172 = .ok (.aload_n 1, 1) := by decide +kernel
theorem dL_isPort_173 : decode cL_isPort 173 = .ok (.iconst 0, 1) := by decide +kernel
theorem dL_isPort_174 : decode cL_isPort 174 = .ok (.iaload, 1) := by decide +kernel
theorem dL_isPort_175 : decode cL_isPort 175 = .ok (.bipush 8, 2) := by decide +kernel
theorem dL_isPort_177 : decode cL_isPort 177 = .ok (.idiv, 1) := by decide +kernel
theorem dL_isPort_178 : decode cL_isPort 178 = .ok (.iload 6, 2) := by decide +kernel
theorem dL_isPort_180 : decode cL_isPort 180 = .ok (.iadd, 1) := by decide +kernel
theorem dL_isPort_181 : decode cL_isPort 181 = .ok (.iconst 3, 1) := by decide +kernel
theorem dL_isPort_182 : decode cL_isPort 182 = .ok (.irem, 1) := by decide +kernel
theorem dL_isPort_183 : decode cL_isPort 183 = .ok (.ifCond .le 7, 3) := by decide +kernel
theorem dL_isPort_186 : decode cL_isPort 186 = .ok (.iconst 1, 1) := by decide +kernel
theorem dL_isPort_187 : decode cL_isPort 187 = .ok (.goto 4, 3) := by decide +kernel
theorem dL_isPort_190 : decode cL_isPort 190 = .ok (.iconst 0, 1) := by decide +kernel
theorem dL_isPort_191 : decode cL_isPort 191 = .ok (.istore 4, 2) := by decide +kernel
theorem dL_isPort_193 : decode cL_isPort 193 = .ok (.iinc 6 1, 3) := by decide +kernel
theorem dL_isPort_196 : decode cL_isPort 196 = .ok (.goto (-48), 3) := by decide +kernel
theorem dL_isPort_199 : decode cL_isPort 199 = .ok (.iload 4, 2) := by decide +kernel
theorem dL_isPort_201 : decode cL_isPort 201 = .ok (.ifCond .eq 15, 3) := by decide +kernel
theorem dL_isPort_204 : decode cL_isPort 204 = .ok (.aload_n 0, 1) := by decide +kernel
theorem dL_isPort_205 : decode cL_isPort 205 = .ok (.aload_n 1, 1) := by decide +kernel
theorem dL_isPort_206 : decode cL_isPort 206 = .ok (.invokestatic 101, 3) := by decide +kernel
theorem dL_isPort_209 : decode cL_isPort 209 = .ok (.ifCond .eq 7, 3) := by decide +kernel
theorem dL_isPort_212 : decode cL_isPort 212 = .ok (.iconst 1, 1) := by decide +kernel
theorem dL_isPort_213 : decode cL_isPort 213 = .ok (.goto 4, 3) := by decide +kernel
theorem dL_isPort_216 : decode cL_isPort 216 = .ok (.iconst 0, 1) := by decide +kernel
theorem dL_isPort_217 : decode cL_isPort 217 = .ok (.ireturn, 1) := by decide +kernel
theorem dL_law_0 : decode cL_law 0 = .ok (.new 24, 3) := by decide +kernel
theorem dL_law_3 : decode cL_law 3 = .ok (.dup, 1) := by decide +kernel
theorem dL_law_4 : decode cL_law 4 = .ok (.invokespecial 130, 3) := by decide +kernel
theorem dL_law_7 : decode cL_law 7 = .ok (.astore_n 1, 1) := by decide +kernel
theorem dL_law_8 : decode cL_law 8 = .ok (.bipush 14, 2) := by decide +kernel
theorem dL_law_10 : decode cL_law 10 = .ok (.newarray .int, 2) := by decide +kernel
theorem dL_law_12 : decode cL_law 12 = .ok (.astore_n 2, 1) := by decide +kernel
theorem dL_law_13 : decode cL_law 13 = .ok (.bipush 60, 2) := by decide +kernel
theorem dL_law_15 : decode cL_law 15 = .ok (.newarray .int, 2) := by decide +kernel
theorem dL_law_17 : decode cL_law 17 = .ok (.astore_n 3, 1) := by decide +kernel
theorem dL_law_18 : decode cL_law 18 = .ok (.iconst 0, 1) := by decide +kernel
theorem dL_law_19 : decode cL_law 19 = .ok (.istore 4, 2) := by decide +kernel
theorem dL_law_21 : decode cL_law 21 = .ok (.iload 4, 2) := by decide +kernel
theorem dL_law_23 : decode cL_law 23 = .ok (.bipush 6, 2) := by decide +kernel
theorem dL_law_25 : decode cL_law 25 = .ok (.if_icmp .ge 18, 3) := by decide +kernel
theorem dL_law_28 : decode cL_law 28 = .ok (.aload_n 2, 1) := by decide +kernel
theorem dL_law_29 : decode cL_law 29 = .ok (.bipush 8, 2) := by decide +kernel
theorem dL_law_31 : decode cL_law 31 = .ok (.iload 4, 2) := by decide +kernel
theorem dL_law_33 : decode cL_law 33 = .ok (.iadd, 1) := by decide +kernel
theorem dL_law_34 : decode cL_law 34 = .ok (.bipush 60, 2) := by decide +kernel
theorem dL_law_36 : decode cL_law 36 = .ok (.iastore, 1) := by decide +kernel
theorem dL_law_37 : decode cL_law 37 = .ok (.iinc 4 1, 3) := by decide +kernel
theorem dL_law_40 : decode cL_law 40 = .ok (.goto (-19), 3) := by decide +kernel
theorem dL_law_43 : decode cL_law 43 = .ok (.aload_n 1, 1) := by decide +kernel
theorem dL_law_44 : decode cL_law 44 = .ok (.iconst 0, 1) := by decide +kernel
theorem dL_law_45 : decode cL_law 45 = .ok (.invokevirtual 23, 3) := by decide +kernel
theorem dL_law_48 : decode cL_law 48 = .ok (.bipush 50, 2) := by decide +kernel
theorem dL_law_50 : decode cL_law 50 = .ok (.if_icmp .ne 48, 3) := by decide +kernel
theorem dL_law_53 : decode cL_law 53 = .ok (.aload_n 1, 1) := by decide +kernel
theorem dL_law_54 : decode cL_law 54 = .ok (.sipush 3100, 3) := by decide +kernel
theorem dL_law_57 : decode cL_law 57 = .ok (.invokevirtual 23, 3) := by decide +kernel
theorem dL_law_60 : decode cL_law 60 = .ok (.bipush 50, 2) := by decide +kernel
theorem dL_law_62 : decode cL_law 62 = .ok (.if_icmp .ne 36, 3) := by decide +kernel
theorem dL_law_65 : decode cL_law 65 = .ok (.aload_n 1, 1) := by decide +kernel
theorem dL_law_66 : decode cL_law 66 = .ok (.invokevirtual 29, 3) := by decide +kernel
theorem dL_law_69 : decode cL_law 69 = .ok (.ifCond .ne 29, 3) := by decide +kernel
theorem dL_law_72 : decode cL_law 72 = .ok (.aload_n 1, 1) := by decide +kernel
theorem dL_law_73 : decode cL_law 73 = .ok (.invokevirtual 118, 3) := by decide +kernel
theorem dL_law_76 : decode cL_law 76 = .ok (.ifCond .ne 22, 3) := by decide +kernel
theorem dL_law_79 : decode cL_law 79 = .ok (.aload_n 1, 1) := by decide +kernel
theorem dL_law_80 : decode cL_law 80 = .ok (.iconst 5, 1) := by decide +kernel
theorem dL_law_81 : decode cL_law 81 = .ok (.invokevirtual 108, 3) := by decide +kernel
theorem dL_law_84 : decode cL_law 84 = .ok (.ifCond .eq 14, 3) := by decide +kernel
theorem dL_law_87 : decode cL_law 87 = .ok (.aload_n 1, 1) := by decide +kernel
theorem dL_law_88 : decode cL_law 88 = .ok (.invokestatic 57, 3) := by decide +kernel
theorem dL_law_91 : decode cL_law 91 = .ok (.ifCond .eq 7, 3) := by decide +kernel
theorem dL_law_94 : decode cL_law 94 = .ok (.iconst 1, 1) := by decide +kernel
theorem dL_law_95 : decode cL_law 95 = .ok (.goto 4, 3) := by decide +kernel
theorem dL_law_98 : decode cL_law 98 = .ok (.iconst 0, 1) := by decide +kernel
theorem dL_law_99 : decode cL_law 99 = .ok (.istore 4, 2) := by decide +kernel
theorem dL_law_101 : decode cL_law 101 = .ok (.aload_n 0, 1) := by decide +kernel
theorem dL_law_102 : decode cL_law 102 = .ok (.arraylength, 1) := by decide +kernel
theorem dL_law_103 : decode cL_law 103 = .ok (.iconst 3, 1) := by decide +kernel
theorem dL_law_104 : decode cL_law 104 = .ok (.idiv, 1) := by decide +kernel
theorem dL_law_105 : decode cL_law 105 = .ok (.bipush 90, 2) := by decide +kernel
theorem dL_law_107 : decode cL_law 107 = .ok (.if_icmp .le 8, 3) := by decide +kernel
theorem dL_law_110 : decode cL_law 110 = .ok (.bipush 90, 2) := by decide +kernel
theorem dL_law_112 : decode cL_law 112 = .ok (.goto 7, 3) := by decide +kernel
theorem dL_law_115 : decode cL_law 115 = .ok (.aload_n 0, 1) := by decide +kernel
theorem dL_law_116 : decode cL_law 116 = .ok (.arraylength, 1) := by decide +kernel
theorem dL_law_117 : decode cL_law 117 = .ok (.iconst 3, 1) := by decide +kernel
theorem dL_law_118 : decode cL_law 118 = .ok (.idiv, 1) := by decide +kernel
theorem dL_law_119 : decode cL_law 119 = .ok (.istore 5, 2) := by decide +kernel
theorem dL_law_121 : decode cL_law 121 = .ok (.iconst 0, 1) := by decide +kernel
theorem dL_law_122 : decode cL_law 122 = .ok (.istore 6, 2) := by decide +kernel
theorem dL_law_124 : decode cL_law 124 = .ok (.iload 6, 2) := by decide +kernel
theorem dL_law_126 : decode cL_law 126 = .ok (.iload 5, 2) := by decide +kernel
theorem dL_law_128 : decode cL_law 128 = .ok (.if_icmp .ge 83, 3) := by decide +kernel
theorem dL_law_131 : decode cL_law 131 = .ok (.iload 4, 2) := by decide +kernel
theorem dL_law_133 : decode cL_law 133 = .ok (.ifCond .eq 78, 3) := by decide +kernel
theorem dL_law_136 : decode cL_law 136 = .ok (.aload_n 0, 1) := by decide +kernel
theorem dL_law_137 : decode cL_law 137 = .ok (.iconst 3, 1) := by decide +kernel
theorem dL_law_138 : decode cL_law 138 = .ok (.iload 6, 2) := by decide +kernel
theorem dL_law_140 : decode cL_law 140 = .ok (.imul, 1) := by decide +kernel
theorem dL_law_141 : decode cL_law 141 = .ok (.iconst 1, 1) := by decide +kernel
theorem dL_law_142 : decode cL_law 142 = .ok (.iadd, 1) := by decide +kernel
theorem dL_law_143 : decode cL_law 143 = .ok (.invokestatic 131, 3) := by decide +kernel
theorem dL_law_146 : decode cL_law 146 = .ok (.istore 7, 2) := by decide +kernel
theorem dL_law_148 : decode cL_law 148 = .ok (.aload_n 1, 1) := by decide +kernel
theorem dL_law_149 : decode cL_law 149 = .ok (.aload_n 2, 1) := by decide +kernel
theorem dL_law_150 : decode cL_law 150 = .ok (.aload_n 3, 1) := by decide +kernel
theorem dL_law_151 : decode cL_law 151 = .ok (.aload_n 0, 1) := by decide +kernel
theorem dL_law_152 : decode cL_law 152 = .ok (.iconst 3, 1) := by decide +kernel
theorem dL_law_153 : decode cL_law 153 = .ok (.iload 6, 2) := by decide +kernel
theorem dL_law_155 : decode cL_law 155 = .ok (.imul, 1) := by decide +kernel
theorem dL_law_156 : decode cL_law 156 = .ok (.invokestatic 131, 3) := by decide +kernel
theorem dL_law_159 : decode cL_law 159 = .ok (.iload 7, 2) := by decide +kernel
theorem dL_law_161 : decode cL_law 161 = .ok (.aload_n 0, 1) := by decide +kernel
theorem dL_law_162 : decode cL_law 162 = .ok (.iconst 3, 1) := by decide +kernel
theorem dL_law_163 : decode cL_law 163 = .ok (.iload 6, 2) := by decide +kernel
theorem dL_law_165 : decode cL_law 165 = .ok (.imul, 1) := by decide +kernel
theorem dL_law_166 : decode cL_law 166 = .ok (.iconst 2, 1) := by decide +kernel
theorem dL_law_167 : decode cL_law 167 = .ok (.iadd, 1) := by decide +kernel
theorem dL_law_168 : decode cL_law 168 = .ok (.invokestatic 131, 3) := by decide +kernel
theorem dL_law_171 : decode cL_law 171 = .ok (.invokestatic 135, 3) := by decide +kernel
theorem dL_law_174 : decode cL_law 174 = .ok (.ifCond .eq 28, 3) := by decide +kernel
theorem dL_law_177 : decode cL_law 177 = .ok (.iload 6, 2) := by decide +kernel
theorem dL_law_179 : decode cL_law 179 = .ok (.iconst 3, 1) := by decide +kernel
theorem dL_law_180 : decode cL_law 180 = .ok (.irem, 1) := by decide +kernel
theorem dL_law_181 : decode cL_law 181 = .ok (.ifCond .gt 17, 3) := by decide +kernel
theorem dL_law_184 : decode cL_law 184 = .ok (.aload_n 1, 1) := by decide +kernel
theorem dL_law_185 : decode cL_law 185 = .ok (.aload_n 2, 1) := by decide +kernel
theorem dL_law_186 : decode cL_law 186 = .ok (.aload_n 3, 1) := by decide +kernel
theorem dL_law_187 : decode cL_law 187 = .ok (.iload 7, 2) := by decide +kernel
theorem dL_law_189 : decode cL_law 189 = .ok (.bipush 7, 2) := by decide +kernel
theorem dL_law_191 : decode cL_law 191 = .ok (.idiv, 1) := by decide +kernel
theorem dL_law_192 : decode cL_law 192 = .ok (.invokestatic 139, 3) := by decide +kernel
theorem dL_law_195 : decode cL_law 195 = .ok (.ifCond .eq 7, 3) := by decide +kernel
theorem dL_law_198 : decode cL_law 198 = .ok (.iconst 1, 1) := by decide +kernel
theorem dL_law_199 : decode cL_law 199 = .ok (.goto 4, 3) := by decide +kernel
theorem dL_law_202 : decode cL_law 202 = .ok (.iconst 0, 1) := by decide +kernel
theorem dL_law_203 : decode cL_law 203 = .ok (.istore 4, 2) := by decide +kernel
theorem dL_law_205 : decode cL_law 205 = .ok (.iinc 6 1, 3) := by decide +kernel
theorem dL_law_208 : decode cL_law 208 = .ok (.goto (-84), 3) := by decide +kernel
theorem dL_law_211 : decode cL_law 211 = .ok (.iload 4, 2) := by decide +kernel
theorem dL_law_213 : decode cL_law 213 = .ok (.ifCond .eq 17, 3) := by decide +kernel
theorem dL_law_216 : decode cL_law 216 = .ok (.aload_n 1, 1) := by decide +kernel
theorem dL_law_217 : decode cL_law 217 = .ok (.aload_n 2, 1) := by decide +kernel
theorem dL_law_218 : decode cL_law 218 = .ok (.aload_n 3, 1) := by decide +kernel
theorem dL_law_219 : decode cL_law 219 = .ok (.iconst 0, 1) := by decide +kernel
theorem dL_law_220 : decode cL_law 220 = .ok (.invokestatic 139, 3) := by decide +kernel
theorem dL_law_223 : decode cL_law 223 = .ok (.ifCond .eq 7, 3) := by decide +kernel
theorem dL_law_226 : decode cL_law 226 = .ok (.iconst 1, 1) := by decide +kernel
theorem dL_law_227 : decode cL_law 227 = .ok (.goto 4, 3) := by decide +kernel
theorem dL_law_230 : decode cL_law 230 = .ok (.iconst 0, 1) := by decide +kernel
theorem dL_law_231 : decode cL_law 231 = .ok (.ireturn, 1) := by decide +kernel
end
