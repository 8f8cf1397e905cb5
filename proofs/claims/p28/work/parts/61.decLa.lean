section
theorem dL_step_0 : decode cL_step 0 = .ok (.aload_n 1, 1) := by decide +kernel
theorem dL_step_1 : decode cL_step 1 = .ok (.iconst 1, 1) := by decide +kernel
theorem dL_step_2 : decode cL_step 2 = .ok (.iaload, 1) := by decide +kernel
theorem dL_step_3 : decode cL_step 3 = .ok (.ifCond .ne 7, 3) := by decide +kernel
theorem dL_step_6 : decode cL_step 6 = .ok (.iconst 0, 1) := by decide +kernel
theorem dL_step_7 : decode cL_step 7 = .ok (.goto 9, 3) := by decide +kernel
theorem dL_step_10 : decode cL_step 10 = .ok (.iload 4, 2) := by decide +kernel
theorem dL_step_12 : decode cL_step 12 = .ok (.aload_n 1, 1) := by decide +kernel
theorem dL_step_13 : decode cL_step 13 = .ok (.iconst 1, 1) := by decide +kernel
theorem dL_step_14 : decode cL_step 14 = .ok (.iaload, 1) := by decide +kernel
theorem dL_step_15 : decode cL_step 15 = .ok (.irem, 1) := by decide +kernel
theorem dL_step_16 : decode cL_step 16 = .ok (.istore 6, 2) := by decide +kernel
theorem dL_step_18 : decode cL_step 18 = .ok (.iload_n 3, 1) := by decide +kernel
theorem dL_step_19 : decode cL_step 19 = .ok (.bipush 18, 2) := by decide +kernel
theorem dL_step_21 : decode cL_step 21 = .ok (.irem, 1) := by decide +kernel
theorem dL_step_22 : decode cL_step 22 = .ok (.tableswitch 749 0 13 #[70, 70, 70, 97, 182, 251, 251, 354, 354, 354, 354, 475, 594, 649], 70) := by decide +kernel
theorem dL_step_92 : decode cL_step 92 = .ok (.aload_n 1, 1) := by decide +kernel
theorem dL_step_93 : decode cL_step 93 = .ok (.iconst 1, 1) := by decide +kernel
theorem dL_step_94 : decode cL_step 94 = .ok (.iaload, 1) := by decide +kernel
theorem dL_step_95 : decode cL_step 95 = .ok (.bipush 10, 2) := by decide +kernel
theorem dL_step_97 : decode cL_step 97 = .ok (.if_icmp .eq 16, 3) := by decide +kernel
theorem dL_step_100 : decode cL_step 100 = .ok (.aload_n 0, 1) := by decide +kernel
theorem dL_step_101 : decode cL_step 101 = .ok (.aload_n 1, 1) := by decide +kernel
theorem dL_step_102 : decode cL_step 102 = .ok (.aload_n 2, 1) := by decide +kernel
theorem dL_step_103 : decode cL_step 103 = .ok (.iload 4, 2) := by decide +kernel
theorem dL_step_105 : decode cL_step 105 = .ok (.iload 5, 2) := by decide +kernel
theorem dL_step_107 : decode cL_step 107 = .ok (.invokestatic 10, 3) := by decide +kernel
theorem dL_step_110 : decode cL_step 110 = .ok (.ifCond .eq 7, 3) := by decide +kernel
theorem dL_step_113 : decode cL_step 113 = .ok (.iconst 1, 1) := by decide +kernel
theorem dL_step_114 : decode cL_step 114 = .ok (.goto 4, 3) := by decide +kernel
theorem dL_step_117 : decode cL_step 117 = .ok (.iconst 0, 1) := by decide +kernel
theorem dL_step_118 : decode cL_step 118 = .ok (.ireturn, 1) := by decide +kernel
theorem dL_step_119 : decode cL_step 119 = .ok (.aload_n 1, 1) := by decide +kernel
theorem dL_step_120 : decode cL_step 120 = .ok (.bipush 8, 2) := by decide +kernel
theorem dL_step_122 : decode cL_step 122 = .ok (.iload 4, 2) := by decide +kernel
theorem dL_step_124 : decode cL_step 124 = .ok (.bipush 6, 2) := by decide +kernel
theorem dL_step_126 : decode cL_step 126 = .ok (.irem, 1) := by decide +kernel
theorem dL_step_127 : decode cL_step 127 = .ok (.iadd, 1) := by decide +kernel
theorem dL_step_128 : decode cL_step 128 = .ok (.iaload, 1) := by decide +kernel
theorem dL_step_129 : decode cL_step 129 = .ok (.istore 7, 2) := by decide +kernel
theorem dL_step_131 : decode cL_step 131 = .ok (.aload_n 0, 1) := by decide +kernel
theorem dL_step_132 : decode cL_step 132 = .ok (.iload 4, 2) := by decide +kernel
theorem dL_step_134 : decode cL_step 134 = .ok (.bipush 6, 2) := by decide +kernel
theorem dL_step_136 : decode cL_step 136 = .ok (.irem, 1) := by decide +kernel
theorem dL_step_137 : decode cL_step 137 = .ok (.iload 5, 2) := by decide +kernel
theorem dL_step_139 : decode cL_step 139 = .ok (.bipush 121, 2) := by decide +kernel
theorem dL_step_141 : decode cL_step 141 = .ok (.irem, 1) := by decide +kernel
theorem dL_step_142 : decode cL_step 142 = .ok (.invokestatic 16, 3) := by decide +kernel
theorem dL_step_145 : decode cL_step 145 = .ok (.istore 8, 2) := by decide +kernel
theorem dL_step_147 : decode cL_step 147 = .ok (.aload_n 1, 1) := by decide +kernel
theorem dL_step_148 : decode cL_step 148 = .ok (.bipush 8, 2) := by decide +kernel
theorem dL_step_150 : decode cL_step 150 = .ok (.iload 4, 2) := by decide +kernel
theorem dL_step_152 : decode cL_step 152 = .ok (.bipush 6, 2) := by decide +kernel
theorem dL_step_154 : decode cL_step 154 = .ok (.irem, 1) := by decide +kernel
theorem dL_step_155 : decode cL_step 155 = .ok (.iadd, 1) := by decide +kernel
theorem dL_step_156 : decode cL_step 156 = .ok (.iload 8, 2) := by decide +kernel
theorem dL_step_158 : decode cL_step 158 = .ok (.ifCond .ge 8, 3) := by decide +kernel
theorem dL_step_161 : decode cL_step 161 = .ok (.iload 7, 2) := by decide +kernel
theorem dL_step_163 : decode cL_step 163 = .ok (.goto 8, 3) := by decide +kernel
theorem dL_step_166 : decode cL_step 166 = .ok (.iload 5, 2) := by decide +kernel
theorem dL_step_168 : decode cL_step 168 = .ok (.bipush 121, 2) := by decide +kernel
theorem dL_step_170 : decode cL_step 170 = .ok (.irem, 1) := by decide +kernel
theorem dL_step_171 : decode cL_step 171 = .ok (.iastore, 1) := by decide +kernel
theorem dL_step_172 : decode cL_step 172 = .ok (.iload 8, 2) := by decide +kernel
theorem dL_step_174 : decode cL_step 174 = .ok (.ifCond .ge 17, 3) := by decide +kernel
theorem dL_step_177 : decode cL_step 177 = .ok (.aload_n 1, 1) := by decide +kernel
theorem dL_step_178 : decode cL_step 178 = .ok (.iconst 2, 1) := by decide +kernel
theorem dL_step_179 : decode cL_step 179 = .ok (.iaload, 1) := by decide +kernel
theorem dL_step_180 : decode cL_step 180 = .ok (.ifCond .le 7, 3) := by decide +kernel
theorem dL_step_183 : decode cL_step 183 = .ok (.iconst 1, 1) := by decide +kernel
theorem dL_step_184 : decode cL_step 184 = .ok (.goto 19, 3) := by decide +kernel
theorem dL_step_187 : decode cL_step 187 = .ok (.iconst 0, 1) := by decide +kernel
theorem dL_step_188 : decode cL_step 188 = .ok (.goto 15, 3) := by decide +kernel
theorem dL_step_191 : decode cL_step 191 = .ok (.iload 8, 2) := by decide +kernel
theorem dL_step_193 : decode cL_step 193 = .ok (.iload 7, 2) := by decide +kernel
theorem dL_step_195 : decode cL_step 195 = .ok (.if_icmp .ne 7, 3) := by decide +kernel
theorem dL_step_198 : decode cL_step 198 = .ok (.iconst 1, 1) := by decide +kernel
theorem dL_step_199 : decode cL_step 199 = .ok (.goto 4, 3) := by decide +kernel
theorem dL_step_202 : decode cL_step 202 = .ok (.iconst 0, 1) := by decide +kernel
theorem dL_step_203 : decode cL_step 203 = .ok (.ireturn, 1) := by decide +kernel
theorem dL_step_204 : decode cL_step 204 = .ok (.aload_n 0, 1) := by decide +kernel
theorem dL_step_205 : decode cL_step 205 = .ok (.iload 4, 2) := by decide +kernel
theorem dL_step_207 : decode cL_step 207 = .ok (.bipush 12, 2) := by decide +kernel
theorem dL_step_209 : decode cL_step 209 = .ok (.irem, 1) := by decide +kernel
theorem dL_step_210 : decode cL_step 210 = .ok (.iload 5, 2) := by decide +kernel
theorem dL_step_212 : decode cL_step 212 = .ok (.bipush 101, 2) := by decide +kernel
theorem dL_step_214 : decode cL_step 214 = .ok (.irem, 1) := by decide +kernel
theorem dL_step_215 : decode cL_step 215 = .ok (.invokestatic 20, 3) := by decide +kernel
theorem dL_step_218 : decode cL_step 218 = .ok (.istore 9, 2) := by decide +kernel
theorem dL_step_220 : decode cL_step 220 = .ok (.iload 9, 2) := by decide +kernel
theorem dL_step_222 : decode cL_step 222 = .ok (.ifCond .ge 17, 3) := by decide +kernel
theorem dL_step_225 : decode cL_step 225 = .ok (.aload_n 1, 1) := by decide +kernel
theorem dL_step_226 : decode cL_step 226 = .ok (.iconst 2, 1) := by decide +kernel
theorem dL_step_227 : decode cL_step 227 = .ok (.iaload, 1) := by decide +kernel
theorem dL_step_228 : decode cL_step 228 = .ok (.ifCond .le 7, 3) := by decide +kernel
theorem dL_step_231 : decode cL_step 231 = .ok (.iconst 1, 1) := by decide +kernel
theorem dL_step_232 : decode cL_step 232 = .ok (.goto 40, 3) := by decide +kernel
theorem dL_step_235 : decode cL_step 235 = .ok (.iconst 0, 1) := by decide +kernel
theorem dL_step_236 : decode cL_step 236 = .ok (.goto 36, 3) := by decide +kernel
theorem dL_step_239 : decode cL_step 239 = .ok (.iload 9, 2) := by decide +kernel
theorem dL_step_241 : decode cL_step 241 = .ok (.sipush 150, 3) := by decide +kernel
theorem dL_step_244 : decode cL_step 244 = .ok (.if_icmp .gt 27, 3) := by decide +kernel
theorem dL_step_247 : decode cL_step 247 = .ok (.aload_n 0, 1) := by decide +kernel
theorem dL_step_248 : decode cL_step 248 = .ok (.iload 4, 2) := by decide +kernel
theorem dL_step_250 : decode cL_step 250 = .ok (.bipush 12, 2) := by decide +kernel
theorem dL_step_252 : decode cL_step 252 = .ok (.irem, 1) := by decide +kernel
theorem dL_step_253 : decode cL_step 253 = .ok (.invokevirtual 23, 3) := by decide +kernel
theorem dL_step_256 : decode cL_step 256 = .ok (.iload 5, 2) := by decide +kernel
theorem dL_step_258 : decode cL_step 258 = .ok (.bipush 101, 2) := by decide +kernel
theorem dL_step_260 : decode cL_step 260 = .ok (.irem, 1) := by decide +kernel
theorem dL_step_261 : decode cL_step 261 = .ok (.isub, 1) := by decide +kernel
theorem dL_step_262 : decode cL_step 262 = .ok (.bipush 40, 2) := by decide +kernel
theorem dL_step_264 : decode cL_step 264 = .ok (.if_icmp .gt 7, 3) := by decide +kernel
theorem dL_step_267 : decode cL_step 267 = .ok (.iconst 1, 1) := by decide +kernel
theorem dL_step_268 : decode cL_step 268 = .ok (.goto 4, 3) := by decide +kernel
theorem dL_step_271 : decode cL_step 271 = .ok (.iconst 0, 1) := by decide +kernel
theorem dL_step_272 : decode cL_step 272 = .ok (.ireturn, 1) := by decide +kernel
theorem dL_step_273 : decode cL_step 273 = .ok (.aload_n 1, 1) := by decide +kernel
theorem dL_step_274 : decode cL_step 274 = .ok (.iconst 0, 1) := by decide +kernel
theorem dL_step_275 : decode cL_step 275 = .ok (.iaload, 1) := by decide +kernel
theorem dL_step_276 : decode cL_step 276 = .ok (.iconst 3, 1) := by decide +kernel
theorem dL_step_277 : decode cL_step 277 = .ok (.iadd, 1) := by decide +kernel
theorem dL_step_278 : decode cL_step 278 = .ok (.iload 4, 2) := by decide +kernel
theorem dL_step_280 : decode cL_step 280 = .ok (.bipush 40, 2) := by decide +kernel
theorem dL_step_282 : decode cL_step 282 = .ok (.irem, 1) := by decide +kernel
theorem dL_step_283 : decode cL_step 283 = .ok (.iadd, 1) := by decide +kernel
theorem dL_step_284 : decode cL_step 284 = .ok (.istore 10, 2) := by decide +kernel
theorem dL_step_286 : decode cL_step 286 = .ok (.iload 10, 2) := by decide +kernel
theorem dL_step_288 : decode cL_step 288 = .ok (.sipush 3100, 3) := by decide +kernel
theorem dL_step_291 : decode cL_step 291 = .ok (.if_icmp .le 19, 3) := by decide +kernel
theorem dL_step_294 : decode cL_step 294 = .ok (.aload_n 0, 1) := by decide +kernel
theorem dL_step_295 : decode cL_step 295 = .ok (.invokevirtual 29, 3) := by decide +kernel
theorem dL_step_298 : decode cL_step 298 = .ok (.aload_n 1, 1) := by decide +kernel
theorem dL_step_299 : decode cL_step 299 = .ok (.iconst 2, 1) := by decide +kernel
theorem dL_step_300 : decode cL_step 300 = .ok (.iaload, 1) := by decide +kernel
theorem dL_step_301 : decode cL_step 301 = .ok (.if_icmp .ne 7, 3) := by decide +kernel
theorem dL_step_304 : decode cL_step 304 = .ok (.iconst 1, 1) := by decide +kernel
theorem dL_step_305 : decode cL_step 305 = .ok (.goto 4, 3) := by decide +kernel
theorem dL_step_308 : decode cL_step 308 = .ok (.iconst 0, 1) := by decide +kernel
theorem dL_step_309 : decode cL_step 309 = .ok (.ireturn, 1) := by decide +kernel
theorem dL_step_310 : decode cL_step 310 = .ok (.aload_n 0, 1) := by decide +kernel
theorem dL_step_311 : decode cL_step 311 = .ok (.iload 10, 2) := by decide +kernel
theorem dL_step_313 : decode cL_step 313 = .ok (.invokevirtual 23, 3) := by decide +kernel
theorem dL_step_316 : decode cL_step 316 = .ok (.istore 11, 2) := by decide +kernel
theorem dL_step_318 : decode cL_step 318 = .ok (.aload_n 0, 1) := by decide +kernel
theorem dL_step_319 : decode cL_step 319 = .ok (.iload 10, 2) := by decide +kernel
theorem dL_step_321 : decode cL_step 321 = .ok (.iconst 1, 1) := by decide +kernel
theorem dL_step_322 : decode cL_step 322 = .ok (.iload 5, 2) := by decide +kernel
theorem dL_step_324 : decode cL_step 324 = .ok (.bipush 48, 2) := by decide +kernel
theorem dL_step_326 : decode cL_step 326 = .ok (.irem, 1) := by decide +kernel
theorem dL_step_327 : decode cL_step 327 = .ok (.iadd, 1) := by decide +kernel
theorem dL_step_328 : decode cL_step 328 = .ok (.iload 4, 2) := by decide +kernel
theorem dL_step_330 : decode cL_step 330 = .ok (.bipush 40, 2) := by decide +kernel
theorem dL_step_332 : decode cL_step 332 = .ok (.idiv, 1) := by decide +kernel
theorem dL_step_333 : decode cL_step 333 = .ok (.bipush 81, 2) := by decide +kernel
theorem dL_step_335 : decode cL_step 335 = .ok (.irem, 1) := by decide +kernel
theorem dL_step_336 : decode cL_step 336 = .ok (.bipush 40, 2) := by decide +kernel
theorem dL_step_338 : decode cL_step 338 = .ok (.isub, 1) := by decide +kernel
theorem dL_step_339 : decode cL_step 339 = .ok (.invokevirtual 33, 3) := by decide +kernel
theorem dL_step_342 : decode cL_step 342 = .ok (.istore 12, 2) := by decide +kernel
theorem dL_step_344 : decode cL_step 344 = .ok (.aload_n 0, 1) := by decide +kernel
theorem dL_step_345 : decode cL_step 345 = .ok (.iload 10, 2) := by decide +kernel
theorem dL_step_347 : decode cL_step 347 = .ok (.invokevirtual 23, 3) := by decide +kernel
theorem dL_step_350 : decode cL_step 350 = .ok (.iload 4, 2) := by decide +kernel
theorem dL_step_352 : decode cL_step 352 = .ok (.bipush 40, 2) := by decide +kernel
theorem dL_step_354 : decode cL_step 354 = .ok (.idiv, 1) := by decide +kernel
theorem dL_step_355 : decode cL_step 355 = .ok (.bipush 81, 2) := by decide +kernel
theorem dL_step_357 : decode cL_step 357 = .ok (.irem, 1) := by decide +kernel
theorem dL_step_358 : decode cL_step 358 = .ok (.bipush 40, 2) := by decide +kernel
theorem dL_step_360 : decode cL_step 360 = .ok (.isub, 1) := by decide +kernel
theorem dL_step_361 : decode cL_step 361 = .ok (.isub, 1) := by decide +kernel
theorem dL_step_362 : decode cL_step 362 = .ok (.iload 11, 2) := by decide +kernel
theorem dL_step_364 : decode cL_step 364 = .ok (.iload 12, 2) := by decide +kernel
theorem dL_step_366 : decode cL_step 366 = .ok (.isub, 1) := by decide +kernel
theorem dL_step_367 : decode cL_step 367 = .ok (.if_icmp .ne 7, 3) := by decide +kernel
theorem dL_step_370 : decode cL_step 370 = .ok (.iconst 1, 1) := by decide +kernel
theorem dL_step_371 : decode cL_step 371 = .ok (.goto 4, 3) := by decide +kernel
theorem dL_step_374 : decode cL_step 374 = .ok (.iconst 0, 1) := by decide +kernel
theorem dL_step_375 : decode cL_step 375 = .ok (.ireturn, 1) := by decide +kernel
theorem dL_step_376 : decode cL_step 376 = .ok (.aload_n 1, 1) := by decide +kernel
theorem dL_step_377 : decode cL_step 377 = .ok (.iconst 1, 1) := by decide +kernel
theorem dL_step_378 : decode cL_step 378 = .ok (.iaload, 1) := by decide +kernel
theorem dL_step_379 : decode cL_step 379 = .ok (.ifCond .eq 43, 3) := by decide +kernel
theorem dL_step_382 : decode cL_step 382 = .ok (.aload_n 2, 1) := by decide +kernel
theorem dL_step_383 : decode cL_step 383 = .ok (.bipush 50, 2) := by decide +kernel
theorem dL_step_385 : decode cL_step 385 = .ok (.iload 6, 2) := by decide +kernel
theorem dL_step_387 : decode cL_step 387 = .ok (.iadd, 1) := by decide +kernel
theorem dL_step_388 : decode cL_step 388 = .ok (.iaload, 1) := by decide +kernel
theorem dL_step_389 : decode cL_step 389 = .ok (.ifCond .gt 33, 3) := by decide +kernel
theorem dL_step_392 : decode cL_step 392 = .ok (.aload_n 2, 1) := by decide +kernel
theorem dL_step_393 : decode cL_step 393 = .ok (.bipush 40, 2) := by decide +kernel
theorem dL_step_395 : decode cL_step 395 = .ok (.iload 6, 2) := by decide +kernel
theorem dL_step_397 : decode cL_step 397 = .ok (.iadd, 1) := by decide +kernel
theorem dL_step_398 : decode cL_step 398 = .ok (.iaload, 1) := by decide +kernel
theorem dL_step_399 : decode cL_step 399 = .ok (.ifCond .eq 14, 3) := by decide +kernel
theorem dL_step_402 : decode cL_step 402 = .ok (.aload_n 2, 1) := by decide +kernel
theorem dL_step_403 : decode cL_step 403 = .ok (.bipush 40, 2) := by decide +kernel
theorem dL_step_405 : decode cL_step 405 = .ok (.iload 6, 2) := by decide +kernel
theorem dL_step_407 : decode cL_step 407 = .ok (.iadd, 1) := by decide +kernel
theorem dL_step_408 : decode cL_step 408 = .ok (.iaload, 1) := by decide +kernel
theorem dL_step_409 : decode cL_step 409 = .ok (.iconst 2, 1) := by decide +kernel
theorem dL_step_410 : decode cL_step 410 = .ok (.if_icmp .ne 12, 3) := by decide +kernel
theorem dL_step_413 : decode cL_step 413 = .ok (.aload_n 1, 1) := by decide +kernel
theorem dL_step_414 : decode cL_step 414 = .ok (.iconst 0, 1) := by decide +kernel
theorem dL_step_415 : decode cL_step 415 = .ok (.iaload, 1) := by decide +kernel
theorem dL_step_416 : decode cL_step 416 = .ok (.sipush 2900, 3) := by decide +kernel
theorem dL_step_419 : decode cL_step 419 = .ok (.if_icmp .le 19, 3) := by decide +kernel
theorem dL_step_422 : decode cL_step 422 = .ok (.aload_n 0, 1) := by decide +kernel
theorem dL_step_423 : decode cL_step 423 = .ok (.invokevirtual 29, 3) := by decide +kernel
theorem dL_step_426 : decode cL_step 426 = .ok (.aload_n 1, 1) := by decide +kernel
theorem dL_step_427 : decode cL_step 427 = .ok (.iconst 2, 1) := by decide +kernel
theorem dL_step_428 : decode cL_step 428 = .ok (.iaload, 1) := by decide +kernel
theorem dL_step_429 : decode cL_step 429 = .ok (.if_icmp .ne 7, 3) := by decide +kernel
theorem dL_step_432 : decode cL_step 432 = .ok (.iconst 1, 1) := by decide +kernel
theorem dL_step_433 : decode cL_step 433 = .ok (.goto 4, 3) := by decide +kernel
theorem dL_step_436 : decode cL_step 436 = .ok (.iconst 0, 1) := by decide +kernel
theorem dL_step_437 : decode cL_step 437 = .ok (.ireturn, 1) := by decide +kernel
theorem dL_step_438 : decode cL_step 438 = .ok (.aload_n 2, 1) := by decide +kernel
theorem dL_step_439 : decode cL_step 439 = .ok (.bipush 50, 2) := by decide +kernel
theorem dL_step_441 : decode cL_step 441 = .ok (.iload 6, 2) := by decide +kernel
end
