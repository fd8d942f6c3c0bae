theorem dL_sites_0 : decode cL_sites 0 = .ok (.iconst 0, 1) := by decide +kernel
theorem dL_sites_1 : decode cL_sites 1 = .ok (.istore_n 1, 1) := by decide +kernel
theorem dL_sites_2 : decode cL_sites 2 = .ok (.iconst 0, 1) := by decide +kernel
theorem dL_sites_3 : decode cL_sites 3 = .ok (.istore_n 2, 1) := by decide +kernel
theorem dL_sites_4 : decode cL_sites 4 = .ok (.iconst 0, 1) := by decide +kernel
theorem dL_sites_5 : decode cL_sites 5 = .ok (.istore_n 3, 1) := by decide +kernel
theorem dL_sites_6 : decode cL_sites 6 = .ok (.iconst 0, 1) := by decide +kernel
theorem dL_sites_7 : decode cL_sites 7 = .ok (.istore 4, 2) := by decide +kernel
theorem dL_sites_9 : decode cL_sites 9 = .ok (.iconst 0, 1) := by decide +kernel
theorem dL_sites_10 : decode cL_sites 10 = .ok (.istore 5, 2) := by decide +kernel
theorem dL_sites_12 : decode cL_sites 12 = .ok (.iconst 0, 1) := by decide +kernel
theorem dL_sites_13 : decode cL_sites 13 = .ok (.istore 6, 2) := by decide +kernel
theorem dL_sites_15 : decode cL_sites 15 = .ok (.aload_n 0, 1) := by decide +kernel
theorem dL_sites_16 : decode cL_sites 16 = .ok (.iconst 0, 1) := by decide +kernel
theorem dL_sites_17 : decode cL_sites 17 = .ok (.invokevirtual 13, 3) := by decide +kernel
theorem dL_sites_20 : decode cL_sites 20 = .ok (.istore 7, 2) := by decide +kernel
theorem dL_sites_22 : decode cL_sites 22 = .ok (.iconst 0, 1) := by decide +kernel
theorem dL_sites_23 : decode cL_sites 23 = .ok (.istore 8, 2) := by decide +kernel
theorem dL_sites_25 : decode cL_sites 25 = .ok (.iload 8, 2) := by decide +kernel
theorem dL_sites_27 : decode cL_sites 27 = .ok (.aload_n 0, 1) := by decide +kernel
theorem dL_sites_28 : decode cL_sites 28 = .ok (.bipush 9, 2) := by decide +kernel
theorem dL_sites_30 : decode cL_sites 30 = .ok (.invokevirtual 13, 3) := by decide +kernel
theorem dL_sites_33 : decode cL_sites 33 = .ok (.if_icmp .ge 308, 3) := by decide +kernel
theorem dL_sites_36 : decode cL_sites 36 = .ok (.aload_n 0, 1) := by decide +kernel
theorem dL_sites_37 : decode cL_sites 37 = .ok (.iload 8, 2) := by decide +kernel
theorem dL_sites_39 : decode cL_sites 39 = .ok (.iconst 2, 1) := by decide +kernel
theorem dL_sites_40 : decode cL_sites 40 = .ok (.invokevirtual 23, 3) := by decide +kernel
theorem dL_sites_43 : decode cL_sites 43 = .ok (.iload 7, 2) := by decide +kernel
theorem dL_sites_45 : decode cL_sites 45 = .ok (.if_icmp .gt 19, 3) := by decide +kernel
theorem dL_sites_48 : decode cL_sites 48 = .ok (.iload 7, 2) := by decide +kernel
theorem dL_sites_50 : decode cL_sites 50 = .ok (.aload_n 0, 1) := by decide +kernel
theorem dL_sites_51 : decode cL_sites 51 = .ok (.iload 8, 2) := by decide +kernel
theorem dL_sites_53 : decode cL_sites 53 = .ok (.iconst 3, 1) := by decide +kernel
theorem dL_sites_54 : decode cL_sites 54 = .ok (.invokevirtual 23, 3) := by decide +kernel
theorem dL_sites_57 : decode cL_sites 57 = .ok (.if_icmp .ge 7, 3) := by decide +kernel
theorem dL_sites_60 : decode cL_sites 60 = .ok (.iconst 1, 1) := by decide +kernel
theorem dL_sites_61 : decode cL_sites 61 = .ok (.goto 4, 3) := by decide +kernel
theorem dL_sites_64 : decode cL_sites 64 = .ok (.iconst 0, 1) := by decide +kernel
theorem dL_sites_65 : decode cL_sites 65 = .ok (.istore 9, 2) := by decide +kernel
theorem dL_sites_67 : decode cL_sites 67 = .ok (.aload_n 0, 1) := by decide +kernel
theorem dL_sites_68 : decode cL_sites 68 = .ok (.iload 8, 2) := by decide +kernel
theorem dL_sites_70 : decode cL_sites 70 = .ok (.iconst 4, 1) := by decide +kernel
theorem dL_sites_71 : decode cL_sites 71 = .ok (.invokevirtual 23, 3) := by decide +kernel
theorem dL_sites_74 : decode cL_sites 74 = .ok (.istore 10, 2) := by decide +kernel
theorem dL_sites_76 : decode cL_sites 76 = .ok (.aload_n 0, 1) := by decide +kernel
theorem dL_sites_77 : decode cL_sites 77 = .ok (.iload 8, 2) := by decide +kernel
theorem dL_sites_79 : decode cL_sites 79 = .ok (.invokevirtual 26, 3) := by decide +kernel
theorem dL_sites_82 : decode cL_sites 82 = .ok (.istore 11, 2) := by decide +kernel
theorem dL_sites_84 : decode cL_sites 84 = .ok (.iload_n 1, 1) := by decide +kernel
theorem dL_sites_85 : decode cL_sites 85 = .ok (.iload 9, 2) := by decide +kernel
theorem dL_sites_87 : decode cL_sites 87 = .ok (.ifCond .eq 7, 3) := by decide +kernel
theorem dL_sites_90 : decode cL_sites 90 = .ok (.iconst 1, 1) := by decide +kernel
theorem dL_sites_91 : decode cL_sites 91 = .ok (.goto 4, 3) := by decide +kernel
theorem dL_sites_94 : decode cL_sites 94 = .ok (.iconst 0, 1) := by decide +kernel
theorem dL_sites_95 : decode cL_sites 95 = .ok (.iadd, 1) := by decide +kernel
theorem dL_sites_96 : decode cL_sites 96 = .ok (.istore_n 1, 1) := by decide +kernel
theorem dL_sites_97 : decode cL_sites 97 = .ok (.iload_n 2, 1) := by decide +kernel
theorem dL_sites_98 : decode cL_sites 98 = .ok (.aload_n 0, 1) := by decide +kernel
theorem dL_sites_99 : decode cL_sites 99 = .ok (.iload 8, 2) := by decide +kernel
theorem dL_sites_101 : decode cL_sites 101 = .ok (.iconst 5, 1) := by decide +kernel
theorem dL_sites_102 : decode cL_sites 102 = .ok (.invokevirtual 23, 3) := by decide +kernel
theorem dL_sites_105 : decode cL_sites 105 = .ok (.iadd, 1) := by decide +kernel
theorem dL_sites_106 : decode cL_sites 106 = .ok (.istore_n 2, 1) := by decide +kernel
theorem dL_sites_107 : decode cL_sites 107 = .ok (.iload_n 3, 1) := by decide +kernel
theorem dL_sites_108 : decode cL_sites 108 = .ok (.aload_n 0, 1) := by decide +kernel
theorem dL_sites_109 : decode cL_sites 109 = .ok (.iload 8, 2) := by decide +kernel
theorem dL_sites_111 : decode cL_sites 111 = .ok (.bipush 6, 2) := by decide +kernel
theorem dL_sites_113 : decode cL_sites 113 = .ok (.invokevirtual 23, 3) := by decide +kernel
theorem dL_sites_116 : decode cL_sites 116 = .ok (.iadd, 1) := by decide +kernel
theorem dL_sites_117 : decode cL_sites 117 = .ok (.istore_n 3, 1) := by decide +kernel
theorem dL_sites_118 : decode cL_sites 118 = .ok (.iload 4, 2) := by decide +kernel
theorem dL_sites_120 : decode cL_sites 120 = .ok (.aload_n 0, 1) := by decide +kernel
theorem dL_sites_121 : decode cL_sites 121 = .ok (.iload 8, 2) := by decide +kernel
theorem dL_sites_123 : decode cL_sites 123 = .ok (.bipush 7, 2) := by decide +kernel
theorem dL_sites_125 : decode cL_sites 125 = .ok (.invokevirtual 23, 3) := by decide +kernel
theorem dL_sites_128 : decode cL_sites 128 = .ok (.iadd, 1) := by decide +kernel
theorem dL_sites_129 : decode cL_sites 129 = .ok (.istore 4, 2) := by decide +kernel
theorem dL_sites_131 : decode cL_sites 131 = .ok (.iload 5, 2) := by decide +kernel
theorem dL_sites_133 : decode cL_sites 133 = .ok (.iload 10, 2) := by decide +kernel
theorem dL_sites_135 : decode cL_sites 135 = .ok (.ifCond .lt 7, 3) := by decide +kernel
theorem dL_sites_138 : decode cL_sites 138 = .ok (.iconst 1, 1) := by decide +kernel
theorem dL_sites_139 : decode cL_sites 139 = .ok (.goto 4, 3) := by decide +kernel
theorem dL_sites_142 : decode cL_sites 142 = .ok (.iconst 0, 1) := by decide +kernel
theorem dL_sites_143 : decode cL_sites 143 = .ok (.iadd, 1) := by decide +kernel
theorem dL_sites_144 : decode cL_sites 144 = .ok (.istore 5, 2) := by decide +kernel
theorem dL_sites_146 : decode cL_sites 146 = .ok (.iload 6, 2) := by decide +kernel
theorem dL_sites_148 : decode cL_sites 148 = .ok (.iload 11, 2) := by decide +kernel
theorem dL_sites_150 : decode cL_sites 150 = .ok (.ifCond .ne 7, 3) := by decide +kernel
theorem dL_sites_153 : decode cL_sites 153 = .ok (.iconst 1, 1) := by decide +kernel
theorem dL_sites_154 : decode cL_sites 154 = .ok (.goto 4, 3) := by decide +kernel
theorem dL_sites_157 : decode cL_sites 157 = .ok (.iconst 0, 1) := by decide +kernel
theorem dL_sites_158 : decode cL_sites 158 = .ok (.iadd, 1) := by decide +kernel
theorem dL_sites_159 : decode cL_sites 159 = .ok (.istore 6, 2) := by decide +kernel
theorem dL_sites_161 : decode cL_sites 161 = .ok (.aload_n 0, 1) := by decide +kernel
theorem dL_sites_162 : decode cL_sites 162 = .ok (.iload 8, 2) := by decide +kernel
theorem dL_sites_164 : decode cL_sites 164 = .ok (.bipush 9, 2) := by decide +kernel
theorem dL_sites_166 : decode cL_sites 166 = .ok (.invokevirtual 23, 3) := by decide +kernel
theorem dL_sites_169 : decode cL_sites 169 = .ok (.iload 9, 2) := by decide +kernel
theorem dL_sites_171 : decode cL_sites 171 = .ok (.ifCond .eq 7, 3) := by decide +kernel
theorem dL_sites_174 : decode cL_sites 174 = .ok (.iconst 1, 1) := by decide +kernel
theorem dL_sites_175 : decode cL_sites 175 = .ok (.goto 4, 3) := by decide +kernel
theorem dL_sites_178 : decode cL_sites 178 = .ok (.iconst 0, 1) := by decide +kernel
theorem dL_sites_179 : decode cL_sites 179 = .ok (.if_icmp .ne 86, 3) := by decide +kernel
theorem dL_sites_182 : decode cL_sites 182 = .ok (.iload 10, 2) := by decide +kernel
theorem dL_sites_184 : decode cL_sites 184 = .ok (.ifCond .lt 44, 3) := by decide +kernel
theorem dL_sites_187 : decode cL_sites 187 = .ok (.aload_n 0, 1) := by decide +kernel
theorem dL_sites_188 : decode cL_sites 188 = .ok (.iload 10, 2) := by decide +kernel
theorem dL_sites_190 : decode cL_sites 190 = .ok (.iconst 5, 1) := by decide +kernel
theorem dL_sites_191 : decode cL_sites 191 = .ok (.invokevirtual 19, 3) := by decide +kernel
theorem dL_sites_194 : decode cL_sites 194 = .ok (.iload 8, 2) := by decide +kernel
theorem dL_sites_196 : decode cL_sites 196 = .ok (.if_icmp .ne 69, 3) := by decide +kernel
theorem dL_sites_199 : decode cL_sites 199 = .ok (.aload_n 0, 1) := by decide +kernel
theorem dL_sites_200 : decode cL_sites 200 = .ok (.iload 10, 2) := by decide +kernel
theorem dL_sites_202 : decode cL_sites 202 = .ok (.iconst 0, 1) := by decide +kernel
theorem dL_sites_203 : decode cL_sites 203 = .ok (.invokevirtual 19, 3) := by decide +kernel
theorem dL_sites_206 : decode cL_sites 206 = .ok (.aload_n 0, 1) := by decide +kernel
theorem dL_sites_207 : decode cL_sites 207 = .ok (.iload 8, 2) := by decide +kernel
theorem dL_sites_209 : decode cL_sites 209 = .ok (.iconst 1, 1) := by decide +kernel
theorem dL_sites_210 : decode cL_sites 210 = .ok (.invokevirtual 23, 3) := by decide +kernel
theorem dL_sites_213 : decode cL_sites 213 = .ok (.if_icmp .lt 52, 3) := by decide +kernel
theorem dL_sites_216 : decode cL_sites 216 = .ok (.iload 7, 2) := by decide +kernel
theorem dL_sites_218 : decode cL_sites 218 = .ok (.aload_n 0, 1) := by decide +kernel
theorem dL_sites_219 : decode cL_sites 219 = .ok (.iload 8, 2) := by decide +kernel
theorem dL_sites_221 : decode cL_sites 221 = .ok (.iconst 3, 1) := by decide +kernel
theorem dL_sites_222 : decode cL_sites 222 = .ok (.invokevirtual 23, 3) := by decide +kernel
theorem dL_sites_225 : decode cL_sites 225 = .ok (.if_icmp .ge 40, 3) := by decide +kernel
theorem dL_sites_228 : decode cL_sites 228 = .ok (.aload_n 0, 1) := by decide +kernel
theorem dL_sites_229 : decode cL_sites 229 = .ok (.iload 8, 2) := by decide +kernel
theorem dL_sites_231 : decode cL_sites 231 = .ok (.bipush 8, 2) := by decide +kernel
theorem dL_sites_233 : decode cL_sites 233 = .ok (.invokevirtual 23, 3) := by decide +kernel
theorem dL_sites_236 : decode cL_sites 236 = .ok (.bipush (-5), 2) := by decide +kernel
theorem dL_sites_238 : decode cL_sites 238 = .ok (.if_icmp .ne 7, 3) := by decide +kernel
theorem dL_sites_241 : decode cL_sites 241 = .ok (.iconst 1, 1) := by decide +kernel
theorem dL_sites_242 : decode cL_sites 242 = .ok (.goto 4, 3) := by decide +kernel
theorem dL_sites_245 : decode cL_sites 245 = .ok (.iconst 0, 1) := by decide +kernel
theorem dL_sites_246 : decode cL_sites 246 = .ok (.aload_n 0, 1) := by decide +kernel
theorem dL_sites_247 : decode cL_sites 247 = .ok (.iload 8, 2) := by decide +kernel
theorem dL_sites_249 : decode cL_sites 249 = .ok (.bipush 6, 2) := by decide +kernel
theorem dL_sites_251 : decode cL_sites 251 = .ok (.invokevirtual 23, 3) := by decide +kernel
theorem dL_sites_254 : decode cL_sites 254 = .ok (.ifCond .ne 7, 3) := by decide +kernel
theorem dL_sites_257 : decode cL_sites 257 = .ok (.iconst 1, 1) := by decide +kernel
theorem dL_sites_258 : decode cL_sites 258 = .ok (.goto 4, 3) := by decide +kernel
theorem dL_sites_261 : decode cL_sites 261 = .ok (.iconst 0, 1) := by decide +kernel
theorem dL_sites_262 : decode cL_sites 262 = .ok (.if_icmp .eq 5, 3) := by decide +kernel
theorem dL_sites_265 : decode cL_sites 265 = .ok (.iconst 0, 1) := by decide +kernel
theorem dL_sites_266 : decode cL_sites 266 = .ok (.ireturn, 1) := by decide +kernel
theorem dL_sites_267 : decode cL_sites 267 = .ok (.iload 9, 2) := by decide +kernel
theorem dL_sites_269 : decode cL_sites 269 = .ok (.ifCond .eq 57, 3) := by decide +kernel
theorem dL_sites_272 : decode cL_sites 272 = .ok (.iload 11, 2) := by decide +kernel
theorem dL_sites_274 : decode cL_sites 274 = .ok (.ifCond .lt 59, 3) := by decide +kernel
theorem dL_sites_277 : decode cL_sites 277 = .ok (.iload 11, 2) := by decide +kernel
theorem dL_sites_279 : decode cL_sites 279 = .ok (.iconst 1, 1) := by decide +kernel
theorem dL_sites_280 : decode cL_sites 280 = .ok (.if_icmp .ne 7, 3) := by decide +kernel
theorem dL_sites_283 : decode cL_sites 283 = .ok (.iconst 1, 1) := by decide +kernel
theorem dL_sites_284 : decode cL_sites 284 = .ok (.goto 4, 3) := by decide +kernel
theorem dL_sites_287 : decode cL_sites 287 = .ok (.iconst 0, 1) := by decide +kernel
theorem dL_sites_288 : decode cL_sites 288 = .ok (.iload 10, 2) := by decide +kernel
theorem dL_sites_290 : decode cL_sites 290 = .ok (.ifCond .ge 7, 3) := by decide +kernel
theorem dL_sites_293 : decode cL_sites 293 = .ok (.iconst 1, 1) := by decide +kernel
theorem dL_sites_294 : decode cL_sites 294 = .ok (.goto 4, 3) := by decide +kernel
theorem dL_sites_297 : decode cL_sites 297 = .ok (.iconst 0, 1) := by decide +kernel
theorem dL_sites_298 : decode cL_sites 298 = .ok (.if_icmp .ne 35, 3) := by decide +kernel
theorem dL_sites_301 : decode cL_sites 301 = .ok (.iload 10, 2) := by decide +kernel
theorem dL_sites_303 : decode cL_sites 303 = .ok (.ifCond .lt 32, 3) := by decide +kernel
theorem dL_sites_306 : decode cL_sites 306 = .ok (.aload_n 0, 1) := by decide +kernel
theorem dL_sites_307 : decode cL_sites 307 = .ok (.iload 10, 2) := by decide +kernel
theorem dL_sites_309 : decode cL_sites 309 = .ok (.bipush 6, 2) := by decide +kernel
theorem dL_sites_311 : decode cL_sites 311 = .ok (.invokevirtual 19, 3) := by decide +kernel
theorem dL_sites_314 : decode cL_sites 314 = .ok (.iconst 1, 1) := by decide +kernel
theorem dL_sites_315 : decode cL_sites 315 = .ok (.if_icmp .ne 20, 3) := by decide +kernel
theorem dL_sites_318 : decode cL_sites 318 = .ok (.iload 11, 2) := by decide +kernel
theorem dL_sites_320 : decode cL_sites 320 = .ok (.ifCond .eq 15, 3) := by decide +kernel
theorem dL_sites_323 : decode cL_sites 323 = .ok (.goto 10, 3) := by decide +kernel
theorem dL_sites_326 : decode cL_sites 326 = .ok (.iload 11, 2) := by decide +kernel
theorem dL_sites_328 : decode cL_sites 328 = .ok (.bipush (-5), 2) := by decide +kernel
theorem dL_sites_330 : decode cL_sites 330 = .ok (.if_icmp .eq 5, 3) := by decide +kernel
theorem dL_sites_333 : decode cL_sites 333 = .ok (.iconst 0, 1) := by decide +kernel
theorem dL_sites_334 : decode cL_sites 334 = .ok (.ireturn, 1) := by decide +kernel
theorem dL_sites_335 : decode cL_sites 335 = .ok (.iinc 8 1, 3) := by decide +kernel
theorem dL_sites_338 : decode cL_sites 338 = .ok (.goto (-313), 3) := by decide +kernel
theorem dL_sites_341 : decode cL_sites 341 = .ok (.aload_n 0, 1) := by decide +kernel
theorem dL_sites_342 : decode cL_sites 342 = .ok (.bipush 10, 2) := by decide +kernel
theorem dL_sites_344 : decode cL_sites 344 = .ok (.invokevirtual 13, 3) := by decide +kernel
theorem dL_sites_347 : decode cL_sites 347 = .ok (.iload_n 1, 1) := by decide +kernel
theorem dL_sites_348 : decode cL_sites 348 = .ok (.if_icmp .ne 71, 3) := by decide +kernel
theorem dL_sites_351 : decode cL_sites 351 = .ok (.aload_n 0, 1) := by decide +kernel
theorem dL_sites_352 : decode cL_sites 352 = .ok (.bipush 11, 2) := by decide +kernel
theorem dL_sites_354 : decode cL_sites 354 = .ok (.invokevirtual 13, 3) := by decide +kernel
theorem dL_sites_357 : decode cL_sites 357 = .ok (.iload_n 2, 1) := by decide +kernel
theorem dL_sites_358 : decode cL_sites 358 = .ok (.if_icmp .ne 61, 3) := by decide +kernel
theorem dL_sites_361 : decode cL_sites 361 = .ok (.aload_n 0, 1) := by decide +kernel
theorem dL_sites_362 : decode cL_sites 362 = .ok (.bipush 12, 2) := by decide +kernel
theorem dL_sites_364 : decode cL_sites 364 = .ok (.invokevirtual 13, 3) := by decide +kernel
theorem dL_sites_367 : decode cL_sites 367 = .ok (.iload_n 3, 1) := by decide +kernel
theorem dL_sites_368 : decode cL_sites 368 = .ok (.if_icmp .ne 51, 3) := by decide +kernel
theorem dL_sites_371 : decode cL_sites 371 = .ok (.aload_n 0, 1) := by decide +kernel
theorem dL_sites_372 : decode cL_sites 372 = .ok (.bipush 13, 2) := by decide +kernel
theorem dL_sites_374 : decode cL_sites 374 = .ok (.invokevirtual 13, 3) := by decide +kernel
theorem dL_sites_377 : decode cL_sites 377 = .ok (.iload 4, 2) := by decide +kernel
theorem dL_sites_379 : decode cL_sites 379 = .ok (.if_icmp .ne 40, 3) := by decide +kernel
theorem dL_sites_382 : decode cL_sites 382 = .ok (.iload 5, 2) := by decide +kernel
theorem dL_sites_384 : decode cL_sites 384 = .ok (.aload_n 0, 1) := by decide +kernel
theorem dL_sites_385 : decode cL_sites 385 = .ok (.bipush 7, 2) := by decide +kernel
theorem dL_sites_387 : decode cL_sites 387 = .ok (.invokevirtual 13, 3) := by decide +kernel
theorem dL_sites_390 : decode cL_sites 390 = .ok (.aload_n 0, 1) := by decide +kernel
theorem dL_sites_391 : decode cL_sites 391 = .ok (.bipush 8, 2) := by decide +kernel
theorem dL_sites_393 : decode cL_sites 393 = .ok (.invokevirtual 13, 3) := by decide +kernel
theorem dL_sites_396 : decode cL_sites 396 = .ok (.isub, 1) := by decide +kernel
theorem dL_sites_397 : decode cL_sites 397 = .ok (.if_icmp .ne 22, 3) := by decide +kernel
theorem dL_sites_400 : decode cL_sites 400 = .ok (.aload_n 0, 1) := by decide +kernel
theorem dL_sites_401 : decode cL_sites 401 = .ok (.aload_n 0, 1) := by decide +kernel
theorem dL_sites_402 : decode cL_sites 402 = .ok (.bipush 9, 2) := by decide +kernel
theorem dL_sites_404 : decode cL_sites 404 = .ok (.invokevirtual 13, 3) := by decide +kernel
theorem dL_sites_407 : decode cL_sites 407 = .ok (.iconst 0, 1) := by decide +kernel
theorem dL_sites_408 : decode cL_sites 408 = .ok (.invokevirtual 23, 3) := by decide +kernel
theorem dL_sites_411 : decode cL_sites 411 = .ok (.iconst (-1), 1) := by decide +kernel
theorem dL_sites_412 : decode cL_sites 412 = .ok (.if_icmp .ne 7, 3) := by decide +kernel
theorem dL_sites_415 : decode cL_sites 415 = .ok (.iconst 1, 1) := by decide +kernel
theorem dL_sites_416 : decode cL_sites 416 = .ok (.goto 4, 3) := by decide +kernel
theorem dL_sites_419 : decode cL_sites 419 = .ok (.iconst 0, 1) := by decide +kernel
theorem dL_sites_420 : decode cL_sites 420 = .ok (.istore 8, 2) := by decide +kernel
theorem dL_sites_422 : decode cL_sites 422 = .ok (.iload 8, 2) := by decide +kernel
theorem dL_sites_424 : decode cL_sites 424 = .ok (.ifCond .eq 35, 3) := by decide +kernel
theorem dL_sites_427 : decode cL_sites 427 = .ok (.iload 7, 2) := by decide +kernel
theorem dL_sites_429 : decode cL_sites 429 = .ok (.sipush 999, 3) := by decide +kernel
theorem dL_sites_432 : decode cL_sites 432 = .ok (.if_icmp .ge 29, 3) := by decide +kernel
theorem dL_sites_435 : decode cL_sites 435 = .ok (.aload_n 0, 1) := by decide +kernel
theorem dL_sites_436 : decode cL_sites 436 = .ok (.iconst 1, 1) := by decide +kernel
theorem dL_sites_437 : decode cL_sites 437 = .ok (.iconst 0, 1) := by decide +kernel
theorem dL_sites_438 : decode cL_sites 438 = .ok (.invokevirtual 29, 3) := by decide +kernel
theorem dL_sites_441 : decode cL_sites 441 = .ok (.iload 6, 2) := by decide +kernel
theorem dL_sites_443 : decode cL_sites 443 = .ok (.if_icmp .ne 16, 3) := by decide +kernel
theorem dL_sites_446 : decode cL_sites 446 = .ok (.aload_n 0, 1) := by decide +kernel
theorem dL_sites_447 : decode cL_sites 447 = .ok (.iconst 1, 1) := by decide +kernel
theorem dL_sites_448 : decode cL_sites 448 = .ok (.iconst 1, 1) := by decide +kernel
theorem dL_sites_449 : decode cL_sites 449 = .ok (.invokevirtual 29, 3) := by decide +kernel
theorem dL_sites_452 : decode cL_sites 452 = .ok (.iload_n 1, 1) := by decide +kernel
theorem dL_sites_453 : decode cL_sites 453 = .ok (.iload 6, 2) := by decide +kernel
theorem dL_sites_455 : decode cL_sites 455 = .ok (.isub, 1) := by decide +kernel
theorem dL_sites_456 : decode cL_sites 456 = .ok (.if_icmp .eq 5, 3) := by decide +kernel
theorem dL_sites_459 : decode cL_sites 459 = .ok (.iconst 0, 1) := by decide +kernel
theorem dL_sites_460 : decode cL_sites 460 = .ok (.ireturn, 1) := by decide +kernel
theorem dL_sites_461 : decode cL_sites 461 = .ok (.iconst 0, 1) := by decide +kernel
theorem dL_sites_462 : decode cL_sites 462 = .ok (.istore 9, 2) := by decide +kernel
theorem dL_sites_464 : decode cL_sites 464 = .ok (.iload 9, 2) := by decide +kernel
theorem dL_sites_466 : decode cL_sites 466 = .ok (.iload_n 1, 1) := by decide +kernel
theorem dL_sites_467 : decode cL_sites 467 = .ok (.if_icmp .ge 58, 3) := by decide +kernel
theorem dL_sites_470 : decode cL_sites 470 = .ok (.aload_n 0, 1) := by decide +kernel
theorem dL_sites_471 : decode cL_sites 471 = .ok (.iload 9, 2) := by decide +kernel
theorem dL_sites_473 : decode cL_sites 473 = .ok (.invokevirtual 32, 3) := by decide +kernel
theorem dL_sites_476 : decode cL_sites 476 = .ok (.istore 10, 2) := by decide +kernel
theorem dL_sites_478 : decode cL_sites 478 = .ok (.iload 10, 2) := by decide +kernel
theorem dL_sites_480 : decode cL_sites 480 = .ok (.ifCond .lt 37, 3) := by decide +kernel
theorem dL_sites_483 : decode cL_sites 483 = .ok (.aload_n 0, 1) := by decide +kernel
theorem dL_sites_484 : decode cL_sites 484 = .ok (.iload 10, 2) := by decide +kernel
theorem dL_sites_486 : decode cL_sites 486 = .ok (.bipush 9, 2) := by decide +kernel
theorem dL_sites_488 : decode cL_sites 488 = .ok (.invokevirtual 23, 3) := by decide +kernel
theorem dL_sites_491 : decode cL_sites 491 = .ok (.iconst 1, 1) := by decide +kernel
theorem dL_sites_492 : decode cL_sites 492 = .ok (.if_icmp .ne 25, 3) := by decide +kernel
theorem dL_sites_495 : decode cL_sites 495 = .ok (.iload 9, 2) := by decide +kernel
theorem dL_sites_497 : decode cL_sites 497 = .ok (.ifCond .le 22, 3) := by decide +kernel
theorem dL_sites_500 : decode cL_sites 500 = .ok (.aload_n 0, 1) := by decide +kernel
theorem dL_sites_501 : decode cL_sites 501 = .ok (.aload_n 0, 1) := by decide +kernel
theorem dL_sites_502 : decode cL_sites 502 = .ok (.iload 9, 2) := by decide +kernel
theorem dL_sites_504 : decode cL_sites 504 = .ok (.iconst 1, 1) := by decide +kernel
theorem dL_sites_505 : decode cL_sites 505 = .ok (.isub, 1) := by decide +kernel
theorem dL_sites_506 : decode cL_sites 506 = .ok (.invokevirtual 32, 3) := by decide +kernel
theorem dL_sites_509 : decode cL_sites 509 = .ok (.iload 10, 2) := by decide +kernel
theorem dL_sites_511 : decode cL_sites 511 = .ok (.invokestatic 35, 3) := by decide +kernel
theorem dL_sites_514 : decode cL_sites 514 = .ok (.ifCond .ne 5, 3) := by decide +kernel
theorem dL_sites_517 : decode cL_sites 517 = .ok (.iconst 0, 1) := by decide +kernel
theorem dL_sites_518 : decode cL_sites 518 = .ok (.ireturn, 1) := by decide +kernel
theorem dL_sites_519 : decode cL_sites 519 = .ok (.iinc 9 1, 3) := by decide +kernel
theorem dL_sites_522 : decode cL_sites 522 = .ok (.goto (-58), 3) := by decide +kernel
theorem dL_sites_525 : decode cL_sites 525 = .ok (.iconst 0, 1) := by decide +kernel
theorem dL_sites_526 : decode cL_sites 526 = .ok (.istore 9, 2) := by decide +kernel
theorem dL_sites_528 : decode cL_sites 528 = .ok (.iload 9, 2) := by decide +kernel
theorem dL_sites_530 : decode cL_sites 530 = .ok (.iload 5, 2) := by decide +kernel
theorem dL_sites_532 : decode cL_sites 532 = .ok (.if_icmp .ge 114, 3) := by decide +kernel
theorem dL_sites_535 : decode cL_sites 535 = .ok (.aload_n 0, 1) := by decide +kernel
theorem dL_sites_536 : decode cL_sites 536 = .ok (.iload 9, 2) := by decide +kernel
theorem dL_sites_538 : decode cL_sites 538 = .ok (.invokevirtual 41, 3) := by decide +kernel
theorem dL_sites_541 : decode cL_sites 541 = .ok (.istore 10, 2) := by decide +kernel
theorem dL_sites_543 : decode cL_sites 543 = .ok (.iload 9, 2) := by decide +kernel
theorem dL_sites_545 : decode cL_sites 545 = .ok (.ifCond .le 14, 3) := by decide +kernel
theorem dL_sites_548 : decode cL_sites 548 = .ok (.aload_n 0, 1) := by decide +kernel
theorem dL_sites_549 : decode cL_sites 549 = .ok (.iload 9, 2) := by decide +kernel
theorem dL_sites_551 : decode cL_sites 551 = .ok (.iconst 1, 1) := by decide +kernel
theorem dL_sites_552 : decode cL_sites 552 = .ok (.isub, 1) := by decide +kernel
theorem dL_sites_553 : decode cL_sites 553 = .ok (.invokevirtual 41, 3) := by decide +kernel
theorem dL_sites_556 : decode cL_sites 556 = .ok (.goto 4, 3) := by decide +kernel
theorem dL_sites_559 : decode cL_sites 559 = .ok (.iconst (-1), 1) := by decide +kernel
theorem dL_sites_560 : decode cL_sites 560 = .ok (.istore 11, 2) := by decide +kernel
theorem dL_sites_562 : decode cL_sites 562 = .ok (.iload 10, 2) := by decide +kernel
theorem dL_sites_564 : decode cL_sites 564 = .ok (.ifCond .lt 13, 3) := by decide +kernel
theorem dL_sites_567 : decode cL_sites 567 = .ok (.aload_n 0, 1) := by decide +kernel
theorem dL_sites_568 : decode cL_sites 568 = .ok (.iload 10, 2) := by decide +kernel
theorem dL_sites_570 : decode cL_sites 570 = .ok (.iconst 4, 1) := by decide +kernel
theorem dL_sites_571 : decode cL_sites 571 = .ok (.invokevirtual 23, 3) := by decide +kernel
theorem dL_sites_574 : decode cL_sites 574 = .ok (.ifCond .ge 5, 3) := by decide +kernel
theorem dL_sites_577 : decode cL_sites 577 = .ok (.iconst 0, 1) := by decide +kernel
theorem dL_sites_578 : decode cL_sites 578 = .ok (.ireturn, 1) := by decide +kernel
theorem dL_sites_579 : decode cL_sites 579 = .ok (.iload 9, 2) := by decide +kernel
theorem dL_sites_581 : decode cL_sites 581 = .ok (.ifCond .le 33, 3) := by decide +kernel
theorem dL_sites_584 : decode cL_sites 584 = .ok (.aload_n 0, 1) := by decide +kernel
theorem dL_sites_585 : decode cL_sites 585 = .ok (.aload_n 0, 1) := by decide +kernel
theorem dL_sites_586 : decode cL_sites 586 = .ok (.iload 10, 2) := by decide +kernel
theorem dL_sites_588 : decode cL_sites 588 = .ok (.iconst 4, 1) := by decide +kernel
theorem dL_sites_589 : decode cL_sites 589 = .ok (.invokevirtual 23, 3) := by decide +kernel
theorem dL_sites_592 : decode cL_sites 592 = .ok (.bipush 9, 2) := by decide +kernel
theorem dL_sites_594 : decode cL_sites 594 = .ok (.invokevirtual 19, 3) := by decide +kernel
theorem dL_sites_597 : decode cL_sites 597 = .ok (.aload_n 0, 1) := by decide +kernel
theorem dL_sites_598 : decode cL_sites 598 = .ok (.aload_n 0, 1) := by decide +kernel
theorem dL_sites_599 : decode cL_sites 599 = .ok (.iload 11, 2) := by decide +kernel
theorem dL_sites_601 : decode cL_sites 601 = .ok (.iconst 4, 1) := by decide +kernel
theorem dL_sites_602 : decode cL_sites 602 = .ok (.invokevirtual 23, 3) := by decide +kernel
theorem dL_sites_605 : decode cL_sites 605 = .ok (.bipush 9, 2) := by decide +kernel
theorem dL_sites_607 : decode cL_sites 607 = .ok (.invokevirtual 19, 3) := by decide +kernel
theorem dL_sites_610 : decode cL_sites 610 = .ok (.isub, 1) := by decide +kernel
theorem dL_sites_611 : decode cL_sites 611 = .ok (.goto 4, 3) := by decide +kernel
theorem dL_sites_614 : decode cL_sites 614 = .ok (.iconst 1, 1) := by decide +kernel
theorem dL_sites_615 : decode cL_sites 615 = .ok (.istore 12, 2) := by decide +kernel
theorem dL_sites_617 : decode cL_sites 617 = .ok (.iload 12, 2) := by decide +kernel
theorem dL_sites_619 : decode cL_sites 619 = .ok (.ifCond .lt 19, 3) := by decide +kernel
theorem dL_sites_622 : decode cL_sites 622 = .ok (.iload 12, 2) := by decide +kernel
theorem dL_sites_624 : decode cL_sites 624 = .ok (.ifCond .ne 16, 3) := by decide +kernel
theorem dL_sites_627 : decode cL_sites 627 = .ok (.aload_n 0, 1) := by decide +kernel
theorem dL_sites_628 : decode cL_sites 628 = .ok (.iload 11, 2) := by decide +kernel
theorem dL_sites_630 : decode cL_sites 630 = .ok (.iload 10, 2) := by decide +kernel
theorem dL_sites_632 : decode cL_sites 632 = .ok (.invokestatic 35, 3) := by decide +kernel
theorem dL_sites_635 : decode cL_sites 635 = .ok (.ifCond .ne 5, 3) := by decide +kernel
theorem dL_sites_638 : decode cL_sites 638 = .ok (.iconst 0, 1) := by decide +kernel
theorem dL_sites_639 : decode cL_sites 639 = .ok (.ireturn, 1) := by decide +kernel
theorem dL_sites_640 : decode cL_sites 640 = .ok (.iinc 9 1, 3) := by decide +kernel
theorem dL_sites_643 : decode cL_sites 643 = .ok (.goto (-115), 3) := by decide +kernel
theorem dL_sites_646 : decode cL_sites 646 = .ok (.aload_n 0, 1) := by decide +kernel
theorem dL_sites_647 : decode cL_sites 647 = .ok (.iload_n 1, 1) := by decide +kernel
theorem dL_sites_648 : decode cL_sites 648 = .ok (.invokevirtual 32, 3) := by decide +kernel
theorem dL_sites_651 : decode cL_sites 651 = .ok (.bipush (-5), 2) := by decide +kernel
theorem dL_sites_653 : decode cL_sites 653 = .ok (.if_icmp .ne 49, 3) := by decide +kernel
theorem dL_sites_656 : decode cL_sites 656 = .ok (.aload_n 0, 1) := by decide +kernel
theorem dL_sites_657 : decode cL_sites 657 = .ok (.iload 5, 2) := by decide +kernel
theorem dL_sites_659 : decode cL_sites 659 = .ok (.invokevirtual 41, 3) := by decide +kernel
theorem dL_sites_662 : decode cL_sites 662 = .ok (.bipush (-5), 2) := by decide +kernel
theorem dL_sites_664 : decode cL_sites 664 = .ok (.if_icmp .ne 38, 3) := by decide +kernel
theorem dL_sites_667 : decode cL_sites 667 = .ok (.aload_n 0, 1) := by decide +kernel
theorem dL_sites_668 : decode cL_sites 668 = .ok (.iconst (-1), 1) := by decide +kernel
theorem dL_sites_669 : decode cL_sites 669 = .ok (.invokevirtual 32, 3) := by decide +kernel
theorem dL_sites_672 : decode cL_sites 672 = .ok (.bipush (-2), 2) := by decide +kernel
theorem dL_sites_674 : decode cL_sites 674 = .ok (.if_icmp .ne 28, 3) := by decide +kernel
theorem dL_sites_677 : decode cL_sites 677 = .ok (.aload_n 0, 1) := by decide +kernel
theorem dL_sites_678 : decode cL_sites 678 = .ok (.iconst (-1), 1) := by decide +kernel
theorem dL_sites_679 : decode cL_sites 679 = .ok (.invokevirtual 41, 3) := by decide +kernel
theorem dL_sites_682 : decode cL_sites 682 = .ok (.bipush (-2), 2) := by decide +kernel
theorem dL_sites_684 : decode cL_sites 684 = .ok (.if_icmp .ne 18, 3) := by decide +kernel
theorem dL_sites_687 : decode cL_sites 687 = .ok (.aload_n 0, 1) := by decide +kernel
theorem dL_sites_688 : decode cL_sites 688 = .ok (.bipush 17, 2) := by decide +kernel
theorem dL_sites_690 : decode cL_sites 690 = .ok (.invokevirtual 13, 3) := by decide +kernel
theorem dL_sites_693 : decode cL_sites 693 = .ok (.bipush (-2), 2) := by decide +kernel
theorem dL_sites_695 : decode cL_sites 695 = .ok (.if_icmp .ne 7, 3) := by decide +kernel
theorem dL_sites_698 : decode cL_sites 698 = .ok (.iconst 1, 1) := by decide +kernel
theorem dL_sites_699 : decode cL_sites 699 = .ok (.goto 4, 3) := by decide +kernel
theorem dL_sites_702 : decode cL_sites 702 = .ok (.iconst 0, 1) := by decide +kernel
theorem dL_sites_703 : decode cL_sites 703 = .ok (.ireturn, 1) := by decide +kernel
theorem dL_moves_0 : decode cL_moves 0 = .ok (.aload_n 0, 1) := by decide +kernel
theorem dL_moves_1 : decode cL_moves 1 = .ok (.bipush 8, 2) := by decide +kernel
theorem dL_moves_3 : decode cL_moves 3 = .ok (.invokevirtual 13, 3) := by decide +kernel
theorem dL_moves_6 : decode cL_moves 6 = .ok (.istore 4, 2) := by decide +kernel
theorem dL_moves_8 : decode cL_moves 8 = .ok (.iload_n 1, 1) := by decide +kernel
theorem dL_moves_9 : decode cL_moves 9 = .ok (.ifCond .ne 98, 3) := by decide +kernel
theorem dL_moves_12 : decode cL_moves 12 = .ok (.aload_n 0, 1) := by decide +kernel
theorem dL_moves_13 : decode cL_moves 13 = .ok (.invokevirtual 44, 3) := by decide +kernel
theorem dL_moves_16 : decode cL_moves 16 = .ok (.istore 5, 2) := by decide +kernel
theorem dL_moves_18 : decode cL_moves 18 = .ok (.iconst 0, 1) := by decide +kernel
theorem dL_moves_19 : decode cL_moves 19 = .ok (.istore 6, 2) := by decide +kernel
theorem dL_moves_21 : decode cL_moves 21 = .ok (.iload 6, 2) := by decide +kernel
theorem dL_moves_23 : decode cL_moves 23 = .ok (.aload_n 0, 1) := by decide +kernel
theorem dL_moves_24 : decode cL_moves 24 = .ok (.bipush 9, 2) := by decide +kernel
theorem dL_moves_26 : decode cL_moves 26 = .ok (.invokevirtual 13, 3) := by decide +kernel
theorem dL_moves_29 : decode cL_moves 29 = .ok (.if_icmp .ge 42, 3) := by decide +kernel
theorem dL_moves_32 : decode cL_moves 32 = .ok (.aload_n 0, 1) := by decide +kernel
theorem dL_moves_33 : decode cL_moves 33 = .ok (.iload 6, 2) := by decide +kernel
theorem dL_moves_35 : decode cL_moves 35 = .ok (.bipush 9, 2) := by decide +kernel
theorem dL_moves_37 : decode cL_moves 37 = .ok (.invokevirtual 23, 3) := by decide +kernel
theorem dL_moves_40 : decode cL_moves 40 = .ok (.iconst 1, 1) := by decide +kernel
theorem dL_moves_41 : decode cL_moves 41 = .ok (.if_icmp .ne 24, 3) := by decide +kernel
theorem dL_moves_44 : decode cL_moves 44 = .ok (.aload_n 0, 1) := by decide +kernel
theorem dL_moves_45 : decode cL_moves 45 = .ok (.iload 6, 2) := by decide +kernel
theorem dL_moves_47 : decode cL_moves 47 = .ok (.iconst 4, 1) := by decide +kernel
theorem dL_moves_48 : decode cL_moves 48 = .ok (.invokevirtual 23, 3) := by decide +kernel
theorem dL_moves_51 : decode cL_moves 51 = .ok (.ifCond .ge 14, 3) := by decide +kernel
theorem dL_moves_54 : decode cL_moves 54 = .ok (.aload_n 0, 1) := by decide +kernel
theorem dL_moves_55 : decode cL_moves 55 = .ok (.iload 6, 2) := by decide +kernel
theorem dL_moves_57 : decode cL_moves 57 = .ok (.invokestatic 48, 3) := by decide +kernel
theorem dL_moves_60 : decode cL_moves 60 = .ok (.ifCond .eq 5, 3) := by decide +kernel
theorem dL_moves_63 : decode cL_moves 63 = .ok (.iconst 0, 1) := by decide +kernel
theorem dL_moves_64 : decode cL_moves 64 = .ok (.ireturn, 1) := by decide +kernel
theorem dL_moves_65 : decode cL_moves 65 = .ok (.iinc 6 1, 3) := by decide +kernel
theorem dL_moves_68 : decode cL_moves 68 = .ok (.goto (-47), 3) := by decide +kernel
theorem dL_moves_71 : decode cL_moves 71 = .ok (.iload 5, 2) := by decide +kernel
theorem dL_moves_73 : decode cL_moves 73 = .ok (.iload 4, 2) := by decide +kernel
theorem dL_moves_75 : decode cL_moves 75 = .ok (.aload_n 0, 1) := by decide +kernel
theorem dL_moves_76 : decode cL_moves 76 = .ok (.bipush 8, 2) := by decide +kernel
theorem dL_moves_78 : decode cL_moves 78 = .ok (.invokevirtual 13, 3) := by decide +kernel
theorem dL_moves_81 : decode cL_moves 81 = .ok (.if_icmp .ne 8, 3) := by decide +kernel
theorem dL_moves_84 : decode cL_moves 84 = .ok (.bipush (-5), 2) := by decide +kernel
theorem dL_moves_86 : decode cL_moves 86 = .ok (.goto 12, 3) := by decide +kernel
theorem dL_moves_89 : decode cL_moves 89 = .ok (.iload 4, 2) := by decide +kernel
theorem dL_moves_91 : decode cL_moves 91 = .ok (.aload_n 0, 1) := by decide +kernel
theorem dL_moves_92 : decode cL_moves 92 = .ok (.bipush 8, 2) := by decide +kernel
theorem dL_moves_94 : decode cL_moves 94 = .ok (.invokevirtual 13, 3) := by decide +kernel
theorem dL_moves_97 : decode cL_moves 97 = .ok (.isub, 1) := by decide +kernel
theorem dL_moves_98 : decode cL_moves 98 = .ok (.if_icmp .ne 7, 3) := by decide +kernel
theorem dL_moves_101 : decode cL_moves 101 = .ok (.iconst 1, 1) := by decide +kernel
theorem dL_moves_102 : decode cL_moves 102 = .ok (.goto 4, 3) := by decide +kernel
theorem dL_moves_105 : decode cL_moves 105 = .ok (.iconst 0, 1) := by decide +kernel
theorem dL_moves_106 : decode cL_moves 106 = .ok (.ireturn, 1) := by decide +kernel
theorem dL_moves_107 : decode cL_moves 107 = .ok (.iload_n 1, 1) := by decide +kernel
theorem dL_moves_108 : decode cL_moves 108 = .ok (.iconst 1, 1) := by decide +kernel
theorem dL_moves_109 : decode cL_moves 109 = .ok (.if_icmp .ne 199, 3) := by decide +kernel
theorem dL_moves_112 : decode cL_moves 112 = .ok (.aload_n 0, 1) := by decide +kernel
theorem dL_moves_113 : decode cL_moves 113 = .ok (.bipush 9, 2) := by decide +kernel
theorem dL_moves_115 : decode cL_moves 115 = .ok (.invokevirtual 13, 3) := by decide +kernel
theorem dL_moves_118 : decode cL_moves 118 = .ok (.ifCond .ne 8, 3) := by decide +kernel
theorem dL_moves_121 : decode cL_moves 121 = .ok (.bipush (-5), 2) := by decide +kernel
theorem dL_moves_123 : decode cL_moves 123 = .ok (.goto 18, 3) := by decide +kernel
theorem dL_moves_126 : decode cL_moves 126 = .ok (.aload_n 0, 1) := by decide +kernel
theorem dL_moves_127 : decode cL_moves 127 = .ok (.iload_n 2, 1) := by decide +kernel
theorem dL_moves_128 : decode cL_moves 128 = .ok (.aload_n 0, 1) := by decide +kernel
theorem dL_moves_129 : decode cL_moves 129 = .ok (.bipush 9, 2) := by decide +kernel
theorem dL_moves_131 : decode cL_moves 131 = .ok (.invokevirtual 13, 3) := by decide +kernel
theorem dL_moves_134 : decode cL_moves 134 = .ok (.invokestatic 52, 3) := by decide +kernel
theorem dL_moves_137 : decode cL_moves 137 = .ok (.iconst 4, 1) := by decide +kernel
theorem dL_moves_138 : decode cL_moves 138 = .ok (.invokevirtual 23, 3) := by decide +kernel
theorem dL_moves_141 : decode cL_moves 141 = .ok (.istore 5, 2) := by decide +kernel
theorem dL_moves_143 : decode cL_moves 143 = .ok (.aload_n 0, 1) := by decide +kernel
theorem dL_moves_144 : decode cL_moves 144 = .ok (.invokevirtual 55, 3) := by decide +kernel
theorem dL_moves_147 : decode cL_moves 147 = .ok (.istore 6, 2) := by decide +kernel
theorem dL_moves_149 : decode cL_moves 149 = .ok (.iload 6, 2) := by decide +kernel
theorem dL_moves_151 : decode cL_moves 151 = .ok (.ifCond .ge 27, 3) := by decide +kernel
theorem dL_moves_154 : decode cL_moves 154 = .ok (.iload 6, 2) := by decide +kernel
theorem dL_moves_156 : decode cL_moves 156 = .ok (.bipush (-5), 2) := by decide +kernel
theorem dL_moves_158 : decode cL_moves 158 = .ok (.if_icmp .ne 18, 3) := by decide +kernel
theorem dL_moves_161 : decode cL_moves 161 = .ok (.aload_n 0, 1) := by decide +kernel
theorem dL_moves_162 : decode cL_moves 162 = .ok (.bipush 8, 2) := by decide +kernel
theorem dL_moves_164 : decode cL_moves 164 = .ok (.invokevirtual 13, 3) := by decide +kernel
theorem dL_moves_167 : decode cL_moves 167 = .ok (.iload 4, 2) := by decide +kernel
theorem dL_moves_169 : decode cL_moves 169 = .ok (.if_icmp .ne 7, 3) := by decide +kernel
theorem dL_moves_172 : decode cL_moves 172 = .ok (.iconst 1, 1) := by decide +kernel
theorem dL_moves_173 : decode cL_moves 173 = .ok (.goto 4, 3) := by decide +kernel
theorem dL_moves_176 : decode cL_moves 176 = .ok (.iconst 0, 1) := by decide +kernel
theorem dL_moves_177 : decode cL_moves 177 = .ok (.ireturn, 1) := by decide +kernel
theorem dL_moves_178 : decode cL_moves 178 = .ok (.iload 6, 2) := by decide +kernel
theorem dL_moves_180 : decode cL_moves 180 = .ok (.bipush 100, 2) := by decide +kernel
theorem dL_moves_182 : decode cL_moves 182 = .ok (.idiv, 1) := by decide +kernel
theorem dL_moves_183 : decode cL_moves 183 = .ok (.istore 7, 2) := by decide +kernel
theorem dL_moves_185 : decode cL_moves 185 = .ok (.iload 6, 2) := by decide +kernel
theorem dL_moves_187 : decode cL_moves 187 = .ok (.bipush 100, 2) := by decide +kernel
theorem dL_moves_189 : decode cL_moves 189 = .ok (.irem, 1) := by decide +kernel
theorem dL_moves_190 : decode cL_moves 190 = .ok (.istore 8, 2) := by decide +kernel
theorem dL_moves_192 : decode cL_moves 192 = .ok (.aload_n 0, 1) := by decide +kernel
theorem dL_moves_193 : decode cL_moves 193 = .ok (.iload 7, 2) := by decide +kernel
theorem dL_moves_195 : decode cL_moves 195 = .ok (.iconst 4, 1) := by decide +kernel
theorem dL_moves_196 : decode cL_moves 196 = .ok (.invokevirtual 23, 3) := by decide +kernel
theorem dL_moves_199 : decode cL_moves 199 = .ok (.istore 9, 2) := by decide +kernel
theorem dL_moves_201 : decode cL_moves 201 = .ok (.aload_n 0, 1) := by decide +kernel
theorem dL_moves_202 : decode cL_moves 202 = .ok (.iload 8, 2) := by decide +kernel
theorem dL_moves_204 : decode cL_moves 204 = .ok (.iconst 4, 1) := by decide +kernel
theorem dL_moves_205 : decode cL_moves 205 = .ok (.invokevirtual 23, 3) := by decide +kernel
theorem dL_moves_208 : decode cL_moves 208 = .ok (.istore 10, 2) := by decide +kernel
theorem dL_moves_210 : decode cL_moves 210 = .ok (.iload 5, 2) := by decide +kernel
theorem dL_moves_212 : decode cL_moves 212 = .ok (.bipush 12, 2) := by decide +kernel
theorem dL_moves_214 : decode cL_moves 214 = .ok (.if_icmp .ge 92, 3) := by decide +kernel
theorem dL_moves_217 : decode cL_moves 217 = .ok (.aload_n 0, 1) := by decide +kernel
theorem dL_moves_218 : decode cL_moves 218 = .ok (.iload 7, 2) := by decide +kernel
theorem dL_moves_220 : decode cL_moves 220 = .ok (.bipush 9, 2) := by decide +kernel
theorem dL_moves_222 : decode cL_moves 222 = .ok (.invokevirtual 23, 3) := by decide +kernel
theorem dL_moves_225 : decode cL_moves 225 = .ok (.iconst 1, 1) := by decide +kernel
theorem dL_moves_226 : decode cL_moves 226 = .ok (.if_icmp .ne 80, 3) := by decide +kernel
theorem dL_moves_229 : decode cL_moves 229 = .ok (.iload 9, 2) := by decide +kernel
theorem dL_moves_231 : decode cL_moves 231 = .ok (.ifCond .lt 75, 3) := by decide +kernel
theorem dL_moves_234 : decode cL_moves 234 = .ok (.iload 10, 2) := by decide +kernel
theorem dL_moves_236 : decode cL_moves 236 = .ok (.ifCond .lt 70, 3) := by decide +kernel
theorem dL_moves_239 : decode cL_moves 239 = .ok (.aload_n 0, 1) := by decide +kernel
theorem dL_moves_240 : decode cL_moves 240 = .ok (.iload 10, 2) := by decide +kernel
theorem dL_moves_242 : decode cL_moves 242 = .ok (.iconst 0, 1) := by decide +kernel
theorem dL_moves_243 : decode cL_moves 243 = .ok (.invokevirtual 19, 3) := by decide +kernel
theorem dL_moves_246 : decode cL_moves 246 = .ok (.aload_n 0, 1) := by decide +kernel
theorem dL_moves_247 : decode cL_moves 247 = .ok (.iload 7, 2) := by decide +kernel
theorem dL_moves_249 : decode cL_moves 249 = .ok (.iconst 1, 1) := by decide +kernel
theorem dL_moves_250 : decode cL_moves 250 = .ok (.invokevirtual 23, 3) := by decide +kernel
theorem dL_moves_253 : decode cL_moves 253 = .ok (.if_icmp .ge 53, 3) := by decide +kernel
theorem dL_moves_256 : decode cL_moves 256 = .ok (.aload_n 0, 1) := by decide +kernel
theorem dL_moves_257 : decode cL_moves 257 = .ok (.iload 9, 2) := by decide +kernel
theorem dL_moves_259 : decode cL_moves 259 = .ok (.bipush 7, 2) := by decide +kernel
theorem dL_moves_261 : decode cL_moves 261 = .ok (.invokevirtual 19, 3) := by decide +kernel
theorem dL_moves_264 : decode cL_moves 264 = .ok (.ifCond .ne 42, 3) := by decide +kernel
theorem dL_moves_267 : decode cL_moves 267 = .ok (.aload_n 0, 1) := by decide +kernel
theorem dL_moves_268 : decode cL_moves 268 = .ok (.iload 9, 2) := by decide +kernel
theorem dL_moves_270 : decode cL_moves 270 = .ok (.bipush 6, 2) := by decide +kernel
theorem dL_moves_272 : decode cL_moves 272 = .ok (.invokevirtual 19, 3) := by decide +kernel
theorem dL_moves_275 : decode cL_moves 275 = .ok (.ifCond .ne 31, 3) := by decide +kernel
theorem dL_moves_278 : decode cL_moves 278 = .ok (.aload_n 0, 1) := by decide +kernel
theorem dL_moves_279 : decode cL_moves 279 = .ok (.iload 10, 2) := by decide +kernel
theorem dL_moves_281 : decode cL_moves 281 = .ok (.bipush 6, 2) := by decide +kernel
theorem dL_moves_283 : decode cL_moves 283 = .ok (.invokevirtual 19, 3) := by decide +kernel
theorem dL_moves_286 : decode cL_moves 286 = .ok (.ifCond .ne 20, 3) := by decide +kernel
theorem dL_moves_289 : decode cL_moves 289 = .ok (.aload_n 0, 1) := by decide +kernel
theorem dL_moves_290 : decode cL_moves 290 = .ok (.bipush 8, 2) := by decide +kernel
theorem dL_moves_292 : decode cL_moves 292 = .ok (.invokevirtual 13, 3) := by decide +kernel
theorem dL_moves_295 : decode cL_moves 295 = .ok (.iload 4, 2) := by decide +kernel
theorem dL_moves_297 : decode cL_moves 297 = .ok (.iconst 1, 1) := by decide +kernel
theorem dL_moves_298 : decode cL_moves 298 = .ok (.isub, 1) := by decide +kernel
theorem dL_moves_299 : decode cL_moves 299 = .ok (.if_icmp .ne 7, 3) := by decide +kernel
theorem dL_moves_302 : decode cL_moves 302 = .ok (.iconst 1, 1) := by decide +kernel
theorem dL_moves_303 : decode cL_moves 303 = .ok (.goto 4, 3) := by decide +kernel
theorem dL_moves_306 : decode cL_moves 306 = .ok (.iconst 0, 1) := by decide +kernel
theorem dL_moves_307 : decode cL_moves 307 = .ok (.ireturn, 1) := by decide +kernel
theorem dL_moves_308 : decode cL_moves 308 = .ok (.aload_n 0, 1) := by decide +kernel
theorem dL_moves_309 : decode cL_moves 309 = .ok (.bipush 9, 2) := by decide +kernel
theorem dL_moves_311 : decode cL_moves 311 = .ok (.invokevirtual 13, 3) := by decide +kernel
theorem dL_moves_314 : decode cL_moves 314 = .ok (.ifCond .eq 12, 3) := by decide +kernel
theorem dL_moves_317 : decode cL_moves 317 = .ok (.aload_n 0, 1) := by decide +kernel
theorem dL_moves_318 : decode cL_moves 318 = .ok (.bipush 7, 2) := by decide +kernel
theorem dL_moves_320 : decode cL_moves 320 = .ok (.invokevirtual 13, 3) := by decide +kernel
theorem dL_moves_323 : decode cL_moves 323 = .ok (.ifCond .ne 38, 3) := by decide +kernel
theorem dL_moves_326 : decode cL_moves 326 = .ok (.aload_n 0, 1) := by decide +kernel
theorem dL_moves_327 : decode cL_moves 327 = .ok (.aload_n 0, 1) := by decide +kernel
theorem dL_moves_328 : decode cL_moves 328 = .ok (.bipush 9, 2) := by decide +kernel
theorem dL_moves_330 : decode cL_moves 330 = .ok (.invokevirtual 13, 3) := by decide +kernel
theorem dL_moves_333 : decode cL_moves 333 = .ok (.invokevirtual 58, 3) := by decide +kernel
theorem dL_moves_336 : decode cL_moves 336 = .ok (.iconst (-1), 1) := by decide +kernel
theorem dL_moves_337 : decode cL_moves 337 = .ok (.if_icmp .ne 22, 3) := by decide +kernel
theorem dL_moves_340 : decode cL_moves 340 = .ok (.aload_n 0, 1) := by decide +kernel
theorem dL_moves_341 : decode cL_moves 341 = .ok (.aload_n 0, 1) := by decide +kernel
theorem dL_moves_342 : decode cL_moves 342 = .ok (.bipush 7, 2) := by decide +kernel
theorem dL_moves_344 : decode cL_moves 344 = .ok (.invokevirtual 13, 3) := by decide +kernel
theorem dL_moves_347 : decode cL_moves 347 = .ok (.iconst 0, 1) := by decide +kernel
theorem dL_moves_348 : decode cL_moves 348 = .ok (.invokevirtual 61, 3) := by decide +kernel
theorem dL_moves_351 : decode cL_moves 351 = .ok (.iconst (-1), 1) := by decide +kernel
theorem dL_moves_352 : decode cL_moves 352 = .ok (.if_icmp .ne 7, 3) := by decide +kernel
theorem dL_moves_355 : decode cL_moves 355 = .ok (.iconst 1, 1) := by decide +kernel
theorem dL_moves_356 : decode cL_moves 356 = .ok (.goto 4, 3) := by decide +kernel
theorem dL_moves_359 : decode cL_moves 359 = .ok (.iconst 0, 1) := by decide +kernel
theorem dL_moves_360 : decode cL_moves 360 = .ok (.ireturn, 1) := by decide +kernel
theorem dL_moves_361 : decode cL_moves 361 = .ok (.iload_n 3, 1) := by decide +kernel
theorem dL_moves_362 : decode cL_moves 362 = .ok (.aload_n 0, 1) := by decide +kernel
theorem dL_moves_363 : decode cL_moves 363 = .ok (.bipush 9, 2) := by decide +kernel
theorem dL_moves_365 : decode cL_moves 365 = .ok (.invokevirtual 13, 3) := by decide +kernel
theorem dL_moves_368 : decode cL_moves 368 = .ok (.invokestatic 52, 3) := by decide +kernel
theorem dL_moves_371 : decode cL_moves 371 = .ok (.istore 5, 2) := by decide +kernel
theorem dL_moves_373 : decode cL_moves 373 = .ok (.aload_n 0, 1) := by decide +kernel
theorem dL_moves_374 : decode cL_moves 374 = .ok (.iload 5, 2) := by decide +kernel
theorem dL_moves_376 : decode cL_moves 376 = .ok (.iconst 4, 1) := by decide +kernel
theorem dL_moves_377 : decode cL_moves 377 = .ok (.invokevirtual 23, 3) := by decide +kernel
theorem dL_moves_380 : decode cL_moves 380 = .ok (.istore 6, 2) := by decide +kernel
theorem dL_moves_382 : decode cL_moves 382 = .ok (.iload_n 1, 1) := by decide +kernel
theorem dL_moves_383 : decode cL_moves 383 = .ok (.iconst 2, 1) := by decide +kernel
theorem dL_moves_384 : decode cL_moves 384 = .ok (.if_icmp .ne 70, 3) := by decide +kernel
theorem dL_moves_387 : decode cL_moves 387 = .ok (.aload_n 0, 1) := by decide +kernel
theorem dL_moves_388 : decode cL_moves 388 = .ok (.iload 5, 2) := by decide +kernel
theorem dL_moves_390 : decode cL_moves 390 = .ok (.invokevirtual 58, 3) := by decide +kernel
theorem dL_moves_393 : decode cL_moves 393 = .ok (.iload 6, 2) := by decide +kernel
theorem dL_moves_395 : decode cL_moves 395 = .ok (.ifCond .ge 8, 3) := by decide +kernel
theorem dL_moves_398 : decode cL_moves 398 = .ok (.bipush (-5), 2) := by decide +kernel
theorem dL_moves_400 : decode cL_moves 400 = .ok (.goto 5, 3) := by decide +kernel
theorem dL_moves_403 : decode cL_moves 403 = .ok (.iload 6, 2) := by decide +kernel
theorem dL_moves_405 : decode cL_moves 405 = .ok (.if_icmp .ne 47, 3) := by decide +kernel
theorem dL_moves_408 : decode cL_moves 408 = .ok (.aload_n 0, 1) := by decide +kernel
theorem dL_moves_409 : decode cL_moves 409 = .ok (.iload 5, 2) := by decide +kernel
theorem dL_moves_411 : decode cL_moves 411 = .ok (.iconst 4, 1) := by decide +kernel
theorem dL_moves_412 : decode cL_moves 412 = .ok (.invokevirtual 23, 3) := by decide +kernel
theorem dL_moves_415 : decode cL_moves 415 = .ok (.bipush (-5), 2) := by decide +kernel
theorem dL_moves_417 : decode cL_moves 417 = .ok (.if_icmp .ne 35, 3) := by decide +kernel
theorem dL_moves_420 : decode cL_moves 420 = .ok (.iload 6, 2) := by decide +kernel
theorem dL_moves_422 : decode cL_moves 422 = .ok (.ifCond .lt 26, 3) := by decide +kernel
theorem dL_moves_425 : decode cL_moves 425 = .ok (.aload_n 0, 1) := by decide +kernel
theorem dL_moves_426 : decode cL_moves 426 = .ok (.iload 6, 2) := by decide +kernel
theorem dL_moves_428 : decode cL_moves 428 = .ok (.iconst 5, 1) := by decide +kernel
theorem dL_moves_429 : decode cL_moves 429 = .ok (.invokevirtual 19, 3) := by decide +kernel
theorem dL_moves_432 : decode cL_moves 432 = .ok (.bipush (-5), 2) := by decide +kernel
theorem dL_moves_434 : decode cL_moves 434 = .ok (.if_icmp .ne 18, 3) := by decide +kernel
theorem dL_moves_437 : decode cL_moves 437 = .ok (.aload_n 0, 1) := by decide +kernel
theorem dL_moves_438 : decode cL_moves 438 = .ok (.iload 6, 2) := by decide +kernel
theorem dL_moves_440 : decode cL_moves 440 = .ok (.bipush 6, 2) := by decide +kernel
theorem dL_moves_442 : decode cL_moves 442 = .ok (.invokevirtual 19, 3) := by decide +kernel
theorem dL_moves_445 : decode cL_moves 445 = .ok (.ifCond .ne 7, 3) := by decide +kernel
theorem dL_moves_448 : decode cL_moves 448 = .ok (.iconst 1, 1) := by decide +kernel
theorem dL_moves_449 : decode cL_moves 449 = .ok (.goto 4, 3) := by decide +kernel
theorem dL_moves_452 : decode cL_moves 452 = .ok (.iconst 0, 1) := by decide +kernel
theorem dL_moves_453 : decode cL_moves 453 = .ok (.ireturn, 1) := by decide +kernel
theorem dL_moves_454 : decode cL_moves 454 = .ok (.iload_n 2, 1) := by decide +kernel
theorem dL_moves_455 : decode cL_moves 455 = .ok (.aload_n 0, 1) := by decide +kernel
theorem dL_moves_456 : decode cL_moves 456 = .ok (.bipush 7, 2) := by decide +kernel
theorem dL_moves_458 : decode cL_moves 458 = .ok (.invokevirtual 13, 3) := by decide +kernel
theorem dL_moves_461 : decode cL_moves 461 = .ok (.invokestatic 52, 3) := by decide +kernel
theorem dL_moves_464 : decode cL_moves 464 = .ok (.istore 7, 2) := by decide +kernel
theorem dL_moves_466 : decode cL_moves 466 = .ok (.aload_n 0, 1) := by decide +kernel
theorem dL_moves_467 : decode cL_moves 467 = .ok (.iload 7, 2) := by decide +kernel
theorem dL_moves_469 : decode cL_moves 469 = .ok (.iconst 5, 1) := by decide +kernel
theorem dL_moves_470 : decode cL_moves 470 = .ok (.invokevirtual 19, 3) := by decide +kernel
theorem dL_moves_473 : decode cL_moves 473 = .ok (.bipush (-5), 2) := by decide +kernel
theorem dL_moves_475 : decode cL_moves 475 = .ok (.if_icmp .ne 44, 3) := by decide +kernel
theorem dL_moves_478 : decode cL_moves 478 = .ok (.iload 6, 2) := by decide +kernel
theorem dL_moves_480 : decode cL_moves 480 = .ok (.ifCond .ge 39, 3) := by decide +kernel
theorem dL_moves_483 : decode cL_moves 483 = .ok (.aload_n 0, 1) := by decide +kernel
theorem dL_moves_484 : decode cL_moves 484 = .ok (.iconst 0, 1) := by decide +kernel
theorem dL_moves_485 : decode cL_moves 485 = .ok (.invokevirtual 13, 3) := by decide +kernel
theorem dL_moves_488 : decode cL_moves 488 = .ok (.aload_n 0, 1) := by decide +kernel
theorem dL_moves_489 : decode cL_moves 489 = .ok (.iload 5, 2) := by decide +kernel
theorem dL_moves_491 : decode cL_moves 491 = .ok (.iconst 3, 1) := by decide +kernel
theorem dL_moves_492 : decode cL_moves 492 = .ok (.invokevirtual 23, 3) := by decide +kernel
theorem dL_moves_495 : decode cL_moves 495 = .ok (.if_icmp .ge 24, 3) := by decide +kernel
theorem dL_moves_498 : decode cL_moves 498 = .ok (.aload_n 0, 1) := by decide +kernel
theorem dL_moves_499 : decode cL_moves 499 = .ok (.iload 7, 2) := by decide +kernel
theorem dL_moves_501 : decode cL_moves 501 = .ok (.iconst 0, 1) := by decide +kernel
theorem dL_moves_502 : decode cL_moves 502 = .ok (.invokevirtual 19, 3) := by decide +kernel
theorem dL_moves_505 : decode cL_moves 505 = .ok (.aload_n 0, 1) := by decide +kernel
theorem dL_moves_506 : decode cL_moves 506 = .ok (.iload 5, 2) := by decide +kernel
theorem dL_moves_508 : decode cL_moves 508 = .ok (.iconst 1, 1) := by decide +kernel
theorem dL_moves_509 : decode cL_moves 509 = .ok (.invokevirtual 23, 3) := by decide +kernel
theorem dL_moves_512 : decode cL_moves 512 = .ok (.if_icmp .lt 7, 3) := by decide +kernel
theorem dL_moves_515 : decode cL_moves 515 = .ok (.iconst 1, 1) := by decide +kernel
theorem dL_moves_516 : decode cL_moves 516 = .ok (.goto 4, 3) := by decide +kernel
theorem dL_moves_519 : decode cL_moves 519 = .ok (.iconst 0, 1) := by decide +kernel
theorem dL_moves_520 : decode cL_moves 520 = .ok (.istore 8, 2) := by decide +kernel
theorem dL_moves_522 : decode cL_moves 522 = .ok (.aload_n 0, 1) := by decide +kernel
theorem dL_moves_523 : decode cL_moves 523 = .ok (.iload 7, 2) := by decide +kernel
theorem dL_moves_525 : decode cL_moves 525 = .ok (.iload 5, 2) := by decide +kernel
theorem dL_moves_527 : decode cL_moves 527 = .ok (.invokevirtual 61, 3) := by decide +kernel
theorem dL_moves_530 : decode cL_moves 530 = .ok (.iload 8, 2) := by decide +kernel
theorem dL_moves_532 : decode cL_moves 532 = .ok (.ifCond .eq 10, 3) := by decide +kernel
theorem dL_moves_535 : decode cL_moves 535 = .ok (.iload 4, 2) := by decide +kernel
theorem dL_moves_537 : decode cL_moves 537 = .ok (.iconst 1, 1) := by decide +kernel
theorem dL_moves_538 : decode cL_moves 538 = .ok (.isub, 1) := by decide +kernel
theorem dL_moves_539 : decode cL_moves 539 = .ok (.goto 5, 3) := by decide +kernel
theorem dL_moves_542 : decode cL_moves 542 = .ok (.bipush (-4), 2) := by decide +kernel
theorem dL_moves_544 : decode cL_moves 544 = .ok (.if_icmp .ne 24, 3) := by decide +kernel
theorem dL_moves_547 : decode cL_moves 547 = .ok (.iload 8, 2) := by decide +kernel
theorem dL_moves_549 : decode cL_moves 549 = .ok (.ifCond .eq 15, 3) := by decide +kernel
theorem dL_moves_552 : decode cL_moves 552 = .ok (.aload_n 0, 1) := by decide +kernel
theorem dL_moves_553 : decode cL_moves 553 = .ok (.iload 5, 2) := by decide +kernel
theorem dL_moves_555 : decode cL_moves 555 = .ok (.iconst 4, 1) := by decide +kernel
theorem dL_moves_556 : decode cL_moves 556 = .ok (.invokevirtual 23, 3) := by decide +kernel
theorem dL_moves_559 : decode cL_moves 559 = .ok (.iload 7, 2) := by decide +kernel
theorem dL_moves_561 : decode cL_moves 561 = .ok (.if_icmp .ne 7, 3) := by decide +kernel
theorem dL_moves_564 : decode cL_moves 564 = .ok (.iconst 1, 1) := by decide +kernel
theorem dL_moves_565 : decode cL_moves 565 = .ok (.goto 4, 3) := by decide +kernel
theorem dL_moves_568 : decode cL_moves 568 = .ok (.iconst 0, 1) := by decide +kernel
theorem dL_moves_569 : decode cL_moves 569 = .ok (.ireturn, 1) := by decide +kernel
theorem dL_law_0 : decode cL_law 0 = .ok (.new 14, 3) := by decide +kernel
theorem dL_law_3 : decode cL_law 3 = .ok (.dup, 1) := by decide +kernel
theorem dL_law_4 : decode cL_law 4 = .ok (.invokespecial 100, 3) := by decide +kernel
theorem dL_law_7 : decode cL_law 7 = .ok (.astore_n 1, 1) := by decide +kernel
theorem dL_law_8 : decode cL_law 8 = .ok (.aload_n 1, 1) := by decide +kernel
theorem dL_law_9 : decode cL_law 9 = .ok (.invokevirtual 101, 3) := by decide +kernel
theorem dL_law_12 : decode cL_law 12 = .ok (.bipush (-5), 2) := by decide +kernel
theorem dL_law_14 : decode cL_law 14 = .ok (.if_icmp .ne 68, 3) := by decide +kernel
theorem dL_law_17 : decode cL_law 17 = .ok (.aload_n 1, 1) := by decide +kernel
theorem dL_law_18 : decode cL_law 18 = .ok (.invokevirtual 97, 3) := by decide +kernel
theorem dL_law_21 : decode cL_law 21 = .ok (.bipush (-5), 2) := by decide +kernel
theorem dL_law_23 : decode cL_law 23 = .ok (.if_icmp .ne 59, 3) := by decide +kernel
theorem dL_law_26 : decode cL_law 26 = .ok (.aload_n 1, 1) := by decide +kernel
theorem dL_law_27 : decode cL_law 27 = .ok (.invokevirtual 104, 3) := by decide +kernel
theorem dL_law_30 : decode cL_law 30 = .ok (.bipush (-100), 2) := by decide +kernel
theorem dL_law_32 : decode cL_law 32 = .ok (.if_icmp .ne 50, 3) := by decide +kernel
theorem dL_law_35 : decode cL_law 35 = .ok (.aload_n 1, 1) := by decide +kernel
theorem dL_law_36 : decode cL_law 36 = .ok (.invokevirtual 55, 3) := by decide +kernel
theorem dL_law_39 : decode cL_law 39 = .ok (.bipush (-5), 2) := by decide +kernel
theorem dL_law_41 : decode cL_law 41 = .ok (.if_icmp .ne 41, 3) := by decide +kernel
theorem dL_law_44 : decode cL_law 44 = .ok (.aload_n 1, 1) := by decide +kernel
theorem dL_law_45 : decode cL_law 45 = .ok (.invokevirtual 44, 3) := by decide +kernel
theorem dL_law_48 : decode cL_law 48 = .ok (.bipush (-5), 2) := by decide +kernel
theorem dL_law_50 : decode cL_law 50 = .ok (.if_icmp .ne 32, 3) := by decide +kernel
theorem dL_law_53 : decode cL_law 53 = .ok (.aload_n 1, 1) := by decide +kernel
theorem dL_law_54 : decode cL_law 54 = .ok (.invokevirtual 71, 3) := by decide +kernel
theorem dL_law_57 : decode cL_law 57 = .ok (.bipush (-5), 2) := by decide +kernel
theorem dL_law_59 : decode cL_law 59 = .ok (.if_icmp .ne 23, 3) := by decide +kernel
theorem dL_law_62 : decode cL_law 62 = .ok (.aload_n 1, 1) := by decide +kernel
theorem dL_law_63 : decode cL_law 63 = .ok (.iconst 0, 1) := by decide +kernel
theorem dL_law_64 : decode cL_law 64 = .ok (.invokevirtual 26, 3) := by decide +kernel
theorem dL_law_67 : decode cL_law 67 = .ok (.iconst (-1), 1) := by decide +kernel
theorem dL_law_68 : decode cL_law 68 = .ok (.if_icmp .ne 14, 3) := by decide +kernel
theorem dL_law_71 : decode cL_law 71 = .ok (.aload_n 1, 1) := by decide +kernel
theorem dL_law_72 : decode cL_law 72 = .ok (.iconst 1, 1) := by decide +kernel
theorem dL_law_73 : decode cL_law 73 = .ok (.iconst 3, 1) := by decide +kernel
theorem dL_law_74 : decode cL_law 74 = .ok (.invokevirtual 29, 3) := by decide +kernel
theorem dL_law_77 : decode cL_law 77 = .ok (.bipush (-5), 2) := by decide +kernel
theorem dL_law_79 : decode cL_law 79 = .ok (.if_icmp .eq 5, 3) := by decide +kernel
theorem dL_law_82 : decode cL_law 82 = .ok (.iconst 0, 1) := by decide +kernel
theorem dL_law_83 : decode cL_law 83 = .ok (.ireturn, 1) := by decide +kernel
theorem dL_law_84 : decode cL_law 84 = .ok (.iconst 0, 1) := by decide +kernel
theorem dL_law_85 : decode cL_law 85 = .ok (.istore_n 2, 1) := by decide +kernel
theorem dL_law_86 : decode cL_law 86 = .ok (.iload_n 2, 1) := by decide +kernel
theorem dL_law_87 : decode cL_law 87 = .ok (.bipush 28, 2) := by decide +kernel
theorem dL_law_89 : decode cL_law 89 = .ok (.if_icmp .ge 322, 3) := by decide +kernel
theorem dL_law_92 : decode cL_law 92 = .ok (.aload_n 0, 1) := by decide +kernel
theorem dL_law_93 : decode cL_law 93 = .ok (.iconst 2, 1) := by decide +kernel
theorem dL_law_94 : decode cL_law 94 = .ok (.iload_n 2, 1) := by decide +kernel
theorem dL_law_95 : decode cL_law 95 = .ok (.imul, 1) := by decide +kernel
theorem dL_law_96 : decode cL_law 96 = .ok (.invokestatic 107, 3) := by decide +kernel
theorem dL_law_99 : decode cL_law 99 = .ok (.istore_n 3, 1) := by decide +kernel
theorem dL_law_100 : decode cL_law 100 = .ok (.aload_n 0, 1) := by decide +kernel
theorem dL_law_101 : decode cL_law 101 = .ok (.iconst 2, 1) := by decide +kernel
theorem dL_law_102 : decode cL_law 102 = .ok (.iload_n 2, 1) := by decide +kernel
theorem dL_law_103 : decode cL_law 103 = .ok (.imul, 1) := by decide +kernel
theorem dL_law_104 : decode cL_law 104 = .ok (.iconst 1, 1) := by decide +kernel
theorem dL_law_105 : decode cL_law 105 = .ok (.iadd, 1) := by decide +kernel
theorem dL_law_106 : decode cL_law 106 = .ok (.invokestatic 107, 3) := by decide +kernel
theorem dL_law_109 : decode cL_law 109 = .ok (.istore 4, 2) := by decide +kernel
theorem dL_law_111 : decode cL_law 111 = .ok (.iload_n 2, 1) := by decide +kernel
theorem dL_law_112 : decode cL_law 112 = .ok (.iconst 3, 1) := by decide +kernel
theorem dL_law_113 : decode cL_law 113 = .ok (.if_icmp .ge 8, 3) := by decide +kernel
theorem dL_law_116 : decode cL_law 116 = .ok (.bipush 9, 2) := by decide +kernel
theorem dL_law_118 : decode cL_law 118 = .ok (.goto 23, 3) := by decide +kernel
theorem dL_law_121 : decode cL_law 121 = .ok (.iload_n 2, 1) := by decide +kernel
theorem dL_law_122 : decode cL_law 122 = .ok (.bipush 6, 2) := by decide +kernel
theorem dL_law_124 : decode cL_law 124 = .ok (.if_icmp .ge 8, 3) := by decide +kernel
theorem dL_law_127 : decode cL_law 127 = .ok (.bipush 11, 2) := by decide +kernel
theorem dL_law_129 : decode cL_law 129 = .ok (.goto 12, 3) := by decide +kernel
theorem dL_law_132 : decode cL_law 132 = .ok (.iload_n 3, 1) := by decide +kernel
theorem dL_law_133 : decode cL_law 133 = .ok (.bipush 9, 2) := by decide +kernel
theorem dL_law_135 : decode cL_law 135 = .ok (.ishr, 1) := by decide +kernel
theorem dL_law_136 : decode cL_law 136 = .ok (.bipush 20, 2) := by decide +kernel
theorem dL_law_138 : decode cL_law 138 = .ok (.invokestatic 52, 3) := by decide +kernel
theorem dL_law_141 : decode cL_law 141 = .ok (.istore 5, 2) := by decide +kernel
theorem dL_law_143 : decode cL_law 143 = .ok (.aload_n 1, 1) := by decide +kernel
theorem dL_law_144 : decode cL_law 144 = .ok (.bipush 15, 2) := by decide +kernel
theorem dL_law_146 : decode cL_law 146 = .ok (.invokevirtual 13, 3) := by decide +kernel
theorem dL_law_149 : decode cL_law 149 = .ok (.istore 6, 2) := by decide +kernel
theorem dL_law_151 : decode cL_law 151 = .ok (.aload_n 1, 1) := by decide +kernel
theorem dL_law_152 : decode cL_law 152 = .ok (.invokestatic 93, 3) := by decide +kernel
theorem dL_law_155 : decode cL_law 155 = .ok (.lstore 7, 2) := by decide +kernel
theorem dL_law_157 : decode cL_law 157 = .ok (.iconst 1, 1) := by decide +kernel
theorem dL_law_158 : decode cL_law 158 = .ok (.istore 9, 2) := by decide +kernel
theorem dL_law_160 : decode cL_law 160 = .ok (.iload 5, 2) := by decide +kernel
theorem dL_law_162 : decode cL_law 162 = .ok (.iconst 4, 1) := by decide +kernel
theorem dL_law_163 : decode cL_law 163 = .ok (.if_icmp .ge 17, 3) := by decide +kernel
theorem dL_law_166 : decode cL_law 166 = .ok (.aload_n 1, 1) := by decide +kernel
theorem dL_law_167 : decode cL_law 167 = .ok (.iload 5, 2) := by decide +kernel
theorem dL_law_169 : decode cL_law 169 = .ok (.iload_n 3, 1) := by decide +kernel
theorem dL_law_170 : decode cL_law 170 = .ok (.iload 4, 2) := by decide +kernel
theorem dL_law_172 : decode cL_law 172 = .ok (.invokestatic 111, 3) := by decide +kernel
theorem dL_law_175 : decode cL_law 175 = .ok (.istore 9, 2) := by decide +kernel
theorem dL_law_177 : decode cL_law 177 = .ok (.goto 112, 3) := by decide +kernel
theorem dL_law_180 : decode cL_law 180 = .ok (.iload 5, 2) := by decide +kernel
theorem dL_law_182 : decode cL_law 182 = .ok (.bipush 7, 2) := by decide +kernel
theorem dL_law_184 : decode cL_law 184 = .ok (.if_icmp .ge 17, 3) := by decide +kernel
theorem dL_law_187 : decode cL_law 187 = .ok (.aload_n 1, 1) := by decide +kernel
theorem dL_law_188 : decode cL_law 188 = .ok (.iload 5, 2) := by decide +kernel
theorem dL_law_190 : decode cL_law 190 = .ok (.iload_n 3, 1) := by decide +kernel
theorem dL_law_191 : decode cL_law 191 = .ok (.iload 4, 2) := by decide +kernel
theorem dL_law_193 : decode cL_law 193 = .ok (.invokestatic 115, 3) := by decide +kernel
theorem dL_law_196 : decode cL_law 196 = .ok (.istore 9, 2) := by decide +kernel
theorem dL_law_198 : decode cL_law 198 = .ok (.goto 91, 3) := by decide +kernel
theorem dL_law_201 : decode cL_law 201 = .ok (.iload 5, 2) := by decide +kernel
theorem dL_law_203 : decode cL_law 203 = .ok (.bipush 13, 2) := by decide +kernel
theorem dL_law_205 : decode cL_law 205 = .ok (.if_icmp .ge 17, 3) := by decide +kernel
theorem dL_law_208 : decode cL_law 208 = .ok (.aload_n 1, 1) := by decide +kernel
theorem dL_law_209 : decode cL_law 209 = .ok (.iload 5, 2) := by decide +kernel
theorem dL_law_211 : decode cL_law 211 = .ok (.iload_n 3, 1) := by decide +kernel
theorem dL_law_212 : decode cL_law 212 = .ok (.iload 4, 2) := by decide +kernel
theorem dL_law_214 : decode cL_law 214 = .ok (.invokestatic 118, 3) := by decide +kernel
theorem dL_law_217 : decode cL_law 217 = .ok (.istore 9, 2) := by decide +kernel
theorem dL_law_219 : decode cL_law 219 = .ok (.goto 70, 3) := by decide +kernel
theorem dL_law_222 : decode cL_law 222 = .ok (.iload 5, 2) := by decide +kernel
theorem dL_law_224 : decode cL_law 224 = .ok (.bipush 17, 2) := by decide +kernel
theorem dL_law_226 : decode cL_law 226 = .ok (.if_icmp .ge 30, 3) := by decide +kernel
theorem dL_law_229 : decode cL_law 229 = .ok (.aload_n 1, 1) := by decide +kernel
theorem dL_law_230 : decode cL_law 230 = .ok (.iconst 1, 1) := by decide +kernel
theorem dL_law_231 : decode cL_law 231 = .ok (.iload 4, 2) := by decide +kernel
theorem dL_law_233 : decode cL_law 233 = .ok (.iconst 5, 1) := by decide +kernel
theorem dL_law_234 : decode cL_law 234 = .ok (.invokestatic 52, 3) := by decide +kernel
theorem dL_law_237 : decode cL_law 237 = .ok (.iadd, 1) := by decide +kernel
theorem dL_law_238 : decode cL_law 238 = .ok (.iconst 1, 1) := by decide +kernel
theorem dL_law_239 : decode cL_law 239 = .ok (.iload 4, 2) := by decide +kernel
theorem dL_law_241 : decode cL_law 241 = .ok (.iconst 4, 1) := by decide +kernel
theorem dL_law_242 : decode cL_law 242 = .ok (.ishr, 1) := by decide +kernel
theorem dL_law_243 : decode cL_law 243 = .ok (.iconst 5, 1) := by decide +kernel
theorem dL_law_244 : decode cL_law 244 = .ok (.invokestatic 52, 3) := by decide +kernel
theorem dL_law_247 : decode cL_law 247 = .ok (.iadd, 1) := by decide +kernel
theorem dL_law_248 : decode cL_law 248 = .ok (.invokestatic 121, 3) := by decide +kernel
theorem dL_law_251 : decode cL_law 251 = .ok (.istore 9, 2) := by decide +kernel
theorem dL_law_253 : decode cL_law 253 = .ok (.goto 36, 3) := by decide +kernel
theorem dL_law_256 : decode cL_law 256 = .ok (.iload 5, 2) := by decide +kernel
theorem dL_law_258 : decode cL_law 258 = .ok (.bipush 17, 2) := by decide +kernel
theorem dL_law_260 : decode cL_law 260 = .ok (.if_icmp .ne 15, 3) := by decide +kernel
theorem dL_law_263 : decode cL_law 263 = .ok (.aload_n 1, 1) := by decide +kernel
theorem dL_law_264 : decode cL_law 264 = .ok (.bipush 6, 2) := by decide +kernel
theorem dL_law_266 : decode cL_law 266 = .ok (.iload_n 3, 1) := by decide +kernel
theorem dL_law_267 : decode cL_law 267 = .ok (.iload 4, 2) := by decide +kernel
theorem dL_law_269 : decode cL_law 269 = .ok (.invokestatic 115, 3) := by decide +kernel
theorem dL_law_272 : decode cL_law 272 = .ok (.goto 15, 3) := by decide +kernel
theorem dL_law_275 : decode cL_law 275 = .ok (.aload_n 1, 1) := by decide +kernel
theorem dL_law_276 : decode cL_law 276 = .ok (.iload 5, 2) := by decide +kernel
theorem dL_law_278 : decode cL_law 278 = .ok (.bipush 18, 2) := by decide +kernel
theorem dL_law_280 : decode cL_law 280 = .ok (.isub, 1) := by decide +kernel
theorem dL_law_281 : decode cL_law 281 = .ok (.iload_n 3, 1) := by decide +kernel
theorem dL_law_282 : decode cL_law 282 = .ok (.iload 4, 2) := by decide +kernel
theorem dL_law_284 : decode cL_law 284 = .ok (.invokestatic 111, 3) := by decide +kernel
theorem dL_law_287 : decode cL_law 287 = .ok (.istore 9, 2) := by decide +kernel
theorem dL_law_289 : decode cL_law 289 = .ok (.iload 6, 2) := by decide +kernel
theorem dL_law_291 : decode cL_law 291 = .ok (.iconst 5, 1) := by decide +kernel
theorem dL_law_292 : decode cL_law 292 = .ok (.if_icmp .ne 7, 3) := by decide +kernel
theorem dL_law_295 : decode cL_law 295 = .ok (.iconst 4, 1) := by decide +kernel
theorem dL_law_296 : decode cL_law 296 = .ok (.goto 5, 3) := by decide +kernel
theorem dL_law_299 : decode cL_law 299 = .ok (.iload 6, 2) := by decide +kernel
theorem dL_law_301 : decode cL_law 301 = .ok (.istore 10, 2) := by decide +kernel
theorem dL_law_303 : decode cL_law 303 = .ok (.iload 9, 2) := by decide +kernel
theorem dL_law_305 : decode cL_law 305 = .ok (.ifCond .eq 79, 3) := by decide +kernel
theorem dL_law_308 : decode cL_law 308 = .ok (.iload 5, 2) := by decide +kernel
theorem dL_law_310 : decode cL_law 310 = .ok (.bipush 13, 2) := by decide +kernel
theorem dL_law_312 : decode cL_law 312 = .ok (.if_icmp .lt 10, 3) := by decide +kernel
theorem dL_law_315 : decode cL_law 315 = .ok (.iload 5, 2) := by decide +kernel
theorem dL_law_317 : decode cL_law 317 = .ok (.bipush 16, 2) := by decide +kernel
theorem dL_law_319 : decode cL_law 319 = .ok (.if_icmp .le 65, 3) := by decide +kernel
theorem dL_law_322 : decode cL_law 322 = .ok (.iload 4, 2) := by decide +kernel
theorem dL_law_324 : decode cL_law 324 = .ok (.sipush 3072, 3) := by decide +kernel
theorem dL_law_327 : decode cL_law 327 = .ok (.iand, 1) := by decide +kernel
theorem dL_law_328 : decode cL_law 328 = .ok (.ifCond .ne 56, 3) := by decide +kernel
theorem dL_law_331 : decode cL_law 331 = .ok (.aload_n 1, 1) := by decide +kernel
theorem dL_law_332 : decode cL_law 332 = .ok (.bipush 15, 2) := by decide +kernel
theorem dL_law_334 : decode cL_law 334 = .ok (.invokevirtual 13, 3) := by decide +kernel
theorem dL_law_337 : decode cL_law 337 = .ok (.iload 6, 2) := by decide +kernel
theorem dL_law_339 : decode cL_law 339 = .ok (.if_icmp .ne 19, 3) := by decide +kernel
theorem dL_law_342 : decode cL_law 342 = .ok (.iload 6, 2) := by decide +kernel
theorem dL_law_344 : decode cL_law 344 = .ok (.iconst 5, 1) := by decide +kernel
theorem dL_law_345 : decode cL_law 345 = .ok (.if_icmp .ne 39, 3) := by decide +kernel
theorem dL_law_348 : decode cL_law 348 = .ok (.aload_n 1, 1) := by decide +kernel
theorem dL_law_349 : decode cL_law 349 = .ok (.invokestatic 93, 3) := by decide +kernel
theorem dL_law_352 : decode cL_law 352 = .ok (.lload 7, 2) := by decide +kernel
theorem dL_law_354 : decode cL_law 354 = .ok (.lcmp, 1) := by decide +kernel
theorem dL_law_355 : decode cL_law 355 = .ok (.ifCond .eq 29, 3) := by decide +kernel
theorem dL_law_358 : decode cL_law 358 = .ok (.aload_n 1, 1) := by decide +kernel
theorem dL_law_359 : decode cL_law 359 = .ok (.invokevirtual 101, 3) := by decide +kernel
theorem dL_law_362 : decode cL_law 362 = .ok (.iload 10, 2) := by decide +kernel
theorem dL_law_364 : decode cL_law 364 = .ok (.if_icmp .ne 17, 3) := by decide +kernel
theorem dL_law_367 : decode cL_law 367 = .ok (.aload_n 1, 1) := by decide +kernel
theorem dL_law_368 : decode cL_law 368 = .ok (.invokestatic 93, 3) := by decide +kernel
theorem dL_law_371 : decode cL_law 371 = .ok (.lload 7, 2) := by decide +kernel
theorem dL_law_373 : decode cL_law 373 = .ok (.lcmp, 1) := by decide +kernel
theorem dL_law_374 : decode cL_law 374 = .ok (.ifCond .ne 7, 3) := by decide +kernel
theorem dL_law_377 : decode cL_law 377 = .ok (.iconst 1, 1) := by decide +kernel
theorem dL_law_378 : decode cL_law 378 = .ok (.goto 4, 3) := by decide +kernel
theorem dL_law_381 : decode cL_law 381 = .ok (.iconst 0, 1) := by decide +kernel
theorem dL_law_382 : decode cL_law 382 = .ok (.istore 9, 2) := by decide +kernel
theorem dL_law_384 : decode cL_law 384 = .ok (.iload 9, 2) := by decide +kernel
theorem dL_law_386 : decode cL_law 386 = .ok (.ifCond .eq 17, 3) := by decide +kernel
theorem dL_law_389 : decode cL_law 389 = .ok (.aload_n 1, 1) := by decide +kernel
theorem dL_law_390 : decode cL_law 390 = .ok (.invokestatic 124, 3) := by decide +kernel
theorem dL_law_393 : decode cL_law 393 = .ok (.ifCond .eq 10, 3) := by decide +kernel
theorem dL_law_396 : decode cL_law 396 = .ok (.aload_n 1, 1) := by decide +kernel
theorem dL_law_397 : decode cL_law 397 = .ok (.invokestatic 128, 3) := by decide +kernel
theorem dL_law_400 : decode cL_law 400 = .ok (.ifCond .ne 5, 3) := by decide +kernel
theorem dL_law_403 : decode cL_law 403 = .ok (.iconst 0, 1) := by decide +kernel
theorem dL_law_404 : decode cL_law 404 = .ok (.ireturn, 1) := by decide +kernel
theorem dL_law_405 : decode cL_law 405 = .ok (.iinc 2 1, 3) := by decide +kernel
theorem dL_law_408 : decode cL_law 408 = .ok (.goto (-322), 3) := by decide +kernel
theorem dL_law_411 : decode cL_law 411 = .ok (.iconst 1, 1) := by decide +kernel
theorem dL_law_412 : decode cL_law 412 = .ok (.ireturn, 1) := by decide +kernel
