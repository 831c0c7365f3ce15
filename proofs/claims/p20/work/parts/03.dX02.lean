theorem dX3_isAct_96 : decode cX3_isAct 96 = .ok (.iload_n 1, 1) := by decide +kernel
theorem dX3_isAct_97 : decode cX3_isAct 97 = .ok (.invokestatic 23, 3) := by decide +kernel
theorem dX3_isAct_100 : decode cX3_isAct 100 = .ok (.ifCond .eq 26, 3) := by decide +kernel
theorem dX3_isAct_103 : decode cX3_isAct 103 = .ok (.iload_n 2, 1) := by decide +kernel
theorem dX3_isAct_104 : decode cX3_isAct 104 = .ok (.invokestatic 27, 3) := by decide +kernel
theorem dX3_isAct_107 : decode cX3_isAct 107 = .ok (.ifCond .eq 19, 3) := by decide +kernel
theorem dX3_isAct_110 : decode cX3_isAct 110 = .ok (.iload_n 3, 1) := by decide +kernel
theorem dX3_isAct_111 : decode cX3_isAct 111 = .ok (.invokestatic 27, 3) := by decide +kernel
theorem dX3_isAct_114 : decode cX3_isAct 114 = .ok (.ifCond .eq 12, 3) := by decide +kernel
theorem dX3_isAct_117 : decode cX3_isAct 117 = .ok (.iload_n 2, 1) := by decide +kernel
theorem dX3_isAct_118 : decode cX3_isAct 118 = .ok (.iload_n 3, 1) := by decide +kernel
theorem dX3_isAct_119 : decode cX3_isAct 119 = .ok (.if_icmp .gt 7, 3) := by decide +kernel
theorem dX3_isAct_122 : decode cX3_isAct 122 = .ok (.iconst 1, 1) := by decide +kernel
theorem dX3_isAct_123 : decode cX3_isAct 123 = .ok (.goto 4, 3) := by decide +kernel
theorem dX3_isAct_126 : decode cX3_isAct 126 = .ok (.iconst 0, 1) := by decide +kernel
theorem dX3_isAct_127 : decode cX3_isAct 127 = .ok (.ireturn, 1) := by decide +kernel
theorem dX3_isAct_128 : decode cX3_isAct 128 = .ok (.iload_n 1, 1) := by decide +kernel
theorem dX3_isAct_129 : decode cX3_isAct 129 = .ok (.invokestatic 23, 3) := by decide +kernel
theorem dX3_isAct_132 : decode cX3_isAct 132 = .ok (.ifCond .eq 21, 3) := by decide +kernel
theorem dX3_isAct_135 : decode cX3_isAct 135 = .ok (.iload_n 2, 1) := by decide +kernel
theorem dX3_isAct_136 : decode cX3_isAct 136 = .ok (.invokestatic 23, 3) := by decide +kernel
theorem dX3_isAct_139 : decode cX3_isAct 139 = .ok (.ifCond .eq 14, 3) := by decide +kernel
theorem dX3_isAct_142 : decode cX3_isAct 142 = .ok (.iload_n 3, 1) := by decide +kernel
theorem dX3_isAct_143 : decode cX3_isAct 143 = .ok (.invokestatic 23, 3) := by decide +kernel
theorem dX3_isAct_146 : decode cX3_isAct 146 = .ok (.ifCond .eq 7, 3) := by decide +kernel
theorem dX3_isAct_149 : decode cX3_isAct 149 = .ok (.iconst 1, 1) := by decide +kernel
theorem dX3_isAct_150 : decode cX3_isAct 150 = .ok (.goto 4, 3) := by decide +kernel
theorem dX3_isAct_153 : decode cX3_isAct 153 = .ok (.iconst 0, 1) := by decide +kernel
theorem dX3_isAct_154 : decode cX3_isAct 154 = .ok (.ireturn, 1) := by decide +kernel
theorem dX3_isAct_155 : decode cX3_isAct 155 = .ok (.iload_n 1, 1) := by decide +kernel
theorem dX3_isAct_156 : decode cX3_isAct 156 = .ok (.invokestatic 30, 3) := by decide +kernel
theorem dX3_isAct_159 : decode cX3_isAct 159 = .ok (.ifCond .eq 21, 3) := by decide +kernel
theorem dX3_isAct_162 : decode cX3_isAct 162 = .ok (.iload_n 2, 1) := by decide +kernel
theorem dX3_isAct_163 : decode cX3_isAct 163 = .ok (.invokestatic 33, 3) := by decide +kernel
theorem dX3_isAct_166 : decode cX3_isAct 166 = .ok (.ifCond .eq 14, 3) := by decide +kernel
theorem dX3_isAct_169 : decode cX3_isAct 169 = .ok (.iload_n 3, 1) := by decide +kernel
theorem dX3_isAct_170 : decode cX3_isAct 170 = .ok (.invokestatic 23, 3) := by decide +kernel
theorem dX3_isAct_173 : decode cX3_isAct 173 = .ok (.ifCond .eq 7, 3) := by decide +kernel
theorem dX3_isAct_176 : decode cX3_isAct 176 = .ok (.iconst 1, 1) := by decide +kernel
theorem dX3_isAct_177 : decode cX3_isAct 177 = .ok (.goto 4, 3) := by decide +kernel
theorem dX3_isAct_180 : decode cX3_isAct 180 = .ok (.iconst 0, 1) := by decide +kernel
theorem dX3_isAct_181 : decode cX3_isAct 181 = .ok (.ireturn, 1) := by decide +kernel
theorem dX3_isAct_182 : decode cX3_isAct 182 = .ok (.iload_n 1, 1) := by decide +kernel
theorem dX3_isAct_183 : decode cX3_isAct 183 = .ok (.invokestatic 30, 3) := by decide +kernel
theorem dX3_isAct_186 : decode cX3_isAct 186 = .ok (.ireturn, 1) := by decide +kernel
theorem dX3_isAct_187 : decode cX3_isAct 187 = .ok (.iload_n 1, 1) := by decide +kernel
theorem dX3_isAct_188 : decode cX3_isAct 188 = .ok (.invokestatic 30, 3) := by decide +kernel
theorem dX3_isAct_191 : decode cX3_isAct 191 = .ok (.ifCond .eq 14, 3) := by decide +kernel
theorem dX3_isAct_194 : decode cX3_isAct 194 = .ok (.iload_n 2, 1) := by decide +kernel
theorem dX3_isAct_195 : decode cX3_isAct 195 = .ok (.invokestatic 30, 3) := by decide +kernel
theorem dX3_isAct_198 : decode cX3_isAct 198 = .ok (.ifCond .eq 7, 3) := by decide +kernel
theorem dX3_isAct_201 : decode cX3_isAct 201 = .ok (.iconst 1, 1) := by decide +kernel
theorem dX3_isAct_202 : decode cX3_isAct 202 = .ok (.goto 4, 3) := by decide +kernel
theorem dX3_isAct_205 : decode cX3_isAct 205 = .ok (.iconst 0, 1) := by decide +kernel
theorem dX3_isAct_206 : decode cX3_isAct 206 = .ok (.ireturn, 1) := by decide +kernel
theorem dX3_isAct_207 : decode cX3_isAct 207 = .ok (.iload_n 1, 1) := by decide +kernel
theorem dX3_isAct_208 : decode cX3_isAct 208 = .ok (.invokestatic 30, 3) := by decide +kernel
theorem dX3_isAct_211 : decode cX3_isAct 211 = .ok (.ifCond .eq 21, 3) := by decide +kernel
theorem dX3_isAct_214 : decode cX3_isAct 214 = .ok (.iload_n 2, 1) := by decide +kernel
theorem dX3_isAct_215 : decode cX3_isAct 215 = .ok (.invokestatic 30, 3) := by decide +kernel
theorem dX3_isAct_218 : decode cX3_isAct 218 = .ok (.ifCond .eq 14, 3) := by decide +kernel
theorem dX3_isAct_221 : decode cX3_isAct 221 = .ok (.iload_n 3, 1) := by decide +kernel
theorem dX3_isAct_222 : decode cX3_isAct 222 = .ok (.invokestatic 30, 3) := by decide +kernel
theorem dX3_isAct_225 : decode cX3_isAct 225 = .ok (.ifCond .eq 7, 3) := by decide +kernel
theorem dX3_isAct_228 : decode cX3_isAct 228 = .ok (.iconst 1, 1) := by decide +kernel
theorem dX3_isAct_229 : decode cX3_isAct 229 = .ok (.goto 4, 3) := by decide +kernel
theorem dX3_isAct_232 : decode cX3_isAct 232 = .ok (.iconst 0, 1) := by decide +kernel
theorem dX3_isAct_233 : decode cX3_isAct 233 = .ok (.ireturn, 1) := by decide +kernel
theorem dX3_isAct_234 : decode cX3_isAct 234 = .ok (.iload_n 1, 1) := by decide +kernel
theorem dX3_isAct_235 : decode cX3_isAct 235 = .ok (.invokestatic 30, 3) := by decide +kernel
theorem dX3_isAct_238 : decode cX3_isAct 238 = .ok (.ifCond .eq 29, 3) := by decide +kernel
theorem dX3_isAct_241 : decode cX3_isAct 241 = .ok (.iload_n 2, 1) := by decide +kernel
theorem dX3_isAct_242 : decode cX3_isAct 242 = .ok (.invokestatic 33, 3) := by decide +kernel
theorem dX3_isAct_245 : decode cX3_isAct 245 = .ok (.ifCond .eq 22, 3) := by decide +kernel
theorem dX3_isAct_248 : decode cX3_isAct 248 = .ok (.iload_n 3, 1) := by decide +kernel
theorem dX3_isAct_249 : decode cX3_isAct 249 = .ok (.invokestatic 23, 3) := by decide +kernel
theorem dX3_isAct_252 : decode cX3_isAct 252 = .ok (.ifCond .eq 15, 3) := by decide +kernel
theorem dX3_isAct_255 : decode cX3_isAct 255 = .ok (.iload 4, 2) := by decide +kernel
theorem dX3_isAct_257 : decode cX3_isAct 257 = .ok (.invokestatic 23, 3) := by decide +kernel
theorem dX3_isAct_260 : decode cX3_isAct 260 = .ok (.ifCond .eq 7, 3) := by decide +kernel
theorem dX3_isAct_263 : decode cX3_isAct 263 = .ok (.iconst 1, 1) := by decide +kernel
theorem dX3_isAct_264 : decode cX3_isAct 264 = .ok (.goto 4, 3) := by decide +kernel
theorem dX3_isAct_267 : decode cX3_isAct 267 = .ok (.iconst 0, 1) := by decide +kernel
theorem dX3_isAct_268 : decode cX3_isAct 268 = .ok (.ireturn, 1) := by decide +kernel
theorem dX3_isAct_269 : decode cX3_isAct 269 = .ok (.iload_n 1, 1) := by decide +kernel
theorem dX3_isAct_270 : decode cX3_isAct 270 = .ok (.invokestatic 23, 3) := by decide +kernel
theorem dX3_isAct_273 : decode cX3_isAct 273 = .ok (.ifCond .eq 29, 3) := by decide +kernel
theorem dX3_isAct_276 : decode cX3_isAct 276 = .ok (.iload_n 2, 1) := by decide +kernel
theorem dX3_isAct_277 : decode cX3_isAct 277 = .ok (.invokestatic 30, 3) := by decide +kernel
theorem dX3_isAct_280 : decode cX3_isAct 280 = .ok (.ifCond .eq 22, 3) := by decide +kernel
theorem dX3_isAct_283 : decode cX3_isAct 283 = .ok (.iload_n 3, 1) := by decide +kernel
theorem dX3_isAct_284 : decode cX3_isAct 284 = .ok (.invokestatic 33, 3) := by decide +kernel
theorem dX3_isAct_287 : decode cX3_isAct 287 = .ok (.ifCond .eq 15, 3) := by decide +kernel
theorem dX3_isAct_290 : decode cX3_isAct 290 = .ok (.iload 4, 2) := by decide +kernel
theorem dX3_isAct_292 : decode cX3_isAct 292 = .ok (.invokestatic 23, 3) := by decide +kernel
theorem dX3_isAct_295 : decode cX3_isAct 295 = .ok (.ifCond .eq 7, 3) := by decide +kernel
theorem dX3_isAct_298 : decode cX3_isAct 298 = .ok (.iconst 1, 1) := by decide +kernel
theorem dX3_isAct_299 : decode cX3_isAct 299 = .ok (.goto 4, 3) := by decide +kernel
theorem dX3_isAct_302 : decode cX3_isAct 302 = .ok (.iconst 0, 1) := by decide +kernel
theorem dX3_isAct_303 : decode cX3_isAct 303 = .ok (.ireturn, 1) := by decide +kernel
theorem dX3_isAct_304 : decode cX3_isAct 304 = .ok (.iload_n 1, 1) := by decide +kernel
theorem dX3_isAct_305 : decode cX3_isAct 305 = .ok (.invokestatic 30, 3) := by decide +kernel
theorem dX3_isAct_308 : decode cX3_isAct 308 = .ok (.ifCond .eq 37, 3) := by decide +kernel
theorem dX3_isAct_311 : decode cX3_isAct 311 = .ok (.iload_n 2, 1) := by decide +kernel
theorem dX3_isAct_312 : decode cX3_isAct 312 = .ok (.invokestatic 23, 3) := by decide +kernel
theorem dX3_isAct_315 : decode cX3_isAct 315 = .ok (.ifCond .eq 30, 3) := by decide +kernel
theorem dX3_isAct_318 : decode cX3_isAct 318 = .ok (.iload_n 3, 1) := by decide +kernel
theorem dX3_isAct_319 : decode cX3_isAct 319 = .ok (.invokestatic 30, 3) := by decide +kernel
theorem dX3_isAct_322 : decode cX3_isAct 322 = .ok (.ifCond .eq 23, 3) := by decide +kernel
theorem dX3_isAct_325 : decode cX3_isAct 325 = .ok (.iload 4, 2) := by decide +kernel
theorem dX3_isAct_327 : decode cX3_isAct 327 = .ok (.invokestatic 23, 3) := by decide +kernel
theorem dX3_isAct_330 : decode cX3_isAct 330 = .ok (.ifCond .eq 15, 3) := by decide +kernel
theorem dX3_isAct_333 : decode cX3_isAct 333 = .ok (.iload 5, 2) := by decide +kernel
theorem dX3_isAct_335 : decode cX3_isAct 335 = .ok (.invokestatic 23, 3) := by decide +kernel
theorem dX3_isAct_338 : decode cX3_isAct 338 = .ok (.ifCond .eq 7, 3) := by decide +kernel
theorem dX3_isAct_341 : decode cX3_isAct 341 = .ok (.iconst 1, 1) := by decide +kernel
theorem dX3_isAct_342 : decode cX3_isAct 342 = .ok (.goto 4, 3) := by decide +kernel
theorem dX3_isAct_345 : decode cX3_isAct 345 = .ok (.iconst 0, 1) := by decide +kernel
theorem dX3_isAct_346 : decode cX3_isAct 346 = .ok (.ireturn, 1) := by decide +kernel
theorem dX3_isAct_347 : decode cX3_isAct 347 = .ok (.iload_n 1, 1) := by decide +kernel
theorem dX3_isAct_348 : decode cX3_isAct 348 = .ok (.invokestatic 30, 3) := by decide +kernel
theorem dX3_isAct_351 : decode cX3_isAct 351 = .ok (.ifCond .eq 37, 3) := by decide +kernel
theorem dX3_isAct_354 : decode cX3_isAct 354 = .ok (.iload_n 2, 1) := by decide +kernel
theorem dX3_isAct_355 : decode cX3_isAct 355 = .ok (.invokestatic 33, 3) := by decide +kernel
theorem dX3_isAct_358 : decode cX3_isAct 358 = .ok (.ifCond .eq 30, 3) := by decide +kernel
theorem dX3_isAct_361 : decode cX3_isAct 361 = .ok (.iload_n 3, 1) := by decide +kernel
theorem dX3_isAct_362 : decode cX3_isAct 362 = .ok (.invokestatic 23, 3) := by decide +kernel
theorem dX3_isAct_365 : decode cX3_isAct 365 = .ok (.ifCond .eq 23, 3) := by decide +kernel
theorem dX3_isAct_368 : decode cX3_isAct 368 = .ok (.iload 4, 2) := by decide +kernel
theorem dX3_isAct_370 : decode cX3_isAct 370 = .ok (.invokestatic 23, 3) := by decide +kernel
theorem dX3_isAct_373 : decode cX3_isAct 373 = .ok (.ifCond .eq 15, 3) := by decide +kernel
theorem dX3_isAct_376 : decode cX3_isAct 376 = .ok (.iload 5, 2) := by decide +kernel
theorem dX3_isAct_378 : decode cX3_isAct 378 = .ok (.invokestatic 23, 3) := by decide +kernel
theorem dX3_isAct_381 : decode cX3_isAct 381 = .ok (.ifCond .eq 7, 3) := by decide +kernel
theorem dX3_isAct_384 : decode cX3_isAct 384 = .ok (.iconst 1, 1) := by decide +kernel
theorem dX3_isAct_385 : decode cX3_isAct 385 = .ok (.goto 4, 3) := by decide +kernel
theorem dX3_isAct_388 : decode cX3_isAct 388 = .ok (.iconst 0, 1) := by decide +kernel
theorem dX3_isAct_389 : decode cX3_isAct 389 = .ok (.ireturn, 1) := by decide +kernel
theorem dX3_isAct_390 : decode cX3_isAct 390 = .ok (.iload_n 1, 1) := by decide +kernel
theorem dX3_isAct_391 : decode cX3_isAct 391 = .ok (.invokestatic 23, 3) := by decide +kernel
theorem dX3_isAct_394 : decode cX3_isAct 394 = .ok (.ifCond .eq 14, 3) := by decide +kernel
theorem dX3_isAct_397 : decode cX3_isAct 397 = .ok (.iload_n 2, 1) := by decide +kernel
theorem dX3_isAct_398 : decode cX3_isAct 398 = .ok (.invokestatic 30, 3) := by decide +kernel
theorem dX3_isAct_401 : decode cX3_isAct 401 = .ok (.ifCond .eq 7, 3) := by decide +kernel
theorem dX3_isAct_404 : decode cX3_isAct 404 = .ok (.iconst 1, 1) := by decide +kernel
theorem dX3_isAct_405 : decode cX3_isAct 405 = .ok (.goto 4, 3) := by decide +kernel
theorem dX3_isAct_408 : decode cX3_isAct 408 = .ok (.iconst 0, 1) := by decide +kernel
theorem dX3_isAct_409 : decode cX3_isAct 409 = .ok (.ireturn, 1) := by decide +kernel
theorem dX3_isAct_410 : decode cX3_isAct 410 = .ok (.iload_n 2, 1) := by decide +kernel
theorem dX3_isAct_411 : decode cX3_isAct 411 = .ok (.iconst 1, 1) := by decide +kernel
theorem dX3_isAct_412 : decode cX3_isAct 412 = .ok (.if_icmp .lt 13, 3) := by decide +kernel
theorem dX3_isAct_415 : decode cX3_isAct 415 = .ok (.iload_n 2, 1) := by decide +kernel
theorem dX3_isAct_416 : decode cX3_isAct 416 = .ok (.bipush 10, 2) := by decide +kernel
theorem dX3_isAct_418 : decode cX3_isAct 418 = .ok (.if_icmp .gt 7, 3) := by decide +kernel
theorem dX3_isAct_421 : decode cX3_isAct 421 = .ok (.iconst 1, 1) := by decide +kernel
theorem dX3_isAct_422 : decode cX3_isAct 422 = .ok (.goto 4, 3) := by decide +kernel
theorem dX3_isAct_425 : decode cX3_isAct 425 = .ok (.iconst 0, 1) := by decide +kernel
theorem dX3_isAct_426 : decode cX3_isAct 426 = .ok (.ireturn, 1) := by decide +kernel
theorem dX3_isAct_427 : decode cX3_isAct 427 = .ok (.iconst 0, 1) := by decide +kernel
theorem dX3_isAct_428 : decode cX3_isAct 428 = .ok (.ireturn, 1) := by decide +kernel
theorem dX3_hasAct_0 : decode cX3_hasAct 0 = .ok (.iload_n 1, 1) := by decide +kernel
theorem dX3_hasAct_1 : decode cX3_hasAct 1 = .ok (.ifCond .lt 21, 3) := by decide +kernel
theorem dX3_hasAct_4 : decode cX3_hasAct 4 = .ok (.iload_n 1, 1) := by decide +kernel
theorem dX3_hasAct_5 : decode cX3_hasAct 5 = .ok (.aload_n 0, 1) := by decide +kernel
theorem dX3_hasAct_6 : decode cX3_hasAct 6 = .ok (.getfield 19, 3) := by decide +kernel
theorem dX3_hasAct_9 : decode cX3_hasAct 9 = .ok (.if_icmp .ge 13, 3) := by decide +kernel
theorem dX3_hasAct_12 : decode cX3_hasAct 12 = .ok (.iload_n 1, 1) := by decide +kernel
theorem dX3_hasAct_13 : decode cX3_hasAct 13 = .ok (.bipush 40, 2) := by decide +kernel
theorem dX3_hasAct_15 : decode cX3_hasAct 15 = .ok (.if_icmp .ge 7, 3) := by decide +kernel
theorem dX3_hasAct_18 : decode cX3_hasAct 18 = .ok (.iconst 1, 1) := by decide +kernel
theorem dX3_hasAct_19 : decode cX3_hasAct 19 = .ok (.goto 4, 3) := by decide +kernel
theorem dX3_hasAct_22 : decode cX3_hasAct 22 = .ok (.iconst 0, 1) := by decide +kernel
theorem dX3_hasAct_23 : decode cX3_hasAct 23 = .ok (.ireturn, 1) := by decide +kernel
theorem dX3_append_0 : decode cX3_append 0 = .ok (.aload_n 0, 1) := by decide +kernel
theorem dX3_append_1 : decode cX3_append 1 = .ok (.getfield 19, 3) := by decide +kernel
theorem dX3_append_4 : decode cX3_append 4 = .ok (.bipush 6, 2) := by decide +kernel
theorem dX3_append_6 : decode cX3_append 6 = .ok (.imul, 1) := by decide +kernel
theorem dX3_append_7 : decode cX3_append 7 = .ok (.istore 7, 2) := by decide +kernel
theorem dX3_append_9 : decode cX3_append 9 = .ok (.aload_n 0, 1) := by decide +kernel
theorem dX3_append_10 : decode cX3_append 10 = .ok (.getfield 11, 3) := by decide +kernel
theorem dX3_append_13 : decode cX3_append 13 = .ok (.iload 7, 2) := by decide +kernel
theorem dX3_append_15 : decode cX3_append 15 = .ok (.iload_n 1, 1) := by decide +kernel
theorem dX3_append_16 : decode cX3_append 16 = .ok (.iastore, 1) := by decide +kernel
theorem dX3_append_17 : decode cX3_append 17 = .ok (.aload_n 0, 1) := by decide +kernel
theorem dX3_append_18 : decode cX3_append 18 = .ok (.getfield 11, 3) := by decide +kernel
theorem dX3_append_21 : decode cX3_append 21 = .ok (.iload 7, 2) := by decide +kernel
theorem dX3_append_23 : decode cX3_append 23 = .ok (.iconst 1, 1) := by decide +kernel
theorem dX3_append_24 : decode cX3_append 24 = .ok (.iadd, 1) := by decide +kernel
theorem dX3_append_25 : decode cX3_append 25 = .ok (.iload_n 2, 1) := by decide +kernel
theorem dX3_append_26 : decode cX3_append 26 = .ok (.iastore, 1) := by decide +kernel
theorem dX3_append_27 : decode cX3_append 27 = .ok (.aload_n 0, 1) := by decide +kernel
theorem dX3_append_28 : decode cX3_append 28 = .ok (.getfield 11, 3) := by decide +kernel
theorem dX3_append_31 : decode cX3_append 31 = .ok (.iload 7, 2) := by decide +kernel
theorem dX3_append_33 : decode cX3_append 33 = .ok (.iconst 2, 1) := by decide +kernel
theorem dX3_append_34 : decode cX3_append 34 = .ok (.iadd, 1) := by decide +kernel
theorem dX3_append_35 : decode cX3_append 35 = .ok (.iload_n 3, 1) := by decide +kernel
theorem dX3_append_36 : decode cX3_append 36 = .ok (.iastore, 1) := by decide +kernel
theorem dX3_append_37 : decode cX3_append 37 = .ok (.aload_n 0, 1) := by decide +kernel
theorem dX3_append_38 : decode cX3_append 38 = .ok (.getfield 11, 3) := by decide +kernel
theorem dX3_append_41 : decode cX3_append 41 = .ok (.iload 7, 2) := by decide +kernel
theorem dX3_append_43 : decode cX3_append 43 = .ok (.iconst 3, 1) := by decide +kernel
theorem dX3_append_44 : decode cX3_append 44 = .ok (.iadd, 1) := by decide +kernel
theorem dX3_append_45 : decode cX3_append 45 = .ok (.iload 4, 2) := by decide +kernel
theorem dX3_append_47 : decode cX3_append 47 = .ok (.iastore, 1) := by decide +kernel
theorem dX3_append_48 : decode cX3_append 48 = .ok (.aload_n 0, 1) := by decide +kernel
theorem dX3_append_49 : decode cX3_append 49 = .ok (.getfield 11, 3) := by decide +kernel
theorem dX3_append_52 : decode cX3_append 52 = .ok (.iload 7, 2) := by decide +kernel
theorem dX3_append_54 : decode cX3_append 54 = .ok (.iconst 4, 1) := by decide +kernel
theorem dX3_append_55 : decode cX3_append 55 = .ok (.iadd, 1) := by decide +kernel
theorem dX3_append_56 : decode cX3_append 56 = .ok (.iload 5, 2) := by decide +kernel
theorem dX3_append_58 : decode cX3_append 58 = .ok (.iastore, 1) := by decide +kernel
theorem dX3_append_59 : decode cX3_append 59 = .ok (.aload_n 0, 1) := by decide +kernel
theorem dX3_append_60 : decode cX3_append 60 = .ok (.getfield 11, 3) := by decide +kernel
theorem dX3_append_63 : decode cX3_append 63 = .ok (.iload 7, 2) := by decide +kernel
theorem dX3_append_65 : decode cX3_append 65 = .ok (.iconst 5, 1) := by decide +kernel
theorem dX3_append_66 : decode cX3_append 66 = .ok (.iadd, 1) := by decide +kernel
theorem dX3_append_67 : decode cX3_append 67 = .ok (.iload 6, 2) := by decide +kernel
theorem dX3_append_69 : decode cX3_append 69 = .ok (.iastore, 1) := by decide +kernel
theorem dX3_append_70 : decode cX3_append 70 = .ok (.aload_n 0, 1) := by decide +kernel
theorem dX3_append_71 : decode cX3_append 71 = .ok (.getfield 15, 3) := by decide +kernel
theorem dX3_append_74 : decode cX3_append 74 = .ok (.aload_n 0, 1) := by decide +kernel
theorem dX3_append_75 : decode cX3_append 75 = .ok (.getfield 19, 3) := by decide +kernel
theorem dX3_append_78 : decode cX3_append 78 = .ok (.iconst 0, 1) := by decide +kernel
theorem dX3_append_79 : decode cX3_append 79 = .ok (.bastore, 1) := by decide +kernel
theorem dX3_append_80 : decode cX3_append 80 = .ok (.aload_n 0, 1) := by decide +kernel
theorem dX3_append_81 : decode cX3_append 81 = .ok (.dup, 1) := by decide +kernel
theorem dX3_append_82 : decode cX3_append 82 = .ok (.getfield 19, 3) := by decide +kernel
theorem dX3_append_85 : decode cX3_append 85 = .ok (.iconst 1, 1) := by decide +kernel
theorem dX3_append_86 : decode cX3_append 86 = .ok (.iadd, 1) := by decide +kernel
theorem dX3_append_87 : decode cX3_append 87 = .ok (.putfield 19, 3) := by decide +kernel
theorem dX3_append_90 : decode cX3_append 90 = .ok (.aload_n 0, 1) := by decide +kernel
theorem dX3_append_91 : decode cX3_append 91 = .ok (.getfield 19, 3) := by decide +kernel
theorem dX3_append_94 : decode cX3_append 94 = .ok (.iconst 1, 1) := by decide +kernel
theorem dX3_append_95 : decode cX3_append 95 = .ok (.isub, 1) := by decide +kernel
theorem dX3_append_96 : decode cX3_append 96 = .ok (.ireturn, 1) := by decide +kernel
theorem dX3_removeAll_0 : decode cX3_removeAll 0 = .ok (.aload_n 0, 1) := by decide +kernel
theorem dX3_removeAll_1 : decode cX3_removeAll 1 = .ok (.iconst 0, 1) := by decide +kernel
theorem dX3_removeAll_2 : decode cX3_removeAll 2 = .ok (.putfield 19, 3) := by decide +kernel
theorem dX3_removeAll_5 : decode cX3_removeAll 5 = .ok (.return_, 1) := by decide +kernel
theorem dX3_countKept_0 : decode cX3_countKept 0 = .ok (.iconst 0, 1) := by decide +kernel
theorem dX3_countKept_1 : decode cX3_countKept 1 = .ok (.istore_n 1, 1) := by decide +kernel
theorem dX3_countKept_2 : decode cX3_countKept 2 = .ok (.iconst 0, 1) := by decide +kernel
theorem dX3_countKept_3 : decode cX3_countKept 3 = .ok (.istore_n 2, 1) := by decide +kernel
theorem dX3_countKept_4 : decode cX3_countKept 4 = .ok (.iload_n 2, 1) := by decide +kernel
theorem dX3_countKept_5 : decode cX3_countKept 5 = .ok (.aload_n 0, 1) := by decide +kernel
theorem dX3_countKept_6 : decode cX3_countKept 6 = .ok (.getfield 19, 3) := by decide +kernel
theorem dX3_countKept_9 : decode cX3_countKept 9 = .ok (.if_icmp .ge 21, 3) := by decide +kernel
theorem dX3_countKept_12 : decode cX3_countKept 12 = .ok (.aload_n 0, 1) := by decide +kernel
theorem dX3_countKept_13 : decode cX3_countKept 13 = .ok (.getfield 15, 3) := by decide +kernel
theorem dX3_countKept_16 : decode cX3_countKept 16 = .ok (.iload_n 2, 1) := by decide +kernel
theorem dX3_countKept_17 : decode cX3_countKept 17 = .ok (.baload, 1) := by decide +kernel
theorem dX3_countKept_18 : decode cX3_countKept 18 = .ok (.ifCond .ne 6, 3) := by decide +kernel
theorem dX3_countKept_21 : decode cX3_countKept 21 = .ok (.iinc 1 1, 3) := by decide +kernel
theorem dX3_countKept_24 : decode cX3_countKept 24 = .ok (.iinc 2 1, 3) := by decide +kernel
theorem dX3_countKept_27 : decode cX3_countKept 27 = .ok (.goto (-23), 3) := by decide +kernel
theorem dX3_countKept_30 : decode cX3_countKept 30 = .ok (.iload_n 1, 1) := by decide +kernel
theorem dX3_countKept_31 : decode cX3_countKept 31 = .ok (.ireturn, 1) := by decide +kernel
theorem dX3_kindOf_0 : decode cX3_kindOf 0 = .ok (.aload_n 0, 1) := by decide +kernel
theorem dX3_kindOf_1 : decode cX3_kindOf 1 = .ok (.getfield 11, 3) := by decide +kernel
theorem dX3_kindOf_4 : decode cX3_kindOf 4 = .ok (.iload_n 1, 1) := by decide +kernel
theorem dX3_kindOf_5 : decode cX3_kindOf 5 = .ok (.bipush 6, 2) := by decide +kernel
theorem dX3_kindOf_7 : decode cX3_kindOf 7 = .ok (.imul, 1) := by decide +kernel
theorem dX3_kindOf_8 : decode cX3_kindOf 8 = .ok (.iaload, 1) := by decide +kernel
theorem dX3_kindOf_9 : decode cX3_kindOf 9 = .ok (.ireturn, 1) := by decide +kernel
theorem dX3_a_0 : decode cX3_a 0 = .ok (.aload_n 0, 1) := by decide +kernel
theorem dX3_a_1 : decode cX3_a 1 = .ok (.getfield 11, 3) := by decide +kernel
theorem dX3_a_4 : decode cX3_a 4 = .ok (.iload_n 1, 1) := by decide +kernel
theorem dX3_a_5 : decode cX3_a 5 = .ok (.bipush 6, 2) := by decide +kernel
theorem dX3_a_7 : decode cX3_a 7 = .ok (.imul, 1) := by decide +kernel
theorem dX3_a_8 : decode cX3_a 8 = .ok (.iconst 1, 1) := by decide +kernel
theorem dX3_a_9 : decode cX3_a 9 = .ok (.iadd, 1) := by decide +kernel
theorem dX3_a_10 : decode cX3_a 10 = .ok (.iaload, 1) := by decide +kernel
theorem dX3_a_11 : decode cX3_a 11 = .ok (.ireturn, 1) := by decide +kernel
theorem dX3_b_0 : decode cX3_b 0 = .ok (.aload_n 0, 1) := by decide +kernel
theorem dX3_b_1 : decode cX3_b 1 = .ok (.getfield 11, 3) := by decide +kernel
theorem dX3_b_4 : decode cX3_b 4 = .ok (.iload_n 1, 1) := by decide +kernel
theorem dX3_b_5 : decode cX3_b 5 = .ok (.bipush 6, 2) := by decide +kernel
theorem dX3_b_7 : decode cX3_b 7 = .ok (.imul, 1) := by decide +kernel
theorem dX3_b_8 : decode cX3_b 8 = .ok (.iconst 2, 1) := by decide +kernel
theorem dX3_b_9 : decode cX3_b 9 = .ok (.iadd, 1) := by decide +kernel
theorem dX3_b_10 : decode cX3_b 10 = .ok (.iaload, 1) := by decide +kernel
theorem dX3_b_11 : decode cX3_b 11 = .ok (.ireturn, 1) := by decide +kernel
theorem dX3_c_0 : decode cX3_c 0 = .ok (.aload_n 0, 1) := by decide +kernel
theorem dX3_c_1 : decode cX3_c 1 = .ok (.getfield 11, 3) := by decide +kernel
theorem dX3_c_4 : decode cX3_c 4 = .ok (.iload_n 1, 1) := by decide +kernel
theorem dX3_c_5 : decode cX3_c 5 = .ok (.bipush 6, 2) := by decide +kernel
theorem dX3_c_7 : decode cX3_c 7 = .ok (.imul, 1) := by decide +kernel
theorem dX3_c_8 : decode cX3_c 8 = .ok (.iconst 3, 1) := by decide +kernel
theorem dX3_c_9 : decode cX3_c 9 = .ok (.iadd, 1) := by decide +kernel
theorem dX3_c_10 : decode cX3_c 10 = .ok (.iaload, 1) := by decide +kernel
theorem dX3_c_11 : decode cX3_c 11 = .ok (.ireturn, 1) := by decide +kernel
theorem dX3_d_0 : decode cX3_d 0 = .ok (.aload_n 0, 1) := by decide +kernel
theorem dX3_d_1 : decode cX3_d 1 = .ok (.getfield 11, 3) := by decide +kernel
theorem dX3_d_4 : decode cX3_d 4 = .ok (.iload_n 1, 1) := by decide +kernel
theorem dX3_d_5 : decode cX3_d 5 = .ok (.bipush 6, 2) := by decide +kernel
theorem dX3_d_7 : decode cX3_d 7 = .ok (.imul, 1) := by decide +kernel
theorem dX3_d_8 : decode cX3_d 8 = .ok (.iconst 4, 1) := by decide +kernel
theorem dX3_d_9 : decode cX3_d 9 = .ok (.iadd, 1) := by decide +kernel
theorem dX3_d_10 : decode cX3_d 10 = .ok (.iaload, 1) := by decide +kernel
theorem dX3_d_11 : decode cX3_d 11 = .ok (.ireturn, 1) := by decide +kernel
theorem dX3_e_0 : decode cX3_e 0 = .ok (.aload_n 0, 1) := by decide +kernel
theorem dX3_e_1 : decode cX3_e 1 = .ok (.getfield 11, 3) := by decide +kernel
theorem dX3_e_4 : decode cX3_e 4 = .ok (.iload_n 1, 1) := by decide +kernel
theorem dX3_e_5 : decode cX3_e 5 = .ok (.bipush 6, 2) := by decide +kernel
theorem dX3_e_7 : decode cX3_e 7 = .ok (.imul, 1) := by decide +kernel
theorem dX3_e_8 : decode cX3_e 8 = .ok (.iconst 5, 1) := by decide +kernel
theorem dX3_e_9 : decode cX3_e 9 = .ok (.iadd, 1) := by decide +kernel
theorem dX3_e_10 : decode cX3_e 10 = .ok (.iaload, 1) := by decide +kernel
theorem dX3_e_11 : decode cX3_e 11 = .ok (.ireturn, 1) := by decide +kernel
theorem dJ6_bitCount_0f7a4_0 : decode cJ6_bitCount_0f7a4 0 = .ok (.iload_n 0, 1) := by decide +kernel
theorem dJ6_bitCount_0f7a4_1 : decode cJ6_bitCount_0f7a4 1 = .ok (.iload_n 0, 1) := by decide +kernel
theorem dJ6_bitCount_0f7a4_2 : decode cJ6_bitCount_0f7a4 2 = .ok (.iconst 1, 1) := by decide +kernel
theorem dJ6_bitCount_0f7a4_3 : decode cJ6_bitCount_0f7a4 3 = .ok (.iushr, 1) := by decide +kernel
theorem dJ6_bitCount_0f7a4_4 : decode cJ6_bitCount_0f7a4 4 = .ok (.ldc_w 265, 3) := by decide +kernel
theorem dJ6_bitCount_0f7a4_7 : decode cJ6_bitCount_0f7a4 7 = .ok (.iand, 1) := by decide +kernel
theorem dJ6_bitCount_0f7a4_8 : decode cJ6_bitCount_0f7a4 8 = .ok (.isub, 1) := by decide +kernel
theorem dJ6_bitCount_0f7a4_9 : decode cJ6_bitCount_0f7a4 9 = .ok (.istore_n 0, 1) := by decide +kernel
theorem dJ6_bitCount_0f7a4_10 : decode cJ6_bitCount_0f7a4 10 = .ok (.iload_n 0, 1) := by decide +kernel
theorem dJ6_bitCount_0f7a4_11 : decode cJ6_bitCount_0f7a4 11 = .ok (.ldc_w 266, 3) := by decide +kernel
theorem dJ6_bitCount_0f7a4_14 : decode cJ6_bitCount_0f7a4 14 = .ok (.iand, 1) := by decide +kernel
theorem dJ6_bitCount_0f7a4_15 : decode cJ6_bitCount_0f7a4 15 = .ok (.iload_n 0, 1) := by decide +kernel
theorem dJ6_bitCount_0f7a4_16 : decode cJ6_bitCount_0f7a4 16 = .ok (.iconst 2, 1) := by decide +kernel
theorem dJ6_bitCount_0f7a4_17 : decode cJ6_bitCount_0f7a4 17 = .ok (.iushr, 1) := by decide +kernel
theorem dJ6_bitCount_0f7a4_18 : decode cJ6_bitCount_0f7a4 18 = .ok (.ldc_w 266, 3) := by decide +kernel
theorem dJ6_bitCount_0f7a4_21 : decode cJ6_bitCount_0f7a4 21 = .ok (.iand, 1) := by decide +kernel
theorem dJ6_bitCount_0f7a4_22 : decode cJ6_bitCount_0f7a4 22 = .ok (.iadd, 1) := by decide +kernel
theorem dJ6_bitCount_0f7a4_23 : decode cJ6_bitCount_0f7a4 23 = .ok (.istore_n 0, 1) := by decide +kernel
theorem dJ6_bitCount_0f7a4_24 : decode cJ6_bitCount_0f7a4 24 = .ok (.iload_n 0, 1) := by decide +kernel
theorem dJ6_bitCount_0f7a4_25 : decode cJ6_bitCount_0f7a4 25 = .ok (.iload_n 0, 1) := by decide +kernel
theorem dJ6_bitCount_0f7a4_26 : decode cJ6_bitCount_0f7a4 26 = .ok (.iconst 4, 1) := by decide +kernel
theorem dJ6_bitCount_0f7a4_27 : decode cJ6_bitCount_0f7a4 27 = .ok (.iushr, 1) := by decide +kernel
theorem dJ6_bitCount_0f7a4_28 : decode cJ6_bitCount_0f7a4 28 = .ok (.iadd, 1) := by decide +kernel
theorem dJ6_bitCount_0f7a4_29 : decode cJ6_bitCount_0f7a4 29 = .ok (.ldc_w 267, 3) := by decide +kernel
theorem dJ6_bitCount_0f7a4_32 : decode cJ6_bitCount_0f7a4 32 = .ok (.iand, 1) := by decide +kernel
theorem dJ6_bitCount_0f7a4_33 : decode cJ6_bitCount_0f7a4 33 = .ok (.istore_n 0, 1) := by decide +kernel
theorem dJ6_bitCount_0f7a4_34 : decode cJ6_bitCount_0f7a4 34 = .ok (.iload_n 0, 1) := by decide +kernel
theorem dJ6_bitCount_0f7a4_35 : decode cJ6_bitCount_0f7a4 35 = .ok (.iload_n 0, 1) := by decide +kernel
theorem dJ6_bitCount_0f7a4_36 : decode cJ6_bitCount_0f7a4 36 = .ok (.bipush 8, 2) := by decide +kernel
theorem dJ6_bitCount_0f7a4_38 : decode cJ6_bitCount_0f7a4 38 = .ok (.iushr, 1) := by decide +kernel
theorem dJ6_bitCount_0f7a4_39 : decode cJ6_bitCount_0f7a4 39 = .ok (.iadd, 1) := by decide +kernel
theorem dJ6_bitCount_0f7a4_40 : decode cJ6_bitCount_0f7a4 40 = .ok (.istore_n 0, 1) := by decide +kernel
theorem dJ6_bitCount_0f7a4_41 : decode cJ6_bitCount_0f7a4 41 = .ok (.iload_n 0, 1) := by decide +kernel
theorem dJ6_bitCount_0f7a4_42 : decode cJ6_bitCount_0f7a4 42 = .ok (.iload_n 0, 1) := by decide +kernel
theorem dJ6_bitCount_0f7a4_43 : decode cJ6_bitCount_0f7a4 43 = .ok (.bipush 16, 2) := by decide +kernel
theorem dJ6_bitCount_0f7a4_45 : decode cJ6_bitCount_0f7a4 45 = .ok (.iushr, 1) := by decide +kernel
theorem dJ6_bitCount_0f7a4_46 : decode cJ6_bitCount_0f7a4 46 = .ok (.iadd, 1) := by decide +kernel
theorem dJ6_bitCount_0f7a4_47 : decode cJ6_bitCount_0f7a4 47 = .ok (.istore_n 0, 1) := by decide +kernel
theorem dJ6_bitCount_0f7a4_48 : decode cJ6_bitCount_0f7a4 48 = .ok (.iload_n 0, 1) := by decide +kernel
theorem dJ6_bitCount_0f7a4_49 : decode cJ6_bitCount_0f7a4 49 = .ok (.bipush 63, 2) := by decide +kernel
theorem dJ6_bitCount_0f7a4_51 : decode cJ6_bitCount_0f7a4 51 = .ok (.iand, 1) := by decide +kernel
theorem dJ6_bitCount_0f7a4_52 : decode cJ6_bitCount_0f7a4 52 = .ok (.ireturn, 1) := by decide +kernel
theorem dJ13_bitCount_95d88_0 : decode cJ13_bitCount_95d88 0 = .ok (.lload_n 0, 1) := by decide +kernel
theorem dJ13_bitCount_95d88_1 : decode cJ13_bitCount_95d88 1 = .ok (.lload_n 0, 1) := by decide +kernel
theorem dJ13_bitCount_95d88_2 : decode cJ13_bitCount_95d88 2 = .ok (.iconst 1, 1) := by decide +kernel
theorem dJ13_bitCount_95d88_3 : decode cJ13_bitCount_95d88 3 = .ok (.lushr, 1) := by decide +kernel
theorem dJ13_bitCount_95d88_4 : decode cJ13_bitCount_95d88 4 = .ok (.ldc2_w 314, 3) := by decide +kernel
theorem dJ13_bitCount_95d88_7 : decode cJ13_bitCount_95d88 7 = .ok (.land, 1) := by decide +kernel
theorem dJ13_bitCount_95d88_8 : decode cJ13_bitCount_95d88 8 = .ok (.lsub, 1) := by decide +kernel
theorem dJ13_bitCount_95d88_9 : decode cJ13_bitCount_95d88 9 = .ok (.lstore_n 0, 1) := by decide +kernel
theorem dJ13_bitCount_95d88_10 : decode cJ13_bitCount_95d88 10 = .ok (.lload_n 0, 1) := by decide +kernel
theorem dJ13_bitCount_95d88_11 : decode cJ13_bitCount_95d88 11 = .ok (.ldc2_w 316, 3) := by decide +kernel
theorem dJ13_bitCount_95d88_14 : decode cJ13_bitCount_95d88 14 = .ok (.land, 1) := by decide +kernel
theorem dJ13_bitCount_95d88_15 : decode cJ13_bitCount_95d88 15 = .ok (.lload_n 0, 1) := by decide +kernel
theorem dJ13_bitCount_95d88_16 : decode cJ13_bitCount_95d88 16 = .ok (.iconst 2, 1) := by decide +kernel
theorem dJ13_bitCount_95d88_17 : decode cJ13_bitCount_95d88 17 = .ok (.lushr, 1) := by decide +kernel
theorem dJ13_bitCount_95d88_18 : decode cJ13_bitCount_95d88 18 = .ok (.ldc2_w 316, 3) := by decide +kernel
theorem dJ13_bitCount_95d88_21 : decode cJ13_bitCount_95d88 21 = .ok (.land, 1) := by decide +kernel
theorem dJ13_bitCount_95d88_22 : decode cJ13_bitCount_95d88 22 = .ok (.ladd, 1) := by decide +kernel
theorem dJ13_bitCount_95d88_23 : decode cJ13_bitCount_95d88 23 = .ok (.lstore_n 0, 1) := by decide +kernel
theorem dJ13_bitCount_95d88_24 : decode cJ13_bitCount_95d88 24 = .ok (.lload_n 0, 1) := by decide +kernel
theorem dJ13_bitCount_95d88_25 : decode cJ13_bitCount_95d88 25 = .ok (.lload_n 0, 1) := by decide +kernel
theorem dJ13_bitCount_95d88_26 : decode cJ13_bitCount_95d88 26 = .ok (.iconst 4, 1) := by decide +kernel
theorem dJ13_bitCount_95d88_27 : decode cJ13_bitCount_95d88 27 = .ok (.lushr, 1) := by decide +kernel
theorem dJ13_bitCount_95d88_28 : decode cJ13_bitCount_95d88 28 = .ok (.ladd, 1) := by decide +kernel
theorem dJ13_bitCount_95d88_29 : decode cJ13_bitCount_95d88 29 = .ok (.ldc2_w 318, 3) := by decide +kernel
theorem dJ13_bitCount_95d88_32 : decode cJ13_bitCount_95d88 32 = .ok (.land, 1) := by decide +kernel
theorem dJ13_bitCount_95d88_33 : decode cJ13_bitCount_95d88 33 = .ok (.lstore_n 0, 1) := by decide +kernel
theorem dJ13_bitCount_95d88_34 : decode cJ13_bitCount_95d88 34 = .ok (.lload_n 0, 1) := by decide +kernel
theorem dJ13_bitCount_95d88_35 : decode cJ13_bitCount_95d88 35 = .ok (.lload_n 0, 1) := by decide +kernel
theorem dJ13_bitCount_95d88_36 : decode cJ13_bitCount_95d88 36 = .ok (.bipush 8, 2) := by decide +kernel
theorem dJ13_bitCount_95d88_38 : decode cJ13_bitCount_95d88 38 = .ok (.lushr, 1) := by decide +kernel
theorem dJ13_bitCount_95d88_39 : decode cJ13_bitCount_95d88 39 = .ok (.ladd, 1) := by decide +kernel
theorem dJ13_bitCount_95d88_40 : decode cJ13_bitCount_95d88 40 = .ok (.lstore_n 0, 1) := by decide +kernel
theorem dJ13_bitCount_95d88_41 : decode cJ13_bitCount_95d88 41 = .ok (.lload_n 0, 1) := by decide +kernel
theorem dJ13_bitCount_95d88_42 : decode cJ13_bitCount_95d88 42 = .ok (.lload_n 0, 1) := by decide +kernel
theorem dJ13_bitCount_95d88_43 : decode cJ13_bitCount_95d88 43 = .ok (.bipush 16, 2) := by decide +kernel
theorem dJ13_bitCount_95d88_45 : decode cJ13_bitCount_95d88 45 = .ok (.lushr, 1) := by decide +kernel
theorem dJ13_bitCount_95d88_46 : decode cJ13_bitCount_95d88 46 = .ok (.ladd, 1) := by decide +kernel
theorem dJ13_bitCount_95d88_47 : decode cJ13_bitCount_95d88 47 = .ok (.lstore_n 0, 1) := by decide +kernel
theorem dJ13_bitCount_95d88_48 : decode cJ13_bitCount_95d88 48 = .ok (.lload_n 0, 1) := by decide +kernel
theorem dJ13_bitCount_95d88_49 : decode cJ13_bitCount_95d88 49 = .ok (.lload_n 0, 1) := by decide +kernel
theorem dJ13_bitCount_95d88_50 : decode cJ13_bitCount_95d88 50 = .ok (.bipush 32, 2) := by decide +kernel
theorem dJ13_bitCount_95d88_52 : decode cJ13_bitCount_95d88 52 = .ok (.lushr, 1) := by decide +kernel
theorem dJ13_bitCount_95d88_53 : decode cJ13_bitCount_95d88 53 = .ok (.ladd, 1) := by decide +kernel
theorem dJ13_bitCount_95d88_54 : decode cJ13_bitCount_95d88 54 = .ok (.lstore_n 0, 1) := by decide +kernel
theorem dJ13_bitCount_95d88_55 : decode cJ13_bitCount_95d88 55 = .ok (.lload_n 0, 1) := by decide +kernel
theorem dJ13_bitCount_95d88_56 : decode cJ13_bitCount_95d88 56 = .ok (.l2i, 1) := by decide +kernel
theorem dJ13_bitCount_95d88_57 : decode cJ13_bitCount_95d88 57 = .ok (.bipush 127, 2) := by decide +kernel
theorem dJ13_bitCount_95d88_59 : decode cJ13_bitCount_95d88 59 = .ok (.iand, 1) := by decide +kernel
theorem dJ13_bitCount_95d88_60 : decode cJ13_bitCount_95d88 60 = .ok (.ireturn, 1) := by decide +kernel
theorem dJ9_max_7cf53_0 : decode cJ9_max_7cf53 0 = .ok (.iload_n 0, 1) := by decide +kernel
theorem dJ9_max_7cf53_1 : decode cJ9_max_7cf53 1 = .ok (.iload_n 1, 1) := by decide +kernel
theorem dJ9_max_7cf53_2 : decode cJ9_max_7cf53 2 = .ok (.if_icmp .lt 7, 3) := by decide +kernel
theorem dJ9_max_7cf53_5 : decode cJ9_max_7cf53 5 = .ok (.iload_n 0, 1) := by decide +kernel
theorem dJ9_max_7cf53_6 : decode cJ9_max_7cf53 6 = .ok (.goto 4, 3) := by decide +kernel
theorem dJ9_max_7cf53_9 : decode cJ9_max_7cf53 9 = .ok (.iload_n 1, 1) := by decide +kernel
theorem dJ9_max_7cf53_10 : decode cJ9_max_7cf53 10 = .ok (.ireturn, 1) := by decide +kernel
theorem dJ9_min_7cf53_0 : decode cJ9_min_7cf53 0 = .ok (.iload_n 0, 1) := by decide +kernel
theorem dJ9_min_7cf53_1 : decode cJ9_min_7cf53 1 = .ok (.iload_n 1, 1) := by decide +kernel
theorem dJ9_min_7cf53_2 : decode cJ9_min_7cf53 2 = .ok (.if_icmp .gt 7, 3) := by decide +kernel
theorem dJ9_min_7cf53_5 : decode cJ9_min_7cf53 5 = .ok (.iload_n 0, 1) := by decide +kernel
theorem dJ9_min_7cf53_6 : decode cJ9_min_7cf53 6 = .ok (.goto 4, 3) := by decide +kernel
theorem dJ9_min_7cf53_9 : decode cJ9_min_7cf53 9 = .ok (.iload_n 1, 1) := by decide +kernel
theorem dJ9_min_7cf53_10 : decode cJ9_min_7cf53 10 = .ok (.ireturn, 1) := by decide +kernel
theorem dJ9_min_f86c9_0 : decode cJ9_min_f86c9 0 = .ok (.lload_n 0, 1) := by decide +kernel
theorem dJ9_min_f86c9_1 : decode cJ9_min_f86c9 1 = .ok (.lload_n 2, 1) := by decide +kernel
theorem dJ9_min_f86c9_2 : decode cJ9_min_f86c9 2 = .ok (.lcmp, 1) := by decide +kernel
theorem dJ9_min_f86c9_3 : decode cJ9_min_f86c9 3 = .ok (.ifCond .gt 7, 3) := by decide +kernel
theorem dJ9_min_f86c9_6 : decode cJ9_min_f86c9 6 = .ok (.lload_n 0, 1) := by decide +kernel
theorem dJ9_min_f86c9_7 : decode cJ9_min_f86c9 7 = .ok (.goto 4, 3) := by decide +kernel
theorem dJ9_min_f86c9_10 : decode cJ9_min_f86c9 10 = .ok (.lload_n 2, 1) := by decide +kernel
theorem dJ9_min_f86c9_11 : decode cJ9_min_f86c9 11 = .ok (.lreturn, 1) := by decide +kernel
