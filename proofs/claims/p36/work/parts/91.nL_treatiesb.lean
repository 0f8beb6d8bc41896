theorem dL_treaties_200 : decode cL_treaties 200 = .ok (.iconst 0, 1) := by decide +kernel
theorem dL_treaties_201 : decode cL_treaties 201 = .ok (.istore 7, 2) := by decide +kernel
theorem dL_treaties_203 : decode cL_treaties 203 = .ok (.iconst 0, 1) := by decide +kernel
theorem dL_treaties_204 : decode cL_treaties 204 = .ok (.istore 8, 2) := by decide +kernel
theorem dL_treaties_206 : decode cL_treaties 206 = .ok (.iload 8, 2) := by decide +kernel
theorem dL_treaties_208 : decode cL_treaties 208 = .ok (.iconst 5, 1) := by decide +kernel
theorem dL_treaties_209 : decode cL_treaties 209 = .ok (.if_icmp .ge 129, 3) := by decide +kernel
theorem dL_treaties_212 : decode cL_treaties 212 = .ok (.aload_n 2, 1) := by decide +kernel
theorem dL_treaties_213 : decode cL_treaties 213 = .ok (.iload 5, 2) := by decide +kernel
theorem dL_treaties_215 : decode cL_treaties 215 = .ok (.aaload, 1) := by decide +kernel
theorem dL_treaties_216 : decode cL_treaties 216 = .ok (.iload 8, 2) := by decide +kernel
theorem dL_treaties_218 : decode cL_treaties 218 = .ok (.iaload, 1) := by decide +kernel
theorem dL_treaties_219 : decode cL_treaties 219 = .ok (.bipush 9, 2) := by decide +kernel
theorem dL_treaties_221 : decode cL_treaties 221 = .ok (.if_icmp .ge 13, 3) := by decide +kernel
theorem dL_treaties_224 : decode cL_treaties 224 = .ok (.aload_n 2, 1) := by decide +kernel
theorem dL_treaties_225 : decode cL_treaties 225 = .ok (.iload 5, 2) := by decide +kernel
theorem dL_treaties_227 : decode cL_treaties 227 = .ok (.aaload, 1) := by decide +kernel
theorem dL_treaties_228 : decode cL_treaties 228 = .ok (.iload 8, 2) := by decide +kernel
theorem dL_treaties_230 : decode cL_treaties 230 = .ok (.iaload, 1) := by decide +kernel
theorem dL_treaties_231 : decode cL_treaties 231 = .ok (.goto 5, 3) := by decide +kernel
theorem dL_treaties_234 : decode cL_treaties 234 = .ok (.bipush (-6), 2) := by decide +kernel
theorem dL_treaties_236 : decode cL_treaties 236 = .ok (.istore 9, 2) := by decide +kernel
theorem dL_treaties_238 : decode cL_treaties 238 = .ok (.iload 9, 2) := by decide +kernel
theorem dL_treaties_240 : decode cL_treaties 240 = .ok (.ifCond .ge 7, 3) := by decide +kernel
theorem dL_treaties_243 : decode cL_treaties 243 = .ok (.iconst 0, 1) := by decide +kernel
theorem dL_treaties_244 : decode cL_treaties 244 = .ok (.goto 10, 3) := by decide +kernel
theorem dL_treaties_247 : decode cL_treaties 247 = .ok (.iload 4, 2) := by decide +kernel
theorem dL_treaties_249 : decode cL_treaties 249 = .ok (.iconst 1, 1) := by decide +kernel
theorem dL_treaties_250 : decode cL_treaties 250 = .ok (.iload 9, 2) := by decide +kernel
theorem dL_treaties_252 : decode cL_treaties 252 = .ok (.ishl, 1) := by decide +kernel
theorem dL_treaties_253 : decode cL_treaties 253 = .ok (.idiv, 1) := by decide +kernel
theorem dL_treaties_254 : decode cL_treaties 254 = .ok (.istore 10, 2) := by decide +kernel
theorem dL_treaties_256 : decode cL_treaties 256 = .ok (.iload 6, 2) := by decide +kernel
theorem dL_treaties_258 : decode cL_treaties 258 = .ok (.iload 9, 2) := by decide +kernel
theorem dL_treaties_260 : decode cL_treaties 260 = .ok (.iconst 1, 1) := by decide +kernel
theorem dL_treaties_261 : decode cL_treaties 261 = .ok (.if_icmp .ne 7, 3) := by decide +kernel
theorem dL_treaties_264 : decode cL_treaties 264 = .ok (.iconst 1, 1) := by decide +kernel
theorem dL_treaties_265 : decode cL_treaties 265 = .ok (.goto 4, 3) := by decide +kernel
theorem dL_treaties_268 : decode cL_treaties 268 = .ok (.iconst 0, 1) := by decide +kernel
theorem dL_treaties_269 : decode cL_treaties 269 = .ok (.iadd, 1) := by decide +kernel
theorem dL_treaties_270 : decode cL_treaties 270 = .ok (.istore 6, 2) := by decide +kernel
theorem dL_treaties_272 : decode cL_treaties 272 = .ok (.iload 7, 2) := by decide +kernel
theorem dL_treaties_274 : decode cL_treaties 274 = .ok (.iload 9, 2) := by decide +kernel
theorem dL_treaties_276 : decode cL_treaties 276 = .ok (.ifCond .le 7, 3) := by decide +kernel
theorem dL_treaties_279 : decode cL_treaties 279 = .ok (.iconst 1, 1) := by decide +kernel
theorem dL_treaties_280 : decode cL_treaties 280 = .ok (.goto 4, 3) := by decide +kernel
theorem dL_treaties_283 : decode cL_treaties 283 = .ok (.iconst 0, 1) := by decide +kernel
theorem dL_treaties_284 : decode cL_treaties 284 = .ok (.iadd, 1) := by decide +kernel
theorem dL_treaties_285 : decode cL_treaties 285 = .ok (.istore 7, 2) := by decide +kernel
theorem dL_treaties_287 : decode cL_treaties 287 = .ok (.aload_n 0, 1) := by decide +kernel
theorem dL_treaties_288 : decode cL_treaties 288 = .ok (.iload 5, 2) := by decide +kernel
theorem dL_treaties_290 : decode cL_treaties 290 = .ok (.iload 8, 2) := by decide +kernel
theorem dL_treaties_292 : decode cL_treaties 292 = .ok (.invokevirtual 93, 3) := by decide +kernel
theorem dL_treaties_295 : decode cL_treaties 295 = .ok (.iload 9, 2) := by decide +kernel
theorem dL_treaties_297 : decode cL_treaties 297 = .ok (.if_icmp .ne 33, 3) := by decide +kernel
theorem dL_treaties_300 : decode cL_treaties 300 = .ok (.aload_n 0, 1) := by decide +kernel
theorem dL_treaties_301 : decode cL_treaties 301 = .ok (.iload 5, 2) := by decide +kernel
theorem dL_treaties_303 : decode cL_treaties 303 = .ok (.iload 4, 2) := by decide +kernel
theorem dL_treaties_305 : decode cL_treaties 305 = .ok (.iload 8, 2) := by decide +kernel
theorem dL_treaties_307 : decode cL_treaties 307 = .ok (.invokevirtual 104, 3) := by decide +kernel
theorem dL_treaties_310 : decode cL_treaties 310 = .ok (.iload 10, 2) := by decide +kernel
theorem dL_treaties_312 : decode cL_treaties 312 = .ok (.if_icmp .ne 18, 3) := by decide +kernel
theorem dL_treaties_315 : decode cL_treaties 315 = .ok (.aload_n 0, 1) := by decide +kernel
theorem dL_treaties_316 : decode cL_treaties 316 = .ok (.iload 5, 2) := by decide +kernel
theorem dL_treaties_318 : decode cL_treaties 318 = .ok (.iload 4, 2) := by decide +kernel
theorem dL_treaties_320 : decode cL_treaties 320 = .ok (.iload 8, 2) := by decide +kernel
theorem dL_treaties_322 : decode cL_treaties 322 = .ok (.invokevirtual 107, 3) := by decide +kernel
theorem dL_treaties_325 : decode cL_treaties 325 = .ok (.iload 10, 2) := by decide +kernel
theorem dL_treaties_327 : decode cL_treaties 327 = .ok (.if_icmp .eq 5, 3) := by decide +kernel
theorem dL_treaties_330 : decode cL_treaties 330 = .ok (.iconst 0, 1) := by decide +kernel
theorem dL_treaties_331 : decode cL_treaties 331 = .ok (.ireturn, 1) := by decide +kernel
theorem dL_treaties_332 : decode cL_treaties 332 = .ok (.iinc 8 1, 3) := by decide +kernel
theorem dL_treaties_335 : decode cL_treaties 335 = .ok (.goto (-129), 3) := by decide +kernel
theorem dL_treaties_338 : decode cL_treaties 338 = .ok (.aload_n 0, 1) := by decide +kernel
theorem dL_treaties_339 : decode cL_treaties 339 = .ok (.iload 5, 2) := by decide +kernel
theorem dL_treaties_341 : decode cL_treaties 341 = .ok (.iconst 5, 1) := by decide +kernel
theorem dL_treaties_342 : decode cL_treaties 342 = .ok (.invokevirtual 110, 3) := by decide +kernel
theorem dL_treaties_345 : decode cL_treaties 345 = .ok (.iload 6, 2) := by decide +kernel
theorem dL_treaties_347 : decode cL_treaties 347 = .ok (.if_icmp .ne 16, 3) := by decide +kernel
theorem dL_treaties_350 : decode cL_treaties 350 = .ok (.aload_n 0, 1) := by decide +kernel
theorem dL_treaties_351 : decode cL_treaties 351 = .ok (.iload 5, 2) := by decide +kernel
theorem dL_treaties_353 : decode cL_treaties 353 = .ok (.bipush 6, 2) := by decide +kernel
theorem dL_treaties_355 : decode cL_treaties 355 = .ok (.invokevirtual 110, 3) := by decide +kernel
theorem dL_treaties_358 : decode cL_treaties 358 = .ok (.iload 7, 2) := by decide +kernel
theorem dL_treaties_360 : decode cL_treaties 360 = .ok (.if_icmp .eq 5, 3) := by decide +kernel
theorem dL_treaties_363 : decode cL_treaties 363 = .ok (.iconst 0, 1) := by decide +kernel
theorem dL_treaties_364 : decode cL_treaties 364 = .ok (.ireturn, 1) := by decide +kernel
theorem dL_treaties_365 : decode cL_treaties 365 = .ok (.iinc 5 1, 3) := by decide +kernel
theorem dL_treaties_368 : decode cL_treaties 368 = .ok (.goto (-177), 3) := by decide +kernel
theorem dL_treaties_371 : decode cL_treaties 371 = .ok (.aload_n 0, 1) := by decide +kernel
theorem dL_treaties_372 : decode cL_treaties 372 = .ok (.iconst 2, 1) := by decide +kernel
theorem dL_treaties_373 : decode cL_treaties 373 = .ok (.invokevirtual 49, 3) := by decide +kernel
theorem dL_treaties_376 : decode cL_treaties 376 = .ok (.iload_n 3, 1) := by decide +kernel
theorem dL_treaties_377 : decode cL_treaties 377 = .ok (.if_icmp .ne 30, 3) := by decide +kernel
theorem dL_treaties_380 : decode cL_treaties 380 = .ok (.aload_n 0, 1) := by decide +kernel
theorem dL_treaties_381 : decode cL_treaties 381 = .ok (.iconst 0, 1) := by decide +kernel
theorem dL_treaties_382 : decode cL_treaties 382 = .ok (.iconst 5, 1) := by decide +kernel
theorem dL_treaties_383 : decode cL_treaties 383 = .ok (.invokevirtual 93, 3) := by decide +kernel
theorem dL_treaties_386 : decode cL_treaties 386 = .ok (.iconst (-1), 1) := by decide +kernel
theorem dL_treaties_387 : decode cL_treaties 387 = .ok (.if_icmp .ne 20, 3) := by decide +kernel
theorem dL_treaties_390 : decode cL_treaties 390 = .ok (.aload_n 0, 1) := by decide +kernel
theorem dL_treaties_391 : decode cL_treaties 391 = .ok (.iconst 0, 1) := by decide +kernel
theorem dL_treaties_392 : decode cL_treaties 392 = .ok (.bipush 21, 2) := by decide +kernel
theorem dL_treaties_394 : decode cL_treaties 394 = .ok (.iconst 0, 1) := by decide +kernel
theorem dL_treaties_395 : decode cL_treaties 395 = .ok (.invokevirtual 104, 3) := by decide +kernel
theorem dL_treaties_398 : decode cL_treaties 398 = .ok (.bipush (-2), 2) := by decide +kernel
theorem dL_treaties_400 : decode cL_treaties 400 = .ok (.if_icmp .ne 7, 3) := by decide +kernel
theorem dL_treaties_403 : decode cL_treaties 403 = .ok (.iconst 1, 1) := by decide +kernel
theorem dL_treaties_404 : decode cL_treaties 404 = .ok (.goto 4, 3) := by decide +kernel
theorem dL_treaties_407 : decode cL_treaties 407 = .ok (.iconst 0, 1) := by decide +kernel
theorem dL_treaties_408 : decode cL_treaties 408 = .ok (.ireturn, 1) := by decide +kernel
