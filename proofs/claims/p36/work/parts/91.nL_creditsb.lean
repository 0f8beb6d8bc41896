theorem dL_credits_202 : decode cL_credits 202 = .ok (.ifCond .ge 7, 3) := by decide +kernel
theorem dL_credits_205 : decode cL_credits 205 = .ok (.iconst 1, 1) := by decide +kernel
theorem dL_credits_206 : decode cL_credits 206 = .ok (.goto 18, 3) := by decide +kernel
theorem dL_credits_209 : decode cL_credits 209 = .ok (.aload_n 0, 1) := by decide +kernel
theorem dL_credits_210 : decode cL_credits 210 = .ok (.iload 10, 2) := by decide +kernel
theorem dL_credits_212 : decode cL_credits 212 = .ok (.iconst 2, 1) := by decide +kernel
theorem dL_credits_213 : decode cL_credits 213 = .ok (.invokevirtual 113, 3) := by decide +kernel
theorem dL_credits_216 : decode cL_credits 216 = .ok (.aload_n 0, 1) := by decide +kernel
theorem dL_credits_217 : decode cL_credits 217 = .ok (.iload 6, 2) := by decide +kernel
theorem dL_credits_219 : decode cL_credits 219 = .ok (.iconst 2, 1) := by decide +kernel
theorem dL_credits_220 : decode cL_credits 220 = .ok (.invokevirtual 113, 3) := by decide +kernel
theorem dL_credits_223 : decode cL_credits 223 = .ok (.isub, 1) := by decide +kernel
theorem dL_credits_224 : decode cL_credits 224 = .ok (.istore 11, 2) := by decide +kernel
theorem dL_credits_226 : decode cL_credits 226 = .ok (.iload 11, 2) := by decide +kernel
theorem dL_credits_228 : decode cL_credits 228 = .ok (.ifCond .eq 8, 3) := by decide +kernel
theorem dL_credits_231 : decode cL_credits 231 = .ok (.iload 11, 2) := by decide +kernel
theorem dL_credits_233 : decode cL_credits 233 = .ok (.goto 18, 3) := by decide +kernel
theorem dL_credits_236 : decode cL_credits 236 = .ok (.aload_n 0, 1) := by decide +kernel
theorem dL_credits_237 : decode cL_credits 237 = .ok (.iload 6, 2) := by decide +kernel
theorem dL_credits_239 : decode cL_credits 239 = .ok (.iconst 1, 1) := by decide +kernel
theorem dL_credits_240 : decode cL_credits 240 = .ok (.invokevirtual 113, 3) := by decide +kernel
theorem dL_credits_243 : decode cL_credits 243 = .ok (.aload_n 0, 1) := by decide +kernel
theorem dL_credits_244 : decode cL_credits 244 = .ok (.iload 10, 2) := by decide +kernel
theorem dL_credits_246 : decode cL_credits 246 = .ok (.iconst 1, 1) := by decide +kernel
theorem dL_credits_247 : decode cL_credits 247 = .ok (.invokevirtual 113, 3) := by decide +kernel
theorem dL_credits_250 : decode cL_credits 250 = .ok (.isub, 1) := by decide +kernel
theorem dL_credits_251 : decode cL_credits 251 = .ok (.istore 11, 2) := by decide +kernel
theorem dL_credits_253 : decode cL_credits 253 = .ok (.iload 11, 2) := by decide +kernel
theorem dL_credits_255 : decode cL_credits 255 = .ok (.ifCond .lt 15, 3) := by decide +kernel
theorem dL_credits_258 : decode cL_credits 258 = .ok (.iload 11, 2) := by decide +kernel
theorem dL_credits_260 : decode cL_credits 260 = .ok (.ifCond .ne 12, 3) := by decide +kernel
theorem dL_credits_263 : decode cL_credits 263 = .ok (.iload 10, 2) := by decide +kernel
theorem dL_credits_265 : decode cL_credits 265 = .ok (.iload 6, 2) := by decide +kernel
theorem dL_credits_267 : decode cL_credits 267 = .ok (.if_icmp .ge 5, 3) := by decide +kernel
theorem dL_credits_270 : decode cL_credits 270 = .ok (.iconst 0, 1) := by decide +kernel
theorem dL_credits_271 : decode cL_credits 271 = .ok (.ireturn, 1) := by decide +kernel
theorem dL_credits_272 : decode cL_credits 272 = .ok (.iload 10, 2) := by decide +kernel
theorem dL_credits_274 : decode cL_credits 274 = .ok (.istore 6, 2) := by decide +kernel
theorem dL_credits_276 : decode cL_credits 276 = .ok (.iinc 8 1, 3) := by decide +kernel
theorem dL_credits_279 : decode cL_credits 279 = .ok (.goto (-237), 3) := by decide +kernel
theorem dL_credits_282 : decode cL_credits 282 = .ok (.iconst 0, 1) := by decide +kernel
theorem dL_credits_283 : decode cL_credits 283 = .ok (.istore 8, 2) := by decide +kernel
theorem dL_credits_285 : decode cL_credits 285 = .ok (.iload 8, 2) := by decide +kernel
theorem dL_credits_287 : decode cL_credits 287 = .ok (.iconst 5, 1) := by decide +kernel
theorem dL_credits_288 : decode cL_credits 288 = .ok (.if_icmp .ge 52, 3) := by decide +kernel
theorem dL_credits_291 : decode cL_credits 291 = .ok (.aload_n 0, 1) := by decide +kernel
theorem dL_credits_292 : decode cL_credits 292 = .ok (.iload 8, 2) := by decide +kernel
theorem dL_credits_294 : decode cL_credits 294 = .ok (.invokevirtual 121, 3) := by decide +kernel
theorem dL_credits_297 : decode cL_credits 297 = .ok (.aload_n 3, 1) := by decide +kernel
theorem dL_credits_298 : decode cL_credits 298 = .ok (.iload 8, 2) := by decide +kernel
theorem dL_credits_300 : decode cL_credits 300 = .ok (.iaload, 1) := by decide +kernel
theorem dL_credits_301 : decode cL_credits 301 = .ok (.if_icmp .ne 31, 3) := by decide +kernel
theorem dL_credits_304 : decode cL_credits 304 = .ok (.aload_n 0, 1) := by decide +kernel
theorem dL_credits_305 : decode cL_credits 305 = .ok (.iload 8, 2) := by decide +kernel
theorem dL_credits_307 : decode cL_credits 307 = .ok (.invokevirtual 124, 3) := by decide +kernel
theorem dL_credits_310 : decode cL_credits 310 = .ok (.aload_n 3, 1) := by decide +kernel
theorem dL_credits_311 : decode cL_credits 311 = .ok (.iload 8, 2) := by decide +kernel
theorem dL_credits_313 : decode cL_credits 313 = .ok (.iaload, 1) := by decide +kernel
theorem dL_credits_314 : decode cL_credits 314 = .ok (.if_icmp .ne 18, 3) := by decide +kernel
theorem dL_credits_317 : decode cL_credits 317 = .ok (.aload_n 0, 1) := by decide +kernel
theorem dL_credits_318 : decode cL_credits 318 = .ok (.iload 8, 2) := by decide +kernel
theorem dL_credits_320 : decode cL_credits 320 = .ok (.iconst 4, 1) := by decide +kernel
theorem dL_credits_321 : decode cL_credits 321 = .ok (.invokevirtual 110, 3) := by decide +kernel
theorem dL_credits_324 : decode cL_credits 324 = .ok (.aload 4, 2) := by decide +kernel
theorem dL_credits_326 : decode cL_credits 326 = .ok (.iload 8, 2) := by decide +kernel
theorem dL_credits_328 : decode cL_credits 328 = .ok (.iaload, 1) := by decide +kernel
theorem dL_credits_329 : decode cL_credits 329 = .ok (.if_icmp .eq 5, 3) := by decide +kernel
theorem dL_credits_332 : decode cL_credits 332 = .ok (.iconst 0, 1) := by decide +kernel
theorem dL_credits_333 : decode cL_credits 333 = .ok (.ireturn, 1) := by decide +kernel
theorem dL_credits_334 : decode cL_credits 334 = .ok (.iinc 8 1, 3) := by decide +kernel
theorem dL_credits_337 : decode cL_credits 337 = .ok (.goto (-52), 3) := by decide +kernel
theorem dL_credits_340 : decode cL_credits 340 = .ok (.iconst 0, 1) := by decide +kernel
theorem dL_credits_341 : decode cL_credits 341 = .ok (.istore 8, 2) := by decide +kernel
theorem dL_credits_343 : decode cL_credits 343 = .ok (.iload 8, 2) := by decide +kernel
theorem dL_credits_345 : decode cL_credits 345 = .ok (.bipush 7, 2) := by decide +kernel
theorem dL_credits_347 : decode cL_credits 347 = .ok (.if_icmp .ge 25, 3) := by decide +kernel
theorem dL_credits_350 : decode cL_credits 350 = .ok (.aload_n 0, 1) := by decide +kernel
theorem dL_credits_351 : decode cL_credits 351 = .ok (.iload 8, 2) := by decide +kernel
theorem dL_credits_353 : decode cL_credits 353 = .ok (.invokevirtual 127, 3) := by decide +kernel
theorem dL_credits_356 : decode cL_credits 356 = .ok (.aload 5, 2) := by decide +kernel
theorem dL_credits_358 : decode cL_credits 358 = .ok (.iload 8, 2) := by decide +kernel
theorem dL_credits_360 : decode cL_credits 360 = .ok (.iaload, 1) := by decide +kernel
theorem dL_credits_361 : decode cL_credits 361 = .ok (.if_icmp .eq 5, 3) := by decide +kernel
theorem dL_credits_364 : decode cL_credits 364 = .ok (.iconst 0, 1) := by decide +kernel
theorem dL_credits_365 : decode cL_credits 365 = .ok (.ireturn, 1) := by decide +kernel
theorem dL_credits_366 : decode cL_credits 366 = .ok (.iinc 8 1, 3) := by decide +kernel
theorem dL_credits_369 : decode cL_credits 369 = .ok (.goto (-26), 3) := by decide +kernel
theorem dL_credits_372 : decode cL_credits 372 = .ok (.aload_n 0, 1) := by decide +kernel
theorem dL_credits_373 : decode cL_credits 373 = .ok (.aload_n 0, 1) := by decide +kernel
theorem dL_credits_374 : decode cL_credits 374 = .ok (.invokevirtual 96, 3) := by decide +kernel
theorem dL_credits_377 : decode cL_credits 377 = .ok (.invokestatic 86, 3) := by decide +kernel
theorem dL_credits_380 : decode cL_credits 380 = .ok (.aload 7, 2) := by decide +kernel
theorem dL_credits_382 : decode cL_credits 382 = .ok (.invokevirtual 76, 3) := by decide +kernel
theorem dL_credits_385 : decode cL_credits 385 = .ok (.invokevirtual 130, 3) := by decide +kernel
theorem dL_credits_388 : decode cL_credits 388 = .ok (.ifCond .eq 37, 3) := by decide +kernel
theorem dL_credits_391 : decode cL_credits 391 = .ok (.aload_n 0, 1) := by decide +kernel
theorem dL_credits_392 : decode cL_credits 392 = .ok (.iload_n 1, 1) := by decide +kernel
theorem dL_credits_393 : decode cL_credits 393 = .ok (.invokevirtual 120, 3) := by decide +kernel
theorem dL_credits_396 : decode cL_credits 396 = .ok (.iconst (-1), 1) := by decide +kernel
theorem dL_credits_397 : decode cL_credits 397 = .ok (.if_icmp .ne 28, 3) := by decide +kernel
theorem dL_credits_400 : decode cL_credits 400 = .ok (.aload_n 0, 1) := by decide +kernel
theorem dL_credits_401 : decode cL_credits 401 = .ok (.iload_n 1, 1) := by decide +kernel
theorem dL_credits_402 : decode cL_credits 402 = .ok (.iconst 0, 1) := by decide +kernel
theorem dL_credits_403 : decode cL_credits 403 = .ok (.invokevirtual 113, 3) := by decide +kernel
theorem dL_credits_406 : decode cL_credits 406 = .ok (.iconst (-1), 1) := by decide +kernel
theorem dL_credits_407 : decode cL_credits 407 = .ok (.if_icmp .ne 18, 3) := by decide +kernel
theorem dL_credits_410 : decode cL_credits 410 = .ok (.aload_n 0, 1) := by decide +kernel
theorem dL_credits_411 : decode cL_credits 411 = .ok (.bipush 7, 2) := by decide +kernel
theorem dL_credits_413 : decode cL_credits 413 = .ok (.invokevirtual 127, 3) := by decide +kernel
theorem dL_credits_416 : decode cL_credits 416 = .ok (.bipush (-2), 2) := by decide +kernel
theorem dL_credits_418 : decode cL_credits 418 = .ok (.if_icmp .ne 7, 3) := by decide +kernel
theorem dL_credits_421 : decode cL_credits 421 = .ok (.iconst 1, 1) := by decide +kernel
theorem dL_credits_422 : decode cL_credits 422 = .ok (.goto 4, 3) := by decide +kernel
theorem dL_credits_425 : decode cL_credits 425 = .ok (.iconst 0, 1) := by decide +kernel
theorem dL_credits_426 : decode cL_credits 426 = .ok (.ireturn, 1) := by decide +kernel
