theorem dL_foretold_179 : decode cL_foretold 179 = .ok (.iconst 1, 1) := by decide +kernel
theorem dL_foretold_180 : decode cL_foretold 180 = .ok (.goto 4, 3) := by decide +kernel
theorem dL_foretold_183 : decode cL_foretold 183 = .ok (.iconst 0, 1) := by decide +kernel
theorem dL_foretold_184 : decode cL_foretold 184 = .ok (.istore 11, 2) := by decide +kernel
theorem dL_foretold_186 : decode cL_foretold 186 = .ok (.iload 6, 2) := by decide +kernel
theorem dL_foretold_188 : decode cL_foretold 188 = .ok (.iload 11, 2) := by decide +kernel
theorem dL_foretold_190 : decode cL_foretold 190 = .ok (.iload 8, 2) := by decide +kernel
theorem dL_foretold_192 : decode cL_foretold 192 = .ok (.iload 5, 2) := by decide +kernel
theorem dL_foretold_194 : decode cL_foretold 194 = .ok (.if_icmp .ne 7, 3) := by decide +kernel
theorem dL_foretold_197 : decode cL_foretold 197 = .ok (.iconst 1, 1) := by decide +kernel
theorem dL_foretold_198 : decode cL_foretold 198 = .ok (.goto 4, 3) := by decide +kernel
theorem dL_foretold_201 : decode cL_foretold 201 = .ok (.iconst 0, 1) := by decide +kernel
theorem dL_foretold_202 : decode cL_foretold 202 = .ok (.if_icmp .ne 15, 3) := by decide +kernel
theorem dL_foretold_205 : decode cL_foretold 205 = .ok (.aload_n 0, 1) := by decide +kernel
theorem dL_foretold_206 : decode cL_foretold 206 = .ok (.invokevirtual 167, 3) := by decide +kernel
theorem dL_foretold_209 : decode cL_foretold 209 = .ok (.iload_n 2, 1) := by decide +kernel
theorem dL_foretold_210 : decode cL_foretold 210 = .ok (.if_icmp .ne 7, 3) := by decide +kernel
theorem dL_foretold_213 : decode cL_foretold 213 = .ok (.iconst 1, 1) := by decide +kernel
theorem dL_foretold_214 : decode cL_foretold 214 = .ok (.goto 4, 3) := by decide +kernel
theorem dL_foretold_217 : decode cL_foretold 217 = .ok (.iconst 0, 1) := by decide +kernel
theorem dL_foretold_218 : decode cL_foretold 218 = .ok (.iand, 1) := by decide +kernel
theorem dL_foretold_219 : decode cL_foretold 219 = .ok (.istore 6, 2) := by decide +kernel
theorem dL_foretold_221 : decode cL_foretold 221 = .ok (.iinc 8 (-1), 3) := by decide +kernel
theorem dL_foretold_224 : decode cL_foretold 224 = .ok (.goto (-180), 3) := by decide +kernel
theorem dL_foretold_227 : decode cL_foretold 227 = .ok (.aload_n 1, 1) := by decide +kernel
theorem dL_foretold_228 : decode cL_foretold 228 = .ok (.iconst 4, 1) := by decide +kernel
theorem dL_foretold_229 : decode cL_foretold 229 = .ok (.invokevirtual 23, 3) := by decide +kernel
theorem dL_foretold_232 : decode cL_foretold 232 = .ok (.istore 8, 2) := by decide +kernel
theorem dL_foretold_234 : decode cL_foretold 234 = .ok (.bipush 20, 2) := by decide +kernel
theorem dL_foretold_236 : decode cL_foretold 236 = .ok (.newarray .int, 2) := by decide +kernel
theorem dL_foretold_238 : decode cL_foretold 238 = .ok (.astore 9, 2) := by decide +kernel
theorem dL_foretold_240 : decode cL_foretold 240 = .ok (.iconst 0, 1) := by decide +kernel
theorem dL_foretold_241 : decode cL_foretold 241 = .ok (.istore 10, 2) := by decide +kernel
theorem dL_foretold_243 : decode cL_foretold 243 = .ok (.iload 10, 2) := by decide +kernel
theorem dL_foretold_245 : decode cL_foretold 245 = .ok (.bipush 20, 2) := by decide +kernel
theorem dL_foretold_247 : decode cL_foretold 247 = .ok (.if_icmp .ge 28, 3) := by decide +kernel
theorem dL_foretold_250 : decode cL_foretold 250 = .ok (.aload 9, 2) := by decide +kernel
theorem dL_foretold_252 : decode cL_foretold 252 = .ok (.iload 10, 2) := by decide +kernel
theorem dL_foretold_254 : decode cL_foretold 254 = .ok (.aload_n 0, 1) := by decide +kernel
theorem dL_foretold_255 : decode cL_foretold 255 = .ok (.iload 10, 2) := by decide +kernel
theorem dL_foretold_257 : decode cL_foretold 257 = .ok (.iconst 4, 1) := by decide +kernel
theorem dL_foretold_258 : decode cL_foretold 258 = .ok (.idiv, 1) := by decide +kernel
theorem dL_foretold_259 : decode cL_foretold 259 = .ok (.iload 8, 2) := by decide +kernel
theorem dL_foretold_261 : decode cL_foretold 261 = .ok (.iload 10, 2) := by decide +kernel
theorem dL_foretold_263 : decode cL_foretold 263 = .ok (.iconst 4, 1) := by decide +kernel
theorem dL_foretold_264 : decode cL_foretold 264 = .ok (.irem, 1) := by decide +kernel
theorem dL_foretold_265 : decode cL_foretold 265 = .ok (.invokevirtual 170, 3) := by decide +kernel
theorem dL_foretold_268 : decode cL_foretold 268 = .ok (.iastore, 1) := by decide +kernel
theorem dL_foretold_269 : decode cL_foretold 269 = .ok (.iinc 10 1, 3) := by decide +kernel
theorem dL_foretold_272 : decode cL_foretold 272 = .ok (.goto (-29), 3) := by decide +kernel
theorem dL_foretold_275 : decode cL_foretold 275 = .ok (.iconst 0, 1) := by decide +kernel
theorem dL_foretold_276 : decode cL_foretold 276 = .ok (.istore 10, 2) := by decide +kernel
theorem dL_foretold_278 : decode cL_foretold 278 = .ok (.iload 10, 2) := by decide +kernel
theorem dL_foretold_280 : decode cL_foretold 280 = .ok (.iload 8, 2) := by decide +kernel
theorem dL_foretold_282 : decode cL_foretold 282 = .ok (.if_icmp .ge 15, 3) := by decide +kernel
theorem dL_foretold_285 : decode cL_foretold 285 = .ok (.aload_n 0, 1) := by decide +kernel
theorem dL_foretold_286 : decode cL_foretold 286 = .ok (.invokevirtual 64, 3) := by decide +kernel
theorem dL_foretold_289 : decode cL_foretold 289 = .ok (.istore 11, 2) := by decide +kernel
theorem dL_foretold_291 : decode cL_foretold 291 = .ok (.iinc 10 1, 3) := by decide +kernel
theorem dL_foretold_294 : decode cL_foretold 294 = .ok (.goto (-16), 3) := by decide +kernel
theorem dL_foretold_297 : decode cL_foretold 297 = .ok (.iconst 0, 1) := by decide +kernel
theorem dL_foretold_298 : decode cL_foretold 298 = .ok (.istore 10, 2) := by decide +kernel
theorem dL_foretold_300 : decode cL_foretold 300 = .ok (.iload 10, 2) := by decide +kernel
theorem dL_foretold_302 : decode cL_foretold 302 = .ok (.bipush 20, 2) := by decide +kernel
theorem dL_foretold_304 : decode cL_foretold 304 = .ok (.if_icmp .ge 39, 3) := by decide +kernel
theorem dL_foretold_307 : decode cL_foretold 307 = .ok (.iload 6, 2) := by decide +kernel
theorem dL_foretold_309 : decode cL_foretold 309 = .ok (.aload_n 0, 1) := by decide +kernel
theorem dL_foretold_310 : decode cL_foretold 310 = .ok (.iload 10, 2) := by decide +kernel
theorem dL_foretold_312 : decode cL_foretold 312 = .ok (.iconst 4, 1) := by decide +kernel
theorem dL_foretold_313 : decode cL_foretold 313 = .ok (.idiv, 1) := by decide +kernel
theorem dL_foretold_314 : decode cL_foretold 314 = .ok (.iload 10, 2) := by decide +kernel
theorem dL_foretold_316 : decode cL_foretold 316 = .ok (.iconst 4, 1) := by decide +kernel
theorem dL_foretold_317 : decode cL_foretold 317 = .ok (.irem, 1) := by decide +kernel
theorem dL_foretold_318 : decode cL_foretold 318 = .ok (.invokevirtual 110, 3) := by decide +kernel
theorem dL_foretold_321 : decode cL_foretold 321 = .ok (.aload 9, 2) := by decide +kernel
theorem dL_foretold_323 : decode cL_foretold 323 = .ok (.iload 10, 2) := by decide +kernel
theorem dL_foretold_325 : decode cL_foretold 325 = .ok (.iaload, 1) := by decide +kernel
theorem dL_foretold_326 : decode cL_foretold 326 = .ok (.if_icmp .ne 7, 3) := by decide +kernel
theorem dL_foretold_329 : decode cL_foretold 329 = .ok (.iconst 1, 1) := by decide +kernel
theorem dL_foretold_330 : decode cL_foretold 330 = .ok (.goto 4, 3) := by decide +kernel
theorem dL_foretold_333 : decode cL_foretold 333 = .ok (.iconst 0, 1) := by decide +kernel
theorem dL_foretold_334 : decode cL_foretold 334 = .ok (.iand, 1) := by decide +kernel
theorem dL_foretold_335 : decode cL_foretold 335 = .ok (.istore 6, 2) := by decide +kernel
theorem dL_foretold_337 : decode cL_foretold 337 = .ok (.iinc 10 1, 3) := by decide +kernel
theorem dL_foretold_340 : decode cL_foretold 340 = .ok (.goto (-40), 3) := by decide +kernel
theorem dL_foretold_343 : decode cL_foretold 343 = .ok (.aload_n 0, 1) := by decide +kernel
theorem dL_foretold_344 : decode cL_foretold 344 = .ok (.invokevirtual 167, 3) := by decide +kernel
theorem dL_foretold_347 : decode cL_foretold 347 = .ok (.iload_n 2, 1) := by decide +kernel
theorem dL_foretold_348 : decode cL_foretold 348 = .ok (.if_icmp .ne 12, 3) := by decide +kernel
theorem dL_foretold_351 : decode cL_foretold 351 = .ok (.iload 6, 2) := by decide +kernel
theorem dL_foretold_353 : decode cL_foretold 353 = .ok (.ifCond .eq 7, 3) := by decide +kernel
theorem dL_foretold_356 : decode cL_foretold 356 = .ok (.iconst 1, 1) := by decide +kernel
theorem dL_foretold_357 : decode cL_foretold 357 = .ok (.goto 4, 3) := by decide +kernel
theorem dL_foretold_360 : decode cL_foretold 360 = .ok (.iconst 0, 1) := by decide +kernel
theorem dL_foretold_361 : decode cL_foretold 361 = .ok (.ireturn, 1) := by decide +kernel
