theorem dL_law_195 : decode cL_law 195 = .ok (.iastore, 1) := by decide +kernel
theorem dL_law_196 : decode cL_law 196 = .ok (.iinc 14 1, 3) := by decide +kernel
theorem dL_law_199 : decode cL_law 199 = .ok (.goto (-26), 3) := by decide +kernel
theorem dL_law_202 : decode cL_law 202 = .ok (.iinc 13 1, 3) := by decide +kernel
theorem dL_law_205 : decode cL_law 205 = .ok (.goto (-42), 3) := by decide +kernel
theorem dL_law_208 : decode cL_law 208 = .ok (.aload_n 1, 1) := by decide +kernel
theorem dL_law_209 : decode cL_law 209 = .ok (.iload 5, 2) := by decide +kernel
theorem dL_law_211 : decode cL_law 211 = .ok (.iload 6, 2) := by decide +kernel
theorem dL_law_213 : decode cL_law 213 = .ok (.iload 7, 2) := by decide +kernel
theorem dL_law_215 : decode cL_law 215 = .ok (.invokevirtual 92, 3) := by decide +kernel
theorem dL_law_218 : decode cL_law 218 = .ok (.istore 13, 2) := by decide +kernel
theorem dL_law_220 : decode cL_law 220 = .ok (.aload_n 2, 1) := by decide +kernel
theorem dL_law_221 : decode cL_law 221 = .ok (.iload 5, 2) := by decide +kernel
theorem dL_law_223 : decode cL_law 223 = .ok (.iload 6, 2) := by decide +kernel
theorem dL_law_225 : decode cL_law 225 = .ok (.iload 7, 2) := by decide +kernel
theorem dL_law_227 : decode cL_law 227 = .ok (.invokevirtual 95, 3) := by decide +kernel
theorem dL_law_230 : decode cL_law 230 = .ok (.iload 13, 2) := by decide +kernel
theorem dL_law_232 : decode cL_law 232 = .ok (.if_icmp .ne 43, 3) := by decide +kernel
theorem dL_law_235 : decode cL_law 235 = .ok (.iload 13, 2) := by decide +kernel
theorem dL_law_237 : decode cL_law 237 = .ok (.ifCond .lt 38, 3) := by decide +kernel
theorem dL_law_240 : decode cL_law 240 = .ok (.iload 9, 2) := by decide +kernel
theorem dL_law_242 : decode cL_law 242 = .ok (.bipush 20, 2) := by decide +kernel
theorem dL_law_244 : decode cL_law 244 = .ok (.iload 8, 2) := by decide +kernel
theorem dL_law_246 : decode cL_law 246 = .ok (.imul, 1) := by decide +kernel
theorem dL_law_247 : decode cL_law 247 = .ok (.iload 7, 2) := by decide +kernel
theorem dL_law_249 : decode cL_law 249 = .ok (.imul, 1) := by decide +kernel
theorem dL_law_250 : decode cL_law 250 = .ok (.iadd, 1) := by decide +kernel
theorem dL_law_251 : decode cL_law 251 = .ok (.aload_n 1, 1) := by decide +kernel
theorem dL_law_252 : decode cL_law 252 = .ok (.iconst 2, 1) := by decide +kernel
theorem dL_law_253 : decode cL_law 253 = .ok (.invokevirtual 110, 3) := by decide +kernel
theorem dL_law_256 : decode cL_law 256 = .ok (.iload 13, 2) := by decide +kernel
theorem dL_law_258 : decode cL_law 258 = .ok (.iadd, 1) := by decide +kernel
theorem dL_law_259 : decode cL_law 259 = .ok (.if_icmp .ne 16, 3) := by decide +kernel
theorem dL_law_262 : decode cL_law 262 = .ok (.aload_n 1, 1) := by decide +kernel
theorem dL_law_263 : decode cL_law 263 = .ok (.iconst 5, 1) := by decide +kernel
theorem dL_law_264 : decode cL_law 264 = .ok (.invokevirtual 110, 3) := by decide +kernel
theorem dL_law_267 : decode cL_law 267 = .ok (.iload 10, 2) := by decide +kernel
theorem dL_law_269 : decode cL_law 269 = .ok (.iload 13, 2) := by decide +kernel
theorem dL_law_271 : decode cL_law 271 = .ok (.iadd, 1) := by decide +kernel
theorem dL_law_272 : decode cL_law 272 = .ok (.if_icmp .eq 5, 3) := by decide +kernel
theorem dL_law_275 : decode cL_law 275 = .ok (.iconst 0, 1) := by decide +kernel
theorem dL_law_276 : decode cL_law 276 = .ok (.ireturn, 1) := by decide +kernel
theorem dL_law_277 : decode cL_law 277 = .ok (.iconst 0, 1) := by decide +kernel
theorem dL_law_278 : decode cL_law 278 = .ok (.istore 14, 2) := by decide +kernel
theorem dL_law_280 : decode cL_law 280 = .ok (.iconst 0, 1) := by decide +kernel
theorem dL_law_281 : decode cL_law 281 = .ok (.istore 15, 2) := by decide +kernel
theorem dL_law_283 : decode cL_law 283 = .ok (.iconst 0, 1) := by decide +kernel
theorem dL_law_284 : decode cL_law 284 = .ok (.istore 16, 2) := by decide +kernel
theorem dL_law_286 : decode cL_law 286 = .ok (.iload 16, 2) := by decide +kernel
theorem dL_law_288 : decode cL_law 288 = .ok (.bipush 20, 2) := by decide +kernel
theorem dL_law_290 : decode cL_law 290 = .ok (.if_icmp .ge 124, 3) := by decide +kernel
theorem dL_law_293 : decode cL_law 293 = .ok (.iconst 0, 1) := by decide +kernel
theorem dL_law_294 : decode cL_law 294 = .ok (.istore 17, 2) := by decide +kernel
theorem dL_law_296 : decode cL_law 296 = .ok (.iload 17, 2) := by decide +kernel
theorem dL_law_298 : decode cL_law 298 = .ok (.bipush 20, 2) := by decide +kernel
theorem dL_law_300 : decode cL_law 300 = .ok (.if_icmp .ge 108, 3) := by decide +kernel
theorem dL_law_303 : decode cL_law 303 = .ok (.aload_n 1, 1) := by decide +kernel
theorem dL_law_304 : decode cL_law 304 = .ok (.iload 16, 2) := by decide +kernel
theorem dL_law_306 : decode cL_law 306 = .ok (.iload 17, 2) := by decide +kernel
theorem dL_law_308 : decode cL_law 308 = .ok (.invokevirtual 119, 3) := by decide +kernel
theorem dL_law_311 : decode cL_law 311 = .ok (.istore 18, 2) := by decide +kernel
theorem dL_law_313 : decode cL_law 313 = .ok (.iload 14, 2) := by decide +kernel
theorem dL_law_315 : decode cL_law 315 = .ok (.iload 18, 2) := by decide +kernel
theorem dL_law_317 : decode cL_law 317 = .ok (.iadd, 1) := by decide +kernel
theorem dL_law_318 : decode cL_law 318 = .ok (.istore 14, 2) := by decide +kernel
theorem dL_law_320 : decode cL_law 320 = .ok (.iload 15, 2) := by decide +kernel
theorem dL_law_322 : decode cL_law 322 = .ok (.iload 18, 2) := by decide +kernel
theorem dL_law_324 : decode cL_law 324 = .ok (.invokestatic 116, 3) := by decide +kernel
theorem dL_law_327 : decode cL_law 327 = .ok (.istore 15, 2) := by decide +kernel
theorem dL_law_329 : decode cL_law 329 = .ok (.iload 18, 2) := by decide +kernel
theorem dL_law_331 : decode cL_law 331 = .ok (.ifCond .lt 69, 3) := by decide +kernel
theorem dL_law_334 : decode cL_law 334 = .ok (.iload 18, 2) := by decide +kernel
theorem dL_law_336 : decode cL_law 336 = .ok (.sipush 200, 3) := by decide +kernel
theorem dL_law_339 : decode cL_law 339 = .ok (.if_icmp .gt 61, 3) := by decide +kernel
theorem dL_law_342 : decode cL_law 342 = .ok (.iload 18, 2) := by decide +kernel
theorem dL_law_344 : decode cL_law 344 = .ok (.aload 12, 2) := by decide +kernel
theorem dL_law_346 : decode cL_law 346 = .ok (.iload 16, 2) := by decide +kernel
theorem dL_law_348 : decode cL_law 348 = .ok (.aaload, 1) := by decide +kernel
theorem dL_law_349 : decode cL_law 349 = .ok (.iload 17, 2) := by decide +kernel
theorem dL_law_351 : decode cL_law 351 = .ok (.iaload, 1) := by decide +kernel
theorem dL_law_352 : decode cL_law 352 = .ok (.bipush 10, 2) := by decide +kernel
theorem dL_law_354 : decode cL_law 354 = .ok (.iload 11, 2) := by decide +kernel
theorem dL_law_356 : decode cL_law 356 = .ok (.imul, 1) := by decide +kernel
theorem dL_law_357 : decode cL_law 357 = .ok (.invokestatic 116, 3) := by decide +kernel
theorem dL_law_360 : decode cL_law 360 = .ok (.if_icmp .gt 40, 3) := by decide +kernel
theorem dL_law_363 : decode cL_law 363 = .ok (.iload 18, 2) := by decide +kernel
theorem dL_law_365 : decode cL_law 365 = .ok (.aload 12, 2) := by decide +kernel
theorem dL_law_367 : decode cL_law 367 = .ok (.iload 16, 2) := by decide +kernel
theorem dL_law_369 : decode cL_law 369 = .ok (.aaload, 1) := by decide +kernel
theorem dL_law_370 : decode cL_law 370 = .ok (.iload 17, 2) := by decide +kernel
theorem dL_law_372 : decode cL_law 372 = .ok (.iaload, 1) := by decide +kernel
theorem dL_law_373 : decode cL_law 373 = .ok (.iload 6, 2) := by decide +kernel
theorem dL_law_375 : decode cL_law 375 = .ok (.iload 7, 2) := by decide +kernel
theorem dL_law_377 : decode cL_law 377 = .ok (.imul, 1) := by decide +kernel
theorem dL_law_378 : decode cL_law 378 = .ok (.isub, 1) := by decide +kernel
theorem dL_law_379 : decode cL_law 379 = .ok (.if_icmp .lt 21, 3) := by decide +kernel
theorem dL_law_382 : decode cL_law 382 = .ok (.iload 18, 2) := by decide +kernel
theorem dL_law_384 : decode cL_law 384 = .ok (.aload 12, 2) := by decide +kernel
theorem dL_law_386 : decode cL_law 386 = .ok (.iload 16, 2) := by decide +kernel
theorem dL_law_388 : decode cL_law 388 = .ok (.aaload, 1) := by decide +kernel
theorem dL_law_389 : decode cL_law 389 = .ok (.iload 17, 2) := by decide +kernel
theorem dL_law_391 : decode cL_law 391 = .ok (.iaload, 1) := by decide +kernel
theorem dL_law_392 : decode cL_law 392 = .ok (.iconst 4, 1) := by decide +kernel
theorem dL_law_393 : decode cL_law 393 = .ok (.iload 7, 2) := by decide +kernel
theorem dL_law_395 : decode cL_law 395 = .ok (.imul, 1) := by decide +kernel
theorem dL_law_396 : decode cL_law 396 = .ok (.iadd, 1) := by decide +kernel
theorem dL_law_397 : decode cL_law 397 = .ok (.if_icmp .le 5, 3) := by decide +kernel
theorem dL_law_400 : decode cL_law 400 = .ok (.iconst 0, 1) := by decide +kernel
theorem dL_law_401 : decode cL_law 401 = .ok (.ireturn, 1) := by decide +kernel
theorem dL_law_402 : decode cL_law 402 = .ok (.iinc 17 1, 3) := by decide +kernel
