theorem dL_below_0 : decode cL_below 0 = .ok (.iload_n 0, 1) := by decide +kernel
theorem dL_below_1 : decode cL_below 1 = .ok (.ldc 7, 2) := by decide +kernel
theorem dL_below_3 : decode cL_below 3 = .ok (.iand, 1) := by decide +kernel
theorem dL_below_4 : decode cL_below 4 = .ok (.iload_n 1, 1) := by decide +kernel
theorem dL_below_5 : decode cL_below 5 = .ok (.irem, 1) := by decide +kernel
theorem dL_below_6 : decode cL_below 6 = .ok (.ireturn, 1) := by decide +kernel
theorem dL_cell_0 : decode cL_cell 0 = .ok (.iload_n 1, 1) := by decide +kernel
theorem dL_cell_1 : decode cL_cell 1 = .ok (.aload_n 0, 1) := by decide +kernel
theorem dL_cell_2 : decode cL_cell 2 = .ok (.arraylength, 1) := by decide +kernel
theorem dL_cell_3 : decode cL_cell 3 = .ok (.if_icmp .ge 9, 3) := by decide +kernel
theorem dL_cell_6 : decode cL_cell 6 = .ok (.aload_n 0, 1) := by decide +kernel
theorem dL_cell_7 : decode cL_cell 7 = .ok (.iload_n 1, 1) := by decide +kernel
theorem dL_cell_8 : decode cL_cell 8 = .ok (.iaload, 1) := by decide +kernel
theorem dL_cell_9 : decode cL_cell 9 = .ok (.goto 9, 3) := by decide +kernel
theorem dL_cell_12 : decode cL_cell 12 = .ok (.ldc 8, 2) := by decide +kernel
theorem dL_cell_14 : decode cL_cell 14 = .ok (.iload_n 1, 1) := by decide +kernel
theorem dL_cell_15 : decode cL_cell 15 = .ok (.iconst 3, 1) := by decide +kernel
theorem dL_cell_16 : decode cL_cell 16 = .ok (.iadd, 1) := by decide +kernel
theorem dL_cell_17 : decode cL_cell 17 = .ok (.imul, 1) := by decide +kernel
theorem dL_cell_18 : decode cL_cell 18 = .ok (.ireturn, 1) := by decide +kernel
theorem dL_act_0 : decode cL_act 0 = .ok (.aload_n 1, 1) := by decide +kernel
theorem dL_act_1 : decode cL_act 1 = .ok (.getfield 9, 3) := by decide +kernel
theorem dL_act_4 : decode cL_act 4 = .ok (.arraylength, 1) := by decide +kernel
theorem dL_act_5 : decode cL_act 5 = .ok (.istore_n 3, 1) := by decide +kernel
theorem dL_act_6 : decode cL_act 6 = .ok (.iload_n 2, 1) := by decide +kernel
theorem dL_act_7 : decode cL_act 7 = .ok (.bipush 13, 2) := by decide +kernel
theorem dL_act_9 : decode cL_act 9 = .ok (.invokestatic 15, 3) := by decide +kernel
theorem dL_act_12 : decode cL_act 12 = .ok (.tableswitch 849 0 10 #[60, 60, 60, 257, 377, 424, 511, 565, 602, 602, 720], 60) := by decide +kernel
theorem dL_act_72 : decode cL_act 72 = .ok (.iload_n 3, 1) := by decide +kernel
theorem dL_act_73 : decode cL_act 73 = .ok (.bipush 10, 2) := by decide +kernel
theorem dL_act_75 : decode cL_act 75 = .ok (.if_icmp .ne 5, 3) := by decide +kernel
theorem dL_act_78 : decode cL_act 78 = .ok (.iconst 1, 1) := by decide +kernel
theorem dL_act_79 : decode cL_act 79 = .ok (.ireturn, 1) := by decide +kernel
theorem dL_act_80 : decode cL_act 80 = .ok (.iload_n 2, 1) := by decide +kernel
theorem dL_act_81 : decode cL_act 81 = .ok (.iconst 3, 1) := by decide +kernel
theorem dL_act_82 : decode cL_act 82 = .ok (.ishr, 1) := by decide +kernel
theorem dL_act_83 : decode cL_act 83 = .ok (.iconst 2, 1) := by decide +kernel
theorem dL_act_84 : decode cL_act 84 = .ok (.invokestatic 15, 3) := by decide +kernel
theorem dL_act_87 : decode cL_act 87 = .ok (.ifCond .ne 7, 3) := by decide +kernel
theorem dL_act_90 : decode cL_act 90 = .ok (.iconst 1, 1) := by decide +kernel
theorem dL_act_91 : decode cL_act 91 = .ok (.goto 4, 3) := by decide +kernel
theorem dL_act_94 : decode cL_act 94 = .ok (.iconst 0, 1) := by decide +kernel
theorem dL_act_95 : decode cL_act 95 = .ok (.istore 4, 2) := by decide +kernel
theorem dL_act_97 : decode cL_act 97 = .ok (.iconst 1, 1) := by decide +kernel
theorem dL_act_98 : decode cL_act 98 = .ok (.iload_n 2, 1) := by decide +kernel
theorem dL_act_99 : decode cL_act 99 = .ok (.iconst 4, 1) := by decide +kernel
theorem dL_act_100 : decode cL_act 100 = .ok (.ishr, 1) := by decide +kernel
theorem dL_act_101 : decode cL_act 101 = .ok (.bipush 20, 2) := by decide +kernel
theorem dL_act_103 : decode cL_act 103 = .ok (.invokestatic 15, 3) := by decide +kernel
theorem dL_act_106 : decode cL_act 106 = .ok (.iadd, 1) := by decide +kernel
theorem dL_act_107 : decode cL_act 107 = .ok (.istore 5, 2) := by decide +kernel
theorem dL_act_109 : decode cL_act 109 = .ok (.bipush 6, 2) := by decide +kernel
theorem dL_act_111 : decode cL_act 111 = .ok (.newarray .int, 2) := by decide +kernel
theorem dL_act_113 : decode cL_act 113 = .ok (.dup, 1) := by decide +kernel
theorem dL_act_114 : decode cL_act 114 = .ok (.iconst 0, 1) := by decide +kernel
theorem dL_act_115 : decode cL_act 115 = .ok (.iload_n 2, 1) := by decide +kernel
theorem dL_act_116 : decode cL_act 116 = .ok (.iconst 5, 1) := by decide +kernel
theorem dL_act_117 : decode cL_act 117 = .ok (.ishr, 1) := by decide +kernel
theorem dL_act_118 : decode cL_act 118 = .ok (.iload 4, 2) := by decide +kernel
theorem dL_act_120 : decode cL_act 120 = .ok (.ifCond .eq 8, 3) := by decide +kernel
theorem dL_act_123 : decode cL_act 123 = .ok (.bipush 20, 2) := by decide +kernel
theorem dL_act_125 : decode cL_act 125 = .ok (.goto 8, 3) := by decide +kernel
theorem dL_act_128 : decode cL_act 128 = .ok (.bipush 21, 2) := by decide +kernel
theorem dL_act_130 : decode cL_act 130 = .ok (.iload 5, 2) := by decide +kernel
theorem dL_act_132 : decode cL_act 132 = .ok (.isub, 1) := by decide +kernel
theorem dL_act_133 : decode cL_act 133 = .ok (.invokestatic 15, 3) := by decide +kernel
theorem dL_act_136 : decode cL_act 136 = .ok (.iastore, 1) := by decide +kernel
theorem dL_act_137 : decode cL_act 137 = .ok (.dup, 1) := by decide +kernel
theorem dL_act_138 : decode cL_act 138 = .ok (.iconst 1, 1) := by decide +kernel
theorem dL_act_139 : decode cL_act 139 = .ok (.iload_n 2, 1) := by decide +kernel
theorem dL_act_140 : decode cL_act 140 = .ok (.bipush 7, 2) := by decide +kernel
theorem dL_act_142 : decode cL_act 142 = .ok (.ishr, 1) := by decide +kernel
theorem dL_act_143 : decode cL_act 143 = .ok (.iload 4, 2) := by decide +kernel
theorem dL_act_145 : decode cL_act 145 = .ok (.ifCond .eq 11, 3) := by decide +kernel
theorem dL_act_148 : decode cL_act 148 = .ok (.bipush 21, 2) := by decide +kernel
theorem dL_act_150 : decode cL_act 150 = .ok (.iload 5, 2) := by decide +kernel
theorem dL_act_152 : decode cL_act 152 = .ok (.isub, 1) := by decide +kernel
theorem dL_act_153 : decode cL_act 153 = .ok (.goto 5, 3) := by decide +kernel
theorem dL_act_156 : decode cL_act 156 = .ok (.bipush 20, 2) := by decide +kernel
theorem dL_act_158 : decode cL_act 158 = .ok (.invokestatic 15, 3) := by decide +kernel
theorem dL_act_161 : decode cL_act 161 = .ok (.iastore, 1) := by decide +kernel
theorem dL_act_162 : decode cL_act 162 = .ok (.dup, 1) := by decide +kernel
theorem dL_act_163 : decode cL_act 163 = .ok (.iconst 2, 1) := by decide +kernel
theorem dL_act_164 : decode cL_act 164 = .ok (.iload 5, 2) := by decide +kernel
theorem dL_act_166 : decode cL_act 166 = .ok (.iastore, 1) := by decide +kernel
theorem dL_act_167 : decode cL_act 167 = .ok (.dup, 1) := by decide +kernel
theorem dL_act_168 : decode cL_act 168 = .ok (.iconst 3, 1) := by decide +kernel
theorem dL_act_169 : decode cL_act 169 = .ok (.iload 4, 2) := by decide +kernel
theorem dL_act_171 : decode cL_act 171 = .ok (.ifCond .eq 7, 3) := by decide +kernel
theorem dL_act_174 : decode cL_act 174 = .ok (.iconst 1, 1) := by decide +kernel
theorem dL_act_175 : decode cL_act 175 = .ok (.goto 4, 3) := by decide +kernel
theorem dL_act_178 : decode cL_act 178 = .ok (.iconst 0, 1) := by decide +kernel
theorem dL_act_179 : decode cL_act 179 = .ok (.iastore, 1) := by decide +kernel
theorem dL_act_180 : decode cL_act 180 = .ok (.dup, 1) := by decide +kernel
theorem dL_act_181 : decode cL_act 181 = .ok (.iconst 4, 1) := by decide +kernel
theorem dL_act_182 : decode cL_act 182 = .ok (.iconst 1, 1) := by decide +kernel
theorem dL_act_183 : decode cL_act 183 = .ok (.iload_n 2, 1) := by decide +kernel
theorem dL_act_184 : decode cL_act 184 = .ok (.bipush 6, 2) := by decide +kernel
theorem dL_act_186 : decode cL_act 186 = .ok (.ishr, 1) := by decide +kernel
theorem dL_act_187 : decode cL_act 187 = .ok (.iload_n 2, 1) := by decide +kernel
theorem dL_act_188 : decode cL_act 188 = .ok (.bipush 9, 2) := by decide +kernel
theorem dL_act_190 : decode cL_act 190 = .ok (.ishr, 1) := by decide +kernel
theorem dL_act_191 : decode cL_act 191 = .ok (.iconst 3, 1) := by decide +kernel
theorem dL_act_192 : decode cL_act 192 = .ok (.invokestatic 15, 3) := by decide +kernel
theorem dL_act_195 : decode cL_act 195 = .ok (.ifCond .ne 8, 3) := by decide +kernel
theorem dL_act_198 : decode cL_act 198 = .ok (.bipush 9, 2) := by decide +kernel
theorem dL_act_200 : decode cL_act 200 = .ok (.goto 4, 3) := by decide +kernel
theorem dL_act_203 : decode cL_act 203 = .ok (.iconst 4, 1) := by decide +kernel
theorem dL_act_204 : decode cL_act 204 = .ok (.invokestatic 15, 3) := by decide +kernel
theorem dL_act_207 : decode cL_act 207 = .ok (.iadd, 1) := by decide +kernel
theorem dL_act_208 : decode cL_act 208 = .ok (.iastore, 1) := by decide +kernel
theorem dL_act_209 : decode cL_act 209 = .ok (.dup, 1) := by decide +kernel
theorem dL_act_210 : decode cL_act 210 = .ok (.iconst 5, 1) := by decide +kernel
theorem dL_act_211 : decode cL_act 211 = .ok (.iload_n 2, 1) := by decide +kernel
theorem dL_act_212 : decode cL_act 212 = .ok (.bipush 8, 2) := by decide +kernel
theorem dL_act_214 : decode cL_act 214 = .ok (.ishr, 1) := by decide +kernel
theorem dL_act_215 : decode cL_act 215 = .ok (.iconst 4, 1) := by decide +kernel
theorem dL_act_216 : decode cL_act 216 = .ok (.invokestatic 15, 3) := by decide +kernel
theorem dL_act_219 : decode cL_act 219 = .ok (.iastore, 1) := by decide +kernel
theorem dL_act_220 : decode cL_act 220 = .ok (.astore 6, 2) := by decide +kernel
theorem dL_act_222 : decode cL_act 222 = .ok (.aload_n 1, 1) := by decide +kernel
theorem dL_act_223 : decode cL_act 223 = .ok (.aload_n 1, 1) := by decide +kernel
theorem dL_act_224 : decode cL_act 224 = .ok (.getfield 9, 3) := by decide +kernel
theorem dL_act_227 : decode cL_act 227 = .ok (.aload 6, 2) := by decide +kernel
theorem dL_act_229 : decode cL_act 229 = .ok (.invokestatic 21, 3) := by decide +kernel
theorem dL_act_232 : decode cL_act 232 = .ok (.putfield 9, 3) := by decide +kernel
theorem dL_act_235 : decode cL_act 235 = .ok (.aload_n 0, 1) := by decide +kernel
theorem dL_act_236 : decode cL_act 236 = .ok (.aload 6, 2) := by decide +kernel
theorem dL_act_238 : decode cL_act 238 = .ok (.iconst 0, 1) := by decide +kernel
theorem dL_act_239 : decode cL_act 239 = .ok (.iaload, 1) := by decide +kernel
theorem dL_act_240 : decode cL_act 240 = .ok (.aload 6, 2) := by decide +kernel
theorem dL_act_242 : decode cL_act 242 = .ok (.iconst 1, 1) := by decide +kernel
theorem dL_act_243 : decode cL_act 243 = .ok (.iaload, 1) := by decide +kernel
theorem dL_act_244 : decode cL_act 244 = .ok (.iload 5, 2) := by decide +kernel
theorem dL_act_246 : decode cL_act 246 = .ok (.iload 4, 2) := by decide +kernel
theorem dL_act_248 : decode cL_act 248 = .ok (.aload 6, 2) := by decide +kernel
theorem dL_act_250 : decode cL_act 250 = .ok (.iconst 4, 1) := by decide +kernel
theorem dL_act_251 : decode cL_act 251 = .ok (.iaload, 1) := by decide +kernel
theorem dL_act_252 : decode cL_act 252 = .ok (.aload 6, 2) := by decide +kernel
theorem dL_act_254 : decode cL_act 254 = .ok (.iconst 5, 1) := by decide +kernel
theorem dL_act_255 : decode cL_act 255 = .ok (.iaload, 1) := by decide +kernel
theorem dL_act_256 : decode cL_act 256 = .ok (.invokevirtual 25, 3) := by decide +kernel
theorem dL_act_259 : decode cL_act 259 = .ok (.iload_n 3, 1) := by decide +kernel
theorem dL_act_260 : decode cL_act 260 = .ok (.if_icmp .ne 7, 3) := by decide +kernel
theorem dL_act_263 : decode cL_act 263 = .ok (.iconst 1, 1) := by decide +kernel
theorem dL_act_264 : decode cL_act 264 = .ok (.goto 4, 3) := by decide +kernel
theorem dL_act_267 : decode cL_act 267 = .ok (.iconst 0, 1) := by decide +kernel
theorem dL_act_268 : decode cL_act 268 = .ok (.ireturn, 1) := by decide +kernel
theorem dL_act_269 : decode cL_act 269 = .ok (.iload_n 3, 1) := by decide +kernel
theorem dL_act_270 : decode cL_act 270 = .ok (.ifCond .ne 5, 3) := by decide +kernel
theorem dL_act_273 : decode cL_act 273 = .ok (.iconst 1, 1) := by decide +kernel
theorem dL_act_274 : decode cL_act 274 = .ok (.ireturn, 1) := by decide +kernel
theorem dL_act_275 : decode cL_act 275 = .ok (.iload_n 2, 1) := by decide +kernel
theorem dL_act_276 : decode cL_act 276 = .ok (.iconst 3, 1) := by decide +kernel
theorem dL_act_277 : decode cL_act 277 = .ok (.ishr, 1) := by decide +kernel
theorem dL_act_278 : decode cL_act 278 = .ok (.iload_n 3, 1) := by decide +kernel
theorem dL_act_279 : decode cL_act 279 = .ok (.invokestatic 15, 3) := by decide +kernel
theorem dL_act_282 : decode cL_act 282 = .ok (.istore 4, 2) := by decide +kernel
theorem dL_act_284 : decode cL_act 284 = .ok (.aload_n 1, 1) := by decide +kernel
theorem dL_act_285 : decode cL_act 285 = .ok (.getfield 9, 3) := by decide +kernel
theorem dL_act_288 : decode cL_act 288 = .ok (.iload 4, 2) := by decide +kernel
theorem dL_act_290 : decode cL_act 290 = .ok (.aaload, 1) := by decide +kernel
theorem dL_act_291 : decode cL_act 291 = .ok (.invokevirtual 31, 3) := by decide +kernel
theorem dL_act_294 : decode cL_act 294 = .ok (.checkcast 32, 3) := by decide +kernel
theorem dL_act_297 : decode cL_act 297 = .ok (.astore 5, 2) := by decide +kernel
theorem dL_act_299 : decode cL_act 299 = .ok (.bipush 10, 2) := by decide +kernel
theorem dL_act_301 : decode cL_act 301 = .ok (.aload 5, 2) := by decide +kernel
theorem dL_act_303 : decode cL_act 303 = .ok (.iconst 4, 1) := by decide +kernel
theorem dL_act_304 : decode cL_act 304 = .ok (.iaload, 1) := by decide +kernel
theorem dL_act_305 : decode cL_act 305 = .ok (.imul, 1) := by decide +kernel
theorem dL_act_306 : decode cL_act 306 = .ok (.aload 5, 2) := by decide +kernel
theorem dL_act_308 : decode cL_act 308 = .ok (.iconst 5, 1) := by decide +kernel
theorem dL_act_309 : decode cL_act 309 = .ok (.iaload, 1) := by decide +kernel
theorem dL_act_310 : decode cL_act 310 = .ok (.iadd, 1) := by decide +kernel
theorem dL_act_311 : decode cL_act 311 = .ok (.istore 6, 2) := by decide +kernel
theorem dL_act_313 : decode cL_act 313 = .ok (.aload 5, 2) := by decide +kernel
theorem dL_act_315 : decode cL_act 315 = .ok (.iconst 4, 1) := by decide +kernel
theorem dL_act_316 : decode cL_act 316 = .ok (.iconst 1, 1) := by decide +kernel
theorem dL_act_317 : decode cL_act 317 = .ok (.iload_n 2, 1) := by decide +kernel
theorem dL_act_318 : decode cL_act 318 = .ok (.iconst 5, 1) := by decide +kernel
theorem dL_act_319 : decode cL_act 319 = .ok (.ishr, 1) := by decide +kernel
theorem dL_act_320 : decode cL_act 320 = .ok (.bipush 9, 2) := by decide +kernel
theorem dL_act_322 : decode cL_act 322 = .ok (.invokestatic 15, 3) := by decide +kernel
theorem dL_act_325 : decode cL_act 325 = .ok (.iadd, 1) := by decide +kernel
theorem dL_act_326 : decode cL_act 326 = .ok (.iastore, 1) := by decide +kernel
theorem dL_act_327 : decode cL_act 327 = .ok (.aload 5, 2) := by decide +kernel
theorem dL_act_329 : decode cL_act 329 = .ok (.iconst 5, 1) := by decide +kernel
theorem dL_act_330 : decode cL_act 330 = .ok (.iload_n 2, 1) := by decide +kernel
theorem dL_act_331 : decode cL_act 331 = .ok (.bipush 7, 2) := by decide +kernel
theorem dL_act_333 : decode cL_act 333 = .ok (.ishr, 1) := by decide +kernel
theorem dL_act_334 : decode cL_act 334 = .ok (.iconst 4, 1) := by decide +kernel
theorem dL_act_335 : decode cL_act 335 = .ok (.invokestatic 15, 3) := by decide +kernel
theorem dL_act_338 : decode cL_act 338 = .ok (.iastore, 1) := by decide +kernel
theorem dL_act_339 : decode cL_act 339 = .ok (.aload_n 1, 1) := by decide +kernel
theorem dL_act_340 : decode cL_act 340 = .ok (.getfield 9, 3) := by decide +kernel
theorem dL_act_343 : decode cL_act 343 = .ok (.invokevirtual 37, 3) := by decide +kernel
theorem dL_act_346 : decode cL_act 346 = .ok (.checkcast 38, 3) := by decide +kernel
theorem dL_act_349 : decode cL_act 349 = .ok (.astore 7, 2) := by decide +kernel
theorem dL_act_351 : decode cL_act 351 = .ok (.aload 7, 2) := by decide +kernel
theorem dL_act_353 : decode cL_act 353 = .ok (.iload 4, 2) := by decide +kernel
theorem dL_act_355 : decode cL_act 355 = .ok (.aload 5, 2) := by decide +kernel
theorem dL_act_357 : decode cL_act 357 = .ok (.aastore, 1) := by decide +kernel
theorem dL_act_358 : decode cL_act 358 = .ok (.aload_n 1, 1) := by decide +kernel
theorem dL_act_359 : decode cL_act 359 = .ok (.aload 7, 2) := by decide +kernel
theorem dL_act_361 : decode cL_act 361 = .ok (.putfield 9, 3) := by decide +kernel
theorem dL_act_364 : decode cL_act 364 = .ok (.aload_n 0, 1) := by decide +kernel
theorem dL_act_365 : decode cL_act 365 = .ok (.iload 4, 2) := by decide +kernel
theorem dL_act_367 : decode cL_act 367 = .ok (.aload 5, 2) := by decide +kernel
theorem dL_act_369 : decode cL_act 369 = .ok (.iconst 4, 1) := by decide +kernel
theorem dL_act_370 : decode cL_act 370 = .ok (.iaload, 1) := by decide +kernel
theorem dL_act_371 : decode cL_act 371 = .ok (.aload 5, 2) := by decide +kernel
theorem dL_act_373 : decode cL_act 373 = .ok (.iconst 5, 1) := by decide +kernel
theorem dL_act_374 : decode cL_act 374 = .ok (.iaload, 1) := by decide +kernel
theorem dL_act_375 : decode cL_act 375 = .ok (.invokevirtual 39, 3) := by decide +kernel
theorem dL_act_378 : decode cL_act 378 = .ok (.iload 6, 2) := by decide +kernel
theorem dL_act_380 : decode cL_act 380 = .ok (.if_icmp .ne 7, 3) := by decide +kernel
theorem dL_act_383 : decode cL_act 383 = .ok (.iconst 1, 1) := by decide +kernel
theorem dL_act_384 : decode cL_act 384 = .ok (.goto 4, 3) := by decide +kernel
theorem dL_act_387 : decode cL_act 387 = .ok (.iconst 0, 1) := by decide +kernel
theorem dL_act_388 : decode cL_act 388 = .ok (.ireturn, 1) := by decide +kernel
theorem dL_act_389 : decode cL_act 389 = .ok (.iload_n 3, 1) := by decide +kernel
theorem dL_act_390 : decode cL_act 390 = .ok (.iconst 2, 1) := by decide +kernel
theorem dL_act_391 : decode cL_act 391 = .ok (.if_icmp .ge 5, 3) := by decide +kernel
theorem dL_act_394 : decode cL_act 394 = .ok (.iconst 1, 1) := by decide +kernel
theorem dL_act_395 : decode cL_act 395 = .ok (.ireturn, 1) := by decide +kernel
theorem dL_act_396 : decode cL_act 396 = .ok (.iload_n 2, 1) := by decide +kernel
theorem dL_act_397 : decode cL_act 397 = .ok (.iconst 3, 1) := by decide +kernel
theorem dL_act_398 : decode cL_act 398 = .ok (.ishr, 1) := by decide +kernel
theorem dL_act_399 : decode cL_act 399 = .ok (.iload_n 3, 1) := by decide +kernel
theorem dL_act_400 : decode cL_act 400 = .ok (.invokestatic 15, 3) := by decide +kernel
theorem dL_act_403 : decode cL_act 403 = .ok (.istore 4, 2) := by decide +kernel
theorem dL_act_405 : decode cL_act 405 = .ok (.aload_n 1, 1) := by decide +kernel
theorem dL_act_406 : decode cL_act 406 = .ok (.aload_n 1, 1) := by decide +kernel
theorem dL_act_407 : decode cL_act 407 = .ok (.getfield 9, 3) := by decide +kernel
theorem dL_act_410 : decode cL_act 410 = .ok (.iload 4, 2) := by decide +kernel
theorem dL_act_412 : decode cL_act 412 = .ok (.invokestatic 43, 3) := by decide +kernel
theorem dL_act_415 : decode cL_act 415 = .ok (.putfield 9, 3) := by decide +kernel
theorem dL_act_418 : decode cL_act 418 = .ok (.aload_n 0, 1) := by decide +kernel
theorem dL_act_419 : decode cL_act 419 = .ok (.iload 4, 2) := by decide +kernel
theorem dL_act_421 : decode cL_act 421 = .ok (.invokevirtual 47, 3) := by decide +kernel
theorem dL_act_424 : decode cL_act 424 = .ok (.iload_n 3, 1) := by decide +kernel
theorem dL_act_425 : decode cL_act 425 = .ok (.iconst 1, 1) := by decide +kernel
theorem dL_act_426 : decode cL_act 426 = .ok (.isub, 1) := by decide +kernel
theorem dL_act_427 : decode cL_act 427 = .ok (.if_icmp .ne 7, 3) := by decide +kernel
theorem dL_act_430 : decode cL_act 430 = .ok (.iconst 1, 1) := by decide +kernel
theorem dL_act_431 : decode cL_act 431 = .ok (.goto 4, 3) := by decide +kernel
theorem dL_act_434 : decode cL_act 434 = .ok (.iconst 0, 1) := by decide +kernel
theorem dL_act_435 : decode cL_act 435 = .ok (.ireturn, 1) := by decide +kernel
theorem dL_act_436 : decode cL_act 436 = .ok (.aload_n 1, 1) := by decide +kernel
theorem dL_act_437 : decode cL_act 437 = .ok (.getfield 51, 3) := by decide +kernel
theorem dL_act_440 : decode cL_act 440 = .ok (.arraylength, 1) := by decide +kernel
theorem dL_act_441 : decode cL_act 441 = .ok (.iconst 4, 1) := by decide +kernel
theorem dL_act_442 : decode cL_act 442 = .ok (.if_icmp .ne 5, 3) := by decide +kernel
theorem dL_act_445 : decode cL_act 445 = .ok (.iconst 1, 1) := by decide +kernel
theorem dL_act_446 : decode cL_act 446 = .ok (.ireturn, 1) := by decide +kernel
theorem dL_act_447 : decode cL_act 447 = .ok (.iconst 2, 1) := by decide +kernel
theorem dL_act_448 : decode cL_act 448 = .ok (.newarray .int, 2) := by decide +kernel
theorem dL_act_450 : decode cL_act 450 = .ok (.dup, 1) := by decide +kernel
theorem dL_act_451 : decode cL_act 451 = .ok (.iconst 0, 1) := by decide +kernel
theorem dL_act_452 : decode cL_act 452 = .ok (.iload_n 2, 1) := by decide +kernel
theorem dL_act_453 : decode cL_act 453 = .ok (.iconst 3, 1) := by decide +kernel
theorem dL_act_454 : decode cL_act 454 = .ok (.ishr, 1) := by decide +kernel
theorem dL_act_455 : decode cL_act 455 = .ok (.iconst 2, 1) := by decide +kernel
theorem dL_act_456 : decode cL_act 456 = .ok (.invokestatic 15, 3) := by decide +kernel
theorem dL_act_459 : decode cL_act 459 = .ok (.iastore, 1) := by decide +kernel
theorem dL_act_460 : decode cL_act 460 = .ok (.dup, 1) := by decide +kernel
theorem dL_act_461 : decode cL_act 461 = .ok (.iconst 1, 1) := by decide +kernel
theorem dL_act_462 : decode cL_act 462 = .ok (.iload_n 2, 1) := by decide +kernel
theorem dL_act_463 : decode cL_act 463 = .ok (.iconst 4, 1) := by decide +kernel
theorem dL_act_464 : decode cL_act 464 = .ok (.ishr, 1) := by decide +kernel
theorem dL_act_465 : decode cL_act 465 = .ok (.bipush 20, 2) := by decide +kernel
theorem dL_act_467 : decode cL_act 467 = .ok (.invokestatic 15, 3) := by decide +kernel
theorem dL_act_470 : decode cL_act 470 = .ok (.iastore, 1) := by decide +kernel
theorem dL_act_471 : decode cL_act 471 = .ok (.astore 4, 2) := by decide +kernel
theorem dL_act_473 : decode cL_act 473 = .ok (.aload_n 1, 1) := by decide +kernel
theorem dL_act_474 : decode cL_act 474 = .ok (.aload_n 1, 1) := by decide +kernel
theorem dL_act_475 : decode cL_act 475 = .ok (.getfield 51, 3) := by decide +kernel
theorem dL_act_478 : decode cL_act 478 = .ok (.aload 4, 2) := by decide +kernel
theorem dL_act_480 : decode cL_act 480 = .ok (.invokestatic 21, 3) := by decide +kernel
theorem dL_act_483 : decode cL_act 483 = .ok (.putfield 51, 3) := by decide +kernel
theorem dL_act_486 : decode cL_act 486 = .ok (.aload_n 0, 1) := by decide +kernel
theorem dL_act_487 : decode cL_act 487 = .ok (.aload 4, 2) := by decide +kernel
theorem dL_act_489 : decode cL_act 489 = .ok (.iconst 0, 1) := by decide +kernel
theorem dL_act_490 : decode cL_act 490 = .ok (.iaload, 1) := by decide +kernel
theorem dL_act_491 : decode cL_act 491 = .ok (.iconst 1, 1) := by decide +kernel
theorem dL_act_492 : decode cL_act 492 = .ok (.if_icmp .ne 7, 3) := by decide +kernel
theorem dL_act_495 : decode cL_act 495 = .ok (.iconst 1, 1) := by decide +kernel
theorem dL_act_496 : decode cL_act 496 = .ok (.goto 4, 3) := by decide +kernel
theorem dL_act_499 : decode cL_act 499 = .ok (.iconst 0, 1) := by decide +kernel
theorem dL_act_500 : decode cL_act 500 = .ok (.aload 4, 2) := by decide +kernel
theorem dL_act_502 : decode cL_act 502 = .ok (.iconst 1, 1) := by decide +kernel
theorem dL_act_503 : decode cL_act 503 = .ok (.iaload, 1) := by decide +kernel
theorem dL_act_504 : decode cL_act 504 = .ok (.invokevirtual 54, 3) := by decide +kernel
theorem dL_act_507 : decode cL_act 507 = .ok (.aload_n 1, 1) := by decide +kernel
theorem dL_act_508 : decode cL_act 508 = .ok (.getfield 51, 3) := by decide +kernel
theorem dL_act_511 : decode cL_act 511 = .ok (.arraylength, 1) := by decide +kernel
theorem dL_act_512 : decode cL_act 512 = .ok (.iconst 1, 1) := by decide +kernel
theorem dL_act_513 : decode cL_act 513 = .ok (.isub, 1) := by decide +kernel
theorem dL_act_514 : decode cL_act 514 = .ok (.if_icmp .ne 7, 3) := by decide +kernel
theorem dL_act_517 : decode cL_act 517 = .ok (.iconst 1, 1) := by decide +kernel
theorem dL_act_518 : decode cL_act 518 = .ok (.goto 4, 3) := by decide +kernel
theorem dL_act_521 : decode cL_act 521 = .ok (.iconst 0, 1) := by decide +kernel
theorem dL_act_522 : decode cL_act 522 = .ok (.ireturn, 1) := by decide +kernel
theorem dL_act_523 : decode cL_act 523 = .ok (.aload_n 1, 1) := by decide +kernel
theorem dL_act_524 : decode cL_act 524 = .ok (.getfield 58, 3) := by decide +kernel
theorem dL_act_527 : decode cL_act 527 = .ok (.istore 4, 2) := by decide +kernel
theorem dL_act_529 : decode cL_act 529 = .ok (.aload_n 1, 1) := by decide +kernel
theorem dL_act_530 : decode cL_act 530 = .ok (.iconst 1, 1) := by decide +kernel
theorem dL_act_531 : decode cL_act 531 = .ok (.iload_n 2, 1) := by decide +kernel
theorem dL_act_532 : decode cL_act 532 = .ok (.iconst 4, 1) := by decide +kernel
theorem dL_act_533 : decode cL_act 533 = .ok (.ishr, 1) := by decide +kernel
theorem dL_act_534 : decode cL_act 534 = .ok (.iload_n 2, 1) := by decide +kernel
theorem dL_act_535 : decode cL_act 535 = .ok (.iconst 3, 1) := by decide +kernel
theorem dL_act_536 : decode cL_act 536 = .ok (.ishr, 1) := by decide +kernel
theorem dL_act_537 : decode cL_act 537 = .ok (.iconst 2, 1) := by decide +kernel
theorem dL_act_538 : decode cL_act 538 = .ok (.invokestatic 15, 3) := by decide +kernel
theorem dL_act_541 : decode cL_act 541 = .ok (.ifCond .ne 8, 3) := by decide +kernel
theorem dL_act_544 : decode cL_act 544 = .ok (.bipush 60, 2) := by decide +kernel
theorem dL_act_546 : decode cL_act 546 = .ok (.goto 5, 3) := by decide +kernel
theorem dL_act_549 : decode cL_act 549 = .ok (.bipush 12, 2) := by decide +kernel
