theorem d_LW_law_0 : decode code 0 = .ok (.new 8, 3) := by decide +kernel
theorem d_LW_law_3 : decode code 3 = .ok (.dup, 1) := by decide +kernel
theorem d_LW_law_4 : decode code 4 = .ok (.invokespecial 96, 3) := by decide +kernel
theorem d_LW_law_7 : decode code 7 = .ok (.astore_n 1, 1) := by decide +kernel
theorem d_LW_law_8 : decode code 8 = .ok (.new 97, 3) := by decide +kernel
theorem d_LW_law_11 : decode code 11 = .ok (.dup, 1) := by decide +kernel
theorem d_LW_law_12 : decode code 12 = .ok (.invokespecial 99, 3) := by decide +kernel
theorem d_LW_law_15 : decode code 15 = .ok (.astore_n 2, 1) := by decide +kernel
theorem d_LW_law_16 : decode code 16 = .ok (.iconst 1, 1) := by decide +kernel
theorem d_LW_law_17 : decode code 17 = .ok (.newarray .long, 2) := by decide +kernel
theorem d_LW_law_19 : decode code 19 = .ok (.astore_n 3, 1) := by decide +kernel
theorem d_LW_law_20 : decode code 20 = .ok (.iconst 0, 1) := by decide +kernel
theorem d_LW_law_21 : decode code 21 = .ok (.istore 4, 2) := by decide +kernel
theorem d_LW_law_23 : decode code 23 = .ok (.iload 4, 2) := by decide +kernel
theorem d_LW_law_25 : decode code 25 = .ok (.aload_n 0, 1) := by decide +kernel
theorem d_LW_law_26 : decode code 26 = .ok (.arraylength, 1) := by decide +kernel
theorem d_LW_law_27 : decode code 27 = .ok (.bipush 6, 2) := by decide +kernel
theorem d_LW_law_29 : decode code 29 = .ok (.isub, 1) := by decide +kernel
theorem d_LW_law_30 : decode code 30 = .ok (.if_icmp .gt 1587, 3) := by decide +kernel
theorem d_LW_law_33 : decode code 33 = .ok (.aload_n 0, 1) := by decide +kernel
theorem d_LW_law_34 : decode code 34 = .ok (.iload 4, 2) := by decide +kernel
theorem d_LW_law_36 : decode code 36 = .ok (.iaload, 1) := by decide +kernel
theorem d_LW_law_37 : decode code 37 = .ok (.bipush 31, 2) := by decide +kernel
theorem d_LW_law_39 : decode code 39 = .ok (.iand, 1) := by decide +kernel
theorem d_LW_law_40 : decode code 40 = .ok (.tableswitch 1571 0 21 #[104, 196, 256, 316, 376, 448, 516, 608, 700, 756, 840, 900, 960, 1036, 1072, 1120, 1176, 1244, 1300, 1367, 1435, 1515], 104) := by decide +kernel
theorem d_LW_law_144 : decode code 144 = .ok (.aload_n 1, 1) := by decide +kernel
theorem d_LW_law_145 : decode code 145 = .ok (.aload_n 0, 1) := by decide +kernel
theorem d_LW_law_146 : decode code 146 = .ok (.iload 4, 2) := by decide +kernel
theorem d_LW_law_148 : decode code 148 = .ok (.iconst 1, 1) := by decide +kernel
theorem d_LW_law_149 : decode code 149 = .ok (.iadd, 1) := by decide +kernel
theorem d_LW_law_150 : decode code 150 = .ok (.iaload, 1) := by decide +kernel
theorem d_LW_law_151 : decode code 151 = .ok (.aload_n 0, 1) := by decide +kernel
theorem d_LW_law_152 : decode code 152 = .ok (.iload 4, 2) := by decide +kernel
theorem d_LW_law_154 : decode code 154 = .ok (.iconst 2, 1) := by decide +kernel
theorem d_LW_law_155 : decode code 155 = .ok (.iadd, 1) := by decide +kernel
theorem d_LW_law_156 : decode code 156 = .ok (.iaload, 1) := by decide +kernel
theorem d_LW_law_157 : decode code 157 = .ok (.aload_n 0, 1) := by decide +kernel
theorem d_LW_law_158 : decode code 158 = .ok (.iload 4, 2) := by decide +kernel
theorem d_LW_law_160 : decode code 160 = .ok (.iconst 3, 1) := by decide +kernel
theorem d_LW_law_161 : decode code 161 = .ok (.iadd, 1) := by decide +kernel
theorem d_LW_law_162 : decode code 162 = .ok (.iaload, 1) := by decide +kernel
theorem d_LW_law_163 : decode code 163 = .ok (.aload_n 0, 1) := by decide +kernel
theorem d_LW_law_164 : decode code 164 = .ok (.iload 4, 2) := by decide +kernel
theorem d_LW_law_166 : decode code 166 = .ok (.iconst 4, 1) := by decide +kernel
theorem d_LW_law_167 : decode code 167 = .ok (.iadd, 1) := by decide +kernel
theorem d_LW_law_168 : decode code 168 = .ok (.iaload, 1) := by decide +kernel
theorem d_LW_law_169 : decode code 169 = .ok (.aload_n 3, 1) := by decide +kernel
theorem d_LW_law_170 : decode code 170 = .ok (.invokestatic 100, 3) := by decide +kernel
theorem d_LW_law_173 : decode code 173 = .ok (.istore 5, 2) := by decide +kernel
theorem d_LW_law_175 : decode code 175 = .ok (.aload_n 2, 1) := by decide +kernel
theorem d_LW_law_176 : decode code 176 = .ok (.aload_n 0, 1) := by decide +kernel
theorem d_LW_law_177 : decode code 177 = .ok (.iload 4, 2) := by decide +kernel
theorem d_LW_law_179 : decode code 179 = .ok (.iconst 1, 1) := by decide +kernel
theorem d_LW_law_180 : decode code 180 = .ok (.iadd, 1) := by decide +kernel
theorem d_LW_law_181 : decode code 181 = .ok (.iaload, 1) := by decide +kernel
theorem d_LW_law_182 : decode code 182 = .ok (.aload_n 0, 1) := by decide +kernel
theorem d_LW_law_183 : decode code 183 = .ok (.iload 4, 2) := by decide +kernel
theorem d_LW_law_185 : decode code 185 = .ok (.iconst 2, 1) := by decide +kernel
theorem d_LW_law_186 : decode code 186 = .ok (.iadd, 1) := by decide +kernel
theorem d_LW_law_187 : decode code 187 = .ok (.iaload, 1) := by decide +kernel
theorem d_LW_law_188 : decode code 188 = .ok (.aload_n 0, 1) := by decide +kernel
theorem d_LW_law_189 : decode code 189 = .ok (.iload 4, 2) := by decide +kernel
theorem d_LW_law_191 : decode code 191 = .ok (.iconst 3, 1) := by decide +kernel
theorem d_LW_law_192 : decode code 192 = .ok (.iadd, 1) := by decide +kernel
theorem d_LW_law_193 : decode code 193 = .ok (.iaload, 1) := by decide +kernel
theorem d_LW_law_194 : decode code 194 = .ok (.aload_n 0, 1) := by decide +kernel
theorem d_LW_law_195 : decode code 195 = .ok (.iload 4, 2) := by decide +kernel
theorem d_LW_law_197 : decode code 197 = .ok (.iconst 4, 1) := by decide +kernel
theorem d_LW_law_198 : decode code 198 = .ok (.iadd, 1) := by decide +kernel
theorem d_LW_law_199 : decode code 199 = .ok (.iaload, 1) := by decide +kernel
theorem d_LW_law_200 : decode code 200 = .ok (.invokevirtual 105, 3) := by decide +kernel
theorem d_LW_law_203 : decode code 203 = .ok (.istore 6, 2) := by decide +kernel
theorem d_LW_law_205 : decode code 205 = .ok (.aload_n 2, 1) := by decide +kernel
theorem d_LW_law_206 : decode code 206 = .ok (.invokevirtual 106, 3) := by decide +kernel
theorem d_LW_law_209 : decode code 209 = .ok (.iload 5, 2) := by decide +kernel
theorem d_LW_law_211 : decode code 211 = .ok (.if_icmp .eq 5, 3) := by decide +kernel
theorem d_LW_law_214 : decode code 214 = .ok (.iconst 0, 1) := by decide +kernel
theorem d_LW_law_215 : decode code 215 = .ok (.ireturn, 1) := by decide +kernel
theorem d_LW_law_216 : decode code 216 = .ok (.iload 5, 2) := by decide +kernel
theorem d_LW_law_218 : decode code 218 = .ok (.ifCond .ne 15, 3) := by decide +kernel
theorem d_LW_law_221 : decode code 221 = .ok (.aload_n 3, 1) := by decide +kernel
theorem d_LW_law_222 : decode code 222 = .ok (.iconst 0, 1) := by decide +kernel
theorem d_LW_law_223 : decode code 223 = .ok (.laload, 1) := by decide +kernel
theorem d_LW_law_224 : decode code 224 = .ok (.iload 6, 2) := by decide +kernel
theorem d_LW_law_226 : decode code 226 = .ok (.i2l, 1) := by decide +kernel
theorem d_LW_law_227 : decode code 227 = .ok (.lcmp, 1) := by decide +kernel
theorem d_LW_law_228 : decode code 228 = .ok (.ifCond .eq 5, 3) := by decide +kernel
theorem d_LW_law_231 : decode code 231 = .ok (.iconst 0, 1) := by decide +kernel
theorem d_LW_law_232 : decode code 232 = .ok (.ireturn, 1) := by decide +kernel
theorem d_LW_law_233 : decode code 233 = .ok (.goto 1378, 3) := by decide +kernel
theorem d_LW_law_236 : decode code 236 = .ok (.aload_n 1, 1) := by decide +kernel
theorem d_LW_law_237 : decode code 237 = .ok (.aload_n 0, 1) := by decide +kernel
theorem d_LW_law_238 : decode code 238 = .ok (.iload 4, 2) := by decide +kernel
theorem d_LW_law_240 : decode code 240 = .ok (.iconst 1, 1) := by decide +kernel
theorem d_LW_law_241 : decode code 241 = .ok (.iadd, 1) := by decide +kernel
theorem d_LW_law_242 : decode code 242 = .ok (.iaload, 1) := by decide +kernel
theorem d_LW_law_243 : decode code 243 = .ok (.aload_n 0, 1) := by decide +kernel
theorem d_LW_law_244 : decode code 244 = .ok (.iload 4, 2) := by decide +kernel
theorem d_LW_law_246 : decode code 246 = .ok (.iconst 2, 1) := by decide +kernel
theorem d_LW_law_247 : decode code 247 = .ok (.iadd, 1) := by decide +kernel
theorem d_LW_law_248 : decode code 248 = .ok (.iaload, 1) := by decide +kernel
theorem d_LW_law_249 : decode code 249 = .ok (.aload_n 0, 1) := by decide +kernel
theorem d_LW_law_250 : decode code 250 = .ok (.iload 4, 2) := by decide +kernel
theorem d_LW_law_252 : decode code 252 = .ok (.iconst 3, 1) := by decide +kernel
theorem d_LW_law_253 : decode code 253 = .ok (.iadd, 1) := by decide +kernel
theorem d_LW_law_254 : decode code 254 = .ok (.iaload, 1) := by decide +kernel
theorem d_LW_law_255 : decode code 255 = .ok (.invokestatic 110, 3) := by decide +kernel
theorem d_LW_law_258 : decode code 258 = .ok (.istore 5, 2) := by decide +kernel
theorem d_LW_law_260 : decode code 260 = .ok (.aload_n 2, 1) := by decide +kernel
theorem d_LW_law_261 : decode code 261 = .ok (.aload_n 0, 1) := by decide +kernel
theorem d_LW_law_262 : decode code 262 = .ok (.iload 4, 2) := by decide +kernel
theorem d_LW_law_264 : decode code 264 = .ok (.iconst 1, 1) := by decide +kernel
theorem d_LW_law_265 : decode code 265 = .ok (.iadd, 1) := by decide +kernel
theorem d_LW_law_266 : decode code 266 = .ok (.iaload, 1) := by decide +kernel
theorem d_LW_law_267 : decode code 267 = .ok (.aload_n 0, 1) := by decide +kernel
theorem d_LW_law_268 : decode code 268 = .ok (.iload 4, 2) := by decide +kernel
theorem d_LW_law_270 : decode code 270 = .ok (.iconst 2, 1) := by decide +kernel
theorem d_LW_law_271 : decode code 271 = .ok (.iadd, 1) := by decide +kernel
theorem d_LW_law_272 : decode code 272 = .ok (.iaload, 1) := by decide +kernel
theorem d_LW_law_273 : decode code 273 = .ok (.aload_n 0, 1) := by decide +kernel
theorem d_LW_law_274 : decode code 274 = .ok (.iload 4, 2) := by decide +kernel
theorem d_LW_law_276 : decode code 276 = .ok (.iconst 3, 1) := by decide +kernel
theorem d_LW_law_277 : decode code 277 = .ok (.iadd, 1) := by decide +kernel
theorem d_LW_law_278 : decode code 278 = .ok (.iaload, 1) := by decide +kernel
theorem d_LW_law_279 : decode code 279 = .ok (.invokevirtual 113, 3) := by decide +kernel
theorem d_LW_law_282 : decode code 282 = .ok (.aload_n 2, 1) := by decide +kernel
theorem d_LW_law_283 : decode code 283 = .ok (.invokevirtual 106, 3) := by decide +kernel
theorem d_LW_law_286 : decode code 286 = .ok (.iload 5, 2) := by decide +kernel
theorem d_LW_law_288 : decode code 288 = .ok (.if_icmp .eq 5, 3) := by decide +kernel
theorem d_LW_law_291 : decode code 291 = .ok (.iconst 0, 1) := by decide +kernel
theorem d_LW_law_292 : decode code 292 = .ok (.ireturn, 1) := by decide +kernel
theorem d_LW_law_293 : decode code 293 = .ok (.goto 1318, 3) := by decide +kernel
theorem d_LW_law_296 : decode code 296 = .ok (.aload_n 1, 1) := by decide +kernel
theorem d_LW_law_297 : decode code 297 = .ok (.aload_n 0, 1) := by decide +kernel
theorem d_LW_law_298 : decode code 298 = .ok (.iload 4, 2) := by decide +kernel
theorem d_LW_law_300 : decode code 300 = .ok (.iconst 1, 1) := by decide +kernel
theorem d_LW_law_301 : decode code 301 = .ok (.iadd, 1) := by decide +kernel
theorem d_LW_law_302 : decode code 302 = .ok (.iaload, 1) := by decide +kernel
theorem d_LW_law_303 : decode code 303 = .ok (.aload_n 0, 1) := by decide +kernel
theorem d_LW_law_304 : decode code 304 = .ok (.iload 4, 2) := by decide +kernel
theorem d_LW_law_306 : decode code 306 = .ok (.iconst 2, 1) := by decide +kernel
theorem d_LW_law_307 : decode code 307 = .ok (.iadd, 1) := by decide +kernel
theorem d_LW_law_308 : decode code 308 = .ok (.iaload, 1) := by decide +kernel
theorem d_LW_law_309 : decode code 309 = .ok (.aload_n 0, 1) := by decide +kernel
theorem d_LW_law_310 : decode code 310 = .ok (.iload 4, 2) := by decide +kernel
theorem d_LW_law_312 : decode code 312 = .ok (.iconst 3, 1) := by decide +kernel
theorem d_LW_law_313 : decode code 313 = .ok (.iadd, 1) := by decide +kernel
theorem d_LW_law_314 : decode code 314 = .ok (.iaload, 1) := by decide +kernel
theorem d_LW_law_315 : decode code 315 = .ok (.invokestatic 114, 3) := by decide +kernel
theorem d_LW_law_318 : decode code 318 = .ok (.istore 5, 2) := by decide +kernel
theorem d_LW_law_320 : decode code 320 = .ok (.aload_n 2, 1) := by decide +kernel
theorem d_LW_law_321 : decode code 321 = .ok (.aload_n 0, 1) := by decide +kernel
theorem d_LW_law_322 : decode code 322 = .ok (.iload 4, 2) := by decide +kernel
theorem d_LW_law_324 : decode code 324 = .ok (.iconst 1, 1) := by decide +kernel
theorem d_LW_law_325 : decode code 325 = .ok (.iadd, 1) := by decide +kernel
theorem d_LW_law_326 : decode code 326 = .ok (.iaload, 1) := by decide +kernel
theorem d_LW_law_327 : decode code 327 = .ok (.aload_n 0, 1) := by decide +kernel
theorem d_LW_law_328 : decode code 328 = .ok (.iload 4, 2) := by decide +kernel
theorem d_LW_law_330 : decode code 330 = .ok (.iconst 2, 1) := by decide +kernel
theorem d_LW_law_331 : decode code 331 = .ok (.iadd, 1) := by decide +kernel
theorem d_LW_law_332 : decode code 332 = .ok (.iaload, 1) := by decide +kernel
theorem d_LW_law_333 : decode code 333 = .ok (.aload_n 0, 1) := by decide +kernel
theorem d_LW_law_334 : decode code 334 = .ok (.iload 4, 2) := by decide +kernel
theorem d_LW_law_336 : decode code 336 = .ok (.iconst 3, 1) := by decide +kernel
theorem d_LW_law_337 : decode code 337 = .ok (.iadd, 1) := by decide +kernel
theorem d_LW_law_338 : decode code 338 = .ok (.iaload, 1) := by decide +kernel
theorem d_LW_law_339 : decode code 339 = .ok (.invokevirtual 116, 3) := by decide +kernel
theorem d_LW_law_342 : decode code 342 = .ok (.aload_n 2, 1) := by decide +kernel
theorem d_LW_law_343 : decode code 343 = .ok (.invokevirtual 106, 3) := by decide +kernel
theorem d_LW_law_346 : decode code 346 = .ok (.iload 5, 2) := by decide +kernel
theorem d_LW_law_348 : decode code 348 = .ok (.if_icmp .eq 5, 3) := by decide +kernel
theorem d_LW_law_351 : decode code 351 = .ok (.iconst 0, 1) := by decide +kernel
theorem d_LW_law_352 : decode code 352 = .ok (.ireturn, 1) := by decide +kernel
theorem d_LW_law_353 : decode code 353 = .ok (.goto 1258, 3) := by decide +kernel
theorem d_LW_law_356 : decode code 356 = .ok (.aload_n 1, 1) := by decide +kernel
theorem d_LW_law_357 : decode code 357 = .ok (.aload_n 0, 1) := by decide +kernel
theorem d_LW_law_358 : decode code 358 = .ok (.iload 4, 2) := by decide +kernel
theorem d_LW_law_360 : decode code 360 = .ok (.iconst 1, 1) := by decide +kernel
theorem d_LW_law_361 : decode code 361 = .ok (.iadd, 1) := by decide +kernel
theorem d_LW_law_362 : decode code 362 = .ok (.iaload, 1) := by decide +kernel
theorem d_LW_law_363 : decode code 363 = .ok (.aload_n 0, 1) := by decide +kernel
theorem d_LW_law_364 : decode code 364 = .ok (.iload 4, 2) := by decide +kernel
theorem d_LW_law_366 : decode code 366 = .ok (.iconst 2, 1) := by decide +kernel
theorem d_LW_law_367 : decode code 367 = .ok (.iadd, 1) := by decide +kernel
theorem d_LW_law_368 : decode code 368 = .ok (.iaload, 1) := by decide +kernel
theorem d_LW_law_369 : decode code 369 = .ok (.aload_n 0, 1) := by decide +kernel
theorem d_LW_law_370 : decode code 370 = .ok (.iload 4, 2) := by decide +kernel
theorem d_LW_law_372 : decode code 372 = .ok (.iconst 3, 1) := by decide +kernel
theorem d_LW_law_373 : decode code 373 = .ok (.iadd, 1) := by decide +kernel
theorem d_LW_law_374 : decode code 374 = .ok (.iaload, 1) := by decide +kernel
theorem d_LW_law_375 : decode code 375 = .ok (.invokestatic 117, 3) := by decide +kernel
theorem d_LW_law_378 : decode code 378 = .ok (.istore 5, 2) := by decide +kernel
theorem d_LW_law_380 : decode code 380 = .ok (.aload_n 2, 1) := by decide +kernel
theorem d_LW_law_381 : decode code 381 = .ok (.aload_n 0, 1) := by decide +kernel
theorem d_LW_law_382 : decode code 382 = .ok (.iload 4, 2) := by decide +kernel
theorem d_LW_law_384 : decode code 384 = .ok (.iconst 1, 1) := by decide +kernel
theorem d_LW_law_385 : decode code 385 = .ok (.iadd, 1) := by decide +kernel
theorem d_LW_law_386 : decode code 386 = .ok (.iaload, 1) := by decide +kernel
theorem d_LW_law_387 : decode code 387 = .ok (.aload_n 0, 1) := by decide +kernel
theorem d_LW_law_388 : decode code 388 = .ok (.iload 4, 2) := by decide +kernel
theorem d_LW_law_390 : decode code 390 = .ok (.iconst 2, 1) := by decide +kernel
theorem d_LW_law_391 : decode code 391 = .ok (.iadd, 1) := by decide +kernel
theorem d_LW_law_392 : decode code 392 = .ok (.iaload, 1) := by decide +kernel
theorem d_LW_law_393 : decode code 393 = .ok (.aload_n 0, 1) := by decide +kernel
theorem d_LW_law_394 : decode code 394 = .ok (.iload 4, 2) := by decide +kernel
theorem d_LW_law_396 : decode code 396 = .ok (.iconst 3, 1) := by decide +kernel
theorem d_LW_law_397 : decode code 397 = .ok (.iadd, 1) := by decide +kernel
theorem d_LW_law_398 : decode code 398 = .ok (.iaload, 1) := by decide +kernel
theorem d_LW_law_399 : decode code 399 = .ok (.invokevirtual 119, 3) := by decide +kernel
theorem d_LW_law_402 : decode code 402 = .ok (.aload_n 2, 1) := by decide +kernel
theorem d_LW_law_403 : decode code 403 = .ok (.invokevirtual 106, 3) := by decide +kernel
theorem d_LW_law_406 : decode code 406 = .ok (.iload 5, 2) := by decide +kernel
theorem d_LW_law_408 : decode code 408 = .ok (.if_icmp .eq 5, 3) := by decide +kernel
theorem d_LW_law_411 : decode code 411 = .ok (.iconst 0, 1) := by decide +kernel
theorem d_LW_law_412 : decode code 412 = .ok (.ireturn, 1) := by decide +kernel
theorem d_LW_law_413 : decode code 413 = .ok (.goto 1198, 3) := by decide +kernel
theorem d_LW_law_416 : decode code 416 = .ok (.aload_n 1, 1) := by decide +kernel
theorem d_LW_law_417 : decode code 417 = .ok (.aload_n 0, 1) := by decide +kernel
theorem d_LW_law_418 : decode code 418 = .ok (.iload 4, 2) := by decide +kernel
theorem d_LW_law_420 : decode code 420 = .ok (.iconst 1, 1) := by decide +kernel
theorem d_LW_law_421 : decode code 421 = .ok (.iadd, 1) := by decide +kernel
theorem d_LW_law_422 : decode code 422 = .ok (.iaload, 1) := by decide +kernel
theorem d_LW_law_423 : decode code 423 = .ok (.aload_n 0, 1) := by decide +kernel
theorem d_LW_law_424 : decode code 424 = .ok (.iload 4, 2) := by decide +kernel
theorem d_LW_law_426 : decode code 426 = .ok (.iconst 2, 1) := by decide +kernel
theorem d_LW_law_427 : decode code 427 = .ok (.iadd, 1) := by decide +kernel
theorem d_LW_law_428 : decode code 428 = .ok (.iaload, 1) := by decide +kernel
theorem d_LW_law_429 : decode code 429 = .ok (.aload_n 0, 1) := by decide +kernel
theorem d_LW_law_430 : decode code 430 = .ok (.iload 4, 2) := by decide +kernel
theorem d_LW_law_432 : decode code 432 = .ok (.iconst 3, 1) := by decide +kernel
theorem d_LW_law_433 : decode code 433 = .ok (.iadd, 1) := by decide +kernel
theorem d_LW_law_434 : decode code 434 = .ok (.iaload, 1) := by decide +kernel
theorem d_LW_law_435 : decode code 435 = .ok (.aload_n 0, 1) := by decide +kernel
theorem d_LW_law_436 : decode code 436 = .ok (.iload 4, 2) := by decide +kernel
theorem d_LW_law_438 : decode code 438 = .ok (.iconst 4, 1) := by decide +kernel
theorem d_LW_law_439 : decode code 439 = .ok (.iadd, 1) := by decide +kernel
theorem d_LW_law_440 : decode code 440 = .ok (.iaload, 1) := by decide +kernel
theorem d_LW_law_441 : decode code 441 = .ok (.invokestatic 120, 3) := by decide +kernel
theorem d_LW_law_444 : decode code 444 = .ok (.istore 5, 2) := by decide +kernel
theorem d_LW_law_446 : decode code 446 = .ok (.aload_n 2, 1) := by decide +kernel
theorem d_LW_law_447 : decode code 447 = .ok (.aload_n 0, 1) := by decide +kernel
theorem d_LW_law_448 : decode code 448 = .ok (.iload 4, 2) := by decide +kernel
theorem d_LW_law_450 : decode code 450 = .ok (.iconst 1, 1) := by decide +kernel
theorem d_LW_law_451 : decode code 451 = .ok (.iadd, 1) := by decide +kernel
theorem d_LW_law_452 : decode code 452 = .ok (.iaload, 1) := by decide +kernel
theorem d_LW_law_453 : decode code 453 = .ok (.aload_n 0, 1) := by decide +kernel
theorem d_LW_law_454 : decode code 454 = .ok (.iload 4, 2) := by decide +kernel
theorem d_LW_law_456 : decode code 456 = .ok (.iconst 2, 1) := by decide +kernel
theorem d_LW_law_457 : decode code 457 = .ok (.iadd, 1) := by decide +kernel
theorem d_LW_law_458 : decode code 458 = .ok (.iaload, 1) := by decide +kernel
theorem d_LW_law_459 : decode code 459 = .ok (.aload_n 0, 1) := by decide +kernel
theorem d_LW_law_460 : decode code 460 = .ok (.iload 4, 2) := by decide +kernel
theorem d_LW_law_462 : decode code 462 = .ok (.iconst 3, 1) := by decide +kernel
theorem d_LW_law_463 : decode code 463 = .ok (.iadd, 1) := by decide +kernel
theorem d_LW_law_464 : decode code 464 = .ok (.iaload, 1) := by decide +kernel
theorem d_LW_law_465 : decode code 465 = .ok (.aload_n 0, 1) := by decide +kernel
theorem d_LW_law_466 : decode code 466 = .ok (.iload 4, 2) := by decide +kernel
theorem d_LW_law_468 : decode code 468 = .ok (.iconst 4, 1) := by decide +kernel
theorem d_LW_law_469 : decode code 469 = .ok (.iadd, 1) := by decide +kernel
theorem d_LW_law_470 : decode code 470 = .ok (.iaload, 1) := by decide +kernel
