/-! the law: each case -/
theorem d_lw_law_0 : decode code 0 = .ok (.new 8, 3) := by decide +kernel
theorem d_lw_law_3 : decode code 3 = .ok (.dup, 1) := by decide +kernel
theorem d_lw_law_4 : decode code 4 = .ok (.invokespecial 87, 3) := by decide +kernel
theorem d_lw_law_7 : decode code 7 = .ok (.astore_n 1, 1) := by decide +kernel
theorem d_lw_law_8 : decode code 8 = .ok (.new 88, 3) := by decide +kernel
theorem d_lw_law_11 : decode code 11 = .ok (.dup, 1) := by decide +kernel
theorem d_lw_law_12 : decode code 12 = .ok (.invokespecial 90, 3) := by decide +kernel
theorem d_lw_law_15 : decode code 15 = .ok (.astore_n 2, 1) := by decide +kernel
theorem d_lw_law_16 : decode code 16 = .ok (.iconst 1, 1) := by decide +kernel
theorem d_lw_law_17 : decode code 17 = .ok (.newarray .long, 2) := by decide +kernel
theorem d_lw_law_19 : decode code 19 = .ok (.astore_n 3, 1) := by decide +kernel
theorem d_lw_law_20 : decode code 20 = .ok (.iconst 0, 1) := by decide +kernel
theorem d_lw_law_21 : decode code 21 = .ok (.istore 4, 2) := by decide +kernel
theorem d_lw_law_23 : decode code 23 = .ok (.iload 4, 2) := by decide +kernel
theorem d_lw_law_25 : decode code 25 = .ok (.aload_n 0, 1) := by decide +kernel
theorem d_lw_law_26 : decode code 26 = .ok (.arraylength, 1) := by decide +kernel
theorem d_lw_law_27 : decode code 27 = .ok (.bipush 6, 2) := by decide +kernel
theorem d_lw_law_29 : decode code 29 = .ok (.isub, 1) := by decide +kernel
theorem d_lw_law_30 : decode code 30 = .ok (.if_icmp .gt 1426, 3) := by decide +kernel
theorem d_lw_law_33 : decode code 33 = .ok (.aload_n 0, 1) := by decide +kernel
theorem d_lw_law_34 : decode code 34 = .ok (.iload 4, 2) := by decide +kernel
theorem d_lw_law_36 : decode code 36 = .ok (.iaload, 1) := by decide +kernel
theorem d_lw_law_37 : decode code 37 = .ok (.bipush 31, 2) := by decide +kernel
theorem d_lw_law_39 : decode code 39 = .ok (.iand, 1) := by decide +kernel
theorem d_lw_law_40 : decode code 40 = .ok (.tableswitch 1410 0 22 #[108, 164, 232, 300, 368, 412, 492, 596, 664, 700, 724, 780, 843, 923, 1003, 1071, 1095, 1108, 1121, 1146, 1214, 1270, 1354], 108) := by decide +kernel
theorem d_lw_law_148 : decode code 148 = .ok (.aload_n 1, 1) := by decide +kernel
theorem d_lw_law_149 : decode code 149 = .ok (.aload_n 0, 1) := by decide +kernel
theorem d_lw_law_150 : decode code 150 = .ok (.iload 4, 2) := by decide +kernel
theorem d_lw_law_152 : decode code 152 = .ok (.iconst 1, 1) := by decide +kernel
theorem d_lw_law_153 : decode code 153 = .ok (.iadd, 1) := by decide +kernel
theorem d_lw_law_154 : decode code 154 = .ok (.iaload, 1) := by decide +kernel
theorem d_lw_law_155 : decode code 155 = .ok (.aload_n 3, 1) := by decide +kernel
theorem d_lw_law_156 : decode code 156 = .ok (.invokestatic 91, 3) := by decide +kernel
theorem d_lw_law_159 : decode code 159 = .ok (.istore 5, 2) := by decide +kernel
theorem d_lw_law_161 : decode code 161 = .ok (.aload_n 2, 1) := by decide +kernel
theorem d_lw_law_162 : decode code 162 = .ok (.aload_n 0, 1) := by decide +kernel
theorem d_lw_law_163 : decode code 163 = .ok (.iload 4, 2) := by decide +kernel
theorem d_lw_law_165 : decode code 165 = .ok (.iconst 1, 1) := by decide +kernel
theorem d_lw_law_166 : decode code 166 = .ok (.iadd, 1) := by decide +kernel
theorem d_lw_law_167 : decode code 167 = .ok (.iaload, 1) := by decide +kernel
theorem d_lw_law_168 : decode code 168 = .ok (.invokevirtual 96, 3) := by decide +kernel
theorem d_lw_law_171 : decode code 171 = .ok (.istore 6, 2) := by decide +kernel
theorem d_lw_law_173 : decode code 173 = .ok (.aload_n 2, 1) := by decide +kernel
theorem d_lw_law_174 : decode code 174 = .ok (.invokevirtual 97, 3) := by decide +kernel
theorem d_lw_law_177 : decode code 177 = .ok (.iload 5, 2) := by decide +kernel
theorem d_lw_law_179 : decode code 179 = .ok (.if_icmp .eq 5, 3) := by decide +kernel
theorem d_lw_law_182 : decode code 182 = .ok (.iconst 0, 1) := by decide +kernel
theorem d_lw_law_183 : decode code 183 = .ok (.ireturn, 1) := by decide +kernel
theorem d_lw_law_184 : decode code 184 = .ok (.iload 5, 2) := by decide +kernel
theorem d_lw_law_186 : decode code 186 = .ok (.ifCond .ne 15, 3) := by decide +kernel
theorem d_lw_law_189 : decode code 189 = .ok (.aload_n 3, 1) := by decide +kernel
theorem d_lw_law_190 : decode code 190 = .ok (.iconst 0, 1) := by decide +kernel
theorem d_lw_law_191 : decode code 191 = .ok (.laload, 1) := by decide +kernel
theorem d_lw_law_192 : decode code 192 = .ok (.iload 6, 2) := by decide +kernel
theorem d_lw_law_194 : decode code 194 = .ok (.i2l, 1) := by decide +kernel
theorem d_lw_law_195 : decode code 195 = .ok (.lcmp, 1) := by decide +kernel
theorem d_lw_law_196 : decode code 196 = .ok (.ifCond .eq 5, 3) := by decide +kernel
theorem d_lw_law_199 : decode code 199 = .ok (.iconst 0, 1) := by decide +kernel
theorem d_lw_law_200 : decode code 200 = .ok (.ireturn, 1) := by decide +kernel
theorem d_lw_law_201 : decode code 201 = .ok (.goto 1249, 3) := by decide +kernel
theorem d_lw_law_204 : decode code 204 = .ok (.aload_n 1, 1) := by decide +kernel
theorem d_lw_law_205 : decode code 205 = .ok (.aload_n 0, 1) := by decide +kernel
theorem d_lw_law_206 : decode code 206 = .ok (.iload 4, 2) := by decide +kernel
theorem d_lw_law_208 : decode code 208 = .ok (.iconst 1, 1) := by decide +kernel
theorem d_lw_law_209 : decode code 209 = .ok (.iadd, 1) := by decide +kernel
theorem d_lw_law_210 : decode code 210 = .ok (.iaload, 1) := by decide +kernel
theorem d_lw_law_211 : decode code 211 = .ok (.aload_n 0, 1) := by decide +kernel
theorem d_lw_law_212 : decode code 212 = .ok (.iload 4, 2) := by decide +kernel
theorem d_lw_law_214 : decode code 214 = .ok (.iconst 2, 1) := by decide +kernel
theorem d_lw_law_215 : decode code 215 = .ok (.iadd, 1) := by decide +kernel
theorem d_lw_law_216 : decode code 216 = .ok (.iaload, 1) := by decide +kernel
theorem d_lw_law_217 : decode code 217 = .ok (.aload_n 3, 1) := by decide +kernel
theorem d_lw_law_218 : decode code 218 = .ok (.invokestatic 100, 3) := by decide +kernel
theorem d_lw_law_221 : decode code 221 = .ok (.istore 5, 2) := by decide +kernel
theorem d_lw_law_223 : decode code 223 = .ok (.aload_n 2, 1) := by decide +kernel
theorem d_lw_law_224 : decode code 224 = .ok (.aload_n 0, 1) := by decide +kernel
theorem d_lw_law_225 : decode code 225 = .ok (.iload 4, 2) := by decide +kernel
theorem d_lw_law_227 : decode code 227 = .ok (.iconst 1, 1) := by decide +kernel
theorem d_lw_law_228 : decode code 228 = .ok (.iadd, 1) := by decide +kernel
theorem d_lw_law_229 : decode code 229 = .ok (.iaload, 1) := by decide +kernel
theorem d_lw_law_230 : decode code 230 = .ok (.aload_n 0, 1) := by decide +kernel
theorem d_lw_law_231 : decode code 231 = .ok (.iload 4, 2) := by decide +kernel
theorem d_lw_law_233 : decode code 233 = .ok (.iconst 2, 1) := by decide +kernel
theorem d_lw_law_234 : decode code 234 = .ok (.iadd, 1) := by decide +kernel
theorem d_lw_law_235 : decode code 235 = .ok (.iaload, 1) := by decide +kernel
theorem d_lw_law_236 : decode code 236 = .ok (.invokevirtual 103, 3) := by decide +kernel
theorem d_lw_law_239 : decode code 239 = .ok (.istore 6, 2) := by decide +kernel
theorem d_lw_law_241 : decode code 241 = .ok (.aload_n 2, 1) := by decide +kernel
theorem d_lw_law_242 : decode code 242 = .ok (.invokevirtual 97, 3) := by decide +kernel
theorem d_lw_law_245 : decode code 245 = .ok (.iload 5, 2) := by decide +kernel
theorem d_lw_law_247 : decode code 247 = .ok (.if_icmp .eq 5, 3) := by decide +kernel
theorem d_lw_law_250 : decode code 250 = .ok (.iconst 0, 1) := by decide +kernel
theorem d_lw_law_251 : decode code 251 = .ok (.ireturn, 1) := by decide +kernel
theorem d_lw_law_252 : decode code 252 = .ok (.iload 5, 2) := by decide +kernel
theorem d_lw_law_254 : decode code 254 = .ok (.ifCond .ne 15, 3) := by decide +kernel
theorem d_lw_law_257 : decode code 257 = .ok (.aload_n 3, 1) := by decide +kernel
theorem d_lw_law_258 : decode code 258 = .ok (.iconst 0, 1) := by decide +kernel
theorem d_lw_law_259 : decode code 259 = .ok (.laload, 1) := by decide +kernel
theorem d_lw_law_260 : decode code 260 = .ok (.iload 6, 2) := by decide +kernel
theorem d_lw_law_262 : decode code 262 = .ok (.i2l, 1) := by decide +kernel
theorem d_lw_law_263 : decode code 263 = .ok (.lcmp, 1) := by decide +kernel
theorem d_lw_law_264 : decode code 264 = .ok (.ifCond .eq 5, 3) := by decide +kernel
theorem d_lw_law_267 : decode code 267 = .ok (.iconst 0, 1) := by decide +kernel
theorem d_lw_law_268 : decode code 268 = .ok (.ireturn, 1) := by decide +kernel
theorem d_lw_law_269 : decode code 269 = .ok (.goto 1181, 3) := by decide +kernel
theorem d_lw_law_272 : decode code 272 = .ok (.aload_n 1, 1) := by decide +kernel
theorem d_lw_law_273 : decode code 273 = .ok (.aload_n 0, 1) := by decide +kernel
theorem d_lw_law_274 : decode code 274 = .ok (.iload 4, 2) := by decide +kernel
theorem d_lw_law_276 : decode code 276 = .ok (.iconst 1, 1) := by decide +kernel
theorem d_lw_law_277 : decode code 277 = .ok (.iadd, 1) := by decide +kernel
theorem d_lw_law_278 : decode code 278 = .ok (.iaload, 1) := by decide +kernel
theorem d_lw_law_279 : decode code 279 = .ok (.aload_n 0, 1) := by decide +kernel
theorem d_lw_law_280 : decode code 280 = .ok (.iload 4, 2) := by decide +kernel
theorem d_lw_law_282 : decode code 282 = .ok (.iconst 2, 1) := by decide +kernel
theorem d_lw_law_283 : decode code 283 = .ok (.iadd, 1) := by decide +kernel
theorem d_lw_law_284 : decode code 284 = .ok (.iaload, 1) := by decide +kernel
theorem d_lw_law_285 : decode code 285 = .ok (.aload_n 3, 1) := by decide +kernel
theorem d_lw_law_286 : decode code 286 = .ok (.invokestatic 104, 3) := by decide +kernel
theorem d_lw_law_289 : decode code 289 = .ok (.istore 5, 2) := by decide +kernel
theorem d_lw_law_291 : decode code 291 = .ok (.aload_n 2, 1) := by decide +kernel
theorem d_lw_law_292 : decode code 292 = .ok (.aload_n 0, 1) := by decide +kernel
theorem d_lw_law_293 : decode code 293 = .ok (.iload 4, 2) := by decide +kernel
theorem d_lw_law_295 : decode code 295 = .ok (.iconst 1, 1) := by decide +kernel
theorem d_lw_law_296 : decode code 296 = .ok (.iadd, 1) := by decide +kernel
theorem d_lw_law_297 : decode code 297 = .ok (.iaload, 1) := by decide +kernel
theorem d_lw_law_298 : decode code 298 = .ok (.aload_n 0, 1) := by decide +kernel
theorem d_lw_law_299 : decode code 299 = .ok (.iload 4, 2) := by decide +kernel
theorem d_lw_law_301 : decode code 301 = .ok (.iconst 2, 1) := by decide +kernel
theorem d_lw_law_302 : decode code 302 = .ok (.iadd, 1) := by decide +kernel
theorem d_lw_law_303 : decode code 303 = .ok (.iaload, 1) := by decide +kernel
theorem d_lw_law_304 : decode code 304 = .ok (.invokevirtual 106, 3) := by decide +kernel
theorem d_lw_law_307 : decode code 307 = .ok (.istore 6, 2) := by decide +kernel
theorem d_lw_law_309 : decode code 309 = .ok (.aload_n 2, 1) := by decide +kernel
theorem d_lw_law_310 : decode code 310 = .ok (.invokevirtual 97, 3) := by decide +kernel
theorem d_lw_law_313 : decode code 313 = .ok (.iload 5, 2) := by decide +kernel
theorem d_lw_law_315 : decode code 315 = .ok (.if_icmp .eq 5, 3) := by decide +kernel
theorem d_lw_law_318 : decode code 318 = .ok (.iconst 0, 1) := by decide +kernel
theorem d_lw_law_319 : decode code 319 = .ok (.ireturn, 1) := by decide +kernel
theorem d_lw_law_320 : decode code 320 = .ok (.iload 5, 2) := by decide +kernel
theorem d_lw_law_322 : decode code 322 = .ok (.ifCond .ne 15, 3) := by decide +kernel
theorem d_lw_law_325 : decode code 325 = .ok (.aload_n 3, 1) := by decide +kernel
theorem d_lw_law_326 : decode code 326 = .ok (.iconst 0, 1) := by decide +kernel
theorem d_lw_law_327 : decode code 327 = .ok (.laload, 1) := by decide +kernel
theorem d_lw_law_328 : decode code 328 = .ok (.iload 6, 2) := by decide +kernel
theorem d_lw_law_330 : decode code 330 = .ok (.i2l, 1) := by decide +kernel
theorem d_lw_law_331 : decode code 331 = .ok (.lcmp, 1) := by decide +kernel
theorem d_lw_law_332 : decode code 332 = .ok (.ifCond .eq 5, 3) := by decide +kernel
theorem d_lw_law_335 : decode code 335 = .ok (.iconst 0, 1) := by decide +kernel
theorem d_lw_law_336 : decode code 336 = .ok (.ireturn, 1) := by decide +kernel
theorem d_lw_law_337 : decode code 337 = .ok (.goto 1113, 3) := by decide +kernel
theorem d_lw_law_340 : decode code 340 = .ok (.aload_n 1, 1) := by decide +kernel
theorem d_lw_law_341 : decode code 341 = .ok (.aload_n 0, 1) := by decide +kernel
theorem d_lw_law_342 : decode code 342 = .ok (.iload 4, 2) := by decide +kernel
theorem d_lw_law_344 : decode code 344 = .ok (.iconst 1, 1) := by decide +kernel
theorem d_lw_law_345 : decode code 345 = .ok (.iadd, 1) := by decide +kernel
theorem d_lw_law_346 : decode code 346 = .ok (.iaload, 1) := by decide +kernel
theorem d_lw_law_347 : decode code 347 = .ok (.aload_n 0, 1) := by decide +kernel
theorem d_lw_law_348 : decode code 348 = .ok (.iload 4, 2) := by decide +kernel
theorem d_lw_law_350 : decode code 350 = .ok (.iconst 2, 1) := by decide +kernel
theorem d_lw_law_351 : decode code 351 = .ok (.iadd, 1) := by decide +kernel
theorem d_lw_law_352 : decode code 352 = .ok (.iaload, 1) := by decide +kernel
theorem d_lw_law_353 : decode code 353 = .ok (.aload_n 3, 1) := by decide +kernel
theorem d_lw_law_354 : decode code 354 = .ok (.invokestatic 107, 3) := by decide +kernel
theorem d_lw_law_357 : decode code 357 = .ok (.istore 5, 2) := by decide +kernel
theorem d_lw_law_359 : decode code 359 = .ok (.aload_n 2, 1) := by decide +kernel
theorem d_lw_law_360 : decode code 360 = .ok (.aload_n 0, 1) := by decide +kernel
theorem d_lw_law_361 : decode code 361 = .ok (.iload 4, 2) := by decide +kernel
theorem d_lw_law_363 : decode code 363 = .ok (.iconst 1, 1) := by decide +kernel
theorem d_lw_law_364 : decode code 364 = .ok (.iadd, 1) := by decide +kernel
theorem d_lw_law_365 : decode code 365 = .ok (.iaload, 1) := by decide +kernel
theorem d_lw_law_366 : decode code 366 = .ok (.aload_n 0, 1) := by decide +kernel
theorem d_lw_law_367 : decode code 367 = .ok (.iload 4, 2) := by decide +kernel
theorem d_lw_law_369 : decode code 369 = .ok (.iconst 2, 1) := by decide +kernel
theorem d_lw_law_370 : decode code 370 = .ok (.iadd, 1) := by decide +kernel
theorem d_lw_law_371 : decode code 371 = .ok (.iaload, 1) := by decide +kernel
theorem d_lw_law_372 : decode code 372 = .ok (.invokevirtual 109, 3) := by decide +kernel
theorem d_lw_law_375 : decode code 375 = .ok (.istore 6, 2) := by decide +kernel
theorem d_lw_law_377 : decode code 377 = .ok (.aload_n 2, 1) := by decide +kernel
theorem d_lw_law_378 : decode code 378 = .ok (.invokevirtual 97, 3) := by decide +kernel
theorem d_lw_law_381 : decode code 381 = .ok (.iload 5, 2) := by decide +kernel
theorem d_lw_law_383 : decode code 383 = .ok (.if_icmp .eq 5, 3) := by decide +kernel
theorem d_lw_law_386 : decode code 386 = .ok (.iconst 0, 1) := by decide +kernel
theorem d_lw_law_387 : decode code 387 = .ok (.ireturn, 1) := by decide +kernel
theorem d_lw_law_388 : decode code 388 = .ok (.iload 5, 2) := by decide +kernel
theorem d_lw_law_390 : decode code 390 = .ok (.ifCond .ne 15, 3) := by decide +kernel
theorem d_lw_law_393 : decode code 393 = .ok (.aload_n 3, 1) := by decide +kernel
theorem d_lw_law_394 : decode code 394 = .ok (.iconst 0, 1) := by decide +kernel
theorem d_lw_law_395 : decode code 395 = .ok (.laload, 1) := by decide +kernel
theorem d_lw_law_396 : decode code 396 = .ok (.iload 6, 2) := by decide +kernel
theorem d_lw_law_398 : decode code 398 = .ok (.i2l, 1) := by decide +kernel
theorem d_lw_law_399 : decode code 399 = .ok (.lcmp, 1) := by decide +kernel
theorem d_lw_law_400 : decode code 400 = .ok (.ifCond .eq 5, 3) := by decide +kernel
theorem d_lw_law_403 : decode code 403 = .ok (.iconst 0, 1) := by decide +kernel
theorem d_lw_law_404 : decode code 404 = .ok (.ireturn, 1) := by decide +kernel
theorem d_lw_law_405 : decode code 405 = .ok (.goto 1045, 3) := by decide +kernel
theorem d_lw_law_408 : decode code 408 = .ok (.aload_n 1, 1) := by decide +kernel
theorem d_lw_law_409 : decode code 409 = .ok (.aload_n 3, 1) := by decide +kernel
theorem d_lw_law_410 : decode code 410 = .ok (.invokestatic 110, 3) := by decide +kernel
theorem d_lw_law_413 : decode code 413 = .ok (.istore 5, 2) := by decide +kernel
theorem d_lw_law_415 : decode code 415 = .ok (.aload_n 2, 1) := by decide +kernel
theorem d_lw_law_416 : decode code 416 = .ok (.invokevirtual 113, 3) := by decide +kernel
theorem d_lw_law_419 : decode code 419 = .ok (.istore 6, 2) := by decide +kernel
theorem d_lw_law_421 : decode code 421 = .ok (.aload_n 2, 1) := by decide +kernel
theorem d_lw_law_422 : decode code 422 = .ok (.invokevirtual 97, 3) := by decide +kernel
theorem d_lw_law_425 : decode code 425 = .ok (.iload 5, 2) := by decide +kernel
theorem d_lw_law_427 : decode code 427 = .ok (.if_icmp .eq 5, 3) := by decide +kernel
theorem d_lw_law_430 : decode code 430 = .ok (.iconst 0, 1) := by decide +kernel
theorem d_lw_law_431 : decode code 431 = .ok (.ireturn, 1) := by decide +kernel
theorem d_lw_law_432 : decode code 432 = .ok (.iload 5, 2) := by decide +kernel
theorem d_lw_law_434 : decode code 434 = .ok (.ifCond .ne 15, 3) := by decide +kernel
theorem d_lw_law_437 : decode code 437 = .ok (.aload_n 3, 1) := by decide +kernel
theorem d_lw_law_438 : decode code 438 = .ok (.iconst 0, 1) := by decide +kernel
theorem d_lw_law_439 : decode code 439 = .ok (.laload, 1) := by decide +kernel
theorem d_lw_law_440 : decode code 440 = .ok (.iload 6, 2) := by decide +kernel
theorem d_lw_law_442 : decode code 442 = .ok (.i2l, 1) := by decide +kernel
theorem d_lw_law_443 : decode code 443 = .ok (.lcmp, 1) := by decide +kernel
theorem d_lw_law_444 : decode code 444 = .ok (.ifCond .eq 5, 3) := by decide +kernel
theorem d_lw_law_447 : decode code 447 = .ok (.iconst 0, 1) := by decide +kernel
theorem d_lw_law_448 : decode code 448 = .ok (.ireturn, 1) := by decide +kernel
theorem d_lw_law_449 : decode code 449 = .ok (.goto 1001, 3) := by decide +kernel
theorem d_lw_law_452 : decode code 452 = .ok (.aload_n 1, 1) := by decide +kernel
theorem d_lw_law_453 : decode code 453 = .ok (.aload_n 0, 1) := by decide +kernel
theorem d_lw_law_454 : decode code 454 = .ok (.iload 4, 2) := by decide +kernel
theorem d_lw_law_456 : decode code 456 = .ok (.iconst 1, 1) := by decide +kernel
theorem d_lw_law_457 : decode code 457 = .ok (.iadd, 1) := by decide +kernel
theorem d_lw_law_458 : decode code 458 = .ok (.iaload, 1) := by decide +kernel
theorem d_lw_law_459 : decode code 459 = .ok (.aload_n 0, 1) := by decide +kernel
theorem d_lw_law_460 : decode code 460 = .ok (.iload 4, 2) := by decide +kernel
theorem d_lw_law_462 : decode code 462 = .ok (.iconst 2, 1) := by decide +kernel
theorem d_lw_law_463 : decode code 463 = .ok (.iadd, 1) := by decide +kernel
theorem d_lw_law_464 : decode code 464 = .ok (.iaload, 1) := by decide +kernel
theorem d_lw_law_465 : decode code 465 = .ok (.aload_n 0, 1) := by decide +kernel
theorem d_lw_law_466 : decode code 466 = .ok (.iload 4, 2) := by decide +kernel
theorem d_lw_law_468 : decode code 468 = .ok (.iconst 3, 1) := by decide +kernel
theorem d_lw_law_469 : decode code 469 = .ok (.iadd, 1) := by decide +kernel
theorem d_lw_law_470 : decode code 470 = .ok (.iaload, 1) := by decide +kernel
theorem d_lw_law_471 : decode code 471 = .ok (.aload_n 3, 1) := by decide +kernel
theorem d_lw_law_472 : decode code 472 = .ok (.invokestatic 114, 3) := by decide +kernel
theorem d_lw_law_475 : decode code 475 = .ok (.istore 5, 2) := by decide +kernel
theorem d_lw_law_477 : decode code 477 = .ok (.aload_n 2, 1) := by decide +kernel
theorem d_lw_law_478 : decode code 478 = .ok (.aload_n 0, 1) := by decide +kernel
theorem d_lw_law_479 : decode code 479 = .ok (.iload 4, 2) := by decide +kernel
theorem d_lw_law_481 : decode code 481 = .ok (.iconst 1, 1) := by decide +kernel
theorem d_lw_law_482 : decode code 482 = .ok (.iadd, 1) := by decide +kernel
theorem d_lw_law_483 : decode code 483 = .ok (.iaload, 1) := by decide +kernel
theorem d_lw_law_484 : decode code 484 = .ok (.aload_n 0, 1) := by decide +kernel
theorem d_lw_law_485 : decode code 485 = .ok (.iload 4, 2) := by decide +kernel
theorem d_lw_law_487 : decode code 487 = .ok (.iconst 2, 1) := by decide +kernel
theorem d_lw_law_488 : decode code 488 = .ok (.iadd, 1) := by decide +kernel
theorem d_lw_law_489 : decode code 489 = .ok (.iaload, 1) := by decide +kernel
theorem d_lw_law_490 : decode code 490 = .ok (.aload_n 0, 1) := by decide +kernel
theorem d_lw_law_491 : decode code 491 = .ok (.iload 4, 2) := by decide +kernel
theorem d_lw_law_493 : decode code 493 = .ok (.iconst 3, 1) := by decide +kernel
theorem d_lw_law_494 : decode code 494 = .ok (.iadd, 1) := by decide +kernel
theorem d_lw_law_495 : decode code 495 = .ok (.iaload, 1) := by decide +kernel
theorem d_lw_law_496 : decode code 496 = .ok (.invokevirtual 117, 3) := by decide +kernel
theorem d_lw_law_499 : decode code 499 = .ok (.istore 6, 2) := by decide +kernel
theorem d_lw_law_501 : decode code 501 = .ok (.aload_n 2, 1) := by decide +kernel
theorem d_lw_law_502 : decode code 502 = .ok (.invokevirtual 97, 3) := by decide +kernel
theorem d_lw_law_505 : decode code 505 = .ok (.iload 5, 2) := by decide +kernel
theorem d_lw_law_507 : decode code 507 = .ok (.if_icmp .eq 5, 3) := by decide +kernel
theorem d_lw_law_510 : decode code 510 = .ok (.iconst 0, 1) := by decide +kernel
theorem d_lw_law_511 : decode code 511 = .ok (.ireturn, 1) := by decide +kernel
theorem d_lw_law_512 : decode code 512 = .ok (.iload 5, 2) := by decide +kernel
theorem d_lw_law_514 : decode code 514 = .ok (.ifCond .ne 15, 3) := by decide +kernel
theorem d_lw_law_517 : decode code 517 = .ok (.aload_n 3, 1) := by decide +kernel
theorem d_lw_law_518 : decode code 518 = .ok (.iconst 0, 1) := by decide +kernel
theorem d_lw_law_519 : decode code 519 = .ok (.laload, 1) := by decide +kernel
theorem d_lw_law_520 : decode code 520 = .ok (.iload 6, 2) := by decide +kernel
theorem d_lw_law_522 : decode code 522 = .ok (.i2l, 1) := by decide +kernel
theorem d_lw_law_523 : decode code 523 = .ok (.lcmp, 1) := by decide +kernel
theorem d_lw_law_524 : decode code 524 = .ok (.ifCond .eq 5, 3) := by decide +kernel
theorem d_lw_law_527 : decode code 527 = .ok (.iconst 0, 1) := by decide +kernel
theorem d_lw_law_528 : decode code 528 = .ok (.ireturn, 1) := by decide +kernel
theorem d_lw_law_529 : decode code 529 = .ok (.goto 921, 3) := by decide +kernel
theorem d_lw_law_532 : decode code 532 = .ok (.aload_n 1, 1) := by decide +kernel
theorem d_lw_law_533 : decode code 533 = .ok (.aload_n 0, 1) := by decide +kernel
theorem d_lw_law_534 : decode code 534 = .ok (.iload 4, 2) := by decide +kernel
theorem d_lw_law_536 : decode code 536 = .ok (.iconst 1, 1) := by decide +kernel
theorem d_lw_law_537 : decode code 537 = .ok (.iadd, 1) := by decide +kernel
theorem d_lw_law_538 : decode code 538 = .ok (.iaload, 1) := by decide +kernel
theorem d_lw_law_539 : decode code 539 = .ok (.aload_n 0, 1) := by decide +kernel
theorem d_lw_law_540 : decode code 540 = .ok (.iload 4, 2) := by decide +kernel
theorem d_lw_law_542 : decode code 542 = .ok (.iconst 2, 1) := by decide +kernel
theorem d_lw_law_543 : decode code 543 = .ok (.iadd, 1) := by decide +kernel
theorem d_lw_law_544 : decode code 544 = .ok (.iaload, 1) := by decide +kernel
theorem d_lw_law_545 : decode code 545 = .ok (.aload_n 0, 1) := by decide +kernel
theorem d_lw_law_546 : decode code 546 = .ok (.iload 4, 2) := by decide +kernel
theorem d_lw_law_548 : decode code 548 = .ok (.iconst 3, 1) := by decide +kernel
theorem d_lw_law_549 : decode code 549 = .ok (.iadd, 1) := by decide +kernel
theorem d_lw_law_550 : decode code 550 = .ok (.iaload, 1) := by decide +kernel
theorem d_lw_law_551 : decode code 551 = .ok (.aload_n 0, 1) := by decide +kernel
theorem d_lw_law_552 : decode code 552 = .ok (.iload 4, 2) := by decide +kernel
theorem d_lw_law_554 : decode code 554 = .ok (.iconst 4, 1) := by decide +kernel
theorem d_lw_law_555 : decode code 555 = .ok (.iadd, 1) := by decide +kernel
theorem d_lw_law_556 : decode code 556 = .ok (.iaload, 1) := by decide +kernel
theorem d_lw_law_557 : decode code 557 = .ok (.i2l, 1) := by decide +kernel
theorem d_lw_law_558 : decode code 558 = .ok (.bipush 32, 2) := by decide +kernel
theorem d_lw_law_560 : decode code 560 = .ok (.lshl, 1) := by decide +kernel
theorem d_lw_law_561 : decode code 561 = .ok (.aload_n 0, 1) := by decide +kernel
theorem d_lw_law_562 : decode code 562 = .ok (.iload 4, 2) := by decide +kernel
theorem d_lw_law_564 : decode code 564 = .ok (.iconst 5, 1) := by decide +kernel
theorem d_lw_law_565 : decode code 565 = .ok (.iadd, 1) := by decide +kernel
theorem d_lw_law_566 : decode code 566 = .ok (.iaload, 1) := by decide +kernel
theorem d_lw_law_567 : decode code 567 = .ok (.i2l, 1) := by decide +kernel
theorem d_lw_law_568 : decode code 568 = .ok (.ldc2_w 118, 3) := by decide +kernel
theorem d_lw_law_571 : decode code 571 = .ok (.land, 1) := by decide +kernel
theorem d_lw_law_572 : decode code 572 = .ok (.lor, 1) := by decide +kernel
theorem d_lw_law_573 : decode code 573 = .ok (.invokestatic 120, 3) := by decide +kernel
theorem d_lw_law_576 : decode code 576 = .ok (.istore 5, 2) := by decide +kernel
theorem d_lw_law_578 : decode code 578 = .ok (.aload_n 2, 1) := by decide +kernel
theorem d_lw_law_579 : decode code 579 = .ok (.aload_n 0, 1) := by decide +kernel
theorem d_lw_law_580 : decode code 580 = .ok (.iload 4, 2) := by decide +kernel
theorem d_lw_law_582 : decode code 582 = .ok (.iconst 1, 1) := by decide +kernel
theorem d_lw_law_583 : decode code 583 = .ok (.iadd, 1) := by decide +kernel
theorem d_lw_law_584 : decode code 584 = .ok (.iaload, 1) := by decide +kernel
theorem d_lw_law_585 : decode code 585 = .ok (.aload_n 0, 1) := by decide +kernel
theorem d_lw_law_586 : decode code 586 = .ok (.iload 4, 2) := by decide +kernel
theorem d_lw_law_588 : decode code 588 = .ok (.iconst 2, 1) := by decide +kernel
theorem d_lw_law_589 : decode code 589 = .ok (.iadd, 1) := by decide +kernel
theorem d_lw_law_590 : decode code 590 = .ok (.iaload, 1) := by decide +kernel
theorem d_lw_law_591 : decode code 591 = .ok (.aload_n 0, 1) := by decide +kernel
theorem d_lw_law_592 : decode code 592 = .ok (.iload 4, 2) := by decide +kernel
theorem d_lw_law_594 : decode code 594 = .ok (.iconst 3, 1) := by decide +kernel
theorem d_lw_law_595 : decode code 595 = .ok (.iadd, 1) := by decide +kernel
theorem d_lw_law_596 : decode code 596 = .ok (.iaload, 1) := by decide +kernel
theorem d_lw_law_597 : decode code 597 = .ok (.aload_n 0, 1) := by decide +kernel
theorem d_lw_law_598 : decode code 598 = .ok (.iload 4, 2) := by decide +kernel
theorem d_lw_law_600 : decode code 600 = .ok (.iconst 4, 1) := by decide +kernel
theorem d_lw_law_601 : decode code 601 = .ok (.iadd, 1) := by decide +kernel
theorem d_lw_law_602 : decode code 602 = .ok (.iaload, 1) := by decide +kernel
theorem d_lw_law_603 : decode code 603 = .ok (.i2l, 1) := by decide +kernel
theorem d_lw_law_604 : decode code 604 = .ok (.bipush 32, 2) := by decide +kernel
theorem d_lw_law_606 : decode code 606 = .ok (.lshl, 1) := by decide +kernel
theorem d_lw_law_607 : decode code 607 = .ok (.aload_n 0, 1) := by decide +kernel
theorem d_lw_law_608 : decode code 608 = .ok (.iload 4, 2) := by decide +kernel
theorem d_lw_law_610 : decode code 610 = .ok (.iconst 5, 1) := by decide +kernel
theorem d_lw_law_611 : decode code 611 = .ok (.iadd, 1) := by decide +kernel
theorem d_lw_law_612 : decode code 612 = .ok (.iaload, 1) := by decide +kernel
theorem d_lw_law_613 : decode code 613 = .ok (.i2l, 1) := by decide +kernel
theorem d_lw_law_614 : decode code 614 = .ok (.ldc2_w 118, 3) := by decide +kernel
theorem d_lw_law_617 : decode code 617 = .ok (.land, 1) := by decide +kernel
theorem d_lw_law_618 : decode code 618 = .ok (.lor, 1) := by decide +kernel
theorem d_lw_law_619 : decode code 619 = .ok (.invokevirtual 123, 3) := by decide +kernel
theorem d_lw_law_622 : decode code 622 = .ok (.aload_n 2, 1) := by decide +kernel
theorem d_lw_law_623 : decode code 623 = .ok (.invokevirtual 97, 3) := by decide +kernel
theorem d_lw_law_626 : decode code 626 = .ok (.iload 5, 2) := by decide +kernel
theorem d_lw_law_628 : decode code 628 = .ok (.if_icmp .eq 5, 3) := by decide +kernel
theorem d_lw_law_631 : decode code 631 = .ok (.iconst 0, 1) := by decide +kernel
theorem d_lw_law_632 : decode code 632 = .ok (.ireturn, 1) := by decide +kernel
theorem d_lw_law_633 : decode code 633 = .ok (.goto 817, 3) := by decide +kernel
theorem d_lw_law_636 : decode code 636 = .ok (.aload_n 1, 1) := by decide +kernel
theorem d_lw_law_637 : decode code 637 = .ok (.aload_n 0, 1) := by decide +kernel
theorem d_lw_law_638 : decode code 638 = .ok (.iload 4, 2) := by decide +kernel
theorem d_lw_law_640 : decode code 640 = .ok (.iconst 1, 1) := by decide +kernel
theorem d_lw_law_641 : decode code 641 = .ok (.iadd, 1) := by decide +kernel
theorem d_lw_law_642 : decode code 642 = .ok (.iaload, 1) := by decide +kernel
theorem d_lw_law_643 : decode code 643 = .ok (.aload_n 0, 1) := by decide +kernel
theorem d_lw_law_644 : decode code 644 = .ok (.iload 4, 2) := by decide +kernel
theorem d_lw_law_646 : decode code 646 = .ok (.iconst 2, 1) := by decide +kernel
theorem d_lw_law_647 : decode code 647 = .ok (.iadd, 1) := by decide +kernel
theorem d_lw_law_648 : decode code 648 = .ok (.iaload, 1) := by decide +kernel
theorem d_lw_law_649 : decode code 649 = .ok (.aload_n 3, 1) := by decide +kernel
theorem d_lw_law_650 : decode code 650 = .ok (.invokestatic 124, 3) := by decide +kernel
theorem d_lw_law_653 : decode code 653 = .ok (.istore 5, 2) := by decide +kernel
theorem d_lw_law_655 : decode code 655 = .ok (.aload_n 2, 1) := by decide +kernel
theorem d_lw_law_656 : decode code 656 = .ok (.aload_n 0, 1) := by decide +kernel
theorem d_lw_law_657 : decode code 657 = .ok (.iload 4, 2) := by decide +kernel
theorem d_lw_law_659 : decode code 659 = .ok (.iconst 1, 1) := by decide +kernel
theorem d_lw_law_660 : decode code 660 = .ok (.iadd, 1) := by decide +kernel
theorem d_lw_law_661 : decode code 661 = .ok (.iaload, 1) := by decide +kernel
theorem d_lw_law_662 : decode code 662 = .ok (.aload_n 0, 1) := by decide +kernel
theorem d_lw_law_663 : decode code 663 = .ok (.iload 4, 2) := by decide +kernel
theorem d_lw_law_665 : decode code 665 = .ok (.iconst 2, 1) := by decide +kernel
theorem d_lw_law_666 : decode code 666 = .ok (.iadd, 1) := by decide +kernel
theorem d_lw_law_667 : decode code 667 = .ok (.iaload, 1) := by decide +kernel
theorem d_lw_law_668 : decode code 668 = .ok (.invokevirtual 126, 3) := by decide +kernel
theorem d_lw_law_671 : decode code 671 = .ok (.istore 6, 2) := by decide +kernel
theorem d_lw_law_673 : decode code 673 = .ok (.aload_n 2, 1) := by decide +kernel
theorem d_lw_law_674 : decode code 674 = .ok (.invokevirtual 97, 3) := by decide +kernel
theorem d_lw_law_677 : decode code 677 = .ok (.iload 5, 2) := by decide +kernel
theorem d_lw_law_679 : decode code 679 = .ok (.if_icmp .eq 5, 3) := by decide +kernel
theorem d_lw_law_682 : decode code 682 = .ok (.iconst 0, 1) := by decide +kernel
theorem d_lw_law_683 : decode code 683 = .ok (.ireturn, 1) := by decide +kernel
theorem d_lw_law_684 : decode code 684 = .ok (.iload 5, 2) := by decide +kernel
theorem d_lw_law_686 : decode code 686 = .ok (.ifCond .ne 15, 3) := by decide +kernel
theorem d_lw_law_689 : decode code 689 = .ok (.aload_n 3, 1) := by decide +kernel
theorem d_lw_law_690 : decode code 690 = .ok (.iconst 0, 1) := by decide +kernel
theorem d_lw_law_691 : decode code 691 = .ok (.laload, 1) := by decide +kernel
theorem d_lw_law_692 : decode code 692 = .ok (.iload 6, 2) := by decide +kernel
theorem d_lw_law_694 : decode code 694 = .ok (.i2l, 1) := by decide +kernel
theorem d_lw_law_695 : decode code 695 = .ok (.lcmp, 1) := by decide +kernel
theorem d_lw_law_696 : decode code 696 = .ok (.ifCond .eq 5, 3) := by decide +kernel
theorem d_lw_law_699 : decode code 699 = .ok (.iconst 0, 1) := by decide +kernel
theorem d_lw_law_700 : decode code 700 = .ok (.ireturn, 1) := by decide +kernel
theorem d_lw_law_701 : decode code 701 = .ok (.goto 749, 3) := by decide +kernel
theorem d_lw_law_704 : decode code 704 = .ok (.aload_n 1, 1) := by decide +kernel
theorem d_lw_law_705 : decode code 705 = .ok (.aload_n 0, 1) := by decide +kernel
theorem d_lw_law_706 : decode code 706 = .ok (.iload 4, 2) := by decide +kernel
theorem d_lw_law_708 : decode code 708 = .ok (.iconst 1, 1) := by decide +kernel
theorem d_lw_law_709 : decode code 709 = .ok (.iadd, 1) := by decide +kernel
theorem d_lw_law_710 : decode code 710 = .ok (.iaload, 1) := by decide +kernel
theorem d_lw_law_711 : decode code 711 = .ok (.invokestatic 127, 3) := by decide +kernel
theorem d_lw_law_714 : decode code 714 = .ok (.istore 5, 2) := by decide +kernel
theorem d_lw_law_716 : decode code 716 = .ok (.aload_n 2, 1) := by decide +kernel
theorem d_lw_law_717 : decode code 717 = .ok (.aload_n 0, 1) := by decide +kernel
theorem d_lw_law_718 : decode code 718 = .ok (.iload 4, 2) := by decide +kernel
theorem d_lw_law_720 : decode code 720 = .ok (.iconst 1, 1) := by decide +kernel
theorem d_lw_law_721 : decode code 721 = .ok (.iadd, 1) := by decide +kernel
theorem d_lw_law_722 : decode code 722 = .ok (.iaload, 1) := by decide +kernel
theorem d_lw_law_723 : decode code 723 = .ok (.invokevirtual 130, 3) := by decide +kernel
theorem d_lw_law_726 : decode code 726 = .ok (.aload_n 2, 1) := by decide +kernel
theorem d_lw_law_727 : decode code 727 = .ok (.invokevirtual 97, 3) := by decide +kernel
theorem d_lw_law_730 : decode code 730 = .ok (.iload 5, 2) := by decide +kernel
theorem d_lw_law_732 : decode code 732 = .ok (.if_icmp .eq 5, 3) := by decide +kernel
theorem d_lw_law_735 : decode code 735 = .ok (.iconst 0, 1) := by decide +kernel
theorem d_lw_law_736 : decode code 736 = .ok (.ireturn, 1) := by decide +kernel
theorem d_lw_law_737 : decode code 737 = .ok (.goto 713, 3) := by decide +kernel
theorem d_lw_law_740 : decode code 740 = .ok (.aload_n 1, 1) := by decide +kernel
theorem d_lw_law_741 : decode code 741 = .ok (.invokestatic 131, 3) := by decide +kernel
theorem d_lw_law_744 : decode code 744 = .ok (.istore 5, 2) := by decide +kernel
theorem d_lw_law_746 : decode code 746 = .ok (.aload_n 2, 1) := by decide +kernel
theorem d_lw_law_747 : decode code 747 = .ok (.invokevirtual 134, 3) := by decide +kernel
theorem d_lw_law_750 : decode code 750 = .ok (.aload_n 2, 1) := by decide +kernel
theorem d_lw_law_751 : decode code 751 = .ok (.invokevirtual 97, 3) := by decide +kernel
theorem d_lw_law_754 : decode code 754 = .ok (.iload 5, 2) := by decide +kernel
theorem d_lw_law_756 : decode code 756 = .ok (.if_icmp .eq 5, 3) := by decide +kernel
theorem d_lw_law_759 : decode code 759 = .ok (.iconst 0, 1) := by decide +kernel
theorem d_lw_law_760 : decode code 760 = .ok (.ireturn, 1) := by decide +kernel
theorem d_lw_law_761 : decode code 761 = .ok (.goto 689, 3) := by decide +kernel
theorem d_lw_law_764 : decode code 764 = .ok (.aload_n 1, 1) := by decide +kernel
theorem d_lw_law_765 : decode code 765 = .ok (.aload_n 0, 1) := by decide +kernel
theorem d_lw_law_766 : decode code 766 = .ok (.iload 4, 2) := by decide +kernel
theorem d_lw_law_768 : decode code 768 = .ok (.iconst 1, 1) := by decide +kernel
theorem d_lw_law_769 : decode code 769 = .ok (.iadd, 1) := by decide +kernel
theorem d_lw_law_770 : decode code 770 = .ok (.iaload, 1) := by decide +kernel
theorem d_lw_law_771 : decode code 771 = .ok (.aload_n 3, 1) := by decide +kernel
theorem d_lw_law_772 : decode code 772 = .ok (.invokestatic 135, 3) := by decide +kernel
theorem d_lw_law_775 : decode code 775 = .ok (.istore 5, 2) := by decide +kernel
theorem d_lw_law_777 : decode code 777 = .ok (.aload_n 2, 1) := by decide +kernel
theorem d_lw_law_778 : decode code 778 = .ok (.aload_n 0, 1) := by decide +kernel
theorem d_lw_law_779 : decode code 779 = .ok (.iload 4, 2) := by decide +kernel
theorem d_lw_law_781 : decode code 781 = .ok (.iconst 1, 1) := by decide +kernel
theorem d_lw_law_782 : decode code 782 = .ok (.iadd, 1) := by decide +kernel
theorem d_lw_law_783 : decode code 783 = .ok (.iaload, 1) := by decide +kernel
theorem d_lw_law_784 : decode code 784 = .ok (.invokevirtual 137, 3) := by decide +kernel
theorem d_lw_law_787 : decode code 787 = .ok (.istore 6, 2) := by decide +kernel
theorem d_lw_law_789 : decode code 789 = .ok (.aload_n 2, 1) := by decide +kernel
theorem d_lw_law_790 : decode code 790 = .ok (.invokevirtual 97, 3) := by decide +kernel
theorem d_lw_law_793 : decode code 793 = .ok (.iload 5, 2) := by decide +kernel
theorem d_lw_law_795 : decode code 795 = .ok (.if_icmp .eq 5, 3) := by decide +kernel
theorem d_lw_law_798 : decode code 798 = .ok (.iconst 0, 1) := by decide +kernel
theorem d_lw_law_799 : decode code 799 = .ok (.ireturn, 1) := by decide +kernel
theorem d_lw_law_800 : decode code 800 = .ok (.iload 5, 2) := by decide +kernel
theorem d_lw_law_802 : decode code 802 = .ok (.ifCond .ne 15, 3) := by decide +kernel
theorem d_lw_law_805 : decode code 805 = .ok (.aload_n 3, 1) := by decide +kernel
theorem d_lw_law_806 : decode code 806 = .ok (.iconst 0, 1) := by decide +kernel
theorem d_lw_law_807 : decode code 807 = .ok (.laload, 1) := by decide +kernel
theorem d_lw_law_808 : decode code 808 = .ok (.iload 6, 2) := by decide +kernel
theorem d_lw_law_810 : decode code 810 = .ok (.i2l, 1) := by decide +kernel
theorem d_lw_law_811 : decode code 811 = .ok (.lcmp, 1) := by decide +kernel
theorem d_lw_law_812 : decode code 812 = .ok (.ifCond .eq 5, 3) := by decide +kernel
theorem d_lw_law_815 : decode code 815 = .ok (.iconst 0, 1) := by decide +kernel
theorem d_lw_law_816 : decode code 816 = .ok (.ireturn, 1) := by decide +kernel
theorem d_lw_law_817 : decode code 817 = .ok (.goto 633, 3) := by decide +kernel
theorem d_lw_law_820 : decode code 820 = .ok (.aload_n 1, 1) := by decide +kernel
theorem d_lw_law_821 : decode code 821 = .ok (.aload_n 0, 1) := by decide +kernel
theorem d_lw_law_822 : decode code 822 = .ok (.iload 4, 2) := by decide +kernel
theorem d_lw_law_824 : decode code 824 = .ok (.iconst 1, 1) := by decide +kernel
theorem d_lw_law_825 : decode code 825 = .ok (.iadd, 1) := by decide +kernel
theorem d_lw_law_826 : decode code 826 = .ok (.iaload, 1) := by decide +kernel
theorem d_lw_law_827 : decode code 827 = .ok (.aload_n 3, 1) := by decide +kernel
theorem d_lw_law_828 : decode code 828 = .ok (.invokestatic 138, 3) := by decide +kernel
theorem d_lw_law_831 : decode code 831 = .ok (.istore 5, 2) := by decide +kernel
theorem d_lw_law_833 : decode code 833 = .ok (.aload_n 2, 1) := by decide +kernel
theorem d_lw_law_834 : decode code 834 = .ok (.aload_n 0, 1) := by decide +kernel
theorem d_lw_law_835 : decode code 835 = .ok (.iload 4, 2) := by decide +kernel
theorem d_lw_law_837 : decode code 837 = .ok (.iconst 1, 1) := by decide +kernel
theorem d_lw_law_838 : decode code 838 = .ok (.iadd, 1) := by decide +kernel
theorem d_lw_law_839 : decode code 839 = .ok (.iaload, 1) := by decide +kernel
theorem d_lw_law_840 : decode code 840 = .ok (.invokevirtual 140, 3) := by decide +kernel
theorem d_lw_law_843 : decode code 843 = .ok (.istore 6, 2) := by decide +kernel
theorem d_lw_law_845 : decode code 845 = .ok (.aload_n 2, 1) := by decide +kernel
theorem d_lw_law_846 : decode code 846 = .ok (.invokevirtual 97, 3) := by decide +kernel
theorem d_lw_law_849 : decode code 849 = .ok (.iload 5, 2) := by decide +kernel
theorem d_lw_law_851 : decode code 851 = .ok (.if_icmp .eq 5, 3) := by decide +kernel
theorem d_lw_law_854 : decode code 854 = .ok (.iconst 0, 1) := by decide +kernel
theorem d_lw_law_855 : decode code 855 = .ok (.ireturn, 1) := by decide +kernel
theorem d_lw_law_856 : decode code 856 = .ok (.iload 5, 2) := by decide +kernel
theorem d_lw_law_858 : decode code 858 = .ok (.ifCond .ne 22, 3) := by decide +kernel
theorem d_lw_law_861 : decode code 861 = .ok (.aload_n 3, 1) := by decide +kernel
theorem d_lw_law_862 : decode code 862 = .ok (.iconst 0, 1) := by decide +kernel
theorem d_lw_law_863 : decode code 863 = .ok (.laload, 1) := by decide +kernel
theorem d_lw_law_864 : decode code 864 = .ok (.iload 6, 2) := by decide +kernel
theorem d_lw_law_866 : decode code 866 = .ok (.ifCond .eq 7, 3) := by decide +kernel
theorem d_lw_law_869 : decode code 869 = .ok (.lconst 1, 1) := by decide +kernel
theorem d_lw_law_870 : decode code 870 = .ok (.goto 4, 3) := by decide +kernel
theorem d_lw_law_873 : decode code 873 = .ok (.lconst 0, 1) := by decide +kernel
theorem d_lw_law_874 : decode code 874 = .ok (.lcmp, 1) := by decide +kernel
theorem d_lw_law_875 : decode code 875 = .ok (.ifCond .eq 5, 3) := by decide +kernel
theorem d_lw_law_878 : decode code 878 = .ok (.iconst 0, 1) := by decide +kernel
theorem d_lw_law_879 : decode code 879 = .ok (.ireturn, 1) := by decide +kernel
theorem d_lw_law_880 : decode code 880 = .ok (.goto 570, 3) := by decide +kernel
theorem d_lw_law_883 : decode code 883 = .ok (.aload_n 1, 1) := by decide +kernel
theorem d_lw_law_884 : decode code 884 = .ok (.aload_n 0, 1) := by decide +kernel
theorem d_lw_law_885 : decode code 885 = .ok (.iload 4, 2) := by decide +kernel
theorem d_lw_law_887 : decode code 887 = .ok (.iconst 1, 1) := by decide +kernel
theorem d_lw_law_888 : decode code 888 = .ok (.iadd, 1) := by decide +kernel
theorem d_lw_law_889 : decode code 889 = .ok (.iaload, 1) := by decide +kernel
theorem d_lw_law_890 : decode code 890 = .ok (.aload_n 0, 1) := by decide +kernel
theorem d_lw_law_891 : decode code 891 = .ok (.iload 4, 2) := by decide +kernel
theorem d_lw_law_893 : decode code 893 = .ok (.iconst 2, 1) := by decide +kernel
theorem d_lw_law_894 : decode code 894 = .ok (.iadd, 1) := by decide +kernel
theorem d_lw_law_895 : decode code 895 = .ok (.iaload, 1) := by decide +kernel
theorem d_lw_law_896 : decode code 896 = .ok (.aload_n 0, 1) := by decide +kernel
theorem d_lw_law_897 : decode code 897 = .ok (.iload 4, 2) := by decide +kernel
theorem d_lw_law_899 : decode code 899 = .ok (.iconst 3, 1) := by decide +kernel
theorem d_lw_law_900 : decode code 900 = .ok (.iadd, 1) := by decide +kernel
theorem d_lw_law_901 : decode code 901 = .ok (.iaload, 1) := by decide +kernel
theorem d_lw_law_902 : decode code 902 = .ok (.aload_n 3, 1) := by decide +kernel
theorem d_lw_law_903 : decode code 903 = .ok (.invokestatic 141, 3) := by decide +kernel
theorem d_lw_law_906 : decode code 906 = .ok (.istore 5, 2) := by decide +kernel
theorem d_lw_law_908 : decode code 908 = .ok (.aload_n 2, 1) := by decide +kernel
theorem d_lw_law_909 : decode code 909 = .ok (.aload_n 0, 1) := by decide +kernel
theorem d_lw_law_910 : decode code 910 = .ok (.iload 4, 2) := by decide +kernel
theorem d_lw_law_912 : decode code 912 = .ok (.iconst 1, 1) := by decide +kernel
theorem d_lw_law_913 : decode code 913 = .ok (.iadd, 1) := by decide +kernel
theorem d_lw_law_914 : decode code 914 = .ok (.iaload, 1) := by decide +kernel
theorem d_lw_law_915 : decode code 915 = .ok (.aload_n 0, 1) := by decide +kernel
theorem d_lw_law_916 : decode code 916 = .ok (.iload 4, 2) := by decide +kernel
theorem d_lw_law_918 : decode code 918 = .ok (.iconst 2, 1) := by decide +kernel
theorem d_lw_law_919 : decode code 919 = .ok (.iadd, 1) := by decide +kernel
theorem d_lw_law_920 : decode code 920 = .ok (.iaload, 1) := by decide +kernel
theorem d_lw_law_921 : decode code 921 = .ok (.aload_n 0, 1) := by decide +kernel
theorem d_lw_law_922 : decode code 922 = .ok (.iload 4, 2) := by decide +kernel
theorem d_lw_law_924 : decode code 924 = .ok (.iconst 3, 1) := by decide +kernel
theorem d_lw_law_925 : decode code 925 = .ok (.iadd, 1) := by decide +kernel
theorem d_lw_law_926 : decode code 926 = .ok (.iaload, 1) := by decide +kernel
theorem d_lw_law_927 : decode code 927 = .ok (.invokevirtual 143, 3) := by decide +kernel
theorem d_lw_law_930 : decode code 930 = .ok (.istore 6, 2) := by decide +kernel
theorem d_lw_law_932 : decode code 932 = .ok (.aload_n 2, 1) := by decide +kernel
theorem d_lw_law_933 : decode code 933 = .ok (.invokevirtual 97, 3) := by decide +kernel
theorem d_lw_law_936 : decode code 936 = .ok (.iload 5, 2) := by decide +kernel
theorem d_lw_law_938 : decode code 938 = .ok (.if_icmp .eq 5, 3) := by decide +kernel
theorem d_lw_law_941 : decode code 941 = .ok (.iconst 0, 1) := by decide +kernel
theorem d_lw_law_942 : decode code 942 = .ok (.ireturn, 1) := by decide +kernel
theorem d_lw_law_943 : decode code 943 = .ok (.iload 5, 2) := by decide +kernel
theorem d_lw_law_945 : decode code 945 = .ok (.ifCond .ne 15, 3) := by decide +kernel
theorem d_lw_law_948 : decode code 948 = .ok (.aload_n 3, 1) := by decide +kernel
theorem d_lw_law_949 : decode code 949 = .ok (.iconst 0, 1) := by decide +kernel
theorem d_lw_law_950 : decode code 950 = .ok (.laload, 1) := by decide +kernel
theorem d_lw_law_951 : decode code 951 = .ok (.iload 6, 2) := by decide +kernel
theorem d_lw_law_953 : decode code 953 = .ok (.i2l, 1) := by decide +kernel
theorem d_lw_law_954 : decode code 954 = .ok (.lcmp, 1) := by decide +kernel
theorem d_lw_law_955 : decode code 955 = .ok (.ifCond .eq 5, 3) := by decide +kernel
theorem d_lw_law_958 : decode code 958 = .ok (.iconst 0, 1) := by decide +kernel
theorem d_lw_law_959 : decode code 959 = .ok (.ireturn, 1) := by decide +kernel
theorem d_lw_law_960 : decode code 960 = .ok (.goto 490, 3) := by decide +kernel
theorem d_lw_law_963 : decode code 963 = .ok (.aload_n 1, 1) := by decide +kernel
theorem d_lw_law_964 : decode code 964 = .ok (.aload_n 0, 1) := by decide +kernel
theorem d_lw_law_965 : decode code 965 = .ok (.iload 4, 2) := by decide +kernel
theorem d_lw_law_967 : decode code 967 = .ok (.iconst 1, 1) := by decide +kernel
theorem d_lw_law_968 : decode code 968 = .ok (.iadd, 1) := by decide +kernel
theorem d_lw_law_969 : decode code 969 = .ok (.iaload, 1) := by decide +kernel
theorem d_lw_law_970 : decode code 970 = .ok (.aload_n 0, 1) := by decide +kernel
theorem d_lw_law_971 : decode code 971 = .ok (.iload 4, 2) := by decide +kernel
theorem d_lw_law_973 : decode code 973 = .ok (.iconst 2, 1) := by decide +kernel
theorem d_lw_law_974 : decode code 974 = .ok (.iadd, 1) := by decide +kernel
theorem d_lw_law_975 : decode code 975 = .ok (.iaload, 1) := by decide +kernel
theorem d_lw_law_976 : decode code 976 = .ok (.aload_n 0, 1) := by decide +kernel
theorem d_lw_law_977 : decode code 977 = .ok (.iload 4, 2) := by decide +kernel
theorem d_lw_law_979 : decode code 979 = .ok (.iconst 3, 1) := by decide +kernel
theorem d_lw_law_980 : decode code 980 = .ok (.iadd, 1) := by decide +kernel
theorem d_lw_law_981 : decode code 981 = .ok (.iaload, 1) := by decide +kernel
theorem d_lw_law_982 : decode code 982 = .ok (.aload_n 3, 1) := by decide +kernel
theorem d_lw_law_983 : decode code 983 = .ok (.invokestatic 144, 3) := by decide +kernel
theorem d_lw_law_986 : decode code 986 = .ok (.istore 5, 2) := by decide +kernel
theorem d_lw_law_988 : decode code 988 = .ok (.aload_n 2, 1) := by decide +kernel
theorem d_lw_law_989 : decode code 989 = .ok (.aload_n 0, 1) := by decide +kernel
theorem d_lw_law_990 : decode code 990 = .ok (.iload 4, 2) := by decide +kernel
theorem d_lw_law_992 : decode code 992 = .ok (.iconst 1, 1) := by decide +kernel
theorem d_lw_law_993 : decode code 993 = .ok (.iadd, 1) := by decide +kernel
theorem d_lw_law_994 : decode code 994 = .ok (.iaload, 1) := by decide +kernel
theorem d_lw_law_995 : decode code 995 = .ok (.aload_n 0, 1) := by decide +kernel
theorem d_lw_law_996 : decode code 996 = .ok (.iload 4, 2) := by decide +kernel
theorem d_lw_law_998 : decode code 998 = .ok (.iconst 2, 1) := by decide +kernel
theorem d_lw_law_999 : decode code 999 = .ok (.iadd, 1) := by decide +kernel
theorem d_lw_law_1000 : decode code 1000 = .ok (.iaload, 1) := by decide +kernel
theorem d_lw_law_1001 : decode code 1001 = .ok (.aload_n 0, 1) := by decide +kernel
theorem d_lw_law_1002 : decode code 1002 = .ok (.iload 4, 2) := by decide +kernel
theorem d_lw_law_1004 : decode code 1004 = .ok (.iconst 3, 1) := by decide +kernel
theorem d_lw_law_1005 : decode code 1005 = .ok (.iadd, 1) := by decide +kernel
theorem d_lw_law_1006 : decode code 1006 = .ok (.iaload, 1) := by decide +kernel
theorem d_lw_law_1007 : decode code 1007 = .ok (.invokevirtual 146, 3) := by decide +kernel
theorem d_lw_law_1010 : decode code 1010 = .ok (.istore 6, 2) := by decide +kernel
theorem d_lw_law_1012 : decode code 1012 = .ok (.aload_n 2, 1) := by decide +kernel
theorem d_lw_law_1013 : decode code 1013 = .ok (.invokevirtual 97, 3) := by decide +kernel
theorem d_lw_law_1016 : decode code 1016 = .ok (.iload 5, 2) := by decide +kernel
theorem d_lw_law_1018 : decode code 1018 = .ok (.if_icmp .eq 5, 3) := by decide +kernel
theorem d_lw_law_1021 : decode code 1021 = .ok (.iconst 0, 1) := by decide +kernel
theorem d_lw_law_1022 : decode code 1022 = .ok (.ireturn, 1) := by decide +kernel
theorem d_lw_law_1023 : decode code 1023 = .ok (.iload 5, 2) := by decide +kernel
theorem d_lw_law_1025 : decode code 1025 = .ok (.ifCond .ne 15, 3) := by decide +kernel
theorem d_lw_law_1028 : decode code 1028 = .ok (.aload_n 3, 1) := by decide +kernel
theorem d_lw_law_1029 : decode code 1029 = .ok (.iconst 0, 1) := by decide +kernel
theorem d_lw_law_1030 : decode code 1030 = .ok (.laload, 1) := by decide +kernel
theorem d_lw_law_1031 : decode code 1031 = .ok (.iload 6, 2) := by decide +kernel
theorem d_lw_law_1033 : decode code 1033 = .ok (.i2l, 1) := by decide +kernel
theorem d_lw_law_1034 : decode code 1034 = .ok (.lcmp, 1) := by decide +kernel
theorem d_lw_law_1035 : decode code 1035 = .ok (.ifCond .eq 5, 3) := by decide +kernel
theorem d_lw_law_1038 : decode code 1038 = .ok (.iconst 0, 1) := by decide +kernel
theorem d_lw_law_1039 : decode code 1039 = .ok (.ireturn, 1) := by decide +kernel
theorem d_lw_law_1040 : decode code 1040 = .ok (.goto 410, 3) := by decide +kernel
theorem d_lw_law_1043 : decode code 1043 = .ok (.aload_n 1, 1) := by decide +kernel
theorem d_lw_law_1044 : decode code 1044 = .ok (.aload_n 0, 1) := by decide +kernel
theorem d_lw_law_1045 : decode code 1045 = .ok (.iload 4, 2) := by decide +kernel
theorem d_lw_law_1047 : decode code 1047 = .ok (.iconst 1, 1) := by decide +kernel
theorem d_lw_law_1048 : decode code 1048 = .ok (.iadd, 1) := by decide +kernel
theorem d_lw_law_1049 : decode code 1049 = .ok (.iaload, 1) := by decide +kernel
theorem d_lw_law_1050 : decode code 1050 = .ok (.aload_n 0, 1) := by decide +kernel
theorem d_lw_law_1051 : decode code 1051 = .ok (.iload 4, 2) := by decide +kernel
theorem d_lw_law_1053 : decode code 1053 = .ok (.iconst 2, 1) := by decide +kernel
theorem d_lw_law_1054 : decode code 1054 = .ok (.iadd, 1) := by decide +kernel
theorem d_lw_law_1055 : decode code 1055 = .ok (.iaload, 1) := by decide +kernel
theorem d_lw_law_1056 : decode code 1056 = .ok (.aload_n 3, 1) := by decide +kernel
theorem d_lw_law_1057 : decode code 1057 = .ok (.invokestatic 147, 3) := by decide +kernel
theorem d_lw_law_1060 : decode code 1060 = .ok (.istore 5, 2) := by decide +kernel
theorem d_lw_law_1062 : decode code 1062 = .ok (.aload_n 2, 1) := by decide +kernel
theorem d_lw_law_1063 : decode code 1063 = .ok (.aload_n 0, 1) := by decide +kernel
theorem d_lw_law_1064 : decode code 1064 = .ok (.iload 4, 2) := by decide +kernel
theorem d_lw_law_1066 : decode code 1066 = .ok (.iconst 1, 1) := by decide +kernel
theorem d_lw_law_1067 : decode code 1067 = .ok (.iadd, 1) := by decide +kernel
theorem d_lw_law_1068 : decode code 1068 = .ok (.iaload, 1) := by decide +kernel
theorem d_lw_law_1069 : decode code 1069 = .ok (.aload_n 0, 1) := by decide +kernel
theorem d_lw_law_1070 : decode code 1070 = .ok (.iload 4, 2) := by decide +kernel
theorem d_lw_law_1072 : decode code 1072 = .ok (.iconst 2, 1) := by decide +kernel
theorem d_lw_law_1073 : decode code 1073 = .ok (.iadd, 1) := by decide +kernel
theorem d_lw_law_1074 : decode code 1074 = .ok (.iaload, 1) := by decide +kernel
theorem d_lw_law_1075 : decode code 1075 = .ok (.invokevirtual 149, 3) := by decide +kernel
theorem d_lw_law_1078 : decode code 1078 = .ok (.istore 6, 2) := by decide +kernel
theorem d_lw_law_1080 : decode code 1080 = .ok (.aload_n 2, 1) := by decide +kernel
theorem d_lw_law_1081 : decode code 1081 = .ok (.invokevirtual 97, 3) := by decide +kernel
theorem d_lw_law_1084 : decode code 1084 = .ok (.iload 5, 2) := by decide +kernel
theorem d_lw_law_1086 : decode code 1086 = .ok (.if_icmp .eq 5, 3) := by decide +kernel
theorem d_lw_law_1089 : decode code 1089 = .ok (.iconst 0, 1) := by decide +kernel
theorem d_lw_law_1090 : decode code 1090 = .ok (.ireturn, 1) := by decide +kernel
theorem d_lw_law_1091 : decode code 1091 = .ok (.iload 5, 2) := by decide +kernel
theorem d_lw_law_1093 : decode code 1093 = .ok (.ifCond .ne 15, 3) := by decide +kernel
theorem d_lw_law_1096 : decode code 1096 = .ok (.aload_n 3, 1) := by decide +kernel
theorem d_lw_law_1097 : decode code 1097 = .ok (.iconst 0, 1) := by decide +kernel
theorem d_lw_law_1098 : decode code 1098 = .ok (.laload, 1) := by decide +kernel
theorem d_lw_law_1099 : decode code 1099 = .ok (.iload 6, 2) := by decide +kernel
theorem d_lw_law_1101 : decode code 1101 = .ok (.i2l, 1) := by decide +kernel
theorem d_lw_law_1102 : decode code 1102 = .ok (.lcmp, 1) := by decide +kernel
theorem d_lw_law_1103 : decode code 1103 = .ok (.ifCond .eq 5, 3) := by decide +kernel
theorem d_lw_law_1106 : decode code 1106 = .ok (.iconst 0, 1) := by decide +kernel
theorem d_lw_law_1107 : decode code 1107 = .ok (.ireturn, 1) := by decide +kernel
theorem d_lw_law_1108 : decode code 1108 = .ok (.goto 342, 3) := by decide +kernel
theorem d_lw_law_1111 : decode code 1111 = .ok (.aload_n 1, 1) := by decide +kernel
theorem d_lw_law_1112 : decode code 1112 = .ok (.invokestatic 150, 3) := by decide +kernel
theorem d_lw_law_1115 : decode code 1115 = .ok (.istore 5, 2) := by decide +kernel
theorem d_lw_law_1117 : decode code 1117 = .ok (.aload_n 2, 1) := by decide +kernel
theorem d_lw_law_1118 : decode code 1118 = .ok (.invokevirtual 152, 3) := by decide +kernel
theorem d_lw_law_1121 : decode code 1121 = .ok (.aload_n 2, 1) := by decide +kernel
theorem d_lw_law_1122 : decode code 1122 = .ok (.invokevirtual 97, 3) := by decide +kernel
theorem d_lw_law_1125 : decode code 1125 = .ok (.iload 5, 2) := by decide +kernel
theorem d_lw_law_1127 : decode code 1127 = .ok (.if_icmp .eq 5, 3) := by decide +kernel
theorem d_lw_law_1130 : decode code 1130 = .ok (.iconst 0, 1) := by decide +kernel
theorem d_lw_law_1131 : decode code 1131 = .ok (.ireturn, 1) := by decide +kernel
theorem d_lw_law_1132 : decode code 1132 = .ok (.goto 318, 3) := by decide +kernel
theorem d_lw_law_1135 : decode code 1135 = .ok (.aload_n 1, 1) := by decide +kernel
theorem d_lw_law_1136 : decode code 1136 = .ok (.invokevirtual 153, 3) := by decide +kernel
theorem d_lw_law_1139 : decode code 1139 = .ok (.aload_n 2, 1) := by decide +kernel
theorem d_lw_law_1140 : decode code 1140 = .ok (.invokevirtual 156, 3) := by decide +kernel
theorem d_lw_law_1143 : decode code 1143 = .ok (.if_icmp .eq 307, 3) := by decide +kernel
theorem d_lw_law_1146 : decode code 1146 = .ok (.iconst 0, 1) := by decide +kernel
theorem d_lw_law_1147 : decode code 1147 = .ok (.ireturn, 1) := by decide +kernel
theorem d_lw_law_1148 : decode code 1148 = .ok (.aload_n 1, 1) := by decide +kernel
theorem d_lw_law_1149 : decode code 1149 = .ok (.invokevirtual 157, 3) := by decide +kernel
theorem d_lw_law_1152 : decode code 1152 = .ok (.aload_n 2, 1) := by decide +kernel
theorem d_lw_law_1153 : decode code 1153 = .ok (.invokevirtual 160, 3) := by decide +kernel
theorem d_lw_law_1156 : decode code 1156 = .ok (.if_icmp .eq 294, 3) := by decide +kernel
theorem d_lw_law_1159 : decode code 1159 = .ok (.iconst 0, 1) := by decide +kernel
theorem d_lw_law_1160 : decode code 1160 = .ok (.ireturn, 1) := by decide +kernel
theorem d_lw_law_1161 : decode code 1161 = .ok (.aload_n 1, 1) := by decide +kernel
theorem d_lw_law_1162 : decode code 1162 = .ok (.aload_n 0, 1) := by decide +kernel
theorem d_lw_law_1163 : decode code 1163 = .ok (.iload 4, 2) := by decide +kernel
theorem d_lw_law_1165 : decode code 1165 = .ok (.iconst 1, 1) := by decide +kernel
theorem d_lw_law_1166 : decode code 1166 = .ok (.iadd, 1) := by decide +kernel
theorem d_lw_law_1167 : decode code 1167 = .ok (.iaload, 1) := by decide +kernel
theorem d_lw_law_1168 : decode code 1168 = .ok (.invokevirtual 161, 3) := by decide +kernel
theorem d_lw_law_1171 : decode code 1171 = .ok (.aload_n 2, 1) := by decide +kernel
theorem d_lw_law_1172 : decode code 1172 = .ok (.aload_n 0, 1) := by decide +kernel
theorem d_lw_law_1173 : decode code 1173 = .ok (.iload 4, 2) := by decide +kernel
theorem d_lw_law_1175 : decode code 1175 = .ok (.iconst 1, 1) := by decide +kernel
theorem d_lw_law_1176 : decode code 1176 = .ok (.iadd, 1) := by decide +kernel
theorem d_lw_law_1177 : decode code 1177 = .ok (.iaload, 1) := by decide +kernel
theorem d_lw_law_1178 : decode code 1178 = .ok (.invokevirtual 164, 3) := by decide +kernel
theorem d_lw_law_1181 : decode code 1181 = .ok (.if_icmp .eq 269, 3) := by decide +kernel
theorem d_lw_law_1184 : decode code 1184 = .ok (.iconst 0, 1) := by decide +kernel
theorem d_lw_law_1185 : decode code 1185 = .ok (.ireturn, 1) := by decide +kernel
theorem d_lw_law_1186 : decode code 1186 = .ok (.aload_n 1, 1) := by decide +kernel
theorem d_lw_law_1187 : decode code 1187 = .ok (.aload_n 0, 1) := by decide +kernel
theorem d_lw_law_1188 : decode code 1188 = .ok (.iload 4, 2) := by decide +kernel
theorem d_lw_law_1190 : decode code 1190 = .ok (.iconst 1, 1) := by decide +kernel
theorem d_lw_law_1191 : decode code 1191 = .ok (.iadd, 1) := by decide +kernel
theorem d_lw_law_1192 : decode code 1192 = .ok (.iaload, 1) := by decide +kernel
theorem d_lw_law_1193 : decode code 1193 = .ok (.aload_n 0, 1) := by decide +kernel
theorem d_lw_law_1194 : decode code 1194 = .ok (.iload 4, 2) := by decide +kernel
theorem d_lw_law_1196 : decode code 1196 = .ok (.iconst 2, 1) := by decide +kernel
theorem d_lw_law_1197 : decode code 1197 = .ok (.iadd, 1) := by decide +kernel
theorem d_lw_law_1198 : decode code 1198 = .ok (.iaload, 1) := by decide +kernel
theorem d_lw_law_1199 : decode code 1199 = .ok (.aload_n 3, 1) := by decide +kernel
theorem d_lw_law_1200 : decode code 1200 = .ok (.invokestatic 165, 3) := by decide +kernel
theorem d_lw_law_1203 : decode code 1203 = .ok (.istore 5, 2) := by decide +kernel
theorem d_lw_law_1205 : decode code 1205 = .ok (.aload_n 2, 1) := by decide +kernel
theorem d_lw_law_1206 : decode code 1206 = .ok (.aload_n 0, 1) := by decide +kernel
theorem d_lw_law_1207 : decode code 1207 = .ok (.iload 4, 2) := by decide +kernel
theorem d_lw_law_1209 : decode code 1209 = .ok (.iconst 1, 1) := by decide +kernel
theorem d_lw_law_1210 : decode code 1210 = .ok (.iadd, 1) := by decide +kernel
theorem d_lw_law_1211 : decode code 1211 = .ok (.iaload, 1) := by decide +kernel
theorem d_lw_law_1212 : decode code 1212 = .ok (.aload_n 0, 1) := by decide +kernel
theorem d_lw_law_1213 : decode code 1213 = .ok (.iload 4, 2) := by decide +kernel
theorem d_lw_law_1215 : decode code 1215 = .ok (.iconst 2, 1) := by decide +kernel
theorem d_lw_law_1216 : decode code 1216 = .ok (.iadd, 1) := by decide +kernel
theorem d_lw_law_1217 : decode code 1217 = .ok (.iaload, 1) := by decide +kernel
theorem d_lw_law_1218 : decode code 1218 = .ok (.invokevirtual 167, 3) := by decide +kernel
theorem d_lw_law_1221 : decode code 1221 = .ok (.istore 6, 2) := by decide +kernel
theorem d_lw_law_1223 : decode code 1223 = .ok (.aload_n 2, 1) := by decide +kernel
theorem d_lw_law_1224 : decode code 1224 = .ok (.invokevirtual 97, 3) := by decide +kernel
theorem d_lw_law_1227 : decode code 1227 = .ok (.iload 5, 2) := by decide +kernel
theorem d_lw_law_1229 : decode code 1229 = .ok (.if_icmp .eq 5, 3) := by decide +kernel
theorem d_lw_law_1232 : decode code 1232 = .ok (.iconst 0, 1) := by decide +kernel
theorem d_lw_law_1233 : decode code 1233 = .ok (.ireturn, 1) := by decide +kernel
theorem d_lw_law_1234 : decode code 1234 = .ok (.iload 5, 2) := by decide +kernel
theorem d_lw_law_1236 : decode code 1236 = .ok (.ifCond .ne 15, 3) := by decide +kernel
theorem d_lw_law_1239 : decode code 1239 = .ok (.aload_n 3, 1) := by decide +kernel
theorem d_lw_law_1240 : decode code 1240 = .ok (.iconst 0, 1) := by decide +kernel
theorem d_lw_law_1241 : decode code 1241 = .ok (.laload, 1) := by decide +kernel
theorem d_lw_law_1242 : decode code 1242 = .ok (.iload 6, 2) := by decide +kernel
theorem d_lw_law_1244 : decode code 1244 = .ok (.i2l, 1) := by decide +kernel
theorem d_lw_law_1245 : decode code 1245 = .ok (.lcmp, 1) := by decide +kernel
theorem d_lw_law_1246 : decode code 1246 = .ok (.ifCond .eq 5, 3) := by decide +kernel
theorem d_lw_law_1249 : decode code 1249 = .ok (.iconst 0, 1) := by decide +kernel
theorem d_lw_law_1250 : decode code 1250 = .ok (.ireturn, 1) := by decide +kernel
theorem d_lw_law_1251 : decode code 1251 = .ok (.goto 199, 3) := by decide +kernel
theorem d_lw_law_1254 : decode code 1254 = .ok (.aload_n 1, 1) := by decide +kernel
theorem d_lw_law_1255 : decode code 1255 = .ok (.aload_n 0, 1) := by decide +kernel
theorem d_lw_law_1256 : decode code 1256 = .ok (.iload 4, 2) := by decide +kernel
theorem d_lw_law_1258 : decode code 1258 = .ok (.iconst 1, 1) := by decide +kernel
theorem d_lw_law_1259 : decode code 1259 = .ok (.iadd, 1) := by decide +kernel
theorem d_lw_law_1260 : decode code 1260 = .ok (.iaload, 1) := by decide +kernel
theorem d_lw_law_1261 : decode code 1261 = .ok (.aload_n 3, 1) := by decide +kernel
theorem d_lw_law_1262 : decode code 1262 = .ok (.invokestatic 168, 3) := by decide +kernel
theorem d_lw_law_1265 : decode code 1265 = .ok (.istore 5, 2) := by decide +kernel
theorem d_lw_law_1267 : decode code 1267 = .ok (.aload_n 2, 1) := by decide +kernel
theorem d_lw_law_1268 : decode code 1268 = .ok (.aload_n 0, 1) := by decide +kernel
theorem d_lw_law_1269 : decode code 1269 = .ok (.iload 4, 2) := by decide +kernel
theorem d_lw_law_1271 : decode code 1271 = .ok (.iconst 1, 1) := by decide +kernel
theorem d_lw_law_1272 : decode code 1272 = .ok (.iadd, 1) := by decide +kernel
theorem d_lw_law_1273 : decode code 1273 = .ok (.iaload, 1) := by decide +kernel
theorem d_lw_law_1274 : decode code 1274 = .ok (.invokevirtual 170, 3) := by decide +kernel
theorem d_lw_law_1277 : decode code 1277 = .ok (.istore 6, 2) := by decide +kernel
theorem d_lw_law_1279 : decode code 1279 = .ok (.aload_n 2, 1) := by decide +kernel
theorem d_lw_law_1280 : decode code 1280 = .ok (.invokevirtual 97, 3) := by decide +kernel
theorem d_lw_law_1283 : decode code 1283 = .ok (.iload 5, 2) := by decide +kernel
theorem d_lw_law_1285 : decode code 1285 = .ok (.if_icmp .eq 5, 3) := by decide +kernel
theorem d_lw_law_1288 : decode code 1288 = .ok (.iconst 0, 1) := by decide +kernel
theorem d_lw_law_1289 : decode code 1289 = .ok (.ireturn, 1) := by decide +kernel
theorem d_lw_law_1290 : decode code 1290 = .ok (.iload 5, 2) := by decide +kernel
theorem d_lw_law_1292 : decode code 1292 = .ok (.ifCond .ne 15, 3) := by decide +kernel
theorem d_lw_law_1295 : decode code 1295 = .ok (.aload_n 3, 1) := by decide +kernel
theorem d_lw_law_1296 : decode code 1296 = .ok (.iconst 0, 1) := by decide +kernel
theorem d_lw_law_1297 : decode code 1297 = .ok (.laload, 1) := by decide +kernel
theorem d_lw_law_1298 : decode code 1298 = .ok (.iload 6, 2) := by decide +kernel
theorem d_lw_law_1300 : decode code 1300 = .ok (.i2l, 1) := by decide +kernel
theorem d_lw_law_1301 : decode code 1301 = .ok (.lcmp, 1) := by decide +kernel
theorem d_lw_law_1302 : decode code 1302 = .ok (.ifCond .eq 5, 3) := by decide +kernel
theorem d_lw_law_1305 : decode code 1305 = .ok (.iconst 0, 1) := by decide +kernel
theorem d_lw_law_1306 : decode code 1306 = .ok (.ireturn, 1) := by decide +kernel
theorem d_lw_law_1307 : decode code 1307 = .ok (.goto 143, 3) := by decide +kernel
theorem d_lw_law_1310 : decode code 1310 = .ok (.aload_n 1, 1) := by decide +kernel
theorem d_lw_law_1311 : decode code 1311 = .ok (.aload_n 0, 1) := by decide +kernel
theorem d_lw_law_1312 : decode code 1312 = .ok (.iload 4, 2) := by decide +kernel
theorem d_lw_law_1314 : decode code 1314 = .ok (.iconst 1, 1) := by decide +kernel
theorem d_lw_law_1315 : decode code 1315 = .ok (.iadd, 1) := by decide +kernel
theorem d_lw_law_1316 : decode code 1316 = .ok (.iaload, 1) := by decide +kernel
theorem d_lw_law_1317 : decode code 1317 = .ok (.aload_n 0, 1) := by decide +kernel
theorem d_lw_law_1318 : decode code 1318 = .ok (.iload 4, 2) := by decide +kernel
theorem d_lw_law_1320 : decode code 1320 = .ok (.iconst 2, 1) := by decide +kernel
theorem d_lw_law_1321 : decode code 1321 = .ok (.iadd, 1) := by decide +kernel
theorem d_lw_law_1322 : decode code 1322 = .ok (.iaload, 1) := by decide +kernel
theorem d_lw_law_1323 : decode code 1323 = .ok (.ifCond .eq 7, 3) := by decide +kernel
theorem d_lw_law_1326 : decode code 1326 = .ok (.iconst 1, 1) := by decide +kernel
theorem d_lw_law_1327 : decode code 1327 = .ok (.goto 4, 3) := by decide +kernel
theorem d_lw_law_1330 : decode code 1330 = .ok (.iconst 0, 1) := by decide +kernel
theorem d_lw_law_1331 : decode code 1331 = .ok (.aload_n 3, 1) := by decide +kernel
theorem d_lw_law_1332 : decode code 1332 = .ok (.invokestatic 171, 3) := by decide +kernel
theorem d_lw_law_1335 : decode code 1335 = .ok (.istore 5, 2) := by decide +kernel
theorem d_lw_law_1337 : decode code 1337 = .ok (.aload_n 2, 1) := by decide +kernel
theorem d_lw_law_1338 : decode code 1338 = .ok (.aload_n 0, 1) := by decide +kernel
theorem d_lw_law_1339 : decode code 1339 = .ok (.iload 4, 2) := by decide +kernel
theorem d_lw_law_1341 : decode code 1341 = .ok (.iconst 1, 1) := by decide +kernel
theorem d_lw_law_1342 : decode code 1342 = .ok (.iadd, 1) := by decide +kernel
theorem d_lw_law_1343 : decode code 1343 = .ok (.iaload, 1) := by decide +kernel
theorem d_lw_law_1344 : decode code 1344 = .ok (.aload_n 0, 1) := by decide +kernel
theorem d_lw_law_1345 : decode code 1345 = .ok (.iload 4, 2) := by decide +kernel
theorem d_lw_law_1347 : decode code 1347 = .ok (.iconst 2, 1) := by decide +kernel
theorem d_lw_law_1348 : decode code 1348 = .ok (.iadd, 1) := by decide +kernel
theorem d_lw_law_1349 : decode code 1349 = .ok (.iaload, 1) := by decide +kernel
theorem d_lw_law_1350 : decode code 1350 = .ok (.ifCond .eq 7, 3) := by decide +kernel
theorem d_lw_law_1353 : decode code 1353 = .ok (.iconst 1, 1) := by decide +kernel
theorem d_lw_law_1354 : decode code 1354 = .ok (.goto 4, 3) := by decide +kernel
theorem d_lw_law_1357 : decode code 1357 = .ok (.iconst 0, 1) := by decide +kernel
theorem d_lw_law_1358 : decode code 1358 = .ok (.invokevirtual 174, 3) := by decide +kernel
theorem d_lw_law_1361 : decode code 1361 = .ok (.istore 6, 2) := by decide +kernel
theorem d_lw_law_1363 : decode code 1363 = .ok (.aload_n 2, 1) := by decide +kernel
theorem d_lw_law_1364 : decode code 1364 = .ok (.invokevirtual 97, 3) := by decide +kernel
theorem d_lw_law_1367 : decode code 1367 = .ok (.iload 5, 2) := by decide +kernel
theorem d_lw_law_1369 : decode code 1369 = .ok (.if_icmp .eq 5, 3) := by decide +kernel
theorem d_lw_law_1372 : decode code 1372 = .ok (.iconst 0, 1) := by decide +kernel
theorem d_lw_law_1373 : decode code 1373 = .ok (.ireturn, 1) := by decide +kernel
theorem d_lw_law_1374 : decode code 1374 = .ok (.iload 5, 2) := by decide +kernel
theorem d_lw_law_1376 : decode code 1376 = .ok (.ifCond .ne 15, 3) := by decide +kernel
theorem d_lw_law_1379 : decode code 1379 = .ok (.aload_n 3, 1) := by decide +kernel
theorem d_lw_law_1380 : decode code 1380 = .ok (.iconst 0, 1) := by decide +kernel
theorem d_lw_law_1381 : decode code 1381 = .ok (.laload, 1) := by decide +kernel
theorem d_lw_law_1382 : decode code 1382 = .ok (.iload 6, 2) := by decide +kernel
theorem d_lw_law_1384 : decode code 1384 = .ok (.i2l, 1) := by decide +kernel
theorem d_lw_law_1385 : decode code 1385 = .ok (.lcmp, 1) := by decide +kernel
theorem d_lw_law_1386 : decode code 1386 = .ok (.ifCond .eq 5, 3) := by decide +kernel
theorem d_lw_law_1389 : decode code 1389 = .ok (.iconst 0, 1) := by decide +kernel
theorem d_lw_law_1390 : decode code 1390 = .ok (.ireturn, 1) := by decide +kernel
theorem d_lw_law_1391 : decode code 1391 = .ok (.goto 59, 3) := by decide +kernel
theorem d_lw_law_1394 : decode code 1394 = .ok (.aload_n 1, 1) := by decide +kernel
theorem d_lw_law_1395 : decode code 1395 = .ok (.aload_n 0, 1) := by decide +kernel
theorem d_lw_law_1396 : decode code 1396 = .ok (.iload 4, 2) := by decide +kernel
theorem d_lw_law_1398 : decode code 1398 = .ok (.iconst 1, 1) := by decide +kernel
theorem d_lw_law_1399 : decode code 1399 = .ok (.iadd, 1) := by decide +kernel
theorem d_lw_law_1400 : decode code 1400 = .ok (.iaload, 1) := by decide +kernel
theorem d_lw_law_1401 : decode code 1401 = .ok (.aload_n 3, 1) := by decide +kernel
theorem d_lw_law_1402 : decode code 1402 = .ok (.invokestatic 175, 3) := by decide +kernel
theorem d_lw_law_1405 : decode code 1405 = .ok (.istore 5, 2) := by decide +kernel
theorem d_lw_law_1407 : decode code 1407 = .ok (.aload_n 2, 1) := by decide +kernel
theorem d_lw_law_1408 : decode code 1408 = .ok (.aload_n 0, 1) := by decide +kernel
theorem d_lw_law_1409 : decode code 1409 = .ok (.iload 4, 2) := by decide +kernel
theorem d_lw_law_1411 : decode code 1411 = .ok (.iconst 1, 1) := by decide +kernel
theorem d_lw_law_1412 : decode code 1412 = .ok (.iadd, 1) := by decide +kernel
theorem d_lw_law_1413 : decode code 1413 = .ok (.iaload, 1) := by decide +kernel
theorem d_lw_law_1414 : decode code 1414 = .ok (.invokevirtual 177, 3) := by decide +kernel
theorem d_lw_law_1417 : decode code 1417 = .ok (.istore 6, 2) := by decide +kernel
theorem d_lw_law_1419 : decode code 1419 = .ok (.aload_n 2, 1) := by decide +kernel
theorem d_lw_law_1420 : decode code 1420 = .ok (.invokevirtual 97, 3) := by decide +kernel
theorem d_lw_law_1423 : decode code 1423 = .ok (.iload 5, 2) := by decide +kernel
theorem d_lw_law_1425 : decode code 1425 = .ok (.if_icmp .eq 5, 3) := by decide +kernel
theorem d_lw_law_1428 : decode code 1428 = .ok (.iconst 0, 1) := by decide +kernel
theorem d_lw_law_1429 : decode code 1429 = .ok (.ireturn, 1) := by decide +kernel
theorem d_lw_law_1430 : decode code 1430 = .ok (.iload 5, 2) := by decide +kernel
theorem d_lw_law_1432 : decode code 1432 = .ok (.ifCond .ne 15, 3) := by decide +kernel
theorem d_lw_law_1435 : decode code 1435 = .ok (.aload_n 3, 1) := by decide +kernel
theorem d_lw_law_1436 : decode code 1436 = .ok (.iconst 0, 1) := by decide +kernel
theorem d_lw_law_1437 : decode code 1437 = .ok (.laload, 1) := by decide +kernel
theorem d_lw_law_1438 : decode code 1438 = .ok (.iload 6, 2) := by decide +kernel
theorem d_lw_law_1440 : decode code 1440 = .ok (.i2l, 1) := by decide +kernel
theorem d_lw_law_1441 : decode code 1441 = .ok (.lcmp, 1) := by decide +kernel
theorem d_lw_law_1442 : decode code 1442 = .ok (.ifCond .eq 5, 3) := by decide +kernel
theorem d_lw_law_1445 : decode code 1445 = .ok (.iconst 0, 1) := by decide +kernel
theorem d_lw_law_1446 : decode code 1446 = .ok (.ireturn, 1) := by decide +kernel
theorem d_lw_law_1447 : decode code 1447 = .ok (.goto 3, 3) := by decide +kernel
theorem d_lw_law_1450 : decode code 1450 = .ok (.iinc 4 6, 3) := by decide +kernel
theorem d_lw_law_1453 : decode code 1453 = .ok (.goto (-1430), 3) := by decide +kernel
theorem d_lw_law_1456 : decode code 1456 = .ok (.iconst 1, 1) := by decide +kernel
theorem d_lw_law_1457 : decode code 1457 = .ok (.ireturn, 1) := by decide +kernel
theorem cdu_part : ∀ E c c', cd_part E c → cd_part E c' → c = c' ∧ ¬ c = 0 := by
  rintro E c c' (⟨rfl, rfl⟩ | ⟨rfl, rfl⟩) (⟨e, rfl⟩ | ⟨e, rfl⟩)
  · exact ⟨rfl, by decide⟩
  · exact absurd e (by decide)
  · exact absurd e (by decide)
  · exact ⟨rfl, by decide⟩
theorem cdu_type : ∀ E c c', cd_type E c → cd_type E c' → c = c' ∧ ¬ c = 0 := by
  rintro E c c' (⟨rfl, rfl⟩ | ⟨rfl, rfl⟩) (⟨e, rfl⟩ | ⟨e, rfl⟩)
  · exact ⟨rfl, by decide⟩
  · exact absurd e (by decide)
  · exact absurd e (by decide)
  · exact ⟨rfl, by decide⟩
theorem cdu_layout : ∀ E c c', cd_layout E c → cd_layout E c' → c = c' ∧ ¬ c = 0 := by
  rintro E c c' (⟨rfl, rfl⟩ | ⟨rfl, rfl⟩) (⟨e, rfl⟩ | ⟨e, rfl⟩)
  · exact ⟨rfl, by decide⟩
  · exact absurd e (by decide)
  · exact absurd e (by decide)
  · exact ⟨rfl, by decide⟩
theorem cdu_fits : ∀ E c c', cd_fits E c → cd_fits E c' → c = c' ∧ ¬ c = 0 := by
  rintro E c c' ⟨rfl, rfl⟩ ⟨-, rfl⟩
  exact ⟨rfl, by decide⟩
theorem cdu_instance : ∀ E c c', cd_instance E c → cd_instance E c' → c = c' ∧ ¬ c = 0 := by
  rintro E c c' ⟨rfl, rfl⟩ ⟨-, rfl⟩
  exact ⟨rfl, by decide⟩
theorem cdu_function : ∀ E c c', cd_function E c → cd_function E c' → c = c' ∧ ¬ c = 0 := by
  rintro E c c' (⟨rfl, rfl⟩ | ⟨rfl, rfl⟩ | ⟨rfl, rfl⟩) (⟨e, rfl⟩ | ⟨e, rfl⟩ | ⟨e, rfl⟩)
  · exact ⟨rfl, by decide⟩
  · exact absurd e (by decide)
  · exact absurd e (by decide)
  · exact absurd e (by decide)
  · exact ⟨rfl, by decide⟩
  · exact absurd e (by decide)
  · exact absurd e (by decide)
  · exact absurd e (by decide)
  · exact ⟨rfl, by decide⟩
theorem cdu_write : ∀ E c c', cd_write E c → cd_write E c' → c = c' ∧ ¬ c = 0 := by
  rintro E c c' (⟨rfl, rfl⟩ | ⟨rfl, rfl⟩) (⟨e, rfl⟩ | ⟨e, rfl⟩)
  · exact ⟨rfl, by decide⟩
  · exact absurd e (by decide)
  · exact absurd e (by decide)
  · exact ⟨rfl, by decide⟩
theorem cdu_read : ∀ E c c', cd_read E c → cd_read E c' → c = c' ∧ ¬ c = 0 := by
  rintro E c c' (⟨rfl, rfl⟩ | ⟨rfl, rfl⟩) (⟨e, rfl⟩ | ⟨e, rfl⟩)
  · exact ⟨rfl, by decide⟩
  · exact absurd e (by decide)
  · exact absurd e (by decide)
  · exact ⟨rfl, by decide⟩
theorem cdu_enter : ∀ E c c', cd_enter E c → cd_enter E c' → c = c' ∧ ¬ c = 0 := by
  rintro E c c' (⟨rfl, rfl⟩ | ⟨rfl, rfl⟩) (⟨e, rfl⟩ | ⟨e, rfl⟩)
  · exact ⟨rfl, by decide⟩
  · exact absurd e (by decide)
  · exact absurd e (by decide)
  · exact ⟨rfl, by decide⟩
theorem cdu_leave : ∀ E c c', cd_leave E c → cd_leave E c' → c = c' ∧ ¬ c = 0 := by
  rintro E c c' ⟨rfl, rfl⟩ ⟨-, rfl⟩
  exact ⟨rfl, by decide⟩
theorem cdu_make : ∀ E c c', cd_make E c → cd_make E c' → c = c' ∧ ¬ c = 0 := by
  rintro E c c' (⟨rfl, rfl⟩ | ⟨rfl, rfl⟩ | ⟨rfl, rfl⟩) (⟨e, rfl⟩ | ⟨e, rfl⟩ | ⟨e, rfl⟩)
  · exact ⟨rfl, by decide⟩
  · exact absurd e (by decide)
  · exact absurd e (by decide)
  · exact absurd e (by decide)
  · exact ⟨rfl, by decide⟩
  · exact absurd e (by decide)
  · exact absurd e (by decide)
  · exact absurd e (by decide)
  · exact ⟨rfl, by decide⟩
theorem cdu_drop : ∀ E c c', cd_drop E c → cd_drop E c' → c = c' ∧ ¬ c = 0 := by
  rintro E c c' (⟨rfl, rfl⟩ | ⟨rfl, rfl⟩ | ⟨rfl, rfl⟩) (⟨e, rfl⟩ | ⟨e, rfl⟩ | ⟨e, rfl⟩)
  · exact ⟨rfl, by decide⟩
  · exact absurd e (by decide)
  · exact absurd e (by decide)
  · exact absurd e (by decide)
  · exact ⟨rfl, by decide⟩
  · exact absurd e (by decide)
  · exact absurd e (by decide)
  · exact absurd e (by decide)
  · exact ⟨rfl, by decide⟩
theorem cdu_handle : ∀ E c c', cd_handle E c → cd_handle E c' → c = c' ∧ ¬ c = 0 := by
  rintro E c c' ⟨rfl, rfl⟩ ⟨-, rfl⟩
  exact ⟨rfl, by decide⟩
theorem cdu_call : ∀ E c c', cd_call E c → cd_call E c' → c = c' ∧ ¬ c = 0 := by
  rintro E c c' (⟨rfl, rfl⟩ | ⟨rfl, rfl⟩ | ⟨rfl, rfl⟩ | ⟨rfl, rfl⟩) (⟨e, rfl⟩ | ⟨e, rfl⟩ | ⟨e, rfl⟩ | ⟨e, rfl⟩)
  · exact ⟨rfl, by decide⟩
  · exact absurd e (by decide)
  · exact absurd e (by decide)
  · exact absurd e (by decide)
  · exact absurd e (by decide)
  · exact ⟨rfl, by decide⟩
  · exact absurd e (by decide)
  · exact absurd e (by decide)
  · exact absurd e (by decide)
  · exact absurd e (by decide)
  · exact ⟨rfl, by decide⟩
  · exact absurd e (by decide)
  · exact absurd e (by decide)
  · exact absurd e (by decide)
  · exact absurd e (by decide)
  · exact ⟨rfl, by decide⟩
theorem cdu_back : ∀ E c c', cd_back E c → cd_back E c' → c = c' ∧ ¬ c = 0 := by
  rintro E c c' (⟨rfl, rfl⟩ | ⟨rfl, rfl⟩ | ⟨rfl, rfl⟩) (⟨e, rfl⟩ | ⟨e, rfl⟩ | ⟨e, rfl⟩)
  · exact ⟨rfl, by decide⟩
  · exact absurd e (by decide)
  · exact absurd e (by decide)
  · exact absurd e (by decide)
  · exact ⟨rfl, by decide⟩
  · exact absurd e (by decide)
  · exact absurd e (by decide)
  · exact absurd e (by decide)
  · exact ⟨rfl, by decide⟩
theorem cdu_trap : ∀ E c c', cd_trap E c → cd_trap E c' → c = c' ∧ ¬ c = 0 := by
  rintro E c c' ⟨rfl, rfl⟩ ⟨-, rfl⟩
  exact ⟨rfl, by decide⟩
theorem cdu_state : ∀ E c c', cd_state E c → cd_state E c' → c = c' ∧ ¬ c = 0 := by
  rintro E c c' ⟨rfl, rfl⟩ ⟨-, rfl⟩
  exact ⟨rfl, by decide⟩
theorem cdu_close : ∀ E c c', cd_close E c → cd_close E c' → c = c' ∧ ¬ c = 0 := by
  rintro E c c' (⟨rfl, rfl⟩ | ⟨rfl, rfl⟩) (⟨e, rfl⟩ | ⟨e, rfl⟩)
  · exact ⟨rfl, by decide⟩
  · exact absurd e (by decide)
  · exact absurd e (by decide)
  · exact ⟨rfl, by decide⟩
theorem cdu_resources : ∀ E c c', cd_resources E c → cd_resources E c' → c = c' ∧ ¬ c = 0 := by
  rintro E c c' ⟨rfl, rfl⟩ ⟨-, rfl⟩
  exact ⟨rfl, by decide⟩
theorem cdu_latest : ∀ E c c', cd_latest E c → cd_latest E c' → c = c' ∧ ¬ c = 0 := by
  rintro E c c' ⟨rfl, rfl⟩ ⟨-, rfl⟩
  exact ⟨rfl, by decide⟩
theorem kM9 {y : MethodName} {cc : ByteArray} {nL : Nat} {rt : Option FieldType} {ws : List Cond} {k cells slots : Nat} (hc : cells ≤ 601024) (hs : slots ≤ 7293034) (h2 : k ≤ 100 ∧ nL ≤ 100) : ev_kR lw_M (y, cc, nL, rt, ws, mo_rm k) 0 0 cells slots := by
  refine ⟨rfl, rfl, ⟨?_, ?_⟩, ?_, ?_⟩
  · show k + 1 ≤ 2048; omega
  · show 8 + (nL + 11) + 40 * k ≤ 84000; omega
  · show cells + 0 ≤ 601024; omega
  · show slots + 0 ≤ 7293034; omega
