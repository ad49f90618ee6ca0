theorem dL_law_0 : decode cL_law 0 = .ok (.new 8, 3) := by decide +kernel
theorem dL_law_3 : decode cL_law 3 = .ok (.dup, 1) := by decide +kernel
theorem dL_law_4 : decode cL_law 4 = .ok (.invokespecial 85, 3) := by decide +kernel
theorem dL_law_7 : decode cL_law 7 = .ok (.astore_n 1, 1) := by decide +kernel
theorem dL_law_8 : decode cL_law 8 = .ok (.new 86, 3) := by decide +kernel
theorem dL_law_11 : decode cL_law 11 = .ok (.dup, 1) := by decide +kernel
theorem dL_law_12 : decode cL_law 12 = .ok (.invokespecial 88, 3) := by decide +kernel
theorem dL_law_15 : decode cL_law 15 = .ok (.astore_n 2, 1) := by decide +kernel
theorem dL_law_16 : decode cL_law 16 = .ok (.iconst 1, 1) := by decide +kernel
theorem dL_law_17 : decode cL_law 17 = .ok (.newarray .long, 2) := by decide +kernel
theorem dL_law_19 : decode cL_law 19 = .ok (.astore_n 3, 1) := by decide +kernel
theorem dL_law_20 : decode cL_law 20 = .ok (.iconst 1, 1) := by decide +kernel
theorem dL_law_21 : decode cL_law 21 = .ok (.newarray .double, 2) := by decide +kernel
theorem dL_law_23 : decode cL_law 23 = .ok (.astore 4, 2) := by decide +kernel
theorem dL_law_25 : decode cL_law 25 = .ok (.iconst 0, 1) := by decide +kernel
theorem dL_law_26 : decode cL_law 26 = .ok (.istore 5, 2) := by decide +kernel
theorem dL_law_28 : decode cL_law 28 = .ok (.iload 5, 2) := by decide +kernel
theorem dL_law_30 : decode cL_law 30 = .ok (.aload_n 0, 1) := by decide +kernel
theorem dL_law_31 : decode cL_law 31 = .ok (.arraylength, 1) := by decide +kernel
theorem dL_law_32 : decode cL_law 32 = .ok (.iconst 5, 1) := by decide +kernel
theorem dL_law_33 : decode cL_law 33 = .ok (.isub, 1) := by decide +kernel
theorem dL_law_34 : decode cL_law 34 = .ok (.if_icmp .gt 1596, 3) := by decide +kernel
theorem dL_law_37 : decode cL_law 37 = .ok (.aload_n 0, 1) := by decide +kernel
theorem dL_law_38 : decode cL_law 38 = .ok (.iload 5, 2) := by decide +kernel
theorem dL_law_40 : decode cL_law 40 = .ok (.iaload, 1) := by decide +kernel
theorem dL_law_41 : decode cL_law 41 = .ok (.bipush 31, 2) := by decide +kernel
theorem dL_law_43 : decode cL_law 43 = .ok (.iand, 1) := by decide +kernel
theorem dL_law_44 : decode cL_law 44 = .ok (.tableswitch 1580 0 27 #[128, 216, 272, 340, 353, 409, 465, 580, 704, 745, 758, 771, 784, 797, 853, 897, 953, 1009, 1065, 1121, 1177, 1233, 1289, 1345, 1413, 1457, 1501, 1566], 128) := by decide +kernel
theorem dL_law_172 : decode cL_law 172 = .ok (.aload_n 1, 1) := by decide +kernel
theorem dL_law_173 : decode cL_law 173 = .ok (.aload_n 0, 1) := by decide +kernel
theorem dL_law_174 : decode cL_law 174 = .ok (.iload 5, 2) := by decide +kernel
theorem dL_law_176 : decode cL_law 176 = .ok (.iconst 1, 1) := by decide +kernel
theorem dL_law_177 : decode cL_law 177 = .ok (.iadd, 1) := by decide +kernel
theorem dL_law_178 : decode cL_law 178 = .ok (.iaload, 1) := by decide +kernel
theorem dL_law_179 : decode cL_law 179 = .ok (.i2l, 1) := by decide +kernel
theorem dL_law_180 : decode cL_law 180 = .ok (.bipush 32, 2) := by decide +kernel
theorem dL_law_182 : decode cL_law 182 = .ok (.lshl, 1) := by decide +kernel
theorem dL_law_183 : decode cL_law 183 = .ok (.aload_n 0, 1) := by decide +kernel
theorem dL_law_184 : decode cL_law 184 = .ok (.iload 5, 2) := by decide +kernel
theorem dL_law_186 : decode cL_law 186 = .ok (.iconst 2, 1) := by decide +kernel
theorem dL_law_187 : decode cL_law 187 = .ok (.iadd, 1) := by decide +kernel
theorem dL_law_188 : decode cL_law 188 = .ok (.iaload, 1) := by decide +kernel
theorem dL_law_189 : decode cL_law 189 = .ok (.i2l, 1) := by decide +kernel
theorem dL_law_190 : decode cL_law 190 = .ok (.ldc2_w 89, 3) := by decide +kernel
theorem dL_law_193 : decode cL_law 193 = .ok (.land, 1) := by decide +kernel
theorem dL_law_194 : decode cL_law 194 = .ok (.lor, 1) := by decide +kernel
theorem dL_law_195 : decode cL_law 195 = .ok (.aload_n 3, 1) := by decide +kernel
theorem dL_law_196 : decode cL_law 196 = .ok (.invokestatic 91, 3) := by decide +kernel
theorem dL_law_199 : decode cL_law 199 = .ok (.istore 6, 2) := by decide +kernel
theorem dL_law_201 : decode cL_law 201 = .ok (.aload_n 2, 1) := by decide +kernel
theorem dL_law_202 : decode cL_law 202 = .ok (.aload_n 0, 1) := by decide +kernel
theorem dL_law_203 : decode cL_law 203 = .ok (.iload 5, 2) := by decide +kernel
theorem dL_law_205 : decode cL_law 205 = .ok (.iconst 1, 1) := by decide +kernel
theorem dL_law_206 : decode cL_law 206 = .ok (.iadd, 1) := by decide +kernel
theorem dL_law_207 : decode cL_law 207 = .ok (.iaload, 1) := by decide +kernel
theorem dL_law_208 : decode cL_law 208 = .ok (.i2l, 1) := by decide +kernel
theorem dL_law_209 : decode cL_law 209 = .ok (.bipush 32, 2) := by decide +kernel
theorem dL_law_211 : decode cL_law 211 = .ok (.lshl, 1) := by decide +kernel
theorem dL_law_212 : decode cL_law 212 = .ok (.aload_n 0, 1) := by decide +kernel
theorem dL_law_213 : decode cL_law 213 = .ok (.iload 5, 2) := by decide +kernel
theorem dL_law_215 : decode cL_law 215 = .ok (.iconst 2, 1) := by decide +kernel
theorem dL_law_216 : decode cL_law 216 = .ok (.iadd, 1) := by decide +kernel
theorem dL_law_217 : decode cL_law 217 = .ok (.iaload, 1) := by decide +kernel
theorem dL_law_218 : decode cL_law 218 = .ok (.i2l, 1) := by decide +kernel
theorem dL_law_219 : decode cL_law 219 = .ok (.ldc2_w 89, 3) := by decide +kernel
theorem dL_law_222 : decode cL_law 222 = .ok (.land, 1) := by decide +kernel
theorem dL_law_223 : decode cL_law 223 = .ok (.lor, 1) := by decide +kernel
theorem dL_law_224 : decode cL_law 224 = .ok (.invokevirtual 96, 3) := by decide +kernel
theorem dL_law_227 : decode cL_law 227 = .ok (.istore 7, 2) := by decide +kernel
theorem dL_law_229 : decode cL_law 229 = .ok (.aload_n 2, 1) := by decide +kernel
theorem dL_law_230 : decode cL_law 230 = .ok (.invokevirtual 97, 3) := by decide +kernel
theorem dL_law_233 : decode cL_law 233 = .ok (.iload 6, 2) := by decide +kernel
theorem dL_law_235 : decode cL_law 235 = .ok (.if_icmp .eq 5, 3) := by decide +kernel
theorem dL_law_238 : decode cL_law 238 = .ok (.iconst 0, 1) := by decide +kernel
theorem dL_law_239 : decode cL_law 239 = .ok (.ireturn, 1) := by decide +kernel
theorem dL_law_240 : decode cL_law 240 = .ok (.iload 6, 2) := by decide +kernel
theorem dL_law_242 : decode cL_law 242 = .ok (.ifCond .ne 15, 3) := by decide +kernel
theorem dL_law_245 : decode cL_law 245 = .ok (.aload_n 3, 1) := by decide +kernel
theorem dL_law_246 : decode cL_law 246 = .ok (.iconst 0, 1) := by decide +kernel
theorem dL_law_247 : decode cL_law 247 = .ok (.laload, 1) := by decide +kernel
theorem dL_law_248 : decode cL_law 248 = .ok (.iload 7, 2) := by decide +kernel
theorem dL_law_250 : decode cL_law 250 = .ok (.i2l, 1) := by decide +kernel
theorem dL_law_251 : decode cL_law 251 = .ok (.lcmp, 1) := by decide +kernel
theorem dL_law_252 : decode cL_law 252 = .ok (.ifCond .eq 5, 3) := by decide +kernel
theorem dL_law_255 : decode cL_law 255 = .ok (.iconst 0, 1) := by decide +kernel
theorem dL_law_256 : decode cL_law 256 = .ok (.ireturn, 1) := by decide +kernel
theorem dL_law_257 : decode cL_law 257 = .ok (.goto 1367, 3) := by decide +kernel
theorem dL_law_260 : decode cL_law 260 = .ok (.aload_n 1, 1) := by decide +kernel
theorem dL_law_261 : decode cL_law 261 = .ok (.aload_n 0, 1) := by decide +kernel
theorem dL_law_262 : decode cL_law 262 = .ok (.iload 5, 2) := by decide +kernel
theorem dL_law_264 : decode cL_law 264 = .ok (.iconst 1, 1) := by decide +kernel
theorem dL_law_265 : decode cL_law 265 = .ok (.iadd, 1) := by decide +kernel
theorem dL_law_266 : decode cL_law 266 = .ok (.iaload, 1) := by decide +kernel
theorem dL_law_267 : decode cL_law 267 = .ok (.aload_n 3, 1) := by decide +kernel
theorem dL_law_268 : decode cL_law 268 = .ok (.invokestatic 100, 3) := by decide +kernel
theorem dL_law_271 : decode cL_law 271 = .ok (.istore 6, 2) := by decide +kernel
theorem dL_law_273 : decode cL_law 273 = .ok (.aload_n 2, 1) := by decide +kernel
theorem dL_law_274 : decode cL_law 274 = .ok (.aload_n 0, 1) := by decide +kernel
theorem dL_law_275 : decode cL_law 275 = .ok (.iload 5, 2) := by decide +kernel
theorem dL_law_277 : decode cL_law 277 = .ok (.iconst 1, 1) := by decide +kernel
theorem dL_law_278 : decode cL_law 278 = .ok (.iadd, 1) := by decide +kernel
theorem dL_law_279 : decode cL_law 279 = .ok (.iaload, 1) := by decide +kernel
theorem dL_law_280 : decode cL_law 280 = .ok (.invokevirtual 103, 3) := by decide +kernel
theorem dL_law_283 : decode cL_law 283 = .ok (.istore 7, 2) := by decide +kernel
theorem dL_law_285 : decode cL_law 285 = .ok (.aload_n 2, 1) := by decide +kernel
theorem dL_law_286 : decode cL_law 286 = .ok (.invokevirtual 97, 3) := by decide +kernel
theorem dL_law_289 : decode cL_law 289 = .ok (.iload 6, 2) := by decide +kernel
theorem dL_law_291 : decode cL_law 291 = .ok (.if_icmp .eq 5, 3) := by decide +kernel
theorem dL_law_294 : decode cL_law 294 = .ok (.iconst 0, 1) := by decide +kernel
theorem dL_law_295 : decode cL_law 295 = .ok (.ireturn, 1) := by decide +kernel
theorem dL_law_296 : decode cL_law 296 = .ok (.iload 6, 2) := by decide +kernel
theorem dL_law_298 : decode cL_law 298 = .ok (.ifCond .ne 15, 3) := by decide +kernel
theorem dL_law_301 : decode cL_law 301 = .ok (.aload_n 3, 1) := by decide +kernel
theorem dL_law_302 : decode cL_law 302 = .ok (.iconst 0, 1) := by decide +kernel
theorem dL_law_303 : decode cL_law 303 = .ok (.laload, 1) := by decide +kernel
theorem dL_law_304 : decode cL_law 304 = .ok (.iload 7, 2) := by decide +kernel
theorem dL_law_306 : decode cL_law 306 = .ok (.i2l, 1) := by decide +kernel
theorem dL_law_307 : decode cL_law 307 = .ok (.lcmp, 1) := by decide +kernel
theorem dL_law_308 : decode cL_law 308 = .ok (.ifCond .eq 5, 3) := by decide +kernel
theorem dL_law_311 : decode cL_law 311 = .ok (.iconst 0, 1) := by decide +kernel
theorem dL_law_312 : decode cL_law 312 = .ok (.ireturn, 1) := by decide +kernel
theorem dL_law_313 : decode cL_law 313 = .ok (.goto 1311, 3) := by decide +kernel
theorem dL_law_316 : decode cL_law 316 = .ok (.aload_n 1, 1) := by decide +kernel
theorem dL_law_317 : decode cL_law 317 = .ok (.aload_n 0, 1) := by decide +kernel
theorem dL_law_318 : decode cL_law 318 = .ok (.iload 5, 2) := by decide +kernel
theorem dL_law_320 : decode cL_law 320 = .ok (.iconst 1, 1) := by decide +kernel
theorem dL_law_321 : decode cL_law 321 = .ok (.iadd, 1) := by decide +kernel
theorem dL_law_322 : decode cL_law 322 = .ok (.iaload, 1) := by decide +kernel
theorem dL_law_323 : decode cL_law 323 = .ok (.aload_n 0, 1) := by decide +kernel
theorem dL_law_324 : decode cL_law 324 = .ok (.iload 5, 2) := by decide +kernel
theorem dL_law_326 : decode cL_law 326 = .ok (.iconst 2, 1) := by decide +kernel
theorem dL_law_327 : decode cL_law 327 = .ok (.iadd, 1) := by decide +kernel
theorem dL_law_328 : decode cL_law 328 = .ok (.iaload, 1) := by decide +kernel
theorem dL_law_329 : decode cL_law 329 = .ok (.aload_n 3, 1) := by decide +kernel
theorem dL_law_330 : decode cL_law 330 = .ok (.invokestatic 104, 3) := by decide +kernel
theorem dL_law_333 : decode cL_law 333 = .ok (.istore 6, 2) := by decide +kernel
theorem dL_law_335 : decode cL_law 335 = .ok (.aload_n 2, 1) := by decide +kernel
theorem dL_law_336 : decode cL_law 336 = .ok (.aload_n 0, 1) := by decide +kernel
theorem dL_law_337 : decode cL_law 337 = .ok (.iload 5, 2) := by decide +kernel
theorem dL_law_339 : decode cL_law 339 = .ok (.iconst 1, 1) := by decide +kernel
theorem dL_law_340 : decode cL_law 340 = .ok (.iadd, 1) := by decide +kernel
theorem dL_law_341 : decode cL_law 341 = .ok (.iaload, 1) := by decide +kernel
theorem dL_law_342 : decode cL_law 342 = .ok (.aload_n 0, 1) := by decide +kernel
theorem dL_law_343 : decode cL_law 343 = .ok (.iload 5, 2) := by decide +kernel
theorem dL_law_345 : decode cL_law 345 = .ok (.iconst 2, 1) := by decide +kernel
theorem dL_law_346 : decode cL_law 346 = .ok (.iadd, 1) := by decide +kernel
theorem dL_law_347 : decode cL_law 347 = .ok (.iaload, 1) := by decide +kernel
theorem dL_law_348 : decode cL_law 348 = .ok (.invokevirtual 107, 3) := by decide +kernel
theorem dL_law_351 : decode cL_law 351 = .ok (.istore 7, 2) := by decide +kernel
theorem dL_law_353 : decode cL_law 353 = .ok (.aload_n 2, 1) := by decide +kernel
theorem dL_law_354 : decode cL_law 354 = .ok (.invokevirtual 97, 3) := by decide +kernel
theorem dL_law_357 : decode cL_law 357 = .ok (.iload 6, 2) := by decide +kernel
theorem dL_law_359 : decode cL_law 359 = .ok (.if_icmp .eq 5, 3) := by decide +kernel
theorem dL_law_362 : decode cL_law 362 = .ok (.iconst 0, 1) := by decide +kernel
theorem dL_law_363 : decode cL_law 363 = .ok (.ireturn, 1) := by decide +kernel
theorem dL_law_364 : decode cL_law 364 = .ok (.iload 6, 2) := by decide +kernel
theorem dL_law_366 : decode cL_law 366 = .ok (.ifCond .ne 15, 3) := by decide +kernel
theorem dL_law_369 : decode cL_law 369 = .ok (.aload_n 3, 1) := by decide +kernel
theorem dL_law_370 : decode cL_law 370 = .ok (.iconst 0, 1) := by decide +kernel
theorem dL_law_371 : decode cL_law 371 = .ok (.laload, 1) := by decide +kernel
theorem dL_law_372 : decode cL_law 372 = .ok (.iload 7, 2) := by decide +kernel
theorem dL_law_374 : decode cL_law 374 = .ok (.i2l, 1) := by decide +kernel
theorem dL_law_375 : decode cL_law 375 = .ok (.lcmp, 1) := by decide +kernel
theorem dL_law_376 : decode cL_law 376 = .ok (.ifCond .eq 5, 3) := by decide +kernel
theorem dL_law_379 : decode cL_law 379 = .ok (.iconst 0, 1) := by decide +kernel
theorem dL_law_380 : decode cL_law 380 = .ok (.ireturn, 1) := by decide +kernel
theorem dL_law_381 : decode cL_law 381 = .ok (.goto 1243, 3) := by decide +kernel
theorem dL_law_384 : decode cL_law 384 = .ok (.aload_n 1, 1) := by decide +kernel
theorem dL_law_385 : decode cL_law 385 = .ok (.invokevirtual 108, 3) := by decide +kernel
theorem dL_law_388 : decode cL_law 388 = .ok (.aload_n 2, 1) := by decide +kernel
theorem dL_law_389 : decode cL_law 389 = .ok (.invokevirtual 111, 3) := by decide +kernel
theorem dL_law_392 : decode cL_law 392 = .ok (.if_icmp .eq 1232, 3) := by decide +kernel
theorem dL_law_395 : decode cL_law 395 = .ok (.iconst 0, 1) := by decide +kernel
theorem dL_law_396 : decode cL_law 396 = .ok (.ireturn, 1) := by decide +kernel
theorem dL_law_397 : decode cL_law 397 = .ok (.aload_n 1, 1) := by decide +kernel
theorem dL_law_398 : decode cL_law 398 = .ok (.aload_n 0, 1) := by decide +kernel
theorem dL_law_399 : decode cL_law 399 = .ok (.iload 5, 2) := by decide +kernel
theorem dL_law_401 : decode cL_law 401 = .ok (.iconst 1, 1) := by decide +kernel
theorem dL_law_402 : decode cL_law 402 = .ok (.iadd, 1) := by decide +kernel
theorem dL_law_403 : decode cL_law 403 = .ok (.iaload, 1) := by decide +kernel
theorem dL_law_404 : decode cL_law 404 = .ok (.aload_n 3, 1) := by decide +kernel
theorem dL_law_405 : decode cL_law 405 = .ok (.invokestatic 112, 3) := by decide +kernel
theorem dL_law_408 : decode cL_law 408 = .ok (.istore 6, 2) := by decide +kernel
theorem dL_law_410 : decode cL_law 410 = .ok (.aload_n 2, 1) := by decide +kernel
theorem dL_law_411 : decode cL_law 411 = .ok (.aload_n 0, 1) := by decide +kernel
theorem dL_law_412 : decode cL_law 412 = .ok (.iload 5, 2) := by decide +kernel
theorem dL_law_414 : decode cL_law 414 = .ok (.iconst 1, 1) := by decide +kernel
theorem dL_law_415 : decode cL_law 415 = .ok (.iadd, 1) := by decide +kernel
theorem dL_law_416 : decode cL_law 416 = .ok (.iaload, 1) := by decide +kernel
theorem dL_law_417 : decode cL_law 417 = .ok (.invokevirtual 114, 3) := by decide +kernel
theorem dL_law_420 : decode cL_law 420 = .ok (.istore 7, 2) := by decide +kernel
theorem dL_law_422 : decode cL_law 422 = .ok (.aload_n 2, 1) := by decide +kernel
theorem dL_law_423 : decode cL_law 423 = .ok (.invokevirtual 97, 3) := by decide +kernel
theorem dL_law_426 : decode cL_law 426 = .ok (.iload 6, 2) := by decide +kernel
theorem dL_law_428 : decode cL_law 428 = .ok (.if_icmp .eq 5, 3) := by decide +kernel
theorem dL_law_431 : decode cL_law 431 = .ok (.iconst 0, 1) := by decide +kernel
theorem dL_law_432 : decode cL_law 432 = .ok (.ireturn, 1) := by decide +kernel
theorem dL_law_433 : decode cL_law 433 = .ok (.iload 6, 2) := by decide +kernel
theorem dL_law_435 : decode cL_law 435 = .ok (.ifCond .ne 15, 3) := by decide +kernel
theorem dL_law_438 : decode cL_law 438 = .ok (.aload_n 3, 1) := by decide +kernel
theorem dL_law_439 : decode cL_law 439 = .ok (.iconst 0, 1) := by decide +kernel
theorem dL_law_440 : decode cL_law 440 = .ok (.laload, 1) := by decide +kernel
theorem dL_law_441 : decode cL_law 441 = .ok (.iload 7, 2) := by decide +kernel
theorem dL_law_443 : decode cL_law 443 = .ok (.i2l, 1) := by decide +kernel
theorem dL_law_444 : decode cL_law 444 = .ok (.lcmp, 1) := by decide +kernel
theorem dL_law_445 : decode cL_law 445 = .ok (.ifCond .eq 5, 3) := by decide +kernel
theorem dL_law_448 : decode cL_law 448 = .ok (.iconst 0, 1) := by decide +kernel
theorem dL_law_449 : decode cL_law 449 = .ok (.ireturn, 1) := by decide +kernel
theorem dL_law_450 : decode cL_law 450 = .ok (.goto 1174, 3) := by decide +kernel
theorem dL_law_453 : decode cL_law 453 = .ok (.aload_n 1, 1) := by decide +kernel
theorem dL_law_454 : decode cL_law 454 = .ok (.aload_n 0, 1) := by decide +kernel
theorem dL_law_455 : decode cL_law 455 = .ok (.iload 5, 2) := by decide +kernel
theorem dL_law_457 : decode cL_law 457 = .ok (.iconst 1, 1) := by decide +kernel
theorem dL_law_458 : decode cL_law 458 = .ok (.iadd, 1) := by decide +kernel
theorem dL_law_459 : decode cL_law 459 = .ok (.iaload, 1) := by decide +kernel
theorem dL_law_460 : decode cL_law 460 = .ok (.aload_n 3, 1) := by decide +kernel
theorem dL_law_461 : decode cL_law 461 = .ok (.invokestatic 115, 3) := by decide +kernel
theorem dL_law_464 : decode cL_law 464 = .ok (.istore 6, 2) := by decide +kernel
theorem dL_law_466 : decode cL_law 466 = .ok (.aload_n 2, 1) := by decide +kernel
theorem dL_law_467 : decode cL_law 467 = .ok (.aload_n 0, 1) := by decide +kernel
theorem dL_law_468 : decode cL_law 468 = .ok (.iload 5, 2) := by decide +kernel
theorem dL_law_470 : decode cL_law 470 = .ok (.iconst 1, 1) := by decide +kernel
theorem dL_law_471 : decode cL_law 471 = .ok (.iadd, 1) := by decide +kernel
theorem dL_law_472 : decode cL_law 472 = .ok (.iaload, 1) := by decide +kernel
theorem dL_law_473 : decode cL_law 473 = .ok (.invokevirtual 117, 3) := by decide +kernel
theorem dL_law_476 : decode cL_law 476 = .ok (.istore 7, 2) := by decide +kernel
theorem dL_law_478 : decode cL_law 478 = .ok (.aload_n 2, 1) := by decide +kernel
theorem dL_law_479 : decode cL_law 479 = .ok (.invokevirtual 97, 3) := by decide +kernel
theorem dL_law_482 : decode cL_law 482 = .ok (.iload 6, 2) := by decide +kernel
theorem dL_law_484 : decode cL_law 484 = .ok (.if_icmp .eq 5, 3) := by decide +kernel
theorem dL_law_487 : decode cL_law 487 = .ok (.iconst 0, 1) := by decide +kernel
theorem dL_law_488 : decode cL_law 488 = .ok (.ireturn, 1) := by decide +kernel
theorem dL_law_489 : decode cL_law 489 = .ok (.iload 6, 2) := by decide +kernel
theorem dL_law_491 : decode cL_law 491 = .ok (.ifCond .ne 15, 3) := by decide +kernel
theorem dL_law_494 : decode cL_law 494 = .ok (.aload_n 3, 1) := by decide +kernel
theorem dL_law_495 : decode cL_law 495 = .ok (.iconst 0, 1) := by decide +kernel
theorem dL_law_496 : decode cL_law 496 = .ok (.laload, 1) := by decide +kernel
theorem dL_law_497 : decode cL_law 497 = .ok (.iload 7, 2) := by decide +kernel
theorem dL_law_499 : decode cL_law 499 = .ok (.i2l, 1) := by decide +kernel
theorem dL_law_500 : decode cL_law 500 = .ok (.lcmp, 1) := by decide +kernel
theorem dL_law_501 : decode cL_law 501 = .ok (.ifCond .eq 5, 3) := by decide +kernel
theorem dL_law_504 : decode cL_law 504 = .ok (.iconst 0, 1) := by decide +kernel
theorem dL_law_505 : decode cL_law 505 = .ok (.ireturn, 1) := by decide +kernel
theorem dL_law_506 : decode cL_law 506 = .ok (.goto 1118, 3) := by decide +kernel
theorem dL_law_509 : decode cL_law 509 = .ok (.aload_n 1, 1) := by decide +kernel
theorem dL_law_510 : decode cL_law 510 = .ok (.aload_n 0, 1) := by decide +kernel
theorem dL_law_511 : decode cL_law 511 = .ok (.iload 5, 2) := by decide +kernel
theorem dL_law_513 : decode cL_law 513 = .ok (.iconst 1, 1) := by decide +kernel
theorem dL_law_514 : decode cL_law 514 = .ok (.iadd, 1) := by decide +kernel
theorem dL_law_515 : decode cL_law 515 = .ok (.iaload, 1) := by decide +kernel
theorem dL_law_516 : decode cL_law 516 = .ok (.aload_n 0, 1) := by decide +kernel
theorem dL_law_517 : decode cL_law 517 = .ok (.iload 5, 2) := by decide +kernel
theorem dL_law_519 : decode cL_law 519 = .ok (.iconst 2, 1) := by decide +kernel
theorem dL_law_520 : decode cL_law 520 = .ok (.iadd, 1) := by decide +kernel
theorem dL_law_521 : decode cL_law 521 = .ok (.iaload, 1) := by decide +kernel
theorem dL_law_522 : decode cL_law 522 = .ok (.ifCond .eq 7, 3) := by decide +kernel
theorem dL_law_525 : decode cL_law 525 = .ok (.iconst 1, 1) := by decide +kernel
theorem dL_law_526 : decode cL_law 526 = .ok (.goto 4, 3) := by decide +kernel
theorem dL_law_529 : decode cL_law 529 = .ok (.iconst 0, 1) := by decide +kernel
theorem dL_law_530 : decode cL_law 530 = .ok (.aload_n 0, 1) := by decide +kernel
theorem dL_law_531 : decode cL_law 531 = .ok (.iload 5, 2) := by decide +kernel
theorem dL_law_533 : decode cL_law 533 = .ok (.iconst 3, 1) := by decide +kernel
theorem dL_law_534 : decode cL_law 534 = .ok (.iadd, 1) := by decide +kernel
theorem dL_law_535 : decode cL_law 535 = .ok (.iaload, 1) := by decide +kernel
theorem dL_law_536 : decode cL_law 536 = .ok (.aload_n 0, 1) := by decide +kernel
theorem dL_law_537 : decode cL_law 537 = .ok (.iload 5, 2) := by decide +kernel
theorem dL_law_539 : decode cL_law 539 = .ok (.iconst 4, 1) := by decide +kernel
theorem dL_law_540 : decode cL_law 540 = .ok (.iadd, 1) := by decide +kernel
theorem dL_law_541 : decode cL_law 541 = .ok (.iaload, 1) := by decide +kernel
theorem dL_law_542 : decode cL_law 542 = .ok (.aload_n 3, 1) := by decide +kernel
theorem dL_law_543 : decode cL_law 543 = .ok (.invokestatic 118, 3) := by decide +kernel
theorem dL_law_546 : decode cL_law 546 = .ok (.istore 6, 2) := by decide +kernel
theorem dL_law_548 : decode cL_law 548 = .ok (.aload_n 2, 1) := by decide +kernel
theorem dL_law_549 : decode cL_law 549 = .ok (.aload_n 0, 1) := by decide +kernel
theorem dL_law_550 : decode cL_law 550 = .ok (.iload 5, 2) := by decide +kernel
theorem dL_law_552 : decode cL_law 552 = .ok (.iconst 1, 1) := by decide +kernel
theorem dL_law_553 : decode cL_law 553 = .ok (.iadd, 1) := by decide +kernel
theorem dL_law_554 : decode cL_law 554 = .ok (.iaload, 1) := by decide +kernel
theorem dL_law_555 : decode cL_law 555 = .ok (.aload_n 0, 1) := by decide +kernel
theorem dL_law_556 : decode cL_law 556 = .ok (.iload 5, 2) := by decide +kernel
theorem dL_law_558 : decode cL_law 558 = .ok (.iconst 2, 1) := by decide +kernel
theorem dL_law_559 : decode cL_law 559 = .ok (.iadd, 1) := by decide +kernel
theorem dL_law_560 : decode cL_law 560 = .ok (.iaload, 1) := by decide +kernel
theorem dL_law_561 : decode cL_law 561 = .ok (.ifCond .eq 7, 3) := by decide +kernel
theorem dL_law_564 : decode cL_law 564 = .ok (.iconst 1, 1) := by decide +kernel
theorem dL_law_565 : decode cL_law 565 = .ok (.goto 4, 3) := by decide +kernel
theorem dL_law_568 : decode cL_law 568 = .ok (.iconst 0, 1) := by decide +kernel
theorem dL_law_569 : decode cL_law 569 = .ok (.aload_n 0, 1) := by decide +kernel
theorem dL_law_570 : decode cL_law 570 = .ok (.iload 5, 2) := by decide +kernel
theorem dL_law_572 : decode cL_law 572 = .ok (.iconst 3, 1) := by decide +kernel
theorem dL_law_573 : decode cL_law 573 = .ok (.iadd, 1) := by decide +kernel
theorem dL_law_574 : decode cL_law 574 = .ok (.iaload, 1) := by decide +kernel
theorem dL_law_575 : decode cL_law 575 = .ok (.aload_n 0, 1) := by decide +kernel
theorem dL_law_576 : decode cL_law 576 = .ok (.iload 5, 2) := by decide +kernel
theorem dL_law_578 : decode cL_law 578 = .ok (.iconst 4, 1) := by decide +kernel
theorem dL_law_579 : decode cL_law 579 = .ok (.iadd, 1) := by decide +kernel
theorem dL_law_580 : decode cL_law 580 = .ok (.iaload, 1) := by decide +kernel
theorem dL_law_581 : decode cL_law 581 = .ok (.invokevirtual 121, 3) := by decide +kernel
theorem dL_law_584 : decode cL_law 584 = .ok (.istore 7, 2) := by decide +kernel
theorem dL_law_586 : decode cL_law 586 = .ok (.aload_n 2, 1) := by decide +kernel
theorem dL_law_587 : decode cL_law 587 = .ok (.invokevirtual 97, 3) := by decide +kernel
theorem dL_law_590 : decode cL_law 590 = .ok (.iload 6, 2) := by decide +kernel
theorem dL_law_592 : decode cL_law 592 = .ok (.if_icmp .eq 5, 3) := by decide +kernel
theorem dL_law_595 : decode cL_law 595 = .ok (.iconst 0, 1) := by decide +kernel
theorem dL_law_596 : decode cL_law 596 = .ok (.ireturn, 1) := by decide +kernel
theorem dL_law_597 : decode cL_law 597 = .ok (.iload 6, 2) := by decide +kernel
theorem dL_law_599 : decode cL_law 599 = .ok (.ifCond .ne 22, 3) := by decide +kernel
theorem dL_law_602 : decode cL_law 602 = .ok (.aload_n 3, 1) := by decide +kernel
theorem dL_law_603 : decode cL_law 603 = .ok (.iconst 0, 1) := by decide +kernel
theorem dL_law_604 : decode cL_law 604 = .ok (.laload, 1) := by decide +kernel
theorem dL_law_605 : decode cL_law 605 = .ok (.iload 7, 2) := by decide +kernel
theorem dL_law_607 : decode cL_law 607 = .ok (.ifCond .eq 7, 3) := by decide +kernel
theorem dL_law_610 : decode cL_law 610 = .ok (.lconst 1, 1) := by decide +kernel
theorem dL_law_611 : decode cL_law 611 = .ok (.goto 4, 3) := by decide +kernel
theorem dL_law_614 : decode cL_law 614 = .ok (.lconst 0, 1) := by decide +kernel
theorem dL_law_615 : decode cL_law 615 = .ok (.lcmp, 1) := by decide +kernel
theorem dL_law_616 : decode cL_law 616 = .ok (.ifCond .eq 5, 3) := by decide +kernel
theorem dL_law_619 : decode cL_law 619 = .ok (.iconst 0, 1) := by decide +kernel
theorem dL_law_620 : decode cL_law 620 = .ok (.ireturn, 1) := by decide +kernel
theorem dL_law_621 : decode cL_law 621 = .ok (.goto 1003, 3) := by decide +kernel
theorem dL_law_624 : decode cL_law 624 = .ok (.aload_n 1, 1) := by decide +kernel
theorem dL_law_625 : decode cL_law 625 = .ok (.aload_n 0, 1) := by decide +kernel
theorem dL_law_626 : decode cL_law 626 = .ok (.iload 5, 2) := by decide +kernel
theorem dL_law_628 : decode cL_law 628 = .ok (.iconst 1, 1) := by decide +kernel
theorem dL_law_629 : decode cL_law 629 = .ok (.iadd, 1) := by decide +kernel
theorem dL_law_630 : decode cL_law 630 = .ok (.iaload, 1) := by decide +kernel
theorem dL_law_631 : decode cL_law 631 = .ok (.aload_n 0, 1) := by decide +kernel
theorem dL_law_632 : decode cL_law 632 = .ok (.iload 5, 2) := by decide +kernel
theorem dL_law_634 : decode cL_law 634 = .ok (.iconst 2, 1) := by decide +kernel
theorem dL_law_635 : decode cL_law 635 = .ok (.iadd, 1) := by decide +kernel
theorem dL_law_636 : decode cL_law 636 = .ok (.iaload, 1) := by decide +kernel
theorem dL_law_637 : decode cL_law 637 = .ok (.ifCond .eq 7, 3) := by decide +kernel
theorem dL_law_640 : decode cL_law 640 = .ok (.iconst 1, 1) := by decide +kernel
theorem dL_law_641 : decode cL_law 641 = .ok (.goto 4, 3) := by decide +kernel
theorem dL_law_644 : decode cL_law 644 = .ok (.iconst 0, 1) := by decide +kernel
theorem dL_law_645 : decode cL_law 645 = .ok (.aload_n 0, 1) := by decide +kernel
theorem dL_law_646 : decode cL_law 646 = .ok (.iload 5, 2) := by decide +kernel
theorem dL_law_648 : decode cL_law 648 = .ok (.iconst 3, 1) := by decide +kernel
theorem dL_law_649 : decode cL_law 649 = .ok (.iadd, 1) := by decide +kernel
theorem dL_law_650 : decode cL_law 650 = .ok (.iaload, 1) := by decide +kernel
theorem dL_law_651 : decode cL_law 651 = .ok (.ifCond .eq 7, 3) := by decide +kernel
theorem dL_law_654 : decode cL_law 654 = .ok (.iconst 1, 1) := by decide +kernel
theorem dL_law_655 : decode cL_law 655 = .ok (.goto 4, 3) := by decide +kernel
theorem dL_law_658 : decode cL_law 658 = .ok (.iconst 0, 1) := by decide +kernel
theorem dL_law_659 : decode cL_law 659 = .ok (.aload_n 0, 1) := by decide +kernel
theorem dL_law_660 : decode cL_law 660 = .ok (.iload 5, 2) := by decide +kernel
theorem dL_law_662 : decode cL_law 662 = .ok (.iconst 4, 1) := by decide +kernel
theorem dL_law_663 : decode cL_law 663 = .ok (.iadd, 1) := by decide +kernel
theorem dL_law_664 : decode cL_law 664 = .ok (.iaload, 1) := by decide +kernel
theorem dL_law_665 : decode cL_law 665 = .ok (.aload_n 3, 1) := by decide +kernel
theorem dL_law_666 : decode cL_law 666 = .ok (.invokestatic 122, 3) := by decide +kernel
theorem dL_law_669 : decode cL_law 669 = .ok (.istore 6, 2) := by decide +kernel
theorem dL_law_671 : decode cL_law 671 = .ok (.aload_n 2, 1) := by decide +kernel
theorem dL_law_672 : decode cL_law 672 = .ok (.aload_n 0, 1) := by decide +kernel
theorem dL_law_673 : decode cL_law 673 = .ok (.iload 5, 2) := by decide +kernel
theorem dL_law_675 : decode cL_law 675 = .ok (.iconst 1, 1) := by decide +kernel
theorem dL_law_676 : decode cL_law 676 = .ok (.iadd, 1) := by decide +kernel
theorem dL_law_677 : decode cL_law 677 = .ok (.iaload, 1) := by decide +kernel
theorem dL_law_678 : decode cL_law 678 = .ok (.aload_n 0, 1) := by decide +kernel
theorem dL_law_679 : decode cL_law 679 = .ok (.iload 5, 2) := by decide +kernel
theorem dL_law_681 : decode cL_law 681 = .ok (.iconst 2, 1) := by decide +kernel
theorem dL_law_682 : decode cL_law 682 = .ok (.iadd, 1) := by decide +kernel
theorem dL_law_683 : decode cL_law 683 = .ok (.iaload, 1) := by decide +kernel
theorem dL_law_684 : decode cL_law 684 = .ok (.ifCond .eq 7, 3) := by decide +kernel
theorem dL_law_687 : decode cL_law 687 = .ok (.iconst 1, 1) := by decide +kernel
theorem dL_law_688 : decode cL_law 688 = .ok (.goto 4, 3) := by decide +kernel
theorem dL_law_691 : decode cL_law 691 = .ok (.iconst 0, 1) := by decide +kernel
theorem dL_law_692 : decode cL_law 692 = .ok (.aload_n 0, 1) := by decide +kernel
theorem dL_law_693 : decode cL_law 693 = .ok (.iload 5, 2) := by decide +kernel
theorem dL_law_695 : decode cL_law 695 = .ok (.iconst 3, 1) := by decide +kernel
theorem dL_law_696 : decode cL_law 696 = .ok (.iadd, 1) := by decide +kernel
theorem dL_law_697 : decode cL_law 697 = .ok (.iaload, 1) := by decide +kernel
theorem dL_law_698 : decode cL_law 698 = .ok (.ifCond .eq 7, 3) := by decide +kernel
theorem dL_law_701 : decode cL_law 701 = .ok (.iconst 1, 1) := by decide +kernel
theorem dL_law_702 : decode cL_law 702 = .ok (.goto 4, 3) := by decide +kernel
theorem dL_law_705 : decode cL_law 705 = .ok (.iconst 0, 1) := by decide +kernel
theorem dL_law_706 : decode cL_law 706 = .ok (.aload_n 0, 1) := by decide +kernel
theorem dL_law_707 : decode cL_law 707 = .ok (.iload 5, 2) := by decide +kernel
theorem dL_law_709 : decode cL_law 709 = .ok (.iconst 4, 1) := by decide +kernel
theorem dL_law_710 : decode cL_law 710 = .ok (.iadd, 1) := by decide +kernel
theorem dL_law_711 : decode cL_law 711 = .ok (.iaload, 1) := by decide +kernel
theorem dL_law_712 : decode cL_law 712 = .ok (.invokevirtual 125, 3) := by decide +kernel
theorem dL_law_715 : decode cL_law 715 = .ok (.istore 7, 2) := by decide +kernel
theorem dL_law_717 : decode cL_law 717 = .ok (.aload_n 2, 1) := by decide +kernel
theorem dL_law_718 : decode cL_law 718 = .ok (.invokevirtual 97, 3) := by decide +kernel
theorem dL_law_721 : decode cL_law 721 = .ok (.iload 6, 2) := by decide +kernel
theorem dL_law_723 : decode cL_law 723 = .ok (.if_icmp .eq 5, 3) := by decide +kernel
theorem dL_law_726 : decode cL_law 726 = .ok (.iconst 0, 1) := by decide +kernel
theorem dL_law_727 : decode cL_law 727 = .ok (.ireturn, 1) := by decide +kernel
theorem dL_law_728 : decode cL_law 728 = .ok (.iload 6, 2) := by decide +kernel
theorem dL_law_730 : decode cL_law 730 = .ok (.ifCond .ne 15, 3) := by decide +kernel
theorem dL_law_733 : decode cL_law 733 = .ok (.aload_n 3, 1) := by decide +kernel
theorem dL_law_734 : decode cL_law 734 = .ok (.iconst 0, 1) := by decide +kernel
theorem dL_law_735 : decode cL_law 735 = .ok (.laload, 1) := by decide +kernel
theorem dL_law_736 : decode cL_law 736 = .ok (.iload 7, 2) := by decide +kernel
theorem dL_law_738 : decode cL_law 738 = .ok (.i2l, 1) := by decide +kernel
theorem dL_law_739 : decode cL_law 739 = .ok (.lcmp, 1) := by decide +kernel
theorem dL_law_740 : decode cL_law 740 = .ok (.ifCond .eq 5, 3) := by decide +kernel
theorem dL_law_743 : decode cL_law 743 = .ok (.iconst 0, 1) := by decide +kernel
theorem dL_law_744 : decode cL_law 744 = .ok (.ireturn, 1) := by decide +kernel
theorem dL_law_745 : decode cL_law 745 = .ok (.goto 879, 3) := by decide +kernel
theorem dL_law_748 : decode cL_law 748 = .ok (.aload_n 1, 1) := by decide +kernel
theorem dL_law_749 : decode cL_law 749 = .ok (.aload_n 0, 1) := by decide +kernel
theorem dL_law_750 : decode cL_law 750 = .ok (.iload 5, 2) := by decide +kernel
theorem dL_law_752 : decode cL_law 752 = .ok (.iconst 1, 1) := by decide +kernel
theorem dL_law_753 : decode cL_law 753 = .ok (.iadd, 1) := by decide +kernel
theorem dL_law_754 : decode cL_law 754 = .ok (.iaload, 1) := by decide +kernel
theorem dL_law_755 : decode cL_law 755 = .ok (.ifCond .eq 7, 3) := by decide +kernel
theorem dL_law_758 : decode cL_law 758 = .ok (.iconst 1, 1) := by decide +kernel
theorem dL_law_759 : decode cL_law 759 = .ok (.goto 4, 3) := by decide +kernel
theorem dL_law_762 : decode cL_law 762 = .ok (.iconst 0, 1) := by decide +kernel
theorem dL_law_763 : decode cL_law 763 = .ok (.invokevirtual 126, 3) := by decide +kernel
theorem dL_law_766 : decode cL_law 766 = .ok (.aload_n 2, 1) := by decide +kernel
theorem dL_law_767 : decode cL_law 767 = .ok (.aload_n 0, 1) := by decide +kernel
theorem dL_law_768 : decode cL_law 768 = .ok (.iload 5, 2) := by decide +kernel
theorem dL_law_770 : decode cL_law 770 = .ok (.iconst 1, 1) := by decide +kernel
theorem dL_law_771 : decode cL_law 771 = .ok (.iadd, 1) := by decide +kernel
theorem dL_law_772 : decode cL_law 772 = .ok (.iaload, 1) := by decide +kernel
theorem dL_law_773 : decode cL_law 773 = .ok (.ifCond .eq 7, 3) := by decide +kernel
theorem dL_law_776 : decode cL_law 776 = .ok (.iconst 1, 1) := by decide +kernel
theorem dL_law_777 : decode cL_law 777 = .ok (.goto 4, 3) := by decide +kernel
theorem dL_law_780 : decode cL_law 780 = .ok (.iconst 0, 1) := by decide +kernel
theorem dL_law_781 : decode cL_law 781 = .ok (.invokevirtual 130, 3) := by decide +kernel
theorem dL_law_784 : decode cL_law 784 = .ok (.if_icmp .eq 840, 3) := by decide +kernel
theorem dL_law_787 : decode cL_law 787 = .ok (.iconst 0, 1) := by decide +kernel
theorem dL_law_788 : decode cL_law 788 = .ok (.ireturn, 1) := by decide +kernel
theorem dL_law_789 : decode cL_law 789 = .ok (.aload_n 1, 1) := by decide +kernel
theorem dL_law_790 : decode cL_law 790 = .ok (.invokevirtual 131, 3) := by decide +kernel
theorem dL_law_793 : decode cL_law 793 = .ok (.aload_n 2, 1) := by decide +kernel
theorem dL_law_794 : decode cL_law 794 = .ok (.invokevirtual 134, 3) := by decide +kernel
theorem dL_law_797 : decode cL_law 797 = .ok (.if_icmp .eq 827, 3) := by decide +kernel
theorem dL_law_800 : decode cL_law 800 = .ok (.iconst 0, 1) := by decide +kernel
theorem dL_law_801 : decode cL_law 801 = .ok (.ireturn, 1) := by decide +kernel
theorem dL_law_802 : decode cL_law 802 = .ok (.aload_n 1, 1) := by decide +kernel
theorem dL_law_803 : decode cL_law 803 = .ok (.invokevirtual 135, 3) := by decide +kernel
theorem dL_law_806 : decode cL_law 806 = .ok (.aload_n 2, 1) := by decide +kernel
theorem dL_law_807 : decode cL_law 807 = .ok (.invokevirtual 138, 3) := by decide +kernel
theorem dL_law_810 : decode cL_law 810 = .ok (.if_icmp .eq 814, 3) := by decide +kernel
theorem dL_law_813 : decode cL_law 813 = .ok (.iconst 0, 1) := by decide +kernel
theorem dL_law_814 : decode cL_law 814 = .ok (.ireturn, 1) := by decide +kernel
theorem dL_law_815 : decode cL_law 815 = .ok (.aload_n 1, 1) := by decide +kernel
theorem dL_law_816 : decode cL_law 816 = .ok (.invokevirtual 139, 3) := by decide +kernel
theorem dL_law_819 : decode cL_law 819 = .ok (.aload_n 2, 1) := by decide +kernel
theorem dL_law_820 : decode cL_law 820 = .ok (.invokevirtual 143, 3) := by decide +kernel
theorem dL_law_823 : decode cL_law 823 = .ok (.if_icmp .eq 801, 3) := by decide +kernel
theorem dL_law_826 : decode cL_law 826 = .ok (.iconst 0, 1) := by decide +kernel
theorem dL_law_827 : decode cL_law 827 = .ok (.ireturn, 1) := by decide +kernel
theorem dL_law_828 : decode cL_law 828 = .ok (.aload_n 1, 1) := by decide +kernel
theorem dL_law_829 : decode cL_law 829 = .ok (.invokevirtual 144, 3) := by decide +kernel
theorem dL_law_832 : decode cL_law 832 = .ok (.aload_n 2, 1) := by decide +kernel
theorem dL_law_833 : decode cL_law 833 = .ok (.invokevirtual 147, 3) := by decide +kernel
theorem dL_law_836 : decode cL_law 836 = .ok (.if_icmp .eq 788, 3) := by decide +kernel
theorem dL_law_839 : decode cL_law 839 = .ok (.iconst 0, 1) := by decide +kernel
theorem dL_law_840 : decode cL_law 840 = .ok (.ireturn, 1) := by decide +kernel
theorem dL_law_841 : decode cL_law 841 = .ok (.aload_n 1, 1) := by decide +kernel
theorem dL_law_842 : decode cL_law 842 = .ok (.aload_n 0, 1) := by decide +kernel
theorem dL_law_843 : decode cL_law 843 = .ok (.iload 5, 2) := by decide +kernel
theorem dL_law_845 : decode cL_law 845 = .ok (.iconst 1, 1) := by decide +kernel
theorem dL_law_846 : decode cL_law 846 = .ok (.iadd, 1) := by decide +kernel
theorem dL_law_847 : decode cL_law 847 = .ok (.iaload, 1) := by decide +kernel
theorem dL_law_848 : decode cL_law 848 = .ok (.aload_n 3, 1) := by decide +kernel
theorem dL_law_849 : decode cL_law 849 = .ok (.invokestatic 148, 3) := by decide +kernel
theorem dL_law_852 : decode cL_law 852 = .ok (.istore 6, 2) := by decide +kernel
theorem dL_law_854 : decode cL_law 854 = .ok (.aload_n 2, 1) := by decide +kernel
theorem dL_law_855 : decode cL_law 855 = .ok (.aload_n 0, 1) := by decide +kernel
theorem dL_law_856 : decode cL_law 856 = .ok (.iload 5, 2) := by decide +kernel
theorem dL_law_858 : decode cL_law 858 = .ok (.iconst 1, 1) := by decide +kernel
theorem dL_law_859 : decode cL_law 859 = .ok (.iadd, 1) := by decide +kernel
theorem dL_law_860 : decode cL_law 860 = .ok (.iaload, 1) := by decide +kernel
theorem dL_law_861 : decode cL_law 861 = .ok (.invokevirtual 150, 3) := by decide +kernel
theorem dL_law_864 : decode cL_law 864 = .ok (.istore 7, 2) := by decide +kernel
theorem dL_law_866 : decode cL_law 866 = .ok (.aload_n 2, 1) := by decide +kernel
theorem dL_law_867 : decode cL_law 867 = .ok (.invokevirtual 97, 3) := by decide +kernel
theorem dL_law_870 : decode cL_law 870 = .ok (.iload 6, 2) := by decide +kernel
theorem dL_law_872 : decode cL_law 872 = .ok (.if_icmp .eq 5, 3) := by decide +kernel
theorem dL_law_875 : decode cL_law 875 = .ok (.iconst 0, 1) := by decide +kernel
theorem dL_law_876 : decode cL_law 876 = .ok (.ireturn, 1) := by decide +kernel
theorem dL_law_877 : decode cL_law 877 = .ok (.iload 6, 2) := by decide +kernel
theorem dL_law_879 : decode cL_law 879 = .ok (.ifCond .ne 15, 3) := by decide +kernel
theorem dL_law_882 : decode cL_law 882 = .ok (.aload_n 3, 1) := by decide +kernel
theorem dL_law_883 : decode cL_law 883 = .ok (.iconst 0, 1) := by decide +kernel
theorem dL_law_884 : decode cL_law 884 = .ok (.laload, 1) := by decide +kernel
theorem dL_law_885 : decode cL_law 885 = .ok (.iload 7, 2) := by decide +kernel
theorem dL_law_887 : decode cL_law 887 = .ok (.i2l, 1) := by decide +kernel
theorem dL_law_888 : decode cL_law 888 = .ok (.lcmp, 1) := by decide +kernel
theorem dL_law_889 : decode cL_law 889 = .ok (.ifCond .eq 5, 3) := by decide +kernel
theorem dL_law_892 : decode cL_law 892 = .ok (.iconst 0, 1) := by decide +kernel
theorem dL_law_893 : decode cL_law 893 = .ok (.ireturn, 1) := by decide +kernel
theorem dL_law_894 : decode cL_law 894 = .ok (.goto 730, 3) := by decide +kernel
theorem dL_law_897 : decode cL_law 897 = .ok (.aload_n 1, 1) := by decide +kernel
theorem dL_law_898 : decode cL_law 898 = .ok (.aload_n 3, 1) := by decide +kernel
theorem dL_law_899 : decode cL_law 899 = .ok (.invokestatic 151, 3) := by decide +kernel
theorem dL_law_902 : decode cL_law 902 = .ok (.istore 6, 2) := by decide +kernel
theorem dL_law_904 : decode cL_law 904 = .ok (.aload_n 2, 1) := by decide +kernel
theorem dL_law_905 : decode cL_law 905 = .ok (.invokevirtual 154, 3) := by decide +kernel
theorem dL_law_908 : decode cL_law 908 = .ok (.istore 7, 2) := by decide +kernel
theorem dL_law_910 : decode cL_law 910 = .ok (.aload_n 2, 1) := by decide +kernel
theorem dL_law_911 : decode cL_law 911 = .ok (.invokevirtual 97, 3) := by decide +kernel
theorem dL_law_914 : decode cL_law 914 = .ok (.iload 6, 2) := by decide +kernel
theorem dL_law_916 : decode cL_law 916 = .ok (.if_icmp .eq 5, 3) := by decide +kernel
theorem dL_law_919 : decode cL_law 919 = .ok (.iconst 0, 1) := by decide +kernel
theorem dL_law_920 : decode cL_law 920 = .ok (.ireturn, 1) := by decide +kernel
theorem dL_law_921 : decode cL_law 921 = .ok (.iload 6, 2) := by decide +kernel
theorem dL_law_923 : decode cL_law 923 = .ok (.ifCond .ne 15, 3) := by decide +kernel
theorem dL_law_926 : decode cL_law 926 = .ok (.aload_n 3, 1) := by decide +kernel
theorem dL_law_927 : decode cL_law 927 = .ok (.iconst 0, 1) := by decide +kernel
theorem dL_law_928 : decode cL_law 928 = .ok (.laload, 1) := by decide +kernel
theorem dL_law_929 : decode cL_law 929 = .ok (.iload 7, 2) := by decide +kernel
theorem dL_law_931 : decode cL_law 931 = .ok (.i2l, 1) := by decide +kernel
theorem dL_law_932 : decode cL_law 932 = .ok (.lcmp, 1) := by decide +kernel
theorem dL_law_933 : decode cL_law 933 = .ok (.ifCond .eq 5, 3) := by decide +kernel
theorem dL_law_936 : decode cL_law 936 = .ok (.iconst 0, 1) := by decide +kernel
theorem dL_law_937 : decode cL_law 937 = .ok (.ireturn, 1) := by decide +kernel
theorem dL_law_938 : decode cL_law 938 = .ok (.goto 686, 3) := by decide +kernel
theorem dL_law_941 : decode cL_law 941 = .ok (.aload_n 1, 1) := by decide +kernel
theorem dL_law_942 : decode cL_law 942 = .ok (.aload_n 0, 1) := by decide +kernel
theorem dL_law_943 : decode cL_law 943 = .ok (.iload 5, 2) := by decide +kernel
theorem dL_law_945 : decode cL_law 945 = .ok (.iconst 1, 1) := by decide +kernel
theorem dL_law_946 : decode cL_law 946 = .ok (.iadd, 1) := by decide +kernel
theorem dL_law_947 : decode cL_law 947 = .ok (.iaload, 1) := by decide +kernel
theorem dL_law_948 : decode cL_law 948 = .ok (.aload_n 3, 1) := by decide +kernel
theorem dL_law_949 : decode cL_law 949 = .ok (.invokestatic 155, 3) := by decide +kernel
theorem dL_law_952 : decode cL_law 952 = .ok (.istore 6, 2) := by decide +kernel
theorem dL_law_954 : decode cL_law 954 = .ok (.aload_n 2, 1) := by decide +kernel
theorem dL_law_955 : decode cL_law 955 = .ok (.aload_n 0, 1) := by decide +kernel
theorem dL_law_956 : decode cL_law 956 = .ok (.iload 5, 2) := by decide +kernel
theorem dL_law_958 : decode cL_law 958 = .ok (.iconst 1, 1) := by decide +kernel
theorem dL_law_959 : decode cL_law 959 = .ok (.iadd, 1) := by decide +kernel
theorem dL_law_960 : decode cL_law 960 = .ok (.iaload, 1) := by decide +kernel
theorem dL_law_961 : decode cL_law 961 = .ok (.invokevirtual 157, 3) := by decide +kernel
theorem dL_law_964 : decode cL_law 964 = .ok (.istore 7, 2) := by decide +kernel
theorem dL_law_966 : decode cL_law 966 = .ok (.aload_n 2, 1) := by decide +kernel
theorem dL_law_967 : decode cL_law 967 = .ok (.invokevirtual 97, 3) := by decide +kernel
theorem dL_law_970 : decode cL_law 970 = .ok (.iload 6, 2) := by decide +kernel
theorem dL_law_972 : decode cL_law 972 = .ok (.if_icmp .eq 5, 3) := by decide +kernel
theorem dL_law_975 : decode cL_law 975 = .ok (.iconst 0, 1) := by decide +kernel
theorem dL_law_976 : decode cL_law 976 = .ok (.ireturn, 1) := by decide +kernel
theorem dL_law_977 : decode cL_law 977 = .ok (.iload 6, 2) := by decide +kernel
theorem dL_law_979 : decode cL_law 979 = .ok (.ifCond .ne 15, 3) := by decide +kernel
theorem dL_law_982 : decode cL_law 982 = .ok (.aload_n 3, 1) := by decide +kernel
theorem dL_law_983 : decode cL_law 983 = .ok (.iconst 0, 1) := by decide +kernel
theorem dL_law_984 : decode cL_law 984 = .ok (.laload, 1) := by decide +kernel
theorem dL_law_985 : decode cL_law 985 = .ok (.iload 7, 2) := by decide +kernel
theorem dL_law_987 : decode cL_law 987 = .ok (.i2l, 1) := by decide +kernel
theorem dL_law_988 : decode cL_law 988 = .ok (.lcmp, 1) := by decide +kernel
theorem dL_law_989 : decode cL_law 989 = .ok (.ifCond .eq 5, 3) := by decide +kernel
theorem dL_law_992 : decode cL_law 992 = .ok (.iconst 0, 1) := by decide +kernel
theorem dL_law_993 : decode cL_law 993 = .ok (.ireturn, 1) := by decide +kernel
theorem dL_law_994 : decode cL_law 994 = .ok (.goto 630, 3) := by decide +kernel
theorem dL_law_997 : decode cL_law 997 = .ok (.aload_n 1, 1) := by decide +kernel
theorem dL_law_998 : decode cL_law 998 = .ok (.aload_n 0, 1) := by decide +kernel
theorem dL_law_999 : decode cL_law 999 = .ok (.iload 5, 2) := by decide +kernel
theorem dL_law_1001 : decode cL_law 1001 = .ok (.iconst 1, 1) := by decide +kernel
theorem dL_law_1002 : decode cL_law 1002 = .ok (.iadd, 1) := by decide +kernel
theorem dL_law_1003 : decode cL_law 1003 = .ok (.iaload, 1) := by decide +kernel
theorem dL_law_1004 : decode cL_law 1004 = .ok (.aload_n 3, 1) := by decide +kernel
theorem dL_law_1005 : decode cL_law 1005 = .ok (.invokestatic 158, 3) := by decide +kernel
theorem dL_law_1008 : decode cL_law 1008 = .ok (.istore 6, 2) := by decide +kernel
theorem dL_law_1010 : decode cL_law 1010 = .ok (.aload_n 2, 1) := by decide +kernel
theorem dL_law_1011 : decode cL_law 1011 = .ok (.aload_n 0, 1) := by decide +kernel
theorem dL_law_1012 : decode cL_law 1012 = .ok (.iload 5, 2) := by decide +kernel
theorem dL_law_1014 : decode cL_law 1014 = .ok (.iconst 1, 1) := by decide +kernel
theorem dL_law_1015 : decode cL_law 1015 = .ok (.iadd, 1) := by decide +kernel
theorem dL_law_1016 : decode cL_law 1016 = .ok (.iaload, 1) := by decide +kernel
theorem dL_law_1017 : decode cL_law 1017 = .ok (.invokevirtual 160, 3) := by decide +kernel
theorem dL_law_1020 : decode cL_law 1020 = .ok (.istore 7, 2) := by decide +kernel
theorem dL_law_1022 : decode cL_law 1022 = .ok (.aload_n 2, 1) := by decide +kernel
theorem dL_law_1023 : decode cL_law 1023 = .ok (.invokevirtual 97, 3) := by decide +kernel
theorem dL_law_1026 : decode cL_law 1026 = .ok (.iload 6, 2) := by decide +kernel
theorem dL_law_1028 : decode cL_law 1028 = .ok (.if_icmp .eq 5, 3) := by decide +kernel
theorem dL_law_1031 : decode cL_law 1031 = .ok (.iconst 0, 1) := by decide +kernel
theorem dL_law_1032 : decode cL_law 1032 = .ok (.ireturn, 1) := by decide +kernel
theorem dL_law_1033 : decode cL_law 1033 = .ok (.iload 6, 2) := by decide +kernel
theorem dL_law_1035 : decode cL_law 1035 = .ok (.ifCond .ne 15, 3) := by decide +kernel
theorem dL_law_1038 : decode cL_law 1038 = .ok (.aload_n 3, 1) := by decide +kernel
theorem dL_law_1039 : decode cL_law 1039 = .ok (.iconst 0, 1) := by decide +kernel
theorem dL_law_1040 : decode cL_law 1040 = .ok (.laload, 1) := by decide +kernel
theorem dL_law_1041 : decode cL_law 1041 = .ok (.iload 7, 2) := by decide +kernel
theorem dL_law_1043 : decode cL_law 1043 = .ok (.i2l, 1) := by decide +kernel
theorem dL_law_1044 : decode cL_law 1044 = .ok (.lcmp, 1) := by decide +kernel
theorem dL_law_1045 : decode cL_law 1045 = .ok (.ifCond .eq 5, 3) := by decide +kernel
theorem dL_law_1048 : decode cL_law 1048 = .ok (.iconst 0, 1) := by decide +kernel
theorem dL_law_1049 : decode cL_law 1049 = .ok (.ireturn, 1) := by decide +kernel
theorem dL_law_1050 : decode cL_law 1050 = .ok (.goto 574, 3) := by decide +kernel
theorem dL_law_1053 : decode cL_law 1053 = .ok (.aload_n 1, 1) := by decide +kernel
theorem dL_law_1054 : decode cL_law 1054 = .ok (.aload_n 0, 1) := by decide +kernel
theorem dL_law_1055 : decode cL_law 1055 = .ok (.iload 5, 2) := by decide +kernel
theorem dL_law_1057 : decode cL_law 1057 = .ok (.iconst 1, 1) := by decide +kernel
theorem dL_law_1058 : decode cL_law 1058 = .ok (.iadd, 1) := by decide +kernel
theorem dL_law_1059 : decode cL_law 1059 = .ok (.iaload, 1) := by decide +kernel
theorem dL_law_1060 : decode cL_law 1060 = .ok (.aload_n 3, 1) := by decide +kernel
theorem dL_law_1061 : decode cL_law 1061 = .ok (.invokestatic 161, 3) := by decide +kernel
theorem dL_law_1064 : decode cL_law 1064 = .ok (.istore 6, 2) := by decide +kernel
theorem dL_law_1066 : decode cL_law 1066 = .ok (.aload_n 2, 1) := by decide +kernel
theorem dL_law_1067 : decode cL_law 1067 = .ok (.aload_n 0, 1) := by decide +kernel
theorem dL_law_1068 : decode cL_law 1068 = .ok (.iload 5, 2) := by decide +kernel
theorem dL_law_1070 : decode cL_law 1070 = .ok (.iconst 1, 1) := by decide +kernel
theorem dL_law_1071 : decode cL_law 1071 = .ok (.iadd, 1) := by decide +kernel
theorem dL_law_1072 : decode cL_law 1072 = .ok (.iaload, 1) := by decide +kernel
theorem dL_law_1073 : decode cL_law 1073 = .ok (.invokevirtual 163, 3) := by decide +kernel
theorem dL_law_1076 : decode cL_law 1076 = .ok (.istore 7, 2) := by decide +kernel
theorem dL_law_1078 : decode cL_law 1078 = .ok (.aload_n 2, 1) := by decide +kernel
theorem dL_law_1079 : decode cL_law 1079 = .ok (.invokevirtual 97, 3) := by decide +kernel
theorem dL_law_1082 : decode cL_law 1082 = .ok (.iload 6, 2) := by decide +kernel
theorem dL_law_1084 : decode cL_law 1084 = .ok (.if_icmp .eq 5, 3) := by decide +kernel
theorem dL_law_1087 : decode cL_law 1087 = .ok (.iconst 0, 1) := by decide +kernel
theorem dL_law_1088 : decode cL_law 1088 = .ok (.ireturn, 1) := by decide +kernel
theorem dL_law_1089 : decode cL_law 1089 = .ok (.iload 6, 2) := by decide +kernel
theorem dL_law_1091 : decode cL_law 1091 = .ok (.ifCond .ne 15, 3) := by decide +kernel
theorem dL_law_1094 : decode cL_law 1094 = .ok (.aload_n 3, 1) := by decide +kernel
theorem dL_law_1095 : decode cL_law 1095 = .ok (.iconst 0, 1) := by decide +kernel
theorem dL_law_1096 : decode cL_law 1096 = .ok (.laload, 1) := by decide +kernel
theorem dL_law_1097 : decode cL_law 1097 = .ok (.iload 7, 2) := by decide +kernel
theorem dL_law_1099 : decode cL_law 1099 = .ok (.i2l, 1) := by decide +kernel
theorem dL_law_1100 : decode cL_law 1100 = .ok (.lcmp, 1) := by decide +kernel
theorem dL_law_1101 : decode cL_law 1101 = .ok (.ifCond .eq 5, 3) := by decide +kernel
theorem dL_law_1104 : decode cL_law 1104 = .ok (.iconst 0, 1) := by decide +kernel
theorem dL_law_1105 : decode cL_law 1105 = .ok (.ireturn, 1) := by decide +kernel
theorem dL_law_1106 : decode cL_law 1106 = .ok (.goto 518, 3) := by decide +kernel
theorem dL_law_1109 : decode cL_law 1109 = .ok (.aload_n 1, 1) := by decide +kernel
theorem dL_law_1110 : decode cL_law 1110 = .ok (.aload_n 0, 1) := by decide +kernel
theorem dL_law_1111 : decode cL_law 1111 = .ok (.iload 5, 2) := by decide +kernel
theorem dL_law_1113 : decode cL_law 1113 = .ok (.iconst 1, 1) := by decide +kernel
theorem dL_law_1114 : decode cL_law 1114 = .ok (.iadd, 1) := by decide +kernel
theorem dL_law_1115 : decode cL_law 1115 = .ok (.iaload, 1) := by decide +kernel
theorem dL_law_1116 : decode cL_law 1116 = .ok (.aload_n 3, 1) := by decide +kernel
theorem dL_law_1117 : decode cL_law 1117 = .ok (.invokestatic 164, 3) := by decide +kernel
theorem dL_law_1120 : decode cL_law 1120 = .ok (.istore 6, 2) := by decide +kernel
theorem dL_law_1122 : decode cL_law 1122 = .ok (.aload_n 2, 1) := by decide +kernel
theorem dL_law_1123 : decode cL_law 1123 = .ok (.aload_n 0, 1) := by decide +kernel
theorem dL_law_1124 : decode cL_law 1124 = .ok (.iload 5, 2) := by decide +kernel
theorem dL_law_1126 : decode cL_law 1126 = .ok (.iconst 1, 1) := by decide +kernel
theorem dL_law_1127 : decode cL_law 1127 = .ok (.iadd, 1) := by decide +kernel
theorem dL_law_1128 : decode cL_law 1128 = .ok (.iaload, 1) := by decide +kernel
theorem dL_law_1129 : decode cL_law 1129 = .ok (.invokevirtual 166, 3) := by decide +kernel
theorem dL_law_1132 : decode cL_law 1132 = .ok (.istore 7, 2) := by decide +kernel
theorem dL_law_1134 : decode cL_law 1134 = .ok (.aload_n 2, 1) := by decide +kernel
theorem dL_law_1135 : decode cL_law 1135 = .ok (.invokevirtual 97, 3) := by decide +kernel
theorem dL_law_1138 : decode cL_law 1138 = .ok (.iload 6, 2) := by decide +kernel
theorem dL_law_1140 : decode cL_law 1140 = .ok (.if_icmp .eq 5, 3) := by decide +kernel
theorem dL_law_1143 : decode cL_law 1143 = .ok (.iconst 0, 1) := by decide +kernel
theorem dL_law_1144 : decode cL_law 1144 = .ok (.ireturn, 1) := by decide +kernel
theorem dL_law_1145 : decode cL_law 1145 = .ok (.iload 6, 2) := by decide +kernel
theorem dL_law_1147 : decode cL_law 1147 = .ok (.ifCond .ne 15, 3) := by decide +kernel
theorem dL_law_1150 : decode cL_law 1150 = .ok (.aload_n 3, 1) := by decide +kernel
theorem dL_law_1151 : decode cL_law 1151 = .ok (.iconst 0, 1) := by decide +kernel
theorem dL_law_1152 : decode cL_law 1152 = .ok (.laload, 1) := by decide +kernel
theorem dL_law_1153 : decode cL_law 1153 = .ok (.iload 7, 2) := by decide +kernel
theorem dL_law_1155 : decode cL_law 1155 = .ok (.i2l, 1) := by decide +kernel
theorem dL_law_1156 : decode cL_law 1156 = .ok (.lcmp, 1) := by decide +kernel
theorem dL_law_1157 : decode cL_law 1157 = .ok (.ifCond .eq 5, 3) := by decide +kernel
theorem dL_law_1160 : decode cL_law 1160 = .ok (.iconst 0, 1) := by decide +kernel
theorem dL_law_1161 : decode cL_law 1161 = .ok (.ireturn, 1) := by decide +kernel
theorem dL_law_1162 : decode cL_law 1162 = .ok (.goto 462, 3) := by decide +kernel
theorem dL_law_1165 : decode cL_law 1165 = .ok (.aload_n 1, 1) := by decide +kernel
theorem dL_law_1166 : decode cL_law 1166 = .ok (.aload_n 0, 1) := by decide +kernel
theorem dL_law_1167 : decode cL_law 1167 = .ok (.iload 5, 2) := by decide +kernel
theorem dL_law_1169 : decode cL_law 1169 = .ok (.iconst 1, 1) := by decide +kernel
theorem dL_law_1170 : decode cL_law 1170 = .ok (.iadd, 1) := by decide +kernel
theorem dL_law_1171 : decode cL_law 1171 = .ok (.iaload, 1) := by decide +kernel
theorem dL_law_1172 : decode cL_law 1172 = .ok (.aload_n 3, 1) := by decide +kernel
theorem dL_law_1173 : decode cL_law 1173 = .ok (.invokestatic 167, 3) := by decide +kernel
theorem dL_law_1176 : decode cL_law 1176 = .ok (.istore 6, 2) := by decide +kernel
theorem dL_law_1178 : decode cL_law 1178 = .ok (.aload_n 2, 1) := by decide +kernel
theorem dL_law_1179 : decode cL_law 1179 = .ok (.aload_n 0, 1) := by decide +kernel
theorem dL_law_1180 : decode cL_law 1180 = .ok (.iload 5, 2) := by decide +kernel
theorem dL_law_1182 : decode cL_law 1182 = .ok (.iconst 1, 1) := by decide +kernel
theorem dL_law_1183 : decode cL_law 1183 = .ok (.iadd, 1) := by decide +kernel
theorem dL_law_1184 : decode cL_law 1184 = .ok (.iaload, 1) := by decide +kernel
theorem dL_law_1185 : decode cL_law 1185 = .ok (.invokevirtual 169, 3) := by decide +kernel
theorem dL_law_1188 : decode cL_law 1188 = .ok (.istore 7, 2) := by decide +kernel
theorem dL_law_1190 : decode cL_law 1190 = .ok (.aload_n 2, 1) := by decide +kernel
theorem dL_law_1191 : decode cL_law 1191 = .ok (.invokevirtual 97, 3) := by decide +kernel
theorem dL_law_1194 : decode cL_law 1194 = .ok (.iload 6, 2) := by decide +kernel
theorem dL_law_1196 : decode cL_law 1196 = .ok (.if_icmp .eq 5, 3) := by decide +kernel
theorem dL_law_1199 : decode cL_law 1199 = .ok (.iconst 0, 1) := by decide +kernel
theorem dL_law_1200 : decode cL_law 1200 = .ok (.ireturn, 1) := by decide +kernel
theorem dL_law_1201 : decode cL_law 1201 = .ok (.iload 6, 2) := by decide +kernel
theorem dL_law_1203 : decode cL_law 1203 = .ok (.ifCond .ne 15, 3) := by decide +kernel
theorem dL_law_1206 : decode cL_law 1206 = .ok (.aload_n 3, 1) := by decide +kernel
theorem dL_law_1207 : decode cL_law 1207 = .ok (.iconst 0, 1) := by decide +kernel
theorem dL_law_1208 : decode cL_law 1208 = .ok (.laload, 1) := by decide +kernel
theorem dL_law_1209 : decode cL_law 1209 = .ok (.iload 7, 2) := by decide +kernel
theorem dL_law_1211 : decode cL_law 1211 = .ok (.i2l, 1) := by decide +kernel
theorem dL_law_1212 : decode cL_law 1212 = .ok (.lcmp, 1) := by decide +kernel
theorem dL_law_1213 : decode cL_law 1213 = .ok (.ifCond .eq 5, 3) := by decide +kernel
theorem dL_law_1216 : decode cL_law 1216 = .ok (.iconst 0, 1) := by decide +kernel
theorem dL_law_1217 : decode cL_law 1217 = .ok (.ireturn, 1) := by decide +kernel
theorem dL_law_1218 : decode cL_law 1218 = .ok (.goto 406, 3) := by decide +kernel
theorem dL_law_1221 : decode cL_law 1221 = .ok (.aload_n 1, 1) := by decide +kernel
theorem dL_law_1222 : decode cL_law 1222 = .ok (.aload_n 0, 1) := by decide +kernel
theorem dL_law_1223 : decode cL_law 1223 = .ok (.iload 5, 2) := by decide +kernel
theorem dL_law_1225 : decode cL_law 1225 = .ok (.iconst 1, 1) := by decide +kernel
theorem dL_law_1226 : decode cL_law 1226 = .ok (.iadd, 1) := by decide +kernel
theorem dL_law_1227 : decode cL_law 1227 = .ok (.iaload, 1) := by decide +kernel
theorem dL_law_1228 : decode cL_law 1228 = .ok (.aload_n 3, 1) := by decide +kernel
theorem dL_law_1229 : decode cL_law 1229 = .ok (.invokestatic 170, 3) := by decide +kernel
theorem dL_law_1232 : decode cL_law 1232 = .ok (.istore 6, 2) := by decide +kernel
theorem dL_law_1234 : decode cL_law 1234 = .ok (.aload_n 2, 1) := by decide +kernel
theorem dL_law_1235 : decode cL_law 1235 = .ok (.aload_n 0, 1) := by decide +kernel
theorem dL_law_1236 : decode cL_law 1236 = .ok (.iload 5, 2) := by decide +kernel
theorem dL_law_1238 : decode cL_law 1238 = .ok (.iconst 1, 1) := by decide +kernel
theorem dL_law_1239 : decode cL_law 1239 = .ok (.iadd, 1) := by decide +kernel
theorem dL_law_1240 : decode cL_law 1240 = .ok (.iaload, 1) := by decide +kernel
theorem dL_law_1241 : decode cL_law 1241 = .ok (.invokevirtual 172, 3) := by decide +kernel
theorem dL_law_1244 : decode cL_law 1244 = .ok (.istore 7, 2) := by decide +kernel
theorem dL_law_1246 : decode cL_law 1246 = .ok (.aload_n 2, 1) := by decide +kernel
theorem dL_law_1247 : decode cL_law 1247 = .ok (.invokevirtual 97, 3) := by decide +kernel
theorem dL_law_1250 : decode cL_law 1250 = .ok (.iload 6, 2) := by decide +kernel
theorem dL_law_1252 : decode cL_law 1252 = .ok (.if_icmp .eq 5, 3) := by decide +kernel
theorem dL_law_1255 : decode cL_law 1255 = .ok (.iconst 0, 1) := by decide +kernel
theorem dL_law_1256 : decode cL_law 1256 = .ok (.ireturn, 1) := by decide +kernel
theorem dL_law_1257 : decode cL_law 1257 = .ok (.iload 6, 2) := by decide +kernel
theorem dL_law_1259 : decode cL_law 1259 = .ok (.ifCond .ne 15, 3) := by decide +kernel
theorem dL_law_1262 : decode cL_law 1262 = .ok (.aload_n 3, 1) := by decide +kernel
theorem dL_law_1263 : decode cL_law 1263 = .ok (.iconst 0, 1) := by decide +kernel
theorem dL_law_1264 : decode cL_law 1264 = .ok (.laload, 1) := by decide +kernel
theorem dL_law_1265 : decode cL_law 1265 = .ok (.iload 7, 2) := by decide +kernel
theorem dL_law_1267 : decode cL_law 1267 = .ok (.i2l, 1) := by decide +kernel
theorem dL_law_1268 : decode cL_law 1268 = .ok (.lcmp, 1) := by decide +kernel
theorem dL_law_1269 : decode cL_law 1269 = .ok (.ifCond .eq 5, 3) := by decide +kernel
theorem dL_law_1272 : decode cL_law 1272 = .ok (.iconst 0, 1) := by decide +kernel
theorem dL_law_1273 : decode cL_law 1273 = .ok (.ireturn, 1) := by decide +kernel
theorem dL_law_1274 : decode cL_law 1274 = .ok (.goto 350, 3) := by decide +kernel
theorem dL_law_1277 : decode cL_law 1277 = .ok (.aload_n 1, 1) := by decide +kernel
theorem dL_law_1278 : decode cL_law 1278 = .ok (.aload_n 0, 1) := by decide +kernel
theorem dL_law_1279 : decode cL_law 1279 = .ok (.iload 5, 2) := by decide +kernel
theorem dL_law_1281 : decode cL_law 1281 = .ok (.iconst 1, 1) := by decide +kernel
theorem dL_law_1282 : decode cL_law 1282 = .ok (.iadd, 1) := by decide +kernel
theorem dL_law_1283 : decode cL_law 1283 = .ok (.iaload, 1) := by decide +kernel
theorem dL_law_1284 : decode cL_law 1284 = .ok (.aload_n 3, 1) := by decide +kernel
theorem dL_law_1285 : decode cL_law 1285 = .ok (.invokestatic 173, 3) := by decide +kernel
theorem dL_law_1288 : decode cL_law 1288 = .ok (.istore 6, 2) := by decide +kernel
theorem dL_law_1290 : decode cL_law 1290 = .ok (.aload_n 2, 1) := by decide +kernel
theorem dL_law_1291 : decode cL_law 1291 = .ok (.aload_n 0, 1) := by decide +kernel
theorem dL_law_1292 : decode cL_law 1292 = .ok (.iload 5, 2) := by decide +kernel
theorem dL_law_1294 : decode cL_law 1294 = .ok (.iconst 1, 1) := by decide +kernel
theorem dL_law_1295 : decode cL_law 1295 = .ok (.iadd, 1) := by decide +kernel
theorem dL_law_1296 : decode cL_law 1296 = .ok (.iaload, 1) := by decide +kernel
theorem dL_law_1297 : decode cL_law 1297 = .ok (.invokevirtual 175, 3) := by decide +kernel
theorem dL_law_1300 : decode cL_law 1300 = .ok (.istore 7, 2) := by decide +kernel
theorem dL_law_1302 : decode cL_law 1302 = .ok (.aload_n 2, 1) := by decide +kernel
theorem dL_law_1303 : decode cL_law 1303 = .ok (.invokevirtual 97, 3) := by decide +kernel
theorem dL_law_1306 : decode cL_law 1306 = .ok (.iload 6, 2) := by decide +kernel
theorem dL_law_1308 : decode cL_law 1308 = .ok (.if_icmp .eq 5, 3) := by decide +kernel
theorem dL_law_1311 : decode cL_law 1311 = .ok (.iconst 0, 1) := by decide +kernel
theorem dL_law_1312 : decode cL_law 1312 = .ok (.ireturn, 1) := by decide +kernel
theorem dL_law_1313 : decode cL_law 1313 = .ok (.iload 6, 2) := by decide +kernel
theorem dL_law_1315 : decode cL_law 1315 = .ok (.ifCond .ne 15, 3) := by decide +kernel
theorem dL_law_1318 : decode cL_law 1318 = .ok (.aload_n 3, 1) := by decide +kernel
theorem dL_law_1319 : decode cL_law 1319 = .ok (.iconst 0, 1) := by decide +kernel
theorem dL_law_1320 : decode cL_law 1320 = .ok (.laload, 1) := by decide +kernel
theorem dL_law_1321 : decode cL_law 1321 = .ok (.iload 7, 2) := by decide +kernel
theorem dL_law_1323 : decode cL_law 1323 = .ok (.i2l, 1) := by decide +kernel
theorem dL_law_1324 : decode cL_law 1324 = .ok (.lcmp, 1) := by decide +kernel
theorem dL_law_1325 : decode cL_law 1325 = .ok (.ifCond .eq 5, 3) := by decide +kernel
theorem dL_law_1328 : decode cL_law 1328 = .ok (.iconst 0, 1) := by decide +kernel
theorem dL_law_1329 : decode cL_law 1329 = .ok (.ireturn, 1) := by decide +kernel
theorem dL_law_1330 : decode cL_law 1330 = .ok (.goto 294, 3) := by decide +kernel
theorem dL_law_1333 : decode cL_law 1333 = .ok (.aload_n 1, 1) := by decide +kernel
theorem dL_law_1334 : decode cL_law 1334 = .ok (.aload_n 0, 1) := by decide +kernel
theorem dL_law_1335 : decode cL_law 1335 = .ok (.iload 5, 2) := by decide +kernel
theorem dL_law_1337 : decode cL_law 1337 = .ok (.iconst 1, 1) := by decide +kernel
theorem dL_law_1338 : decode cL_law 1338 = .ok (.iadd, 1) := by decide +kernel
theorem dL_law_1339 : decode cL_law 1339 = .ok (.iaload, 1) := by decide +kernel
theorem dL_law_1340 : decode cL_law 1340 = .ok (.aload_n 3, 1) := by decide +kernel
theorem dL_law_1341 : decode cL_law 1341 = .ok (.invokestatic 176, 3) := by decide +kernel
theorem dL_law_1344 : decode cL_law 1344 = .ok (.istore 6, 2) := by decide +kernel
theorem dL_law_1346 : decode cL_law 1346 = .ok (.aload_n 2, 1) := by decide +kernel
theorem dL_law_1347 : decode cL_law 1347 = .ok (.aload_n 0, 1) := by decide +kernel
theorem dL_law_1348 : decode cL_law 1348 = .ok (.iload 5, 2) := by decide +kernel
theorem dL_law_1350 : decode cL_law 1350 = .ok (.iconst 1, 1) := by decide +kernel
theorem dL_law_1351 : decode cL_law 1351 = .ok (.iadd, 1) := by decide +kernel
theorem dL_law_1352 : decode cL_law 1352 = .ok (.iaload, 1) := by decide +kernel
theorem dL_law_1353 : decode cL_law 1353 = .ok (.invokevirtual 178, 3) := by decide +kernel
theorem dL_law_1356 : decode cL_law 1356 = .ok (.istore 7, 2) := by decide +kernel
theorem dL_law_1358 : decode cL_law 1358 = .ok (.aload_n 2, 1) := by decide +kernel
theorem dL_law_1359 : decode cL_law 1359 = .ok (.invokevirtual 97, 3) := by decide +kernel
theorem dL_law_1362 : decode cL_law 1362 = .ok (.iload 6, 2) := by decide +kernel
theorem dL_law_1364 : decode cL_law 1364 = .ok (.if_icmp .eq 5, 3) := by decide +kernel
theorem dL_law_1367 : decode cL_law 1367 = .ok (.iconst 0, 1) := by decide +kernel
theorem dL_law_1368 : decode cL_law 1368 = .ok (.ireturn, 1) := by decide +kernel
theorem dL_law_1369 : decode cL_law 1369 = .ok (.iload 6, 2) := by decide +kernel
theorem dL_law_1371 : decode cL_law 1371 = .ok (.ifCond .ne 15, 3) := by decide +kernel
theorem dL_law_1374 : decode cL_law 1374 = .ok (.aload_n 3, 1) := by decide +kernel
theorem dL_law_1375 : decode cL_law 1375 = .ok (.iconst 0, 1) := by decide +kernel
theorem dL_law_1376 : decode cL_law 1376 = .ok (.laload, 1) := by decide +kernel
theorem dL_law_1377 : decode cL_law 1377 = .ok (.iload 7, 2) := by decide +kernel
theorem dL_law_1379 : decode cL_law 1379 = .ok (.i2l, 1) := by decide +kernel
theorem dL_law_1380 : decode cL_law 1380 = .ok (.lcmp, 1) := by decide +kernel
theorem dL_law_1381 : decode cL_law 1381 = .ok (.ifCond .eq 5, 3) := by decide +kernel
theorem dL_law_1384 : decode cL_law 1384 = .ok (.iconst 0, 1) := by decide +kernel
theorem dL_law_1385 : decode cL_law 1385 = .ok (.ireturn, 1) := by decide +kernel
theorem dL_law_1386 : decode cL_law 1386 = .ok (.goto 238, 3) := by decide +kernel
theorem dL_law_1389 : decode cL_law 1389 = .ok (.aload_n 1, 1) := by decide +kernel
theorem dL_law_1390 : decode cL_law 1390 = .ok (.aload_n 0, 1) := by decide +kernel
theorem dL_law_1391 : decode cL_law 1391 = .ok (.iload 5, 2) := by decide +kernel
theorem dL_law_1393 : decode cL_law 1393 = .ok (.iconst 1, 1) := by decide +kernel
theorem dL_law_1394 : decode cL_law 1394 = .ok (.iadd, 1) := by decide +kernel
theorem dL_law_1395 : decode cL_law 1395 = .ok (.iaload, 1) := by decide +kernel
theorem dL_law_1396 : decode cL_law 1396 = .ok (.aload_n 0, 1) := by decide +kernel
theorem dL_law_1397 : decode cL_law 1397 = .ok (.iload 5, 2) := by decide +kernel
theorem dL_law_1399 : decode cL_law 1399 = .ok (.iconst 2, 1) := by decide +kernel
theorem dL_law_1400 : decode cL_law 1400 = .ok (.iadd, 1) := by decide +kernel
theorem dL_law_1401 : decode cL_law 1401 = .ok (.iaload, 1) := by decide +kernel
theorem dL_law_1402 : decode cL_law 1402 = .ok (.aload_n 3, 1) := by decide +kernel
theorem dL_law_1403 : decode cL_law 1403 = .ok (.invokestatic 179, 3) := by decide +kernel
theorem dL_law_1406 : decode cL_law 1406 = .ok (.istore 6, 2) := by decide +kernel
theorem dL_law_1408 : decode cL_law 1408 = .ok (.aload_n 2, 1) := by decide +kernel
theorem dL_law_1409 : decode cL_law 1409 = .ok (.aload_n 0, 1) := by decide +kernel
theorem dL_law_1410 : decode cL_law 1410 = .ok (.iload 5, 2) := by decide +kernel
theorem dL_law_1412 : decode cL_law 1412 = .ok (.iconst 1, 1) := by decide +kernel
theorem dL_law_1413 : decode cL_law 1413 = .ok (.iadd, 1) := by decide +kernel
theorem dL_law_1414 : decode cL_law 1414 = .ok (.iaload, 1) := by decide +kernel
theorem dL_law_1415 : decode cL_law 1415 = .ok (.aload_n 0, 1) := by decide +kernel
theorem dL_law_1416 : decode cL_law 1416 = .ok (.iload 5, 2) := by decide +kernel
theorem dL_law_1418 : decode cL_law 1418 = .ok (.iconst 2, 1) := by decide +kernel
theorem dL_law_1419 : decode cL_law 1419 = .ok (.iadd, 1) := by decide +kernel
theorem dL_law_1420 : decode cL_law 1420 = .ok (.iaload, 1) := by decide +kernel
theorem dL_law_1421 : decode cL_law 1421 = .ok (.invokevirtual 181, 3) := by decide +kernel
theorem dL_law_1424 : decode cL_law 1424 = .ok (.istore 7, 2) := by decide +kernel
theorem dL_law_1426 : decode cL_law 1426 = .ok (.aload_n 2, 1) := by decide +kernel
theorem dL_law_1427 : decode cL_law 1427 = .ok (.invokevirtual 97, 3) := by decide +kernel
theorem dL_law_1430 : decode cL_law 1430 = .ok (.iload 6, 2) := by decide +kernel
theorem dL_law_1432 : decode cL_law 1432 = .ok (.if_icmp .eq 5, 3) := by decide +kernel
theorem dL_law_1435 : decode cL_law 1435 = .ok (.iconst 0, 1) := by decide +kernel
theorem dL_law_1436 : decode cL_law 1436 = .ok (.ireturn, 1) := by decide +kernel
theorem dL_law_1437 : decode cL_law 1437 = .ok (.iload 6, 2) := by decide +kernel
theorem dL_law_1439 : decode cL_law 1439 = .ok (.ifCond .ne 15, 3) := by decide +kernel
theorem dL_law_1442 : decode cL_law 1442 = .ok (.aload_n 3, 1) := by decide +kernel
theorem dL_law_1443 : decode cL_law 1443 = .ok (.iconst 0, 1) := by decide +kernel
theorem dL_law_1444 : decode cL_law 1444 = .ok (.laload, 1) := by decide +kernel
theorem dL_law_1445 : decode cL_law 1445 = .ok (.iload 7, 2) := by decide +kernel
theorem dL_law_1447 : decode cL_law 1447 = .ok (.i2l, 1) := by decide +kernel
theorem dL_law_1448 : decode cL_law 1448 = .ok (.lcmp, 1) := by decide +kernel
theorem dL_law_1449 : decode cL_law 1449 = .ok (.ifCond .eq 5, 3) := by decide +kernel
theorem dL_law_1452 : decode cL_law 1452 = .ok (.iconst 0, 1) := by decide +kernel
theorem dL_law_1453 : decode cL_law 1453 = .ok (.ireturn, 1) := by decide +kernel
theorem dL_law_1454 : decode cL_law 1454 = .ok (.goto 170, 3) := by decide +kernel
theorem dL_law_1457 : decode cL_law 1457 = .ok (.aload_n 1, 1) := by decide +kernel
theorem dL_law_1458 : decode cL_law 1458 = .ok (.aload_n 3, 1) := by decide +kernel
theorem dL_law_1459 : decode cL_law 1459 = .ok (.invokestatic 182, 3) := by decide +kernel
theorem dL_law_1462 : decode cL_law 1462 = .ok (.istore 6, 2) := by decide +kernel
theorem dL_law_1464 : decode cL_law 1464 = .ok (.aload_n 2, 1) := by decide +kernel
theorem dL_law_1465 : decode cL_law 1465 = .ok (.invokevirtual 184, 3) := by decide +kernel
theorem dL_law_1468 : decode cL_law 1468 = .ok (.istore 7, 2) := by decide +kernel
theorem dL_law_1470 : decode cL_law 1470 = .ok (.aload_n 2, 1) := by decide +kernel
theorem dL_law_1471 : decode cL_law 1471 = .ok (.invokevirtual 97, 3) := by decide +kernel
theorem dL_law_1474 : decode cL_law 1474 = .ok (.iload 6, 2) := by decide +kernel
theorem dL_law_1476 : decode cL_law 1476 = .ok (.if_icmp .eq 5, 3) := by decide +kernel
theorem dL_law_1479 : decode cL_law 1479 = .ok (.iconst 0, 1) := by decide +kernel
theorem dL_law_1480 : decode cL_law 1480 = .ok (.ireturn, 1) := by decide +kernel
theorem dL_law_1481 : decode cL_law 1481 = .ok (.iload 6, 2) := by decide +kernel
theorem dL_law_1483 : decode cL_law 1483 = .ok (.ifCond .ne 15, 3) := by decide +kernel
theorem dL_law_1486 : decode cL_law 1486 = .ok (.aload_n 3, 1) := by decide +kernel
theorem dL_law_1487 : decode cL_law 1487 = .ok (.iconst 0, 1) := by decide +kernel
theorem dL_law_1488 : decode cL_law 1488 = .ok (.laload, 1) := by decide +kernel
theorem dL_law_1489 : decode cL_law 1489 = .ok (.iload 7, 2) := by decide +kernel
theorem dL_law_1491 : decode cL_law 1491 = .ok (.i2l, 1) := by decide +kernel
theorem dL_law_1492 : decode cL_law 1492 = .ok (.lcmp, 1) := by decide +kernel
theorem dL_law_1493 : decode cL_law 1493 = .ok (.ifCond .eq 5, 3) := by decide +kernel
theorem dL_law_1496 : decode cL_law 1496 = .ok (.iconst 0, 1) := by decide +kernel
theorem dL_law_1497 : decode cL_law 1497 = .ok (.ireturn, 1) := by decide +kernel
theorem dL_law_1498 : decode cL_law 1498 = .ok (.goto 126, 3) := by decide +kernel
theorem dL_law_1501 : decode cL_law 1501 = .ok (.aload_n 1, 1) := by decide +kernel
theorem dL_law_1502 : decode cL_law 1502 = .ok (.aload_n 3, 1) := by decide +kernel
theorem dL_law_1503 : decode cL_law 1503 = .ok (.invokestatic 185, 3) := by decide +kernel
theorem dL_law_1506 : decode cL_law 1506 = .ok (.istore 6, 2) := by decide +kernel
theorem dL_law_1508 : decode cL_law 1508 = .ok (.aload_n 2, 1) := by decide +kernel
theorem dL_law_1509 : decode cL_law 1509 = .ok (.invokevirtual 187, 3) := by decide +kernel
theorem dL_law_1512 : decode cL_law 1512 = .ok (.istore 7, 2) := by decide +kernel
theorem dL_law_1514 : decode cL_law 1514 = .ok (.aload_n 2, 1) := by decide +kernel
theorem dL_law_1515 : decode cL_law 1515 = .ok (.invokevirtual 97, 3) := by decide +kernel
theorem dL_law_1518 : decode cL_law 1518 = .ok (.iload 6, 2) := by decide +kernel
theorem dL_law_1520 : decode cL_law 1520 = .ok (.if_icmp .eq 5, 3) := by decide +kernel
theorem dL_law_1523 : decode cL_law 1523 = .ok (.iconst 0, 1) := by decide +kernel
theorem dL_law_1524 : decode cL_law 1524 = .ok (.ireturn, 1) := by decide +kernel
theorem dL_law_1525 : decode cL_law 1525 = .ok (.iload 6, 2) := by decide +kernel
theorem dL_law_1527 : decode cL_law 1527 = .ok (.ifCond .ne 15, 3) := by decide +kernel
theorem dL_law_1530 : decode cL_law 1530 = .ok (.aload_n 3, 1) := by decide +kernel
theorem dL_law_1531 : decode cL_law 1531 = .ok (.iconst 0, 1) := by decide +kernel
theorem dL_law_1532 : decode cL_law 1532 = .ok (.laload, 1) := by decide +kernel
theorem dL_law_1533 : decode cL_law 1533 = .ok (.iload 7, 2) := by decide +kernel
theorem dL_law_1535 : decode cL_law 1535 = .ok (.i2l, 1) := by decide +kernel
theorem dL_law_1536 : decode cL_law 1536 = .ok (.lcmp, 1) := by decide +kernel
theorem dL_law_1537 : decode cL_law 1537 = .ok (.ifCond .eq 5, 3) := by decide +kernel
theorem dL_law_1540 : decode cL_law 1540 = .ok (.iconst 0, 1) := by decide +kernel
theorem dL_law_1541 : decode cL_law 1541 = .ok (.ireturn, 1) := by decide +kernel
theorem dL_law_1542 : decode cL_law 1542 = .ok (.goto 82, 3) := by decide +kernel
theorem dL_law_1545 : decode cL_law 1545 = .ok (.aload_n 1, 1) := by decide +kernel
theorem dL_law_1546 : decode cL_law 1546 = .ok (.aload 4, 2) := by decide +kernel
theorem dL_law_1548 : decode cL_law 1548 = .ok (.invokestatic 188, 3) := by decide +kernel
theorem dL_law_1551 : decode cL_law 1551 = .ok (.istore 6, 2) := by decide +kernel
theorem dL_law_1553 : decode cL_law 1553 = .ok (.aload_n 2, 1) := by decide +kernel
theorem dL_law_1554 : decode cL_law 1554 = .ok (.invokevirtual 191, 3) := by decide +kernel
theorem dL_law_1557 : decode cL_law 1557 = .ok (.dstore 7, 2) := by decide +kernel
theorem dL_law_1559 : decode cL_law 1559 = .ok (.aload_n 2, 1) := by decide +kernel
theorem dL_law_1560 : decode cL_law 1560 = .ok (.invokevirtual 97, 3) := by decide +kernel
theorem dL_law_1563 : decode cL_law 1563 = .ok (.iload 6, 2) := by decide +kernel
theorem dL_law_1565 : decode cL_law 1565 = .ok (.if_icmp .eq 5, 3) := by decide +kernel
theorem dL_law_1568 : decode cL_law 1568 = .ok (.iconst 0, 1) := by decide +kernel
theorem dL_law_1569 : decode cL_law 1569 = .ok (.ireturn, 1) := by decide +kernel
theorem dL_law_1570 : decode cL_law 1570 = .ok (.iload 6, 2) := by decide +kernel
theorem dL_law_1572 : decode cL_law 1572 = .ok (.ifCond .ne 35, 3) := by decide +kernel
theorem dL_law_1575 : decode cL_law 1575 = .ok (.aload 4, 2) := by decide +kernel
theorem dL_law_1577 : decode cL_law 1577 = .ok (.iconst 0, 1) := by decide +kernel
theorem dL_law_1578 : decode cL_law 1578 = .ok (.daload, 1) := by decide +kernel
theorem dL_law_1579 : decode cL_law 1579 = .ok (.dload 7, 2) := by decide +kernel
theorem dL_law_1581 : decode cL_law 1581 = .ok (.dcmp .l, 1) := by decide +kernel
theorem dL_law_1582 : decode cL_law 1582 = .ok (.ifCond .eq 25, 3) := by decide +kernel
theorem dL_law_1585 : decode cL_law 1585 = .ok (.aload 4, 2) := by decide +kernel
theorem dL_law_1587 : decode cL_law 1587 = .ok (.iconst 0, 1) := by decide +kernel
theorem dL_law_1588 : decode cL_law 1588 = .ok (.daload, 1) := by decide +kernel
theorem dL_law_1589 : decode cL_law 1589 = .ok (.aload 4, 2) := by decide +kernel
theorem dL_law_1591 : decode cL_law 1591 = .ok (.iconst 0, 1) := by decide +kernel
theorem dL_law_1592 : decode cL_law 1592 = .ok (.daload, 1) := by decide +kernel
theorem dL_law_1593 : decode cL_law 1593 = .ok (.dcmp .l, 1) := by decide +kernel
theorem dL_law_1594 : decode cL_law 1594 = .ok (.ifCond .eq 11, 3) := by decide +kernel
theorem dL_law_1597 : decode cL_law 1597 = .ok (.dload 7, 2) := by decide +kernel
theorem dL_law_1599 : decode cL_law 1599 = .ok (.dload 7, 2) := by decide +kernel
theorem dL_law_1601 : decode cL_law 1601 = .ok (.dcmp .l, 1) := by decide +kernel
theorem dL_law_1602 : decode cL_law 1602 = .ok (.ifCond .ne 5, 3) := by decide +kernel
theorem dL_law_1605 : decode cL_law 1605 = .ok (.iconst 0, 1) := by decide +kernel
theorem dL_law_1606 : decode cL_law 1606 = .ok (.ireturn, 1) := by decide +kernel
theorem dL_law_1607 : decode cL_law 1607 = .ok (.goto 17, 3) := by decide +kernel
theorem dL_law_1610 : decode cL_law 1610 = .ok (.aload_n 1, 1) := by decide +kernel
theorem dL_law_1611 : decode cL_law 1611 = .ok (.invokevirtual 192, 3) := by decide +kernel
theorem dL_law_1614 : decode cL_law 1614 = .ok (.aload_n 2, 1) := by decide +kernel
theorem dL_law_1615 : decode cL_law 1615 = .ok (.invokevirtual 196, 3) := by decide +kernel
theorem dL_law_1618 : decode cL_law 1618 = .ok (.lcmp, 1) := by decide +kernel
theorem dL_law_1619 : decode cL_law 1619 = .ok (.ifCond .eq 5, 3) := by decide +kernel
theorem dL_law_1622 : decode cL_law 1622 = .ok (.iconst 0, 1) := by decide +kernel
theorem dL_law_1623 : decode cL_law 1623 = .ok (.ireturn, 1) := by decide +kernel
theorem dL_law_1624 : decode cL_law 1624 = .ok (.iinc 5 5, 3) := by decide +kernel
theorem dL_law_1627 : decode cL_law 1627 = .ok (.goto (-1599), 3) := by decide +kernel
theorem dL_law_1630 : decode cL_law 1630 = .ok (.iconst 1, 1) := by decide +kernel
theorem dL_law_1631 : decode cL_law 1631 = .ok (.ireturn, 1) := by decide +kernel
