theorem dL_law_275 : decode jL_law.2.1 275 = .ok (.aload_n 2, 1) := by decide +kernel
theorem dL_law_276 : decode jL_law.2.1 276 = .ok (.aload_n 0, 1) := by decide +kernel
theorem dL_law_277 : decode jL_law.2.1 277 = .ok (.iload 4, 2) := by decide +kernel
theorem dL_law_279 : decode jL_law.2.1 279 = .ok (.iconst 1, 1) := by decide +kernel
theorem dL_law_280 : decode jL_law.2.1 280 = .ok (.iadd, 1) := by decide +kernel
theorem dL_law_281 : decode jL_law.2.1 281 = .ok (.iaload, 1) := by decide +kernel
theorem dL_law_282 : decode jL_law.2.1 282 = .ok (.aload_n 0, 1) := by decide +kernel
theorem dL_law_283 : decode jL_law.2.1 283 = .ok (.iload 4, 2) := by decide +kernel
theorem dL_law_285 : decode jL_law.2.1 285 = .ok (.iconst 2, 1) := by decide +kernel
theorem dL_law_286 : decode jL_law.2.1 286 = .ok (.iadd, 1) := by decide +kernel
theorem dL_law_287 : decode jL_law.2.1 287 = .ok (.iaload, 1) := by decide +kernel
theorem dL_law_288 : decode jL_law.2.1 288 = .ok (.i2l, 1) := by decide +kernel
theorem dL_law_289 : decode jL_law.2.1 289 = .ok (.bipush 32, 2) := by decide +kernel
theorem dL_law_291 : decode jL_law.2.1 291 = .ok (.lshl, 1) := by decide +kernel
theorem dL_law_292 : decode jL_law.2.1 292 = .ok (.aload_n 0, 1) := by decide +kernel
theorem dL_law_293 : decode jL_law.2.1 293 = .ok (.iload 4, 2) := by decide +kernel
theorem dL_law_295 : decode jL_law.2.1 295 = .ok (.iconst 3, 1) := by decide +kernel
theorem dL_law_296 : decode jL_law.2.1 296 = .ok (.iadd, 1) := by decide +kernel
theorem dL_law_297 : decode jL_law.2.1 297 = .ok (.iaload, 1) := by decide +kernel
theorem dL_law_298 : decode jL_law.2.1 298 = .ok (.i2l, 1) := by decide +kernel
theorem dL_law_299 : decode jL_law.2.1 299 = .ok (.ldc2_w 79, 3) := by decide +kernel
theorem dL_law_302 : decode jL_law.2.1 302 = .ok (.land, 1) := by decide +kernel
theorem dL_law_303 : decode jL_law.2.1 303 = .ok (.lor, 1) := by decide +kernel
theorem dL_law_304 : decode jL_law.2.1 304 = .ok (.invokevirtual 93, 3) := by decide +kernel
theorem dL_law_307 : decode jL_law.2.1 307 = .ok (.lstore 6, 2) := by decide +kernel
theorem dL_law_309 : decode jL_law.2.1 309 = .ok (.aload_n 2, 1) := by decide +kernel
theorem dL_law_310 : decode jL_law.2.1 310 = .ok (.invokevirtual 87, 3) := by decide +kernel
theorem dL_law_313 : decode jL_law.2.1 313 = .ok (.iload 5, 2) := by decide +kernel
theorem dL_law_315 : decode jL_law.2.1 315 = .ok (.if_icmp .eq 5, 3) := by decide +kernel
theorem dL_law_318 : decode jL_law.2.1 318 = .ok (.iconst 0, 1) := by decide +kernel
theorem dL_law_319 : decode jL_law.2.1 319 = .ok (.ireturn, 1) := by decide +kernel
theorem dL_law_320 : decode jL_law.2.1 320 = .ok (.iload 5, 2) := by decide +kernel
theorem dL_law_322 : decode jL_law.2.1 322 = .ok (.ifCond .ne 14, 3) := by decide +kernel
theorem dL_law_325 : decode jL_law.2.1 325 = .ok (.aload_n 3, 1) := by decide +kernel
theorem dL_law_326 : decode jL_law.2.1 326 = .ok (.iconst 0, 1) := by decide +kernel
theorem dL_law_327 : decode jL_law.2.1 327 = .ok (.laload, 1) := by decide +kernel
theorem dL_law_328 : decode jL_law.2.1 328 = .ok (.lload 6, 2) := by decide +kernel
theorem dL_law_330 : decode jL_law.2.1 330 = .ok (.lcmp, 1) := by decide +kernel
theorem dL_law_331 : decode jL_law.2.1 331 = .ok (.ifCond .eq 5, 3) := by decide +kernel
theorem dL_law_334 : decode jL_law.2.1 334 = .ok (.iconst 0, 1) := by decide +kernel
theorem dL_law_335 : decode jL_law.2.1 335 = .ok (.ireturn, 1) := by decide +kernel
theorem dL_law_336 : decode jL_law.2.1 336 = .ok (.goto 1177, 3) := by decide +kernel
theorem dL_law_339 : decode jL_law.2.1 339 = .ok (.aload_n 1, 1) := by decide +kernel
theorem dL_law_340 : decode jL_law.2.1 340 = .ok (.aload_n 0, 1) := by decide +kernel
theorem dL_law_341 : decode jL_law.2.1 341 = .ok (.iload 4, 2) := by decide +kernel
theorem dL_law_343 : decode jL_law.2.1 343 = .ok (.iconst 1, 1) := by decide +kernel
theorem dL_law_344 : decode jL_law.2.1 344 = .ok (.iadd, 1) := by decide +kernel
theorem dL_law_345 : decode jL_law.2.1 345 = .ok (.iaload, 1) := by decide +kernel
theorem dL_law_346 : decode jL_law.2.1 346 = .ok (.aload_n 0, 1) := by decide +kernel
theorem dL_law_347 : decode jL_law.2.1 347 = .ok (.iload 4, 2) := by decide +kernel
theorem dL_law_349 : decode jL_law.2.1 349 = .ok (.iconst 2, 1) := by decide +kernel
theorem dL_law_350 : decode jL_law.2.1 350 = .ok (.iadd, 1) := by decide +kernel
theorem dL_law_351 : decode jL_law.2.1 351 = .ok (.iaload, 1) := by decide +kernel
theorem dL_law_352 : decode jL_law.2.1 352 = .ok (.i2l, 1) := by decide +kernel
theorem dL_law_353 : decode jL_law.2.1 353 = .ok (.bipush 32, 2) := by decide +kernel
theorem dL_law_355 : decode jL_law.2.1 355 = .ok (.lshl, 1) := by decide +kernel
theorem dL_law_356 : decode jL_law.2.1 356 = .ok (.aload_n 0, 1) := by decide +kernel
theorem dL_law_357 : decode jL_law.2.1 357 = .ok (.iload 4, 2) := by decide +kernel
theorem dL_law_359 : decode jL_law.2.1 359 = .ok (.iconst 3, 1) := by decide +kernel
theorem dL_law_360 : decode jL_law.2.1 360 = .ok (.iadd, 1) := by decide +kernel
theorem dL_law_361 : decode jL_law.2.1 361 = .ok (.iaload, 1) := by decide +kernel
theorem dL_law_362 : decode jL_law.2.1 362 = .ok (.i2l, 1) := by decide +kernel
theorem dL_law_363 : decode jL_law.2.1 363 = .ok (.ldc2_w 79, 3) := by decide +kernel
theorem dL_law_366 : decode jL_law.2.1 366 = .ok (.land, 1) := by decide +kernel
theorem dL_law_367 : decode jL_law.2.1 367 = .ok (.lor, 1) := by decide +kernel
theorem dL_law_368 : decode jL_law.2.1 368 = .ok (.aload_n 3, 1) := by decide +kernel
theorem dL_law_369 : decode jL_law.2.1 369 = .ok (.invokestatic 94, 3) := by decide +kernel
theorem dL_law_372 : decode jL_law.2.1 372 = .ok (.istore 5, 2) := by decide +kernel
theorem dL_law_374 : decode jL_law.2.1 374 = .ok (.aload_n 2, 1) := by decide +kernel
theorem dL_law_375 : decode jL_law.2.1 375 = .ok (.aload_n 0, 1) := by decide +kernel
theorem dL_law_376 : decode jL_law.2.1 376 = .ok (.iload 4, 2) := by decide +kernel
theorem dL_law_378 : decode jL_law.2.1 378 = .ok (.iconst 1, 1) := by decide +kernel
theorem dL_law_379 : decode jL_law.2.1 379 = .ok (.iadd, 1) := by decide +kernel
theorem dL_law_380 : decode jL_law.2.1 380 = .ok (.iaload, 1) := by decide +kernel
theorem dL_law_381 : decode jL_law.2.1 381 = .ok (.aload_n 0, 1) := by decide +kernel
theorem dL_law_382 : decode jL_law.2.1 382 = .ok (.iload 4, 2) := by decide +kernel
theorem dL_law_384 : decode jL_law.2.1 384 = .ok (.iconst 2, 1) := by decide +kernel
theorem dL_law_385 : decode jL_law.2.1 385 = .ok (.iadd, 1) := by decide +kernel
theorem dL_law_386 : decode jL_law.2.1 386 = .ok (.iaload, 1) := by decide +kernel
theorem dL_law_387 : decode jL_law.2.1 387 = .ok (.i2l, 1) := by decide +kernel
theorem dL_law_388 : decode jL_law.2.1 388 = .ok (.bipush 32, 2) := by decide +kernel
theorem dL_law_390 : decode jL_law.2.1 390 = .ok (.lshl, 1) := by decide +kernel
theorem dL_law_391 : decode jL_law.2.1 391 = .ok (.aload_n 0, 1) := by decide +kernel
theorem dL_law_392 : decode jL_law.2.1 392 = .ok (.iload 4, 2) := by decide +kernel
theorem dL_law_394 : decode jL_law.2.1 394 = .ok (.iconst 3, 1) := by decide +kernel
theorem dL_law_395 : decode jL_law.2.1 395 = .ok (.iadd, 1) := by decide +kernel
theorem dL_law_396 : decode jL_law.2.1 396 = .ok (.iaload, 1) := by decide +kernel
theorem dL_law_397 : decode jL_law.2.1 397 = .ok (.i2l, 1) := by decide +kernel
theorem dL_law_398 : decode jL_law.2.1 398 = .ok (.ldc2_w 79, 3) := by decide +kernel
theorem dL_law_401 : decode jL_law.2.1 401 = .ok (.land, 1) := by decide +kernel
theorem dL_law_402 : decode jL_law.2.1 402 = .ok (.lor, 1) := by decide +kernel
theorem dL_law_403 : decode jL_law.2.1 403 = .ok (.invokevirtual 96, 3) := by decide +kernel
theorem dL_law_406 : decode jL_law.2.1 406 = .ok (.lstore 6, 2) := by decide +kernel
theorem dL_law_408 : decode jL_law.2.1 408 = .ok (.aload_n 2, 1) := by decide +kernel
theorem dL_law_409 : decode jL_law.2.1 409 = .ok (.invokevirtual 87, 3) := by decide +kernel
theorem dL_law_412 : decode jL_law.2.1 412 = .ok (.iload 5, 2) := by decide +kernel
theorem dL_law_414 : decode jL_law.2.1 414 = .ok (.if_icmp .eq 5, 3) := by decide +kernel
theorem dL_law_417 : decode jL_law.2.1 417 = .ok (.iconst 0, 1) := by decide +kernel
theorem dL_law_418 : decode jL_law.2.1 418 = .ok (.ireturn, 1) := by decide +kernel
theorem dL_law_419 : decode jL_law.2.1 419 = .ok (.iload 5, 2) := by decide +kernel
theorem dL_law_421 : decode jL_law.2.1 421 = .ok (.ifCond .ne 14, 3) := by decide +kernel
theorem dL_law_424 : decode jL_law.2.1 424 = .ok (.aload_n 3, 1) := by decide +kernel
theorem dL_law_425 : decode jL_law.2.1 425 = .ok (.iconst 0, 1) := by decide +kernel
theorem dL_law_426 : decode jL_law.2.1 426 = .ok (.laload, 1) := by decide +kernel
theorem dL_law_427 : decode jL_law.2.1 427 = .ok (.lload 6, 2) := by decide +kernel
theorem dL_law_429 : decode jL_law.2.1 429 = .ok (.lcmp, 1) := by decide +kernel
theorem dL_law_430 : decode jL_law.2.1 430 = .ok (.ifCond .eq 5, 3) := by decide +kernel
theorem dL_law_433 : decode jL_law.2.1 433 = .ok (.iconst 0, 1) := by decide +kernel
theorem dL_law_434 : decode jL_law.2.1 434 = .ok (.ireturn, 1) := by decide +kernel
theorem dL_law_435 : decode jL_law.2.1 435 = .ok (.goto 1078, 3) := by decide +kernel
theorem dL_law_438 : decode jL_law.2.1 438 = .ok (.aload_n 1, 1) := by decide +kernel
theorem dL_law_439 : decode jL_law.2.1 439 = .ok (.aload_n 0, 1) := by decide +kernel
theorem dL_law_440 : decode jL_law.2.1 440 = .ok (.iload 4, 2) := by decide +kernel
theorem dL_law_442 : decode jL_law.2.1 442 = .ok (.iconst 1, 1) := by decide +kernel
theorem dL_law_443 : decode jL_law.2.1 443 = .ok (.iadd, 1) := by decide +kernel
theorem dL_law_444 : decode jL_law.2.1 444 = .ok (.iaload, 1) := by decide +kernel
theorem dL_law_445 : decode jL_law.2.1 445 = .ok (.aload_n 0, 1) := by decide +kernel
theorem dL_law_446 : decode jL_law.2.1 446 = .ok (.iload 4, 2) := by decide +kernel
theorem dL_law_448 : decode jL_law.2.1 448 = .ok (.iconst 2, 1) := by decide +kernel
theorem dL_law_449 : decode jL_law.2.1 449 = .ok (.iadd, 1) := by decide +kernel
