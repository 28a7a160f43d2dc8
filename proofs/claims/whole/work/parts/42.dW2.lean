theorem d_L_law_275 : decode b_L_law 275 = .ok (.aload_n 2, 1) := by decide +kernel
theorem d_L_law_276 : decode b_L_law 276 = .ok (.aload_n 0, 1) := by decide +kernel
theorem d_L_law_277 : decode b_L_law 277 = .ok (.iload 4, 2) := by decide +kernel
theorem d_L_law_279 : decode b_L_law 279 = .ok (.iconst 1, 1) := by decide +kernel
theorem d_L_law_280 : decode b_L_law 280 = .ok (.iadd, 1) := by decide +kernel
theorem d_L_law_281 : decode b_L_law 281 = .ok (.iaload, 1) := by decide +kernel
theorem d_L_law_282 : decode b_L_law 282 = .ok (.aload_n 0, 1) := by decide +kernel
theorem d_L_law_283 : decode b_L_law 283 = .ok (.iload 4, 2) := by decide +kernel
theorem d_L_law_285 : decode b_L_law 285 = .ok (.iconst 2, 1) := by decide +kernel
theorem d_L_law_286 : decode b_L_law 286 = .ok (.iadd, 1) := by decide +kernel
theorem d_L_law_287 : decode b_L_law 287 = .ok (.iaload, 1) := by decide +kernel
theorem d_L_law_288 : decode b_L_law 288 = .ok (.invokevirtual 86, 3) := by decide +kernel
theorem d_L_law_291 : decode b_L_law 291 = .ok (.istore 6, 2) := by decide +kernel
theorem d_L_law_293 : decode b_L_law 293 = .ok (.aload_n 2, 1) := by decide +kernel
theorem d_L_law_294 : decode b_L_law 294 = .ok (.invokevirtual 77, 3) := by decide +kernel
theorem d_L_law_297 : decode b_L_law 297 = .ok (.iload 5, 2) := by decide +kernel
theorem d_L_law_299 : decode b_L_law 299 = .ok (.if_icmp .eq 5, 3) := by decide +kernel
theorem d_L_law_302 : decode b_L_law 302 = .ok (.iconst 0, 1) := by decide +kernel
theorem d_L_law_303 : decode b_L_law 303 = .ok (.ireturn, 1) := by decide +kernel
theorem d_L_law_304 : decode b_L_law 304 = .ok (.iload 5, 2) := by decide +kernel
theorem d_L_law_306 : decode b_L_law 306 = .ok (.ifCond .ne 15, 3) := by decide +kernel
theorem d_L_law_309 : decode b_L_law 309 = .ok (.aload_n 3, 1) := by decide +kernel
theorem d_L_law_310 : decode b_L_law 310 = .ok (.iconst 0, 1) := by decide +kernel
theorem d_L_law_311 : decode b_L_law 311 = .ok (.laload, 1) := by decide +kernel
theorem d_L_law_312 : decode b_L_law 312 = .ok (.iload 6, 2) := by decide +kernel
theorem d_L_law_314 : decode b_L_law 314 = .ok (.i2l, 1) := by decide +kernel
theorem d_L_law_315 : decode b_L_law 315 = .ok (.lcmp, 1) := by decide +kernel
theorem d_L_law_316 : decode b_L_law 316 = .ok (.ifCond .eq 5, 3) := by decide +kernel
theorem d_L_law_319 : decode b_L_law 319 = .ok (.iconst 0, 1) := by decide +kernel
theorem d_L_law_320 : decode b_L_law 320 = .ok (.ireturn, 1) := by decide +kernel
theorem d_L_law_321 : decode b_L_law 321 = .ok (.goto 897, 3) := by decide +kernel
theorem d_L_law_324 : decode b_L_law 324 = .ok (.aload_n 1, 1) := by decide +kernel
theorem d_L_law_325 : decode b_L_law 325 = .ok (.aload_n 0, 1) := by decide +kernel
theorem d_L_law_326 : decode b_L_law 326 = .ok (.iload 4, 2) := by decide +kernel
theorem d_L_law_328 : decode b_L_law 328 = .ok (.iconst 1, 1) := by decide +kernel
theorem d_L_law_329 : decode b_L_law 329 = .ok (.iadd, 1) := by decide +kernel
theorem d_L_law_330 : decode b_L_law 330 = .ok (.iaload, 1) := by decide +kernel
theorem d_L_law_331 : decode b_L_law 331 = .ok (.aload_n 0, 1) := by decide +kernel
theorem d_L_law_332 : decode b_L_law 332 = .ok (.iload 4, 2) := by decide +kernel
theorem d_L_law_334 : decode b_L_law 334 = .ok (.iconst 2, 1) := by decide +kernel
theorem d_L_law_335 : decode b_L_law 335 = .ok (.iadd, 1) := by decide +kernel
theorem d_L_law_336 : decode b_L_law 336 = .ok (.iaload, 1) := by decide +kernel
theorem d_L_law_337 : decode b_L_law 337 = .ok (.aload_n 0, 1) := by decide +kernel
theorem d_L_law_338 : decode b_L_law 338 = .ok (.iload 4, 2) := by decide +kernel
theorem d_L_law_340 : decode b_L_law 340 = .ok (.iconst 3, 1) := by decide +kernel
theorem d_L_law_341 : decode b_L_law 341 = .ok (.iadd, 1) := by decide +kernel
theorem d_L_law_342 : decode b_L_law 342 = .ok (.iaload, 1) := by decide +kernel
theorem d_L_law_343 : decode b_L_law 343 = .ok (.aload_n 0, 1) := by decide +kernel
theorem d_L_law_344 : decode b_L_law 344 = .ok (.iload 4, 2) := by decide +kernel
theorem d_L_law_346 : decode b_L_law 346 = .ok (.iconst 4, 1) := by decide +kernel
theorem d_L_law_347 : decode b_L_law 347 = .ok (.iadd, 1) := by decide +kernel
theorem d_L_law_348 : decode b_L_law 348 = .ok (.iaload, 1) := by decide +kernel
theorem d_L_law_349 : decode b_L_law 349 = .ok (.aload_n 0, 1) := by decide +kernel
theorem d_L_law_350 : decode b_L_law 350 = .ok (.iload 4, 2) := by decide +kernel
theorem d_L_law_352 : decode b_L_law 352 = .ok (.iconst 5, 1) := by decide +kernel
theorem d_L_law_353 : decode b_L_law 353 = .ok (.iadd, 1) := by decide +kernel
theorem d_L_law_354 : decode b_L_law 354 = .ok (.iaload, 1) := by decide +kernel
theorem d_L_law_355 : decode b_L_law 355 = .ok (.aload_n 3, 1) := by decide +kernel
theorem d_L_law_356 : decode b_L_law 356 = .ok (.invokestatic 87, 3) := by decide +kernel
theorem d_L_law_359 : decode b_L_law 359 = .ok (.istore 5, 2) := by decide +kernel
theorem d_L_law_361 : decode b_L_law 361 = .ok (.aload_n 2, 1) := by decide +kernel
theorem d_L_law_362 : decode b_L_law 362 = .ok (.aload_n 0, 1) := by decide +kernel
theorem d_L_law_363 : decode b_L_law 363 = .ok (.iload 4, 2) := by decide +kernel
theorem d_L_law_365 : decode b_L_law 365 = .ok (.iconst 1, 1) := by decide +kernel
theorem d_L_law_366 : decode b_L_law 366 = .ok (.iadd, 1) := by decide +kernel
theorem d_L_law_367 : decode b_L_law 367 = .ok (.iaload, 1) := by decide +kernel
theorem d_L_law_368 : decode b_L_law 368 = .ok (.aload_n 0, 1) := by decide +kernel
theorem d_L_law_369 : decode b_L_law 369 = .ok (.iload 4, 2) := by decide +kernel
theorem d_L_law_371 : decode b_L_law 371 = .ok (.iconst 2, 1) := by decide +kernel
theorem d_L_law_372 : decode b_L_law 372 = .ok (.iadd, 1) := by decide +kernel
theorem d_L_law_373 : decode b_L_law 373 = .ok (.iaload, 1) := by decide +kernel
theorem d_L_law_374 : decode b_L_law 374 = .ok (.aload_n 0, 1) := by decide +kernel
theorem d_L_law_375 : decode b_L_law 375 = .ok (.iload 4, 2) := by decide +kernel
theorem d_L_law_377 : decode b_L_law 377 = .ok (.iconst 3, 1) := by decide +kernel
theorem d_L_law_378 : decode b_L_law 378 = .ok (.iadd, 1) := by decide +kernel
theorem d_L_law_379 : decode b_L_law 379 = .ok (.iaload, 1) := by decide +kernel
theorem d_L_law_380 : decode b_L_law 380 = .ok (.aload_n 0, 1) := by decide +kernel
theorem d_L_law_381 : decode b_L_law 381 = .ok (.iload 4, 2) := by decide +kernel
theorem d_L_law_383 : decode b_L_law 383 = .ok (.iconst 4, 1) := by decide +kernel
theorem d_L_law_384 : decode b_L_law 384 = .ok (.iadd, 1) := by decide +kernel
theorem d_L_law_385 : decode b_L_law 385 = .ok (.iaload, 1) := by decide +kernel
theorem d_L_law_386 : decode b_L_law 386 = .ok (.aload_n 0, 1) := by decide +kernel
theorem d_L_law_387 : decode b_L_law 387 = .ok (.iload 4, 2) := by decide +kernel
theorem d_L_law_389 : decode b_L_law 389 = .ok (.iconst 5, 1) := by decide +kernel
theorem d_L_law_390 : decode b_L_law 390 = .ok (.iadd, 1) := by decide +kernel
theorem d_L_law_391 : decode b_L_law 391 = .ok (.iaload, 1) := by decide +kernel
theorem d_L_law_392 : decode b_L_law 392 = .ok (.invokevirtual 90, 3) := by decide +kernel
theorem d_L_law_395 : decode b_L_law 395 = .ok (.istore 6, 2) := by decide +kernel
theorem d_L_law_397 : decode b_L_law 397 = .ok (.aload_n 2, 1) := by decide +kernel
theorem d_L_law_398 : decode b_L_law 398 = .ok (.invokevirtual 77, 3) := by decide +kernel
theorem d_L_law_401 : decode b_L_law 401 = .ok (.iload 5, 2) := by decide +kernel
theorem d_L_law_403 : decode b_L_law 403 = .ok (.if_icmp .eq 5, 3) := by decide +kernel
theorem d_L_law_406 : decode b_L_law 406 = .ok (.iconst 0, 1) := by decide +kernel
theorem d_L_law_407 : decode b_L_law 407 = .ok (.ireturn, 1) := by decide +kernel
theorem d_L_law_408 : decode b_L_law 408 = .ok (.iload 5, 2) := by decide +kernel
theorem d_L_law_410 : decode b_L_law 410 = .ok (.ifCond .ne 15, 3) := by decide +kernel
theorem d_L_law_413 : decode b_L_law 413 = .ok (.aload_n 3, 1) := by decide +kernel
theorem d_L_law_414 : decode b_L_law 414 = .ok (.iconst 0, 1) := by decide +kernel
theorem d_L_law_415 : decode b_L_law 415 = .ok (.laload, 1) := by decide +kernel
theorem d_L_law_416 : decode b_L_law 416 = .ok (.iload 6, 2) := by decide +kernel
theorem d_L_law_418 : decode b_L_law 418 = .ok (.i2l, 1) := by decide +kernel
theorem d_L_law_419 : decode b_L_law 419 = .ok (.lcmp, 1) := by decide +kernel
theorem d_L_law_420 : decode b_L_law 420 = .ok (.ifCond .eq 5, 3) := by decide +kernel
theorem d_L_law_423 : decode b_L_law 423 = .ok (.iconst 0, 1) := by decide +kernel
theorem d_L_law_424 : decode b_L_law 424 = .ok (.ireturn, 1) := by decide +kernel
theorem d_L_law_425 : decode b_L_law 425 = .ok (.goto 793, 3) := by decide +kernel
theorem d_L_law_428 : decode b_L_law 428 = .ok (.aload_n 1, 1) := by decide +kernel
theorem d_L_law_429 : decode b_L_law 429 = .ok (.aload_n 0, 1) := by decide +kernel
theorem d_L_law_430 : decode b_L_law 430 = .ok (.iload 4, 2) := by decide +kernel
theorem d_L_law_432 : decode b_L_law 432 = .ok (.iconst 1, 1) := by decide +kernel
theorem d_L_law_433 : decode b_L_law 433 = .ok (.iadd, 1) := by decide +kernel
theorem d_L_law_434 : decode b_L_law 434 = .ok (.iaload, 1) := by decide +kernel
theorem d_L_law_435 : decode b_L_law 435 = .ok (.aload_n 0, 1) := by decide +kernel
theorem d_L_law_436 : decode b_L_law 436 = .ok (.iload 4, 2) := by decide +kernel
theorem d_L_law_438 : decode b_L_law 438 = .ok (.iconst 2, 1) := by decide +kernel
theorem d_L_law_439 : decode b_L_law 439 = .ok (.iadd, 1) := by decide +kernel
theorem d_L_law_440 : decode b_L_law 440 = .ok (.iaload, 1) := by decide +kernel
theorem d_L_law_441 : decode b_L_law 441 = .ok (.ifCond .eq 7, 3) := by decide +kernel
theorem d_L_law_444 : decode b_L_law 444 = .ok (.iconst 1, 1) := by decide +kernel
theorem d_L_law_445 : decode b_L_law 445 = .ok (.goto 4, 3) := by decide +kernel
theorem d_L_law_448 : decode b_L_law 448 = .ok (.iconst 0, 1) := by decide +kernel
theorem d_L_law_449 : decode b_L_law 449 = .ok (.aload_n 3, 1) := by decide +kernel
theorem d_L_law_450 : decode b_L_law 450 = .ok (.invokestatic 91, 3) := by decide +kernel
theorem d_L_law_453 : decode b_L_law 453 = .ok (.istore 5, 2) := by decide +kernel
theorem d_L_law_455 : decode b_L_law 455 = .ok (.aload_n 2, 1) := by decide +kernel
theorem d_L_law_456 : decode b_L_law 456 = .ok (.aload_n 0, 1) := by decide +kernel
theorem d_L_law_457 : decode b_L_law 457 = .ok (.iload 4, 2) := by decide +kernel
theorem d_L_law_459 : decode b_L_law 459 = .ok (.iconst 1, 1) := by decide +kernel
theorem d_L_law_460 : decode b_L_law 460 = .ok (.iadd, 1) := by decide +kernel
theorem d_L_law_461 : decode b_L_law 461 = .ok (.iaload, 1) := by decide +kernel
