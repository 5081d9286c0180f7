/-! the law's instructions -/
theorem d_law_280 : decode code 280 = .ok (.aload_n 0, 1) := by decide +kernel
theorem d_law_281 : decode code 281 = .ok (.iload 4, 2) := by decide +kernel
theorem d_law_283 : decode code 283 = .ok (.iconst 1, 1) := by decide +kernel
theorem d_law_284 : decode code 284 = .ok (.iadd, 1) := by decide +kernel
theorem d_law_285 : decode code 285 = .ok (.iaload, 1) := by decide +kernel
theorem d_law_286 : decode code 286 = .ok (.aload_n 0, 1) := by decide +kernel
theorem d_law_287 : decode code 287 = .ok (.iload 4, 2) := by decide +kernel
theorem d_law_289 : decode code 289 = .ok (.iconst 2, 1) := by decide +kernel
theorem d_law_290 : decode code 290 = .ok (.iadd, 1) := by decide +kernel
theorem d_law_291 : decode code 291 = .ok (.iaload, 1) := by decide +kernel
theorem d_law_292 : decode code 292 = .ok (.aload_n 3, 1) := by decide +kernel
theorem d_law_293 : decode code 293 = .ok (.invokestatic 95, 3) := by decide +kernel
theorem d_law_296 : decode code 296 = .ok (.istore 5, 2) := by decide +kernel
theorem d_law_298 : decode code 298 = .ok (.aload_n 2, 1) := by decide +kernel
theorem d_law_299 : decode code 299 = .ok (.aload_n 0, 1) := by decide +kernel
theorem d_law_300 : decode code 300 = .ok (.iload 4, 2) := by decide +kernel
theorem d_law_302 : decode code 302 = .ok (.iconst 1, 1) := by decide +kernel
theorem d_law_303 : decode code 303 = .ok (.iadd, 1) := by decide +kernel
theorem d_law_304 : decode code 304 = .ok (.iaload, 1) := by decide +kernel
theorem d_law_305 : decode code 305 = .ok (.aload_n 0, 1) := by decide +kernel
theorem d_law_306 : decode code 306 = .ok (.iload 4, 2) := by decide +kernel
theorem d_law_308 : decode code 308 = .ok (.iconst 2, 1) := by decide +kernel
theorem d_law_309 : decode code 309 = .ok (.iadd, 1) := by decide +kernel
theorem d_law_310 : decode code 310 = .ok (.iaload, 1) := by decide +kernel
theorem d_law_311 : decode code 311 = .ok (.invokevirtual 98, 3) := by decide +kernel
theorem d_law_314 : decode code 314 = .ok (.istore 6, 2) := by decide +kernel
theorem d_law_316 : decode code 316 = .ok (.aload_n 2, 1) := by decide +kernel
theorem d_law_317 : decode code 317 = .ok (.invokevirtual 85, 3) := by decide +kernel
theorem d_law_320 : decode code 320 = .ok (.iload 5, 2) := by decide +kernel
theorem d_law_322 : decode code 322 = .ok (.if_icmp .eq 5, 3) := by decide +kernel
theorem d_law_325 : decode code 325 = .ok (.iconst 0, 1) := by decide +kernel
theorem d_law_326 : decode code 326 = .ok (.ireturn, 1) := by decide +kernel
theorem d_law_327 : decode code 327 = .ok (.iload 5, 2) := by decide +kernel
theorem d_law_329 : decode code 329 = .ok (.ifCond .ne 22, 3) := by decide +kernel
theorem d_law_332 : decode code 332 = .ok (.aload_n 3, 1) := by decide +kernel
theorem d_law_333 : decode code 333 = .ok (.iconst 0, 1) := by decide +kernel
theorem d_law_334 : decode code 334 = .ok (.laload, 1) := by decide +kernel
theorem d_law_335 : decode code 335 = .ok (.iload 6, 2) := by decide +kernel
theorem d_law_337 : decode code 337 = .ok (.ifCond .eq 7, 3) := by decide +kernel
theorem d_law_340 : decode code 340 = .ok (.lconst 1, 1) := by decide +kernel
theorem d_law_341 : decode code 341 = .ok (.goto 4, 3) := by decide +kernel
theorem d_law_344 : decode code 344 = .ok (.lconst 0, 1) := by decide +kernel
theorem d_law_345 : decode code 345 = .ok (.lcmp, 1) := by decide +kernel
theorem d_law_346 : decode code 346 = .ok (.ifCond .eq 5, 3) := by decide +kernel
theorem d_law_349 : decode code 349 = .ok (.iconst 0, 1) := by decide +kernel
theorem d_law_350 : decode code 350 = .ok (.ireturn, 1) := by decide +kernel
theorem d_law_351 : decode code 351 = .ok (.goto 720, 3) := by decide +kernel
theorem d_law_354 : decode code 354 = .ok (.aload_n 1, 1) := by decide +kernel
theorem d_law_355 : decode code 355 = .ok (.aload_n 0, 1) := by decide +kernel
theorem d_law_356 : decode code 356 = .ok (.iload 4, 2) := by decide +kernel
theorem d_law_358 : decode code 358 = .ok (.iconst 1, 1) := by decide +kernel
theorem d_law_359 : decode code 359 = .ok (.iadd, 1) := by decide +kernel
theorem d_law_360 : decode code 360 = .ok (.iaload, 1) := by decide +kernel
theorem d_law_361 : decode code 361 = .ok (.aload_n 3, 1) := by decide +kernel
theorem d_law_362 : decode code 362 = .ok (.invokestatic 99, 3) := by decide +kernel
theorem d_law_365 : decode code 365 = .ok (.istore 5, 2) := by decide +kernel
theorem d_law_367 : decode code 367 = .ok (.aload_n 2, 1) := by decide +kernel
theorem d_law_368 : decode code 368 = .ok (.aload_n 0, 1) := by decide +kernel
theorem d_law_369 : decode code 369 = .ok (.iload 4, 2) := by decide +kernel
theorem d_law_371 : decode code 371 = .ok (.iconst 1, 1) := by decide +kernel
theorem d_law_372 : decode code 372 = .ok (.iadd, 1) := by decide +kernel
theorem d_law_373 : decode code 373 = .ok (.iaload, 1) := by decide +kernel
theorem d_law_374 : decode code 374 = .ok (.invokevirtual 101, 3) := by decide +kernel
theorem d_law_377 : decode code 377 = .ok (.istore 6, 2) := by decide +kernel
theorem d_law_379 : decode code 379 = .ok (.aload_n 2, 1) := by decide +kernel
theorem d_law_380 : decode code 380 = .ok (.invokevirtual 85, 3) := by decide +kernel
theorem d_law_383 : decode code 383 = .ok (.iload 5, 2) := by decide +kernel
theorem d_law_385 : decode code 385 = .ok (.if_icmp .eq 5, 3) := by decide +kernel
theorem d_law_388 : decode code 388 = .ok (.iconst 0, 1) := by decide +kernel
theorem d_law_389 : decode code 389 = .ok (.ireturn, 1) := by decide +kernel
theorem d_law_390 : decode code 390 = .ok (.iload 5, 2) := by decide +kernel
theorem d_law_392 : decode code 392 = .ok (.ifCond .ne 15, 3) := by decide +kernel
theorem d_law_395 : decode code 395 = .ok (.aload_n 3, 1) := by decide +kernel
theorem d_law_396 : decode code 396 = .ok (.iconst 0, 1) := by decide +kernel
theorem d_law_397 : decode code 397 = .ok (.laload, 1) := by decide +kernel
theorem d_law_398 : decode code 398 = .ok (.iload 6, 2) := by decide +kernel
theorem d_law_400 : decode code 400 = .ok (.i2l, 1) := by decide +kernel
theorem d_law_401 : decode code 401 = .ok (.lcmp, 1) := by decide +kernel
theorem d_law_402 : decode code 402 = .ok (.ifCond .eq 5, 3) := by decide +kernel
theorem d_law_405 : decode code 405 = .ok (.iconst 0, 1) := by decide +kernel
theorem d_law_406 : decode code 406 = .ok (.ireturn, 1) := by decide +kernel
theorem d_law_407 : decode code 407 = .ok (.goto 664, 3) := by decide +kernel
theorem d_law_410 : decode code 410 = .ok (.aload_n 1, 1) := by decide +kernel
theorem d_law_411 : decode code 411 = .ok (.aload_n 3, 1) := by decide +kernel
theorem d_law_412 : decode code 412 = .ok (.invokestatic 102, 3) := by decide +kernel
theorem d_law_415 : decode code 415 = .ok (.istore 5, 2) := by decide +kernel
theorem d_law_417 : decode code 417 = .ok (.aload_n 2, 1) := by decide +kernel
theorem d_law_418 : decode code 418 = .ok (.invokevirtual 104, 3) := by decide +kernel
theorem d_law_421 : decode code 421 = .ok (.istore 6, 2) := by decide +kernel
theorem d_law_423 : decode code 423 = .ok (.aload_n 2, 1) := by decide +kernel
theorem d_law_424 : decode code 424 = .ok (.invokevirtual 85, 3) := by decide +kernel
theorem d_law_427 : decode code 427 = .ok (.iload 5, 2) := by decide +kernel
theorem d_law_429 : decode code 429 = .ok (.if_icmp .eq 5, 3) := by decide +kernel
theorem d_law_432 : decode code 432 = .ok (.iconst 0, 1) := by decide +kernel
theorem d_law_433 : decode code 433 = .ok (.ireturn, 1) := by decide +kernel
theorem d_law_434 : decode code 434 = .ok (.iload 5, 2) := by decide +kernel
theorem d_law_436 : decode code 436 = .ok (.ifCond .ne 15, 3) := by decide +kernel
theorem d_law_439 : decode code 439 = .ok (.aload_n 3, 1) := by decide +kernel
theorem d_law_440 : decode code 440 = .ok (.iconst 0, 1) := by decide +kernel
theorem d_law_441 : decode code 441 = .ok (.laload, 1) := by decide +kernel
theorem d_law_442 : decode code 442 = .ok (.iload 6, 2) := by decide +kernel
theorem d_law_444 : decode code 444 = .ok (.i2l, 1) := by decide +kernel
theorem d_law_445 : decode code 445 = .ok (.lcmp, 1) := by decide +kernel
theorem d_law_446 : decode code 446 = .ok (.ifCond .eq 5, 3) := by decide +kernel
theorem d_law_449 : decode code 449 = .ok (.iconst 0, 1) := by decide +kernel
theorem d_law_450 : decode code 450 = .ok (.ireturn, 1) := by decide +kernel
theorem d_law_451 : decode code 451 = .ok (.goto 620, 3) := by decide +kernel
theorem d_law_454 : decode code 454 = .ok (.aload_n 1, 1) := by decide +kernel
theorem d_law_455 : decode code 455 = .ok (.aload_n 3, 1) := by decide +kernel
theorem d_law_456 : decode code 456 = .ok (.invokestatic 105, 3) := by decide +kernel
theorem d_law_459 : decode code 459 = .ok (.istore 5, 2) := by decide +kernel
theorem d_law_461 : decode code 461 = .ok (.aload_n 2, 1) := by decide +kernel
theorem d_law_462 : decode code 462 = .ok (.invokevirtual 107, 3) := by decide +kernel
theorem d_law_465 : decode code 465 = .ok (.istore 6, 2) := by decide +kernel
theorem d_law_467 : decode code 467 = .ok (.aload_n 2, 1) := by decide +kernel
theorem d_law_468 : decode code 468 = .ok (.invokevirtual 85, 3) := by decide +kernel
theorem d_law_471 : decode code 471 = .ok (.iload 5, 2) := by decide +kernel
theorem d_law_473 : decode code 473 = .ok (.if_icmp .eq 5, 3) := by decide +kernel
theorem d_law_476 : decode code 476 = .ok (.iconst 0, 1) := by decide +kernel
theorem d_law_477 : decode code 477 = .ok (.ireturn, 1) := by decide +kernel
