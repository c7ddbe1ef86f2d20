theorem d_La_areLists_256 : decode c_La_areLists 256 = .ok (.if_icmp .gt 24, 3) := by decide +kernel
theorem d_La_areLists_259 : decode c_La_areLists 259 = .ok (.iload 9, 2) := by decide +kernel
theorem d_La_areLists_261 : decode c_La_areLists 261 = .ok (.ifCond .eq 15, 3) := by decide +kernel
theorem d_La_areLists_264 : decode c_La_areLists 264 = .ok (.aload_n 0, 1) := by decide +kernel
theorem d_La_areLists_265 : decode c_La_areLists 265 = .ok (.iload_n 3, 1) := by decide +kernel
theorem d_La_areLists_266 : decode c_La_areLists 266 = .ok (.iload 9, 2) := by decide +kernel
theorem d_La_areLists_268 : decode c_La_areLists 268 = .ok (.invokevirtual 45, 3) := by decide +kernel
theorem d_La_areLists_271 : decode c_La_areLists 271 = .ok (.iload 8, 2) := by decide +kernel
theorem d_La_areLists_273 : decode c_La_areLists 273 = .ok (.if_icmp .ne 7, 3) := by decide +kernel
theorem d_La_areLists_276 : decode c_La_areLists 276 = .ok (.iconst 1, 1) := by decide +kernel
theorem d_La_areLists_277 : decode c_La_areLists 277 = .ok (.goto 4, 3) := by decide +kernel
theorem d_La_areLists_280 : decode c_La_areLists 280 = .ok (.iconst 0, 1) := by decide +kernel
theorem d_La_areLists_281 : decode c_La_areLists 281 = .ok (.istore_n 1, 1) := by decide +kernel
theorem d_La_areLists_282 : decode c_La_areLists 282 = .ok (.iinc 7 1, 3) := by decide +kernel
theorem d_La_areLists_285 : decode c_La_areLists 285 = .ok (.goto (-257), 3) := by decide +kernel
theorem d_La_areLists_288 : decode c_La_areLists 288 = .ok (.iconst 0, 1) := by decide +kernel
theorem d_La_areLists_289 : decode c_La_areLists 289 = .ok (.istore 7, 2) := by decide +kernel
theorem d_La_areLists_291 : decode c_La_areLists 291 = .ok (.iload 7, 2) := by decide +kernel
theorem d_La_areLists_293 : decode c_La_areLists 293 = .ok (.aload_n 0, 1) := by decide +kernel
theorem d_La_areLists_294 : decode c_La_areLists 294 = .ok (.iconst 1, 1) := by decide +kernel
theorem d_La_areLists_295 : decode c_La_areLists 295 = .ok (.invokevirtual 22, 3) := by decide +kernel
theorem d_La_areLists_298 : decode c_La_areLists 298 = .ok (.if_icmp .ge 25, 3) := by decide +kernel
theorem d_La_areLists_301 : decode c_La_areLists 301 = .ok (.iload 6, 2) := by decide +kernel
theorem d_La_areLists_303 : decode c_La_areLists 303 = .ok (.aload_n 0, 1) := by decide +kernel
theorem d_La_areLists_304 : decode c_La_areLists 304 = .ok (.iload 7, 2) := by decide +kernel
theorem d_La_areLists_306 : decode c_La_areLists 306 = .ok (.iconst 2, 1) := by decide +kernel
theorem d_La_areLists_307 : decode c_La_areLists 307 = .ok (.invokevirtual 26, 3) := by decide +kernel
theorem d_La_areLists_310 : decode c_La_areLists 310 = .ok (.iload_n 3, 1) := by decide +kernel
theorem d_La_areLists_311 : decode c_La_areLists 311 = .ok (.ishr, 1) := by decide +kernel
theorem d_La_areLists_312 : decode c_La_areLists 312 = .ok (.iconst 1, 1) := by decide +kernel
theorem d_La_areLists_313 : decode c_La_areLists 313 = .ok (.iand, 1) := by decide +kernel
theorem d_La_areLists_314 : decode c_La_areLists 314 = .ok (.isub, 1) := by decide +kernel
theorem d_La_areLists_315 : decode c_La_areLists 315 = .ok (.istore 6, 2) := by decide +kernel
theorem d_La_areLists_317 : decode c_La_areLists 317 = .ok (.iinc 7 1, 3) := by decide +kernel
theorem d_La_areLists_320 : decode c_La_areLists 320 = .ok (.goto (-29), 3) := by decide +kernel
theorem d_La_areLists_323 : decode c_La_areLists 323 = .ok (.iload_n 1, 1) := by decide +kernel
theorem d_La_areLists_324 : decode c_La_areLists 324 = .ok (.ifCond .eq 33, 3) := by decide +kernel
theorem d_La_areLists_327 : decode c_La_areLists 327 = .ok (.iload 6, 2) := by decide +kernel
theorem d_La_areLists_329 : decode c_La_areLists 329 = .ok (.ifCond .ne 28, 3) := by decide +kernel
theorem d_La_areLists_332 : decode c_La_areLists 332 = .ok (.aload_n 0, 1) := by decide +kernel
theorem d_La_areLists_333 : decode c_La_areLists 333 = .ok (.iload_n 3, 1) := by decide +kernel
theorem d_La_areLists_334 : decode c_La_areLists 334 = .ok (.invokevirtual 48, 3) := by decide +kernel
theorem d_La_areLists_337 : decode c_La_areLists 337 = .ok (.iload 4, 2) := by decide +kernel
theorem d_La_areLists_339 : decode c_La_areLists 339 = .ok (.if_icmp .ne 18, 3) := by decide +kernel
theorem d_La_areLists_342 : decode c_La_areLists 342 = .ok (.aload_n 0, 1) := by decide +kernel
theorem d_La_areLists_343 : decode c_La_areLists 343 = .ok (.iload_n 3, 1) := by decide +kernel
theorem d_La_areLists_344 : decode c_La_areLists 344 = .ok (.iconst 0, 1) := by decide +kernel
theorem d_La_areLists_345 : decode c_La_areLists 345 = .ok (.invokevirtual 45, 3) := by decide +kernel
theorem d_La_areLists_348 : decode c_La_areLists 348 = .ok (.iload 5, 2) := by decide +kernel
theorem d_La_areLists_350 : decode c_La_areLists 350 = .ok (.if_icmp .ne 7, 3) := by decide +kernel
theorem d_La_areLists_353 : decode c_La_areLists 353 = .ok (.iconst 1, 1) := by decide +kernel
theorem d_La_areLists_354 : decode c_La_areLists 354 = .ok (.goto 4, 3) := by decide +kernel
theorem d_La_areLists_357 : decode c_La_areLists 357 = .ok (.iconst 0, 1) := by decide +kernel
theorem d_La_areLists_358 : decode c_La_areLists 358 = .ok (.istore_n 1, 1) := by decide +kernel
theorem d_La_areLists_359 : decode c_La_areLists 359 = .ok (.iinc 3 1, 3) := by decide +kernel
theorem d_La_areLists_362 : decode c_La_areLists 362 = .ok (.goto (-356), 3) := by decide +kernel
theorem d_La_areLists_365 : decode c_La_areLists 365 = .ok (.iconst 0, 1) := by decide +kernel
theorem d_La_areLists_366 : decode c_La_areLists 366 = .ok (.istore_n 3, 1) := by decide +kernel
theorem d_La_areLists_367 : decode c_La_areLists 367 = .ok (.iload_n 3, 1) := by decide +kernel
theorem d_La_areLists_368 : decode c_La_areLists 368 = .ok (.aload_n 0, 1) := by decide +kernel
theorem d_La_areLists_369 : decode c_La_areLists 369 = .ok (.iconst 3, 1) := by decide +kernel
theorem d_La_areLists_370 : decode c_La_areLists 370 = .ok (.invokevirtual 22, 3) := by decide +kernel
theorem d_La_areLists_373 : decode c_La_areLists 373 = .ok (.if_icmp .ge 103, 3) := by decide +kernel
theorem d_La_areLists_376 : decode c_La_areLists 376 = .ok (.iload_n 1, 1) := by decide +kernel
theorem d_La_areLists_377 : decode c_La_areLists 377 = .ok (.ifCond .eq 99, 3) := by decide +kernel
theorem d_La_areLists_380 : decode c_La_areLists 380 = .ok (.aload_n 0, 1) := by decide +kernel
theorem d_La_areLists_381 : decode c_La_areLists 381 = .ok (.iload_n 3, 1) := by decide +kernel
theorem d_La_areLists_382 : decode c_La_areLists 382 = .ok (.iconst 3, 1) := by decide +kernel
theorem d_La_areLists_383 : decode c_La_areLists 383 = .ok (.invokevirtual 42, 3) := by decide +kernel
theorem d_La_areLists_386 : decode c_La_areLists 386 = .ok (.istore 4, 2) := by decide +kernel
theorem d_La_areLists_388 : decode c_La_areLists 388 = .ok (.iload_n 2, 1) := by decide +kernel
theorem d_La_areLists_389 : decode c_La_areLists 389 = .ok (.iload 4, 2) := by decide +kernel
theorem d_La_areLists_391 : decode c_La_areLists 391 = .ok (.ifCond .lt 7, 3) := by decide +kernel
theorem d_La_areLists_394 : decode c_La_areLists 394 = .ok (.iconst 1, 1) := by decide +kernel
theorem d_La_areLists_395 : decode c_La_areLists 395 = .ok (.goto 4, 3) := by decide +kernel
theorem d_La_areLists_398 : decode c_La_areLists 398 = .ok (.iconst 0, 1) := by decide +kernel
theorem d_La_areLists_399 : decode c_La_areLists 399 = .ok (.iadd, 1) := by decide +kernel
theorem d_La_areLists_400 : decode c_La_areLists 400 = .ok (.istore_n 2, 1) := by decide +kernel
theorem d_La_areLists_401 : decode c_La_areLists 401 = .ok (.iload 4, 2) := by decide +kernel
theorem d_La_areLists_403 : decode c_La_areLists 403 = .ok (.ifCond .ge 18, 3) := by decide +kernel
theorem d_La_areLists_406 : decode c_La_areLists 406 = .ok (.iload 4, 2) := by decide +kernel
theorem d_La_areLists_408 : decode c_La_areLists 408 = .ok (.bipush (-6), 2) := by decide +kernel
theorem d_La_areLists_410 : decode c_La_areLists 410 = .ok (.if_icmp .ne 7, 3) := by decide +kernel
theorem d_La_areLists_413 : decode c_La_areLists 413 = .ok (.iconst 1, 1) := by decide +kernel
theorem d_La_areLists_414 : decode c_La_areLists 414 = .ok (.goto 55, 3) := by decide +kernel
theorem d_La_areLists_417 : decode c_La_areLists 417 = .ok (.iconst 0, 1) := by decide +kernel
theorem d_La_areLists_418 : decode c_La_areLists 418 = .ok (.goto 51, 3) := by decide +kernel
theorem d_La_areLists_421 : decode c_La_areLists 421 = .ok (.aload_n 0, 1) := by decide +kernel
theorem d_La_areLists_422 : decode c_La_areLists 422 = .ok (.iload 4, 2) := by decide +kernel
theorem d_La_areLists_424 : decode c_La_areLists 424 = .ok (.iconst 3, 1) := by decide +kernel
theorem d_La_areLists_425 : decode c_La_areLists 425 = .ok (.invokevirtual 42, 3) := by decide +kernel
theorem d_La_areLists_428 : decode c_La_areLists 428 = .ok (.iload_n 3, 1) := by decide +kernel
theorem d_La_areLists_429 : decode c_La_areLists 429 = .ok (.if_icmp .ne 39, 3) := by decide +kernel
theorem d_La_areLists_432 : decode c_La_areLists 432 = .ok (.aload_n 0, 1) := by decide +kernel
theorem d_La_areLists_433 : decode c_La_areLists 433 = .ok (.iload 4, 2) := by decide +kernel
theorem d_La_areLists_435 : decode c_La_areLists 435 = .ok (.iconst 0, 1) := by decide +kernel
theorem d_La_areLists_436 : decode c_La_areLists 436 = .ok (.invokevirtual 42, 3) := by decide +kernel
theorem d_La_areLists_439 : decode c_La_areLists 439 = .ok (.aload_n 0, 1) := by decide +kernel
theorem d_La_areLists_440 : decode c_La_areLists 440 = .ok (.iload_n 3, 1) := by decide +kernel
theorem d_La_areLists_441 : decode c_La_areLists 441 = .ok (.iconst 0, 1) := by decide +kernel
theorem d_La_areLists_442 : decode c_La_areLists 442 = .ok (.invokevirtual 42, 3) := by decide +kernel
theorem d_La_areLists_445 : decode c_La_areLists 445 = .ok (.if_icmp .ne 23, 3) := by decide +kernel
theorem d_La_areLists_448 : decode c_La_areLists 448 = .ok (.aload_n 0, 1) := by decide +kernel
theorem d_La_areLists_449 : decode c_La_areLists 449 = .ok (.iload 4, 2) := by decide +kernel
theorem d_La_areLists_451 : decode c_La_areLists 451 = .ok (.iconst 1, 1) := by decide +kernel
theorem d_La_areLists_452 : decode c_La_areLists 452 = .ok (.invokevirtual 42, 3) := by decide +kernel
theorem d_La_areLists_455 : decode c_La_areLists 455 = .ok (.aload_n 0, 1) := by decide +kernel
theorem d_La_areLists_456 : decode c_La_areLists 456 = .ok (.iload_n 3, 1) := by decide +kernel
theorem d_La_areLists_457 : decode c_La_areLists 457 = .ok (.iconst 1, 1) := by decide +kernel
theorem d_La_areLists_458 : decode c_La_areLists 458 = .ok (.invokevirtual 42, 3) := by decide +kernel
theorem d_La_areLists_461 : decode c_La_areLists 461 = .ok (.if_icmp .eq 7, 3) := by decide +kernel
theorem d_La_areLists_464 : decode c_La_areLists 464 = .ok (.iconst 1, 1) := by decide +kernel
theorem d_La_areLists_465 : decode c_La_areLists 465 = .ok (.goto 4, 3) := by decide +kernel
theorem d_La_areLists_468 : decode c_La_areLists 468 = .ok (.iconst 0, 1) := by decide +kernel
theorem d_La_areLists_469 : decode c_La_areLists 469 = .ok (.istore_n 1, 1) := by decide +kernel
theorem d_La_areLists_470 : decode c_La_areLists 470 = .ok (.iinc 3 1, 3) := by decide +kernel
theorem d_La_areLists_473 : decode c_La_areLists 473 = .ok (.goto (-106), 3) := by decide +kernel
theorem d_La_areLists_476 : decode c_La_areLists 476 = .ok (.iload_n 1, 1) := by decide +kernel
theorem d_La_areLists_477 : decode c_La_areLists 477 = .ok (.ifCond .eq 28, 3) := by decide +kernel
theorem d_La_areLists_480 : decode c_La_areLists 480 = .ok (.iload_n 2, 1) := by decide +kernel
theorem d_La_areLists_481 : decode c_La_areLists 481 = .ok (.iconst 2, 1) := by decide +kernel
theorem d_La_areLists_482 : decode c_La_areLists 482 = .ok (.aload_n 0, 1) := by decide +kernel
theorem d_La_areLists_483 : decode c_La_areLists 483 = .ok (.iconst 5, 1) := by decide +kernel
theorem d_La_areLists_484 : decode c_La_areLists 484 = .ok (.invokevirtual 22, 3) := by decide +kernel
theorem d_La_areLists_487 : decode c_La_areLists 487 = .ok (.imul, 1) := by decide +kernel
theorem d_La_areLists_488 : decode c_La_areLists 488 = .ok (.if_icmp .ne 17, 3) := by decide +kernel
theorem d_La_areLists_491 : decode c_La_areLists 491 = .ok (.aload_n 0, 1) := by decide +kernel
theorem d_La_areLists_492 : decode c_La_areLists 492 = .ok (.iconst 3, 1) := by decide +kernel
theorem d_La_areLists_493 : decode c_La_areLists 493 = .ok (.invokevirtual 22, 3) := by decide +kernel
theorem d_La_areLists_496 : decode c_La_areLists 496 = .ok (.bipush 16, 2) := by decide +kernel
theorem d_La_areLists_498 : decode c_La_areLists 498 = .ok (.if_icmp .gt 7, 3) := by decide +kernel
theorem d_La_areLists_501 : decode c_La_areLists 501 = .ok (.iconst 1, 1) := by decide +kernel
theorem d_La_areLists_502 : decode c_La_areLists 502 = .ok (.goto 4, 3) := by decide +kernel
theorem d_La_areLists_505 : decode c_La_areLists 505 = .ok (.iconst 0, 1) := by decide +kernel
theorem d_La_areLists_506 : decode c_La_areLists 506 = .ok (.ireturn, 1) := by decide +kernel
