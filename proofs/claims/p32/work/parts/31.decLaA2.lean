theorem d_La_acts_323 : decode c_La_acts 323 = .ok (.invokevirtual 26, 3) := by decide +kernel
theorem d_La_acts_326 : decode c_La_acts 326 = .ok (.iload_n 2, 1) := by decide +kernel
theorem d_La_acts_327 : decode c_La_acts 327 = .ok (.ishr, 1) := by decide +kernel
theorem d_La_acts_328 : decode c_La_acts 328 = .ok (.iconst 1, 1) := by decide +kernel
theorem d_La_acts_329 : decode c_La_acts 329 = .ok (.iand, 1) := by decide +kernel
theorem d_La_acts_330 : decode c_La_acts 330 = .ok (.ifCond .ne 7, 3) := by decide +kernel
theorem d_La_acts_333 : decode c_La_acts 333 = .ok (.iconst 1, 1) := by decide +kernel
theorem d_La_acts_334 : decode c_La_acts 334 = .ok (.goto 4, 3) := by decide +kernel
theorem d_La_acts_337 : decode c_La_acts 337 = .ok (.iconst 0, 1) := by decide +kernel
theorem d_La_acts_338 : decode c_La_acts 338 = .ok (.ireturn, 1) := by decide +kernel
theorem d_La_acts_339 : decode c_La_acts 339 = .ok (.aload_n 0, 1) := by decide +kernel
theorem d_La_acts_340 : decode c_La_acts 340 = .ok (.iload_n 2, 1) := by decide +kernel
theorem d_La_acts_341 : decode c_La_acts 341 = .ok (.invokevirtual 48, 3) := by decide +kernel
theorem d_La_acts_344 : decode c_La_acts 344 = .ok (.istore 12, 2) := by decide +kernel
theorem d_La_acts_346 : decode c_La_acts 346 = .ok (.aload_n 0, 1) := by decide +kernel
theorem d_La_acts_347 : decode c_La_acts 347 = .ok (.iload_n 2, 1) := by decide +kernel
theorem d_La_acts_348 : decode c_La_acts 348 = .ok (.invokevirtual 70, 3) := by decide +kernel
theorem d_La_acts_351 : decode c_La_acts 351 = .ok (.istore 13, 2) := by decide +kernel
theorem d_La_acts_353 : decode c_La_acts 353 = .ok (.iload 12, 2) := by decide +kernel
theorem d_La_acts_355 : decode c_La_acts 355 = .ok (.ifCond .ge 18, 3) := by decide +kernel
theorem d_La_acts_358 : decode c_La_acts 358 = .ok (.iload 13, 2) := by decide +kernel
theorem d_La_acts_360 : decode c_La_acts 360 = .ok (.bipush (-5), 2) := by decide +kernel
theorem d_La_acts_362 : decode c_La_acts 362 = .ok (.if_icmp .ne 7, 3) := by decide +kernel
theorem d_La_acts_365 : decode c_La_acts 365 = .ok (.iconst 1, 1) := by decide +kernel
theorem d_La_acts_366 : decode c_La_acts 366 = .ok (.goto 74, 3) := by decide +kernel
theorem d_La_acts_369 : decode c_La_acts 369 = .ok (.iconst 0, 1) := by decide +kernel
theorem d_La_acts_370 : decode c_La_acts 370 = .ok (.goto 70, 3) := by decide +kernel
theorem d_La_acts_373 : decode c_La_acts 373 = .ok (.iload 4, 2) := by decide +kernel
theorem d_La_acts_375 : decode c_La_acts 375 = .ok (.bipush 16, 2) := by decide +kernel
theorem d_La_acts_377 : decode c_La_acts 377 = .ok (.if_icmp .ne 18, 3) := by decide +kernel
theorem d_La_acts_380 : decode c_La_acts 380 = .ok (.iload 13, 2) := by decide +kernel
theorem d_La_acts_382 : decode c_La_acts 382 = .ok (.bipush (-4), 2) := by decide +kernel
theorem d_La_acts_384 : decode c_La_acts 384 = .ok (.if_icmp .ne 7, 3) := by decide +kernel
theorem d_La_acts_387 : decode c_La_acts 387 = .ok (.iconst 1, 1) := by decide +kernel
theorem d_La_acts_388 : decode c_La_acts 388 = .ok (.goto 52, 3) := by decide +kernel
theorem d_La_acts_391 : decode c_La_acts 391 = .ok (.iconst 0, 1) := by decide +kernel
theorem d_La_acts_392 : decode c_La_acts 392 = .ok (.goto 48, 3) := by decide +kernel
theorem d_La_acts_395 : decode c_La_acts 395 = .ok (.iload 13, 2) := by decide +kernel
theorem d_La_acts_397 : decode c_La_acts 397 = .ok (.iload 4, 2) := by decide +kernel
theorem d_La_acts_399 : decode c_La_acts 399 = .ok (.if_icmp .ne 40, 3) := by decide +kernel
theorem d_La_acts_402 : decode c_La_acts 402 = .ok (.aload_n 0, 1) := by decide +kernel
theorem d_La_acts_403 : decode c_La_acts 403 = .ok (.iload 13, 2) := by decide +kernel
theorem d_La_acts_405 : decode c_La_acts 405 = .ok (.iconst 0, 1) := by decide +kernel
theorem d_La_acts_406 : decode c_La_acts 406 = .ok (.invokevirtual 42, 3) := by decide +kernel
theorem d_La_acts_409 : decode c_La_acts 409 = .ok (.iload 12, 2) := by decide +kernel
theorem d_La_acts_411 : decode c_La_acts 411 = .ok (.if_icmp .ne 28, 3) := by decide +kernel
theorem d_La_acts_414 : decode c_La_acts 414 = .ok (.aload_n 0, 1) := by decide +kernel
theorem d_La_acts_415 : decode c_La_acts 415 = .ok (.iload 13, 2) := by decide +kernel
theorem d_La_acts_417 : decode c_La_acts 417 = .ok (.iconst 1, 1) := by decide +kernel
theorem d_La_acts_418 : decode c_La_acts 418 = .ok (.invokevirtual 42, 3) := by decide +kernel
theorem d_La_acts_421 : decode c_La_acts 421 = .ok (.iload_n 2, 1) := by decide +kernel
theorem d_La_acts_422 : decode c_La_acts 422 = .ok (.if_icmp .ne 17, 3) := by decide +kernel
theorem d_La_acts_425 : decode c_La_acts 425 = .ok (.aload_n 0, 1) := by decide +kernel
theorem d_La_acts_426 : decode c_La_acts 426 = .ok (.iload 13, 2) := by decide +kernel
theorem d_La_acts_428 : decode c_La_acts 428 = .ok (.iconst 2, 1) := by decide +kernel
theorem d_La_acts_429 : decode c_La_acts 429 = .ok (.invokevirtual 42, 3) := by decide +kernel
theorem d_La_acts_432 : decode c_La_acts 432 = .ok (.ifCond .ne 7, 3) := by decide +kernel
theorem d_La_acts_435 : decode c_La_acts 435 = .ok (.iconst 1, 1) := by decide +kernel
theorem d_La_acts_436 : decode c_La_acts 436 = .ok (.goto 4, 3) := by decide +kernel
theorem d_La_acts_439 : decode c_La_acts 439 = .ok (.iconst 0, 1) := by decide +kernel
theorem d_La_acts_440 : decode c_La_acts 440 = .ok (.ireturn, 1) := by decide +kernel
theorem d_La_acts_441 : decode c_La_acts 441 = .ok (.iload 4, 2) := by decide +kernel
theorem d_La_acts_443 : decode c_La_acts 443 = .ok (.ifCond .ne 7, 3) := by decide +kernel
theorem d_La_acts_446 : decode c_La_acts 446 = .ok (.iconst 0, 1) := by decide +kernel
theorem d_La_acts_447 : decode c_La_acts 447 = .ok (.goto 9, 3) := by decide +kernel
theorem d_La_acts_450 : decode c_La_acts 450 = .ok (.iload_n 1, 1) := by decide +kernel
theorem d_La_acts_451 : decode c_La_acts 451 = .ok (.iconst 4, 1) := by decide +kernel
theorem d_La_acts_452 : decode c_La_acts 452 = .ok (.ishr, 1) := by decide +kernel
theorem d_La_acts_453 : decode c_La_acts 453 = .ok (.iload 4, 2) := by decide +kernel
theorem d_La_acts_455 : decode c_La_acts 455 = .ok (.irem, 1) := by decide +kernel
theorem d_La_acts_456 : decode c_La_acts 456 = .ok (.istore 14, 2) := by decide +kernel
theorem d_La_acts_458 : decode c_La_acts 458 = .ok (.aload_n 0, 1) := by decide +kernel
theorem d_La_acts_459 : decode c_La_acts 459 = .ok (.iload 14, 2) := by decide +kernel
theorem d_La_acts_461 : decode c_La_acts 461 = .ok (.iconst 2, 1) := by decide +kernel
theorem d_La_acts_462 : decode c_La_acts 462 = .ok (.invokevirtual 42, 3) := by decide +kernel
theorem d_La_acts_465 : decode c_La_acts 465 = .ok (.istore 15, 2) := by decide +kernel
theorem d_La_acts_467 : decode c_La_acts 467 = .ok (.aload_n 0, 1) := by decide +kernel
theorem d_La_acts_468 : decode c_La_acts 468 = .ok (.iload 14, 2) := by decide +kernel
theorem d_La_acts_470 : decode c_La_acts 470 = .ok (.iconst 0, 1) := by decide +kernel
theorem d_La_acts_471 : decode c_La_acts 471 = .ok (.invokevirtual 42, 3) := by decide +kernel
theorem d_La_acts_474 : decode c_La_acts 474 = .ok (.istore 16, 2) := by decide +kernel
theorem d_La_acts_476 : decode c_La_acts 476 = .ok (.aload_n 0, 1) := by decide +kernel
theorem d_La_acts_477 : decode c_La_acts 477 = .ok (.iload 16, 2) := by decide +kernel
theorem d_La_acts_479 : decode c_La_acts 479 = .ok (.iconst 4, 1) := by decide +kernel
theorem d_La_acts_480 : decode c_La_acts 480 = .ok (.invokevirtual 26, 3) := by decide +kernel
theorem d_La_acts_483 : decode c_La_acts 483 = .ok (.istore 17, 2) := by decide +kernel
theorem d_La_acts_485 : decode c_La_acts 485 = .ok (.aload_n 0, 1) := by decide +kernel
theorem d_La_acts_486 : decode c_La_acts 486 = .ok (.iload 14, 2) := by decide +kernel
theorem d_La_acts_488 : decode c_La_acts 488 = .ok (.iconst 1, 1) := by decide +kernel
theorem d_La_acts_489 : decode c_La_acts 489 = .ok (.iload_n 1, 1) := by decide +kernel
theorem d_La_acts_490 : decode c_La_acts 490 = .ok (.bipush 9, 2) := by decide +kernel
theorem d_La_acts_492 : decode c_La_acts 492 = .ok (.ishr, 1) := by decide +kernel
theorem d_La_acts_493 : decode c_La_acts 493 = .ok (.bipush 50, 2) := by decide +kernel
theorem d_La_acts_495 : decode c_La_acts 495 = .ok (.irem, 1) := by decide +kernel
theorem d_La_acts_496 : decode c_La_acts 496 = .ok (.iadd, 1) := by decide +kernel
theorem d_La_acts_497 : decode c_La_acts 497 = .ok (.invokevirtual 73, 3) := by decide +kernel
theorem d_La_acts_500 : decode c_La_acts 500 = .ok (.istore 18, 2) := by decide +kernel
theorem d_La_acts_502 : decode c_La_acts 502 = .ok (.iload 4, 2) := by decide +kernel
theorem d_La_acts_504 : decode c_La_acts 504 = .ok (.ifCond .ne 17, 3) := by decide +kernel
theorem d_La_acts_507 : decode c_La_acts 507 = .ok (.iload 18, 2) := by decide +kernel
theorem d_La_acts_509 : decode c_La_acts 509 = .ok (.iconst (-1), 1) := by decide +kernel
theorem d_La_acts_510 : decode c_La_acts 510 = .ok (.if_icmp .ne 7, 3) := by decide +kernel
theorem d_La_acts_513 : decode c_La_acts 513 = .ok (.iconst 1, 1) := by decide +kernel
theorem d_La_acts_514 : decode c_La_acts 514 = .ok (.goto 51, 3) := by decide +kernel
theorem d_La_acts_517 : decode c_La_acts 517 = .ok (.iconst 0, 1) := by decide +kernel
theorem d_La_acts_518 : decode c_La_acts 518 = .ok (.goto 47, 3) := by decide +kernel
theorem d_La_acts_521 : decode c_La_acts 521 = .ok (.iload 18, 2) := by decide +kernel
theorem d_La_acts_523 : decode c_La_acts 523 = .ok (.iload 15, 2) := by decide +kernel
theorem d_La_acts_525 : decode c_La_acts 525 = .ok (.iconst 1, 1) := by decide +kernel
theorem d_La_acts_526 : decode c_La_acts 526 = .ok (.iadd, 1) := by decide +kernel
theorem d_La_acts_527 : decode c_La_acts 527 = .ok (.iload_n 1, 1) := by decide +kernel
theorem d_La_acts_528 : decode c_La_acts 528 = .ok (.bipush 9, 2) := by decide +kernel
theorem d_La_acts_530 : decode c_La_acts 530 = .ok (.ishr, 1) := by decide +kernel
theorem d_La_acts_531 : decode c_La_acts 531 = .ok (.bipush 50, 2) := by decide +kernel
theorem d_La_acts_533 : decode c_La_acts 533 = .ok (.irem, 1) := by decide +kernel
theorem d_La_acts_534 : decode c_La_acts 534 = .ok (.iadd, 1) := by decide +kernel
theorem d_La_acts_535 : decode c_La_acts 535 = .ok (.if_icmp .ne 29, 3) := by decide +kernel
theorem d_La_acts_538 : decode c_La_acts 538 = .ok (.aload_n 0, 1) := by decide +kernel
theorem d_La_acts_539 : decode c_La_acts 539 = .ok (.iload 16, 2) := by decide +kernel
theorem d_La_acts_541 : decode c_La_acts 541 = .ok (.iconst 4, 1) := by decide +kernel
theorem d_La_acts_542 : decode c_La_acts 542 = .ok (.invokevirtual 26, 3) := by decide +kernel
theorem d_La_acts_545 : decode c_La_acts 545 = .ok (.iload 17, 2) := by decide +kernel
theorem d_La_acts_547 : decode c_La_acts 547 = .ok (.iconst 1, 1) := by decide +kernel
theorem d_La_acts_548 : decode c_La_acts 548 = .ok (.iadd, 1) := by decide +kernel
theorem d_La_acts_549 : decode c_La_acts 549 = .ok (.iload_n 1, 1) := by decide +kernel
theorem d_La_acts_550 : decode c_La_acts 550 = .ok (.bipush 9, 2) := by decide +kernel
theorem d_La_acts_552 : decode c_La_acts 552 = .ok (.ishr, 1) := by decide +kernel
theorem d_La_acts_553 : decode c_La_acts 553 = .ok (.bipush 50, 2) := by decide +kernel
theorem d_La_acts_555 : decode c_La_acts 555 = .ok (.irem, 1) := by decide +kernel
theorem d_La_acts_556 : decode c_La_acts 556 = .ok (.iadd, 1) := by decide +kernel
theorem d_La_acts_557 : decode c_La_acts 557 = .ok (.if_icmp .ne 7, 3) := by decide +kernel
theorem d_La_acts_560 : decode c_La_acts 560 = .ok (.iconst 1, 1) := by decide +kernel
theorem d_La_acts_561 : decode c_La_acts 561 = .ok (.goto 4, 3) := by decide +kernel
theorem d_La_acts_564 : decode c_La_acts 564 = .ok (.iconst 0, 1) := by decide +kernel
theorem d_La_acts_565 : decode c_La_acts 565 = .ok (.ireturn, 1) := by decide +kernel
theorem d_La_acts_566 : decode c_La_acts 566 = .ok (.aload_n 0, 1) := by decide +kernel
theorem d_La_acts_567 : decode c_La_acts 567 = .ok (.iconst 0, 1) := by decide +kernel
theorem d_La_acts_568 : decode c_La_acts 568 = .ok (.invokevirtual 22, 3) := by decide +kernel
theorem d_La_acts_571 : decode c_La_acts 571 = .ok (.istore 19, 2) := by decide +kernel
theorem d_La_acts_573 : decode c_La_acts 573 = .ok (.aload_n 0, 1) := by decide +kernel
theorem d_La_acts_574 : decode c_La_acts 574 = .ok (.iconst 2, 1) := by decide +kernel
theorem d_La_acts_575 : decode c_La_acts 575 = .ok (.invokevirtual 22, 3) := by decide +kernel
theorem d_La_acts_578 : decode c_La_acts 578 = .ok (.istore 20, 2) := by decide +kernel
theorem d_La_acts_580 : decode c_La_acts 580 = .ok (.aload_n 0, 1) := by decide +kernel
theorem d_La_acts_581 : decode c_La_acts 581 = .ok (.aload_n 0, 1) := by decide +kernel
theorem d_La_acts_582 : decode c_La_acts 582 = .ok (.bipush 9, 2) := by decide +kernel
theorem d_La_acts_584 : decode c_La_acts 584 = .ok (.invokevirtual 22, 3) := by decide +kernel
theorem d_La_acts_587 : decode c_La_acts 587 = .ok (.invokevirtual 76, 3) := by decide +kernel
theorem d_La_acts_590 : decode c_La_acts 590 = .ok (.istore 21, 2) := by decide +kernel
theorem d_La_acts_592 : decode c_La_acts 592 = .ok (.aload_n 0, 1) := by decide +kernel
