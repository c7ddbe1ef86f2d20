theorem d_La_law_268 : decode code 268 = .ok (.if_icmp .eq 663, 3) := by decide +kernel
theorem d_La_law_271 : decode code 271 = .ok (.iconst 0, 1) := by decide +kernel
theorem d_La_law_272 : decode code 272 = .ok (.ireturn, 1) := by decide +kernel
theorem d_La_law_273 : decode code 273 = .ok (.aload_n 1, 1) := by decide +kernel
theorem d_La_law_274 : decode code 274 = .ok (.aload_n 0, 1) := by decide +kernel
theorem d_La_law_275 : decode code 275 = .ok (.iload_n 3, 1) := by decide +kernel
theorem d_La_law_276 : decode code 276 = .ok (.iconst 1, 1) := by decide +kernel
theorem d_La_law_277 : decode code 277 = .ok (.iadd, 1) := by decide +kernel
theorem d_La_law_278 : decode code 278 = .ok (.iaload, 1) := by decide +kernel
theorem d_La_law_279 : decode code 279 = .ok (.invokevirtual 27, 3) := by decide +kernel
theorem d_La_law_282 : decode code 282 = .ok (.aload_n 2, 1) := by decide +kernel
theorem d_La_law_283 : decode code 283 = .ok (.aload_n 0, 1) := by decide +kernel
theorem d_La_law_284 : decode code 284 = .ok (.iload_n 3, 1) := by decide +kernel
theorem d_La_law_285 : decode code 285 = .ok (.iconst 1, 1) := by decide +kernel
theorem d_La_law_286 : decode code 286 = .ok (.iadd, 1) := by decide +kernel
theorem d_La_law_287 : decode code 287 = .ok (.iaload, 1) := by decide +kernel
theorem d_La_law_288 : decode code 288 = .ok (.invokevirtual 31, 3) := by decide +kernel
theorem d_La_law_291 : decode code 291 = .ok (.if_icmp .eq 640, 3) := by decide +kernel
theorem d_La_law_294 : decode code 294 = .ok (.iconst 0, 1) := by decide +kernel
theorem d_La_law_295 : decode code 295 = .ok (.ireturn, 1) := by decide +kernel
theorem d_La_law_296 : decode code 296 = .ok (.aload_n 1, 1) := by decide +kernel
theorem d_La_law_297 : decode code 297 = .ok (.aload_n 0, 1) := by decide +kernel
theorem d_La_law_298 : decode code 298 = .ok (.iload_n 3, 1) := by decide +kernel
theorem d_La_law_299 : decode code 299 = .ok (.iconst 1, 1) := by decide +kernel
theorem d_La_law_300 : decode code 300 = .ok (.iadd, 1) := by decide +kernel
theorem d_La_law_301 : decode code 301 = .ok (.iaload, 1) := by decide +kernel
theorem d_La_law_302 : decode code 302 = .ok (.aload_n 0, 1) := by decide +kernel
theorem d_La_law_303 : decode code 303 = .ok (.iload_n 3, 1) := by decide +kernel
theorem d_La_law_304 : decode code 304 = .ok (.iconst 2, 1) := by decide +kernel
theorem d_La_law_305 : decode code 305 = .ok (.iadd, 1) := by decide +kernel
theorem d_La_law_306 : decode code 306 = .ok (.iaload, 1) := by decide +kernel
theorem d_La_law_307 : decode code 307 = .ok (.invokevirtual 32, 3) := by decide +kernel
theorem d_La_law_310 : decode code 310 = .ok (.aload_n 2, 1) := by decide +kernel
theorem d_La_law_311 : decode code 311 = .ok (.aload_n 0, 1) := by decide +kernel
theorem d_La_law_312 : decode code 312 = .ok (.iload_n 3, 1) := by decide +kernel
theorem d_La_law_313 : decode code 313 = .ok (.iconst 1, 1) := by decide +kernel
theorem d_La_law_314 : decode code 314 = .ok (.iadd, 1) := by decide +kernel
theorem d_La_law_315 : decode code 315 = .ok (.iaload, 1) := by decide +kernel
theorem d_La_law_316 : decode code 316 = .ok (.aload_n 0, 1) := by decide +kernel
theorem d_La_law_317 : decode code 317 = .ok (.iload_n 3, 1) := by decide +kernel
theorem d_La_law_318 : decode code 318 = .ok (.iconst 2, 1) := by decide +kernel
theorem d_La_law_319 : decode code 319 = .ok (.iadd, 1) := by decide +kernel
theorem d_La_law_320 : decode code 320 = .ok (.iaload, 1) := by decide +kernel
theorem d_La_law_321 : decode code 321 = .ok (.invokevirtual 35, 3) := by decide +kernel
theorem d_La_law_324 : decode code 324 = .ok (.if_icmp .eq 607, 3) := by decide +kernel
theorem d_La_law_327 : decode code 327 = .ok (.iconst 0, 1) := by decide +kernel
theorem d_La_law_328 : decode code 328 = .ok (.ireturn, 1) := by decide +kernel
theorem d_La_law_329 : decode code 329 = .ok (.aload_n 1, 1) := by decide +kernel
theorem d_La_law_330 : decode code 330 = .ok (.invokevirtual 36, 3) := by decide +kernel
theorem d_La_law_333 : decode code 333 = .ok (.aload_n 2, 1) := by decide +kernel
theorem d_La_law_334 : decode code 334 = .ok (.invokevirtual 40, 3) := by decide +kernel
theorem d_La_law_337 : decode code 337 = .ok (.if_icmp .eq 594, 3) := by decide +kernel
theorem d_La_law_340 : decode code 340 = .ok (.iconst 0, 1) := by decide +kernel
theorem d_La_law_341 : decode code 341 = .ok (.ireturn, 1) := by decide +kernel
theorem d_La_law_342 : decode code 342 = .ok (.aload_n 1, 1) := by decide +kernel
theorem d_La_law_343 : decode code 343 = .ok (.invokevirtual 41, 3) := by decide +kernel
theorem d_La_law_346 : decode code 346 = .ok (.aload_n 2, 1) := by decide +kernel
theorem d_La_law_347 : decode code 347 = .ok (.invokevirtual 44, 3) := by decide +kernel
theorem d_La_law_350 : decode code 350 = .ok (.if_icmp .eq 581, 3) := by decide +kernel
theorem d_La_law_353 : decode code 353 = .ok (.iconst 0, 1) := by decide +kernel
theorem d_La_law_354 : decode code 354 = .ok (.ireturn, 1) := by decide +kernel
theorem d_La_law_355 : decode code 355 = .ok (.aload_n 1, 1) := by decide +kernel
theorem d_La_law_356 : decode code 356 = .ok (.aload_n 0, 1) := by decide +kernel
theorem d_La_law_357 : decode code 357 = .ok (.iload_n 3, 1) := by decide +kernel
theorem d_La_law_358 : decode code 358 = .ok (.iconst 1, 1) := by decide +kernel
theorem d_La_law_359 : decode code 359 = .ok (.iadd, 1) := by decide +kernel
theorem d_La_law_360 : decode code 360 = .ok (.iaload, 1) := by decide +kernel
theorem d_La_law_361 : decode code 361 = .ok (.invokevirtual 45, 3) := by decide +kernel
theorem d_La_law_364 : decode code 364 = .ok (.aload_n 2, 1) := by decide +kernel
theorem d_La_law_365 : decode code 365 = .ok (.aload_n 0, 1) := by decide +kernel
theorem d_La_law_366 : decode code 366 = .ok (.iload_n 3, 1) := by decide +kernel
theorem d_La_law_367 : decode code 367 = .ok (.iconst 1, 1) := by decide +kernel
theorem d_La_law_368 : decode code 368 = .ok (.iadd, 1) := by decide +kernel
theorem d_La_law_369 : decode code 369 = .ok (.iaload, 1) := by decide +kernel
theorem d_La_law_370 : decode code 370 = .ok (.invokevirtual 48, 3) := by decide +kernel
theorem d_La_law_373 : decode code 373 = .ok (.if_icmp .eq 558, 3) := by decide +kernel
theorem d_La_law_376 : decode code 376 = .ok (.iconst 0, 1) := by decide +kernel
theorem d_La_law_377 : decode code 377 = .ok (.ireturn, 1) := by decide +kernel
theorem d_La_law_378 : decode code 378 = .ok (.aload_n 1, 1) := by decide +kernel
theorem d_La_law_379 : decode code 379 = .ok (.aload_n 0, 1) := by decide +kernel
theorem d_La_law_380 : decode code 380 = .ok (.iload_n 3, 1) := by decide +kernel
theorem d_La_law_381 : decode code 381 = .ok (.iconst 1, 1) := by decide +kernel
theorem d_La_law_382 : decode code 382 = .ok (.iadd, 1) := by decide +kernel
theorem d_La_law_383 : decode code 383 = .ok (.iaload, 1) := by decide +kernel
theorem d_La_law_384 : decode code 384 = .ok (.aload_n 0, 1) := by decide +kernel
theorem d_La_law_385 : decode code 385 = .ok (.iload_n 3, 1) := by decide +kernel
theorem d_La_law_386 : decode code 386 = .ok (.iconst 2, 1) := by decide +kernel
theorem d_La_law_387 : decode code 387 = .ok (.iadd, 1) := by decide +kernel
theorem d_La_law_388 : decode code 388 = .ok (.iaload, 1) := by decide +kernel
theorem d_La_law_389 : decode code 389 = .ok (.invokevirtual 49, 3) := by decide +kernel
theorem d_La_law_392 : decode code 392 = .ok (.aload_n 2, 1) := by decide +kernel
theorem d_La_law_393 : decode code 393 = .ok (.aload_n 0, 1) := by decide +kernel
theorem d_La_law_394 : decode code 394 = .ok (.iload_n 3, 1) := by decide +kernel
theorem d_La_law_395 : decode code 395 = .ok (.iconst 1, 1) := by decide +kernel
theorem d_La_law_396 : decode code 396 = .ok (.iadd, 1) := by decide +kernel
theorem d_La_law_397 : decode code 397 = .ok (.iaload, 1) := by decide +kernel
theorem d_La_law_398 : decode code 398 = .ok (.aload_n 0, 1) := by decide +kernel
theorem d_La_law_399 : decode code 399 = .ok (.iload_n 3, 1) := by decide +kernel
theorem d_La_law_400 : decode code 400 = .ok (.iconst 2, 1) := by decide +kernel
theorem d_La_law_401 : decode code 401 = .ok (.iadd, 1) := by decide +kernel
theorem d_La_law_402 : decode code 402 = .ok (.iaload, 1) := by decide +kernel
theorem d_La_law_403 : decode code 403 = .ok (.invokevirtual 52, 3) := by decide +kernel
theorem d_La_law_406 : decode code 406 = .ok (.if_icmp .eq 525, 3) := by decide +kernel
theorem d_La_law_409 : decode code 409 = .ok (.iconst 0, 1) := by decide +kernel
theorem d_La_law_410 : decode code 410 = .ok (.ireturn, 1) := by decide +kernel
theorem d_La_law_411 : decode code 411 = .ok (.aload_n 1, 1) := by decide +kernel
theorem d_La_law_412 : decode code 412 = .ok (.aload_n 0, 1) := by decide +kernel
theorem d_La_law_413 : decode code 413 = .ok (.iload_n 3, 1) := by decide +kernel
theorem d_La_law_414 : decode code 414 = .ok (.iconst 1, 1) := by decide +kernel
theorem d_La_law_415 : decode code 415 = .ok (.iadd, 1) := by decide +kernel
