theorem d_L_296 : decode code 296 = .ok (.ireturn, 1) := by decide +kernel
theorem d_L_297 : decode code 297 = .ok (.aload_n 1, 1) := by decide +kernel
theorem d_L_298 : decode code 298 = .ok (.aload_n 0, 1) := by decide +kernel
theorem d_L_299 : decode code 299 = .ok (.iload_n 3, 1) := by decide +kernel
theorem d_L_300 : decode code 300 = .ok (.iconst 1, 1) := by decide +kernel
theorem d_L_301 : decode code 301 = .ok (.iadd, 1) := by decide +kernel
theorem d_L_302 : decode code 302 = .ok (.iaload, 1) := by decide +kernel
theorem d_L_303 : decode code 303 = .ok (.aload_n 0, 1) := by decide +kernel
theorem d_L_304 : decode code 304 = .ok (.iload_n 3, 1) := by decide +kernel
theorem d_L_305 : decode code 305 = .ok (.iconst 2, 1) := by decide +kernel
theorem d_L_306 : decode code 306 = .ok (.iadd, 1) := by decide +kernel
theorem d_L_307 : decode code 307 = .ok (.iaload, 1) := by decide +kernel
theorem d_L_308 : decode code 308 = .ok (.invokevirtual 47, 3) := by decide +kernel
theorem d_L_311 : decode code 311 = .ok (.aload_n 2, 1) := by decide +kernel
theorem d_L_312 : decode code 312 = .ok (.aload_n 0, 1) := by decide +kernel
theorem d_L_313 : decode code 313 = .ok (.iload_n 3, 1) := by decide +kernel
theorem d_L_314 : decode code 314 = .ok (.iconst 1, 1) := by decide +kernel
theorem d_L_315 : decode code 315 = .ok (.iadd, 1) := by decide +kernel
theorem d_L_316 : decode code 316 = .ok (.iaload, 1) := by decide +kernel
theorem d_L_317 : decode code 317 = .ok (.aload_n 0, 1) := by decide +kernel
theorem d_L_318 : decode code 318 = .ok (.iload_n 3, 1) := by decide +kernel
theorem d_L_319 : decode code 319 = .ok (.iconst 2, 1) := by decide +kernel
theorem d_L_320 : decode code 320 = .ok (.iadd, 1) := by decide +kernel
theorem d_L_321 : decode code 321 = .ok (.iaload, 1) := by decide +kernel
theorem d_L_322 : decode code 322 = .ok (.invokevirtual 50, 3) := by decide +kernel
theorem d_L_325 : decode code 325 = .ok (.if_icmp .eq 182, 3) := by decide +kernel
theorem d_L_328 : decode code 328 = .ok (.iconst 0, 1) := by decide +kernel
theorem d_L_329 : decode code 329 = .ok (.ireturn, 1) := by decide +kernel
theorem d_L_330 : decode code 330 = .ok (.aload_n 1, 1) := by decide +kernel
theorem d_L_331 : decode code 331 = .ok (.aload_n 0, 1) := by decide +kernel
theorem d_L_332 : decode code 332 = .ok (.iload_n 3, 1) := by decide +kernel
theorem d_L_333 : decode code 333 = .ok (.iconst 1, 1) := by decide +kernel
theorem d_L_334 : decode code 334 = .ok (.iadd, 1) := by decide +kernel
theorem d_L_335 : decode code 335 = .ok (.iaload, 1) := by decide +kernel
theorem d_L_336 : decode code 336 = .ok (.invokevirtual 51, 3) := by decide +kernel
theorem d_L_339 : decode code 339 = .ok (.aload_n 2, 1) := by decide +kernel
theorem d_L_340 : decode code 340 = .ok (.aload_n 0, 1) := by decide +kernel
theorem d_L_341 : decode code 341 = .ok (.iload_n 3, 1) := by decide +kernel
theorem d_L_342 : decode code 342 = .ok (.iconst 1, 1) := by decide +kernel
theorem d_L_343 : decode code 343 = .ok (.iadd, 1) := by decide +kernel
theorem d_L_344 : decode code 344 = .ok (.iaload, 1) := by decide +kernel
theorem d_L_345 : decode code 345 = .ok (.invokevirtual 54, 3) := by decide +kernel
theorem d_L_348 : decode code 348 = .ok (.if_icmp .eq 159, 3) := by decide +kernel
theorem d_L_351 : decode code 351 = .ok (.iconst 0, 1) := by decide +kernel
theorem d_L_352 : decode code 352 = .ok (.ireturn, 1) := by decide +kernel
theorem d_L_353 : decode code 353 = .ok (.aload_n 1, 1) := by decide +kernel
theorem d_L_354 : decode code 354 = .ok (.aload_n 0, 1) := by decide +kernel
theorem d_L_355 : decode code 355 = .ok (.iload_n 3, 1) := by decide +kernel
theorem d_L_356 : decode code 356 = .ok (.iconst 1, 1) := by decide +kernel
theorem d_L_357 : decode code 357 = .ok (.iadd, 1) := by decide +kernel
theorem d_L_358 : decode code 358 = .ok (.iaload, 1) := by decide +kernel
theorem d_L_359 : decode code 359 = .ok (.invokevirtual 55, 3) := by decide +kernel
theorem d_L_362 : decode code 362 = .ok (.aload_n 2, 1) := by decide +kernel
theorem d_L_363 : decode code 363 = .ok (.aload_n 0, 1) := by decide +kernel
theorem d_L_364 : decode code 364 = .ok (.iload_n 3, 1) := by decide +kernel
theorem d_L_365 : decode code 365 = .ok (.iconst 1, 1) := by decide +kernel
theorem d_L_366 : decode code 366 = .ok (.iadd, 1) := by decide +kernel
theorem d_L_367 : decode code 367 = .ok (.iaload, 1) := by decide +kernel
theorem d_L_368 : decode code 368 = .ok (.invokevirtual 58, 3) := by decide +kernel
theorem d_L_371 : decode code 371 = .ok (.if_icmp .eq 136, 3) := by decide +kernel
theorem d_L_374 : decode code 374 = .ok (.iconst 0, 1) := by decide +kernel
theorem d_L_375 : decode code 375 = .ok (.ireturn, 1) := by decide +kernel
theorem d_L_376 : decode code 376 = .ok (.aload_n 1, 1) := by decide +kernel
theorem d_L_377 : decode code 377 = .ok (.aload_n 0, 1) := by decide +kernel
theorem d_L_378 : decode code 378 = .ok (.iload_n 3, 1) := by decide +kernel
theorem d_L_379 : decode code 379 = .ok (.iconst 1, 1) := by decide +kernel
theorem d_L_380 : decode code 380 = .ok (.iadd, 1) := by decide +kernel
theorem d_L_381 : decode code 381 = .ok (.iaload, 1) := by decide +kernel
theorem d_L_382 : decode code 382 = .ok (.invokevirtual 59, 3) := by decide +kernel
theorem d_L_385 : decode code 385 = .ok (.aload_n 2, 1) := by decide +kernel
theorem d_L_386 : decode code 386 = .ok (.aload_n 0, 1) := by decide +kernel
theorem d_L_387 : decode code 387 = .ok (.iload_n 3, 1) := by decide +kernel
theorem d_L_388 : decode code 388 = .ok (.iconst 1, 1) := by decide +kernel
theorem d_L_389 : decode code 389 = .ok (.iadd, 1) := by decide +kernel
theorem d_L_390 : decode code 390 = .ok (.iaload, 1) := by decide +kernel
theorem d_L_391 : decode code 391 = .ok (.invokevirtual 62, 3) := by decide +kernel
theorem d_L_394 : decode code 394 = .ok (.if_icmp .eq 113, 3) := by decide +kernel
theorem d_L_397 : decode code 397 = .ok (.iconst 0, 1) := by decide +kernel
theorem d_L_398 : decode code 398 = .ok (.ireturn, 1) := by decide +kernel
theorem d_L_399 : decode code 399 = .ok (.aload_n 1, 1) := by decide +kernel
theorem d_L_400 : decode code 400 = .ok (.aload_n 0, 1) := by decide +kernel
theorem d_L_401 : decode code 401 = .ok (.iload_n 3, 1) := by decide +kernel
theorem d_L_402 : decode code 402 = .ok (.iconst 1, 1) := by decide +kernel
theorem d_L_403 : decode code 403 = .ok (.iadd, 1) := by decide +kernel
theorem d_L_404 : decode code 404 = .ok (.iaload, 1) := by decide +kernel
theorem d_L_405 : decode code 405 = .ok (.invokevirtual 63, 3) := by decide +kernel
theorem d_L_408 : decode code 408 = .ok (.aload_n 2, 1) := by decide +kernel
theorem d_L_409 : decode code 409 = .ok (.aload_n 0, 1) := by decide +kernel
theorem d_L_410 : decode code 410 = .ok (.iload_n 3, 1) := by decide +kernel
theorem d_L_411 : decode code 411 = .ok (.iconst 1, 1) := by decide +kernel
theorem d_L_412 : decode code 412 = .ok (.iadd, 1) := by decide +kernel
theorem d_L_413 : decode code 413 = .ok (.iaload, 1) := by decide +kernel
theorem d_L_414 : decode code 414 = .ok (.invokevirtual 66, 3) := by decide +kernel
theorem d_L_417 : decode code 417 = .ok (.if_icmp .eq 90, 3) := by decide +kernel
theorem d_L_420 : decode code 420 = .ok (.iconst 0, 1) := by decide +kernel
theorem d_L_421 : decode code 421 = .ok (.ireturn, 1) := by decide +kernel
theorem d_L_422 : decode code 422 = .ok (.aload_n 1, 1) := by decide +kernel
theorem d_L_423 : decode code 423 = .ok (.aload_n 0, 1) := by decide +kernel
theorem d_L_424 : decode code 424 = .ok (.iload_n 3, 1) := by decide +kernel
theorem d_L_425 : decode code 425 = .ok (.iconst 1, 1) := by decide +kernel
theorem d_L_426 : decode code 426 = .ok (.iadd, 1) := by decide +kernel
theorem d_L_427 : decode code 427 = .ok (.iaload, 1) := by decide +kernel
theorem d_L_428 : decode code 428 = .ok (.aload_n 0, 1) := by decide +kernel
theorem d_L_429 : decode code 429 = .ok (.iload_n 3, 1) := by decide +kernel
theorem d_L_430 : decode code 430 = .ok (.iconst 2, 1) := by decide +kernel
theorem d_L_431 : decode code 431 = .ok (.iadd, 1) := by decide +kernel
theorem d_L_432 : decode code 432 = .ok (.iaload, 1) := by decide +kernel
theorem d_L_433 : decode code 433 = .ok (.invokevirtual 67, 3) := by decide +kernel
theorem d_L_436 : decode code 436 = .ok (.aload_n 2, 1) := by decide +kernel
theorem d_L_437 : decode code 437 = .ok (.aload_n 0, 1) := by decide +kernel
theorem d_L_438 : decode code 438 = .ok (.iload_n 3, 1) := by decide +kernel
theorem d_L_439 : decode code 439 = .ok (.iconst 1, 1) := by decide +kernel
theorem d_L_440 : decode code 440 = .ok (.iadd, 1) := by decide +kernel
theorem d_L_441 : decode code 441 = .ok (.iaload, 1) := by decide +kernel
theorem d_L_442 : decode code 442 = .ok (.aload_n 0, 1) := by decide +kernel
theorem d_L_443 : decode code 443 = .ok (.iload_n 3, 1) := by decide +kernel
theorem d_L_444 : decode code 444 = .ok (.iconst 2, 1) := by decide +kernel
theorem d_L_445 : decode code 445 = .ok (.iadd, 1) := by decide +kernel
theorem d_L_446 : decode code 446 = .ok (.iaload, 1) := by decide +kernel
theorem d_L_447 : decode code 447 = .ok (.invokevirtual 70, 3) := by decide +kernel
theorem d_L_450 : decode code 450 = .ok (.if_icmp .eq 57, 3) := by decide +kernel
theorem d_L_453 : decode code 453 = .ok (.iconst 0, 1) := by decide +kernel
theorem d_L_454 : decode code 454 = .ok (.ireturn, 1) := by decide +kernel
theorem d_L_455 : decode code 455 = .ok (.aload_n 1, 1) := by decide +kernel
theorem d_L_456 : decode code 456 = .ok (.invokevirtual 71, 3) := by decide +kernel
theorem d_L_459 : decode code 459 = .ok (.aload_n 2, 1) := by decide +kernel
theorem d_L_460 : decode code 460 = .ok (.invokevirtual 74, 3) := by decide +kernel
theorem d_L_463 : decode code 463 = .ok (.if_icmp .eq 44, 3) := by decide +kernel
theorem d_L_466 : decode code 466 = .ok (.iconst 0, 1) := by decide +kernel
theorem d_L_467 : decode code 467 = .ok (.ireturn, 1) := by decide +kernel
theorem d_L_468 : decode code 468 = .ok (.aload_n 1, 1) := by decide +kernel
theorem d_L_469 : decode code 469 = .ok (.invokevirtual 75, 3) := by decide +kernel
theorem d_L_472 : decode code 472 = .ok (.aload_n 2, 1) := by decide +kernel
theorem d_L_473 : decode code 473 = .ok (.invokevirtual 78, 3) := by decide +kernel
theorem d_L_476 : decode code 476 = .ok (.if_icmp .eq 31, 3) := by decide +kernel
theorem d_L_479 : decode code 479 = .ok (.iconst 0, 1) := by decide +kernel
theorem d_L_480 : decode code 480 = .ok (.ireturn, 1) := by decide +kernel
theorem d_L_481 : decode code 481 = .ok (.aload_n 1, 1) := by decide +kernel
theorem d_L_482 : decode code 482 = .ok (.invokevirtual 79, 3) := by decide +kernel
theorem d_L_485 : decode code 485 = .ok (.aload_n 2, 1) := by decide +kernel
theorem d_L_486 : decode code 486 = .ok (.invokevirtual 82, 3) := by decide +kernel
theorem d_L_489 : decode code 489 = .ok (.if_icmp .eq 18, 3) := by decide +kernel
theorem d_L_492 : decode code 492 = .ok (.iconst 0, 1) := by decide +kernel
theorem d_L_493 : decode code 493 = .ok (.ireturn, 1) := by decide +kernel
theorem d_L_494 : decode code 494 = .ok (.aload_n 1, 1) := by decide +kernel
theorem d_L_495 : decode code 495 = .ok (.invokevirtual 83, 3) := by decide +kernel
theorem d_L_498 : decode code 498 = .ok (.aload_n 2, 1) := by decide +kernel
theorem d_L_499 : decode code 499 = .ok (.invokevirtual 86, 3) := by decide +kernel
theorem d_L_502 : decode code 502 = .ok (.if_icmp .eq 5, 3) := by decide +kernel
theorem d_L_505 : decode code 505 = .ok (.iconst 0, 1) := by decide +kernel
theorem d_L_506 : decode code 506 = .ok (.ireturn, 1) := by decide +kernel
theorem d_L_507 : decode code 507 = .ok (.iinc 3 4, 3) := by decide +kernel
theorem d_L_510 : decode code 510 = .ok (.goto (-492), 3) := by decide +kernel
theorem d_L_513 : decode code 513 = .ok (.iconst 1, 1) := by decide +kernel
theorem d_L_514 : decode code 514 = .ok (.ireturn, 1) := by decide +kernel
