theorem dL_act_349 : decode cL_act 349 = .ok (.iastore, 1) := by decide +kernel
theorem dL_act_350 : decode cL_act 350 = .ok (.invokestatic 46, 3) := by decide +kernel
theorem dL_act_353 : decode cL_act 353 = .ok (.putfield 53, 3) := by decide +kernel
theorem dL_act_356 : decode cL_act 356 = .ok (.aload_n 0, 1) := by decide +kernel
theorem dL_act_357 : decode cL_act 357 = .ok (.invokevirtual 56, 3) := by decide +kernel
theorem dL_act_360 : decode cL_act 360 = .ok (.iload 5, 2) := by decide +kernel
theorem dL_act_362 : decode cL_act 362 = .ok (.if_icmp .ne 7, 3) := by decide +kernel
theorem dL_act_365 : decode cL_act 365 = .ok (.iconst 1, 1) := by decide +kernel
theorem dL_act_366 : decode cL_act 366 = .ok (.goto 4, 3) := by decide +kernel
theorem dL_act_369 : decode cL_act 369 = .ok (.iconst 0, 1) := by decide +kernel
theorem dL_act_370 : decode cL_act 370 = .ok (.ireturn, 1) := by decide +kernel
theorem dL_act_371 : decode cL_act 371 = .ok (.iload 4, 2) := by decide +kernel
theorem dL_act_373 : decode cL_act 373 = .ok (.iload 5, 2) := by decide +kernel
theorem dL_act_375 : decode cL_act 375 = .ok (.imul, 1) := by decide +kernel
theorem dL_act_376 : decode cL_act 376 = .ok (.ifCond .ne 5, 3) := by decide +kernel
theorem dL_act_379 : decode cL_act 379 = .ok (.iconst 1, 1) := by decide +kernel
theorem dL_act_380 : decode cL_act 380 = .ok (.ireturn, 1) := by decide +kernel
theorem dL_act_381 : decode cL_act 381 = .ok (.iload_n 2, 1) := by decide +kernel
theorem dL_act_382 : decode cL_act 382 = .ok (.iconst 4, 1) := by decide +kernel
theorem dL_act_383 : decode cL_act 383 = .ok (.ishr, 1) := by decide +kernel
theorem dL_act_384 : decode cL_act 384 = .ok (.iload 5, 2) := by decide +kernel
theorem dL_act_386 : decode cL_act 386 = .ok (.invokestatic 18, 3) := by decide +kernel
theorem dL_act_389 : decode cL_act 389 = .ok (.istore 6, 2) := by decide +kernel
theorem dL_act_391 : decode cL_act 391 = .ok (.iload_n 2, 1) := by decide +kernel
theorem dL_act_392 : decode cL_act 392 = .ok (.bipush 6, 2) := by decide +kernel
theorem dL_act_394 : decode cL_act 394 = .ok (.ishr, 1) := by decide +kernel
theorem dL_act_395 : decode cL_act 395 = .ok (.iload 4, 2) := by decide +kernel
theorem dL_act_397 : decode cL_act 397 = .ok (.invokestatic 18, 3) := by decide +kernel
theorem dL_act_400 : decode cL_act 400 = .ok (.istore 7, 2) := by decide +kernel
theorem dL_act_402 : decode cL_act 402 = .ok (.aload_n 1, 1) := by decide +kernel
theorem dL_act_403 : decode cL_act 403 = .ok (.getfield 53, 3) := by decide +kernel
theorem dL_act_406 : decode cL_act 406 = .ok (.iload 6, 2) := by decide +kernel
theorem dL_act_408 : decode cL_act 408 = .ok (.aaload, 1) := by decide +kernel
theorem dL_act_409 : decode cL_act 409 = .ok (.iload 7, 2) := by decide +kernel
theorem dL_act_411 : decode cL_act 411 = .ok (.iaload, 1) := by decide +kernel
theorem dL_act_412 : decode cL_act 412 = .ok (.istore 8, 2) := by decide +kernel
theorem dL_act_414 : decode cL_act 414 = .ok (.aload_n 1, 1) := by decide +kernel
theorem dL_act_415 : decode cL_act 415 = .ok (.getfield 53, 3) := by decide +kernel
theorem dL_act_418 : decode cL_act 418 = .ok (.iload 6, 2) := by decide +kernel
theorem dL_act_420 : decode cL_act 420 = .ok (.aaload, 1) := by decide +kernel
theorem dL_act_421 : decode cL_act 421 = .ok (.iload 7, 2) := by decide +kernel
theorem dL_act_423 : decode cL_act 423 = .ok (.iload_n 2, 1) := by decide +kernel
theorem dL_act_424 : decode cL_act 424 = .ok (.iconst 5, 1) := by decide +kernel
theorem dL_act_425 : decode cL_act 425 = .ok (.ishr, 1) := by decide +kernel
theorem dL_act_426 : decode cL_act 426 = .ok (.bipush 101, 2) := by decide +kernel
theorem dL_act_428 : decode cL_act 428 = .ok (.invokestatic 18, 3) := by decide +kernel
theorem dL_act_431 : decode cL_act 431 = .ok (.iastore, 1) := by decide +kernel
theorem dL_act_432 : decode cL_act 432 = .ok (.aload_n 0, 1) := by decide +kernel
theorem dL_act_433 : decode cL_act 433 = .ok (.iload 6, 2) := by decide +kernel
theorem dL_act_435 : decode cL_act 435 = .ok (.iload 7, 2) := by decide +kernel
theorem dL_act_437 : decode cL_act 437 = .ok (.aload_n 1, 1) := by decide +kernel
theorem dL_act_438 : decode cL_act 438 = .ok (.getfield 53, 3) := by decide +kernel
theorem dL_act_441 : decode cL_act 441 = .ok (.iload 6, 2) := by decide +kernel
theorem dL_act_443 : decode cL_act 443 = .ok (.aaload, 1) := by decide +kernel
theorem dL_act_444 : decode cL_act 444 = .ok (.iload 7, 2) := by decide +kernel
theorem dL_act_446 : decode cL_act 446 = .ok (.iaload, 1) := by decide +kernel
theorem dL_act_447 : decode cL_act 447 = .ok (.invokevirtual 60, 3) := by decide +kernel
theorem dL_act_450 : decode cL_act 450 = .ok (.iload 8, 2) := by decide +kernel
theorem dL_act_452 : decode cL_act 452 = .ok (.if_icmp .ne 7, 3) := by decide +kernel
theorem dL_act_455 : decode cL_act 455 = .ok (.iconst 1, 1) := by decide +kernel
theorem dL_act_456 : decode cL_act 456 = .ok (.goto 4, 3) := by decide +kernel
theorem dL_act_459 : decode cL_act 459 = .ok (.iconst 0, 1) := by decide +kernel
theorem dL_act_460 : decode cL_act 460 = .ok (.ireturn, 1) := by decide +kernel
theorem dL_act_461 : decode cL_act 461 = .ok (.iload 5, 2) := by decide +kernel
theorem dL_act_463 : decode cL_act 463 = .ok (.iconst 2, 1) := by decide +kernel
theorem dL_act_464 : decode cL_act 464 = .ok (.if_icmp .ge 5, 3) := by decide +kernel
theorem dL_act_467 : decode cL_act 467 = .ok (.iconst 1, 1) := by decide +kernel
theorem dL_act_468 : decode cL_act 468 = .ok (.ireturn, 1) := by decide +kernel
theorem dL_act_469 : decode cL_act 469 = .ok (.iload_n 2, 1) := by decide +kernel
theorem dL_act_470 : decode cL_act 470 = .ok (.iconst 4, 1) := by decide +kernel
theorem dL_act_471 : decode cL_act 471 = .ok (.ishr, 1) := by decide +kernel
theorem dL_act_472 : decode cL_act 472 = .ok (.iload 5, 2) := by decide +kernel
theorem dL_act_474 : decode cL_act 474 = .ok (.invokestatic 18, 3) := by decide +kernel
theorem dL_act_477 : decode cL_act 477 = .ok (.istore 6, 2) := by decide +kernel
theorem dL_act_479 : decode cL_act 479 = .ok (.iload 6, 2) := by decide +kernel
theorem dL_act_481 : decode cL_act 481 = .ok (.iconst 1, 1) := by decide +kernel
theorem dL_act_482 : decode cL_act 482 = .ok (.iadd, 1) := by decide +kernel
theorem dL_act_483 : decode cL_act 483 = .ok (.iload_n 2, 1) := by decide +kernel
theorem dL_act_484 : decode cL_act 484 = .ok (.bipush 6, 2) := by decide +kernel
theorem dL_act_486 : decode cL_act 486 = .ok (.ishr, 1) := by decide +kernel
theorem dL_act_487 : decode cL_act 487 = .ok (.iload 5, 2) := by decide +kernel
theorem dL_act_489 : decode cL_act 489 = .ok (.iconst 1, 1) := by decide +kernel
theorem dL_act_490 : decode cL_act 490 = .ok (.isub, 1) := by decide +kernel
theorem dL_act_491 : decode cL_act 491 = .ok (.invokestatic 18, 3) := by decide +kernel
theorem dL_act_494 : decode cL_act 494 = .ok (.iadd, 1) := by decide +kernel
theorem dL_act_495 : decode cL_act 495 = .ok (.iload 5, 2) := by decide +kernel
theorem dL_act_497 : decode cL_act 497 = .ok (.irem, 1) := by decide +kernel
theorem dL_act_498 : decode cL_act 498 = .ok (.istore 7, 2) := by decide +kernel
theorem dL_act_500 : decode cL_act 500 = .ok (.aload_n 1, 1) := by decide +kernel
theorem dL_act_501 : decode cL_act 501 = .ok (.getfield 28, 3) := by decide +kernel
theorem dL_act_504 : decode cL_act 504 = .ok (.iload 6, 2) := by decide +kernel
theorem dL_act_506 : decode cL_act 506 = .ok (.aaload, 1) := by decide +kernel
theorem dL_act_507 : decode cL_act 507 = .ok (.iconst 1, 1) := by decide +kernel
theorem dL_act_508 : decode cL_act 508 = .ok (.iaload, 1) := by decide +kernel
theorem dL_act_509 : decode cL_act 509 = .ok (.iconst 5, 1) := by decide +kernel
theorem dL_act_510 : decode cL_act 510 = .ok (.if_icmp .lt 7, 3) := by decide +kernel
theorem dL_act_513 : decode cL_act 513 = .ok (.iconst 1, 1) := by decide +kernel
theorem dL_act_514 : decode cL_act 514 = .ok (.goto 4, 3) := by decide +kernel
theorem dL_act_517 : decode cL_act 517 = .ok (.iconst 0, 1) := by decide +kernel
theorem dL_act_518 : decode cL_act 518 = .ok (.istore 8, 2) := by decide +kernel
