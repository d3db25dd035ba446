theorem dL_law_405 : decode cL_law 405 = .ok (.ishl, 1) := by decide +kernel
theorem dL_law_406 : decode cL_law 406 = .ok (.iconst 2, 1) := by decide +kernel
theorem dL_law_407 : decode cL_law 407 = .ok (.isub, 1) := by decide +kernel
theorem dL_law_408 : decode cL_law 408 = .ok (.if_icmp .ne 27, 3) := by decide +kernel
theorem dL_law_411 : decode cL_law 411 = .ok (.aload_n 1, 1) := by decide +kernel
theorem dL_law_412 : decode cL_law 412 = .ok (.invokevirtual 104, 3) := by decide +kernel
theorem dL_law_415 : decode cL_law 415 = .ok (.iload 7, 2) := by decide +kernel
theorem dL_law_417 : decode cL_law 417 = .ok (.ifCond .ne 7, 3) := by decide +kernel
theorem dL_law_420 : decode cL_law 420 = .ok (.dconst 0, 1) := by decide +kernel
theorem dL_law_421 : decode cL_law 421 = .ok (.goto 10, 3) := by decide +kernel
theorem dL_law_424 : decode cL_law 424 = .ok (.iload 10, 2) := by decide +kernel
theorem dL_law_426 : decode cL_law 426 = .ok (.i2d, 1) := by decide +kernel
theorem dL_law_427 : decode cL_law 427 = .ok (.iload 7, 2) := by decide +kernel
theorem dL_law_429 : decode cL_law 429 = .ok (.i2d, 1) := by decide +kernel
theorem dL_law_430 : decode cL_law 430 = .ok (.ddiv, 1) := by decide +kernel
theorem dL_law_431 : decode cL_law 431 = .ok (.dcmp .l, 1) := by decide +kernel
theorem dL_law_432 : decode cL_law 432 = .ok (.ifCond .eq 5, 3) := by decide +kernel
theorem dL_law_435 : decode cL_law 435 = .ok (.iconst 0, 1) := by decide +kernel
theorem dL_law_436 : decode cL_law 436 = .ok (.ireturn, 1) := by decide +kernel
theorem dL_law_437 : decode cL_law 437 = .ok (.iconst 1, 1) := by decide +kernel
theorem dL_law_438 : decode cL_law 438 = .ok (.istore 14, 2) := by decide +kernel
theorem dL_law_440 : decode cL_law 440 = .ok (.iload 14, 2) := by decide +kernel
theorem dL_law_442 : decode cL_law 442 = .ok (.iload 7, 2) := by decide +kernel
theorem dL_law_444 : decode cL_law 444 = .ok (.if_icmp .ge 96, 3) := by decide +kernel
theorem dL_law_447 : decode cL_law 447 = .ok (.aload 8, 2) := by decide +kernel
theorem dL_law_449 : decode cL_law 449 = .ok (.aload_n 1, 1) := by decide +kernel
theorem dL_law_450 : decode cL_law 450 = .ok (.iload 14, 2) := by decide +kernel
theorem dL_law_452 : decode cL_law 452 = .ok (.invokevirtual 101, 3) := by decide +kernel
theorem dL_law_455 : decode cL_law 455 = .ok (.aaload, 1) := by decide +kernel
theorem dL_law_456 : decode cL_law 456 = .ok (.astore 15, 2) := by decide +kernel
theorem dL_law_458 : decode cL_law 458 = .ok (.aload 8, 2) := by decide +kernel
theorem dL_law_460 : decode cL_law 460 = .ok (.aload_n 1, 1) := by decide +kernel
theorem dL_law_461 : decode cL_law 461 = .ok (.iload 14, 2) := by decide +kernel
theorem dL_law_463 : decode cL_law 463 = .ok (.iconst 1, 1) := by decide +kernel
theorem dL_law_464 : decode cL_law 464 = .ok (.iadd, 1) := by decide +kernel
theorem dL_law_465 : decode cL_law 465 = .ok (.invokevirtual 101, 3) := by decide +kernel
theorem dL_law_468 : decode cL_law 468 = .ok (.aaload, 1) := by decide +kernel
theorem dL_law_469 : decode cL_law 469 = .ok (.astore 16, 2) := by decide +kernel
theorem dL_law_471 : decode cL_law 471 = .ok (.aload 15, 2) := by decide +kernel
theorem dL_law_473 : decode cL_law 473 = .ok (.iconst 0, 1) := by decide +kernel
theorem dL_law_474 : decode cL_law 474 = .ok (.iaload, 1) := by decide +kernel
theorem dL_law_475 : decode cL_law 475 = .ok (.aload 16, 2) := by decide +kernel
theorem dL_law_477 : decode cL_law 477 = .ok (.iconst 0, 1) := by decide +kernel
theorem dL_law_478 : decode cL_law 478 = .ok (.iaload, 1) := by decide +kernel
theorem dL_law_479 : decode cL_law 479 = .ok (.if_icmp .lt 53, 3) := by decide +kernel
