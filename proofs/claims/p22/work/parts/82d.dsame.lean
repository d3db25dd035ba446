theorem dX5_isSame_474 : decode cX5_isSame 474 = .ok (.getfield 22, 3) := by decide +kernel
theorem dX5_isSame_477 : decode cX5_isSame 477 = .ok (.arraylength, 1) := by decide +kernel
theorem dX5_isSame_478 : decode cX5_isSame 478 = .ok (.ifCond .ne 7, 3) := by decide +kernel
theorem dX5_isSame_481 : decode cX5_isSame 481 = .ok (.dconst 0, 1) := by decide +kernel
theorem dX5_isSame_482 : decode cX5_isSame 482 = .ok (.goto 13, 3) := by decide +kernel
theorem dX5_isSame_485 : decode cX5_isSame 485 = .ok (.iload 4, 2) := by decide +kernel
theorem dX5_isSame_487 : decode cX5_isSame 487 = .ok (.i2d, 1) := by decide +kernel
theorem dX5_isSame_488 : decode cX5_isSame 488 = .ok (.aload_n 0, 1) := by decide +kernel
theorem dX5_isSame_489 : decode cX5_isSame 489 = .ok (.getfield 22, 3) := by decide +kernel
theorem dX5_isSame_492 : decode cX5_isSame 492 = .ok (.arraylength, 1) := by decide +kernel
theorem dX5_isSame_493 : decode cX5_isSame 493 = .ok (.i2d, 1) := by decide +kernel
theorem dX5_isSame_494 : decode cX5_isSame 494 = .ok (.ddiv, 1) := by decide +kernel
theorem dX5_isSame_495 : decode cX5_isSame 495 = .ok (.dcmp .l, 1) := by decide +kernel
theorem dX5_isSame_496 : decode cX5_isSame 496 = .ok (.ifCond .ne 7, 3) := by decide +kernel
theorem dX5_isSame_499 : decode cX5_isSame 499 = .ok (.iconst 1, 1) := by decide +kernel
theorem dX5_isSame_500 : decode cX5_isSame 500 = .ok (.goto 4, 3) := by decide +kernel
theorem dX5_isSame_503 : decode cX5_isSame 503 = .ok (.iconst 0, 1) := by decide +kernel
theorem dX5_isSame_504 : decode cX5_isSame 504 = .ok (.ireturn, 1) := by decide +kernel
