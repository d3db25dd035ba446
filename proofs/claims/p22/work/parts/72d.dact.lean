theorem dL_act_520 : decode cL_act 520 = .ok (.iload 8, 2) := by decide +kernel
theorem dL_act_522 : decode cL_act 522 = .ok (.ifCond .eq 78, 3) := by decide +kernel
theorem dL_act_525 : decode cL_act 525 = .ok (.aload_n 1, 1) := by decide +kernel
theorem dL_act_526 : decode cL_act 526 = .ok (.getfield 28, 3) := by decide +kernel
theorem dL_act_529 : decode cL_act 529 = .ok (.iload 6, 2) := by decide +kernel
theorem dL_act_531 : decode cL_act 531 = .ok (.aaload, 1) := by decide +kernel
theorem dL_act_532 : decode cL_act 532 = .ok (.iconst 1, 1) := by decide +kernel
theorem dL_act_533 : decode cL_act 533 = .ok (.dup2, 1) := by decide +kernel
theorem dL_act_534 : decode cL_act 534 = .ok (.iaload, 1) := by decide +kernel
theorem dL_act_535 : decode cL_act 535 = .ok (.iconst 5, 1) := by decide +kernel
theorem dL_act_536 : decode cL_act 536 = .ok (.isub, 1) := by decide +kernel
theorem dL_act_537 : decode cL_act 537 = .ok (.iastore, 1) := by decide +kernel
theorem dL_act_538 : decode cL_act 538 = .ok (.aload_n 1, 1) := by decide +kernel
theorem dL_act_539 : decode cL_act 539 = .ok (.getfield 28, 3) := by decide +kernel
theorem dL_act_542 : decode cL_act 542 = .ok (.iload 7, 2) := by decide +kernel
theorem dL_act_544 : decode cL_act 544 = .ok (.aaload, 1) := by decide +kernel
theorem dL_act_545 : decode cL_act 545 = .ok (.iconst 1, 1) := by decide +kernel
theorem dL_act_546 : decode cL_act 546 = .ok (.dup2, 1) := by decide +kernel
theorem dL_act_547 : decode cL_act 547 = .ok (.iaload, 1) := by decide +kernel
theorem dL_act_548 : decode cL_act 548 = .ok (.iconst 5, 1) := by decide +kernel
theorem dL_act_549 : decode cL_act 549 = .ok (.iadd, 1) := by decide +kernel
theorem dL_act_550 : decode cL_act 550 = .ok (.iastore, 1) := by decide +kernel
theorem dL_act_551 : decode cL_act 551 = .ok (.iconst 0, 1) := by decide +kernel
theorem dL_act_552 : decode cL_act 552 = .ok (.istore 9, 2) := by decide +kernel
theorem dL_act_554 : decode cL_act 554 = .ok (.iload 9, 2) := by decide +kernel
theorem dL_act_556 : decode cL_act 556 = .ok (.bipush 8, 2) := by decide +kernel
theorem dL_act_558 : decode cL_act 558 = .ok (.if_icmp .ge 42, 3) := by decide +kernel
theorem dL_act_561 : decode cL_act 561 = .ok (.aload_n 1, 1) := by decide +kernel
theorem dL_act_562 : decode cL_act 562 = .ok (.getfield 53, 3) := by decide +kernel
theorem dL_act_565 : decode cL_act 565 = .ok (.iload 6, 2) := by decide +kernel
theorem dL_act_567 : decode cL_act 567 = .ok (.aaload, 1) := by decide +kernel
theorem dL_act_568 : decode cL_act 568 = .ok (.iload 9, 2) := by decide +kernel
theorem dL_act_570 : decode cL_act 570 = .ok (.aload_n 1, 1) := by decide +kernel
theorem dL_act_571 : decode cL_act 571 = .ok (.getfield 53, 3) := by decide +kernel
theorem dL_act_574 : decode cL_act 574 = .ok (.iload 6, 2) := by decide +kernel
theorem dL_act_576 : decode cL_act 576 = .ok (.aaload, 1) := by decide +kernel
theorem dL_act_577 : decode cL_act 577 = .ok (.iload 9, 2) := by decide +kernel
theorem dL_act_579 : decode cL_act 579 = .ok (.iaload, 1) := by decide +kernel
theorem dL_act_580 : decode cL_act 580 = .ok (.aload_n 1, 1) := by decide +kernel
theorem dL_act_581 : decode cL_act 581 = .ok (.getfield 53, 3) := by decide +kernel
theorem dL_act_584 : decode cL_act 584 = .ok (.iload 7, 2) := by decide +kernel
theorem dL_act_586 : decode cL_act 586 = .ok (.aaload, 1) := by decide +kernel
theorem dL_act_587 : decode cL_act 587 = .ok (.iload 9, 2) := by decide +kernel
theorem dL_act_589 : decode cL_act 589 = .ok (.iaload, 1) := by decide +kernel
theorem dL_act_590 : decode cL_act 590 = .ok (.iadd, 1) := by decide +kernel
theorem dL_act_591 : decode cL_act 591 = .ok (.iconst 2, 1) := by decide +kernel
theorem dL_act_592 : decode cL_act 592 = .ok (.idiv, 1) := by decide +kernel
theorem dL_act_593 : decode cL_act 593 = .ok (.iastore, 1) := by decide +kernel
theorem dL_act_594 : decode cL_act 594 = .ok (.iinc 9 1, 3) := by decide +kernel
theorem dL_act_597 : decode cL_act 597 = .ok (.goto (-43), 3) := by decide +kernel
theorem dL_act_600 : decode cL_act 600 = .ok (.aload_n 0, 1) := by decide +kernel
theorem dL_act_601 : decode cL_act 601 = .ok (.iload 6, 2) := by decide +kernel
theorem dL_act_603 : decode cL_act 603 = .ok (.iload 7, 2) := by decide +kernel
theorem dL_act_605 : decode cL_act 605 = .ok (.invokevirtual 64, 3) := by decide +kernel
theorem dL_act_608 : decode cL_act 608 = .ok (.istore 9, 2) := by decide +kernel
theorem dL_act_610 : decode cL_act 610 = .ok (.iload 8, 2) := by decide +kernel
theorem dL_act_612 : decode cL_act 612 = .ok (.ifCond .eq 21, 3) := by decide +kernel
theorem dL_act_615 : decode cL_act 615 = .ok (.iload 9, 2) := by decide +kernel
theorem dL_act_617 : decode cL_act 617 = .ok (.aload_n 1, 1) := by decide +kernel
theorem dL_act_618 : decode cL_act 618 = .ok (.getfield 28, 3) := by decide +kernel
theorem dL_act_621 : decode cL_act 621 = .ok (.iload 6, 2) := by decide +kernel
theorem dL_act_623 : decode cL_act 623 = .ok (.aaload, 1) := by decide +kernel
theorem dL_act_624 : decode cL_act 624 = .ok (.iconst 1, 1) := by decide +kernel
theorem dL_act_625 : decode cL_act 625 = .ok (.iaload, 1) := by decide +kernel
theorem dL_act_626 : decode cL_act 626 = .ok (.if_icmp .ne 7, 3) := by decide +kernel
theorem dL_act_629 : decode cL_act 629 = .ok (.iconst 1, 1) := by decide +kernel
theorem dL_act_630 : decode cL_act 630 = .ok (.goto 4, 3) := by decide +kernel
theorem dL_act_633 : decode cL_act 633 = .ok (.iconst 0, 1) := by decide +kernel
theorem dL_act_634 : decode cL_act 634 = .ok (.ireturn, 1) := by decide +kernel
theorem dL_act_635 : decode cL_act 635 = .ok (.astore 9, 2) := by decide +kernel
theorem dL_act_637 : decode cL_act 637 = .ok (.iload 8, 2) := by decide +kernel
theorem dL_act_639 : decode cL_act 639 = .ok (.ifCond .ne 7, 3) := by decide +kernel
theorem dL_act_642 : decode cL_act 642 = .ok (.iconst 1, 1) := by decide +kernel
theorem dL_act_643 : decode cL_act 643 = .ok (.goto 4, 3) := by decide +kernel
theorem dL_act_646 : decode cL_act 646 = .ok (.iconst 0, 1) := by decide +kernel
theorem dL_act_647 : decode cL_act 647 = .ok (.ireturn, 1) := by decide +kernel
theorem dL_act_648 : decode cL_act 648 = .ok (.aload_n 0, 1) := by decide +kernel
theorem dL_act_649 : decode cL_act 649 = .ok (.aload_n 1, 1) := by decide +kernel
theorem dL_act_650 : decode cL_act 650 = .ok (.iconst 1, 1) := by decide +kernel
theorem dL_act_651 : decode cL_act 651 = .ok (.iload_n 2, 1) := by decide +kernel
theorem dL_act_652 : decode cL_act 652 = .ok (.iconst 4, 1) := by decide +kernel
theorem dL_act_653 : decode cL_act 653 = .ok (.ishr, 1) := by decide +kernel
theorem dL_act_654 : decode cL_act 654 = .ok (.iload_n 2, 1) := by decide +kernel
theorem dL_act_655 : decode cL_act 655 = .ok (.bipush 8, 2) := by decide +kernel
theorem dL_act_657 : decode cL_act 657 = .ok (.ishr, 1) := by decide +kernel
theorem dL_act_658 : decode cL_act 658 = .ok (.iconst 4, 1) := by decide +kernel
theorem dL_act_659 : decode cL_act 659 = .ok (.invokestatic 18, 3) := by decide +kernel
theorem dL_act_662 : decode cL_act 662 = .ok (.ifCond .ne 8, 3) := by decide +kernel
theorem dL_act_665 : decode cL_act 665 = .ok (.bipush 40, 2) := by decide +kernel
theorem dL_act_667 : decode cL_act 667 = .ok (.goto 4, 3) := by decide +kernel
theorem dL_act_670 : decode cL_act 670 = .ok (.iconst 5, 1) := by decide +kernel
theorem dL_act_671 : decode cL_act 671 = .ok (.invokestatic 18, 3) := by decide +kernel
theorem dL_act_674 : decode cL_act 674 = .ok (.iadd, 1) := by decide +kernel
theorem dL_act_675 : decode cL_act 675 = .ok (.invokestatic 69, 3) := by decide +kernel
theorem dL_act_678 : decode cL_act 678 = .ok (.ireturn, 1) := by decide +kernel
