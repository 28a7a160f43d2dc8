theorem d_L_law_462 : decode b_L_law 462 = .ok (.aload_n 0, 1) := by decide +kernel
theorem d_L_law_463 : decode b_L_law 463 = .ok (.iload 4, 2) := by decide +kernel
theorem d_L_law_465 : decode b_L_law 465 = .ok (.iconst 2, 1) := by decide +kernel
theorem d_L_law_466 : decode b_L_law 466 = .ok (.iadd, 1) := by decide +kernel
theorem d_L_law_467 : decode b_L_law 467 = .ok (.iaload, 1) := by decide +kernel
theorem d_L_law_468 : decode b_L_law 468 = .ok (.ifCond .eq 7, 3) := by decide +kernel
theorem d_L_law_471 : decode b_L_law 471 = .ok (.iconst 1, 1) := by decide +kernel
theorem d_L_law_472 : decode b_L_law 472 = .ok (.goto 4, 3) := by decide +kernel
theorem d_L_law_475 : decode b_L_law 475 = .ok (.iconst 0, 1) := by decide +kernel
theorem d_L_law_476 : decode b_L_law 476 = .ok (.invokevirtual 94, 3) := by decide +kernel
theorem d_L_law_479 : decode b_L_law 479 = .ok (.istore 6, 2) := by decide +kernel
theorem d_L_law_481 : decode b_L_law 481 = .ok (.aload_n 2, 1) := by decide +kernel
theorem d_L_law_482 : decode b_L_law 482 = .ok (.invokevirtual 77, 3) := by decide +kernel
theorem d_L_law_485 : decode b_L_law 485 = .ok (.iload 5, 2) := by decide +kernel
theorem d_L_law_487 : decode b_L_law 487 = .ok (.if_icmp .eq 5, 3) := by decide +kernel
theorem d_L_law_490 : decode b_L_law 490 = .ok (.iconst 0, 1) := by decide +kernel
theorem d_L_law_491 : decode b_L_law 491 = .ok (.ireturn, 1) := by decide +kernel
theorem d_L_law_492 : decode b_L_law 492 = .ok (.iload 5, 2) := by decide +kernel
theorem d_L_law_494 : decode b_L_law 494 = .ok (.ifCond .ne 22, 3) := by decide +kernel
theorem d_L_law_497 : decode b_L_law 497 = .ok (.aload_n 3, 1) := by decide +kernel
theorem d_L_law_498 : decode b_L_law 498 = .ok (.iconst 0, 1) := by decide +kernel
theorem d_L_law_499 : decode b_L_law 499 = .ok (.laload, 1) := by decide +kernel
theorem d_L_law_500 : decode b_L_law 500 = .ok (.iload 6, 2) := by decide +kernel
theorem d_L_law_502 : decode b_L_law 502 = .ok (.ifCond .eq 7, 3) := by decide +kernel
theorem d_L_law_505 : decode b_L_law 505 = .ok (.lconst 1, 1) := by decide +kernel
theorem d_L_law_506 : decode b_L_law 506 = .ok (.goto 4, 3) := by decide +kernel
theorem d_L_law_509 : decode b_L_law 509 = .ok (.lconst 0, 1) := by decide +kernel
theorem d_L_law_510 : decode b_L_law 510 = .ok (.lcmp, 1) := by decide +kernel
theorem d_L_law_511 : decode b_L_law 511 = .ok (.ifCond .eq 5, 3) := by decide +kernel
theorem d_L_law_514 : decode b_L_law 514 = .ok (.iconst 0, 1) := by decide +kernel
theorem d_L_law_515 : decode b_L_law 515 = .ok (.ireturn, 1) := by decide +kernel
theorem d_L_law_516 : decode b_L_law 516 = .ok (.goto 702, 3) := by decide +kernel
theorem d_L_law_519 : decode b_L_law 519 = .ok (.aload_n 1, 1) := by decide +kernel
theorem d_L_law_520 : decode b_L_law 520 = .ok (.aload_n 0, 1) := by decide +kernel
theorem d_L_law_521 : decode b_L_law 521 = .ok (.iload 4, 2) := by decide +kernel
theorem d_L_law_523 : decode b_L_law 523 = .ok (.iconst 1, 1) := by decide +kernel
theorem d_L_law_524 : decode b_L_law 524 = .ok (.iadd, 1) := by decide +kernel
theorem d_L_law_525 : decode b_L_law 525 = .ok (.iaload, 1) := by decide +kernel
theorem d_L_law_526 : decode b_L_law 526 = .ok (.aload_n 0, 1) := by decide +kernel
theorem d_L_law_527 : decode b_L_law 527 = .ok (.iload 4, 2) := by decide +kernel
theorem d_L_law_529 : decode b_L_law 529 = .ok (.iconst 2, 1) := by decide +kernel
theorem d_L_law_530 : decode b_L_law 530 = .ok (.iadd, 1) := by decide +kernel
theorem d_L_law_531 : decode b_L_law 531 = .ok (.iaload, 1) := by decide +kernel
theorem d_L_law_532 : decode b_L_law 532 = .ok (.aload_n 0, 1) := by decide +kernel
theorem d_L_law_533 : decode b_L_law 533 = .ok (.iload 4, 2) := by decide +kernel
theorem d_L_law_535 : decode b_L_law 535 = .ok (.iconst 3, 1) := by decide +kernel
theorem d_L_law_536 : decode b_L_law 536 = .ok (.iadd, 1) := by decide +kernel
theorem d_L_law_537 : decode b_L_law 537 = .ok (.iaload, 1) := by decide +kernel
theorem d_L_law_538 : decode b_L_law 538 = .ok (.aload_n 0, 1) := by decide +kernel
theorem d_L_law_539 : decode b_L_law 539 = .ok (.iload 4, 2) := by decide +kernel
theorem d_L_law_541 : decode b_L_law 541 = .ok (.iconst 4, 1) := by decide +kernel
theorem d_L_law_542 : decode b_L_law 542 = .ok (.iadd, 1) := by decide +kernel
theorem d_L_law_543 : decode b_L_law 543 = .ok (.iaload, 1) := by decide +kernel
theorem d_L_law_544 : decode b_L_law 544 = .ok (.aload_n 3, 1) := by decide +kernel
theorem d_L_law_545 : decode b_L_law 545 = .ok (.invokestatic 95, 3) := by decide +kernel
theorem d_L_law_548 : decode b_L_law 548 = .ok (.istore 5, 2) := by decide +kernel
theorem d_L_law_550 : decode b_L_law 550 = .ok (.aload_n 2, 1) := by decide +kernel
theorem d_L_law_551 : decode b_L_law 551 = .ok (.aload_n 0, 1) := by decide +kernel
theorem d_L_law_552 : decode b_L_law 552 = .ok (.iload 4, 2) := by decide +kernel
theorem d_L_law_554 : decode b_L_law 554 = .ok (.iconst 1, 1) := by decide +kernel
theorem d_L_law_555 : decode b_L_law 555 = .ok (.iadd, 1) := by decide +kernel
theorem d_L_law_556 : decode b_L_law 556 = .ok (.iaload, 1) := by decide +kernel
theorem d_L_law_557 : decode b_L_law 557 = .ok (.aload_n 0, 1) := by decide +kernel
theorem d_L_law_558 : decode b_L_law 558 = .ok (.iload 4, 2) := by decide +kernel
theorem d_L_law_560 : decode b_L_law 560 = .ok (.iconst 2, 1) := by decide +kernel
theorem d_L_law_561 : decode b_L_law 561 = .ok (.iadd, 1) := by decide +kernel
theorem d_L_law_562 : decode b_L_law 562 = .ok (.iaload, 1) := by decide +kernel
theorem d_L_law_563 : decode b_L_law 563 = .ok (.aload_n 0, 1) := by decide +kernel
theorem d_L_law_564 : decode b_L_law 564 = .ok (.iload 4, 2) := by decide +kernel
theorem d_L_law_566 : decode b_L_law 566 = .ok (.iconst 3, 1) := by decide +kernel
theorem d_L_law_567 : decode b_L_law 567 = .ok (.iadd, 1) := by decide +kernel
theorem d_L_law_568 : decode b_L_law 568 = .ok (.iaload, 1) := by decide +kernel
theorem d_L_law_569 : decode b_L_law 569 = .ok (.aload_n 0, 1) := by decide +kernel
theorem d_L_law_570 : decode b_L_law 570 = .ok (.iload 4, 2) := by decide +kernel
theorem d_L_law_572 : decode b_L_law 572 = .ok (.iconst 4, 1) := by decide +kernel
theorem d_L_law_573 : decode b_L_law 573 = .ok (.iadd, 1) := by decide +kernel
theorem d_L_law_574 : decode b_L_law 574 = .ok (.iaload, 1) := by decide +kernel
theorem d_L_law_575 : decode b_L_law 575 = .ok (.invokevirtual 98, 3) := by decide +kernel
theorem d_L_law_578 : decode b_L_law 578 = .ok (.istore 6, 2) := by decide +kernel
theorem d_L_law_580 : decode b_L_law 580 = .ok (.aload_n 2, 1) := by decide +kernel
theorem d_L_law_581 : decode b_L_law 581 = .ok (.invokevirtual 77, 3) := by decide +kernel
theorem d_L_law_584 : decode b_L_law 584 = .ok (.iload 5, 2) := by decide +kernel
theorem d_L_law_586 : decode b_L_law 586 = .ok (.if_icmp .eq 5, 3) := by decide +kernel
theorem d_L_law_589 : decode b_L_law 589 = .ok (.iconst 0, 1) := by decide +kernel
theorem d_L_law_590 : decode b_L_law 590 = .ok (.ireturn, 1) := by decide +kernel
theorem d_L_law_591 : decode b_L_law 591 = .ok (.iload 5, 2) := by decide +kernel
theorem d_L_law_593 : decode b_L_law 593 = .ok (.ifCond .ne 15, 3) := by decide +kernel
theorem d_L_law_596 : decode b_L_law 596 = .ok (.aload_n 3, 1) := by decide +kernel
theorem d_L_law_597 : decode b_L_law 597 = .ok (.iconst 0, 1) := by decide +kernel
theorem d_L_law_598 : decode b_L_law 598 = .ok (.laload, 1) := by decide +kernel
theorem d_L_law_599 : decode b_L_law 599 = .ok (.iload 6, 2) := by decide +kernel
theorem d_L_law_601 : decode b_L_law 601 = .ok (.i2l, 1) := by decide +kernel
theorem d_L_law_602 : decode b_L_law 602 = .ok (.lcmp, 1) := by decide +kernel
theorem d_L_law_603 : decode b_L_law 603 = .ok (.ifCond .eq 5, 3) := by decide +kernel
theorem d_L_law_606 : decode b_L_law 606 = .ok (.iconst 0, 1) := by decide +kernel
theorem d_L_law_607 : decode b_L_law 607 = .ok (.ireturn, 1) := by decide +kernel
theorem d_L_law_608 : decode b_L_law 608 = .ok (.goto 610, 3) := by decide +kernel
theorem d_L_law_611 : decode b_L_law 611 = .ok (.aload_n 1, 1) := by decide +kernel
theorem d_L_law_612 : decode b_L_law 612 = .ok (.aload_n 0, 1) := by decide +kernel
theorem d_L_law_613 : decode b_L_law 613 = .ok (.iload 4, 2) := by decide +kernel
theorem d_L_law_615 : decode b_L_law 615 = .ok (.iconst 1, 1) := by decide +kernel
theorem d_L_law_616 : decode b_L_law 616 = .ok (.iadd, 1) := by decide +kernel
theorem d_L_law_617 : decode b_L_law 617 = .ok (.iaload, 1) := by decide +kernel
theorem d_L_law_618 : decode b_L_law 618 = .ok (.aload_n 3, 1) := by decide +kernel
theorem d_L_law_619 : decode b_L_law 619 = .ok (.invokestatic 99, 3) := by decide +kernel
theorem d_L_law_622 : decode b_L_law 622 = .ok (.istore 5, 2) := by decide +kernel
theorem d_L_law_624 : decode b_L_law 624 = .ok (.aload_n 2, 1) := by decide +kernel
theorem d_L_law_625 : decode b_L_law 625 = .ok (.aload_n 0, 1) := by decide +kernel
theorem d_L_law_626 : decode b_L_law 626 = .ok (.iload 4, 2) := by decide +kernel
theorem d_L_law_628 : decode b_L_law 628 = .ok (.iconst 1, 1) := by decide +kernel
theorem d_L_law_629 : decode b_L_law 629 = .ok (.iadd, 1) := by decide +kernel
theorem d_L_law_630 : decode b_L_law 630 = .ok (.iaload, 1) := by decide +kernel
theorem d_L_law_631 : decode b_L_law 631 = .ok (.invokevirtual 102, 3) := by decide +kernel
theorem d_L_law_634 : decode b_L_law 634 = .ok (.istore 6, 2) := by decide +kernel
theorem d_L_law_636 : decode b_L_law 636 = .ok (.aload_n 2, 1) := by decide +kernel
theorem d_L_law_637 : decode b_L_law 637 = .ok (.invokevirtual 77, 3) := by decide +kernel
theorem d_L_law_640 : decode b_L_law 640 = .ok (.iload 5, 2) := by decide +kernel
theorem d_L_law_642 : decode b_L_law 642 = .ok (.if_icmp .eq 5, 3) := by decide +kernel
theorem d_L_law_645 : decode b_L_law 645 = .ok (.iconst 0, 1) := by decide +kernel
theorem d_L_law_646 : decode b_L_law 646 = .ok (.ireturn, 1) := by decide +kernel
theorem d_L_law_647 : decode b_L_law 647 = .ok (.iload 5, 2) := by decide +kernel
theorem d_L_law_649 : decode b_L_law 649 = .ok (.ifCond .ne 15, 3) := by decide +kernel
theorem d_L_law_652 : decode b_L_law 652 = .ok (.aload_n 3, 1) := by decide +kernel
theorem d_L_law_653 : decode b_L_law 653 = .ok (.iconst 0, 1) := by decide +kernel
theorem d_L_law_654 : decode b_L_law 654 = .ok (.laload, 1) := by decide +kernel
theorem d_L_law_655 : decode b_L_law 655 = .ok (.iload 6, 2) := by decide +kernel
theorem d_L_law_657 : decode b_L_law 657 = .ok (.i2l, 1) := by decide +kernel
theorem d_L_law_658 : decode b_L_law 658 = .ok (.lcmp, 1) := by decide +kernel
theorem d_L_law_659 : decode b_L_law 659 = .ok (.ifCond .eq 5, 3) := by decide +kernel
theorem d_L_law_662 : decode b_L_law 662 = .ok (.iconst 0, 1) := by decide +kernel
