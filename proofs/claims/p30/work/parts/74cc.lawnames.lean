/-! THE LAW: instructions and calls (of claim/NAMES.whole.lean.txt) -/
theorem dL_step_466 : decode cL_step 466 = .ok (.iaload, 1) := by decide +kernel
theorem dL_step_467 : decode cL_step 467 = .ok (.aload_n 0, 1) := by decide +kernel
theorem dL_step_468 : decode cL_step 468 = .ok (.iconst 3, 1) := by decide +kernel
theorem dL_step_469 : decode cL_step 469 = .ok (.iaload, 1) := by decide +kernel
theorem dL_step_470 : decode cL_step 470 = .ok (.if_icmp .ne 11, 3) := by decide +kernel
theorem dL_step_473 : decode cL_step 473 = .ok (.aload_n 0, 1) := by decide +kernel
theorem dL_step_474 : decode cL_step 474 = .ok (.aload 4, 2) := by decide +kernel
theorem dL_step_476 : decode cL_step 476 = .ok (.iload 6, 2) := by decide +kernel
theorem dL_step_478 : decode cL_step 478 = .ok (.invokestatic 15, 3) := by decide +kernel
theorem dL_step_481 : decode cL_step 481 = .ok (.iinc 6 (-1), 3) := by decide +kernel
theorem dL_step_484 : decode cL_step 484 = .ok (.goto (-159), 3) := by decide +kernel
theorem dL_step_487 : decode cL_step 487 = .ok (.iconst 0, 1) := by decide +kernel
theorem dL_step_488 : decode cL_step 488 = .ok (.istore 6, 2) := by decide +kernel
theorem dL_step_490 : decode cL_step 490 = .ok (.iload 6, 2) := by decide +kernel
theorem dL_step_492 : decode cL_step 492 = .ok (.aload_n 0, 1) := by decide +kernel
theorem dL_step_493 : decode cL_step 493 = .ok (.iconst 0, 1) := by decide +kernel
theorem dL_step_494 : decode cL_step 494 = .ok (.iaload, 1) := by decide +kernel
theorem dL_step_495 : decode cL_step 495 = .ok (.if_icmp .ge 87, 3) := by decide +kernel
theorem dL_step_498 : decode cL_step 498 = .ok (.aload_n 1, 1) := by decide +kernel
theorem dL_step_499 : decode cL_step 499 = .ok (.bipush 6, 2) := by decide +kernel
theorem dL_step_501 : decode cL_step 501 = .ok (.iload 6, 2) := by decide +kernel
theorem dL_step_503 : decode cL_step 503 = .ok (.imul, 1) := by decide +kernel
theorem dL_step_504 : decode cL_step 504 = .ok (.iconst 2, 1) := by decide +kernel
theorem dL_step_505 : decode cL_step 505 = .ok (.iadd, 1) := by decide +kernel
theorem dL_step_506 : decode cL_step 506 = .ok (.iaload, 1) := by decide +kernel
theorem dL_step_507 : decode cL_step 507 = .ok (.i2l, 1) := by decide +kernel
theorem dL_step_508 : decode cL_step 508 = .ok (.aload_n 1, 1) := by decide +kernel
theorem dL_step_509 : decode cL_step 509 = .ok (.bipush 6, 2) := by decide +kernel
theorem dL_step_511 : decode cL_step 511 = .ok (.iload 6, 2) := by decide +kernel
theorem dL_step_513 : decode cL_step 513 = .ok (.imul, 1) := by decide +kernel
theorem dL_step_514 : decode cL_step 514 = .ok (.iconst 1, 1) := by decide +kernel
theorem dL_step_515 : decode cL_step 515 = .ok (.iadd, 1) := by decide +kernel
theorem dL_step_516 : decode cL_step 516 = .ok (.iaload, 1) := by decide +kernel
theorem dL_step_517 : decode cL_step 517 = .ok (.i2l, 1) := by decide +kernel
theorem dL_step_518 : decode cL_step 518 = .ok (.lmul, 1) := by decide +kernel
theorem dL_step_519 : decode cL_step 519 = .ok (.lstore 7, 2) := by decide +kernel
theorem dL_step_521 : decode cL_step 521 = .ok (.lload 7, 2) := by decide +kernel
theorem dL_step_523 : decode cL_step 523 = .ok (.ldc2_w 19, 3) := by decide +kernel
theorem dL_step_526 : decode cL_step 526 = .ok (.ldiv, 1) := by decide +kernel
theorem dL_step_527 : decode cL_step 527 = .ok (.lload 7, 2) := by decide +kernel
theorem dL_step_529 : decode cL_step 529 = .ok (.ldc2_w 19, 3) := by decide +kernel
theorem dL_step_532 : decode cL_step 532 = .ok (.lrem, 1) := by decide +kernel
theorem dL_step_533 : decode cL_step 533 = .ok (.lconst 0, 1) := by decide +kernel
theorem dL_step_534 : decode cL_step 534 = .ok (.lcmp, 1) := by decide +kernel
theorem dL_step_535 : decode cL_step 535 = .ok (.ifCond .le 7, 3) := by decide +kernel
theorem dL_step_538 : decode cL_step 538 = .ok (.iconst 1, 1) := by decide +kernel
theorem dL_step_539 : decode cL_step 539 = .ok (.goto 4, 3) := by decide +kernel
theorem dL_step_542 : decode cL_step 542 = .ok (.iconst 0, 1) := by decide +kernel
theorem dL_step_543 : decode cL_step 543 = .ok (.i2l, 1) := by decide +kernel
theorem dL_step_544 : decode cL_step 544 = .ok (.ladd, 1) := by decide +kernel
theorem dL_step_545 : decode cL_step 545 = .ok (.l2i, 1) := by decide +kernel
theorem dL_step_546 : decode cL_step 546 = .ok (.istore 9, 2) := by decide +kernel
theorem dL_step_548 : decode cL_step 548 = .ok (.aload_n 1, 1) := by decide +kernel
theorem dL_step_549 : decode cL_step 549 = .ok (.bipush 6, 2) := by decide +kernel
theorem dL_step_551 : decode cL_step 551 = .ok (.iload 6, 2) := by decide +kernel
theorem dL_step_553 : decode cL_step 553 = .ok (.imul, 1) := by decide +kernel
theorem dL_step_554 : decode cL_step 554 = .ok (.iconst 2, 1) := by decide +kernel
theorem dL_step_555 : decode cL_step 555 = .ok (.iadd, 1) := by decide +kernel
theorem dL_step_556 : decode cL_step 556 = .ok (.dup2, 1) := by decide +kernel
theorem dL_step_557 : decode cL_step 557 = .ok (.iaload, 1) := by decide +kernel
theorem dL_step_558 : decode cL_step 558 = .ok (.iload 9, 2) := by decide +kernel
theorem dL_step_560 : decode cL_step 560 = .ok (.isub, 1) := by decide +kernel
theorem dL_step_561 : decode cL_step 561 = .ok (.iastore, 1) := by decide +kernel
theorem dL_step_562 : decode cL_step 562 = .ok (.aload_n 1, 1) := by decide +kernel
theorem dL_step_563 : decode cL_step 563 = .ok (.bipush 6, 2) := by decide +kernel
theorem dL_step_565 : decode cL_step 565 = .ok (.iload 6, 2) := by decide +kernel
theorem dL_step_567 : decode cL_step 567 = .ok (.imul, 1) := by decide +kernel
theorem dL_step_568 : decode cL_step 568 = .ok (.iconst 3, 1) := by decide +kernel
theorem dL_step_569 : decode cL_step 569 = .ok (.iadd, 1) := by decide +kernel
theorem dL_step_570 : decode cL_step 570 = .ok (.dup2, 1) := by decide +kernel
theorem dL_step_571 : decode cL_step 571 = .ok (.iaload, 1) := by decide +kernel
theorem dL_step_572 : decode cL_step 572 = .ok (.iload 9, 2) := by decide +kernel
theorem dL_step_574 : decode cL_step 574 = .ok (.iadd, 1) := by decide +kernel
theorem dL_step_575 : decode cL_step 575 = .ok (.iastore, 1) := by decide +kernel
theorem dL_step_576 : decode cL_step 576 = .ok (.iinc 6 1, 3) := by decide +kernel
theorem dL_step_579 : decode cL_step 579 = .ok (.goto (-89), 3) := by decide +kernel
theorem dL_step_582 : decode cL_step 582 = .ok (.bipush 8, 2) := by decide +kernel
theorem dL_step_584 : decode cL_step 584 = .ok (.newarray .int, 2) := by decide +kernel
theorem dL_step_586 : decode cL_step 586 = .ok (.astore 6, 2) := by decide +kernel
theorem dL_step_588 : decode cL_step 588 = .ok (.iconst 0, 1) := by decide +kernel
theorem dL_step_589 : decode cL_step 589 = .ok (.istore 7, 2) := by decide +kernel
theorem dL_step_591 : decode cL_step 591 = .ok (.iload 7, 2) := by decide +kernel
theorem dL_step_593 : decode cL_step 593 = .ok (.iconst 2, 1) := by decide +kernel
theorem dL_step_594 : decode cL_step 594 = .ok (.aload_n 0, 1) := by decide +kernel
theorem dL_step_595 : decode cL_step 595 = .ok (.iconst 1, 1) := by decide +kernel
theorem dL_step_596 : decode cL_step 596 = .ok (.iaload, 1) := by decide +kernel
theorem dL_step_597 : decode cL_step 597 = .ok (.imul, 1) := by decide +kernel
theorem dL_step_598 : decode cL_step 598 = .ok (.if_icmp .ge 27, 3) := by decide +kernel
theorem dL_step_601 : decode cL_step 601 = .ok (.aload 6, 2) := by decide +kernel
theorem dL_step_603 : decode cL_step 603 = .ok (.iload 7, 2) := by decide +kernel
theorem dL_step_605 : decode cL_step 605 = .ok (.aload_n 1, 1) := by decide +kernel
theorem dL_step_606 : decode cL_step 606 = .ok (.aload_n 2, 1) := by decide +kernel
theorem dL_step_607 : decode cL_step 607 = .ok (.iload 7, 2) := by decide +kernel
theorem dL_step_609 : decode cL_step 609 = .ok (.iconst 2, 1) := by decide +kernel
theorem dL_step_610 : decode cL_step 610 = .ok (.idiv, 1) := by decide +kernel
theorem dL_step_611 : decode cL_step 611 = .ok (.iload 7, 2) := by decide +kernel
theorem dL_step_613 : decode cL_step 613 = .ok (.iconst 2, 1) := by decide +kernel
theorem dL_step_614 : decode cL_step 614 = .ok (.irem, 1) := by decide +kernel
theorem dL_step_615 : decode cL_step 615 = .ok (.invokestatic 21, 3) := by decide +kernel
theorem dL_step_618 : decode cL_step 618 = .ok (.iastore, 1) := by decide +kernel
theorem dL_step_619 : decode cL_step 619 = .ok (.iinc 7 1, 3) := by decide +kernel
theorem dL_step_622 : decode cL_step 622 = .ok (.goto (-31), 3) := by decide +kernel
theorem dL_step_625 : decode cL_step 625 = .ok (.iconst 0, 1) := by decide +kernel
theorem dL_step_626 : decode cL_step 626 = .ok (.istore 7, 2) := by decide +kernel
theorem dL_step_628 : decode cL_step 628 = .ok (.iload 7, 2) := by decide +kernel
theorem dL_step_630 : decode cL_step 630 = .ok (.iconst 2, 1) := by decide +kernel
theorem dL_step_631 : decode cL_step 631 = .ok (.aload_n 0, 1) := by decide +kernel
theorem dL_step_632 : decode cL_step 632 = .ok (.iconst 1, 1) := by decide +kernel
theorem dL_step_633 : decode cL_step 633 = .ok (.iaload, 1) := by decide +kernel
theorem dL_step_634 : decode cL_step 634 = .ok (.imul, 1) := by decide +kernel
theorem dL_step_635 : decode cL_step 635 = .ok (.if_icmp .ge 209, 3) := by decide +kernel
theorem dL_step_638 : decode cL_step 638 = .ok (.aload_n 2, 1) := by decide +kernel
theorem dL_step_639 : decode cL_step 639 = .ok (.bipush 10, 2) := by decide +kernel
theorem dL_step_641 : decode cL_step 641 = .ok (.iload 7, 2) := by decide +kernel
theorem dL_step_643 : decode cL_step 643 = .ok (.iconst 2, 1) := by decide +kernel
theorem dL_step_644 : decode cL_step 644 = .ok (.idiv, 1) := by decide +kernel
theorem dL_step_645 : decode cL_step 645 = .ok (.imul, 1) := by decide +kernel
theorem dL_step_646 : decode cL_step 646 = .ok (.iload 7, 2) := by decide +kernel
theorem dL_step_648 : decode cL_step 648 = .ok (.iconst 2, 1) := by decide +kernel
theorem dL_step_649 : decode cL_step 649 = .ok (.irem, 1) := by decide +kernel
theorem dL_step_650 : decode cL_step 650 = .ok (.iadd, 1) := by decide +kernel
theorem dL_step_651 : decode cL_step 651 = .ok (.iaload, 1) := by decide +kernel
theorem dL_step_652 : decode cL_step 652 = .ok (.istore 8, 2) := by decide +kernel
theorem dL_step_654 : decode cL_step 654 = .ok (.aload_n 2, 1) := by decide +kernel
theorem dL_step_655 : decode cL_step 655 = .ok (.bipush 10, 2) := by decide +kernel
theorem dL_step_657 : decode cL_step 657 = .ok (.iload 7, 2) := by decide +kernel
theorem dL_step_659 : decode cL_step 659 = .ok (.iconst 2, 1) := by decide +kernel
theorem dL_step_660 : decode cL_step 660 = .ok (.idiv, 1) := by decide +kernel
theorem dL_step_661 : decode cL_step 661 = .ok (.imul, 1) := by decide +kernel
theorem dL_step_662 : decode cL_step 662 = .ok (.iconst 1, 1) := by decide +kernel
theorem dL_step_663 : decode cL_step 663 = .ok (.iadd, 1) := by decide +kernel
theorem dL_step_664 : decode cL_step 664 = .ok (.iload 7, 2) := by decide +kernel
theorem dL_step_666 : decode cL_step 666 = .ok (.iconst 2, 1) := by decide +kernel
theorem dL_step_667 : decode cL_step 667 = .ok (.irem, 1) := by decide +kernel
theorem dL_step_668 : decode cL_step 668 = .ok (.isub, 1) := by decide +kernel
theorem dL_step_669 : decode cL_step 669 = .ok (.iaload, 1) := by decide +kernel
theorem dL_step_670 : decode cL_step 670 = .ok (.istore 9, 2) := by decide +kernel
theorem dL_step_672 : decode cL_step 672 = .ok (.aload_n 2, 1) := by decide +kernel
theorem dL_step_673 : decode cL_step 673 = .ok (.bipush 10, 2) := by decide +kernel
theorem dL_step_675 : decode cL_step 675 = .ok (.iload 7, 2) := by decide +kernel
theorem dL_step_677 : decode cL_step 677 = .ok (.iconst 2, 1) := by decide +kernel
theorem dL_step_678 : decode cL_step 678 = .ok (.idiv, 1) := by decide +kernel
theorem dL_step_679 : decode cL_step 679 = .ok (.imul, 1) := by decide +kernel
theorem dL_step_680 : decode cL_step 680 = .ok (.bipush 8, 2) := by decide +kernel
theorem dL_step_682 : decode cL_step 682 = .ok (.iadd, 1) := by decide +kernel
theorem dL_step_683 : decode cL_step 683 = .ok (.iload 7, 2) := by decide +kernel
theorem dL_step_685 : decode cL_step 685 = .ok (.iconst 2, 1) := by decide +kernel
theorem dL_step_686 : decode cL_step 686 = .ok (.irem, 1) := by decide +kernel
theorem dL_step_687 : decode cL_step 687 = .ok (.iadd, 1) := by decide +kernel
theorem dL_step_688 : decode cL_step 688 = .ok (.dup2, 1) := by decide +kernel
