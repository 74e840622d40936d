/-! THE LAW: instructions and calls (of claim/NAMES.whole.lean.txt) -/
theorem dL_acts_470 : decode cL_acts 470 = .ok (.aload_n 0, 1) := by decide +kernel
theorem dL_acts_471 : decode cL_acts 471 = .ok (.iload 10, 2) := by decide +kernel
theorem dL_acts_473 : decode cL_acts 473 = .ok (.iload 11, 2) := by decide +kernel
theorem dL_acts_475 : decode cL_acts 475 = .ok (.iload 12, 2) := by decide +kernel
theorem dL_acts_477 : decode cL_acts 477 = .ok (.iconst 1, 1) := by decide +kernel
theorem dL_acts_478 : decode cL_acts 478 = .ok (.bipush 6, 2) := by decide +kernel
theorem dL_acts_480 : decode cL_acts 480 = .ok (.invokevirtual 35, 3) := by decide +kernel
theorem dL_acts_483 : decode cL_acts 483 = .ok (.iconst (-1), 1) := by decide +kernel
theorem dL_acts_484 : decode cL_acts 484 = .ok (.if_icmp .ne 7, 3) := by decide +kernel
theorem dL_acts_487 : decode cL_acts 487 = .ok (.iconst 1, 1) := by decide +kernel
theorem dL_acts_488 : decode cL_acts 488 = .ok (.goto 4, 3) := by decide +kernel
theorem dL_acts_491 : decode cL_acts 491 = .ok (.iconst 0, 1) := by decide +kernel
theorem dL_acts_492 : decode cL_acts 492 = .ok (.ireturn, 1) := by decide +kernel
theorem dL_acts_493 : decode cL_acts 493 = .ok (.bipush 10, 2) := by decide +kernel
theorem dL_acts_495 : decode cL_acts 495 = .ok (.aload_n 1, 1) := by decide +kernel
theorem dL_acts_496 : decode cL_acts 496 = .ok (.iconst 1, 1) := by decide +kernel
theorem dL_acts_497 : decode cL_acts 497 = .ok (.iaload, 1) := by decide +kernel
theorem dL_acts_498 : decode cL_acts 498 = .ok (.imul, 1) := by decide +kernel
theorem dL_acts_499 : decode cL_acts 499 = .ok (.istore 14, 2) := by decide +kernel
theorem dL_acts_501 : decode cL_acts 501 = .ok (.iconst 0, 1) := by decide +kernel
theorem dL_acts_502 : decode cL_acts 502 = .ok (.istore 15, 2) := by decide +kernel
theorem dL_acts_504 : decode cL_acts 504 = .ok (.iload 15, 2) := by decide +kernel
theorem dL_acts_506 : decode cL_acts 506 = .ok (.bipush 10, 2) := by decide +kernel
theorem dL_acts_508 : decode cL_acts 508 = .ok (.if_icmp .ge 85, 3) := by decide +kernel
theorem dL_acts_511 : decode cL_acts 511 = .ok (.aload_n 3, 1) := by decide +kernel
theorem dL_acts_512 : decode cL_acts 512 = .ok (.iload 14, 2) := by decide +kernel
theorem dL_acts_514 : decode cL_acts 514 = .ok (.iload 15, 2) := by decide +kernel
theorem dL_acts_516 : decode cL_acts 516 = .ok (.iadd, 1) := by decide +kernel
theorem dL_acts_517 : decode cL_acts 517 = .ok (.iload 15, 2) := by decide +kernel
theorem dL_acts_519 : decode cL_acts 519 = .ok (.ifCond .ne 8, 3) := by decide +kernel
theorem dL_acts_522 : decode cL_acts 522 = .ok (.iload 10, 2) := by decide +kernel
theorem dL_acts_524 : decode cL_acts 524 = .ok (.goto 62, 3) := by decide +kernel
theorem dL_acts_527 : decode cL_acts 527 = .ok (.iload 15, 2) := by decide +kernel
theorem dL_acts_529 : decode cL_acts 529 = .ok (.iconst 1, 1) := by decide +kernel
theorem dL_acts_530 : decode cL_acts 530 = .ok (.if_icmp .ne 8, 3) := by decide +kernel
theorem dL_acts_533 : decode cL_acts 533 = .ok (.iload 11, 2) := by decide +kernel
theorem dL_acts_535 : decode cL_acts 535 = .ok (.goto 51, 3) := by decide +kernel
theorem dL_acts_538 : decode cL_acts 538 = .ok (.iload 15, 2) := by decide +kernel
theorem dL_acts_540 : decode cL_acts 540 = .ok (.iconst 2, 1) := by decide +kernel
theorem dL_acts_541 : decode cL_acts 541 = .ok (.if_icmp .ne 8, 3) := by decide +kernel
theorem dL_acts_544 : decode cL_acts 544 = .ok (.iload 12, 2) := by decide +kernel
theorem dL_acts_546 : decode cL_acts 546 = .ok (.goto 40, 3) := by decide +kernel
theorem dL_acts_549 : decode cL_acts 549 = .ok (.iload 15, 2) := by decide +kernel
theorem dL_acts_551 : decode cL_acts 551 = .ok (.iconst 3, 1) := by decide +kernel
theorem dL_acts_552 : decode cL_acts 552 = .ok (.if_icmp .ne 16, 3) := by decide +kernel
theorem dL_acts_555 : decode cL_acts 555 = .ok (.iconst 1, 1) := by decide +kernel
theorem dL_acts_556 : decode cL_acts 556 = .ok (.iload 8, 2) := by decide +kernel
theorem dL_acts_558 : decode cL_acts 558 = .ok (.bipush 11, 2) := by decide +kernel
theorem dL_acts_560 : decode cL_acts 560 = .ok (.idiv, 1) := by decide +kernel
theorem dL_acts_561 : decode cL_acts 561 = .ok (.bipush 10, 2) := by decide +kernel
theorem dL_acts_563 : decode cL_acts 563 = .ok (.irem, 1) := by decide +kernel
theorem dL_acts_564 : decode cL_acts 564 = .ok (.iadd, 1) := by decide +kernel
theorem dL_acts_565 : decode cL_acts 565 = .ok (.goto 21, 3) := by decide +kernel
theorem dL_acts_568 : decode cL_acts 568 = .ok (.iload 15, 2) := by decide +kernel
theorem dL_acts_570 : decode cL_acts 570 = .ok (.iconst 4, 1) := by decide +kernel
theorem dL_acts_571 : decode cL_acts 571 = .ok (.if_icmp .ne 14, 3) := by decide +kernel
theorem dL_acts_574 : decode cL_acts 574 = .ok (.iload 8, 2) := by decide +kernel
theorem dL_acts_576 : decode cL_acts 576 = .ok (.bipush 13, 2) := by decide +kernel
theorem dL_acts_578 : decode cL_acts 578 = .ok (.idiv, 1) := by decide +kernel
theorem dL_acts_579 : decode cL_acts 579 = .ok (.bipush 6, 2) := by decide +kernel
theorem dL_acts_581 : decode cL_acts 581 = .ok (.irem, 1) := by decide +kernel
theorem dL_acts_582 : decode cL_acts 582 = .ok (.goto 4, 3) := by decide +kernel
theorem dL_acts_585 : decode cL_acts 585 = .ok (.iconst 0, 1) := by decide +kernel
theorem dL_acts_586 : decode cL_acts 586 = .ok (.iastore, 1) := by decide +kernel
theorem dL_acts_587 : decode cL_acts 587 = .ok (.iinc 15 1, 3) := by decide +kernel
theorem dL_acts_590 : decode cL_acts 590 = .ok (.goto (-86), 3) := by decide +kernel
theorem dL_acts_593 : decode cL_acts 593 = .ok (.iconst 0, 1) := by decide +kernel
theorem dL_acts_594 : decode cL_acts 594 = .ok (.istore 15, 2) := by decide +kernel
theorem dL_acts_596 : decode cL_acts 596 = .ok (.iload 15, 2) := by decide +kernel
theorem dL_acts_598 : decode cL_acts 598 = .ok (.bipush 12, 2) := by decide +kernel
theorem dL_acts_600 : decode cL_acts 600 = .ok (.if_icmp .ge 22, 3) := by decide +kernel
theorem dL_acts_603 : decode cL_acts 603 = .ok (.aload 4, 2) := by decide +kernel
theorem dL_acts_605 : decode cL_acts 605 = .ok (.bipush 12, 2) := by decide +kernel
theorem dL_acts_607 : decode cL_acts 607 = .ok (.aload_n 1, 1) := by decide +kernel
theorem dL_acts_608 : decode cL_acts 608 = .ok (.iconst 1, 1) := by decide +kernel
theorem dL_acts_609 : decode cL_acts 609 = .ok (.iaload, 1) := by decide +kernel
theorem dL_acts_610 : decode cL_acts 610 = .ok (.imul, 1) := by decide +kernel
theorem dL_acts_611 : decode cL_acts 611 = .ok (.iload 15, 2) := by decide +kernel
theorem dL_acts_613 : decode cL_acts 613 = .ok (.iadd, 1) := by decide +kernel
theorem dL_acts_614 : decode cL_acts 614 = .ok (.iconst 0, 1) := by decide +kernel
theorem dL_acts_615 : decode cL_acts 615 = .ok (.iastore, 1) := by decide +kernel
theorem dL_acts_616 : decode cL_acts 616 = .ok (.iinc 15 1, 3) := by decide +kernel
theorem dL_acts_619 : decode cL_acts 619 = .ok (.goto (-23), 3) := by decide +kernel
theorem dL_acts_622 : decode cL_acts 622 = .ok (.aload_n 1, 1) := by decide +kernel
theorem dL_acts_623 : decode cL_acts 623 = .ok (.iconst 1, 1) := by decide +kernel
theorem dL_acts_624 : decode cL_acts 624 = .ok (.dup2, 1) := by decide +kernel
theorem dL_acts_625 : decode cL_acts 625 = .ok (.iaload, 1) := by decide +kernel
theorem dL_acts_626 : decode cL_acts 626 = .ok (.iconst 1, 1) := by decide +kernel
theorem dL_acts_627 : decode cL_acts 627 = .ok (.iadd, 1) := by decide +kernel
theorem dL_acts_628 : decode cL_acts 628 = .ok (.iastore, 1) := by decide +kernel
theorem dL_acts_629 : decode cL_acts 629 = .ok (.aload_n 0, 1) := by decide +kernel
theorem dL_acts_630 : decode cL_acts 630 = .ok (.iload 10, 2) := by decide +kernel
theorem dL_acts_632 : decode cL_acts 632 = .ok (.iload 11, 2) := by decide +kernel
theorem dL_acts_634 : decode cL_acts 634 = .ok (.iload 12, 2) := by decide +kernel
theorem dL_acts_636 : decode cL_acts 636 = .ok (.aload_n 3, 1) := by decide +kernel
theorem dL_acts_637 : decode cL_acts 637 = .ok (.iload 14, 2) := by decide +kernel
theorem dL_acts_639 : decode cL_acts 639 = .ok (.iconst 3, 1) := by decide +kernel
theorem dL_acts_640 : decode cL_acts 640 = .ok (.iadd, 1) := by decide +kernel
theorem dL_acts_641 : decode cL_acts 641 = .ok (.iaload, 1) := by decide +kernel
theorem dL_acts_642 : decode cL_acts 642 = .ok (.aload_n 3, 1) := by decide +kernel
theorem dL_acts_643 : decode cL_acts 643 = .ok (.iload 14, 2) := by decide +kernel
theorem dL_acts_645 : decode cL_acts 645 = .ok (.iconst 4, 1) := by decide +kernel
theorem dL_acts_646 : decode cL_acts 646 = .ok (.iadd, 1) := by decide +kernel
theorem dL_acts_647 : decode cL_acts 647 = .ok (.iaload, 1) := by decide +kernel
theorem dL_acts_648 : decode cL_acts 648 = .ok (.invokevirtual 35, 3) := by decide +kernel
theorem dL_acts_651 : decode cL_acts 651 = .ok (.aload_n 1, 1) := by decide +kernel
theorem dL_acts_652 : decode cL_acts 652 = .ok (.iconst 1, 1) := by decide +kernel
theorem dL_acts_653 : decode cL_acts 653 = .ok (.iaload, 1) := by decide +kernel
theorem dL_acts_654 : decode cL_acts 654 = .ok (.iconst 1, 1) := by decide +kernel
theorem dL_acts_655 : decode cL_acts 655 = .ok (.isub, 1) := by decide +kernel
theorem dL_acts_656 : decode cL_acts 656 = .ok (.if_icmp .ne 7, 3) := by decide +kernel
theorem dL_acts_659 : decode cL_acts 659 = .ok (.iconst 1, 1) := by decide +kernel
theorem dL_acts_660 : decode cL_acts 660 = .ok (.goto 4, 3) := by decide +kernel
theorem dL_acts_663 : decode cL_acts 663 = .ok (.iconst 0, 1) := by decide +kernel
theorem dL_acts_664 : decode cL_acts 664 = .ok (.ireturn, 1) := by decide +kernel
theorem dL_acts_665 : decode cL_acts 665 = .ok (.iload 9, 2) := by decide +kernel
theorem dL_acts_667 : decode cL_acts 667 = .ok (.bipush 9, 2) := by decide +kernel
theorem dL_acts_669 : decode cL_acts 669 = .ok (.if_icmp .lt 17, 3) := by decide +kernel
theorem dL_acts_672 : decode cL_acts 672 = .ok (.iload 9, 2) := by decide +kernel
theorem dL_acts_674 : decode cL_acts 674 = .ok (.bipush 13, 2) := by decide +kernel
theorem dL_acts_676 : decode cL_acts 676 = .ok (.if_icmp .eq 10, 3) := by decide +kernel
theorem dL_acts_679 : decode cL_acts 679 = .ok (.iload 9, 2) := by decide +kernel
theorem dL_acts_681 : decode cL_acts 681 = .ok (.bipush 14, 2) := by decide +kernel
theorem dL_acts_683 : decode cL_acts 683 = .ok (.if_icmp .ne 357, 3) := by decide +kernel
theorem dL_acts_686 : decode cL_acts 686 = .ok (.aload_n 1, 1) := by decide +kernel
theorem dL_acts_687 : decode cL_acts 687 = .ok (.iconst 1, 1) := by decide +kernel
theorem dL_acts_688 : decode cL_acts 688 = .ok (.iaload, 1) := by decide +kernel
theorem dL_acts_689 : decode cL_acts 689 = .ok (.ifCond .ne 42, 3) := by decide +kernel
theorem dL_acts_692 : decode cL_acts 692 = .ok (.aload_n 0, 1) := by decide +kernel
theorem dL_acts_693 : decode cL_acts 693 = .ok (.iconst 0, 1) := by decide +kernel
theorem dL_acts_694 : decode cL_acts 694 = .ok (.iconst 1, 1) := by decide +kernel
theorem dL_acts_695 : decode cL_acts 695 = .ok (.invokevirtual 39, 3) := by decide +kernel
theorem dL_acts_698 : decode cL_acts 698 = .ok (.iconst (-1), 1) := by decide +kernel
theorem dL_acts_699 : decode cL_acts 699 = .ok (.if_icmp .ne 30, 3) := by decide +kernel
theorem dL_acts_702 : decode cL_acts 702 = .ok (.aload_n 0, 1) := by decide +kernel
theorem dL_acts_703 : decode cL_acts 703 = .ok (.iconst 0, 1) := by decide +kernel
theorem dL_acts_704 : decode cL_acts 704 = .ok (.iconst 1, 1) := by decide +kernel
theorem dL_acts_705 : decode cL_acts 705 = .ok (.invokevirtual 42, 3) := by decide +kernel
theorem dL_acts_708 : decode cL_acts 708 = .ok (.iconst (-1), 1) := by decide +kernel
theorem dL_acts_709 : decode cL_acts 709 = .ok (.if_icmp .ne 20, 3) := by decide +kernel
theorem dL_acts_712 : decode cL_acts 712 = .ok (.aload_n 0, 1) := by decide +kernel
theorem dL_acts_713 : decode cL_acts 713 = .ok (.iconst 0, 1) := by decide +kernel
theorem dL_acts_714 : decode cL_acts 714 = .ok (.aload_n 1, 1) := by decide +kernel
theorem dL_acts_715 : decode cL_acts 715 = .ok (.iconst 3, 1) := by decide +kernel
theorem dL_acts_716 : decode cL_acts 716 = .ok (.iaload, 1) := by decide +kernel
theorem dL_acts_717 : decode cL_acts 717 = .ok (.iconst 1, 1) := by decide +kernel
theorem dL_acts_718 : decode cL_acts 718 = .ok (.invokevirtual 45, 3) := by decide +kernel
theorem dL_acts_721 : decode cL_acts 721 = .ok (.iconst (-1), 1) := by decide +kernel
theorem dL_acts_722 : decode cL_acts 722 = .ok (.if_icmp .ne 7, 3) := by decide +kernel
theorem dL_acts_725 : decode cL_acts 725 = .ok (.iconst 1, 1) := by decide +kernel
