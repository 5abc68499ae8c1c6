section DLH1
theorem dL_books_431 : decode cL_books 431 = .ok (.iload 10, 2) := by decide +kernel
theorem dL_books_433 : decode cL_books 433 = .ok (.bipush 9, 2) := by decide +kernel
theorem dL_books_435 : decode cL_books 435 = .ok (.invokevirtual 9, 3) := by decide +kernel
theorem dL_books_438 : decode cL_books 438 = .ok (.iadd, 1) := by decide +kernel
theorem dL_books_439 : decode cL_books 439 = .ok (.istore 4, 2) := by decide +kernel
theorem dL_books_441 : decode cL_books 441 = .ok (.iload 5, 2) := by decide +kernel
theorem dL_books_443 : decode cL_books 443 = .ok (.iload 11, 2) := by decide +kernel
theorem dL_books_445 : decode cL_books 445 = .ok (.iadd, 1) := by decide +kernel
theorem dL_books_446 : decode cL_books 446 = .ok (.istore 5, 2) := by decide +kernel
theorem dL_books_448 : decode cL_books 448 = .ok (.iload 6, 2) := by decide +kernel
theorem dL_books_450 : decode cL_books 450 = .ok (.iload 12, 2) := by decide +kernel
theorem dL_books_452 : decode cL_books 452 = .ok (.iadd, 1) := by decide +kernel
theorem dL_books_453 : decode cL_books 453 = .ok (.istore 6, 2) := by decide +kernel
theorem dL_books_455 : decode cL_books 455 = .ok (.iload 7, 2) := by decide +kernel
theorem dL_books_457 : decode cL_books 457 = .ok (.aload_n 0, 1) := by decide +kernel
theorem dL_books_458 : decode cL_books 458 = .ok (.iload 10, 2) := by decide +kernel
theorem dL_books_460 : decode cL_books 460 = .ok (.iconst 5, 1) := by decide +kernel
theorem dL_books_461 : decode cL_books 461 = .ok (.invokevirtual 9, 3) := by decide +kernel
theorem dL_books_464 : decode cL_books 464 = .ok (.iadd, 1) := by decide +kernel
theorem dL_books_465 : decode cL_books 465 = .ok (.istore 7, 2) := by decide +kernel
theorem dL_books_467 : decode cL_books 467 = .ok (.aload_n 0, 1) := by decide +kernel
theorem dL_books_468 : decode cL_books 468 = .ok (.iload 10, 2) := by decide +kernel
theorem dL_books_470 : decode cL_books 470 = .ok (.iconst 3, 1) := by decide +kernel
theorem dL_books_471 : decode cL_books 471 = .ok (.invokevirtual 9, 3) := by decide +kernel
theorem dL_books_474 : decode cL_books 474 = .ok (.iload 8, 2) := by decide +kernel
theorem dL_books_476 : decode cL_books 476 = .ok (.if_icmp .le 13, 3) := by decide +kernel
theorem dL_books_479 : decode cL_books 479 = .ok (.aload_n 0, 1) := by decide +kernel
theorem dL_books_480 : decode cL_books 480 = .ok (.iload 10, 2) := by decide +kernel
theorem dL_books_482 : decode cL_books 482 = .ok (.iconst 3, 1) := by decide +kernel
theorem dL_books_483 : decode cL_books 483 = .ok (.invokevirtual 9, 3) := by decide +kernel
theorem dL_books_486 : decode cL_books 486 = .ok (.goto 5, 3) := by decide +kernel
theorem dL_books_489 : decode cL_books 489 = .ok (.iload 8, 2) := by decide +kernel
theorem dL_books_491 : decode cL_books 491 = .ok (.istore 8, 2) := by decide +kernel
theorem dL_books_493 : decode cL_books 493 = .ok (.iinc 1 1, 3) := by decide +kernel
theorem dL_books_496 : decode cL_books 496 = .ok (.iinc 10 1, 3) := by decide +kernel
theorem dL_books_499 : decode cL_books 499 = .ok (.goto (-472), 3) := by decide +kernel
theorem dL_books_502 : decode cL_books 502 = .ok (.iload 9, 2) := by decide +kernel
theorem dL_books_504 : decode cL_books 504 = .ok (.ifCond .eq 84, 3) := by decide +kernel
theorem dL_books_507 : decode cL_books 507 = .ok (.iload_n 1, 1) := by decide +kernel
theorem dL_books_508 : decode cL_books 508 = .ok (.aload_n 0, 1) := by decide +kernel
theorem dL_books_509 : decode cL_books 509 = .ok (.iconst 3, 1) := by decide +kernel
theorem dL_books_510 : decode cL_books 510 = .ok (.invokevirtual 58, 3) := by decide +kernel
theorem dL_books_513 : decode cL_books 513 = .ok (.if_icmp .ne 75, 3) := by decide +kernel
theorem dL_books_516 : decode cL_books 516 = .ok (.iload_n 2, 1) := by decide +kernel
theorem dL_books_517 : decode cL_books 517 = .ok (.aload_n 0, 1) := by decide +kernel
theorem dL_books_518 : decode cL_books 518 = .ok (.iconst 5, 1) := by decide +kernel
theorem dL_books_519 : decode cL_books 519 = .ok (.invokevirtual 58, 3) := by decide +kernel
theorem dL_books_522 : decode cL_books 522 = .ok (.if_icmp .ne 66, 3) := by decide +kernel
theorem dL_books_525 : decode cL_books 525 = .ok (.iload_n 3, 1) := by decide +kernel
theorem dL_books_526 : decode cL_books 526 = .ok (.aload_n 0, 1) := by decide +kernel
theorem dL_books_527 : decode cL_books 527 = .ok (.bipush 6, 2) := by decide +kernel
theorem dL_books_529 : decode cL_books 529 = .ok (.invokevirtual 58, 3) := by decide +kernel
theorem dL_books_532 : decode cL_books 532 = .ok (.if_icmp .ne 56, 3) := by decide +kernel
theorem dL_books_535 : decode cL_books 535 = .ok (.iload 4, 2) := by decide +kernel
theorem dL_books_537 : decode cL_books 537 = .ok (.aload_n 0, 1) := by decide +kernel
theorem dL_books_538 : decode cL_books 538 = .ok (.bipush 7, 2) := by decide +kernel
theorem dL_books_540 : decode cL_books 540 = .ok (.invokevirtual 58, 3) := by decide +kernel
theorem dL_books_543 : decode cL_books 543 = .ok (.if_icmp .ne 45, 3) := by decide +kernel
theorem dL_books_546 : decode cL_books 546 = .ok (.iload 5, 2) := by decide +kernel
theorem dL_books_548 : decode cL_books 548 = .ok (.aload_n 0, 1) := by decide +kernel
theorem dL_books_549 : decode cL_books 549 = .ok (.bipush 8, 2) := by decide +kernel
theorem dL_books_551 : decode cL_books 551 = .ok (.invokevirtual 58, 3) := by decide +kernel
theorem dL_books_554 : decode cL_books 554 = .ok (.if_icmp .ne 34, 3) := by decide +kernel
theorem dL_books_557 : decode cL_books 557 = .ok (.iload 6, 2) := by decide +kernel
theorem dL_books_559 : decode cL_books 559 = .ok (.iload 5, 2) := by decide +kernel
theorem dL_books_561 : decode cL_books 561 = .ok (.if_icmp .ne 27, 3) := by decide +kernel
theorem dL_books_564 : decode cL_books 564 = .ok (.iload 7, 2) := by decide +kernel
theorem dL_books_566 : decode cL_books 566 = .ok (.aload_n 0, 1) := by decide +kernel
theorem dL_books_567 : decode cL_books 567 = .ok (.bipush 14, 2) := by decide +kernel
theorem dL_books_569 : decode cL_books 569 = .ok (.invokevirtual 58, 3) := by decide +kernel
theorem dL_books_572 : decode cL_books 572 = .ok (.if_icmp .ne 16, 3) := by decide +kernel
theorem dL_books_575 : decode cL_books 575 = .ok (.iload 8, 2) := by decide +kernel
theorem dL_books_577 : decode cL_books 577 = .ok (.aload_n 0, 1) := by decide +kernel
theorem dL_books_578 : decode cL_books 578 = .ok (.invokevirtual 61, 3) := by decide +kernel
theorem dL_books_581 : decode cL_books 581 = .ok (.if_icmp .ne 7, 3) := by decide +kernel
theorem dL_books_584 : decode cL_books 584 = .ok (.iconst 1, 1) := by decide +kernel
theorem dL_books_585 : decode cL_books 585 = .ok (.goto 4, 3) := by decide +kernel
theorem dL_books_588 : decode cL_books 588 = .ok (.iconst 0, 1) := by decide +kernel
theorem dL_books_589 : decode cL_books 589 = .ok (.istore 9, 2) := by decide +kernel
theorem dL_books_591 : decode cL_books 591 = .ok (.iload 9, 2) := by decide +kernel
theorem dL_books_593 : decode cL_books 593 = .ok (.ifCond .eq 77, 3) := by decide +kernel
theorem dL_books_596 : decode cL_books 596 = .ok (.aload_n 0, 1) := by decide +kernel
theorem dL_books_597 : decode cL_books 597 = .ok (.iconst 4, 1) := by decide +kernel
theorem dL_books_598 : decode cL_books 598 = .ok (.invokevirtual 58, 3) := by decide +kernel
theorem dL_books_601 : decode cL_books 601 = .ok (.ifCond .lt 69, 3) := by decide +kernel
theorem dL_books_604 : decode cL_books 604 = .ok (.aload_n 0, 1) := by decide +kernel
theorem dL_books_605 : decode cL_books 605 = .ok (.bipush 12, 2) := by decide +kernel
theorem dL_books_607 : decode cL_books 607 = .ok (.invokevirtual 58, 3) := by decide +kernel
theorem dL_books_610 : decode cL_books 610 = .ok (.aload_n 0, 1) := by decide +kernel
theorem dL_books_611 : decode cL_books 611 = .ok (.bipush 9, 2) := by decide +kernel
theorem dL_books_613 : decode cL_books 613 = .ok (.invokevirtual 58, 3) := by decide +kernel
theorem dL_books_616 : decode cL_books 616 = .ok (.aload_n 0, 1) := by decide +kernel
theorem dL_books_617 : decode cL_books 617 = .ok (.bipush 10, 2) := by decide +kernel
theorem dL_books_619 : decode cL_books 619 = .ok (.invokevirtual 58, 3) := by decide +kernel
theorem dL_books_622 : decode cL_books 622 = .ok (.iadd, 1) := by decide +kernel
theorem dL_books_623 : decode cL_books 623 = .ok (.aload_n 0, 1) := by decide +kernel
theorem dL_books_624 : decode cL_books 624 = .ok (.bipush 11, 2) := by decide +kernel
theorem dL_books_626 : decode cL_books 626 = .ok (.invokevirtual 58, 3) := by decide +kernel
theorem dL_books_629 : decode cL_books 629 = .ok (.isub, 1) := by decide +kernel
theorem dL_books_630 : decode cL_books 630 = .ok (.if_icmp .ne 40, 3) := by decide +kernel
theorem dL_books_633 : decode cL_books 633 = .ok (.aload_n 0, 1) := by decide +kernel
theorem dL_books_634 : decode cL_books 634 = .ok (.bipush 12, 2) := by decide +kernel
theorem dL_books_636 : decode cL_books 636 = .ok (.invokevirtual 58, 3) := by decide +kernel
theorem dL_books_639 : decode cL_books 639 = .ok (.iload_n 2, 1) := by decide +kernel
theorem dL_books_640 : decode cL_books 640 = .ok (.iload_n 3, 1) := by decide +kernel
theorem dL_books_641 : decode cL_books 641 = .ok (.iadd, 1) := by decide +kernel
theorem dL_books_642 : decode cL_books 642 = .ok (.if_icmp .ne 28, 3) := by decide +kernel
theorem dL_books_645 : decode cL_books 645 = .ok (.aload_n 0, 1) := by decide +kernel
theorem dL_books_646 : decode cL_books 646 = .ok (.iconst 2, 1) := by decide +kernel
theorem dL_books_647 : decode cL_books 647 = .ok (.invokevirtual 58, 3) := by decide +kernel
theorem dL_books_650 : decode cL_books 650 = .ok (.iconst (-1), 1) := by decide +kernel
theorem dL_books_651 : decode cL_books 651 = .ok (.if_icmp .eq 15, 3) := by decide +kernel
theorem dL_books_654 : decode cL_books 654 = .ok (.aload_n 0, 1) := by decide +kernel
theorem dL_books_655 : decode cL_books 655 = .ok (.aload_n 0, 1) := by decide +kernel
theorem dL_books_656 : decode cL_books 656 = .ok (.iconst 2, 1) := by decide +kernel
theorem dL_books_657 : decode cL_books 657 = .ok (.invokevirtual 58, 3) := by decide +kernel
theorem dL_books_660 : decode cL_books 660 = .ok (.invokestatic 43, 3) := by decide +kernel
theorem dL_books_663 : decode cL_books 663 = .ok (.ifCond .eq 7, 3) := by decide +kernel
theorem dL_books_666 : decode cL_books 666 = .ok (.iconst 1, 1) := by decide +kernel
theorem dL_books_667 : decode cL_books 667 = .ok (.goto 4, 3) := by decide +kernel
theorem dL_books_670 : decode cL_books 670 = .ok (.iconst 0, 1) := by decide +kernel
theorem dL_books_671 : decode cL_books 671 = .ok (.istore 9, 2) := by decide +kernel
theorem dL_books_673 : decode cL_books 673 = .ok (.aload_n 0, 1) := by decide +kernel
theorem dL_books_674 : decode cL_books 674 = .ok (.invokevirtual 64, 3) := by decide +kernel
theorem dL_books_677 : decode cL_books 677 = .ok (.istore 10, 2) := by decide +kernel
theorem dL_books_679 : decode cL_books 679 = .ok (.iload 9, 2) := by decide +kernel
theorem dL_books_681 : decode cL_books 681 = .ok (.ifCond .eq 41, 3) := by decide +kernel
theorem dL_books_684 : decode cL_books 684 = .ok (.iload 10, 2) := by decide +kernel
theorem dL_books_686 : decode cL_books 686 = .ok (.iconst (-1), 1) := by decide +kernel
theorem dL_books_687 : decode cL_books 687 = .ok (.if_icmp .eq 31, 3) := by decide +kernel
theorem dL_books_690 : decode cL_books 690 = .ok (.aload_n 0, 1) := by decide +kernel
theorem dL_books_691 : decode cL_books 691 = .ok (.iload 10, 2) := by decide +kernel
theorem dL_books_693 : decode cL_books 693 = .ok (.invokestatic 43, 3) := by decide +kernel
theorem dL_books_696 : decode cL_books 696 = .ok (.ifCond .eq 26, 3) := by decide +kernel
theorem dL_books_699 : decode cL_books 699 = .ok (.aload_n 0, 1) := by decide +kernel
theorem dL_books_700 : decode cL_books 700 = .ok (.iload 10, 2) := by decide +kernel
theorem dL_books_702 : decode cL_books 702 = .ok (.iconst 3, 1) := by decide +kernel
theorem dL_books_703 : decode cL_books 703 = .ok (.invokevirtual 9, 3) := by decide +kernel
theorem dL_books_706 : decode cL_books 706 = .ok (.ifCond .le 16, 3) := by decide +kernel
theorem dL_books_709 : decode cL_books 709 = .ok (.aload_n 0, 1) := by decide +kernel
theorem dL_books_710 : decode cL_books 710 = .ok (.iload 10, 2) := by decide +kernel
theorem dL_books_712 : decode cL_books 712 = .ok (.invokevirtual 52, 3) := by decide +kernel
theorem dL_books_715 : decode cL_books 715 = .ok (.ifCond .ne 7, 3) := by decide +kernel
theorem dL_books_718 : decode cL_books 718 = .ok (.iconst 1, 1) := by decide +kernel
theorem dL_books_719 : decode cL_books 719 = .ok (.goto 4, 3) := by decide +kernel
theorem dL_books_722 : decode cL_books 722 = .ok (.iconst 0, 1) := by decide +kernel
theorem dL_books_723 : decode cL_books 723 = .ok (.istore 9, 2) := by decide +kernel
theorem dL_books_725 : decode cL_books 725 = .ok (.iload 9, 2) := by decide +kernel
theorem dL_books_727 : decode cL_books 727 = .ok (.ifCond .eq 59, 3) := by decide +kernel
theorem dL_books_730 : decode cL_books 730 = .ok (.aload_n 0, 1) := by decide +kernel
theorem dL_books_731 : decode cL_books 731 = .ok (.invokevirtual 67, 3) := by decide +kernel
theorem dL_books_734 : decode cL_books 734 = .ok (.dconst 0, 1) := by decide +kernel
theorem dL_books_735 : decode cL_books 735 = .ok (.dcmp .l, 1) := by decide +kernel
theorem dL_books_736 : decode cL_books 736 = .ok (.ifCond .lt 50, 3) := by decide +kernel
theorem dL_books_739 : decode cL_books 739 = .ok (.aload_n 0, 1) := by decide +kernel
theorem dL_books_740 : decode cL_books 740 = .ok (.invokevirtual 67, 3) := by decide +kernel
theorem dL_books_743 : decode cL_books 743 = .ok (.dconst 1, 1) := by decide +kernel
theorem dL_books_744 : decode cL_books 744 = .ok (.dcmp .g, 1) := by decide +kernel
theorem dL_books_745 : decode cL_books 745 = .ok (.ifCond .gt 41, 3) := by decide +kernel
theorem dL_books_748 : decode cL_books 748 = .ok (.aload_n 0, 1) := by decide +kernel
theorem dL_books_749 : decode cL_books 749 = .ok (.iconst 0, 1) := by decide +kernel
theorem dL_books_750 : decode cL_books 750 = .ok (.iconst 3, 1) := by decide +kernel
theorem dL_books_751 : decode cL_books 751 = .ok (.invokevirtual 71, 3) := by decide +kernel
theorem dL_books_754 : decode cL_books 754 = .ok (.aload_n 0, 1) := by decide +kernel
theorem dL_books_755 : decode cL_books 755 = .ok (.bipush 8, 2) := by decide +kernel
theorem dL_books_757 : decode cL_books 757 = .ok (.invokevirtual 58, 3) := by decide +kernel
theorem dL_books_760 : decode cL_books 760 = .ok (.if_icmp .ne 26, 3) := by decide +kernel
theorem dL_books_763 : decode cL_books 763 = .ok (.aload_n 0, 1) := by decide +kernel
theorem dL_books_764 : decode cL_books 764 = .ok (.iconst 0, 1) := by decide +kernel
theorem dL_books_765 : decode cL_books 765 = .ok (.iconst 2, 1) := by decide +kernel
theorem dL_books_766 : decode cL_books 766 = .ok (.invokevirtual 71, 3) := by decide +kernel
theorem dL_books_769 : decode cL_books 769 = .ok (.iload_n 3, 1) := by decide +kernel
theorem dL_books_770 : decode cL_books 770 = .ok (.if_icmp .ne 16, 3) := by decide +kernel
theorem dL_books_773 : decode cL_books 773 = .ok (.aload_n 0, 1) := by decide +kernel
theorem dL_books_774 : decode cL_books 774 = .ok (.iconst 0, 1) := by decide +kernel
theorem dL_books_775 : decode cL_books 775 = .ok (.iconst 4, 1) := by decide +kernel
theorem dL_books_776 : decode cL_books 776 = .ok (.invokevirtual 71, 3) := by decide +kernel
theorem dL_books_779 : decode cL_books 779 = .ok (.ifCond .ne 7, 3) := by decide +kernel
theorem dL_books_782 : decode cL_books 782 = .ok (.iconst 1, 1) := by decide +kernel
theorem dL_books_783 : decode cL_books 783 = .ok (.goto 4, 3) := by decide +kernel
theorem dL_books_786 : decode cL_books 786 = .ok (.iconst 0, 1) := by decide +kernel
theorem dL_books_787 : decode cL_books 787 = .ok (.ireturn, 1) := by decide +kernel
theorem dL_act_0 : decode cL_act 0 = .ok (.aload_n 1, 1) := by decide +kernel
theorem dL_act_1 : decode cL_act 1 = .ok (.iload_n 2, 1) := by decide +kernel
theorem dL_act_2 : decode cL_act 2 = .ok (.iconst 1, 1) := by decide +kernel
theorem dL_act_3 : decode cL_act 3 = .ok (.iadd, 1) := by decide +kernel
theorem dL_act_4 : decode cL_act 4 = .ok (.invokestatic 74, 3) := by decide +kernel
theorem dL_act_7 : decode cL_act 7 = .ok (.bipush 8, 2) := by decide +kernel
theorem dL_act_9 : decode cL_act 9 = .ok (.invokestatic 78, 3) := by decide +kernel
theorem dL_act_12 : decode cL_act 12 = .ok (.istore_n 3, 1) := by decide +kernel
theorem dL_act_13 : decode cL_act 13 = .ok (.aload_n 1, 1) := by decide +kernel
theorem dL_act_14 : decode cL_act 14 = .ok (.iload_n 2, 1) := by decide +kernel
theorem dL_act_15 : decode cL_act 15 = .ok (.iconst 2, 1) := by decide +kernel
theorem dL_act_16 : decode cL_act 16 = .ok (.iadd, 1) := by decide +kernel
theorem dL_act_17 : decode cL_act 17 = .ok (.invokestatic 74, 3) := by decide +kernel
theorem dL_act_20 : decode cL_act 20 = .ok (.istore 4, 2) := by decide +kernel
theorem dL_act_22 : decode cL_act 22 = .ok (.aload_n 1, 1) := by decide +kernel
theorem dL_act_23 : decode cL_act 23 = .ok (.iload_n 2, 1) := by decide +kernel
theorem dL_act_24 : decode cL_act 24 = .ok (.iconst 3, 1) := by decide +kernel
theorem dL_act_25 : decode cL_act 25 = .ok (.iadd, 1) := by decide +kernel
theorem dL_act_26 : decode cL_act 26 = .ok (.invokestatic 74, 3) := by decide +kernel
theorem dL_act_29 : decode cL_act 29 = .ok (.istore 5, 2) := by decide +kernel
theorem dL_act_31 : decode cL_act 31 = .ok (.aload_n 1, 1) := by decide +kernel
theorem dL_act_32 : decode cL_act 32 = .ok (.iload_n 2, 1) := by decide +kernel
theorem dL_act_33 : decode cL_act 33 = .ok (.invokestatic 74, 3) := by decide +kernel
theorem dL_act_36 : decode cL_act 36 = .ok (.bipush 20, 2) := by decide +kernel
theorem dL_act_38 : decode cL_act 38 = .ok (.invokestatic 78, 3) := by decide +kernel
theorem dL_act_41 : decode cL_act 41 = .ok (.istore 6, 2) := by decide +kernel
theorem dL_act_43 : decode cL_act 43 = .ok (.iload 6, 2) := by decide +kernel
theorem dL_act_45 : decode cL_act 45 = .ok (.iconst 3, 1) := by decide +kernel
theorem dL_act_46 : decode cL_act 46 = .ok (.if_icmp .ge 8, 3) := by decide +kernel
theorem dL_act_49 : decode cL_act 49 = .ok (.aload_n 0, 1) := by decide +kernel
theorem dL_act_50 : decode cL_act 50 = .ok (.invokestatic 81, 3) := by decide +kernel
theorem dL_act_53 : decode cL_act 53 = .ok (.ireturn, 1) := by decide +kernel
theorem dL_act_54 : decode cL_act 54 = .ok (.iload 6, 2) := by decide +kernel
theorem dL_act_56 : decode cL_act 56 = .ok (.bipush 14, 2) := by decide +kernel
theorem dL_act_58 : decode cL_act 58 = .ok (.if_icmp .le 36, 3) := by decide +kernel
theorem dL_act_61 : decode cL_act 61 = .ok (.iload 6, 2) := by decide +kernel
theorem dL_act_63 : decode cL_act 63 = .ok (.bipush 18, 2) := by decide +kernel
theorem dL_act_65 : decode cL_act 65 = .ok (.if_icmp .ge 10, 3) := by decide +kernel
theorem dL_act_68 : decode cL_act 68 = .ok (.aload_n 0, 1) := by decide +kernel
theorem dL_act_69 : decode cL_act 69 = .ok (.invokevirtual 84, 3) := by decide +kernel
theorem dL_act_72 : decode cL_act 72 = .ok (.goto 21, 3) := by decide +kernel
theorem dL_act_75 : decode cL_act 75 = .ok (.iload 6, 2) := by decide +kernel
theorem dL_act_77 : decode cL_act 77 = .ok (.bipush 18, 2) := by decide +kernel
theorem dL_act_79 : decode cL_act 79 = .ok (.if_icmp .ne 10, 3) := by decide +kernel
theorem dL_act_82 : decode cL_act 82 = .ok (.aload_n 0, 1) := by decide +kernel
theorem dL_act_83 : decode cL_act 83 = .ok (.invokestatic 87, 3) := by decide +kernel
theorem dL_act_86 : decode cL_act 86 = .ok (.goto 7, 3) := by decide +kernel
theorem dL_act_89 : decode cL_act 89 = .ok (.aload_n 0, 1) := by decide +kernel
theorem dL_act_90 : decode cL_act 90 = .ok (.invokestatic 89, 3) := by decide +kernel
theorem dL_act_93 : decode cL_act 93 = .ok (.ireturn, 1) := by decide +kernel
theorem dL_act_94 : decode cL_act 94 = .ok (.aload_n 0, 1) := by decide +kernel
theorem dL_act_95 : decode cL_act 95 = .ok (.iload_n 3, 1) := by decide +kernel
theorem dL_act_96 : decode cL_act 96 = .ok (.invokestatic 43, 3) := by decide +kernel
theorem dL_act_99 : decode cL_act 99 = .ok (.ifCond .ne 6, 3) := by decide +kernel
theorem dL_act_102 : decode cL_act 102 = .ok (.bipush (-4), 2) := by decide +kernel
theorem dL_act_104 : decode cL_act 104 = .ok (.ireturn, 1) := by decide +kernel
theorem dL_act_105 : decode cL_act 105 = .ok (.iload 6, 2) := by decide +kernel
theorem dL_act_107 : decode cL_act 107 = .ok (.bipush 7, 2) := by decide +kernel
theorem dL_act_109 : decode cL_act 109 = .ok (.if_icmp .ge 29, 3) := by decide +kernel
theorem dL_act_112 : decode cL_act 112 = .ok (.aload_n 0, 1) := by decide +kernel
theorem dL_act_113 : decode cL_act 113 = .ok (.iload_n 3, 1) := by decide +kernel
theorem dL_act_114 : decode cL_act 114 = .ok (.bipush 10, 2) := by decide +kernel
theorem dL_act_116 : decode cL_act 116 = .ok (.iload 4, 2) := by decide +kernel
theorem dL_act_118 : decode cL_act 118 = .ok (.sipush 200, 3) := by decide +kernel
theorem dL_act_121 : decode cL_act 121 = .ok (.invokestatic 78, 3) := by decide +kernel
theorem dL_act_124 : decode cL_act 124 = .ok (.iadd, 1) := by decide +kernel
theorem dL_act_125 : decode cL_act 125 = .ok (.iconst 1, 1) := by decide +kernel
theorem dL_act_126 : decode cL_act 126 = .ok (.iload 5, 2) := by decide +kernel
theorem dL_act_128 : decode cL_act 128 = .ok (.bipush 15, 2) := by decide +kernel
theorem dL_act_130 : decode cL_act 130 = .ok (.invokestatic 78, 3) := by decide +kernel
theorem dL_act_133 : decode cL_act 133 = .ok (.iadd, 1) := by decide +kernel
theorem dL_act_134 : decode cL_act 134 = .ok (.invokestatic 91, 3) := by decide +kernel
theorem dL_act_137 : decode cL_act 137 = .ok (.ireturn, 1) := by decide +kernel
theorem dL_act_138 : decode cL_act 138 = .ok (.iload 6, 2) := by decide +kernel
theorem dL_act_140 : decode cL_act 140 = .ok (.bipush 10, 2) := by decide +kernel
theorem dL_act_142 : decode cL_act 142 = .ok (.if_icmp .ge 9, 3) := by decide +kernel
theorem dL_act_145 : decode cL_act 145 = .ok (.aload_n 0, 1) := by decide +kernel
theorem dL_act_146 : decode cL_act 146 = .ok (.iload_n 3, 1) := by decide +kernel
theorem dL_act_147 : decode cL_act 147 = .ok (.invokevirtual 94, 3) := by decide +kernel
theorem dL_act_150 : decode cL_act 150 = .ok (.ireturn, 1) := by decide +kernel
theorem dL_act_151 : decode cL_act 151 = .ok (.iload 6, 2) := by decide +kernel
theorem dL_act_153 : decode cL_act 153 = .ok (.bipush 12, 2) := by decide +kernel
theorem dL_act_155 : decode cL_act 155 = .ok (.if_icmp .ge 18, 3) := by decide +kernel
theorem dL_act_158 : decode cL_act 158 = .ok (.aload_n 0, 1) := by decide +kernel
theorem dL_act_159 : decode cL_act 159 = .ok (.iload_n 3, 1) := by decide +kernel
theorem dL_act_160 : decode cL_act 160 = .ok (.iconst 1, 1) := by decide +kernel
theorem dL_act_161 : decode cL_act 161 = .ok (.iload 4, 2) := by decide +kernel
theorem dL_act_163 : decode cL_act 163 = .ok (.bipush 80, 2) := by decide +kernel
theorem dL_act_165 : decode cL_act 165 = .ok (.invokestatic 78, 3) := by decide +kernel
theorem dL_act_168 : decode cL_act 168 = .ok (.iadd, 1) := by decide +kernel
theorem dL_act_169 : decode cL_act 169 = .ok (.invokestatic 97, 3) := by decide +kernel
theorem dL_act_172 : decode cL_act 172 = .ok (.ireturn, 1) := by decide +kernel
theorem dL_act_173 : decode cL_act 173 = .ok (.iload 6, 2) := by decide +kernel
theorem dL_act_175 : decode cL_act 175 = .ok (.bipush 12, 2) := by decide +kernel
theorem dL_act_177 : decode cL_act 177 = .ok (.if_icmp .ne 18, 3) := by decide +kernel
theorem dL_act_180 : decode cL_act 180 = .ok (.aload_n 0, 1) := by decide +kernel
theorem dL_act_181 : decode cL_act 181 = .ok (.iload_n 3, 1) := by decide +kernel
theorem dL_act_182 : decode cL_act 182 = .ok (.iconst 1, 1) := by decide +kernel
theorem dL_act_183 : decode cL_act 183 = .ok (.iload 4, 2) := by decide +kernel
theorem dL_act_185 : decode cL_act 185 = .ok (.bipush 30, 2) := by decide +kernel
theorem dL_act_187 : decode cL_act 187 = .ok (.invokestatic 78, 3) := by decide +kernel
theorem dL_act_190 : decode cL_act 190 = .ok (.iadd, 1) := by decide +kernel
theorem dL_act_191 : decode cL_act 191 = .ok (.invokestatic 100, 3) := by decide +kernel
theorem dL_act_194 : decode cL_act 194 = .ok (.ireturn, 1) := by decide +kernel
theorem dL_act_195 : decode cL_act 195 = .ok (.iload 6, 2) := by decide +kernel
theorem dL_act_197 : decode cL_act 197 = .ok (.bipush 13, 2) := by decide +kernel
theorem dL_act_199 : decode cL_act 199 = .ok (.if_icmp .ne 11, 3) := by decide +kernel
theorem dL_act_202 : decode cL_act 202 = .ok (.aload_n 0, 1) := by decide +kernel
theorem dL_act_203 : decode cL_act 203 = .ok (.iload_n 3, 1) := by decide +kernel
theorem dL_act_204 : decode cL_act 204 = .ok (.invokestatic 102, 3) := by decide +kernel
theorem dL_act_207 : decode cL_act 207 = .ok (.goto 22, 3) := by decide +kernel
theorem dL_act_210 : decode cL_act 210 = .ok (.aload_n 0, 1) := by decide +kernel
theorem dL_act_211 : decode cL_act 211 = .ok (.iload 5, 2) := by decide +kernel
theorem dL_act_213 : decode cL_act 213 = .ok (.iconst 4, 1) := by decide +kernel
theorem dL_act_214 : decode cL_act 214 = .ok (.invokestatic 78, 3) := by decide +kernel
theorem dL_act_217 : decode cL_act 217 = .ok (.iconst 1, 1) := by decide +kernel
theorem dL_act_218 : decode cL_act 218 = .ok (.iload 4, 2) := by decide +kernel
theorem dL_act_220 : decode cL_act 220 = .ok (.bipush 20, 2) := by decide +kernel
theorem dL_act_222 : decode cL_act 222 = .ok (.invokestatic 78, 3) := by decide +kernel
theorem dL_act_225 : decode cL_act 225 = .ok (.iadd, 1) := by decide +kernel
theorem dL_act_226 : decode cL_act 226 = .ok (.invokevirtual 105, 3) := by decide +kernel
theorem dL_act_229 : decode cL_act 229 = .ok (.ireturn, 1) := by decide +kernel
theorem dL_law_0 : decode cL_law 0 = .ok (.new 10, 3) := by decide +kernel
theorem dL_law_3 : decode cL_law 3 = .ok (.dup, 1) := by decide +kernel
theorem dL_law_4 : decode cL_law 4 = .ok (.invokespecial 108, 3) := by decide +kernel
theorem dL_law_7 : decode cL_law 7 = .ok (.astore_n 1, 1) := by decide +kernel
theorem dL_law_8 : decode cL_law 8 = .ok (.aload_n 1, 1) := by decide +kernel
theorem dL_law_9 : decode cL_law 9 = .ok (.invokevirtual 33, 3) := by decide +kernel
theorem dL_law_12 : decode cL_law 12 = .ok (.pop, 1) := by decide +kernel
theorem dL_law_13 : decode cL_law 13 = .ok (.aload_n 1, 1) := by decide +kernel
theorem dL_law_14 : decode cL_law 14 = .ok (.invokevirtual 33, 3) := by decide +kernel
theorem dL_law_17 : decode cL_law 17 = .ok (.pop, 1) := by decide +kernel
theorem dL_law_18 : decode cL_law 18 = .ok (.aload_n 1, 1) := by decide +kernel
theorem dL_law_19 : decode cL_law 19 = .ok (.invokevirtual 33, 3) := by decide +kernel
theorem dL_law_22 : decode cL_law 22 = .ok (.pop, 1) := by decide +kernel
theorem dL_law_23 : decode cL_law 23 = .ok (.iconst 1, 1) := by decide +kernel
theorem dL_law_24 : decode cL_law 24 = .ok (.istore_n 2, 1) := by decide +kernel
theorem dL_law_25 : decode cL_law 25 = .ok (.aload_n 0, 1) := by decide +kernel
theorem dL_law_26 : decode cL_law 26 = .ok (.arraylength, 1) := by decide +kernel
theorem dL_law_27 : decode cL_law 27 = .ok (.iconst 4, 1) := by decide +kernel
theorem dL_law_28 : decode cL_law 28 = .ok (.idiv, 1) := by decide +kernel
theorem dL_law_29 : decode cL_law 29 = .ok (.bipush 30, 2) := by decide +kernel
theorem dL_law_31 : decode cL_law 31 = .ok (.if_icmp .le 8, 3) := by decide +kernel
theorem dL_law_34 : decode cL_law 34 = .ok (.bipush 30, 2) := by decide +kernel
theorem dL_law_36 : decode cL_law 36 = .ok (.goto 7, 3) := by decide +kernel
theorem dL_law_39 : decode cL_law 39 = .ok (.aload_n 0, 1) := by decide +kernel
theorem dL_law_40 : decode cL_law 40 = .ok (.arraylength, 1) := by decide +kernel
theorem dL_law_41 : decode cL_law 41 = .ok (.iconst 4, 1) := by decide +kernel
theorem dL_law_42 : decode cL_law 42 = .ok (.idiv, 1) := by decide +kernel
theorem dL_law_43 : decode cL_law 43 = .ok (.istore_n 3, 1) := by decide +kernel
theorem dL_law_44 : decode cL_law 44 = .ok (.iconst 0, 1) := by decide +kernel
theorem dL_law_45 : decode cL_law 45 = .ok (.istore 4, 2) := by decide +kernel
theorem dL_law_47 : decode cL_law 47 = .ok (.iload 4, 2) := by decide +kernel
theorem dL_law_49 : decode cL_law 49 = .ok (.iload_n 3, 1) := by decide +kernel
theorem dL_law_50 : decode cL_law 50 = .ok (.if_icmp .ge 114, 3) := by decide +kernel
theorem dL_law_53 : decode cL_law 53 = .ok (.iload_n 2, 1) := by decide +kernel
theorem dL_law_54 : decode cL_law 54 = .ok (.ifCond .eq 110, 3) := by decide +kernel
theorem dL_law_57 : decode cL_law 57 = .ok (.aload_n 1, 1) := by decide +kernel
theorem dL_law_58 : decode cL_law 58 = .ok (.bipush 15, 2) := by decide +kernel
theorem dL_law_60 : decode cL_law 60 = .ok (.invokevirtual 58, 3) := by decide +kernel
theorem dL_law_63 : decode cL_law 63 = .ok (.istore 5, 2) := by decide +kernel
theorem dL_law_65 : decode cL_law 65 = .ok (.aload_n 1, 1) := by decide +kernel
theorem dL_law_66 : decode cL_law 66 = .ok (.iconst 4, 1) := by decide +kernel
theorem dL_law_67 : decode cL_law 67 = .ok (.invokevirtual 58, 3) := by decide +kernel
theorem dL_law_70 : decode cL_law 70 = .ok (.istore 6, 2) := by decide +kernel
theorem dL_law_72 : decode cL_law 72 = .ok (.aload_n 1, 1) := by decide +kernel
theorem dL_law_73 : decode cL_law 73 = .ok (.iconst 0, 1) := by decide +kernel
theorem dL_law_74 : decode cL_law 74 = .ok (.invokevirtual 58, 3) := by decide +kernel
theorem dL_law_77 : decode cL_law 77 = .ok (.istore 7, 2) := by decide +kernel
theorem dL_law_79 : decode cL_law 79 = .ok (.aload_n 1, 1) := by decide +kernel
theorem dL_law_80 : decode cL_law 80 = .ok (.bipush 11, 2) := by decide +kernel
theorem dL_law_82 : decode cL_law 82 = .ok (.invokevirtual 58, 3) := by decide +kernel
theorem dL_law_85 : decode cL_law 85 = .ok (.istore 8, 2) := by decide +kernel
theorem dL_law_87 : decode cL_law 87 = .ok (.aload_n 1, 1) := by decide +kernel
theorem dL_law_88 : decode cL_law 88 = .ok (.aload_n 0, 1) := by decide +kernel
theorem dL_law_89 : decode cL_law 89 = .ok (.iconst 4, 1) := by decide +kernel
theorem dL_law_90 : decode cL_law 90 = .ok (.iload 4, 2) := by decide +kernel
theorem dL_law_92 : decode cL_law 92 = .ok (.imul, 1) := by decide +kernel
theorem dL_law_93 : decode cL_law 93 = .ok (.invokestatic 109, 3) := by decide +kernel
theorem dL_law_96 : decode cL_law 96 = .ok (.istore 9, 2) := by decide +kernel
theorem dL_law_98 : decode cL_law 98 = .ok (.iload 9, 2) := by decide +kernel
theorem dL_law_100 : decode cL_law 100 = .ok (.ifCond .ge 45, 3) := by decide +kernel
theorem dL_law_103 : decode cL_law 103 = .ok (.aload_n 1, 1) := by decide +kernel
theorem dL_law_104 : decode cL_law 104 = .ok (.bipush 15, 2) := by decide +kernel
theorem dL_law_106 : decode cL_law 106 = .ok (.invokevirtual 58, 3) := by decide +kernel
theorem dL_law_109 : decode cL_law 109 = .ok (.iload 5, 2) := by decide +kernel
theorem dL_law_111 : decode cL_law 111 = .ok (.if_icmp .ne 45, 3) := by decide +kernel
theorem dL_law_114 : decode cL_law 114 = .ok (.aload_n 1, 1) := by decide +kernel
theorem dL_law_115 : decode cL_law 115 = .ok (.iconst 4, 1) := by decide +kernel
theorem dL_law_116 : decode cL_law 116 = .ok (.invokevirtual 58, 3) := by decide +kernel
theorem dL_law_119 : decode cL_law 119 = .ok (.iload 6, 2) := by decide +kernel
theorem dL_law_121 : decode cL_law 121 = .ok (.if_icmp .ne 35, 3) := by decide +kernel
theorem dL_law_124 : decode cL_law 124 = .ok (.aload_n 1, 1) := by decide +kernel
theorem dL_law_125 : decode cL_law 125 = .ok (.iconst 0, 1) := by decide +kernel
theorem dL_law_126 : decode cL_law 126 = .ok (.invokevirtual 58, 3) := by decide +kernel
theorem dL_law_129 : decode cL_law 129 = .ok (.iload 7, 2) := by decide +kernel
theorem dL_law_131 : decode cL_law 131 = .ok (.if_icmp .ne 25, 3) := by decide +kernel
theorem dL_law_134 : decode cL_law 134 = .ok (.aload_n 1, 1) := by decide +kernel
theorem dL_law_135 : decode cL_law 135 = .ok (.bipush 11, 2) := by decide +kernel
theorem dL_law_137 : decode cL_law 137 = .ok (.invokevirtual 58, 3) := by decide +kernel
theorem dL_law_140 : decode cL_law 140 = .ok (.iload 8, 2) := by decide +kernel
theorem dL_law_142 : decode cL_law 142 = .ok (.if_icmp .ne 14, 3) := by decide +kernel
theorem dL_law_145 : decode cL_law 145 = .ok (.aload_n 1, 1) := by decide +kernel
theorem dL_law_146 : decode cL_law 146 = .ok (.invokestatic 113, 3) := by decide +kernel
theorem dL_law_149 : decode cL_law 149 = .ok (.ifCond .eq 7, 3) := by decide +kernel
theorem dL_law_152 : decode cL_law 152 = .ok (.iconst 1, 1) := by decide +kernel
theorem dL_law_153 : decode cL_law 153 = .ok (.goto 4, 3) := by decide +kernel
theorem dL_law_156 : decode cL_law 156 = .ok (.iconst 0, 1) := by decide +kernel
theorem dL_law_157 : decode cL_law 157 = .ok (.istore_n 2, 1) := by decide +kernel
theorem dL_law_158 : decode cL_law 158 = .ok (.iinc 4 1, 3) := by decide +kernel
theorem dL_law_161 : decode cL_law 161 = .ok (.goto (-114), 3) := by decide +kernel
theorem dL_law_164 : decode cL_law 164 = .ok (.iload_n 2, 1) := by decide +kernel
theorem dL_law_165 : decode cL_law 165 = .ok (.ireturn, 1) := by decide +kernel
end DLH1
