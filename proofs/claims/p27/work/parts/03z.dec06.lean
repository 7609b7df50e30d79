theorem dL_law_411 : decode cL_law 411 = .ok (.aload_n 0, 1) := by decide +kernel
theorem dL_law_412 : decode cL_law 412 = .ok (.iload 14, 2) := by decide +kernel
theorem dL_law_414 : decode cL_law 414 = .ok (.iaload, 1) := by decide +kernel
theorem dL_law_415 : decode cL_law 415 = .ok (.goto 21, 3) := by decide +kernel
theorem dL_law_418 : decode cL_law 418 = .ok (.ldc 85, 2) := by decide +kernel
theorem dL_law_420 : decode cL_law 420 = .ok (.iload 14, 2) := by decide +kernel
theorem dL_law_422 : decode cL_law 422 = .ok (.imul, 1) := by decide +kernel
theorem dL_law_423 : decode cL_law 423 = .ok (.iload 14, 2) := by decide +kernel
theorem dL_law_425 : decode cL_law 425 = .ok (.imul, 1) := by decide +kernel
theorem dL_law_426 : decode cL_law 426 = .ok (.ldc 86, 2) := by decide +kernel
theorem dL_law_428 : decode cL_law 428 = .ok (.iload 14, 2) := by decide +kernel
theorem dL_law_430 : decode cL_law 430 = .ok (.imul, 1) := by decide +kernel
theorem dL_law_431 : decode cL_law 431 = .ok (.iadd, 1) := by decide +kernel
theorem dL_law_432 : decode cL_law 432 = .ok (.sipush 183, 3) := by decide +kernel
theorem dL_law_435 : decode cL_law 435 = .ok (.iadd, 1) := by decide +kernel
theorem dL_law_436 : decode cL_law 436 = .ok (.istore 15, 2) := by decide +kernel
theorem dL_law_438 : decode cL_law 438 = .ok (.iload 15, 2) := by decide +kernel
theorem dL_law_440 : decode cL_law 440 = .ok (.iconst 4, 1) := by decide +kernel
theorem dL_law_441 : decode cL_law 441 = .ok (.ishr, 1) := by decide +kernel
theorem dL_law_442 : decode cL_law 442 = .ok (.ldc 72, 2) := by decide +kernel
theorem dL_law_444 : decode cL_law 444 = .ok (.iand, 1) := by decide +kernel
theorem dL_law_445 : decode cL_law 445 = .ok (.istore 16, 2) := by decide +kernel
theorem dL_law_447 : decode cL_law 447 = .ok (.iload 14, 2) := by decide +kernel
theorem dL_law_449 : decode cL_law 449 = .ok (.iconst 3, 1) := by decide +kernel
theorem dL_law_450 : decode cL_law 450 = .ok (.if_icmp .ge 7, 3) := by decide +kernel
theorem dL_law_453 : decode cL_law 453 = .ok (.iconst 0, 1) := by decide +kernel
theorem dL_law_454 : decode cL_law 454 = .ok (.goto 8, 3) := by decide +kernel
theorem dL_law_457 : decode cL_law 457 = .ok (.iload 15, 2) := by decide +kernel
theorem dL_law_459 : decode cL_law 459 = .ok (.bipush 15, 2) := by decide +kernel
theorem dL_law_461 : decode cL_law 461 = .ok (.iand, 1) := by decide +kernel
theorem dL_law_462 : decode cL_law 462 = .ok (.istore 17, 2) := by decide +kernel
theorem dL_law_464 : decode cL_law 464 = .ok (.iload 11, 2) := by decide +kernel
theorem dL_law_466 : decode cL_law 466 = .ok (.ifCond .ne 7, 3) := by decide +kernel
theorem dL_law_469 : decode cL_law 469 = .ok (.iconst 0, 1) := by decide +kernel
theorem dL_law_470 : decode cL_law 470 = .ok (.goto 8, 3) := by decide +kernel
theorem dL_law_473 : decode cL_law 473 = .ok (.iload 16, 2) := by decide +kernel
theorem dL_law_475 : decode cL_law 475 = .ok (.iload 11, 2) := by decide +kernel
theorem dL_law_477 : decode cL_law 477 = .ok (.irem, 1) := by decide +kernel
theorem dL_law_478 : decode cL_law 478 = .ok (.istore 18, 2) := by decide +kernel
theorem dL_law_480 : decode cL_law 480 = .ok (.iload 16, 2) := by decide +kernel
theorem dL_law_482 : decode cL_law 482 = .ok (.iload 10, 2) := by decide +kernel
theorem dL_law_484 : decode cL_law 484 = .ok (.irem, 1) := by decide +kernel
theorem dL_law_485 : decode cL_law 485 = .ok (.istore 19, 2) := by decide +kernel
theorem dL_law_487 : decode cL_law 487 = .ok (.iload 17, 2) := by decide +kernel
theorem dL_law_489 : decode cL_law 489 = .ok (.iconst 5, 1) := by decide +kernel
theorem dL_law_490 : decode cL_law 490 = .ok (.if_icmp .ge 257, 3) := by decide +kernel
theorem dL_law_493 : decode cL_law 493 = .ok (.iload 11, 2) := by decide +kernel
theorem dL_law_495 : decode cL_law 495 = .ok (.bipush 40, 2) := by decide +kernel
theorem dL_law_497 : decode cL_law 497 = .ok (.if_icmp .ge 250, 3) := by decide +kernel
theorem dL_law_500 : decode cL_law 500 = .ok (.aload 8, 2) := by decide +kernel
theorem dL_law_502 : decode cL_law 502 = .ok (.iload 11, 2) := by decide +kernel
theorem dL_law_504 : decode cL_law 504 = .ok (.iload 16, 2) := by decide +kernel
theorem dL_law_506 : decode cL_law 506 = .ok (.bipush 6, 2) := by decide +kernel
theorem dL_law_508 : decode cL_law 508 = .ok (.irem, 1) := by decide +kernel
theorem dL_law_509 : decode cL_law 509 = .ok (.iastore, 1) := by decide +kernel
theorem dL_law_510 : decode cL_law 510 = .ok (.aload 6, 2) := by decide +kernel
theorem dL_law_512 : decode cL_law 512 = .ok (.iload 11, 2) := by decide +kernel
theorem dL_law_514 : decode cL_law 514 = .ok (.iload 16, 2) := by decide +kernel
theorem dL_law_516 : decode cL_law 516 = .ok (.iconst 3, 1) := by decide +kernel
theorem dL_law_517 : decode cL_law 517 = .ok (.ishr, 1) := by decide +kernel
theorem dL_law_518 : decode cL_law 518 = .ok (.bipush 14, 2) := by decide +kernel
theorem dL_law_520 : decode cL_law 520 = .ok (.irem, 1) := by decide +kernel
theorem dL_law_521 : decode cL_law 521 = .ok (.iastore, 1) := by decide +kernel
theorem dL_law_522 : decode cL_law 522 = .ok (.aload 7, 2) := by decide +kernel
theorem dL_law_524 : decode cL_law 524 = .ok (.iload 11, 2) := by decide +kernel
theorem dL_law_526 : decode cL_law 526 = .ok (.iload 16, 2) := by decide +kernel
theorem dL_law_528 : decode cL_law 528 = .ok (.bipush 7, 2) := by decide +kernel
theorem dL_law_530 : decode cL_law 530 = .ok (.ishr, 1) := by decide +kernel
theorem dL_law_531 : decode cL_law 531 = .ok (.iconst 3, 1) := by decide +kernel
theorem dL_law_532 : decode cL_law 532 = .ok (.iand, 1) := by decide +kernel
theorem dL_law_533 : decode cL_law 533 = .ok (.ifCond .ne 7, 3) := by decide +kernel
theorem dL_law_536 : decode cL_law 536 = .ok (.iconst 1, 1) := by decide +kernel
theorem dL_law_537 : decode cL_law 537 = .ok (.goto 4, 3) := by decide +kernel
theorem dL_law_540 : decode cL_law 540 = .ok (.iconst 0, 1) := by decide +kernel
theorem dL_law_541 : decode cL_law 541 = .ok (.iastore, 1) := by decide +kernel
theorem dL_law_542 : decode cL_law 542 = .ok (.aload 9, 2) := by decide +kernel
theorem dL_law_544 : decode cL_law 544 = .ok (.iload 11, 2) := by decide +kernel
theorem dL_law_546 : decode cL_law 546 = .ok (.iload 11, 2) := by decide +kernel
theorem dL_law_548 : decode cL_law 548 = .ok (.ifCond .eq 13, 3) := by decide +kernel
theorem dL_law_551 : decode cL_law 551 = .ok (.iload 16, 2) := by decide +kernel
theorem dL_law_553 : decode cL_law 553 = .ok (.bipush 18, 2) := by decide +kernel
theorem dL_law_555 : decode cL_law 555 = .ok (.ishr, 1) := by decide +kernel
theorem dL_law_556 : decode cL_law 556 = .ok (.iconst 1, 1) := by decide +kernel
theorem dL_law_557 : decode cL_law 557 = .ok (.iand, 1) := by decide +kernel
theorem dL_law_558 : decode cL_law 558 = .ok (.ifCond .ne 7, 3) := by decide +kernel
theorem dL_law_561 : decode cL_law 561 = .ok (.iconst (-1), 1) := by decide +kernel
theorem dL_law_562 : decode cL_law 562 = .ok (.goto 11, 3) := by decide +kernel
theorem dL_law_565 : decode cL_law 565 = .ok (.iload 16, 2) := by decide +kernel
theorem dL_law_567 : decode cL_law 567 = .ok (.bipush 19, 2) := by decide +kernel
theorem dL_law_569 : decode cL_law 569 = .ok (.ishr, 1) := by decide +kernel
theorem dL_law_570 : decode cL_law 570 = .ok (.iload 11, 2) := by decide +kernel
theorem dL_law_572 : decode cL_law 572 = .ok (.irem, 1) := by decide +kernel
theorem dL_law_573 : decode cL_law 573 = .ok (.iastore, 1) := by decide +kernel
theorem dL_law_574 : decode cL_law 574 = .ok (.sipush 4000, 3) := by decide +kernel
theorem dL_law_577 : decode cL_law 577 = .ok (.iload 16, 2) := by decide +kernel
theorem dL_law_579 : decode cL_law 579 = .ok (.bipush 9, 2) := by decide +kernel
theorem dL_law_581 : decode cL_law 581 = .ok (.ishr, 1) := by decide +kernel
theorem dL_law_582 : decode cL_law 582 = .ok (.iconst 3, 1) := by decide +kernel
theorem dL_law_583 : decode cL_law 583 = .ok (.iand, 1) := by decide +kernel
theorem dL_law_584 : decode cL_law 584 = .ok (.ifCond .ne 15, 3) := by decide +kernel
theorem dL_law_587 : decode cL_law 587 = .ok (.iload 16, 2) := by decide +kernel
theorem dL_law_589 : decode cL_law 589 = .ok (.bipush 11, 2) := by decide +kernel
theorem dL_law_591 : decode cL_law 591 = .ok (.ishr, 1) := by decide +kernel
theorem dL_law_592 : decode cL_law 592 = .ok (.sipush 600, 3) := by decide +kernel
theorem dL_law_595 : decode cL_law 595 = .ok (.irem, 1) := by decide +kernel
theorem dL_law_596 : decode cL_law 596 = .ok (.goto 11, 3) := by decide +kernel
theorem dL_law_599 : decode cL_law 599 = .ok (.iload 16, 2) := by decide +kernel
theorem dL_law_601 : decode cL_law 601 = .ok (.bipush 11, 2) := by decide +kernel
theorem dL_law_603 : decode cL_law 603 = .ok (.ishr, 1) := by decide +kernel
theorem dL_law_604 : decode cL_law 604 = .ok (.bipush 40, 2) := by decide +kernel
theorem dL_law_606 : decode cL_law 606 = .ok (.irem, 1) := by decide +kernel
theorem dL_law_607 : decode cL_law 607 = .ok (.iadd, 1) := by decide +kernel
theorem dL_law_608 : decode cL_law 608 = .ok (.istore 20, 2) := by decide +kernel
theorem dL_law_610 : decode cL_law 610 = .ok (.iconst 1, 1) := by decide +kernel
theorem dL_law_611 : decode cL_law 611 = .ok (.iload 16, 2) := by decide +kernel
theorem dL_law_613 : decode cL_law 613 = .ok (.bipush 13, 2) := by decide +kernel
theorem dL_law_615 : decode cL_law 615 = .ok (.ishr, 1) := by decide +kernel
theorem dL_law_616 : decode cL_law 616 = .ok (.iload 16, 2) := by decide +kernel
theorem dL_law_618 : decode cL_law 618 = .ok (.bipush 9, 2) := by decide +kernel
theorem dL_law_620 : decode cL_law 620 = .ok (.ishr, 1) := by decide +kernel
theorem dL_law_621 : decode cL_law 621 = .ok (.iconst 1, 1) := by decide +kernel
theorem dL_law_622 : decode cL_law 622 = .ok (.iand, 1) := by decide +kernel
theorem dL_law_623 : decode cL_law 623 = .ok (.ifCond .ne 8, 3) := by decide +kernel
theorem dL_law_626 : decode cL_law 626 = .ok (.bipush 12, 2) := by decide +kernel
theorem dL_law_628 : decode cL_law 628 = .ok (.goto 5, 3) := by decide +kernel
theorem dL_law_631 : decode cL_law 631 = .ok (.bipush 40, 2) := by decide +kernel
theorem dL_law_633 : decode cL_law 633 = .ok (.irem, 1) := by decide +kernel
theorem dL_law_634 : decode cL_law 634 = .ok (.iadd, 1) := by decide +kernel
theorem dL_law_635 : decode cL_law 635 = .ok (.istore 21, 2) := by decide +kernel
theorem dL_law_637 : decode cL_law 637 = .ok (.aload_n 1, 1) := by decide +kernel
theorem dL_law_638 : decode cL_law 638 = .ok (.aload 8, 2) := by decide +kernel
theorem dL_law_640 : decode cL_law 640 = .ok (.iload 11, 2) := by decide +kernel
theorem dL_law_642 : decode cL_law 642 = .ok (.iaload, 1) := by decide +kernel
theorem dL_law_643 : decode cL_law 643 = .ok (.aload 6, 2) := by decide +kernel
theorem dL_law_645 : decode cL_law 645 = .ok (.iload 11, 2) := by decide +kernel
theorem dL_law_647 : decode cL_law 647 = .ok (.iaload, 1) := by decide +kernel
theorem dL_law_648 : decode cL_law 648 = .ok (.iload 20, 2) := by decide +kernel
theorem dL_law_650 : decode cL_law 650 = .ok (.iload 21, 2) := by decide +kernel
theorem dL_law_652 : decode cL_law 652 = .ok (.aload 9, 2) := by decide +kernel
theorem dL_law_654 : decode cL_law 654 = .ok (.iload 11, 2) := by decide +kernel
theorem dL_law_656 : decode cL_law 656 = .ok (.iaload, 1) := by decide +kernel
theorem dL_law_657 : decode cL_law 657 = .ok (.aload 7, 2) := by decide +kernel
theorem dL_law_659 : decode cL_law 659 = .ok (.iload 11, 2) := by decide +kernel
theorem dL_law_661 : decode cL_law 661 = .ok (.iaload, 1) := by decide +kernel
theorem dL_law_662 : decode cL_law 662 = .ok (.iconst 1, 1) := by decide +kernel
theorem dL_law_663 : decode cL_law 663 = .ok (.if_icmp .ne 7, 3) := by decide +kernel
theorem dL_law_666 : decode cL_law 666 = .ok (.iconst 1, 1) := by decide +kernel
theorem dL_law_667 : decode cL_law 667 = .ok (.goto 4, 3) := by decide +kernel
theorem dL_law_670 : decode cL_law 670 = .ok (.iconst 0, 1) := by decide +kernel
theorem dL_law_671 : decode cL_law 671 = .ok (.invokevirtual 87, 3) := by decide +kernel
theorem dL_law_674 : decode cL_law 674 = .ok (.iload 11, 2) := by decide +kernel
theorem dL_law_676 : decode cL_law 676 = .ok (.if_icmp .ne 62, 3) := by decide +kernel
theorem dL_law_679 : decode cL_law 679 = .ok (.aload_n 1, 1) := by decide +kernel
theorem dL_law_680 : decode cL_law 680 = .ok (.iload 11, 2) := by decide +kernel
theorem dL_law_682 : decode cL_law 682 = .ok (.invokevirtual 41, 3) := by decide +kernel
theorem dL_law_685 : decode cL_law 685 = .ok (.ifCond .eq 13, 3) := by decide +kernel
theorem dL_law_688 : decode cL_law 688 = .ok (.aload_n 1, 1) := by decide +kernel
theorem dL_law_689 : decode cL_law 689 = .ok (.iload 11, 2) := by decide +kernel
theorem dL_law_691 : decode cL_law 691 = .ok (.invokevirtual 41, 3) := by decide +kernel
theorem dL_law_694 : decode cL_law 694 = .ok (.iconst 1, 1) := by decide +kernel
theorem dL_law_695 : decode cL_law 695 = .ok (.if_icmp .ne 43, 3) := by decide +kernel
theorem dL_law_698 : decode cL_law 698 = .ok (.aload_n 1, 1) := by decide +kernel
theorem dL_law_699 : decode cL_law 699 = .ok (.iload 11, 2) := by decide +kernel
theorem dL_law_701 : decode cL_law 701 = .ok (.invokevirtual 54, 3) := by decide +kernel
theorem dL_law_704 : decode cL_law 704 = .ok (.iload 20, 2) := by decide +kernel
theorem dL_law_706 : decode cL_law 706 = .ok (.if_icmp .gt 32, 3) := by decide +kernel
theorem dL_law_709 : decode cL_law 709 = .ok (.aload_n 1, 1) := by decide +kernel
theorem dL_law_710 : decode cL_law 710 = .ok (.iload 11, 2) := by decide +kernel
theorem dL_law_712 : decode cL_law 712 = .ok (.invokevirtual 57, 3) := by decide +kernel
theorem dL_law_715 : decode cL_law 715 = .ok (.iload 20, 2) := by decide +kernel
theorem dL_law_717 : decode cL_law 717 = .ok (.iload 21, 2) := by decide +kernel
theorem dL_law_719 : decode cL_law 719 = .ok (.iadd, 1) := by decide +kernel
theorem dL_law_720 : decode cL_law 720 = .ok (.if_icmp .lt 18, 3) := by decide +kernel
theorem dL_law_723 : decode cL_law 723 = .ok (.aload_n 1, 1) := by decide +kernel
theorem dL_law_724 : decode cL_law 724 = .ok (.iload 11, 2) := by decide +kernel
theorem dL_law_726 : decode cL_law 726 = .ok (.invokevirtual 91, 3) := by decide +kernel
theorem dL_law_729 : decode cL_law 729 = .ok (.lconst 0, 1) := by decide +kernel
theorem dL_law_730 : decode cL_law 730 = .ok (.lcmp, 1) := by decide +kernel
theorem dL_law_731 : decode cL_law 731 = .ok (.ifCond .ne 7, 3) := by decide +kernel
theorem dL_law_734 : decode cL_law 734 = .ok (.iconst 1, 1) := by decide +kernel
theorem dL_law_735 : decode cL_law 735 = .ok (.goto 4, 3) := by decide +kernel
theorem dL_law_738 : decode cL_law 738 = .ok (.iconst 0, 1) := by decide +kernel
theorem dL_law_739 : decode cL_law 739 = .ok (.istore 12, 2) := by decide +kernel
theorem dL_law_741 : decode cL_law 741 = .ok (.iinc 11 1, 3) := by decide +kernel
theorem dL_law_744 : decode cL_law 744 = .ok (.goto 691, 3) := by decide +kernel
theorem dL_law_747 : decode cL_law 747 = .ok (.iload 17, 2) := by decide +kernel
theorem dL_law_749 : decode cL_law 749 = .ok (.iconst 5, 1) := by decide +kernel
theorem dL_law_750 : decode cL_law 750 = .ok (.if_icmp .ne 158, 3) := by decide +kernel
theorem dL_law_753 : decode cL_law 753 = .ok (.iload 11, 2) := by decide +kernel
theorem dL_law_755 : decode cL_law 755 = .ok (.ifCond .le 153, 3) := by decide +kernel
theorem dL_law_758 : decode cL_law 758 = .ok (.aload_n 1, 1) := by decide +kernel
theorem dL_law_759 : decode cL_law 759 = .ok (.iload 18, 2) := by decide +kernel
theorem dL_law_761 : decode cL_law 761 = .ok (.invokevirtual 41, 3) := by decide +kernel
theorem dL_law_764 : decode cL_law 764 = .ok (.istore 20, 2) := by decide +kernel
theorem dL_law_766 : decode cL_law 766 = .ok (.aload_n 1, 1) := by decide +kernel
theorem dL_law_767 : decode cL_law 767 = .ok (.iconst 0, 1) := by decide +kernel
theorem dL_law_768 : decode cL_law 768 = .ok (.iload 18, 2) := by decide +kernel
theorem dL_law_770 : decode cL_law 770 = .ok (.iconst 0, 1) := by decide +kernel
theorem dL_law_771 : decode cL_law 771 = .ok (.invokestatic 80, 3) := by decide +kernel
theorem dL_law_774 : decode cL_law 774 = .ok (.lstore 21, 2) := by decide +kernel
theorem dL_law_776 : decode cL_law 776 = .ok (.lload 21, 2) := by decide +kernel
theorem dL_law_778 : decode cL_law 778 = .ok (.ldc2_w 39, 3) := by decide +kernel
theorem dL_law_781 : decode cL_law 781 = .ok (.lcmp, 1) := by decide +kernel
theorem dL_law_782 : decode cL_law 782 = .ok (.ifCond .ne 16, 3) := by decide +kernel
theorem dL_law_785 : decode cL_law 785 = .ok (.iload 20, 2) := by decide +kernel
theorem dL_law_787 : decode cL_law 787 = .ok (.ifCond .eq 7, 3) := by decide +kernel
theorem dL_law_790 : decode cL_law 790 = .ok (.iconst 1, 1) := by decide +kernel
theorem dL_law_791 : decode cL_law 791 = .ok (.goto 43, 3) := by decide +kernel
theorem dL_law_794 : decode cL_law 794 = .ok (.iconst 0, 1) := by decide +kernel
theorem dL_law_795 : decode cL_law 795 = .ok (.goto 39, 3) := by decide +kernel
theorem dL_law_798 : decode cL_law 798 = .ok (.iload 20, 2) := by decide +kernel
theorem dL_law_800 : decode cL_law 800 = .ok (.ifCond .ne 33, 3) := by decide +kernel
theorem dL_law_803 : decode cL_law 803 = .ok (.aload_n 1, 1) := by decide +kernel
theorem dL_law_804 : decode cL_law 804 = .ok (.iload 18, 2) := by decide +kernel
theorem dL_law_806 : decode cL_law 806 = .ok (.invokevirtual 41, 3) := by decide +kernel
theorem dL_law_809 : decode cL_law 809 = .ok (.iconst 4, 1) := by decide +kernel
theorem dL_law_810 : decode cL_law 810 = .ok (.if_icmp .ne 23, 3) := by decide +kernel
theorem dL_law_813 : decode cL_law 813 = .ok (.lload 21, 2) := by decide +kernel
theorem dL_law_815 : decode cL_law 815 = .ok (.lconst 1, 1) := by decide +kernel
theorem dL_law_816 : decode cL_law 816 = .ok (.lcmp, 1) := by decide +kernel
theorem dL_law_817 : decode cL_law 817 = .ok (.ifCond .lt 16, 3) := by decide +kernel
theorem dL_law_820 : decode cL_law 820 = .ok (.lload 21, 2) := by decide +kernel
theorem dL_law_822 : decode cL_law 822 = .ok (.iload 11, 2) := by decide +kernel
theorem dL_law_824 : decode cL_law 824 = .ok (.i2l, 1) := by decide +kernel
theorem dL_law_825 : decode cL_law 825 = .ok (.lcmp, 1) := by decide +kernel
