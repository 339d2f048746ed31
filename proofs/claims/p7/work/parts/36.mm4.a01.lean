theorem d_Mod_step_444 : decode b_Mod_step 444 = .ok (.goto 4, 3) := by decide +kernel
theorem d_Mod_step_447 : decode b_Mod_step 447 = .ok (.iconst 1, 1) := by decide +kernel
theorem d_Mod_step_448 : decode b_Mod_step 448 = .ok (.istore 8, 2) := by decide +kernel
theorem d_Mod_step_450 : decode b_Mod_step 450 = .ok (.iload 14, 2) := by decide +kernel
theorem d_Mod_step_452 : decode b_Mod_step 452 = .ok (.ifCond .eq 23, 3) := by decide +kernel
theorem d_Mod_step_455 : decode b_Mod_step 455 = .ok (.aload_n 0, 1) := by decide +kernel
theorem d_Mod_step_456 : decode b_Mod_step 456 = .ok (.sipush 256, 3) := by decide +kernel
theorem d_Mod_step_459 : decode b_Mod_step 459 = .ok (.iload 4, 2) := by decide +kernel
theorem d_Mod_step_461 : decode b_Mod_step 461 = .ok (.imul, 1) := by decide +kernel
theorem d_Mod_step_462 : decode b_Mod_step 462 = .ok (.iload 5, 2) := by decide +kernel
theorem d_Mod_step_464 : decode b_Mod_step 464 = .ok (.iadd, 1) := by decide +kernel
theorem d_Mod_step_465 : decode b_Mod_step 465 = .ok (.iload_n 2, 1) := by decide +kernel
theorem d_Mod_step_466 : decode b_Mod_step 466 = .ok (.iconst 1, 1) := by decide +kernel
theorem d_Mod_step_467 : decode b_Mod_step 467 = .ok (.iand, 1) := by decide +kernel
theorem d_Mod_step_468 : decode b_Mod_step 468 = .ok (.bipush 16, 2) := by decide +kernel
theorem d_Mod_step_470 : decode b_Mod_step 470 = .ok (.invokevirtual 403, 3) := by decide +kernel
theorem d_Mod_step_473 : decode b_Mod_step 473 = .ok (.lstore 6, 2) := by decide +kernel
theorem d_Mod_step_475 : decode b_Mod_step 475 = .ok (.goto 369, 3) := by decide +kernel
theorem d_Mod_step_478 : decode b_Mod_step 478 = .ok (.iload_n 2, 1) := by decide +kernel
theorem d_Mod_step_479 : decode b_Mod_step 479 = .ok (.bipush 96, 2) := by decide +kernel
theorem d_Mod_step_481 : decode b_Mod_step 481 = .ok (.if_icmp .lt 56, 3) := by decide +kernel
theorem d_Mod_step_484 : decode b_Mod_step 484 = .ok (.iload_n 2, 1) := by decide +kernel
theorem d_Mod_step_485 : decode b_Mod_step 485 = .ok (.sipush 128, 3) := by decide +kernel
theorem d_Mod_step_488 : decode b_Mod_step 488 = .ok (.if_icmp .ge 49, 3) := by decide +kernel
theorem d_Mod_step_491 : decode b_Mod_step 491 = .ok (.iload_n 2, 1) := by decide +kernel
theorem d_Mod_step_492 : decode b_Mod_step 492 = .ok (.bipush 96, 2) := by decide +kernel
theorem d_Mod_step_494 : decode b_Mod_step 494 = .ok (.isub, 1) := by decide +kernel
theorem d_Mod_step_495 : decode b_Mod_step 495 = .ok (.iconst 1, 1) := by decide +kernel
theorem d_Mod_step_496 : decode b_Mod_step 496 = .ok (.ishr, 1) := by decide +kernel
theorem d_Mod_step_497 : decode b_Mod_step 497 = .ok (.bipush 7, 2) := by decide +kernel
theorem d_Mod_step_499 : decode b_Mod_step 499 = .ok (.iand, 1) := by decide +kernel
theorem d_Mod_step_500 : decode b_Mod_step 500 = .ok (.lload 10, 2) := by decide +kernel
theorem d_Mod_step_502 : decode b_Mod_step 502 = .ok (.invokestatic 399, 3) := by decide +kernel
theorem d_Mod_step_505 : decode b_Mod_step 505 = .ok (.istore 14, 2) := by decide +kernel
theorem d_Mod_step_507 : decode b_Mod_step 507 = .ok (.iload 14, 2) := by decide +kernel
theorem d_Mod_step_509 : decode b_Mod_step 509 = .ok (.ifCond .eq 13, 3) := by decide +kernel
theorem d_Mod_step_512 : decode b_Mod_step 512 = .ok (.aload_n 0, 1) := by decide +kernel
theorem d_Mod_step_513 : decode b_Mod_step 513 = .ok (.iload_n 3, 1) := by decide +kernel
theorem d_Mod_step_514 : decode b_Mod_step 514 = .ok (.lload 12, 2) := by decide +kernel
theorem d_Mod_step_516 : decode b_Mod_step 516 = .ok (.invokevirtual 393, 3) := by decide +kernel
theorem d_Mod_step_519 : decode b_Mod_step 519 = .ok (.goto 15, 3) := by decide +kernel
theorem d_Mod_step_522 : decode b_Mod_step 522 = .ok (.iload_n 2, 1) := by decide +kernel
theorem d_Mod_step_523 : decode b_Mod_step 523 = .ok (.bipush 112, 2) := by decide +kernel
theorem d_Mod_step_525 : decode b_Mod_step 525 = .ok (.if_icmp .lt 9, 3) := by decide +kernel
theorem d_Mod_step_528 : decode b_Mod_step 528 = .ok (.aload_n 0, 1) := by decide +kernel
theorem d_Mod_step_529 : decode b_Mod_step 529 = .ok (.iload_n 3, 1) := by decide +kernel
theorem d_Mod_step_530 : decode b_Mod_step 530 = .ok (.lconst 0, 1) := by decide +kernel
theorem d_Mod_step_531 : decode b_Mod_step 531 = .ok (.invokevirtual 393, 3) := by decide +kernel
theorem d_Mod_step_534 : decode b_Mod_step 534 = .ok (.goto 310, 3) := by decide +kernel
theorem d_Mod_step_537 : decode b_Mod_step 537 = .ok (.iload_n 2, 1) := by decide +kernel
theorem d_Mod_step_538 : decode b_Mod_step 538 = .ok (.sipush 224, 3) := by decide +kernel
theorem d_Mod_step_541 : decode b_Mod_step 541 = .ok (.if_icmp .lt 39, 3) := by decide +kernel
theorem d_Mod_step_544 : decode b_Mod_step 544 = .ok (.iload_n 2, 1) := by decide +kernel
theorem d_Mod_step_545 : decode b_Mod_step 545 = .ok (.sipush 240, 3) := by decide +kernel
theorem d_Mod_step_548 : decode b_Mod_step 548 = .ok (.if_icmp .ge 32, 3) := by decide +kernel
theorem d_Mod_step_551 : decode b_Mod_step 551 = .ok (.aload_n 0, 1) := by decide +kernel
theorem d_Mod_step_552 : decode b_Mod_step 552 = .ok (.iload_n 2, 1) := by decide +kernel
theorem d_Mod_step_553 : decode b_Mod_step 553 = .ok (.iload_n 3, 1) := by decide +kernel
theorem d_Mod_step_554 : decode b_Mod_step 554 = .ok (.sipush 256, 3) := by decide +kernel
theorem d_Mod_step_557 : decode b_Mod_step 557 = .ok (.iload 4, 2) := by decide +kernel
theorem d_Mod_step_559 : decode b_Mod_step 559 = .ok (.imul, 1) := by decide +kernel
theorem d_Mod_step_560 : decode b_Mod_step 560 = .ok (.iload 5, 2) := by decide +kernel
theorem d_Mod_step_562 : decode b_Mod_step 562 = .ok (.iadd, 1) := by decide +kernel
theorem d_Mod_step_563 : decode b_Mod_step 563 = .ok (.i2l, 1) := by decide +kernel
theorem d_Mod_step_564 : decode b_Mod_step 564 = .ok (.bipush 48, 2) := by decide +kernel
theorem d_Mod_step_566 : decode b_Mod_step 566 = .ok (.bipush 16, 2) := by decide +kernel
theorem d_Mod_step_568 : decode b_Mod_step 568 = .ok (.iload_n 2, 1) := by decide +kernel
theorem d_Mod_step_569 : decode b_Mod_step 569 = .ok (.iconst 3, 1) := by decide +kernel
theorem d_Mod_step_570 : decode b_Mod_step 570 = .ok (.iand, 1) := by decide +kernel
theorem d_Mod_step_571 : decode b_Mod_step 571 = .ok (.imul, 1) := by decide +kernel
theorem d_Mod_step_572 : decode b_Mod_step 572 = .ok (.isub, 1) := by decide +kernel
theorem d_Mod_step_573 : decode b_Mod_step 573 = .ok (.lshl, 1) := by decide +kernel
theorem d_Mod_step_574 : decode b_Mod_step 574 = .ok (.invokevirtual 407, 3) := by decide +kernel
theorem d_Mod_step_577 : decode b_Mod_step 577 = .ok (.goto 267, 3) := by decide +kernel
theorem d_Mod_step_580 : decode b_Mod_step 580 = .ok (.iload 9, 2) := by decide +kernel
theorem d_Mod_step_582 : decode b_Mod_step 582 = .ok (.sipush 240, 3) := by decide +kernel
theorem d_Mod_step_585 : decode b_Mod_step 585 = .ok (.if_icmp .ne 32, 3) := by decide +kernel
theorem d_Mod_step_588 : decode b_Mod_step 588 = .ok (.aload_n 0, 1) := by decide +kernel
theorem d_Mod_step_589 : decode b_Mod_step 589 = .ok (.ldc_w 411, 3) := by decide +kernel
theorem d_Mod_step_592 : decode b_Mod_step 592 = .ok (.iload_n 3, 1) := by decide +kernel
theorem d_Mod_step_593 : decode b_Mod_step 593 = .ok (.imul, 1) := by decide +kernel
theorem d_Mod_step_594 : decode b_Mod_step 594 = .ok (.sipush 256, 3) := by decide +kernel
theorem d_Mod_step_597 : decode b_Mod_step 597 = .ok (.iload 4, 2) := by decide +kernel
theorem d_Mod_step_599 : decode b_Mod_step 599 = .ok (.imul, 1) := by decide +kernel
theorem d_Mod_step_600 : decode b_Mod_step 600 = .ok (.iadd, 1) := by decide +kernel
theorem d_Mod_step_601 : decode b_Mod_step 601 = .ok (.iload 5, 2) := by decide +kernel
theorem d_Mod_step_603 : decode b_Mod_step 603 = .ok (.iadd, 1) := by decide +kernel
theorem d_Mod_step_604 : decode b_Mod_step 604 = .ok (.iload_n 2, 1) := by decide +kernel
theorem d_Mod_step_605 : decode b_Mod_step 605 = .ok (.iconst 1, 1) := by decide +kernel
theorem d_Mod_step_606 : decode b_Mod_step 606 = .ok (.iand, 1) := by decide +kernel
theorem d_Mod_step_607 : decode b_Mod_step 607 = .ok (.bipush 24, 2) := by decide +kernel
theorem d_Mod_step_609 : decode b_Mod_step 609 = .ok (.invokevirtual 403, 3) := by decide +kernel
theorem d_Mod_step_612 : decode b_Mod_step 612 = .ok (.lstore 6, 2) := by decide +kernel
theorem d_Mod_step_614 : decode b_Mod_step 614 = .ok (.goto 230, 3) := by decide +kernel
theorem d_Mod_step_617 : decode b_Mod_step 617 = .ok (.iload 9, 2) := by decide +kernel
theorem d_Mod_step_619 : decode b_Mod_step 619 = .ok (.sipush 242, 3) := by decide +kernel
theorem d_Mod_step_622 : decode b_Mod_step 622 = .ok (.if_icmp .ne 50, 3) := by decide +kernel
theorem d_Mod_step_625 : decode b_Mod_step 625 = .ok (.aload_n 0, 1) := by decide +kernel
theorem d_Mod_step_626 : decode b_Mod_step 626 = .ok (.iload_n 3, 1) := by decide +kernel
theorem d_Mod_step_627 : decode b_Mod_step 627 = .ok (.invokevirtual 412, 3) := by decide +kernel
theorem d_Mod_step_630 : decode b_Mod_step 630 = .ok (.ifCond .ne 5, 3) := by decide +kernel
theorem d_Mod_step_633 : decode b_Mod_step 633 = .ok (.iconst 2, 1) := by decide +kernel
theorem d_Mod_step_634 : decode b_Mod_step 634 = .ok (.ireturn, 1) := by decide +kernel
theorem d_Mod_step_635 : decode b_Mod_step 635 = .ok (.aload_n 0, 1) := by decide +kernel
theorem d_Mod_step_636 : decode b_Mod_step 636 = .ok (.getfield 46, 3) := by decide +kernel
theorem d_Mod_step_639 : decode b_Mod_step 639 = .ok (.iconst 4, 1) := by decide +kernel
theorem d_Mod_step_640 : decode b_Mod_step 640 = .ok (.aload_n 0, 1) := by decide +kernel
theorem d_Mod_step_641 : decode b_Mod_step 641 = .ok (.getfield 81, 3) := by decide +kernel
theorem d_Mod_step_644 : decode b_Mod_step 644 = .ok (.ldc2_w 271, 3) := by decide +kernel
theorem d_Mod_step_647 : decode b_Mod_step 647 = .ok (.ladd, 1) := by decide +kernel
theorem d_Mod_step_648 : decode b_Mod_step 648 = .ok (.lastore, 1) := by decide +kernel
theorem d_Mod_step_649 : decode b_Mod_step 649 = .ok (.aload_n 0, 1) := by decide +kernel
theorem d_Mod_step_650 : decode b_Mod_step 650 = .ok (.sipush 256, 3) := by decide +kernel
theorem d_Mod_step_653 : decode b_Mod_step 653 = .ok (.iload 4, 2) := by decide +kernel
theorem d_Mod_step_655 : decode b_Mod_step 655 = .ok (.imul, 1) := by decide +kernel
theorem d_Mod_step_656 : decode b_Mod_step 656 = .ok (.iload 5, 2) := by decide +kernel
theorem d_Mod_step_658 : decode b_Mod_step 658 = .ok (.iadd, 1) := by decide +kernel
theorem d_Mod_step_659 : decode b_Mod_step 659 = .ok (.iload_n 2, 1) := by decide +kernel
theorem d_Mod_step_660 : decode b_Mod_step 660 = .ok (.iconst 1, 1) := by decide +kernel
theorem d_Mod_step_661 : decode b_Mod_step 661 = .ok (.iand, 1) := by decide +kernel
theorem d_Mod_step_662 : decode b_Mod_step 662 = .ok (.bipush 16, 2) := by decide +kernel
theorem d_Mod_step_664 : decode b_Mod_step 664 = .ok (.invokevirtual 403, 3) := by decide +kernel
theorem d_Mod_step_667 : decode b_Mod_step 667 = .ok (.lstore 6, 2) := by decide +kernel
theorem d_Mod_step_669 : decode b_Mod_step 669 = .ok (.goto 175, 3) := by decide +kernel
theorem d_Mod_step_672 : decode b_Mod_step 672 = .ok (.iload 9, 2) := by decide +kernel
theorem d_Mod_step_674 : decode b_Mod_step 674 = .ok (.sipush 244, 3) := by decide +kernel
theorem d_Mod_step_677 : decode b_Mod_step 677 = .ok (.if_icmp .ne 29, 3) := by decide +kernel
theorem d_Mod_step_680 : decode b_Mod_step 680 = .ok (.aload_n 0, 1) := by decide +kernel
theorem d_Mod_step_681 : decode b_Mod_step 681 = .ok (.iload_n 3, 1) := by decide +kernel
theorem d_Mod_step_682 : decode b_Mod_step 682 = .ok (.aload_n 0, 1) := by decide +kernel
theorem d_Mod_step_683 : decode b_Mod_step 683 = .ok (.sipush 256, 3) := by decide +kernel
theorem d_Mod_step_686 : decode b_Mod_step 686 = .ok (.iload 4, 2) := by decide +kernel
theorem d_Mod_step_688 : decode b_Mod_step 688 = .ok (.imul, 1) := by decide +kernel
theorem d_Mod_step_689 : decode b_Mod_step 689 = .ok (.iload 5, 2) := by decide +kernel
theorem d_Mod_step_691 : decode b_Mod_step 691 = .ok (.iadd, 1) := by decide +kernel
theorem d_Mod_step_692 : decode b_Mod_step 692 = .ok (.iload_n 2, 1) := by decide +kernel
theorem d_Mod_step_693 : decode b_Mod_step 693 = .ok (.iconst 1, 1) := by decide +kernel
theorem d_Mod_step_694 : decode b_Mod_step 694 = .ok (.iand, 1) := by decide +kernel
theorem d_Mod_step_695 : decode b_Mod_step 695 = .ok (.bipush 16, 2) := by decide +kernel
theorem d_Mod_step_697 : decode b_Mod_step 697 = .ok (.invokevirtual 403, 3) := by decide +kernel
theorem d_Mod_step_700 : decode b_Mod_step 700 = .ok (.invokevirtual 393, 3) := by decide +kernel
theorem d_Mod_step_703 : decode b_Mod_step 703 = .ok (.goto 141, 3) := by decide +kernel
theorem d_Mod_step_706 : decode b_Mod_step 706 = .ok (.iload 9, 2) := by decide +kernel
theorem d_Mod_step_708 : decode b_Mod_step 708 = .ok (.sipush 246, 3) := by decide +kernel
theorem d_Mod_step_711 : decode b_Mod_step 711 = .ok (.if_icmp .ne 13, 3) := by decide +kernel
theorem d_Mod_step_714 : decode b_Mod_step 714 = .ok (.aload_n 0, 1) := by decide +kernel
theorem d_Mod_step_715 : decode b_Mod_step 715 = .ok (.iload_n 3, 1) := by decide +kernel
theorem d_Mod_step_716 : decode b_Mod_step 716 = .ok (.lload 12, 2) := by decide +kernel
theorem d_Mod_step_718 : decode b_Mod_step 718 = .ok (.invokevirtual 415, 3) := by decide +kernel
theorem d_Mod_step_721 : decode b_Mod_step 721 = .ok (.goto 123, 3) := by decide +kernel
theorem d_Mod_step_724 : decode b_Mod_step 724 = .ok (.iload_n 2, 1) := by decide +kernel
theorem d_Mod_step_725 : decode b_Mod_step 725 = .ok (.sipush 248, 3) := by decide +kernel
theorem d_Mod_step_728 : decode b_Mod_step 728 = .ok (.if_icmp .ne 46, 3) := by decide +kernel
theorem d_Mod_step_731 : decode b_Mod_step 731 = .ok (.aload_n 0, 1) := by decide +kernel
theorem d_Mod_step_732 : decode b_Mod_step 732 = .ok (.getfield 61, 3) := by decide +kernel
theorem d_Mod_step_735 : decode b_Mod_step 735 = .ok (.ifCond .ne 5, 3) := by decide +kernel
theorem d_Mod_step_738 : decode b_Mod_step 738 = .ok (.iconst 3, 1) := by decide +kernel
theorem d_Mod_step_739 : decode b_Mod_step 739 = .ok (.ireturn, 1) := by decide +kernel
theorem d_Mod_step_740 : decode b_Mod_step 740 = .ok (.iconst 3, 1) := by decide +kernel
theorem d_Mod_step_741 : decode b_Mod_step 741 = .ok (.istore 8, 2) := by decide +kernel
theorem d_Mod_step_743 : decode b_Mod_step 743 = .ok (.aload_n 0, 1) := by decide +kernel
theorem d_Mod_step_744 : decode b_Mod_step 744 = .ok (.getfield 46, 3) := by decide +kernel
theorem d_Mod_step_747 : decode b_Mod_step 747 = .ok (.iconst 4, 1) := by decide +kernel
theorem d_Mod_step_748 : decode b_Mod_step 748 = .ok (.laload, 1) := by decide +kernel
theorem d_Mod_step_749 : decode b_Mod_step 749 = .ok (.ldc2_w 271, 3) := by decide +kernel
theorem d_Mod_step_752 : decode b_Mod_step 752 = .ok (.sipush 256, 3) := by decide +kernel
theorem d_Mod_step_755 : decode b_Mod_step 755 = .ok (.iload 4, 2) := by decide +kernel
theorem d_Mod_step_757 : decode b_Mod_step 757 = .ok (.imul, 1) := by decide +kernel
theorem d_Mod_step_758 : decode b_Mod_step 758 = .ok (.iload 5, 2) := by decide +kernel
theorem d_Mod_step_760 : decode b_Mod_step 760 = .ok (.iadd, 1) := by decide +kernel
theorem d_Mod_step_761 : decode b_Mod_step 761 = .ok (.i2l, 1) := by decide +kernel
theorem d_Mod_step_762 : decode b_Mod_step 762 = .ok (.lmul, 1) := by decide +kernel
theorem d_Mod_step_763 : decode b_Mod_step 763 = .ok (.ladd, 1) := by decide +kernel
theorem d_Mod_step_764 : decode b_Mod_step 764 = .ok (.lstore 6, 2) := by decide +kernel
theorem d_Mod_step_766 : decode b_Mod_step 766 = .ok (.aload_n 0, 1) := by decide +kernel
theorem d_Mod_step_767 : decode b_Mod_step 767 = .ok (.iload_n 3, 1) := by decide +kernel
theorem d_Mod_step_768 : decode b_Mod_step 768 = .ok (.invokevirtual 418, 3) := by decide +kernel
theorem d_Mod_step_771 : decode b_Mod_step 771 = .ok (.goto 73, 3) := by decide +kernel
theorem d_Mod_step_774 : decode b_Mod_step 774 = .ok (.iload_n 2, 1) := by decide +kernel
theorem d_Mod_step_775 : decode b_Mod_step 775 = .ok (.sipush 249, 3) := by decide +kernel
theorem d_Mod_step_778 : decode b_Mod_step 778 = .ok (.if_icmp .ne 18, 3) := by decide +kernel
theorem d_Mod_step_781 : decode b_Mod_step 781 = .ok (.iconst 5, 1) := by decide +kernel
theorem d_Mod_step_782 : decode b_Mod_step 782 = .ok (.istore 8, 2) := by decide +kernel
theorem d_Mod_step_784 : decode b_Mod_step 784 = .ok (.aload_n 0, 1) := by decide +kernel
theorem d_Mod_step_785 : decode b_Mod_step 785 = .ok (.getfield 46, 3) := by decide +kernel
theorem d_Mod_step_788 : decode b_Mod_step 788 = .ok (.bipush 24, 2) := by decide +kernel
theorem d_Mod_step_790 : decode b_Mod_step 790 = .ok (.laload, 1) := by decide +kernel
theorem d_Mod_step_791 : decode b_Mod_step 791 = .ok (.lstore 6, 2) := by decide +kernel
theorem d_Mod_step_793 : decode b_Mod_step 793 = .ok (.goto 51, 3) := by decide +kernel
theorem d_Mod_step_796 : decode b_Mod_step 796 = .ok (.iload_n 2, 1) := by decide +kernel
theorem d_Mod_step_797 : decode b_Mod_step 797 = .ok (.sipush 254, 3) := by decide +kernel
theorem d_Mod_step_800 : decode b_Mod_step 800 = .ok (.if_icmp .ne 17, 3) := by decide +kernel
theorem d_Mod_step_803 : decode b_Mod_step 803 = .ok (.aload_n 0, 1) := by decide +kernel
theorem d_Mod_step_804 : decode b_Mod_step 804 = .ok (.iload_n 3, 1) := by decide +kernel
theorem d_Mod_step_805 : decode b_Mod_step 805 = .ok (.aload_n 0, 1) := by decide +kernel
theorem d_Mod_step_806 : decode b_Mod_step 806 = .ok (.iload 5, 2) := by decide +kernel
theorem d_Mod_step_808 : decode b_Mod_step 808 = .ok (.invokevirtual 422, 3) := by decide +kernel
theorem d_Mod_step_811 : decode b_Mod_step 811 = .ok (.invokevirtual 393, 3) := by decide +kernel
theorem d_Mod_step_814 : decode b_Mod_step 814 = .ok (.goto 30, 3) := by decide +kernel
theorem d_Mod_step_817 : decode b_Mod_step 817 = .ok (.iload_n 2, 1) := by decide +kernel
theorem d_Mod_step_818 : decode b_Mod_step 818 = .ok (.sipush 255, 3) := by decide +kernel
theorem d_Mod_step_821 : decode b_Mod_step 821 = .ok (.if_icmp .ne 23, 3) := by decide +kernel
theorem d_Mod_step_824 : decode b_Mod_step 824 = .ok (.iconst 5, 1) := by decide +kernel
theorem d_Mod_step_825 : decode b_Mod_step 825 = .ok (.istore 8, 2) := by decide +kernel
theorem d_Mod_step_827 : decode b_Mod_step 827 = .ok (.aload_n 0, 1) := by decide +kernel
theorem d_Mod_step_828 : decode b_Mod_step 828 = .ok (.lconst 0, 1) := by decide +kernel
theorem d_Mod_step_829 : decode b_Mod_step 829 = .ok (.lload 6, 2) := by decide +kernel
theorem d_Mod_step_831 : decode b_Mod_step 831 = .ok (.lload 10, 2) := by decide +kernel
theorem d_Mod_step_833 : decode b_Mod_step 833 = .ok (.aload_n 0, 1) := by decide +kernel
theorem d_Mod_step_834 : decode b_Mod_step 834 = .ok (.iload 5, 2) := by decide +kernel
theorem d_Mod_step_836 : decode b_Mod_step 836 = .ok (.invokevirtual 385, 3) := by decide +kernel
theorem d_Mod_step_839 : decode b_Mod_step 839 = .ok (.invokevirtual 425, 3) := by decide +kernel
theorem d_Mod_step_842 : decode b_Mod_step 842 = .ok (.lstore 6, 2) := by decide +kernel
theorem d_Mod_step_844 : decode b_Mod_step 844 = .ok (.aload_n 0, 1) := by decide +kernel
theorem d_Mod_step_845 : decode b_Mod_step 845 = .ok (.dup, 1) := by decide +kernel
theorem d_Mod_step_846 : decode b_Mod_step 846 = .ok (.getfield 70, 3) := by decide +kernel
theorem d_Mod_step_849 : decode b_Mod_step 849 = .ok (.iload 8, 2) := by decide +kernel
theorem d_Mod_step_851 : decode b_Mod_step 851 = .ok (.iadd, 1) := by decide +kernel
theorem d_Mod_step_852 : decode b_Mod_step 852 = .ok (.putfield 70, 3) := by decide +kernel
theorem d_Mod_step_855 : decode b_Mod_step 855 = .ok (.aload_n 0, 1) := by decide +kernel
theorem d_Mod_step_856 : decode b_Mod_step 856 = .ok (.getfield 323, 3) := by decide +kernel
theorem d_Mod_step_859 : decode b_Mod_step 859 = .ok (.ifCond .le 73, 3) := by decide +kernel
theorem d_Mod_step_862 : decode b_Mod_step 862 = .ok (.aload_n 0, 1) := by decide +kernel
theorem d_Mod_step_863 : decode b_Mod_step 863 = .ok (.getfield 46, 3) := by decide +kernel
theorem d_Mod_step_866 : decode b_Mod_step 866 = .ok (.bipush 21, 2) := by decide +kernel
theorem d_Mod_step_868 : decode b_Mod_step 868 = .ok (.laload, 1) := by decide +kernel
theorem d_Mod_step_869 : decode b_Mod_step 869 = .ok (.ldc2_w 79, 3) := by decide +kernel
theorem d_Mod_step_872 : decode b_Mod_step 872 = .ok (.aload_n 0, 1) := by decide +kernel
theorem d_Mod_step_873 : decode b_Mod_step 873 = .ok (.getfield 323, 3) := by decide +kernel
theorem d_Mod_step_876 : decode b_Mod_step 876 = .ok (.i2l, 1) := by decide +kernel
theorem d_Mod_step_877 : decode b_Mod_step 877 = .ok (.lmul, 1) := by decide +kernel
theorem d_Mod_step_878 : decode b_Mod_step 878 = .ok (.land, 1) := by decide +kernel
theorem d_Mod_step_879 : decode b_Mod_step 879 = .ok (.lconst 0, 1) := by decide +kernel
theorem d_Mod_step_880 : decode b_Mod_step 880 = .ok (.lcmp, 1) := by decide +kernel
theorem d_Mod_step_881 : decode b_Mod_step 881 = .ok (.ifCond .eq 51, 3) := by decide +kernel
theorem d_Mod_step_884 : decode b_Mod_step 884 = .ok (.aload_n 0, 1) := by decide +kernel
theorem d_Mod_step_885 : decode b_Mod_step 885 = .ok (.dup, 1) := by decide +kernel
theorem d_Mod_step_886 : decode b_Mod_step 886 = .ok (.getfield 70, 3) := by decide +kernel
theorem d_Mod_step_889 : decode b_Mod_step 889 = .ok (.iconst 5, 1) := by decide +kernel
theorem d_Mod_step_890 : decode b_Mod_step 890 = .ok (.iadd, 1) := by decide +kernel
theorem d_Mod_step_891 : decode b_Mod_step 891 = .ok (.putfield 70, 3) := by decide +kernel
theorem d_Mod_step_894 : decode b_Mod_step 894 = .ok (.aload_n 0, 1) := by decide +kernel
theorem d_Mod_step_895 : decode b_Mod_step 895 = .ok (.aload_n 0, 1) := by decide +kernel
theorem d_Mod_step_896 : decode b_Mod_step 896 = .ok (.getfield 323, 3) := by decide +kernel
theorem d_Mod_step_899 : decode b_Mod_step 899 = .ok (.sipush 128, 3) := by decide +kernel
theorem d_Mod_step_902 : decode b_Mod_step 902 = .ok (.if_icmp .ne 9, 3) := by decide +kernel
theorem d_Mod_step_905 : decode b_Mod_step 905 = .ok (.ldc2_w 429, 3) := by decide +kernel
theorem d_Mod_step_908 : decode b_Mod_step 908 = .ok (.goto 6, 3) := by decide +kernel
theorem d_Mod_step_911 : decode b_Mod_step 911 = .ok (.ldc2_w 303, 3) := by decide +kernel
theorem d_Mod_step_914 : decode b_Mod_step 914 = .ok (.lload 6, 2) := by decide +kernel
theorem d_Mod_step_916 : decode b_Mod_step 916 = .ok (.aload_n 0, 1) := by decide +kernel
theorem d_Mod_step_917 : decode b_Mod_step 917 = .ok (.getfield 326, 3) := by decide +kernel
theorem d_Mod_step_920 : decode b_Mod_step 920 = .ok (.aload_n 0, 1) := by decide +kernel
theorem d_Mod_step_921 : decode b_Mod_step 921 = .ok (.getfield 329, 3) := by decide +kernel
theorem d_Mod_step_924 : decode b_Mod_step 924 = .ok (.invokevirtual 425, 3) := by decide +kernel
theorem d_Mod_step_927 : decode b_Mod_step 927 = .ok (.lstore 6, 2) := by decide +kernel
theorem d_Mod_step_929 : decode b_Mod_step 929 = .ok (.goto 25, 3) := by decide +kernel
theorem d_Mod_step_932 : decode b_Mod_step 932 = .ok (.aload_n 0, 1) := by decide +kernel
theorem d_Mod_step_933 : decode b_Mod_step 933 = .ok (.getfield 323, 3) := by decide +kernel
theorem d_Mod_step_936 : decode b_Mod_step 936 = .ok (.ifCond .le 18, 3) := by decide +kernel
theorem d_Mod_step_939 : decode b_Mod_step 939 = .ok (.aload_n 0, 1) := by decide +kernel
theorem d_Mod_step_940 : decode b_Mod_step 940 = .ok (.getfield 46, 3) := by decide +kernel
theorem d_Mod_step_943 : decode b_Mod_step 943 = .ok (.bipush 21, 2) := by decide +kernel
theorem d_Mod_step_945 : decode b_Mod_step 945 = .ok (.dup2, 1) := by decide +kernel
theorem d_Mod_step_946 : decode b_Mod_step 946 = .ok (.laload, 1) := by decide +kernel
theorem d_Mod_step_947 : decode b_Mod_step 947 = .ok (.aload_n 0, 1) := by decide +kernel
theorem d_Mod_step_948 : decode b_Mod_step 948 = .ok (.getfield 323, 3) := by decide +kernel
theorem d_Mod_step_951 : decode b_Mod_step 951 = .ok (.i2l, 1) := by decide +kernel
theorem d_Mod_step_952 : decode b_Mod_step 952 = .ok (.lor, 1) := by decide +kernel
theorem d_Mod_step_953 : decode b_Mod_step 953 = .ok (.lastore, 1) := by decide +kernel
theorem d_Mod_step_954 : decode b_Mod_step 954 = .ok (.aload_n 0, 1) := by decide +kernel
theorem d_Mod_step_955 : decode b_Mod_step 955 = .ok (.lload 6, 2) := by decide +kernel
theorem d_Mod_step_957 : decode b_Mod_step 957 = .ok (.putfield 81, 3) := by decide +kernel
theorem d_Mod_step_960 : decode b_Mod_step 960 = .ok (.iconst 0, 1) := by decide +kernel
theorem d_Mod_step_961 : decode b_Mod_step 961 = .ok (.ireturn, 1) := by decide +kernel
