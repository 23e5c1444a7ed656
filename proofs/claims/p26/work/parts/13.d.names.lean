theorem dL_stages_444 : decode cL_stages 444 = .ok (.aload_n 0, 1) := by decide +kernel
theorem dL_stages_445 : decode cL_stages 445 = .ok (.iconst 0, 1) := by decide +kernel
theorem dL_stages_446 : decode cL_stages 446 = .ok (.iconst 5, 1) := by decide +kernel
theorem dL_stages_447 : decode cL_stages 447 = .ok (.invokevirtual 13, 3) := by decide +kernel
theorem dL_stages_450 : decode cL_stages 450 = .ok (.iconst 4, 1) := by decide +kernel
theorem dL_stages_451 : decode cL_stages 451 = .ok (.if_icmp .ne 109, 3) := by decide +kernel
theorem dL_stages_454 : decode cL_stages 454 = .ok (.aload_n 0, 1) := by decide +kernel
theorem dL_stages_455 : decode cL_stages 455 = .ok (.iconst 0, 1) := by decide +kernel
theorem dL_stages_456 : decode cL_stages 456 = .ok (.bipush 8, 2) := by decide +kernel
theorem dL_stages_458 : decode cL_stages 458 = .ok (.invokevirtual 13, 3) := by decide +kernel
theorem dL_stages_461 : decode cL_stages 461 = .ok (.ifCond .ne 99, 3) := by decide +kernel
theorem dL_stages_464 : decode cL_stages 464 = .ok (.aload_n 0, 1) := by decide +kernel
theorem dL_stages_465 : decode cL_stages 465 = .ok (.invokevirtual 32, 3) := by decide +kernel
theorem dL_stages_468 : decode cL_stages 468 = .ok (.ifCond .ne 92, 3) := by decide +kernel
theorem dL_stages_471 : decode cL_stages 471 = .ok (.aload_n 0, 1) := by decide +kernel
theorem dL_stages_472 : decode cL_stages 472 = .ok (.iconst 1, 1) := by decide +kernel
theorem dL_stages_473 : decode cL_stages 473 = .ok (.invokevirtual 53, 3) := by decide +kernel
theorem dL_stages_476 : decode cL_stages 476 = .ok (.iconst 1, 1) := by decide +kernel
theorem dL_stages_477 : decode cL_stages 477 = .ok (.if_icmp .ne 83, 3) := by decide +kernel
theorem dL_stages_480 : decode cL_stages 480 = .ok (.aload_n 0, 1) := by decide +kernel
theorem dL_stages_481 : decode cL_stages 481 = .ok (.iconst 4, 1) := by decide +kernel
theorem dL_stages_482 : decode cL_stages 482 = .ok (.invokevirtual 19, 3) := by decide +kernel
theorem dL_stages_485 : decode cL_stages 485 = .ok (.iconst 2, 1) := by decide +kernel
theorem dL_stages_486 : decode cL_stages 486 = .ok (.if_icmp .ne 74, 3) := by decide +kernel
theorem dL_stages_489 : decode cL_stages 489 = .ok (.aload_n 0, 1) := by decide +kernel
theorem dL_stages_490 : decode cL_stages 490 = .ok (.iconst 5, 1) := by decide +kernel
theorem dL_stages_491 : decode cL_stages 491 = .ok (.invokevirtual 19, 3) := by decide +kernel
theorem dL_stages_494 : decode cL_stages 494 = .ok (.ifCond .ne 66, 3) := by decide +kernel
theorem dL_stages_497 : decode cL_stages 497 = .ok (.aload_n 0, 1) := by decide +kernel
theorem dL_stages_498 : decode cL_stages 498 = .ok (.iconst 1, 1) := by decide +kernel
theorem dL_stages_499 : decode cL_stages 499 = .ok (.invokevirtual 53, 3) := by decide +kernel
theorem dL_stages_502 : decode cL_stages 502 = .ok (.iconst 1, 1) := by decide +kernel
theorem dL_stages_503 : decode cL_stages 503 = .ok (.if_icmp .ne 57, 3) := by decide +kernel
theorem dL_stages_506 : decode cL_stages 506 = .ok (.aload_n 0, 1) := by decide +kernel
theorem dL_stages_507 : decode cL_stages 507 = .ok (.invokevirtual 36, 3) := by decide +kernel
theorem dL_stages_510 : decode cL_stages 510 = .ok (.iconst 1, 1) := by decide +kernel
theorem dL_stages_511 : decode cL_stages 511 = .ok (.if_icmp .ne 49, 3) := by decide +kernel
theorem dL_stages_514 : decode cL_stages 514 = .ok (.aload_n 0, 1) := by decide +kernel
theorem dL_stages_515 : decode cL_stages 515 = .ok (.iconst 1, 1) := by decide +kernel
theorem dL_stages_516 : decode cL_stages 516 = .ok (.invokevirtual 53, 3) := by decide +kernel
theorem dL_stages_519 : decode cL_stages 519 = .ok (.iconst 2, 1) := by decide +kernel
theorem dL_stages_520 : decode cL_stages 520 = .ok (.if_icmp .ne 40, 3) := by decide +kernel
theorem dL_stages_523 : decode cL_stages 523 = .ok (.aload_n 0, 1) := by decide +kernel
theorem dL_stages_524 : decode cL_stages 524 = .ok (.invokevirtual 36, 3) := by decide +kernel
theorem dL_stages_527 : decode cL_stages 527 = .ok (.ifCond .ne 33, 3) := by decide +kernel
theorem dL_stages_530 : decode cL_stages 530 = .ok (.aload_n 0, 1) := by decide +kernel
theorem dL_stages_531 : decode cL_stages 531 = .ok (.iconst 4, 1) := by decide +kernel
theorem dL_stages_532 : decode cL_stages 532 = .ok (.invokevirtual 19, 3) := by decide +kernel
theorem dL_stages_535 : decode cL_stages 535 = .ok (.bipush (-5), 2) := by decide +kernel
theorem dL_stages_537 : decode cL_stages 537 = .ok (.if_icmp .ne 23, 3) := by decide +kernel
theorem dL_stages_540 : decode cL_stages 540 = .ok (.aload_n 0, 1) := by decide +kernel
theorem dL_stages_541 : decode cL_stages 541 = .ok (.bipush 10, 2) := by decide +kernel
theorem dL_stages_543 : decode cL_stages 543 = .ok (.invokevirtual 19, 3) := by decide +kernel
theorem dL_stages_546 : decode cL_stages 546 = .ok (.iconst 1, 1) := by decide +kernel
theorem dL_stages_547 : decode cL_stages 547 = .ok (.if_icmp .ne 13, 3) := by decide +kernel
theorem dL_stages_550 : decode cL_stages 550 = .ok (.aload_n 0, 1) := by decide +kernel
theorem dL_stages_551 : decode cL_stages 551 = .ok (.iconst 0, 1) := by decide +kernel
theorem dL_stages_552 : decode cL_stages 552 = .ok (.invokevirtual 19, 3) := by decide +kernel
theorem dL_stages_555 : decode cL_stages 555 = .ok (.bipush 8, 2) := by decide +kernel
theorem dL_stages_557 : decode cL_stages 557 = .ok (.if_icmp .eq 5, 3) := by decide +kernel
theorem dL_stages_560 : decode cL_stages 560 = .ok (.iconst 0, 1) := by decide +kernel
theorem dL_stages_561 : decode cL_stages 561 = .ok (.ireturn, 1) := by decide +kernel
theorem dL_stages_562 : decode cL_stages 562 = .ok (.aload_n 0, 1) := by decide +kernel
theorem dL_stages_563 : decode cL_stages 563 = .ok (.iconst 0, 1) := by decide +kernel
theorem dL_stages_564 : decode cL_stages 564 = .ok (.iconst 0, 1) := by decide +kernel
theorem dL_stages_565 : decode cL_stages 565 = .ok (.invokevirtual 23, 3) := by decide +kernel
theorem dL_stages_568 : decode cL_stages 568 = .ok (.iconst 1, 1) := by decide +kernel
theorem dL_stages_569 : decode cL_stages 569 = .ok (.if_icmp .ne 118, 3) := by decide +kernel
theorem dL_stages_572 : decode cL_stages 572 = .ok (.aload_n 0, 1) := by decide +kernel
theorem dL_stages_573 : decode cL_stages 573 = .ok (.iconst 0, 1) := by decide +kernel
theorem dL_stages_574 : decode cL_stages 574 = .ok (.iconst 1, 1) := by decide +kernel
theorem dL_stages_575 : decode cL_stages 575 = .ok (.invokevirtual 23, 3) := by decide +kernel
theorem dL_stages_578 : decode cL_stages 578 = .ok (.bipush 7, 2) := by decide +kernel
theorem dL_stages_580 : decode cL_stages 580 = .ok (.if_icmp .ne 107, 3) := by decide +kernel
theorem dL_stages_583 : decode cL_stages 583 = .ok (.aload_n 0, 1) := by decide +kernel
theorem dL_stages_584 : decode cL_stages 584 = .ok (.iconst 0, 1) := by decide +kernel
theorem dL_stages_585 : decode cL_stages 585 = .ok (.iconst 2, 1) := by decide +kernel
theorem dL_stages_586 : decode cL_stages 586 = .ok (.invokevirtual 23, 3) := by decide +kernel
theorem dL_stages_589 : decode cL_stages 589 = .ok (.iconst 2, 1) := by decide +kernel
theorem dL_stages_590 : decode cL_stages 590 = .ok (.if_icmp .ne 97, 3) := by decide +kernel
theorem dL_stages_593 : decode cL_stages 593 = .ok (.aload_n 0, 1) := by decide +kernel
theorem dL_stages_594 : decode cL_stages 594 = .ok (.iconst 1, 1) := by decide +kernel
theorem dL_stages_595 : decode cL_stages 595 = .ok (.iconst 1, 1) := by decide +kernel
theorem dL_stages_596 : decode cL_stages 596 = .ok (.invokevirtual 23, 3) := by decide +kernel
theorem dL_stages_599 : decode cL_stages 599 = .ok (.iconst 5, 1) := by decide +kernel
theorem dL_stages_600 : decode cL_stages 600 = .ok (.if_icmp .ne 87, 3) := by decide +kernel
theorem dL_stages_603 : decode cL_stages 603 = .ok (.aload_n 0, 1) := by decide +kernel
theorem dL_stages_604 : decode cL_stages 604 = .ok (.iconst 1, 1) := by decide +kernel
theorem dL_stages_605 : decode cL_stages 605 = .ok (.iconst 2, 1) := by decide +kernel
theorem dL_stages_606 : decode cL_stages 606 = .ok (.invokevirtual 23, 3) := by decide +kernel
theorem dL_stages_609 : decode cL_stages 609 = .ok (.iconst 2, 1) := by decide +kernel
theorem dL_stages_610 : decode cL_stages 610 = .ok (.if_icmp .ne 77, 3) := by decide +kernel
theorem dL_stages_613 : decode cL_stages 613 = .ok (.aload_n 0, 1) := by decide +kernel
theorem dL_stages_614 : decode cL_stages 614 = .ok (.iconst 2, 1) := by decide +kernel
theorem dL_stages_615 : decode cL_stages 615 = .ok (.iconst 1, 1) := by decide +kernel
theorem dL_stages_616 : decode cL_stages 616 = .ok (.invokevirtual 23, 3) := by decide +kernel
theorem dL_stages_619 : decode cL_stages 619 = .ok (.iconst 3, 1) := by decide +kernel
theorem dL_stages_620 : decode cL_stages 620 = .ok (.if_icmp .ne 67, 3) := by decide +kernel
theorem dL_stages_623 : decode cL_stages 623 = .ok (.aload_n 0, 1) := by decide +kernel
theorem dL_stages_624 : decode cL_stages 624 = .ok (.iconst 2, 1) := by decide +kernel
theorem dL_stages_625 : decode cL_stages 625 = .ok (.iconst 2, 1) := by decide +kernel
theorem dL_stages_626 : decode cL_stages 626 = .ok (.invokevirtual 23, 3) := by decide +kernel
theorem dL_stages_629 : decode cL_stages 629 = .ok (.iconst 1, 1) := by decide +kernel
theorem dL_stages_630 : decode cL_stages 630 = .ok (.if_icmp .ne 57, 3) := by decide +kernel
theorem dL_stages_633 : decode cL_stages 633 = .ok (.aload_n 0, 1) := by decide +kernel
theorem dL_stages_634 : decode cL_stages 634 = .ok (.iconst 3, 1) := by decide +kernel
theorem dL_stages_635 : decode cL_stages 635 = .ok (.iconst 1, 1) := by decide +kernel
theorem dL_stages_636 : decode cL_stages 636 = .ok (.invokevirtual 23, 3) := by decide +kernel
theorem dL_stages_639 : decode cL_stages 639 = .ok (.ifCond .ne 48, 3) := by decide +kernel
theorem dL_stages_642 : decode cL_stages 642 = .ok (.aload_n 0, 1) := by decide +kernel
theorem dL_stages_643 : decode cL_stages 643 = .ok (.iconst 3, 1) := by decide +kernel
theorem dL_stages_644 : decode cL_stages 644 = .ok (.iconst 2, 1) := by decide +kernel
theorem dL_stages_645 : decode cL_stages 645 = .ok (.invokevirtual 23, 3) := by decide +kernel
theorem dL_stages_648 : decode cL_stages 648 = .ok (.ifCond .ne 39, 3) := by decide +kernel
theorem dL_stages_651 : decode cL_stages 651 = .ok (.aload_n 0, 1) := by decide +kernel
theorem dL_stages_652 : decode cL_stages 652 = .ok (.iconst 4, 1) := by decide +kernel
theorem dL_stages_653 : decode cL_stages 653 = .ok (.iconst 0, 1) := by decide +kernel
theorem dL_stages_654 : decode cL_stages 654 = .ok (.invokevirtual 23, 3) := by decide +kernel
theorem dL_stages_657 : decode cL_stages 657 = .ok (.bipush (-5), 2) := by decide +kernel
theorem dL_stages_659 : decode cL_stages 659 = .ok (.if_icmp .ne 28, 3) := by decide +kernel
theorem dL_stages_662 : decode cL_stages 662 = .ok (.aload_n 0, 1) := by decide +kernel
theorem dL_stages_663 : decode cL_stages 663 = .ok (.sipush 900, 3) := by decide +kernel
theorem dL_stages_666 : decode cL_stages 666 = .ok (.invokevirtual 47, 3) := by decide +kernel
theorem dL_stages_669 : decode cL_stages 669 = .ok (.bipush 100, 2) := by decide +kernel
theorem dL_stages_671 : decode cL_stages 671 = .ok (.if_icmp .ne 16, 3) := by decide +kernel
theorem dL_stages_674 : decode cL_stages 674 = .ok (.aload_n 0, 1) := by decide +kernel
theorem dL_stages_675 : decode cL_stages 675 = .ok (.iconst 0, 1) := by decide +kernel
theorem dL_stages_676 : decode cL_stages 676 = .ok (.bipush 7, 2) := by decide +kernel
theorem dL_stages_678 : decode cL_stages 678 = .ok (.invokevirtual 13, 3) := by decide +kernel
theorem dL_stages_681 : decode cL_stages 681 = .ok (.sipush 900, 3) := by decide +kernel
theorem dL_stages_684 : decode cL_stages 684 = .ok (.if_icmp .eq 5, 3) := by decide +kernel
theorem dL_stages_687 : decode cL_stages 687 = .ok (.iconst 0, 1) := by decide +kernel
theorem dL_stages_688 : decode cL_stages 688 = .ok (.ireturn, 1) := by decide +kernel
theorem dL_stages_689 : decode cL_stages 689 = .ok (.aload_n 0, 1) := by decide +kernel
theorem dL_stages_690 : decode cL_stages 690 = .ok (.invokevirtual 169, 3) := by decide +kernel
theorem dL_stages_693 : decode cL_stages 693 = .ok (.bipush 21, 2) := by decide +kernel
theorem dL_stages_695 : decode cL_stages 695 = .ok (.if_icmp .ne 122, 3) := by decide +kernel
theorem dL_stages_698 : decode cL_stages 698 = .ok (.aload_n 0, 1) := by decide +kernel
theorem dL_stages_699 : decode cL_stages 699 = .ok (.ldc2_w 172, 3) := by decide +kernel
theorem dL_stages_702 : decode cL_stages 702 = .ok (.invokestatic 86, 3) := by decide +kernel
theorem dL_stages_705 : decode cL_stages 705 = .ok (.ifCond .eq 112, 3) := by decide +kernel
theorem dL_stages_708 : decode cL_stages 708 = .ok (.aload_n 0, 1) := by decide +kernel
theorem dL_stages_709 : decode cL_stages 709 = .ok (.ldc2_w 174, 3) := by decide +kernel
theorem dL_stages_712 : decode cL_stages 712 = .ok (.invokestatic 86, 3) := by decide +kernel
theorem dL_stages_715 : decode cL_stages 715 = .ok (.ifCond .eq 102, 3) := by decide +kernel
theorem dL_stages_718 : decode cL_stages 718 = .ok (.aload_n 0, 1) := by decide +kernel
theorem dL_stages_719 : decode cL_stages 719 = .ok (.invokevirtual 90, 3) := by decide +kernel
theorem dL_stages_722 : decode cL_stages 722 = .ok (.iconst 1, 1) := by decide +kernel
theorem dL_stages_723 : decode cL_stages 723 = .ok (.if_icmp .ne 94, 3) := by decide +kernel
theorem dL_stages_726 : decode cL_stages 726 = .ok (.aload_n 0, 1) := by decide +kernel
theorem dL_stages_727 : decode cL_stages 727 = .ok (.iconst 3, 1) := by decide +kernel
theorem dL_stages_728 : decode cL_stages 728 = .ok (.invokevirtual 19, 3) := by decide +kernel
theorem dL_stages_731 : decode cL_stages 731 = .ok (.iconst 2, 1) := by decide +kernel
theorem dL_stages_732 : decode cL_stages 732 = .ok (.if_icmp .ne 85, 3) := by decide +kernel
theorem dL_stages_735 : decode cL_stages 735 = .ok (.aload_n 0, 1) := by decide +kernel
theorem dL_stages_736 : decode cL_stages 736 = .ok (.invokevirtual 65, 3) := by decide +kernel
theorem dL_stages_739 : decode cL_stages 739 = .ok (.iconst 2, 1) := by decide +kernel
theorem dL_stages_740 : decode cL_stages 740 = .ok (.if_icmp .ne 77, 3) := by decide +kernel
theorem dL_stages_743 : decode cL_stages 743 = .ok (.aload_n 0, 1) := by decide +kernel
theorem dL_stages_744 : decode cL_stages 744 = .ok (.iconst 2, 1) := by decide +kernel
theorem dL_stages_745 : decode cL_stages 745 = .ok (.invokevirtual 53, 3) := by decide +kernel
theorem dL_stages_748 : decode cL_stages 748 = .ok (.iconst 1, 1) := by decide +kernel
theorem dL_stages_749 : decode cL_stages 749 = .ok (.if_icmp .ne 68, 3) := by decide +kernel
theorem dL_stages_752 : decode cL_stages 752 = .ok (.aload_n 0, 1) := by decide +kernel
theorem dL_stages_753 : decode cL_stages 753 = .ok (.iconst 1, 1) := by decide +kernel
theorem dL_stages_754 : decode cL_stages 754 = .ok (.invokevirtual 53, 3) := by decide +kernel
theorem dL_stages_757 : decode cL_stages 757 = .ok (.iconst 3, 1) := by decide +kernel
theorem dL_stages_758 : decode cL_stages 758 = .ok (.if_icmp .ne 59, 3) := by decide +kernel
theorem dL_stages_761 : decode cL_stages 761 = .ok (.aload_n 0, 1) := by decide +kernel
theorem dL_stages_762 : decode cL_stages 762 = .ok (.bipush 11, 2) := by decide +kernel
theorem dL_stages_764 : decode cL_stages 764 = .ok (.invokevirtual 19, 3) := by decide +kernel
theorem dL_stages_767 : decode cL_stages 767 = .ok (.iconst 1, 1) := by decide +kernel
theorem dL_stages_768 : decode cL_stages 768 = .ok (.if_icmp .ne 49, 3) := by decide +kernel
theorem dL_stages_771 : decode cL_stages 771 = .ok (.aload_n 0, 1) := by decide +kernel
theorem dL_stages_772 : decode cL_stages 772 = .ok (.iconst 0, 1) := by decide +kernel
theorem dL_stages_773 : decode cL_stages 773 = .ok (.iconst 0, 1) := by decide +kernel
theorem dL_stages_774 : decode cL_stages 774 = .ok (.invokevirtual 23, 3) := by decide +kernel
theorem dL_stages_777 : decode cL_stages 777 = .ok (.iconst 2, 1) := by decide +kernel
theorem dL_stages_778 : decode cL_stages 778 = .ok (.if_icmp .ne 39, 3) := by decide +kernel
theorem dL_stages_781 : decode cL_stages 781 = .ok (.aload_n 0, 1) := by decide +kernel
theorem dL_stages_782 : decode cL_stages 782 = .ok (.iconst 0, 1) := by decide +kernel
theorem dL_stages_783 : decode cL_stages 783 = .ok (.iconst 1, 1) := by decide +kernel
theorem dL_stages_784 : decode cL_stages 784 = .ok (.invokevirtual 23, 3) := by decide +kernel
theorem dL_stages_787 : decode cL_stages 787 = .ok (.bipush 10, 2) := by decide +kernel
theorem dL_stages_789 : decode cL_stages 789 = .ok (.if_icmp .ne 28, 3) := by decide +kernel
theorem dL_stages_792 : decode cL_stages 792 = .ok (.aload_n 0, 1) := by decide +kernel
theorem dL_stages_793 : decode cL_stages 793 = .ok (.invokevirtual 36, 3) := by decide +kernel
theorem dL_stages_796 : decode cL_stages 796 = .ok (.bipush (-5), 2) := by decide +kernel
theorem dL_stages_798 : decode cL_stages 798 = .ok (.if_icmp .ne 19, 3) := by decide +kernel
theorem dL_stages_801 : decode cL_stages 801 = .ok (.aload_n 0, 1) := by decide +kernel
theorem dL_stages_802 : decode cL_stages 802 = .ok (.iconst 5, 1) := by decide +kernel
theorem dL_stages_803 : decode cL_stages 803 = .ok (.invokevirtual 19, 3) := by decide +kernel
theorem dL_stages_806 : decode cL_stages 806 = .ok (.ifCond .ne 11, 3) := by decide +kernel
theorem dL_stages_809 : decode cL_stages 809 = .ok (.aload_n 0, 1) := by decide +kernel
theorem dL_stages_810 : decode cL_stages 810 = .ok (.invokevirtual 65, 3) := by decide +kernel
theorem dL_stages_813 : decode cL_stages 813 = .ok (.iconst 3, 1) := by decide +kernel
theorem dL_stages_814 : decode cL_stages 814 = .ok (.if_icmp .eq 5, 3) := by decide +kernel
theorem dL_stages_817 : decode cL_stages 817 = .ok (.iconst 0, 1) := by decide +kernel
theorem dL_stages_818 : decode cL_stages 818 = .ok (.ireturn, 1) := by decide +kernel
theorem dL_stages_819 : decode cL_stages 819 = .ok (.aload_n 0, 1) := by decide +kernel
theorem dL_stages_820 : decode cL_stages 820 = .ok (.iconst 3, 1) := by decide +kernel
theorem dL_stages_821 : decode cL_stages 821 = .ok (.bipush 35, 2) := by decide +kernel
theorem dL_stages_823 : decode cL_stages 823 = .ok (.invokevirtual 50, 3) := by decide +kernel
theorem dL_stages_826 : decode cL_stages 826 = .ok (.sipush 1025, 3) := by decide +kernel
theorem dL_stages_829 : decode cL_stages 829 = .ok (.if_icmp .ne 202, 3) := by decide +kernel
theorem dL_stages_832 : decode cL_stages 832 = .ok (.aload_n 0, 1) := by decide +kernel
theorem dL_stages_833 : decode cL_stages 833 = .ok (.iconst 0, 1) := by decide +kernel
theorem dL_stages_834 : decode cL_stages 834 = .ok (.iconst 4, 1) := by decide +kernel
theorem dL_stages_835 : decode cL_stages 835 = .ok (.invokevirtual 26, 3) := by decide +kernel
theorem dL_stages_838 : decode cL_stages 838 = .ok (.sipush 4470, 3) := by decide +kernel
theorem dL_stages_841 : decode cL_stages 841 = .ok (.if_icmp .ne 190, 3) := by decide +kernel
theorem dL_stages_844 : decode cL_stages 844 = .ok (.aload_n 0, 1) := by decide +kernel
theorem dL_stages_845 : decode cL_stages 845 = .ok (.iconst 3, 1) := by decide +kernel
theorem dL_stages_846 : decode cL_stages 846 = .ok (.bipush 60, 2) := by decide +kernel
theorem dL_stages_848 : decode cL_stages 848 = .ok (.invokevirtual 50, 3) := by decide +kernel
theorem dL_stages_851 : decode cL_stages 851 = .ok (.sipush 1035, 3) := by decide +kernel
theorem dL_stages_854 : decode cL_stages 854 = .ok (.if_icmp .ne 177, 3) := by decide +kernel
theorem dL_stages_857 : decode cL_stages 857 = .ok (.aload_n 0, 1) := by decide +kernel
theorem dL_stages_858 : decode cL_stages 858 = .ok (.bipush 9, 2) := by decide +kernel
theorem dL_stages_860 : decode cL_stages 860 = .ok (.invokevirtual 19, 3) := by decide +kernel
theorem dL_stages_863 : decode cL_stages 863 = .ok (.iconst 1, 1) := by decide +kernel
theorem dL_stages_864 : decode cL_stages 864 = .ok (.if_icmp .ne 167, 3) := by decide +kernel
theorem dL_stages_867 : decode cL_stages 867 = .ok (.aload_n 0, 1) := by decide +kernel
theorem dL_stages_868 : decode cL_stages 868 = .ok (.invokevirtual 32, 3) := by decide +kernel
theorem dL_stages_871 : decode cL_stages 871 = .ok (.ifCond .ne 160, 3) := by decide +kernel
theorem dL_stages_874 : decode cL_stages 874 = .ok (.aload_n 0, 1) := by decide +kernel
theorem dL_stages_875 : decode cL_stages 875 = .ok (.invokevirtual 36, 3) := by decide +kernel
theorem dL_stages_878 : decode cL_stages 878 = .ok (.bipush (-5), 2) := by decide +kernel
theorem dL_stages_880 : decode cL_stages 880 = .ok (.if_icmp .ne 151, 3) := by decide +kernel
theorem dL_stages_883 : decode cL_stages 883 = .ok (.aload_n 0, 1) := by decide +kernel
theorem dL_stages_884 : decode cL_stages 884 = .ok (.iconst 2, 1) := by decide +kernel
theorem dL_stages_885 : decode cL_stages 885 = .ok (.invokevirtual 53, 3) := by decide +kernel
theorem dL_stages_888 : decode cL_stages 888 = .ok (.iconst 1, 1) := by decide +kernel
theorem dL_stages_889 : decode cL_stages 889 = .ok (.if_icmp .ne 142, 3) := by decide +kernel
theorem dL_stages_892 : decode cL_stages 892 = .ok (.aload_n 0, 1) := by decide +kernel
theorem dL_stages_893 : decode cL_stages 893 = .ok (.bipush 6, 2) := by decide +kernel
theorem dL_stages_895 : decode cL_stages 895 = .ok (.invokevirtual 19, 3) := by decide +kernel
theorem dL_stages_898 : decode cL_stages 898 = .ok (.iconst 2, 1) := by decide +kernel
theorem dL_stages_899 : decode cL_stages 899 = .ok (.if_icmp .ne 132, 3) := by decide +kernel
theorem dL_stages_902 : decode cL_stages 902 = .ok (.aload_n 0, 1) := by decide +kernel
theorem dL_stages_903 : decode cL_stages 903 = .ok (.iconst 0, 1) := by decide +kernel
theorem dL_stages_904 : decode cL_stages 904 = .ok (.iconst 0, 1) := by decide +kernel
theorem dL_stages_905 : decode cL_stages 905 = .ok (.invokevirtual 23, 3) := by decide +kernel
theorem dL_stages_908 : decode cL_stages 908 = .ok (.iconst 3, 1) := by decide +kernel
theorem dL_stages_909 : decode cL_stages 909 = .ok (.if_icmp .ne 122, 3) := by decide +kernel
theorem dL_stages_912 : decode cL_stages 912 = .ok (.aload_n 0, 1) := by decide +kernel
theorem dL_stages_913 : decode cL_stages 913 = .ok (.iconst 0, 1) := by decide +kernel
theorem dL_stages_914 : decode cL_stages 914 = .ok (.iconst 1, 1) := by decide +kernel
theorem dL_stages_915 : decode cL_stages 915 = .ok (.invokevirtual 23, 3) := by decide +kernel
theorem dL_stages_918 : decode cL_stages 918 = .ok (.bipush 11, 2) := by decide +kernel
theorem dL_stages_920 : decode cL_stages 920 = .ok (.if_icmp .ne 111, 3) := by decide +kernel
theorem dL_stages_923 : decode cL_stages 923 = .ok (.aload_n 0, 1) := by decide +kernel
theorem dL_stages_924 : decode cL_stages 924 = .ok (.iconst 1, 1) := by decide +kernel
theorem dL_stages_925 : decode cL_stages 925 = .ok (.iconst 0, 1) := by decide +kernel
theorem dL_stages_926 : decode cL_stages 926 = .ok (.invokevirtual 23, 3) := by decide +kernel
theorem dL_stages_929 : decode cL_stages 929 = .ok (.ifCond .ne 102, 3) := by decide +kernel
theorem dL_stages_932 : decode cL_stages 932 = .ok (.aload_n 0, 1) := by decide +kernel
theorem dL_stages_933 : decode cL_stages 933 = .ok (.iconst 5, 1) := by decide +kernel
theorem dL_stages_934 : decode cL_stages 934 = .ok (.invokevirtual 19, 3) := by decide +kernel
theorem dL_stages_937 : decode cL_stages 937 = .ok (.ifCond .ne 94, 3) := by decide +kernel
theorem dL_stages_940 : decode cL_stages 940 = .ok (.aload_n 0, 1) := by decide +kernel
theorem dL_stages_941 : decode cL_stages 941 = .ok (.iconst 3, 1) := by decide +kernel
theorem dL_stages_942 : decode cL_stages 942 = .ok (.bipush 20, 2) := by decide +kernel
theorem dL_stages_944 : decode cL_stages 944 = .ok (.invokevirtual 50, 3) := by decide +kernel
theorem dL_stages_947 : decode cL_stages 947 = .ok (.sipush 1060, 3) := by decide +kernel
theorem dL_stages_950 : decode cL_stages 950 = .ok (.if_icmp .ne 81, 3) := by decide +kernel
theorem dL_stages_953 : decode cL_stages 953 = .ok (.aload_n 0, 1) := by decide +kernel
theorem dL_stages_954 : decode cL_stages 954 = .ok (.iconst 1, 1) := by decide +kernel
theorem dL_stages_955 : decode cL_stages 955 = .ok (.invokevirtual 53, 3) := by decide +kernel
theorem dL_stages_958 : decode cL_stages 958 = .ok (.iconst 1, 1) := by decide +kernel
theorem dL_stages_959 : decode cL_stages 959 = .ok (.if_icmp .ne 72, 3) := by decide +kernel
theorem dL_stages_962 : decode cL_stages 962 = .ok (.aload_n 0, 1) := by decide +kernel
theorem dL_stages_963 : decode cL_stages 963 = .ok (.iconst 5, 1) := by decide +kernel
theorem dL_stages_964 : decode cL_stages 964 = .ok (.invokevirtual 19, 3) := by decide +kernel
theorem dL_stages_967 : decode cL_stages 967 = .ok (.iconst 1, 1) := by decide +kernel
theorem dL_stages_968 : decode cL_stages 968 = .ok (.if_icmp .ne 63, 3) := by decide +kernel
theorem dL_stages_971 : decode cL_stages 971 = .ok (.aload_n 0, 1) := by decide +kernel
theorem dL_stages_972 : decode cL_stages 972 = .ok (.iconst 3, 1) := by decide +kernel
theorem dL_stages_973 : decode cL_stages 973 = .ok (.bipush (-20), 2) := by decide +kernel
theorem dL_stages_975 : decode cL_stages 975 = .ok (.invokevirtual 50, 3) := by decide +kernel
theorem dL_stages_978 : decode cL_stages 978 = .ok (.sipush 1020, 3) := by decide +kernel
theorem dL_stages_981 : decode cL_stages 981 = .ok (.if_icmp .ne 50, 3) := by decide +kernel
theorem dL_stages_984 : decode cL_stages 984 = .ok (.aload_n 0, 1) := by decide +kernel
theorem dL_stages_985 : decode cL_stages 985 = .ok (.iconst 1, 1) := by decide +kernel
theorem dL_stages_986 : decode cL_stages 986 = .ok (.invokevirtual 53, 3) := by decide +kernel
theorem dL_stages_989 : decode cL_stages 989 = .ok (.iconst 1, 1) := by decide +kernel
theorem dL_stages_990 : decode cL_stages 990 = .ok (.if_icmp .ne 41, 3) := by decide +kernel
theorem dL_stages_993 : decode cL_stages 993 = .ok (.aload_n 0, 1) := by decide +kernel
theorem dL_stages_994 : decode cL_stages 994 = .ok (.iconst 0, 1) := by decide +kernel
theorem dL_stages_995 : decode cL_stages 995 = .ok (.iconst 0, 1) := by decide +kernel
theorem dL_stages_996 : decode cL_stages 996 = .ok (.invokevirtual 23, 3) := by decide +kernel
theorem dL_stages_999 : decode cL_stages 999 = .ok (.iconst 3, 1) := by decide +kernel
theorem dL_stages_1000 : decode cL_stages 1000 = .ok (.if_icmp .ne 31, 3) := by decide +kernel
theorem dL_stages_1003 : decode cL_stages 1003 = .ok (.aload_n 0, 1) := by decide +kernel
theorem dL_stages_1004 : decode cL_stages 1004 = .ok (.iconst 0, 1) := by decide +kernel
theorem dL_stages_1005 : decode cL_stages 1005 = .ok (.iconst 1, 1) := by decide +kernel
theorem dL_stages_1006 : decode cL_stages 1006 = .ok (.invokevirtual 23, 3) := by decide +kernel
theorem dL_stages_1009 : decode cL_stages 1009 = .ok (.bipush 14, 2) := by decide +kernel
theorem dL_stages_1011 : decode cL_stages 1011 = .ok (.if_icmp .ne 20, 3) := by decide +kernel
theorem dL_stages_1014 : decode cL_stages 1014 = .ok (.aload_n 0, 1) := by decide +kernel
