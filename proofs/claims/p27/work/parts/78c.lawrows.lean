theorem dL_law_451 : decode cL_law 451 = .ok (.iconst 4, 1) := by decide +kernel
theorem dL_law_452 : decode cL_law 452 = .ok (.invokevirtual 9, 3) := by decide +kernel
theorem dL_law_455 : decode cL_law 455 = .ok (.if_icmp .ne 7, 3) := by decide +kernel
theorem dL_law_458 : decode cL_law 458 = .ok (.iconst 1, 1) := by decide +kernel
theorem dL_law_459 : decode cL_law 459 = .ok (.goto 4, 3) := by decide +kernel
theorem dL_law_462 : decode cL_law 462 = .ok (.iconst 0, 1) := by decide +kernel
theorem dL_law_463 : decode cL_law 463 = .ok (.istore 10, 2) := by decide +kernel
theorem dL_law_465 : decode cL_law 465 = .ok (.goto 433, 3) := by decide +kernel
theorem dL_law_468 : decode cL_law 468 = .ok (.iload 5, 2) := by decide +kernel
theorem dL_law_470 : decode cL_law 470 = .ok (.iconst 5, 1) := by decide +kernel
theorem dL_law_471 : decode cL_law 471 = .ok (.if_icmp .ne 146, 3) := by decide +kernel
theorem dL_law_474 : decode cL_law 474 = .ok (.iload 6, 2) := by decide +kernel
theorem dL_law_476 : decode cL_law 476 = .ok (.ifCond .le 141, 3) := by decide +kernel
theorem dL_law_479 : decode cL_law 479 = .ok (.iload 8, 2) := by decide +kernel
theorem dL_law_481 : decode cL_law 481 = .ok (.iload 4, 2) := by decide +kernel
theorem dL_law_483 : decode cL_law 483 = .ok (.iconst 3, 1) := by decide +kernel
theorem dL_law_484 : decode cL_law 484 = .ok (.ishr, 1) := by decide +kernel
theorem dL_law_485 : decode cL_law 485 = .ok (.iload 6, 2) := by decide +kernel
theorem dL_law_487 : decode cL_law 487 = .ok (.iload 8, 2) := by decide +kernel
theorem dL_law_489 : decode cL_law 489 = .ok (.isub, 1) := by decide +kernel
theorem dL_law_490 : decode cL_law 490 = .ok (.iconst 5, 1) := by decide +kernel
theorem dL_law_491 : decode cL_law 491 = .ok (.if_icmp .le 7, 3) := by decide +kernel
theorem dL_law_494 : decode cL_law 494 = .ok (.iconst 5, 1) := by decide +kernel
theorem dL_law_495 : decode cL_law 495 = .ok (.goto 8, 3) := by decide +kernel
theorem dL_law_498 : decode cL_law 498 = .ok (.iload 6, 2) := by decide +kernel
theorem dL_law_500 : decode cL_law 500 = .ok (.iload 8, 2) := by decide +kernel
theorem dL_law_502 : decode cL_law 502 = .ok (.isub, 1) := by decide +kernel
theorem dL_law_503 : decode cL_law 503 = .ok (.invokestatic 67, 3) := by decide +kernel
theorem dL_law_506 : decode cL_law 506 = .ok (.iadd, 1) := by decide +kernel
theorem dL_law_507 : decode cL_law 507 = .ok (.istore 11, 2) := by decide +kernel
theorem dL_law_509 : decode cL_law 509 = .ok (.iconst 0, 1) := by decide +kernel
theorem dL_law_510 : decode cL_law 510 = .ok (.istore 12, 2) := by decide +kernel
theorem dL_law_512 : decode cL_law 512 = .ok (.iload 8, 2) := by decide +kernel
theorem dL_law_514 : decode cL_law 514 = .ok (.istore 13, 2) := by decide +kernel
theorem dL_law_516 : decode cL_law 516 = .ok (.iload 13, 2) := by decide +kernel
theorem dL_law_518 : decode cL_law 518 = .ok (.iload 11, 2) := by decide +kernel
theorem dL_law_520 : decode cL_law 520 = .ok (.if_icmp .gt 31, 3) := by decide +kernel
theorem dL_law_523 : decode cL_law 523 = .ok (.iload 12, 2) := by decide +kernel
theorem dL_law_525 : decode cL_law 525 = .ok (.ifCond .ne 13, 3) := by decide +kernel
theorem dL_law_528 : decode cL_law 528 = .ok (.aload_n 1, 1) := by decide +kernel
theorem dL_law_529 : decode cL_law 529 = .ok (.iload 13, 2) := by decide +kernel
theorem dL_law_531 : decode cL_law 531 = .ok (.iconst 4, 1) := by decide +kernel
theorem dL_law_532 : decode cL_law 532 = .ok (.invokevirtual 19, 3) := by decide +kernel
theorem dL_law_535 : decode cL_law 535 = .ok (.ifCond .lt 7, 3) := by decide +kernel
theorem dL_law_538 : decode cL_law 538 = .ok (.iconst 1, 1) := by decide +kernel
theorem dL_law_539 : decode cL_law 539 = .ok (.goto 4, 3) := by decide +kernel
theorem dL_law_542 : decode cL_law 542 = .ok (.iconst 0, 1) := by decide +kernel
theorem dL_law_543 : decode cL_law 543 = .ok (.istore 12, 2) := by decide +kernel
theorem dL_law_545 : decode cL_law 545 = .ok (.iinc 13 1, 3) := by decide +kernel
theorem dL_law_548 : decode cL_law 548 = .ok (.goto (-32), 3) := by decide +kernel
theorem dL_law_551 : decode cL_law 551 = .ok (.aload_n 1, 1) := by decide +kernel
theorem dL_law_552 : decode cL_law 552 = .ok (.iload 9, 2) := by decide +kernel
theorem dL_law_554 : decode cL_law 554 = .ok (.iload 8, 2) := by decide +kernel
theorem dL_law_556 : decode cL_law 556 = .ok (.iload 11, 2) := by decide +kernel
theorem dL_law_558 : decode cL_law 558 = .ok (.invokevirtual 84, 3) := by decide +kernel
theorem dL_law_561 : decode cL_law 561 = .ok (.istore 13, 2) := by decide +kernel
theorem dL_law_563 : decode cL_law 563 = .ok (.iload 13, 2) := by decide +kernel
theorem dL_law_565 : decode cL_law 565 = .ok (.iload 12, 2) := by decide +kernel
theorem dL_law_567 : decode cL_law 567 = .ok (.ifCond .eq 8, 3) := by decide +kernel
theorem dL_law_570 : decode cL_law 570 = .ok (.bipush (-4), 2) := by decide +kernel
theorem dL_law_572 : decode cL_law 572 = .ok (.goto 32, 3) := by decide +kernel
theorem dL_law_575 : decode cL_law 575 = .ok (.aload_n 1, 1) := by decide +kernel
theorem dL_law_576 : decode cL_law 576 = .ok (.iconst 5, 1) := by decide +kernel
theorem dL_law_577 : decode cL_law 577 = .ok (.invokevirtual 9, 3) := by decide +kernel
theorem dL_law_580 : decode cL_law 580 = .ok (.bipush 8, 2) := by decide +kernel
theorem dL_law_582 : decode cL_law 582 = .ok (.if_icmp .ne 15, 3) := by decide +kernel
theorem dL_law_585 : decode cL_law 585 = .ok (.iload 13, 2) := by decide +kernel
theorem dL_law_587 : decode cL_law 587 = .ok (.bipush (-3), 2) := by decide +kernel
theorem dL_law_589 : decode cL_law 589 = .ok (.if_icmp .ne 8, 3) := by decide +kernel
theorem dL_law_592 : decode cL_law 592 = .ok (.bipush (-3), 2) := by decide +kernel
theorem dL_law_594 : decode cL_law 594 = .ok (.goto 10, 3) := by decide +kernel
theorem dL_law_597 : decode cL_law 597 = .ok (.aload_n 1, 1) := by decide +kernel
theorem dL_law_598 : decode cL_law 598 = .ok (.iload 8, 2) := by decide +kernel
theorem dL_law_600 : decode cL_law 600 = .ok (.iconst 4, 1) := by decide +kernel
theorem dL_law_601 : decode cL_law 601 = .ok (.invokevirtual 19, 3) := by decide +kernel
theorem dL_law_604 : decode cL_law 604 = .ok (.if_icmp .ne 7, 3) := by decide +kernel
theorem dL_law_607 : decode cL_law 607 = .ok (.iconst 1, 1) := by decide +kernel
theorem dL_law_608 : decode cL_law 608 = .ok (.goto 4, 3) := by decide +kernel
theorem dL_law_611 : decode cL_law 611 = .ok (.iconst 0, 1) := by decide +kernel
theorem dL_law_612 : decode cL_law 612 = .ok (.istore 10, 2) := by decide +kernel
theorem dL_law_614 : decode cL_law 614 = .ok (.goto 284, 3) := by decide +kernel
theorem dL_law_617 : decode cL_law 617 = .ok (.iload 5, 2) := by decide +kernel
theorem dL_law_619 : decode cL_law 619 = .ok (.bipush 6, 2) := by decide +kernel
theorem dL_law_621 : decode cL_law 621 = .ok (.if_icmp .ne 43, 3) := by decide +kernel
theorem dL_law_624 : decode cL_law 624 = .ok (.aload_n 1, 1) := by decide +kernel
theorem dL_law_625 : decode cL_law 625 = .ok (.iconst 5, 1) := by decide +kernel
theorem dL_law_626 : decode cL_law 626 = .ok (.invokevirtual 9, 3) := by decide +kernel
theorem dL_law_629 : decode cL_law 629 = .ok (.istore 11, 2) := by decide +kernel
theorem dL_law_631 : decode cL_law 631 = .ok (.iload 11, 2) := by decide +kernel
theorem dL_law_633 : decode cL_law 633 = .ok (.ifCond .eq 21, 3) := by decide +kernel
theorem dL_law_636 : decode cL_law 636 = .ok (.aload_n 1, 1) := by decide +kernel
theorem dL_law_637 : decode cL_law 637 = .ok (.iload 4, 2) := by decide +kernel
theorem dL_law_639 : decode cL_law 639 = .ok (.iload 11, 2) := by decide +kernel
theorem dL_law_641 : decode cL_law 641 = .ok (.invokestatic 67, 3) := by decide +kernel
theorem dL_law_644 : decode cL_law 644 = .ok (.invokevirtual 87, 3) := by decide +kernel
theorem dL_law_647 : decode cL_law 647 = .ok (.iload 11, 2) := by decide +kernel
theorem dL_law_649 : decode cL_law 649 = .ok (.iconst 1, 1) := by decide +kernel
theorem dL_law_650 : decode cL_law 650 = .ok (.isub, 1) := by decide +kernel
theorem dL_law_651 : decode cL_law 651 = .ok (.if_icmp .ne 7, 3) := by decide +kernel
theorem dL_law_654 : decode cL_law 654 = .ok (.iconst 1, 1) := by decide +kernel
theorem dL_law_655 : decode cL_law 655 = .ok (.goto 4, 3) := by decide +kernel
theorem dL_law_658 : decode cL_law 658 = .ok (.iconst 0, 1) := by decide +kernel
theorem dL_law_659 : decode cL_law 659 = .ok (.istore 10, 2) := by decide +kernel
theorem dL_law_661 : decode cL_law 661 = .ok (.goto 237, 3) := by decide +kernel
theorem dL_law_664 : decode cL_law 664 = .ok (.iload 5, 2) := by decide +kernel
theorem dL_law_666 : decode cL_law 666 = .ok (.bipush 10, 2) := by decide +kernel
theorem dL_law_668 : decode cL_law 668 = .ok (.if_icmp .ge 131, 3) := by decide +kernel
theorem dL_law_671 : decode cL_law 671 = .ok (.iload 6, 2) := by decide +kernel
theorem dL_law_673 : decode cL_law 673 = .ok (.ifCond .le 126, 3) := by decide +kernel
theorem dL_law_676 : decode cL_law 676 = .ok (.aload_n 1, 1) := by decide +kernel
theorem dL_law_677 : decode cL_law 677 = .ok (.iload 9, 2) := by decide +kernel
theorem dL_law_679 : decode cL_law 679 = .ok (.iconst 3, 1) := by decide +kernel
theorem dL_law_680 : decode cL_law 680 = .ok (.invokevirtual 15, 3) := by decide +kernel
theorem dL_law_683 : decode cL_law 683 = .ok (.istore 11, 2) := by decide +kernel
theorem dL_law_685 : decode cL_law 685 = .ok (.aload_n 1, 1) := by decide +kernel
theorem dL_law_686 : decode cL_law 686 = .ok (.iload 9, 2) := by decide +kernel
theorem dL_law_688 : decode cL_law 688 = .ok (.iload 8, 2) := by decide +kernel
theorem dL_law_690 : decode cL_law 690 = .ok (.invokevirtual 25, 3) := by decide +kernel
theorem dL_law_693 : decode cL_law 693 = .ok (.istore 12, 2) := by decide +kernel
theorem dL_law_695 : decode cL_law 695 = .ok (.iload 4, 2) := by decide +kernel
theorem dL_law_697 : decode cL_law 697 = .ok (.bipush 32, 2) := by decide +kernel
theorem dL_law_699 : decode cL_law 699 = .ok (.iand, 1) := by decide +kernel
theorem dL_law_700 : decode cL_law 700 = .ok (.ifCond .le 7, 3) := by decide +kernel
theorem dL_law_703 : decode cL_law 703 = .ok (.iconst 1, 1) := by decide +kernel
theorem dL_law_704 : decode cL_law 704 = .ok (.goto 4, 3) := by decide +kernel
theorem dL_law_707 : decode cL_law 707 = .ok (.iconst 0, 1) := by decide +kernel
theorem dL_law_708 : decode cL_law 708 = .ok (.istore 13, 2) := by decide +kernel
theorem dL_law_710 : decode cL_law 710 = .ok (.aload_n 1, 1) := by decide +kernel
theorem dL_law_711 : decode cL_law 711 = .ok (.iload 9, 2) := by decide +kernel
theorem dL_law_713 : decode cL_law 713 = .ok (.iload 8, 2) := by decide +kernel
theorem dL_law_715 : decode cL_law 715 = .ok (.iload 13, 2) := by decide +kernel
theorem dL_law_717 : decode cL_law 717 = .ok (.invokevirtual 90, 3) := by decide +kernel
theorem dL_law_720 : decode cL_law 720 = .ok (.istore 14, 2) := by decide +kernel
theorem dL_law_722 : decode cL_law 722 = .ok (.iload 14, 2) := by decide +kernel
theorem dL_law_724 : decode cL_law 724 = .ok (.bipush (-5), 2) := by decide +kernel
theorem dL_law_726 : decode cL_law 726 = .ok (.if_icmp .ne 33, 3) := by decide +kernel
theorem dL_law_729 : decode cL_law 729 = .ok (.iload 12, 2) := by decide +kernel
theorem dL_law_731 : decode cL_law 731 = .ok (.iconst 3, 1) := by decide +kernel
theorem dL_law_732 : decode cL_law 732 = .ok (.if_icmp .eq 19, 3) := by decide +kernel
theorem dL_law_735 : decode cL_law 735 = .ok (.iload 12, 2) := by decide +kernel
theorem dL_law_737 : decode cL_law 737 = .ok (.iconst 1, 1) := by decide +kernel
theorem dL_law_738 : decode cL_law 738 = .ok (.if_icmp .ne 7, 3) := by decide +kernel
theorem dL_law_741 : decode cL_law 741 = .ok (.iconst 1, 1) := by decide +kernel
theorem dL_law_742 : decode cL_law 742 = .ok (.goto 4, 3) := by decide +kernel
theorem dL_law_745 : decode cL_law 745 = .ok (.iconst 0, 1) := by decide +kernel
theorem dL_law_746 : decode cL_law 746 = .ok (.iload 13, 2) := by decide +kernel
theorem dL_law_748 : decode cL_law 748 = .ok (.if_icmp .ne 7, 3) := by decide +kernel
theorem dL_law_751 : decode cL_law 751 = .ok (.iconst 1, 1) := by decide +kernel
theorem dL_law_752 : decode cL_law 752 = .ok (.goto 42, 3) := by decide +kernel
theorem dL_law_755 : decode cL_law 755 = .ok (.iconst 0, 1) := by decide +kernel
theorem dL_law_756 : decode cL_law 756 = .ok (.goto 38, 3) := by decide +kernel
theorem dL_law_759 : decode cL_law 759 = .ok (.iload 14, 2) := by decide +kernel
theorem dL_law_761 : decode cL_law 761 = .ok (.iload 11, 2) := by decide +kernel
theorem dL_law_763 : decode cL_law 763 = .ok (.iload 13, 2) := by decide +kernel
theorem dL_law_765 : decode cL_law 765 = .ok (.ifCond .eq 7, 3) := by decide +kernel
theorem dL_law_768 : decode cL_law 768 = .ok (.iconst 1, 1) := by decide +kernel
theorem dL_law_769 : decode cL_law 769 = .ok (.goto 4, 3) := by decide +kernel
theorem dL_law_772 : decode cL_law 772 = .ok (.iconst (-1), 1) := by decide +kernel
theorem dL_law_773 : decode cL_law 773 = .ok (.iadd, 1) := by decide +kernel
theorem dL_law_774 : decode cL_law 774 = .ok (.if_icmp .ne 19, 3) := by decide +kernel
theorem dL_law_777 : decode cL_law 777 = .ok (.aload_n 1, 1) := by decide +kernel
theorem dL_law_778 : decode cL_law 778 = .ok (.iload 9, 2) := by decide +kernel
theorem dL_law_780 : decode cL_law 780 = .ok (.iconst 3, 1) := by decide +kernel
theorem dL_law_781 : decode cL_law 781 = .ok (.invokevirtual 15, 3) := by decide +kernel
theorem dL_law_784 : decode cL_law 784 = .ok (.iload 14, 2) := by decide +kernel
theorem dL_law_786 : decode cL_law 786 = .ok (.if_icmp .ne 7, 3) := by decide +kernel
theorem dL_law_789 : decode cL_law 789 = .ok (.iconst 1, 1) := by decide +kernel
theorem dL_law_790 : decode cL_law 790 = .ok (.goto 4, 3) := by decide +kernel
theorem dL_law_793 : decode cL_law 793 = .ok (.iconst 0, 1) := by decide +kernel
theorem dL_law_794 : decode cL_law 794 = .ok (.istore 10, 2) := by decide +kernel
theorem dL_law_796 : decode cL_law 796 = .ok (.goto 102, 3) := by decide +kernel
theorem dL_law_799 : decode cL_law 799 = .ok (.iload 5, 2) := by decide +kernel
theorem dL_law_801 : decode cL_law 801 = .ok (.bipush 10, 2) := by decide +kernel
theorem dL_law_803 : decode cL_law 803 = .ok (.if_icmp .ne 46, 3) := by decide +kernel
theorem dL_law_806 : decode cL_law 806 = .ok (.aload_n 1, 1) := by decide +kernel
theorem dL_law_807 : decode cL_law 807 = .ok (.bipush 12, 2) := by decide +kernel
theorem dL_law_809 : decode cL_law 809 = .ok (.invokevirtual 9, 3) := by decide +kernel
theorem dL_law_812 : decode cL_law 812 = .ok (.istore 11, 2) := by decide +kernel
theorem dL_law_814 : decode cL_law 814 = .ok (.aload_n 1, 1) := by decide +kernel
theorem dL_law_815 : decode cL_law 815 = .ok (.iconst 1, 1) := by decide +kernel
theorem dL_law_816 : decode cL_law 816 = .ok (.iload 4, 2) := by decide +kernel
theorem dL_law_818 : decode cL_law 818 = .ok (.bipush 8, 2) := by decide +kernel
theorem dL_law_820 : decode cL_law 820 = .ok (.invokestatic 67, 3) := by decide +kernel
theorem dL_law_823 : decode cL_law 823 = .ok (.iadd, 1) := by decide +kernel
theorem dL_law_824 : decode cL_law 824 = .ok (.invokevirtual 94, 3) := by decide +kernel
theorem dL_law_827 : decode cL_law 827 = .ok (.iload 11, 2) := by decide +kernel
theorem dL_law_829 : decode cL_law 829 = .ok (.if_icmp .ne 14, 3) := by decide +kernel
theorem dL_law_832 : decode cL_law 832 = .ok (.aload_n 1, 1) := by decide +kernel
theorem dL_law_833 : decode cL_law 833 = .ok (.invokestatic 112, 3) := by decide +kernel
theorem dL_law_836 : decode cL_law 836 = .ok (.ifCond .eq 7, 3) := by decide +kernel
theorem dL_law_839 : decode cL_law 839 = .ok (.iconst 1, 1) := by decide +kernel
theorem dL_law_840 : decode cL_law 840 = .ok (.goto 4, 3) := by decide +kernel
theorem dL_law_843 : decode cL_law 843 = .ok (.iconst 0, 1) := by decide +kernel
theorem dL_law_844 : decode cL_law 844 = .ok (.istore 10, 2) := by decide +kernel
theorem dL_law_846 : decode cL_law 846 = .ok (.goto 52, 3) := by decide +kernel
theorem dL_law_849 : decode cL_law 849 = .ok (.iload 5, 2) := by decide +kernel
theorem dL_law_851 : decode cL_law 851 = .ok (.bipush 11, 2) := by decide +kernel
theorem dL_law_853 : decode cL_law 853 = .ok (.if_icmp .ne 12, 3) := by decide +kernel
theorem dL_law_856 : decode cL_law 856 = .ok (.aload_n 1, 1) := by decide +kernel
theorem dL_law_857 : decode cL_law 857 = .ok (.invokestatic 112, 3) := by decide +kernel
theorem dL_law_860 : decode cL_law 860 = .ok (.istore 10, 2) := by decide +kernel
theorem dL_law_862 : decode cL_law 862 = .ok (.goto 36, 3) := by decide +kernel
theorem dL_law_865 : decode cL_law 865 = .ok (.iload 5, 2) := by decide +kernel
theorem dL_law_867 : decode cL_law 867 = .ok (.bipush 12, 2) := by decide +kernel
theorem dL_law_869 : decode cL_law 869 = .ok (.if_icmp .ne 14, 3) := by decide +kernel
theorem dL_law_872 : decode cL_law 872 = .ok (.aload_n 1, 1) := by decide +kernel
theorem dL_law_873 : decode cL_law 873 = .ok (.iload 9, 2) := by decide +kernel
theorem dL_law_875 : decode cL_law 875 = .ok (.invokestatic 116, 3) := by decide +kernel
theorem dL_law_878 : decode cL_law 878 = .ok (.istore 10, 2) := by decide +kernel
theorem dL_law_880 : decode cL_law 880 = .ok (.goto 18, 3) := by decide +kernel
theorem dL_law_883 : decode cL_law 883 = .ok (.iload 5, 2) := by decide +kernel
theorem dL_law_885 : decode cL_law 885 = .ok (.bipush 13, 2) := by decide +kernel
theorem dL_law_887 : decode cL_law 887 = .ok (.if_icmp .ne 11, 3) := by decide +kernel
theorem dL_law_890 : decode cL_law 890 = .ok (.aload_n 1, 1) := by decide +kernel
theorem dL_law_891 : decode cL_law 891 = .ok (.iload 9, 2) := by decide +kernel
theorem dL_law_893 : decode cL_law 893 = .ok (.invokestatic 120, 3) := by decide +kernel
theorem dL_law_896 : decode cL_law 896 = .ok (.istore 10, 2) := by decide +kernel
theorem dL_law_898 : decode cL_law 898 = .ok (.iload 10, 2) := by decide +kernel
theorem dL_law_900 : decode cL_law 900 = .ok (.ifCond .eq 31, 3) := by decide +kernel
theorem dL_law_903 : decode cL_law 903 = .ok (.aload_n 1, 1) := by decide +kernel
theorem dL_law_904 : decode cL_law 904 = .ok (.invokestatic 123, 3) := by decide +kernel
theorem dL_law_907 : decode cL_law 907 = .ok (.ifCond .eq 24, 3) := by decide +kernel
theorem dL_law_910 : decode cL_law 910 = .ok (.aload_n 1, 1) := by decide +kernel
theorem dL_law_911 : decode cL_law 911 = .ok (.invokestatic 126, 3) := by decide +kernel
theorem dL_law_914 : decode cL_law 914 = .ok (.ifCond .eq 17, 3) := by decide +kernel
theorem dL_law_917 : decode cL_law 917 = .ok (.aload_n 1, 1) := by decide +kernel
theorem dL_law_918 : decode cL_law 918 = .ok (.invokestatic 129, 3) := by decide +kernel
theorem dL_law_921 : decode cL_law 921 = .ok (.ifCond .eq 10, 3) := by decide +kernel
theorem dL_law_924 : decode cL_law 924 = .ok (.aload_n 1, 1) := by decide +kernel
theorem dL_law_925 : decode cL_law 925 = .ok (.invokestatic 132, 3) := by decide +kernel
theorem dL_law_928 : decode cL_law 928 = .ok (.ifCond .ne 5, 3) := by decide +kernel
theorem dL_law_931 : decode cL_law 931 = .ok (.iconst 0, 1) := by decide +kernel
theorem dL_law_932 : decode cL_law 932 = .ok (.ireturn, 1) := by decide +kernel
theorem dL_law_933 : decode cL_law 933 = .ok (.iinc 2 1, 3) := by decide +kernel
theorem dL_law_936 : decode cL_law 936 = .ok (.goto (-888), 3) := by decide +kernel
theorem dL_law_939 : decode cL_law 939 = .ok (.aload_n 1, 1) := by decide +kernel
theorem dL_law_940 : decode cL_law 940 = .ok (.invokestatic 135, 3) := by decide +kernel
theorem dL_law_943 : decode cL_law 943 = .ok (.ireturn, 1) := by decide +kernel
