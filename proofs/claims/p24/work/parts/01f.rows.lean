theorem dL_law_513 : decode cL_law 513 = .ok (.iconst 0, 1) := by decide +kernel
theorem dL_law_514 : decode cL_law 514 = .ok (.ireturn, 1) := by decide +kernel
theorem dL_law_515 : decode cL_law 515 = .ok (.iinc 18 1, 3) := by decide +kernel
theorem dL_law_518 : decode cL_law 518 = .ok (.goto (-82), 3) := by decide +kernel
theorem dL_law_521 : decode cL_law 521 = .ok (.aload_n 1, 1) := by decide +kernel
theorem dL_law_522 : decode cL_law 522 = .ok (.iload 8, 2) := by decide +kernel
theorem dL_law_524 : decode cL_law 524 = .ok (.iload 9, 2) := by decide +kernel
theorem dL_law_526 : decode cL_law 526 = .ok (.invokevirtual 86, 3) := by decide +kernel
theorem dL_law_529 : decode cL_law 529 = .ok (.iload 12, 2) := by decide +kernel
theorem dL_law_531 : decode cL_law 531 = .ok (.if_icmp .eq 5, 3) := by decide +kernel
theorem dL_law_534 : decode cL_law 534 = .ok (.iconst 0, 1) := by decide +kernel
theorem dL_law_535 : decode cL_law 535 = .ok (.ireturn, 1) := by decide +kernel
theorem dL_law_536 : decode cL_law 536 = .ok (.iinc 4 1, 3) := by decide +kernel
theorem dL_law_539 : decode cL_law 539 = .ok (.iconst 0, 1) := by decide +kernel
theorem dL_law_540 : decode cL_law 540 = .ok (.istore 18, 2) := by decide +kernel
theorem dL_law_542 : decode cL_law 542 = .ok (.bipush 6, 2) := by decide +kernel
theorem dL_law_544 : decode cL_law 544 = .ok (.newarray .int, 2) := by decide +kernel
theorem dL_law_546 : decode cL_law 546 = .ok (.astore 19, 2) := by decide +kernel
theorem dL_law_548 : decode cL_law 548 = .ok (.iload 8, 2) := by decide +kernel
theorem dL_law_550 : decode cL_law 550 = .ok (.istore 20, 2) := by decide +kernel
theorem dL_law_552 : decode cL_law 552 = .ok (.iload 20, 2) := by decide +kernel
theorem dL_law_554 : decode cL_law 554 = .ok (.ifCond .le 16, 3) := by decide +kernel
theorem dL_law_557 : decode cL_law 557 = .ok (.iinc 18 1, 3) := by decide +kernel
theorem dL_law_560 : decode cL_law 560 = .ok (.iload 20, 2) := by decide +kernel
theorem dL_law_562 : decode cL_law 562 = .ok (.bipush 10, 2) := by decide +kernel
theorem dL_law_564 : decode cL_law 564 = .ok (.idiv, 1) := by decide +kernel
theorem dL_law_565 : decode cL_law 565 = .ok (.istore 20, 2) := by decide +kernel
theorem dL_law_567 : decode cL_law 567 = .ok (.goto (-15), 3) := by decide +kernel
theorem dL_law_570 : decode cL_law 570 = .ok (.iload 8, 2) := by decide +kernel
theorem dL_law_572 : decode cL_law 572 = .ok (.istore 20, 2) := by decide +kernel
theorem dL_law_574 : decode cL_law 574 = .ok (.iload 18, 2) := by decide +kernel
theorem dL_law_576 : decode cL_law 576 = .ok (.iconst 1, 1) := by decide +kernel
theorem dL_law_577 : decode cL_law 577 = .ok (.isub, 1) := by decide +kernel
theorem dL_law_578 : decode cL_law 578 = .ok (.istore 21, 2) := by decide +kernel
theorem dL_law_580 : decode cL_law 580 = .ok (.iload 21, 2) := by decide +kernel
theorem dL_law_582 : decode cL_law 582 = .ok (.ifCond .lt 26, 3) := by decide +kernel
theorem dL_law_585 : decode cL_law 585 = .ok (.aload 19, 2) := by decide +kernel
theorem dL_law_587 : decode cL_law 587 = .ok (.iload 21, 2) := by decide +kernel
theorem dL_law_589 : decode cL_law 589 = .ok (.iload 20, 2) := by decide +kernel
theorem dL_law_591 : decode cL_law 591 = .ok (.bipush 10, 2) := by decide +kernel
theorem dL_law_593 : decode cL_law 593 = .ok (.irem, 1) := by decide +kernel
theorem dL_law_594 : decode cL_law 594 = .ok (.iastore, 1) := by decide +kernel
theorem dL_law_595 : decode cL_law 595 = .ok (.iload 20, 2) := by decide +kernel
theorem dL_law_597 : decode cL_law 597 = .ok (.bipush 10, 2) := by decide +kernel
theorem dL_law_599 : decode cL_law 599 = .ok (.idiv, 1) := by decide +kernel
theorem dL_law_600 : decode cL_law 600 = .ok (.istore 20, 2) := by decide +kernel
theorem dL_law_602 : decode cL_law 602 = .ok (.iinc 21 (-1), 3) := by decide +kernel
theorem dL_law_605 : decode cL_law 605 = .ok (.goto (-25), 3) := by decide +kernel
theorem dL_law_608 : decode cL_law 608 = .ok (.aload_n 1, 1) := by decide +kernel
theorem dL_law_609 : decode cL_law 609 = .ok (.bipush 8, 2) := by decide +kernel
theorem dL_law_611 : decode cL_law 611 = .ok (.invokevirtual 44, 3) := by decide +kernel
theorem dL_law_614 : decode cL_law 614 = .ok (.istore 21, 2) := by decide +kernel
theorem dL_law_616 : decode cL_law 616 = .ok (.iconst 0, 1) := by decide +kernel
theorem dL_law_617 : decode cL_law 617 = .ok (.istore 22, 2) := by decide +kernel
theorem dL_law_619 : decode cL_law 619 = .ok (.iconst 0, 1) := by decide +kernel
theorem dL_law_620 : decode cL_law 620 = .ok (.istore 23, 2) := by decide +kernel
theorem dL_law_622 : decode cL_law 622 = .ok (.iconst 0, 1) := by decide +kernel
theorem dL_law_623 : decode cL_law 623 = .ok (.istore 24, 2) := by decide +kernel
theorem dL_law_625 : decode cL_law 625 = .ok (.bipush 6, 2) := by decide +kernel
theorem dL_law_627 : decode cL_law 627 = .ok (.newarray .int, 2) := by decide +kernel
theorem dL_law_629 : decode cL_law 629 = .ok (.dup, 1) := by decide +kernel
theorem dL_law_630 : decode cL_law 630 = .ok (.iconst 0, 1) := by decide +kernel
theorem dL_law_631 : decode cL_law 631 = .ok (.iconst (-1), 1) := by decide +kernel
theorem dL_law_632 : decode cL_law 632 = .ok (.iastore, 1) := by decide +kernel
theorem dL_law_633 : decode cL_law 633 = .ok (.dup, 1) := by decide +kernel
theorem dL_law_634 : decode cL_law 634 = .ok (.iconst 1, 1) := by decide +kernel
theorem dL_law_635 : decode cL_law 635 = .ok (.iconst (-1), 1) := by decide +kernel
theorem dL_law_636 : decode cL_law 636 = .ok (.iastore, 1) := by decide +kernel
theorem dL_law_637 : decode cL_law 637 = .ok (.dup, 1) := by decide +kernel
theorem dL_law_638 : decode cL_law 638 = .ok (.iconst 2, 1) := by decide +kernel
theorem dL_law_639 : decode cL_law 639 = .ok (.iconst (-1), 1) := by decide +kernel
theorem dL_law_640 : decode cL_law 640 = .ok (.iastore, 1) := by decide +kernel
theorem dL_law_641 : decode cL_law 641 = .ok (.dup, 1) := by decide +kernel
theorem dL_law_642 : decode cL_law 642 = .ok (.iconst 3, 1) := by decide +kernel
theorem dL_law_643 : decode cL_law 643 = .ok (.iconst (-1), 1) := by decide +kernel
theorem dL_law_644 : decode cL_law 644 = .ok (.iastore, 1) := by decide +kernel
theorem dL_law_645 : decode cL_law 645 = .ok (.dup, 1) := by decide +kernel
theorem dL_law_646 : decode cL_law 646 = .ok (.iconst 4, 1) := by decide +kernel
theorem dL_law_647 : decode cL_law 647 = .ok (.iconst (-1), 1) := by decide +kernel
theorem dL_law_648 : decode cL_law 648 = .ok (.iastore, 1) := by decide +kernel
theorem dL_law_649 : decode cL_law 649 = .ok (.dup, 1) := by decide +kernel
theorem dL_law_650 : decode cL_law 650 = .ok (.iconst 5, 1) := by decide +kernel
theorem dL_law_651 : decode cL_law 651 = .ok (.iconst (-1), 1) := by decide +kernel
theorem dL_law_652 : decode cL_law 652 = .ok (.iastore, 1) := by decide +kernel
theorem dL_law_653 : decode cL_law 653 = .ok (.astore 25, 2) := by decide +kernel
theorem dL_law_655 : decode cL_law 655 = .ok (.iconst 0, 1) := by decide +kernel
theorem dL_law_656 : decode cL_law 656 = .ok (.istore 26, 2) := by decide +kernel
theorem dL_law_658 : decode cL_law 658 = .ok (.iload 26, 2) := by decide +kernel
theorem dL_law_660 : decode cL_law 660 = .ok (.iload 21, 2) := by decide +kernel
theorem dL_law_662 : decode cL_law 662 = .ok (.if_icmp .ge 184, 3) := by decide +kernel
theorem dL_law_665 : decode cL_law 665 = .ok (.aload_n 1, 1) := by decide +kernel
theorem dL_law_666 : decode cL_law 666 = .ok (.iload 26, 2) := by decide +kernel
theorem dL_law_668 : decode cL_law 668 = .ok (.iconst 1, 1) := by decide +kernel
theorem dL_law_669 : decode cL_law 669 = .ok (.invokevirtual 89, 3) := by decide +kernel
theorem dL_law_672 : decode cL_law 672 = .ok (.istore 27, 2) := by decide +kernel
theorem dL_law_674 : decode cL_law 674 = .ok (.aload_n 1, 1) := by decide +kernel
theorem dL_law_675 : decode cL_law 675 = .ok (.iload 26, 2) := by decide +kernel
theorem dL_law_677 : decode cL_law 677 = .ok (.iconst 3, 1) := by decide +kernel
theorem dL_law_678 : decode cL_law 678 = .ok (.invokevirtual 89, 3) := by decide +kernel
theorem dL_law_681 : decode cL_law 681 = .ok (.istore 28, 2) := by decide +kernel
theorem dL_law_683 : decode cL_law 683 = .ok (.aload_n 1, 1) := by decide +kernel
theorem dL_law_684 : decode cL_law 684 = .ok (.iload 26, 2) := by decide +kernel
theorem dL_law_686 : decode cL_law 686 = .ok (.iconst 0, 1) := by decide +kernel
theorem dL_law_687 : decode cL_law 687 = .ok (.invokevirtual 89, 3) := by decide +kernel
theorem dL_law_690 : decode cL_law 690 = .ok (.iload 23, 2) := by decide +kernel
theorem dL_law_692 : decode cL_law 692 = .ok (.if_icmp .lt 55, 3) := by decide +kernel
theorem dL_law_695 : decode cL_law 695 = .ok (.aload_n 1, 1) := by decide +kernel
theorem dL_law_696 : decode cL_law 696 = .ok (.iload 26, 2) := by decide +kernel
theorem dL_law_698 : decode cL_law 698 = .ok (.iconst 0, 1) := by decide +kernel
theorem dL_law_699 : decode cL_law 699 = .ok (.invokevirtual 89, 3) := by decide +kernel
theorem dL_law_702 : decode cL_law 702 = .ok (.sipush 200, 3) := by decide +kernel
theorem dL_law_705 : decode cL_law 705 = .ok (.if_icmp .gt 42, 3) := by decide +kernel
theorem dL_law_708 : decode cL_law 708 = .ok (.iload 27, 2) := by decide +kernel
theorem dL_law_710 : decode cL_law 710 = .ok (.ifCond .lt 37, 3) := by decide +kernel
theorem dL_law_713 : decode cL_law 713 = .ok (.iload 27, 2) := by decide +kernel
theorem dL_law_715 : decode cL_law 715 = .ok (.iload 18, 2) := by decide +kernel
theorem dL_law_717 : decode cL_law 717 = .ok (.if_icmp .ge 30, 3) := by decide +kernel
theorem dL_law_720 : decode cL_law 720 = .ok (.aload_n 1, 1) := by decide +kernel
theorem dL_law_721 : decode cL_law 721 = .ok (.iload 26, 2) := by decide +kernel
theorem dL_law_723 : decode cL_law 723 = .ok (.iconst 2, 1) := by decide +kernel
theorem dL_law_724 : decode cL_law 724 = .ok (.invokevirtual 89, 3) := by decide +kernel
theorem dL_law_727 : decode cL_law 727 = .ok (.aload 19, 2) := by decide +kernel
theorem dL_law_729 : decode cL_law 729 = .ok (.iload 27, 2) := by decide +kernel
theorem dL_law_731 : decode cL_law 731 = .ok (.iaload, 1) := by decide +kernel
theorem dL_law_732 : decode cL_law 732 = .ok (.if_icmp .ne 15, 3) := by decide +kernel
theorem dL_law_735 : decode cL_law 735 = .ok (.iload 28, 2) := by decide +kernel
theorem dL_law_737 : decode cL_law 737 = .ok (.ifCond .lt 10, 3) := by decide +kernel
theorem dL_law_740 : decode cL_law 740 = .ok (.iload 28, 2) := by decide +kernel
theorem dL_law_742 : decode cL_law 742 = .ok (.bipush 81, 2) := by decide +kernel
theorem dL_law_744 : decode cL_law 744 = .ok (.if_icmp .le 5, 3) := by decide +kernel
theorem dL_law_747 : decode cL_law 747 = .ok (.iconst 0, 1) := by decide +kernel
theorem dL_law_748 : decode cL_law 748 = .ok (.ireturn, 1) := by decide +kernel
theorem dL_law_749 : decode cL_law 749 = .ok (.aload_n 1, 1) := by decide +kernel
theorem dL_law_750 : decode cL_law 750 = .ok (.iload 26, 2) := by decide +kernel
theorem dL_law_752 : decode cL_law 752 = .ok (.iconst 0, 1) := by decide +kernel
theorem dL_law_753 : decode cL_law 753 = .ok (.invokevirtual 89, 3) := by decide +kernel
theorem dL_law_756 : decode cL_law 756 = .ok (.istore 23, 2) := by decide +kernel
theorem dL_law_758 : decode cL_law 758 = .ok (.iload 23, 2) := by decide +kernel
theorem dL_law_760 : decode cL_law 760 = .ok (.iload 27, 2) := by decide +kernel
theorem dL_law_762 : decode cL_law 762 = .ok (.iload 9, 2) := by decide +kernel
theorem dL_law_764 : decode cL_law 764 = .ok (.imul, 1) := by decide +kernel
theorem dL_law_765 : decode cL_law 765 = .ok (.iconst 2, 1) := by decide +kernel
theorem dL_law_766 : decode cL_law 766 = .ok (.iload 17, 2) := by decide +kernel
theorem dL_law_768 : decode cL_law 768 = .ok (.imul, 1) := by decide +kernel
theorem dL_law_769 : decode cL_law 769 = .ok (.iadd, 1) := by decide +kernel
theorem dL_law_770 : decode cL_law 770 = .ok (.if_icmp .ge 5, 3) := by decide +kernel
theorem dL_law_773 : decode cL_law 773 = .ok (.iconst 0, 1) := by decide +kernel
theorem dL_law_774 : decode cL_law 774 = .ok (.ireturn, 1) := by decide +kernel
theorem dL_law_775 : decode cL_law 775 = .ok (.aload_n 1, 1) := by decide +kernel
theorem dL_law_776 : decode cL_law 776 = .ok (.iload 26, 2) := by decide +kernel
theorem dL_law_778 : decode cL_law 778 = .ok (.iconst 4, 1) := by decide +kernel
theorem dL_law_779 : decode cL_law 779 = .ok (.invokevirtual 89, 3) := by decide +kernel
theorem dL_law_782 : decode cL_law 782 = .ok (.iload 28, 2) := by decide +kernel
theorem dL_law_784 : decode cL_law 784 = .ok (.aload_n 1, 1) := by decide +kernel
theorem dL_law_785 : decode cL_law 785 = .ok (.iconst 5, 1) := by decide +kernel
theorem dL_law_786 : decode cL_law 786 = .ok (.invokevirtual 44, 3) := by decide +kernel
theorem dL_law_789 : decode cL_law 789 = .ok (.if_icmp .lt 7, 3) := by decide +kernel
theorem dL_law_792 : decode cL_law 792 = .ok (.iconst 1, 1) := by decide +kernel
theorem dL_law_793 : decode cL_law 793 = .ok (.goto 4, 3) := by decide +kernel
theorem dL_law_796 : decode cL_law 796 = .ok (.iconst 0, 1) := by decide +kernel
theorem dL_law_797 : decode cL_law 797 = .ok (.if_icmp .eq 5, 3) := by decide +kernel
theorem dL_law_800 : decode cL_law 800 = .ok (.iconst 0, 1) := by decide +kernel
theorem dL_law_801 : decode cL_law 801 = .ok (.ireturn, 1) := by decide +kernel
theorem dL_law_802 : decode cL_law 802 = .ok (.iload 24, 2) := by decide +kernel
theorem dL_law_804 : decode cL_law 804 = .ok (.iload 28, 2) := by decide +kernel
theorem dL_law_806 : decode cL_law 806 = .ok (.iadd, 1) := by decide +kernel
theorem dL_law_807 : decode cL_law 807 = .ok (.istore 24, 2) := by decide +kernel
theorem dL_law_809 : decode cL_law 809 = .ok (.aload_n 1, 1) := by decide +kernel
theorem dL_law_810 : decode cL_law 810 = .ok (.iload 26, 2) := by decide +kernel
theorem dL_law_812 : decode cL_law 812 = .ok (.iconst 4, 1) := by decide +kernel
theorem dL_law_813 : decode cL_law 813 = .ok (.invokevirtual 89, 3) := by decide +kernel
theorem dL_law_816 : decode cL_law 816 = .ok (.ifCond .ne 6, 3) := by decide +kernel
theorem dL_law_819 : decode cL_law 819 = .ok (.goto 21, 3) := by decide +kernel
theorem dL_law_822 : decode cL_law 822 = .ok (.iinc 22 1, 3) := by decide +kernel
theorem dL_law_825 : decode cL_law 825 = .ok (.aload 25, 2) := by decide +kernel
theorem dL_law_827 : decode cL_law 827 = .ok (.iload 27, 2) := by decide +kernel
theorem dL_law_829 : decode cL_law 829 = .ok (.iaload, 1) := by decide +kernel
theorem dL_law_830 : decode cL_law 830 = .ok (.ifCond .ge 10, 3) := by decide +kernel
theorem dL_law_833 : decode cL_law 833 = .ok (.aload 25, 2) := by decide +kernel
theorem dL_law_835 : decode cL_law 835 = .ok (.iload 27, 2) := by decide +kernel
theorem dL_law_837 : decode cL_law 837 = .ok (.iload 23, 2) := by decide +kernel
theorem dL_law_839 : decode cL_law 839 = .ok (.iastore, 1) := by decide +kernel
theorem dL_law_840 : decode cL_law 840 = .ok (.iinc 26 1, 3) := by decide +kernel
theorem dL_law_843 : decode cL_law 843 = .ok (.goto (-185), 3) := by decide +kernel
theorem dL_law_846 : decode cL_law 846 = .ok (.iconst 1, 1) := by decide +kernel
theorem dL_law_847 : decode cL_law 847 = .ok (.istore 26, 2) := by decide +kernel
theorem dL_law_849 : decode cL_law 849 = .ok (.iconst 0, 1) := by decide +kernel
theorem dL_law_850 : decode cL_law 850 = .ok (.istore 27, 2) := by decide +kernel
theorem dL_law_852 : decode cL_law 852 = .ok (.iload 27, 2) := by decide +kernel
theorem dL_law_854 : decode cL_law 854 = .ok (.iload 18, 2) := by decide +kernel
theorem dL_law_856 : decode cL_law 856 = .ok (.if_icmp .ge 43, 3) := by decide +kernel
theorem dL_law_859 : decode cL_law 859 = .ok (.aload_n 1, 1) := by decide +kernel
theorem dL_law_860 : decode cL_law 860 = .ok (.iload 27, 2) := by decide +kernel
theorem dL_law_862 : decode cL_law 862 = .ok (.invokevirtual 92, 3) := by decide +kernel
theorem dL_law_865 : decode cL_law 865 = .ok (.aload 25, 2) := by decide +kernel
theorem dL_law_867 : decode cL_law 867 = .ok (.iload 27, 2) := by decide +kernel
theorem dL_law_869 : decode cL_law 869 = .ok (.iaload, 1) := by decide +kernel
theorem dL_law_870 : decode cL_law 870 = .ok (.if_icmp .eq 5, 3) := by decide +kernel
theorem dL_law_873 : decode cL_law 873 = .ok (.iconst 0, 1) := by decide +kernel
theorem dL_law_874 : decode cL_law 874 = .ok (.ireturn, 1) := by decide +kernel
theorem dL_law_875 : decode cL_law 875 = .ok (.iload 26, 2) := by decide +kernel
theorem dL_law_877 : decode cL_law 877 = .ok (.aload 25, 2) := by decide +kernel
theorem dL_law_879 : decode cL_law 879 = .ok (.iload 27, 2) := by decide +kernel
theorem dL_law_881 : decode cL_law 881 = .ok (.iaload, 1) := by decide +kernel
theorem dL_law_882 : decode cL_law 882 = .ok (.ifCond .lt 7, 3) := by decide +kernel
theorem dL_law_885 : decode cL_law 885 = .ok (.iconst 1, 1) := by decide +kernel
theorem dL_law_886 : decode cL_law 886 = .ok (.goto 4, 3) := by decide +kernel
theorem dL_law_889 : decode cL_law 889 = .ok (.iconst 0, 1) := by decide +kernel
theorem dL_law_890 : decode cL_law 890 = .ok (.iand, 1) := by decide +kernel
theorem dL_law_891 : decode cL_law 891 = .ok (.istore 26, 2) := by decide +kernel
theorem dL_law_893 : decode cL_law 893 = .ok (.iinc 27 1, 3) := by decide +kernel
theorem dL_law_896 : decode cL_law 896 = .ok (.goto (-44), 3) := by decide +kernel
theorem dL_law_899 : decode cL_law 899 = .ok (.iload 21, 2) := by decide +kernel
theorem dL_law_901 : decode cL_law 901 = .ok (.bipush 60, 2) := by decide +kernel
theorem dL_law_903 : decode cL_law 903 = .ok (.if_icmp .gt 79, 3) := by decide +kernel
theorem dL_law_906 : decode cL_law 906 = .ok (.iload 22, 2) := by decide +kernel
theorem dL_law_908 : decode cL_law 908 = .ok (.aload_n 1, 1) := by decide +kernel
theorem dL_law_909 : decode cL_law 909 = .ok (.bipush 9, 2) := by decide +kernel
theorem dL_law_911 : decode cL_law 911 = .ok (.invokevirtual 44, 3) := by decide +kernel
theorem dL_law_914 : decode cL_law 914 = .ok (.if_icmp .ne 68, 3) := by decide +kernel
theorem dL_law_917 : decode cL_law 917 = .ok (.iload 22, 2) := by decide +kernel
theorem dL_law_919 : decode cL_law 919 = .ok (.iload 12, 2) := by decide +kernel
theorem dL_law_921 : decode cL_law 921 = .ok (.if_icmp .ne 61, 3) := by decide +kernel
theorem dL_law_924 : decode cL_law 924 = .ok (.aload_n 1, 1) := by decide +kernel
theorem dL_law_925 : decode cL_law 925 = .ok (.invokevirtual 95, 3) := by decide +kernel
theorem dL_law_928 : decode cL_law 928 = .ok (.ifCond .eq 8, 3) := by decide +kernel
theorem dL_law_931 : decode cL_law 931 = .ok (.iload 26, 2) := by decide +kernel
theorem dL_law_933 : decode cL_law 933 = .ok (.ifCond .eq 49, 3) := by decide +kernel
theorem dL_law_936 : decode cL_law 936 = .ok (.aload_n 1, 1) := by decide +kernel
theorem dL_law_937 : decode cL_law 937 = .ok (.invokevirtual 99, 3) := by decide +kernel
theorem dL_law_940 : decode cL_law 940 = .ok (.iload 21, 2) := by decide +kernel
theorem dL_law_942 : decode cL_law 942 = .ok (.ifCond .ne 7, 3) := by decide +kernel
theorem dL_law_945 : decode cL_law 945 = .ok (.dconst 0, 1) := by decide +kernel
theorem dL_law_946 : decode cL_law 946 = .ok (.goto 10, 3) := by decide +kernel
theorem dL_law_949 : decode cL_law 949 = .ok (.iload 24, 2) := by decide +kernel
theorem dL_law_951 : decode cL_law 951 = .ok (.i2d, 1) := by decide +kernel
theorem dL_law_952 : decode cL_law 952 = .ok (.iload 21, 2) := by decide +kernel
theorem dL_law_954 : decode cL_law 954 = .ok (.i2d, 1) := by decide +kernel
theorem dL_law_955 : decode cL_law 955 = .ok (.ddiv, 1) := by decide +kernel
theorem dL_law_956 : decode cL_law 956 = .ok (.dcmp .l, 1) := by decide +kernel
theorem dL_law_957 : decode cL_law 957 = .ok (.ifCond .ne 25, 3) := by decide +kernel
theorem dL_law_960 : decode cL_law 960 = .ok (.aload_n 1, 1) := by decide +kernel
theorem dL_law_961 : decode cL_law 961 = .ok (.bipush 6, 2) := by decide +kernel
theorem dL_law_963 : decode cL_law 963 = .ok (.invokevirtual 44, 3) := by decide +kernel
theorem dL_law_966 : decode cL_law 966 = .ok (.iload 4, 2) := by decide +kernel
theorem dL_law_968 : decode cL_law 968 = .ok (.if_icmp .ne 14, 3) := by decide +kernel
theorem dL_law_971 : decode cL_law 971 = .ok (.aload_n 1, 1) := by decide +kernel
theorem dL_law_972 : decode cL_law 972 = .ok (.bipush 7, 2) := by decide +kernel
theorem dL_law_974 : decode cL_law 974 = .ok (.invokevirtual 44, 3) := by decide +kernel
theorem dL_law_977 : decode cL_law 977 = .ok (.iload 8, 2) := by decide +kernel
theorem dL_law_979 : decode cL_law 979 = .ok (.if_icmp .eq 5, 3) := by decide +kernel
theorem dL_law_982 : decode cL_law 982 = .ok (.iconst 0, 1) := by decide +kernel
theorem dL_law_983 : decode cL_law 983 = .ok (.ireturn, 1) := by decide +kernel
theorem dL_law_984 : decode cL_law 984 = .ok (.iload 18, 2) := by decide +kernel
theorem dL_law_986 : decode cL_law 986 = .ok (.iconst 1, 1) := by decide +kernel
theorem dL_law_987 : decode cL_law 987 = .ok (.if_icmp .ne 22, 3) := by decide +kernel
theorem dL_law_990 : decode cL_law 990 = .ok (.aload_n 1, 1) := by decide +kernel
theorem dL_law_991 : decode cL_law 991 = .ok (.invokevirtual 95, 3) := by decide +kernel
theorem dL_law_994 : decode cL_law 994 = .ok (.iload 22, 2) := by decide +kernel
theorem dL_law_996 : decode cL_law 996 = .ok (.ifCond .le 7, 3) := by decide +kernel
theorem dL_law_999 : decode cL_law 999 = .ok (.iconst 1, 1) := by decide +kernel
theorem dL_law_1000 : decode cL_law 1000 = .ok (.goto 4, 3) := by decide +kernel
theorem dL_law_1003 : decode cL_law 1003 = .ok (.iconst 0, 1) := by decide +kernel
theorem dL_law_1004 : decode cL_law 1004 = .ok (.if_icmp .eq 5, 3) := by decide +kernel
theorem dL_law_1007 : decode cL_law 1007 = .ok (.iconst 0, 1) := by decide +kernel
theorem dL_law_1008 : decode cL_law 1008 = .ok (.ireturn, 1) := by decide +kernel
theorem dL_law_1009 : decode cL_law 1009 = .ok (.iinc 5 1, 3) := by decide +kernel
theorem dL_law_1012 : decode cL_law 1012 = .ok (.goto (-989), 3) := by decide +kernel
theorem dL_law_1015 : decode cL_law 1015 = .ok (.iconst 1, 1) := by decide +kernel
theorem dL_law_1016 : decode cL_law 1016 = .ok (.ireturn, 1) := by decide +kernel
