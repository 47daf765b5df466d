theorem dL_act_529 : decode cL_act 529 = .ok (.if_icmp .ne 7, 3) := by decide +kernel
theorem dL_act_532 : decode cL_act 532 = .ok (.iconst 1, 1) := by decide +kernel
theorem dL_act_533 : decode cL_act 533 = .ok (.goto 4, 3) := by decide +kernel
theorem dL_act_536 : decode cL_act 536 = .ok (.iconst 0, 1) := by decide +kernel
theorem dL_act_537 : decode cL_act 537 = .ok (.ireturn, 1) := by decide +kernel
theorem dL_act_538 : decode cL_act 538 = .ok (.aload_n 1, 1) := by decide +kernel
theorem dL_act_539 : decode cL_act 539 = .ok (.getfield 50, 3) := by decide +kernel
theorem dL_act_542 : decode cL_act 542 = .ok (.istore 5, 2) := by decide +kernel
theorem dL_act_544 : decode cL_act 544 = .ok (.aload_n 1, 1) := by decide +kernel
theorem dL_act_545 : decode cL_act 545 = .ok (.iload_n 2, 1) := by decide +kernel
theorem dL_act_546 : decode cL_act 546 = .ok (.iconst 1, 1) := by decide +kernel
theorem dL_act_547 : decode cL_act 547 = .ok (.ishr, 1) := by decide +kernel
theorem dL_act_548 : decode cL_act 548 = .ok (.sipush 128, 3) := by decide +kernel
theorem dL_act_551 : decode cL_act 551 = .ok (.invokestatic 11, 3) := by decide +kernel
theorem dL_act_554 : decode cL_act 554 = .ok (.putfield 50, 3) := by decide +kernel
theorem dL_act_557 : decode cL_act 557 = .ok (.aload_n 0, 1) := by decide +kernel
theorem dL_act_558 : decode cL_act 558 = .ok (.aload_n 1, 1) := by decide +kernel
theorem dL_act_559 : decode cL_act 559 = .ok (.getfield 50, 3) := by decide +kernel
theorem dL_act_562 : decode cL_act 562 = .ok (.invokevirtual 54, 3) := by decide +kernel
theorem dL_act_565 : decode cL_act 565 = .ok (.iload 5, 2) := by decide +kernel
theorem dL_act_567 : decode cL_act 567 = .ok (.if_icmp .ne 7, 3) := by decide +kernel
theorem dL_act_570 : decode cL_act 570 = .ok (.iconst 1, 1) := by decide +kernel
theorem dL_act_571 : decode cL_act 571 = .ok (.goto 4, 3) := by decide +kernel
theorem dL_act_574 : decode cL_act 574 = .ok (.iconst 0, 1) := by decide +kernel
theorem dL_act_575 : decode cL_act 575 = .ok (.ireturn, 1) := by decide +kernel
theorem dL_act_576 : decode cL_act 576 = .ok (.aload_n 1, 1) := by decide +kernel
theorem dL_act_577 : decode cL_act 577 = .ok (.getfield 58, 3) := by decide +kernel
theorem dL_act_580 : decode cL_act 580 = .ok (.istore 6, 2) := by decide +kernel
theorem dL_act_582 : decode cL_act 582 = .ok (.aload_n 1, 1) := by decide +kernel
theorem dL_act_583 : decode cL_act 583 = .ok (.iload_n 2, 1) := by decide +kernel
theorem dL_act_584 : decode cL_act 584 = .ok (.iconst 1, 1) := by decide +kernel
theorem dL_act_585 : decode cL_act 585 = .ok (.ishr, 1) := by decide +kernel
theorem dL_act_586 : decode cL_act 586 = .ok (.bipush 11, 2) := by decide +kernel
theorem dL_act_588 : decode cL_act 588 = .ok (.invokestatic 11, 3) := by decide +kernel
theorem dL_act_591 : decode cL_act 591 = .ok (.putfield 58, 3) := by decide +kernel
theorem dL_act_594 : decode cL_act 594 = .ok (.aload_n 0, 1) := by decide +kernel
theorem dL_act_595 : decode cL_act 595 = .ok (.aload_n 1, 1) := by decide +kernel
theorem dL_act_596 : decode cL_act 596 = .ok (.getfield 58, 3) := by decide +kernel
theorem dL_act_599 : decode cL_act 599 = .ok (.invokevirtual 61, 3) := by decide +kernel
theorem dL_act_602 : decode cL_act 602 = .ok (.iload 6, 2) := by decide +kernel
theorem dL_act_604 : decode cL_act 604 = .ok (.if_icmp .ne 7, 3) := by decide +kernel
theorem dL_act_607 : decode cL_act 607 = .ok (.iconst 1, 1) := by decide +kernel
theorem dL_act_608 : decode cL_act 608 = .ok (.goto 4, 3) := by decide +kernel
theorem dL_act_611 : decode cL_act 611 = .ok (.iconst 0, 1) := by decide +kernel
theorem dL_act_612 : decode cL_act 612 = .ok (.ireturn, 1) := by decide +kernel
theorem dL_act_613 : decode cL_act 613 = .ok (.aload_n 1, 1) := by decide +kernel
theorem dL_act_614 : decode cL_act 614 = .ok (.getfield 32, 3) := by decide +kernel
theorem dL_act_617 : decode cL_act 617 = .ok (.arraylength, 1) := by decide +kernel
theorem dL_act_618 : decode cL_act 618 = .ok (.ifCond .ne 5, 3) := by decide +kernel
theorem dL_act_621 : decode cL_act 621 = .ok (.iconst 1, 1) := by decide +kernel
theorem dL_act_622 : decode cL_act 622 = .ok (.ireturn, 1) := by decide +kernel
theorem dL_act_623 : decode cL_act 623 = .ok (.iload_n 2, 1) := by decide +kernel
theorem dL_act_624 : decode cL_act 624 = .ok (.iconst 1, 1) := by decide +kernel
theorem dL_act_625 : decode cL_act 625 = .ok (.ishr, 1) := by decide +kernel
theorem dL_act_626 : decode cL_act 626 = .ok (.aload_n 1, 1) := by decide +kernel
theorem dL_act_627 : decode cL_act 627 = .ok (.getfield 32, 3) := by decide +kernel
theorem dL_act_630 : decode cL_act 630 = .ok (.arraylength, 1) := by decide +kernel
theorem dL_act_631 : decode cL_act 631 = .ok (.invokestatic 11, 3) := by decide +kernel
theorem dL_act_634 : decode cL_act 634 = .ok (.istore 7, 2) := by decide +kernel
theorem dL_act_636 : decode cL_act 636 = .ok (.aload_n 1, 1) := by decide +kernel
theorem dL_act_637 : decode cL_act 637 = .ok (.getfield 32, 3) := by decide +kernel
theorem dL_act_640 : decode cL_act 640 = .ok (.iload 7, 2) := by decide +kernel
theorem dL_act_642 : decode cL_act 642 = .ok (.aaload, 1) := by decide +kernel
theorem dL_act_643 : decode cL_act 643 = .ok (.iconst 1, 1) := by decide +kernel
theorem dL_act_644 : decode cL_act 644 = .ok (.iaload, 1) := by decide +kernel
theorem dL_act_645 : decode cL_act 645 = .ok (.istore 8, 2) := by decide +kernel
theorem dL_act_647 : decode cL_act 647 = .ok (.aload_n 1, 1) := by decide +kernel
theorem dL_act_648 : decode cL_act 648 = .ok (.getfield 32, 3) := by decide +kernel
theorem dL_act_651 : decode cL_act 651 = .ok (.iload 7, 2) := by decide +kernel
theorem dL_act_653 : decode cL_act 653 = .ok (.aaload, 1) := by decide +kernel
theorem dL_act_654 : decode cL_act 654 = .ok (.iconst 1, 1) := by decide +kernel
theorem dL_act_655 : decode cL_act 655 = .ok (.iload_n 2, 1) := by decide +kernel
theorem dL_act_656 : decode cL_act 656 = .ok (.iconst 2, 1) := by decide +kernel
theorem dL_act_657 : decode cL_act 657 = .ok (.ishr, 1) := by decide +kernel
theorem dL_act_658 : decode cL_act 658 = .ok (.bipush 10, 2) := by decide +kernel
theorem dL_act_660 : decode cL_act 660 = .ok (.invokestatic 11, 3) := by decide +kernel
theorem dL_act_663 : decode cL_act 663 = .ok (.iastore, 1) := by decide +kernel
theorem dL_act_664 : decode cL_act 664 = .ok (.aload_n 0, 1) := by decide +kernel
theorem dL_act_665 : decode cL_act 665 = .ok (.iload 7, 2) := by decide +kernel
theorem dL_act_667 : decode cL_act 667 = .ok (.aload_n 1, 1) := by decide +kernel
theorem dL_act_668 : decode cL_act 668 = .ok (.getfield 32, 3) := by decide +kernel
theorem dL_act_671 : decode cL_act 671 = .ok (.iload 7, 2) := by decide +kernel
theorem dL_act_673 : decode cL_act 673 = .ok (.aaload, 1) := by decide +kernel
theorem dL_act_674 : decode cL_act 674 = .ok (.iconst 1, 1) := by decide +kernel
theorem dL_act_675 : decode cL_act 675 = .ok (.iaload, 1) := by decide +kernel
theorem dL_act_676 : decode cL_act 676 = .ok (.invokevirtual 64, 3) := by decide +kernel
theorem dL_act_679 : decode cL_act 679 = .ok (.iload 8, 2) := by decide +kernel
theorem dL_act_681 : decode cL_act 681 = .ok (.if_icmp .ne 7, 3) := by decide +kernel
theorem dL_act_684 : decode cL_act 684 = .ok (.iconst 1, 1) := by decide +kernel
theorem dL_act_685 : decode cL_act 685 = .ok (.goto 4, 3) := by decide +kernel
theorem dL_act_688 : decode cL_act 688 = .ok (.iconst 0, 1) := by decide +kernel
theorem dL_act_689 : decode cL_act 689 = .ok (.ireturn, 1) := by decide +kernel
theorem dL_act_690 : decode cL_act 690 = .ok (.aload_n 1, 1) := by decide +kernel
theorem dL_act_691 : decode cL_act 691 = .ok (.getfield 17, 3) := by decide +kernel
theorem dL_act_694 : decode cL_act 694 = .ok (.arraylength, 1) := by decide +kernel
theorem dL_act_695 : decode cL_act 695 = .ok (.ifCond .ne 5, 3) := by decide +kernel
theorem dL_act_698 : decode cL_act 698 = .ok (.iconst 1, 1) := by decide +kernel
theorem dL_act_699 : decode cL_act 699 = .ok (.ireturn, 1) := by decide +kernel
theorem dL_act_700 : decode cL_act 700 = .ok (.iload_n 2, 1) := by decide +kernel
theorem dL_act_701 : decode cL_act 701 = .ok (.iconst 1, 1) := by decide +kernel
theorem dL_act_702 : decode cL_act 702 = .ok (.ishr, 1) := by decide +kernel
theorem dL_act_703 : decode cL_act 703 = .ok (.aload_n 1, 1) := by decide +kernel
theorem dL_act_704 : decode cL_act 704 = .ok (.getfield 17, 3) := by decide +kernel
theorem dL_act_707 : decode cL_act 707 = .ok (.arraylength, 1) := by decide +kernel
theorem dL_act_708 : decode cL_act 708 = .ok (.invokestatic 11, 3) := by decide +kernel
theorem dL_act_711 : decode cL_act 711 = .ok (.istore 9, 2) := by decide +kernel
theorem dL_act_713 : decode cL_act 713 = .ok (.aload_n 1, 1) := by decide +kernel
theorem dL_act_714 : decode cL_act 714 = .ok (.getfield 17, 3) := by decide +kernel
theorem dL_act_717 : decode cL_act 717 = .ok (.iload 9, 2) := by decide +kernel
theorem dL_act_719 : decode cL_act 719 = .ok (.aaload, 1) := by decide +kernel
theorem dL_act_720 : decode cL_act 720 = .ok (.iconst 2, 1) := by decide +kernel
theorem dL_act_721 : decode cL_act 721 = .ok (.iaload, 1) := by decide +kernel
theorem dL_act_722 : decode cL_act 722 = .ok (.ifCond .ne 5, 3) := by decide +kernel
theorem dL_act_725 : decode cL_act 725 = .ok (.iconst 1, 1) := by decide +kernel
theorem dL_act_726 : decode cL_act 726 = .ok (.ireturn, 1) := by decide +kernel
theorem dL_act_727 : decode cL_act 727 = .ok (.iconst 1, 1) := by decide +kernel
theorem dL_act_728 : decode cL_act 728 = .ok (.iload_n 2, 1) := by decide +kernel
theorem dL_act_729 : decode cL_act 729 = .ok (.iconst 2, 1) := by decide +kernel
theorem dL_act_730 : decode cL_act 730 = .ok (.ishr, 1) := by decide +kernel
theorem dL_act_731 : decode cL_act 731 = .ok (.aload_n 1, 1) := by decide +kernel
theorem dL_act_732 : decode cL_act 732 = .ok (.getfield 17, 3) := by decide +kernel
theorem dL_act_735 : decode cL_act 735 = .ok (.iload 9, 2) := by decide +kernel
theorem dL_act_737 : decode cL_act 737 = .ok (.aaload, 1) := by decide +kernel
theorem dL_act_738 : decode cL_act 738 = .ok (.iconst 2, 1) := by decide +kernel
theorem dL_act_739 : decode cL_act 739 = .ok (.iaload, 1) := by decide +kernel
theorem dL_act_740 : decode cL_act 740 = .ok (.invokestatic 11, 3) := by decide +kernel
theorem dL_act_743 : decode cL_act 743 = .ok (.iadd, 1) := by decide +kernel
theorem dL_act_744 : decode cL_act 744 = .ok (.istore 10, 2) := by decide +kernel
theorem dL_act_746 : decode cL_act 746 = .ok (.aload_n 1, 1) := by decide +kernel
theorem dL_act_747 : decode cL_act 747 = .ok (.getfield 17, 3) := by decide +kernel
theorem dL_act_750 : decode cL_act 750 = .ok (.iload 9, 2) := by decide +kernel
theorem dL_act_752 : decode cL_act 752 = .ok (.aaload, 1) := by decide +kernel
theorem dL_act_753 : decode cL_act 753 = .ok (.iconst 2, 1) := by decide +kernel
theorem dL_act_754 : decode cL_act 754 = .ok (.dup2, 1) := by decide +kernel
theorem dL_act_755 : decode cL_act 755 = .ok (.iaload, 1) := by decide +kernel
theorem dL_act_756 : decode cL_act 756 = .ok (.iload 10, 2) := by decide +kernel
theorem dL_act_758 : decode cL_act 758 = .ok (.isub, 1) := by decide +kernel
theorem dL_act_759 : decode cL_act 759 = .ok (.iastore, 1) := by decide +kernel
theorem dL_act_760 : decode cL_act 760 = .ok (.aload_n 1, 1) := by decide +kernel
theorem dL_act_761 : decode cL_act 761 = .ok (.getfield 67, 3) := by decide +kernel
theorem dL_act_764 : decode cL_act 764 = .ok (.iconst 0, 1) := by decide +kernel
theorem dL_act_765 : decode cL_act 765 = .ok (.dup2, 1) := by decide +kernel
theorem dL_act_766 : decode cL_act 766 = .ok (.iaload, 1) := by decide +kernel
theorem dL_act_767 : decode cL_act 767 = .ok (.iload 10, 2) := by decide +kernel
theorem dL_act_769 : decode cL_act 769 = .ok (.iadd, 1) := by decide +kernel
theorem dL_act_770 : decode cL_act 770 = .ok (.iastore, 1) := by decide +kernel
theorem dL_act_771 : decode cL_act 771 = .ok (.aload_n 0, 1) := by decide +kernel
theorem dL_act_772 : decode cL_act 772 = .ok (.iload 9, 2) := by decide +kernel
theorem dL_act_774 : decode cL_act 774 = .ok (.iload 10, 2) := by decide +kernel
theorem dL_act_776 : decode cL_act 776 = .ok (.invokevirtual 70, 3) := by decide +kernel
theorem dL_act_779 : decode cL_act 779 = .ok (.aload_n 1, 1) := by decide +kernel
theorem dL_act_780 : decode cL_act 780 = .ok (.getfield 17, 3) := by decide +kernel
theorem dL_act_783 : decode cL_act 783 = .ok (.iload 9, 2) := by decide +kernel
theorem dL_act_785 : decode cL_act 785 = .ok (.aaload, 1) := by decide +kernel
theorem dL_act_786 : decode cL_act 786 = .ok (.iconst 2, 1) := by decide +kernel
theorem dL_act_787 : decode cL_act 787 = .ok (.iaload, 1) := by decide +kernel
theorem dL_act_788 : decode cL_act 788 = .ok (.if_icmp .ne 7, 3) := by decide +kernel
theorem dL_act_791 : decode cL_act 791 = .ok (.iconst 1, 1) := by decide +kernel
theorem dL_act_792 : decode cL_act 792 = .ok (.goto 4, 3) := by decide +kernel
theorem dL_act_795 : decode cL_act 795 = .ok (.iconst 0, 1) := by decide +kernel
theorem dL_act_796 : decode cL_act 796 = .ok (.ireturn, 1) := by decide +kernel
theorem dL_act_797 : decode cL_act 797 = .ok (.iload_n 2, 1) := by decide +kernel
theorem dL_act_798 : decode cL_act 798 = .ok (.iconst 1, 1) := by decide +kernel
theorem dL_act_799 : decode cL_act 799 = .ok (.ishr, 1) := by decide +kernel
theorem dL_act_800 : decode cL_act 800 = .ok (.iconst 2, 1) := by decide +kernel
theorem dL_act_801 : decode cL_act 801 = .ok (.invokestatic 11, 3) := by decide +kernel
theorem dL_act_804 : decode cL_act 804 = .ok (.istore 11, 2) := by decide +kernel
theorem dL_act_806 : decode cL_act 806 = .ok (.iconst 1, 1) := by decide +kernel
theorem dL_act_807 : decode cL_act 807 = .ok (.iload_n 2, 1) := by decide +kernel
theorem dL_act_808 : decode cL_act 808 = .ok (.iconst 2, 1) := by decide +kernel
theorem dL_act_809 : decode cL_act 809 = .ok (.ishr, 1) := by decide +kernel
theorem dL_act_810 : decode cL_act 810 = .ok (.bipush 99, 2) := by decide +kernel
theorem dL_act_812 : decode cL_act 812 = .ok (.invokestatic 11, 3) := by decide +kernel
theorem dL_act_815 : decode cL_act 815 = .ok (.iadd, 1) := by decide +kernel
theorem dL_act_816 : decode cL_act 816 = .ok (.istore 12, 2) := by decide +kernel
theorem dL_act_818 : decode cL_act 818 = .ok (.aload_n 1, 1) := by decide +kernel
theorem dL_act_819 : decode cL_act 819 = .ok (.getfield 67, 3) := by decide +kernel
theorem dL_act_822 : decode cL_act 822 = .ok (.iload 11, 2) := by decide +kernel
theorem dL_act_824 : decode cL_act 824 = .ok (.dup2, 1) := by decide +kernel
theorem dL_act_825 : decode cL_act 825 = .ok (.iaload, 1) := by decide +kernel
theorem dL_act_826 : decode cL_act 826 = .ok (.iload 12, 2) := by decide +kernel
theorem dL_act_828 : decode cL_act 828 = .ok (.iadd, 1) := by decide +kernel
theorem dL_act_829 : decode cL_act 829 = .ok (.iastore, 1) := by decide +kernel
theorem dL_act_830 : decode cL_act 830 = .ok (.aload_n 0, 1) := by decide +kernel
theorem dL_act_831 : decode cL_act 831 = .ok (.iload 11, 2) := by decide +kernel
theorem dL_act_833 : decode cL_act 833 = .ok (.iload 12, 2) := by decide +kernel
theorem dL_act_835 : decode cL_act 835 = .ok (.invokevirtual 73, 3) := by decide +kernel
theorem dL_act_838 : decode cL_act 838 = .ok (.aload_n 1, 1) := by decide +kernel
theorem dL_act_839 : decode cL_act 839 = .ok (.getfield 67, 3) := by decide +kernel
theorem dL_act_842 : decode cL_act 842 = .ok (.iload 11, 2) := by decide +kernel
theorem dL_act_844 : decode cL_act 844 = .ok (.iaload, 1) := by decide +kernel
theorem dL_act_845 : decode cL_act 845 = .ok (.if_icmp .ne 7, 3) := by decide +kernel
theorem dL_act_848 : decode cL_act 848 = .ok (.iconst 1, 1) := by decide +kernel
theorem dL_act_849 : decode cL_act 849 = .ok (.goto 4, 3) := by decide +kernel
theorem dL_act_852 : decode cL_act 852 = .ok (.iconst 0, 1) := by decide +kernel
theorem dL_act_853 : decode cL_act 853 = .ok (.ireturn, 1) := by decide +kernel
theorem dL_act_854 : decode cL_act 854 = .ok (.aload_n 1, 1) := by decide +kernel
theorem dL_act_855 : decode cL_act 855 = .ok (.getfield 32, 3) := by decide +kernel
theorem dL_act_858 : decode cL_act 858 = .ok (.arraylength, 1) := by decide +kernel
theorem dL_act_859 : decode cL_act 859 = .ok (.ifCond .ne 5, 3) := by decide +kernel
theorem dL_act_862 : decode cL_act 862 = .ok (.iconst 1, 1) := by decide +kernel
theorem dL_act_863 : decode cL_act 863 = .ok (.ireturn, 1) := by decide +kernel
theorem dL_act_864 : decode cL_act 864 = .ok (.aload_n 1, 1) := by decide +kernel
theorem dL_act_865 : decode cL_act 865 = .ok (.getfield 32, 3) := by decide +kernel
theorem dL_act_868 : decode cL_act 868 = .ok (.iload_n 2, 1) := by decide +kernel
theorem dL_act_869 : decode cL_act 869 = .ok (.iconst 1, 1) := by decide +kernel
theorem dL_act_870 : decode cL_act 870 = .ok (.ishr, 1) := by decide +kernel
theorem dL_act_871 : decode cL_act 871 = .ok (.aload_n 1, 1) := by decide +kernel
theorem dL_act_872 : decode cL_act 872 = .ok (.getfield 32, 3) := by decide +kernel
theorem dL_act_875 : decode cL_act 875 = .ok (.arraylength, 1) := by decide +kernel
theorem dL_act_876 : decode cL_act 876 = .ok (.invokestatic 11, 3) := by decide +kernel
theorem dL_act_879 : decode cL_act 879 = .ok (.aaload, 1) := by decide +kernel
theorem dL_act_880 : decode cL_act 880 = .ok (.astore 13, 2) := by decide +kernel
theorem dL_act_882 : decode cL_act 882 = .ok (.iload_n 2, 1) := by decide +kernel
theorem dL_act_883 : decode cL_act 883 = .ok (.iconst 2, 1) := by decide +kernel
theorem dL_act_884 : decode cL_act 884 = .ok (.ishr, 1) := by decide +kernel
theorem dL_act_885 : decode cL_act 885 = .ok (.iconst 2, 1) := by decide +kernel
theorem dL_act_886 : decode cL_act 886 = .ok (.invokestatic 11, 3) := by decide +kernel
theorem dL_act_889 : decode cL_act 889 = .ok (.istore 14, 2) := by decide +kernel
theorem dL_act_891 : decode cL_act 891 = .ok (.iconst 1, 1) := by decide +kernel
theorem dL_act_892 : decode cL_act 892 = .ok (.iload_n 2, 1) := by decide +kernel
theorem dL_act_893 : decode cL_act 893 = .ok (.iconst 3, 1) := by decide +kernel
theorem dL_act_894 : decode cL_act 894 = .ok (.ishr, 1) := by decide +kernel
theorem dL_act_895 : decode cL_act 895 = .ok (.aload 13, 2) := by decide +kernel
theorem dL_act_897 : decode cL_act 897 = .ok (.iconst 0, 1) := by decide +kernel
theorem dL_act_898 : decode cL_act 898 = .ok (.iaload, 1) := by decide +kernel
theorem dL_act_899 : decode cL_act 899 = .ok (.invokestatic 11, 3) := by decide +kernel
theorem dL_act_902 : decode cL_act 902 = .ok (.iadd, 1) := by decide +kernel
theorem dL_act_903 : decode cL_act 903 = .ok (.istore 15, 2) := by decide +kernel
theorem dL_act_905 : decode cL_act 905 = .ok (.aload 13, 2) := by decide +kernel
theorem dL_act_907 : decode cL_act 907 = .ok (.iconst 2, 1) := by decide +kernel
theorem dL_act_908 : decode cL_act 908 = .ok (.iaload, 1) := by decide +kernel
theorem dL_act_909 : decode cL_act 909 = .ok (.ifCond .ge 15, 3) := by decide +kernel
theorem dL_act_912 : decode cL_act 912 = .ok (.aload_n 1, 1) := by decide +kernel
theorem dL_act_913 : decode cL_act 913 = .ok (.getfield 67, 3) := by decide +kernel
theorem dL_act_916 : decode cL_act 916 = .ok (.iload 14, 2) := by decide +kernel
theorem dL_act_918 : decode cL_act 918 = .ok (.iaload, 1) := by decide +kernel
theorem dL_act_919 : decode cL_act 919 = .ok (.iload 15, 2) := by decide +kernel
theorem dL_act_921 : decode cL_act 921 = .ok (.if_icmp .ge 5, 3) := by decide +kernel
theorem dL_act_924 : decode cL_act 924 = .ok (.iconst 1, 1) := by decide +kernel
theorem dL_act_925 : decode cL_act 925 = .ok (.ireturn, 1) := by decide +kernel
theorem dL_act_926 : decode cL_act 926 = .ok (.aload 13, 2) := by decide +kernel
theorem dL_act_928 : decode cL_act 928 = .ok (.iconst 2, 1) := by decide +kernel
theorem dL_act_929 : decode cL_act 929 = .ok (.iload 14, 2) := by decide +kernel
theorem dL_act_931 : decode cL_act 931 = .ok (.iastore, 1) := by decide +kernel
theorem dL_act_932 : decode cL_act 932 = .ok (.aload 13, 2) := by decide +kernel
theorem dL_act_934 : decode cL_act 934 = .ok (.iconst 3, 1) := by decide +kernel
theorem dL_act_935 : decode cL_act 935 = .ok (.iload 15, 2) := by decide +kernel
theorem dL_act_937 : decode cL_act 937 = .ok (.iastore, 1) := by decide +kernel
theorem dL_act_938 : decode cL_act 938 = .ok (.aload 13, 2) := by decide +kernel
theorem dL_act_940 : decode cL_act 940 = .ok (.iconst 4, 1) := by decide +kernel
theorem dL_act_941 : decode cL_act 941 = .ok (.iconst 0, 1) := by decide +kernel
theorem dL_act_942 : decode cL_act 942 = .ok (.iastore, 1) := by decide +kernel
theorem dL_act_943 : decode cL_act 943 = .ok (.aload_n 1, 1) := by decide +kernel
theorem dL_act_944 : decode cL_act 944 = .ok (.getfield 67, 3) := by decide +kernel
theorem dL_act_947 : decode cL_act 947 = .ok (.iload 14, 2) := by decide +kernel
theorem dL_act_949 : decode cL_act 949 = .ok (.dup2, 1) := by decide +kernel
theorem dL_act_950 : decode cL_act 950 = .ok (.iaload, 1) := by decide +kernel
theorem dL_act_951 : decode cL_act 951 = .ok (.iload 15, 2) := by decide +kernel
theorem dL_act_953 : decode cL_act 953 = .ok (.isub, 1) := by decide +kernel
theorem dL_act_954 : decode cL_act 954 = .ok (.iastore, 1) := by decide +kernel
theorem dL_act_955 : decode cL_act 955 = .ok (.aload_n 0, 1) := by decide +kernel
theorem dL_act_956 : decode cL_act 956 = .ok (.iload_n 2, 1) := by decide +kernel
theorem dL_act_957 : decode cL_act 957 = .ok (.iconst 1, 1) := by decide +kernel
theorem dL_act_958 : decode cL_act 958 = .ok (.ishr, 1) := by decide +kernel
theorem dL_act_959 : decode cL_act 959 = .ok (.aload_n 1, 1) := by decide +kernel
theorem dL_act_960 : decode cL_act 960 = .ok (.getfield 32, 3) := by decide +kernel
theorem dL_act_963 : decode cL_act 963 = .ok (.arraylength, 1) := by decide +kernel
theorem dL_act_964 : decode cL_act 964 = .ok (.invokestatic 11, 3) := by decide +kernel
theorem dL_act_967 : decode cL_act 967 = .ok (.iload 14, 2) := by decide +kernel
theorem dL_act_969 : decode cL_act 969 = .ok (.iload 15, 2) := by decide +kernel
theorem dL_act_971 : decode cL_act 971 = .ok (.invokevirtual 76, 3) := by decide +kernel
theorem dL_act_974 : decode cL_act 974 = .ok (.aload_n 1, 1) := by decide +kernel
theorem dL_act_975 : decode cL_act 975 = .ok (.getfield 67, 3) := by decide +kernel
theorem dL_act_978 : decode cL_act 978 = .ok (.iload 14, 2) := by decide +kernel
theorem dL_act_980 : decode cL_act 980 = .ok (.iaload, 1) := by decide +kernel
theorem dL_act_981 : decode cL_act 981 = .ok (.if_icmp .ne 7, 3) := by decide +kernel
theorem dL_act_984 : decode cL_act 984 = .ok (.iconst 1, 1) := by decide +kernel
theorem dL_act_985 : decode cL_act 985 = .ok (.goto 4, 3) := by decide +kernel
theorem dL_act_988 : decode cL_act 988 = .ok (.iconst 0, 1) := by decide +kernel
theorem dL_act_989 : decode cL_act 989 = .ok (.ireturn, 1) := by decide +kernel
theorem dL_act_990 : decode cL_act 990 = .ok (.aload_n 1, 1) := by decide +kernel
theorem dL_act_991 : decode cL_act 991 = .ok (.getfield 32, 3) := by decide +kernel
theorem dL_act_994 : decode cL_act 994 = .ok (.arraylength, 1) := by decide +kernel
theorem dL_act_995 : decode cL_act 995 = .ok (.ifCond .ne 5, 3) := by decide +kernel
theorem dL_act_998 : decode cL_act 998 = .ok (.iconst 1, 1) := by decide +kernel
theorem dL_act_999 : decode cL_act 999 = .ok (.ireturn, 1) := by decide +kernel
theorem dL_act_1000 : decode cL_act 1000 = .ok (.iload_n 2, 1) := by decide +kernel
theorem dL_act_1001 : decode cL_act 1001 = .ok (.iconst 1, 1) := by decide +kernel
theorem dL_act_1002 : decode cL_act 1002 = .ok (.ishr, 1) := by decide +kernel
theorem dL_act_1003 : decode cL_act 1003 = .ok (.aload_n 1, 1) := by decide +kernel
theorem dL_act_1004 : decode cL_act 1004 = .ok (.getfield 32, 3) := by decide +kernel
theorem dL_act_1007 : decode cL_act 1007 = .ok (.arraylength, 1) := by decide +kernel
theorem dL_act_1008 : decode cL_act 1008 = .ok (.invokestatic 11, 3) := by decide +kernel
theorem dL_act_1011 : decode cL_act 1011 = .ok (.istore 16, 2) := by decide +kernel
theorem dL_act_1013 : decode cL_act 1013 = .ok (.aload_n 1, 1) := by decide +kernel
theorem dL_act_1014 : decode cL_act 1014 = .ok (.getfield 32, 3) := by decide +kernel
theorem dL_act_1017 : decode cL_act 1017 = .ok (.iload 16, 2) := by decide +kernel
theorem dL_act_1019 : decode cL_act 1019 = .ok (.aaload, 1) := by decide +kernel
theorem dL_act_1020 : decode cL_act 1020 = .ok (.iconst 2, 1) := by decide +kernel
theorem dL_act_1021 : decode cL_act 1021 = .ok (.iaload, 1) := by decide +kernel
theorem dL_act_1022 : decode cL_act 1022 = .ok (.ifCond .lt 24, 3) := by decide +kernel
theorem dL_act_1025 : decode cL_act 1025 = .ok (.aload_n 1, 1) := by decide +kernel
theorem dL_act_1026 : decode cL_act 1026 = .ok (.getfield 32, 3) := by decide +kernel
theorem dL_act_1029 : decode cL_act 1029 = .ok (.iload 16, 2) := by decide +kernel
theorem dL_act_1031 : decode cL_act 1031 = .ok (.aaload, 1) := by decide +kernel
theorem dL_act_1032 : decode cL_act 1032 = .ok (.invokestatic 80, 3) := by decide +kernel
theorem dL_act_1035 : decode cL_act 1035 = .ok (.ifCond .ne 13, 3) := by decide +kernel
theorem dL_act_1038 : decode cL_act 1038 = .ok (.iload_n 2, 1) := by decide +kernel
theorem dL_act_1039 : decode cL_act 1039 = .ok (.iconst 4, 1) := by decide +kernel
theorem dL_act_1040 : decode cL_act 1040 = .ok (.invokestatic 11, 3) := by decide +kernel
theorem dL_act_1043 : decode cL_act 1043 = .ok (.ifCond .le 5, 3) := by decide +kernel
theorem dL_act_1046 : decode cL_act 1046 = .ok (.iconst 1, 1) := by decide +kernel
theorem dL_act_1047 : decode cL_act 1047 = .ok (.ireturn, 1) := by decide +kernel
theorem dL_act_1048 : decode cL_act 1048 = .ok (.aload_n 1, 1) := by decide +kernel
theorem dL_act_1049 : decode cL_act 1049 = .ok (.getfield 32, 3) := by decide +kernel
theorem dL_act_1052 : decode cL_act 1052 = .ok (.iload 16, 2) := by decide +kernel
theorem dL_act_1054 : decode cL_act 1054 = .ok (.aaload, 1) := by decide +kernel
theorem dL_act_1055 : decode cL_act 1055 = .ok (.invokestatic 80, 3) := by decide +kernel
theorem dL_act_1058 : decode cL_act 1058 = .ok (.istore 17, 2) := by decide +kernel
theorem dL_act_1060 : decode cL_act 1060 = .ok (.aload_n 1, 1) := by decide +kernel
theorem dL_act_1061 : decode cL_act 1061 = .ok (.getfield 84, 3) := by decide +kernel
theorem dL_act_1064 : decode cL_act 1064 = .ok (.aload_n 1, 1) := by decide +kernel
theorem dL_act_1065 : decode cL_act 1065 = .ok (.getfield 32, 3) := by decide +kernel
theorem dL_act_1068 : decode cL_act 1068 = .ok (.iload 16, 2) := by decide +kernel
theorem dL_act_1070 : decode cL_act 1070 = .ok (.aaload, 1) := by decide +kernel
theorem dL_act_1071 : decode cL_act 1071 = .ok (.iconst 2, 1) := by decide +kernel
theorem dL_act_1072 : decode cL_act 1072 = .ok (.iaload, 1) := by decide +kernel
theorem dL_act_1073 : decode cL_act 1073 = .ok (.dup2, 1) := by decide +kernel
theorem dL_act_1074 : decode cL_act 1074 = .ok (.iaload, 1) := by decide +kernel
theorem dL_act_1075 : decode cL_act 1075 = .ok (.iload 17, 2) := by decide +kernel
theorem dL_act_1077 : decode cL_act 1077 = .ok (.iadd, 1) := by decide +kernel
theorem dL_act_1078 : decode cL_act 1078 = .ok (.iastore, 1) := by decide +kernel
theorem dL_act_1079 : decode cL_act 1079 = .ok (.aload_n 1, 1) := by decide +kernel
theorem dL_act_1080 : decode cL_act 1080 = .ok (.getfield 32, 3) := by decide +kernel
theorem dL_act_1083 : decode cL_act 1083 = .ok (.iload 16, 2) := by decide +kernel
theorem dL_act_1085 : decode cL_act 1085 = .ok (.aaload, 1) := by decide +kernel
theorem dL_act_1086 : decode cL_act 1086 = .ok (.iconst 2, 1) := by decide +kernel
theorem dL_act_1087 : decode cL_act 1087 = .ok (.iconst (-1), 1) := by decide +kernel
theorem dL_act_1088 : decode cL_act 1088 = .ok (.iastore, 1) := by decide +kernel
theorem dL_act_1089 : decode cL_act 1089 = .ok (.aload_n 1, 1) := by decide +kernel
theorem dL_act_1090 : decode cL_act 1090 = .ok (.getfield 32, 3) := by decide +kernel
theorem dL_act_1093 : decode cL_act 1093 = .ok (.iload 16, 2) := by decide +kernel
theorem dL_act_1095 : decode cL_act 1095 = .ok (.aaload, 1) := by decide +kernel
theorem dL_act_1096 : decode cL_act 1096 = .ok (.iconst 3, 1) := by decide +kernel
theorem dL_act_1097 : decode cL_act 1097 = .ok (.iconst 0, 1) := by decide +kernel
theorem dL_act_1098 : decode cL_act 1098 = .ok (.iastore, 1) := by decide +kernel
theorem dL_act_1099 : decode cL_act 1099 = .ok (.aload_n 1, 1) := by decide +kernel
theorem dL_act_1100 : decode cL_act 1100 = .ok (.getfield 32, 3) := by decide +kernel
theorem dL_act_1103 : decode cL_act 1103 = .ok (.iload 16, 2) := by decide +kernel
theorem dL_act_1105 : decode cL_act 1105 = .ok (.aaload, 1) := by decide +kernel
theorem dL_act_1106 : decode cL_act 1106 = .ok (.iconst 4, 1) := by decide +kernel
theorem dL_act_1107 : decode cL_act 1107 = .ok (.iconst 0, 1) := by decide +kernel
theorem dL_act_1108 : decode cL_act 1108 = .ok (.iastore, 1) := by decide +kernel
theorem dL_act_1109 : decode cL_act 1109 = .ok (.aload_n 0, 1) := by decide +kernel
theorem dL_act_1110 : decode cL_act 1110 = .ok (.iload 16, 2) := by decide +kernel
theorem dL_act_1112 : decode cL_act 1112 = .ok (.invokevirtual 87, 3) := by decide +kernel
theorem dL_act_1115 : decode cL_act 1115 = .ok (.iload 17, 2) := by decide +kernel
theorem dL_act_1117 : decode cL_act 1117 = .ok (.if_icmp .ne 7, 3) := by decide +kernel
theorem dL_act_1120 : decode cL_act 1120 = .ok (.iconst 1, 1) := by decide +kernel
theorem dL_act_1121 : decode cL_act 1121 = .ok (.goto 4, 3) := by decide +kernel
theorem dL_act_1124 : decode cL_act 1124 = .ok (.iconst 0, 1) := by decide +kernel
theorem dL_act_1125 : decode cL_act 1125 = .ok (.ireturn, 1) := by decide +kernel
theorem dL_act_1126 : decode cL_act 1126 = .ok (.aload_n 1, 1) := by decide +kernel
theorem dL_act_1127 : decode cL_act 1127 = .ok (.getfield 38, 3) := by decide +kernel
theorem dL_act_1130 : decode cL_act 1130 = .ok (.arraylength, 1) := by decide +kernel
theorem dL_act_1131 : decode cL_act 1131 = .ok (.ifCond .ne 5, 3) := by decide +kernel
theorem dL_act_1134 : decode cL_act 1134 = .ok (.iconst 1, 1) := by decide +kernel
theorem dL_act_1135 : decode cL_act 1135 = .ok (.ireturn, 1) := by decide +kernel
theorem dL_act_1136 : decode cL_act 1136 = .ok (.aload_n 1, 1) := by decide +kernel
theorem dL_act_1137 : decode cL_act 1137 = .ok (.getfield 38, 3) := by decide +kernel
theorem dL_act_1140 : decode cL_act 1140 = .ok (.iload_n 2, 1) := by decide +kernel
theorem dL_act_1141 : decode cL_act 1141 = .ok (.iconst 1, 1) := by decide +kernel
theorem dL_act_1142 : decode cL_act 1142 = .ok (.ishr, 1) := by decide +kernel
theorem dL_act_1143 : decode cL_act 1143 = .ok (.aload_n 1, 1) := by decide +kernel
theorem dL_act_1144 : decode cL_act 1144 = .ok (.getfield 38, 3) := by decide +kernel
theorem dL_act_1147 : decode cL_act 1147 = .ok (.arraylength, 1) := by decide +kernel
theorem dL_act_1148 : decode cL_act 1148 = .ok (.invokestatic 11, 3) := by decide +kernel
theorem dL_act_1151 : decode cL_act 1151 = .ok (.aaload, 1) := by decide +kernel
theorem dL_act_1152 : decode cL_act 1152 = .ok (.astore 18, 2) := by decide +kernel
theorem dL_act_1154 : decode cL_act 1154 = .ok (.aload 18, 2) := by decide +kernel
theorem dL_act_1156 : decode cL_act 1156 = .ok (.iconst 2, 1) := by decide +kernel
theorem dL_act_1157 : decode cL_act 1157 = .ok (.iaload, 1) := by decide +kernel
theorem dL_act_1158 : decode cL_act 1158 = .ok (.ifCond .eq 5, 3) := by decide +kernel
theorem dL_act_1161 : decode cL_act 1161 = .ok (.iconst 1, 1) := by decide +kernel
theorem dL_act_1162 : decode cL_act 1162 = .ok (.ireturn, 1) := by decide +kernel
theorem dL_act_1163 : decode cL_act 1163 = .ok (.aload 18, 2) := by decide +kernel
theorem dL_act_1165 : decode cL_act 1165 = .ok (.iconst 2, 1) := by decide +kernel
theorem dL_act_1166 : decode cL_act 1166 = .ok (.iconst 1, 1) := by decide +kernel
theorem dL_act_1167 : decode cL_act 1167 = .ok (.iastore, 1) := by decide +kernel
theorem dL_act_1168 : decode cL_act 1168 = .ok (.aload 18, 2) := by decide +kernel
theorem dL_act_1170 : decode cL_act 1170 = .ok (.iconst 3, 1) := by decide +kernel
theorem dL_act_1171 : decode cL_act 1171 = .ok (.aload 18, 2) := by decide +kernel
theorem dL_act_1173 : decode cL_act 1173 = .ok (.iconst 0, 1) := by decide +kernel
theorem dL_act_1174 : decode cL_act 1174 = .ok (.iaload, 1) := by decide +kernel
theorem dL_act_1175 : decode cL_act 1175 = .ok (.iastore, 1) := by decide +kernel
theorem dL_act_1176 : decode cL_act 1176 = .ok (.aload_n 0, 1) := by decide +kernel
theorem dL_act_1177 : decode cL_act 1177 = .ok (.iload_n 2, 1) := by decide +kernel
theorem dL_act_1178 : decode cL_act 1178 = .ok (.iconst 1, 1) := by decide +kernel
theorem dL_act_1179 : decode cL_act 1179 = .ok (.ishr, 1) := by decide +kernel
theorem dL_act_1180 : decode cL_act 1180 = .ok (.aload_n 1, 1) := by decide +kernel
theorem dL_act_1181 : decode cL_act 1181 = .ok (.getfield 38, 3) := by decide +kernel
theorem dL_act_1184 : decode cL_act 1184 = .ok (.arraylength, 1) := by decide +kernel
theorem dL_act_1185 : decode cL_act 1185 = .ok (.invokestatic 11, 3) := by decide +kernel
theorem dL_act_1188 : decode cL_act 1188 = .ok (.invokevirtual 90, 3) := by decide +kernel
theorem dL_act_1191 : decode cL_act 1191 = .ok (.aload 18, 2) := by decide +kernel
theorem dL_act_1193 : decode cL_act 1193 = .ok (.iconst 0, 1) := by decide +kernel
theorem dL_act_1194 : decode cL_act 1194 = .ok (.iaload, 1) := by decide +kernel
theorem dL_act_1195 : decode cL_act 1195 = .ok (.if_icmp .ne 7, 3) := by decide +kernel
theorem dL_act_1198 : decode cL_act 1198 = .ok (.iconst 1, 1) := by decide +kernel
theorem dL_act_1199 : decode cL_act 1199 = .ok (.goto 4, 3) := by decide +kernel
theorem dL_act_1202 : decode cL_act 1202 = .ok (.iconst 0, 1) := by decide +kernel
theorem dL_act_1203 : decode cL_act 1203 = .ok (.ireturn, 1) := by decide +kernel
theorem dL_act_1204 : decode cL_act 1204 = .ok (.iconst 1, 1) := by decide +kernel
theorem dL_act_1205 : decode cL_act 1205 = .ok (.iload_n 2, 1) := by decide +kernel
theorem dL_act_1206 : decode cL_act 1206 = .ok (.iconst 2, 1) := by decide +kernel
theorem dL_act_1207 : decode cL_act 1207 = .ok (.ishr, 1) := by decide +kernel
theorem dL_act_1208 : decode cL_act 1208 = .ok (.iconst 4, 1) := by decide +kernel
theorem dL_act_1209 : decode cL_act 1209 = .ok (.invokestatic 11, 3) := by decide +kernel
theorem dL_act_1212 : decode cL_act 1212 = .ok (.iadd, 1) := by decide +kernel
theorem dL_act_1213 : decode cL_act 1213 = .ok (.istore 19, 2) := by decide +kernel
theorem dL_act_1215 : decode cL_act 1215 = .ok (.aload_n 1, 1) := by decide +kernel
theorem dL_act_1216 : decode cL_act 1216 = .ok (.getfield 93, 3) := by decide +kernel
theorem dL_act_1219 : decode cL_act 1219 = .ok (.istore 20, 2) := by decide +kernel
theorem dL_act_1221 : decode cL_act 1221 = .ok (.aload_n 1, 1) := by decide +kernel
theorem dL_act_1222 : decode cL_act 1222 = .ok (.iload 19, 2) := by decide +kernel
theorem dL_act_1224 : decode cL_act 1224 = .ok (.invokevirtual 96, 3) := by decide +kernel
theorem dL_act_1227 : decode cL_act 1227 = .ok (.pop, 1) := by decide +kernel
theorem dL_act_1228 : decode cL_act 1228 = .ok (.aload_n 0, 1) := by decide +kernel
theorem dL_act_1229 : decode cL_act 1229 = .ok (.iload 19, 2) := by decide +kernel
theorem dL_act_1231 : decode cL_act 1231 = .ok (.invokevirtual 100, 3) := by decide +kernel
theorem dL_act_1234 : decode cL_act 1234 = .ok (.aload_n 1, 1) := by decide +kernel
theorem dL_act_1235 : decode cL_act 1235 = .ok (.getfield 93, 3) := by decide +kernel
theorem dL_act_1238 : decode cL_act 1238 = .ok (.iload 20, 2) := by decide +kernel
theorem dL_act_1240 : decode cL_act 1240 = .ok (.isub, 1) := by decide +kernel
theorem dL_act_1241 : decode cL_act 1241 = .ok (.if_icmp .ne 7, 3) := by decide +kernel
theorem dL_act_1244 : decode cL_act 1244 = .ok (.iconst 1, 1) := by decide +kernel
theorem dL_act_1245 : decode cL_act 1245 = .ok (.goto 4, 3) := by decide +kernel
theorem dL_act_1248 : decode cL_act 1248 = .ok (.iconst 0, 1) := by decide +kernel
theorem dL_act_1249 : decode cL_act 1249 = .ok (.ireturn, 1) := by decide +kernel
