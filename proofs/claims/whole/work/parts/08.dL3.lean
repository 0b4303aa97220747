theorem dL_law_598 : decode zc_L_law 598 = .ok (.aload_n 0, 1) := by decide +kernel
theorem dL_law_599 : decode zc_L_law 599 = .ok (.iload 4, 2) := by decide +kernel
theorem dL_law_601 : decode zc_L_law 601 = .ok (.iconst 1, 1) := by decide +kernel
theorem dL_law_602 : decode zc_L_law 602 = .ok (.iadd, 1) := by decide +kernel
theorem dL_law_603 : decode zc_L_law 603 = .ok (.iaload, 1) := by decide +kernel
theorem dL_law_604 : decode zc_L_law 604 = .ok (.invokevirtual 120, 3) := by decide +kernel
theorem dL_law_607 : decode zc_L_law 607 = .ok (.lstore 6, 2) := by decide +kernel
theorem dL_law_609 : decode zc_L_law 609 = .ok (.aload_n 2, 1) := by decide +kernel
theorem dL_law_610 : decode zc_L_law 610 = .ok (.invokevirtual 92, 3) := by decide +kernel
theorem dL_law_613 : decode zc_L_law 613 = .ok (.iload 5, 2) := by decide +kernel
theorem dL_law_615 : decode zc_L_law 615 = .ok (.if_icmp .eq 5, 3) := by decide +kernel
theorem dL_law_618 : decode zc_L_law 618 = .ok (.iconst 0, 1) := by decide +kernel
theorem dL_law_619 : decode zc_L_law 619 = .ok (.ireturn, 1) := by decide +kernel
theorem dL_law_620 : decode zc_L_law 620 = .ok (.iload 5, 2) := by decide +kernel
theorem dL_law_622 : decode zc_L_law 622 = .ok (.ifCond .ne 14, 3) := by decide +kernel
theorem dL_law_625 : decode zc_L_law 625 = .ok (.aload_n 3, 1) := by decide +kernel
theorem dL_law_626 : decode zc_L_law 626 = .ok (.iconst 0, 1) := by decide +kernel
theorem dL_law_627 : decode zc_L_law 627 = .ok (.laload, 1) := by decide +kernel
theorem dL_law_628 : decode zc_L_law 628 = .ok (.lload 6, 2) := by decide +kernel
theorem dL_law_630 : decode zc_L_law 630 = .ok (.lcmp, 1) := by decide +kernel
theorem dL_law_631 : decode zc_L_law 631 = .ok (.ifCond .eq 5, 3) := by decide +kernel
theorem dL_law_634 : decode zc_L_law 634 = .ok (.iconst 0, 1) := by decide +kernel
theorem dL_law_635 : decode zc_L_law 635 = .ok (.ireturn, 1) := by decide +kernel
theorem dL_law_636 : decode zc_L_law 636 = .ok (.goto 842, 3) := by decide +kernel
theorem dL_law_639 : decode zc_L_law 639 = .ok (.aload_n 1, 1) := by decide +kernel
theorem dL_law_640 : decode zc_L_law 640 = .ok (.aload_n 0, 1) := by decide +kernel
theorem dL_law_641 : decode zc_L_law 641 = .ok (.iload 4, 2) := by decide +kernel
theorem dL_law_643 : decode zc_L_law 643 = .ok (.iconst 1, 1) := by decide +kernel
theorem dL_law_644 : decode zc_L_law 644 = .ok (.iadd, 1) := by decide +kernel
theorem dL_law_645 : decode zc_L_law 645 = .ok (.iaload, 1) := by decide +kernel
theorem dL_law_646 : decode zc_L_law 646 = .ok (.aload_n 0, 1) := by decide +kernel
theorem dL_law_647 : decode zc_L_law 647 = .ok (.iload 4, 2) := by decide +kernel
theorem dL_law_649 : decode zc_L_law 649 = .ok (.iconst 2, 1) := by decide +kernel
theorem dL_law_650 : decode zc_L_law 650 = .ok (.iadd, 1) := by decide +kernel
theorem dL_law_651 : decode zc_L_law 651 = .ok (.iaload, 1) := by decide +kernel
theorem dL_law_652 : decode zc_L_law 652 = .ok (.aload_n 0, 1) := by decide +kernel
theorem dL_law_653 : decode zc_L_law 653 = .ok (.iload 4, 2) := by decide +kernel
theorem dL_law_655 : decode zc_L_law 655 = .ok (.iconst 3, 1) := by decide +kernel
theorem dL_law_656 : decode zc_L_law 656 = .ok (.iadd, 1) := by decide +kernel
theorem dL_law_657 : decode zc_L_law 657 = .ok (.iaload, 1) := by decide +kernel
theorem dL_law_658 : decode zc_L_law 658 = .ok (.aload_n 0, 1) := by decide +kernel
theorem dL_law_659 : decode zc_L_law 659 = .ok (.iload 4, 2) := by decide +kernel
theorem dL_law_661 : decode zc_L_law 661 = .ok (.iconst 4, 1) := by decide +kernel
theorem dL_law_662 : decode zc_L_law 662 = .ok (.iadd, 1) := by decide +kernel
theorem dL_law_663 : decode zc_L_law 663 = .ok (.iaload, 1) := by decide +kernel
theorem dL_law_664 : decode zc_L_law 664 = .ok (.aload_n 0, 1) := by decide +kernel
theorem dL_law_665 : decode zc_L_law 665 = .ok (.iload 4, 2) := by decide +kernel
theorem dL_law_667 : decode zc_L_law 667 = .ok (.iconst 5, 1) := by decide +kernel
theorem dL_law_668 : decode zc_L_law 668 = .ok (.iadd, 1) := by decide +kernel
theorem dL_law_669 : decode zc_L_law 669 = .ok (.iaload, 1) := by decide +kernel
theorem dL_law_670 : decode zc_L_law 670 = .ok (.aload_n 3, 1) := by decide +kernel
theorem dL_law_671 : decode zc_L_law 671 = .ok (.invokestatic 121, 3) := by decide +kernel
theorem dL_law_674 : decode zc_L_law 674 = .ok (.istore 5, 2) := by decide +kernel
theorem dL_law_676 : decode zc_L_law 676 = .ok (.aload_n 2, 1) := by decide +kernel
theorem dL_law_677 : decode zc_L_law 677 = .ok (.aload_n 0, 1) := by decide +kernel
theorem dL_law_678 : decode zc_L_law 678 = .ok (.iload 4, 2) := by decide +kernel
theorem dL_law_680 : decode zc_L_law 680 = .ok (.iconst 1, 1) := by decide +kernel
theorem dL_law_681 : decode zc_L_law 681 = .ok (.iadd, 1) := by decide +kernel
theorem dL_law_682 : decode zc_L_law 682 = .ok (.iaload, 1) := by decide +kernel
theorem dL_law_683 : decode zc_L_law 683 = .ok (.aload_n 0, 1) := by decide +kernel
theorem dL_law_684 : decode zc_L_law 684 = .ok (.iload 4, 2) := by decide +kernel
theorem dL_law_686 : decode zc_L_law 686 = .ok (.iconst 2, 1) := by decide +kernel
theorem dL_law_687 : decode zc_L_law 687 = .ok (.iadd, 1) := by decide +kernel
theorem dL_law_688 : decode zc_L_law 688 = .ok (.iaload, 1) := by decide +kernel
theorem dL_law_689 : decode zc_L_law 689 = .ok (.aload_n 0, 1) := by decide +kernel
theorem dL_law_690 : decode zc_L_law 690 = .ok (.iload 4, 2) := by decide +kernel
theorem dL_law_692 : decode zc_L_law 692 = .ok (.iconst 3, 1) := by decide +kernel
theorem dL_law_693 : decode zc_L_law 693 = .ok (.iadd, 1) := by decide +kernel
theorem dL_law_694 : decode zc_L_law 694 = .ok (.iaload, 1) := by decide +kernel
theorem dL_law_695 : decode zc_L_law 695 = .ok (.aload_n 0, 1) := by decide +kernel
theorem dL_law_696 : decode zc_L_law 696 = .ok (.iload 4, 2) := by decide +kernel
theorem dL_law_698 : decode zc_L_law 698 = .ok (.iconst 4, 1) := by decide +kernel
theorem dL_law_699 : decode zc_L_law 699 = .ok (.iadd, 1) := by decide +kernel
theorem dL_law_700 : decode zc_L_law 700 = .ok (.iaload, 1) := by decide +kernel
theorem dL_law_701 : decode zc_L_law 701 = .ok (.aload_n 0, 1) := by decide +kernel
theorem dL_law_702 : decode zc_L_law 702 = .ok (.iload 4, 2) := by decide +kernel
theorem dL_law_704 : decode zc_L_law 704 = .ok (.iconst 5, 1) := by decide +kernel
theorem dL_law_705 : decode zc_L_law 705 = .ok (.iadd, 1) := by decide +kernel
theorem dL_law_706 : decode zc_L_law 706 = .ok (.iaload, 1) := by decide +kernel
theorem dL_law_707 : decode zc_L_law 707 = .ok (.invokevirtual 124, 3) := by decide +kernel
theorem dL_law_710 : decode zc_L_law 710 = .ok (.istore 6, 2) := by decide +kernel
theorem dL_law_712 : decode zc_L_law 712 = .ok (.aload_n 2, 1) := by decide +kernel
theorem dL_law_713 : decode zc_L_law 713 = .ok (.invokevirtual 92, 3) := by decide +kernel
theorem dL_law_716 : decode zc_L_law 716 = .ok (.iload 5, 2) := by decide +kernel
theorem dL_law_718 : decode zc_L_law 718 = .ok (.if_icmp .eq 5, 3) := by decide +kernel
theorem dL_law_721 : decode zc_L_law 721 = .ok (.iconst 0, 1) := by decide +kernel
theorem dL_law_722 : decode zc_L_law 722 = .ok (.ireturn, 1) := by decide +kernel
theorem dL_law_723 : decode zc_L_law 723 = .ok (.iload 5, 2) := by decide +kernel
theorem dL_law_725 : decode zc_L_law 725 = .ok (.ifCond .ne 15, 3) := by decide +kernel
theorem dL_law_728 : decode zc_L_law 728 = .ok (.aload_n 3, 1) := by decide +kernel
theorem dL_law_729 : decode zc_L_law 729 = .ok (.iconst 0, 1) := by decide +kernel
theorem dL_law_730 : decode zc_L_law 730 = .ok (.laload, 1) := by decide +kernel
theorem dL_law_731 : decode zc_L_law 731 = .ok (.iload 6, 2) := by decide +kernel
theorem dL_law_733 : decode zc_L_law 733 = .ok (.i2l, 1) := by decide +kernel
theorem dL_law_734 : decode zc_L_law 734 = .ok (.lcmp, 1) := by decide +kernel
theorem dL_law_735 : decode zc_L_law 735 = .ok (.ifCond .eq 5, 3) := by decide +kernel
theorem dL_law_738 : decode zc_L_law 738 = .ok (.iconst 0, 1) := by decide +kernel
theorem dL_law_739 : decode zc_L_law 739 = .ok (.ireturn, 1) := by decide +kernel
theorem dL_law_740 : decode zc_L_law 740 = .ok (.goto 738, 3) := by decide +kernel
theorem dL_law_743 : decode zc_L_law 743 = .ok (.aload_n 1, 1) := by decide +kernel
theorem dL_law_744 : decode zc_L_law 744 = .ok (.aload_n 0, 1) := by decide +kernel
theorem dL_law_745 : decode zc_L_law 745 = .ok (.iload 4, 2) := by decide +kernel
theorem dL_law_747 : decode zc_L_law 747 = .ok (.iconst 1, 1) := by decide +kernel
theorem dL_law_748 : decode zc_L_law 748 = .ok (.iadd, 1) := by decide +kernel
theorem dL_law_749 : decode zc_L_law 749 = .ok (.iaload, 1) := by decide +kernel
theorem dL_law_750 : decode zc_L_law 750 = .ok (.aload_n 0, 1) := by decide +kernel
theorem dL_law_751 : decode zc_L_law 751 = .ok (.iload 4, 2) := by decide +kernel
theorem dL_law_753 : decode zc_L_law 753 = .ok (.iconst 2, 1) := by decide +kernel
theorem dL_law_754 : decode zc_L_law 754 = .ok (.iadd, 1) := by decide +kernel
theorem dL_law_755 : decode zc_L_law 755 = .ok (.iaload, 1) := by decide +kernel
theorem dL_law_756 : decode zc_L_law 756 = .ok (.aload_n 0, 1) := by decide +kernel
theorem dL_law_757 : decode zc_L_law 757 = .ok (.iload 4, 2) := by decide +kernel
theorem dL_law_759 : decode zc_L_law 759 = .ok (.iconst 3, 1) := by decide +kernel
theorem dL_law_760 : decode zc_L_law 760 = .ok (.iadd, 1) := by decide +kernel
theorem dL_law_761 : decode zc_L_law 761 = .ok (.iaload, 1) := by decide +kernel
theorem dL_law_762 : decode zc_L_law 762 = .ok (.aload_n 3, 1) := by decide +kernel
theorem dL_law_763 : decode zc_L_law 763 = .ok (.invokestatic 125, 3) := by decide +kernel
theorem dL_law_766 : decode zc_L_law 766 = .ok (.istore 5, 2) := by decide +kernel
theorem dL_law_768 : decode zc_L_law 768 = .ok (.aload_n 2, 1) := by decide +kernel
theorem dL_law_769 : decode zc_L_law 769 = .ok (.aload_n 0, 1) := by decide +kernel
theorem dL_law_770 : decode zc_L_law 770 = .ok (.iload 4, 2) := by decide +kernel
theorem dL_law_772 : decode zc_L_law 772 = .ok (.iconst 1, 1) := by decide +kernel
theorem dL_law_773 : decode zc_L_law 773 = .ok (.iadd, 1) := by decide +kernel
theorem dL_law_774 : decode zc_L_law 774 = .ok (.iaload, 1) := by decide +kernel
theorem dL_law_775 : decode zc_L_law 775 = .ok (.aload_n 0, 1) := by decide +kernel
theorem dL_law_776 : decode zc_L_law 776 = .ok (.iload 4, 2) := by decide +kernel
theorem dL_law_778 : decode zc_L_law 778 = .ok (.iconst 2, 1) := by decide +kernel
theorem dL_law_779 : decode zc_L_law 779 = .ok (.iadd, 1) := by decide +kernel
theorem dL_law_780 : decode zc_L_law 780 = .ok (.iaload, 1) := by decide +kernel
theorem dL_law_781 : decode zc_L_law 781 = .ok (.aload_n 0, 1) := by decide +kernel
theorem dL_law_782 : decode zc_L_law 782 = .ok (.iload 4, 2) := by decide +kernel
theorem dL_law_784 : decode zc_L_law 784 = .ok (.iconst 3, 1) := by decide +kernel
theorem dL_law_785 : decode zc_L_law 785 = .ok (.iadd, 1) := by decide +kernel
theorem dL_law_786 : decode zc_L_law 786 = .ok (.iaload, 1) := by decide +kernel
theorem dL_law_787 : decode zc_L_law 787 = .ok (.invokevirtual 127, 3) := by decide +kernel
theorem dL_law_790 : decode zc_L_law 790 = .ok (.istore 6, 2) := by decide +kernel
theorem dL_law_792 : decode zc_L_law 792 = .ok (.aload_n 2, 1) := by decide +kernel
theorem dL_law_793 : decode zc_L_law 793 = .ok (.invokevirtual 92, 3) := by decide +kernel
theorem dL_law_796 : decode zc_L_law 796 = .ok (.iload 5, 2) := by decide +kernel
theorem dL_law_798 : decode zc_L_law 798 = .ok (.if_icmp .eq 5, 3) := by decide +kernel
theorem dL_law_801 : decode zc_L_law 801 = .ok (.iconst 0, 1) := by decide +kernel
theorem dL_law_802 : decode zc_L_law 802 = .ok (.ireturn, 1) := by decide +kernel
theorem dL_law_803 : decode zc_L_law 803 = .ok (.iload 5, 2) := by decide +kernel
theorem dL_law_805 : decode zc_L_law 805 = .ok (.ifCond .ne 15, 3) := by decide +kernel
theorem dL_law_808 : decode zc_L_law 808 = .ok (.aload_n 3, 1) := by decide +kernel
theorem dL_law_809 : decode zc_L_law 809 = .ok (.iconst 0, 1) := by decide +kernel
theorem dL_law_810 : decode zc_L_law 810 = .ok (.laload, 1) := by decide +kernel
theorem dL_law_811 : decode zc_L_law 811 = .ok (.iload 6, 2) := by decide +kernel
theorem dL_law_813 : decode zc_L_law 813 = .ok (.i2l, 1) := by decide +kernel
theorem dL_law_814 : decode zc_L_law 814 = .ok (.lcmp, 1) := by decide +kernel
theorem dL_law_815 : decode zc_L_law 815 = .ok (.ifCond .eq 5, 3) := by decide +kernel
theorem dL_law_818 : decode zc_L_law 818 = .ok (.iconst 0, 1) := by decide +kernel
theorem dL_law_819 : decode zc_L_law 819 = .ok (.ireturn, 1) := by decide +kernel
theorem dL_law_820 : decode zc_L_law 820 = .ok (.goto 658, 3) := by decide +kernel
theorem dL_law_823 : decode zc_L_law 823 = .ok (.aload_n 1, 1) := by decide +kernel
theorem dL_law_824 : decode zc_L_law 824 = .ok (.aload_n 0, 1) := by decide +kernel
theorem dL_law_825 : decode zc_L_law 825 = .ok (.iload 4, 2) := by decide +kernel
theorem dL_law_827 : decode zc_L_law 827 = .ok (.iconst 1, 1) := by decide +kernel
theorem dL_law_828 : decode zc_L_law 828 = .ok (.iadd, 1) := by decide +kernel
theorem dL_law_829 : decode zc_L_law 829 = .ok (.iaload, 1) := by decide +kernel
theorem dL_law_830 : decode zc_L_law 830 = .ok (.aload_n 0, 1) := by decide +kernel
theorem dL_law_831 : decode zc_L_law 831 = .ok (.iload 4, 2) := by decide +kernel
theorem dL_law_833 : decode zc_L_law 833 = .ok (.iconst 2, 1) := by decide +kernel
theorem dL_law_834 : decode zc_L_law 834 = .ok (.iadd, 1) := by decide +kernel
theorem dL_law_835 : decode zc_L_law 835 = .ok (.iaload, 1) := by decide +kernel
theorem dL_law_836 : decode zc_L_law 836 = .ok (.aload_n 3, 1) := by decide +kernel
theorem dL_law_837 : decode zc_L_law 837 = .ok (.invokestatic 128, 3) := by decide +kernel
theorem dL_law_840 : decode zc_L_law 840 = .ok (.istore 5, 2) := by decide +kernel
theorem dL_law_842 : decode zc_L_law 842 = .ok (.aload_n 2, 1) := by decide +kernel
theorem dL_law_843 : decode zc_L_law 843 = .ok (.aload_n 0, 1) := by decide +kernel
theorem dL_law_844 : decode zc_L_law 844 = .ok (.iload 4, 2) := by decide +kernel
theorem dL_law_846 : decode zc_L_law 846 = .ok (.iconst 1, 1) := by decide +kernel
theorem dL_law_847 : decode zc_L_law 847 = .ok (.iadd, 1) := by decide +kernel
theorem dL_law_848 : decode zc_L_law 848 = .ok (.iaload, 1) := by decide +kernel
theorem dL_law_849 : decode zc_L_law 849 = .ok (.aload_n 0, 1) := by decide +kernel
theorem dL_law_850 : decode zc_L_law 850 = .ok (.iload 4, 2) := by decide +kernel
theorem dL_law_852 : decode zc_L_law 852 = .ok (.iconst 2, 1) := by decide +kernel
theorem dL_law_853 : decode zc_L_law 853 = .ok (.iadd, 1) := by decide +kernel
theorem dL_law_854 : decode zc_L_law 854 = .ok (.iaload, 1) := by decide +kernel
theorem dL_law_855 : decode zc_L_law 855 = .ok (.invokevirtual 130, 3) := by decide +kernel
theorem dL_law_858 : decode zc_L_law 858 = .ok (.istore 6, 2) := by decide +kernel
theorem dL_law_860 : decode zc_L_law 860 = .ok (.aload_n 2, 1) := by decide +kernel
theorem dL_law_861 : decode zc_L_law 861 = .ok (.invokevirtual 92, 3) := by decide +kernel
theorem dL_law_864 : decode zc_L_law 864 = .ok (.iload 5, 2) := by decide +kernel
theorem dL_law_866 : decode zc_L_law 866 = .ok (.if_icmp .eq 5, 3) := by decide +kernel
theorem dL_law_869 : decode zc_L_law 869 = .ok (.iconst 0, 1) := by decide +kernel
theorem dL_law_870 : decode zc_L_law 870 = .ok (.ireturn, 1) := by decide +kernel
theorem dL_law_871 : decode zc_L_law 871 = .ok (.iload 5, 2) := by decide +kernel
theorem dL_law_873 : decode zc_L_law 873 = .ok (.ifCond .ne 15, 3) := by decide +kernel
theorem dL_law_876 : decode zc_L_law 876 = .ok (.aload_n 3, 1) := by decide +kernel
theorem dL_law_877 : decode zc_L_law 877 = .ok (.iconst 0, 1) := by decide +kernel
theorem dL_law_878 : decode zc_L_law 878 = .ok (.laload, 1) := by decide +kernel
theorem dL_law_879 : decode zc_L_law 879 = .ok (.iload 6, 2) := by decide +kernel
theorem dL_law_881 : decode zc_L_law 881 = .ok (.i2l, 1) := by decide +kernel
theorem dL_law_882 : decode zc_L_law 882 = .ok (.lcmp, 1) := by decide +kernel
theorem dL_law_883 : decode zc_L_law 883 = .ok (.ifCond .eq 5, 3) := by decide +kernel
theorem dL_law_886 : decode zc_L_law 886 = .ok (.iconst 0, 1) := by decide +kernel
theorem dL_law_887 : decode zc_L_law 887 = .ok (.ireturn, 1) := by decide +kernel
theorem dL_law_888 : decode zc_L_law 888 = .ok (.goto 590, 3) := by decide +kernel
theorem dL_law_891 : decode zc_L_law 891 = .ok (.aload_n 1, 1) := by decide +kernel
theorem dL_law_892 : decode zc_L_law 892 = .ok (.aload_n 0, 1) := by decide +kernel
theorem dL_law_893 : decode zc_L_law 893 = .ok (.iload 4, 2) := by decide +kernel
theorem dL_law_895 : decode zc_L_law 895 = .ok (.iconst 1, 1) := by decide +kernel
theorem dL_law_896 : decode zc_L_law 896 = .ok (.iadd, 1) := by decide +kernel
theorem dL_law_897 : decode zc_L_law 897 = .ok (.iaload, 1) := by decide +kernel
theorem dL_law_898 : decode zc_L_law 898 = .ok (.aload_n 0, 1) := by decide +kernel
theorem dL_law_899 : decode zc_L_law 899 = .ok (.iload 4, 2) := by decide +kernel
theorem dL_law_901 : decode zc_L_law 901 = .ok (.iconst 2, 1) := by decide +kernel
theorem dL_law_902 : decode zc_L_law 902 = .ok (.iadd, 1) := by decide +kernel
theorem dL_law_903 : decode zc_L_law 903 = .ok (.iaload, 1) := by decide +kernel
theorem dL_law_904 : decode zc_L_law 904 = .ok (.aload_n 3, 1) := by decide +kernel
theorem dL_law_905 : decode zc_L_law 905 = .ok (.invokestatic 131, 3) := by decide +kernel
theorem dL_law_908 : decode zc_L_law 908 = .ok (.istore 5, 2) := by decide +kernel
theorem dL_law_910 : decode zc_L_law 910 = .ok (.aload_n 2, 1) := by decide +kernel
theorem dL_law_911 : decode zc_L_law 911 = .ok (.aload_n 0, 1) := by decide +kernel
theorem dL_law_912 : decode zc_L_law 912 = .ok (.iload 4, 2) := by decide +kernel
theorem dL_law_914 : decode zc_L_law 914 = .ok (.iconst 1, 1) := by decide +kernel
theorem dL_law_915 : decode zc_L_law 915 = .ok (.iadd, 1) := by decide +kernel
theorem dL_law_916 : decode zc_L_law 916 = .ok (.iaload, 1) := by decide +kernel
theorem dL_law_917 : decode zc_L_law 917 = .ok (.aload_n 0, 1) := by decide +kernel
theorem dL_law_918 : decode zc_L_law 918 = .ok (.iload 4, 2) := by decide +kernel
theorem dL_law_920 : decode zc_L_law 920 = .ok (.iconst 2, 1) := by decide +kernel
theorem dL_law_921 : decode zc_L_law 921 = .ok (.iadd, 1) := by decide +kernel
theorem dL_law_922 : decode zc_L_law 922 = .ok (.iaload, 1) := by decide +kernel
theorem dL_law_923 : decode zc_L_law 923 = .ok (.invokevirtual 133, 3) := by decide +kernel
theorem dL_law_926 : decode zc_L_law 926 = .ok (.istore 6, 2) := by decide +kernel
theorem dL_law_928 : decode zc_L_law 928 = .ok (.aload_n 2, 1) := by decide +kernel
theorem dL_law_929 : decode zc_L_law 929 = .ok (.invokevirtual 92, 3) := by decide +kernel
theorem dL_law_932 : decode zc_L_law 932 = .ok (.iload 5, 2) := by decide +kernel
theorem dL_law_934 : decode zc_L_law 934 = .ok (.if_icmp .eq 5, 3) := by decide +kernel
theorem dL_law_937 : decode zc_L_law 937 = .ok (.iconst 0, 1) := by decide +kernel
theorem dL_law_938 : decode zc_L_law 938 = .ok (.ireturn, 1) := by decide +kernel
theorem dL_law_939 : decode zc_L_law 939 = .ok (.iload 5, 2) := by decide +kernel
theorem dL_law_941 : decode zc_L_law 941 = .ok (.ifCond .ne 15, 3) := by decide +kernel
theorem dL_law_944 : decode zc_L_law 944 = .ok (.aload_n 3, 1) := by decide +kernel
theorem dL_law_945 : decode zc_L_law 945 = .ok (.iconst 0, 1) := by decide +kernel
theorem dL_law_946 : decode zc_L_law 946 = .ok (.laload, 1) := by decide +kernel
theorem dL_law_947 : decode zc_L_law 947 = .ok (.iload 6, 2) := by decide +kernel
theorem dL_law_949 : decode zc_L_law 949 = .ok (.i2l, 1) := by decide +kernel
theorem dL_law_950 : decode zc_L_law 950 = .ok (.lcmp, 1) := by decide +kernel
theorem dL_law_951 : decode zc_L_law 951 = .ok (.ifCond .eq 5, 3) := by decide +kernel
theorem dL_law_954 : decode zc_L_law 954 = .ok (.iconst 0, 1) := by decide +kernel
theorem dL_law_955 : decode zc_L_law 955 = .ok (.ireturn, 1) := by decide +kernel
theorem dL_law_956 : decode zc_L_law 956 = .ok (.goto 522, 3) := by decide +kernel
theorem dL_law_959 : decode zc_L_law 959 = .ok (.aload_n 1, 1) := by decide +kernel
theorem dL_law_960 : decode zc_L_law 960 = .ok (.aload_n 0, 1) := by decide +kernel
theorem dL_law_961 : decode zc_L_law 961 = .ok (.iload 4, 2) := by decide +kernel
theorem dL_law_963 : decode zc_L_law 963 = .ok (.iconst 1, 1) := by decide +kernel
theorem dL_law_964 : decode zc_L_law 964 = .ok (.iadd, 1) := by decide +kernel
theorem dL_law_965 : decode zc_L_law 965 = .ok (.iaload, 1) := by decide +kernel
theorem dL_law_966 : decode zc_L_law 966 = .ok (.aload_n 0, 1) := by decide +kernel
theorem dL_law_967 : decode zc_L_law 967 = .ok (.iload 4, 2) := by decide +kernel
theorem dL_law_969 : decode zc_L_law 969 = .ok (.iconst 2, 1) := by decide +kernel
theorem dL_law_970 : decode zc_L_law 970 = .ok (.iadd, 1) := by decide +kernel
theorem dL_law_971 : decode zc_L_law 971 = .ok (.iaload, 1) := by decide +kernel
theorem dL_law_972 : decode zc_L_law 972 = .ok (.aload_n 3, 1) := by decide +kernel
theorem dL_law_973 : decode zc_L_law 973 = .ok (.invokestatic 134, 3) := by decide +kernel
theorem dL_law_976 : decode zc_L_law 976 = .ok (.istore 5, 2) := by decide +kernel
theorem dL_law_978 : decode zc_L_law 978 = .ok (.aload_n 2, 1) := by decide +kernel
theorem dL_law_979 : decode zc_L_law 979 = .ok (.aload_n 0, 1) := by decide +kernel
theorem dL_law_980 : decode zc_L_law 980 = .ok (.iload 4, 2) := by decide +kernel
theorem dL_law_982 : decode zc_L_law 982 = .ok (.iconst 1, 1) := by decide +kernel
theorem dL_law_983 : decode zc_L_law 983 = .ok (.iadd, 1) := by decide +kernel
theorem dL_law_984 : decode zc_L_law 984 = .ok (.iaload, 1) := by decide +kernel
theorem dL_law_985 : decode zc_L_law 985 = .ok (.aload_n 0, 1) := by decide +kernel
theorem dL_law_986 : decode zc_L_law 986 = .ok (.iload 4, 2) := by decide +kernel
theorem dL_law_988 : decode zc_L_law 988 = .ok (.iconst 2, 1) := by decide +kernel
theorem dL_law_989 : decode zc_L_law 989 = .ok (.iadd, 1) := by decide +kernel
theorem dL_law_990 : decode zc_L_law 990 = .ok (.iaload, 1) := by decide +kernel
theorem dL_law_991 : decode zc_L_law 991 = .ok (.invokevirtual 136, 3) := by decide +kernel
theorem dL_law_994 : decode zc_L_law 994 = .ok (.istore 6, 2) := by decide +kernel
theorem dL_law_996 : decode zc_L_law 996 = .ok (.aload_n 2, 1) := by decide +kernel
theorem dL_law_997 : decode zc_L_law 997 = .ok (.invokevirtual 92, 3) := by decide +kernel
theorem dL_law_1000 : decode zc_L_law 1000 = .ok (.iload 5, 2) := by decide +kernel
theorem dL_law_1002 : decode zc_L_law 1002 = .ok (.if_icmp .eq 5, 3) := by decide +kernel
theorem dL_law_1005 : decode zc_L_law 1005 = .ok (.iconst 0, 1) := by decide +kernel
theorem dL_law_1006 : decode zc_L_law 1006 = .ok (.ireturn, 1) := by decide +kernel
theorem dL_law_1007 : decode zc_L_law 1007 = .ok (.iload 5, 2) := by decide +kernel
theorem dL_law_1009 : decode zc_L_law 1009 = .ok (.ifCond .ne 15, 3) := by decide +kernel
theorem dL_law_1012 : decode zc_L_law 1012 = .ok (.aload_n 3, 1) := by decide +kernel
theorem dL_law_1013 : decode zc_L_law 1013 = .ok (.iconst 0, 1) := by decide +kernel
theorem dL_law_1014 : decode zc_L_law 1014 = .ok (.laload, 1) := by decide +kernel
theorem dL_law_1015 : decode zc_L_law 1015 = .ok (.iload 6, 2) := by decide +kernel
theorem dL_law_1017 : decode zc_L_law 1017 = .ok (.i2l, 1) := by decide +kernel
theorem dL_law_1018 : decode zc_L_law 1018 = .ok (.lcmp, 1) := by decide +kernel
theorem dL_law_1019 : decode zc_L_law 1019 = .ok (.ifCond .eq 5, 3) := by decide +kernel
theorem dL_law_1022 : decode zc_L_law 1022 = .ok (.iconst 0, 1) := by decide +kernel
theorem dL_law_1023 : decode zc_L_law 1023 = .ok (.ireturn, 1) := by decide +kernel
theorem dL_law_1024 : decode zc_L_law 1024 = .ok (.goto 454, 3) := by decide +kernel
theorem dL_law_1027 : decode zc_L_law 1027 = .ok (.aload_n 1, 1) := by decide +kernel
theorem dL_law_1028 : decode zc_L_law 1028 = .ok (.aload_n 0, 1) := by decide +kernel
theorem dL_law_1029 : decode zc_L_law 1029 = .ok (.iload 4, 2) := by decide +kernel
theorem dL_law_1031 : decode zc_L_law 1031 = .ok (.iconst 1, 1) := by decide +kernel
theorem dL_law_1032 : decode zc_L_law 1032 = .ok (.iadd, 1) := by decide +kernel
theorem dL_law_1033 : decode zc_L_law 1033 = .ok (.iaload, 1) := by decide +kernel
theorem dL_law_1034 : decode zc_L_law 1034 = .ok (.aload_n 0, 1) := by decide +kernel
theorem dL_law_1035 : decode zc_L_law 1035 = .ok (.iload 4, 2) := by decide +kernel
theorem dL_law_1037 : decode zc_L_law 1037 = .ok (.iconst 2, 1) := by decide +kernel
theorem dL_law_1038 : decode zc_L_law 1038 = .ok (.iadd, 1) := by decide +kernel
theorem dL_law_1039 : decode zc_L_law 1039 = .ok (.iaload, 1) := by decide +kernel
theorem dL_law_1040 : decode zc_L_law 1040 = .ok (.aload_n 3, 1) := by decide +kernel
theorem dL_law_1041 : decode zc_L_law 1041 = .ok (.invokestatic 137, 3) := by decide +kernel
theorem dL_law_1044 : decode zc_L_law 1044 = .ok (.istore 5, 2) := by decide +kernel
theorem dL_law_1046 : decode zc_L_law 1046 = .ok (.aload_n 2, 1) := by decide +kernel
theorem dL_law_1047 : decode zc_L_law 1047 = .ok (.aload_n 0, 1) := by decide +kernel
theorem dL_law_1048 : decode zc_L_law 1048 = .ok (.iload 4, 2) := by decide +kernel
theorem dL_law_1050 : decode zc_L_law 1050 = .ok (.iconst 1, 1) := by decide +kernel
theorem dL_law_1051 : decode zc_L_law 1051 = .ok (.iadd, 1) := by decide +kernel
theorem dL_law_1052 : decode zc_L_law 1052 = .ok (.iaload, 1) := by decide +kernel
theorem dL_law_1053 : decode zc_L_law 1053 = .ok (.aload_n 0, 1) := by decide +kernel
theorem dL_law_1054 : decode zc_L_law 1054 = .ok (.iload 4, 2) := by decide +kernel
theorem dL_law_1056 : decode zc_L_law 1056 = .ok (.iconst 2, 1) := by decide +kernel
theorem dL_law_1057 : decode zc_L_law 1057 = .ok (.iadd, 1) := by decide +kernel
theorem dL_law_1058 : decode zc_L_law 1058 = .ok (.iaload, 1) := by decide +kernel
theorem dL_law_1059 : decode zc_L_law 1059 = .ok (.invokevirtual 139, 3) := by decide +kernel
theorem dL_law_1062 : decode zc_L_law 1062 = .ok (.istore 6, 2) := by decide +kernel
theorem dL_law_1064 : decode zc_L_law 1064 = .ok (.aload_n 2, 1) := by decide +kernel
theorem dL_law_1065 : decode zc_L_law 1065 = .ok (.invokevirtual 92, 3) := by decide +kernel
theorem dL_law_1068 : decode zc_L_law 1068 = .ok (.iload 5, 2) := by decide +kernel
theorem dL_law_1070 : decode zc_L_law 1070 = .ok (.if_icmp .eq 5, 3) := by decide +kernel
theorem dL_law_1073 : decode zc_L_law 1073 = .ok (.iconst 0, 1) := by decide +kernel
theorem dL_law_1074 : decode zc_L_law 1074 = .ok (.ireturn, 1) := by decide +kernel
theorem dL_law_1075 : decode zc_L_law 1075 = .ok (.iload 5, 2) := by decide +kernel
theorem dL_law_1077 : decode zc_L_law 1077 = .ok (.ifCond .ne 15, 3) := by decide +kernel
theorem dL_law_1080 : decode zc_L_law 1080 = .ok (.aload_n 3, 1) := by decide +kernel
theorem dL_law_1081 : decode zc_L_law 1081 = .ok (.iconst 0, 1) := by decide +kernel
theorem dL_law_1082 : decode zc_L_law 1082 = .ok (.laload, 1) := by decide +kernel
theorem dL_law_1083 : decode zc_L_law 1083 = .ok (.iload 6, 2) := by decide +kernel
theorem dL_law_1085 : decode zc_L_law 1085 = .ok (.i2l, 1) := by decide +kernel
theorem dL_law_1086 : decode zc_L_law 1086 = .ok (.lcmp, 1) := by decide +kernel
