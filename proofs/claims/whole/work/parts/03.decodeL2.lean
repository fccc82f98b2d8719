theorem d_L_law_604 : decode b_L_law 604 = .ok (.aload_n 0, 1) := by decide +kernel
theorem d_L_law_605 : decode b_L_law 605 = .ok (.iload 4, 2) := by decide +kernel
theorem d_L_law_607 : decode b_L_law 607 = .ok (.iconst 1, 1) := by decide +kernel
theorem d_L_law_608 : decode b_L_law 608 = .ok (.iadd, 1) := by decide +kernel
theorem d_L_law_609 : decode b_L_law 609 = .ok (.iaload, 1) := by decide +kernel
theorem d_L_law_610 : decode b_L_law 610 = .ok (.aload_n 3, 1) := by decide +kernel
theorem d_L_law_611 : decode b_L_law 611 = .ok (.invokestatic 96, 3) := by decide +kernel
theorem d_L_law_614 : decode b_L_law 614 = .ok (.istore 5, 2) := by decide +kernel
theorem d_L_law_616 : decode b_L_law 616 = .ok (.aload_n 2, 1) := by decide +kernel
theorem d_L_law_617 : decode b_L_law 617 = .ok (.aload_n 0, 1) := by decide +kernel
theorem d_L_law_618 : decode b_L_law 618 = .ok (.iload 4, 2) := by decide +kernel
theorem d_L_law_620 : decode b_L_law 620 = .ok (.iconst 1, 1) := by decide +kernel
theorem d_L_law_621 : decode b_L_law 621 = .ok (.iadd, 1) := by decide +kernel
theorem d_L_law_622 : decode b_L_law 622 = .ok (.iaload, 1) := by decide +kernel
theorem d_L_law_623 : decode b_L_law 623 = .ok (.invokevirtual 99, 3) := by decide +kernel
theorem d_L_law_626 : decode b_L_law 626 = .ok (.istore 6, 2) := by decide +kernel
theorem d_L_law_628 : decode b_L_law 628 = .ok (.aload_n 2, 1) := by decide +kernel
theorem d_L_law_629 : decode b_L_law 629 = .ok (.invokevirtual 73, 3) := by decide +kernel
theorem d_L_law_632 : decode b_L_law 632 = .ok (.iload 5, 2) := by decide +kernel
theorem d_L_law_634 : decode b_L_law 634 = .ok (.if_icmp .eq 5, 3) := by decide +kernel
theorem d_L_law_637 : decode b_L_law 637 = .ok (.iconst 0, 1) := by decide +kernel
theorem d_L_law_638 : decode b_L_law 638 = .ok (.ireturn, 1) := by decide +kernel
theorem d_L_law_639 : decode b_L_law 639 = .ok (.iload 5, 2) := by decide +kernel
theorem d_L_law_641 : decode b_L_law 641 = .ok (.ifCond .ne 15, 3) := by decide +kernel
theorem d_L_law_644 : decode b_L_law 644 = .ok (.aload_n 3, 1) := by decide +kernel
theorem d_L_law_645 : decode b_L_law 645 = .ok (.iconst 0, 1) := by decide +kernel
theorem d_L_law_646 : decode b_L_law 646 = .ok (.laload, 1) := by decide +kernel
theorem d_L_law_647 : decode b_L_law 647 = .ok (.iload 6, 2) := by decide +kernel
theorem d_L_law_649 : decode b_L_law 649 = .ok (.i2l, 1) := by decide +kernel
theorem d_L_law_650 : decode b_L_law 650 = .ok (.lcmp, 1) := by decide +kernel
theorem d_L_law_651 : decode b_L_law 651 = .ok (.ifCond .eq 5, 3) := by decide +kernel
theorem d_L_law_654 : decode b_L_law 654 = .ok (.iconst 0, 1) := by decide +kernel
theorem d_L_law_655 : decode b_L_law 655 = .ok (.ireturn, 1) := by decide +kernel
theorem d_L_law_656 : decode b_L_law 656 = .ok (.goto 476, 3) := by decide +kernel
theorem d_L_law_659 : decode b_L_law 659 = .ok (.aload_n 1, 1) := by decide +kernel
theorem d_L_law_660 : decode b_L_law 660 = .ok (.invokevirtual 100, 3) := by decide +kernel
theorem d_L_law_663 : decode b_L_law 663 = .ok (.aload_n 2, 1) := by decide +kernel
theorem d_L_law_664 : decode b_L_law 664 = .ok (.invokevirtual 104, 3) := by decide +kernel
theorem d_L_law_667 : decode b_L_law 667 = .ok (.if_icmp .eq 465, 3) := by decide +kernel
theorem d_L_law_670 : decode b_L_law 670 = .ok (.iconst 0, 1) := by decide +kernel
theorem d_L_law_671 : decode b_L_law 671 = .ok (.ireturn, 1) := by decide +kernel
theorem d_L_law_672 : decode b_L_law 672 = .ok (.aload_n 1, 1) := by decide +kernel
theorem d_L_law_673 : decode b_L_law 673 = .ok (.invokevirtual 105, 3) := by decide +kernel
theorem d_L_law_676 : decode b_L_law 676 = .ok (.aload_n 2, 1) := by decide +kernel
theorem d_L_law_677 : decode b_L_law 677 = .ok (.invokevirtual 108, 3) := by decide +kernel
theorem d_L_law_680 : decode b_L_law 680 = .ok (.if_icmp .eq 452, 3) := by decide +kernel
theorem d_L_law_683 : decode b_L_law 683 = .ok (.iconst 0, 1) := by decide +kernel
theorem d_L_law_684 : decode b_L_law 684 = .ok (.ireturn, 1) := by decide +kernel
theorem d_L_law_685 : decode b_L_law 685 = .ok (.aload_n 1, 1) := by decide +kernel
theorem d_L_law_686 : decode b_L_law 686 = .ok (.invokevirtual 109, 3) := by decide +kernel
theorem d_L_law_689 : decode b_L_law 689 = .ok (.aload_n 2, 1) := by decide +kernel
theorem d_L_law_690 : decode b_L_law 690 = .ok (.invokevirtual 112, 3) := by decide +kernel
theorem d_L_law_693 : decode b_L_law 693 = .ok (.if_icmp .eq 439, 3) := by decide +kernel
theorem d_L_law_696 : decode b_L_law 696 = .ok (.iconst 0, 1) := by decide +kernel
theorem d_L_law_697 : decode b_L_law 697 = .ok (.ireturn, 1) := by decide +kernel
theorem d_L_law_698 : decode b_L_law 698 = .ok (.aload_n 1, 1) := by decide +kernel
theorem d_L_law_699 : decode b_L_law 699 = .ok (.aload_n 0, 1) := by decide +kernel
theorem d_L_law_700 : decode b_L_law 700 = .ok (.iload 4, 2) := by decide +kernel
theorem d_L_law_702 : decode b_L_law 702 = .ok (.iconst 1, 1) := by decide +kernel
theorem d_L_law_703 : decode b_L_law 703 = .ok (.iadd, 1) := by decide +kernel
theorem d_L_law_704 : decode b_L_law 704 = .ok (.iaload, 1) := by decide +kernel
theorem d_L_law_705 : decode b_L_law 705 = .ok (.aload_n 0, 1) := by decide +kernel
theorem d_L_law_706 : decode b_L_law 706 = .ok (.iload 4, 2) := by decide +kernel
theorem d_L_law_708 : decode b_L_law 708 = .ok (.iconst 2, 1) := by decide +kernel
theorem d_L_law_709 : decode b_L_law 709 = .ok (.iadd, 1) := by decide +kernel
theorem d_L_law_710 : decode b_L_law 710 = .ok (.iaload, 1) := by decide +kernel
theorem d_L_law_711 : decode b_L_law 711 = .ok (.aload_n 3, 1) := by decide +kernel
theorem d_L_law_712 : decode b_L_law 712 = .ok (.invokestatic 113, 3) := by decide +kernel
theorem d_L_law_715 : decode b_L_law 715 = .ok (.istore 5, 2) := by decide +kernel
theorem d_L_law_717 : decode b_L_law 717 = .ok (.aload_n 2, 1) := by decide +kernel
theorem d_L_law_718 : decode b_L_law 718 = .ok (.aload_n 0, 1) := by decide +kernel
theorem d_L_law_719 : decode b_L_law 719 = .ok (.iload 4, 2) := by decide +kernel
theorem d_L_law_721 : decode b_L_law 721 = .ok (.iconst 1, 1) := by decide +kernel
theorem d_L_law_722 : decode b_L_law 722 = .ok (.iadd, 1) := by decide +kernel
theorem d_L_law_723 : decode b_L_law 723 = .ok (.iaload, 1) := by decide +kernel
theorem d_L_law_724 : decode b_L_law 724 = .ok (.aload_n 0, 1) := by decide +kernel
theorem d_L_law_725 : decode b_L_law 725 = .ok (.iload 4, 2) := by decide +kernel
theorem d_L_law_727 : decode b_L_law 727 = .ok (.iconst 2, 1) := by decide +kernel
theorem d_L_law_728 : decode b_L_law 728 = .ok (.iadd, 1) := by decide +kernel
theorem d_L_law_729 : decode b_L_law 729 = .ok (.iaload, 1) := by decide +kernel
theorem d_L_law_730 : decode b_L_law 730 = .ok (.invokevirtual 116, 3) := by decide +kernel
theorem d_L_law_733 : decode b_L_law 733 = .ok (.istore 6, 2) := by decide +kernel
theorem d_L_law_735 : decode b_L_law 735 = .ok (.aload_n 2, 1) := by decide +kernel
theorem d_L_law_736 : decode b_L_law 736 = .ok (.invokevirtual 73, 3) := by decide +kernel
theorem d_L_law_739 : decode b_L_law 739 = .ok (.iload 5, 2) := by decide +kernel
theorem d_L_law_741 : decode b_L_law 741 = .ok (.if_icmp .eq 5, 3) := by decide +kernel
theorem d_L_law_744 : decode b_L_law 744 = .ok (.iconst 0, 1) := by decide +kernel
theorem d_L_law_745 : decode b_L_law 745 = .ok (.ireturn, 1) := by decide +kernel
theorem d_L_law_746 : decode b_L_law 746 = .ok (.iload 5, 2) := by decide +kernel
theorem d_L_law_748 : decode b_L_law 748 = .ok (.ifCond .ne 15, 3) := by decide +kernel
theorem d_L_law_751 : decode b_L_law 751 = .ok (.aload_n 3, 1) := by decide +kernel
theorem d_L_law_752 : decode b_L_law 752 = .ok (.iconst 0, 1) := by decide +kernel
theorem d_L_law_753 : decode b_L_law 753 = .ok (.laload, 1) := by decide +kernel
theorem d_L_law_754 : decode b_L_law 754 = .ok (.iload 6, 2) := by decide +kernel
theorem d_L_law_756 : decode b_L_law 756 = .ok (.i2l, 1) := by decide +kernel
theorem d_L_law_757 : decode b_L_law 757 = .ok (.lcmp, 1) := by decide +kernel
theorem d_L_law_758 : decode b_L_law 758 = .ok (.ifCond .eq 5, 3) := by decide +kernel
theorem d_L_law_761 : decode b_L_law 761 = .ok (.iconst 0, 1) := by decide +kernel
theorem d_L_law_762 : decode b_L_law 762 = .ok (.ireturn, 1) := by decide +kernel
theorem d_L_law_763 : decode b_L_law 763 = .ok (.goto 369, 3) := by decide +kernel
theorem d_L_law_766 : decode b_L_law 766 = .ok (.aload_n 1, 1) := by decide +kernel
theorem d_L_law_767 : decode b_L_law 767 = .ok (.aload_n 0, 1) := by decide +kernel
theorem d_L_law_768 : decode b_L_law 768 = .ok (.iload 4, 2) := by decide +kernel
theorem d_L_law_770 : decode b_L_law 770 = .ok (.iconst 1, 1) := by decide +kernel
theorem d_L_law_771 : decode b_L_law 771 = .ok (.iadd, 1) := by decide +kernel
theorem d_L_law_772 : decode b_L_law 772 = .ok (.iaload, 1) := by decide +kernel
theorem d_L_law_773 : decode b_L_law 773 = .ok (.aload_n 3, 1) := by decide +kernel
theorem d_L_law_774 : decode b_L_law 774 = .ok (.invokestatic 117, 3) := by decide +kernel
theorem d_L_law_777 : decode b_L_law 777 = .ok (.istore 5, 2) := by decide +kernel
theorem d_L_law_779 : decode b_L_law 779 = .ok (.aload_n 2, 1) := by decide +kernel
theorem d_L_law_780 : decode b_L_law 780 = .ok (.aload_n 0, 1) := by decide +kernel
theorem d_L_law_781 : decode b_L_law 781 = .ok (.iload 4, 2) := by decide +kernel
theorem d_L_law_783 : decode b_L_law 783 = .ok (.iconst 1, 1) := by decide +kernel
theorem d_L_law_784 : decode b_L_law 784 = .ok (.iadd, 1) := by decide +kernel
theorem d_L_law_785 : decode b_L_law 785 = .ok (.iaload, 1) := by decide +kernel
theorem d_L_law_786 : decode b_L_law 786 = .ok (.invokevirtual 119, 3) := by decide +kernel
theorem d_L_law_789 : decode b_L_law 789 = .ok (.istore 6, 2) := by decide +kernel
theorem d_L_law_791 : decode b_L_law 791 = .ok (.aload_n 2, 1) := by decide +kernel
theorem d_L_law_792 : decode b_L_law 792 = .ok (.invokevirtual 73, 3) := by decide +kernel
theorem d_L_law_795 : decode b_L_law 795 = .ok (.iload 5, 2) := by decide +kernel
theorem d_L_law_797 : decode b_L_law 797 = .ok (.if_icmp .eq 5, 3) := by decide +kernel
theorem d_L_law_800 : decode b_L_law 800 = .ok (.iconst 0, 1) := by decide +kernel
theorem d_L_law_801 : decode b_L_law 801 = .ok (.ireturn, 1) := by decide +kernel
theorem d_L_law_802 : decode b_L_law 802 = .ok (.iload 5, 2) := by decide +kernel
theorem d_L_law_804 : decode b_L_law 804 = .ok (.ifCond .ne 15, 3) := by decide +kernel
theorem d_L_law_807 : decode b_L_law 807 = .ok (.aload_n 3, 1) := by decide +kernel
theorem d_L_law_808 : decode b_L_law 808 = .ok (.iconst 0, 1) := by decide +kernel
theorem d_L_law_809 : decode b_L_law 809 = .ok (.laload, 1) := by decide +kernel
theorem d_L_law_810 : decode b_L_law 810 = .ok (.iload 6, 2) := by decide +kernel
theorem d_L_law_812 : decode b_L_law 812 = .ok (.i2l, 1) := by decide +kernel
theorem d_L_law_813 : decode b_L_law 813 = .ok (.lcmp, 1) := by decide +kernel
theorem d_L_law_814 : decode b_L_law 814 = .ok (.ifCond .eq 5, 3) := by decide +kernel
theorem d_L_law_817 : decode b_L_law 817 = .ok (.iconst 0, 1) := by decide +kernel
theorem d_L_law_818 : decode b_L_law 818 = .ok (.ireturn, 1) := by decide +kernel
theorem d_L_law_819 : decode b_L_law 819 = .ok (.goto 313, 3) := by decide +kernel
theorem d_L_law_822 : decode b_L_law 822 = .ok (.aload_n 1, 1) := by decide +kernel
theorem d_L_law_823 : decode b_L_law 823 = .ok (.aload_n 0, 1) := by decide +kernel
theorem d_L_law_824 : decode b_L_law 824 = .ok (.iload 4, 2) := by decide +kernel
theorem d_L_law_826 : decode b_L_law 826 = .ok (.iconst 1, 1) := by decide +kernel
theorem d_L_law_827 : decode b_L_law 827 = .ok (.iadd, 1) := by decide +kernel
theorem d_L_law_828 : decode b_L_law 828 = .ok (.iaload, 1) := by decide +kernel
theorem d_L_law_829 : decode b_L_law 829 = .ok (.aload_n 0, 1) := by decide +kernel
theorem d_L_law_830 : decode b_L_law 830 = .ok (.iload 4, 2) := by decide +kernel
theorem d_L_law_832 : decode b_L_law 832 = .ok (.iconst 2, 1) := by decide +kernel
theorem d_L_law_833 : decode b_L_law 833 = .ok (.iadd, 1) := by decide +kernel
theorem d_L_law_834 : decode b_L_law 834 = .ok (.iaload, 1) := by decide +kernel
theorem d_L_law_835 : decode b_L_law 835 = .ok (.aload_n 3, 1) := by decide +kernel
theorem d_L_law_836 : decode b_L_law 836 = .ok (.invokestatic 120, 3) := by decide +kernel
theorem d_L_law_839 : decode b_L_law 839 = .ok (.istore 5, 2) := by decide +kernel
theorem d_L_law_841 : decode b_L_law 841 = .ok (.aload_n 2, 1) := by decide +kernel
theorem d_L_law_842 : decode b_L_law 842 = .ok (.aload_n 0, 1) := by decide +kernel
theorem d_L_law_843 : decode b_L_law 843 = .ok (.iload 4, 2) := by decide +kernel
theorem d_L_law_845 : decode b_L_law 845 = .ok (.iconst 1, 1) := by decide +kernel
theorem d_L_law_846 : decode b_L_law 846 = .ok (.iadd, 1) := by decide +kernel
theorem d_L_law_847 : decode b_L_law 847 = .ok (.iaload, 1) := by decide +kernel
theorem d_L_law_848 : decode b_L_law 848 = .ok (.aload_n 0, 1) := by decide +kernel
theorem d_L_law_849 : decode b_L_law 849 = .ok (.iload 4, 2) := by decide +kernel
theorem d_L_law_851 : decode b_L_law 851 = .ok (.iconst 2, 1) := by decide +kernel
theorem d_L_law_852 : decode b_L_law 852 = .ok (.iadd, 1) := by decide +kernel
theorem d_L_law_853 : decode b_L_law 853 = .ok (.iaload, 1) := by decide +kernel
theorem d_L_law_854 : decode b_L_law 854 = .ok (.invokevirtual 122, 3) := by decide +kernel
theorem d_L_law_857 : decode b_L_law 857 = .ok (.istore 6, 2) := by decide +kernel
theorem d_L_law_859 : decode b_L_law 859 = .ok (.aload_n 2, 1) := by decide +kernel
theorem d_L_law_860 : decode b_L_law 860 = .ok (.invokevirtual 73, 3) := by decide +kernel
theorem d_L_law_863 : decode b_L_law 863 = .ok (.iload 5, 2) := by decide +kernel
theorem d_L_law_865 : decode b_L_law 865 = .ok (.if_icmp .eq 5, 3) := by decide +kernel
theorem d_L_law_868 : decode b_L_law 868 = .ok (.iconst 0, 1) := by decide +kernel
theorem d_L_law_869 : decode b_L_law 869 = .ok (.ireturn, 1) := by decide +kernel
theorem d_L_law_870 : decode b_L_law 870 = .ok (.iload 5, 2) := by decide +kernel
theorem d_L_law_872 : decode b_L_law 872 = .ok (.ifCond .ne 15, 3) := by decide +kernel
theorem d_L_law_875 : decode b_L_law 875 = .ok (.aload_n 3, 1) := by decide +kernel
theorem d_L_law_876 : decode b_L_law 876 = .ok (.iconst 0, 1) := by decide +kernel
theorem d_L_law_877 : decode b_L_law 877 = .ok (.laload, 1) := by decide +kernel
theorem d_L_law_878 : decode b_L_law 878 = .ok (.iload 6, 2) := by decide +kernel
theorem d_L_law_880 : decode b_L_law 880 = .ok (.i2l, 1) := by decide +kernel
theorem d_L_law_881 : decode b_L_law 881 = .ok (.lcmp, 1) := by decide +kernel
theorem d_L_law_882 : decode b_L_law 882 = .ok (.ifCond .eq 5, 3) := by decide +kernel
theorem d_L_law_885 : decode b_L_law 885 = .ok (.iconst 0, 1) := by decide +kernel
theorem d_L_law_886 : decode b_L_law 886 = .ok (.ireturn, 1) := by decide +kernel
theorem d_L_law_887 : decode b_L_law 887 = .ok (.goto 245, 3) := by decide +kernel
theorem d_L_law_890 : decode b_L_law 890 = .ok (.aload_n 1, 1) := by decide +kernel
theorem d_L_law_891 : decode b_L_law 891 = .ok (.aload_n 0, 1) := by decide +kernel
theorem d_L_law_892 : decode b_L_law 892 = .ok (.iload 4, 2) := by decide +kernel
theorem d_L_law_894 : decode b_L_law 894 = .ok (.iconst 1, 1) := by decide +kernel
theorem d_L_law_895 : decode b_L_law 895 = .ok (.iadd, 1) := by decide +kernel
theorem d_L_law_896 : decode b_L_law 896 = .ok (.iaload, 1) := by decide +kernel
theorem d_L_law_897 : decode b_L_law 897 = .ok (.aload_n 0, 1) := by decide +kernel
theorem d_L_law_898 : decode b_L_law 898 = .ok (.iload 4, 2) := by decide +kernel
theorem d_L_law_900 : decode b_L_law 900 = .ok (.iconst 2, 1) := by decide +kernel
theorem d_L_law_901 : decode b_L_law 901 = .ok (.iadd, 1) := by decide +kernel
theorem d_L_law_902 : decode b_L_law 902 = .ok (.iaload, 1) := by decide +kernel
theorem d_L_law_903 : decode b_L_law 903 = .ok (.aload_n 3, 1) := by decide +kernel
theorem d_L_law_904 : decode b_L_law 904 = .ok (.invokestatic 123, 3) := by decide +kernel
theorem d_L_law_907 : decode b_L_law 907 = .ok (.istore 5, 2) := by decide +kernel
theorem d_L_law_909 : decode b_L_law 909 = .ok (.aload_n 2, 1) := by decide +kernel
theorem d_L_law_910 : decode b_L_law 910 = .ok (.aload_n 0, 1) := by decide +kernel
theorem d_L_law_911 : decode b_L_law 911 = .ok (.iload 4, 2) := by decide +kernel
theorem d_L_law_913 : decode b_L_law 913 = .ok (.iconst 1, 1) := by decide +kernel
theorem d_L_law_914 : decode b_L_law 914 = .ok (.iadd, 1) := by decide +kernel
theorem d_L_law_915 : decode b_L_law 915 = .ok (.iaload, 1) := by decide +kernel
theorem d_L_law_916 : decode b_L_law 916 = .ok (.aload_n 0, 1) := by decide +kernel
theorem d_L_law_917 : decode b_L_law 917 = .ok (.iload 4, 2) := by decide +kernel
theorem d_L_law_919 : decode b_L_law 919 = .ok (.iconst 2, 1) := by decide +kernel
theorem d_L_law_920 : decode b_L_law 920 = .ok (.iadd, 1) := by decide +kernel
theorem d_L_law_921 : decode b_L_law 921 = .ok (.iaload, 1) := by decide +kernel
theorem d_L_law_922 : decode b_L_law 922 = .ok (.invokevirtual 125, 3) := by decide +kernel
theorem d_L_law_925 : decode b_L_law 925 = .ok (.istore 6, 2) := by decide +kernel
theorem d_L_law_927 : decode b_L_law 927 = .ok (.aload_n 2, 1) := by decide +kernel
theorem d_L_law_928 : decode b_L_law 928 = .ok (.invokevirtual 73, 3) := by decide +kernel
theorem d_L_law_931 : decode b_L_law 931 = .ok (.iload 5, 2) := by decide +kernel
theorem d_L_law_933 : decode b_L_law 933 = .ok (.if_icmp .eq 5, 3) := by decide +kernel
theorem d_L_law_936 : decode b_L_law 936 = .ok (.iconst 0, 1) := by decide +kernel
theorem d_L_law_937 : decode b_L_law 937 = .ok (.ireturn, 1) := by decide +kernel
theorem d_L_law_938 : decode b_L_law 938 = .ok (.iload 5, 2) := by decide +kernel
theorem d_L_law_940 : decode b_L_law 940 = .ok (.ifCond .ne 15, 3) := by decide +kernel
theorem d_L_law_943 : decode b_L_law 943 = .ok (.aload_n 3, 1) := by decide +kernel
theorem d_L_law_944 : decode b_L_law 944 = .ok (.iconst 0, 1) := by decide +kernel
theorem d_L_law_945 : decode b_L_law 945 = .ok (.laload, 1) := by decide +kernel
theorem d_L_law_946 : decode b_L_law 946 = .ok (.iload 6, 2) := by decide +kernel
theorem d_L_law_948 : decode b_L_law 948 = .ok (.i2l, 1) := by decide +kernel
theorem d_L_law_949 : decode b_L_law 949 = .ok (.lcmp, 1) := by decide +kernel
theorem d_L_law_950 : decode b_L_law 950 = .ok (.ifCond .eq 5, 3) := by decide +kernel
theorem d_L_law_953 : decode b_L_law 953 = .ok (.iconst 0, 1) := by decide +kernel
theorem d_L_law_954 : decode b_L_law 954 = .ok (.ireturn, 1) := by decide +kernel
theorem d_L_law_955 : decode b_L_law 955 = .ok (.goto 177, 3) := by decide +kernel
theorem d_L_law_958 : decode b_L_law 958 = .ok (.aload_n 1, 1) := by decide +kernel
theorem d_L_law_959 : decode b_L_law 959 = .ok (.aload_n 0, 1) := by decide +kernel
theorem d_L_law_960 : decode b_L_law 960 = .ok (.iload 4, 2) := by decide +kernel
theorem d_L_law_962 : decode b_L_law 962 = .ok (.iconst 1, 1) := by decide +kernel
theorem d_L_law_963 : decode b_L_law 963 = .ok (.iadd, 1) := by decide +kernel
theorem d_L_law_964 : decode b_L_law 964 = .ok (.iaload, 1) := by decide +kernel
theorem d_L_law_965 : decode b_L_law 965 = .ok (.aload_n 0, 1) := by decide +kernel
theorem d_L_law_966 : decode b_L_law 966 = .ok (.iload 4, 2) := by decide +kernel
theorem d_L_law_968 : decode b_L_law 968 = .ok (.iconst 2, 1) := by decide +kernel
theorem d_L_law_969 : decode b_L_law 969 = .ok (.iadd, 1) := by decide +kernel
theorem d_L_law_970 : decode b_L_law 970 = .ok (.iaload, 1) := by decide +kernel
theorem d_L_law_971 : decode b_L_law 971 = .ok (.aload_n 3, 1) := by decide +kernel
theorem d_L_law_972 : decode b_L_law 972 = .ok (.invokestatic 126, 3) := by decide +kernel
theorem d_L_law_975 : decode b_L_law 975 = .ok (.istore 5, 2) := by decide +kernel
theorem d_L_law_977 : decode b_L_law 977 = .ok (.aload_n 2, 1) := by decide +kernel
theorem d_L_law_978 : decode b_L_law 978 = .ok (.aload_n 0, 1) := by decide +kernel
theorem d_L_law_979 : decode b_L_law 979 = .ok (.iload 4, 2) := by decide +kernel
theorem d_L_law_981 : decode b_L_law 981 = .ok (.iconst 1, 1) := by decide +kernel
theorem d_L_law_982 : decode b_L_law 982 = .ok (.iadd, 1) := by decide +kernel
theorem d_L_law_983 : decode b_L_law 983 = .ok (.iaload, 1) := by decide +kernel
theorem d_L_law_984 : decode b_L_law 984 = .ok (.aload_n 0, 1) := by decide +kernel
theorem d_L_law_985 : decode b_L_law 985 = .ok (.iload 4, 2) := by decide +kernel
theorem d_L_law_987 : decode b_L_law 987 = .ok (.iconst 2, 1) := by decide +kernel
theorem d_L_law_988 : decode b_L_law 988 = .ok (.iadd, 1) := by decide +kernel
theorem d_L_law_989 : decode b_L_law 989 = .ok (.iaload, 1) := by decide +kernel
theorem d_L_law_990 : decode b_L_law 990 = .ok (.invokevirtual 128, 3) := by decide +kernel
theorem d_L_law_993 : decode b_L_law 993 = .ok (.istore 6, 2) := by decide +kernel
theorem d_L_law_995 : decode b_L_law 995 = .ok (.aload_n 2, 1) := by decide +kernel
theorem d_L_law_996 : decode b_L_law 996 = .ok (.invokevirtual 73, 3) := by decide +kernel
theorem d_L_law_999 : decode b_L_law 999 = .ok (.iload 5, 2) := by decide +kernel
theorem d_L_law_1001 : decode b_L_law 1001 = .ok (.if_icmp .eq 5, 3) := by decide +kernel
theorem d_L_law_1004 : decode b_L_law 1004 = .ok (.iconst 0, 1) := by decide +kernel
theorem d_L_law_1005 : decode b_L_law 1005 = .ok (.ireturn, 1) := by decide +kernel
theorem d_L_law_1006 : decode b_L_law 1006 = .ok (.iload 5, 2) := by decide +kernel
theorem d_L_law_1008 : decode b_L_law 1008 = .ok (.ifCond .ne 15, 3) := by decide +kernel
theorem d_L_law_1011 : decode b_L_law 1011 = .ok (.aload_n 3, 1) := by decide +kernel
theorem d_L_law_1012 : decode b_L_law 1012 = .ok (.iconst 0, 1) := by decide +kernel
theorem d_L_law_1013 : decode b_L_law 1013 = .ok (.laload, 1) := by decide +kernel
theorem d_L_law_1014 : decode b_L_law 1014 = .ok (.iload 6, 2) := by decide +kernel
theorem d_L_law_1016 : decode b_L_law 1016 = .ok (.i2l, 1) := by decide +kernel
theorem d_L_law_1017 : decode b_L_law 1017 = .ok (.lcmp, 1) := by decide +kernel
theorem d_L_law_1018 : decode b_L_law 1018 = .ok (.ifCond .eq 5, 3) := by decide +kernel
theorem d_L_law_1021 : decode b_L_law 1021 = .ok (.iconst 0, 1) := by decide +kernel
theorem d_L_law_1022 : decode b_L_law 1022 = .ok (.ireturn, 1) := by decide +kernel
theorem d_L_law_1023 : decode b_L_law 1023 = .ok (.goto 109, 3) := by decide +kernel
theorem d_L_law_1026 : decode b_L_law 1026 = .ok (.aload_n 1, 1) := by decide +kernel
theorem d_L_law_1027 : decode b_L_law 1027 = .ok (.aload_n 0, 1) := by decide +kernel
theorem d_L_law_1028 : decode b_L_law 1028 = .ok (.iload 4, 2) := by decide +kernel
theorem d_L_law_1030 : decode b_L_law 1030 = .ok (.iconst 1, 1) := by decide +kernel
theorem d_L_law_1031 : decode b_L_law 1031 = .ok (.iadd, 1) := by decide +kernel
theorem d_L_law_1032 : decode b_L_law 1032 = .ok (.iaload, 1) := by decide +kernel
theorem d_L_law_1033 : decode b_L_law 1033 = .ok (.aload_n 0, 1) := by decide +kernel
theorem d_L_law_1034 : decode b_L_law 1034 = .ok (.iload 4, 2) := by decide +kernel
theorem d_L_law_1036 : decode b_L_law 1036 = .ok (.iconst 2, 1) := by decide +kernel
theorem d_L_law_1037 : decode b_L_law 1037 = .ok (.iadd, 1) := by decide +kernel
theorem d_L_law_1038 : decode b_L_law 1038 = .ok (.iaload, 1) := by decide +kernel
theorem d_L_law_1039 : decode b_L_law 1039 = .ok (.aload_n 3, 1) := by decide +kernel
theorem d_L_law_1040 : decode b_L_law 1040 = .ok (.invokestatic 129, 3) := by decide +kernel
theorem d_L_law_1043 : decode b_L_law 1043 = .ok (.istore 5, 2) := by decide +kernel
theorem d_L_law_1045 : decode b_L_law 1045 = .ok (.aload_n 2, 1) := by decide +kernel
theorem d_L_law_1046 : decode b_L_law 1046 = .ok (.aload_n 0, 1) := by decide +kernel
theorem d_L_law_1047 : decode b_L_law 1047 = .ok (.iload 4, 2) := by decide +kernel
theorem d_L_law_1049 : decode b_L_law 1049 = .ok (.iconst 1, 1) := by decide +kernel
theorem d_L_law_1050 : decode b_L_law 1050 = .ok (.iadd, 1) := by decide +kernel
theorem d_L_law_1051 : decode b_L_law 1051 = .ok (.iaload, 1) := by decide +kernel
theorem d_L_law_1052 : decode b_L_law 1052 = .ok (.aload_n 0, 1) := by decide +kernel
theorem d_L_law_1053 : decode b_L_law 1053 = .ok (.iload 4, 2) := by decide +kernel
theorem d_L_law_1055 : decode b_L_law 1055 = .ok (.iconst 2, 1) := by decide +kernel
theorem d_L_law_1056 : decode b_L_law 1056 = .ok (.iadd, 1) := by decide +kernel
theorem d_L_law_1057 : decode b_L_law 1057 = .ok (.iaload, 1) := by decide +kernel
theorem d_L_law_1058 : decode b_L_law 1058 = .ok (.invokevirtual 131, 3) := by decide +kernel
theorem d_L_law_1061 : decode b_L_law 1061 = .ok (.istore 6, 2) := by decide +kernel
theorem d_L_law_1063 : decode b_L_law 1063 = .ok (.aload_n 2, 1) := by decide +kernel
theorem d_L_law_1064 : decode b_L_law 1064 = .ok (.invokevirtual 73, 3) := by decide +kernel
theorem d_L_law_1067 : decode b_L_law 1067 = .ok (.iload 5, 2) := by decide +kernel
theorem d_L_law_1069 : decode b_L_law 1069 = .ok (.if_icmp .eq 5, 3) := by decide +kernel
theorem d_L_law_1072 : decode b_L_law 1072 = .ok (.iconst 0, 1) := by decide +kernel
theorem d_L_law_1073 : decode b_L_law 1073 = .ok (.ireturn, 1) := by decide +kernel
theorem d_L_law_1074 : decode b_L_law 1074 = .ok (.iload 5, 2) := by decide +kernel
theorem d_L_law_1076 : decode b_L_law 1076 = .ok (.ifCond .ne 15, 3) := by decide +kernel
theorem d_L_law_1079 : decode b_L_law 1079 = .ok (.aload_n 3, 1) := by decide +kernel
theorem d_L_law_1080 : decode b_L_law 1080 = .ok (.iconst 0, 1) := by decide +kernel
theorem d_L_law_1081 : decode b_L_law 1081 = .ok (.laload, 1) := by decide +kernel
theorem d_L_law_1082 : decode b_L_law 1082 = .ok (.iload 6, 2) := by decide +kernel
theorem d_L_law_1084 : decode b_L_law 1084 = .ok (.i2l, 1) := by decide +kernel
theorem d_L_law_1085 : decode b_L_law 1085 = .ok (.lcmp, 1) := by decide +kernel
theorem d_L_law_1086 : decode b_L_law 1086 = .ok (.ifCond .eq 5, 3) := by decide +kernel
theorem d_L_law_1089 : decode b_L_law 1089 = .ok (.iconst 0, 1) := by decide +kernel
theorem d_L_law_1090 : decode b_L_law 1090 = .ok (.ireturn, 1) := by decide +kernel
theorem d_L_law_1091 : decode b_L_law 1091 = .ok (.goto 41, 3) := by decide +kernel
theorem d_L_law_1094 : decode b_L_law 1094 = .ok (.aload_n 1, 1) := by decide +kernel
theorem d_L_law_1095 : decode b_L_law 1095 = .ok (.invokevirtual 132, 3) := by decide +kernel
theorem d_L_law_1098 : decode b_L_law 1098 = .ok (.aload_n 2, 1) := by decide +kernel
theorem d_L_law_1099 : decode b_L_law 1099 = .ok (.invokevirtual 135, 3) := by decide +kernel
theorem d_L_law_1102 : decode b_L_law 1102 = .ok (.if_icmp .eq 30, 3) := by decide +kernel
theorem d_L_law_1105 : decode b_L_law 1105 = .ok (.iconst 0, 1) := by decide +kernel
theorem d_L_law_1106 : decode b_L_law 1106 = .ok (.ireturn, 1) := by decide +kernel
theorem d_L_law_1107 : decode b_L_law 1107 = .ok (.aload_n 1, 1) := by decide +kernel
theorem d_L_law_1108 : decode b_L_law 1108 = .ok (.aload_n 0, 1) := by decide +kernel
theorem d_L_law_1109 : decode b_L_law 1109 = .ok (.iload 4, 2) := by decide +kernel
theorem d_L_law_1111 : decode b_L_law 1111 = .ok (.iconst 1, 1) := by decide +kernel
theorem d_L_law_1112 : decode b_L_law 1112 = .ok (.iadd, 1) := by decide +kernel
theorem d_L_law_1113 : decode b_L_law 1113 = .ok (.iaload, 1) := by decide +kernel
theorem d_L_law_1114 : decode b_L_law 1114 = .ok (.invokevirtual 136, 3) := by decide +kernel
theorem d_L_law_1117 : decode b_L_law 1117 = .ok (.aload_n 2, 1) := by decide +kernel
theorem d_L_law_1118 : decode b_L_law 1118 = .ok (.aload_n 0, 1) := by decide +kernel
theorem d_L_law_1119 : decode b_L_law 1119 = .ok (.iload 4, 2) := by decide +kernel
theorem d_L_law_1121 : decode b_L_law 1121 = .ok (.iconst 1, 1) := by decide +kernel
theorem d_L_law_1122 : decode b_L_law 1122 = .ok (.iadd, 1) := by decide +kernel
theorem d_L_law_1123 : decode b_L_law 1123 = .ok (.iaload, 1) := by decide +kernel
theorem d_L_law_1124 : decode b_L_law 1124 = .ok (.invokevirtual 139, 3) := by decide +kernel
theorem d_L_law_1127 : decode b_L_law 1127 = .ok (.if_icmp .eq 5, 3) := by decide +kernel
theorem d_L_law_1130 : decode b_L_law 1130 = .ok (.iconst 0, 1) := by decide +kernel
theorem d_L_law_1131 : decode b_L_law 1131 = .ok (.ireturn, 1) := by decide +kernel
theorem d_L_law_1132 : decode b_L_law 1132 = .ok (.iinc 4 5, 3) := by decide +kernel
theorem d_L_law_1135 : decode b_L_law 1135 = .ok (.goto (-1112), 3) := by decide +kernel
theorem d_L_law_1138 : decode b_L_law 1138 = .ok (.iconst 1, 1) := by decide +kernel
theorem d_L_law_1139 : decode b_L_law 1139 = .ok (.ireturn, 1) := by decide +kernel
