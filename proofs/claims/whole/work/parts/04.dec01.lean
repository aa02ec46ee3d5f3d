theorem dI_L_law_684 : decode bC_L_law 684 = .ok (.iload 6, 2) := by decide +kernel
theorem dI_L_law_686 : decode bC_L_law 686 = .ok (.i2l, 1) := by decide +kernel
theorem dI_L_law_687 : decode bC_L_law 687 = .ok (.lcmp, 1) := by decide +kernel
theorem dI_L_law_688 : decode bC_L_law 688 = .ok (.ifCond .eq 5, 3) := by decide +kernel
theorem dI_L_law_691 : decode bC_L_law 691 = .ok (.iconst 0, 1) := by decide +kernel
theorem dI_L_law_692 : decode bC_L_law 692 = .ok (.ireturn, 1) := by decide +kernel
theorem dI_L_law_693 : decode bC_L_law 693 = .ok (.goto 456, 3) := by decide +kernel
theorem dI_L_law_696 : decode bC_L_law 696 = .ok (.aload_n 1, 1) := by decide +kernel
theorem dI_L_law_697 : decode bC_L_law 697 = .ok (.aload_n 0, 1) := by decide +kernel
theorem dI_L_law_698 : decode bC_L_law 698 = .ok (.iload 4, 2) := by decide +kernel
theorem dI_L_law_700 : decode bC_L_law 700 = .ok (.iconst 1, 1) := by decide +kernel
theorem dI_L_law_701 : decode bC_L_law 701 = .ok (.iadd, 1) := by decide +kernel
theorem dI_L_law_702 : decode bC_L_law 702 = .ok (.iaload, 1) := by decide +kernel
theorem dI_L_law_703 : decode bC_L_law 703 = .ok (.aload_n 3, 1) := by decide +kernel
theorem dI_L_law_704 : decode bC_L_law 704 = .ok (.invokestatic 118, 3) := by decide +kernel
theorem dI_L_law_707 : decode bC_L_law 707 = .ok (.istore 5, 2) := by decide +kernel
theorem dI_L_law_709 : decode bC_L_law 709 = .ok (.aload_n 2, 1) := by decide +kernel
theorem dI_L_law_710 : decode bC_L_law 710 = .ok (.aload_n 0, 1) := by decide +kernel
theorem dI_L_law_711 : decode bC_L_law 711 = .ok (.iload 4, 2) := by decide +kernel
theorem dI_L_law_713 : decode bC_L_law 713 = .ok (.iconst 1, 1) := by decide +kernel
theorem dI_L_law_714 : decode bC_L_law 714 = .ok (.iadd, 1) := by decide +kernel
theorem dI_L_law_715 : decode bC_L_law 715 = .ok (.iaload, 1) := by decide +kernel
theorem dI_L_law_716 : decode bC_L_law 716 = .ok (.invokevirtual 121, 3) := by decide +kernel
theorem dI_L_law_719 : decode bC_L_law 719 = .ok (.istore 6, 2) := by decide +kernel
theorem dI_L_law_721 : decode bC_L_law 721 = .ok (.aload_n 2, 1) := by decide +kernel
theorem dI_L_law_722 : decode bC_L_law 722 = .ok (.invokevirtual 86, 3) := by decide +kernel
theorem dI_L_law_725 : decode bC_L_law 725 = .ok (.iload 5, 2) := by decide +kernel
theorem dI_L_law_727 : decode bC_L_law 727 = .ok (.if_icmp .eq 5, 3) := by decide +kernel
theorem dI_L_law_730 : decode bC_L_law 730 = .ok (.iconst 0, 1) := by decide +kernel
theorem dI_L_law_731 : decode bC_L_law 731 = .ok (.ireturn, 1) := by decide +kernel
theorem dI_L_law_732 : decode bC_L_law 732 = .ok (.iload 5, 2) := by decide +kernel
theorem dI_L_law_734 : decode bC_L_law 734 = .ok (.ifCond .ne 15, 3) := by decide +kernel
theorem dI_L_law_737 : decode bC_L_law 737 = .ok (.aload_n 3, 1) := by decide +kernel
theorem dI_L_law_738 : decode bC_L_law 738 = .ok (.iconst 0, 1) := by decide +kernel
theorem dI_L_law_739 : decode bC_L_law 739 = .ok (.laload, 1) := by decide +kernel
theorem dI_L_law_740 : decode bC_L_law 740 = .ok (.iload 6, 2) := by decide +kernel
theorem dI_L_law_742 : decode bC_L_law 742 = .ok (.i2l, 1) := by decide +kernel
theorem dI_L_law_743 : decode bC_L_law 743 = .ok (.lcmp, 1) := by decide +kernel
theorem dI_L_law_744 : decode bC_L_law 744 = .ok (.ifCond .eq 5, 3) := by decide +kernel
theorem dI_L_law_747 : decode bC_L_law 747 = .ok (.iconst 0, 1) := by decide +kernel
theorem dI_L_law_748 : decode bC_L_law 748 = .ok (.ireturn, 1) := by decide +kernel
theorem dI_L_law_749 : decode bC_L_law 749 = .ok (.goto 400, 3) := by decide +kernel
theorem dI_L_law_752 : decode bC_L_law 752 = .ok (.aload_n 1, 1) := by decide +kernel
theorem dI_L_law_753 : decode bC_L_law 753 = .ok (.aload_n 0, 1) := by decide +kernel
theorem dI_L_law_754 : decode bC_L_law 754 = .ok (.iload 4, 2) := by decide +kernel
theorem dI_L_law_756 : decode bC_L_law 756 = .ok (.iconst 1, 1) := by decide +kernel
theorem dI_L_law_757 : decode bC_L_law 757 = .ok (.iadd, 1) := by decide +kernel
theorem dI_L_law_758 : decode bC_L_law 758 = .ok (.iaload, 1) := by decide +kernel
theorem dI_L_law_759 : decode bC_L_law 759 = .ok (.aload_n 0, 1) := by decide +kernel
theorem dI_L_law_760 : decode bC_L_law 760 = .ok (.iload 4, 2) := by decide +kernel
theorem dI_L_law_762 : decode bC_L_law 762 = .ok (.iconst 2, 1) := by decide +kernel
theorem dI_L_law_763 : decode bC_L_law 763 = .ok (.iadd, 1) := by decide +kernel
theorem dI_L_law_764 : decode bC_L_law 764 = .ok (.iaload, 1) := by decide +kernel
theorem dI_L_law_765 : decode bC_L_law 765 = .ok (.aload_n 3, 1) := by decide +kernel
theorem dI_L_law_766 : decode bC_L_law 766 = .ok (.invokestatic 122, 3) := by decide +kernel
theorem dI_L_law_769 : decode bC_L_law 769 = .ok (.istore 5, 2) := by decide +kernel
theorem dI_L_law_771 : decode bC_L_law 771 = .ok (.aload_n 2, 1) := by decide +kernel
theorem dI_L_law_772 : decode bC_L_law 772 = .ok (.aload_n 0, 1) := by decide +kernel
theorem dI_L_law_773 : decode bC_L_law 773 = .ok (.iload 4, 2) := by decide +kernel
theorem dI_L_law_775 : decode bC_L_law 775 = .ok (.iconst 1, 1) := by decide +kernel
theorem dI_L_law_776 : decode bC_L_law 776 = .ok (.iadd, 1) := by decide +kernel
theorem dI_L_law_777 : decode bC_L_law 777 = .ok (.iaload, 1) := by decide +kernel
theorem dI_L_law_778 : decode bC_L_law 778 = .ok (.aload_n 0, 1) := by decide +kernel
theorem dI_L_law_779 : decode bC_L_law 779 = .ok (.iload 4, 2) := by decide +kernel
theorem dI_L_law_781 : decode bC_L_law 781 = .ok (.iconst 2, 1) := by decide +kernel
theorem dI_L_law_782 : decode bC_L_law 782 = .ok (.iadd, 1) := by decide +kernel
theorem dI_L_law_783 : decode bC_L_law 783 = .ok (.iaload, 1) := by decide +kernel
theorem dI_L_law_784 : decode bC_L_law 784 = .ok (.invokevirtual 124, 3) := by decide +kernel
theorem dI_L_law_787 : decode bC_L_law 787 = .ok (.lstore 6, 2) := by decide +kernel
theorem dI_L_law_789 : decode bC_L_law 789 = .ok (.aload_n 2, 1) := by decide +kernel
theorem dI_L_law_790 : decode bC_L_law 790 = .ok (.invokevirtual 86, 3) := by decide +kernel
theorem dI_L_law_793 : decode bC_L_law 793 = .ok (.iload 5, 2) := by decide +kernel
theorem dI_L_law_795 : decode bC_L_law 795 = .ok (.if_icmp .eq 5, 3) := by decide +kernel
theorem dI_L_law_798 : decode bC_L_law 798 = .ok (.iconst 0, 1) := by decide +kernel
theorem dI_L_law_799 : decode bC_L_law 799 = .ok (.ireturn, 1) := by decide +kernel
theorem dI_L_law_800 : decode bC_L_law 800 = .ok (.iload 5, 2) := by decide +kernel
theorem dI_L_law_802 : decode bC_L_law 802 = .ok (.ifCond .ne 14, 3) := by decide +kernel
theorem dI_L_law_805 : decode bC_L_law 805 = .ok (.aload_n 3, 1) := by decide +kernel
theorem dI_L_law_806 : decode bC_L_law 806 = .ok (.iconst 0, 1) := by decide +kernel
theorem dI_L_law_807 : decode bC_L_law 807 = .ok (.laload, 1) := by decide +kernel
theorem dI_L_law_808 : decode bC_L_law 808 = .ok (.lload 6, 2) := by decide +kernel
theorem dI_L_law_810 : decode bC_L_law 810 = .ok (.lcmp, 1) := by decide +kernel
theorem dI_L_law_811 : decode bC_L_law 811 = .ok (.ifCond .eq 5, 3) := by decide +kernel
theorem dI_L_law_814 : decode bC_L_law 814 = .ok (.iconst 0, 1) := by decide +kernel
theorem dI_L_law_815 : decode bC_L_law 815 = .ok (.ireturn, 1) := by decide +kernel
theorem dI_L_law_816 : decode bC_L_law 816 = .ok (.goto 333, 3) := by decide +kernel
theorem dI_L_law_819 : decode bC_L_law 819 = .ok (.aload_n 1, 1) := by decide +kernel
theorem dI_L_law_820 : decode bC_L_law 820 = .ok (.aload_n 0, 1) := by decide +kernel
theorem dI_L_law_821 : decode bC_L_law 821 = .ok (.iload 4, 2) := by decide +kernel
theorem dI_L_law_823 : decode bC_L_law 823 = .ok (.iconst 1, 1) := by decide +kernel
theorem dI_L_law_824 : decode bC_L_law 824 = .ok (.iadd, 1) := by decide +kernel
theorem dI_L_law_825 : decode bC_L_law 825 = .ok (.iaload, 1) := by decide +kernel
theorem dI_L_law_826 : decode bC_L_law 826 = .ok (.aload_n 3, 1) := by decide +kernel
theorem dI_L_law_827 : decode bC_L_law 827 = .ok (.invokestatic 125, 3) := by decide +kernel
theorem dI_L_law_830 : decode bC_L_law 830 = .ok (.istore 5, 2) := by decide +kernel
theorem dI_L_law_832 : decode bC_L_law 832 = .ok (.aload_n 2, 1) := by decide +kernel
theorem dI_L_law_833 : decode bC_L_law 833 = .ok (.aload_n 0, 1) := by decide +kernel
theorem dI_L_law_834 : decode bC_L_law 834 = .ok (.iload 4, 2) := by decide +kernel
theorem dI_L_law_836 : decode bC_L_law 836 = .ok (.iconst 1, 1) := by decide +kernel
theorem dI_L_law_837 : decode bC_L_law 837 = .ok (.iadd, 1) := by decide +kernel
theorem dI_L_law_838 : decode bC_L_law 838 = .ok (.iaload, 1) := by decide +kernel
theorem dI_L_law_839 : decode bC_L_law 839 = .ok (.invokevirtual 127, 3) := by decide +kernel
theorem dI_L_law_842 : decode bC_L_law 842 = .ok (.istore 6, 2) := by decide +kernel
theorem dI_L_law_844 : decode bC_L_law 844 = .ok (.aload_n 2, 1) := by decide +kernel
theorem dI_L_law_845 : decode bC_L_law 845 = .ok (.invokevirtual 86, 3) := by decide +kernel
theorem dI_L_law_848 : decode bC_L_law 848 = .ok (.iload 5, 2) := by decide +kernel
theorem dI_L_law_850 : decode bC_L_law 850 = .ok (.if_icmp .eq 5, 3) := by decide +kernel
theorem dI_L_law_853 : decode bC_L_law 853 = .ok (.iconst 0, 1) := by decide +kernel
theorem dI_L_law_854 : decode bC_L_law 854 = .ok (.ireturn, 1) := by decide +kernel
theorem dI_L_law_855 : decode bC_L_law 855 = .ok (.iload 5, 2) := by decide +kernel
theorem dI_L_law_857 : decode bC_L_law 857 = .ok (.ifCond .ne 15, 3) := by decide +kernel
theorem dI_L_law_860 : decode bC_L_law 860 = .ok (.aload_n 3, 1) := by decide +kernel
theorem dI_L_law_861 : decode bC_L_law 861 = .ok (.iconst 0, 1) := by decide +kernel
theorem dI_L_law_862 : decode bC_L_law 862 = .ok (.laload, 1) := by decide +kernel
theorem dI_L_law_863 : decode bC_L_law 863 = .ok (.iload 6, 2) := by decide +kernel
theorem dI_L_law_865 : decode bC_L_law 865 = .ok (.i2l, 1) := by decide +kernel
theorem dI_L_law_866 : decode bC_L_law 866 = .ok (.lcmp, 1) := by decide +kernel
theorem dI_L_law_867 : decode bC_L_law 867 = .ok (.ifCond .eq 5, 3) := by decide +kernel
theorem dI_L_law_870 : decode bC_L_law 870 = .ok (.iconst 0, 1) := by decide +kernel
theorem dI_L_law_871 : decode bC_L_law 871 = .ok (.ireturn, 1) := by decide +kernel
theorem dI_L_law_872 : decode bC_L_law 872 = .ok (.goto 277, 3) := by decide +kernel
theorem dI_L_law_875 : decode bC_L_law 875 = .ok (.aload_n 1, 1) := by decide +kernel
theorem dI_L_law_876 : decode bC_L_law 876 = .ok (.aload_n 0, 1) := by decide +kernel
theorem dI_L_law_877 : decode bC_L_law 877 = .ok (.iload 4, 2) := by decide +kernel
theorem dI_L_law_879 : decode bC_L_law 879 = .ok (.iconst 1, 1) := by decide +kernel
theorem dI_L_law_880 : decode bC_L_law 880 = .ok (.iadd, 1) := by decide +kernel
theorem dI_L_law_881 : decode bC_L_law 881 = .ok (.iaload, 1) := by decide +kernel
theorem dI_L_law_882 : decode bC_L_law 882 = .ok (.aload_n 0, 1) := by decide +kernel
theorem dI_L_law_883 : decode bC_L_law 883 = .ok (.iload 4, 2) := by decide +kernel
theorem dI_L_law_885 : decode bC_L_law 885 = .ok (.iconst 2, 1) := by decide +kernel
theorem dI_L_law_886 : decode bC_L_law 886 = .ok (.iadd, 1) := by decide +kernel
theorem dI_L_law_887 : decode bC_L_law 887 = .ok (.iaload, 1) := by decide +kernel
theorem dI_L_law_888 : decode bC_L_law 888 = .ok (.aload_n 3, 1) := by decide +kernel
theorem dI_L_law_889 : decode bC_L_law 889 = .ok (.invokestatic 128, 3) := by decide +kernel
theorem dI_L_law_892 : decode bC_L_law 892 = .ok (.istore 5, 2) := by decide +kernel
theorem dI_L_law_894 : decode bC_L_law 894 = .ok (.aload_n 2, 1) := by decide +kernel
theorem dI_L_law_895 : decode bC_L_law 895 = .ok (.aload_n 0, 1) := by decide +kernel
theorem dI_L_law_896 : decode bC_L_law 896 = .ok (.iload 4, 2) := by decide +kernel
theorem dI_L_law_898 : decode bC_L_law 898 = .ok (.iconst 1, 1) := by decide +kernel
theorem dI_L_law_899 : decode bC_L_law 899 = .ok (.iadd, 1) := by decide +kernel
theorem dI_L_law_900 : decode bC_L_law 900 = .ok (.iaload, 1) := by decide +kernel
theorem dI_L_law_901 : decode bC_L_law 901 = .ok (.aload_n 0, 1) := by decide +kernel
theorem dI_L_law_902 : decode bC_L_law 902 = .ok (.iload 4, 2) := by decide +kernel
theorem dI_L_law_904 : decode bC_L_law 904 = .ok (.iconst 2, 1) := by decide +kernel
theorem dI_L_law_905 : decode bC_L_law 905 = .ok (.iadd, 1) := by decide +kernel
theorem dI_L_law_906 : decode bC_L_law 906 = .ok (.iaload, 1) := by decide +kernel
theorem dI_L_law_907 : decode bC_L_law 907 = .ok (.invokevirtual 130, 3) := by decide +kernel
theorem dI_L_law_910 : decode bC_L_law 910 = .ok (.istore 6, 2) := by decide +kernel
theorem dI_L_law_912 : decode bC_L_law 912 = .ok (.aload_n 2, 1) := by decide +kernel
theorem dI_L_law_913 : decode bC_L_law 913 = .ok (.invokevirtual 86, 3) := by decide +kernel
theorem dI_L_law_916 : decode bC_L_law 916 = .ok (.iload 5, 2) := by decide +kernel
theorem dI_L_law_918 : decode bC_L_law 918 = .ok (.if_icmp .eq 5, 3) := by decide +kernel
theorem dI_L_law_921 : decode bC_L_law 921 = .ok (.iconst 0, 1) := by decide +kernel
theorem dI_L_law_922 : decode bC_L_law 922 = .ok (.ireturn, 1) := by decide +kernel
theorem dI_L_law_923 : decode bC_L_law 923 = .ok (.iload 5, 2) := by decide +kernel
theorem dI_L_law_925 : decode bC_L_law 925 = .ok (.ifCond .ne 15, 3) := by decide +kernel
theorem dI_L_law_928 : decode bC_L_law 928 = .ok (.aload_n 3, 1) := by decide +kernel
theorem dI_L_law_929 : decode bC_L_law 929 = .ok (.iconst 0, 1) := by decide +kernel
theorem dI_L_law_930 : decode bC_L_law 930 = .ok (.laload, 1) := by decide +kernel
theorem dI_L_law_931 : decode bC_L_law 931 = .ok (.iload 6, 2) := by decide +kernel
theorem dI_L_law_933 : decode bC_L_law 933 = .ok (.i2l, 1) := by decide +kernel
theorem dI_L_law_934 : decode bC_L_law 934 = .ok (.lcmp, 1) := by decide +kernel
theorem dI_L_law_935 : decode bC_L_law 935 = .ok (.ifCond .eq 5, 3) := by decide +kernel
theorem dI_L_law_938 : decode bC_L_law 938 = .ok (.iconst 0, 1) := by decide +kernel
theorem dI_L_law_939 : decode bC_L_law 939 = .ok (.ireturn, 1) := by decide +kernel
theorem dI_L_law_940 : decode bC_L_law 940 = .ok (.goto 209, 3) := by decide +kernel
theorem dI_L_law_943 : decode bC_L_law 943 = .ok (.aload_n 1, 1) := by decide +kernel
theorem dI_L_law_944 : decode bC_L_law 944 = .ok (.aload_n 0, 1) := by decide +kernel
theorem dI_L_law_945 : decode bC_L_law 945 = .ok (.iload 4, 2) := by decide +kernel
theorem dI_L_law_947 : decode bC_L_law 947 = .ok (.iconst 1, 1) := by decide +kernel
theorem dI_L_law_948 : decode bC_L_law 948 = .ok (.iadd, 1) := by decide +kernel
theorem dI_L_law_949 : decode bC_L_law 949 = .ok (.iaload, 1) := by decide +kernel
theorem dI_L_law_950 : decode bC_L_law 950 = .ok (.aload_n 3, 1) := by decide +kernel
theorem dI_L_law_951 : decode bC_L_law 951 = .ok (.invokestatic 131, 3) := by decide +kernel
theorem dI_L_law_954 : decode bC_L_law 954 = .ok (.istore 5, 2) := by decide +kernel
theorem dI_L_law_956 : decode bC_L_law 956 = .ok (.aload_n 2, 1) := by decide +kernel
theorem dI_L_law_957 : decode bC_L_law 957 = .ok (.aload_n 0, 1) := by decide +kernel
theorem dI_L_law_958 : decode bC_L_law 958 = .ok (.iload 4, 2) := by decide +kernel
theorem dI_L_law_960 : decode bC_L_law 960 = .ok (.iconst 1, 1) := by decide +kernel
theorem dI_L_law_961 : decode bC_L_law 961 = .ok (.iadd, 1) := by decide +kernel
theorem dI_L_law_962 : decode bC_L_law 962 = .ok (.iaload, 1) := by decide +kernel
theorem dI_L_law_963 : decode bC_L_law 963 = .ok (.invokevirtual 133, 3) := by decide +kernel
theorem dI_L_law_966 : decode bC_L_law 966 = .ok (.istore 6, 2) := by decide +kernel
theorem dI_L_law_968 : decode bC_L_law 968 = .ok (.aload_n 2, 1) := by decide +kernel
theorem dI_L_law_969 : decode bC_L_law 969 = .ok (.invokevirtual 86, 3) := by decide +kernel
theorem dI_L_law_972 : decode bC_L_law 972 = .ok (.iload 5, 2) := by decide +kernel
theorem dI_L_law_974 : decode bC_L_law 974 = .ok (.if_icmp .eq 5, 3) := by decide +kernel
theorem dI_L_law_977 : decode bC_L_law 977 = .ok (.iconst 0, 1) := by decide +kernel
theorem dI_L_law_978 : decode bC_L_law 978 = .ok (.ireturn, 1) := by decide +kernel
theorem dI_L_law_979 : decode bC_L_law 979 = .ok (.iload 5, 2) := by decide +kernel
theorem dI_L_law_981 : decode bC_L_law 981 = .ok (.ifCond .ne 15, 3) := by decide +kernel
theorem dI_L_law_984 : decode bC_L_law 984 = .ok (.aload_n 3, 1) := by decide +kernel
theorem dI_L_law_985 : decode bC_L_law 985 = .ok (.iconst 0, 1) := by decide +kernel
theorem dI_L_law_986 : decode bC_L_law 986 = .ok (.laload, 1) := by decide +kernel
theorem dI_L_law_987 : decode bC_L_law 987 = .ok (.iload 6, 2) := by decide +kernel
theorem dI_L_law_989 : decode bC_L_law 989 = .ok (.i2l, 1) := by decide +kernel
theorem dI_L_law_990 : decode bC_L_law 990 = .ok (.lcmp, 1) := by decide +kernel
theorem dI_L_law_991 : decode bC_L_law 991 = .ok (.ifCond .eq 5, 3) := by decide +kernel
theorem dI_L_law_994 : decode bC_L_law 994 = .ok (.iconst 0, 1) := by decide +kernel
theorem dI_L_law_995 : decode bC_L_law 995 = .ok (.ireturn, 1) := by decide +kernel
theorem dI_L_law_996 : decode bC_L_law 996 = .ok (.goto 153, 3) := by decide +kernel
theorem dI_L_law_999 : decode bC_L_law 999 = .ok (.aload_n 1, 1) := by decide +kernel
theorem dI_L_law_1000 : decode bC_L_law 1000 = .ok (.aload_n 0, 1) := by decide +kernel
theorem dI_L_law_1001 : decode bC_L_law 1001 = .ok (.iload 4, 2) := by decide +kernel
theorem dI_L_law_1003 : decode bC_L_law 1003 = .ok (.iconst 1, 1) := by decide +kernel
theorem dI_L_law_1004 : decode bC_L_law 1004 = .ok (.iadd, 1) := by decide +kernel
theorem dI_L_law_1005 : decode bC_L_law 1005 = .ok (.iaload, 1) := by decide +kernel
theorem dI_L_law_1006 : decode bC_L_law 1006 = .ok (.aload_n 0, 1) := by decide +kernel
theorem dI_L_law_1007 : decode bC_L_law 1007 = .ok (.iload 4, 2) := by decide +kernel
theorem dI_L_law_1009 : decode bC_L_law 1009 = .ok (.iconst 2, 1) := by decide +kernel
theorem dI_L_law_1010 : decode bC_L_law 1010 = .ok (.iadd, 1) := by decide +kernel
theorem dI_L_law_1011 : decode bC_L_law 1011 = .ok (.iaload, 1) := by decide +kernel
theorem dI_L_law_1012 : decode bC_L_law 1012 = .ok (.aload_n 0, 1) := by decide +kernel
theorem dI_L_law_1013 : decode bC_L_law 1013 = .ok (.iload 4, 2) := by decide +kernel
theorem dI_L_law_1015 : decode bC_L_law 1015 = .ok (.iconst 3, 1) := by decide +kernel
theorem dI_L_law_1016 : decode bC_L_law 1016 = .ok (.iadd, 1) := by decide +kernel
theorem dI_L_law_1017 : decode bC_L_law 1017 = .ok (.iaload, 1) := by decide +kernel
theorem dI_L_law_1018 : decode bC_L_law 1018 = .ok (.aload_n 3, 1) := by decide +kernel
theorem dI_L_law_1019 : decode bC_L_law 1019 = .ok (.invokestatic 134, 3) := by decide +kernel
theorem dI_L_law_1022 : decode bC_L_law 1022 = .ok (.istore 5, 2) := by decide +kernel
theorem dI_L_law_1024 : decode bC_L_law 1024 = .ok (.aload_n 2, 1) := by decide +kernel
theorem dI_L_law_1025 : decode bC_L_law 1025 = .ok (.aload_n 0, 1) := by decide +kernel
theorem dI_L_law_1026 : decode bC_L_law 1026 = .ok (.iload 4, 2) := by decide +kernel
theorem dI_L_law_1028 : decode bC_L_law 1028 = .ok (.iconst 1, 1) := by decide +kernel
theorem dI_L_law_1029 : decode bC_L_law 1029 = .ok (.iadd, 1) := by decide +kernel
theorem dI_L_law_1030 : decode bC_L_law 1030 = .ok (.iaload, 1) := by decide +kernel
theorem dI_L_law_1031 : decode bC_L_law 1031 = .ok (.aload_n 0, 1) := by decide +kernel
theorem dI_L_law_1032 : decode bC_L_law 1032 = .ok (.iload 4, 2) := by decide +kernel
theorem dI_L_law_1034 : decode bC_L_law 1034 = .ok (.iconst 2, 1) := by decide +kernel
theorem dI_L_law_1035 : decode bC_L_law 1035 = .ok (.iadd, 1) := by decide +kernel
theorem dI_L_law_1036 : decode bC_L_law 1036 = .ok (.iaload, 1) := by decide +kernel
theorem dI_L_law_1037 : decode bC_L_law 1037 = .ok (.aload_n 0, 1) := by decide +kernel
theorem dI_L_law_1038 : decode bC_L_law 1038 = .ok (.iload 4, 2) := by decide +kernel
theorem dI_L_law_1040 : decode bC_L_law 1040 = .ok (.iconst 3, 1) := by decide +kernel
theorem dI_L_law_1041 : decode bC_L_law 1041 = .ok (.iadd, 1) := by decide +kernel
theorem dI_L_law_1042 : decode bC_L_law 1042 = .ok (.iaload, 1) := by decide +kernel
theorem dI_L_law_1043 : decode bC_L_law 1043 = .ok (.invokevirtual 137, 3) := by decide +kernel
theorem dI_L_law_1046 : decode bC_L_law 1046 = .ok (.istore 6, 2) := by decide +kernel
theorem dI_L_law_1048 : decode bC_L_law 1048 = .ok (.aload_n 2, 1) := by decide +kernel
theorem dI_L_law_1049 : decode bC_L_law 1049 = .ok (.invokevirtual 86, 3) := by decide +kernel
theorem dI_L_law_1052 : decode bC_L_law 1052 = .ok (.iload 5, 2) := by decide +kernel
theorem dI_L_law_1054 : decode bC_L_law 1054 = .ok (.if_icmp .eq 5, 3) := by decide +kernel
theorem dI_L_law_1057 : decode bC_L_law 1057 = .ok (.iconst 0, 1) := by decide +kernel
theorem dI_L_law_1058 : decode bC_L_law 1058 = .ok (.ireturn, 1) := by decide +kernel
theorem dI_L_law_1059 : decode bC_L_law 1059 = .ok (.iload 5, 2) := by decide +kernel
theorem dI_L_law_1061 : decode bC_L_law 1061 = .ok (.ifCond .ne 22, 3) := by decide +kernel
theorem dI_L_law_1064 : decode bC_L_law 1064 = .ok (.aload_n 3, 1) := by decide +kernel
theorem dI_L_law_1065 : decode bC_L_law 1065 = .ok (.iconst 0, 1) := by decide +kernel
theorem dI_L_law_1066 : decode bC_L_law 1066 = .ok (.laload, 1) := by decide +kernel
theorem dI_L_law_1067 : decode bC_L_law 1067 = .ok (.iload 6, 2) := by decide +kernel
theorem dI_L_law_1069 : decode bC_L_law 1069 = .ok (.ifCond .eq 7, 3) := by decide +kernel
theorem dI_L_law_1072 : decode bC_L_law 1072 = .ok (.lconst 1, 1) := by decide +kernel
theorem dI_L_law_1073 : decode bC_L_law 1073 = .ok (.goto 4, 3) := by decide +kernel
theorem dI_L_law_1076 : decode bC_L_law 1076 = .ok (.lconst 0, 1) := by decide +kernel
theorem dI_L_law_1077 : decode bC_L_law 1077 = .ok (.lcmp, 1) := by decide +kernel
theorem dI_L_law_1078 : decode bC_L_law 1078 = .ok (.ifCond .eq 5, 3) := by decide +kernel
theorem dI_L_law_1081 : decode bC_L_law 1081 = .ok (.iconst 0, 1) := by decide +kernel
theorem dI_L_law_1082 : decode bC_L_law 1082 = .ok (.ireturn, 1) := by decide +kernel
theorem dI_L_law_1083 : decode bC_L_law 1083 = .ok (.goto 66, 3) := by decide +kernel
theorem dI_L_law_1086 : decode bC_L_law 1086 = .ok (.aload_n 1, 1) := by decide +kernel
theorem dI_L_law_1087 : decode bC_L_law 1087 = .ok (.aload_n 0, 1) := by decide +kernel
theorem dI_L_law_1088 : decode bC_L_law 1088 = .ok (.iload 4, 2) := by decide +kernel
theorem dI_L_law_1090 : decode bC_L_law 1090 = .ok (.iconst 1, 1) := by decide +kernel
theorem dI_L_law_1091 : decode bC_L_law 1091 = .ok (.iadd, 1) := by decide +kernel
theorem dI_L_law_1092 : decode bC_L_law 1092 = .ok (.iaload, 1) := by decide +kernel
theorem dI_L_law_1093 : decode bC_L_law 1093 = .ok (.aload_n 3, 1) := by decide +kernel
theorem dI_L_law_1094 : decode bC_L_law 1094 = .ok (.invokestatic 138, 3) := by decide +kernel
theorem dI_L_law_1097 : decode bC_L_law 1097 = .ok (.istore 5, 2) := by decide +kernel
theorem dI_L_law_1099 : decode bC_L_law 1099 = .ok (.aload_n 2, 1) := by decide +kernel
theorem dI_L_law_1100 : decode bC_L_law 1100 = .ok (.aload_n 0, 1) := by decide +kernel
theorem dI_L_law_1101 : decode bC_L_law 1101 = .ok (.iload 4, 2) := by decide +kernel
theorem dI_L_law_1103 : decode bC_L_law 1103 = .ok (.iconst 1, 1) := by decide +kernel
theorem dI_L_law_1104 : decode bC_L_law 1104 = .ok (.iadd, 1) := by decide +kernel
theorem dI_L_law_1105 : decode bC_L_law 1105 = .ok (.iaload, 1) := by decide +kernel
theorem dI_L_law_1106 : decode bC_L_law 1106 = .ok (.invokevirtual 140, 3) := by decide +kernel
theorem dI_L_law_1109 : decode bC_L_law 1109 = .ok (.istore 6, 2) := by decide +kernel
theorem dI_L_law_1111 : decode bC_L_law 1111 = .ok (.aload_n 2, 1) := by decide +kernel
theorem dI_L_law_1112 : decode bC_L_law 1112 = .ok (.invokevirtual 86, 3) := by decide +kernel
theorem dI_L_law_1115 : decode bC_L_law 1115 = .ok (.iload 5, 2) := by decide +kernel
theorem dI_L_law_1117 : decode bC_L_law 1117 = .ok (.if_icmp .eq 5, 3) := by decide +kernel
theorem dI_L_law_1120 : decode bC_L_law 1120 = .ok (.iconst 0, 1) := by decide +kernel
theorem dI_L_law_1121 : decode bC_L_law 1121 = .ok (.ireturn, 1) := by decide +kernel
theorem dI_L_law_1122 : decode bC_L_law 1122 = .ok (.iload 5, 2) := by decide +kernel
theorem dI_L_law_1124 : decode bC_L_law 1124 = .ok (.ifCond .ne 22, 3) := by decide +kernel
theorem dI_L_law_1127 : decode bC_L_law 1127 = .ok (.aload_n 3, 1) := by decide +kernel
theorem dI_L_law_1128 : decode bC_L_law 1128 = .ok (.iconst 0, 1) := by decide +kernel
theorem dI_L_law_1129 : decode bC_L_law 1129 = .ok (.laload, 1) := by decide +kernel
theorem dI_L_law_1130 : decode bC_L_law 1130 = .ok (.iload 6, 2) := by decide +kernel
theorem dI_L_law_1132 : decode bC_L_law 1132 = .ok (.ifCond .eq 7, 3) := by decide +kernel
theorem dI_L_law_1135 : decode bC_L_law 1135 = .ok (.lconst 1, 1) := by decide +kernel
theorem dI_L_law_1136 : decode bC_L_law 1136 = .ok (.goto 4, 3) := by decide +kernel
theorem dI_L_law_1139 : decode bC_L_law 1139 = .ok (.lconst 0, 1) := by decide +kernel
theorem dI_L_law_1140 : decode bC_L_law 1140 = .ok (.lcmp, 1) := by decide +kernel
theorem dI_L_law_1141 : decode bC_L_law 1141 = .ok (.ifCond .eq 5, 3) := by decide +kernel
theorem dI_L_law_1144 : decode bC_L_law 1144 = .ok (.iconst 0, 1) := by decide +kernel
theorem dI_L_law_1145 : decode bC_L_law 1145 = .ok (.ireturn, 1) := by decide +kernel
theorem dI_L_law_1146 : decode bC_L_law 1146 = .ok (.goto 3, 3) := by decide +kernel
theorem dI_L_law_1149 : decode bC_L_law 1149 = .ok (.iinc 4 5, 3) := by decide +kernel
theorem dI_L_law_1152 : decode bC_L_law 1152 = .ok (.goto (-1129), 3) := by decide +kernel
theorem dI_L_law_1155 : decode bC_L_law 1155 = .ok (.iconst 1, 1) := by decide +kernel
theorem dI_L_law_1156 : decode bC_L_law 1156 = .ok (.ireturn, 1) := by decide +kernel
theorem dI_L_modulus_0 : decode bC_L_modulus 0 = .ok (.aload_n 2, 1) := by decide +kernel
theorem dI_L_modulus_1 : decode bC_L_modulus 1 = .ok (.iconst 0, 1) := by decide +kernel
theorem dI_L_modulus_2 : decode bC_L_modulus 2 = .ok (.aload_n 0, 1) := by decide +kernel
theorem dI_L_modulus_3 : decode bC_L_modulus 3 = .ok (.iload_n 1, 1) := by decide +kernel
theorem dI_L_modulus_4 : decode bC_L_modulus 4 = .ok (.invokevirtual 61, 3) := by decide +kernel
theorem dI_L_modulus_7 : decode bC_L_modulus 7 = .ok (.i2l, 1) := by decide +kernel
theorem dI_L_modulus_8 : decode bC_L_modulus 8 = .ok (.lastore, 1) := by decide +kernel
theorem dI_L_modulus_9 : decode bC_L_modulus 9 = .ok (.goto 9, 3) := by decide +kernel
theorem dI_L_modulus_12 : decode bC_L_modulus 12 = .ok (.astore_n 3, 1) := by decide +kernel
theorem dI_L_modulus_13 : decode bC_L_modulus 13 = .ok (.iconst 1, 1) := by decide +kernel
theorem dI_L_modulus_14 : decode bC_L_modulus 14 = .ok (.ireturn, 1) := by decide +kernel
theorem dI_L_modulus_15 : decode bC_L_modulus 15 = .ok (.astore_n 3, 1) := by decide +kernel
theorem dI_L_modulus_16 : decode bC_L_modulus 16 = .ok (.iconst 2, 1) := by decide +kernel
theorem dI_L_modulus_17 : decode bC_L_modulus 17 = .ok (.ireturn, 1) := by decide +kernel
theorem dI_L_modulus_18 : decode bC_L_modulus 18 = .ok (.iconst 0, 1) := by decide +kernel
theorem dI_L_modulus_19 : decode bC_L_modulus 19 = .ok (.ireturn, 1) := by decide +kernel
theorem dI_L_multiply_0 : decode bC_L_multiply 0 = .ok (.aload_n 0, 1) := by decide +kernel
theorem dI_L_multiply_1 : decode bC_L_multiply 1 = .ok (.iload_n 1, 1) := by decide +kernel
theorem dI_L_multiply_2 : decode bC_L_multiply 2 = .ok (.iload_n 2, 1) := by decide +kernel
theorem dI_L_multiply_3 : decode bC_L_multiply 3 = .ok (.iload_n 3, 1) := by decide +kernel
theorem dI_L_multiply_4 : decode bC_L_multiply 4 = .ok (.invokevirtual 30, 3) := by decide +kernel
theorem dI_L_multiply_7 : decode bC_L_multiply 7 = .ok (.goto 11, 3) := by decide +kernel
theorem dI_L_multiply_10 : decode bC_L_multiply 10 = .ok (.astore 4, 2) := by decide +kernel
theorem dI_L_multiply_12 : decode bC_L_multiply 12 = .ok (.iconst 1, 1) := by decide +kernel
theorem dI_L_multiply_13 : decode bC_L_multiply 13 = .ok (.ireturn, 1) := by decide +kernel
theorem dI_L_multiply_14 : decode bC_L_multiply 14 = .ok (.astore 4, 2) := by decide +kernel
theorem dI_L_multiply_16 : decode bC_L_multiply 16 = .ok (.iconst 2, 1) := by decide +kernel
theorem dI_L_multiply_17 : decode bC_L_multiply 17 = .ok (.ireturn, 1) := by decide +kernel
theorem dI_L_multiply_18 : decode bC_L_multiply 18 = .ok (.iconst 0, 1) := by decide +kernel
theorem dI_L_multiply_19 : decode bC_L_multiply 19 = .ok (.ireturn, 1) := by decide +kernel
theorem dI_L_order_0 : decode bC_L_order 0 = .ok (.aload_n 3, 1) := by decide +kernel
theorem dI_L_order_1 : decode bC_L_order 1 = .ok (.iconst 0, 1) := by decide +kernel
theorem dI_L_order_2 : decode bC_L_order 2 = .ok (.aload_n 0, 1) := by decide +kernel
theorem dI_L_order_3 : decode bC_L_order 3 = .ok (.iload_n 1, 1) := by decide +kernel
theorem dI_L_order_4 : decode bC_L_order 4 = .ok (.iload_n 2, 1) := by decide +kernel
theorem dI_L_order_5 : decode bC_L_order 5 = .ok (.invokevirtual 58, 3) := by decide +kernel
theorem dI_L_order_8 : decode bC_L_order 8 = .ok (.i2l, 1) := by decide +kernel
theorem dI_L_order_9 : decode bC_L_order 9 = .ok (.lastore, 1) := by decide +kernel
theorem dI_L_order_10 : decode bC_L_order 10 = .ok (.goto 15, 3) := by decide +kernel
theorem dI_L_order_13 : decode bC_L_order 13 = .ok (.astore 4, 2) := by decide +kernel
theorem dI_L_order_15 : decode bC_L_order 15 = .ok (.iconst 1, 1) := by decide +kernel
theorem dI_L_order_16 : decode bC_L_order 16 = .ok (.ireturn, 1) := by decide +kernel
theorem dI_L_order_17 : decode bC_L_order 17 = .ok (.astore 4, 2) := by decide +kernel
theorem dI_L_order_19 : decode bC_L_order 19 = .ok (.iconst 2, 1) := by decide +kernel
theorem dI_L_order_20 : decode bC_L_order 20 = .ok (.ireturn, 1) := by decide +kernel
theorem dI_L_order_21 : decode bC_L_order 21 = .ok (.astore 4, 2) := by decide +kernel
theorem dI_L_order_23 : decode bC_L_order 23 = .ok (.iconst 3, 1) := by decide +kernel
theorem dI_L_order_24 : decode bC_L_order 24 = .ok (.ireturn, 1) := by decide +kernel
theorem dI_L_order_25 : decode bC_L_order 25 = .ok (.iconst 0, 1) := by decide +kernel
theorem dI_L_order_26 : decode bC_L_order 26 = .ok (.ireturn, 1) := by decide +kernel
theorem dI_L_perfect_0 : decode bC_L_perfect 0 = .ok (.aload_n 2, 1) := by decide +kernel
theorem dI_L_perfect_1 : decode bC_L_perfect 1 = .ok (.iconst 0, 1) := by decide +kernel
theorem dI_L_perfect_2 : decode bC_L_perfect 2 = .ok (.aload_n 0, 1) := by decide +kernel
theorem dI_L_perfect_3 : decode bC_L_perfect 3 = .ok (.iload_n 1, 1) := by decide +kernel
theorem dI_L_perfect_4 : decode bC_L_perfect 4 = .ok (.invokevirtual 55, 3) := by decide +kernel
theorem dI_L_perfect_7 : decode bC_L_perfect 7 = .ok (.i2l, 1) := by decide +kernel
theorem dI_L_perfect_8 : decode bC_L_perfect 8 = .ok (.lastore, 1) := by decide +kernel
theorem dI_L_perfect_9 : decode bC_L_perfect 9 = .ok (.goto 6, 3) := by decide +kernel
theorem dI_L_perfect_12 : decode bC_L_perfect 12 = .ok (.astore_n 3, 1) := by decide +kernel
theorem dI_L_perfect_13 : decode bC_L_perfect 13 = .ok (.iconst 1, 1) := by decide +kernel
theorem dI_L_perfect_14 : decode bC_L_perfect 14 = .ok (.ireturn, 1) := by decide +kernel
theorem dI_L_perfect_15 : decode bC_L_perfect 15 = .ok (.iconst 0, 1) := by decide +kernel
theorem dI_L_perfect_16 : decode bC_L_perfect 16 = .ok (.ireturn, 1) := by decide +kernel
theorem dI_L_power_0 : decode bC_L_power 0 = .ok (.aload_n 0, 1) := by decide +kernel
theorem dI_L_power_1 : decode bC_L_power 1 = .ok (.iload_n 1, 1) := by decide +kernel
theorem dI_L_power_2 : decode bC_L_power 2 = .ok (.iload_n 2, 1) := by decide +kernel
theorem dI_L_power_3 : decode bC_L_power 3 = .ok (.iload_n 3, 1) := by decide +kernel
theorem dI_L_power_4 : decode bC_L_power 4 = .ok (.iload 4, 2) := by decide +kernel
theorem dI_L_power_6 : decode bC_L_power 6 = .ok (.invokevirtual 37, 3) := by decide +kernel
theorem dI_L_power_9 : decode bC_L_power 9 = .ok (.goto 11, 3) := by decide +kernel
theorem dI_L_power_12 : decode bC_L_power 12 = .ok (.astore 5, 2) := by decide +kernel
theorem dI_L_power_14 : decode bC_L_power 14 = .ok (.iconst 1, 1) := by decide +kernel
theorem dI_L_power_15 : decode bC_L_power 15 = .ok (.ireturn, 1) := by decide +kernel
theorem dI_L_power_16 : decode bC_L_power 16 = .ok (.astore 5, 2) := by decide +kernel
theorem dI_L_power_18 : decode bC_L_power 18 = .ok (.iconst 2, 1) := by decide +kernel
theorem dI_L_power_19 : decode bC_L_power 19 = .ok (.ireturn, 1) := by decide +kernel
theorem dI_L_power_20 : decode bC_L_power 20 = .ok (.iconst 0, 1) := by decide +kernel
theorem dI_L_power_21 : decode bC_L_power 21 = .ok (.ireturn, 1) := by decide +kernel
theorem dI_L_prime_0 : decode bC_L_prime 0 = .ok (.aload_n 2, 1) := by decide +kernel
theorem dI_L_prime_1 : decode bC_L_prime 1 = .ok (.iconst 0, 1) := by decide +kernel
theorem dI_L_prime_2 : decode bC_L_prime 2 = .ok (.aload_n 0, 1) := by decide +kernel
theorem dI_L_prime_3 : decode bC_L_prime 3 = .ok (.iload_n 1, 1) := by decide +kernel
theorem dI_L_prime_4 : decode bC_L_prime 4 = .ok (.invokevirtual 70, 3) := by decide +kernel
theorem dI_L_prime_7 : decode bC_L_prime 7 = .ok (.ifCond .eq 7, 3) := by decide +kernel
theorem dI_L_prime_10 : decode bC_L_prime 10 = .ok (.lconst 1, 1) := by decide +kernel
theorem dI_L_prime_11 : decode bC_L_prime 11 = .ok (.goto 4, 3) := by decide +kernel
theorem dI_L_prime_14 : decode bC_L_prime 14 = .ok (.lconst 0, 1) := by decide +kernel
theorem dI_L_prime_15 : decode bC_L_prime 15 = .ok (.lastore, 1) := by decide +kernel
theorem dI_L_prime_16 : decode bC_L_prime 16 = .ok (.goto 9, 3) := by decide +kernel
theorem dI_L_prime_19 : decode bC_L_prime 19 = .ok (.astore_n 3, 1) := by decide +kernel
theorem dI_L_prime_20 : decode bC_L_prime 20 = .ok (.iconst 1, 1) := by decide +kernel
theorem dI_L_prime_21 : decode bC_L_prime 21 = .ok (.ireturn, 1) := by decide +kernel
theorem dI_L_prime_22 : decode bC_L_prime 22 = .ok (.astore_n 3, 1) := by decide +kernel
theorem dI_L_prime_23 : decode bC_L_prime 23 = .ok (.iconst 2, 1) := by decide +kernel
theorem dI_L_prime_24 : decode bC_L_prime 24 = .ok (.ireturn, 1) := by decide +kernel
theorem dI_L_prime_25 : decode bC_L_prime 25 = .ok (.iconst 0, 1) := by decide +kernel
theorem dI_L_prime_26 : decode bC_L_prime 26 = .ok (.ireturn, 1) := by decide +kernel
theorem dI_L_put_0 : decode bC_L_put 0 = .ok (.aload_n 0, 1) := by decide +kernel
theorem dI_L_put_1 : decode bC_L_put 1 = .ok (.iload_n 1, 1) := by decide +kernel
theorem dI_L_put_2 : decode bC_L_put 2 = .ok (.lload_n 2, 1) := by decide +kernel
theorem dI_L_put_3 : decode bC_L_put 3 = .ok (.invokevirtual 7, 3) := by decide +kernel
theorem dI_L_put_6 : decode bC_L_put 6 = .ok (.goto 11, 3) := by decide +kernel
theorem dI_L_put_9 : decode bC_L_put 9 = .ok (.astore 4, 2) := by decide +kernel
theorem dI_L_put_11 : decode bC_L_put 11 = .ok (.iconst 1, 1) := by decide +kernel
theorem dI_L_put_12 : decode bC_L_put 12 = .ok (.ireturn, 1) := by decide +kernel
theorem dI_L_put_13 : decode bC_L_put 13 = .ok (.astore 4, 2) := by decide +kernel
theorem dI_L_put_15 : decode bC_L_put 15 = .ok (.iconst 2, 1) := by decide +kernel
theorem dI_L_put_16 : decode bC_L_put 16 = .ok (.ireturn, 1) := by decide +kernel
theorem dI_L_put_17 : decode bC_L_put 17 = .ok (.iconst 0, 1) := by decide +kernel
theorem dI_L_put_18 : decode bC_L_put 18 = .ok (.ireturn, 1) := by decide +kernel
theorem dI_L_subtract_0 : decode bC_L_subtract 0 = .ok (.aload_n 0, 1) := by decide +kernel
theorem dI_L_subtract_1 : decode bC_L_subtract 1 = .ok (.iload_n 1, 1) := by decide +kernel
theorem dI_L_subtract_2 : decode bC_L_subtract 2 = .ok (.iload_n 2, 1) := by decide +kernel
theorem dI_L_subtract_3 : decode bC_L_subtract 3 = .ok (.iload_n 3, 1) := by decide +kernel
theorem dI_L_subtract_4 : decode bC_L_subtract 4 = .ok (.invokevirtual 27, 3) := by decide +kernel
theorem dI_L_subtract_7 : decode bC_L_subtract 7 = .ok (.goto 11, 3) := by decide +kernel
theorem dI_L_subtract_10 : decode bC_L_subtract 10 = .ok (.astore 4, 2) := by decide +kernel
theorem dI_L_subtract_12 : decode bC_L_subtract 12 = .ok (.iconst 1, 1) := by decide +kernel
theorem dI_L_subtract_13 : decode bC_L_subtract 13 = .ok (.ireturn, 1) := by decide +kernel
theorem dI_L_subtract_14 : decode bC_L_subtract 14 = .ok (.astore 4, 2) := by decide +kernel
theorem dI_L_subtract_16 : decode bC_L_subtract 16 = .ok (.iconst 2, 1) := by decide +kernel
theorem dI_L_subtract_17 : decode bC_L_subtract 17 = .ok (.ireturn, 1) := by decide +kernel
theorem dI_L_subtract_18 : decode bC_L_subtract 18 = .ok (.iconst 0, 1) := by decide +kernel
theorem dI_L_subtract_19 : decode bC_L_subtract 19 = .ok (.ireturn, 1) := by decide +kernel
theorem dI_L_word_0 : decode bC_L_word 0 = .ok (.aload_n 3, 1) := by decide +kernel
theorem dI_L_word_1 : decode bC_L_word 1 = .ok (.iconst 0, 1) := by decide +kernel
theorem dI_L_word_2 : decode bC_L_word 2 = .ok (.aload_n 0, 1) := by decide +kernel
theorem dI_L_word_3 : decode bC_L_word 3 = .ok (.iload_n 1, 1) := by decide +kernel
theorem dI_L_word_4 : decode bC_L_word 4 = .ok (.iload_n 2, 1) := by decide +kernel
theorem dI_L_word_5 : decode bC_L_word 5 = .ok (.invokevirtual 51, 3) := by decide +kernel
theorem dI_L_word_8 : decode bC_L_word 8 = .ok (.lastore, 1) := by decide +kernel
theorem dI_L_word_9 : decode bC_L_word 9 = .ok (.goto 7, 3) := by decide +kernel
theorem dI_L_word_12 : decode bC_L_word 12 = .ok (.astore 4, 2) := by decide +kernel
theorem dI_L_word_14 : decode bC_L_word 14 = .ok (.iconst 1, 1) := by decide +kernel
theorem dI_L_word_15 : decode bC_L_word 15 = .ok (.ireturn, 1) := by decide +kernel
theorem dI_L_word_16 : decode bC_L_word 16 = .ok (.iconst 0, 1) := by decide +kernel
theorem dI_L_word_17 : decode bC_L_word 17 = .ok (.ireturn, 1) := by decide +kernel
theorem dI_M_add_0 : decode bC_M_add 0 = .ok (.aload_n 0, 1) := by decide +kernel
theorem dI_M_add_1 : decode bC_M_add 1 = .ok (.iload_n 1, 1) := by decide +kernel
theorem dI_M_add_2 : decode bC_M_add 2 = .ok (.invokestatic 23, 3) := by decide +kernel
theorem dI_M_add_5 : decode bC_M_add 5 = .ok (.ifCond .ne 17, 3) := by decide +kernel
theorem dI_M_add_8 : decode bC_M_add 8 = .ok (.iload_n 2, 1) := by decide +kernel
theorem dI_M_add_9 : decode bC_M_add 9 = .ok (.invokestatic 23, 3) := by decide +kernel
theorem dI_M_add_12 : decode bC_M_add 12 = .ok (.ifCond .ne 10, 3) := by decide +kernel
theorem dI_M_add_15 : decode bC_M_add 15 = .ok (.iload_n 3, 1) := by decide +kernel
theorem dI_M_add_16 : decode bC_M_add 16 = .ok (.invokestatic 23, 3) := by decide +kernel
theorem dI_M_add_19 : decode bC_M_add 19 = .ok (.ifCond .eq 7, 3) := by decide +kernel
theorem dI_M_add_22 : decode bC_M_add 22 = .ok (.iconst 1, 1) := by decide +kernel
theorem dI_M_add_23 : decode bC_M_add 23 = .ok (.goto 4, 3) := by decide +kernel
theorem dI_M_add_26 : decode bC_M_add 26 = .ok (.iconst 0, 1) := by decide +kernel
theorem dI_M_add_27 : decode bC_M_add 27 = .ok (.iconst 1, 1) := by decide +kernel
theorem dI_M_add_28 : decode bC_M_add 28 = .ok (.invokevirtual 27, 3) := by decide +kernel
theorem dI_M_add_31 : decode bC_M_add 31 = .ok (.ifCond .eq 4, 3) := by decide +kernel
theorem dI_M_add_34 : decode bC_M_add 34 = .ok (.return_, 1) := by decide +kernel
theorem dI_M_add_35 : decode bC_M_add 35 = .ok (.aload_n 0, 1) := by decide +kernel
theorem dI_M_add_36 : decode bC_M_add 36 = .ok (.iconst 0, 1) := by decide +kernel
theorem dI_M_add_37 : decode bC_M_add 37 = .ok (.iload_n 1, 1) := by decide +kernel
theorem dI_M_add_38 : decode bC_M_add 38 = .ok (.invokevirtual 31, 3) := by decide +kernel
theorem dI_M_add_41 : decode bC_M_add 41 = .ok (.aload_n 0, 1) := by decide +kernel
theorem dI_M_add_42 : decode bC_M_add 42 = .ok (.iconst 1, 1) := by decide +kernel
theorem dI_M_add_43 : decode bC_M_add 43 = .ok (.iload_n 2, 1) := by decide +kernel
theorem dI_M_add_44 : decode bC_M_add 44 = .ok (.invokevirtual 31, 3) := by decide +kernel
theorem dI_M_add_47 : decode bC_M_add 47 = .ok (.aload_n 0, 1) := by decide +kernel
theorem dI_M_add_48 : decode bC_M_add 48 = .ok (.iconst 0, 1) := by decide +kernel
theorem dI_M_add_49 : decode bC_M_add 49 = .ok (.iconst 1, 1) := by decide +kernel
theorem dI_M_add_50 : decode bC_M_add 50 = .ok (.invokevirtual 35, 3) := by decide +kernel
theorem dI_M_add_53 : decode bC_M_add 53 = .ok (.istore 4, 2) := by decide +kernel
theorem dI_M_add_55 : decode bC_M_add 55 = .ok (.aload_n 0, 1) := by decide +kernel
theorem dI_M_add_56 : decode bC_M_add 56 = .ok (.iload 4, 2) := by decide +kernel
theorem dI_M_add_58 : decode bC_M_add 58 = .ok (.ifCond .eq 11, 3) := by decide +kernel
theorem dI_M_add_61 : decode bC_M_add 61 = .ok (.aload_n 0, 1) := by decide +kernel
theorem dI_M_add_62 : decode bC_M_add 62 = .ok (.iconst 0, 1) := by decide +kernel
theorem dI_M_add_63 : decode bC_M_add 63 = .ok (.invokevirtual 39, 3) := by decide +kernel
theorem dI_M_add_66 : decode bC_M_add 66 = .ok (.ifCond .eq 7, 3) := by decide +kernel
theorem dI_M_add_69 : decode bC_M_add 69 = .ok (.iconst 1, 1) := by decide +kernel
theorem dI_M_add_70 : decode bC_M_add 70 = .ok (.goto 4, 3) := by decide +kernel
theorem dI_M_add_73 : decode bC_M_add 73 = .ok (.iconst 0, 1) := by decide +kernel
theorem dI_M_add_74 : decode bC_M_add 74 = .ok (.iconst 2, 1) := by decide +kernel
theorem dI_M_add_75 : decode bC_M_add 75 = .ok (.invokevirtual 27, 3) := by decide +kernel
theorem dI_M_add_78 : decode bC_M_add 78 = .ok (.ifCond .ne 9, 3) := by decide +kernel
theorem dI_M_add_81 : decode bC_M_add 81 = .ok (.aload_n 0, 1) := by decide +kernel
theorem dI_M_add_82 : decode bC_M_add 82 = .ok (.iload_n 3, 1) := by decide +kernel
theorem dI_M_add_83 : decode bC_M_add 83 = .ok (.iconst 0, 1) := by decide +kernel
theorem dI_M_add_84 : decode bC_M_add 84 = .ok (.invokevirtual 42, 3) := by decide +kernel
theorem dI_M_add_87 : decode bC_M_add 87 = .ok (.return_, 1) := by decide +kernel
theorem dI_M_against_0 : decode bC_M_against 0 = .ok (.sipush 128, 3) := by decide +kernel
theorem dI_M_against_3 : decode bC_M_against 3 = .ok (.istore_n 3, 1) := by decide +kernel
theorem dI_M_against_4 : decode bC_M_against 4 = .ok (.iload_n 3, 1) := by decide +kernel
theorem dI_M_against_5 : decode bC_M_against 5 = .ok (.ifCond .lt 44, 3) := by decide +kernel
theorem dI_M_against_8 : decode bC_M_against 8 = .ok (.aload_n 0, 1) := by decide +kernel
theorem dI_M_against_9 : decode bC_M_against 9 = .ok (.getfield 13, 3) := by decide +kernel
theorem dI_M_against_12 : decode bC_M_against 12 = .ok (.sipush 129, 3) := by decide +kernel
theorem dI_M_against_15 : decode bC_M_against 15 = .ok (.iload_n 1, 1) := by decide +kernel
theorem dI_M_against_16 : decode bC_M_against 16 = .ok (.imul, 1) := by decide +kernel
theorem dI_M_against_17 : decode bC_M_against 17 = .ok (.iload_n 3, 1) := by decide +kernel
theorem dI_M_against_18 : decode bC_M_against 18 = .ok (.iadd, 1) := by decide +kernel
theorem dI_M_against_19 : decode bC_M_against 19 = .ok (.iaload, 1) := by decide +kernel
theorem dI_M_against_20 : decode bC_M_against 20 = .ok (.aload_n 0, 1) := by decide +kernel
theorem dI_M_against_21 : decode bC_M_against 21 = .ok (.getfield 13, 3) := by decide +kernel
theorem dI_M_against_24 : decode bC_M_against 24 = .ok (.sipush 129, 3) := by decide +kernel
theorem dI_M_against_27 : decode bC_M_against 27 = .ok (.iload_n 2, 1) := by decide +kernel
theorem dI_M_against_28 : decode bC_M_against 28 = .ok (.imul, 1) := by decide +kernel
theorem dI_M_against_29 : decode bC_M_against 29 = .ok (.iload_n 3, 1) := by decide +kernel
theorem dI_M_against_30 : decode bC_M_against 30 = .ok (.iadd, 1) := by decide +kernel
theorem dI_M_against_31 : decode bC_M_against 31 = .ok (.iaload, 1) := by decide +kernel
theorem dI_M_against_32 : decode bC_M_against 32 = .ok (.isub, 1) := by decide +kernel
theorem dI_M_against_33 : decode bC_M_against 33 = .ok (.istore 4, 2) := by decide +kernel
theorem dI_M_against_35 : decode bC_M_against 35 = .ok (.iload 4, 2) := by decide +kernel
theorem dI_M_against_37 : decode bC_M_against 37 = .ok (.ifCond .eq 6, 3) := by decide +kernel
theorem dI_M_against_40 : decode bC_M_against 40 = .ok (.iload 4, 2) := by decide +kernel
theorem dI_M_against_42 : decode bC_M_against 42 = .ok (.ireturn, 1) := by decide +kernel
theorem dI_M_against_43 : decode bC_M_against 43 = .ok (.iinc 3 (-1), 3) := by decide +kernel
theorem dI_M_against_46 : decode bC_M_against 46 = .ok (.goto (-42), 3) := by decide +kernel
theorem dI_M_against_49 : decode bC_M_against 49 = .ok (.iconst 0, 1) := by decide +kernel
theorem dI_M_against_50 : decode bC_M_against 50 = .ok (.ireturn, 1) := by decide +kernel
theorem dI_M_apart_0 : decode bC_M_apart 0 = .ok (.iconst 1, 1) := by decide +kernel
theorem dI_M_apart_1 : decode bC_M_apart 1 = .ok (.istore_n 2, 1) := by decide +kernel
theorem dI_M_apart_2 : decode bC_M_apart 2 = .ok (.iconst 2, 1) := by decide +kernel
theorem dI_M_apart_3 : decode bC_M_apart 3 = .ok (.istore_n 3, 1) := by decide +kernel
theorem dI_M_apart_4 : decode bC_M_apart 4 = .ok (.iload_n 3, 1) := by decide +kernel
theorem dI_M_apart_5 : decode bC_M_apart 5 = .ok (.iload_n 1, 1) := by decide +kernel
theorem dI_M_apart_6 : decode bC_M_apart 6 = .ok (.if_icmp .gt 31, 3) := by decide +kernel
theorem dI_M_apart_9 : decode bC_M_apart 9 = .ok (.iload_n 2, 1) := by decide +kernel
theorem dI_M_apart_10 : decode bC_M_apart 10 = .ok (.ifCond .eq 27, 3) := by decide +kernel
theorem dI_M_apart_13 : decode bC_M_apart 13 = .ok (.iload_n 0, 1) := by decide +kernel
theorem dI_M_apart_14 : decode bC_M_apart 14 = .ok (.iload_n 3, 1) := by decide +kernel
theorem dI_M_apart_15 : decode bC_M_apart 15 = .ok (.irem, 1) := by decide +kernel
theorem dI_M_apart_16 : decode bC_M_apart 16 = .ok (.ifCond .ne 9, 3) := by decide +kernel
theorem dI_M_apart_19 : decode bC_M_apart 19 = .ok (.iload_n 1, 1) := by decide +kernel
theorem dI_M_apart_20 : decode bC_M_apart 20 = .ok (.iload_n 3, 1) := by decide +kernel
theorem dI_M_apart_21 : decode bC_M_apart 21 = .ok (.irem, 1) := by decide +kernel
theorem dI_M_apart_22 : decode bC_M_apart 22 = .ok (.ifCond .eq 7, 3) := by decide +kernel
theorem dI_M_apart_25 : decode bC_M_apart 25 = .ok (.iconst 1, 1) := by decide +kernel
theorem dI_M_apart_26 : decode bC_M_apart 26 = .ok (.goto 4, 3) := by decide +kernel
theorem dI_M_apart_29 : decode bC_M_apart 29 = .ok (.iconst 0, 1) := by decide +kernel
theorem dI_M_apart_30 : decode bC_M_apart 30 = .ok (.istore_n 2, 1) := by decide +kernel
theorem dI_M_apart_31 : decode bC_M_apart 31 = .ok (.iinc 3 1, 3) := by decide +kernel
theorem dI_M_apart_34 : decode bC_M_apart 34 = .ok (.goto (-30), 3) := by decide +kernel
theorem dI_M_apart_37 : decode bC_M_apart 37 = .ok (.iload_n 2, 1) := by decide +kernel
theorem dI_M_apart_38 : decode bC_M_apart 38 = .ok (.ireturn, 1) := by decide +kernel
theorem dI_M_append_0 : decode bC_M_append 0 = .ok (.aload_n 0, 1) := by decide +kernel
theorem dI_M_append_1 : decode bC_M_append 1 = .ok (.iload_n 1, 1) := by decide +kernel
theorem dI_M_append_2 : decode bC_M_append 2 = .ok (.invokestatic 23, 3) := by decide +kernel
theorem dI_M_append_5 : decode bC_M_append 5 = .ok (.iconst 1, 1) := by decide +kernel
theorem dI_M_append_6 : decode bC_M_append 6 = .ok (.invokevirtual 27, 3) := by decide +kernel
theorem dI_M_append_9 : decode bC_M_append 9 = .ok (.ifCond .eq 4, 3) := by decide +kernel
theorem dI_M_append_12 : decode bC_M_append 12 = .ok (.return_, 1) := by decide +kernel
theorem dI_M_append_13 : decode bC_M_append 13 = .ok (.iconst 0, 1) := by decide +kernel
theorem dI_M_append_14 : decode bC_M_append 14 = .ok (.istore_n 3, 1) := by decide +kernel
theorem dI_M_append_15 : decode bC_M_append 15 = .ok (.bipush 96, 2) := by decide +kernel
theorem dI_M_append_17 : decode bC_M_append 17 = .ok (.istore 4, 2) := by decide +kernel
theorem dI_M_append_19 : decode bC_M_append 19 = .ok (.iload 4, 2) := by decide +kernel
theorem dI_M_append_21 : decode bC_M_append 21 = .ok (.sipush 128, 3) := by decide +kernel
theorem dI_M_append_24 : decode bC_M_append 24 = .ok (.if_icmp .ge 36, 3) := by decide +kernel
theorem dI_M_append_27 : decode bC_M_append 27 = .ok (.iload_n 3, 1) := by decide +kernel
theorem dI_M_append_28 : decode bC_M_append 28 = .ok (.ifCond .ne 20, 3) := by decide +kernel
theorem dI_M_append_31 : decode bC_M_append 31 = .ok (.aload_n 0, 1) := by decide +kernel
theorem dI_M_append_32 : decode bC_M_append 32 = .ok (.getfield 7, 3) := by decide +kernel
theorem dI_M_append_35 : decode bC_M_append 35 = .ok (.sipush 128, 3) := by decide +kernel
