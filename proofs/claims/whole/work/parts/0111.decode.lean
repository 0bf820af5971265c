theorem d_Law_law_738 : decode code 738 = .ok (.laload, 1) := by decide +kernel
theorem d_Law_law_739 : decode code 739 = .ok (.iload 6, 2) := by decide +kernel
theorem d_Law_law_741 : decode code 741 = .ok (.i2l, 1) := by decide +kernel
theorem d_Law_law_742 : decode code 742 = .ok (.lcmp, 1) := by decide +kernel
theorem d_Law_law_743 : decode code 743 = .ok (.ifCond .eq 5, 3) := by decide +kernel
theorem d_Law_law_746 : decode code 746 = .ok (.iconst 0, 1) := by decide +kernel
theorem d_Law_law_747 : decode code 747 = .ok (.ireturn, 1) := by decide +kernel
theorem d_Law_law_748 : decode code 748 = .ok (.goto 337, 3) := by decide +kernel
theorem d_Law_law_751 : decode code 751 = .ok (.aload_n 1, 1) := by decide +kernel
theorem d_Law_law_752 : decode code 752 = .ok (.aload_n 0, 1) := by decide +kernel
theorem d_Law_law_753 : decode code 753 = .ok (.iload 4, 2) := by decide +kernel
theorem d_Law_law_755 : decode code 755 = .ok (.iconst 1, 1) := by decide +kernel
theorem d_Law_law_756 : decode code 756 = .ok (.iadd, 1) := by decide +kernel
theorem d_Law_law_757 : decode code 757 = .ok (.iaload, 1) := by decide +kernel
theorem d_Law_law_758 : decode code 758 = .ok (.aload_n 0, 1) := by decide +kernel
theorem d_Law_law_759 : decode code 759 = .ok (.iload 4, 2) := by decide +kernel
theorem d_Law_law_761 : decode code 761 = .ok (.iconst 2, 1) := by decide +kernel
theorem d_Law_law_762 : decode code 762 = .ok (.iadd, 1) := by decide +kernel
theorem d_Law_law_763 : decode code 763 = .ok (.iaload, 1) := by decide +kernel
theorem d_Law_law_764 : decode code 764 = .ok (.invokestatic 119, 3) := by decide +kernel
theorem d_Law_law_767 : decode code 767 = .ok (.istore 5, 2) := by decide +kernel
theorem d_Law_law_769 : decode code 769 = .ok (.aload_n 2, 1) := by decide +kernel
theorem d_Law_law_770 : decode code 770 = .ok (.aload_n 0, 1) := by decide +kernel
theorem d_Law_law_771 : decode code 771 = .ok (.iload 4, 2) := by decide +kernel
theorem d_Law_law_773 : decode code 773 = .ok (.iconst 1, 1) := by decide +kernel
theorem d_Law_law_774 : decode code 774 = .ok (.iadd, 1) := by decide +kernel
theorem d_Law_law_775 : decode code 775 = .ok (.iaload, 1) := by decide +kernel
theorem d_Law_law_776 : decode code 776 = .ok (.aload_n 0, 1) := by decide +kernel
theorem d_Law_law_777 : decode code 777 = .ok (.iload 4, 2) := by decide +kernel
theorem d_Law_law_779 : decode code 779 = .ok (.iconst 2, 1) := by decide +kernel
theorem d_Law_law_780 : decode code 780 = .ok (.iadd, 1) := by decide +kernel
theorem d_Law_law_781 : decode code 781 = .ok (.iaload, 1) := by decide +kernel
theorem d_Law_law_782 : decode code 782 = .ok (.invokevirtual 121, 3) := by decide +kernel
theorem d_Law_law_785 : decode code 785 = .ok (.aload_n 2, 1) := by decide +kernel
theorem d_Law_law_786 : decode code 786 = .ok (.invokevirtual 82, 3) := by decide +kernel
theorem d_Law_law_789 : decode code 789 = .ok (.iload 5, 2) := by decide +kernel
theorem d_Law_law_791 : decode code 791 = .ok (.if_icmp .eq 5, 3) := by decide +kernel
theorem d_Law_law_794 : decode code 794 = .ok (.iconst 0, 1) := by decide +kernel
theorem d_Law_law_795 : decode code 795 = .ok (.ireturn, 1) := by decide +kernel
theorem d_Law_law_796 : decode code 796 = .ok (.goto 289, 3) := by decide +kernel
theorem d_Law_law_799 : decode code 799 = .ok (.aload_n 1, 1) := by decide +kernel
theorem d_Law_law_800 : decode code 800 = .ok (.aload_n 0, 1) := by decide +kernel
theorem d_Law_law_801 : decode code 801 = .ok (.iload 4, 2) := by decide +kernel
theorem d_Law_law_803 : decode code 803 = .ok (.iconst 1, 1) := by decide +kernel
theorem d_Law_law_804 : decode code 804 = .ok (.iadd, 1) := by decide +kernel
theorem d_Law_law_805 : decode code 805 = .ok (.iaload, 1) := by decide +kernel
theorem d_Law_law_806 : decode code 806 = .ok (.aload_n 0, 1) := by decide +kernel
theorem d_Law_law_807 : decode code 807 = .ok (.iload 4, 2) := by decide +kernel
theorem d_Law_law_809 : decode code 809 = .ok (.iconst 2, 1) := by decide +kernel
theorem d_Law_law_810 : decode code 810 = .ok (.iadd, 1) := by decide +kernel
theorem d_Law_law_811 : decode code 811 = .ok (.iaload, 1) := by decide +kernel
theorem d_Law_law_812 : decode code 812 = .ok (.aload_n 0, 1) := by decide +kernel
theorem d_Law_law_813 : decode code 813 = .ok (.iload 4, 2) := by decide +kernel
theorem d_Law_law_815 : decode code 815 = .ok (.iconst 3, 1) := by decide +kernel
theorem d_Law_law_816 : decode code 816 = .ok (.iadd, 1) := by decide +kernel
theorem d_Law_law_817 : decode code 817 = .ok (.iaload, 1) := by decide +kernel
theorem d_Law_law_818 : decode code 818 = .ok (.ifCond .eq 7, 3) := by decide +kernel
theorem d_Law_law_821 : decode code 821 = .ok (.iconst 1, 1) := by decide +kernel
theorem d_Law_law_822 : decode code 822 = .ok (.goto 4, 3) := by decide +kernel
theorem d_Law_law_825 : decode code 825 = .ok (.iconst 0, 1) := by decide +kernel
theorem d_Law_law_826 : decode code 826 = .ok (.invokestatic 122, 3) := by decide +kernel
theorem d_Law_law_829 : decode code 829 = .ok (.istore 5, 2) := by decide +kernel
theorem d_Law_law_831 : decode code 831 = .ok (.aload_n 2, 1) := by decide +kernel
theorem d_Law_law_832 : decode code 832 = .ok (.aload_n 0, 1) := by decide +kernel
theorem d_Law_law_833 : decode code 833 = .ok (.iload 4, 2) := by decide +kernel
theorem d_Law_law_835 : decode code 835 = .ok (.iconst 1, 1) := by decide +kernel
theorem d_Law_law_836 : decode code 836 = .ok (.iadd, 1) := by decide +kernel
theorem d_Law_law_837 : decode code 837 = .ok (.iaload, 1) := by decide +kernel
theorem d_Law_law_838 : decode code 838 = .ok (.aload_n 0, 1) := by decide +kernel
theorem d_Law_law_839 : decode code 839 = .ok (.iload 4, 2) := by decide +kernel
theorem d_Law_law_841 : decode code 841 = .ok (.iconst 2, 1) := by decide +kernel
theorem d_Law_law_842 : decode code 842 = .ok (.iadd, 1) := by decide +kernel
theorem d_Law_law_843 : decode code 843 = .ok (.iaload, 1) := by decide +kernel
theorem d_Law_law_844 : decode code 844 = .ok (.aload_n 0, 1) := by decide +kernel
theorem d_Law_law_845 : decode code 845 = .ok (.iload 4, 2) := by decide +kernel
theorem d_Law_law_847 : decode code 847 = .ok (.iconst 3, 1) := by decide +kernel
theorem d_Law_law_848 : decode code 848 = .ok (.iadd, 1) := by decide +kernel
theorem d_Law_law_849 : decode code 849 = .ok (.iaload, 1) := by decide +kernel
theorem d_Law_law_850 : decode code 850 = .ok (.ifCond .eq 7, 3) := by decide +kernel
theorem d_Law_law_853 : decode code 853 = .ok (.iconst 1, 1) := by decide +kernel
theorem d_Law_law_854 : decode code 854 = .ok (.goto 4, 3) := by decide +kernel
theorem d_Law_law_857 : decode code 857 = .ok (.iconst 0, 1) := by decide +kernel
theorem d_Law_law_858 : decode code 858 = .ok (.invokevirtual 125, 3) := by decide +kernel
theorem d_Law_law_861 : decode code 861 = .ok (.aload_n 2, 1) := by decide +kernel
theorem d_Law_law_862 : decode code 862 = .ok (.invokevirtual 82, 3) := by decide +kernel
theorem d_Law_law_865 : decode code 865 = .ok (.iload 5, 2) := by decide +kernel
theorem d_Law_law_867 : decode code 867 = .ok (.if_icmp .eq 5, 3) := by decide +kernel
theorem d_Law_law_870 : decode code 870 = .ok (.iconst 0, 1) := by decide +kernel
theorem d_Law_law_871 : decode code 871 = .ok (.ireturn, 1) := by decide +kernel
theorem d_Law_law_872 : decode code 872 = .ok (.goto 213, 3) := by decide +kernel
theorem d_Law_law_875 : decode code 875 = .ok (.aload_n 1, 1) := by decide +kernel
theorem d_Law_law_876 : decode code 876 = .ok (.aload_n 0, 1) := by decide +kernel
theorem d_Law_law_877 : decode code 877 = .ok (.iload 4, 2) := by decide +kernel
theorem d_Law_law_879 : decode code 879 = .ok (.iconst 1, 1) := by decide +kernel
theorem d_Law_law_880 : decode code 880 = .ok (.iadd, 1) := by decide +kernel
theorem d_Law_law_881 : decode code 881 = .ok (.iaload, 1) := by decide +kernel
theorem d_Law_law_882 : decode code 882 = .ok (.aload_n 3, 1) := by decide +kernel
theorem d_Law_law_883 : decode code 883 = .ok (.invokestatic 126, 3) := by decide +kernel
theorem d_Law_law_886 : decode code 886 = .ok (.istore 5, 2) := by decide +kernel
theorem d_Law_law_888 : decode code 888 = .ok (.aload_n 2, 1) := by decide +kernel
theorem d_Law_law_889 : decode code 889 = .ok (.aload_n 0, 1) := by decide +kernel
theorem d_Law_law_890 : decode code 890 = .ok (.iload 4, 2) := by decide +kernel
theorem d_Law_law_892 : decode code 892 = .ok (.iconst 1, 1) := by decide +kernel
theorem d_Law_law_893 : decode code 893 = .ok (.iadd, 1) := by decide +kernel
theorem d_Law_law_894 : decode code 894 = .ok (.iaload, 1) := by decide +kernel
theorem d_Law_law_895 : decode code 895 = .ok (.invokevirtual 128, 3) := by decide +kernel
theorem d_Law_law_898 : decode code 898 = .ok (.istore 6, 2) := by decide +kernel
theorem d_Law_law_900 : decode code 900 = .ok (.aload_n 2, 1) := by decide +kernel
theorem d_Law_law_901 : decode code 901 = .ok (.invokevirtual 82, 3) := by decide +kernel
theorem d_Law_law_904 : decode code 904 = .ok (.iload 5, 2) := by decide +kernel
theorem d_Law_law_906 : decode code 906 = .ok (.if_icmp .eq 5, 3) := by decide +kernel
theorem d_Law_law_909 : decode code 909 = .ok (.iconst 0, 1) := by decide +kernel
theorem d_Law_law_910 : decode code 910 = .ok (.ireturn, 1) := by decide +kernel
theorem d_Law_law_911 : decode code 911 = .ok (.iload 5, 2) := by decide +kernel
theorem d_Law_law_913 : decode code 913 = .ok (.ifCond .ne 22, 3) := by decide +kernel
theorem d_Law_law_916 : decode code 916 = .ok (.aload_n 3, 1) := by decide +kernel
theorem d_Law_law_917 : decode code 917 = .ok (.iconst 0, 1) := by decide +kernel
theorem d_Law_law_918 : decode code 918 = .ok (.laload, 1) := by decide +kernel
theorem d_Law_law_919 : decode code 919 = .ok (.iload 6, 2) := by decide +kernel
theorem d_Law_law_921 : decode code 921 = .ok (.ifCond .eq 7, 3) := by decide +kernel
theorem d_Law_law_924 : decode code 924 = .ok (.lconst 1, 1) := by decide +kernel
theorem d_Law_law_925 : decode code 925 = .ok (.goto 4, 3) := by decide +kernel
theorem d_Law_law_928 : decode code 928 = .ok (.lconst 0, 1) := by decide +kernel
theorem d_Law_law_929 : decode code 929 = .ok (.lcmp, 1) := by decide +kernel
theorem d_Law_law_930 : decode code 930 = .ok (.ifCond .eq 5, 3) := by decide +kernel
theorem d_Law_law_933 : decode code 933 = .ok (.iconst 0, 1) := by decide +kernel
theorem d_Law_law_934 : decode code 934 = .ok (.ireturn, 1) := by decide +kernel
theorem d_Law_law_935 : decode code 935 = .ok (.goto 150, 3) := by decide +kernel
theorem d_Law_law_938 : decode code 938 = .ok (.aload_n 1, 1) := by decide +kernel
theorem d_Law_law_939 : decode code 939 = .ok (.aload_n 0, 1) := by decide +kernel
theorem d_Law_law_940 : decode code 940 = .ok (.iload 4, 2) := by decide +kernel
theorem d_Law_law_942 : decode code 942 = .ok (.iconst 1, 1) := by decide +kernel
theorem d_Law_law_943 : decode code 943 = .ok (.iadd, 1) := by decide +kernel
theorem d_Law_law_944 : decode code 944 = .ok (.iaload, 1) := by decide +kernel
theorem d_Law_law_945 : decode code 945 = .ok (.aload_n 0, 1) := by decide +kernel
theorem d_Law_law_946 : decode code 946 = .ok (.iload 4, 2) := by decide +kernel
theorem d_Law_law_948 : decode code 948 = .ok (.iconst 2, 1) := by decide +kernel
theorem d_Law_law_949 : decode code 949 = .ok (.iadd, 1) := by decide +kernel
theorem d_Law_law_950 : decode code 950 = .ok (.iaload, 1) := by decide +kernel
theorem d_Law_law_951 : decode code 951 = .ok (.aload_n 3, 1) := by decide +kernel
theorem d_Law_law_952 : decode code 952 = .ok (.invokestatic 129, 3) := by decide +kernel
theorem d_Law_law_955 : decode code 955 = .ok (.istore 5, 2) := by decide +kernel
theorem d_Law_law_957 : decode code 957 = .ok (.aload_n 2, 1) := by decide +kernel
theorem d_Law_law_958 : decode code 958 = .ok (.aload_n 0, 1) := by decide +kernel
theorem d_Law_law_959 : decode code 959 = .ok (.iload 4, 2) := by decide +kernel
theorem d_Law_law_961 : decode code 961 = .ok (.iconst 1, 1) := by decide +kernel
theorem d_Law_law_962 : decode code 962 = .ok (.iadd, 1) := by decide +kernel
theorem d_Law_law_963 : decode code 963 = .ok (.iaload, 1) := by decide +kernel
theorem d_Law_law_964 : decode code 964 = .ok (.aload_n 0, 1) := by decide +kernel
theorem d_Law_law_965 : decode code 965 = .ok (.iload 4, 2) := by decide +kernel
theorem d_Law_law_967 : decode code 967 = .ok (.iconst 2, 1) := by decide +kernel
theorem d_Law_law_968 : decode code 968 = .ok (.iadd, 1) := by decide +kernel
theorem d_Law_law_969 : decode code 969 = .ok (.iaload, 1) := by decide +kernel
theorem d_Law_law_970 : decode code 970 = .ok (.invokevirtual 132, 3) := by decide +kernel
theorem d_Law_law_973 : decode code 973 = .ok (.istore 6, 2) := by decide +kernel
theorem d_Law_law_975 : decode code 975 = .ok (.aload_n 2, 1) := by decide +kernel
theorem d_Law_law_976 : decode code 976 = .ok (.invokevirtual 82, 3) := by decide +kernel
theorem d_Law_law_979 : decode code 979 = .ok (.iload 5, 2) := by decide +kernel
theorem d_Law_law_981 : decode code 981 = .ok (.if_icmp .eq 5, 3) := by decide +kernel
theorem d_Law_law_984 : decode code 984 = .ok (.iconst 0, 1) := by decide +kernel
theorem d_Law_law_985 : decode code 985 = .ok (.ireturn, 1) := by decide +kernel
theorem d_Law_law_986 : decode code 986 = .ok (.iload 5, 2) := by decide +kernel
theorem d_Law_law_988 : decode code 988 = .ok (.ifCond .ne 15, 3) := by decide +kernel
theorem d_Law_law_991 : decode code 991 = .ok (.aload_n 3, 1) := by decide +kernel
theorem d_Law_law_992 : decode code 992 = .ok (.iconst 0, 1) := by decide +kernel
theorem d_Law_law_993 : decode code 993 = .ok (.laload, 1) := by decide +kernel
theorem d_Law_law_994 : decode code 994 = .ok (.iload 6, 2) := by decide +kernel
theorem d_Law_law_996 : decode code 996 = .ok (.i2l, 1) := by decide +kernel
theorem d_Law_law_997 : decode code 997 = .ok (.lcmp, 1) := by decide +kernel
theorem d_Law_law_998 : decode code 998 = .ok (.ifCond .eq 5, 3) := by decide +kernel
theorem d_Law_law_1001 : decode code 1001 = .ok (.iconst 0, 1) := by decide +kernel
theorem d_Law_law_1002 : decode code 1002 = .ok (.ireturn, 1) := by decide +kernel
theorem d_Law_law_1003 : decode code 1003 = .ok (.goto 82, 3) := by decide +kernel
theorem d_Law_law_1006 : decode code 1006 = .ok (.aload_n 1, 1) := by decide +kernel
theorem d_Law_law_1007 : decode code 1007 = .ok (.aload_n 0, 1) := by decide +kernel
theorem d_Law_law_1008 : decode code 1008 = .ok (.iload 4, 2) := by decide +kernel
theorem d_Law_law_1010 : decode code 1010 = .ok (.iconst 1, 1) := by decide +kernel
theorem d_Law_law_1011 : decode code 1011 = .ok (.iadd, 1) := by decide +kernel
theorem d_Law_law_1012 : decode code 1012 = .ok (.iaload, 1) := by decide +kernel
theorem d_Law_law_1013 : decode code 1013 = .ok (.aload_n 0, 1) := by decide +kernel
theorem d_Law_law_1014 : decode code 1014 = .ok (.iload 4, 2) := by decide +kernel
theorem d_Law_law_1016 : decode code 1016 = .ok (.iconst 2, 1) := by decide +kernel
theorem d_Law_law_1017 : decode code 1017 = .ok (.iadd, 1) := by decide +kernel
theorem d_Law_law_1018 : decode code 1018 = .ok (.iaload, 1) := by decide +kernel
theorem d_Law_law_1019 : decode code 1019 = .ok (.aload_n 3, 1) := by decide +kernel
theorem d_Law_law_1020 : decode code 1020 = .ok (.invokestatic 133, 3) := by decide +kernel
theorem d_Law_law_1023 : decode code 1023 = .ok (.istore 5, 2) := by decide +kernel
theorem d_Law_law_1025 : decode code 1025 = .ok (.aload_n 2, 1) := by decide +kernel
theorem d_Law_law_1026 : decode code 1026 = .ok (.aload_n 0, 1) := by decide +kernel
theorem d_Law_law_1027 : decode code 1027 = .ok (.iload 4, 2) := by decide +kernel
theorem d_Law_law_1029 : decode code 1029 = .ok (.iconst 1, 1) := by decide +kernel
theorem d_Law_law_1030 : decode code 1030 = .ok (.iadd, 1) := by decide +kernel
theorem d_Law_law_1031 : decode code 1031 = .ok (.iaload, 1) := by decide +kernel
theorem d_Law_law_1032 : decode code 1032 = .ok (.aload_n 0, 1) := by decide +kernel
theorem d_Law_law_1033 : decode code 1033 = .ok (.iload 4, 2) := by decide +kernel
theorem d_Law_law_1035 : decode code 1035 = .ok (.iconst 2, 1) := by decide +kernel
theorem d_Law_law_1036 : decode code 1036 = .ok (.iadd, 1) := by decide +kernel
theorem d_Law_law_1037 : decode code 1037 = .ok (.iaload, 1) := by decide +kernel
theorem d_Law_law_1038 : decode code 1038 = .ok (.invokevirtual 135, 3) := by decide +kernel
theorem d_Law_law_1041 : decode code 1041 = .ok (.istore 6, 2) := by decide +kernel
theorem d_Law_law_1043 : decode code 1043 = .ok (.aload_n 2, 1) := by decide +kernel
theorem d_Law_law_1044 : decode code 1044 = .ok (.invokevirtual 82, 3) := by decide +kernel
theorem d_Law_law_1047 : decode code 1047 = .ok (.iload 5, 2) := by decide +kernel
theorem d_Law_law_1049 : decode code 1049 = .ok (.if_icmp .eq 5, 3) := by decide +kernel
theorem d_Law_law_1052 : decode code 1052 = .ok (.iconst 0, 1) := by decide +kernel
theorem d_Law_law_1053 : decode code 1053 = .ok (.ireturn, 1) := by decide +kernel
theorem d_Law_law_1054 : decode code 1054 = .ok (.iload 5, 2) := by decide +kernel
theorem d_Law_law_1056 : decode code 1056 = .ok (.ifCond .ne 15, 3) := by decide +kernel
theorem d_Law_law_1059 : decode code 1059 = .ok (.aload_n 3, 1) := by decide +kernel
theorem d_Law_law_1060 : decode code 1060 = .ok (.iconst 0, 1) := by decide +kernel
theorem d_Law_law_1061 : decode code 1061 = .ok (.laload, 1) := by decide +kernel
theorem d_Law_law_1062 : decode code 1062 = .ok (.iload 6, 2) := by decide +kernel
theorem d_Law_law_1064 : decode code 1064 = .ok (.i2l, 1) := by decide +kernel
theorem d_Law_law_1065 : decode code 1065 = .ok (.lcmp, 1) := by decide +kernel
theorem d_Law_law_1066 : decode code 1066 = .ok (.ifCond .eq 5, 3) := by decide +kernel
theorem d_Law_law_1069 : decode code 1069 = .ok (.iconst 0, 1) := by decide +kernel
theorem d_Law_law_1070 : decode code 1070 = .ok (.ireturn, 1) := by decide +kernel
theorem d_Law_law_1071 : decode code 1071 = .ok (.goto 14, 3) := by decide +kernel
theorem d_Law_law_1074 : decode code 1074 = .ok (.aload_n 1, 1) := by decide +kernel
theorem d_Law_law_1075 : decode code 1075 = .ok (.invokevirtual 136, 3) := by decide +kernel
theorem d_Law_law_1078 : decode code 1078 = .ok (.aload_n 2, 1) := by decide +kernel
theorem d_Law_law_1079 : decode code 1079 = .ok (.invokevirtual 139, 3) := by decide +kernel
theorem d_Law_law_1082 : decode code 1082 = .ok (.goto 3, 3) := by decide +kernel
theorem d_Law_law_1085 : decode code 1085 = .ok (.iinc 4 5, 3) := by decide +kernel
theorem d_Law_law_1088 : decode code 1088 = .ok (.goto (-1065), 3) := by decide +kernel
theorem d_Law_law_1091 : decode code 1091 = .ok (.iconst 1, 1) := by decide +kernel
theorem d_Law_law_1092 : decode code 1092 = .ok (.ireturn, 1) := by decide +kernel
