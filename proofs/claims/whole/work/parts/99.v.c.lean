/-! the law's instructions -/
theorem dLw_756 : decode code 756 = .ok (.invokevirtual 95, 3) := by decide +kernel
theorem dLw_759 : decode code 759 = .ok (.aload_n 2, 1) := by decide +kernel
theorem dLw_760 : decode code 760 = .ok (.invokevirtual 98, 3) := by decide +kernel
theorem dLw_763 : decode code 763 = .ok (.if_icmp .eq 579, 3) := by decide +kernel
theorem dLw_766 : decode code 766 = .ok (.iconst 0, 1) := by decide +kernel
theorem dLw_767 : decode code 767 = .ok (.ireturn, 1) := by decide +kernel
theorem dLw_768 : decode code 768 = .ok (.aload_n 1, 1) := by decide +kernel
theorem dLw_769 : decode code 769 = .ok (.aload_n 0, 1) := by decide +kernel
theorem dLw_770 : decode code 770 = .ok (.iload 4, 2) := by decide +kernel
theorem dLw_772 : decode code 772 = .ok (.iconst 1, 1) := by decide +kernel
theorem dLw_773 : decode code 773 = .ok (.iadd, 1) := by decide +kernel
theorem dLw_774 : decode code 774 = .ok (.iaload, 1) := by decide +kernel
theorem dLw_775 : decode code 775 = .ok (.aload_n 0, 1) := by decide +kernel
theorem dLw_776 : decode code 776 = .ok (.iload 4, 2) := by decide +kernel
theorem dLw_778 : decode code 778 = .ok (.iconst 2, 1) := by decide +kernel
theorem dLw_779 : decode code 779 = .ok (.iadd, 1) := by decide +kernel
theorem dLw_780 : decode code 780 = .ok (.iaload, 1) := by decide +kernel
theorem dLw_781 : decode code 781 = .ok (.invokevirtual 99, 3) := by decide +kernel
theorem dLw_784 : decode code 784 = .ok (.aload_n 2, 1) := by decide +kernel
theorem dLw_785 : decode code 785 = .ok (.aload_n 0, 1) := by decide +kernel
theorem dLw_786 : decode code 786 = .ok (.iload 4, 2) := by decide +kernel
theorem dLw_788 : decode code 788 = .ok (.iconst 1, 1) := by decide +kernel
theorem dLw_789 : decode code 789 = .ok (.iadd, 1) := by decide +kernel
theorem dLw_790 : decode code 790 = .ok (.iaload, 1) := by decide +kernel
theorem dLw_791 : decode code 791 = .ok (.aload_n 0, 1) := by decide +kernel
theorem dLw_792 : decode code 792 = .ok (.iload 4, 2) := by decide +kernel
theorem dLw_794 : decode code 794 = .ok (.iconst 2, 1) := by decide +kernel
theorem dLw_795 : decode code 795 = .ok (.iadd, 1) := by decide +kernel
theorem dLw_796 : decode code 796 = .ok (.iaload, 1) := by decide +kernel
theorem dLw_797 : decode code 797 = .ok (.invokevirtual 102, 3) := by decide +kernel
theorem dLw_800 : decode code 800 = .ok (.if_icmp .eq 542, 3) := by decide +kernel
theorem dLw_803 : decode code 803 = .ok (.iconst 0, 1) := by decide +kernel
theorem dLw_804 : decode code 804 = .ok (.ireturn, 1) := by decide +kernel
theorem dLw_805 : decode code 805 = .ok (.aload_n 1, 1) := by decide +kernel
theorem dLw_806 : decode code 806 = .ok (.aload_n 0, 1) := by decide +kernel
theorem dLw_807 : decode code 807 = .ok (.iload 4, 2) := by decide +kernel
theorem dLw_809 : decode code 809 = .ok (.iconst 1, 1) := by decide +kernel
theorem dLw_810 : decode code 810 = .ok (.iadd, 1) := by decide +kernel
theorem dLw_811 : decode code 811 = .ok (.iaload, 1) := by decide +kernel
theorem dLw_812 : decode code 812 = .ok (.invokevirtual 103, 3) := by decide +kernel
theorem dLw_815 : decode code 815 = .ok (.aload_n 2, 1) := by decide +kernel
theorem dLw_816 : decode code 816 = .ok (.aload_n 0, 1) := by decide +kernel
theorem dLw_817 : decode code 817 = .ok (.iload 4, 2) := by decide +kernel
theorem dLw_819 : decode code 819 = .ok (.iconst 1, 1) := by decide +kernel
theorem dLw_820 : decode code 820 = .ok (.iadd, 1) := by decide +kernel
theorem dLw_821 : decode code 821 = .ok (.iaload, 1) := by decide +kernel
theorem dLw_822 : decode code 822 = .ok (.invokevirtual 106, 3) := by decide +kernel
theorem dLw_825 : decode code 825 = .ok (.if_icmp .eq 517, 3) := by decide +kernel
theorem dLw_828 : decode code 828 = .ok (.iconst 0, 1) := by decide +kernel
theorem dLw_829 : decode code 829 = .ok (.ireturn, 1) := by decide +kernel
theorem dLw_830 : decode code 830 = .ok (.aload_n 1, 1) := by decide +kernel
theorem dLw_831 : decode code 831 = .ok (.aload_n 0, 1) := by decide +kernel
theorem dLw_832 : decode code 832 = .ok (.iload 4, 2) := by decide +kernel
theorem dLw_834 : decode code 834 = .ok (.iconst 1, 1) := by decide +kernel
theorem dLw_835 : decode code 835 = .ok (.iadd, 1) := by decide +kernel
theorem dLw_836 : decode code 836 = .ok (.iaload, 1) := by decide +kernel
theorem dLw_837 : decode code 837 = .ok (.invokevirtual 107, 3) := by decide +kernel
theorem dLw_840 : decode code 840 = .ok (.aload_n 2, 1) := by decide +kernel
theorem dLw_841 : decode code 841 = .ok (.aload_n 0, 1) := by decide +kernel
theorem dLw_842 : decode code 842 = .ok (.iload 4, 2) := by decide +kernel
theorem dLw_844 : decode code 844 = .ok (.iconst 1, 1) := by decide +kernel
theorem dLw_845 : decode code 845 = .ok (.iadd, 1) := by decide +kernel
theorem dLw_846 : decode code 846 = .ok (.iaload, 1) := by decide +kernel
theorem dLw_847 : decode code 847 = .ok (.invokevirtual 110, 3) := by decide +kernel
theorem dLw_850 : decode code 850 = .ok (.if_icmp .eq 492, 3) := by decide +kernel
theorem dLw_853 : decode code 853 = .ok (.iconst 0, 1) := by decide +kernel
theorem dLw_854 : decode code 854 = .ok (.ireturn, 1) := by decide +kernel
theorem dLw_855 : decode code 855 = .ok (.aload_n 1, 1) := by decide +kernel
theorem dLw_856 : decode code 856 = .ok (.aload_n 0, 1) := by decide +kernel
theorem dLw_857 : decode code 857 = .ok (.iload 4, 2) := by decide +kernel
theorem dLw_859 : decode code 859 = .ok (.iconst 1, 1) := by decide +kernel
theorem dLw_860 : decode code 860 = .ok (.iadd, 1) := by decide +kernel
theorem dLw_861 : decode code 861 = .ok (.iaload, 1) := by decide +kernel
theorem dLw_862 : decode code 862 = .ok (.invokevirtual 111, 3) := by decide +kernel
theorem dLw_865 : decode code 865 = .ok (.aload_n 2, 1) := by decide +kernel
theorem dLw_866 : decode code 866 = .ok (.aload_n 0, 1) := by decide +kernel
theorem dLw_867 : decode code 867 = .ok (.iload 4, 2) := by decide +kernel
theorem dLw_869 : decode code 869 = .ok (.iconst 1, 1) := by decide +kernel
theorem dLw_870 : decode code 870 = .ok (.iadd, 1) := by decide +kernel
theorem dLw_871 : decode code 871 = .ok (.iaload, 1) := by decide +kernel
theorem dLw_872 : decode code 872 = .ok (.invokevirtual 114, 3) := by decide +kernel
theorem dLw_875 : decode code 875 = .ok (.if_icmp .eq 467, 3) := by decide +kernel
theorem dLw_878 : decode code 878 = .ok (.iconst 0, 1) := by decide +kernel
theorem dLw_879 : decode code 879 = .ok (.ireturn, 1) := by decide +kernel
theorem dLw_880 : decode code 880 = .ok (.aload_n 1, 1) := by decide +kernel
theorem dLw_881 : decode code 881 = .ok (.aload_n 0, 1) := by decide +kernel
theorem dLw_882 : decode code 882 = .ok (.iload 4, 2) := by decide +kernel
theorem dLw_884 : decode code 884 = .ok (.iconst 1, 1) := by decide +kernel
theorem dLw_885 : decode code 885 = .ok (.iadd, 1) := by decide +kernel
theorem dLw_886 : decode code 886 = .ok (.iaload, 1) := by decide +kernel
theorem dLw_887 : decode code 887 = .ok (.aload_n 0, 1) := by decide +kernel
theorem dLw_888 : decode code 888 = .ok (.iload 4, 2) := by decide +kernel
theorem dLw_890 : decode code 890 = .ok (.iconst 2, 1) := by decide +kernel
theorem dLw_891 : decode code 891 = .ok (.iadd, 1) := by decide +kernel
theorem dLw_892 : decode code 892 = .ok (.iaload, 1) := by decide +kernel
theorem dLw_893 : decode code 893 = .ok (.invokevirtual 115, 3) := by decide +kernel
theorem dLw_896 : decode code 896 = .ok (.aload_n 2, 1) := by decide +kernel
theorem dLw_897 : decode code 897 = .ok (.aload_n 0, 1) := by decide +kernel
theorem dLw_898 : decode code 898 = .ok (.iload 4, 2) := by decide +kernel
theorem dLw_900 : decode code 900 = .ok (.iconst 1, 1) := by decide +kernel
theorem dLw_901 : decode code 901 = .ok (.iadd, 1) := by decide +kernel
theorem dLw_902 : decode code 902 = .ok (.iaload, 1) := by decide +kernel
theorem dLw_903 : decode code 903 = .ok (.aload_n 0, 1) := by decide +kernel
theorem dLw_904 : decode code 904 = .ok (.iload 4, 2) := by decide +kernel
theorem dLw_906 : decode code 906 = .ok (.iconst 2, 1) := by decide +kernel
theorem dLw_907 : decode code 907 = .ok (.iadd, 1) := by decide +kernel
theorem dLw_908 : decode code 908 = .ok (.iaload, 1) := by decide +kernel
theorem dLw_909 : decode code 909 = .ok (.invokevirtual 118, 3) := by decide +kernel
theorem dLw_912 : decode code 912 = .ok (.if_icmp .eq 430, 3) := by decide +kernel
theorem dLw_915 : decode code 915 = .ok (.iconst 0, 1) := by decide +kernel
theorem dLw_916 : decode code 916 = .ok (.ireturn, 1) := by decide +kernel
theorem dLw_917 : decode code 917 = .ok (.aload_n 1, 1) := by decide +kernel
theorem dLw_918 : decode code 918 = .ok (.aload_n 0, 1) := by decide +kernel
theorem dLw_919 : decode code 919 = .ok (.iload 4, 2) := by decide +kernel
theorem dLw_921 : decode code 921 = .ok (.iconst 1, 1) := by decide +kernel
theorem dLw_922 : decode code 922 = .ok (.iadd, 1) := by decide +kernel
theorem dLw_923 : decode code 923 = .ok (.iaload, 1) := by decide +kernel
theorem dLw_924 : decode code 924 = .ok (.aload_n 0, 1) := by decide +kernel
theorem dLw_925 : decode code 925 = .ok (.iload 4, 2) := by decide +kernel
theorem dLw_927 : decode code 927 = .ok (.iconst 2, 1) := by decide +kernel
theorem dLw_928 : decode code 928 = .ok (.iadd, 1) := by decide +kernel
theorem dLw_929 : decode code 929 = .ok (.iaload, 1) := by decide +kernel
theorem dLw_930 : decode code 930 = .ok (.aload_n 0, 1) := by decide +kernel
theorem dLw_931 : decode code 931 = .ok (.iload 4, 2) := by decide +kernel
theorem dLw_933 : decode code 933 = .ok (.iconst 3, 1) := by decide +kernel
theorem dLw_934 : decode code 934 = .ok (.iadd, 1) := by decide +kernel
theorem dLw_935 : decode code 935 = .ok (.iaload, 1) := by decide +kernel
theorem dLw_936 : decode code 936 = .ok (.ifCond .eq 7, 3) := by decide +kernel
theorem dLw_939 : decode code 939 = .ok (.iconst 1, 1) := by decide +kernel
theorem dLw_940 : decode code 940 = .ok (.goto 4, 3) := by decide +kernel
theorem dLw_943 : decode code 943 = .ok (.iconst 0, 1) := by decide +kernel
theorem dLw_944 : decode code 944 = .ok (.invokevirtual 119, 3) := by decide +kernel
theorem dLw_947 : decode code 947 = .ok (.aload_n 2, 1) := by decide +kernel
theorem dLw_948 : decode code 948 = .ok (.aload_n 0, 1) := by decide +kernel
theorem dLw_949 : decode code 949 = .ok (.iload 4, 2) := by decide +kernel
theorem dLw_951 : decode code 951 = .ok (.iconst 1, 1) := by decide +kernel
theorem dLw_952 : decode code 952 = .ok (.iadd, 1) := by decide +kernel
theorem dLw_953 : decode code 953 = .ok (.iaload, 1) := by decide +kernel
theorem dLw_954 : decode code 954 = .ok (.aload_n 0, 1) := by decide +kernel
theorem dLw_955 : decode code 955 = .ok (.iload 4, 2) := by decide +kernel
theorem dLw_957 : decode code 957 = .ok (.iconst 2, 1) := by decide +kernel
theorem dLw_958 : decode code 958 = .ok (.iadd, 1) := by decide +kernel
theorem dLw_959 : decode code 959 = .ok (.iaload, 1) := by decide +kernel
theorem dLw_960 : decode code 960 = .ok (.aload_n 0, 1) := by decide +kernel
theorem dLw_961 : decode code 961 = .ok (.iload 4, 2) := by decide +kernel
theorem dLw_963 : decode code 963 = .ok (.iconst 3, 1) := by decide +kernel
theorem dLw_964 : decode code 964 = .ok (.iadd, 1) := by decide +kernel
theorem dLw_965 : decode code 965 = .ok (.iaload, 1) := by decide +kernel
theorem dLw_966 : decode code 966 = .ok (.ifCond .eq 7, 3) := by decide +kernel
theorem dLw_969 : decode code 969 = .ok (.iconst 1, 1) := by decide +kernel
theorem dLw_970 : decode code 970 = .ok (.goto 4, 3) := by decide +kernel
theorem dLw_973 : decode code 973 = .ok (.iconst 0, 1) := by decide +kernel
theorem dLw_974 : decode code 974 = .ok (.invokevirtual 123, 3) := by decide +kernel
theorem dLw_977 : decode code 977 = .ok (.if_icmp .eq 365, 3) := by decide +kernel
theorem dLw_980 : decode code 980 = .ok (.iconst 0, 1) := by decide +kernel
theorem dLw_981 : decode code 981 = .ok (.ireturn, 1) := by decide +kernel
theorem dLw_982 : decode code 982 = .ok (.aload_n 1, 1) := by decide +kernel
theorem dLw_983 : decode code 983 = .ok (.aload_n 0, 1) := by decide +kernel
theorem dLw_984 : decode code 984 = .ok (.iload 4, 2) := by decide +kernel
theorem dLw_986 : decode code 986 = .ok (.iconst 1, 1) := by decide +kernel
theorem dLw_987 : decode code 987 = .ok (.iadd, 1) := by decide +kernel
theorem dLw_988 : decode code 988 = .ok (.iaload, 1) := by decide +kernel
theorem dLw_989 : decode code 989 = .ok (.invokevirtual 124, 3) := by decide +kernel
theorem dLw_992 : decode code 992 = .ok (.aload_n 2, 1) := by decide +kernel
theorem dLw_993 : decode code 993 = .ok (.aload_n 0, 1) := by decide +kernel
theorem dLw_994 : decode code 994 = .ok (.iload 4, 2) := by decide +kernel
theorem dLw_996 : decode code 996 = .ok (.iconst 1, 1) := by decide +kernel
theorem dLw_997 : decode code 997 = .ok (.iadd, 1) := by decide +kernel
theorem dLw_998 : decode code 998 = .ok (.iaload, 1) := by decide +kernel
theorem dLw_999 : decode code 999 = .ok (.invokevirtual 127, 3) := by decide +kernel
theorem dLw_1002 : decode code 1002 = .ok (.if_icmp .eq 340, 3) := by decide +kernel
theorem dLw_1005 : decode code 1005 = .ok (.iconst 0, 1) := by decide +kernel
theorem dLw_1006 : decode code 1006 = .ok (.ireturn, 1) := by decide +kernel
theorem dLw_1007 : decode code 1007 = .ok (.aload_n 1, 1) := by decide +kernel
theorem dLw_1008 : decode code 1008 = .ok (.invokevirtual 128, 3) := by decide +kernel
theorem dLw_1011 : decode code 1011 = .ok (.aload_n 2, 1) := by decide +kernel
theorem dLw_1012 : decode code 1012 = .ok (.invokevirtual 131, 3) := by decide +kernel
theorem dLw_1015 : decode code 1015 = .ok (.if_icmp .eq 327, 3) := by decide +kernel
theorem dLw_1018 : decode code 1018 = .ok (.iconst 0, 1) := by decide +kernel
theorem dLw_1019 : decode code 1019 = .ok (.ireturn, 1) := by decide +kernel
theorem dLw_1020 : decode code 1020 = .ok (.aload_n 1, 1) := by decide +kernel
theorem dLw_1021 : decode code 1021 = .ok (.aload_n 0, 1) := by decide +kernel
theorem dLw_1022 : decode code 1022 = .ok (.iload 4, 2) := by decide +kernel
theorem dLw_1024 : decode code 1024 = .ok (.iconst 1, 1) := by decide +kernel
theorem dLw_1025 : decode code 1025 = .ok (.iadd, 1) := by decide +kernel
theorem dLw_1026 : decode code 1026 = .ok (.iaload, 1) := by decide +kernel
theorem dLw_1027 : decode code 1027 = .ok (.invokevirtual 132, 3) := by decide +kernel
theorem dLw_1030 : decode code 1030 = .ok (.aload_n 2, 1) := by decide +kernel
theorem dLw_1031 : decode code 1031 = .ok (.aload_n 0, 1) := by decide +kernel
theorem dLw_1032 : decode code 1032 = .ok (.iload 4, 2) := by decide +kernel
theorem dLw_1034 : decode code 1034 = .ok (.iconst 1, 1) := by decide +kernel
theorem dLw_1035 : decode code 1035 = .ok (.iadd, 1) := by decide +kernel
theorem dLw_1036 : decode code 1036 = .ok (.iaload, 1) := by decide +kernel
theorem dLw_1037 : decode code 1037 = .ok (.invokevirtual 135, 3) := by decide +kernel
theorem dLw_1040 : decode code 1040 = .ok (.if_icmp .eq 302, 3) := by decide +kernel
theorem dLw_1043 : decode code 1043 = .ok (.iconst 0, 1) := by decide +kernel
theorem dLw_1044 : decode code 1044 = .ok (.ireturn, 1) := by decide +kernel
theorem dLw_1045 : decode code 1045 = .ok (.aload_n 1, 1) := by decide +kernel
theorem dLw_1046 : decode code 1046 = .ok (.aload_n 0, 1) := by decide +kernel
theorem dLw_1047 : decode code 1047 = .ok (.iload 4, 2) := by decide +kernel
theorem dLw_1049 : decode code 1049 = .ok (.iconst 1, 1) := by decide +kernel
theorem dLw_1050 : decode code 1050 = .ok (.iadd, 1) := by decide +kernel
theorem dLw_1051 : decode code 1051 = .ok (.iaload, 1) := by decide +kernel
theorem dLw_1052 : decode code 1052 = .ok (.aload_n 0, 1) := by decide +kernel
theorem dLw_1053 : decode code 1053 = .ok (.iload 4, 2) := by decide +kernel
theorem dLw_1055 : decode code 1055 = .ok (.iconst 2, 1) := by decide +kernel
theorem dLw_1056 : decode code 1056 = .ok (.iadd, 1) := by decide +kernel
theorem dLw_1057 : decode code 1057 = .ok (.iaload, 1) := by decide +kernel
theorem dLw_1058 : decode code 1058 = .ok (.aload_n 0, 1) := by decide +kernel
theorem dLw_1059 : decode code 1059 = .ok (.iload 4, 2) := by decide +kernel
