/-! the law's instructions -/
theorem d_law_859 : decode code 859 = .ok (.laload, 1) := by decide +kernel
theorem d_law_860 : decode code 860 = .ok (.iload 6, 2) := by decide +kernel
theorem d_law_862 : decode code 862 = .ok (.i2l, 1) := by decide +kernel
theorem d_law_863 : decode code 863 = .ok (.lcmp, 1) := by decide +kernel
theorem d_law_864 : decode code 864 = .ok (.ifCond .eq 5, 3) := by decide +kernel
theorem d_law_867 : decode code 867 = .ok (.iconst 0, 1) := by decide +kernel
theorem d_law_868 : decode code 868 = .ok (.ireturn, 1) := by decide +kernel
theorem d_law_869 : decode code 869 = .ok (.goto 202, 3) := by decide +kernel
theorem d_law_872 : decode code 872 = .ok (.aload_n 1, 1) := by decide +kernel
theorem d_law_873 : decode code 873 = .ok (.aload_n 0, 1) := by decide +kernel
theorem d_law_874 : decode code 874 = .ok (.iload 4, 2) := by decide +kernel
theorem d_law_876 : decode code 876 = .ok (.iconst 1, 1) := by decide +kernel
theorem d_law_877 : decode code 877 = .ok (.iadd, 1) := by decide +kernel
theorem d_law_878 : decode code 878 = .ok (.iaload, 1) := by decide +kernel
theorem d_law_879 : decode code 879 = .ok (.aload_n 0, 1) := by decide +kernel
theorem d_law_880 : decode code 880 = .ok (.iload 4, 2) := by decide +kernel
theorem d_law_882 : decode code 882 = .ok (.iconst 2, 1) := by decide +kernel
theorem d_law_883 : decode code 883 = .ok (.iadd, 1) := by decide +kernel
theorem d_law_884 : decode code 884 = .ok (.iaload, 1) := by decide +kernel
theorem d_law_885 : decode code 885 = .ok (.aload_n 3, 1) := by decide +kernel
theorem d_law_886 : decode code 886 = .ok (.invokestatic 127, 3) := by decide +kernel
theorem d_law_889 : decode code 889 = .ok (.istore 5, 2) := by decide +kernel
theorem d_law_891 : decode code 891 = .ok (.aload_n 2, 1) := by decide +kernel
theorem d_law_892 : decode code 892 = .ok (.aload_n 0, 1) := by decide +kernel
theorem d_law_893 : decode code 893 = .ok (.iload 4, 2) := by decide +kernel
theorem d_law_895 : decode code 895 = .ok (.iconst 1, 1) := by decide +kernel
theorem d_law_896 : decode code 896 = .ok (.iadd, 1) := by decide +kernel
theorem d_law_897 : decode code 897 = .ok (.iaload, 1) := by decide +kernel
theorem d_law_898 : decode code 898 = .ok (.aload_n 0, 1) := by decide +kernel
theorem d_law_899 : decode code 899 = .ok (.iload 4, 2) := by decide +kernel
theorem d_law_901 : decode code 901 = .ok (.iconst 2, 1) := by decide +kernel
theorem d_law_902 : decode code 902 = .ok (.iadd, 1) := by decide +kernel
theorem d_law_903 : decode code 903 = .ok (.iaload, 1) := by decide +kernel
theorem d_law_904 : decode code 904 = .ok (.invokevirtual 129, 3) := by decide +kernel
theorem d_law_907 : decode code 907 = .ok (.istore 6, 2) := by decide +kernel
theorem d_law_909 : decode code 909 = .ok (.aload_n 2, 1) := by decide +kernel
theorem d_law_910 : decode code 910 = .ok (.invokevirtual 85, 3) := by decide +kernel
theorem d_law_913 : decode code 913 = .ok (.iload 5, 2) := by decide +kernel
theorem d_law_915 : decode code 915 = .ok (.if_icmp .eq 5, 3) := by decide +kernel
theorem d_law_918 : decode code 918 = .ok (.iconst 0, 1) := by decide +kernel
theorem d_law_919 : decode code 919 = .ok (.ireturn, 1) := by decide +kernel
theorem d_law_920 : decode code 920 = .ok (.iload 5, 2) := by decide +kernel
theorem d_law_922 : decode code 922 = .ok (.ifCond .ne 15, 3) := by decide +kernel
theorem d_law_925 : decode code 925 = .ok (.aload_n 3, 1) := by decide +kernel
theorem d_law_926 : decode code 926 = .ok (.iconst 0, 1) := by decide +kernel
theorem d_law_927 : decode code 927 = .ok (.laload, 1) := by decide +kernel
theorem d_law_928 : decode code 928 = .ok (.iload 6, 2) := by decide +kernel
theorem d_law_930 : decode code 930 = .ok (.i2l, 1) := by decide +kernel
theorem d_law_931 : decode code 931 = .ok (.lcmp, 1) := by decide +kernel
theorem d_law_932 : decode code 932 = .ok (.ifCond .eq 5, 3) := by decide +kernel
theorem d_law_935 : decode code 935 = .ok (.iconst 0, 1) := by decide +kernel
theorem d_law_936 : decode code 936 = .ok (.ireturn, 1) := by decide +kernel
theorem d_law_937 : decode code 937 = .ok (.goto 134, 3) := by decide +kernel
theorem d_law_940 : decode code 940 = .ok (.aload_n 1, 1) := by decide +kernel
theorem d_law_941 : decode code 941 = .ok (.aload_n 0, 1) := by decide +kernel
theorem d_law_942 : decode code 942 = .ok (.iload 4, 2) := by decide +kernel
theorem d_law_944 : decode code 944 = .ok (.iconst 1, 1) := by decide +kernel
theorem d_law_945 : decode code 945 = .ok (.iadd, 1) := by decide +kernel
theorem d_law_946 : decode code 946 = .ok (.iaload, 1) := by decide +kernel
theorem d_law_947 : decode code 947 = .ok (.aload_n 0, 1) := by decide +kernel
theorem d_law_948 : decode code 948 = .ok (.iload 4, 2) := by decide +kernel
theorem d_law_950 : decode code 950 = .ok (.iconst 2, 1) := by decide +kernel
theorem d_law_951 : decode code 951 = .ok (.iadd, 1) := by decide +kernel
theorem d_law_952 : decode code 952 = .ok (.iaload, 1) := by decide +kernel
theorem d_law_953 : decode code 953 = .ok (.aload_n 3, 1) := by decide +kernel
theorem d_law_954 : decode code 954 = .ok (.invokestatic 130, 3) := by decide +kernel
theorem d_law_957 : decode code 957 = .ok (.istore 5, 2) := by decide +kernel
theorem d_law_959 : decode code 959 = .ok (.aload_n 2, 1) := by decide +kernel
theorem d_law_960 : decode code 960 = .ok (.aload_n 0, 1) := by decide +kernel
theorem d_law_961 : decode code 961 = .ok (.iload 4, 2) := by decide +kernel
theorem d_law_963 : decode code 963 = .ok (.iconst 1, 1) := by decide +kernel
theorem d_law_964 : decode code 964 = .ok (.iadd, 1) := by decide +kernel
theorem d_law_965 : decode code 965 = .ok (.iaload, 1) := by decide +kernel
theorem d_law_966 : decode code 966 = .ok (.aload_n 0, 1) := by decide +kernel
theorem d_law_967 : decode code 967 = .ok (.iload 4, 2) := by decide +kernel
theorem d_law_969 : decode code 969 = .ok (.iconst 2, 1) := by decide +kernel
theorem d_law_970 : decode code 970 = .ok (.iadd, 1) := by decide +kernel
theorem d_law_971 : decode code 971 = .ok (.iaload, 1) := by decide +kernel
theorem d_law_972 : decode code 972 = .ok (.invokevirtual 132, 3) := by decide +kernel
theorem d_law_975 : decode code 975 = .ok (.istore 6, 2) := by decide +kernel
theorem d_law_977 : decode code 977 = .ok (.aload_n 2, 1) := by decide +kernel
theorem d_law_978 : decode code 978 = .ok (.invokevirtual 85, 3) := by decide +kernel
theorem d_law_981 : decode code 981 = .ok (.iload 5, 2) := by decide +kernel
theorem d_law_983 : decode code 983 = .ok (.if_icmp .eq 5, 3) := by decide +kernel
theorem d_law_986 : decode code 986 = .ok (.iconst 0, 1) := by decide +kernel
theorem d_law_987 : decode code 987 = .ok (.ireturn, 1) := by decide +kernel
theorem d_law_988 : decode code 988 = .ok (.iload 5, 2) := by decide +kernel
theorem d_law_990 : decode code 990 = .ok (.ifCond .ne 15, 3) := by decide +kernel
theorem d_law_993 : decode code 993 = .ok (.aload_n 3, 1) := by decide +kernel
theorem d_law_994 : decode code 994 = .ok (.iconst 0, 1) := by decide +kernel
theorem d_law_995 : decode code 995 = .ok (.laload, 1) := by decide +kernel
theorem d_law_996 : decode code 996 = .ok (.iload 6, 2) := by decide +kernel
theorem d_law_998 : decode code 998 = .ok (.i2l, 1) := by decide +kernel
theorem d_law_999 : decode code 999 = .ok (.lcmp, 1) := by decide +kernel
theorem d_law_1000 : decode code 1000 = .ok (.ifCond .eq 5, 3) := by decide +kernel
theorem d_law_1003 : decode code 1003 = .ok (.iconst 0, 1) := by decide +kernel
theorem d_law_1004 : decode code 1004 = .ok (.ireturn, 1) := by decide +kernel
theorem d_law_1005 : decode code 1005 = .ok (.goto 66, 3) := by decide +kernel
theorem d_law_1008 : decode code 1008 = .ok (.aload_n 1, 1) := by decide +kernel
theorem d_law_1009 : decode code 1009 = .ok (.aload_n 0, 1) := by decide +kernel
theorem d_law_1010 : decode code 1010 = .ok (.iload 4, 2) := by decide +kernel
theorem d_law_1012 : decode code 1012 = .ok (.iconst 1, 1) := by decide +kernel
theorem d_law_1013 : decode code 1013 = .ok (.iadd, 1) := by decide +kernel
theorem d_law_1014 : decode code 1014 = .ok (.iaload, 1) := by decide +kernel
theorem d_law_1015 : decode code 1015 = .ok (.aload_n 3, 1) := by decide +kernel
theorem d_law_1016 : decode code 1016 = .ok (.invokestatic 133, 3) := by decide +kernel
theorem d_law_1019 : decode code 1019 = .ok (.istore 5, 2) := by decide +kernel
theorem d_law_1021 : decode code 1021 = .ok (.aload_n 2, 1) := by decide +kernel
theorem d_law_1022 : decode code 1022 = .ok (.aload_n 0, 1) := by decide +kernel
theorem d_law_1023 : decode code 1023 = .ok (.iload 4, 2) := by decide +kernel
theorem d_law_1025 : decode code 1025 = .ok (.iconst 1, 1) := by decide +kernel
theorem d_law_1026 : decode code 1026 = .ok (.iadd, 1) := by decide +kernel
theorem d_law_1027 : decode code 1027 = .ok (.iaload, 1) := by decide +kernel
theorem d_law_1028 : decode code 1028 = .ok (.invokevirtual 135, 3) := by decide +kernel
theorem d_law_1031 : decode code 1031 = .ok (.istore 6, 2) := by decide +kernel
theorem d_law_1033 : decode code 1033 = .ok (.aload_n 2, 1) := by decide +kernel
theorem d_law_1034 : decode code 1034 = .ok (.invokevirtual 85, 3) := by decide +kernel
theorem d_law_1037 : decode code 1037 = .ok (.iload 5, 2) := by decide +kernel
theorem d_law_1039 : decode code 1039 = .ok (.if_icmp .eq 5, 3) := by decide +kernel
theorem d_law_1042 : decode code 1042 = .ok (.iconst 0, 1) := by decide +kernel
