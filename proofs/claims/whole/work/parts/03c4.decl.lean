/-! the law's instructions -/
theorem dL_law__883 : decode cL_law_ 883 = .ok (.iconst 0, 1) := by decide +kernel
theorem dL_law__884 : decode cL_law_ 884 = .ok (.ireturn, 1) := by decide +kernel
theorem dL_law__885 : decode cL_law_ 885 = .ok (.goto 2450, 3) := by decide +kernel
theorem dL_law__888 : decode cL_law_ 888 = .ok (.aload_n 1, 1) := by decide +kernel
theorem dL_law__889 : decode cL_law_ 889 = .ok (.aload_n 0, 1) := by decide +kernel
theorem dL_law__890 : decode cL_law_ 890 = .ok (.iload 4, 2) := by decide +kernel
theorem dL_law__892 : decode cL_law_ 892 = .ok (.iconst 1, 1) := by decide +kernel
theorem dL_law__893 : decode cL_law_ 893 = .ok (.iadd, 1) := by decide +kernel
theorem dL_law__894 : decode cL_law_ 894 = .ok (.iaload, 1) := by decide +kernel
theorem dL_law__895 : decode cL_law_ 895 = .ok (.i2l, 1) := by decide +kernel
theorem dL_law__896 : decode cL_law_ 896 = .ok (.bipush 32, 2) := by decide +kernel
theorem dL_law__898 : decode cL_law_ 898 = .ok (.lshl, 1) := by decide +kernel
theorem dL_law__899 : decode cL_law_ 899 = .ok (.aload_n 0, 1) := by decide +kernel
theorem dL_law__900 : decode cL_law_ 900 = .ok (.iload 4, 2) := by decide +kernel
theorem dL_law__902 : decode cL_law_ 902 = .ok (.iconst 2, 1) := by decide +kernel
theorem dL_law__903 : decode cL_law_ 903 = .ok (.iadd, 1) := by decide +kernel
theorem dL_law__904 : decode cL_law_ 904 = .ok (.iaload, 1) := by decide +kernel
theorem dL_law__905 : decode cL_law_ 905 = .ok (.i2l, 1) := by decide +kernel
theorem dL_law__906 : decode cL_law_ 906 = .ok (.ldc2_w 178, 3) := by decide +kernel
theorem dL_law__909 : decode cL_law_ 909 = .ok (.land, 1) := by decide +kernel
theorem dL_law__910 : decode cL_law_ 910 = .ok (.lor, 1) := by decide +kernel
theorem dL_law__911 : decode cL_law_ 911 = .ok (.aload_n 0, 1) := by decide +kernel
theorem dL_law__912 : decode cL_law_ 912 = .ok (.iload 4, 2) := by decide +kernel
theorem dL_law__914 : decode cL_law_ 914 = .ok (.iconst 3, 1) := by decide +kernel
theorem dL_law__915 : decode cL_law_ 915 = .ok (.iadd, 1) := by decide +kernel
theorem dL_law__916 : decode cL_law_ 916 = .ok (.iaload, 1) := by decide +kernel
theorem dL_law__917 : decode cL_law_ 917 = .ok (.aload_n 0, 1) := by decide +kernel
theorem dL_law__918 : decode cL_law_ 918 = .ok (.iload 4, 2) := by decide +kernel
theorem dL_law__920 : decode cL_law_ 920 = .ok (.iconst 4, 1) := by decide +kernel
theorem dL_law__921 : decode cL_law_ 921 = .ok (.iadd, 1) := by decide +kernel
theorem dL_law__922 : decode cL_law_ 922 = .ok (.iaload, 1) := by decide +kernel
theorem dL_law__923 : decode cL_law_ 923 = .ok (.aload_n 3, 1) := by decide +kernel
theorem dL_law__924 : decode cL_law_ 924 = .ok (.invokestatic 191, 3) := by decide +kernel
theorem dL_law__927 : decode cL_law_ 927 = .ok (.istore 5, 2) := by decide +kernel
theorem dL_law__929 : decode cL_law_ 929 = .ok (.aload_n 2, 1) := by decide +kernel
theorem dL_law__930 : decode cL_law_ 930 = .ok (.aload_n 0, 1) := by decide +kernel
theorem dL_law__931 : decode cL_law_ 931 = .ok (.iload 4, 2) := by decide +kernel
theorem dL_law__933 : decode cL_law_ 933 = .ok (.iconst 1, 1) := by decide +kernel
theorem dL_law__934 : decode cL_law_ 934 = .ok (.iadd, 1) := by decide +kernel
theorem dL_law__935 : decode cL_law_ 935 = .ok (.iaload, 1) := by decide +kernel
theorem dL_law__936 : decode cL_law_ 936 = .ok (.i2l, 1) := by decide +kernel
theorem dL_law__937 : decode cL_law_ 937 = .ok (.bipush 32, 2) := by decide +kernel
theorem dL_law__939 : decode cL_law_ 939 = .ok (.lshl, 1) := by decide +kernel
theorem dL_law__940 : decode cL_law_ 940 = .ok (.aload_n 0, 1) := by decide +kernel
theorem dL_law__941 : decode cL_law_ 941 = .ok (.iload 4, 2) := by decide +kernel
theorem dL_law__943 : decode cL_law_ 943 = .ok (.iconst 2, 1) := by decide +kernel
theorem dL_law__944 : decode cL_law_ 944 = .ok (.iadd, 1) := by decide +kernel
theorem dL_law__945 : decode cL_law_ 945 = .ok (.iaload, 1) := by decide +kernel
theorem dL_law__946 : decode cL_law_ 946 = .ok (.i2l, 1) := by decide +kernel
theorem dL_law__947 : decode cL_law_ 947 = .ok (.ldc2_w 178, 3) := by decide +kernel
theorem dL_law__950 : decode cL_law_ 950 = .ok (.land, 1) := by decide +kernel
theorem dL_law__951 : decode cL_law_ 951 = .ok (.lor, 1) := by decide +kernel
theorem dL_law__952 : decode cL_law_ 952 = .ok (.aload_n 0, 1) := by decide +kernel
theorem dL_law__953 : decode cL_law_ 953 = .ok (.iload 4, 2) := by decide +kernel
theorem dL_law__955 : decode cL_law_ 955 = .ok (.iconst 3, 1) := by decide +kernel
theorem dL_law__956 : decode cL_law_ 956 = .ok (.iadd, 1) := by decide +kernel
theorem dL_law__957 : decode cL_law_ 957 = .ok (.iaload, 1) := by decide +kernel
theorem dL_law__958 : decode cL_law_ 958 = .ok (.aload_n 0, 1) := by decide +kernel
theorem dL_law__959 : decode cL_law_ 959 = .ok (.iload 4, 2) := by decide +kernel
theorem dL_law__961 : decode cL_law_ 961 = .ok (.iconst 4, 1) := by decide +kernel
theorem dL_law__962 : decode cL_law_ 962 = .ok (.iadd, 1) := by decide +kernel
theorem dL_law__963 : decode cL_law_ 963 = .ok (.iaload, 1) := by decide +kernel
theorem dL_law__964 : decode cL_law_ 964 = .ok (.invokevirtual 194, 3) := by decide +kernel
theorem dL_law__967 : decode cL_law_ 967 = .ok (.istore 6, 2) := by decide +kernel
theorem dL_law__969 : decode cL_law_ 969 = .ok (.aload_n 2, 1) := by decide +kernel
theorem dL_law__970 : decode cL_law_ 970 = .ok (.invokevirtual 157, 3) := by decide +kernel
theorem dL_law__973 : decode cL_law_ 973 = .ok (.iload 5, 2) := by decide +kernel
theorem dL_law__975 : decode cL_law_ 975 = .ok (.if_icmp .eq 5, 3) := by decide +kernel
theorem dL_law__978 : decode cL_law_ 978 = .ok (.iconst 0, 1) := by decide +kernel
theorem dL_law__979 : decode cL_law_ 979 = .ok (.ireturn, 1) := by decide +kernel
theorem dL_law__980 : decode cL_law_ 980 = .ok (.iload 5, 2) := by decide +kernel
theorem dL_law__982 : decode cL_law_ 982 = .ok (.ifCond .ne 22, 3) := by decide +kernel
theorem dL_law__985 : decode cL_law_ 985 = .ok (.aload_n 3, 1) := by decide +kernel
theorem dL_law__986 : decode cL_law_ 986 = .ok (.iconst 0, 1) := by decide +kernel
theorem dL_law__987 : decode cL_law_ 987 = .ok (.laload, 1) := by decide +kernel
theorem dL_law__988 : decode cL_law_ 988 = .ok (.iload 6, 2) := by decide +kernel
theorem dL_law__990 : decode cL_law_ 990 = .ok (.ifCond .eq 7, 3) := by decide +kernel
theorem dL_law__993 : decode cL_law_ 993 = .ok (.lconst 1, 1) := by decide +kernel
theorem dL_law__994 : decode cL_law_ 994 = .ok (.goto 4, 3) := by decide +kernel
theorem dL_law__997 : decode cL_law_ 997 = .ok (.lconst 0, 1) := by decide +kernel
theorem dL_law__998 : decode cL_law_ 998 = .ok (.lcmp, 1) := by decide +kernel
theorem dL_law__999 : decode cL_law_ 999 = .ok (.ifCond .eq 5, 3) := by decide +kernel
theorem dL_law__1002 : decode cL_law_ 1002 = .ok (.iconst 0, 1) := by decide +kernel
theorem dL_law__1003 : decode cL_law_ 1003 = .ok (.ireturn, 1) := by decide +kernel
theorem dL_law__1004 : decode cL_law_ 1004 = .ok (.goto 2331, 3) := by decide +kernel
theorem dL_law__1007 : decode cL_law_ 1007 = .ok (.aload_n 1, 1) := by decide +kernel
theorem dL_law__1008 : decode cL_law_ 1008 = .ok (.aload_n 0, 1) := by decide +kernel
theorem dL_law__1009 : decode cL_law_ 1009 = .ok (.iload 4, 2) := by decide +kernel
theorem dL_law__1011 : decode cL_law_ 1011 = .ok (.iconst 1, 1) := by decide +kernel
theorem dL_law__1012 : decode cL_law_ 1012 = .ok (.iadd, 1) := by decide +kernel
theorem dL_law__1013 : decode cL_law_ 1013 = .ok (.iaload, 1) := by decide +kernel
theorem dL_law__1014 : decode cL_law_ 1014 = .ok (.aload_n 0, 1) := by decide +kernel
theorem dL_law__1015 : decode cL_law_ 1015 = .ok (.iload 4, 2) := by decide +kernel
theorem dL_law__1017 : decode cL_law_ 1017 = .ok (.iconst 2, 1) := by decide +kernel
theorem dL_law__1018 : decode cL_law_ 1018 = .ok (.iadd, 1) := by decide +kernel
theorem dL_law__1019 : decode cL_law_ 1019 = .ok (.iaload, 1) := by decide +kernel
theorem dL_law__1020 : decode cL_law_ 1020 = .ok (.aload_n 0, 1) := by decide +kernel
theorem dL_law__1021 : decode cL_law_ 1021 = .ok (.iload 4, 2) := by decide +kernel
theorem dL_law__1023 : decode cL_law_ 1023 = .ok (.iconst 3, 1) := by decide +kernel
theorem dL_law__1024 : decode cL_law_ 1024 = .ok (.iadd, 1) := by decide +kernel
theorem dL_law__1025 : decode cL_law_ 1025 = .ok (.iaload, 1) := by decide +kernel
theorem dL_law__1026 : decode cL_law_ 1026 = .ok (.aload_n 3, 1) := by decide +kernel
theorem dL_law__1027 : decode cL_law_ 1027 = .ok (.invokestatic 195, 3) := by decide +kernel
theorem dL_law__1030 : decode cL_law_ 1030 = .ok (.istore 5, 2) := by decide +kernel
theorem dL_law__1032 : decode cL_law_ 1032 = .ok (.aload_n 2, 1) := by decide +kernel
theorem dL_law__1033 : decode cL_law_ 1033 = .ok (.aload_n 0, 1) := by decide +kernel
theorem dL_law__1034 : decode cL_law_ 1034 = .ok (.iload 4, 2) := by decide +kernel
theorem dL_law__1036 : decode cL_law_ 1036 = .ok (.iconst 1, 1) := by decide +kernel
theorem dL_law__1037 : decode cL_law_ 1037 = .ok (.iadd, 1) := by decide +kernel
theorem dL_law__1038 : decode cL_law_ 1038 = .ok (.iaload, 1) := by decide +kernel
theorem dL_law__1039 : decode cL_law_ 1039 = .ok (.aload_n 0, 1) := by decide +kernel
theorem dL_law__1040 : decode cL_law_ 1040 = .ok (.iload 4, 2) := by decide +kernel
theorem dL_law__1042 : decode cL_law_ 1042 = .ok (.iconst 2, 1) := by decide +kernel
theorem dL_law__1043 : decode cL_law_ 1043 = .ok (.iadd, 1) := by decide +kernel
theorem dL_law__1044 : decode cL_law_ 1044 = .ok (.iaload, 1) := by decide +kernel
theorem dL_law__1045 : decode cL_law_ 1045 = .ok (.aload_n 0, 1) := by decide +kernel
theorem dL_law__1046 : decode cL_law_ 1046 = .ok (.iload 4, 2) := by decide +kernel
theorem dL_law__1048 : decode cL_law_ 1048 = .ok (.iconst 3, 1) := by decide +kernel
theorem dL_law__1049 : decode cL_law_ 1049 = .ok (.iadd, 1) := by decide +kernel
theorem dL_law__1050 : decode cL_law_ 1050 = .ok (.iaload, 1) := by decide +kernel
theorem dL_law__1051 : decode cL_law_ 1051 = .ok (.invokevirtual 197, 3) := by decide +kernel
theorem dL_law__1054 : decode cL_law_ 1054 = .ok (.lstore 6, 2) := by decide +kernel
theorem dL_law__1056 : decode cL_law_ 1056 = .ok (.aload_n 2, 1) := by decide +kernel
theorem dL_law__1057 : decode cL_law_ 1057 = .ok (.invokevirtual 157, 3) := by decide +kernel
theorem dL_law__1060 : decode cL_law_ 1060 = .ok (.iload 5, 2) := by decide +kernel
theorem dL_law__1062 : decode cL_law_ 1062 = .ok (.if_icmp .eq 5, 3) := by decide +kernel
theorem dL_law__1065 : decode cL_law_ 1065 = .ok (.iconst 0, 1) := by decide +kernel
theorem dL_law__1066 : decode cL_law_ 1066 = .ok (.ireturn, 1) := by decide +kernel
theorem dL_law__1067 : decode cL_law_ 1067 = .ok (.iload 5, 2) := by decide +kernel
theorem dL_law__1069 : decode cL_law_ 1069 = .ok (.ifCond .ne 14, 3) := by decide +kernel
theorem dL_law__1072 : decode cL_law_ 1072 = .ok (.aload_n 3, 1) := by decide +kernel
theorem dL_law__1073 : decode cL_law_ 1073 = .ok (.iconst 0, 1) := by decide +kernel
theorem dL_law__1074 : decode cL_law_ 1074 = .ok (.laload, 1) := by decide +kernel
theorem dL_law__1075 : decode cL_law_ 1075 = .ok (.lload 6, 2) := by decide +kernel
theorem dL_law__1077 : decode cL_law_ 1077 = .ok (.lcmp, 1) := by decide +kernel
theorem dL_law__1078 : decode cL_law_ 1078 = .ok (.ifCond .eq 5, 3) := by decide +kernel
theorem dL_law__1081 : decode cL_law_ 1081 = .ok (.iconst 0, 1) := by decide +kernel
theorem dL_law__1082 : decode cL_law_ 1082 = .ok (.ireturn, 1) := by decide +kernel
theorem dL_law__1083 : decode cL_law_ 1083 = .ok (.goto 2252, 3) := by decide +kernel
theorem dL_law__1086 : decode cL_law_ 1086 = .ok (.aload_n 1, 1) := by decide +kernel
theorem dL_law__1087 : decode cL_law_ 1087 = .ok (.aload_n 0, 1) := by decide +kernel
theorem dL_law__1088 : decode cL_law_ 1088 = .ok (.iload 4, 2) := by decide +kernel
theorem dL_law__1090 : decode cL_law_ 1090 = .ok (.iconst 1, 1) := by decide +kernel
theorem dL_law__1091 : decode cL_law_ 1091 = .ok (.iadd, 1) := by decide +kernel
theorem dL_law__1092 : decode cL_law_ 1092 = .ok (.iaload, 1) := by decide +kernel
theorem dL_law__1093 : decode cL_law_ 1093 = .ok (.aload_n 0, 1) := by decide +kernel
theorem dL_law__1094 : decode cL_law_ 1094 = .ok (.iload 4, 2) := by decide +kernel
theorem dL_law__1096 : decode cL_law_ 1096 = .ok (.iconst 2, 1) := by decide +kernel
theorem dL_law__1097 : decode cL_law_ 1097 = .ok (.iadd, 1) := by decide +kernel
theorem dL_law__1098 : decode cL_law_ 1098 = .ok (.iaload, 1) := by decide +kernel
