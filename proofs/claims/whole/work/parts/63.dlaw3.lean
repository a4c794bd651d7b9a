section DL3
theorem d_Q_law_904 : decode code 904 = .ok (.iconst 3, 1) := by decide +kernel
theorem d_Q_law_905 : decode code 905 = .ok (.iadd, 1) := by decide +kernel
theorem d_Q_law_906 : decode code 906 = .ok (.iaload, 1) := by decide +kernel
theorem d_Q_law_907 : decode code 907 = .ok (.aload_n 0, 1) := by decide +kernel
theorem d_Q_law_908 : decode code 908 = .ok (.iload 4, 2) := by decide +kernel
theorem d_Q_law_910 : decode code 910 = .ok (.iconst 4, 1) := by decide +kernel
theorem d_Q_law_911 : decode code 911 = .ok (.iadd, 1) := by decide +kernel
theorem d_Q_law_912 : decode code 912 = .ok (.iaload, 1) := by decide +kernel
theorem d_Q_law_913 : decode code 913 = .ok (.aload_n 3, 1) := by decide +kernel
theorem d_Q_law_914 : decode code 914 = .ok (.invokestatic 105, 3) := by decide +kernel
theorem d_Q_law_917 : decode code 917 = .ok (.istore 5, 2) := by decide +kernel
theorem d_Q_law_919 : decode code 919 = .ok (.aload_n 2, 1) := by decide +kernel
theorem d_Q_law_920 : decode code 920 = .ok (.aload_n 0, 1) := by decide +kernel
theorem d_Q_law_921 : decode code 921 = .ok (.iload 4, 2) := by decide +kernel
theorem d_Q_law_923 : decode code 923 = .ok (.iconst 1, 1) := by decide +kernel
theorem d_Q_law_924 : decode code 924 = .ok (.iadd, 1) := by decide +kernel
theorem d_Q_law_925 : decode code 925 = .ok (.iaload, 1) := by decide +kernel
theorem d_Q_law_926 : decode code 926 = .ok (.aload_n 0, 1) := by decide +kernel
theorem d_Q_law_927 : decode code 927 = .ok (.iload 4, 2) := by decide +kernel
theorem d_Q_law_929 : decode code 929 = .ok (.iconst 2, 1) := by decide +kernel
theorem d_Q_law_930 : decode code 930 = .ok (.iadd, 1) := by decide +kernel
theorem d_Q_law_931 : decode code 931 = .ok (.iaload, 1) := by decide +kernel
theorem d_Q_law_932 : decode code 932 = .ok (.aload_n 0, 1) := by decide +kernel
theorem d_Q_law_933 : decode code 933 = .ok (.iload 4, 2) := by decide +kernel
theorem d_Q_law_935 : decode code 935 = .ok (.iconst 3, 1) := by decide +kernel
theorem d_Q_law_936 : decode code 936 = .ok (.iadd, 1) := by decide +kernel
theorem d_Q_law_937 : decode code 937 = .ok (.iaload, 1) := by decide +kernel
theorem d_Q_law_938 : decode code 938 = .ok (.aload_n 0, 1) := by decide +kernel
theorem d_Q_law_939 : decode code 939 = .ok (.iload 4, 2) := by decide +kernel
theorem d_Q_law_941 : decode code 941 = .ok (.iconst 4, 1) := by decide +kernel
theorem d_Q_law_942 : decode code 942 = .ok (.iadd, 1) := by decide +kernel
theorem d_Q_law_943 : decode code 943 = .ok (.iaload, 1) := by decide +kernel
theorem d_Q_law_944 : decode code 944 = .ok (.invokevirtual 107, 3) := by decide +kernel
theorem d_Q_law_947 : decode code 947 = .ok (.istore 6, 2) := by decide +kernel
theorem d_Q_law_949 : decode code 949 = .ok (.aload_n 2, 1) := by decide +kernel
theorem d_Q_law_950 : decode code 950 = .ok (.invokevirtual 72, 3) := by decide +kernel
theorem d_Q_law_953 : decode code 953 = .ok (.iload 5, 2) := by decide +kernel
theorem d_Q_law_955 : decode code 955 = .ok (.if_icmp .eq 5, 3) := by decide +kernel
theorem d_Q_law_958 : decode code 958 = .ok (.iconst 0, 1) := by decide +kernel
theorem d_Q_law_959 : decode code 959 = .ok (.ireturn, 1) := by decide +kernel
theorem d_Q_law_960 : decode code 960 = .ok (.iload 5, 2) := by decide +kernel
theorem d_Q_law_962 : decode code 962 = .ok (.ifCond .ne 15, 3) := by decide +kernel
theorem d_Q_law_965 : decode code 965 = .ok (.aload_n 3, 1) := by decide +kernel
theorem d_Q_law_966 : decode code 966 = .ok (.iconst 0, 1) := by decide +kernel
theorem d_Q_law_967 : decode code 967 = .ok (.laload, 1) := by decide +kernel
theorem d_Q_law_968 : decode code 968 = .ok (.iload 6, 2) := by decide +kernel
theorem d_Q_law_970 : decode code 970 = .ok (.i2l, 1) := by decide +kernel
theorem d_Q_law_971 : decode code 971 = .ok (.lcmp, 1) := by decide +kernel
theorem d_Q_law_972 : decode code 972 = .ok (.ifCond .eq 5, 3) := by decide +kernel
theorem d_Q_law_975 : decode code 975 = .ok (.iconst 0, 1) := by decide +kernel
theorem d_Q_law_976 : decode code 976 = .ok (.ireturn, 1) := by decide +kernel
theorem d_Q_law_977 : decode code 977 = .ok (.goto 170, 3) := by decide +kernel
theorem d_Q_law_980 : decode code 980 = .ok (.aload_n 1, 1) := by decide +kernel
theorem d_Q_law_981 : decode code 981 = .ok (.aload_n 0, 1) := by decide +kernel
theorem d_Q_law_982 : decode code 982 = .ok (.iload 4, 2) := by decide +kernel
theorem d_Q_law_984 : decode code 984 = .ok (.iconst 1, 1) := by decide +kernel
theorem d_Q_law_985 : decode code 985 = .ok (.iadd, 1) := by decide +kernel
theorem d_Q_law_986 : decode code 986 = .ok (.iaload, 1) := by decide +kernel
theorem d_Q_law_987 : decode code 987 = .ok (.aload_n 0, 1) := by decide +kernel
theorem d_Q_law_988 : decode code 988 = .ok (.iload 4, 2) := by decide +kernel
theorem d_Q_law_990 : decode code 990 = .ok (.iconst 2, 1) := by decide +kernel
theorem d_Q_law_991 : decode code 991 = .ok (.iadd, 1) := by decide +kernel
theorem d_Q_law_992 : decode code 992 = .ok (.iaload, 1) := by decide +kernel
theorem d_Q_law_993 : decode code 993 = .ok (.aload_n 3, 1) := by decide +kernel
theorem d_Q_law_994 : decode code 994 = .ok (.invokestatic 108, 3) := by decide +kernel
theorem d_Q_law_997 : decode code 997 = .ok (.istore 5, 2) := by decide +kernel
theorem d_Q_law_999 : decode code 999 = .ok (.aload_n 2, 1) := by decide +kernel
theorem d_Q_law_1000 : decode code 1000 = .ok (.aload_n 0, 1) := by decide +kernel
theorem d_Q_law_1001 : decode code 1001 = .ok (.iload 4, 2) := by decide +kernel
theorem d_Q_law_1003 : decode code 1003 = .ok (.iconst 1, 1) := by decide +kernel
theorem d_Q_law_1004 : decode code 1004 = .ok (.iadd, 1) := by decide +kernel
theorem d_Q_law_1005 : decode code 1005 = .ok (.iaload, 1) := by decide +kernel
theorem d_Q_law_1006 : decode code 1006 = .ok (.aload_n 0, 1) := by decide +kernel
theorem d_Q_law_1007 : decode code 1007 = .ok (.iload 4, 2) := by decide +kernel
theorem d_Q_law_1009 : decode code 1009 = .ok (.iconst 2, 1) := by decide +kernel
theorem d_Q_law_1010 : decode code 1010 = .ok (.iadd, 1) := by decide +kernel
theorem d_Q_law_1011 : decode code 1011 = .ok (.iaload, 1) := by decide +kernel
theorem d_Q_law_1012 : decode code 1012 = .ok (.invokevirtual 110, 3) := by decide +kernel
theorem d_Q_law_1015 : decode code 1015 = .ok (.istore 6, 2) := by decide +kernel
theorem d_Q_law_1017 : decode code 1017 = .ok (.aload_n 2, 1) := by decide +kernel
theorem d_Q_law_1018 : decode code 1018 = .ok (.invokevirtual 72, 3) := by decide +kernel
theorem d_Q_law_1021 : decode code 1021 = .ok (.iload 5, 2) := by decide +kernel
theorem d_Q_law_1023 : decode code 1023 = .ok (.if_icmp .eq 5, 3) := by decide +kernel
theorem d_Q_law_1026 : decode code 1026 = .ok (.iconst 0, 1) := by decide +kernel
theorem d_Q_law_1027 : decode code 1027 = .ok (.ireturn, 1) := by decide +kernel
theorem d_Q_law_1028 : decode code 1028 = .ok (.iload 5, 2) := by decide +kernel
theorem d_Q_law_1030 : decode code 1030 = .ok (.ifCond .ne 15, 3) := by decide +kernel
theorem d_Q_law_1033 : decode code 1033 = .ok (.aload_n 3, 1) := by decide +kernel
theorem d_Q_law_1034 : decode code 1034 = .ok (.iconst 0, 1) := by decide +kernel
theorem d_Q_law_1035 : decode code 1035 = .ok (.laload, 1) := by decide +kernel
theorem d_Q_law_1036 : decode code 1036 = .ok (.iload 6, 2) := by decide +kernel
theorem d_Q_law_1038 : decode code 1038 = .ok (.i2l, 1) := by decide +kernel
theorem d_Q_law_1039 : decode code 1039 = .ok (.lcmp, 1) := by decide +kernel
theorem d_Q_law_1040 : decode code 1040 = .ok (.ifCond .eq 5, 3) := by decide +kernel
theorem d_Q_law_1043 : decode code 1043 = .ok (.iconst 0, 1) := by decide +kernel
theorem d_Q_law_1044 : decode code 1044 = .ok (.ireturn, 1) := by decide +kernel
theorem d_Q_law_1045 : decode code 1045 = .ok (.goto 102, 3) := by decide +kernel
theorem d_Q_law_1048 : decode code 1048 = .ok (.aload_n 1, 1) := by decide +kernel
theorem d_Q_law_1049 : decode code 1049 = .ok (.aload_n 0, 1) := by decide +kernel
theorem d_Q_law_1050 : decode code 1050 = .ok (.iload 4, 2) := by decide +kernel
theorem d_Q_law_1052 : decode code 1052 = .ok (.iconst 1, 1) := by decide +kernel
theorem d_Q_law_1053 : decode code 1053 = .ok (.iadd, 1) := by decide +kernel
theorem d_Q_law_1054 : decode code 1054 = .ok (.iaload, 1) := by decide +kernel
theorem d_Q_law_1055 : decode code 1055 = .ok (.aload_n 0, 1) := by decide +kernel
theorem d_Q_law_1056 : decode code 1056 = .ok (.iload 4, 2) := by decide +kernel
theorem d_Q_law_1058 : decode code 1058 = .ok (.iconst 2, 1) := by decide +kernel
theorem d_Q_law_1059 : decode code 1059 = .ok (.iadd, 1) := by decide +kernel
theorem d_Q_law_1060 : decode code 1060 = .ok (.iaload, 1) := by decide +kernel
theorem d_Q_law_1061 : decode code 1061 = .ok (.i2l, 1) := by decide +kernel
theorem d_Q_law_1062 : decode code 1062 = .ok (.bipush 32, 2) := by decide +kernel
theorem d_Q_law_1064 : decode code 1064 = .ok (.lshl, 1) := by decide +kernel
theorem d_Q_law_1065 : decode code 1065 = .ok (.aload_n 0, 1) := by decide +kernel
theorem d_Q_law_1066 : decode code 1066 = .ok (.iload 4, 2) := by decide +kernel
theorem d_Q_law_1068 : decode code 1068 = .ok (.iconst 3, 1) := by decide +kernel
theorem d_Q_law_1069 : decode code 1069 = .ok (.iadd, 1) := by decide +kernel
theorem d_Q_law_1070 : decode code 1070 = .ok (.iaload, 1) := by decide +kernel
theorem d_Q_law_1071 : decode code 1071 = .ok (.i2l, 1) := by decide +kernel
theorem d_Q_law_1072 : decode code 1072 = .ok (.ldc2_w 64, 3) := by decide +kernel
theorem d_Q_law_1075 : decode code 1075 = .ok (.land, 1) := by decide +kernel
theorem d_Q_law_1076 : decode code 1076 = .ok (.lor, 1) := by decide +kernel
theorem d_Q_law_1077 : decode code 1077 = .ok (.aload_n 3, 1) := by decide +kernel
theorem d_Q_law_1078 : decode code 1078 = .ok (.invokestatic 111, 3) := by decide +kernel
theorem d_Q_law_1081 : decode code 1081 = .ok (.istore 5, 2) := by decide +kernel
theorem d_Q_law_1083 : decode code 1083 = .ok (.aload_n 2, 1) := by decide +kernel
theorem d_Q_law_1084 : decode code 1084 = .ok (.aload_n 0, 1) := by decide +kernel
theorem d_Q_law_1085 : decode code 1085 = .ok (.iload 4, 2) := by decide +kernel
theorem d_Q_law_1087 : decode code 1087 = .ok (.iconst 1, 1) := by decide +kernel
theorem d_Q_law_1088 : decode code 1088 = .ok (.iadd, 1) := by decide +kernel
theorem d_Q_law_1089 : decode code 1089 = .ok (.iaload, 1) := by decide +kernel
theorem d_Q_law_1090 : decode code 1090 = .ok (.aload_n 0, 1) := by decide +kernel
theorem d_Q_law_1091 : decode code 1091 = .ok (.iload 4, 2) := by decide +kernel
theorem d_Q_law_1093 : decode code 1093 = .ok (.iconst 2, 1) := by decide +kernel
theorem d_Q_law_1094 : decode code 1094 = .ok (.iadd, 1) := by decide +kernel
theorem d_Q_law_1095 : decode code 1095 = .ok (.iaload, 1) := by decide +kernel
theorem d_Q_law_1096 : decode code 1096 = .ok (.i2l, 1) := by decide +kernel
theorem d_Q_law_1097 : decode code 1097 = .ok (.bipush 32, 2) := by decide +kernel
theorem d_Q_law_1099 : decode code 1099 = .ok (.lshl, 1) := by decide +kernel
theorem d_Q_law_1100 : decode code 1100 = .ok (.aload_n 0, 1) := by decide +kernel
theorem d_Q_law_1101 : decode code 1101 = .ok (.iload 4, 2) := by decide +kernel
theorem d_Q_law_1103 : decode code 1103 = .ok (.iconst 3, 1) := by decide +kernel
theorem d_Q_law_1104 : decode code 1104 = .ok (.iadd, 1) := by decide +kernel
theorem d_Q_law_1105 : decode code 1105 = .ok (.iaload, 1) := by decide +kernel
theorem d_Q_law_1106 : decode code 1106 = .ok (.i2l, 1) := by decide +kernel
theorem d_Q_law_1107 : decode code 1107 = .ok (.ldc2_w 64, 3) := by decide +kernel
theorem d_Q_law_1110 : decode code 1110 = .ok (.land, 1) := by decide +kernel
theorem d_Q_law_1111 : decode code 1111 = .ok (.lor, 1) := by decide +kernel
theorem d_Q_law_1112 : decode code 1112 = .ok (.invokevirtual 114, 3) := by decide +kernel
theorem d_Q_law_1115 : decode code 1115 = .ok (.lstore 6, 2) := by decide +kernel
theorem d_Q_law_1117 : decode code 1117 = .ok (.aload_n 2, 1) := by decide +kernel
theorem d_Q_law_1118 : decode code 1118 = .ok (.invokevirtual 72, 3) := by decide +kernel
theorem d_Q_law_1121 : decode code 1121 = .ok (.iload 5, 2) := by decide +kernel
theorem d_Q_law_1123 : decode code 1123 = .ok (.if_icmp .eq 5, 3) := by decide +kernel
theorem d_Q_law_1126 : decode code 1126 = .ok (.iconst 0, 1) := by decide +kernel
theorem d_Q_law_1127 : decode code 1127 = .ok (.ireturn, 1) := by decide +kernel
theorem d_Q_law_1128 : decode code 1128 = .ok (.iload 5, 2) := by decide +kernel
theorem d_Q_law_1130 : decode code 1130 = .ok (.ifCond .ne 14, 3) := by decide +kernel
theorem d_Q_law_1133 : decode code 1133 = .ok (.aload_n 3, 1) := by decide +kernel
theorem d_Q_law_1134 : decode code 1134 = .ok (.iconst 0, 1) := by decide +kernel
theorem d_Q_law_1135 : decode code 1135 = .ok (.laload, 1) := by decide +kernel
theorem d_Q_law_1136 : decode code 1136 = .ok (.lload 6, 2) := by decide +kernel
theorem d_Q_law_1138 : decode code 1138 = .ok (.lcmp, 1) := by decide +kernel
theorem d_Q_law_1139 : decode code 1139 = .ok (.ifCond .eq 5, 3) := by decide +kernel
theorem d_Q_law_1142 : decode code 1142 = .ok (.iconst 0, 1) := by decide +kernel
theorem d_Q_law_1143 : decode code 1143 = .ok (.ireturn, 1) := by decide +kernel
theorem d_Q_law_1144 : decode code 1144 = .ok (.goto 3, 3) := by decide +kernel
theorem d_Q_law_1147 : decode code 1147 = .ok (.iinc 4 8, 3) := by decide +kernel
theorem d_Q_law_1150 : decode code 1150 = .ok (.goto (-1127), 3) := by decide +kernel
theorem d_Q_law_1153 : decode code 1153 = .ok (.iconst 1, 1) := by decide +kernel
theorem d_Q_law_1154 : decode code 1154 = .ok (.ireturn, 1) := by decide +kernel
end DL3
