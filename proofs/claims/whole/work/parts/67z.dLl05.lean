theorem dL_law_971 : decode jL_law.2.1 971 = .ok (.iload 4, 2) := by decide +kernel
theorem dL_law_973 : decode jL_law.2.1 973 = .ok (.iconst 3, 1) := by decide +kernel
theorem dL_law_974 : decode jL_law.2.1 974 = .ok (.iadd, 1) := by decide +kernel
theorem dL_law_975 : decode jL_law.2.1 975 = .ok (.iaload, 1) := by decide +kernel
theorem dL_law_976 : decode jL_law.2.1 976 = .ok (.invokevirtual 118, 3) := by decide +kernel
theorem dL_law_979 : decode jL_law.2.1 979 = .ok (.istore 6, 2) := by decide +kernel
theorem dL_law_981 : decode jL_law.2.1 981 = .ok (.aload_n 2, 1) := by decide +kernel
theorem dL_law_982 : decode jL_law.2.1 982 = .ok (.invokevirtual 87, 3) := by decide +kernel
theorem dL_law_985 : decode jL_law.2.1 985 = .ok (.iload 5, 2) := by decide +kernel
theorem dL_law_987 : decode jL_law.2.1 987 = .ok (.if_icmp .eq 5, 3) := by decide +kernel
theorem dL_law_990 : decode jL_law.2.1 990 = .ok (.iconst 0, 1) := by decide +kernel
theorem dL_law_991 : decode jL_law.2.1 991 = .ok (.ireturn, 1) := by decide +kernel
theorem dL_law_992 : decode jL_law.2.1 992 = .ok (.iload 5, 2) := by decide +kernel
theorem dL_law_994 : decode jL_law.2.1 994 = .ok (.ifCond .ne 15, 3) := by decide +kernel
theorem dL_law_997 : decode jL_law.2.1 997 = .ok (.aload_n 3, 1) := by decide +kernel
theorem dL_law_998 : decode jL_law.2.1 998 = .ok (.iconst 0, 1) := by decide +kernel
theorem dL_law_999 : decode jL_law.2.1 999 = .ok (.laload, 1) := by decide +kernel
theorem dL_law_1000 : decode jL_law.2.1 1000 = .ok (.iload 6, 2) := by decide +kernel
theorem dL_law_1002 : decode jL_law.2.1 1002 = .ok (.i2l, 1) := by decide +kernel
theorem dL_law_1003 : decode jL_law.2.1 1003 = .ok (.lcmp, 1) := by decide +kernel
theorem dL_law_1004 : decode jL_law.2.1 1004 = .ok (.ifCond .eq 5, 3) := by decide +kernel
theorem dL_law_1007 : decode jL_law.2.1 1007 = .ok (.iconst 0, 1) := by decide +kernel
theorem dL_law_1008 : decode jL_law.2.1 1008 = .ok (.ireturn, 1) := by decide +kernel
theorem dL_law_1009 : decode jL_law.2.1 1009 = .ok (.goto 504, 3) := by decide +kernel
theorem dL_law_1012 : decode jL_law.2.1 1012 = .ok (.aload_n 1, 1) := by decide +kernel
theorem dL_law_1013 : decode jL_law.2.1 1013 = .ok (.aload_n 0, 1) := by decide +kernel
theorem dL_law_1014 : decode jL_law.2.1 1014 = .ok (.iload 4, 2) := by decide +kernel
theorem dL_law_1016 : decode jL_law.2.1 1016 = .ok (.iconst 1, 1) := by decide +kernel
theorem dL_law_1017 : decode jL_law.2.1 1017 = .ok (.iadd, 1) := by decide +kernel
theorem dL_law_1018 : decode jL_law.2.1 1018 = .ok (.iaload, 1) := by decide +kernel
theorem dL_law_1019 : decode jL_law.2.1 1019 = .ok (.aload_n 0, 1) := by decide +kernel
theorem dL_law_1020 : decode jL_law.2.1 1020 = .ok (.iload 4, 2) := by decide +kernel
theorem dL_law_1022 : decode jL_law.2.1 1022 = .ok (.iconst 2, 1) := by decide +kernel
theorem dL_law_1023 : decode jL_law.2.1 1023 = .ok (.iadd, 1) := by decide +kernel
theorem dL_law_1024 : decode jL_law.2.1 1024 = .ok (.iaload, 1) := by decide +kernel
theorem dL_law_1025 : decode jL_law.2.1 1025 = .ok (.aload_n 0, 1) := by decide +kernel
theorem dL_law_1026 : decode jL_law.2.1 1026 = .ok (.iload 4, 2) := by decide +kernel
theorem dL_law_1028 : decode jL_law.2.1 1028 = .ok (.iconst 3, 1) := by decide +kernel
theorem dL_law_1029 : decode jL_law.2.1 1029 = .ok (.iadd, 1) := by decide +kernel
theorem dL_law_1030 : decode jL_law.2.1 1030 = .ok (.iaload, 1) := by decide +kernel
theorem dL_law_1031 : decode jL_law.2.1 1031 = .ok (.aload_n 3, 1) := by decide +kernel
theorem dL_law_1032 : decode jL_law.2.1 1032 = .ok (.invokestatic 119, 3) := by decide +kernel
theorem dL_law_1035 : decode jL_law.2.1 1035 = .ok (.istore 5, 2) := by decide +kernel
theorem dL_law_1037 : decode jL_law.2.1 1037 = .ok (.aload_n 2, 1) := by decide +kernel
theorem dL_law_1038 : decode jL_law.2.1 1038 = .ok (.aload_n 0, 1) := by decide +kernel
theorem dL_law_1039 : decode jL_law.2.1 1039 = .ok (.iload 4, 2) := by decide +kernel
theorem dL_law_1041 : decode jL_law.2.1 1041 = .ok (.iconst 1, 1) := by decide +kernel
theorem dL_law_1042 : decode jL_law.2.1 1042 = .ok (.iadd, 1) := by decide +kernel
theorem dL_law_1043 : decode jL_law.2.1 1043 = .ok (.iaload, 1) := by decide +kernel
theorem dL_law_1044 : decode jL_law.2.1 1044 = .ok (.aload_n 0, 1) := by decide +kernel
theorem dL_law_1045 : decode jL_law.2.1 1045 = .ok (.iload 4, 2) := by decide +kernel
theorem dL_law_1047 : decode jL_law.2.1 1047 = .ok (.iconst 2, 1) := by decide +kernel
theorem dL_law_1048 : decode jL_law.2.1 1048 = .ok (.iadd, 1) := by decide +kernel
theorem dL_law_1049 : decode jL_law.2.1 1049 = .ok (.iaload, 1) := by decide +kernel
theorem dL_law_1050 : decode jL_law.2.1 1050 = .ok (.aload_n 0, 1) := by decide +kernel
theorem dL_law_1051 : decode jL_law.2.1 1051 = .ok (.iload 4, 2) := by decide +kernel
theorem dL_law_1053 : decode jL_law.2.1 1053 = .ok (.iconst 3, 1) := by decide +kernel
theorem dL_law_1054 : decode jL_law.2.1 1054 = .ok (.iadd, 1) := by decide +kernel
theorem dL_law_1055 : decode jL_law.2.1 1055 = .ok (.iaload, 1) := by decide +kernel
theorem dL_law_1056 : decode jL_law.2.1 1056 = .ok (.invokevirtual 121, 3) := by decide +kernel
theorem dL_law_1059 : decode jL_law.2.1 1059 = .ok (.lstore 6, 2) := by decide +kernel
theorem dL_law_1061 : decode jL_law.2.1 1061 = .ok (.aload_n 2, 1) := by decide +kernel
theorem dL_law_1062 : decode jL_law.2.1 1062 = .ok (.invokevirtual 87, 3) := by decide +kernel
theorem dL_law_1065 : decode jL_law.2.1 1065 = .ok (.iload 5, 2) := by decide +kernel
theorem dL_law_1067 : decode jL_law.2.1 1067 = .ok (.if_icmp .eq 5, 3) := by decide +kernel
theorem dL_law_1070 : decode jL_law.2.1 1070 = .ok (.iconst 0, 1) := by decide +kernel
theorem dL_law_1071 : decode jL_law.2.1 1071 = .ok (.ireturn, 1) := by decide +kernel
theorem dL_law_1072 : decode jL_law.2.1 1072 = .ok (.iload 5, 2) := by decide +kernel
theorem dL_law_1074 : decode jL_law.2.1 1074 = .ok (.ifCond .ne 14, 3) := by decide +kernel
theorem dL_law_1077 : decode jL_law.2.1 1077 = .ok (.aload_n 3, 1) := by decide +kernel
theorem dL_law_1078 : decode jL_law.2.1 1078 = .ok (.iconst 0, 1) := by decide +kernel
theorem dL_law_1079 : decode jL_law.2.1 1079 = .ok (.laload, 1) := by decide +kernel
theorem dL_law_1080 : decode jL_law.2.1 1080 = .ok (.lload 6, 2) := by decide +kernel
theorem dL_law_1082 : decode jL_law.2.1 1082 = .ok (.lcmp, 1) := by decide +kernel
theorem dL_law_1083 : decode jL_law.2.1 1083 = .ok (.ifCond .eq 5, 3) := by decide +kernel
theorem dL_law_1086 : decode jL_law.2.1 1086 = .ok (.iconst 0, 1) := by decide +kernel
theorem dL_law_1087 : decode jL_law.2.1 1087 = .ok (.ireturn, 1) := by decide +kernel
theorem dL_law_1088 : decode jL_law.2.1 1088 = .ok (.goto 425, 3) := by decide +kernel
theorem dL_law_1091 : decode jL_law.2.1 1091 = .ok (.aload_n 1, 1) := by decide +kernel
theorem dL_law_1092 : decode jL_law.2.1 1092 = .ok (.aload_n 0, 1) := by decide +kernel
theorem dL_law_1093 : decode jL_law.2.1 1093 = .ok (.iload 4, 2) := by decide +kernel
theorem dL_law_1095 : decode jL_law.2.1 1095 = .ok (.iconst 1, 1) := by decide +kernel
theorem dL_law_1096 : decode jL_law.2.1 1096 = .ok (.iadd, 1) := by decide +kernel
theorem dL_law_1097 : decode jL_law.2.1 1097 = .ok (.iaload, 1) := by decide +kernel
theorem dL_law_1098 : decode jL_law.2.1 1098 = .ok (.aload_n 0, 1) := by decide +kernel
theorem dL_law_1099 : decode jL_law.2.1 1099 = .ok (.iload 4, 2) := by decide +kernel
theorem dL_law_1101 : decode jL_law.2.1 1101 = .ok (.iconst 2, 1) := by decide +kernel
theorem dL_law_1102 : decode jL_law.2.1 1102 = .ok (.iadd, 1) := by decide +kernel
theorem dL_law_1103 : decode jL_law.2.1 1103 = .ok (.iaload, 1) := by decide +kernel
theorem dL_law_1104 : decode jL_law.2.1 1104 = .ok (.aload_n 0, 1) := by decide +kernel
theorem dL_law_1105 : decode jL_law.2.1 1105 = .ok (.iload 4, 2) := by decide +kernel
theorem dL_law_1107 : decode jL_law.2.1 1107 = .ok (.iconst 3, 1) := by decide +kernel
theorem dL_law_1108 : decode jL_law.2.1 1108 = .ok (.iadd, 1) := by decide +kernel
theorem dL_law_1109 : decode jL_law.2.1 1109 = .ok (.iaload, 1) := by decide +kernel
theorem dL_law_1110 : decode jL_law.2.1 1110 = .ok (.aload_n 3, 1) := by decide +kernel
theorem dL_law_1111 : decode jL_law.2.1 1111 = .ok (.invokestatic 122, 3) := by decide +kernel
theorem dL_law_1114 : decode jL_law.2.1 1114 = .ok (.istore 5, 2) := by decide +kernel
theorem dL_law_1116 : decode jL_law.2.1 1116 = .ok (.aload_n 2, 1) := by decide +kernel
theorem dL_law_1117 : decode jL_law.2.1 1117 = .ok (.aload_n 0, 1) := by decide +kernel
theorem dL_law_1118 : decode jL_law.2.1 1118 = .ok (.iload 4, 2) := by decide +kernel
theorem dL_law_1120 : decode jL_law.2.1 1120 = .ok (.iconst 1, 1) := by decide +kernel
theorem dL_law_1121 : decode jL_law.2.1 1121 = .ok (.iadd, 1) := by decide +kernel
theorem dL_law_1122 : decode jL_law.2.1 1122 = .ok (.iaload, 1) := by decide +kernel
theorem dL_law_1123 : decode jL_law.2.1 1123 = .ok (.aload_n 0, 1) := by decide +kernel
theorem dL_law_1124 : decode jL_law.2.1 1124 = .ok (.iload 4, 2) := by decide +kernel
theorem dL_law_1126 : decode jL_law.2.1 1126 = .ok (.iconst 2, 1) := by decide +kernel
theorem dL_law_1127 : decode jL_law.2.1 1127 = .ok (.iadd, 1) := by decide +kernel
theorem dL_law_1128 : decode jL_law.2.1 1128 = .ok (.iaload, 1) := by decide +kernel
theorem dL_law_1129 : decode jL_law.2.1 1129 = .ok (.aload_n 0, 1) := by decide +kernel
theorem dL_law_1130 : decode jL_law.2.1 1130 = .ok (.iload 4, 2) := by decide +kernel
theorem dL_law_1132 : decode jL_law.2.1 1132 = .ok (.iconst 3, 1) := by decide +kernel
theorem dL_law_1133 : decode jL_law.2.1 1133 = .ok (.iadd, 1) := by decide +kernel
theorem dL_law_1134 : decode jL_law.2.1 1134 = .ok (.iaload, 1) := by decide +kernel
theorem dL_law_1135 : decode jL_law.2.1 1135 = .ok (.invokevirtual 124, 3) := by decide +kernel
theorem dL_law_1138 : decode jL_law.2.1 1138 = .ok (.istore 6, 2) := by decide +kernel
theorem dL_law_1140 : decode jL_law.2.1 1140 = .ok (.aload_n 2, 1) := by decide +kernel
theorem dL_law_1141 : decode jL_law.2.1 1141 = .ok (.invokevirtual 87, 3) := by decide +kernel
theorem dL_law_1144 : decode jL_law.2.1 1144 = .ok (.iload 5, 2) := by decide +kernel
theorem dL_law_1146 : decode jL_law.2.1 1146 = .ok (.if_icmp .eq 5, 3) := by decide +kernel
theorem dL_law_1149 : decode jL_law.2.1 1149 = .ok (.iconst 0, 1) := by decide +kernel
