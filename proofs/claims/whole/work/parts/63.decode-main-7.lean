theorem d_law_1012 : decode code 1012 = .ok (.iload 5, 2) := by decide +kernel
theorem d_law_1014 : decode code 1014 = .ok (.if_icmp .eq 5, 3) := by decide +kernel
theorem d_law_1017 : decode code 1017 = .ok (.iconst 0, 1) := by decide +kernel
theorem d_law_1018 : decode code 1018 = .ok (.ireturn, 1) := by decide +kernel
theorem d_law_1019 : decode code 1019 = .ok (.iload 5, 2) := by decide +kernel
theorem d_law_1021 : decode code 1021 = .ok (.ifCond .ne 15, 3) := by decide +kernel
theorem d_law_1024 : decode code 1024 = .ok (.aload_n 3, 1) := by decide +kernel
theorem d_law_1025 : decode code 1025 = .ok (.iconst 0, 1) := by decide +kernel
theorem d_law_1026 : decode code 1026 = .ok (.laload, 1) := by decide +kernel
theorem d_law_1027 : decode code 1027 = .ok (.iload 6, 2) := by decide +kernel
theorem d_law_1029 : decode code 1029 = .ok (.i2l, 1) := by decide +kernel
theorem d_law_1030 : decode code 1030 = .ok (.lcmp, 1) := by decide +kernel
theorem d_law_1031 : decode code 1031 = .ok (.ifCond .eq 5, 3) := by decide +kernel
theorem d_law_1034 : decode code 1034 = .ok (.iconst 0, 1) := by decide +kernel
theorem d_law_1035 : decode code 1035 = .ok (.ireturn, 1) := by decide +kernel
theorem d_law_1036 : decode code 1036 = .ok (.goto 276, 3) := by decide +kernel
theorem d_law_1039 : decode code 1039 = .ok (.aload_n 1, 1) := by decide +kernel
theorem d_law_1040 : decode code 1040 = .ok (.aload_n 0, 1) := by decide +kernel
theorem d_law_1041 : decode code 1041 = .ok (.iload 4, 2) := by decide +kernel
theorem d_law_1043 : decode code 1043 = .ok (.iconst 1, 1) := by decide +kernel
theorem d_law_1044 : decode code 1044 = .ok (.iadd, 1) := by decide +kernel
theorem d_law_1045 : decode code 1045 = .ok (.iaload, 1) := by decide +kernel
theorem d_law_1046 : decode code 1046 = .ok (.aload_n 0, 1) := by decide +kernel
theorem d_law_1047 : decode code 1047 = .ok (.iload 4, 2) := by decide +kernel
theorem d_law_1049 : decode code 1049 = .ok (.iconst 2, 1) := by decide +kernel
theorem d_law_1050 : decode code 1050 = .ok (.iadd, 1) := by decide +kernel
theorem d_law_1051 : decode code 1051 = .ok (.iaload, 1) := by decide +kernel
theorem d_law_1052 : decode code 1052 = .ok (.aload_n 0, 1) := by decide +kernel
theorem d_law_1053 : decode code 1053 = .ok (.iload 4, 2) := by decide +kernel
theorem d_law_1055 : decode code 1055 = .ok (.iconst 3, 1) := by decide +kernel
theorem d_law_1056 : decode code 1056 = .ok (.iadd, 1) := by decide +kernel
theorem d_law_1057 : decode code 1057 = .ok (.iaload, 1) := by decide +kernel
theorem d_law_1058 : decode code 1058 = .ok (.aload_n 3, 1) := by decide +kernel
theorem d_law_1059 : decode code 1059 = .ok (.invokestatic 135, 3) := by decide +kernel
theorem d_law_1062 : decode code 1062 = .ok (.istore 5, 2) := by decide +kernel
theorem d_law_1064 : decode code 1064 = .ok (.aload_n 2, 1) := by decide +kernel
theorem d_law_1065 : decode code 1065 = .ok (.aload_n 0, 1) := by decide +kernel
theorem d_law_1066 : decode code 1066 = .ok (.iload 4, 2) := by decide +kernel
theorem d_law_1068 : decode code 1068 = .ok (.iconst 1, 1) := by decide +kernel
theorem d_law_1069 : decode code 1069 = .ok (.iadd, 1) := by decide +kernel
theorem d_law_1070 : decode code 1070 = .ok (.iaload, 1) := by decide +kernel
theorem d_law_1071 : decode code 1071 = .ok (.aload_n 0, 1) := by decide +kernel
theorem d_law_1072 : decode code 1072 = .ok (.iload 4, 2) := by decide +kernel
theorem d_law_1074 : decode code 1074 = .ok (.iconst 2, 1) := by decide +kernel
theorem d_law_1075 : decode code 1075 = .ok (.iadd, 1) := by decide +kernel
theorem d_law_1076 : decode code 1076 = .ok (.iaload, 1) := by decide +kernel
theorem d_law_1077 : decode code 1077 = .ok (.aload_n 0, 1) := by decide +kernel
theorem d_law_1078 : decode code 1078 = .ok (.iload 4, 2) := by decide +kernel
theorem d_law_1080 : decode code 1080 = .ok (.iconst 3, 1) := by decide +kernel
theorem d_law_1081 : decode code 1081 = .ok (.iadd, 1) := by decide +kernel
theorem d_law_1082 : decode code 1082 = .ok (.iaload, 1) := by decide +kernel
theorem d_law_1083 : decode code 1083 = .ok (.invokevirtual 137, 3) := by decide +kernel
theorem d_law_1086 : decode code 1086 = .ok (.istore 6, 2) := by decide +kernel
theorem d_law_1088 : decode code 1088 = .ok (.aload_n 2, 1) := by decide +kernel
theorem d_law_1089 : decode code 1089 = .ok (.invokevirtual 87, 3) := by decide +kernel
theorem d_law_1092 : decode code 1092 = .ok (.iload 5, 2) := by decide +kernel
theorem d_law_1094 : decode code 1094 = .ok (.if_icmp .eq 5, 3) := by decide +kernel
theorem d_law_1097 : decode code 1097 = .ok (.iconst 0, 1) := by decide +kernel
theorem d_law_1098 : decode code 1098 = .ok (.ireturn, 1) := by decide +kernel
theorem d_law_1099 : decode code 1099 = .ok (.iload 5, 2) := by decide +kernel
theorem d_law_1101 : decode code 1101 = .ok (.ifCond .ne 15, 3) := by decide +kernel
theorem d_law_1104 : decode code 1104 = .ok (.aload_n 3, 1) := by decide +kernel
theorem d_law_1105 : decode code 1105 = .ok (.iconst 0, 1) := by decide +kernel
theorem d_law_1106 : decode code 1106 = .ok (.laload, 1) := by decide +kernel
theorem d_law_1107 : decode code 1107 = .ok (.iload 6, 2) := by decide +kernel
theorem d_law_1109 : decode code 1109 = .ok (.i2l, 1) := by decide +kernel
theorem d_law_1110 : decode code 1110 = .ok (.lcmp, 1) := by decide +kernel
theorem d_law_1111 : decode code 1111 = .ok (.ifCond .eq 5, 3) := by decide +kernel
theorem d_law_1114 : decode code 1114 = .ok (.iconst 0, 1) := by decide +kernel
theorem d_law_1115 : decode code 1115 = .ok (.ireturn, 1) := by decide +kernel
theorem d_law_1116 : decode code 1116 = .ok (.goto 196, 3) := by decide +kernel
theorem d_law_1119 : decode code 1119 = .ok (.aload_n 1, 1) := by decide +kernel
theorem d_law_1120 : decode code 1120 = .ok (.aload_n 0, 1) := by decide +kernel
theorem d_law_1121 : decode code 1121 = .ok (.iload 4, 2) := by decide +kernel
theorem d_law_1123 : decode code 1123 = .ok (.iconst 1, 1) := by decide +kernel
theorem d_law_1124 : decode code 1124 = .ok (.iadd, 1) := by decide +kernel
theorem d_law_1125 : decode code 1125 = .ok (.iaload, 1) := by decide +kernel
theorem d_law_1126 : decode code 1126 = .ok (.aload_n 3, 1) := by decide +kernel
theorem d_law_1127 : decode code 1127 = .ok (.invokestatic 138, 3) := by decide +kernel
theorem d_law_1130 : decode code 1130 = .ok (.istore 5, 2) := by decide +kernel
theorem d_law_1132 : decode code 1132 = .ok (.aload_n 2, 1) := by decide +kernel
theorem d_law_1133 : decode code 1133 = .ok (.aload_n 0, 1) := by decide +kernel
theorem d_law_1134 : decode code 1134 = .ok (.iload 4, 2) := by decide +kernel
theorem d_law_1136 : decode code 1136 = .ok (.iconst 1, 1) := by decide +kernel
theorem d_law_1137 : decode code 1137 = .ok (.iadd, 1) := by decide +kernel
theorem d_law_1138 : decode code 1138 = .ok (.iaload, 1) := by decide +kernel
theorem d_law_1139 : decode code 1139 = .ok (.invokevirtual 140, 3) := by decide +kernel
theorem d_law_1142 : decode code 1142 = .ok (.istore 6, 2) := by decide +kernel
theorem d_law_1144 : decode code 1144 = .ok (.aload_n 2, 1) := by decide +kernel
theorem d_law_1145 : decode code 1145 = .ok (.invokevirtual 87, 3) := by decide +kernel
theorem d_law_1148 : decode code 1148 = .ok (.iload 5, 2) := by decide +kernel
theorem d_law_1150 : decode code 1150 = .ok (.if_icmp .eq 5, 3) := by decide +kernel
theorem d_law_1153 : decode code 1153 = .ok (.iconst 0, 1) := by decide +kernel
theorem d_law_1154 : decode code 1154 = .ok (.ireturn, 1) := by decide +kernel
theorem d_law_1155 : decode code 1155 = .ok (.iload 5, 2) := by decide +kernel
theorem d_law_1157 : decode code 1157 = .ok (.ifCond .ne 15, 3) := by decide +kernel
theorem d_law_1160 : decode code 1160 = .ok (.aload_n 3, 1) := by decide +kernel
theorem d_law_1161 : decode code 1161 = .ok (.iconst 0, 1) := by decide +kernel
theorem d_law_1162 : decode code 1162 = .ok (.laload, 1) := by decide +kernel
theorem d_law_1163 : decode code 1163 = .ok (.iload 6, 2) := by decide +kernel
