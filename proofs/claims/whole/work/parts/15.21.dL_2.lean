theorem dL_law_988 : decode cL_law 988 = .ok (.invokevirtual 83, 3) := by decide +kernel
theorem dL_law_991 : decode cL_law 991 = .ok (.iload 5, 2) := by decide +kernel
theorem dL_law_993 : decode cL_law 993 = .ok (.if_icmp .eq 5, 3) := by decide +kernel
theorem dL_law_996 : decode cL_law 996 = .ok (.iconst 0, 1) := by decide +kernel
theorem dL_law_997 : decode cL_law 997 = .ok (.ireturn, 1) := by decide +kernel
theorem dL_law_998 : decode cL_law 998 = .ok (.iload 5, 2) := by decide +kernel
theorem dL_law_1000 : decode cL_law 1000 = .ok (.ifCond .ne 15, 3) := by decide +kernel
theorem dL_law_1003 : decode cL_law 1003 = .ok (.aload_n 3, 1) := by decide +kernel
theorem dL_law_1004 : decode cL_law 1004 = .ok (.iconst 0, 1) := by decide +kernel
theorem dL_law_1005 : decode cL_law 1005 = .ok (.laload, 1) := by decide +kernel
theorem dL_law_1006 : decode cL_law 1006 = .ok (.iload 6, 2) := by decide +kernel
theorem dL_law_1008 : decode cL_law 1008 = .ok (.i2l, 1) := by decide +kernel
theorem dL_law_1009 : decode cL_law 1009 = .ok (.lcmp, 1) := by decide +kernel
theorem dL_law_1010 : decode cL_law 1010 = .ok (.ifCond .eq 5, 3) := by decide +kernel
theorem dL_law_1013 : decode cL_law 1013 = .ok (.iconst 0, 1) := by decide +kernel
theorem dL_law_1014 : decode cL_law 1014 = .ok (.ireturn, 1) := by decide +kernel
theorem dL_law_1015 : decode cL_law 1015 = .ok (.goto 152, 3) := by decide +kernel
theorem dL_law_1018 : decode cL_law 1018 = .ok (.aload_n 1, 1) := by decide +kernel
theorem dL_law_1019 : decode cL_law 1019 = .ok (.aload_n 0, 1) := by decide +kernel
theorem dL_law_1020 : decode cL_law 1020 = .ok (.iload 4, 2) := by decide +kernel
theorem dL_law_1022 : decode cL_law 1022 = .ok (.iconst 1, 1) := by decide +kernel
theorem dL_law_1023 : decode cL_law 1023 = .ok (.iadd, 1) := by decide +kernel
theorem dL_law_1024 : decode cL_law 1024 = .ok (.iaload, 1) := by decide +kernel
theorem dL_law_1025 : decode cL_law 1025 = .ok (.aload_n 0, 1) := by decide +kernel
theorem dL_law_1026 : decode cL_law 1026 = .ok (.iload 4, 2) := by decide +kernel
theorem dL_law_1028 : decode cL_law 1028 = .ok (.iconst 2, 1) := by decide +kernel
theorem dL_law_1029 : decode cL_law 1029 = .ok (.iadd, 1) := by decide +kernel
theorem dL_law_1030 : decode cL_law 1030 = .ok (.iaload, 1) := by decide +kernel
theorem dL_law_1031 : decode cL_law 1031 = .ok (.aload_n 0, 1) := by decide +kernel
theorem dL_law_1032 : decode cL_law 1032 = .ok (.iload 4, 2) := by decide +kernel
theorem dL_law_1034 : decode cL_law 1034 = .ok (.iconst 3, 1) := by decide +kernel
theorem dL_law_1035 : decode cL_law 1035 = .ok (.iadd, 1) := by decide +kernel
theorem dL_law_1036 : decode cL_law 1036 = .ok (.iaload, 1) := by decide +kernel
theorem dL_law_1037 : decode cL_law 1037 = .ok (.aload_n 0, 1) := by decide +kernel
theorem dL_law_1038 : decode cL_law 1038 = .ok (.iload 4, 2) := by decide +kernel
theorem dL_law_1040 : decode cL_law 1040 = .ok (.iconst 4, 1) := by decide +kernel
theorem dL_law_1041 : decode cL_law 1041 = .ok (.iadd, 1) := by decide +kernel
theorem dL_law_1042 : decode cL_law 1042 = .ok (.iaload, 1) := by decide +kernel
theorem dL_law_1043 : decode cL_law 1043 = .ok (.aload_n 3, 1) := by decide +kernel
theorem dL_law_1044 : decode cL_law 1044 = .ok (.invokestatic 125, 3) := by decide +kernel
theorem dL_law_1047 : decode cL_law 1047 = .ok (.istore 5, 2) := by decide +kernel
theorem dL_law_1049 : decode cL_law 1049 = .ok (.aload_n 2, 1) := by decide +kernel
theorem dL_law_1050 : decode cL_law 1050 = .ok (.aload_n 0, 1) := by decide +kernel
theorem dL_law_1051 : decode cL_law 1051 = .ok (.iload 4, 2) := by decide +kernel
theorem dL_law_1053 : decode cL_law 1053 = .ok (.iconst 1, 1) := by decide +kernel
theorem dL_law_1054 : decode cL_law 1054 = .ok (.iadd, 1) := by decide +kernel
theorem dL_law_1055 : decode cL_law 1055 = .ok (.iaload, 1) := by decide +kernel
theorem dL_law_1056 : decode cL_law 1056 = .ok (.aload_n 0, 1) := by decide +kernel
theorem dL_law_1057 : decode cL_law 1057 = .ok (.iload 4, 2) := by decide +kernel
theorem dL_law_1059 : decode cL_law 1059 = .ok (.iconst 2, 1) := by decide +kernel
theorem dL_law_1060 : decode cL_law 1060 = .ok (.iadd, 1) := by decide +kernel
theorem dL_law_1061 : decode cL_law 1061 = .ok (.iaload, 1) := by decide +kernel
theorem dL_law_1062 : decode cL_law 1062 = .ok (.aload_n 0, 1) := by decide +kernel
theorem dL_law_1063 : decode cL_law 1063 = .ok (.iload 4, 2) := by decide +kernel
theorem dL_law_1065 : decode cL_law 1065 = .ok (.iconst 3, 1) := by decide +kernel
theorem dL_law_1066 : decode cL_law 1066 = .ok (.iadd, 1) := by decide +kernel
theorem dL_law_1067 : decode cL_law 1067 = .ok (.iaload, 1) := by decide +kernel
theorem dL_law_1068 : decode cL_law 1068 = .ok (.aload_n 0, 1) := by decide +kernel
theorem dL_law_1069 : decode cL_law 1069 = .ok (.iload 4, 2) := by decide +kernel
theorem dL_law_1071 : decode cL_law 1071 = .ok (.iconst 4, 1) := by decide +kernel
theorem dL_law_1072 : decode cL_law 1072 = .ok (.iadd, 1) := by decide +kernel
theorem dL_law_1073 : decode cL_law 1073 = .ok (.iaload, 1) := by decide +kernel
theorem dL_law_1074 : decode cL_law 1074 = .ok (.invokevirtual 127, 3) := by decide +kernel
theorem dL_law_1077 : decode cL_law 1077 = .ok (.istore 6, 2) := by decide +kernel
theorem dL_law_1079 : decode cL_law 1079 = .ok (.aload_n 2, 1) := by decide +kernel
theorem dL_law_1080 : decode cL_law 1080 = .ok (.invokevirtual 83, 3) := by decide +kernel
theorem dL_law_1083 : decode cL_law 1083 = .ok (.iload 5, 2) := by decide +kernel
theorem dL_law_1085 : decode cL_law 1085 = .ok (.if_icmp .eq 5, 3) := by decide +kernel
theorem dL_law_1088 : decode cL_law 1088 = .ok (.iconst 0, 1) := by decide +kernel
theorem dL_law_1089 : decode cL_law 1089 = .ok (.ireturn, 1) := by decide +kernel
theorem dL_law_1090 : decode cL_law 1090 = .ok (.iload 5, 2) := by decide +kernel
theorem dL_law_1092 : decode cL_law 1092 = .ok (.ifCond .ne 22, 3) := by decide +kernel
theorem dL_law_1095 : decode cL_law 1095 = .ok (.aload_n 3, 1) := by decide +kernel
theorem dL_law_1096 : decode cL_law 1096 = .ok (.iconst 0, 1) := by decide +kernel
theorem dL_law_1097 : decode cL_law 1097 = .ok (.laload, 1) := by decide +kernel
theorem dL_law_1098 : decode cL_law 1098 = .ok (.iload 6, 2) := by decide +kernel
theorem dL_law_1100 : decode cL_law 1100 = .ok (.ifCond .eq 7, 3) := by decide +kernel
theorem dL_law_1103 : decode cL_law 1103 = .ok (.lconst 1, 1) := by decide +kernel
theorem dL_law_1104 : decode cL_law 1104 = .ok (.goto 4, 3) := by decide +kernel
theorem dL_law_1107 : decode cL_law 1107 = .ok (.lconst 0, 1) := by decide +kernel
theorem dL_law_1108 : decode cL_law 1108 = .ok (.lcmp, 1) := by decide +kernel
theorem dL_law_1109 : decode cL_law 1109 = .ok (.ifCond .eq 5, 3) := by decide +kernel
theorem dL_law_1112 : decode cL_law 1112 = .ok (.iconst 0, 1) := by decide +kernel
theorem dL_law_1113 : decode cL_law 1113 = .ok (.ireturn, 1) := by decide +kernel
theorem dL_law_1114 : decode cL_law 1114 = .ok (.goto 53, 3) := by decide +kernel
theorem dL_law_1117 : decode cL_law 1117 = .ok (.aload_n 1, 1) := by decide +kernel
theorem dL_law_1118 : decode cL_law 1118 = .ok (.aload_n 0, 1) := by decide +kernel
theorem dL_law_1119 : decode cL_law 1119 = .ok (.iload 4, 2) := by decide +kernel
theorem dL_law_1121 : decode cL_law 1121 = .ok (.iconst 1, 1) := by decide +kernel
theorem dL_law_1122 : decode cL_law 1122 = .ok (.iadd, 1) := by decide +kernel
theorem dL_law_1123 : decode cL_law 1123 = .ok (.iaload, 1) := by decide +kernel
theorem dL_law_1124 : decode cL_law 1124 = .ok (.invokevirtual 128, 3) := by decide +kernel
theorem dL_law_1127 : decode cL_law 1127 = .ok (.aload_n 2, 1) := by decide +kernel
theorem dL_law_1128 : decode cL_law 1128 = .ok (.aload_n 0, 1) := by decide +kernel
theorem dL_law_1129 : decode cL_law 1129 = .ok (.iload 4, 2) := by decide +kernel
theorem dL_law_1131 : decode cL_law 1131 = .ok (.iconst 1, 1) := by decide +kernel
theorem dL_law_1132 : decode cL_law 1132 = .ok (.iadd, 1) := by decide +kernel
theorem dL_law_1133 : decode cL_law 1133 = .ok (.iaload, 1) := by decide +kernel
theorem dL_law_1134 : decode cL_law 1134 = .ok (.invokevirtual 131, 3) := by decide +kernel
theorem dL_law_1137 : decode cL_law 1137 = .ok (.if_icmp .eq 30, 3) := by decide +kernel
theorem dL_law_1140 : decode cL_law 1140 = .ok (.iconst 0, 1) := by decide +kernel
theorem dL_law_1141 : decode cL_law 1141 = .ok (.ireturn, 1) := by decide +kernel
theorem dL_law_1142 : decode cL_law 1142 = .ok (.aload_n 1, 1) := by decide +kernel
theorem dL_law_1143 : decode cL_law 1143 = .ok (.aload_n 0, 1) := by decide +kernel
theorem dL_law_1144 : decode cL_law 1144 = .ok (.iload 4, 2) := by decide +kernel
theorem dL_law_1146 : decode cL_law 1146 = .ok (.iconst 1, 1) := by decide +kernel
theorem dL_law_1147 : decode cL_law 1147 = .ok (.iadd, 1) := by decide +kernel
theorem dL_law_1148 : decode cL_law 1148 = .ok (.iaload, 1) := by decide +kernel
theorem dL_law_1149 : decode cL_law 1149 = .ok (.invokevirtual 132, 3) := by decide +kernel
theorem dL_law_1152 : decode cL_law 1152 = .ok (.aload_n 2, 1) := by decide +kernel
theorem dL_law_1153 : decode cL_law 1153 = .ok (.aload_n 0, 1) := by decide +kernel
theorem dL_law_1154 : decode cL_law 1154 = .ok (.iload 4, 2) := by decide +kernel
theorem dL_law_1156 : decode cL_law 1156 = .ok (.iconst 1, 1) := by decide +kernel
theorem dL_law_1157 : decode cL_law 1157 = .ok (.iadd, 1) := by decide +kernel
theorem dL_law_1158 : decode cL_law 1158 = .ok (.iaload, 1) := by decide +kernel
theorem dL_law_1159 : decode cL_law 1159 = .ok (.invokevirtual 135, 3) := by decide +kernel
theorem dL_law_1162 : decode cL_law 1162 = .ok (.if_icmp .eq 5, 3) := by decide +kernel
theorem dL_law_1165 : decode cL_law 1165 = .ok (.iconst 0, 1) := by decide +kernel
theorem dL_law_1166 : decode cL_law 1166 = .ok (.ireturn, 1) := by decide +kernel
theorem dL_law_1167 : decode cL_law 1167 = .ok (.iinc 4 6, 3) := by decide +kernel
theorem dL_law_1170 : decode cL_law 1170 = .ok (.goto (-1147), 3) := by decide +kernel
theorem dL_law_1173 : decode cL_law 1173 = .ok (.iconst 1, 1) := by decide +kernel
theorem dL_law_1174 : decode cL_law 1174 = .ok (.ireturn, 1) := by decide +kernel
