theorem dL_law_970 : decode code 970 = .ok (.invokevirtual 113, 3) := by decide +kernel
theorem dL_law_973 : decode code 973 = .ok (.iload 5, 2) := by decide +kernel
theorem dL_law_975 : decode code 975 = .ok (.if_icmp .eq 5, 3) := by decide +kernel
theorem dL_law_978 : decode code 978 = .ok (.iconst 0, 1) := by decide +kernel
theorem dL_law_979 : decode code 979 = .ok (.ireturn, 1) := by decide +kernel
theorem dL_law_980 : decode code 980 = .ok (.iload 5, 2) := by decide +kernel
theorem dL_law_982 : decode code 982 = .ok (.ifCond .ne 15, 3) := by decide +kernel
theorem dL_law_985 : decode code 985 = .ok (.aload_n 3, 1) := by decide +kernel
theorem dL_law_986 : decode code 986 = .ok (.iconst 0, 1) := by decide +kernel
theorem dL_law_987 : decode code 987 = .ok (.laload, 1) := by decide +kernel
theorem dL_law_988 : decode code 988 = .ok (.iload 6, 2) := by decide +kernel
theorem dL_law_990 : decode code 990 = .ok (.i2l, 1) := by decide +kernel
theorem dL_law_991 : decode code 991 = .ok (.lcmp, 1) := by decide +kernel
theorem dL_law_992 : decode code 992 = .ok (.ifCond .eq 5, 3) := by decide +kernel
theorem dL_law_995 : decode code 995 = .ok (.iconst 0, 1) := by decide +kernel
theorem dL_law_996 : decode code 996 = .ok (.ireturn, 1) := by decide +kernel
theorem dL_law_997 : decode code 997 = .ok (.goto 884, 3) := by decide +kernel
theorem dL_law_1000 : decode code 1000 = .ok (.aload_n 1, 1) := by decide +kernel
theorem dL_law_1001 : decode code 1001 = .ok (.aload_n 0, 1) := by decide +kernel
theorem dL_law_1002 : decode code 1002 = .ok (.iload 4, 2) := by decide +kernel
theorem dL_law_1004 : decode code 1004 = .ok (.iconst 1, 1) := by decide +kernel
theorem dL_law_1005 : decode code 1005 = .ok (.iadd, 1) := by decide +kernel
theorem dL_law_1006 : decode code 1006 = .ok (.iaload, 1) := by decide +kernel
theorem dL_law_1007 : decode code 1007 = .ok (.aload_n 3, 1) := by decide +kernel
theorem dL_law_1008 : decode code 1008 = .ok (.invokestatic 154, 3) := by decide +kernel
theorem dL_law_1011 : decode code 1011 = .ok (.istore 5, 2) := by decide +kernel
theorem dL_law_1013 : decode code 1013 = .ok (.aload_n 2, 1) := by decide +kernel
theorem dL_law_1014 : decode code 1014 = .ok (.aload_n 0, 1) := by decide +kernel
theorem dL_law_1015 : decode code 1015 = .ok (.iload 4, 2) := by decide +kernel
theorem dL_law_1017 : decode code 1017 = .ok (.iconst 1, 1) := by decide +kernel
theorem dL_law_1018 : decode code 1018 = .ok (.iadd, 1) := by decide +kernel
theorem dL_law_1019 : decode code 1019 = .ok (.iaload, 1) := by decide +kernel
theorem dL_law_1020 : decode code 1020 = .ok (.invokevirtual 156, 3) := by decide +kernel
theorem dL_law_1023 : decode code 1023 = .ok (.lstore 6, 2) := by decide +kernel
theorem dL_law_1025 : decode code 1025 = .ok (.aload_n 2, 1) := by decide +kernel
theorem dL_law_1026 : decode code 1026 = .ok (.invokevirtual 113, 3) := by decide +kernel
theorem dL_law_1029 : decode code 1029 = .ok (.iload 5, 2) := by decide +kernel
theorem dL_law_1031 : decode code 1031 = .ok (.if_icmp .eq 5, 3) := by decide +kernel
theorem dL_law_1034 : decode code 1034 = .ok (.iconst 0, 1) := by decide +kernel
theorem dL_law_1035 : decode code 1035 = .ok (.ireturn, 1) := by decide +kernel
theorem dL_law_1036 : decode code 1036 = .ok (.iload 5, 2) := by decide +kernel
theorem dL_law_1038 : decode code 1038 = .ok (.ifCond .ne 14, 3) := by decide +kernel
theorem dL_law_1041 : decode code 1041 = .ok (.aload_n 3, 1) := by decide +kernel
theorem dL_law_1042 : decode code 1042 = .ok (.iconst 0, 1) := by decide +kernel
theorem dL_law_1043 : decode code 1043 = .ok (.laload, 1) := by decide +kernel
theorem dL_law_1044 : decode code 1044 = .ok (.lload 6, 2) := by decide +kernel
theorem dL_law_1046 : decode code 1046 = .ok (.lcmp, 1) := by decide +kernel
theorem dL_law_1047 : decode code 1047 = .ok (.ifCond .eq 5, 3) := by decide +kernel
theorem dL_law_1050 : decode code 1050 = .ok (.iconst 0, 1) := by decide +kernel
theorem dL_law_1051 : decode code 1051 = .ok (.ireturn, 1) := by decide +kernel
theorem dL_law_1052 : decode code 1052 = .ok (.goto 829, 3) := by decide +kernel
theorem dL_law_1055 : decode code 1055 = .ok (.aload_n 1, 1) := by decide +kernel
theorem dL_law_1056 : decode code 1056 = .ok (.aload_n 0, 1) := by decide +kernel
theorem dL_law_1057 : decode code 1057 = .ok (.iload 4, 2) := by decide +kernel
theorem dL_law_1059 : decode code 1059 = .ok (.iconst 1, 1) := by decide +kernel
theorem dL_law_1060 : decode code 1060 = .ok (.iadd, 1) := by decide +kernel
theorem dL_law_1061 : decode code 1061 = .ok (.iaload, 1) := by decide +kernel
theorem dL_law_1062 : decode code 1062 = .ok (.aload_n 3, 1) := by decide +kernel
theorem dL_law_1063 : decode code 1063 = .ok (.invokestatic 157, 3) := by decide +kernel
theorem dL_law_1066 : decode code 1066 = .ok (.istore 5, 2) := by decide +kernel
theorem dL_law_1068 : decode code 1068 = .ok (.aload_n 2, 1) := by decide +kernel
theorem dL_law_1069 : decode code 1069 = .ok (.aload_n 0, 1) := by decide +kernel
theorem dL_law_1070 : decode code 1070 = .ok (.iload 4, 2) := by decide +kernel
theorem dL_law_1072 : decode code 1072 = .ok (.iconst 1, 1) := by decide +kernel
theorem dL_law_1073 : decode code 1073 = .ok (.iadd, 1) := by decide +kernel
theorem dL_law_1074 : decode code 1074 = .ok (.iaload, 1) := by decide +kernel
theorem dL_law_1075 : decode code 1075 = .ok (.invokevirtual 159, 3) := by decide +kernel
theorem dL_law_1078 : decode code 1078 = .ok (.lstore 6, 2) := by decide +kernel
theorem dL_law_1080 : decode code 1080 = .ok (.aload_n 2, 1) := by decide +kernel
theorem dL_law_1081 : decode code 1081 = .ok (.invokevirtual 113, 3) := by decide +kernel
theorem dL_law_1084 : decode code 1084 = .ok (.iload 5, 2) := by decide +kernel
theorem dL_law_1086 : decode code 1086 = .ok (.if_icmp .eq 5, 3) := by decide +kernel
theorem dL_law_1089 : decode code 1089 = .ok (.iconst 0, 1) := by decide +kernel
theorem dL_law_1090 : decode code 1090 = .ok (.ireturn, 1) := by decide +kernel
theorem dL_law_1091 : decode code 1091 = .ok (.iload 5, 2) := by decide +kernel
theorem dL_law_1093 : decode code 1093 = .ok (.ifCond .ne 14, 3) := by decide +kernel
theorem dL_law_1096 : decode code 1096 = .ok (.aload_n 3, 1) := by decide +kernel
theorem dL_law_1097 : decode code 1097 = .ok (.iconst 0, 1) := by decide +kernel
theorem dL_law_1098 : decode code 1098 = .ok (.laload, 1) := by decide +kernel
theorem dL_law_1099 : decode code 1099 = .ok (.lload 6, 2) := by decide +kernel
theorem dL_law_1101 : decode code 1101 = .ok (.lcmp, 1) := by decide +kernel
theorem dL_law_1102 : decode code 1102 = .ok (.ifCond .eq 5, 3) := by decide +kernel
theorem dL_law_1105 : decode code 1105 = .ok (.iconst 0, 1) := by decide +kernel
theorem dL_law_1106 : decode code 1106 = .ok (.ireturn, 1) := by decide +kernel
theorem dL_law_1107 : decode code 1107 = .ok (.goto 774, 3) := by decide +kernel
theorem dL_law_1110 : decode code 1110 = .ok (.aload_n 1, 1) := by decide +kernel
theorem dL_law_1111 : decode code 1111 = .ok (.aload_n 0, 1) := by decide +kernel
theorem dL_law_1112 : decode code 1112 = .ok (.iload 4, 2) := by decide +kernel
theorem dL_law_1114 : decode code 1114 = .ok (.iconst 1, 1) := by decide +kernel
theorem dL_law_1115 : decode code 1115 = .ok (.iadd, 1) := by decide +kernel
theorem dL_law_1116 : decode code 1116 = .ok (.iaload, 1) := by decide +kernel
theorem dL_law_1117 : decode code 1117 = .ok (.aload_n 3, 1) := by decide +kernel
theorem dL_law_1118 : decode code 1118 = .ok (.invokestatic 160, 3) := by decide +kernel
theorem dL_law_1121 : decode code 1121 = .ok (.istore 5, 2) := by decide +kernel
theorem dL_law_1123 : decode code 1123 = .ok (.aload_n 2, 1) := by decide +kernel
theorem dL_law_1124 : decode code 1124 = .ok (.aload_n 0, 1) := by decide +kernel
theorem dL_law_1125 : decode code 1125 = .ok (.iload 4, 2) := by decide +kernel
theorem dL_law_1127 : decode code 1127 = .ok (.iconst 1, 1) := by decide +kernel
theorem dL_law_1128 : decode code 1128 = .ok (.iadd, 1) := by decide +kernel
theorem dL_law_1129 : decode code 1129 = .ok (.iaload, 1) := by decide +kernel
theorem dL_law_1130 : decode code 1130 = .ok (.invokevirtual 162, 3) := by decide +kernel
theorem dL_law_1133 : decode code 1133 = .ok (.lstore 6, 2) := by decide +kernel
theorem dL_law_1135 : decode code 1135 = .ok (.aload_n 2, 1) := by decide +kernel
theorem dL_law_1136 : decode code 1136 = .ok (.invokevirtual 113, 3) := by decide +kernel
theorem dL_law_1139 : decode code 1139 = .ok (.iload 5, 2) := by decide +kernel
theorem dL_law_1141 : decode code 1141 = .ok (.if_icmp .eq 5, 3) := by decide +kernel
theorem dL_law_1144 : decode code 1144 = .ok (.iconst 0, 1) := by decide +kernel
theorem dL_law_1145 : decode code 1145 = .ok (.ireturn, 1) := by decide +kernel
theorem dL_law_1146 : decode code 1146 = .ok (.iload 5, 2) := by decide +kernel
theorem dL_law_1148 : decode code 1148 = .ok (.ifCond .ne 14, 3) := by decide +kernel
theorem dL_law_1151 : decode code 1151 = .ok (.aload_n 3, 1) := by decide +kernel
theorem dL_law_1152 : decode code 1152 = .ok (.iconst 0, 1) := by decide +kernel
theorem dL_law_1153 : decode code 1153 = .ok (.laload, 1) := by decide +kernel
theorem dL_law_1154 : decode code 1154 = .ok (.lload 6, 2) := by decide +kernel
theorem dL_law_1156 : decode code 1156 = .ok (.lcmp, 1) := by decide +kernel
theorem dL_law_1157 : decode code 1157 = .ok (.ifCond .eq 5, 3) := by decide +kernel
theorem dL_law_1160 : decode code 1160 = .ok (.iconst 0, 1) := by decide +kernel
theorem dL_law_1161 : decode code 1161 = .ok (.ireturn, 1) := by decide +kernel
theorem dL_law_1162 : decode code 1162 = .ok (.goto 719, 3) := by decide +kernel
theorem dL_law_1165 : decode code 1165 = .ok (.aload_n 1, 1) := by decide +kernel
theorem dL_law_1166 : decode code 1166 = .ok (.aload_n 0, 1) := by decide +kernel
theorem dL_law_1167 : decode code 1167 = .ok (.iload 4, 2) := by decide +kernel
theorem dL_law_1169 : decode code 1169 = .ok (.iconst 1, 1) := by decide +kernel
theorem dL_law_1170 : decode code 1170 = .ok (.iadd, 1) := by decide +kernel
theorem dL_law_1171 : decode code 1171 = .ok (.iaload, 1) := by decide +kernel
theorem dL_law_1172 : decode code 1172 = .ok (.aload_n 3, 1) := by decide +kernel
theorem dL_law_1173 : decode code 1173 = .ok (.invokestatic 163, 3) := by decide +kernel
theorem dL_law_1176 : decode code 1176 = .ok (.istore 5, 2) := by decide +kernel
theorem dL_law_1178 : decode code 1178 = .ok (.aload_n 2, 1) := by decide +kernel
theorem dL_law_1179 : decode code 1179 = .ok (.aload_n 0, 1) := by decide +kernel
theorem dL_law_1180 : decode code 1180 = .ok (.iload 4, 2) := by decide +kernel
theorem dL_law_1182 : decode code 1182 = .ok (.iconst 1, 1) := by decide +kernel
theorem dL_law_1183 : decode code 1183 = .ok (.iadd, 1) := by decide +kernel
theorem dL_law_1184 : decode code 1184 = .ok (.iaload, 1) := by decide +kernel
theorem dL_law_1185 : decode code 1185 = .ok (.invokevirtual 165, 3) := by decide +kernel
theorem dL_law_1188 : decode code 1188 = .ok (.lstore 6, 2) := by decide +kernel
theorem dL_law_1190 : decode code 1190 = .ok (.aload_n 2, 1) := by decide +kernel
theorem dL_law_1191 : decode code 1191 = .ok (.invokevirtual 113, 3) := by decide +kernel
theorem dL_law_1194 : decode code 1194 = .ok (.iload 5, 2) := by decide +kernel
theorem dL_law_1196 : decode code 1196 = .ok (.if_icmp .eq 5, 3) := by decide +kernel
theorem dL_law_1199 : decode code 1199 = .ok (.iconst 0, 1) := by decide +kernel
theorem dL_law_1200 : decode code 1200 = .ok (.ireturn, 1) := by decide +kernel
theorem dL_law_1201 : decode code 1201 = .ok (.iload 5, 2) := by decide +kernel
theorem dL_law_1203 : decode code 1203 = .ok (.ifCond .ne 14, 3) := by decide +kernel
theorem dL_law_1206 : decode code 1206 = .ok (.aload_n 3, 1) := by decide +kernel
