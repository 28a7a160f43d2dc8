theorem d_L_law_1063 : decode b_L_law 1063 = .ok (.iadd, 1) := by decide +kernel
theorem d_L_law_1064 : decode b_L_law 1064 = .ok (.iaload, 1) := by decide +kernel
theorem d_L_law_1065 : decode b_L_law 1065 = .ok (.aload_n 0, 1) := by decide +kernel
theorem d_L_law_1066 : decode b_L_law 1066 = .ok (.iload 4, 2) := by decide +kernel
theorem d_L_law_1068 : decode b_L_law 1068 = .ok (.iconst 2, 1) := by decide +kernel
theorem d_L_law_1069 : decode b_L_law 1069 = .ok (.iadd, 1) := by decide +kernel
theorem d_L_law_1070 : decode b_L_law 1070 = .ok (.iaload, 1) := by decide +kernel
theorem d_L_law_1071 : decode b_L_law 1071 = .ok (.invokevirtual 123, 3) := by decide +kernel
theorem d_L_law_1074 : decode b_L_law 1074 = .ok (.istore 6, 2) := by decide +kernel
theorem d_L_law_1076 : decode b_L_law 1076 = .ok (.aload_n 2, 1) := by decide +kernel
theorem d_L_law_1077 : decode b_L_law 1077 = .ok (.invokevirtual 77, 3) := by decide +kernel
theorem d_L_law_1080 : decode b_L_law 1080 = .ok (.iload 5, 2) := by decide +kernel
theorem d_L_law_1082 : decode b_L_law 1082 = .ok (.if_icmp .eq 5, 3) := by decide +kernel
theorem d_L_law_1085 : decode b_L_law 1085 = .ok (.iconst 0, 1) := by decide +kernel
theorem d_L_law_1086 : decode b_L_law 1086 = .ok (.ireturn, 1) := by decide +kernel
theorem d_L_law_1087 : decode b_L_law 1087 = .ok (.iload 5, 2) := by decide +kernel
theorem d_L_law_1089 : decode b_L_law 1089 = .ok (.ifCond .ne 15, 3) := by decide +kernel
theorem d_L_law_1092 : decode b_L_law 1092 = .ok (.aload_n 3, 1) := by decide +kernel
theorem d_L_law_1093 : decode b_L_law 1093 = .ok (.iconst 0, 1) := by decide +kernel
theorem d_L_law_1094 : decode b_L_law 1094 = .ok (.laload, 1) := by decide +kernel
theorem d_L_law_1095 : decode b_L_law 1095 = .ok (.iload 6, 2) := by decide +kernel
theorem d_L_law_1097 : decode b_L_law 1097 = .ok (.i2l, 1) := by decide +kernel
theorem d_L_law_1098 : decode b_L_law 1098 = .ok (.lcmp, 1) := by decide +kernel
theorem d_L_law_1099 : decode b_L_law 1099 = .ok (.ifCond .eq 5, 3) := by decide +kernel
theorem d_L_law_1102 : decode b_L_law 1102 = .ok (.iconst 0, 1) := by decide +kernel
theorem d_L_law_1103 : decode b_L_law 1103 = .ok (.ireturn, 1) := by decide +kernel
theorem d_L_law_1104 : decode b_L_law 1104 = .ok (.goto 114, 3) := by decide +kernel
theorem d_L_law_1107 : decode b_L_law 1107 = .ok (.aload_n 1, 1) := by decide +kernel
theorem d_L_law_1108 : decode b_L_law 1108 = .ok (.aload_n 0, 1) := by decide +kernel
theorem d_L_law_1109 : decode b_L_law 1109 = .ok (.iload 4, 2) := by decide +kernel
theorem d_L_law_1111 : decode b_L_law 1111 = .ok (.iconst 1, 1) := by decide +kernel
theorem d_L_law_1112 : decode b_L_law 1112 = .ok (.iadd, 1) := by decide +kernel
theorem d_L_law_1113 : decode b_L_law 1113 = .ok (.iaload, 1) := by decide +kernel
theorem d_L_law_1114 : decode b_L_law 1114 = .ok (.aload_n 3, 1) := by decide +kernel
theorem d_L_law_1115 : decode b_L_law 1115 = .ok (.invokestatic 124, 3) := by decide +kernel
theorem d_L_law_1118 : decode b_L_law 1118 = .ok (.istore 5, 2) := by decide +kernel
theorem d_L_law_1120 : decode b_L_law 1120 = .ok (.aload_n 2, 1) := by decide +kernel
theorem d_L_law_1121 : decode b_L_law 1121 = .ok (.aload_n 0, 1) := by decide +kernel
theorem d_L_law_1122 : decode b_L_law 1122 = .ok (.iload 4, 2) := by decide +kernel
theorem d_L_law_1124 : decode b_L_law 1124 = .ok (.iconst 1, 1) := by decide +kernel
theorem d_L_law_1125 : decode b_L_law 1125 = .ok (.iadd, 1) := by decide +kernel
theorem d_L_law_1126 : decode b_L_law 1126 = .ok (.iaload, 1) := by decide +kernel
theorem d_L_law_1127 : decode b_L_law 1127 = .ok (.invokevirtual 126, 3) := by decide +kernel
theorem d_L_law_1130 : decode b_L_law 1130 = .ok (.istore 6, 2) := by decide +kernel
theorem d_L_law_1132 : decode b_L_law 1132 = .ok (.aload_n 2, 1) := by decide +kernel
theorem d_L_law_1133 : decode b_L_law 1133 = .ok (.invokevirtual 77, 3) := by decide +kernel
theorem d_L_law_1136 : decode b_L_law 1136 = .ok (.iload 5, 2) := by decide +kernel
theorem d_L_law_1138 : decode b_L_law 1138 = .ok (.if_icmp .eq 5, 3) := by decide +kernel
theorem d_L_law_1141 : decode b_L_law 1141 = .ok (.iconst 0, 1) := by decide +kernel
theorem d_L_law_1142 : decode b_L_law 1142 = .ok (.ireturn, 1) := by decide +kernel
theorem d_L_law_1143 : decode b_L_law 1143 = .ok (.iload 5, 2) := by decide +kernel
theorem d_L_law_1145 : decode b_L_law 1145 = .ok (.ifCond .ne 15, 3) := by decide +kernel
theorem d_L_law_1148 : decode b_L_law 1148 = .ok (.aload_n 3, 1) := by decide +kernel
theorem d_L_law_1149 : decode b_L_law 1149 = .ok (.iconst 0, 1) := by decide +kernel
theorem d_L_law_1150 : decode b_L_law 1150 = .ok (.laload, 1) := by decide +kernel
theorem d_L_law_1151 : decode b_L_law 1151 = .ok (.iload 6, 2) := by decide +kernel
theorem d_L_law_1153 : decode b_L_law 1153 = .ok (.i2l, 1) := by decide +kernel
theorem d_L_law_1154 : decode b_L_law 1154 = .ok (.lcmp, 1) := by decide +kernel
theorem d_L_law_1155 : decode b_L_law 1155 = .ok (.ifCond .eq 5, 3) := by decide +kernel
theorem d_L_law_1158 : decode b_L_law 1158 = .ok (.iconst 0, 1) := by decide +kernel
theorem d_L_law_1159 : decode b_L_law 1159 = .ok (.ireturn, 1) := by decide +kernel
theorem d_L_law_1160 : decode b_L_law 1160 = .ok (.goto 58, 3) := by decide +kernel
theorem d_L_law_1163 : decode b_L_law 1163 = .ok (.aload_n 1, 1) := by decide +kernel
theorem d_L_law_1164 : decode b_L_law 1164 = .ok (.aload_n 0, 1) := by decide +kernel
theorem d_L_law_1165 : decode b_L_law 1165 = .ok (.iload 4, 2) := by decide +kernel
theorem d_L_law_1167 : decode b_L_law 1167 = .ok (.iconst 1, 1) := by decide +kernel
theorem d_L_law_1168 : decode b_L_law 1168 = .ok (.iadd, 1) := by decide +kernel
theorem d_L_law_1169 : decode b_L_law 1169 = .ok (.iaload, 1) := by decide +kernel
theorem d_L_law_1170 : decode b_L_law 1170 = .ok (.aload_n 3, 1) := by decide +kernel
theorem d_L_law_1171 : decode b_L_law 1171 = .ok (.invokestatic 127, 3) := by decide +kernel
theorem d_L_law_1174 : decode b_L_law 1174 = .ok (.istore 5, 2) := by decide +kernel
theorem d_L_law_1176 : decode b_L_law 1176 = .ok (.aload_n 2, 1) := by decide +kernel
theorem d_L_law_1177 : decode b_L_law 1177 = .ok (.aload_n 0, 1) := by decide +kernel
theorem d_L_law_1178 : decode b_L_law 1178 = .ok (.iload 4, 2) := by decide +kernel
theorem d_L_law_1180 : decode b_L_law 1180 = .ok (.iconst 1, 1) := by decide +kernel
theorem d_L_law_1181 : decode b_L_law 1181 = .ok (.iadd, 1) := by decide +kernel
theorem d_L_law_1182 : decode b_L_law 1182 = .ok (.iaload, 1) := by decide +kernel
theorem d_L_law_1183 : decode b_L_law 1183 = .ok (.invokevirtual 129, 3) := by decide +kernel
theorem d_L_law_1186 : decode b_L_law 1186 = .ok (.lstore 6, 2) := by decide +kernel
theorem d_L_law_1188 : decode b_L_law 1188 = .ok (.aload_n 2, 1) := by decide +kernel
theorem d_L_law_1189 : decode b_L_law 1189 = .ok (.invokevirtual 77, 3) := by decide +kernel
theorem d_L_law_1192 : decode b_L_law 1192 = .ok (.iload 5, 2) := by decide +kernel
theorem d_L_law_1194 : decode b_L_law 1194 = .ok (.if_icmp .eq 5, 3) := by decide +kernel
theorem d_L_law_1197 : decode b_L_law 1197 = .ok (.iconst 0, 1) := by decide +kernel
theorem d_L_law_1198 : decode b_L_law 1198 = .ok (.ireturn, 1) := by decide +kernel
theorem d_L_law_1199 : decode b_L_law 1199 = .ok (.iload 5, 2) := by decide +kernel
theorem d_L_law_1201 : decode b_L_law 1201 = .ok (.ifCond .ne 14, 3) := by decide +kernel
theorem d_L_law_1204 : decode b_L_law 1204 = .ok (.aload_n 3, 1) := by decide +kernel
theorem d_L_law_1205 : decode b_L_law 1205 = .ok (.iconst 0, 1) := by decide +kernel
theorem d_L_law_1206 : decode b_L_law 1206 = .ok (.laload, 1) := by decide +kernel
theorem d_L_law_1207 : decode b_L_law 1207 = .ok (.lload 6, 2) := by decide +kernel
theorem d_L_law_1209 : decode b_L_law 1209 = .ok (.lcmp, 1) := by decide +kernel
theorem d_L_law_1210 : decode b_L_law 1210 = .ok (.ifCond .eq 5, 3) := by decide +kernel
theorem d_L_law_1213 : decode b_L_law 1213 = .ok (.iconst 0, 1) := by decide +kernel
theorem d_L_law_1214 : decode b_L_law 1214 = .ok (.ireturn, 1) := by decide +kernel
theorem d_L_law_1215 : decode b_L_law 1215 = .ok (.goto 3, 3) := by decide +kernel
theorem d_L_law_1218 : decode b_L_law 1218 = .ok (.iinc 4 6, 3) := by decide +kernel
theorem d_L_law_1221 : decode b_L_law 1221 = .ok (.goto (-1198), 3) := by decide +kernel
theorem d_L_law_1224 : decode b_L_law 1224 = .ok (.iconst 1, 1) := by decide +kernel
theorem d_L_law_1225 : decode b_L_law 1225 = .ok (.ireturn, 1) := by decide +kernel
