theorem d_L_law_1024 : decode code 1024 = .ok (.goto 439, 3) := by decide +kernel
theorem d_L_law_1027 : decode code 1027 = .ok (.aload_n 1, 1) := by decide +kernel
theorem d_L_law_1028 : decode code 1028 = .ok (.aload_n 0, 1) := by decide +kernel
theorem d_L_law_1029 : decode code 1029 = .ok (.iload 4, 2) := by decide +kernel
theorem d_L_law_1031 : decode code 1031 = .ok (.iconst 1, 1) := by decide +kernel
theorem d_L_law_1032 : decode code 1032 = .ok (.iadd, 1) := by decide +kernel
theorem d_L_law_1033 : decode code 1033 = .ok (.iaload, 1) := by decide +kernel
theorem d_L_law_1034 : decode code 1034 = .ok (.aload_n 3, 1) := by decide +kernel
theorem d_L_law_1035 : decode code 1035 = .ok (.invokestatic 133, 3) := by decide +kernel
theorem d_L_law_1038 : decode code 1038 = .ok (.istore 5, 2) := by decide +kernel
theorem d_L_law_1040 : decode code 1040 = .ok (.aload_n 2, 1) := by decide +kernel
theorem d_L_law_1041 : decode code 1041 = .ok (.aload_n 0, 1) := by decide +kernel
theorem d_L_law_1042 : decode code 1042 = .ok (.iload 4, 2) := by decide +kernel
theorem d_L_law_1044 : decode code 1044 = .ok (.iconst 1, 1) := by decide +kernel
theorem d_L_law_1045 : decode code 1045 = .ok (.iadd, 1) := by decide +kernel
theorem d_L_law_1046 : decode code 1046 = .ok (.iaload, 1) := by decide +kernel
theorem d_L_law_1047 : decode code 1047 = .ok (.invokevirtual 135, 3) := by decide +kernel
theorem d_L_law_1050 : decode code 1050 = .ok (.istore 6, 2) := by decide +kernel
theorem d_L_law_1052 : decode code 1052 = .ok (.aload_n 2, 1) := by decide +kernel
theorem d_L_law_1053 : decode code 1053 = .ok (.invokevirtual 90, 3) := by decide +kernel
theorem d_L_law_1056 : decode code 1056 = .ok (.iload 5, 2) := by decide +kernel
theorem d_L_law_1058 : decode code 1058 = .ok (.if_icmp .eq 5, 3) := by decide +kernel
theorem d_L_law_1061 : decode code 1061 = .ok (.iconst 0, 1) := by decide +kernel
theorem d_L_law_1062 : decode code 1062 = .ok (.ireturn, 1) := by decide +kernel
theorem d_L_law_1063 : decode code 1063 = .ok (.iload 5, 2) := by decide +kernel
theorem d_L_law_1065 : decode code 1065 = .ok (.ifCond .ne 15, 3) := by decide +kernel
theorem d_L_law_1068 : decode code 1068 = .ok (.aload_n 3, 1) := by decide +kernel
theorem d_L_law_1069 : decode code 1069 = .ok (.iconst 0, 1) := by decide +kernel
theorem d_L_law_1070 : decode code 1070 = .ok (.laload, 1) := by decide +kernel
theorem d_L_law_1071 : decode code 1071 = .ok (.iload 6, 2) := by decide +kernel
theorem d_L_law_1073 : decode code 1073 = .ok (.i2l, 1) := by decide +kernel
theorem d_L_law_1074 : decode code 1074 = .ok (.lcmp, 1) := by decide +kernel
theorem d_L_law_1075 : decode code 1075 = .ok (.ifCond .eq 5, 3) := by decide +kernel
theorem d_L_law_1078 : decode code 1078 = .ok (.iconst 0, 1) := by decide +kernel
theorem d_L_law_1079 : decode code 1079 = .ok (.ireturn, 1) := by decide +kernel
theorem d_L_law_1080 : decode code 1080 = .ok (.goto 383, 3) := by decide +kernel
theorem d_L_law_1083 : decode code 1083 = .ok (.aload_n 1, 1) := by decide +kernel
theorem d_L_law_1084 : decode code 1084 = .ok (.aload_n 0, 1) := by decide +kernel
theorem d_L_law_1085 : decode code 1085 = .ok (.iload 4, 2) := by decide +kernel
theorem d_L_law_1087 : decode code 1087 = .ok (.iconst 1, 1) := by decide +kernel
theorem d_L_law_1088 : decode code 1088 = .ok (.iadd, 1) := by decide +kernel
theorem d_L_law_1089 : decode code 1089 = .ok (.iaload, 1) := by decide +kernel
theorem d_L_law_1090 : decode code 1090 = .ok (.aload_n 3, 1) := by decide +kernel
theorem d_L_law_1091 : decode code 1091 = .ok (.invokestatic 136, 3) := by decide +kernel
theorem d_L_law_1094 : decode code 1094 = .ok (.istore 5, 2) := by decide +kernel
theorem d_L_law_1096 : decode code 1096 = .ok (.aload_n 2, 1) := by decide +kernel
theorem d_L_law_1097 : decode code 1097 = .ok (.aload_n 0, 1) := by decide +kernel
theorem d_L_law_1098 : decode code 1098 = .ok (.iload 4, 2) := by decide +kernel
theorem d_L_law_1100 : decode code 1100 = .ok (.iconst 1, 1) := by decide +kernel
theorem d_L_law_1101 : decode code 1101 = .ok (.iadd, 1) := by decide +kernel
theorem d_L_law_1102 : decode code 1102 = .ok (.iaload, 1) := by decide +kernel
theorem d_L_law_1103 : decode code 1103 = .ok (.invokevirtual 138, 3) := by decide +kernel
theorem d_L_law_1106 : decode code 1106 = .ok (.istore 6, 2) := by decide +kernel
theorem d_L_law_1108 : decode code 1108 = .ok (.aload_n 2, 1) := by decide +kernel
theorem d_L_law_1109 : decode code 1109 = .ok (.invokevirtual 90, 3) := by decide +kernel
theorem d_L_law_1112 : decode code 1112 = .ok (.iload 5, 2) := by decide +kernel
theorem d_L_law_1114 : decode code 1114 = .ok (.if_icmp .eq 5, 3) := by decide +kernel
theorem d_L_law_1117 : decode code 1117 = .ok (.iconst 0, 1) := by decide +kernel
theorem d_L_law_1118 : decode code 1118 = .ok (.ireturn, 1) := by decide +kernel
theorem d_L_law_1119 : decode code 1119 = .ok (.iload 5, 2) := by decide +kernel
theorem d_L_law_1121 : decode code 1121 = .ok (.ifCond .ne 15, 3) := by decide +kernel
theorem d_L_law_1124 : decode code 1124 = .ok (.aload_n 3, 1) := by decide +kernel
theorem d_L_law_1125 : decode code 1125 = .ok (.iconst 0, 1) := by decide +kernel
theorem d_L_law_1126 : decode code 1126 = .ok (.laload, 1) := by decide +kernel
theorem d_L_law_1127 : decode code 1127 = .ok (.iload 6, 2) := by decide +kernel
theorem d_L_law_1129 : decode code 1129 = .ok (.i2l, 1) := by decide +kernel
theorem d_L_law_1130 : decode code 1130 = .ok (.lcmp, 1) := by decide +kernel
theorem d_L_law_1131 : decode code 1131 = .ok (.ifCond .eq 5, 3) := by decide +kernel
theorem d_L_law_1134 : decode code 1134 = .ok (.iconst 0, 1) := by decide +kernel
theorem d_L_law_1135 : decode code 1135 = .ok (.ireturn, 1) := by decide +kernel
theorem d_L_law_1136 : decode code 1136 = .ok (.goto 327, 3) := by decide +kernel
theorem d_L_law_1139 : decode code 1139 = .ok (.aload_n 1, 1) := by decide +kernel
theorem d_L_law_1140 : decode code 1140 = .ok (.aload_n 0, 1) := by decide +kernel
theorem d_L_law_1141 : decode code 1141 = .ok (.iload 4, 2) := by decide +kernel
theorem d_L_law_1143 : decode code 1143 = .ok (.iconst 1, 1) := by decide +kernel
theorem d_L_law_1144 : decode code 1144 = .ok (.iadd, 1) := by decide +kernel
theorem d_L_law_1145 : decode code 1145 = .ok (.iaload, 1) := by decide +kernel
theorem d_L_law_1146 : decode code 1146 = .ok (.aload_n 3, 1) := by decide +kernel
theorem d_L_law_1147 : decode code 1147 = .ok (.invokestatic 139, 3) := by decide +kernel
theorem d_L_law_1150 : decode code 1150 = .ok (.istore 5, 2) := by decide +kernel
theorem d_L_law_1152 : decode code 1152 = .ok (.aload_n 2, 1) := by decide +kernel
theorem d_L_law_1153 : decode code 1153 = .ok (.aload_n 0, 1) := by decide +kernel
theorem d_L_law_1154 : decode code 1154 = .ok (.iload 4, 2) := by decide +kernel
theorem d_L_law_1156 : decode code 1156 = .ok (.iconst 1, 1) := by decide +kernel
theorem d_L_law_1157 : decode code 1157 = .ok (.iadd, 1) := by decide +kernel
theorem d_L_law_1158 : decode code 1158 = .ok (.iaload, 1) := by decide +kernel
theorem d_L_law_1159 : decode code 1159 = .ok (.invokevirtual 141, 3) := by decide +kernel
theorem d_L_law_1162 : decode code 1162 = .ok (.istore 6, 2) := by decide +kernel
theorem d_L_law_1164 : decode code 1164 = .ok (.aload_n 2, 1) := by decide +kernel
theorem d_L_law_1165 : decode code 1165 = .ok (.invokevirtual 90, 3) := by decide +kernel
theorem d_L_law_1168 : decode code 1168 = .ok (.iload 5, 2) := by decide +kernel
theorem d_L_law_1170 : decode code 1170 = .ok (.if_icmp .eq 5, 3) := by decide +kernel
theorem d_L_law_1173 : decode code 1173 = .ok (.iconst 0, 1) := by decide +kernel
theorem d_L_law_1174 : decode code 1174 = .ok (.ireturn, 1) := by decide +kernel
theorem d_L_law_1175 : decode code 1175 = .ok (.iload 5, 2) := by decide +kernel
theorem d_L_law_1177 : decode code 1177 = .ok (.ifCond .ne 15, 3) := by decide +kernel
theorem d_L_law_1180 : decode code 1180 = .ok (.aload_n 3, 1) := by decide +kernel
theorem d_L_law_1181 : decode code 1181 = .ok (.iconst 0, 1) := by decide +kernel
theorem d_L_law_1182 : decode code 1182 = .ok (.laload, 1) := by decide +kernel
theorem d_L_law_1183 : decode code 1183 = .ok (.iload 6, 2) := by decide +kernel
theorem d_L_law_1185 : decode code 1185 = .ok (.i2l, 1) := by decide +kernel
theorem d_L_law_1186 : decode code 1186 = .ok (.lcmp, 1) := by decide +kernel
theorem d_L_law_1187 : decode code 1187 = .ok (.ifCond .eq 5, 3) := by decide +kernel
theorem d_L_law_1190 : decode code 1190 = .ok (.iconst 0, 1) := by decide +kernel
theorem d_L_law_1191 : decode code 1191 = .ok (.ireturn, 1) := by decide +kernel
theorem d_L_law_1192 : decode code 1192 = .ok (.goto 271, 3) := by decide +kernel
theorem d_L_law_1195 : decode code 1195 = .ok (.aload_n 1, 1) := by decide +kernel
theorem d_L_law_1196 : decode code 1196 = .ok (.aload_n 0, 1) := by decide +kernel
theorem d_L_law_1197 : decode code 1197 = .ok (.iload 4, 2) := by decide +kernel
theorem d_L_law_1199 : decode code 1199 = .ok (.iconst 1, 1) := by decide +kernel
theorem d_L_law_1200 : decode code 1200 = .ok (.iadd, 1) := by decide +kernel
theorem d_L_law_1201 : decode code 1201 = .ok (.iaload, 1) := by decide +kernel
theorem d_L_law_1202 : decode code 1202 = .ok (.aload_n 0, 1) := by decide +kernel
theorem d_L_law_1203 : decode code 1203 = .ok (.iload 4, 2) := by decide +kernel
theorem d_L_law_1205 : decode code 1205 = .ok (.iconst 2, 1) := by decide +kernel
theorem d_L_law_1206 : decode code 1206 = .ok (.iadd, 1) := by decide +kernel
theorem d_L_law_1207 : decode code 1207 = .ok (.iaload, 1) := by decide +kernel
theorem d_L_law_1208 : decode code 1208 = .ok (.aload_n 3, 1) := by decide +kernel
theorem d_L_law_1209 : decode code 1209 = .ok (.invokestatic 142, 3) := by decide +kernel
theorem d_L_law_1212 : decode code 1212 = .ok (.istore 5, 2) := by decide +kernel
theorem d_L_law_1214 : decode code 1214 = .ok (.aload_n 2, 1) := by decide +kernel
theorem d_L_law_1215 : decode code 1215 = .ok (.aload_n 0, 1) := by decide +kernel
theorem d_L_law_1216 : decode code 1216 = .ok (.iload 4, 2) := by decide +kernel
theorem d_L_law_1218 : decode code 1218 = .ok (.iconst 1, 1) := by decide +kernel
theorem d_L_law_1219 : decode code 1219 = .ok (.iadd, 1) := by decide +kernel
theorem d_L_law_1220 : decode code 1220 = .ok (.iaload, 1) := by decide +kernel
theorem d_L_law_1221 : decode code 1221 = .ok (.aload_n 0, 1) := by decide +kernel
theorem d_L_law_1222 : decode code 1222 = .ok (.iload 4, 2) := by decide +kernel
theorem d_L_law_1224 : decode code 1224 = .ok (.iconst 2, 1) := by decide +kernel
theorem d_L_law_1225 : decode code 1225 = .ok (.iadd, 1) := by decide +kernel
theorem d_L_law_1226 : decode code 1226 = .ok (.iaload, 1) := by decide +kernel
theorem d_L_law_1227 : decode code 1227 = .ok (.invokevirtual 144, 3) := by decide +kernel
theorem d_L_law_1230 : decode code 1230 = .ok (.istore 6, 2) := by decide +kernel
theorem d_L_law_1232 : decode code 1232 = .ok (.aload_n 2, 1) := by decide +kernel
theorem d_L_law_1233 : decode code 1233 = .ok (.invokevirtual 90, 3) := by decide +kernel
theorem d_L_law_1236 : decode code 1236 = .ok (.iload 5, 2) := by decide +kernel
theorem d_L_law_1238 : decode code 1238 = .ok (.if_icmp .eq 5, 3) := by decide +kernel
theorem d_L_law_1241 : decode code 1241 = .ok (.iconst 0, 1) := by decide +kernel
theorem d_L_law_1242 : decode code 1242 = .ok (.ireturn, 1) := by decide +kernel
theorem d_L_law_1243 : decode code 1243 = .ok (.iload 5, 2) := by decide +kernel
theorem d_L_law_1245 : decode code 1245 = .ok (.ifCond .ne 15, 3) := by decide +kernel
theorem d_L_law_1248 : decode code 1248 = .ok (.aload_n 3, 1) := by decide +kernel
theorem d_L_law_1249 : decode code 1249 = .ok (.iconst 0, 1) := by decide +kernel
theorem d_L_law_1250 : decode code 1250 = .ok (.laload, 1) := by decide +kernel
theorem d_L_law_1251 : decode code 1251 = .ok (.iload 6, 2) := by decide +kernel
theorem d_L_law_1253 : decode code 1253 = .ok (.i2l, 1) := by decide +kernel
theorem d_L_law_1254 : decode code 1254 = .ok (.lcmp, 1) := by decide +kernel
theorem d_L_law_1255 : decode code 1255 = .ok (.ifCond .eq 5, 3) := by decide +kernel
theorem d_L_law_1258 : decode code 1258 = .ok (.iconst 0, 1) := by decide +kernel
theorem d_L_law_1259 : decode code 1259 = .ok (.ireturn, 1) := by decide +kernel
