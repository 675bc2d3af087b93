/-! the law's instructions -/
theorem dLw_1061 : decode code 1061 = .ok (.iconst 3, 1) := by decide +kernel
theorem dLw_1062 : decode code 1062 = .ok (.iadd, 1) := by decide +kernel
theorem dLw_1063 : decode code 1063 = .ok (.iaload, 1) := by decide +kernel
theorem dLw_1064 : decode code 1064 = .ok (.aload_n 0, 1) := by decide +kernel
theorem dLw_1065 : decode code 1065 = .ok (.iload 4, 2) := by decide +kernel
theorem dLw_1067 : decode code 1067 = .ok (.iconst 4, 1) := by decide +kernel
theorem dLw_1068 : decode code 1068 = .ok (.iadd, 1) := by decide +kernel
theorem dLw_1069 : decode code 1069 = .ok (.iaload, 1) := by decide +kernel
theorem dLw_1070 : decode code 1070 = .ok (.aload_n 0, 1) := by decide +kernel
theorem dLw_1071 : decode code 1071 = .ok (.iload 4, 2) := by decide +kernel
theorem dLw_1073 : decode code 1073 = .ok (.iconst 5, 1) := by decide +kernel
theorem dLw_1074 : decode code 1074 = .ok (.iadd, 1) := by decide +kernel
theorem dLw_1075 : decode code 1075 = .ok (.iaload, 1) := by decide +kernel
theorem dLw_1076 : decode code 1076 = .ok (.invokevirtual 136, 3) := by decide +kernel
theorem dLw_1079 : decode code 1079 = .ok (.aload_n 2, 1) := by decide +kernel
theorem dLw_1080 : decode code 1080 = .ok (.aload_n 0, 1) := by decide +kernel
theorem dLw_1081 : decode code 1081 = .ok (.iload 4, 2) := by decide +kernel
theorem dLw_1083 : decode code 1083 = .ok (.iconst 1, 1) := by decide +kernel
theorem dLw_1084 : decode code 1084 = .ok (.iadd, 1) := by decide +kernel
theorem dLw_1085 : decode code 1085 = .ok (.iaload, 1) := by decide +kernel
theorem dLw_1086 : decode code 1086 = .ok (.aload_n 0, 1) := by decide +kernel
theorem dLw_1087 : decode code 1087 = .ok (.iload 4, 2) := by decide +kernel
theorem dLw_1089 : decode code 1089 = .ok (.iconst 2, 1) := by decide +kernel
theorem dLw_1090 : decode code 1090 = .ok (.iadd, 1) := by decide +kernel
theorem dLw_1091 : decode code 1091 = .ok (.iaload, 1) := by decide +kernel
theorem dLw_1092 : decode code 1092 = .ok (.aload_n 0, 1) := by decide +kernel
theorem dLw_1093 : decode code 1093 = .ok (.iload 4, 2) := by decide +kernel
theorem dLw_1095 : decode code 1095 = .ok (.iconst 3, 1) := by decide +kernel
theorem dLw_1096 : decode code 1096 = .ok (.iadd, 1) := by decide +kernel
theorem dLw_1097 : decode code 1097 = .ok (.iaload, 1) := by decide +kernel
theorem dLw_1098 : decode code 1098 = .ok (.aload_n 0, 1) := by decide +kernel
theorem dLw_1099 : decode code 1099 = .ok (.iload 4, 2) := by decide +kernel
theorem dLw_1101 : decode code 1101 = .ok (.iconst 4, 1) := by decide +kernel
theorem dLw_1102 : decode code 1102 = .ok (.iadd, 1) := by decide +kernel
theorem dLw_1103 : decode code 1103 = .ok (.iaload, 1) := by decide +kernel
theorem dLw_1104 : decode code 1104 = .ok (.aload_n 0, 1) := by decide +kernel
theorem dLw_1105 : decode code 1105 = .ok (.iload 4, 2) := by decide +kernel
theorem dLw_1107 : decode code 1107 = .ok (.iconst 5, 1) := by decide +kernel
theorem dLw_1108 : decode code 1108 = .ok (.iadd, 1) := by decide +kernel
theorem dLw_1109 : decode code 1109 = .ok (.iaload, 1) := by decide +kernel
theorem dLw_1110 : decode code 1110 = .ok (.invokevirtual 139, 3) := by decide +kernel
theorem dLw_1113 : decode code 1113 = .ok (.if_icmp .eq 229, 3) := by decide +kernel
theorem dLw_1116 : decode code 1116 = .ok (.iconst 0, 1) := by decide +kernel
theorem dLw_1117 : decode code 1117 = .ok (.ireturn, 1) := by decide +kernel
theorem dLw_1118 : decode code 1118 = .ok (.aload_n 1, 1) := by decide +kernel
theorem dLw_1119 : decode code 1119 = .ok (.aload_n 0, 1) := by decide +kernel
theorem dLw_1120 : decode code 1120 = .ok (.iload 4, 2) := by decide +kernel
theorem dLw_1122 : decode code 1122 = .ok (.iconst 1, 1) := by decide +kernel
theorem dLw_1123 : decode code 1123 = .ok (.iadd, 1) := by decide +kernel
theorem dLw_1124 : decode code 1124 = .ok (.iaload, 1) := by decide +kernel
theorem dLw_1125 : decode code 1125 = .ok (.aload_n 0, 1) := by decide +kernel
theorem dLw_1126 : decode code 1126 = .ok (.iload 4, 2) := by decide +kernel
theorem dLw_1128 : decode code 1128 = .ok (.iconst 2, 1) := by decide +kernel
theorem dLw_1129 : decode code 1129 = .ok (.iadd, 1) := by decide +kernel
theorem dLw_1130 : decode code 1130 = .ok (.iaload, 1) := by decide +kernel
theorem dLw_1131 : decode code 1131 = .ok (.aload_n 0, 1) := by decide +kernel
theorem dLw_1132 : decode code 1132 = .ok (.iload 4, 2) := by decide +kernel
theorem dLw_1134 : decode code 1134 = .ok (.iconst 3, 1) := by decide +kernel
theorem dLw_1135 : decode code 1135 = .ok (.iadd, 1) := by decide +kernel
theorem dLw_1136 : decode code 1136 = .ok (.iaload, 1) := by decide +kernel
theorem dLw_1137 : decode code 1137 = .ok (.invokevirtual 140, 3) := by decide +kernel
theorem dLw_1140 : decode code 1140 = .ok (.aload_n 2, 1) := by decide +kernel
theorem dLw_1141 : decode code 1141 = .ok (.aload_n 0, 1) := by decide +kernel
theorem dLw_1142 : decode code 1142 = .ok (.iload 4, 2) := by decide +kernel
theorem dLw_1144 : decode code 1144 = .ok (.iconst 1, 1) := by decide +kernel
theorem dLw_1145 : decode code 1145 = .ok (.iadd, 1) := by decide +kernel
theorem dLw_1146 : decode code 1146 = .ok (.iaload, 1) := by decide +kernel
theorem dLw_1147 : decode code 1147 = .ok (.aload_n 0, 1) := by decide +kernel
theorem dLw_1148 : decode code 1148 = .ok (.iload 4, 2) := by decide +kernel
theorem dLw_1150 : decode code 1150 = .ok (.iconst 2, 1) := by decide +kernel
theorem dLw_1151 : decode code 1151 = .ok (.iadd, 1) := by decide +kernel
theorem dLw_1152 : decode code 1152 = .ok (.iaload, 1) := by decide +kernel
theorem dLw_1153 : decode code 1153 = .ok (.aload_n 0, 1) := by decide +kernel
theorem dLw_1154 : decode code 1154 = .ok (.iload 4, 2) := by decide +kernel
theorem dLw_1156 : decode code 1156 = .ok (.iconst 3, 1) := by decide +kernel
theorem dLw_1157 : decode code 1157 = .ok (.iadd, 1) := by decide +kernel
theorem dLw_1158 : decode code 1158 = .ok (.iaload, 1) := by decide +kernel
theorem dLw_1159 : decode code 1159 = .ok (.invokevirtual 144, 3) := by decide +kernel
theorem dLw_1162 : decode code 1162 = .ok (.if_icmp .eq 180, 3) := by decide +kernel
theorem dLw_1165 : decode code 1165 = .ok (.iconst 0, 1) := by decide +kernel
theorem dLw_1166 : decode code 1166 = .ok (.ireturn, 1) := by decide +kernel
theorem dLw_1167 : decode code 1167 = .ok (.aload_n 1, 1) := by decide +kernel
theorem dLw_1168 : decode code 1168 = .ok (.aload_n 0, 1) := by decide +kernel
theorem dLw_1169 : decode code 1169 = .ok (.iload 4, 2) := by decide +kernel
theorem dLw_1171 : decode code 1171 = .ok (.iconst 1, 1) := by decide +kernel
theorem dLw_1172 : decode code 1172 = .ok (.iadd, 1) := by decide +kernel
theorem dLw_1173 : decode code 1173 = .ok (.iaload, 1) := by decide +kernel
theorem dLw_1174 : decode code 1174 = .ok (.aload_n 0, 1) := by decide +kernel
theorem dLw_1175 : decode code 1175 = .ok (.iload 4, 2) := by decide +kernel
theorem dLw_1177 : decode code 1177 = .ok (.iconst 2, 1) := by decide +kernel
theorem dLw_1178 : decode code 1178 = .ok (.iadd, 1) := by decide +kernel
theorem dLw_1179 : decode code 1179 = .ok (.iaload, 1) := by decide +kernel
theorem dLw_1180 : decode code 1180 = .ok (.invokevirtual 145, 3) := by decide +kernel
theorem dLw_1183 : decode code 1183 = .ok (.aload_n 2, 1) := by decide +kernel
theorem dLw_1184 : decode code 1184 = .ok (.aload_n 0, 1) := by decide +kernel
theorem dLw_1185 : decode code 1185 = .ok (.iload 4, 2) := by decide +kernel
theorem dLw_1187 : decode code 1187 = .ok (.iconst 1, 1) := by decide +kernel
theorem dLw_1188 : decode code 1188 = .ok (.iadd, 1) := by decide +kernel
theorem dLw_1189 : decode code 1189 = .ok (.iaload, 1) := by decide +kernel
theorem dLw_1190 : decode code 1190 = .ok (.aload_n 0, 1) := by decide +kernel
theorem dLw_1191 : decode code 1191 = .ok (.iload 4, 2) := by decide +kernel
theorem dLw_1193 : decode code 1193 = .ok (.iconst 2, 1) := by decide +kernel
theorem dLw_1194 : decode code 1194 = .ok (.iadd, 1) := by decide +kernel
theorem dLw_1195 : decode code 1195 = .ok (.iaload, 1) := by decide +kernel
theorem dLw_1196 : decode code 1196 = .ok (.invokevirtual 148, 3) := by decide +kernel
theorem dLw_1199 : decode code 1199 = .ok (.if_icmp .eq 143, 3) := by decide +kernel
theorem dLw_1202 : decode code 1202 = .ok (.iconst 0, 1) := by decide +kernel
theorem dLw_1203 : decode code 1203 = .ok (.ireturn, 1) := by decide +kernel
theorem dLw_1204 : decode code 1204 = .ok (.aload_n 1, 1) := by decide +kernel
theorem dLw_1205 : decode code 1205 = .ok (.aload_n 0, 1) := by decide +kernel
theorem dLw_1206 : decode code 1206 = .ok (.iload 4, 2) := by decide +kernel
theorem dLw_1208 : decode code 1208 = .ok (.iconst 1, 1) := by decide +kernel
theorem dLw_1209 : decode code 1209 = .ok (.iadd, 1) := by decide +kernel
theorem dLw_1210 : decode code 1210 = .ok (.iaload, 1) := by decide +kernel
theorem dLw_1211 : decode code 1211 = .ok (.invokevirtual 149, 3) := by decide +kernel
theorem dLw_1214 : decode code 1214 = .ok (.aload_n 2, 1) := by decide +kernel
theorem dLw_1215 : decode code 1215 = .ok (.aload_n 0, 1) := by decide +kernel
theorem dLw_1216 : decode code 1216 = .ok (.iload 4, 2) := by decide +kernel
theorem dLw_1218 : decode code 1218 = .ok (.iconst 1, 1) := by decide +kernel
theorem dLw_1219 : decode code 1219 = .ok (.iadd, 1) := by decide +kernel
theorem dLw_1220 : decode code 1220 = .ok (.iaload, 1) := by decide +kernel
theorem dLw_1221 : decode code 1221 = .ok (.invokevirtual 152, 3) := by decide +kernel
theorem dLw_1224 : decode code 1224 = .ok (.if_icmp .eq 118, 3) := by decide +kernel
theorem dLw_1227 : decode code 1227 = .ok (.iconst 0, 1) := by decide +kernel
theorem dLw_1228 : decode code 1228 = .ok (.ireturn, 1) := by decide +kernel
theorem dLw_1229 : decode code 1229 = .ok (.aload_n 1, 1) := by decide +kernel
theorem dLw_1230 : decode code 1230 = .ok (.aload_n 0, 1) := by decide +kernel
theorem dLw_1231 : decode code 1231 = .ok (.iload 4, 2) := by decide +kernel
theorem dLw_1233 : decode code 1233 = .ok (.iconst 1, 1) := by decide +kernel
theorem dLw_1234 : decode code 1234 = .ok (.iadd, 1) := by decide +kernel
theorem dLw_1235 : decode code 1235 = .ok (.iaload, 1) := by decide +kernel
theorem dLw_1236 : decode code 1236 = .ok (.aload_n 0, 1) := by decide +kernel
theorem dLw_1237 : decode code 1237 = .ok (.iload 4, 2) := by decide +kernel
theorem dLw_1239 : decode code 1239 = .ok (.iconst 2, 1) := by decide +kernel
theorem dLw_1240 : decode code 1240 = .ok (.iadd, 1) := by decide +kernel
theorem dLw_1241 : decode code 1241 = .ok (.iaload, 1) := by decide +kernel
theorem dLw_1242 : decode code 1242 = .ok (.invokevirtual 153, 3) := by decide +kernel
theorem dLw_1245 : decode code 1245 = .ok (.aload_n 2, 1) := by decide +kernel
theorem dLw_1246 : decode code 1246 = .ok (.aload_n 0, 1) := by decide +kernel
theorem dLw_1247 : decode code 1247 = .ok (.iload 4, 2) := by decide +kernel
theorem dLw_1249 : decode code 1249 = .ok (.iconst 1, 1) := by decide +kernel
theorem dLw_1250 : decode code 1250 = .ok (.iadd, 1) := by decide +kernel
theorem dLw_1251 : decode code 1251 = .ok (.iaload, 1) := by decide +kernel
theorem dLw_1252 : decode code 1252 = .ok (.aload_n 0, 1) := by decide +kernel
theorem dLw_1253 : decode code 1253 = .ok (.iload 4, 2) := by decide +kernel
theorem dLw_1255 : decode code 1255 = .ok (.iconst 2, 1) := by decide +kernel
theorem dLw_1256 : decode code 1256 = .ok (.iadd, 1) := by decide +kernel
theorem dLw_1257 : decode code 1257 = .ok (.iaload, 1) := by decide +kernel
theorem dLw_1258 : decode code 1258 = .ok (.invokevirtual 156, 3) := by decide +kernel
theorem dLw_1261 : decode code 1261 = .ok (.if_icmp .eq 81, 3) := by decide +kernel
theorem dLw_1264 : decode code 1264 = .ok (.iconst 0, 1) := by decide +kernel
theorem dLw_1265 : decode code 1265 = .ok (.ireturn, 1) := by decide +kernel
theorem dLw_1266 : decode code 1266 = .ok (.aload_n 1, 1) := by decide +kernel
theorem dLw_1267 : decode code 1267 = .ok (.aload_n 0, 1) := by decide +kernel
theorem dLw_1268 : decode code 1268 = .ok (.iload 4, 2) := by decide +kernel
theorem dLw_1270 : decode code 1270 = .ok (.iconst 1, 1) := by decide +kernel
theorem dLw_1271 : decode code 1271 = .ok (.iadd, 1) := by decide +kernel
theorem dLw_1272 : decode code 1272 = .ok (.iaload, 1) := by decide +kernel
theorem dLw_1273 : decode code 1273 = .ok (.invokevirtual 157, 3) := by decide +kernel
theorem dLw_1276 : decode code 1276 = .ok (.aload_n 2, 1) := by decide +kernel
theorem dLw_1277 : decode code 1277 = .ok (.aload_n 0, 1) := by decide +kernel
theorem dLw_1278 : decode code 1278 = .ok (.iload 4, 2) := by decide +kernel
theorem dLw_1280 : decode code 1280 = .ok (.iconst 1, 1) := by decide +kernel
theorem dLw_1281 : decode code 1281 = .ok (.iadd, 1) := by decide +kernel
theorem dLw_1282 : decode code 1282 = .ok (.iaload, 1) := by decide +kernel
theorem dLw_1283 : decode code 1283 = .ok (.invokevirtual 160, 3) := by decide +kernel
theorem dLw_1286 : decode code 1286 = .ok (.if_icmp .eq 56, 3) := by decide +kernel
theorem dLw_1289 : decode code 1289 = .ok (.iconst 0, 1) := by decide +kernel
theorem dLw_1290 : decode code 1290 = .ok (.ireturn, 1) := by decide +kernel
theorem dLw_1291 : decode code 1291 = .ok (.aload_n 1, 1) := by decide +kernel
theorem dLw_1292 : decode code 1292 = .ok (.invokevirtual 161, 3) := by decide +kernel
theorem dLw_1295 : decode code 1295 = .ok (.aload_n 2, 1) := by decide +kernel
theorem dLw_1296 : decode code 1296 = .ok (.invokevirtual 164, 3) := by decide +kernel
theorem dLw_1299 : decode code 1299 = .ok (.if_icmp .eq 43, 3) := by decide +kernel
theorem dLw_1302 : decode code 1302 = .ok (.iconst 0, 1) := by decide +kernel
theorem dLw_1303 : decode code 1303 = .ok (.ireturn, 1) := by decide +kernel
theorem dLw_1304 : decode code 1304 = .ok (.aload_n 1, 1) := by decide +kernel
theorem dLw_1305 : decode code 1305 = .ok (.invokevirtual 165, 3) := by decide +kernel
theorem dLw_1308 : decode code 1308 = .ok (.aload_n 2, 1) := by decide +kernel
theorem dLw_1309 : decode code 1309 = .ok (.invokevirtual 168, 3) := by decide +kernel
theorem dLw_1312 : decode code 1312 = .ok (.if_icmp .eq 30, 3) := by decide +kernel
theorem dLw_1315 : decode code 1315 = .ok (.iconst 0, 1) := by decide +kernel
theorem dLw_1316 : decode code 1316 = .ok (.ireturn, 1) := by decide +kernel
theorem dLw_1317 : decode code 1317 = .ok (.aload_n 1, 1) := by decide +kernel
theorem dLw_1318 : decode code 1318 = .ok (.aload_n 0, 1) := by decide +kernel
theorem dLw_1319 : decode code 1319 = .ok (.iload 4, 2) := by decide +kernel
theorem dLw_1321 : decode code 1321 = .ok (.iconst 1, 1) := by decide +kernel
theorem dLw_1322 : decode code 1322 = .ok (.iadd, 1) := by decide +kernel
theorem dLw_1323 : decode code 1323 = .ok (.iaload, 1) := by decide +kernel
theorem dLw_1324 : decode code 1324 = .ok (.invokevirtual 169, 3) := by decide +kernel
theorem dLw_1327 : decode code 1327 = .ok (.aload_n 2, 1) := by decide +kernel
theorem dLw_1328 : decode code 1328 = .ok (.aload_n 0, 1) := by decide +kernel
theorem dLw_1329 : decode code 1329 = .ok (.iload 4, 2) := by decide +kernel
theorem dLw_1331 : decode code 1331 = .ok (.iconst 1, 1) := by decide +kernel
theorem dLw_1332 : decode code 1332 = .ok (.iadd, 1) := by decide +kernel
theorem dLw_1333 : decode code 1333 = .ok (.iaload, 1) := by decide +kernel
theorem dLw_1334 : decode code 1334 = .ok (.invokevirtual 172, 3) := by decide +kernel
theorem dLw_1337 : decode code 1337 = .ok (.if_icmp .eq 5, 3) := by decide +kernel
theorem dLw_1340 : decode code 1340 = .ok (.iconst 0, 1) := by decide +kernel
theorem dLw_1341 : decode code 1341 = .ok (.ireturn, 1) := by decide +kernel
theorem dLw_1342 : decode code 1342 = .ok (.iinc 4 6, 3) := by decide +kernel
theorem dLw_1345 : decode code 1345 = .ok (.goto (-1322), 3) := by decide +kernel
theorem dLw_1348 : decode code 1348 = .ok (.iconst 1, 1) := by decide +kernel
theorem dLw_1349 : decode code 1349 = .ok (.ireturn, 1) := by decide +kernel
