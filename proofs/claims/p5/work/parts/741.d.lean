set_option maxRecDepth 20000 in
theorem dqL_law_1138 : (([(1138, .istore 6, 2), (1140, .goto 674, 3), (1143, .aload_n 1, 1), (1144, .aload_n 0, 1), (1145, .iload 4, 2), (1147, .iconst 1, 1), (1148, .iadd, 1), (1149, .iaload, 1), (1150, .aload_n 0, 1), (1151, .iload 4, 2), (1153, .iconst 2, 1), (1154, .iadd, 1), (1155, .iaload, 1), (1156, .aload_n 3, 1), (1157, .invokestatic 276, 3), (1160, .istore 5, 2), (1162, .aload_n 2, 1), (1163, .aload_n 0, 1), (1164, .iload 4, 2), (1166, .iconst 1, 1), (1167, .iadd, 1), (1168, .iaload, 1), (1169, .aload_n 0, 1), (1170, .iload 4, 2), (1172, .iconst 2, 1), (1173, .iadd, 1), (1174, .iaload, 1), (1175, .invokevirtual 278, 3), (1178, .istore 6, 2), (1180, .goto 634, 3), (1183, .aload_n 1, 1), (1184, .aload_n 0, 1), (1185, .iload 4, 2), (1187, .iconst 1, 1), (1188, .iadd, 1), (1189, .iaload, 1), (1190, .aload_n 0, 1), (1191, .iload 4, 2), (1193, .iconst 2, 1), (1194, .iadd, 1), (1195, .iaload, 1), (1196, .aload_n 3, 1), (1197, .invokestatic 279, 3), (1200, .istore 5, 2), (1202, .aload_n 2, 1), (1203, .aload_n 0, 1), (1204, .iload 4, 2), (1206, .iconst 1, 1), (1207, .iadd, 1), (1208, .iaload, 1)] : List (Nat × Instr × Nat)).all fun x => decide (decode cL_law x.1 = .ok (x.2.1, x.2.2))) = true := by decide +kernel
theorem dL_law_1138 : decode cL_law 1138 = .ok (.istore 6, 2) := dq_at dqL_law_1138 0 rfl
theorem dL_law_1140 : decode cL_law 1140 = .ok (.goto 674, 3) := dq_at dqL_law_1138 1 rfl
theorem dL_law_1143 : decode cL_law 1143 = .ok (.aload_n 1, 1) := dq_at dqL_law_1138 2 rfl
theorem dL_law_1144 : decode cL_law 1144 = .ok (.aload_n 0, 1) := dq_at dqL_law_1138 3 rfl
theorem dL_law_1145 : decode cL_law 1145 = .ok (.iload 4, 2) := dq_at dqL_law_1138 4 rfl
theorem dL_law_1147 : decode cL_law 1147 = .ok (.iconst 1, 1) := dq_at dqL_law_1138 5 rfl
theorem dL_law_1148 : decode cL_law 1148 = .ok (.iadd, 1) := dq_at dqL_law_1138 6 rfl
theorem dL_law_1149 : decode cL_law 1149 = .ok (.iaload, 1) := dq_at dqL_law_1138 7 rfl
theorem dL_law_1150 : decode cL_law 1150 = .ok (.aload_n 0, 1) := dq_at dqL_law_1138 8 rfl
theorem dL_law_1151 : decode cL_law 1151 = .ok (.iload 4, 2) := dq_at dqL_law_1138 9 rfl
theorem dL_law_1153 : decode cL_law 1153 = .ok (.iconst 2, 1) := dq_at dqL_law_1138 10 rfl
theorem dL_law_1154 : decode cL_law 1154 = .ok (.iadd, 1) := dq_at dqL_law_1138 11 rfl
theorem dL_law_1155 : decode cL_law 1155 = .ok (.iaload, 1) := dq_at dqL_law_1138 12 rfl
theorem dL_law_1156 : decode cL_law 1156 = .ok (.aload_n 3, 1) := dq_at dqL_law_1138 13 rfl
theorem dL_law_1157 : decode cL_law 1157 = .ok (.invokestatic 276, 3) := dq_at dqL_law_1138 14 rfl
theorem dL_law_1160 : decode cL_law 1160 = .ok (.istore 5, 2) := dq_at dqL_law_1138 15 rfl
theorem dL_law_1162 : decode cL_law 1162 = .ok (.aload_n 2, 1) := dq_at dqL_law_1138 16 rfl
theorem dL_law_1163 : decode cL_law 1163 = .ok (.aload_n 0, 1) := dq_at dqL_law_1138 17 rfl
theorem dL_law_1164 : decode cL_law 1164 = .ok (.iload 4, 2) := dq_at dqL_law_1138 18 rfl
theorem dL_law_1166 : decode cL_law 1166 = .ok (.iconst 1, 1) := dq_at dqL_law_1138 19 rfl
theorem dL_law_1167 : decode cL_law 1167 = .ok (.iadd, 1) := dq_at dqL_law_1138 20 rfl
theorem dL_law_1168 : decode cL_law 1168 = .ok (.iaload, 1) := dq_at dqL_law_1138 21 rfl
theorem dL_law_1169 : decode cL_law 1169 = .ok (.aload_n 0, 1) := dq_at dqL_law_1138 22 rfl
theorem dL_law_1170 : decode cL_law 1170 = .ok (.iload 4, 2) := dq_at dqL_law_1138 23 rfl
theorem dL_law_1172 : decode cL_law 1172 = .ok (.iconst 2, 1) := dq_at dqL_law_1138 24 rfl
theorem dL_law_1173 : decode cL_law 1173 = .ok (.iadd, 1) := dq_at dqL_law_1138 25 rfl
theorem dL_law_1174 : decode cL_law 1174 = .ok (.iaload, 1) := dq_at dqL_law_1138 26 rfl
theorem dL_law_1175 : decode cL_law 1175 = .ok (.invokevirtual 278, 3) := dq_at dqL_law_1138 27 rfl
theorem dL_law_1178 : decode cL_law 1178 = .ok (.istore 6, 2) := dq_at dqL_law_1138 28 rfl
theorem dL_law_1180 : decode cL_law 1180 = .ok (.goto 634, 3) := dq_at dqL_law_1138 29 rfl
theorem dL_law_1183 : decode cL_law 1183 = .ok (.aload_n 1, 1) := dq_at dqL_law_1138 30 rfl
theorem dL_law_1184 : decode cL_law 1184 = .ok (.aload_n 0, 1) := dq_at dqL_law_1138 31 rfl
theorem dL_law_1185 : decode cL_law 1185 = .ok (.iload 4, 2) := dq_at dqL_law_1138 32 rfl
theorem dL_law_1187 : decode cL_law 1187 = .ok (.iconst 1, 1) := dq_at dqL_law_1138 33 rfl
theorem dL_law_1188 : decode cL_law 1188 = .ok (.iadd, 1) := dq_at dqL_law_1138 34 rfl
theorem dL_law_1189 : decode cL_law 1189 = .ok (.iaload, 1) := dq_at dqL_law_1138 35 rfl
theorem dL_law_1190 : decode cL_law 1190 = .ok (.aload_n 0, 1) := dq_at dqL_law_1138 36 rfl
theorem dL_law_1191 : decode cL_law 1191 = .ok (.iload 4, 2) := dq_at dqL_law_1138 37 rfl
theorem dL_law_1193 : decode cL_law 1193 = .ok (.iconst 2, 1) := dq_at dqL_law_1138 38 rfl
theorem dL_law_1194 : decode cL_law 1194 = .ok (.iadd, 1) := dq_at dqL_law_1138 39 rfl
theorem dL_law_1195 : decode cL_law 1195 = .ok (.iaload, 1) := dq_at dqL_law_1138 40 rfl
theorem dL_law_1196 : decode cL_law 1196 = .ok (.aload_n 3, 1) := dq_at dqL_law_1138 41 rfl
theorem dL_law_1197 : decode cL_law 1197 = .ok (.invokestatic 279, 3) := dq_at dqL_law_1138 42 rfl
theorem dL_law_1200 : decode cL_law 1200 = .ok (.istore 5, 2) := dq_at dqL_law_1138 43 rfl
theorem dL_law_1202 : decode cL_law 1202 = .ok (.aload_n 2, 1) := dq_at dqL_law_1138 44 rfl
theorem dL_law_1203 : decode cL_law 1203 = .ok (.aload_n 0, 1) := dq_at dqL_law_1138 45 rfl
theorem dL_law_1204 : decode cL_law 1204 = .ok (.iload 4, 2) := dq_at dqL_law_1138 46 rfl
theorem dL_law_1206 : decode cL_law 1206 = .ok (.iconst 1, 1) := dq_at dqL_law_1138 47 rfl
theorem dL_law_1207 : decode cL_law 1207 = .ok (.iadd, 1) := dq_at dqL_law_1138 48 rfl
theorem dL_law_1208 : decode cL_law 1208 = .ok (.iaload, 1) := dq_at dqL_law_1138 49 rfl
set_option maxRecDepth 20000 in
theorem dqL_law_1209 : (([(1209, .aload_n 0, 1), (1210, .iload 4, 2), (1212, .iconst 2, 1), (1213, .iadd, 1), (1214, .iaload, 1), (1215, .invokevirtual 281, 3), (1218, .istore 6, 2), (1220, .goto 594, 3), (1223, .aload_n 1, 1), (1224, .aload_n 0, 1), (1225, .iload 4, 2), (1227, .iconst 1, 1), (1228, .iadd, 1), (1229, .iaload, 1), (1230, .aload_n 3, 1), (1231, .invokestatic 282, 3), (1234, .istore 5, 2), (1236, .aload_n 2, 1), (1237, .aload_n 0, 1), (1238, .iload 4, 2), (1240, .iconst 1, 1), (1241, .iadd, 1), (1242, .iaload, 1), (1243, .invokevirtual 284, 3), (1246, .istore 6, 2), (1248, .goto 566, 3), (1251, .aload_n 1, 1), (1252, .aload_n 0, 1), (1253, .iload 4, 2), (1255, .iconst 1, 1), (1256, .iadd, 1), (1257, .iaload, 1), (1258, .aload_n 3, 1), (1259, .invokestatic 285, 3), (1262, .istore 5, 2), (1264, .aload_n 2, 1), (1265, .aload_n 0, 1), (1266, .iload 4, 2), (1268, .iconst 1, 1), (1269, .iadd, 1), (1270, .iaload, 1), (1271, .invokevirtual 287, 3), (1274, .istore 6, 2), (1276, .goto 538, 3), (1279, .aload_n 1, 1), (1280, .aload_n 0, 1), (1281, .iload 4, 2), (1283, .iconst 1, 1), (1284, .iadd, 1), (1285, .iaload, 1)] : List (Nat × Instr × Nat)).all fun x => decide (decode cL_law x.1 = .ok (x.2.1, x.2.2))) = true := by decide +kernel
theorem dL_law_1209 : decode cL_law 1209 = .ok (.aload_n 0, 1) := dq_at dqL_law_1209 0 rfl
theorem dL_law_1210 : decode cL_law 1210 = .ok (.iload 4, 2) := dq_at dqL_law_1209 1 rfl
theorem dL_law_1212 : decode cL_law 1212 = .ok (.iconst 2, 1) := dq_at dqL_law_1209 2 rfl
theorem dL_law_1213 : decode cL_law 1213 = .ok (.iadd, 1) := dq_at dqL_law_1209 3 rfl
theorem dL_law_1214 : decode cL_law 1214 = .ok (.iaload, 1) := dq_at dqL_law_1209 4 rfl
theorem dL_law_1215 : decode cL_law 1215 = .ok (.invokevirtual 281, 3) := dq_at dqL_law_1209 5 rfl
theorem dL_law_1218 : decode cL_law 1218 = .ok (.istore 6, 2) := dq_at dqL_law_1209 6 rfl
theorem dL_law_1220 : decode cL_law 1220 = .ok (.goto 594, 3) := dq_at dqL_law_1209 7 rfl
theorem dL_law_1223 : decode cL_law 1223 = .ok (.aload_n 1, 1) := dq_at dqL_law_1209 8 rfl
theorem dL_law_1224 : decode cL_law 1224 = .ok (.aload_n 0, 1) := dq_at dqL_law_1209 9 rfl
theorem dL_law_1225 : decode cL_law 1225 = .ok (.iload 4, 2) := dq_at dqL_law_1209 10 rfl
theorem dL_law_1227 : decode cL_law 1227 = .ok (.iconst 1, 1) := dq_at dqL_law_1209 11 rfl
theorem dL_law_1228 : decode cL_law 1228 = .ok (.iadd, 1) := dq_at dqL_law_1209 12 rfl
theorem dL_law_1229 : decode cL_law 1229 = .ok (.iaload, 1) := dq_at dqL_law_1209 13 rfl
theorem dL_law_1230 : decode cL_law 1230 = .ok (.aload_n 3, 1) := dq_at dqL_law_1209 14 rfl
theorem dL_law_1231 : decode cL_law 1231 = .ok (.invokestatic 282, 3) := dq_at dqL_law_1209 15 rfl
theorem dL_law_1234 : decode cL_law 1234 = .ok (.istore 5, 2) := dq_at dqL_law_1209 16 rfl
theorem dL_law_1236 : decode cL_law 1236 = .ok (.aload_n 2, 1) := dq_at dqL_law_1209 17 rfl
theorem dL_law_1237 : decode cL_law 1237 = .ok (.aload_n 0, 1) := dq_at dqL_law_1209 18 rfl
theorem dL_law_1238 : decode cL_law 1238 = .ok (.iload 4, 2) := dq_at dqL_law_1209 19 rfl
theorem dL_law_1240 : decode cL_law 1240 = .ok (.iconst 1, 1) := dq_at dqL_law_1209 20 rfl
theorem dL_law_1241 : decode cL_law 1241 = .ok (.iadd, 1) := dq_at dqL_law_1209 21 rfl
theorem dL_law_1242 : decode cL_law 1242 = .ok (.iaload, 1) := dq_at dqL_law_1209 22 rfl
theorem dL_law_1243 : decode cL_law 1243 = .ok (.invokevirtual 284, 3) := dq_at dqL_law_1209 23 rfl
theorem dL_law_1246 : decode cL_law 1246 = .ok (.istore 6, 2) := dq_at dqL_law_1209 24 rfl
theorem dL_law_1248 : decode cL_law 1248 = .ok (.goto 566, 3) := dq_at dqL_law_1209 25 rfl
theorem dL_law_1251 : decode cL_law 1251 = .ok (.aload_n 1, 1) := dq_at dqL_law_1209 26 rfl
theorem dL_law_1252 : decode cL_law 1252 = .ok (.aload_n 0, 1) := dq_at dqL_law_1209 27 rfl
theorem dL_law_1253 : decode cL_law 1253 = .ok (.iload 4, 2) := dq_at dqL_law_1209 28 rfl
theorem dL_law_1255 : decode cL_law 1255 = .ok (.iconst 1, 1) := dq_at dqL_law_1209 29 rfl
theorem dL_law_1256 : decode cL_law 1256 = .ok (.iadd, 1) := dq_at dqL_law_1209 30 rfl
theorem dL_law_1257 : decode cL_law 1257 = .ok (.iaload, 1) := dq_at dqL_law_1209 31 rfl
theorem dL_law_1258 : decode cL_law 1258 = .ok (.aload_n 3, 1) := dq_at dqL_law_1209 32 rfl
theorem dL_law_1259 : decode cL_law 1259 = .ok (.invokestatic 285, 3) := dq_at dqL_law_1209 33 rfl
theorem dL_law_1262 : decode cL_law 1262 = .ok (.istore 5, 2) := dq_at dqL_law_1209 34 rfl
theorem dL_law_1264 : decode cL_law 1264 = .ok (.aload_n 2, 1) := dq_at dqL_law_1209 35 rfl
theorem dL_law_1265 : decode cL_law 1265 = .ok (.aload_n 0, 1) := dq_at dqL_law_1209 36 rfl
theorem dL_law_1266 : decode cL_law 1266 = .ok (.iload 4, 2) := dq_at dqL_law_1209 37 rfl
theorem dL_law_1268 : decode cL_law 1268 = .ok (.iconst 1, 1) := dq_at dqL_law_1209 38 rfl
theorem dL_law_1269 : decode cL_law 1269 = .ok (.iadd, 1) := dq_at dqL_law_1209 39 rfl
theorem dL_law_1270 : decode cL_law 1270 = .ok (.iaload, 1) := dq_at dqL_law_1209 40 rfl
theorem dL_law_1271 : decode cL_law 1271 = .ok (.invokevirtual 287, 3) := dq_at dqL_law_1209 41 rfl
theorem dL_law_1274 : decode cL_law 1274 = .ok (.istore 6, 2) := dq_at dqL_law_1209 42 rfl
theorem dL_law_1276 : decode cL_law 1276 = .ok (.goto 538, 3) := dq_at dqL_law_1209 43 rfl
theorem dL_law_1279 : decode cL_law 1279 = .ok (.aload_n 1, 1) := dq_at dqL_law_1209 44 rfl
theorem dL_law_1280 : decode cL_law 1280 = .ok (.aload_n 0, 1) := dq_at dqL_law_1209 45 rfl
theorem dL_law_1281 : decode cL_law 1281 = .ok (.iload 4, 2) := dq_at dqL_law_1209 46 rfl
theorem dL_law_1283 : decode cL_law 1283 = .ok (.iconst 1, 1) := dq_at dqL_law_1209 47 rfl
theorem dL_law_1284 : decode cL_law 1284 = .ok (.iadd, 1) := dq_at dqL_law_1209 48 rfl
theorem dL_law_1285 : decode cL_law 1285 = .ok (.iaload, 1) := dq_at dqL_law_1209 49 rfl
set_option maxRecDepth 20000 in
theorem dqL_law_1286 : (([(1286, .aload_n 3, 1), (1287, .invokestatic 288, 3), (1290, .istore 5, 2), (1292, .aload_n 2, 1), (1293, .aload_n 0, 1), (1294, .iload 4, 2), (1296, .iconst 1, 1), (1297, .iadd, 1), (1298, .iaload, 1), (1299, .invokevirtual 290, 3), (1302, .istore 6, 2), (1304, .goto 510, 3), (1307, .aload_n 1, 1), (1308, .aload_n 0, 1), (1309, .iload 4, 2), (1311, .iconst 1, 1), (1312, .iadd, 1), (1313, .iaload, 1), (1314, .aload_n 3, 1), (1315, .invokestatic 291, 3), (1318, .istore 5, 2), (1320, .aload_n 2, 1), (1321, .aload_n 0, 1), (1322, .iload 4, 2), (1324, .iconst 1, 1), (1325, .iadd, 1), (1326, .iaload, 1), (1327, .invokevirtual 293, 3), (1330, .istore 6, 2), (1332, .goto 482, 3), (1335, .aload_n 1, 1), (1336, .aload_n 0, 1), (1337, .iload 4, 2), (1339, .iconst 1, 1), (1340, .iadd, 1), (1341, .iaload, 1), (1342, .aload_n 0, 1), (1343, .iload 4, 2), (1345, .iconst 2, 1), (1346, .iadd, 1), (1347, .iaload, 1), (1348, .aload_n 3, 1), (1349, .invokestatic 294, 3), (1352, .istore 5, 2), (1354, .aload_n 2, 1), (1355, .aload_n 0, 1), (1356, .iload 4, 2), (1358, .iconst 1, 1), (1359, .iadd, 1), (1360, .iaload, 1)] : List (Nat × Instr × Nat)).all fun x => decide (decode cL_law x.1 = .ok (x.2.1, x.2.2))) = true := by decide +kernel
theorem dL_law_1286 : decode cL_law 1286 = .ok (.aload_n 3, 1) := dq_at dqL_law_1286 0 rfl
theorem dL_law_1287 : decode cL_law 1287 = .ok (.invokestatic 288, 3) := dq_at dqL_law_1286 1 rfl
theorem dL_law_1290 : decode cL_law 1290 = .ok (.istore 5, 2) := dq_at dqL_law_1286 2 rfl
theorem dL_law_1292 : decode cL_law 1292 = .ok (.aload_n 2, 1) := dq_at dqL_law_1286 3 rfl
theorem dL_law_1293 : decode cL_law 1293 = .ok (.aload_n 0, 1) := dq_at dqL_law_1286 4 rfl
theorem dL_law_1294 : decode cL_law 1294 = .ok (.iload 4, 2) := dq_at dqL_law_1286 5 rfl
theorem dL_law_1296 : decode cL_law 1296 = .ok (.iconst 1, 1) := dq_at dqL_law_1286 6 rfl
theorem dL_law_1297 : decode cL_law 1297 = .ok (.iadd, 1) := dq_at dqL_law_1286 7 rfl
theorem dL_law_1298 : decode cL_law 1298 = .ok (.iaload, 1) := dq_at dqL_law_1286 8 rfl
theorem dL_law_1299 : decode cL_law 1299 = .ok (.invokevirtual 290, 3) := dq_at dqL_law_1286 9 rfl
theorem dL_law_1302 : decode cL_law 1302 = .ok (.istore 6, 2) := dq_at dqL_law_1286 10 rfl
theorem dL_law_1304 : decode cL_law 1304 = .ok (.goto 510, 3) := dq_at dqL_law_1286 11 rfl
theorem dL_law_1307 : decode cL_law 1307 = .ok (.aload_n 1, 1) := dq_at dqL_law_1286 12 rfl
theorem dL_law_1308 : decode cL_law 1308 = .ok (.aload_n 0, 1) := dq_at dqL_law_1286 13 rfl
theorem dL_law_1309 : decode cL_law 1309 = .ok (.iload 4, 2) := dq_at dqL_law_1286 14 rfl
theorem dL_law_1311 : decode cL_law 1311 = .ok (.iconst 1, 1) := dq_at dqL_law_1286 15 rfl
theorem dL_law_1312 : decode cL_law 1312 = .ok (.iadd, 1) := dq_at dqL_law_1286 16 rfl
theorem dL_law_1313 : decode cL_law 1313 = .ok (.iaload, 1) := dq_at dqL_law_1286 17 rfl
theorem dL_law_1314 : decode cL_law 1314 = .ok (.aload_n 3, 1) := dq_at dqL_law_1286 18 rfl
theorem dL_law_1315 : decode cL_law 1315 = .ok (.invokestatic 291, 3) := dq_at dqL_law_1286 19 rfl
theorem dL_law_1318 : decode cL_law 1318 = .ok (.istore 5, 2) := dq_at dqL_law_1286 20 rfl
theorem dL_law_1320 : decode cL_law 1320 = .ok (.aload_n 2, 1) := dq_at dqL_law_1286 21 rfl
theorem dL_law_1321 : decode cL_law 1321 = .ok (.aload_n 0, 1) := dq_at dqL_law_1286 22 rfl
theorem dL_law_1322 : decode cL_law 1322 = .ok (.iload 4, 2) := dq_at dqL_law_1286 23 rfl
theorem dL_law_1324 : decode cL_law 1324 = .ok (.iconst 1, 1) := dq_at dqL_law_1286 24 rfl
theorem dL_law_1325 : decode cL_law 1325 = .ok (.iadd, 1) := dq_at dqL_law_1286 25 rfl
theorem dL_law_1326 : decode cL_law 1326 = .ok (.iaload, 1) := dq_at dqL_law_1286 26 rfl
theorem dL_law_1327 : decode cL_law 1327 = .ok (.invokevirtual 293, 3) := dq_at dqL_law_1286 27 rfl
theorem dL_law_1330 : decode cL_law 1330 = .ok (.istore 6, 2) := dq_at dqL_law_1286 28 rfl
theorem dL_law_1332 : decode cL_law 1332 = .ok (.goto 482, 3) := dq_at dqL_law_1286 29 rfl
theorem dL_law_1335 : decode cL_law 1335 = .ok (.aload_n 1, 1) := dq_at dqL_law_1286 30 rfl
theorem dL_law_1336 : decode cL_law 1336 = .ok (.aload_n 0, 1) := dq_at dqL_law_1286 31 rfl
theorem dL_law_1337 : decode cL_law 1337 = .ok (.iload 4, 2) := dq_at dqL_law_1286 32 rfl
theorem dL_law_1339 : decode cL_law 1339 = .ok (.iconst 1, 1) := dq_at dqL_law_1286 33 rfl
theorem dL_law_1340 : decode cL_law 1340 = .ok (.iadd, 1) := dq_at dqL_law_1286 34 rfl
theorem dL_law_1341 : decode cL_law 1341 = .ok (.iaload, 1) := dq_at dqL_law_1286 35 rfl
theorem dL_law_1342 : decode cL_law 1342 = .ok (.aload_n 0, 1) := dq_at dqL_law_1286 36 rfl
theorem dL_law_1343 : decode cL_law 1343 = .ok (.iload 4, 2) := dq_at dqL_law_1286 37 rfl
theorem dL_law_1345 : decode cL_law 1345 = .ok (.iconst 2, 1) := dq_at dqL_law_1286 38 rfl
theorem dL_law_1346 : decode cL_law 1346 = .ok (.iadd, 1) := dq_at dqL_law_1286 39 rfl
theorem dL_law_1347 : decode cL_law 1347 = .ok (.iaload, 1) := dq_at dqL_law_1286 40 rfl
theorem dL_law_1348 : decode cL_law 1348 = .ok (.aload_n 3, 1) := dq_at dqL_law_1286 41 rfl
theorem dL_law_1349 : decode cL_law 1349 = .ok (.invokestatic 294, 3) := dq_at dqL_law_1286 42 rfl
theorem dL_law_1352 : decode cL_law 1352 = .ok (.istore 5, 2) := dq_at dqL_law_1286 43 rfl
theorem dL_law_1354 : decode cL_law 1354 = .ok (.aload_n 2, 1) := dq_at dqL_law_1286 44 rfl
theorem dL_law_1355 : decode cL_law 1355 = .ok (.aload_n 0, 1) := dq_at dqL_law_1286 45 rfl
theorem dL_law_1356 : decode cL_law 1356 = .ok (.iload 4, 2) := dq_at dqL_law_1286 46 rfl
theorem dL_law_1358 : decode cL_law 1358 = .ok (.iconst 1, 1) := dq_at dqL_law_1286 47 rfl
theorem dL_law_1359 : decode cL_law 1359 = .ok (.iadd, 1) := dq_at dqL_law_1286 48 rfl
theorem dL_law_1360 : decode cL_law 1360 = .ok (.iaload, 1) := dq_at dqL_law_1286 49 rfl
set_option maxRecDepth 20000 in
theorem dqL_law_1361 : (([(1361, .aload_n 0, 1), (1362, .iload 4, 2), (1364, .iconst 2, 1), (1365, .iadd, 1), (1366, .iaload, 1), (1367, .invokevirtual 296, 3), (1370, .istore 6, 2), (1372, .goto 442, 3), (1375, .aload_n 1, 1), (1376, .aload_n 0, 1), (1377, .iload 4, 2), (1379, .iconst 1, 1), (1380, .iadd, 1), (1381, .iaload, 1), (1382, .aload_n 3, 1), (1383, .invokestatic 297, 3), (1386, .istore 5, 2), (1388, .aload_n 2, 1), (1389, .aload_n 0, 1), (1390, .iload 4, 2), (1392, .iconst 1, 1), (1393, .iadd, 1), (1394, .iaload, 1), (1395, .invokevirtual 299, 3), (1398, .istore 6, 2), (1400, .goto 414, 3), (1403, .aload_n 1, 1), (1404, .aload_n 0, 1), (1405, .iload 4, 2), (1407, .iconst 1, 1), (1408, .iadd, 1), (1409, .iaload, 1), (1410, .aload_n 3, 1), (1411, .invokestatic 300, 3), (1414, .istore 5, 2), (1416, .aload_n 2, 1), (1417, .aload_n 0, 1), (1418, .iload 4, 2), (1420, .iconst 1, 1), (1421, .iadd, 1), (1422, .iaload, 1), (1423, .invokevirtual 302, 3), (1426, .istore 6, 2), (1428, .goto 386, 3), (1431, .aload_n 1, 1), (1432, .aload_n 0, 1), (1433, .iload 4, 2), (1435, .iconst 1, 1), (1436, .iadd, 1), (1437, .iaload, 1)] : List (Nat × Instr × Nat)).all fun x => decide (decode cL_law x.1 = .ok (x.2.1, x.2.2))) = true := by decide +kernel
theorem dL_law_1361 : decode cL_law 1361 = .ok (.aload_n 0, 1) := dq_at dqL_law_1361 0 rfl
theorem dL_law_1362 : decode cL_law 1362 = .ok (.iload 4, 2) := dq_at dqL_law_1361 1 rfl
theorem dL_law_1364 : decode cL_law 1364 = .ok (.iconst 2, 1) := dq_at dqL_law_1361 2 rfl
theorem dL_law_1365 : decode cL_law 1365 = .ok (.iadd, 1) := dq_at dqL_law_1361 3 rfl
theorem dL_law_1366 : decode cL_law 1366 = .ok (.iaload, 1) := dq_at dqL_law_1361 4 rfl
theorem dL_law_1367 : decode cL_law 1367 = .ok (.invokevirtual 296, 3) := dq_at dqL_law_1361 5 rfl
theorem dL_law_1370 : decode cL_law 1370 = .ok (.istore 6, 2) := dq_at dqL_law_1361 6 rfl
theorem dL_law_1372 : decode cL_law 1372 = .ok (.goto 442, 3) := dq_at dqL_law_1361 7 rfl
theorem dL_law_1375 : decode cL_law 1375 = .ok (.aload_n 1, 1) := dq_at dqL_law_1361 8 rfl
theorem dL_law_1376 : decode cL_law 1376 = .ok (.aload_n 0, 1) := dq_at dqL_law_1361 9 rfl
theorem dL_law_1377 : decode cL_law 1377 = .ok (.iload 4, 2) := dq_at dqL_law_1361 10 rfl
theorem dL_law_1379 : decode cL_law 1379 = .ok (.iconst 1, 1) := dq_at dqL_law_1361 11 rfl
theorem dL_law_1380 : decode cL_law 1380 = .ok (.iadd, 1) := dq_at dqL_law_1361 12 rfl
theorem dL_law_1381 : decode cL_law 1381 = .ok (.iaload, 1) := dq_at dqL_law_1361 13 rfl
theorem dL_law_1382 : decode cL_law 1382 = .ok (.aload_n 3, 1) := dq_at dqL_law_1361 14 rfl
theorem dL_law_1383 : decode cL_law 1383 = .ok (.invokestatic 297, 3) := dq_at dqL_law_1361 15 rfl
theorem dL_law_1386 : decode cL_law 1386 = .ok (.istore 5, 2) := dq_at dqL_law_1361 16 rfl
theorem dL_law_1388 : decode cL_law 1388 = .ok (.aload_n 2, 1) := dq_at dqL_law_1361 17 rfl
theorem dL_law_1389 : decode cL_law 1389 = .ok (.aload_n 0, 1) := dq_at dqL_law_1361 18 rfl
theorem dL_law_1390 : decode cL_law 1390 = .ok (.iload 4, 2) := dq_at dqL_law_1361 19 rfl
theorem dL_law_1392 : decode cL_law 1392 = .ok (.iconst 1, 1) := dq_at dqL_law_1361 20 rfl
theorem dL_law_1393 : decode cL_law 1393 = .ok (.iadd, 1) := dq_at dqL_law_1361 21 rfl
theorem dL_law_1394 : decode cL_law 1394 = .ok (.iaload, 1) := dq_at dqL_law_1361 22 rfl
theorem dL_law_1395 : decode cL_law 1395 = .ok (.invokevirtual 299, 3) := dq_at dqL_law_1361 23 rfl
theorem dL_law_1398 : decode cL_law 1398 = .ok (.istore 6, 2) := dq_at dqL_law_1361 24 rfl
theorem dL_law_1400 : decode cL_law 1400 = .ok (.goto 414, 3) := dq_at dqL_law_1361 25 rfl
theorem dL_law_1403 : decode cL_law 1403 = .ok (.aload_n 1, 1) := dq_at dqL_law_1361 26 rfl
theorem dL_law_1404 : decode cL_law 1404 = .ok (.aload_n 0, 1) := dq_at dqL_law_1361 27 rfl
theorem dL_law_1405 : decode cL_law 1405 = .ok (.iload 4, 2) := dq_at dqL_law_1361 28 rfl
theorem dL_law_1407 : decode cL_law 1407 = .ok (.iconst 1, 1) := dq_at dqL_law_1361 29 rfl
theorem dL_law_1408 : decode cL_law 1408 = .ok (.iadd, 1) := dq_at dqL_law_1361 30 rfl
theorem dL_law_1409 : decode cL_law 1409 = .ok (.iaload, 1) := dq_at dqL_law_1361 31 rfl
theorem dL_law_1410 : decode cL_law 1410 = .ok (.aload_n 3, 1) := dq_at dqL_law_1361 32 rfl
theorem dL_law_1411 : decode cL_law 1411 = .ok (.invokestatic 300, 3) := dq_at dqL_law_1361 33 rfl
theorem dL_law_1414 : decode cL_law 1414 = .ok (.istore 5, 2) := dq_at dqL_law_1361 34 rfl
theorem dL_law_1416 : decode cL_law 1416 = .ok (.aload_n 2, 1) := dq_at dqL_law_1361 35 rfl
theorem dL_law_1417 : decode cL_law 1417 = .ok (.aload_n 0, 1) := dq_at dqL_law_1361 36 rfl
theorem dL_law_1418 : decode cL_law 1418 = .ok (.iload 4, 2) := dq_at dqL_law_1361 37 rfl
theorem dL_law_1420 : decode cL_law 1420 = .ok (.iconst 1, 1) := dq_at dqL_law_1361 38 rfl
theorem dL_law_1421 : decode cL_law 1421 = .ok (.iadd, 1) := dq_at dqL_law_1361 39 rfl
theorem dL_law_1422 : decode cL_law 1422 = .ok (.iaload, 1) := dq_at dqL_law_1361 40 rfl
theorem dL_law_1423 : decode cL_law 1423 = .ok (.invokevirtual 302, 3) := dq_at dqL_law_1361 41 rfl
theorem dL_law_1426 : decode cL_law 1426 = .ok (.istore 6, 2) := dq_at dqL_law_1361 42 rfl
theorem dL_law_1428 : decode cL_law 1428 = .ok (.goto 386, 3) := dq_at dqL_law_1361 43 rfl
theorem dL_law_1431 : decode cL_law 1431 = .ok (.aload_n 1, 1) := dq_at dqL_law_1361 44 rfl
theorem dL_law_1432 : decode cL_law 1432 = .ok (.aload_n 0, 1) := dq_at dqL_law_1361 45 rfl
theorem dL_law_1433 : decode cL_law 1433 = .ok (.iload 4, 2) := dq_at dqL_law_1361 46 rfl
theorem dL_law_1435 : decode cL_law 1435 = .ok (.iconst 1, 1) := dq_at dqL_law_1361 47 rfl
theorem dL_law_1436 : decode cL_law 1436 = .ok (.iadd, 1) := dq_at dqL_law_1361 48 rfl
theorem dL_law_1437 : decode cL_law 1437 = .ok (.iaload, 1) := dq_at dqL_law_1361 49 rfl
set_option maxRecDepth 20000 in
theorem dqL_law_1438 : (([(1438, .aload_n 0, 1), (1439, .iload 4, 2), (1441, .iconst 2, 1), (1442, .iadd, 1), (1443, .iaload, 1), (1444, .aload_n 3, 1), (1445, .invokestatic 303, 3), (1448, .istore 5, 2), (1450, .aload_n 2, 1), (1451, .aload_n 0, 1), (1452, .iload 4, 2), (1454, .iconst 1, 1), (1455, .iadd, 1), (1456, .iaload, 1), (1457, .aload_n 0, 1), (1458, .iload 4, 2), (1460, .iconst 2, 1), (1461, .iadd, 1), (1462, .iaload, 1), (1463, .invokevirtual 305, 3), (1466, .istore 6, 2), (1468, .goto 346, 3), (1471, .aload_n 1, 1), (1472, .aload_n 0, 1), (1473, .iload 4, 2), (1475, .iconst 1, 1), (1476, .iadd, 1), (1477, .iaload, 1), (1478, .aload_n 3, 1), (1479, .invokestatic 306, 3), (1482, .istore 5, 2), (1484, .aload_n 2, 1), (1485, .aload_n 0, 1), (1486, .iload 4, 2), (1488, .iconst 1, 1), (1489, .iadd, 1), (1490, .iaload, 1), (1491, .invokevirtual 308, 3), (1494, .istore 6, 2), (1496, .goto 318, 3), (1499, .aload_n 1, 1), (1500, .aload_n 0, 1), (1501, .iload 4, 2), (1503, .iconst 1, 1), (1504, .iadd, 1), (1505, .iaload, 1), (1506, .aload_n 3, 1), (1507, .invokestatic 309, 3), (1510, .istore 5, 2), (1512, .aload_n 2, 1)] : List (Nat × Instr × Nat)).all fun x => decide (decode cL_law x.1 = .ok (x.2.1, x.2.2))) = true := by decide +kernel
theorem dL_law_1438 : decode cL_law 1438 = .ok (.aload_n 0, 1) := dq_at dqL_law_1438 0 rfl
theorem dL_law_1439 : decode cL_law 1439 = .ok (.iload 4, 2) := dq_at dqL_law_1438 1 rfl
theorem dL_law_1441 : decode cL_law 1441 = .ok (.iconst 2, 1) := dq_at dqL_law_1438 2 rfl
theorem dL_law_1442 : decode cL_law 1442 = .ok (.iadd, 1) := dq_at dqL_law_1438 3 rfl
theorem dL_law_1443 : decode cL_law 1443 = .ok (.iaload, 1) := dq_at dqL_law_1438 4 rfl
theorem dL_law_1444 : decode cL_law 1444 = .ok (.aload_n 3, 1) := dq_at dqL_law_1438 5 rfl
theorem dL_law_1445 : decode cL_law 1445 = .ok (.invokestatic 303, 3) := dq_at dqL_law_1438 6 rfl
theorem dL_law_1448 : decode cL_law 1448 = .ok (.istore 5, 2) := dq_at dqL_law_1438 7 rfl
theorem dL_law_1450 : decode cL_law 1450 = .ok (.aload_n 2, 1) := dq_at dqL_law_1438 8 rfl
theorem dL_law_1451 : decode cL_law 1451 = .ok (.aload_n 0, 1) := dq_at dqL_law_1438 9 rfl
theorem dL_law_1452 : decode cL_law 1452 = .ok (.iload 4, 2) := dq_at dqL_law_1438 10 rfl
theorem dL_law_1454 : decode cL_law 1454 = .ok (.iconst 1, 1) := dq_at dqL_law_1438 11 rfl
theorem dL_law_1455 : decode cL_law 1455 = .ok (.iadd, 1) := dq_at dqL_law_1438 12 rfl
theorem dL_law_1456 : decode cL_law 1456 = .ok (.iaload, 1) := dq_at dqL_law_1438 13 rfl
theorem dL_law_1457 : decode cL_law 1457 = .ok (.aload_n 0, 1) := dq_at dqL_law_1438 14 rfl
theorem dL_law_1458 : decode cL_law 1458 = .ok (.iload 4, 2) := dq_at dqL_law_1438 15 rfl
theorem dL_law_1460 : decode cL_law 1460 = .ok (.iconst 2, 1) := dq_at dqL_law_1438 16 rfl
theorem dL_law_1461 : decode cL_law 1461 = .ok (.iadd, 1) := dq_at dqL_law_1438 17 rfl
theorem dL_law_1462 : decode cL_law 1462 = .ok (.iaload, 1) := dq_at dqL_law_1438 18 rfl
theorem dL_law_1463 : decode cL_law 1463 = .ok (.invokevirtual 305, 3) := dq_at dqL_law_1438 19 rfl
theorem dL_law_1466 : decode cL_law 1466 = .ok (.istore 6, 2) := dq_at dqL_law_1438 20 rfl
theorem dL_law_1468 : decode cL_law 1468 = .ok (.goto 346, 3) := dq_at dqL_law_1438 21 rfl
theorem dL_law_1471 : decode cL_law 1471 = .ok (.aload_n 1, 1) := dq_at dqL_law_1438 22 rfl
theorem dL_law_1472 : decode cL_law 1472 = .ok (.aload_n 0, 1) := dq_at dqL_law_1438 23 rfl
theorem dL_law_1473 : decode cL_law 1473 = .ok (.iload 4, 2) := dq_at dqL_law_1438 24 rfl
theorem dL_law_1475 : decode cL_law 1475 = .ok (.iconst 1, 1) := dq_at dqL_law_1438 25 rfl
theorem dL_law_1476 : decode cL_law 1476 = .ok (.iadd, 1) := dq_at dqL_law_1438 26 rfl
theorem dL_law_1477 : decode cL_law 1477 = .ok (.iaload, 1) := dq_at dqL_law_1438 27 rfl
theorem dL_law_1478 : decode cL_law 1478 = .ok (.aload_n 3, 1) := dq_at dqL_law_1438 28 rfl
theorem dL_law_1479 : decode cL_law 1479 = .ok (.invokestatic 306, 3) := dq_at dqL_law_1438 29 rfl
theorem dL_law_1482 : decode cL_law 1482 = .ok (.istore 5, 2) := dq_at dqL_law_1438 30 rfl
theorem dL_law_1484 : decode cL_law 1484 = .ok (.aload_n 2, 1) := dq_at dqL_law_1438 31 rfl
theorem dL_law_1485 : decode cL_law 1485 = .ok (.aload_n 0, 1) := dq_at dqL_law_1438 32 rfl
theorem dL_law_1486 : decode cL_law 1486 = .ok (.iload 4, 2) := dq_at dqL_law_1438 33 rfl
theorem dL_law_1488 : decode cL_law 1488 = .ok (.iconst 1, 1) := dq_at dqL_law_1438 34 rfl
theorem dL_law_1489 : decode cL_law 1489 = .ok (.iadd, 1) := dq_at dqL_law_1438 35 rfl
theorem dL_law_1490 : decode cL_law 1490 = .ok (.iaload, 1) := dq_at dqL_law_1438 36 rfl
theorem dL_law_1491 : decode cL_law 1491 = .ok (.invokevirtual 308, 3) := dq_at dqL_law_1438 37 rfl
theorem dL_law_1494 : decode cL_law 1494 = .ok (.istore 6, 2) := dq_at dqL_law_1438 38 rfl
theorem dL_law_1496 : decode cL_law 1496 = .ok (.goto 318, 3) := dq_at dqL_law_1438 39 rfl
theorem dL_law_1499 : decode cL_law 1499 = .ok (.aload_n 1, 1) := dq_at dqL_law_1438 40 rfl
theorem dL_law_1500 : decode cL_law 1500 = .ok (.aload_n 0, 1) := dq_at dqL_law_1438 41 rfl
theorem dL_law_1501 : decode cL_law 1501 = .ok (.iload 4, 2) := dq_at dqL_law_1438 42 rfl
theorem dL_law_1503 : decode cL_law 1503 = .ok (.iconst 1, 1) := dq_at dqL_law_1438 43 rfl
theorem dL_law_1504 : decode cL_law 1504 = .ok (.iadd, 1) := dq_at dqL_law_1438 44 rfl
theorem dL_law_1505 : decode cL_law 1505 = .ok (.iaload, 1) := dq_at dqL_law_1438 45 rfl
theorem dL_law_1506 : decode cL_law 1506 = .ok (.aload_n 3, 1) := dq_at dqL_law_1438 46 rfl
theorem dL_law_1507 : decode cL_law 1507 = .ok (.invokestatic 309, 3) := dq_at dqL_law_1438 47 rfl
theorem dL_law_1510 : decode cL_law 1510 = .ok (.istore 5, 2) := dq_at dqL_law_1438 48 rfl
theorem dL_law_1512 : decode cL_law 1512 = .ok (.aload_n 2, 1) := dq_at dqL_law_1438 49 rfl
set_option maxRecDepth 20000 in
theorem dqL_law_1513 : (([(1513, .aload_n 0, 1), (1514, .iload 4, 2), (1516, .iconst 1, 1), (1517, .iadd, 1), (1518, .iaload, 1), (1519, .invokevirtual 311, 3), (1522, .istore 6, 2), (1524, .goto 290, 3), (1527, .aload_n 1, 1), (1528, .aload_n 3, 1), (1529, .invokestatic 312, 3), (1532, .istore 5, 2), (1534, .aload_n 2, 1), (1535, .invokevirtual 315, 3), (1538, .istore 6, 2), (1540, .goto 274, 3), (1543, .aload_n 1, 1), (1544, .aload_n 0, 1), (1545, .iload 4, 2), (1547, .iconst 1, 1), (1548, .iadd, 1), (1549, .iaload, 1), (1550, .aload_n 0, 1), (1551, .iload 4, 2), (1553, .iconst 2, 1), (1554, .iadd, 1), (1555, .iaload, 1), (1556, .aload_n 3, 1), (1557, .invokestatic 316, 3), (1560, .istore 5, 2), (1562, .aload_n 2, 1), (1563, .aload_n 0, 1), (1564, .iload 4, 2), (1566, .iconst 1, 1), (1567, .iadd, 1), (1568, .iaload, 1), (1569, .aload_n 0, 1), (1570, .iload 4, 2), (1572, .iconst 2, 1), (1573, .iadd, 1), (1574, .iaload, 1), (1575, .invokevirtual 318, 3), (1578, .istore 6, 2), (1580, .goto 234, 3), (1583, .aload_n 1, 1), (1584, .aload_n 0, 1), (1585, .iload 4, 2), (1587, .iconst 1, 1), (1588, .iadd, 1), (1589, .iaload, 1)] : List (Nat × Instr × Nat)).all fun x => decide (decode cL_law x.1 = .ok (x.2.1, x.2.2))) = true := by decide +kernel
theorem dL_law_1513 : decode cL_law 1513 = .ok (.aload_n 0, 1) := dq_at dqL_law_1513 0 rfl
theorem dL_law_1514 : decode cL_law 1514 = .ok (.iload 4, 2) := dq_at dqL_law_1513 1 rfl
theorem dL_law_1516 : decode cL_law 1516 = .ok (.iconst 1, 1) := dq_at dqL_law_1513 2 rfl
theorem dL_law_1517 : decode cL_law 1517 = .ok (.iadd, 1) := dq_at dqL_law_1513 3 rfl
theorem dL_law_1518 : decode cL_law 1518 = .ok (.iaload, 1) := dq_at dqL_law_1513 4 rfl
theorem dL_law_1519 : decode cL_law 1519 = .ok (.invokevirtual 311, 3) := dq_at dqL_law_1513 5 rfl
theorem dL_law_1522 : decode cL_law 1522 = .ok (.istore 6, 2) := dq_at dqL_law_1513 6 rfl
theorem dL_law_1524 : decode cL_law 1524 = .ok (.goto 290, 3) := dq_at dqL_law_1513 7 rfl
theorem dL_law_1527 : decode cL_law 1527 = .ok (.aload_n 1, 1) := dq_at dqL_law_1513 8 rfl
theorem dL_law_1528 : decode cL_law 1528 = .ok (.aload_n 3, 1) := dq_at dqL_law_1513 9 rfl
theorem dL_law_1529 : decode cL_law 1529 = .ok (.invokestatic 312, 3) := dq_at dqL_law_1513 10 rfl
theorem dL_law_1532 : decode cL_law 1532 = .ok (.istore 5, 2) := dq_at dqL_law_1513 11 rfl
theorem dL_law_1534 : decode cL_law 1534 = .ok (.aload_n 2, 1) := dq_at dqL_law_1513 12 rfl
theorem dL_law_1535 : decode cL_law 1535 = .ok (.invokevirtual 315, 3) := dq_at dqL_law_1513 13 rfl
theorem dL_law_1538 : decode cL_law 1538 = .ok (.istore 6, 2) := dq_at dqL_law_1513 14 rfl
theorem dL_law_1540 : decode cL_law 1540 = .ok (.goto 274, 3) := dq_at dqL_law_1513 15 rfl
theorem dL_law_1543 : decode cL_law 1543 = .ok (.aload_n 1, 1) := dq_at dqL_law_1513 16 rfl
theorem dL_law_1544 : decode cL_law 1544 = .ok (.aload_n 0, 1) := dq_at dqL_law_1513 17 rfl
theorem dL_law_1545 : decode cL_law 1545 = .ok (.iload 4, 2) := dq_at dqL_law_1513 18 rfl
theorem dL_law_1547 : decode cL_law 1547 = .ok (.iconst 1, 1) := dq_at dqL_law_1513 19 rfl
theorem dL_law_1548 : decode cL_law 1548 = .ok (.iadd, 1) := dq_at dqL_law_1513 20 rfl
theorem dL_law_1549 : decode cL_law 1549 = .ok (.iaload, 1) := dq_at dqL_law_1513 21 rfl
theorem dL_law_1550 : decode cL_law 1550 = .ok (.aload_n 0, 1) := dq_at dqL_law_1513 22 rfl
theorem dL_law_1551 : decode cL_law 1551 = .ok (.iload 4, 2) := dq_at dqL_law_1513 23 rfl
theorem dL_law_1553 : decode cL_law 1553 = .ok (.iconst 2, 1) := dq_at dqL_law_1513 24 rfl
theorem dL_law_1554 : decode cL_law 1554 = .ok (.iadd, 1) := dq_at dqL_law_1513 25 rfl
theorem dL_law_1555 : decode cL_law 1555 = .ok (.iaload, 1) := dq_at dqL_law_1513 26 rfl
theorem dL_law_1556 : decode cL_law 1556 = .ok (.aload_n 3, 1) := dq_at dqL_law_1513 27 rfl
theorem dL_law_1557 : decode cL_law 1557 = .ok (.invokestatic 316, 3) := dq_at dqL_law_1513 28 rfl
theorem dL_law_1560 : decode cL_law 1560 = .ok (.istore 5, 2) := dq_at dqL_law_1513 29 rfl
theorem dL_law_1562 : decode cL_law 1562 = .ok (.aload_n 2, 1) := dq_at dqL_law_1513 30 rfl
theorem dL_law_1563 : decode cL_law 1563 = .ok (.aload_n 0, 1) := dq_at dqL_law_1513 31 rfl
theorem dL_law_1564 : decode cL_law 1564 = .ok (.iload 4, 2) := dq_at dqL_law_1513 32 rfl
theorem dL_law_1566 : decode cL_law 1566 = .ok (.iconst 1, 1) := dq_at dqL_law_1513 33 rfl
theorem dL_law_1567 : decode cL_law 1567 = .ok (.iadd, 1) := dq_at dqL_law_1513 34 rfl
theorem dL_law_1568 : decode cL_law 1568 = .ok (.iaload, 1) := dq_at dqL_law_1513 35 rfl
theorem dL_law_1569 : decode cL_law 1569 = .ok (.aload_n 0, 1) := dq_at dqL_law_1513 36 rfl
theorem dL_law_1570 : decode cL_law 1570 = .ok (.iload 4, 2) := dq_at dqL_law_1513 37 rfl
theorem dL_law_1572 : decode cL_law 1572 = .ok (.iconst 2, 1) := dq_at dqL_law_1513 38 rfl
theorem dL_law_1573 : decode cL_law 1573 = .ok (.iadd, 1) := dq_at dqL_law_1513 39 rfl
theorem dL_law_1574 : decode cL_law 1574 = .ok (.iaload, 1) := dq_at dqL_law_1513 40 rfl
theorem dL_law_1575 : decode cL_law 1575 = .ok (.invokevirtual 318, 3) := dq_at dqL_law_1513 41 rfl
theorem dL_law_1578 : decode cL_law 1578 = .ok (.istore 6, 2) := dq_at dqL_law_1513 42 rfl
theorem dL_law_1580 : decode cL_law 1580 = .ok (.goto 234, 3) := dq_at dqL_law_1513 43 rfl
theorem dL_law_1583 : decode cL_law 1583 = .ok (.aload_n 1, 1) := dq_at dqL_law_1513 44 rfl
theorem dL_law_1584 : decode cL_law 1584 = .ok (.aload_n 0, 1) := dq_at dqL_law_1513 45 rfl
theorem dL_law_1585 : decode cL_law 1585 = .ok (.iload 4, 2) := dq_at dqL_law_1513 46 rfl
theorem dL_law_1587 : decode cL_law 1587 = .ok (.iconst 1, 1) := dq_at dqL_law_1513 47 rfl
theorem dL_law_1588 : decode cL_law 1588 = .ok (.iadd, 1) := dq_at dqL_law_1513 48 rfl
theorem dL_law_1589 : decode cL_law 1589 = .ok (.iaload, 1) := dq_at dqL_law_1513 49 rfl
set_option maxRecDepth 20000 in
theorem dqL_law_1590 : (([(1590, .aload_n 3, 1), (1591, .invokestatic 319, 3), (1594, .istore 5, 2), (1596, .aload_n 2, 1), (1597, .aload_n 0, 1), (1598, .iload 4, 2), (1600, .iconst 1, 1), (1601, .iadd, 1), (1602, .iaload, 1), (1603, .invokevirtual 321, 3), (1606, .istore 6, 2), (1608, .goto 206, 3), (1611, .aload_n 1, 1), (1612, .aload_n 0, 1), (1613, .iload 4, 2), (1615, .iconst 1, 1), (1616, .iadd, 1), (1617, .iaload, 1), (1618, .aload_n 3, 1), (1619, .invokestatic 322, 3), (1622, .istore 5, 2), (1624, .aload_n 2, 1), (1625, .aload_n 0, 1), (1626, .iload 4, 2), (1628, .iconst 1, 1), (1629, .iadd, 1), (1630, .iaload, 1), (1631, .invokevirtual 324, 3), (1634, .istore 6, 2), (1636, .goto 178, 3), (1639, .aload_n 1, 1), (1640, .invokevirtual 325, 3), (1643, .pop, 1), (1644, .aload_n 2, 1), (1645, .invokevirtual 328, 3), (1648, .pop, 1), (1649, .goto 165, 3), (1652, .aload_n 1, 1), (1653, .aload_n 0, 1), (1654, .iload 4, 2), (1656, .iconst 1, 1), (1657, .iadd, 1), (1658, .iaload, 1), (1659, .aload_n 3, 1), (1660, .invokestatic 329, 3), (1663, .istore 5, 2), (1665, .aload_n 2, 1), (1666, .aload_n 0, 1), (1667, .iload 4, 2), (1669, .iconst 1, 1)] : List (Nat × Instr × Nat)).all fun x => decide (decode cL_law x.1 = .ok (x.2.1, x.2.2))) = true := by decide +kernel
theorem dL_law_1590 : decode cL_law 1590 = .ok (.aload_n 3, 1) := dq_at dqL_law_1590 0 rfl
theorem dL_law_1591 : decode cL_law 1591 = .ok (.invokestatic 319, 3) := dq_at dqL_law_1590 1 rfl
theorem dL_law_1594 : decode cL_law 1594 = .ok (.istore 5, 2) := dq_at dqL_law_1590 2 rfl
theorem dL_law_1596 : decode cL_law 1596 = .ok (.aload_n 2, 1) := dq_at dqL_law_1590 3 rfl
theorem dL_law_1597 : decode cL_law 1597 = .ok (.aload_n 0, 1) := dq_at dqL_law_1590 4 rfl
theorem dL_law_1598 : decode cL_law 1598 = .ok (.iload 4, 2) := dq_at dqL_law_1590 5 rfl
theorem dL_law_1600 : decode cL_law 1600 = .ok (.iconst 1, 1) := dq_at dqL_law_1590 6 rfl
theorem dL_law_1601 : decode cL_law 1601 = .ok (.iadd, 1) := dq_at dqL_law_1590 7 rfl
theorem dL_law_1602 : decode cL_law 1602 = .ok (.iaload, 1) := dq_at dqL_law_1590 8 rfl
theorem dL_law_1603 : decode cL_law 1603 = .ok (.invokevirtual 321, 3) := dq_at dqL_law_1590 9 rfl
theorem dL_law_1606 : decode cL_law 1606 = .ok (.istore 6, 2) := dq_at dqL_law_1590 10 rfl
theorem dL_law_1608 : decode cL_law 1608 = .ok (.goto 206, 3) := dq_at dqL_law_1590 11 rfl
theorem dL_law_1611 : decode cL_law 1611 = .ok (.aload_n 1, 1) := dq_at dqL_law_1590 12 rfl
theorem dL_law_1612 : decode cL_law 1612 = .ok (.aload_n 0, 1) := dq_at dqL_law_1590 13 rfl
theorem dL_law_1613 : decode cL_law 1613 = .ok (.iload 4, 2) := dq_at dqL_law_1590 14 rfl
theorem dL_law_1615 : decode cL_law 1615 = .ok (.iconst 1, 1) := dq_at dqL_law_1590 15 rfl
theorem dL_law_1616 : decode cL_law 1616 = .ok (.iadd, 1) := dq_at dqL_law_1590 16 rfl
theorem dL_law_1617 : decode cL_law 1617 = .ok (.iaload, 1) := dq_at dqL_law_1590 17 rfl
theorem dL_law_1618 : decode cL_law 1618 = .ok (.aload_n 3, 1) := dq_at dqL_law_1590 18 rfl
theorem dL_law_1619 : decode cL_law 1619 = .ok (.invokestatic 322, 3) := dq_at dqL_law_1590 19 rfl
theorem dL_law_1622 : decode cL_law 1622 = .ok (.istore 5, 2) := dq_at dqL_law_1590 20 rfl
theorem dL_law_1624 : decode cL_law 1624 = .ok (.aload_n 2, 1) := dq_at dqL_law_1590 21 rfl
theorem dL_law_1625 : decode cL_law 1625 = .ok (.aload_n 0, 1) := dq_at dqL_law_1590 22 rfl
theorem dL_law_1626 : decode cL_law 1626 = .ok (.iload 4, 2) := dq_at dqL_law_1590 23 rfl
theorem dL_law_1628 : decode cL_law 1628 = .ok (.iconst 1, 1) := dq_at dqL_law_1590 24 rfl
theorem dL_law_1629 : decode cL_law 1629 = .ok (.iadd, 1) := dq_at dqL_law_1590 25 rfl
theorem dL_law_1630 : decode cL_law 1630 = .ok (.iaload, 1) := dq_at dqL_law_1590 26 rfl
theorem dL_law_1631 : decode cL_law 1631 = .ok (.invokevirtual 324, 3) := dq_at dqL_law_1590 27 rfl
theorem dL_law_1634 : decode cL_law 1634 = .ok (.istore 6, 2) := dq_at dqL_law_1590 28 rfl
theorem dL_law_1636 : decode cL_law 1636 = .ok (.goto 178, 3) := dq_at dqL_law_1590 29 rfl
theorem dL_law_1639 : decode cL_law 1639 = .ok (.aload_n 1, 1) := dq_at dqL_law_1590 30 rfl
theorem dL_law_1640 : decode cL_law 1640 = .ok (.invokevirtual 325, 3) := dq_at dqL_law_1590 31 rfl
theorem dL_law_1643 : decode cL_law 1643 = .ok (.pop, 1) := dq_at dqL_law_1590 32 rfl
theorem dL_law_1644 : decode cL_law 1644 = .ok (.aload_n 2, 1) := dq_at dqL_law_1590 33 rfl
theorem dL_law_1645 : decode cL_law 1645 = .ok (.invokevirtual 328, 3) := dq_at dqL_law_1590 34 rfl
theorem dL_law_1648 : decode cL_law 1648 = .ok (.pop, 1) := dq_at dqL_law_1590 35 rfl
theorem dL_law_1649 : decode cL_law 1649 = .ok (.goto 165, 3) := dq_at dqL_law_1590 36 rfl
theorem dL_law_1652 : decode cL_law 1652 = .ok (.aload_n 1, 1) := dq_at dqL_law_1590 37 rfl
theorem dL_law_1653 : decode cL_law 1653 = .ok (.aload_n 0, 1) := dq_at dqL_law_1590 38 rfl
theorem dL_law_1654 : decode cL_law 1654 = .ok (.iload 4, 2) := dq_at dqL_law_1590 39 rfl
theorem dL_law_1656 : decode cL_law 1656 = .ok (.iconst 1, 1) := dq_at dqL_law_1590 40 rfl
theorem dL_law_1657 : decode cL_law 1657 = .ok (.iadd, 1) := dq_at dqL_law_1590 41 rfl
theorem dL_law_1658 : decode cL_law 1658 = .ok (.iaload, 1) := dq_at dqL_law_1590 42 rfl
theorem dL_law_1659 : decode cL_law 1659 = .ok (.aload_n 3, 1) := dq_at dqL_law_1590 43 rfl
theorem dL_law_1660 : decode cL_law 1660 = .ok (.invokestatic 329, 3) := dq_at dqL_law_1590 44 rfl
theorem dL_law_1663 : decode cL_law 1663 = .ok (.istore 5, 2) := dq_at dqL_law_1590 45 rfl
theorem dL_law_1665 : decode cL_law 1665 = .ok (.aload_n 2, 1) := dq_at dqL_law_1590 46 rfl
theorem dL_law_1666 : decode cL_law 1666 = .ok (.aload_n 0, 1) := dq_at dqL_law_1590 47 rfl
theorem dL_law_1667 : decode cL_law 1667 = .ok (.iload 4, 2) := dq_at dqL_law_1590 48 rfl
theorem dL_law_1669 : decode cL_law 1669 = .ok (.iconst 1, 1) := dq_at dqL_law_1590 49 rfl
set_option maxRecDepth 20000 in
theorem dqL_law_1670 : (([(1670, .iadd, 1), (1671, .iaload, 1), (1672, .invokevirtual 331, 3), (1675, .istore 6, 2), (1677, .goto 137, 3), (1680, .aload_n 1, 1), (1681, .aload_n 0, 1), (1682, .iload 4, 2), (1684, .iconst 1, 1), (1685, .iadd, 1), (1686, .iaload, 1), (1687, .aload_n 3, 1), (1688, .invokestatic 332, 3), (1691, .istore 5, 2), (1693, .aload_n 2, 1), (1694, .aload_n 0, 1), (1695, .iload 4, 2), (1697, .iconst 1, 1), (1698, .iadd, 1), (1699, .iaload, 1), (1700, .invokevirtual 334, 3), (1703, .istore 6, 2), (1705, .goto 109, 3), (1708, .aload_n 1, 1), (1709, .invokevirtual 335, 3), (1712, .pop, 1), (1713, .aload_n 2, 1), (1714, .invokevirtual 338, 3), (1717, .pop, 1), (1718, .goto 96, 3), (1721, .aload_n 1, 1), (1722, .aload_n 0, 1), (1723, .iload 4, 2), (1725, .iconst 1, 1), (1726, .iadd, 1), (1727, .iaload, 1), (1728, .aload_n 0, 1), (1729, .iload 4, 2), (1731, .iconst 2, 1), (1732, .iadd, 1), (1733, .iaload, 1), (1734, .aload_n 3, 1), (1735, .invokestatic 339, 3), (1738, .istore 5, 2), (1740, .aload_n 2, 1), (1741, .aload_n 0, 1), (1742, .iload 4, 2), (1744, .iconst 1, 1), (1745, .iadd, 1), (1746, .iaload, 1)] : List (Nat × Instr × Nat)).all fun x => decide (decode cL_law x.1 = .ok (x.2.1, x.2.2))) = true := by decide +kernel
theorem dL_law_1670 : decode cL_law 1670 = .ok (.iadd, 1) := dq_at dqL_law_1670 0 rfl
theorem dL_law_1671 : decode cL_law 1671 = .ok (.iaload, 1) := dq_at dqL_law_1670 1 rfl
theorem dL_law_1672 : decode cL_law 1672 = .ok (.invokevirtual 331, 3) := dq_at dqL_law_1670 2 rfl
theorem dL_law_1675 : decode cL_law 1675 = .ok (.istore 6, 2) := dq_at dqL_law_1670 3 rfl
theorem dL_law_1677 : decode cL_law 1677 = .ok (.goto 137, 3) := dq_at dqL_law_1670 4 rfl
theorem dL_law_1680 : decode cL_law 1680 = .ok (.aload_n 1, 1) := dq_at dqL_law_1670 5 rfl
theorem dL_law_1681 : decode cL_law 1681 = .ok (.aload_n 0, 1) := dq_at dqL_law_1670 6 rfl
theorem dL_law_1682 : decode cL_law 1682 = .ok (.iload 4, 2) := dq_at dqL_law_1670 7 rfl
theorem dL_law_1684 : decode cL_law 1684 = .ok (.iconst 1, 1) := dq_at dqL_law_1670 8 rfl
theorem dL_law_1685 : decode cL_law 1685 = .ok (.iadd, 1) := dq_at dqL_law_1670 9 rfl
theorem dL_law_1686 : decode cL_law 1686 = .ok (.iaload, 1) := dq_at dqL_law_1670 10 rfl
theorem dL_law_1687 : decode cL_law 1687 = .ok (.aload_n 3, 1) := dq_at dqL_law_1670 11 rfl
theorem dL_law_1688 : decode cL_law 1688 = .ok (.invokestatic 332, 3) := dq_at dqL_law_1670 12 rfl
theorem dL_law_1691 : decode cL_law 1691 = .ok (.istore 5, 2) := dq_at dqL_law_1670 13 rfl
theorem dL_law_1693 : decode cL_law 1693 = .ok (.aload_n 2, 1) := dq_at dqL_law_1670 14 rfl
theorem dL_law_1694 : decode cL_law 1694 = .ok (.aload_n 0, 1) := dq_at dqL_law_1670 15 rfl
theorem dL_law_1695 : decode cL_law 1695 = .ok (.iload 4, 2) := dq_at dqL_law_1670 16 rfl
theorem dL_law_1697 : decode cL_law 1697 = .ok (.iconst 1, 1) := dq_at dqL_law_1670 17 rfl
theorem dL_law_1698 : decode cL_law 1698 = .ok (.iadd, 1) := dq_at dqL_law_1670 18 rfl
theorem dL_law_1699 : decode cL_law 1699 = .ok (.iaload, 1) := dq_at dqL_law_1670 19 rfl
theorem dL_law_1700 : decode cL_law 1700 = .ok (.invokevirtual 334, 3) := dq_at dqL_law_1670 20 rfl
theorem dL_law_1703 : decode cL_law 1703 = .ok (.istore 6, 2) := dq_at dqL_law_1670 21 rfl
theorem dL_law_1705 : decode cL_law 1705 = .ok (.goto 109, 3) := dq_at dqL_law_1670 22 rfl
theorem dL_law_1708 : decode cL_law 1708 = .ok (.aload_n 1, 1) := dq_at dqL_law_1670 23 rfl
theorem dL_law_1709 : decode cL_law 1709 = .ok (.invokevirtual 335, 3) := dq_at dqL_law_1670 24 rfl
theorem dL_law_1712 : decode cL_law 1712 = .ok (.pop, 1) := dq_at dqL_law_1670 25 rfl
theorem dL_law_1713 : decode cL_law 1713 = .ok (.aload_n 2, 1) := dq_at dqL_law_1670 26 rfl
theorem dL_law_1714 : decode cL_law 1714 = .ok (.invokevirtual 338, 3) := dq_at dqL_law_1670 27 rfl
theorem dL_law_1717 : decode cL_law 1717 = .ok (.pop, 1) := dq_at dqL_law_1670 28 rfl
theorem dL_law_1718 : decode cL_law 1718 = .ok (.goto 96, 3) := dq_at dqL_law_1670 29 rfl
theorem dL_law_1721 : decode cL_law 1721 = .ok (.aload_n 1, 1) := dq_at dqL_law_1670 30 rfl
theorem dL_law_1722 : decode cL_law 1722 = .ok (.aload_n 0, 1) := dq_at dqL_law_1670 31 rfl
theorem dL_law_1723 : decode cL_law 1723 = .ok (.iload 4, 2) := dq_at dqL_law_1670 32 rfl
theorem dL_law_1725 : decode cL_law 1725 = .ok (.iconst 1, 1) := dq_at dqL_law_1670 33 rfl
theorem dL_law_1726 : decode cL_law 1726 = .ok (.iadd, 1) := dq_at dqL_law_1670 34 rfl
theorem dL_law_1727 : decode cL_law 1727 = .ok (.iaload, 1) := dq_at dqL_law_1670 35 rfl
theorem dL_law_1728 : decode cL_law 1728 = .ok (.aload_n 0, 1) := dq_at dqL_law_1670 36 rfl
theorem dL_law_1729 : decode cL_law 1729 = .ok (.iload 4, 2) := dq_at dqL_law_1670 37 rfl
theorem dL_law_1731 : decode cL_law 1731 = .ok (.iconst 2, 1) := dq_at dqL_law_1670 38 rfl
theorem dL_law_1732 : decode cL_law 1732 = .ok (.iadd, 1) := dq_at dqL_law_1670 39 rfl
theorem dL_law_1733 : decode cL_law 1733 = .ok (.iaload, 1) := dq_at dqL_law_1670 40 rfl
theorem dL_law_1734 : decode cL_law 1734 = .ok (.aload_n 3, 1) := dq_at dqL_law_1670 41 rfl
theorem dL_law_1735 : decode cL_law 1735 = .ok (.invokestatic 339, 3) := dq_at dqL_law_1670 42 rfl
theorem dL_law_1738 : decode cL_law 1738 = .ok (.istore 5, 2) := dq_at dqL_law_1670 43 rfl
theorem dL_law_1740 : decode cL_law 1740 = .ok (.aload_n 2, 1) := dq_at dqL_law_1670 44 rfl
theorem dL_law_1741 : decode cL_law 1741 = .ok (.aload_n 0, 1) := dq_at dqL_law_1670 45 rfl
theorem dL_law_1742 : decode cL_law 1742 = .ok (.iload 4, 2) := dq_at dqL_law_1670 46 rfl
theorem dL_law_1744 : decode cL_law 1744 = .ok (.iconst 1, 1) := dq_at dqL_law_1670 47 rfl
theorem dL_law_1745 : decode cL_law 1745 = .ok (.iadd, 1) := dq_at dqL_law_1670 48 rfl
theorem dL_law_1746 : decode cL_law 1746 = .ok (.iaload, 1) := dq_at dqL_law_1670 49 rfl
set_option maxRecDepth 20000 in
theorem dqL_law_1747 : (([(1747, .aload_n 0, 1), (1748, .iload 4, 2), (1750, .iconst 2, 1), (1751, .iadd, 1), (1752, .iaload, 1), (1753, .invokevirtual 341, 3), (1756, .istore 6, 2), (1758, .goto 56, 3), (1761, .aload_n 1, 1), (1762, .aload_n 0, 1), (1763, .iload 4, 2), (1765, .iconst 1, 1), (1766, .iadd, 1), (1767, .iaload, 1), (1768, .aload_n 0, 1), (1769, .iload 4, 2), (1771, .iconst 2, 1), (1772, .iadd, 1), (1773, .iaload, 1), (1774, .aload_n 3, 1), (1775, .invokestatic 342, 3), (1778, .istore 5, 2), (1780, .aload_n 2, 1), (1781, .aload_n 0, 1), (1782, .iload 4, 2), (1784, .iconst 1, 1), (1785, .iadd, 1), (1786, .iaload, 1), (1787, .aload_n 0, 1), (1788, .iload 4, 2), (1790, .iconst 2, 1), (1791, .iadd, 1), (1792, .iaload, 1), (1793, .invokevirtual 344, 3), (1796, .istore 6, 2), (1798, .goto 16, 3), (1801, .aload_n 1, 1), (1802, .invokevirtual 345, 3), (1805, .pop, 1), (1806, .aload_n 2, 1), (1807, .invokevirtual 348, 3), (1810, .pop, 1), (1811, .goto 3, 3), (1814, .iinc 4 6, 3), (1817, .goto (-1794), 3), (1820, .iconst 1, 1), (1821, .ireturn, 1)] : List (Nat × Instr × Nat)).all fun x => decide (decode cL_law x.1 = .ok (x.2.1, x.2.2))) = true := by decide +kernel
theorem dL_law_1747 : decode cL_law 1747 = .ok (.aload_n 0, 1) := dq_at dqL_law_1747 0 rfl
theorem dL_law_1748 : decode cL_law 1748 = .ok (.iload 4, 2) := dq_at dqL_law_1747 1 rfl
theorem dL_law_1750 : decode cL_law 1750 = .ok (.iconst 2, 1) := dq_at dqL_law_1747 2 rfl
theorem dL_law_1751 : decode cL_law 1751 = .ok (.iadd, 1) := dq_at dqL_law_1747 3 rfl
theorem dL_law_1752 : decode cL_law 1752 = .ok (.iaload, 1) := dq_at dqL_law_1747 4 rfl
theorem dL_law_1753 : decode cL_law 1753 = .ok (.invokevirtual 341, 3) := dq_at dqL_law_1747 5 rfl
theorem dL_law_1756 : decode cL_law 1756 = .ok (.istore 6, 2) := dq_at dqL_law_1747 6 rfl
theorem dL_law_1758 : decode cL_law 1758 = .ok (.goto 56, 3) := dq_at dqL_law_1747 7 rfl
theorem dL_law_1761 : decode cL_law 1761 = .ok (.aload_n 1, 1) := dq_at dqL_law_1747 8 rfl
theorem dL_law_1762 : decode cL_law 1762 = .ok (.aload_n 0, 1) := dq_at dqL_law_1747 9 rfl
theorem dL_law_1763 : decode cL_law 1763 = .ok (.iload 4, 2) := dq_at dqL_law_1747 10 rfl
theorem dL_law_1765 : decode cL_law 1765 = .ok (.iconst 1, 1) := dq_at dqL_law_1747 11 rfl
theorem dL_law_1766 : decode cL_law 1766 = .ok (.iadd, 1) := dq_at dqL_law_1747 12 rfl
theorem dL_law_1767 : decode cL_law 1767 = .ok (.iaload, 1) := dq_at dqL_law_1747 13 rfl
theorem dL_law_1768 : decode cL_law 1768 = .ok (.aload_n 0, 1) := dq_at dqL_law_1747 14 rfl
theorem dL_law_1769 : decode cL_law 1769 = .ok (.iload 4, 2) := dq_at dqL_law_1747 15 rfl
theorem dL_law_1771 : decode cL_law 1771 = .ok (.iconst 2, 1) := dq_at dqL_law_1747 16 rfl
theorem dL_law_1772 : decode cL_law 1772 = .ok (.iadd, 1) := dq_at dqL_law_1747 17 rfl
theorem dL_law_1773 : decode cL_law 1773 = .ok (.iaload, 1) := dq_at dqL_law_1747 18 rfl
theorem dL_law_1774 : decode cL_law 1774 = .ok (.aload_n 3, 1) := dq_at dqL_law_1747 19 rfl
theorem dL_law_1775 : decode cL_law 1775 = .ok (.invokestatic 342, 3) := dq_at dqL_law_1747 20 rfl
theorem dL_law_1778 : decode cL_law 1778 = .ok (.istore 5, 2) := dq_at dqL_law_1747 21 rfl
theorem dL_law_1780 : decode cL_law 1780 = .ok (.aload_n 2, 1) := dq_at dqL_law_1747 22 rfl
theorem dL_law_1781 : decode cL_law 1781 = .ok (.aload_n 0, 1) := dq_at dqL_law_1747 23 rfl
theorem dL_law_1782 : decode cL_law 1782 = .ok (.iload 4, 2) := dq_at dqL_law_1747 24 rfl
theorem dL_law_1784 : decode cL_law 1784 = .ok (.iconst 1, 1) := dq_at dqL_law_1747 25 rfl
theorem dL_law_1785 : decode cL_law 1785 = .ok (.iadd, 1) := dq_at dqL_law_1747 26 rfl
theorem dL_law_1786 : decode cL_law 1786 = .ok (.iaload, 1) := dq_at dqL_law_1747 27 rfl
theorem dL_law_1787 : decode cL_law 1787 = .ok (.aload_n 0, 1) := dq_at dqL_law_1747 28 rfl
theorem dL_law_1788 : decode cL_law 1788 = .ok (.iload 4, 2) := dq_at dqL_law_1747 29 rfl
theorem dL_law_1790 : decode cL_law 1790 = .ok (.iconst 2, 1) := dq_at dqL_law_1747 30 rfl
theorem dL_law_1791 : decode cL_law 1791 = .ok (.iadd, 1) := dq_at dqL_law_1747 31 rfl
theorem dL_law_1792 : decode cL_law 1792 = .ok (.iaload, 1) := dq_at dqL_law_1747 32 rfl
theorem dL_law_1793 : decode cL_law 1793 = .ok (.invokevirtual 344, 3) := dq_at dqL_law_1747 33 rfl
theorem dL_law_1796 : decode cL_law 1796 = .ok (.istore 6, 2) := dq_at dqL_law_1747 34 rfl
theorem dL_law_1798 : decode cL_law 1798 = .ok (.goto 16, 3) := dq_at dqL_law_1747 35 rfl
theorem dL_law_1801 : decode cL_law 1801 = .ok (.aload_n 1, 1) := dq_at dqL_law_1747 36 rfl
theorem dL_law_1802 : decode cL_law 1802 = .ok (.invokevirtual 345, 3) := dq_at dqL_law_1747 37 rfl
theorem dL_law_1805 : decode cL_law 1805 = .ok (.pop, 1) := dq_at dqL_law_1747 38 rfl
theorem dL_law_1806 : decode cL_law 1806 = .ok (.aload_n 2, 1) := dq_at dqL_law_1747 39 rfl
theorem dL_law_1807 : decode cL_law 1807 = .ok (.invokevirtual 348, 3) := dq_at dqL_law_1747 40 rfl
theorem dL_law_1810 : decode cL_law 1810 = .ok (.pop, 1) := dq_at dqL_law_1747 41 rfl
theorem dL_law_1811 : decode cL_law 1811 = .ok (.goto 3, 3) := dq_at dqL_law_1747 42 rfl
theorem dL_law_1814 : decode cL_law 1814 = .ok (.iinc 4 6, 3) := dq_at dqL_law_1747 43 rfl
theorem dL_law_1817 : decode cL_law 1817 = .ok (.goto (-1794), 3) := dq_at dqL_law_1747 44 rfl
theorem dL_law_1820 : decode cL_law 1820 = .ok (.iconst 1, 1) := dq_at dqL_law_1747 45 rfl
theorem dL_law_1821 : decode cL_law 1821 = .ok (.ireturn, 1) := dq_at dqL_law_1747 46 rfl
