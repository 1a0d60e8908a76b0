section Dec
theorem dL_law__1077 : decode cL_law_ 1077 = .ok (.ifCond .ne 15, 3) := by decide +kernel
theorem dL_law__1080 : decode cL_law_ 1080 = .ok (.aload_n 3, 1) := by decide +kernel
theorem dL_law__1081 : decode cL_law_ 1081 = .ok (.iconst 0, 1) := by decide +kernel
theorem dL_law__1082 : decode cL_law_ 1082 = .ok (.laload, 1) := by decide +kernel
theorem dL_law__1083 : decode cL_law_ 1083 = .ok (.iload 6, 2) := by decide +kernel
theorem dL_law__1085 : decode cL_law_ 1085 = .ok (.i2l, 1) := by decide +kernel
theorem dL_law__1086 : decode cL_law_ 1086 = .ok (.lcmp, 1) := by decide +kernel
theorem dL_law__1087 : decode cL_law_ 1087 = .ok (.ifCond .eq 5, 3) := by decide +kernel
theorem dL_law__1090 : decode cL_law_ 1090 = .ok (.iconst 0, 1) := by decide +kernel
theorem dL_law__1091 : decode cL_law_ 1091 = .ok (.ireturn, 1) := by decide +kernel
theorem dL_law__1092 : decode cL_law_ 1092 = .ok (.goto 1600, 3) := by decide +kernel
theorem dL_law__1095 : decode cL_law_ 1095 = .ok (.aload_n 1, 1) := by decide +kernel
theorem dL_law__1096 : decode cL_law_ 1096 = .ok (.aload_n 0, 1) := by decide +kernel
theorem dL_law__1097 : decode cL_law_ 1097 = .ok (.iload 4, 2) := by decide +kernel
theorem dL_law__1099 : decode cL_law_ 1099 = .ok (.iconst 1, 1) := by decide +kernel
theorem dL_law__1100 : decode cL_law_ 1100 = .ok (.iadd, 1) := by decide +kernel
theorem dL_law__1101 : decode cL_law_ 1101 = .ok (.iaload, 1) := by decide +kernel
theorem dL_law__1102 : decode cL_law_ 1102 = .ok (.aload_n 0, 1) := by decide +kernel
theorem dL_law__1103 : decode cL_law_ 1103 = .ok (.iload 4, 2) := by decide +kernel
theorem dL_law__1105 : decode cL_law_ 1105 = .ok (.iconst 2, 1) := by decide +kernel
theorem dL_law__1106 : decode cL_law_ 1106 = .ok (.iadd, 1) := by decide +kernel
theorem dL_law__1107 : decode cL_law_ 1107 = .ok (.iaload, 1) := by decide +kernel
theorem dL_law__1108 : decode cL_law_ 1108 = .ok (.aload_n 3, 1) := by decide +kernel
theorem dL_law__1109 : decode cL_law_ 1109 = .ok (.invokestatic 178, 3) := by decide +kernel
theorem dL_law__1112 : decode cL_law_ 1112 = .ok (.istore 5, 2) := by decide +kernel
theorem dL_law__1114 : decode cL_law_ 1114 = .ok (.aload_n 2, 1) := by decide +kernel
theorem dL_law__1115 : decode cL_law_ 1115 = .ok (.aload_n 0, 1) := by decide +kernel
theorem dL_law__1116 : decode cL_law_ 1116 = .ok (.iload 4, 2) := by decide +kernel
theorem dL_law__1118 : decode cL_law_ 1118 = .ok (.iconst 1, 1) := by decide +kernel
theorem dL_law__1119 : decode cL_law_ 1119 = .ok (.iadd, 1) := by decide +kernel
theorem dL_law__1120 : decode cL_law_ 1120 = .ok (.iaload, 1) := by decide +kernel
theorem dL_law__1121 : decode cL_law_ 1121 = .ok (.aload_n 0, 1) := by decide +kernel
theorem dL_law__1122 : decode cL_law_ 1122 = .ok (.iload 4, 2) := by decide +kernel
theorem dL_law__1124 : decode cL_law_ 1124 = .ok (.iconst 2, 1) := by decide +kernel
theorem dL_law__1125 : decode cL_law_ 1125 = .ok (.iadd, 1) := by decide +kernel
theorem dL_law__1126 : decode cL_law_ 1126 = .ok (.iaload, 1) := by decide +kernel
theorem dL_law__1127 : decode cL_law_ 1127 = .ok (.invokevirtual 180, 3) := by decide +kernel
theorem dL_law__1130 : decode cL_law_ 1130 = .ok (.istore 6, 2) := by decide +kernel
theorem dL_law__1132 : decode cL_law_ 1132 = .ok (.aload_n 2, 1) := by decide +kernel
theorem dL_law__1133 : decode cL_law_ 1133 = .ok (.invokevirtual 134, 3) := by decide +kernel
theorem dL_law__1136 : decode cL_law_ 1136 = .ok (.iload 5, 2) := by decide +kernel
theorem dL_law__1138 : decode cL_law_ 1138 = .ok (.if_icmp .eq 5, 3) := by decide +kernel
theorem dL_law__1141 : decode cL_law_ 1141 = .ok (.iconst 0, 1) := by decide +kernel
theorem dL_law__1142 : decode cL_law_ 1142 = .ok (.ireturn, 1) := by decide +kernel
theorem dL_law__1143 : decode cL_law_ 1143 = .ok (.iload 5, 2) := by decide +kernel
theorem dL_law__1145 : decode cL_law_ 1145 = .ok (.ifCond .ne 15, 3) := by decide +kernel
theorem dL_law__1148 : decode cL_law_ 1148 = .ok (.aload_n 3, 1) := by decide +kernel
theorem dL_law__1149 : decode cL_law_ 1149 = .ok (.iconst 0, 1) := by decide +kernel
theorem dL_law__1150 : decode cL_law_ 1150 = .ok (.laload, 1) := by decide +kernel
theorem dL_law__1151 : decode cL_law_ 1151 = .ok (.iload 6, 2) := by decide +kernel
theorem dL_law__1153 : decode cL_law_ 1153 = .ok (.i2l, 1) := by decide +kernel
theorem dL_law__1154 : decode cL_law_ 1154 = .ok (.lcmp, 1) := by decide +kernel
theorem dL_law__1155 : decode cL_law_ 1155 = .ok (.ifCond .eq 5, 3) := by decide +kernel
theorem dL_law__1158 : decode cL_law_ 1158 = .ok (.iconst 0, 1) := by decide +kernel
theorem dL_law__1159 : decode cL_law_ 1159 = .ok (.ireturn, 1) := by decide +kernel
theorem dL_law__1160 : decode cL_law_ 1160 = .ok (.goto 1532, 3) := by decide +kernel
theorem dL_law__1163 : decode cL_law_ 1163 = .ok (.aload_n 1, 1) := by decide +kernel
theorem dL_law__1164 : decode cL_law_ 1164 = .ok (.aload_n 0, 1) := by decide +kernel
theorem dL_law__1165 : decode cL_law_ 1165 = .ok (.iload 4, 2) := by decide +kernel
theorem dL_law__1167 : decode cL_law_ 1167 = .ok (.iconst 1, 1) := by decide +kernel
theorem dL_law__1168 : decode cL_law_ 1168 = .ok (.iadd, 1) := by decide +kernel
theorem dL_law__1169 : decode cL_law_ 1169 = .ok (.iaload, 1) := by decide +kernel
theorem dL_law__1170 : decode cL_law_ 1170 = .ok (.aload_n 3, 1) := by decide +kernel
theorem dL_law__1171 : decode cL_law_ 1171 = .ok (.invokestatic 181, 3) := by decide +kernel
theorem dL_law__1174 : decode cL_law_ 1174 = .ok (.istore 5, 2) := by decide +kernel
theorem dL_law__1176 : decode cL_law_ 1176 = .ok (.aload_n 2, 1) := by decide +kernel
theorem dL_law__1177 : decode cL_law_ 1177 = .ok (.aload_n 0, 1) := by decide +kernel
theorem dL_law__1178 : decode cL_law_ 1178 = .ok (.iload 4, 2) := by decide +kernel
theorem dL_law__1180 : decode cL_law_ 1180 = .ok (.iconst 1, 1) := by decide +kernel
theorem dL_law__1181 : decode cL_law_ 1181 = .ok (.iadd, 1) := by decide +kernel
theorem dL_law__1182 : decode cL_law_ 1182 = .ok (.iaload, 1) := by decide +kernel
theorem dL_law__1183 : decode cL_law_ 1183 = .ok (.invokevirtual 183, 3) := by decide +kernel
theorem dL_law__1186 : decode cL_law_ 1186 = .ok (.istore 6, 2) := by decide +kernel
theorem dL_law__1188 : decode cL_law_ 1188 = .ok (.aload_n 2, 1) := by decide +kernel
theorem dL_law__1189 : decode cL_law_ 1189 = .ok (.invokevirtual 134, 3) := by decide +kernel
theorem dL_law__1192 : decode cL_law_ 1192 = .ok (.iload 5, 2) := by decide +kernel
theorem dL_law__1194 : decode cL_law_ 1194 = .ok (.if_icmp .eq 5, 3) := by decide +kernel
theorem dL_law__1197 : decode cL_law_ 1197 = .ok (.iconst 0, 1) := by decide +kernel
theorem dL_law__1198 : decode cL_law_ 1198 = .ok (.ireturn, 1) := by decide +kernel
theorem dL_law__1199 : decode cL_law_ 1199 = .ok (.iload 5, 2) := by decide +kernel
theorem dL_law__1201 : decode cL_law_ 1201 = .ok (.ifCond .ne 15, 3) := by decide +kernel
theorem dL_law__1204 : decode cL_law_ 1204 = .ok (.aload_n 3, 1) := by decide +kernel
theorem dL_law__1205 : decode cL_law_ 1205 = .ok (.iconst 0, 1) := by decide +kernel
theorem dL_law__1206 : decode cL_law_ 1206 = .ok (.laload, 1) := by decide +kernel
theorem dL_law__1207 : decode cL_law_ 1207 = .ok (.iload 6, 2) := by decide +kernel
theorem dL_law__1209 : decode cL_law_ 1209 = .ok (.i2l, 1) := by decide +kernel
theorem dL_law__1210 : decode cL_law_ 1210 = .ok (.lcmp, 1) := by decide +kernel
theorem dL_law__1211 : decode cL_law_ 1211 = .ok (.ifCond .eq 5, 3) := by decide +kernel
theorem dL_law__1214 : decode cL_law_ 1214 = .ok (.iconst 0, 1) := by decide +kernel
theorem dL_law__1215 : decode cL_law_ 1215 = .ok (.ireturn, 1) := by decide +kernel
theorem dL_law__1216 : decode cL_law_ 1216 = .ok (.goto 1476, 3) := by decide +kernel
theorem dL_law__1219 : decode cL_law_ 1219 = .ok (.aload_n 1, 1) := by decide +kernel
theorem dL_law__1220 : decode cL_law_ 1220 = .ok (.aload_n 0, 1) := by decide +kernel
theorem dL_law__1221 : decode cL_law_ 1221 = .ok (.iload 4, 2) := by decide +kernel
theorem dL_law__1223 : decode cL_law_ 1223 = .ok (.iconst 1, 1) := by decide +kernel
theorem dL_law__1224 : decode cL_law_ 1224 = .ok (.iadd, 1) := by decide +kernel
theorem dL_law__1225 : decode cL_law_ 1225 = .ok (.iaload, 1) := by decide +kernel
theorem dL_law__1226 : decode cL_law_ 1226 = .ok (.aload_n 3, 1) := by decide +kernel
theorem dL_law__1227 : decode cL_law_ 1227 = .ok (.invokestatic 184, 3) := by decide +kernel
theorem dL_law__1230 : decode cL_law_ 1230 = .ok (.istore 5, 2) := by decide +kernel
theorem dL_law__1232 : decode cL_law_ 1232 = .ok (.aload_n 2, 1) := by decide +kernel
theorem dL_law__1233 : decode cL_law_ 1233 = .ok (.aload_n 0, 1) := by decide +kernel
theorem dL_law__1234 : decode cL_law_ 1234 = .ok (.iload 4, 2) := by decide +kernel
theorem dL_law__1236 : decode cL_law_ 1236 = .ok (.iconst 1, 1) := by decide +kernel
theorem dL_law__1237 : decode cL_law_ 1237 = .ok (.iadd, 1) := by decide +kernel
theorem dL_law__1238 : decode cL_law_ 1238 = .ok (.iaload, 1) := by decide +kernel
theorem dL_law__1239 : decode cL_law_ 1239 = .ok (.invokevirtual 186, 3) := by decide +kernel
theorem dL_law__1242 : decode cL_law_ 1242 = .ok (.istore 6, 2) := by decide +kernel
theorem dL_law__1244 : decode cL_law_ 1244 = .ok (.aload_n 2, 1) := by decide +kernel
theorem dL_law__1245 : decode cL_law_ 1245 = .ok (.invokevirtual 134, 3) := by decide +kernel
theorem dL_law__1248 : decode cL_law_ 1248 = .ok (.iload 5, 2) := by decide +kernel
theorem dL_law__1250 : decode cL_law_ 1250 = .ok (.if_icmp .eq 5, 3) := by decide +kernel
theorem dL_law__1253 : decode cL_law_ 1253 = .ok (.iconst 0, 1) := by decide +kernel
theorem dL_law__1254 : decode cL_law_ 1254 = .ok (.ireturn, 1) := by decide +kernel
theorem dL_law__1255 : decode cL_law_ 1255 = .ok (.iload 5, 2) := by decide +kernel
theorem dL_law__1257 : decode cL_law_ 1257 = .ok (.ifCond .ne 15, 3) := by decide +kernel
theorem dL_law__1260 : decode cL_law_ 1260 = .ok (.aload_n 3, 1) := by decide +kernel
theorem dL_law__1261 : decode cL_law_ 1261 = .ok (.iconst 0, 1) := by decide +kernel
theorem dL_law__1262 : decode cL_law_ 1262 = .ok (.laload, 1) := by decide +kernel
theorem dL_law__1263 : decode cL_law_ 1263 = .ok (.iload 6, 2) := by decide +kernel
theorem dL_law__1265 : decode cL_law_ 1265 = .ok (.i2l, 1) := by decide +kernel
theorem dL_law__1266 : decode cL_law_ 1266 = .ok (.lcmp, 1) := by decide +kernel
theorem dL_law__1267 : decode cL_law_ 1267 = .ok (.ifCond .eq 5, 3) := by decide +kernel
theorem dL_law__1270 : decode cL_law_ 1270 = .ok (.iconst 0, 1) := by decide +kernel
theorem dL_law__1271 : decode cL_law_ 1271 = .ok (.ireturn, 1) := by decide +kernel
theorem dL_law__1272 : decode cL_law_ 1272 = .ok (.goto 1420, 3) := by decide +kernel
theorem dL_law__1275 : decode cL_law_ 1275 = .ok (.aload_n 1, 1) := by decide +kernel
theorem dL_law__1276 : decode cL_law_ 1276 = .ok (.aload_n 0, 1) := by decide +kernel
theorem dL_law__1277 : decode cL_law_ 1277 = .ok (.iload 4, 2) := by decide +kernel
theorem dL_law__1279 : decode cL_law_ 1279 = .ok (.iconst 1, 1) := by decide +kernel
theorem dL_law__1280 : decode cL_law_ 1280 = .ok (.iadd, 1) := by decide +kernel
theorem dL_law__1281 : decode cL_law_ 1281 = .ok (.iaload, 1) := by decide +kernel
theorem dL_law__1282 : decode cL_law_ 1282 = .ok (.aload_n 0, 1) := by decide +kernel
theorem dL_law__1283 : decode cL_law_ 1283 = .ok (.iload 4, 2) := by decide +kernel
theorem dL_law__1285 : decode cL_law_ 1285 = .ok (.iconst 2, 1) := by decide +kernel
theorem dL_law__1286 : decode cL_law_ 1286 = .ok (.iadd, 1) := by decide +kernel
theorem dL_law__1287 : decode cL_law_ 1287 = .ok (.iaload, 1) := by decide +kernel
theorem dL_law__1288 : decode cL_law_ 1288 = .ok (.aload_n 3, 1) := by decide +kernel
theorem dL_law__1289 : decode cL_law_ 1289 = .ok (.invokestatic 187, 3) := by decide +kernel
theorem dL_law__1292 : decode cL_law_ 1292 = .ok (.istore 5, 2) := by decide +kernel
theorem dL_law__1294 : decode cL_law_ 1294 = .ok (.aload_n 2, 1) := by decide +kernel
theorem dL_law__1295 : decode cL_law_ 1295 = .ok (.aload_n 0, 1) := by decide +kernel
theorem dL_law__1296 : decode cL_law_ 1296 = .ok (.iload 4, 2) := by decide +kernel
theorem dL_law__1298 : decode cL_law_ 1298 = .ok (.iconst 1, 1) := by decide +kernel
theorem dL_law__1299 : decode cL_law_ 1299 = .ok (.iadd, 1) := by decide +kernel
theorem dL_law__1300 : decode cL_law_ 1300 = .ok (.iaload, 1) := by decide +kernel
theorem dL_law__1301 : decode cL_law_ 1301 = .ok (.aload_n 0, 1) := by decide +kernel
theorem dL_law__1302 : decode cL_law_ 1302 = .ok (.iload 4, 2) := by decide +kernel
theorem dL_law__1304 : decode cL_law_ 1304 = .ok (.iconst 2, 1) := by decide +kernel
theorem dL_law__1305 : decode cL_law_ 1305 = .ok (.iadd, 1) := by decide +kernel
theorem dL_law__1306 : decode cL_law_ 1306 = .ok (.iaload, 1) := by decide +kernel
theorem dL_law__1307 : decode cL_law_ 1307 = .ok (.invokevirtual 189, 3) := by decide +kernel
theorem dL_law__1310 : decode cL_law_ 1310 = .ok (.istore 6, 2) := by decide +kernel
theorem dL_law__1312 : decode cL_law_ 1312 = .ok (.aload_n 2, 1) := by decide +kernel
theorem dL_law__1313 : decode cL_law_ 1313 = .ok (.invokevirtual 134, 3) := by decide +kernel
theorem dL_law__1316 : decode cL_law_ 1316 = .ok (.iload 5, 2) := by decide +kernel
theorem dL_law__1318 : decode cL_law_ 1318 = .ok (.if_icmp .eq 5, 3) := by decide +kernel
theorem dL_law__1321 : decode cL_law_ 1321 = .ok (.iconst 0, 1) := by decide +kernel
theorem dL_law__1322 : decode cL_law_ 1322 = .ok (.ireturn, 1) := by decide +kernel
theorem dL_law__1323 : decode cL_law_ 1323 = .ok (.iload 5, 2) := by decide +kernel
theorem dL_law__1325 : decode cL_law_ 1325 = .ok (.ifCond .ne 15, 3) := by decide +kernel
theorem dL_law__1328 : decode cL_law_ 1328 = .ok (.aload_n 3, 1) := by decide +kernel
theorem dL_law__1329 : decode cL_law_ 1329 = .ok (.iconst 0, 1) := by decide +kernel
theorem dL_law__1330 : decode cL_law_ 1330 = .ok (.laload, 1) := by decide +kernel
theorem dL_law__1331 : decode cL_law_ 1331 = .ok (.iload 6, 2) := by decide +kernel
theorem dL_law__1333 : decode cL_law_ 1333 = .ok (.i2l, 1) := by decide +kernel
theorem dL_law__1334 : decode cL_law_ 1334 = .ok (.lcmp, 1) := by decide +kernel
theorem dL_law__1335 : decode cL_law_ 1335 = .ok (.ifCond .eq 5, 3) := by decide +kernel
theorem dL_law__1338 : decode cL_law_ 1338 = .ok (.iconst 0, 1) := by decide +kernel
theorem dL_law__1339 : decode cL_law_ 1339 = .ok (.ireturn, 1) := by decide +kernel
theorem dL_law__1340 : decode cL_law_ 1340 = .ok (.goto 1352, 3) := by decide +kernel
theorem dL_law__1343 : decode cL_law_ 1343 = .ok (.aload_n 1, 1) := by decide +kernel
theorem dL_law__1344 : decode cL_law_ 1344 = .ok (.aload_n 0, 1) := by decide +kernel
theorem dL_law__1345 : decode cL_law_ 1345 = .ok (.iload 4, 2) := by decide +kernel
theorem dL_law__1347 : decode cL_law_ 1347 = .ok (.iconst 1, 1) := by decide +kernel
theorem dL_law__1348 : decode cL_law_ 1348 = .ok (.iadd, 1) := by decide +kernel
theorem dL_law__1349 : decode cL_law_ 1349 = .ok (.iaload, 1) := by decide +kernel
theorem dL_law__1350 : decode cL_law_ 1350 = .ok (.aload_n 3, 1) := by decide +kernel
theorem dL_law__1351 : decode cL_law_ 1351 = .ok (.invokestatic 190, 3) := by decide +kernel
theorem dL_law__1354 : decode cL_law_ 1354 = .ok (.istore 5, 2) := by decide +kernel
theorem dL_law__1356 : decode cL_law_ 1356 = .ok (.aload_n 2, 1) := by decide +kernel
theorem dL_law__1357 : decode cL_law_ 1357 = .ok (.aload_n 0, 1) := by decide +kernel
theorem dL_law__1358 : decode cL_law_ 1358 = .ok (.iload 4, 2) := by decide +kernel
theorem dL_law__1360 : decode cL_law_ 1360 = .ok (.iconst 1, 1) := by decide +kernel
theorem dL_law__1361 : decode cL_law_ 1361 = .ok (.iadd, 1) := by decide +kernel
theorem dL_law__1362 : decode cL_law_ 1362 = .ok (.iaload, 1) := by decide +kernel
theorem dL_law__1363 : decode cL_law_ 1363 = .ok (.invokevirtual 192, 3) := by decide +kernel
theorem dL_law__1366 : decode cL_law_ 1366 = .ok (.istore 6, 2) := by decide +kernel
theorem dL_law__1368 : decode cL_law_ 1368 = .ok (.aload_n 2, 1) := by decide +kernel
theorem dL_law__1369 : decode cL_law_ 1369 = .ok (.invokevirtual 134, 3) := by decide +kernel
theorem dL_law__1372 : decode cL_law_ 1372 = .ok (.iload 5, 2) := by decide +kernel
theorem dL_law__1374 : decode cL_law_ 1374 = .ok (.if_icmp .eq 5, 3) := by decide +kernel
theorem dL_law__1377 : decode cL_law_ 1377 = .ok (.iconst 0, 1) := by decide +kernel
theorem dL_law__1378 : decode cL_law_ 1378 = .ok (.ireturn, 1) := by decide +kernel
theorem dL_law__1379 : decode cL_law_ 1379 = .ok (.iload 5, 2) := by decide +kernel
theorem dL_law__1381 : decode cL_law_ 1381 = .ok (.ifCond .ne 15, 3) := by decide +kernel
theorem dL_law__1384 : decode cL_law_ 1384 = .ok (.aload_n 3, 1) := by decide +kernel
theorem dL_law__1385 : decode cL_law_ 1385 = .ok (.iconst 0, 1) := by decide +kernel
theorem dL_law__1386 : decode cL_law_ 1386 = .ok (.laload, 1) := by decide +kernel
theorem dL_law__1387 : decode cL_law_ 1387 = .ok (.iload 6, 2) := by decide +kernel
theorem dL_law__1389 : decode cL_law_ 1389 = .ok (.i2l, 1) := by decide +kernel
theorem dL_law__1390 : decode cL_law_ 1390 = .ok (.lcmp, 1) := by decide +kernel
theorem dL_law__1391 : decode cL_law_ 1391 = .ok (.ifCond .eq 5, 3) := by decide +kernel
theorem dL_law__1394 : decode cL_law_ 1394 = .ok (.iconst 0, 1) := by decide +kernel
theorem dL_law__1395 : decode cL_law_ 1395 = .ok (.ireturn, 1) := by decide +kernel
theorem dL_law__1396 : decode cL_law_ 1396 = .ok (.goto 1296, 3) := by decide +kernel
theorem dL_law__1399 : decode cL_law_ 1399 = .ok (.aload_n 1, 1) := by decide +kernel
theorem dL_law__1400 : decode cL_law_ 1400 = .ok (.aload_n 0, 1) := by decide +kernel
theorem dL_law__1401 : decode cL_law_ 1401 = .ok (.iload 4, 2) := by decide +kernel
theorem dL_law__1403 : decode cL_law_ 1403 = .ok (.iconst 1, 1) := by decide +kernel
theorem dL_law__1404 : decode cL_law_ 1404 = .ok (.iadd, 1) := by decide +kernel
theorem dL_law__1405 : decode cL_law_ 1405 = .ok (.iaload, 1) := by decide +kernel
theorem dL_law__1406 : decode cL_law_ 1406 = .ok (.aload_n 0, 1) := by decide +kernel
theorem dL_law__1407 : decode cL_law_ 1407 = .ok (.iload 4, 2) := by decide +kernel
theorem dL_law__1409 : decode cL_law_ 1409 = .ok (.iconst 2, 1) := by decide +kernel
theorem dL_law__1410 : decode cL_law_ 1410 = .ok (.iadd, 1) := by decide +kernel
theorem dL_law__1411 : decode cL_law_ 1411 = .ok (.iaload, 1) := by decide +kernel
theorem dL_law__1412 : decode cL_law_ 1412 = .ok (.aload_n 3, 1) := by decide +kernel
theorem dL_law__1413 : decode cL_law_ 1413 = .ok (.invokestatic 193, 3) := by decide +kernel
theorem dL_law__1416 : decode cL_law_ 1416 = .ok (.istore 5, 2) := by decide +kernel
theorem dL_law__1418 : decode cL_law_ 1418 = .ok (.aload_n 2, 1) := by decide +kernel
theorem dL_law__1419 : decode cL_law_ 1419 = .ok (.aload_n 0, 1) := by decide +kernel
theorem dL_law__1420 : decode cL_law_ 1420 = .ok (.iload 4, 2) := by decide +kernel
theorem dL_law__1422 : decode cL_law_ 1422 = .ok (.iconst 1, 1) := by decide +kernel
theorem dL_law__1423 : decode cL_law_ 1423 = .ok (.iadd, 1) := by decide +kernel
theorem dL_law__1424 : decode cL_law_ 1424 = .ok (.iaload, 1) := by decide +kernel
theorem dL_law__1425 : decode cL_law_ 1425 = .ok (.aload_n 0, 1) := by decide +kernel
theorem dL_law__1426 : decode cL_law_ 1426 = .ok (.iload 4, 2) := by decide +kernel
theorem dL_law__1428 : decode cL_law_ 1428 = .ok (.iconst 2, 1) := by decide +kernel
theorem dL_law__1429 : decode cL_law_ 1429 = .ok (.iadd, 1) := by decide +kernel
theorem dL_law__1430 : decode cL_law_ 1430 = .ok (.iaload, 1) := by decide +kernel
theorem dL_law__1431 : decode cL_law_ 1431 = .ok (.invokevirtual 195, 3) := by decide +kernel
theorem dL_law__1434 : decode cL_law_ 1434 = .ok (.istore 6, 2) := by decide +kernel
theorem dL_law__1436 : decode cL_law_ 1436 = .ok (.aload_n 2, 1) := by decide +kernel
theorem dL_law__1437 : decode cL_law_ 1437 = .ok (.invokevirtual 134, 3) := by decide +kernel
theorem dL_law__1440 : decode cL_law_ 1440 = .ok (.iload 5, 2) := by decide +kernel
theorem dL_law__1442 : decode cL_law_ 1442 = .ok (.if_icmp .eq 5, 3) := by decide +kernel
theorem dL_law__1445 : decode cL_law_ 1445 = .ok (.iconst 0, 1) := by decide +kernel
theorem dL_law__1446 : decode cL_law_ 1446 = .ok (.ireturn, 1) := by decide +kernel
theorem dL_law__1447 : decode cL_law_ 1447 = .ok (.iload 5, 2) := by decide +kernel
theorem dL_law__1449 : decode cL_law_ 1449 = .ok (.ifCond .ne 15, 3) := by decide +kernel
theorem dL_law__1452 : decode cL_law_ 1452 = .ok (.aload_n 3, 1) := by decide +kernel
theorem dL_law__1453 : decode cL_law_ 1453 = .ok (.iconst 0, 1) := by decide +kernel
theorem dL_law__1454 : decode cL_law_ 1454 = .ok (.laload, 1) := by decide +kernel
theorem dL_law__1455 : decode cL_law_ 1455 = .ok (.iload 6, 2) := by decide +kernel
theorem dL_law__1457 : decode cL_law_ 1457 = .ok (.i2l, 1) := by decide +kernel
theorem dL_law__1458 : decode cL_law_ 1458 = .ok (.lcmp, 1) := by decide +kernel
theorem dL_law__1459 : decode cL_law_ 1459 = .ok (.ifCond .eq 5, 3) := by decide +kernel
theorem dL_law__1462 : decode cL_law_ 1462 = .ok (.iconst 0, 1) := by decide +kernel
theorem dL_law__1463 : decode cL_law_ 1463 = .ok (.ireturn, 1) := by decide +kernel
theorem dL_law__1464 : decode cL_law_ 1464 = .ok (.goto 1228, 3) := by decide +kernel
theorem dL_law__1467 : decode cL_law_ 1467 = .ok (.aload_n 1, 1) := by decide +kernel
theorem dL_law__1468 : decode cL_law_ 1468 = .ok (.aload_n 0, 1) := by decide +kernel
theorem dL_law__1469 : decode cL_law_ 1469 = .ok (.iload 4, 2) := by decide +kernel
theorem dL_law__1471 : decode cL_law_ 1471 = .ok (.iconst 1, 1) := by decide +kernel
theorem dL_law__1472 : decode cL_law_ 1472 = .ok (.iadd, 1) := by decide +kernel
theorem dL_law__1473 : decode cL_law_ 1473 = .ok (.iaload, 1) := by decide +kernel
theorem dL_law__1474 : decode cL_law_ 1474 = .ok (.aload_n 3, 1) := by decide +kernel
theorem dL_law__1475 : decode cL_law_ 1475 = .ok (.invokestatic 196, 3) := by decide +kernel
theorem dL_law__1478 : decode cL_law_ 1478 = .ok (.istore 5, 2) := by decide +kernel
theorem dL_law__1480 : decode cL_law_ 1480 = .ok (.aload_n 2, 1) := by decide +kernel
theorem dL_law__1481 : decode cL_law_ 1481 = .ok (.aload_n 0, 1) := by decide +kernel
theorem dL_law__1482 : decode cL_law_ 1482 = .ok (.iload 4, 2) := by decide +kernel
theorem dL_law__1484 : decode cL_law_ 1484 = .ok (.iconst 1, 1) := by decide +kernel
theorem dL_law__1485 : decode cL_law_ 1485 = .ok (.iadd, 1) := by decide +kernel
theorem dL_law__1486 : decode cL_law_ 1486 = .ok (.iaload, 1) := by decide +kernel
theorem dL_law__1487 : decode cL_law_ 1487 = .ok (.invokevirtual 198, 3) := by decide +kernel
theorem dL_law__1490 : decode cL_law_ 1490 = .ok (.istore 6, 2) := by decide +kernel
theorem dL_law__1492 : decode cL_law_ 1492 = .ok (.aload_n 2, 1) := by decide +kernel
theorem dL_law__1493 : decode cL_law_ 1493 = .ok (.invokevirtual 134, 3) := by decide +kernel
theorem dL_law__1496 : decode cL_law_ 1496 = .ok (.iload 5, 2) := by decide +kernel
theorem dL_law__1498 : decode cL_law_ 1498 = .ok (.if_icmp .eq 5, 3) := by decide +kernel
theorem dL_law__1501 : decode cL_law_ 1501 = .ok (.iconst 0, 1) := by decide +kernel
theorem dL_law__1502 : decode cL_law_ 1502 = .ok (.ireturn, 1) := by decide +kernel
theorem dL_law__1503 : decode cL_law_ 1503 = .ok (.iload 5, 2) := by decide +kernel
theorem dL_law__1505 : decode cL_law_ 1505 = .ok (.ifCond .ne 15, 3) := by decide +kernel
theorem dL_law__1508 : decode cL_law_ 1508 = .ok (.aload_n 3, 1) := by decide +kernel
theorem dL_law__1509 : decode cL_law_ 1509 = .ok (.iconst 0, 1) := by decide +kernel
theorem dL_law__1510 : decode cL_law_ 1510 = .ok (.laload, 1) := by decide +kernel
theorem dL_law__1511 : decode cL_law_ 1511 = .ok (.iload 6, 2) := by decide +kernel
theorem dL_law__1513 : decode cL_law_ 1513 = .ok (.i2l, 1) := by decide +kernel
theorem dL_law__1514 : decode cL_law_ 1514 = .ok (.lcmp, 1) := by decide +kernel
theorem dL_law__1515 : decode cL_law_ 1515 = .ok (.ifCond .eq 5, 3) := by decide +kernel
theorem dL_law__1518 : decode cL_law_ 1518 = .ok (.iconst 0, 1) := by decide +kernel
theorem dL_law__1519 : decode cL_law_ 1519 = .ok (.ireturn, 1) := by decide +kernel
theorem dL_law__1520 : decode cL_law_ 1520 = .ok (.goto 1172, 3) := by decide +kernel
theorem dL_law__1523 : decode cL_law_ 1523 = .ok (.aload_n 1, 1) := by decide +kernel
theorem dL_law__1524 : decode cL_law_ 1524 = .ok (.aload_n 0, 1) := by decide +kernel
theorem dL_law__1525 : decode cL_law_ 1525 = .ok (.iload 4, 2) := by decide +kernel
theorem dL_law__1527 : decode cL_law_ 1527 = .ok (.iconst 1, 1) := by decide +kernel
theorem dL_law__1528 : decode cL_law_ 1528 = .ok (.iadd, 1) := by decide +kernel
theorem dL_law__1529 : decode cL_law_ 1529 = .ok (.iaload, 1) := by decide +kernel
theorem dL_law__1530 : decode cL_law_ 1530 = .ok (.aload_n 3, 1) := by decide +kernel
theorem dL_law__1531 : decode cL_law_ 1531 = .ok (.invokestatic 199, 3) := by decide +kernel
theorem dL_law__1534 : decode cL_law_ 1534 = .ok (.istore 5, 2) := by decide +kernel
theorem dL_law__1536 : decode cL_law_ 1536 = .ok (.aload_n 2, 1) := by decide +kernel
theorem dL_law__1537 : decode cL_law_ 1537 = .ok (.aload_n 0, 1) := by decide +kernel
theorem dL_law__1538 : decode cL_law_ 1538 = .ok (.iload 4, 2) := by decide +kernel
theorem dL_law__1540 : decode cL_law_ 1540 = .ok (.iconst 1, 1) := by decide +kernel
theorem dL_law__1541 : decode cL_law_ 1541 = .ok (.iadd, 1) := by decide +kernel
end Dec
