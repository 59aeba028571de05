/-! the decode rows of the law, 2 -/
theorem dL_law__1109 : decode cL_law_ 1109 = .ok (.iload 4, 2) := by decide +kernel
theorem dL_law__1111 : decode cL_law_ 1111 = .ok (.iconst 1, 1) := by decide +kernel
theorem dL_law__1112 : decode cL_law_ 1112 = .ok (.iadd, 1) := by decide +kernel
theorem dL_law__1113 : decode cL_law_ 1113 = .ok (.iaload, 1) := by decide +kernel
theorem dL_law__1114 : decode cL_law_ 1114 = .ok (.aload_n 0, 1) := by decide +kernel
theorem dL_law__1115 : decode cL_law_ 1115 = .ok (.iload 4, 2) := by decide +kernel
theorem dL_law__1117 : decode cL_law_ 1117 = .ok (.iconst 2, 1) := by decide +kernel
theorem dL_law__1118 : decode cL_law_ 1118 = .ok (.iadd, 1) := by decide +kernel
theorem dL_law__1119 : decode cL_law_ 1119 = .ok (.iaload, 1) := by decide +kernel
theorem dL_law__1120 : decode cL_law_ 1120 = .ok (.aload_n 3, 1) := by decide +kernel
theorem dL_law__1121 : decode cL_law_ 1121 = .ok (.invokestatic 152, 3) := by decide +kernel
theorem dL_law__1124 : decode cL_law_ 1124 = .ok (.istore 5, 2) := by decide +kernel
theorem dL_law__1126 : decode cL_law_ 1126 = .ok (.aload_n 2, 1) := by decide +kernel
theorem dL_law__1127 : decode cL_law_ 1127 = .ok (.aload_n 0, 1) := by decide +kernel
theorem dL_law__1128 : decode cL_law_ 1128 = .ok (.iload 4, 2) := by decide +kernel
theorem dL_law__1130 : decode cL_law_ 1130 = .ok (.iconst 1, 1) := by decide +kernel
theorem dL_law__1131 : decode cL_law_ 1131 = .ok (.iadd, 1) := by decide +kernel
theorem dL_law__1132 : decode cL_law_ 1132 = .ok (.iaload, 1) := by decide +kernel
theorem dL_law__1133 : decode cL_law_ 1133 = .ok (.aload_n 0, 1) := by decide +kernel
theorem dL_law__1134 : decode cL_law_ 1134 = .ok (.iload 4, 2) := by decide +kernel
theorem dL_law__1136 : decode cL_law_ 1136 = .ok (.iconst 2, 1) := by decide +kernel
theorem dL_law__1137 : decode cL_law_ 1137 = .ok (.iadd, 1) := by decide +kernel
theorem dL_law__1138 : decode cL_law_ 1138 = .ok (.iaload, 1) := by decide +kernel
theorem dL_law__1139 : decode cL_law_ 1139 = .ok (.invokevirtual 154, 3) := by decide +kernel
theorem dL_law__1142 : decode cL_law_ 1142 = .ok (.istore 6, 2) := by decide +kernel
theorem dL_law__1144 : decode cL_law_ 1144 = .ok (.aload_n 2, 1) := by decide +kernel
theorem dL_law__1145 : decode cL_law_ 1145 = .ok (.invokevirtual 104, 3) := by decide +kernel
theorem dL_law__1148 : decode cL_law_ 1148 = .ok (.iload 5, 2) := by decide +kernel
theorem dL_law__1150 : decode cL_law_ 1150 = .ok (.if_icmp .eq 5, 3) := by decide +kernel
theorem dL_law__1153 : decode cL_law_ 1153 = .ok (.iconst 0, 1) := by decide +kernel
theorem dL_law__1154 : decode cL_law_ 1154 = .ok (.ireturn, 1) := by decide +kernel
theorem dL_law__1155 : decode cL_law_ 1155 = .ok (.iload 5, 2) := by decide +kernel
theorem dL_law__1157 : decode cL_law_ 1157 = .ok (.ifCond .ne 15, 3) := by decide +kernel
theorem dL_law__1160 : decode cL_law_ 1160 = .ok (.aload_n 3, 1) := by decide +kernel
theorem dL_law__1161 : decode cL_law_ 1161 = .ok (.iconst 0, 1) := by decide +kernel
theorem dL_law__1162 : decode cL_law_ 1162 = .ok (.laload, 1) := by decide +kernel
theorem dL_law__1163 : decode cL_law_ 1163 = .ok (.iload 6, 2) := by decide +kernel
theorem dL_law__1165 : decode cL_law_ 1165 = .ok (.i2l, 1) := by decide +kernel
theorem dL_law__1166 : decode cL_law_ 1166 = .ok (.lcmp, 1) := by decide +kernel
theorem dL_law__1167 : decode cL_law_ 1167 = .ok (.ifCond .eq 5, 3) := by decide +kernel
theorem dL_law__1170 : decode cL_law_ 1170 = .ok (.iconst 0, 1) := by decide +kernel
theorem dL_law__1171 : decode cL_law_ 1171 = .ok (.ireturn, 1) := by decide +kernel
theorem dL_law__1172 : decode cL_law_ 1172 = .ok (.goto 897, 3) := by decide +kernel
theorem dL_law__1175 : decode cL_law_ 1175 = .ok (.aload_n 1, 1) := by decide +kernel
theorem dL_law__1176 : decode cL_law_ 1176 = .ok (.invokevirtual 155, 3) := by decide +kernel
theorem dL_law__1179 : decode cL_law_ 1179 = .ok (.aload_n 2, 1) := by decide +kernel
theorem dL_law__1180 : decode cL_law_ 1180 = .ok (.invokevirtual 158, 3) := by decide +kernel
theorem dL_law__1183 : decode cL_law_ 1183 = .ok (.if_icmp .eq 886, 3) := by decide +kernel
theorem dL_law__1186 : decode cL_law_ 1186 = .ok (.iconst 0, 1) := by decide +kernel
theorem dL_law__1187 : decode cL_law_ 1187 = .ok (.ireturn, 1) := by decide +kernel
theorem dL_law__1188 : decode cL_law_ 1188 = .ok (.aload_n 1, 1) := by decide +kernel
theorem dL_law__1189 : decode cL_law_ 1189 = .ok (.aload_n 0, 1) := by decide +kernel
theorem dL_law__1190 : decode cL_law_ 1190 = .ok (.iload 4, 2) := by decide +kernel
theorem dL_law__1192 : decode cL_law_ 1192 = .ok (.iconst 1, 1) := by decide +kernel
theorem dL_law__1193 : decode cL_law_ 1193 = .ok (.iadd, 1) := by decide +kernel
theorem dL_law__1194 : decode cL_law_ 1194 = .ok (.iaload, 1) := by decide +kernel
theorem dL_law__1195 : decode cL_law_ 1195 = .ok (.aload_n 0, 1) := by decide +kernel
theorem dL_law__1196 : decode cL_law_ 1196 = .ok (.iload 4, 2) := by decide +kernel
theorem dL_law__1198 : decode cL_law_ 1198 = .ok (.iconst 2, 1) := by decide +kernel
theorem dL_law__1199 : decode cL_law_ 1199 = .ok (.iadd, 1) := by decide +kernel
theorem dL_law__1200 : decode cL_law_ 1200 = .ok (.iaload, 1) := by decide +kernel
theorem dL_law__1201 : decode cL_law_ 1201 = .ok (.aload_n 3, 1) := by decide +kernel
theorem dL_law__1202 : decode cL_law_ 1202 = .ok (.invokestatic 159, 3) := by decide +kernel
theorem dL_law__1205 : decode cL_law_ 1205 = .ok (.istore 5, 2) := by decide +kernel
theorem dL_law__1207 : decode cL_law_ 1207 = .ok (.aload_n 2, 1) := by decide +kernel
theorem dL_law__1208 : decode cL_law_ 1208 = .ok (.aload_n 0, 1) := by decide +kernel
theorem dL_law__1209 : decode cL_law_ 1209 = .ok (.iload 4, 2) := by decide +kernel
theorem dL_law__1211 : decode cL_law_ 1211 = .ok (.iconst 1, 1) := by decide +kernel
theorem dL_law__1212 : decode cL_law_ 1212 = .ok (.iadd, 1) := by decide +kernel
theorem dL_law__1213 : decode cL_law_ 1213 = .ok (.iaload, 1) := by decide +kernel
theorem dL_law__1214 : decode cL_law_ 1214 = .ok (.aload_n 0, 1) := by decide +kernel
theorem dL_law__1215 : decode cL_law_ 1215 = .ok (.iload 4, 2) := by decide +kernel
theorem dL_law__1217 : decode cL_law_ 1217 = .ok (.iconst 2, 1) := by decide +kernel
theorem dL_law__1218 : decode cL_law_ 1218 = .ok (.iadd, 1) := by decide +kernel
theorem dL_law__1219 : decode cL_law_ 1219 = .ok (.iaload, 1) := by decide +kernel
theorem dL_law__1220 : decode cL_law_ 1220 = .ok (.invokevirtual 161, 3) := by decide +kernel
theorem dL_law__1223 : decode cL_law_ 1223 = .ok (.istore 6, 2) := by decide +kernel
theorem dL_law__1225 : decode cL_law_ 1225 = .ok (.aload_n 2, 1) := by decide +kernel
theorem dL_law__1226 : decode cL_law_ 1226 = .ok (.invokevirtual 104, 3) := by decide +kernel
theorem dL_law__1229 : decode cL_law_ 1229 = .ok (.iload 5, 2) := by decide +kernel
theorem dL_law__1231 : decode cL_law_ 1231 = .ok (.if_icmp .eq 5, 3) := by decide +kernel
theorem dL_law__1234 : decode cL_law_ 1234 = .ok (.iconst 0, 1) := by decide +kernel
theorem dL_law__1235 : decode cL_law_ 1235 = .ok (.ireturn, 1) := by decide +kernel
theorem dL_law__1236 : decode cL_law_ 1236 = .ok (.iload 5, 2) := by decide +kernel
theorem dL_law__1238 : decode cL_law_ 1238 = .ok (.ifCond .ne 15, 3) := by decide +kernel
theorem dL_law__1241 : decode cL_law_ 1241 = .ok (.aload_n 3, 1) := by decide +kernel
theorem dL_law__1242 : decode cL_law_ 1242 = .ok (.iconst 0, 1) := by decide +kernel
theorem dL_law__1243 : decode cL_law_ 1243 = .ok (.laload, 1) := by decide +kernel
theorem dL_law__1244 : decode cL_law_ 1244 = .ok (.iload 6, 2) := by decide +kernel
theorem dL_law__1246 : decode cL_law_ 1246 = .ok (.i2l, 1) := by decide +kernel
theorem dL_law__1247 : decode cL_law_ 1247 = .ok (.lcmp, 1) := by decide +kernel
theorem dL_law__1248 : decode cL_law_ 1248 = .ok (.ifCond .eq 5, 3) := by decide +kernel
theorem dL_law__1251 : decode cL_law_ 1251 = .ok (.iconst 0, 1) := by decide +kernel
theorem dL_law__1252 : decode cL_law_ 1252 = .ok (.ireturn, 1) := by decide +kernel
theorem dL_law__1253 : decode cL_law_ 1253 = .ok (.goto 816, 3) := by decide +kernel
theorem dL_law__1256 : decode cL_law_ 1256 = .ok (.aload_n 1, 1) := by decide +kernel
theorem dL_law__1257 : decode cL_law_ 1257 = .ok (.aload_n 0, 1) := by decide +kernel
theorem dL_law__1258 : decode cL_law_ 1258 = .ok (.iload 4, 2) := by decide +kernel
theorem dL_law__1260 : decode cL_law_ 1260 = .ok (.iconst 1, 1) := by decide +kernel
theorem dL_law__1261 : decode cL_law_ 1261 = .ok (.iadd, 1) := by decide +kernel
theorem dL_law__1262 : decode cL_law_ 1262 = .ok (.iaload, 1) := by decide +kernel
theorem dL_law__1263 : decode cL_law_ 1263 = .ok (.aload_n 3, 1) := by decide +kernel
theorem dL_law__1264 : decode cL_law_ 1264 = .ok (.invokestatic 162, 3) := by decide +kernel
theorem dL_law__1267 : decode cL_law_ 1267 = .ok (.istore 5, 2) := by decide +kernel
theorem dL_law__1269 : decode cL_law_ 1269 = .ok (.aload_n 2, 1) := by decide +kernel
theorem dL_law__1270 : decode cL_law_ 1270 = .ok (.aload_n 0, 1) := by decide +kernel
theorem dL_law__1271 : decode cL_law_ 1271 = .ok (.iload 4, 2) := by decide +kernel
theorem dL_law__1273 : decode cL_law_ 1273 = .ok (.iconst 1, 1) := by decide +kernel
theorem dL_law__1274 : decode cL_law_ 1274 = .ok (.iadd, 1) := by decide +kernel
theorem dL_law__1275 : decode cL_law_ 1275 = .ok (.iaload, 1) := by decide +kernel
theorem dL_law__1276 : decode cL_law_ 1276 = .ok (.invokevirtual 164, 3) := by decide +kernel
theorem dL_law__1279 : decode cL_law_ 1279 = .ok (.istore 6, 2) := by decide +kernel
theorem dL_law__1281 : decode cL_law_ 1281 = .ok (.aload_n 2, 1) := by decide +kernel
theorem dL_law__1282 : decode cL_law_ 1282 = .ok (.invokevirtual 104, 3) := by decide +kernel
theorem dL_law__1285 : decode cL_law_ 1285 = .ok (.iload 5, 2) := by decide +kernel
theorem dL_law__1287 : decode cL_law_ 1287 = .ok (.if_icmp .eq 5, 3) := by decide +kernel
theorem dL_law__1290 : decode cL_law_ 1290 = .ok (.iconst 0, 1) := by decide +kernel
theorem dL_law__1291 : decode cL_law_ 1291 = .ok (.ireturn, 1) := by decide +kernel
theorem dL_law__1292 : decode cL_law_ 1292 = .ok (.iload 5, 2) := by decide +kernel
theorem dL_law__1294 : decode cL_law_ 1294 = .ok (.ifCond .ne 15, 3) := by decide +kernel
theorem dL_law__1297 : decode cL_law_ 1297 = .ok (.aload_n 3, 1) := by decide +kernel
theorem dL_law__1298 : decode cL_law_ 1298 = .ok (.iconst 0, 1) := by decide +kernel
theorem dL_law__1299 : decode cL_law_ 1299 = .ok (.laload, 1) := by decide +kernel
theorem dL_law__1300 : decode cL_law_ 1300 = .ok (.iload 6, 2) := by decide +kernel
theorem dL_law__1302 : decode cL_law_ 1302 = .ok (.i2l, 1) := by decide +kernel
theorem dL_law__1303 : decode cL_law_ 1303 = .ok (.lcmp, 1) := by decide +kernel
theorem dL_law__1304 : decode cL_law_ 1304 = .ok (.ifCond .eq 5, 3) := by decide +kernel
theorem dL_law__1307 : decode cL_law_ 1307 = .ok (.iconst 0, 1) := by decide +kernel
theorem dL_law__1308 : decode cL_law_ 1308 = .ok (.ireturn, 1) := by decide +kernel
theorem dL_law__1309 : decode cL_law_ 1309 = .ok (.goto 760, 3) := by decide +kernel
theorem dL_law__1312 : decode cL_law_ 1312 = .ok (.aload_n 1, 1) := by decide +kernel
theorem dL_law__1313 : decode cL_law_ 1313 = .ok (.aload_n 0, 1) := by decide +kernel
theorem dL_law__1314 : decode cL_law_ 1314 = .ok (.iload 4, 2) := by decide +kernel
theorem dL_law__1316 : decode cL_law_ 1316 = .ok (.iconst 1, 1) := by decide +kernel
theorem dL_law__1317 : decode cL_law_ 1317 = .ok (.iadd, 1) := by decide +kernel
theorem dL_law__1318 : decode cL_law_ 1318 = .ok (.iaload, 1) := by decide +kernel
theorem dL_law__1319 : decode cL_law_ 1319 = .ok (.aload_n 0, 1) := by decide +kernel
theorem dL_law__1320 : decode cL_law_ 1320 = .ok (.iload 4, 2) := by decide +kernel
theorem dL_law__1322 : decode cL_law_ 1322 = .ok (.iconst 2, 1) := by decide +kernel
theorem dL_law__1323 : decode cL_law_ 1323 = .ok (.iadd, 1) := by decide +kernel
theorem dL_law__1324 : decode cL_law_ 1324 = .ok (.iaload, 1) := by decide +kernel
theorem dL_law__1325 : decode cL_law_ 1325 = .ok (.aload_n 0, 1) := by decide +kernel
theorem dL_law__1326 : decode cL_law_ 1326 = .ok (.iload 4, 2) := by decide +kernel
theorem dL_law__1328 : decode cL_law_ 1328 = .ok (.iconst 3, 1) := by decide +kernel
theorem dL_law__1329 : decode cL_law_ 1329 = .ok (.iadd, 1) := by decide +kernel
theorem dL_law__1330 : decode cL_law_ 1330 = .ok (.iaload, 1) := by decide +kernel
theorem dL_law__1331 : decode cL_law_ 1331 = .ok (.aload_n 0, 1) := by decide +kernel
theorem dL_law__1332 : decode cL_law_ 1332 = .ok (.iload 4, 2) := by decide +kernel
theorem dL_law__1334 : decode cL_law_ 1334 = .ok (.iconst 4, 1) := by decide +kernel
theorem dL_law__1335 : decode cL_law_ 1335 = .ok (.iadd, 1) := by decide +kernel
theorem dL_law__1336 : decode cL_law_ 1336 = .ok (.iaload, 1) := by decide +kernel
theorem dL_law__1337 : decode cL_law_ 1337 = .ok (.aload_n 3, 1) := by decide +kernel
theorem dL_law__1338 : decode cL_law_ 1338 = .ok (.invokestatic 165, 3) := by decide +kernel
theorem dL_law__1341 : decode cL_law_ 1341 = .ok (.istore 5, 2) := by decide +kernel
theorem dL_law__1343 : decode cL_law_ 1343 = .ok (.aload_n 2, 1) := by decide +kernel
theorem dL_law__1344 : decode cL_law_ 1344 = .ok (.aload_n 0, 1) := by decide +kernel
theorem dL_law__1345 : decode cL_law_ 1345 = .ok (.iload 4, 2) := by decide +kernel
theorem dL_law__1347 : decode cL_law_ 1347 = .ok (.iconst 1, 1) := by decide +kernel
theorem dL_law__1348 : decode cL_law_ 1348 = .ok (.iadd, 1) := by decide +kernel
theorem dL_law__1349 : decode cL_law_ 1349 = .ok (.iaload, 1) := by decide +kernel
theorem dL_law__1350 : decode cL_law_ 1350 = .ok (.aload_n 0, 1) := by decide +kernel
theorem dL_law__1351 : decode cL_law_ 1351 = .ok (.iload 4, 2) := by decide +kernel
theorem dL_law__1353 : decode cL_law_ 1353 = .ok (.iconst 2, 1) := by decide +kernel
theorem dL_law__1354 : decode cL_law_ 1354 = .ok (.iadd, 1) := by decide +kernel
theorem dL_law__1355 : decode cL_law_ 1355 = .ok (.iaload, 1) := by decide +kernel
theorem dL_law__1356 : decode cL_law_ 1356 = .ok (.aload_n 0, 1) := by decide +kernel
theorem dL_law__1357 : decode cL_law_ 1357 = .ok (.iload 4, 2) := by decide +kernel
theorem dL_law__1359 : decode cL_law_ 1359 = .ok (.iconst 3, 1) := by decide +kernel
theorem dL_law__1360 : decode cL_law_ 1360 = .ok (.iadd, 1) := by decide +kernel
theorem dL_law__1361 : decode cL_law_ 1361 = .ok (.iaload, 1) := by decide +kernel
theorem dL_law__1362 : decode cL_law_ 1362 = .ok (.aload_n 0, 1) := by decide +kernel
theorem dL_law__1363 : decode cL_law_ 1363 = .ok (.iload 4, 2) := by decide +kernel
theorem dL_law__1365 : decode cL_law_ 1365 = .ok (.iconst 4, 1) := by decide +kernel
theorem dL_law__1366 : decode cL_law_ 1366 = .ok (.iadd, 1) := by decide +kernel
theorem dL_law__1367 : decode cL_law_ 1367 = .ok (.iaload, 1) := by decide +kernel
theorem dL_law__1368 : decode cL_law_ 1368 = .ok (.invokevirtual 167, 3) := by decide +kernel
theorem dL_law__1371 : decode cL_law_ 1371 = .ok (.istore 6, 2) := by decide +kernel
theorem dL_law__1373 : decode cL_law_ 1373 = .ok (.aload_n 2, 1) := by decide +kernel
theorem dL_law__1374 : decode cL_law_ 1374 = .ok (.invokevirtual 104, 3) := by decide +kernel
theorem dL_law__1377 : decode cL_law_ 1377 = .ok (.iload 5, 2) := by decide +kernel
theorem dL_law__1379 : decode cL_law_ 1379 = .ok (.if_icmp .eq 5, 3) := by decide +kernel
theorem dL_law__1382 : decode cL_law_ 1382 = .ok (.iconst 0, 1) := by decide +kernel
theorem dL_law__1383 : decode cL_law_ 1383 = .ok (.ireturn, 1) := by decide +kernel
theorem dL_law__1384 : decode cL_law_ 1384 = .ok (.iload 5, 2) := by decide +kernel
theorem dL_law__1386 : decode cL_law_ 1386 = .ok (.ifCond .ne 15, 3) := by decide +kernel
theorem dL_law__1389 : decode cL_law_ 1389 = .ok (.aload_n 3, 1) := by decide +kernel
theorem dL_law__1390 : decode cL_law_ 1390 = .ok (.iconst 0, 1) := by decide +kernel
theorem dL_law__1391 : decode cL_law_ 1391 = .ok (.laload, 1) := by decide +kernel
theorem dL_law__1392 : decode cL_law_ 1392 = .ok (.iload 6, 2) := by decide +kernel
theorem dL_law__1394 : decode cL_law_ 1394 = .ok (.i2l, 1) := by decide +kernel
theorem dL_law__1395 : decode cL_law_ 1395 = .ok (.lcmp, 1) := by decide +kernel
theorem dL_law__1396 : decode cL_law_ 1396 = .ok (.ifCond .eq 5, 3) := by decide +kernel
theorem dL_law__1399 : decode cL_law_ 1399 = .ok (.iconst 0, 1) := by decide +kernel
theorem dL_law__1400 : decode cL_law_ 1400 = .ok (.ireturn, 1) := by decide +kernel
theorem dL_law__1401 : decode cL_law_ 1401 = .ok (.goto 668, 3) := by decide +kernel
theorem dL_law__1404 : decode cL_law_ 1404 = .ok (.aload_n 1, 1) := by decide +kernel
theorem dL_law__1405 : decode cL_law_ 1405 = .ok (.aload_n 0, 1) := by decide +kernel
theorem dL_law__1406 : decode cL_law_ 1406 = .ok (.iload 4, 2) := by decide +kernel
theorem dL_law__1408 : decode cL_law_ 1408 = .ok (.iconst 1, 1) := by decide +kernel
theorem dL_law__1409 : decode cL_law_ 1409 = .ok (.iadd, 1) := by decide +kernel
theorem dL_law__1410 : decode cL_law_ 1410 = .ok (.iaload, 1) := by decide +kernel
theorem dL_law__1411 : decode cL_law_ 1411 = .ok (.aload_n 0, 1) := by decide +kernel
theorem dL_law__1412 : decode cL_law_ 1412 = .ok (.iload 4, 2) := by decide +kernel
theorem dL_law__1414 : decode cL_law_ 1414 = .ok (.iconst 2, 1) := by decide +kernel
theorem dL_law__1415 : decode cL_law_ 1415 = .ok (.iadd, 1) := by decide +kernel
theorem dL_law__1416 : decode cL_law_ 1416 = .ok (.iaload, 1) := by decide +kernel
theorem dL_law__1417 : decode cL_law_ 1417 = .ok (.aload_n 0, 1) := by decide +kernel
theorem dL_law__1418 : decode cL_law_ 1418 = .ok (.iload 4, 2) := by decide +kernel
theorem dL_law__1420 : decode cL_law_ 1420 = .ok (.iconst 3, 1) := by decide +kernel
theorem dL_law__1421 : decode cL_law_ 1421 = .ok (.iadd, 1) := by decide +kernel
theorem dL_law__1422 : decode cL_law_ 1422 = .ok (.iaload, 1) := by decide +kernel
theorem dL_law__1423 : decode cL_law_ 1423 = .ok (.aload_n 0, 1) := by decide +kernel
theorem dL_law__1424 : decode cL_law_ 1424 = .ok (.iload 4, 2) := by decide +kernel
theorem dL_law__1426 : decode cL_law_ 1426 = .ok (.iconst 4, 1) := by decide +kernel
theorem dL_law__1427 : decode cL_law_ 1427 = .ok (.iadd, 1) := by decide +kernel
theorem dL_law__1428 : decode cL_law_ 1428 = .ok (.iaload, 1) := by decide +kernel
theorem dL_law__1429 : decode cL_law_ 1429 = .ok (.aload_n 0, 1) := by decide +kernel
theorem dL_law__1430 : decode cL_law_ 1430 = .ok (.iload 4, 2) := by decide +kernel
theorem dL_law__1432 : decode cL_law_ 1432 = .ok (.iconst 5, 1) := by decide +kernel
theorem dL_law__1433 : decode cL_law_ 1433 = .ok (.iadd, 1) := by decide +kernel
theorem dL_law__1434 : decode cL_law_ 1434 = .ok (.iaload, 1) := by decide +kernel
theorem dL_law__1435 : decode cL_law_ 1435 = .ok (.aload_n 3, 1) := by decide +kernel
theorem dL_law__1436 : decode cL_law_ 1436 = .ok (.invokestatic 168, 3) := by decide +kernel
theorem dL_law__1439 : decode cL_law_ 1439 = .ok (.istore 5, 2) := by decide +kernel
theorem dL_law__1441 : decode cL_law_ 1441 = .ok (.aload_n 2, 1) := by decide +kernel
theorem dL_law__1442 : decode cL_law_ 1442 = .ok (.aload_n 0, 1) := by decide +kernel
theorem dL_law__1443 : decode cL_law_ 1443 = .ok (.iload 4, 2) := by decide +kernel
theorem dL_law__1445 : decode cL_law_ 1445 = .ok (.iconst 1, 1) := by decide +kernel
theorem dL_law__1446 : decode cL_law_ 1446 = .ok (.iadd, 1) := by decide +kernel
theorem dL_law__1447 : decode cL_law_ 1447 = .ok (.iaload, 1) := by decide +kernel
theorem dL_law__1448 : decode cL_law_ 1448 = .ok (.aload_n 0, 1) := by decide +kernel
theorem dL_law__1449 : decode cL_law_ 1449 = .ok (.iload 4, 2) := by decide +kernel
theorem dL_law__1451 : decode cL_law_ 1451 = .ok (.iconst 2, 1) := by decide +kernel
theorem dL_law__1452 : decode cL_law_ 1452 = .ok (.iadd, 1) := by decide +kernel
theorem dL_law__1453 : decode cL_law_ 1453 = .ok (.iaload, 1) := by decide +kernel
theorem dL_law__1454 : decode cL_law_ 1454 = .ok (.aload_n 0, 1) := by decide +kernel
theorem dL_law__1455 : decode cL_law_ 1455 = .ok (.iload 4, 2) := by decide +kernel
theorem dL_law__1457 : decode cL_law_ 1457 = .ok (.iconst 3, 1) := by decide +kernel
theorem dL_law__1458 : decode cL_law_ 1458 = .ok (.iadd, 1) := by decide +kernel
theorem dL_law__1459 : decode cL_law_ 1459 = .ok (.iaload, 1) := by decide +kernel
theorem dL_law__1460 : decode cL_law_ 1460 = .ok (.aload_n 0, 1) := by decide +kernel
theorem dL_law__1461 : decode cL_law_ 1461 = .ok (.iload 4, 2) := by decide +kernel
theorem dL_law__1463 : decode cL_law_ 1463 = .ok (.iconst 4, 1) := by decide +kernel
theorem dL_law__1464 : decode cL_law_ 1464 = .ok (.iadd, 1) := by decide +kernel
theorem dL_law__1465 : decode cL_law_ 1465 = .ok (.iaload, 1) := by decide +kernel
theorem dL_law__1466 : decode cL_law_ 1466 = .ok (.aload_n 0, 1) := by decide +kernel
theorem dL_law__1467 : decode cL_law_ 1467 = .ok (.iload 4, 2) := by decide +kernel
theorem dL_law__1469 : decode cL_law_ 1469 = .ok (.iconst 5, 1) := by decide +kernel
theorem dL_law__1470 : decode cL_law_ 1470 = .ok (.iadd, 1) := by decide +kernel
theorem dL_law__1471 : decode cL_law_ 1471 = .ok (.iaload, 1) := by decide +kernel
theorem dL_law__1472 : decode cL_law_ 1472 = .ok (.invokevirtual 171, 3) := by decide +kernel
theorem dL_law__1475 : decode cL_law_ 1475 = .ok (.istore 6, 2) := by decide +kernel
theorem dL_law__1477 : decode cL_law_ 1477 = .ok (.aload_n 2, 1) := by decide +kernel
theorem dL_law__1478 : decode cL_law_ 1478 = .ok (.invokevirtual 104, 3) := by decide +kernel
theorem dL_law__1481 : decode cL_law_ 1481 = .ok (.iload 5, 2) := by decide +kernel
theorem dL_law__1483 : decode cL_law_ 1483 = .ok (.if_icmp .eq 5, 3) := by decide +kernel
theorem dL_law__1486 : decode cL_law_ 1486 = .ok (.iconst 0, 1) := by decide +kernel
theorem dL_law__1487 : decode cL_law_ 1487 = .ok (.ireturn, 1) := by decide +kernel
theorem dL_law__1488 : decode cL_law_ 1488 = .ok (.iload 5, 2) := by decide +kernel
theorem dL_law__1490 : decode cL_law_ 1490 = .ok (.ifCond .ne 15, 3) := by decide +kernel
theorem dL_law__1493 : decode cL_law_ 1493 = .ok (.aload_n 3, 1) := by decide +kernel
theorem dL_law__1494 : decode cL_law_ 1494 = .ok (.iconst 0, 1) := by decide +kernel
theorem dL_law__1495 : decode cL_law_ 1495 = .ok (.laload, 1) := by decide +kernel
theorem dL_law__1496 : decode cL_law_ 1496 = .ok (.iload 6, 2) := by decide +kernel
theorem dL_law__1498 : decode cL_law_ 1498 = .ok (.i2l, 1) := by decide +kernel
theorem dL_law__1499 : decode cL_law_ 1499 = .ok (.lcmp, 1) := by decide +kernel
theorem dL_law__1500 : decode cL_law_ 1500 = .ok (.ifCond .eq 5, 3) := by decide +kernel
theorem dL_law__1503 : decode cL_law_ 1503 = .ok (.iconst 0, 1) := by decide +kernel
theorem dL_law__1504 : decode cL_law_ 1504 = .ok (.ireturn, 1) := by decide +kernel
theorem dL_law__1505 : decode cL_law_ 1505 = .ok (.goto 564, 3) := by decide +kernel
theorem dL_law__1508 : decode cL_law_ 1508 = .ok (.aload_n 1, 1) := by decide +kernel
theorem dL_law__1509 : decode cL_law_ 1509 = .ok (.aload_n 0, 1) := by decide +kernel
theorem dL_law__1510 : decode cL_law_ 1510 = .ok (.iload 4, 2) := by decide +kernel
theorem dL_law__1512 : decode cL_law_ 1512 = .ok (.iconst 1, 1) := by decide +kernel
theorem dL_law__1513 : decode cL_law_ 1513 = .ok (.iadd, 1) := by decide +kernel
theorem dL_law__1514 : decode cL_law_ 1514 = .ok (.iaload, 1) := by decide +kernel
theorem dL_law__1515 : decode cL_law_ 1515 = .ok (.aload_n 0, 1) := by decide +kernel
theorem dL_law__1516 : decode cL_law_ 1516 = .ok (.iload 4, 2) := by decide +kernel
theorem dL_law__1518 : decode cL_law_ 1518 = .ok (.iconst 2, 1) := by decide +kernel
theorem dL_law__1519 : decode cL_law_ 1519 = .ok (.iadd, 1) := by decide +kernel
theorem dL_law__1520 : decode cL_law_ 1520 = .ok (.iaload, 1) := by decide +kernel
theorem dL_law__1521 : decode cL_law_ 1521 = .ok (.aload_n 0, 1) := by decide +kernel
theorem dL_law__1522 : decode cL_law_ 1522 = .ok (.iload 4, 2) := by decide +kernel
theorem dL_law__1524 : decode cL_law_ 1524 = .ok (.iconst 3, 1) := by decide +kernel
theorem dL_law__1525 : decode cL_law_ 1525 = .ok (.iadd, 1) := by decide +kernel
theorem dL_law__1526 : decode cL_law_ 1526 = .ok (.iaload, 1) := by decide +kernel
theorem dL_law__1527 : decode cL_law_ 1527 = .ok (.aload_n 3, 1) := by decide +kernel
theorem dL_law__1528 : decode cL_law_ 1528 = .ok (.invokestatic 172, 3) := by decide +kernel
theorem dL_law__1531 : decode cL_law_ 1531 = .ok (.istore 5, 2) := by decide +kernel
theorem dL_law__1533 : decode cL_law_ 1533 = .ok (.aload_n 2, 1) := by decide +kernel
theorem dL_law__1534 : decode cL_law_ 1534 = .ok (.aload_n 0, 1) := by decide +kernel
theorem dL_law__1535 : decode cL_law_ 1535 = .ok (.iload 4, 2) := by decide +kernel
theorem dL_law__1537 : decode cL_law_ 1537 = .ok (.iconst 1, 1) := by decide +kernel
theorem dL_law__1538 : decode cL_law_ 1538 = .ok (.iadd, 1) := by decide +kernel
theorem dL_law__1539 : decode cL_law_ 1539 = .ok (.iaload, 1) := by decide +kernel
theorem dL_law__1540 : decode cL_law_ 1540 = .ok (.aload_n 0, 1) := by decide +kernel
theorem dL_law__1541 : decode cL_law_ 1541 = .ok (.iload 4, 2) := by decide +kernel
theorem dL_law__1543 : decode cL_law_ 1543 = .ok (.iconst 2, 1) := by decide +kernel
theorem dL_law__1544 : decode cL_law_ 1544 = .ok (.iadd, 1) := by decide +kernel
theorem dL_law__1545 : decode cL_law_ 1545 = .ok (.iaload, 1) := by decide +kernel
theorem dL_law__1546 : decode cL_law_ 1546 = .ok (.aload_n 0, 1) := by decide +kernel
theorem dL_law__1547 : decode cL_law_ 1547 = .ok (.iload 4, 2) := by decide +kernel
theorem dL_law__1549 : decode cL_law_ 1549 = .ok (.iconst 3, 1) := by decide +kernel
theorem dL_law__1550 : decode cL_law_ 1550 = .ok (.iadd, 1) := by decide +kernel
theorem dL_law__1551 : decode cL_law_ 1551 = .ok (.iaload, 1) := by decide +kernel
theorem dL_law__1552 : decode cL_law_ 1552 = .ok (.invokevirtual 174, 3) := by decide +kernel
theorem dL_law__1555 : decode cL_law_ 1555 = .ok (.istore 6, 2) := by decide +kernel
theorem dL_law__1557 : decode cL_law_ 1557 = .ok (.aload_n 2, 1) := by decide +kernel
theorem dL_law__1558 : decode cL_law_ 1558 = .ok (.invokevirtual 104, 3) := by decide +kernel
theorem dL_law__1561 : decode cL_law_ 1561 = .ok (.iload 5, 2) := by decide +kernel
theorem dL_law__1563 : decode cL_law_ 1563 = .ok (.if_icmp .eq 5, 3) := by decide +kernel
theorem dL_law__1566 : decode cL_law_ 1566 = .ok (.iconst 0, 1) := by decide +kernel
theorem dL_law__1567 : decode cL_law_ 1567 = .ok (.ireturn, 1) := by decide +kernel
theorem dL_law__1568 : decode cL_law_ 1568 = .ok (.iload 5, 2) := by decide +kernel
theorem dL_law__1570 : decode cL_law_ 1570 = .ok (.ifCond .ne 15, 3) := by decide +kernel
theorem dL_law__1573 : decode cL_law_ 1573 = .ok (.aload_n 3, 1) := by decide +kernel
theorem dL_law__1574 : decode cL_law_ 1574 = .ok (.iconst 0, 1) := by decide +kernel
theorem dL_law__1575 : decode cL_law_ 1575 = .ok (.laload, 1) := by decide +kernel
theorem dL_law__1576 : decode cL_law_ 1576 = .ok (.iload 6, 2) := by decide +kernel
theorem dL_law__1578 : decode cL_law_ 1578 = .ok (.i2l, 1) := by decide +kernel
theorem dL_law__1579 : decode cL_law_ 1579 = .ok (.lcmp, 1) := by decide +kernel
theorem dL_law__1580 : decode cL_law_ 1580 = .ok (.ifCond .eq 5, 3) := by decide +kernel
theorem dL_law__1583 : decode cL_law_ 1583 = .ok (.iconst 0, 1) := by decide +kernel
theorem dL_law__1584 : decode cL_law_ 1584 = .ok (.ireturn, 1) := by decide +kernel
