theorem dL_law_1207 : decode code 1207 = .ok (.iconst 0, 1) := by decide +kernel
theorem dL_law_1208 : decode code 1208 = .ok (.laload, 1) := by decide +kernel
theorem dL_law_1209 : decode code 1209 = .ok (.lload 6, 2) := by decide +kernel
theorem dL_law_1211 : decode code 1211 = .ok (.lcmp, 1) := by decide +kernel
theorem dL_law_1212 : decode code 1212 = .ok (.ifCond .eq 5, 3) := by decide +kernel
theorem dL_law_1215 : decode code 1215 = .ok (.iconst 0, 1) := by decide +kernel
theorem dL_law_1216 : decode code 1216 = .ok (.ireturn, 1) := by decide +kernel
theorem dL_law_1217 : decode code 1217 = .ok (.goto 664, 3) := by decide +kernel
theorem dL_law_1220 : decode code 1220 = .ok (.aload_n 1, 1) := by decide +kernel
theorem dL_law_1221 : decode code 1221 = .ok (.aload_n 0, 1) := by decide +kernel
theorem dL_law_1222 : decode code 1222 = .ok (.iload 4, 2) := by decide +kernel
theorem dL_law_1224 : decode code 1224 = .ok (.iconst 1, 1) := by decide +kernel
theorem dL_law_1225 : decode code 1225 = .ok (.iadd, 1) := by decide +kernel
theorem dL_law_1226 : decode code 1226 = .ok (.iaload, 1) := by decide +kernel
theorem dL_law_1227 : decode code 1227 = .ok (.aload_n 3, 1) := by decide +kernel
theorem dL_law_1228 : decode code 1228 = .ok (.invokestatic 166, 3) := by decide +kernel
theorem dL_law_1231 : decode code 1231 = .ok (.istore 5, 2) := by decide +kernel
theorem dL_law_1233 : decode code 1233 = .ok (.aload_n 2, 1) := by decide +kernel
theorem dL_law_1234 : decode code 1234 = .ok (.aload_n 0, 1) := by decide +kernel
theorem dL_law_1235 : decode code 1235 = .ok (.iload 4, 2) := by decide +kernel
theorem dL_law_1237 : decode code 1237 = .ok (.iconst 1, 1) := by decide +kernel
theorem dL_law_1238 : decode code 1238 = .ok (.iadd, 1) := by decide +kernel
theorem dL_law_1239 : decode code 1239 = .ok (.iaload, 1) := by decide +kernel
theorem dL_law_1240 : decode code 1240 = .ok (.invokevirtual 168, 3) := by decide +kernel
theorem dL_law_1243 : decode code 1243 = .ok (.lstore 6, 2) := by decide +kernel
theorem dL_law_1245 : decode code 1245 = .ok (.aload_n 2, 1) := by decide +kernel
theorem dL_law_1246 : decode code 1246 = .ok (.invokevirtual 113, 3) := by decide +kernel
theorem dL_law_1249 : decode code 1249 = .ok (.iload 5, 2) := by decide +kernel
theorem dL_law_1251 : decode code 1251 = .ok (.if_icmp .eq 5, 3) := by decide +kernel
theorem dL_law_1254 : decode code 1254 = .ok (.iconst 0, 1) := by decide +kernel
theorem dL_law_1255 : decode code 1255 = .ok (.ireturn, 1) := by decide +kernel
theorem dL_law_1256 : decode code 1256 = .ok (.iload 5, 2) := by decide +kernel
theorem dL_law_1258 : decode code 1258 = .ok (.ifCond .ne 14, 3) := by decide +kernel
theorem dL_law_1261 : decode code 1261 = .ok (.aload_n 3, 1) := by decide +kernel
theorem dL_law_1262 : decode code 1262 = .ok (.iconst 0, 1) := by decide +kernel
theorem dL_law_1263 : decode code 1263 = .ok (.laload, 1) := by decide +kernel
theorem dL_law_1264 : decode code 1264 = .ok (.lload 6, 2) := by decide +kernel
theorem dL_law_1266 : decode code 1266 = .ok (.lcmp, 1) := by decide +kernel
theorem dL_law_1267 : decode code 1267 = .ok (.ifCond .eq 5, 3) := by decide +kernel
theorem dL_law_1270 : decode code 1270 = .ok (.iconst 0, 1) := by decide +kernel
theorem dL_law_1271 : decode code 1271 = .ok (.ireturn, 1) := by decide +kernel
theorem dL_law_1272 : decode code 1272 = .ok (.goto 609, 3) := by decide +kernel
theorem dL_law_1275 : decode code 1275 = .ok (.aload_n 1, 1) := by decide +kernel
theorem dL_law_1276 : decode code 1276 = .ok (.aload_n 0, 1) := by decide +kernel
theorem dL_law_1277 : decode code 1277 = .ok (.iload 4, 2) := by decide +kernel
theorem dL_law_1279 : decode code 1279 = .ok (.iconst 1, 1) := by decide +kernel
theorem dL_law_1280 : decode code 1280 = .ok (.iadd, 1) := by decide +kernel
theorem dL_law_1281 : decode code 1281 = .ok (.iaload, 1) := by decide +kernel
theorem dL_law_1282 : decode code 1282 = .ok (.aload_n 0, 1) := by decide +kernel
theorem dL_law_1283 : decode code 1283 = .ok (.iload 4, 2) := by decide +kernel
theorem dL_law_1285 : decode code 1285 = .ok (.iconst 2, 1) := by decide +kernel
theorem dL_law_1286 : decode code 1286 = .ok (.iadd, 1) := by decide +kernel
theorem dL_law_1287 : decode code 1287 = .ok (.iaload, 1) := by decide +kernel
theorem dL_law_1288 : decode code 1288 = .ok (.aload_n 3, 1) := by decide +kernel
theorem dL_law_1289 : decode code 1289 = .ok (.invokestatic 169, 3) := by decide +kernel
theorem dL_law_1292 : decode code 1292 = .ok (.istore 5, 2) := by decide +kernel
theorem dL_law_1294 : decode code 1294 = .ok (.aload_n 2, 1) := by decide +kernel
theorem dL_law_1295 : decode code 1295 = .ok (.aload_n 0, 1) := by decide +kernel
theorem dL_law_1296 : decode code 1296 = .ok (.iload 4, 2) := by decide +kernel
theorem dL_law_1298 : decode code 1298 = .ok (.iconst 1, 1) := by decide +kernel
theorem dL_law_1299 : decode code 1299 = .ok (.iadd, 1) := by decide +kernel
theorem dL_law_1300 : decode code 1300 = .ok (.iaload, 1) := by decide +kernel
theorem dL_law_1301 : decode code 1301 = .ok (.aload_n 0, 1) := by decide +kernel
theorem dL_law_1302 : decode code 1302 = .ok (.iload 4, 2) := by decide +kernel
theorem dL_law_1304 : decode code 1304 = .ok (.iconst 2, 1) := by decide +kernel
theorem dL_law_1305 : decode code 1305 = .ok (.iadd, 1) := by decide +kernel
theorem dL_law_1306 : decode code 1306 = .ok (.iaload, 1) := by decide +kernel
theorem dL_law_1307 : decode code 1307 = .ok (.invokevirtual 171, 3) := by decide +kernel
theorem dL_law_1310 : decode code 1310 = .ok (.istore 6, 2) := by decide +kernel
theorem dL_law_1312 : decode code 1312 = .ok (.aload_n 2, 1) := by decide +kernel
theorem dL_law_1313 : decode code 1313 = .ok (.invokevirtual 113, 3) := by decide +kernel
theorem dL_law_1316 : decode code 1316 = .ok (.iload 5, 2) := by decide +kernel
theorem dL_law_1318 : decode code 1318 = .ok (.if_icmp .eq 5, 3) := by decide +kernel
theorem dL_law_1321 : decode code 1321 = .ok (.iconst 0, 1) := by decide +kernel
theorem dL_law_1322 : decode code 1322 = .ok (.ireturn, 1) := by decide +kernel
theorem dL_law_1323 : decode code 1323 = .ok (.iload 5, 2) := by decide +kernel
theorem dL_law_1325 : decode code 1325 = .ok (.ifCond .ne 15, 3) := by decide +kernel
theorem dL_law_1328 : decode code 1328 = .ok (.aload_n 3, 1) := by decide +kernel
theorem dL_law_1329 : decode code 1329 = .ok (.iconst 0, 1) := by decide +kernel
theorem dL_law_1330 : decode code 1330 = .ok (.laload, 1) := by decide +kernel
theorem dL_law_1331 : decode code 1331 = .ok (.iload 6, 2) := by decide +kernel
theorem dL_law_1333 : decode code 1333 = .ok (.i2l, 1) := by decide +kernel
theorem dL_law_1334 : decode code 1334 = .ok (.lcmp, 1) := by decide +kernel
theorem dL_law_1335 : decode code 1335 = .ok (.ifCond .eq 5, 3) := by decide +kernel
theorem dL_law_1338 : decode code 1338 = .ok (.iconst 0, 1) := by decide +kernel
theorem dL_law_1339 : decode code 1339 = .ok (.ireturn, 1) := by decide +kernel
theorem dL_law_1340 : decode code 1340 = .ok (.goto 541, 3) := by decide +kernel
theorem dL_law_1343 : decode code 1343 = .ok (.aload_n 1, 1) := by decide +kernel
theorem dL_law_1344 : decode code 1344 = .ok (.aload_n 0, 1) := by decide +kernel
theorem dL_law_1345 : decode code 1345 = .ok (.iload 4, 2) := by decide +kernel
theorem dL_law_1347 : decode code 1347 = .ok (.iconst 1, 1) := by decide +kernel
theorem dL_law_1348 : decode code 1348 = .ok (.iadd, 1) := by decide +kernel
theorem dL_law_1349 : decode code 1349 = .ok (.iaload, 1) := by decide +kernel
theorem dL_law_1350 : decode code 1350 = .ok (.aload_n 3, 1) := by decide +kernel
theorem dL_law_1351 : decode code 1351 = .ok (.invokestatic 172, 3) := by decide +kernel
theorem dL_law_1354 : decode code 1354 = .ok (.istore 5, 2) := by decide +kernel
theorem dL_law_1356 : decode code 1356 = .ok (.aload_n 2, 1) := by decide +kernel
theorem dL_law_1357 : decode code 1357 = .ok (.aload_n 0, 1) := by decide +kernel
theorem dL_law_1358 : decode code 1358 = .ok (.iload 4, 2) := by decide +kernel
theorem dL_law_1360 : decode code 1360 = .ok (.iconst 1, 1) := by decide +kernel
theorem dL_law_1361 : decode code 1361 = .ok (.iadd, 1) := by decide +kernel
theorem dL_law_1362 : decode code 1362 = .ok (.iaload, 1) := by decide +kernel
theorem dL_law_1363 : decode code 1363 = .ok (.invokevirtual 174, 3) := by decide +kernel
theorem dL_law_1366 : decode code 1366 = .ok (.istore 6, 2) := by decide +kernel
theorem dL_law_1368 : decode code 1368 = .ok (.aload_n 2, 1) := by decide +kernel
theorem dL_law_1369 : decode code 1369 = .ok (.invokevirtual 113, 3) := by decide +kernel
theorem dL_law_1372 : decode code 1372 = .ok (.iload 5, 2) := by decide +kernel
theorem dL_law_1374 : decode code 1374 = .ok (.if_icmp .eq 5, 3) := by decide +kernel
theorem dL_law_1377 : decode code 1377 = .ok (.iconst 0, 1) := by decide +kernel
theorem dL_law_1378 : decode code 1378 = .ok (.ireturn, 1) := by decide +kernel
theorem dL_law_1379 : decode code 1379 = .ok (.iload 5, 2) := by decide +kernel
theorem dL_law_1381 : decode code 1381 = .ok (.ifCond .ne 15, 3) := by decide +kernel
theorem dL_law_1384 : decode code 1384 = .ok (.aload_n 3, 1) := by decide +kernel
theorem dL_law_1385 : decode code 1385 = .ok (.iconst 0, 1) := by decide +kernel
theorem dL_law_1386 : decode code 1386 = .ok (.laload, 1) := by decide +kernel
theorem dL_law_1387 : decode code 1387 = .ok (.iload 6, 2) := by decide +kernel
theorem dL_law_1389 : decode code 1389 = .ok (.i2l, 1) := by decide +kernel
theorem dL_law_1390 : decode code 1390 = .ok (.lcmp, 1) := by decide +kernel
theorem dL_law_1391 : decode code 1391 = .ok (.ifCond .eq 5, 3) := by decide +kernel
theorem dL_law_1394 : decode code 1394 = .ok (.iconst 0, 1) := by decide +kernel
theorem dL_law_1395 : decode code 1395 = .ok (.ireturn, 1) := by decide +kernel
theorem dL_law_1396 : decode code 1396 = .ok (.goto 485, 3) := by decide +kernel
theorem dL_law_1399 : decode code 1399 = .ok (.aload_n 1, 1) := by decide +kernel
theorem dL_law_1400 : decode code 1400 = .ok (.aload_n 0, 1) := by decide +kernel
theorem dL_law_1401 : decode code 1401 = .ok (.iload 4, 2) := by decide +kernel
theorem dL_law_1403 : decode code 1403 = .ok (.iconst 1, 1) := by decide +kernel
theorem dL_law_1404 : decode code 1404 = .ok (.iadd, 1) := by decide +kernel
theorem dL_law_1405 : decode code 1405 = .ok (.iaload, 1) := by decide +kernel
theorem dL_law_1406 : decode code 1406 = .ok (.aload_n 3, 1) := by decide +kernel
theorem dL_law_1407 : decode code 1407 = .ok (.invokestatic 175, 3) := by decide +kernel
theorem dL_law_1410 : decode code 1410 = .ok (.istore 5, 2) := by decide +kernel
theorem dL_law_1412 : decode code 1412 = .ok (.aload_n 2, 1) := by decide +kernel
theorem dL_law_1413 : decode code 1413 = .ok (.aload_n 0, 1) := by decide +kernel
theorem dL_law_1414 : decode code 1414 = .ok (.iload 4, 2) := by decide +kernel
theorem dL_law_1416 : decode code 1416 = .ok (.iconst 1, 1) := by decide +kernel
theorem dL_law_1417 : decode code 1417 = .ok (.iadd, 1) := by decide +kernel
theorem dL_law_1418 : decode code 1418 = .ok (.iaload, 1) := by decide +kernel
theorem dL_law_1419 : decode code 1419 = .ok (.invokevirtual 177, 3) := by decide +kernel
theorem dL_law_1422 : decode code 1422 = .ok (.istore 6, 2) := by decide +kernel
theorem dL_law_1424 : decode code 1424 = .ok (.aload_n 2, 1) := by decide +kernel
theorem dL_law_1425 : decode code 1425 = .ok (.invokevirtual 113, 3) := by decide +kernel
theorem dL_law_1428 : decode code 1428 = .ok (.iload 5, 2) := by decide +kernel
theorem dL_law_1430 : decode code 1430 = .ok (.if_icmp .eq 5, 3) := by decide +kernel
theorem dL_law_1433 : decode code 1433 = .ok (.iconst 0, 1) := by decide +kernel
theorem dL_law_1434 : decode code 1434 = .ok (.ireturn, 1) := by decide +kernel
