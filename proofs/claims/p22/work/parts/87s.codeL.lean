theorem dL_law_1266 : decode cL_law 1266 = .ok (.istore 21, 2) := by decide +kernel
theorem dL_law_1268 : decode cL_law 1268 = .ok (.iload 21, 2) := by decide +kernel
theorem dL_law_1270 : decode cL_law 1270 = .ok (.ifCond .lt 66, 3) := by decide +kernel
theorem dL_law_1273 : decode cL_law 1273 = .ok (.iload 21, 2) := by decide +kernel
theorem dL_law_1275 : decode cL_law 1275 = .ok (.aload 10, 2) := by decide +kernel
theorem dL_law_1277 : decode cL_law 1277 = .ok (.iload 20, 2) := by decide +kernel
theorem dL_law_1279 : decode cL_law 1279 = .ok (.aaload, 1) := by decide +kernel
theorem dL_law_1280 : decode cL_law 1280 = .ok (.iconst 1, 1) := by decide +kernel
theorem dL_law_1281 : decode cL_law 1281 = .ok (.iaload, 1) := by decide +kernel
theorem dL_law_1282 : decode cL_law 1282 = .ok (.if_icmp .gt 54, 3) := by decide +kernel
theorem dL_law_1285 : decode cL_law 1285 = .ok (.aload_n 1, 1) := by decide +kernel
theorem dL_law_1286 : decode cL_law 1286 = .ok (.iload 20, 2) := by decide +kernel
theorem dL_law_1288 : decode cL_law 1288 = .ok (.iconst 5, 1) := by decide +kernel
theorem dL_law_1289 : decode cL_law 1289 = .ok (.invokevirtual 108, 3) := by decide +kernel
theorem dL_law_1292 : decode cL_law 1292 = .ok (.aload 10, 2) := by decide +kernel
theorem dL_law_1294 : decode cL_law 1294 = .ok (.iload 20, 2) := by decide +kernel
theorem dL_law_1296 : decode cL_law 1296 = .ok (.aaload, 1) := by decide +kernel
theorem dL_law_1297 : decode cL_law 1297 = .ok (.iconst 5, 1) := by decide +kernel
theorem dL_law_1298 : decode cL_law 1298 = .ok (.iaload, 1) := by decide +kernel
theorem dL_law_1299 : decode cL_law 1299 = .ok (.if_icmp .lt 37, 3) := by decide +kernel
theorem dL_law_1302 : decode cL_law 1302 = .ok (.aload_n 1, 1) := by decide +kernel
theorem dL_law_1303 : decode cL_law 1303 = .ok (.iload 20, 2) := by decide +kernel
theorem dL_law_1305 : decode cL_law 1305 = .ok (.iconst 0, 1) := by decide +kernel
theorem dL_law_1306 : decode cL_law 1306 = .ok (.invokevirtual 108, 3) := by decide +kernel
theorem dL_law_1309 : decode cL_law 1309 = .ok (.aload 10, 2) := by decide +kernel
theorem dL_law_1311 : decode cL_law 1311 = .ok (.iload 20, 2) := by decide +kernel
theorem dL_law_1313 : decode cL_law 1313 = .ok (.aaload, 1) := by decide +kernel
theorem dL_law_1314 : decode cL_law 1314 = .ok (.iconst 0, 1) := by decide +kernel
theorem dL_law_1315 : decode cL_law 1315 = .ok (.iaload, 1) := by decide +kernel
theorem dL_law_1316 : decode cL_law 1316 = .ok (.if_icmp .ne 20, 3) := by decide +kernel
theorem dL_law_1319 : decode cL_law 1319 = .ok (.aload_n 1, 1) := by decide +kernel
theorem dL_law_1320 : decode cL_law 1320 = .ok (.iload 20, 2) := by decide +kernel
theorem dL_law_1322 : decode cL_law 1322 = .ok (.iconst 1, 1) := by decide +kernel
theorem dL_law_1323 : decode cL_law 1323 = .ok (.invokevirtual 108, 3) := by decide +kernel
theorem dL_law_1326 : decode cL_law 1326 = .ok (.aload 10, 2) := by decide +kernel
theorem dL_law_1328 : decode cL_law 1328 = .ok (.iload 20, 2) := by decide +kernel
theorem dL_law_1330 : decode cL_law 1330 = .ok (.aaload, 1) := by decide +kernel
theorem dL_law_1331 : decode cL_law 1331 = .ok (.iconst 1, 1) := by decide +kernel
theorem dL_law_1332 : decode cL_law 1332 = .ok (.iaload, 1) := by decide +kernel
theorem dL_law_1333 : decode cL_law 1333 = .ok (.if_icmp .eq 5, 3) := by decide +kernel
theorem dL_law_1336 : decode cL_law 1336 = .ok (.iconst 0, 1) := by decide +kernel
theorem dL_law_1337 : decode cL_law 1337 = .ok (.ireturn, 1) := by decide +kernel
theorem dL_law_1338 : decode cL_law 1338 = .ok (.iload 20, 2) := by decide +kernel
theorem dL_law_1340 : decode cL_law 1340 = .ok (.aload_n 2, 1) := by decide +kernel
theorem dL_law_1341 : decode cL_law 1341 = .ok (.getfield 86, 3) := by decide +kernel
theorem dL_law_1344 : decode cL_law 1344 = .ok (.arraylength, 1) := by decide +kernel
theorem dL_law_1345 : decode cL_law 1345 = .ok (.iconst 1, 1) := by decide +kernel
theorem dL_law_1346 : decode cL_law 1346 = .ok (.isub, 1) := by decide +kernel
theorem dL_law_1347 : decode cL_law 1347 = .ok (.if_icmp .ne 12, 3) := by decide +kernel
theorem dL_law_1350 : decode cL_law 1350 = .ok (.iload 21, 2) := by decide +kernel
theorem dL_law_1352 : decode cL_law 1352 = .ok (.iload 16, 2) := by decide +kernel
theorem dL_law_1354 : decode cL_law 1354 = .ok (.if_icmp .eq 5, 3) := by decide +kernel
theorem dL_law_1357 : decode cL_law 1357 = .ok (.iconst 0, 1) := by decide +kernel
theorem dL_law_1358 : decode cL_law 1358 = .ok (.ireturn, 1) := by decide +kernel
theorem dL_law_1359 : decode cL_law 1359 = .ok (.iload 20, 2) := by decide +kernel
theorem dL_law_1361 : decode cL_law 1361 = .ok (.ifCond .le 45, 3) := by decide +kernel
theorem dL_law_1364 : decode cL_law 1364 = .ok (.aload_n 1, 1) := by decide +kernel
theorem dL_law_1365 : decode cL_law 1365 = .ok (.iload 20, 2) := by decide +kernel
theorem dL_law_1367 : decode cL_law 1367 = .ok (.iconst 3, 1) := by decide +kernel
theorem dL_law_1368 : decode cL_law 1368 = .ok (.invokevirtual 108, 3) := by decide +kernel
theorem dL_law_1371 : decode cL_law 1371 = .ok (.aload 10, 2) := by decide +kernel
theorem dL_law_1373 : decode cL_law 1373 = .ok (.iload 20, 2) := by decide +kernel
theorem dL_law_1375 : decode cL_law 1375 = .ok (.aaload, 1) := by decide +kernel
theorem dL_law_1376 : decode cL_law 1376 = .ok (.iconst 3, 1) := by decide +kernel
theorem dL_law_1377 : decode cL_law 1377 = .ok (.iaload, 1) := by decide +kernel
theorem dL_law_1378 : decode cL_law 1378 = .ok (.aload_n 1, 1) := by decide +kernel
theorem dL_law_1379 : decode cL_law 1379 = .ok (.iload 20, 2) := by decide +kernel
theorem dL_law_1381 : decode cL_law 1381 = .ok (.iconst 1, 1) := by decide +kernel
theorem dL_law_1382 : decode cL_law 1382 = .ok (.isub, 1) := by decide +kernel
theorem dL_law_1383 : decode cL_law 1383 = .ok (.iconst 4, 1) := by decide +kernel
theorem dL_law_1384 : decode cL_law 1384 = .ok (.invokevirtual 108, 3) := by decide +kernel
theorem dL_law_1387 : decode cL_law 1387 = .ok (.iadd, 1) := by decide +kernel
theorem dL_law_1388 : decode cL_law 1388 = .ok (.aload 10, 2) := by decide +kernel
theorem dL_law_1390 : decode cL_law 1390 = .ok (.iload 20, 2) := by decide +kernel
theorem dL_law_1392 : decode cL_law 1392 = .ok (.iconst 1, 1) := by decide +kernel
theorem dL_law_1393 : decode cL_law 1393 = .ok (.isub, 1) := by decide +kernel
theorem dL_law_1394 : decode cL_law 1394 = .ok (.aaload, 1) := by decide +kernel
theorem dL_law_1395 : decode cL_law 1395 = .ok (.iconst 4, 1) := by decide +kernel
theorem dL_law_1396 : decode cL_law 1396 = .ok (.iaload, 1) := by decide +kernel
theorem dL_law_1397 : decode cL_law 1397 = .ok (.isub, 1) := by decide +kernel
theorem dL_law_1398 : decode cL_law 1398 = .ok (.iload 21, 2) := by decide +kernel
theorem dL_law_1400 : decode cL_law 1400 = .ok (.isub, 1) := by decide +kernel
theorem dL_law_1401 : decode cL_law 1401 = .ok (.if_icmp .eq 5, 3) := by decide +kernel
theorem dL_law_1404 : decode cL_law 1404 = .ok (.iconst 0, 1) := by decide +kernel
theorem dL_law_1405 : decode cL_law 1405 = .ok (.ireturn, 1) := by decide +kernel
theorem dL_law_1406 : decode cL_law 1406 = .ok (.iinc 20 1, 3) := by decide +kernel
theorem dL_law_1409 : decode cL_law 1409 = .ok (.goto (-168), 3) := by decide +kernel
theorem dL_law_1412 : decode cL_law 1412 = .ok (.iinc 4 1, 3) := by decide +kernel
theorem dL_law_1415 : decode cL_law 1415 = .ok (.goto (-1386), 3) := by decide +kernel
theorem dL_law_1418 : decode cL_law 1418 = .ok (.aload_n 2, 1) := by decide +kernel
theorem dL_law_1419 : decode cL_law 1419 = .ok (.aload_n 1, 1) := by decide +kernel
theorem dL_law_1420 : decode cL_law 1420 = .ok (.invokevirtual 131, 3) := by decide +kernel
theorem dL_law_1423 : decode cL_law 1423 = .ok (.ireturn, 1) := by decide +kernel
