theorem d_L_law_1260 : decode code 1260 = .ok (.goto 203, 3) := by decide +kernel
theorem d_L_law_1263 : decode code 1263 = .ok (.aload_n 1, 1) := by decide +kernel
theorem d_L_law_1264 : decode code 1264 = .ok (.aload_n 0, 1) := by decide +kernel
theorem d_L_law_1265 : decode code 1265 = .ok (.iload 4, 2) := by decide +kernel
theorem d_L_law_1267 : decode code 1267 = .ok (.iconst 1, 1) := by decide +kernel
theorem d_L_law_1268 : decode code 1268 = .ok (.iadd, 1) := by decide +kernel
theorem d_L_law_1269 : decode code 1269 = .ok (.iaload, 1) := by decide +kernel
theorem d_L_law_1270 : decode code 1270 = .ok (.aload_n 0, 1) := by decide +kernel
theorem d_L_law_1271 : decode code 1271 = .ok (.iload 4, 2) := by decide +kernel
theorem d_L_law_1273 : decode code 1273 = .ok (.iconst 2, 1) := by decide +kernel
theorem d_L_law_1274 : decode code 1274 = .ok (.iadd, 1) := by decide +kernel
theorem d_L_law_1275 : decode code 1275 = .ok (.iaload, 1) := by decide +kernel
theorem d_L_law_1276 : decode code 1276 = .ok (.aload_n 3, 1) := by decide +kernel
theorem d_L_law_1277 : decode code 1277 = .ok (.invokestatic 145, 3) := by decide +kernel
theorem d_L_law_1280 : decode code 1280 = .ok (.istore 5, 2) := by decide +kernel
theorem d_L_law_1282 : decode code 1282 = .ok (.aload_n 2, 1) := by decide +kernel
theorem d_L_law_1283 : decode code 1283 = .ok (.aload_n 0, 1) := by decide +kernel
theorem d_L_law_1284 : decode code 1284 = .ok (.iload 4, 2) := by decide +kernel
theorem d_L_law_1286 : decode code 1286 = .ok (.iconst 1, 1) := by decide +kernel
theorem d_L_law_1287 : decode code 1287 = .ok (.iadd, 1) := by decide +kernel
theorem d_L_law_1288 : decode code 1288 = .ok (.iaload, 1) := by decide +kernel
theorem d_L_law_1289 : decode code 1289 = .ok (.aload_n 0, 1) := by decide +kernel
theorem d_L_law_1290 : decode code 1290 = .ok (.iload 4, 2) := by decide +kernel
theorem d_L_law_1292 : decode code 1292 = .ok (.iconst 2, 1) := by decide +kernel
theorem d_L_law_1293 : decode code 1293 = .ok (.iadd, 1) := by decide +kernel
theorem d_L_law_1294 : decode code 1294 = .ok (.iaload, 1) := by decide +kernel
theorem d_L_law_1295 : decode code 1295 = .ok (.invokevirtual 147, 3) := by decide +kernel
theorem d_L_law_1298 : decode code 1298 = .ok (.istore 6, 2) := by decide +kernel
theorem d_L_law_1300 : decode code 1300 = .ok (.aload_n 2, 1) := by decide +kernel
theorem d_L_law_1301 : decode code 1301 = .ok (.invokevirtual 90, 3) := by decide +kernel
theorem d_L_law_1304 : decode code 1304 = .ok (.iload 5, 2) := by decide +kernel
theorem d_L_law_1306 : decode code 1306 = .ok (.if_icmp .eq 5, 3) := by decide +kernel
theorem d_L_law_1309 : decode code 1309 = .ok (.iconst 0, 1) := by decide +kernel
theorem d_L_law_1310 : decode code 1310 = .ok (.ireturn, 1) := by decide +kernel
theorem d_L_law_1311 : decode code 1311 = .ok (.iload 5, 2) := by decide +kernel
theorem d_L_law_1313 : decode code 1313 = .ok (.ifCond .ne 15, 3) := by decide +kernel
theorem d_L_law_1316 : decode code 1316 = .ok (.aload_n 3, 1) := by decide +kernel
theorem d_L_law_1317 : decode code 1317 = .ok (.iconst 0, 1) := by decide +kernel
theorem d_L_law_1318 : decode code 1318 = .ok (.laload, 1) := by decide +kernel
theorem d_L_law_1319 : decode code 1319 = .ok (.iload 6, 2) := by decide +kernel
theorem d_L_law_1321 : decode code 1321 = .ok (.i2l, 1) := by decide +kernel
theorem d_L_law_1322 : decode code 1322 = .ok (.lcmp, 1) := by decide +kernel
theorem d_L_law_1323 : decode code 1323 = .ok (.ifCond .eq 5, 3) := by decide +kernel
theorem d_L_law_1326 : decode code 1326 = .ok (.iconst 0, 1) := by decide +kernel
theorem d_L_law_1327 : decode code 1327 = .ok (.ireturn, 1) := by decide +kernel
theorem d_L_law_1328 : decode code 1328 = .ok (.goto 135, 3) := by decide +kernel
theorem d_L_law_1331 : decode code 1331 = .ok (.aload_n 1, 1) := by decide +kernel
theorem d_L_law_1332 : decode code 1332 = .ok (.aload_n 0, 1) := by decide +kernel
theorem d_L_law_1333 : decode code 1333 = .ok (.iload 4, 2) := by decide +kernel
theorem d_L_law_1335 : decode code 1335 = .ok (.iconst 1, 1) := by decide +kernel
theorem d_L_law_1336 : decode code 1336 = .ok (.iadd, 1) := by decide +kernel
theorem d_L_law_1337 : decode code 1337 = .ok (.iaload, 1) := by decide +kernel
theorem d_L_law_1338 : decode code 1338 = .ok (.aload_n 3, 1) := by decide +kernel
theorem d_L_law_1339 : decode code 1339 = .ok (.invokestatic 148, 3) := by decide +kernel
theorem d_L_law_1342 : decode code 1342 = .ok (.istore 5, 2) := by decide +kernel
theorem d_L_law_1344 : decode code 1344 = .ok (.aload_n 2, 1) := by decide +kernel
theorem d_L_law_1345 : decode code 1345 = .ok (.aload_n 0, 1) := by decide +kernel
theorem d_L_law_1346 : decode code 1346 = .ok (.iload 4, 2) := by decide +kernel
theorem d_L_law_1348 : decode code 1348 = .ok (.iconst 1, 1) := by decide +kernel
theorem d_L_law_1349 : decode code 1349 = .ok (.iadd, 1) := by decide +kernel
theorem d_L_law_1350 : decode code 1350 = .ok (.iaload, 1) := by decide +kernel
theorem d_L_law_1351 : decode code 1351 = .ok (.invokevirtual 150, 3) := by decide +kernel
theorem d_L_law_1354 : decode code 1354 = .ok (.istore 6, 2) := by decide +kernel
theorem d_L_law_1356 : decode code 1356 = .ok (.aload_n 2, 1) := by decide +kernel
theorem d_L_law_1357 : decode code 1357 = .ok (.invokevirtual 90, 3) := by decide +kernel
theorem d_L_law_1360 : decode code 1360 = .ok (.iload 5, 2) := by decide +kernel
theorem d_L_law_1362 : decode code 1362 = .ok (.if_icmp .eq 5, 3) := by decide +kernel
theorem d_L_law_1365 : decode code 1365 = .ok (.iconst 0, 1) := by decide +kernel
theorem d_L_law_1366 : decode code 1366 = .ok (.ireturn, 1) := by decide +kernel
theorem d_L_law_1367 : decode code 1367 = .ok (.iload 5, 2) := by decide +kernel
theorem d_L_law_1369 : decode code 1369 = .ok (.ifCond .ne 15, 3) := by decide +kernel
theorem d_L_law_1372 : decode code 1372 = .ok (.aload_n 3, 1) := by decide +kernel
theorem d_L_law_1373 : decode code 1373 = .ok (.iconst 0, 1) := by decide +kernel
theorem d_L_law_1374 : decode code 1374 = .ok (.laload, 1) := by decide +kernel
theorem d_L_law_1375 : decode code 1375 = .ok (.iload 6, 2) := by decide +kernel
theorem d_L_law_1377 : decode code 1377 = .ok (.i2l, 1) := by decide +kernel
theorem d_L_law_1378 : decode code 1378 = .ok (.lcmp, 1) := by decide +kernel
theorem d_L_law_1379 : decode code 1379 = .ok (.ifCond .eq 5, 3) := by decide +kernel
theorem d_L_law_1382 : decode code 1382 = .ok (.iconst 0, 1) := by decide +kernel
theorem d_L_law_1383 : decode code 1383 = .ok (.ireturn, 1) := by decide +kernel
theorem d_L_law_1384 : decode code 1384 = .ok (.goto 79, 3) := by decide +kernel
theorem d_L_law_1387 : decode code 1387 = .ok (.aload_n 1, 1) := by decide +kernel
theorem d_L_law_1388 : decode code 1388 = .ok (.aload_n 0, 1) := by decide +kernel
theorem d_L_law_1389 : decode code 1389 = .ok (.iload 4, 2) := by decide +kernel
theorem d_L_law_1391 : decode code 1391 = .ok (.iconst 1, 1) := by decide +kernel
theorem d_L_law_1392 : decode code 1392 = .ok (.iadd, 1) := by decide +kernel
theorem d_L_law_1393 : decode code 1393 = .ok (.iaload, 1) := by decide +kernel
theorem d_L_law_1394 : decode code 1394 = .ok (.invokevirtual 151, 3) := by decide +kernel
theorem d_L_law_1397 : decode code 1397 = .ok (.aload_n 2, 1) := by decide +kernel
theorem d_L_law_1398 : decode code 1398 = .ok (.aload_n 0, 1) := by decide +kernel
theorem d_L_law_1399 : decode code 1399 = .ok (.iload 4, 2) := by decide +kernel
theorem d_L_law_1401 : decode code 1401 = .ok (.iconst 1, 1) := by decide +kernel
theorem d_L_law_1402 : decode code 1402 = .ok (.iadd, 1) := by decide +kernel
theorem d_L_law_1403 : decode code 1403 = .ok (.iaload, 1) := by decide +kernel
theorem d_L_law_1404 : decode code 1404 = .ok (.invokevirtual 155, 3) := by decide +kernel
theorem d_L_law_1407 : decode code 1407 = .ok (.if_icmp .eq 56, 3) := by decide +kernel
theorem d_L_law_1410 : decode code 1410 = .ok (.iconst 0, 1) := by decide +kernel
theorem d_L_law_1411 : decode code 1411 = .ok (.ireturn, 1) := by decide +kernel
theorem d_L_law_1412 : decode code 1412 = .ok (.aload_n 1, 1) := by decide +kernel
theorem d_L_law_1413 : decode code 1413 = .ok (.invokevirtual 156, 3) := by decide +kernel
theorem d_L_law_1416 : decode code 1416 = .ok (.aload_n 2, 1) := by decide +kernel
theorem d_L_law_1417 : decode code 1417 = .ok (.invokevirtual 159, 3) := by decide +kernel
theorem d_L_law_1420 : decode code 1420 = .ok (.if_icmp .eq 43, 3) := by decide +kernel
theorem d_L_law_1423 : decode code 1423 = .ok (.iconst 0, 1) := by decide +kernel
theorem d_L_law_1424 : decode code 1424 = .ok (.ireturn, 1) := by decide +kernel
theorem d_L_law_1425 : decode code 1425 = .ok (.aload_n 1, 1) := by decide +kernel
theorem d_L_law_1426 : decode code 1426 = .ok (.aload_n 0, 1) := by decide +kernel
theorem d_L_law_1427 : decode code 1427 = .ok (.iload 4, 2) := by decide +kernel
theorem d_L_law_1429 : decode code 1429 = .ok (.iconst 1, 1) := by decide +kernel
theorem d_L_law_1430 : decode code 1430 = .ok (.iadd, 1) := by decide +kernel
theorem d_L_law_1431 : decode code 1431 = .ok (.iaload, 1) := by decide +kernel
theorem d_L_law_1432 : decode code 1432 = .ok (.invokevirtual 160, 3) := by decide +kernel
theorem d_L_law_1435 : decode code 1435 = .ok (.aload_n 2, 1) := by decide +kernel
theorem d_L_law_1436 : decode code 1436 = .ok (.aload_n 0, 1) := by decide +kernel
theorem d_L_law_1437 : decode code 1437 = .ok (.iload 4, 2) := by decide +kernel
theorem d_L_law_1439 : decode code 1439 = .ok (.iconst 1, 1) := by decide +kernel
theorem d_L_law_1440 : decode code 1440 = .ok (.iadd, 1) := by decide +kernel
theorem d_L_law_1441 : decode code 1441 = .ok (.iaload, 1) := by decide +kernel
theorem d_L_law_1442 : decode code 1442 = .ok (.invokevirtual 163, 3) := by decide +kernel
theorem d_L_law_1445 : decode code 1445 = .ok (.if_icmp .eq 18, 3) := by decide +kernel
theorem d_L_law_1448 : decode code 1448 = .ok (.iconst 0, 1) := by decide +kernel
theorem d_L_law_1449 : decode code 1449 = .ok (.ireturn, 1) := by decide +kernel
theorem d_L_law_1450 : decode code 1450 = .ok (.aload_n 1, 1) := by decide +kernel
theorem d_L_law_1451 : decode code 1451 = .ok (.invokevirtual 164, 3) := by decide +kernel
theorem d_L_law_1454 : decode code 1454 = .ok (.aload_n 2, 1) := by decide +kernel
theorem d_L_law_1455 : decode code 1455 = .ok (.invokevirtual 167, 3) := by decide +kernel
theorem d_L_law_1458 : decode code 1458 = .ok (.if_icmp .eq 5, 3) := by decide +kernel
theorem d_L_law_1461 : decode code 1461 = .ok (.iconst 0, 1) := by decide +kernel
theorem d_L_law_1462 : decode code 1462 = .ok (.ireturn, 1) := by decide +kernel
theorem d_L_law_1463 : decode code 1463 = .ok (.iinc 4 4, 3) := by decide +kernel
theorem d_L_law_1466 : decode code 1466 = .ok (.goto (-1443), 3) := by decide +kernel
theorem d_L_law_1469 : decode code 1469 = .ok (.iconst 1, 1) := by decide +kernel
theorem d_L_law_1470 : decode code 1470 = .ok (.ireturn, 1) := by decide +kernel
