theorem dL_law_1266 : decode cL_law 1266 = .ok (.aload_n 1, 1) := k43 hC_cL_law rfl
theorem dL_law_1267 : decode cL_law 1267 = .ok (.aload_n 0, 1) := k42 hC_cL_law rfl
theorem dL_law_1268 : decode cL_law 1268 = .ok (.iload_n 3, 1) := k29 hC_cL_law rfl
theorem dL_law_1269 : decode cL_law 1269 = .ok (.iconst 1, 1) := k4 hC_cL_law rfl
theorem dL_law_1270 : decode cL_law 1270 = .ok (.iadd, 1) := k96 hC_cL_law rfl
theorem dL_law_1271 : decode cL_law 1271 = .ok (.iaload, 1) := k46 hC_cL_law rfl
theorem dL_law_1272 : decode cL_law 1272 = .ok (.aload_n 0, 1) := k42 hC_cL_law rfl
theorem dL_law_1273 : decode cL_law 1273 = .ok (.iload_n 3, 1) := k29 hC_cL_law rfl
theorem dL_law_1274 : decode cL_law 1274 = .ok (.iconst 2, 1) := k5 hC_cL_law rfl
theorem dL_law_1275 : decode cL_law 1275 = .ok (.iadd, 1) := k96 hC_cL_law rfl
theorem dL_law_1276 : decode cL_law 1276 = .ok (.iaload, 1) := k46 hC_cL_law rfl
theorem dL_law_1277 : decode cL_law 1277 = .ok (.aload_n 0, 1) := k42 hC_cL_law rfl
theorem dL_law_1278 : decode cL_law 1278 = .ok (.iload_n 3, 1) := k29 hC_cL_law rfl
theorem dL_law_1279 : decode cL_law 1279 = .ok (.iconst 3, 1) := k6 hC_cL_law rfl
theorem dL_law_1280 : decode cL_law 1280 = .ok (.iadd, 1) := k96 hC_cL_law rfl
theorem dL_law_1281 : decode cL_law 1281 = .ok (.iaload, 1) := k46 hC_cL_law rfl
theorem dL_law_1282 : decode cL_law 1282 = .ok (.aload_n 0, 1) := k42 hC_cL_law rfl
theorem dL_law_1283 : decode cL_law 1283 = .ok (.iload_n 3, 1) := k29 hC_cL_law rfl
theorem dL_law_1284 : decode cL_law 1284 = .ok (.iconst 4, 1) := k7 hC_cL_law rfl
theorem dL_law_1285 : decode cL_law 1285 = .ok (.iadd, 1) := k96 hC_cL_law rfl
theorem dL_law_1286 : decode cL_law 1286 = .ok (.iaload, 1) := k46 hC_cL_law rfl
theorem dL_law_1287 : decode cL_law 1287 = .ok (.ifCond .eq 7, 3) := k153 (y := 0) (z := 7) hC_cL_law rfl rfl
theorem dL_law_1290 : decode cL_law 1290 = .ok (.iconst 1, 1) := k4 hC_cL_law rfl
theorem dL_law_1291 : decode cL_law 1291 = .ok (.goto 4, 3) := k167 (y := 0) (z := 4) hC_cL_law rfl rfl
theorem dL_law_1294 : decode cL_law 1294 = .ok (.iconst 0, 1) := k3 hC_cL_law rfl
theorem dL_law_1295 : decode cL_law 1295 = .ok (.invokevirtual 144, 3) := k182 (y := 0) (z := 144) hC_cL_law rfl rfl
theorem dL_law_1298 : decode cL_law 1298 = .ok (.pop, 1) := k87 hC_cL_law rfl
theorem dL_law_1299 : decode cL_law 1299 = .ok (.aload_n 2, 1) := k44 hC_cL_law rfl
theorem dL_law_1300 : decode cL_law 1300 = .ok (.aload_n 0, 1) := k42 hC_cL_law rfl
theorem dL_law_1301 : decode cL_law 1301 = .ok (.iload_n 3, 1) := k29 hC_cL_law rfl
theorem dL_law_1302 : decode cL_law 1302 = .ok (.iconst 1, 1) := k4 hC_cL_law rfl
theorem dL_law_1303 : decode cL_law 1303 = .ok (.iadd, 1) := k96 hC_cL_law rfl
theorem dL_law_1304 : decode cL_law 1304 = .ok (.iaload, 1) := k46 hC_cL_law rfl
theorem dL_law_1305 : decode cL_law 1305 = .ok (.aload_n 0, 1) := k42 hC_cL_law rfl
theorem dL_law_1306 : decode cL_law 1306 = .ok (.iload_n 3, 1) := k29 hC_cL_law rfl
theorem dL_law_1307 : decode cL_law 1307 = .ok (.iconst 2, 1) := k5 hC_cL_law rfl
theorem dL_law_1308 : decode cL_law 1308 = .ok (.iadd, 1) := k96 hC_cL_law rfl
theorem dL_law_1309 : decode cL_law 1309 = .ok (.iaload, 1) := k46 hC_cL_law rfl
theorem dL_law_1310 : decode cL_law 1310 = .ok (.aload_n 0, 1) := k42 hC_cL_law rfl
theorem dL_law_1311 : decode cL_law 1311 = .ok (.iload_n 3, 1) := k29 hC_cL_law rfl
theorem dL_law_1312 : decode cL_law 1312 = .ok (.iconst 3, 1) := k6 hC_cL_law rfl
theorem dL_law_1313 : decode cL_law 1313 = .ok (.iadd, 1) := k96 hC_cL_law rfl
theorem dL_law_1314 : decode cL_law 1314 = .ok (.iaload, 1) := k46 hC_cL_law rfl
theorem dL_law_1315 : decode cL_law 1315 = .ok (.aload_n 0, 1) := k42 hC_cL_law rfl
theorem dL_law_1316 : decode cL_law 1316 = .ok (.iload_n 3, 1) := k29 hC_cL_law rfl
theorem dL_law_1317 : decode cL_law 1317 = .ok (.iconst 4, 1) := k7 hC_cL_law rfl
theorem dL_law_1318 : decode cL_law 1318 = .ok (.iadd, 1) := k96 hC_cL_law rfl
theorem dL_law_1319 : decode cL_law 1319 = .ok (.iaload, 1) := k46 hC_cL_law rfl
theorem dL_law_1320 : decode cL_law 1320 = .ok (.ifCond .eq 7, 3) := k153 (y := 0) (z := 7) hC_cL_law rfl rfl
theorem dL_law_1323 : decode cL_law 1323 = .ok (.iconst 1, 1) := k4 hC_cL_law rfl
theorem dL_law_1324 : decode cL_law 1324 = .ok (.goto 4, 3) := k167 (y := 0) (z := 4) hC_cL_law rfl rfl
theorem dL_law_1327 : decode cL_law 1327 = .ok (.iconst 0, 1) := k3 hC_cL_law rfl
theorem dL_law_1328 : decode cL_law 1328 = .ok (.invokevirtual 148, 3) := k182 (y := 0) (z := 148) hC_cL_law rfl rfl
theorem dL_law_1331 : decode cL_law 1331 = .ok (.pop, 1) := k87 hC_cL_law rfl
theorem dL_law_1332 : decode cL_law 1332 = .ok (.goto 237, 3) := k167 (y := 0) (z := 237) hC_cL_law rfl rfl
theorem dL_law_1335 : decode cL_law 1335 = .ok (.aload_n 1, 1) := k43 hC_cL_law rfl
theorem dL_law_1336 : decode cL_law 1336 = .ok (.aload_n 0, 1) := k42 hC_cL_law rfl
theorem dL_law_1337 : decode cL_law 1337 = .ok (.iload_n 3, 1) := k29 hC_cL_law rfl
theorem dL_law_1338 : decode cL_law 1338 = .ok (.iconst 1, 1) := k4 hC_cL_law rfl
theorem dL_law_1339 : decode cL_law 1339 = .ok (.iadd, 1) := k96 hC_cL_law rfl
theorem dL_law_1340 : decode cL_law 1340 = .ok (.iaload, 1) := k46 hC_cL_law rfl
theorem dL_law_1341 : decode cL_law 1341 = .ok (.invokevirtual 149, 3) := k182 (y := 0) (z := 149) hC_cL_law rfl rfl
theorem dL_law_1344 : decode cL_law 1344 = .ok (.pop, 1) := k87 hC_cL_law rfl
theorem dL_law_1345 : decode cL_law 1345 = .ok (.aload_n 2, 1) := k44 hC_cL_law rfl
theorem dL_law_1346 : decode cL_law 1346 = .ok (.aload_n 0, 1) := k42 hC_cL_law rfl
theorem dL_law_1347 : decode cL_law 1347 = .ok (.iload_n 3, 1) := k29 hC_cL_law rfl
theorem dL_law_1348 : decode cL_law 1348 = .ok (.iconst 1, 1) := k4 hC_cL_law rfl
theorem dL_law_1349 : decode cL_law 1349 = .ok (.iadd, 1) := k96 hC_cL_law rfl
theorem dL_law_1350 : decode cL_law 1350 = .ok (.iaload, 1) := k46 hC_cL_law rfl
theorem dL_law_1351 : decode cL_law 1351 = .ok (.invokevirtual 152, 3) := k182 (y := 0) (z := 152) hC_cL_law rfl rfl
theorem dL_law_1354 : decode cL_law 1354 = .ok (.pop, 1) := k87 hC_cL_law rfl
theorem dL_law_1355 : decode cL_law 1355 = .ok (.goto 214, 3) := k167 (y := 0) (z := 214) hC_cL_law rfl rfl
theorem dL_law_1358 : decode cL_law 1358 = .ok (.aload_n 1, 1) := k43 hC_cL_law rfl
theorem dL_law_1359 : decode cL_law 1359 = .ok (.aload_n 0, 1) := k42 hC_cL_law rfl
theorem dL_law_1360 : decode cL_law 1360 = .ok (.iload_n 3, 1) := k29 hC_cL_law rfl
theorem dL_law_1361 : decode cL_law 1361 = .ok (.iconst 1, 1) := k4 hC_cL_law rfl
theorem dL_law_1362 : decode cL_law 1362 = .ok (.iadd, 1) := k96 hC_cL_law rfl
theorem dL_law_1363 : decode cL_law 1363 = .ok (.iaload, 1) := k46 hC_cL_law rfl
theorem dL_law_1364 : decode cL_law 1364 = .ok (.aload_n 0, 1) := k42 hC_cL_law rfl
theorem dL_law_1365 : decode cL_law 1365 = .ok (.iload_n 3, 1) := k29 hC_cL_law rfl
theorem dL_law_1366 : decode cL_law 1366 = .ok (.iconst 2, 1) := k5 hC_cL_law rfl
theorem dL_law_1367 : decode cL_law 1367 = .ok (.iadd, 1) := k96 hC_cL_law rfl
theorem dL_law_1368 : decode cL_law 1368 = .ok (.iaload, 1) := k46 hC_cL_law rfl
theorem dL_law_1369 : decode cL_law 1369 = .ok (.aload_n 0, 1) := k42 hC_cL_law rfl
theorem dL_law_1370 : decode cL_law 1370 = .ok (.iload_n 3, 1) := k29 hC_cL_law rfl
theorem dL_law_1371 : decode cL_law 1371 = .ok (.iconst 3, 1) := k6 hC_cL_law rfl
theorem dL_law_1372 : decode cL_law 1372 = .ok (.iadd, 1) := k96 hC_cL_law rfl
theorem dL_law_1373 : decode cL_law 1373 = .ok (.iaload, 1) := k46 hC_cL_law rfl
theorem dL_law_1374 : decode cL_law 1374 = .ok (.invokevirtual 153, 3) := k182 (y := 0) (z := 153) hC_cL_law rfl rfl
theorem dL_law_1377 : decode cL_law 1377 = .ok (.pop, 1) := k87 hC_cL_law rfl
theorem dL_law_1378 : decode cL_law 1378 = .ok (.aload_n 2, 1) := k44 hC_cL_law rfl
theorem dL_law_1379 : decode cL_law 1379 = .ok (.aload_n 0, 1) := k42 hC_cL_law rfl
theorem dL_law_1380 : decode cL_law 1380 = .ok (.iload_n 3, 1) := k29 hC_cL_law rfl
theorem dL_law_1381 : decode cL_law 1381 = .ok (.iconst 1, 1) := k4 hC_cL_law rfl
theorem dL_law_1382 : decode cL_law 1382 = .ok (.iadd, 1) := k96 hC_cL_law rfl
theorem dL_law_1383 : decode cL_law 1383 = .ok (.iaload, 1) := k46 hC_cL_law rfl
theorem dL_law_1384 : decode cL_law 1384 = .ok (.aload_n 0, 1) := k42 hC_cL_law rfl
theorem dL_law_1385 : decode cL_law 1385 = .ok (.iload_n 3, 1) := k29 hC_cL_law rfl
theorem dL_law_1386 : decode cL_law 1386 = .ok (.iconst 2, 1) := k5 hC_cL_law rfl
theorem dL_law_1387 : decode cL_law 1387 = .ok (.iadd, 1) := k96 hC_cL_law rfl
theorem dL_law_1388 : decode cL_law 1388 = .ok (.iaload, 1) := k46 hC_cL_law rfl
theorem dL_law_1389 : decode cL_law 1389 = .ok (.aload_n 0, 1) := k42 hC_cL_law rfl
theorem dL_law_1390 : decode cL_law 1390 = .ok (.iload_n 3, 1) := k29 hC_cL_law rfl
theorem dL_law_1391 : decode cL_law 1391 = .ok (.iconst 3, 1) := k6 hC_cL_law rfl
theorem dL_law_1392 : decode cL_law 1392 = .ok (.iadd, 1) := k96 hC_cL_law rfl
theorem dL_law_1393 : decode cL_law 1393 = .ok (.iaload, 1) := k46 hC_cL_law rfl
theorem dL_law_1394 : decode cL_law 1394 = .ok (.invokevirtual 156, 3) := k182 (y := 0) (z := 156) hC_cL_law rfl rfl
theorem dL_law_1397 : decode cL_law 1397 = .ok (.pop, 1) := k87 hC_cL_law rfl
theorem dL_law_1398 : decode cL_law 1398 = .ok (.goto 171, 3) := k167 (y := 0) (z := 171) hC_cL_law rfl rfl
theorem dL_law_1401 : decode cL_law 1401 = .ok (.aload_n 1, 1) := k43 hC_cL_law rfl
theorem dL_law_1402 : decode cL_law 1402 = .ok (.aload_n 0, 1) := k42 hC_cL_law rfl
theorem dL_law_1403 : decode cL_law 1403 = .ok (.iload_n 3, 1) := k29 hC_cL_law rfl
theorem dL_law_1404 : decode cL_law 1404 = .ok (.iconst 1, 1) := k4 hC_cL_law rfl
theorem dL_law_1405 : decode cL_law 1405 = .ok (.iadd, 1) := k96 hC_cL_law rfl
theorem dL_law_1406 : decode cL_law 1406 = .ok (.iaload, 1) := k46 hC_cL_law rfl
theorem dL_law_1407 : decode cL_law 1407 = .ok (.aload_n 0, 1) := k42 hC_cL_law rfl
theorem dL_law_1408 : decode cL_law 1408 = .ok (.iload_n 3, 1) := k29 hC_cL_law rfl
theorem dL_law_1409 : decode cL_law 1409 = .ok (.iconst 2, 1) := k5 hC_cL_law rfl
theorem dL_law_1410 : decode cL_law 1410 = .ok (.iadd, 1) := k96 hC_cL_law rfl
theorem dL_law_1411 : decode cL_law 1411 = .ok (.iaload, 1) := k46 hC_cL_law rfl
theorem dL_law_1412 : decode cL_law 1412 = .ok (.aload_n 0, 1) := k42 hC_cL_law rfl
theorem dL_law_1413 : decode cL_law 1413 = .ok (.iload_n 3, 1) := k29 hC_cL_law rfl
theorem dL_law_1414 : decode cL_law 1414 = .ok (.iconst 3, 1) := k6 hC_cL_law rfl
theorem dL_law_1415 : decode cL_law 1415 = .ok (.iadd, 1) := k96 hC_cL_law rfl
theorem dL_law_1416 : decode cL_law 1416 = .ok (.iaload, 1) := k46 hC_cL_law rfl
theorem dL_law_1417 : decode cL_law 1417 = .ok (.invokevirtual 157, 3) := k182 (y := 0) (z := 157) hC_cL_law rfl rfl
theorem dL_law_1420 : decode cL_law 1420 = .ok (.pop, 1) := k87 hC_cL_law rfl
theorem dL_law_1421 : decode cL_law 1421 = .ok (.aload_n 2, 1) := k44 hC_cL_law rfl
theorem dL_law_1422 : decode cL_law 1422 = .ok (.aload_n 0, 1) := k42 hC_cL_law rfl
theorem dL_law_1423 : decode cL_law 1423 = .ok (.iload_n 3, 1) := k29 hC_cL_law rfl
theorem dL_law_1424 : decode cL_law 1424 = .ok (.iconst 1, 1) := k4 hC_cL_law rfl
theorem dL_law_1425 : decode cL_law 1425 = .ok (.iadd, 1) := k96 hC_cL_law rfl
theorem dL_law_1426 : decode cL_law 1426 = .ok (.iaload, 1) := k46 hC_cL_law rfl
theorem dL_law_1427 : decode cL_law 1427 = .ok (.aload_n 0, 1) := k42 hC_cL_law rfl
theorem dL_law_1428 : decode cL_law 1428 = .ok (.iload_n 3, 1) := k29 hC_cL_law rfl
theorem dL_law_1429 : decode cL_law 1429 = .ok (.iconst 2, 1) := k5 hC_cL_law rfl
theorem dL_law_1430 : decode cL_law 1430 = .ok (.iadd, 1) := k96 hC_cL_law rfl
theorem dL_law_1431 : decode cL_law 1431 = .ok (.iaload, 1) := k46 hC_cL_law rfl
theorem dL_law_1432 : decode cL_law 1432 = .ok (.aload_n 0, 1) := k42 hC_cL_law rfl
theorem dL_law_1433 : decode cL_law 1433 = .ok (.iload_n 3, 1) := k29 hC_cL_law rfl
theorem dL_law_1434 : decode cL_law 1434 = .ok (.iconst 3, 1) := k6 hC_cL_law rfl
theorem dL_law_1435 : decode cL_law 1435 = .ok (.iadd, 1) := k96 hC_cL_law rfl
theorem dL_law_1436 : decode cL_law 1436 = .ok (.iaload, 1) := k46 hC_cL_law rfl
theorem dL_law_1437 : decode cL_law 1437 = .ok (.invokevirtual 160, 3) := k182 (y := 0) (z := 160) hC_cL_law rfl rfl
theorem dL_law_1440 : decode cL_law 1440 = .ok (.pop, 1) := k87 hC_cL_law rfl
theorem dL_law_1441 : decode cL_law 1441 = .ok (.goto 128, 3) := k167 (y := 0) (z := 128) hC_cL_law rfl rfl
theorem dL_law_1444 : decode cL_law 1444 = .ok (.aload_n 1, 1) := k43 hC_cL_law rfl
theorem dL_law_1445 : decode cL_law 1445 = .ok (.aload_n 0, 1) := k42 hC_cL_law rfl
theorem dL_law_1446 : decode cL_law 1446 = .ok (.iload_n 3, 1) := k29 hC_cL_law rfl
theorem dL_law_1447 : decode cL_law 1447 = .ok (.iconst 1, 1) := k4 hC_cL_law rfl
theorem dL_law_1448 : decode cL_law 1448 = .ok (.iadd, 1) := k96 hC_cL_law rfl
theorem dL_law_1449 : decode cL_law 1449 = .ok (.iaload, 1) := k46 hC_cL_law rfl
theorem dL_law_1450 : decode cL_law 1450 = .ok (.invokevirtual 161, 3) := k182 (y := 0) (z := 161) hC_cL_law rfl rfl
theorem dL_law_1453 : decode cL_law 1453 = .ok (.pop, 1) := k87 hC_cL_law rfl
theorem dL_law_1454 : decode cL_law 1454 = .ok (.aload_n 2, 1) := k44 hC_cL_law rfl
theorem dL_law_1455 : decode cL_law 1455 = .ok (.aload_n 0, 1) := k42 hC_cL_law rfl
theorem dL_law_1456 : decode cL_law 1456 = .ok (.iload_n 3, 1) := k29 hC_cL_law rfl
theorem dL_law_1457 : decode cL_law 1457 = .ok (.iconst 1, 1) := k4 hC_cL_law rfl
theorem dL_law_1458 : decode cL_law 1458 = .ok (.iadd, 1) := k96 hC_cL_law rfl
theorem dL_law_1459 : decode cL_law 1459 = .ok (.iaload, 1) := k46 hC_cL_law rfl
theorem dL_law_1460 : decode cL_law 1460 = .ok (.invokevirtual 164, 3) := k182 (y := 0) (z := 164) hC_cL_law rfl rfl
theorem dL_law_1463 : decode cL_law 1463 = .ok (.pop, 1) := k87 hC_cL_law rfl
theorem dL_law_1464 : decode cL_law 1464 = .ok (.goto 105, 3) := k167 (y := 0) (z := 105) hC_cL_law rfl rfl
theorem dL_law_1467 : decode cL_law 1467 = .ok (.aload_n 1, 1) := k43 hC_cL_law rfl
theorem dL_law_1468 : decode cL_law 1468 = .ok (.aload_n 0, 1) := k42 hC_cL_law rfl
theorem dL_law_1469 : decode cL_law 1469 = .ok (.iload_n 3, 1) := k29 hC_cL_law rfl
theorem dL_law_1470 : decode cL_law 1470 = .ok (.iconst 1, 1) := k4 hC_cL_law rfl
theorem dL_law_1471 : decode cL_law 1471 = .ok (.iadd, 1) := k96 hC_cL_law rfl
theorem dL_law_1472 : decode cL_law 1472 = .ok (.iaload, 1) := k46 hC_cL_law rfl
theorem dL_law_1473 : decode cL_law 1473 = .ok (.invokevirtual 165, 3) := k182 (y := 0) (z := 165) hC_cL_law rfl rfl
theorem dL_law_1476 : decode cL_law 1476 = .ok (.pop, 1) := k87 hC_cL_law rfl
theorem dL_law_1477 : decode cL_law 1477 = .ok (.aload_n 2, 1) := k44 hC_cL_law rfl
theorem dL_law_1478 : decode cL_law 1478 = .ok (.aload_n 0, 1) := k42 hC_cL_law rfl
theorem dL_law_1479 : decode cL_law 1479 = .ok (.iload_n 3, 1) := k29 hC_cL_law rfl
theorem dL_law_1480 : decode cL_law 1480 = .ok (.iconst 1, 1) := k4 hC_cL_law rfl
theorem dL_law_1481 : decode cL_law 1481 = .ok (.iadd, 1) := k96 hC_cL_law rfl
theorem dL_law_1482 : decode cL_law 1482 = .ok (.iaload, 1) := k46 hC_cL_law rfl
theorem dL_law_1483 : decode cL_law 1483 = .ok (.invokevirtual 168, 3) := k182 (y := 0) (z := 168) hC_cL_law rfl rfl
theorem dL_law_1486 : decode cL_law 1486 = .ok (.pop, 1) := k87 hC_cL_law rfl
theorem dL_law_1487 : decode cL_law 1487 = .ok (.goto 82, 3) := k167 (y := 0) (z := 82) hC_cL_law rfl rfl
theorem dL_law_1490 : decode cL_law 1490 = .ok (.aload_n 1, 1) := k43 hC_cL_law rfl
theorem dL_law_1491 : decode cL_law 1491 = .ok (.aload_n 0, 1) := k42 hC_cL_law rfl
theorem dL_law_1492 : decode cL_law 1492 = .ok (.iload_n 3, 1) := k29 hC_cL_law rfl
theorem dL_law_1493 : decode cL_law 1493 = .ok (.iconst 1, 1) := k4 hC_cL_law rfl
theorem dL_law_1494 : decode cL_law 1494 = .ok (.iadd, 1) := k96 hC_cL_law rfl
theorem dL_law_1495 : decode cL_law 1495 = .ok (.iaload, 1) := k46 hC_cL_law rfl
theorem dL_law_1496 : decode cL_law 1496 = .ok (.invokevirtual 169, 3) := k182 (y := 0) (z := 169) hC_cL_law rfl rfl
theorem dL_law_1499 : decode cL_law 1499 = .ok (.pop, 1) := k87 hC_cL_law rfl
theorem dL_law_1500 : decode cL_law 1500 = .ok (.aload_n 2, 1) := k44 hC_cL_law rfl
theorem dL_law_1501 : decode cL_law 1501 = .ok (.aload_n 0, 1) := k42 hC_cL_law rfl
theorem dL_law_1502 : decode cL_law 1502 = .ok (.iload_n 3, 1) := k29 hC_cL_law rfl
theorem dL_law_1503 : decode cL_law 1503 = .ok (.iconst 1, 1) := k4 hC_cL_law rfl
theorem dL_law_1504 : decode cL_law 1504 = .ok (.iadd, 1) := k96 hC_cL_law rfl
theorem dL_law_1505 : decode cL_law 1505 = .ok (.iaload, 1) := k46 hC_cL_law rfl
theorem dL_law_1506 : decode cL_law 1506 = .ok (.invokevirtual 172, 3) := k182 (y := 0) (z := 172) hC_cL_law rfl rfl
theorem dL_law_1509 : decode cL_law 1509 = .ok (.pop, 1) := k87 hC_cL_law rfl
theorem dL_law_1510 : decode cL_law 1510 = .ok (.goto 59, 3) := k167 (y := 0) (z := 59) hC_cL_law rfl rfl
theorem dL_law_1513 : decode cL_law 1513 = .ok (.aload_n 1, 1) := k43 hC_cL_law rfl
theorem dL_law_1514 : decode cL_law 1514 = .ok (.aload_n 0, 1) := k42 hC_cL_law rfl
theorem dL_law_1515 : decode cL_law 1515 = .ok (.iload_n 3, 1) := k29 hC_cL_law rfl
theorem dL_law_1516 : decode cL_law 1516 = .ok (.iconst 1, 1) := k4 hC_cL_law rfl
theorem dL_law_1517 : decode cL_law 1517 = .ok (.iadd, 1) := k96 hC_cL_law rfl
theorem dL_law_1518 : decode cL_law 1518 = .ok (.iaload, 1) := k46 hC_cL_law rfl
theorem dL_law_1519 : decode cL_law 1519 = .ok (.aload_n 0, 1) := k42 hC_cL_law rfl
theorem dL_law_1520 : decode cL_law 1520 = .ok (.iload_n 3, 1) := k29 hC_cL_law rfl
theorem dL_law_1521 : decode cL_law 1521 = .ok (.iconst 2, 1) := k5 hC_cL_law rfl
theorem dL_law_1522 : decode cL_law 1522 = .ok (.iadd, 1) := k96 hC_cL_law rfl
theorem dL_law_1523 : decode cL_law 1523 = .ok (.iaload, 1) := k46 hC_cL_law rfl
theorem dL_law_1524 : decode cL_law 1524 = .ok (.invokevirtual 173, 3) := k182 (y := 0) (z := 173) hC_cL_law rfl rfl
theorem dL_law_1527 : decode cL_law 1527 = .ok (.pop, 1) := k87 hC_cL_law rfl
theorem dL_law_1528 : decode cL_law 1528 = .ok (.aload_n 2, 1) := k44 hC_cL_law rfl
theorem dL_law_1529 : decode cL_law 1529 = .ok (.aload_n 0, 1) := k42 hC_cL_law rfl
theorem dL_law_1530 : decode cL_law 1530 = .ok (.iload_n 3, 1) := k29 hC_cL_law rfl
theorem dL_law_1531 : decode cL_law 1531 = .ok (.iconst 1, 1) := k4 hC_cL_law rfl
theorem dL_law_1532 : decode cL_law 1532 = .ok (.iadd, 1) := k96 hC_cL_law rfl
theorem dL_law_1533 : decode cL_law 1533 = .ok (.iaload, 1) := k46 hC_cL_law rfl
theorem dL_law_1534 : decode cL_law 1534 = .ok (.aload_n 0, 1) := k42 hC_cL_law rfl
theorem dL_law_1535 : decode cL_law 1535 = .ok (.iload_n 3, 1) := k29 hC_cL_law rfl
theorem dL_law_1536 : decode cL_law 1536 = .ok (.iconst 2, 1) := k5 hC_cL_law rfl
theorem dL_law_1537 : decode cL_law 1537 = .ok (.iadd, 1) := k96 hC_cL_law rfl
theorem dL_law_1538 : decode cL_law 1538 = .ok (.iaload, 1) := k46 hC_cL_law rfl
theorem dL_law_1539 : decode cL_law 1539 = .ok (.invokevirtual 176, 3) := k182 (y := 0) (z := 176) hC_cL_law rfl rfl
theorem dL_law_1542 : decode cL_law 1542 = .ok (.pop, 1) := k87 hC_cL_law rfl
theorem dL_law_1543 : decode cL_law 1543 = .ok (.goto 26, 3) := k167 (y := 0) (z := 26) hC_cL_law rfl rfl
theorem dL_law_1546 : decode cL_law 1546 = .ok (.aload_n 1, 1) := k43 hC_cL_law rfl
theorem dL_law_1547 : decode cL_law 1547 = .ok (.aload_n 0, 1) := k42 hC_cL_law rfl
theorem dL_law_1548 : decode cL_law 1548 = .ok (.iload_n 3, 1) := k29 hC_cL_law rfl
theorem dL_law_1549 : decode cL_law 1549 = .ok (.iconst 1, 1) := k4 hC_cL_law rfl
theorem dL_law_1550 : decode cL_law 1550 = .ok (.iadd, 1) := k96 hC_cL_law rfl
theorem dL_law_1551 : decode cL_law 1551 = .ok (.iaload, 1) := k46 hC_cL_law rfl
theorem dL_law_1552 : decode cL_law 1552 = .ok (.invokevirtual 177, 3) := k182 (y := 0) (z := 177) hC_cL_law rfl rfl
theorem dL_law_1555 : decode cL_law 1555 = .ok (.pop, 1) := k87 hC_cL_law rfl
theorem dL_law_1556 : decode cL_law 1556 = .ok (.aload_n 2, 1) := k44 hC_cL_law rfl
theorem dL_law_1557 : decode cL_law 1557 = .ok (.aload_n 0, 1) := k42 hC_cL_law rfl
theorem dL_law_1558 : decode cL_law 1558 = .ok (.iload_n 3, 1) := k29 hC_cL_law rfl
theorem dL_law_1559 : decode cL_law 1559 = .ok (.iconst 1, 1) := k4 hC_cL_law rfl
theorem dL_law_1560 : decode cL_law 1560 = .ok (.iadd, 1) := k96 hC_cL_law rfl
theorem dL_law_1561 : decode cL_law 1561 = .ok (.iaload, 1) := k46 hC_cL_law rfl
theorem dL_law_1562 : decode cL_law 1562 = .ok (.invokevirtual 180, 3) := k182 (y := 0) (z := 180) hC_cL_law rfl rfl
theorem dL_law_1565 : decode cL_law 1565 = .ok (.pop, 1) := k87 hC_cL_law rfl
theorem dL_law_1566 : decode cL_law 1566 = .ok (.goto 3, 3) := k167 (y := 0) (z := 3) hC_cL_law rfl rfl
set_option maxHeartbeats 4000000 in
set_option maxRecDepth 100000 in
theorem law_case_30 {p : Program} {l : Launch} {e : Env} {s : State} {m : MethodId} {below : List Frame} {meth : Method} {c : Code} {b : Nat} {xs : Nat → Int32} {L : Nat} (C0 : lw_At p s m meth c b L xs) {D : va_G} {ct : Nat → ClassId} {tN : Nat} (E : Ev p s m #[Value.ref b] c R_law 4 code D (TY ct) tN (fun q : Nat => s.heap.size ≤ q)) {ad am : Nat → Nat} {n : Nat} {H : Heap} {locs : List Loc} {cells slots : Nat} (hS : va_S (fun q : Nat => s.heap.size ≤ q) s.heap H locs) (h : LI D (fun q : Nat => s.heap.size ≤ q) ct ad am tN n H) {ls : Array Slot} {i : Int32} (hl : lv_has ls 4 [(3, .int i), (2, .ref (am 0)), (1, .ref (ad 0)), (0, .ref b)]) (hi0 : 0 ≤ i.toInt) (hi1 : i.toInt + 5 < (L : Int)) (hLb : (L : Int) ≤ 3072) (hin : i.toInt = 6 * (n : Int)) (hcl : cells + 8 ≤ 600000) (hsl : slots + 160 ≤ 7302250) (kk : ∀ (H1 : Heap) (locs1 : List Loc) (ls1 : Array Slot), LI D (fun q : Nat => s.heap.size ≤ q) ct ad am tN (n + 1) H1 → va_S (fun q : Nat => s.heap.size ≤ q) s.heap H1 locs1 → lv_has ls1 4 [(3, .int i), (2, .ref (am 0)), (1, .ref (ad 0)), (0, .ref b)] → W p l e room_1 s m #[Value.ref b] below meth c H1 locs1 (cells + 8) (slots + 160) (lw_Z below #[Value.ref b] s) (F0 m 1569 ls1 [])) : W p l e room_1 s m #[Value.ref b] below meth c H locs cells slots (lw_Z below #[Value.ref b] s) (F0 m 1266 ls []) := by
  obtain ⟨hx, hb, hr0, hml, hown, hts, hX, hbl, hlocks, hgv⟩ := id C0
  refine h _ (fun i0 i1 i2 i3 i4 i5 i6 i7 i8 i9 i10 i11 i12 i13 i14 i15 i16 i17 i18 i19 i20 i21 i22 i23 i24 i25 i26 i27 i28 i29 i30 i31 i32 i33 i34 i35 a1 a2 a4 a5 a7 a8 a10 a11 a13 a14 a15 a18 a19 a20 a21 a22 a23 a24 a25 a26 a29 a30 a31 a32 a43 a44 a45 a51 a52 a53 a54 a55 l46 r9n r9c og ogn ogc rtn rtc ptn ptc p0 p1 Pl j0 j1 j2 j3 j4 j5 j6 j7 j8 j9 j10 j11 j12 j13 j14 j15 j16 j17 j18 j19 j20 j21 j22 j23 j24 j25 j26 j27 j28 j29 b1 b2 b3 b4 b5 b6 b7 b8 b9 b10 b11 b12 b13 b14 b15 b16 b17 b18 b19 b20 b21 b22 b23 b24 b25 b26 b27 b28 b29 b30 b31 b32 b33 b34 b35 b36 b37 b38 b39 b40 b41 b42 b43 b44 b45 b46 b47 b48 b49 b50 b51 b52 b53 b55 b56 b57 b58 b61 b62 b63 b64 b65 b66 iam B hM hr hp hk hcn hxR1 => ?_)
  refine lv_aload_n hx hb dL_law_1266 rfl (lv_at hl 2 rfl) ?_
  refine law_arg (kv := 1) C0 E hS hl (by decide) (by decide) (by omega) (by omega) (by omega) dL_law_1267 dL_law_1268 dL_law_1269 dL_law_1270 dL_law_1271 ?_
  refine at_pc (n := 1272) rfl ?_
  refine law_arg (kv := 2) C0 E hS hl (by decide) (by decide) (by omega) (by omega) (by omega) dL_law_1272 dL_law_1273 dL_law_1274 dL_law_1275 dL_law_1276 ?_
  refine at_pc (n := 1277) rfl ?_
  refine law_arg (kv := 3) C0 E hS hl (by decide) (by decide) (by omega) (by omega) (by omega) dL_law_1277 dL_law_1278 dL_law_1279 dL_law_1280 dL_law_1281 ?_
  refine at_pc (n := 1282) rfl ?_
  refine law_arg (kv := 4) C0 E hS hl (by decide) (by decide) (by omega) (by omega) (by omega) dL_law_1282 dL_law_1283 dL_law_1284 dL_law_1285 dL_law_1286 ?_
  refine at_pc (n := 1287) rfl ?_
  refine b_eq (tgt := 1294) E rfl dL_law_1287 (by decide) (fun c_1 => ?_) (fun c_1 => ?_)
  · skip
    refine lv_iconst (v := 0) hx hb dL_law_1294 (by decide) ?_
    obtain ⟨_, Rz⟩ := B.rec0
    refine hc_VI (kn := 4) E hS B (x11_reads l D tN (fun q : Nat => s.heap.size ≤ q) ((xs (i.toInt + 1).toNat)) ((xs (i.toInt + 2).toNat)) ((xs (i.toInt + 3).toNat)) ((0 : Int32))) (good_V w_f2e04574 w_57a9cb60 w_fef7e639 w_93c426f0 w_33fc984a) Rz rfl ⟨rfl, by decide +kernel⟩ rfl rfl rfl ⟨Nat.le_of_ble_eq_true rfl, Nat.le_of_ble_eq_true rfl⟩ rfl hl (Nat.le_of_ble_eq_true rfl) dL_law_1295 ⟨by show _ ≤ 600000; omega, by show _ ≤ 7302250; omega⟩ (fun v_2 H locs w_3 hS => ?_)
    have B0 := B
    obtain ⟨na10_4, na11_5, hv_6, B⟩ := w_3
    refine at_n (n := 1298) (k1 := cells + 0) (k2 := slots + 0) rfl rfl rfl ?_
    refine lv_pop hx hb dL_law_1298 rfl ?_
    refine lv_aload_n hx hb dL_law_1299 rfl (lv_at hl 1 rfl) ?_
    refine law_arg (kv := 1) C0 E hS hl (by decide) (by decide) (by omega) (by omega) (by omega) dL_law_1300 dL_law_1301 dL_law_1302 dL_law_1303 dL_law_1304 ?_
    refine at_pc (n := 1305) rfl ?_
    refine law_arg (kv := 2) C0 E hS hl (by decide) (by decide) (by omega) (by omega) (by omega) dL_law_1305 dL_law_1306 dL_law_1307 dL_law_1308 dL_law_1309 ?_
    refine at_pc (n := 1310) rfl ?_
    refine law_arg (kv := 3) C0 E hS hl (by decide) (by decide) (by omega) (by omega) (by omega) dL_law_1310 dL_law_1311 dL_law_1312 dL_law_1313 dL_law_1314 ?_
    refine at_pc (n := 1315) rfl ?_
    refine law_arg (kv := 4) C0 E hS hl (by decide) (by decide) (by omega) (by omega) (by omega) dL_law_1315 dL_law_1316 dL_law_1317 dL_law_1318 dL_law_1319 ?_
    refine at_pc (n := 1320) rfl ?_
    refine b_eq (tgt := 1327) E rfl dL_law_1320 (by decide) (fun c_7 => ?_) (fun c_7 => ?_)
    · skip
      refine lv_iconst (v := 0) hx hb dL_law_1327 (by decide) ?_
      obtain ⟨Rw, B, back⟩ := toM B hM
      obtain ⟨_, Rz⟩ := B.rec
      refine hc_VI (kn := 4) E hS B (m12_reads l D tN (fun q : Nat => s.heap.size ≤ q) ((xs (i.toInt + 1).toNat)) ((xs (i.toInt + 2).toNat)) ((xs (i.toInt + 3).toNat)) ((0 : Int32))) (good_V w_cdd03d04 w_1171cfdc w_c38b64d7 w_2e12d08c w_1eff1062) Rz rfl ⟨rfl, by decide +kernel⟩ rfl rfl rfl ⟨Nat.le_of_ble_eq_true rfl, Nat.le_of_ble_eq_true rfl⟩ rfl hl (Nat.le_of_ble_eq_true rfl) dL_law_1328 ⟨by show _ ≤ 600000; omega, by show _ ≤ 7302250; omega⟩ (fun v_8 H locs w_9 hS => ?_)
      obtain ⟨na61_10, na62_11, hv_12, B⟩ := w_9
      obtain ⟨_, B, hM⟩ := back B
      refine at_n (n := 1331) (k1 := cells + 0) (k2 := slots + 0) rfl rfl rfl ?_
      refine lv_pop hx hb dL_law_1331 rfl ?_
      refine lv_goto (tgt := 1569) hx hb dL_law_1332 (by decide) ?_
      refine W.widen (k := cells + 8) (n := slots + 160) (by omega) (by omega) ?_
      refine kk _ _ _ (LI.mk B hM hr hp hk (by omega) hxR1) hS hl
    · exfalso; omega
  · skip
    refine lv_iconst (v := 1) hx hb dL_law_1290 (by decide) ?_
    refine lv_goto (tgt := 1295) hx hb dL_law_1291 (by decide) ?_
    obtain ⟨_, Rz⟩ := B.rec0
    refine hc_VI (kn := 4) E hS B (x11_reads l D tN (fun q : Nat => s.heap.size ≤ q) ((xs (i.toInt + 1).toNat)) ((xs (i.toInt + 2).toNat)) ((xs (i.toInt + 3).toNat)) ((1 : Int32))) (good_V w_f2e04574 w_57a9cb60 w_fef7e639 w_93c426f0 w_33fc984a) Rz rfl ⟨rfl, by decide +kernel⟩ rfl rfl rfl ⟨Nat.le_of_ble_eq_true rfl, Nat.le_of_ble_eq_true rfl⟩ rfl hl (Nat.le_of_ble_eq_true rfl) dL_law_1295 ⟨by show _ ≤ 600000; omega, by show _ ≤ 7302250; omega⟩ (fun v_13 H locs w_14 hS => ?_)
    have B0 := B
    obtain ⟨na10_15, na11_16, hv_17, B⟩ := w_14
    refine at_n (n := 1298) (k1 := cells + 0) (k2 := slots + 0) rfl rfl rfl ?_
    refine lv_pop hx hb dL_law_1298 rfl ?_
    refine lv_aload_n hx hb dL_law_1299 rfl (lv_at hl 1 rfl) ?_
    refine law_arg (kv := 1) C0 E hS hl (by decide) (by decide) (by omega) (by omega) (by omega) dL_law_1300 dL_law_1301 dL_law_1302 dL_law_1303 dL_law_1304 ?_
    refine at_pc (n := 1305) rfl ?_
    refine law_arg (kv := 2) C0 E hS hl (by decide) (by decide) (by omega) (by omega) (by omega) dL_law_1305 dL_law_1306 dL_law_1307 dL_law_1308 dL_law_1309 ?_
    refine at_pc (n := 1310) rfl ?_
    refine law_arg (kv := 3) C0 E hS hl (by decide) (by decide) (by omega) (by omega) (by omega) dL_law_1310 dL_law_1311 dL_law_1312 dL_law_1313 dL_law_1314 ?_
    refine at_pc (n := 1315) rfl ?_
    refine law_arg (kv := 4) C0 E hS hl (by decide) (by decide) (by omega) (by omega) (by omega) dL_law_1315 dL_law_1316 dL_law_1317 dL_law_1318 dL_law_1319 ?_
    refine at_pc (n := 1320) rfl ?_
    refine b_eq (tgt := 1327) E rfl dL_law_1320 (by decide) (fun c_18 => ?_) (fun c_18 => ?_)
    · exfalso; omega
    · skip
      refine lv_iconst (v := 1) hx hb dL_law_1323 (by decide) ?_
      refine lv_goto (tgt := 1328) hx hb dL_law_1324 (by decide) ?_
      obtain ⟨Rw, B, back⟩ := toM B hM
      obtain ⟨_, Rz⟩ := B.rec
      refine hc_VI (kn := 4) E hS B (m12_reads l D tN (fun q : Nat => s.heap.size ≤ q) ((xs (i.toInt + 1).toNat)) ((xs (i.toInt + 2).toNat)) ((xs (i.toInt + 3).toNat)) ((1 : Int32))) (good_V w_cdd03d04 w_1171cfdc w_c38b64d7 w_2e12d08c w_1eff1062) Rz rfl ⟨rfl, by decide +kernel⟩ rfl rfl rfl ⟨Nat.le_of_ble_eq_true rfl, Nat.le_of_ble_eq_true rfl⟩ rfl hl (Nat.le_of_ble_eq_true rfl) dL_law_1328 ⟨by show _ ≤ 600000; omega, by show _ ≤ 7302250; omega⟩ (fun v_19 H locs w_20 hS => ?_)
      obtain ⟨na61_21, na62_22, hv_23, B⟩ := w_20
      obtain ⟨_, B, hM⟩ := back B
      refine at_n (n := 1331) (k1 := cells + 0) (k2 := slots + 0) rfl rfl rfl ?_
      refine lv_pop hx hb dL_law_1331 rfl ?_
      refine lv_goto (tgt := 1569) hx hb dL_law_1332 (by decide) ?_
      refine W.widen (k := cells + 8) (n := slots + 160) (by omega) (by omega) ?_
      refine kk _ _ _ (LI.mk B hM hr hp hk (by omega) hxR1) hS hl
set_option maxHeartbeats 4000000 in
set_option maxRecDepth 100000 in
theorem law_case_31 {p : Program} {l : Launch} {e : Env} {s : State} {m : MethodId} {below : List Frame} {meth : Method} {c : Code} {b : Nat} {xs : Nat → Int32} {L : Nat} (C0 : lw_At p s m meth c b L xs) {D : va_G} {ct : Nat → ClassId} {tN : Nat} (E : Ev p s m #[Value.ref b] c R_law 4 code D (TY ct) tN (fun q : Nat => s.heap.size ≤ q)) {ad am : Nat → Nat} {n : Nat} {H : Heap} {locs : List Loc} {cells slots : Nat} (hS : va_S (fun q : Nat => s.heap.size ≤ q) s.heap H locs) (h : LI D (fun q : Nat => s.heap.size ≤ q) ct ad am tN n H) {ls : Array Slot} {i : Int32} (hl : lv_has ls 4 [(3, .int i), (2, .ref (am 0)), (1, .ref (ad 0)), (0, .ref b)]) (hi0 : 0 ≤ i.toInt) (hi1 : i.toInt + 5 < (L : Int)) (hLb : (L : Int) ≤ 3072) (hin : i.toInt = 6 * (n : Int)) (hcl : cells + 8 ≤ 600000) (hsl : slots + 160 ≤ 7302250) (kk : ∀ (H1 : Heap) (locs1 : List Loc) (ls1 : Array Slot), LI D (fun q : Nat => s.heap.size ≤ q) ct ad am tN (n + 1) H1 → va_S (fun q : Nat => s.heap.size ≤ q) s.heap H1 locs1 → lv_has ls1 4 [(3, .int i), (2, .ref (am 0)), (1, .ref (ad 0)), (0, .ref b)] → W p l e room_1 s m #[Value.ref b] below meth c H1 locs1 (cells + 8) (slots + 160) (lw_Z below #[Value.ref b] s) (F0 m 1569 ls1 [])) : W p l e room_1 s m #[Value.ref b] below meth c H locs cells slots (lw_Z below #[Value.ref b] s) (F0 m 1335 ls []) := by
  obtain ⟨hx, hb, hr0, hml, hown, hts, hX, hbl, hlocks, hgv⟩ := id C0
  refine h _ (fun i0 i1 i2 i3 i4 i5 i6 i7 i8 i9 i10 i11 i12 i13 i14 i15 i16 i17 i18 i19 i20 i21 i22 i23 i24 i25 i26 i27 i28 i29 i30 i31 i32 i33 i34 i35 a1 a2 a4 a5 a7 a8 a10 a11 a13 a14 a15 a18 a19 a20 a21 a22 a23 a24 a25 a26 a29 a30 a31 a32 a43 a44 a45 a51 a52 a53 a54 a55 l46 r9n r9c og ogn ogc rtn rtc ptn ptc p0 p1 Pl j0 j1 j2 j3 j4 j5 j6 j7 j8 j9 j10 j11 j12 j13 j14 j15 j16 j17 j18 j19 j20 j21 j22 j23 j24 j25 j26 j27 j28 j29 b1 b2 b3 b4 b5 b6 b7 b8 b9 b10 b11 b12 b13 b14 b15 b16 b17 b18 b19 b20 b21 b22 b23 b24 b25 b26 b27 b28 b29 b30 b31 b32 b33 b34 b35 b36 b37 b38 b39 b40 b41 b42 b43 b44 b45 b46 b47 b48 b49 b50 b51 b52 b53 b55 b56 b57 b58 b61 b62 b63 b64 b65 b66 iam B hM hr hp hk hcn hxR1 => ?_)
  refine lv_aload_n hx hb dL_law_1335 rfl (lv_at hl 2 rfl) ?_
  refine law_arg (kv := 1) C0 E hS hl (by decide) (by decide) (by omega) (by omega) (by omega) dL_law_1336 dL_law_1337 dL_law_1338 dL_law_1339 dL_law_1340 ?_
  refine at_pc (n := 1341) rfl ?_
  obtain ⟨_, Rz⟩ := B.rec0
  refine hc_VI (kn := 1) E hS B (x11_missed l D tN (fun q : Nat => s.heap.size ≤ q) ((xs (i.toInt + 1).toNat))) (good_V w_ca5e05f3 w_53f3b318 w_c22f78f4 w_93c426f0 w_4c7a4c29) Rz rfl ⟨rfl, by decide +kernel⟩ rfl rfl rfl ⟨Nat.le_of_ble_eq_true rfl, Nat.le_of_ble_eq_true rfl⟩ rfl hl (Nat.le_of_ble_eq_true rfl) dL_law_1341 ⟨by show _ ≤ 600000; omega, by show _ ≤ 7302250; omega⟩ (fun v_1 H locs w_2 hS => ?_)
  have B0 := B
  have B := w_2
  refine at_n (n := 1344) (k1 := cells + 0) (k2 := slots + 0) rfl rfl rfl ?_
  refine lv_pop hx hb dL_law_1344 rfl ?_
  refine lv_aload_n hx hb dL_law_1345 rfl (lv_at hl 1 rfl) ?_
  refine law_arg (kv := 1) C0 E hS hl (by decide) (by decide) (by omega) (by omega) (by omega) dL_law_1346 dL_law_1347 dL_law_1348 dL_law_1349 dL_law_1350 ?_
  refine at_pc (n := 1351) rfl ?_
  obtain ⟨Rw, B, back⟩ := toM B hM
  obtain ⟨_, Rz⟩ := B.rec
  refine hc_VI (kn := 1) E hS B (m12_missed l D tN (fun q : Nat => s.heap.size ≤ q) ((xs (i.toInt + 1).toNat))) (good_V w_3ada0b38 w_68ea8f5d w_2e1985d3 w_2e12d08c w_f9bc67f6) Rz rfl ⟨rfl, by decide +kernel⟩ rfl rfl rfl ⟨Nat.le_of_ble_eq_true rfl, Nat.le_of_ble_eq_true rfl⟩ rfl hl (Nat.le_of_ble_eq_true rfl) dL_law_1351 ⟨by show _ ≤ 600000; omega, by show _ ≤ 7302250; omega⟩ (fun v_3 H locs w_4 hS => ?_)
  have B := w_4
  obtain ⟨_, B, hM⟩ := back B
  refine at_n (n := 1354) (k1 := cells + 0) (k2 := slots + 0) rfl rfl rfl ?_
  refine lv_pop hx hb dL_law_1354 rfl ?_
  refine lv_goto (tgt := 1569) hx hb dL_law_1355 (by decide) ?_
  refine W.widen (k := cells + 8) (n := slots + 160) (by omega) (by omega) ?_
  refine kk _ _ _ (LI.mk B hM hr hp hk (by omega) hxR1) hS hl
set_option maxHeartbeats 4000000 in
set_option maxRecDepth 100000 in
theorem law_case_32 {p : Program} {l : Launch} {e : Env} {s : State} {m : MethodId} {below : List Frame} {meth : Method} {c : Code} {b : Nat} {xs : Nat → Int32} {L : Nat} (C0 : lw_At p s m meth c b L xs) {D : va_G} {ct : Nat → ClassId} {tN : Nat} (E : Ev p s m #[Value.ref b] c R_law 4 code D (TY ct) tN (fun q : Nat => s.heap.size ≤ q)) {ad am : Nat → Nat} {n : Nat} {H : Heap} {locs : List Loc} {cells slots : Nat} (hS : va_S (fun q : Nat => s.heap.size ≤ q) s.heap H locs) (h : LI D (fun q : Nat => s.heap.size ≤ q) ct ad am tN n H) {ls : Array Slot} {i : Int32} (hl : lv_has ls 4 [(3, .int i), (2, .ref (am 0)), (1, .ref (ad 0)), (0, .ref b)]) (hi0 : 0 ≤ i.toInt) (hi1 : i.toInt + 5 < (L : Int)) (hLb : (L : Int) ≤ 3072) (hin : i.toInt = 6 * (n : Int)) (hcl : cells + 8 ≤ 600000) (hsl : slots + 160 ≤ 7302250) (kk : ∀ (H1 : Heap) (locs1 : List Loc) (ls1 : Array Slot), LI D (fun q : Nat => s.heap.size ≤ q) ct ad am tN (n + 1) H1 → va_S (fun q : Nat => s.heap.size ≤ q) s.heap H1 locs1 → lv_has ls1 4 [(3, .int i), (2, .ref (am 0)), (1, .ref (ad 0)), (0, .ref b)] → W p l e room_1 s m #[Value.ref b] below meth c H1 locs1 (cells + 8) (slots + 160) (lw_Z below #[Value.ref b] s) (F0 m 1569 ls1 [])) : W p l e room_1 s m #[Value.ref b] below meth c H locs cells slots (lw_Z below #[Value.ref b] s) (F0 m 1358 ls []) := by
  obtain ⟨hx, hb, hr0, hml, hown, hts, hX, hbl, hlocks, hgv⟩ := id C0
  refine h _ (fun i0 i1 i2 i3 i4 i5 i6 i7 i8 i9 i10 i11 i12 i13 i14 i15 i16 i17 i18 i19 i20 i21 i22 i23 i24 i25 i26 i27 i28 i29 i30 i31 i32 i33 i34 i35 a1 a2 a4 a5 a7 a8 a10 a11 a13 a14 a15 a18 a19 a20 a21 a22 a23 a24 a25 a26 a29 a30 a31 a32 a43 a44 a45 a51 a52 a53 a54 a55 l46 r9n r9c og ogn ogc rtn rtc ptn ptc p0 p1 Pl j0 j1 j2 j3 j4 j5 j6 j7 j8 j9 j10 j11 j12 j13 j14 j15 j16 j17 j18 j19 j20 j21 j22 j23 j24 j25 j26 j27 j28 j29 b1 b2 b3 b4 b5 b6 b7 b8 b9 b10 b11 b12 b13 b14 b15 b16 b17 b18 b19 b20 b21 b22 b23 b24 b25 b26 b27 b28 b29 b30 b31 b32 b33 b34 b35 b36 b37 b38 b39 b40 b41 b42 b43 b44 b45 b46 b47 b48 b49 b50 b51 b52 b53 b55 b56 b57 b58 b61 b62 b63 b64 b65 b66 iam B hM hr hp hk hcn hxR1 => ?_)
  refine lv_aload_n hx hb dL_law_1358 rfl (lv_at hl 2 rfl) ?_
  refine law_arg (kv := 1) C0 E hS hl (by decide) (by decide) (by omega) (by omega) (by omega) dL_law_1359 dL_law_1360 dL_law_1361 dL_law_1362 dL_law_1363 ?_
  refine at_pc (n := 1364) rfl ?_
  refine law_arg (kv := 2) C0 E hS hl (by decide) (by decide) (by omega) (by omega) (by omega) dL_law_1364 dL_law_1365 dL_law_1366 dL_law_1367 dL_law_1368 ?_
  refine at_pc (n := 1369) rfl ?_
  refine law_arg (kv := 3) C0 E hS hl (by decide) (by decide) (by omega) (by omega) (by omega) dL_law_1369 dL_law_1370 dL_law_1371 dL_law_1372 dL_law_1373 ?_
  refine at_pc (n := 1374) rfl ?_
  obtain ⟨_, Rz⟩ := B.rec0
  refine hc_VI (kn := 3) E hS B (x11_changes l D tN (fun q : Nat => s.heap.size ≤ q) ((xs (i.toInt + 1).toNat)) ((xs (i.toInt + 2).toNat)) ((xs (i.toInt + 3).toNat))) (good_V w_f532a0f3 w_4c3b10aa w_fe4060b2 w_93c426f0 w_690ba5ec) Rz rfl ⟨rfl, by decide +kernel⟩ rfl rfl rfl ⟨Nat.le_of_ble_eq_true rfl, Nat.le_of_ble_eq_true rfl⟩ rfl hl (Nat.le_of_ble_eq_true rfl) dL_law_1374 ⟨by show _ ≤ 600000; omega, by show _ ≤ 7302250; omega⟩ (fun v_1 H locs w_2 hS => ?_)
  have B0 := B
  obtain ⟨na2_3, B⟩ := w_2
  refine at_n (n := 1377) (k1 := cells + 0) (k2 := slots + 0) rfl rfl rfl ?_
  refine lv_pop hx hb dL_law_1377 rfl ?_
  refine lv_aload_n hx hb dL_law_1378 rfl (lv_at hl 1 rfl) ?_
  refine law_arg (kv := 1) C0 E hS hl (by decide) (by decide) (by omega) (by omega) (by omega) dL_law_1379 dL_law_1380 dL_law_1381 dL_law_1382 dL_law_1383 ?_
  refine at_pc (n := 1384) rfl ?_
  refine law_arg (kv := 2) C0 E hS hl (by decide) (by decide) (by omega) (by omega) (by omega) dL_law_1384 dL_law_1385 dL_law_1386 dL_law_1387 dL_law_1388 ?_
  refine at_pc (n := 1389) rfl ?_
  refine law_arg (kv := 3) C0 E hS hl (by decide) (by decide) (by omega) (by omega) (by omega) dL_law_1389 dL_law_1390 dL_law_1391 dL_law_1392 dL_law_1393 ?_
  refine at_pc (n := 1394) rfl ?_
  obtain ⟨Rw, B, back⟩ := toM B hM
  obtain ⟨_, Rz⟩ := B.rec
  refine hc_VI (kn := 3) E hS B (m12_changes l D tN (fun q : Nat => s.heap.size ≤ q) ((xs (i.toInt + 1).toNat)) ((xs (i.toInt + 2).toNat)) ((xs (i.toInt + 3).toNat))) (good_V w_df7873e0 w_1b98a3c6 w_0bbd7081 w_2e12d08c w_b284aa51) Rz rfl ⟨rfl, by decide +kernel⟩ rfl rfl rfl ⟨Nat.le_of_ble_eq_true rfl, Nat.le_of_ble_eq_true rfl⟩ rfl hl (Nat.le_of_ble_eq_true rfl) dL_law_1394 ⟨by show _ ≤ 600000; omega, by show _ ≤ 7302250; omega⟩ (fun v_4 H locs w_5 hS => ?_)
  obtain ⟨na30_6, na31_7, na32_8, B⟩ := w_5
  obtain ⟨_, B, hM⟩ := back B
  refine at_n (n := 1397) (k1 := cells + 0) (k2 := slots + 0) rfl rfl rfl ?_
  refine lv_pop hx hb dL_law_1397 rfl ?_
  refine lv_goto (tgt := 1569) hx hb dL_law_1398 (by decide) ?_
  refine W.widen (k := cells + 8) (n := slots + 160) (by omega) (by omega) ?_
  refine kk _ _ _ (LI.mk B hM hr hp hk (by omega) hxR1) hS hl
set_option maxHeartbeats 4000000 in
set_option maxRecDepth 100000 in
theorem law_case_33 {p : Program} {l : Launch} {e : Env} {s : State} {m : MethodId} {below : List Frame} {meth : Method} {c : Code} {b : Nat} {xs : Nat → Int32} {L : Nat} (C0 : lw_At p s m meth c b L xs) {D : va_G} {ct : Nat → ClassId} {tN : Nat} (E : Ev p s m #[Value.ref b] c R_law 4 code D (TY ct) tN (fun q : Nat => s.heap.size ≤ q)) {ad am : Nat → Nat} {n : Nat} {H : Heap} {locs : List Loc} {cells slots : Nat} (hS : va_S (fun q : Nat => s.heap.size ≤ q) s.heap H locs) (h : LI D (fun q : Nat => s.heap.size ≤ q) ct ad am tN n H) {ls : Array Slot} {i : Int32} (hl : lv_has ls 4 [(3, .int i), (2, .ref (am 0)), (1, .ref (ad 0)), (0, .ref b)]) (hi0 : 0 ≤ i.toInt) (hi1 : i.toInt + 5 < (L : Int)) (hLb : (L : Int) ≤ 3072) (hin : i.toInt = 6 * (n : Int)) (hcl : cells + 8 ≤ 600000) (hsl : slots + 160 ≤ 7302250) (kk : ∀ (H1 : Heap) (locs1 : List Loc) (ls1 : Array Slot), LI D (fun q : Nat => s.heap.size ≤ q) ct ad am tN (n + 1) H1 → va_S (fun q : Nat => s.heap.size ≤ q) s.heap H1 locs1 → lv_has ls1 4 [(3, .int i), (2, .ref (am 0)), (1, .ref (ad 0)), (0, .ref b)] → W p l e room_1 s m #[Value.ref b] below meth c H1 locs1 (cells + 8) (slots + 160) (lw_Z below #[Value.ref b] s) (F0 m 1569 ls1 [])) : W p l e room_1 s m #[Value.ref b] below meth c H locs cells slots (lw_Z below #[Value.ref b] s) (F0 m 1401 ls []) := by
  obtain ⟨hx, hb, hr0, hml, hown, hts, hX, hbl, hlocks, hgv⟩ := id C0
  refine h _ (fun i0 i1 i2 i3 i4 i5 i6 i7 i8 i9 i10 i11 i12 i13 i14 i15 i16 i17 i18 i19 i20 i21 i22 i23 i24 i25 i26 i27 i28 i29 i30 i31 i32 i33 i34 i35 a1 a2 a4 a5 a7 a8 a10 a11 a13 a14 a15 a18 a19 a20 a21 a22 a23 a24 a25 a26 a29 a30 a31 a32 a43 a44 a45 a51 a52 a53 a54 a55 l46 r9n r9c og ogn ogc rtn rtc ptn ptc p0 p1 Pl j0 j1 j2 j3 j4 j5 j6 j7 j8 j9 j10 j11 j12 j13 j14 j15 j16 j17 j18 j19 j20 j21 j22 j23 j24 j25 j26 j27 j28 j29 b1 b2 b3 b4 b5 b6 b7 b8 b9 b10 b11 b12 b13 b14 b15 b16 b17 b18 b19 b20 b21 b22 b23 b24 b25 b26 b27 b28 b29 b30 b31 b32 b33 b34 b35 b36 b37 b38 b39 b40 b41 b42 b43 b44 b45 b46 b47 b48 b49 b50 b51 b52 b53 b55 b56 b57 b58 b61 b62 b63 b64 b65 b66 iam B hM hr hp hk hcn hxR1 => ?_)
  refine lv_aload_n hx hb dL_law_1401 rfl (lv_at hl 2 rfl) ?_
  refine law_arg (kv := 1) C0 E hS hl (by decide) (by decide) (by omega) (by omega) (by omega) dL_law_1402 dL_law_1403 dL_law_1404 dL_law_1405 dL_law_1406 ?_
  refine at_pc (n := 1407) rfl ?_
  refine law_arg (kv := 2) C0 E hS hl (by decide) (by decide) (by omega) (by omega) (by omega) dL_law_1407 dL_law_1408 dL_law_1409 dL_law_1410 dL_law_1411 ?_
  refine at_pc (n := 1412) rfl ?_
  refine law_arg (kv := 3) C0 E hS hl (by decide) (by decide) (by omega) (by omega) (by omega) dL_law_1412 dL_law_1413 dL_law_1414 dL_law_1415 dL_law_1416 ?_
  refine at_pc (n := 1417) rfl ?_
  obtain ⟨_, Rz⟩ := B.rec0
  refine hc_VI (kn := 3) E hS B (x11_printed l D tN (fun q : Nat => s.heap.size ≤ q) ((xs (i.toInt + 1).toNat)) ((xs (i.toInt + 2).toNat)) ((xs (i.toInt + 3).toNat))) (good_V w_b0d8e50b w_cc00ae5f w_cae058dd w_93c426f0 w_6e16c1a3) Rz rfl ⟨rfl, by decide +kernel⟩ rfl rfl rfl ⟨Nat.le_of_ble_eq_true rfl, Nat.le_of_ble_eq_true rfl⟩ rfl hl (Nat.le_of_ble_eq_true rfl) dL_law_1417 ⟨by show _ ≤ 600000; omega, by show _ ≤ 7302250; omega⟩ (fun v_1 H locs w_2 hS => ?_)
  have B0 := B
  have B := w_2
  refine at_n (n := 1420) (k1 := cells + 0) (k2 := slots + 0) rfl rfl rfl ?_
  refine lv_pop hx hb dL_law_1420 rfl ?_
  refine lv_aload_n hx hb dL_law_1421 rfl (lv_at hl 1 rfl) ?_
  refine law_arg (kv := 1) C0 E hS hl (by decide) (by decide) (by omega) (by omega) (by omega) dL_law_1422 dL_law_1423 dL_law_1424 dL_law_1425 dL_law_1426 ?_
  refine at_pc (n := 1427) rfl ?_
  refine law_arg (kv := 2) C0 E hS hl (by decide) (by decide) (by omega) (by omega) (by omega) dL_law_1427 dL_law_1428 dL_law_1429 dL_law_1430 dL_law_1431 ?_
  refine at_pc (n := 1432) rfl ?_
  refine law_arg (kv := 3) C0 E hS hl (by decide) (by decide) (by omega) (by omega) (by omega) dL_law_1432 dL_law_1433 dL_law_1434 dL_law_1435 dL_law_1436 ?_
  refine at_pc (n := 1437) rfl ?_
  obtain ⟨Rw, B, back⟩ := toM B hM
  obtain ⟨_, Rz⟩ := B.rec
  refine hc_VI (kn := 3) E hS B (m12_printed l D tN (fun q : Nat => s.heap.size ≤ q) ((xs (i.toInt + 1).toNat)) ((xs (i.toInt + 2).toNat)) ((xs (i.toInt + 3).toNat))) (good_V w_99934f7b w_4d28261f w_c5a7ecb1 w_2e12d08c w_7118a7bd) Rz rfl ⟨rfl, by decide +kernel⟩ rfl rfl rfl ⟨Nat.le_of_ble_eq_true rfl, Nat.le_of_ble_eq_true rfl⟩ rfl hl (Nat.le_of_ble_eq_true rfl) dL_law_1437 ⟨by show _ ≤ 600000; omega, by show _ ≤ 7302250; omega⟩ (fun v_3 H locs w_4 hS => ?_)
  obtain ⟨ni27_5, na63_6, B⟩ := w_4
  obtain ⟨_, B, hM⟩ := back B
  refine at_n (n := 1440) (k1 := cells + 0) (k2 := slots + 0) rfl rfl rfl ?_
  refine lv_pop hx hb dL_law_1440 rfl ?_
  refine lv_goto (tgt := 1569) hx hb dL_law_1441 (by decide) ?_
  refine W.widen (k := cells + 8) (n := slots + 160) (by omega) (by omega) ?_
  refine kk _ _ _ (LI.mk B hM hr hp hk (by omega) hxR1) hS hl
set_option maxHeartbeats 4000000 in
set_option maxRecDepth 100000 in
theorem law_case_34 {p : Program} {l : Launch} {e : Env} {s : State} {m : MethodId} {below : List Frame} {meth : Method} {c : Code} {b : Nat} {xs : Nat → Int32} {L : Nat} (C0 : lw_At p s m meth c b L xs) {D : va_G} {ct : Nat → ClassId} {tN : Nat} (E : Ev p s m #[Value.ref b] c R_law 4 code D (TY ct) tN (fun q : Nat => s.heap.size ≤ q)) {ad am : Nat → Nat} {n : Nat} {H : Heap} {locs : List Loc} {cells slots : Nat} (hS : va_S (fun q : Nat => s.heap.size ≤ q) s.heap H locs) (h : LI D (fun q : Nat => s.heap.size ≤ q) ct ad am tN n H) {ls : Array Slot} {i : Int32} (hl : lv_has ls 4 [(3, .int i), (2, .ref (am 0)), (1, .ref (ad 0)), (0, .ref b)]) (hi0 : 0 ≤ i.toInt) (hi1 : i.toInt + 5 < (L : Int)) (hLb : (L : Int) ≤ 3072) (hin : i.toInt = 6 * (n : Int)) (hcl : cells + 8 ≤ 600000) (hsl : slots + 160 ≤ 7302250) (kk : ∀ (H1 : Heap) (locs1 : List Loc) (ls1 : Array Slot), LI D (fun q : Nat => s.heap.size ≤ q) ct ad am tN (n + 1) H1 → va_S (fun q : Nat => s.heap.size ≤ q) s.heap H1 locs1 → lv_has ls1 4 [(3, .int i), (2, .ref (am 0)), (1, .ref (ad 0)), (0, .ref b)] → W p l e room_1 s m #[Value.ref b] below meth c H1 locs1 (cells + 8) (slots + 160) (lw_Z below #[Value.ref b] s) (F0 m 1569 ls1 [])) : W p l e room_1 s m #[Value.ref b] below meth c H locs cells slots (lw_Z below #[Value.ref b] s) (F0 m 1444 ls []) := by
  obtain ⟨hx, hb, hr0, hml, hown, hts, hX, hbl, hlocks, hgv⟩ := id C0
  refine h _ (fun i0 i1 i2 i3 i4 i5 i6 i7 i8 i9 i10 i11 i12 i13 i14 i15 i16 i17 i18 i19 i20 i21 i22 i23 i24 i25 i26 i27 i28 i29 i30 i31 i32 i33 i34 i35 a1 a2 a4 a5 a7 a8 a10 a11 a13 a14 a15 a18 a19 a20 a21 a22 a23 a24 a25 a26 a29 a30 a31 a32 a43 a44 a45 a51 a52 a53 a54 a55 l46 r9n r9c og ogn ogc rtn rtc ptn ptc p0 p1 Pl j0 j1 j2 j3 j4 j5 j6 j7 j8 j9 j10 j11 j12 j13 j14 j15 j16 j17 j18 j19 j20 j21 j22 j23 j24 j25 j26 j27 j28 j29 b1 b2 b3 b4 b5 b6 b7 b8 b9 b10 b11 b12 b13 b14 b15 b16 b17 b18 b19 b20 b21 b22 b23 b24 b25 b26 b27 b28 b29 b30 b31 b32 b33 b34 b35 b36 b37 b38 b39 b40 b41 b42 b43 b44 b45 b46 b47 b48 b49 b50 b51 b52 b53 b55 b56 b57 b58 b61 b62 b63 b64 b65 b66 iam B hM hr hp hk hcn hxR1 => ?_)
  refine lv_aload_n hx hb dL_law_1444 rfl (lv_at hl 2 rfl) ?_
  refine law_arg (kv := 1) C0 E hS hl (by decide) (by decide) (by omega) (by omega) (by omega) dL_law_1445 dL_law_1446 dL_law_1447 dL_law_1448 dL_law_1449 ?_
  refine at_pc (n := 1450) rfl ?_
  obtain ⟨_, Rz⟩ := B.rec0
  refine hc_VI (kn := 1) E hS B (x11_plan l D tN (fun q : Nat => s.heap.size ≤ q) ((xs (i.toInt + 1).toNat))) (good_V w_b054f62f w_b1c9f32d w_0b9253af w_93c426f0 w_625faaf9) Rz rfl ⟨rfl, by decide +kernel⟩ rfl rfl rfl ⟨Nat.le_of_ble_eq_true rfl, Nat.le_of_ble_eq_true rfl⟩ rfl hl (Nat.le_of_ble_eq_true rfl) dL_law_1450 ⟨by show _ ≤ 600000; omega, by show _ ≤ 7302250; omega⟩ (fun v_1 H locs w_2 hS => ?_)
  have B0 := B
  obtain ⟨ni33_3, ni34_4, na51_5, na52_6, na53_7, na54_8, na55_9, B⟩ := w_2
  refine at_n (n := 1453) (k1 := cells + 0) (k2 := slots + 0) rfl rfl rfl ?_
  refine lv_pop hx hb dL_law_1453 rfl ?_
  refine lv_aload_n hx hb dL_law_1454 rfl (lv_at hl 1 rfl) ?_
  refine law_arg (kv := 1) C0 E hS hl (by decide) (by decide) (by omega) (by omega) (by omega) dL_law_1455 dL_law_1456 dL_law_1457 dL_law_1458 dL_law_1459 ?_
  refine at_pc (n := 1460) rfl ?_
  obtain ⟨Rw, B, back⟩ := toM B hM
  obtain ⟨_, Rz⟩ := B.rec
  refine hc_VI (kn := 1) E hS B (m12_plan l D tN (fun q : Nat => s.heap.size ≤ q) ((xs (i.toInt + 1).toNat))) (good_V w_4e596cf3 w_1b462366 w_22a7dd5c w_2e12d08c w_b644a665) Rz rfl ⟨rfl, by decide +kernel⟩ rfl rfl rfl ⟨Nat.le_of_ble_eq_true rfl, Nat.le_of_ble_eq_true rfl⟩ rfl hl (Nat.le_of_ble_eq_true rfl) dL_law_1460 ⟨by show _ ≤ 600000; omega, by show _ ≤ 7302250; omega⟩ (fun v_10 H locs w_11 hS => ?_)
  obtain ⟨ni28_12, ni29_13, na64_14, na65_15, na66_16, B⟩ := w_11
  obtain ⟨_, B, hM⟩ := back B
  refine at_n (n := 1463) (k1 := cells + 0) (k2 := slots + 0) rfl rfl rfl ?_
  refine lv_pop hx hb dL_law_1463 rfl ?_
  refine lv_goto (tgt := 1569) hx hb dL_law_1464 (by decide) ?_
  refine W.widen (k := cells + 8) (n := slots + 160) (by omega) (by omega) ?_
  refine kk _ _ _ (LI.mk B hM hr hp hk (by omega) hxR1) hS hl
set_option maxHeartbeats 4000000 in
set_option maxRecDepth 100000 in
theorem law_case_35 {p : Program} {l : Launch} {e : Env} {s : State} {m : MethodId} {below : List Frame} {meth : Method} {c : Code} {b : Nat} {xs : Nat → Int32} {L : Nat} (C0 : lw_At p s m meth c b L xs) {D : va_G} {ct : Nat → ClassId} {tN : Nat} (E : Ev p s m #[Value.ref b] c R_law 4 code D (TY ct) tN (fun q : Nat => s.heap.size ≤ q)) {ad am : Nat → Nat} {n : Nat} {H : Heap} {locs : List Loc} {cells slots : Nat} (hS : va_S (fun q : Nat => s.heap.size ≤ q) s.heap H locs) (h : LI D (fun q : Nat => s.heap.size ≤ q) ct ad am tN n H) {ls : Array Slot} {i : Int32} (hl : lv_has ls 4 [(3, .int i), (2, .ref (am 0)), (1, .ref (ad 0)), (0, .ref b)]) (hi0 : 0 ≤ i.toInt) (hi1 : i.toInt + 5 < (L : Int)) (hLb : (L : Int) ≤ 3072) (hin : i.toInt = 6 * (n : Int)) (hcl : cells + 8 ≤ 600000) (hsl : slots + 160 ≤ 7302250) (kk : ∀ (H1 : Heap) (locs1 : List Loc) (ls1 : Array Slot), LI D (fun q : Nat => s.heap.size ≤ q) ct ad am tN (n + 1) H1 → va_S (fun q : Nat => s.heap.size ≤ q) s.heap H1 locs1 → lv_has ls1 4 [(3, .int i), (2, .ref (am 0)), (1, .ref (ad 0)), (0, .ref b)] → W p l e room_1 s m #[Value.ref b] below meth c H1 locs1 (cells + 8) (slots + 160) (lw_Z below #[Value.ref b] s) (F0 m 1569 ls1 [])) : W p l e room_1 s m #[Value.ref b] below meth c H locs cells slots (lw_Z below #[Value.ref b] s) (F0 m 1467 ls []) := by
  obtain ⟨hx, hb, hr0, hml, hown, hts, hX, hbl, hlocks, hgv⟩ := id C0
  refine h _ (fun i0 i1 i2 i3 i4 i5 i6 i7 i8 i9 i10 i11 i12 i13 i14 i15 i16 i17 i18 i19 i20 i21 i22 i23 i24 i25 i26 i27 i28 i29 i30 i31 i32 i33 i34 i35 a1 a2 a4 a5 a7 a8 a10 a11 a13 a14 a15 a18 a19 a20 a21 a22 a23 a24 a25 a26 a29 a30 a31 a32 a43 a44 a45 a51 a52 a53 a54 a55 l46 r9n r9c og ogn ogc rtn rtc ptn ptc p0 p1 Pl j0 j1 j2 j3 j4 j5 j6 j7 j8 j9 j10 j11 j12 j13 j14 j15 j16 j17 j18 j19 j20 j21 j22 j23 j24 j25 j26 j27 j28 j29 b1 b2 b3 b4 b5 b6 b7 b8 b9 b10 b11 b12 b13 b14 b15 b16 b17 b18 b19 b20 b21 b22 b23 b24 b25 b26 b27 b28 b29 b30 b31 b32 b33 b34 b35 b36 b37 b38 b39 b40 b41 b42 b43 b44 b45 b46 b47 b48 b49 b50 b51 b52 b53 b55 b56 b57 b58 b61 b62 b63 b64 b65 b66 iam B hM hr hp hk hcn hxR1 => ?_)
  refine lv_aload_n hx hb dL_law_1467 rfl (lv_at hl 2 rfl) ?_
  refine law_arg (kv := 1) C0 E hS hl (by decide) (by decide) (by omega) (by omega) (by omega) dL_law_1468 dL_law_1469 dL_law_1470 dL_law_1471 dL_law_1472 ?_
  refine at_pc (n := 1473) rfl ?_
  obtain ⟨_, Rz⟩ := B.rec0
  refine hc_VI (kn := 1) E hS B (x11_judge l D tN (fun q : Nat => s.heap.size ≤ q) ((xs (i.toInt + 1).toNat))) (good_V w_037c0529 w_4bfa4fd9 w_db797f16 w_93c426f0 w_9d062a5a) Rz rfl ⟨rfl, by decide +kernel⟩ rfl rfl rfl ⟨Nat.le_of_ble_eq_true rfl, Nat.le_of_ble_eq_true rfl⟩ rfl hl (Nat.le_of_ble_eq_true rfl) dL_law_1473 ⟨by show _ ≤ 600000; omega, by show _ ≤ 7302250; omega⟩ (fun v_1 H locs w_2 hS => ?_)
  have B0 := B
  obtain ⟨ni33_3, na51_4, na52_5, na53_6, B⟩ := w_2
  refine at_n (n := 1476) (k1 := cells + 0) (k2 := slots + 0) rfl rfl rfl ?_
  refine lv_pop hx hb dL_law_1476 rfl ?_
  refine lv_aload_n hx hb dL_law_1477 rfl (lv_at hl 1 rfl) ?_
  refine law_arg (kv := 1) C0 E hS hl (by decide) (by decide) (by omega) (by omega) (by omega) dL_law_1478 dL_law_1479 dL_law_1480 dL_law_1481 dL_law_1482 ?_
  refine at_pc (n := 1483) rfl ?_
  obtain ⟨Rw, B, back⟩ := toM B hM
  obtain ⟨_, Rz⟩ := B.rec
  refine hc_VI (kn := 1) E hS B (m12_judge l D tN (fun q : Nat => s.heap.size ≤ q) ((xs (i.toInt + 1).toNat))) (good_V w_60da40ad w_c1814d2f w_5f51de32 w_2e12d08c w_5f7cd6a1) Rz rfl ⟨rfl, by decide +kernel⟩ rfl rfl rfl ⟨Nat.le_of_ble_eq_true rfl, Nat.le_of_ble_eq_true rfl⟩ rfl hl (Nat.le_of_ble_eq_true rfl) dL_law_1483 ⟨by show _ ≤ 600000; omega, by show _ ≤ 7302250; omega⟩ (fun v_7 H locs w_8 hS => ?_)
  obtain ⟨ni28_9, ni29_10, na64_11, na65_12, na66_13, B⟩ := w_8
  obtain ⟨_, B, hM⟩ := back B
  refine at_n (n := 1486) (k1 := cells + 0) (k2 := slots + 0) rfl rfl rfl ?_
  refine lv_pop hx hb dL_law_1486 rfl ?_
  refine lv_goto (tgt := 1569) hx hb dL_law_1487 (by decide) ?_
  refine W.widen (k := cells + 8) (n := slots + 160) (by omega) (by omega) ?_
  refine kk _ _ _ (LI.mk B hM hr hp hk (by omega) hxR1) hS hl
set_option maxHeartbeats 4000000 in
set_option maxRecDepth 100000 in
theorem law_case_36 {p : Program} {l : Launch} {e : Env} {s : State} {m : MethodId} {below : List Frame} {meth : Method} {c : Code} {b : Nat} {xs : Nat → Int32} {L : Nat} (C0 : lw_At p s m meth c b L xs) {D : va_G} {ct : Nat → ClassId} {tN : Nat} (E : Ev p s m #[Value.ref b] c R_law 4 code D (TY ct) tN (fun q : Nat => s.heap.size ≤ q)) {ad am : Nat → Nat} {n : Nat} {H : Heap} {locs : List Loc} {cells slots : Nat} (hS : va_S (fun q : Nat => s.heap.size ≤ q) s.heap H locs) (h : LI D (fun q : Nat => s.heap.size ≤ q) ct ad am tN n H) {ls : Array Slot} {i : Int32} (hl : lv_has ls 4 [(3, .int i), (2, .ref (am 0)), (1, .ref (ad 0)), (0, .ref b)]) (hi0 : 0 ≤ i.toInt) (hi1 : i.toInt + 5 < (L : Int)) (hLb : (L : Int) ≤ 3072) (hin : i.toInt = 6 * (n : Int)) (hcl : cells + 8 ≤ 600000) (hsl : slots + 160 ≤ 7302250) (kk : ∀ (H1 : Heap) (locs1 : List Loc) (ls1 : Array Slot), LI D (fun q : Nat => s.heap.size ≤ q) ct ad am tN (n + 1) H1 → va_S (fun q : Nat => s.heap.size ≤ q) s.heap H1 locs1 → lv_has ls1 4 [(3, .int i), (2, .ref (am 0)), (1, .ref (ad 0)), (0, .ref b)] → W p l e room_1 s m #[Value.ref b] below meth c H1 locs1 (cells + 8) (slots + 160) (lw_Z below #[Value.ref b] s) (F0 m 1569 ls1 [])) : W p l e room_1 s m #[Value.ref b] below meth c H locs cells slots (lw_Z below #[Value.ref b] s) (F0 m 1490 ls []) := by
  obtain ⟨hx, hb, hr0, hml, hown, hts, hX, hbl, hlocks, hgv⟩ := id C0
  refine h _ (fun i0 i1 i2 i3 i4 i5 i6 i7 i8 i9 i10 i11 i12 i13 i14 i15 i16 i17 i18 i19 i20 i21 i22 i23 i24 i25 i26 i27 i28 i29 i30 i31 i32 i33 i34 i35 a1 a2 a4 a5 a7 a8 a10 a11 a13 a14 a15 a18 a19 a20 a21 a22 a23 a24 a25 a26 a29 a30 a31 a32 a43 a44 a45 a51 a52 a53 a54 a55 l46 r9n r9c og ogn ogc rtn rtc ptn ptc p0 p1 Pl j0 j1 j2 j3 j4 j5 j6 j7 j8 j9 j10 j11 j12 j13 j14 j15 j16 j17 j18 j19 j20 j21 j22 j23 j24 j25 j26 j27 j28 j29 b1 b2 b3 b4 b5 b6 b7 b8 b9 b10 b11 b12 b13 b14 b15 b16 b17 b18 b19 b20 b21 b22 b23 b24 b25 b26 b27 b28 b29 b30 b31 b32 b33 b34 b35 b36 b37 b38 b39 b40 b41 b42 b43 b44 b45 b46 b47 b48 b49 b50 b51 b52 b53 b55 b56 b57 b58 b61 b62 b63 b64 b65 b66 iam B hM hr hp hk hcn hxR1 => ?_)
  refine lv_aload_n hx hb dL_law_1490 rfl (lv_at hl 2 rfl) ?_
  refine law_arg (kv := 1) C0 E hS hl (by decide) (by decide) (by omega) (by omega) (by omega) dL_law_1491 dL_law_1492 dL_law_1493 dL_law_1494 dL_law_1495 ?_
  refine at_pc (n := 1496) rfl ?_
  obtain ⟨_, Rz⟩ := B.rec0
  refine hc_VI (kn := 1) E hS B (x11_check l D tN (fun q : Nat => s.heap.size ≤ q) ((xs (i.toInt + 1).toNat))) (good_V w_12832203 w_7ab6e7ff w_ac78f6d9 w_93c426f0 w_832ba52a) Rz rfl ⟨rfl, by decide +kernel⟩ rfl rfl rfl ⟨Nat.le_of_ble_eq_true rfl, Nat.le_of_ble_eq_true rfl⟩ rfl hl (Nat.le_of_ble_eq_true rfl) dL_law_1496 ⟨by show _ ≤ 600000; omega, by show _ ≤ 7302250; omega⟩ (fun v_1 H locs w_2 hS => ?_)
  have B0 := B
  obtain ⟨ni0_3, hv_4, ex_5, B⟩ := w_2
  refine at_n (n := 1499) (k1 := cells + 0) (k2 := slots + 0) rfl rfl rfl ?_
  refine lv_pop hx hb dL_law_1499 rfl ?_
  refine lv_aload_n hx hb dL_law_1500 rfl (lv_at hl 1 rfl) ?_
  refine law_arg (kv := 1) C0 E hS hl (by decide) (by decide) (by omega) (by omega) (by omega) dL_law_1501 dL_law_1502 dL_law_1503 dL_law_1504 dL_law_1505 ?_
  refine at_pc (n := 1506) rfl ?_
  obtain ⟨Rw, B, back⟩ := toM B hM
  obtain ⟨_, Rz⟩ := B.rec
  refine hc_VI (kn := 1) E hS B (m12_check l D tN (fun q : Nat => s.heap.size ≤ q) ((xs (i.toInt + 1).toNat))) (good_V w_a3c50f04 w_03273d90 w_dcccdb64 w_2e12d08c w_d461cfbe) Rz rfl ⟨rfl, by decide +kernel⟩ rfl rfl rfl ⟨Nat.le_of_ble_eq_true rfl, Nat.le_of_ble_eq_true rfl⟩ rfl hl (Nat.le_of_ble_eq_true rfl) dL_law_1506 ⟨by show _ ≤ 600000; omega, by show _ ≤ 7302250; omega⟩ (fun v_6 H locs w_7 hS => ?_)
  obtain ⟨ni0_8, he_9, B⟩ := w_7
  obtain ⟨_, B, hM⟩ := back B
  obtain ⟨hq_10, hx_11⟩ := R1_check hxR1 ex_5 he_9
  refine at_n (n := 1509) (k1 := cells + 0) (k2 := slots + 0) rfl rfl rfl ?_
  refine lv_pop hx hb dL_law_1509 rfl ?_
  refine lv_goto (tgt := 1569) hx hb dL_law_1510 (by decide) ?_
  refine W.widen (k := cells + 8) (n := slots + 160) (by omega) (by omega) ?_
  refine kk _ _ _ (LI.mk B hM hr hp hk (by omega) hx_11) hS hl
set_option maxHeartbeats 4000000 in
set_option maxRecDepth 100000 in
theorem law_case_37 {p : Program} {l : Launch} {e : Env} {s : State} {m : MethodId} {below : List Frame} {meth : Method} {c : Code} {b : Nat} {xs : Nat → Int32} {L : Nat} (C0 : lw_At p s m meth c b L xs) {D : va_G} {ct : Nat → ClassId} {tN : Nat} (E : Ev p s m #[Value.ref b] c R_law 4 code D (TY ct) tN (fun q : Nat => s.heap.size ≤ q)) {ad am : Nat → Nat} {n : Nat} {H : Heap} {locs : List Loc} {cells slots : Nat} (hS : va_S (fun q : Nat => s.heap.size ≤ q) s.heap H locs) (h : LI D (fun q : Nat => s.heap.size ≤ q) ct ad am tN n H) {ls : Array Slot} {i : Int32} (hl : lv_has ls 4 [(3, .int i), (2, .ref (am 0)), (1, .ref (ad 0)), (0, .ref b)]) (hi0 : 0 ≤ i.toInt) (hi1 : i.toInt + 5 < (L : Int)) (hLb : (L : Int) ≤ 3072) (hin : i.toInt = 6 * (n : Int)) (hcl : cells + 8 ≤ 600000) (hsl : slots + 160 ≤ 7302250) (kk : ∀ (H1 : Heap) (locs1 : List Loc) (ls1 : Array Slot), LI D (fun q : Nat => s.heap.size ≤ q) ct ad am tN (n + 1) H1 → va_S (fun q : Nat => s.heap.size ≤ q) s.heap H1 locs1 → lv_has ls1 4 [(3, .int i), (2, .ref (am 0)), (1, .ref (ad 0)), (0, .ref b)] → W p l e room_1 s m #[Value.ref b] below meth c H1 locs1 (cells + 8) (slots + 160) (lw_Z below #[Value.ref b] s) (F0 m 1569 ls1 [])) : W p l e room_1 s m #[Value.ref b] below meth c H locs cells slots (lw_Z below #[Value.ref b] s) (F0 m 1513 ls []) := by
  obtain ⟨hx, hb, hr0, hml, hown, hts, hX, hbl, hlocks, hgv⟩ := id C0
  refine h _ (fun i0 i1 i2 i3 i4 i5 i6 i7 i8 i9 i10 i11 i12 i13 i14 i15 i16 i17 i18 i19 i20 i21 i22 i23 i24 i25 i26 i27 i28 i29 i30 i31 i32 i33 i34 i35 a1 a2 a4 a5 a7 a8 a10 a11 a13 a14 a15 a18 a19 a20 a21 a22 a23 a24 a25 a26 a29 a30 a31 a32 a43 a44 a45 a51 a52 a53 a54 a55 l46 r9n r9c og ogn ogc rtn rtc ptn ptc p0 p1 Pl j0 j1 j2 j3 j4 j5 j6 j7 j8 j9 j10 j11 j12 j13 j14 j15 j16 j17 j18 j19 j20 j21 j22 j23 j24 j25 j26 j27 j28 j29 b1 b2 b3 b4 b5 b6 b7 b8 b9 b10 b11 b12 b13 b14 b15 b16 b17 b18 b19 b20 b21 b22 b23 b24 b25 b26 b27 b28 b29 b30 b31 b32 b33 b34 b35 b36 b37 b38 b39 b40 b41 b42 b43 b44 b45 b46 b47 b48 b49 b50 b51 b52 b53 b55 b56 b57 b58 b61 b62 b63 b64 b65 b66 iam B hM hr hp hk hcn hxR1 => ?_)
  refine lv_aload_n hx hb dL_law_1513 rfl (lv_at hl 2 rfl) ?_
  refine law_arg (kv := 1) C0 E hS hl (by decide) (by decide) (by omega) (by omega) (by omega) dL_law_1514 dL_law_1515 dL_law_1516 dL_law_1517 dL_law_1518 ?_
  refine at_pc (n := 1519) rfl ?_
  refine law_arg (kv := 2) C0 E hS hl (by decide) (by decide) (by omega) (by omega) (by omega) dL_law_1519 dL_law_1520 dL_law_1521 dL_law_1522 dL_law_1523 ?_
  refine at_pc (n := 1524) rfl ?_
  obtain ⟨_, Rz⟩ := B.rec0
  refine hc_VI (kn := 2) E hS B (x11_look l D tN (fun q : Nat => s.heap.size ≤ q) ((xs (i.toInt + 1).toNat)) ((xs (i.toInt + 2).toNat))) (good_V w_9cfcec69 w_a9d947a6 w_9c27af3c w_93c426f0 w_beb3d967) Rz rfl ⟨rfl, by decide +kernel⟩ rfl rfl rfl ⟨Nat.le_of_ble_eq_true rfl, Nat.le_of_ble_eq_true rfl⟩ rfl hl (Nat.le_of_ble_eq_true rfl) dL_law_1524 ⟨by show _ ≤ 600000; omega, by show _ ≤ 7302250; omega⟩ (fun v_1 H locs w_2 hS => ?_)
  have B0 := B
  have B := w_2
  refine at_n (n := 1527) (k1 := cells + 0) (k2 := slots + 0) rfl rfl rfl ?_
  refine lv_pop hx hb dL_law_1527 rfl ?_
  refine lv_aload_n hx hb dL_law_1528 rfl (lv_at hl 1 rfl) ?_
  refine law_arg (kv := 1) C0 E hS hl (by decide) (by decide) (by omega) (by omega) (by omega) dL_law_1529 dL_law_1530 dL_law_1531 dL_law_1532 dL_law_1533 ?_
  refine at_pc (n := 1534) rfl ?_
  refine law_arg (kv := 2) C0 E hS hl (by decide) (by decide) (by omega) (by omega) (by omega) dL_law_1534 dL_law_1535 dL_law_1536 dL_law_1537 dL_law_1538 ?_
  refine at_pc (n := 1539) rfl ?_
  obtain ⟨Rw, B, back⟩ := toM B hM
  obtain ⟨_, Rz⟩ := B.rec
  refine hc_VI (kn := 2) E hS B (m12_look l D tN (fun q : Nat => s.heap.size ≤ q) ((xs (i.toInt + 1).toNat)) ((xs (i.toInt + 2).toNat))) (good_V w_80a3a4ef w_78ad546b w_962c258c w_2e12d08c w_eb0e6bd5) Rz rfl ⟨rfl, by decide +kernel⟩ rfl rfl rfl ⟨Nat.le_of_ble_eq_true rfl, Nat.le_of_ble_eq_true rfl⟩ rfl hl (Nat.le_of_ble_eq_true rfl) dL_law_1539 ⟨by show _ ≤ 600000; omega, by show _ ≤ 7302250; omega⟩ (fun v_3 H locs w_4 hS => ?_)
  have B := w_4
  obtain ⟨_, B, hM⟩ := back B
  refine at_n (n := 1542) (k1 := cells + 0) (k2 := slots + 0) rfl rfl rfl ?_
  refine lv_pop hx hb dL_law_1542 rfl ?_
  refine lv_goto (tgt := 1569) hx hb dL_law_1543 (by decide) ?_
  refine W.widen (k := cells + 8) (n := slots + 160) (by omega) (by omega) ?_
  refine kk _ _ _ (LI.mk B hM hr hp hk (by omega) hxR1) hS hl
set_option maxHeartbeats 4000000 in
set_option maxRecDepth 100000 in
theorem law_case_38 {p : Program} {l : Launch} {e : Env} {s : State} {m : MethodId} {below : List Frame} {meth : Method} {c : Code} {b : Nat} {xs : Nat → Int32} {L : Nat} (C0 : lw_At p s m meth c b L xs) {D : va_G} {ct : Nat → ClassId} {tN : Nat} (E : Ev p s m #[Value.ref b] c R_law 4 code D (TY ct) tN (fun q : Nat => s.heap.size ≤ q)) {ad am : Nat → Nat} {n : Nat} {H : Heap} {locs : List Loc} {cells slots : Nat} (hS : va_S (fun q : Nat => s.heap.size ≤ q) s.heap H locs) (h : LI D (fun q : Nat => s.heap.size ≤ q) ct ad am tN n H) {ls : Array Slot} {i : Int32} (hl : lv_has ls 4 [(3, .int i), (2, .ref (am 0)), (1, .ref (ad 0)), (0, .ref b)]) (hi0 : 0 ≤ i.toInt) (hi1 : i.toInt + 5 < (L : Int)) (hLb : (L : Int) ≤ 3072) (hin : i.toInt = 6 * (n : Int)) (hcl : cells + 8 ≤ 600000) (hsl : slots + 160 ≤ 7302250) (kk : ∀ (H1 : Heap) (locs1 : List Loc) (ls1 : Array Slot), LI D (fun q : Nat => s.heap.size ≤ q) ct ad am tN (n + 1) H1 → va_S (fun q : Nat => s.heap.size ≤ q) s.heap H1 locs1 → lv_has ls1 4 [(3, .int i), (2, .ref (am 0)), (1, .ref (ad 0)), (0, .ref b)] → W p l e room_1 s m #[Value.ref b] below meth c H1 locs1 (cells + 8) (slots + 160) (lw_Z below #[Value.ref b] s) (F0 m 1569 ls1 [])) : W p l e room_1 s m #[Value.ref b] below meth c H locs cells slots (lw_Z below #[Value.ref b] s) (F0 m 1546 ls []) := by
  obtain ⟨hx, hb, hr0, hml, hown, hts, hX, hbl, hlocks, hgv⟩ := id C0
  refine h _ (fun i0 i1 i2 i3 i4 i5 i6 i7 i8 i9 i10 i11 i12 i13 i14 i15 i16 i17 i18 i19 i20 i21 i22 i23 i24 i25 i26 i27 i28 i29 i30 i31 i32 i33 i34 i35 a1 a2 a4 a5 a7 a8 a10 a11 a13 a14 a15 a18 a19 a20 a21 a22 a23 a24 a25 a26 a29 a30 a31 a32 a43 a44 a45 a51 a52 a53 a54 a55 l46 r9n r9c og ogn ogc rtn rtc ptn ptc p0 p1 Pl j0 j1 j2 j3 j4 j5 j6 j7 j8 j9 j10 j11 j12 j13 j14 j15 j16 j17 j18 j19 j20 j21 j22 j23 j24 j25 j26 j27 j28 j29 b1 b2 b3 b4 b5 b6 b7 b8 b9 b10 b11 b12 b13 b14 b15 b16 b17 b18 b19 b20 b21 b22 b23 b24 b25 b26 b27 b28 b29 b30 b31 b32 b33 b34 b35 b36 b37 b38 b39 b40 b41 b42 b43 b44 b45 b46 b47 b48 b49 b50 b51 b52 b53 b55 b56 b57 b58 b61 b62 b63 b64 b65 b66 iam B hM hr hp hk hcn hxR1 => ?_)
  refine lv_aload_n hx hb dL_law_1546 rfl (lv_at hl 2 rfl) ?_
  refine law_arg (kv := 1) C0 E hS hl (by decide) (by decide) (by omega) (by omega) (by omega) dL_law_1547 dL_law_1548 dL_law_1549 dL_law_1550 dL_law_1551 ?_
  refine at_pc (n := 1552) rfl ?_
  obtain ⟨_, Rz⟩ := B.rec0
  refine hc_VI (kn := 1) E hS B (x11_count l D tN (fun q : Nat => s.heap.size ≤ q) ((xs (i.toInt + 1).toNat))) (good_V w_c5a3b51c w_89842ad9 w_cb4fccf1 w_93c426f0 w_f2eeb705) Rz rfl ⟨rfl, by decide +kernel⟩ rfl rfl rfl ⟨Nat.le_of_ble_eq_true rfl, Nat.le_of_ble_eq_true rfl⟩ rfl hl (Nat.le_of_ble_eq_true rfl) dL_law_1552 ⟨by show _ ≤ 600000; omega, by show _ ≤ 7302250; omega⟩ (fun v_1 H locs w_2 hS => ?_)
  have B0 := B
  obtain ⟨ni17_3, ni18_4, ni19_5, ni20_6, ni21_7, ni22_8, ni23_9, ni24_10, ni25_11, ni26_12, ni28_13, ni29_14, nptn_15, nptc_16, np1_17, B⟩ := w_2
  refine at_n (n := 1555) (k1 := cells + 0) (k2 := slots + 0) rfl rfl rfl ?_
  refine lv_pop hx hb dL_law_1555 rfl ?_
  refine lv_aload_n hx hb dL_law_1556 rfl (lv_at hl 1 rfl) ?_
  refine law_arg (kv := 1) C0 E hS hl (by decide) (by decide) (by omega) (by omega) (by omega) dL_law_1557 dL_law_1558 dL_law_1559 dL_law_1560 dL_law_1561 ?_
  refine at_pc (n := 1562) rfl ?_
  obtain ⟨Rw, B, back⟩ := toM B hM
  obtain ⟨_, Rz⟩ := B.rec
  refine hc_VI (kn := 1) E hS B (m12_count l D tN (fun q : Nat => s.heap.size ≤ q) ((xs (i.toInt + 1).toNat)) hp hk) (good_V w_ebcc6d96 w_e47e9ced w_29074c8d w_2e12d08c w_358533c9) Rz rfl ⟨rfl, by decide +kernel⟩ rfl rfl rfl ⟨Nat.le_of_ble_eq_true rfl, Nat.le_of_ble_eq_true rfl⟩ rfl hl (Nat.le_of_ble_eq_true rfl) dL_law_1562 ⟨by show _ ≤ 600000; omega, by show _ ≤ 7302250; omega⟩ (fun v_18 H locs w_19 hS => ?_)
  obtain ⟨ni22_20, ni23_21, ni24_22, ni25_23, na28_24, na29_25, B⟩ := w_19
  obtain ⟨_, B, hM⟩ := back B
  refine at_n (n := 1565) (k1 := cells + 0) (k2 := slots + 0) rfl rfl rfl ?_
  refine lv_pop hx hb dL_law_1565 rfl ?_
  refine lv_goto (tgt := 1569) hx hb dL_law_1566 (by decide) ?_
  refine W.widen (k := cells + 8) (n := slots + 160) (by omega) (by omega) ?_
  refine kk _ _ _ (LI.mk B hM hr hp hk (by omega) hxR1) hS hl
