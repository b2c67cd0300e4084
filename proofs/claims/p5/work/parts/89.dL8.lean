theorem dL_law_1288 : decode code 1288 = .ok (.iconst 3, 1) := by decide +kernel
theorem dL_law_1289 : decode code 1289 = .ok (.iadd, 1) := by decide +kernel
theorem dL_law_1290 : decode code 1290 = .ok (.iaload, 1) := by decide +kernel
theorem dL_law_1291 : decode code 1291 = .ok (.aload_n 0, 1) := by decide +kernel
theorem dL_law_1292 : decode code 1292 = .ok (.iload_n 3, 1) := by decide +kernel
theorem dL_law_1293 : decode code 1293 = .ok (.iconst 4, 1) := by decide +kernel
theorem dL_law_1294 : decode code 1294 = .ok (.iadd, 1) := by decide +kernel
theorem dL_law_1295 : decode code 1295 = .ok (.iaload, 1) := by decide +kernel
theorem dL_law_1296 : decode code 1296 = .ok (.invokevirtual 125, 3) := by decide +kernel
theorem dL_law_1299 : decode code 1299 = .ok (.pop, 1) := by decide +kernel
theorem dL_law_1300 : decode code 1300 = .ok (.goto 250, 3) := by decide +kernel
theorem dL_law_1303 : decode code 1303 = .ok (.aload_n 1, 1) := by decide +kernel
theorem dL_law_1304 : decode code 1304 = .ok (.aload_n 0, 1) := by decide +kernel
theorem dL_law_1305 : decode code 1305 = .ok (.iload_n 3, 1) := by decide +kernel
theorem dL_law_1306 : decode code 1306 = .ok (.iconst 1, 1) := by decide +kernel
theorem dL_law_1307 : decode code 1307 = .ok (.iadd, 1) := by decide +kernel
theorem dL_law_1308 : decode code 1308 = .ok (.iaload, 1) := by decide +kernel
theorem dL_law_1309 : decode code 1309 = .ok (.invokevirtual 126, 3) := by decide +kernel
theorem dL_law_1312 : decode code 1312 = .ok (.pop, 1) := by decide +kernel
theorem dL_law_1313 : decode code 1313 = .ok (.aload_n 2, 1) := by decide +kernel
theorem dL_law_1314 : decode code 1314 = .ok (.aload_n 0, 1) := by decide +kernel
theorem dL_law_1315 : decode code 1315 = .ok (.iload_n 3, 1) := by decide +kernel
theorem dL_law_1316 : decode code 1316 = .ok (.iconst 1, 1) := by decide +kernel
theorem dL_law_1317 : decode code 1317 = .ok (.iadd, 1) := by decide +kernel
theorem dL_law_1318 : decode code 1318 = .ok (.iaload, 1) := by decide +kernel
theorem dL_law_1319 : decode code 1319 = .ok (.invokevirtual 129, 3) := by decide +kernel
theorem dL_law_1322 : decode code 1322 = .ok (.pop, 1) := by decide +kernel
theorem dL_law_1323 : decode code 1323 = .ok (.goto 227, 3) := by decide +kernel
theorem dL_law_1326 : decode code 1326 = .ok (.aload_n 1, 1) := by decide +kernel
theorem dL_law_1327 : decode code 1327 = .ok (.aload_n 0, 1) := by decide +kernel
theorem dL_law_1328 : decode code 1328 = .ok (.iload_n 3, 1) := by decide +kernel
theorem dL_law_1329 : decode code 1329 = .ok (.iconst 1, 1) := by decide +kernel
theorem dL_law_1330 : decode code 1330 = .ok (.iadd, 1) := by decide +kernel
theorem dL_law_1331 : decode code 1331 = .ok (.iaload, 1) := by decide +kernel
theorem dL_law_1332 : decode code 1332 = .ok (.invokevirtual 130, 3) := by decide +kernel
theorem dL_law_1335 : decode code 1335 = .ok (.pop, 1) := by decide +kernel
theorem dL_law_1336 : decode code 1336 = .ok (.aload_n 2, 1) := by decide +kernel
theorem dL_law_1337 : decode code 1337 = .ok (.aload_n 0, 1) := by decide +kernel
theorem dL_law_1338 : decode code 1338 = .ok (.iload_n 3, 1) := by decide +kernel
theorem dL_law_1339 : decode code 1339 = .ok (.iconst 1, 1) := by decide +kernel
theorem dL_law_1340 : decode code 1340 = .ok (.iadd, 1) := by decide +kernel
theorem dL_law_1341 : decode code 1341 = .ok (.iaload, 1) := by decide +kernel
theorem dL_law_1342 : decode code 1342 = .ok (.invokevirtual 133, 3) := by decide +kernel
theorem dL_law_1345 : decode code 1345 = .ok (.pop, 1) := by decide +kernel
theorem dL_law_1346 : decode code 1346 = .ok (.goto 204, 3) := by decide +kernel
theorem dL_law_1349 : decode code 1349 = .ok (.aload_n 1, 1) := by decide +kernel
theorem dL_law_1350 : decode code 1350 = .ok (.aload_n 0, 1) := by decide +kernel
theorem dL_law_1351 : decode code 1351 = .ok (.iload_n 3, 1) := by decide +kernel
theorem dL_law_1352 : decode code 1352 = .ok (.iconst 1, 1) := by decide +kernel
theorem dL_law_1353 : decode code 1353 = .ok (.iadd, 1) := by decide +kernel
theorem dL_law_1354 : decode code 1354 = .ok (.iaload, 1) := by decide +kernel
theorem dL_law_1355 : decode code 1355 = .ok (.aload_n 0, 1) := by decide +kernel
theorem dL_law_1356 : decode code 1356 = .ok (.iload_n 3, 1) := by decide +kernel
theorem dL_law_1357 : decode code 1357 = .ok (.iconst 2, 1) := by decide +kernel
theorem dL_law_1358 : decode code 1358 = .ok (.iadd, 1) := by decide +kernel
theorem dL_law_1359 : decode code 1359 = .ok (.iaload, 1) := by decide +kernel
theorem dL_law_1360 : decode code 1360 = .ok (.aload_n 0, 1) := by decide +kernel
theorem dL_law_1361 : decode code 1361 = .ok (.iload_n 3, 1) := by decide +kernel
theorem dL_law_1362 : decode code 1362 = .ok (.iconst 3, 1) := by decide +kernel
theorem dL_law_1363 : decode code 1363 = .ok (.iadd, 1) := by decide +kernel
theorem dL_law_1364 : decode code 1364 = .ok (.iaload, 1) := by decide +kernel
theorem dL_law_1365 : decode code 1365 = .ok (.invokevirtual 134, 3) := by decide +kernel
theorem dL_law_1368 : decode code 1368 = .ok (.pop, 1) := by decide +kernel
theorem dL_law_1369 : decode code 1369 = .ok (.aload_n 2, 1) := by decide +kernel
theorem dL_law_1370 : decode code 1370 = .ok (.aload_n 0, 1) := by decide +kernel
theorem dL_law_1371 : decode code 1371 = .ok (.iload_n 3, 1) := by decide +kernel
theorem dL_law_1372 : decode code 1372 = .ok (.iconst 1, 1) := by decide +kernel
theorem dL_law_1373 : decode code 1373 = .ok (.iadd, 1) := by decide +kernel
theorem dL_law_1374 : decode code 1374 = .ok (.iaload, 1) := by decide +kernel
theorem dL_law_1375 : decode code 1375 = .ok (.aload_n 0, 1) := by decide +kernel
theorem dL_law_1376 : decode code 1376 = .ok (.iload_n 3, 1) := by decide +kernel
theorem dL_law_1377 : decode code 1377 = .ok (.iconst 2, 1) := by decide +kernel
theorem dL_law_1378 : decode code 1378 = .ok (.iadd, 1) := by decide +kernel
theorem dL_law_1379 : decode code 1379 = .ok (.iaload, 1) := by decide +kernel
theorem dL_law_1380 : decode code 1380 = .ok (.aload_n 0, 1) := by decide +kernel
theorem dL_law_1381 : decode code 1381 = .ok (.iload_n 3, 1) := by decide +kernel
theorem dL_law_1382 : decode code 1382 = .ok (.iconst 3, 1) := by decide +kernel
theorem dL_law_1383 : decode code 1383 = .ok (.iadd, 1) := by decide +kernel
theorem dL_law_1384 : decode code 1384 = .ok (.iaload, 1) := by decide +kernel
theorem dL_law_1385 : decode code 1385 = .ok (.invokevirtual 137, 3) := by decide +kernel
theorem dL_law_1388 : decode code 1388 = .ok (.pop, 1) := by decide +kernel
theorem dL_law_1389 : decode code 1389 = .ok (.goto 161, 3) := by decide +kernel
theorem dL_law_1392 : decode code 1392 = .ok (.aload_n 1, 1) := by decide +kernel
theorem dL_law_1393 : decode code 1393 = .ok (.aload_n 0, 1) := by decide +kernel
theorem dL_law_1394 : decode code 1394 = .ok (.iload_n 3, 1) := by decide +kernel
theorem dL_law_1395 : decode code 1395 = .ok (.iconst 1, 1) := by decide +kernel
theorem dL_law_1396 : decode code 1396 = .ok (.iadd, 1) := by decide +kernel
theorem dL_law_1397 : decode code 1397 = .ok (.iaload, 1) := by decide +kernel
theorem dL_law_1398 : decode code 1398 = .ok (.invokevirtual 138, 3) := by decide +kernel
theorem dL_law_1401 : decode code 1401 = .ok (.pop, 1) := by decide +kernel
theorem dL_law_1402 : decode code 1402 = .ok (.aload_n 2, 1) := by decide +kernel
theorem dL_law_1403 : decode code 1403 = .ok (.aload_n 0, 1) := by decide +kernel
theorem dL_law_1404 : decode code 1404 = .ok (.iload_n 3, 1) := by decide +kernel
theorem dL_law_1405 : decode code 1405 = .ok (.iconst 1, 1) := by decide +kernel
theorem dL_law_1406 : decode code 1406 = .ok (.iadd, 1) := by decide +kernel
theorem dL_law_1407 : decode code 1407 = .ok (.iaload, 1) := by decide +kernel
theorem dL_law_1408 : decode code 1408 = .ok (.invokevirtual 141, 3) := by decide +kernel
theorem dL_law_1411 : decode code 1411 = .ok (.pop, 1) := by decide +kernel
theorem dL_law_1412 : decode code 1412 = .ok (.goto 138, 3) := by decide +kernel
theorem dL_law_1415 : decode code 1415 = .ok (.aload_n 1, 1) := by decide +kernel
theorem dL_law_1416 : decode code 1416 = .ok (.aload_n 0, 1) := by decide +kernel
theorem dL_law_1417 : decode code 1417 = .ok (.iload_n 3, 1) := by decide +kernel
theorem dL_law_1418 : decode code 1418 = .ok (.iconst 1, 1) := by decide +kernel
theorem dL_law_1419 : decode code 1419 = .ok (.iadd, 1) := by decide +kernel
theorem dL_law_1420 : decode code 1420 = .ok (.iaload, 1) := by decide +kernel
theorem dL_law_1421 : decode code 1421 = .ok (.aload_n 0, 1) := by decide +kernel
theorem dL_law_1422 : decode code 1422 = .ok (.iload_n 3, 1) := by decide +kernel
theorem dL_law_1423 : decode code 1423 = .ok (.iconst 2, 1) := by decide +kernel
theorem dL_law_1424 : decode code 1424 = .ok (.iadd, 1) := by decide +kernel
theorem dL_law_1425 : decode code 1425 = .ok (.iaload, 1) := by decide +kernel
theorem dL_law_1426 : decode code 1426 = .ok (.invokevirtual 142, 3) := by decide +kernel
theorem dL_law_1429 : decode code 1429 = .ok (.pop, 1) := by decide +kernel
theorem dL_law_1430 : decode code 1430 = .ok (.aload_n 2, 1) := by decide +kernel
theorem dL_law_1431 : decode code 1431 = .ok (.aload_n 0, 1) := by decide +kernel
theorem dL_law_1432 : decode code 1432 = .ok (.iload_n 3, 1) := by decide +kernel
theorem dL_law_1433 : decode code 1433 = .ok (.iconst 1, 1) := by decide +kernel
theorem dL_law_1434 : decode code 1434 = .ok (.iadd, 1) := by decide +kernel
theorem dL_law_1435 : decode code 1435 = .ok (.iaload, 1) := by decide +kernel
theorem dL_law_1436 : decode code 1436 = .ok (.aload_n 0, 1) := by decide +kernel
theorem dL_law_1437 : decode code 1437 = .ok (.iload_n 3, 1) := by decide +kernel
