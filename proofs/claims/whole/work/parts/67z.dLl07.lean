theorem dL_law_1340 : decode jL_law.2.1 1340 = .ok (.invokestatic 136, 3) := by decide +kernel
theorem dL_law_1343 : decode jL_law.2.1 1343 = .ok (.istore 5, 2) := by decide +kernel
theorem dL_law_1345 : decode jL_law.2.1 1345 = .ok (.aload_n 2, 1) := by decide +kernel
theorem dL_law_1346 : decode jL_law.2.1 1346 = .ok (.aload_n 0, 1) := by decide +kernel
theorem dL_law_1347 : decode jL_law.2.1 1347 = .ok (.iload 4, 2) := by decide +kernel
theorem dL_law_1349 : decode jL_law.2.1 1349 = .ok (.iconst 1, 1) := by decide +kernel
theorem dL_law_1350 : decode jL_law.2.1 1350 = .ok (.iadd, 1) := by decide +kernel
theorem dL_law_1351 : decode jL_law.2.1 1351 = .ok (.iaload, 1) := by decide +kernel
theorem dL_law_1352 : decode jL_law.2.1 1352 = .ok (.aload_n 0, 1) := by decide +kernel
theorem dL_law_1353 : decode jL_law.2.1 1353 = .ok (.iload 4, 2) := by decide +kernel
theorem dL_law_1355 : decode jL_law.2.1 1355 = .ok (.iconst 2, 1) := by decide +kernel
theorem dL_law_1356 : decode jL_law.2.1 1356 = .ok (.iadd, 1) := by decide +kernel
theorem dL_law_1357 : decode jL_law.2.1 1357 = .ok (.iaload, 1) := by decide +kernel
theorem dL_law_1358 : decode jL_law.2.1 1358 = .ok (.invokevirtual 138, 3) := by decide +kernel
theorem dL_law_1361 : decode jL_law.2.1 1361 = .ok (.istore 6, 2) := by decide +kernel
theorem dL_law_1363 : decode jL_law.2.1 1363 = .ok (.aload_n 2, 1) := by decide +kernel
theorem dL_law_1364 : decode jL_law.2.1 1364 = .ok (.invokevirtual 87, 3) := by decide +kernel
theorem dL_law_1367 : decode jL_law.2.1 1367 = .ok (.iload 5, 2) := by decide +kernel
theorem dL_law_1369 : decode jL_law.2.1 1369 = .ok (.if_icmp .eq 5, 3) := by decide +kernel
theorem dL_law_1372 : decode jL_law.2.1 1372 = .ok (.iconst 0, 1) := by decide +kernel
theorem dL_law_1373 : decode jL_law.2.1 1373 = .ok (.ireturn, 1) := by decide +kernel
theorem dL_law_1374 : decode jL_law.2.1 1374 = .ok (.iload 5, 2) := by decide +kernel
theorem dL_law_1376 : decode jL_law.2.1 1376 = .ok (.ifCond .ne 15, 3) := by decide +kernel
theorem dL_law_1379 : decode jL_law.2.1 1379 = .ok (.aload_n 3, 1) := by decide +kernel
theorem dL_law_1380 : decode jL_law.2.1 1380 = .ok (.iconst 0, 1) := by decide +kernel
theorem dL_law_1381 : decode jL_law.2.1 1381 = .ok (.laload, 1) := by decide +kernel
theorem dL_law_1382 : decode jL_law.2.1 1382 = .ok (.iload 6, 2) := by decide +kernel
theorem dL_law_1384 : decode jL_law.2.1 1384 = .ok (.i2l, 1) := by decide +kernel
theorem dL_law_1385 : decode jL_law.2.1 1385 = .ok (.lcmp, 1) := by decide +kernel
theorem dL_law_1386 : decode jL_law.2.1 1386 = .ok (.ifCond .eq 5, 3) := by decide +kernel
theorem dL_law_1389 : decode jL_law.2.1 1389 = .ok (.iconst 0, 1) := by decide +kernel
theorem dL_law_1390 : decode jL_law.2.1 1390 = .ok (.ireturn, 1) := by decide +kernel
theorem dL_law_1391 : decode jL_law.2.1 1391 = .ok (.goto 122, 3) := by decide +kernel
theorem dL_law_1394 : decode jL_law.2.1 1394 = .ok (.aload_n 1, 1) := by decide +kernel
theorem dL_law_1395 : decode jL_law.2.1 1395 = .ok (.invokevirtual 139, 3) := by decide +kernel
theorem dL_law_1398 : decode jL_law.2.1 1398 = .ok (.aload_n 2, 1) := by decide +kernel
theorem dL_law_1399 : decode jL_law.2.1 1399 = .ok (.invokevirtual 142, 3) := by decide +kernel
theorem dL_law_1402 : decode jL_law.2.1 1402 = .ok (.goto 111, 3) := by decide +kernel
theorem dL_law_1405 : decode jL_law.2.1 1405 = .ok (.aload_n 1, 1) := by decide +kernel
theorem dL_law_1406 : decode jL_law.2.1 1406 = .ok (.invokevirtual 143, 3) := by decide +kernel
theorem dL_law_1409 : decode jL_law.2.1 1409 = .ok (.aload_n 2, 1) := by decide +kernel
theorem dL_law_1410 : decode jL_law.2.1 1410 = .ok (.invokevirtual 146, 3) := by decide +kernel
theorem dL_law_1413 : decode jL_law.2.1 1413 = .ok (.if_icmp .eq 100, 3) := by decide +kernel
theorem dL_law_1416 : decode jL_law.2.1 1416 = .ok (.iconst 0, 1) := by decide +kernel
theorem dL_law_1417 : decode jL_law.2.1 1417 = .ok (.ireturn, 1) := by decide +kernel
theorem dL_law_1418 : decode jL_law.2.1 1418 = .ok (.aload_n 1, 1) := by decide +kernel
theorem dL_law_1419 : decode jL_law.2.1 1419 = .ok (.invokevirtual 147, 3) := by decide +kernel
theorem dL_law_1422 : decode jL_law.2.1 1422 = .ok (.aload_n 2, 1) := by decide +kernel
theorem dL_law_1423 : decode jL_law.2.1 1423 = .ok (.invokevirtual 150, 3) := by decide +kernel
theorem dL_law_1426 : decode jL_law.2.1 1426 = .ok (.if_icmp .eq 87, 3) := by decide +kernel
theorem dL_law_1429 : decode jL_law.2.1 1429 = .ok (.iconst 0, 1) := by decide +kernel
theorem dL_law_1430 : decode jL_law.2.1 1430 = .ok (.ireturn, 1) := by decide +kernel
theorem dL_law_1431 : decode jL_law.2.1 1431 = .ok (.aload_n 1, 1) := by decide +kernel
theorem dL_law_1432 : decode jL_law.2.1 1432 = .ok (.invokevirtual 151, 3) := by decide +kernel
theorem dL_law_1435 : decode jL_law.2.1 1435 = .ok (.aload_n 2, 1) := by decide +kernel
theorem dL_law_1436 : decode jL_law.2.1 1436 = .ok (.invokevirtual 154, 3) := by decide +kernel
theorem dL_law_1439 : decode jL_law.2.1 1439 = .ok (.if_icmp .eq 74, 3) := by decide +kernel
theorem dL_law_1442 : decode jL_law.2.1 1442 = .ok (.iconst 0, 1) := by decide +kernel
theorem dL_law_1443 : decode jL_law.2.1 1443 = .ok (.ireturn, 1) := by decide +kernel
theorem dL_law_1444 : decode jL_law.2.1 1444 = .ok (.aload_n 1, 1) := by decide +kernel
theorem dL_law_1445 : decode jL_law.2.1 1445 = .ok (.aload_n 0, 1) := by decide +kernel
theorem dL_law_1446 : decode jL_law.2.1 1446 = .ok (.iload 4, 2) := by decide +kernel
theorem dL_law_1448 : decode jL_law.2.1 1448 = .ok (.iconst 1, 1) := by decide +kernel
theorem dL_law_1449 : decode jL_law.2.1 1449 = .ok (.iadd, 1) := by decide +kernel
theorem dL_law_1450 : decode jL_law.2.1 1450 = .ok (.iaload, 1) := by decide +kernel
theorem dL_law_1451 : decode jL_law.2.1 1451 = .ok (.aload_n 3, 1) := by decide +kernel
theorem dL_law_1452 : decode jL_law.2.1 1452 = .ok (.invokestatic 155, 3) := by decide +kernel
theorem dL_law_1455 : decode jL_law.2.1 1455 = .ok (.istore 5, 2) := by decide +kernel
theorem dL_law_1457 : decode jL_law.2.1 1457 = .ok (.aload_n 2, 1) := by decide +kernel
theorem dL_law_1458 : decode jL_law.2.1 1458 = .ok (.aload_n 0, 1) := by decide +kernel
theorem dL_law_1459 : decode jL_law.2.1 1459 = .ok (.iload 4, 2) := by decide +kernel
theorem dL_law_1461 : decode jL_law.2.1 1461 = .ok (.iconst 1, 1) := by decide +kernel
theorem dL_law_1462 : decode jL_law.2.1 1462 = .ok (.iadd, 1) := by decide +kernel
theorem dL_law_1463 : decode jL_law.2.1 1463 = .ok (.iaload, 1) := by decide +kernel
theorem dL_law_1464 : decode jL_law.2.1 1464 = .ok (.invokevirtual 157, 3) := by decide +kernel
theorem dL_law_1467 : decode jL_law.2.1 1467 = .ok (.istore 6, 2) := by decide +kernel
theorem dL_law_1469 : decode jL_law.2.1 1469 = .ok (.aload_n 2, 1) := by decide +kernel
theorem dL_law_1470 : decode jL_law.2.1 1470 = .ok (.invokevirtual 87, 3) := by decide +kernel
theorem dL_law_1473 : decode jL_law.2.1 1473 = .ok (.iload 5, 2) := by decide +kernel
theorem dL_law_1475 : decode jL_law.2.1 1475 = .ok (.if_icmp .eq 5, 3) := by decide +kernel
theorem dL_law_1478 : decode jL_law.2.1 1478 = .ok (.iconst 0, 1) := by decide +kernel
theorem dL_law_1479 : decode jL_law.2.1 1479 = .ok (.ireturn, 1) := by decide +kernel
theorem dL_law_1480 : decode jL_law.2.1 1480 = .ok (.iload 5, 2) := by decide +kernel
theorem dL_law_1482 : decode jL_law.2.1 1482 = .ok (.ifCond .ne 15, 3) := by decide +kernel
theorem dL_law_1485 : decode jL_law.2.1 1485 = .ok (.aload_n 3, 1) := by decide +kernel
theorem dL_law_1486 : decode jL_law.2.1 1486 = .ok (.iconst 0, 1) := by decide +kernel
theorem dL_law_1487 : decode jL_law.2.1 1487 = .ok (.laload, 1) := by decide +kernel
theorem dL_law_1488 : decode jL_law.2.1 1488 = .ok (.iload 6, 2) := by decide +kernel
theorem dL_law_1490 : decode jL_law.2.1 1490 = .ok (.i2l, 1) := by decide +kernel
theorem dL_law_1491 : decode jL_law.2.1 1491 = .ok (.lcmp, 1) := by decide +kernel
theorem dL_law_1492 : decode jL_law.2.1 1492 = .ok (.ifCond .eq 5, 3) := by decide +kernel
theorem dL_law_1495 : decode jL_law.2.1 1495 = .ok (.iconst 0, 1) := by decide +kernel
theorem dL_law_1496 : decode jL_law.2.1 1496 = .ok (.ireturn, 1) := by decide +kernel
theorem dL_law_1497 : decode jL_law.2.1 1497 = .ok (.goto 16, 3) := by decide +kernel
theorem dL_law_1500 : decode jL_law.2.1 1500 = .ok (.aload_n 1, 1) := by decide +kernel
theorem dL_law_1501 : decode jL_law.2.1 1501 = .ok (.invokevirtual 158, 3) := by decide +kernel
theorem dL_law_1504 : decode jL_law.2.1 1504 = .ok (.aload_n 2, 1) := by decide +kernel
theorem dL_law_1505 : decode jL_law.2.1 1505 = .ok (.invokevirtual 162, 3) := by decide +kernel
theorem dL_law_1508 : decode jL_law.2.1 1508 = .ok (.if_icmp .eq 5, 3) := by decide +kernel
theorem dL_law_1511 : decode jL_law.2.1 1511 = .ok (.iconst 0, 1) := by decide +kernel
theorem dL_law_1512 : decode jL_law.2.1 1512 = .ok (.ireturn, 1) := by decide +kernel
theorem dL_law_1513 : decode jL_law.2.1 1513 = .ok (.iinc 4 8, 3) := by decide +kernel
theorem dL_law_1516 : decode jL_law.2.1 1516 = .ok (.goto (-1493), 3) := by decide +kernel
theorem dL_law_1519 : decode jL_law.2.1 1519 = .ok (.iconst 1, 1) := by decide +kernel
theorem dL_law_1520 : decode jL_law.2.1 1520 = .ok (.ireturn, 1) := by decide +kernel
