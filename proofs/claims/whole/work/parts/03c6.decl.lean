/-! the law's instructions -/
theorem dL_law__1316 : decode cL_law_ 1316 = .ok (.iload 4, 2) := by decide +kernel
theorem dL_law__1318 : decode cL_law_ 1318 = .ok (.iconst 2, 1) := by decide +kernel
theorem dL_law__1319 : decode cL_law_ 1319 = .ok (.iadd, 1) := by decide +kernel
theorem dL_law__1320 : decode cL_law_ 1320 = .ok (.iaload, 1) := by decide +kernel
theorem dL_law__1321 : decode cL_law_ 1321 = .ok (.i2l, 1) := by decide +kernel
theorem dL_law__1322 : decode cL_law_ 1322 = .ok (.ldc2_w 178, 3) := by decide +kernel
theorem dL_law__1325 : decode cL_law_ 1325 = .ok (.land, 1) := by decide +kernel
theorem dL_law__1326 : decode cL_law_ 1326 = .ok (.lor, 1) := by decide +kernel
theorem dL_law__1327 : decode cL_law_ 1327 = .ok (.aload_n 0, 1) := by decide +kernel
theorem dL_law__1328 : decode cL_law_ 1328 = .ok (.iload 4, 2) := by decide +kernel
theorem dL_law__1330 : decode cL_law_ 1330 = .ok (.iconst 3, 1) := by decide +kernel
theorem dL_law__1331 : decode cL_law_ 1331 = .ok (.iadd, 1) := by decide +kernel
theorem dL_law__1332 : decode cL_law_ 1332 = .ok (.iaload, 1) := by decide +kernel
theorem dL_law__1333 : decode cL_law_ 1333 = .ok (.i2l, 1) := by decide +kernel
theorem dL_law__1334 : decode cL_law_ 1334 = .ok (.bipush 32, 2) := by decide +kernel
theorem dL_law__1336 : decode cL_law_ 1336 = .ok (.lshl, 1) := by decide +kernel
theorem dL_law__1337 : decode cL_law_ 1337 = .ok (.aload_n 0, 1) := by decide +kernel
theorem dL_law__1338 : decode cL_law_ 1338 = .ok (.iload 4, 2) := by decide +kernel
theorem dL_law__1340 : decode cL_law_ 1340 = .ok (.iconst 4, 1) := by decide +kernel
theorem dL_law__1341 : decode cL_law_ 1341 = .ok (.iadd, 1) := by decide +kernel
theorem dL_law__1342 : decode cL_law_ 1342 = .ok (.iaload, 1) := by decide +kernel
theorem dL_law__1343 : decode cL_law_ 1343 = .ok (.i2l, 1) := by decide +kernel
theorem dL_law__1344 : decode cL_law_ 1344 = .ok (.ldc2_w 178, 3) := by decide +kernel
theorem dL_law__1347 : decode cL_law_ 1347 = .ok (.land, 1) := by decide +kernel
theorem dL_law__1348 : decode cL_law_ 1348 = .ok (.lor, 1) := by decide +kernel
theorem dL_law__1349 : decode cL_law_ 1349 = .ok (.invokevirtual 209, 3) := by decide +kernel
theorem dL_law__1352 : decode cL_law_ 1352 = .ok (.istore 6, 2) := by decide +kernel
theorem dL_law__1354 : decode cL_law_ 1354 = .ok (.aload_n 2, 1) := by decide +kernel
theorem dL_law__1355 : decode cL_law_ 1355 = .ok (.invokevirtual 157, 3) := by decide +kernel
theorem dL_law__1358 : decode cL_law_ 1358 = .ok (.iload 5, 2) := by decide +kernel
theorem dL_law__1360 : decode cL_law_ 1360 = .ok (.if_icmp .eq 5, 3) := by decide +kernel
theorem dL_law__1363 : decode cL_law_ 1363 = .ok (.iconst 0, 1) := by decide +kernel
theorem dL_law__1364 : decode cL_law_ 1364 = .ok (.ireturn, 1) := by decide +kernel
theorem dL_law__1365 : decode cL_law_ 1365 = .ok (.iload 5, 2) := by decide +kernel
theorem dL_law__1367 : decode cL_law_ 1367 = .ok (.ifCond .ne 15, 3) := by decide +kernel
theorem dL_law__1370 : decode cL_law_ 1370 = .ok (.aload_n 3, 1) := by decide +kernel
theorem dL_law__1371 : decode cL_law_ 1371 = .ok (.iconst 0, 1) := by decide +kernel
theorem dL_law__1372 : decode cL_law_ 1372 = .ok (.laload, 1) := by decide +kernel
theorem dL_law__1373 : decode cL_law_ 1373 = .ok (.iload 6, 2) := by decide +kernel
theorem dL_law__1375 : decode cL_law_ 1375 = .ok (.i2l, 1) := by decide +kernel
theorem dL_law__1376 : decode cL_law_ 1376 = .ok (.lcmp, 1) := by decide +kernel
theorem dL_law__1377 : decode cL_law_ 1377 = .ok (.ifCond .eq 5, 3) := by decide +kernel
theorem dL_law__1380 : decode cL_law_ 1380 = .ok (.iconst 0, 1) := by decide +kernel
theorem dL_law__1381 : decode cL_law_ 1381 = .ok (.ireturn, 1) := by decide +kernel
theorem dL_law__1382 : decode cL_law_ 1382 = .ok (.goto 1953, 3) := by decide +kernel
theorem dL_law__1385 : decode cL_law_ 1385 = .ok (.aload_n 1, 1) := by decide +kernel
theorem dL_law__1386 : decode cL_law_ 1386 = .ok (.aload_n 0, 1) := by decide +kernel
theorem dL_law__1387 : decode cL_law_ 1387 = .ok (.iload 4, 2) := by decide +kernel
theorem dL_law__1389 : decode cL_law_ 1389 = .ok (.iconst 1, 1) := by decide +kernel
theorem dL_law__1390 : decode cL_law_ 1390 = .ok (.iadd, 1) := by decide +kernel
theorem dL_law__1391 : decode cL_law_ 1391 = .ok (.iaload, 1) := by decide +kernel
theorem dL_law__1392 : decode cL_law_ 1392 = .ok (.aload_n 3, 1) := by decide +kernel
theorem dL_law__1393 : decode cL_law_ 1393 = .ok (.invokestatic 210, 3) := by decide +kernel
theorem dL_law__1396 : decode cL_law_ 1396 = .ok (.istore 5, 2) := by decide +kernel
theorem dL_law__1398 : decode cL_law_ 1398 = .ok (.aload_n 2, 1) := by decide +kernel
theorem dL_law__1399 : decode cL_law_ 1399 = .ok (.aload_n 0, 1) := by decide +kernel
theorem dL_law__1400 : decode cL_law_ 1400 = .ok (.iload 4, 2) := by decide +kernel
theorem dL_law__1402 : decode cL_law_ 1402 = .ok (.iconst 1, 1) := by decide +kernel
theorem dL_law__1403 : decode cL_law_ 1403 = .ok (.iadd, 1) := by decide +kernel
theorem dL_law__1404 : decode cL_law_ 1404 = .ok (.iaload, 1) := by decide +kernel
theorem dL_law__1405 : decode cL_law_ 1405 = .ok (.invokevirtual 212, 3) := by decide +kernel
theorem dL_law__1408 : decode cL_law_ 1408 = .ok (.istore 6, 2) := by decide +kernel
theorem dL_law__1410 : decode cL_law_ 1410 = .ok (.aload_n 2, 1) := by decide +kernel
theorem dL_law__1411 : decode cL_law_ 1411 = .ok (.invokevirtual 157, 3) := by decide +kernel
theorem dL_law__1414 : decode cL_law_ 1414 = .ok (.iload 5, 2) := by decide +kernel
theorem dL_law__1416 : decode cL_law_ 1416 = .ok (.if_icmp .eq 5, 3) := by decide +kernel
theorem dL_law__1419 : decode cL_law_ 1419 = .ok (.iconst 0, 1) := by decide +kernel
theorem dL_law__1420 : decode cL_law_ 1420 = .ok (.ireturn, 1) := by decide +kernel
theorem dL_law__1421 : decode cL_law_ 1421 = .ok (.iload 5, 2) := by decide +kernel
theorem dL_law__1423 : decode cL_law_ 1423 = .ok (.ifCond .ne 15, 3) := by decide +kernel
theorem dL_law__1426 : decode cL_law_ 1426 = .ok (.aload_n 3, 1) := by decide +kernel
theorem dL_law__1427 : decode cL_law_ 1427 = .ok (.iconst 0, 1) := by decide +kernel
theorem dL_law__1428 : decode cL_law_ 1428 = .ok (.laload, 1) := by decide +kernel
theorem dL_law__1429 : decode cL_law_ 1429 = .ok (.iload 6, 2) := by decide +kernel
theorem dL_law__1431 : decode cL_law_ 1431 = .ok (.i2l, 1) := by decide +kernel
theorem dL_law__1432 : decode cL_law_ 1432 = .ok (.lcmp, 1) := by decide +kernel
theorem dL_law__1433 : decode cL_law_ 1433 = .ok (.ifCond .eq 5, 3) := by decide +kernel
theorem dL_law__1436 : decode cL_law_ 1436 = .ok (.iconst 0, 1) := by decide +kernel
theorem dL_law__1437 : decode cL_law_ 1437 = .ok (.ireturn, 1) := by decide +kernel
theorem dL_law__1438 : decode cL_law_ 1438 = .ok (.goto 1897, 3) := by decide +kernel
theorem dL_law__1441 : decode cL_law_ 1441 = .ok (.aload_n 1, 1) := by decide +kernel
theorem dL_law__1442 : decode cL_law_ 1442 = .ok (.aload_n 0, 1) := by decide +kernel
theorem dL_law__1443 : decode cL_law_ 1443 = .ok (.iload 4, 2) := by decide +kernel
theorem dL_law__1445 : decode cL_law_ 1445 = .ok (.iconst 1, 1) := by decide +kernel
theorem dL_law__1446 : decode cL_law_ 1446 = .ok (.iadd, 1) := by decide +kernel
theorem dL_law__1447 : decode cL_law_ 1447 = .ok (.iaload, 1) := by decide +kernel
theorem dL_law__1448 : decode cL_law_ 1448 = .ok (.aload_n 0, 1) := by decide +kernel
theorem dL_law__1449 : decode cL_law_ 1449 = .ok (.iload 4, 2) := by decide +kernel
theorem dL_law__1451 : decode cL_law_ 1451 = .ok (.iconst 2, 1) := by decide +kernel
theorem dL_law__1452 : decode cL_law_ 1452 = .ok (.iadd, 1) := by decide +kernel
theorem dL_law__1453 : decode cL_law_ 1453 = .ok (.iaload, 1) := by decide +kernel
theorem dL_law__1454 : decode cL_law_ 1454 = .ok (.aload_n 3, 1) := by decide +kernel
theorem dL_law__1455 : decode cL_law_ 1455 = .ok (.invokestatic 213, 3) := by decide +kernel
theorem dL_law__1458 : decode cL_law_ 1458 = .ok (.istore 5, 2) := by decide +kernel
theorem dL_law__1460 : decode cL_law_ 1460 = .ok (.aload_n 2, 1) := by decide +kernel
theorem dL_law__1461 : decode cL_law_ 1461 = .ok (.aload_n 0, 1) := by decide +kernel
theorem dL_law__1462 : decode cL_law_ 1462 = .ok (.iload 4, 2) := by decide +kernel
theorem dL_law__1464 : decode cL_law_ 1464 = .ok (.iconst 1, 1) := by decide +kernel
theorem dL_law__1465 : decode cL_law_ 1465 = .ok (.iadd, 1) := by decide +kernel
theorem dL_law__1466 : decode cL_law_ 1466 = .ok (.iaload, 1) := by decide +kernel
theorem dL_law__1467 : decode cL_law_ 1467 = .ok (.aload_n 0, 1) := by decide +kernel
theorem dL_law__1468 : decode cL_law_ 1468 = .ok (.iload 4, 2) := by decide +kernel
theorem dL_law__1470 : decode cL_law_ 1470 = .ok (.iconst 2, 1) := by decide +kernel
theorem dL_law__1471 : decode cL_law_ 1471 = .ok (.iadd, 1) := by decide +kernel
theorem dL_law__1472 : decode cL_law_ 1472 = .ok (.iaload, 1) := by decide +kernel
theorem dL_law__1473 : decode cL_law_ 1473 = .ok (.invokevirtual 215, 3) := by decide +kernel
theorem dL_law__1476 : decode cL_law_ 1476 = .ok (.istore 6, 2) := by decide +kernel
theorem dL_law__1478 : decode cL_law_ 1478 = .ok (.aload_n 2, 1) := by decide +kernel
theorem dL_law__1479 : decode cL_law_ 1479 = .ok (.invokevirtual 157, 3) := by decide +kernel
theorem dL_law__1482 : decode cL_law_ 1482 = .ok (.iload 5, 2) := by decide +kernel
theorem dL_law__1484 : decode cL_law_ 1484 = .ok (.if_icmp .eq 5, 3) := by decide +kernel
theorem dL_law__1487 : decode cL_law_ 1487 = .ok (.iconst 0, 1) := by decide +kernel
theorem dL_law__1488 : decode cL_law_ 1488 = .ok (.ireturn, 1) := by decide +kernel
theorem dL_law__1489 : decode cL_law_ 1489 = .ok (.iload 5, 2) := by decide +kernel
theorem dL_law__1491 : decode cL_law_ 1491 = .ok (.ifCond .ne 15, 3) := by decide +kernel
theorem dL_law__1494 : decode cL_law_ 1494 = .ok (.aload_n 3, 1) := by decide +kernel
theorem dL_law__1495 : decode cL_law_ 1495 = .ok (.iconst 0, 1) := by decide +kernel
theorem dL_law__1496 : decode cL_law_ 1496 = .ok (.laload, 1) := by decide +kernel
theorem dL_law__1497 : decode cL_law_ 1497 = .ok (.iload 6, 2) := by decide +kernel
theorem dL_law__1499 : decode cL_law_ 1499 = .ok (.i2l, 1) := by decide +kernel
theorem dL_law__1500 : decode cL_law_ 1500 = .ok (.lcmp, 1) := by decide +kernel
theorem dL_law__1501 : decode cL_law_ 1501 = .ok (.ifCond .eq 5, 3) := by decide +kernel
theorem dL_law__1504 : decode cL_law_ 1504 = .ok (.iconst 0, 1) := by decide +kernel
theorem dL_law__1505 : decode cL_law_ 1505 = .ok (.ireturn, 1) := by decide +kernel
theorem dL_law__1506 : decode cL_law_ 1506 = .ok (.goto 1829, 3) := by decide +kernel
theorem dL_law__1509 : decode cL_law_ 1509 = .ok (.aload_n 1, 1) := by decide +kernel
theorem dL_law__1510 : decode cL_law_ 1510 = .ok (.aload_n 0, 1) := by decide +kernel
theorem dL_law__1511 : decode cL_law_ 1511 = .ok (.iload 4, 2) := by decide +kernel
theorem dL_law__1513 : decode cL_law_ 1513 = .ok (.iconst 1, 1) := by decide +kernel
theorem dL_law__1514 : decode cL_law_ 1514 = .ok (.iadd, 1) := by decide +kernel
theorem dL_law__1515 : decode cL_law_ 1515 = .ok (.iaload, 1) := by decide +kernel
theorem dL_law__1516 : decode cL_law_ 1516 = .ok (.i2l, 1) := by decide +kernel
theorem dL_law__1517 : decode cL_law_ 1517 = .ok (.bipush 32, 2) := by decide +kernel
theorem dL_law__1519 : decode cL_law_ 1519 = .ok (.lshl, 1) := by decide +kernel
theorem dL_law__1520 : decode cL_law_ 1520 = .ok (.aload_n 0, 1) := by decide +kernel
theorem dL_law__1521 : decode cL_law_ 1521 = .ok (.iload 4, 2) := by decide +kernel
theorem dL_law__1523 : decode cL_law_ 1523 = .ok (.iconst 2, 1) := by decide +kernel
theorem dL_law__1524 : decode cL_law_ 1524 = .ok (.iadd, 1) := by decide +kernel
theorem dL_law__1525 : decode cL_law_ 1525 = .ok (.iaload, 1) := by decide +kernel
theorem dL_law__1526 : decode cL_law_ 1526 = .ok (.i2l, 1) := by decide +kernel
theorem dL_law__1527 : decode cL_law_ 1527 = .ok (.ldc2_w 178, 3) := by decide +kernel
theorem dL_law__1530 : decode cL_law_ 1530 = .ok (.land, 1) := by decide +kernel
theorem dL_law__1531 : decode cL_law_ 1531 = .ok (.lor, 1) := by decide +kernel
theorem dL_law__1532 : decode cL_law_ 1532 = .ok (.aload_n 0, 1) := by decide +kernel
theorem dL_law__1533 : decode cL_law_ 1533 = .ok (.iload 4, 2) := by decide +kernel
theorem dL_law__1535 : decode cL_law_ 1535 = .ok (.iconst 3, 1) := by decide +kernel
theorem dL_law__1536 : decode cL_law_ 1536 = .ok (.iadd, 1) := by decide +kernel
theorem dL_law__1537 : decode cL_law_ 1537 = .ok (.iaload, 1) := by decide +kernel
theorem dL_law__1538 : decode cL_law_ 1538 = .ok (.aload_n 0, 1) := by decide +kernel
theorem dL_law__1539 : decode cL_law_ 1539 = .ok (.iload 4, 2) := by decide +kernel
