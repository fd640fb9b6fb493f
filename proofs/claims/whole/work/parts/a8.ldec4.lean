/-! ===== the law: what its bytes say, 4 ===== -/
theorem dA_1286 : AD 1286 1 := by unfold AD; decide +kernel
theorem dL_1291 : decode code 1291 = .ok (.invokevirtual 144, 3) := by decide +kernel
theorem dL_1294 : decode code 1294 = .ok (.aload_n 2, 1) := by decide +kernel
theorem dA_1295 : AD 1295 1 := by unfold AD; decide +kernel
theorem dL_1300 : decode code 1300 = .ok (.invokevirtual 147, 3) := by decide +kernel
theorem dL_1303 : decode code 1303 = .ok (.if_icmp .eq 272, 3) := by decide +kernel
theorem dL_1308 : decode code 1308 = .ok (.aload_n 1, 1) := by decide +kernel
theorem dA_1309 : AD 1309 1 := by unfold AD; decide +kernel
theorem dA_1314 : AD 1314 2 := by unfold AD; decide +kernel
theorem dA_1319 : AD 1319 3 := by unfold AD; decide +kernel
theorem dL_1324 : decode code 1324 = .ok (.invokevirtual 148, 3) := by decide +kernel
theorem dL_1327 : decode code 1327 = .ok (.aload_n 2, 1) := by decide +kernel
theorem dA_1328 : AD 1328 1 := by unfold AD; decide +kernel
theorem dA_1333 : AD 1333 2 := by unfold AD; decide +kernel
theorem dA_1338 : AD 1338 3 := by unfold AD; decide +kernel
theorem dL_1343 : decode code 1343 = .ok (.invokevirtual 151, 3) := by decide +kernel
theorem dL_1346 : decode code 1346 = .ok (.if_icmp .eq 229, 3) := by decide +kernel
theorem dL_1351 : decode code 1351 = .ok (.aload_n 1, 1) := by decide +kernel
theorem dA_1352 : AD 1352 1 := by unfold AD; decide +kernel
theorem dA_1357 : AD 1357 2 := by unfold AD; decide +kernel
theorem dA_1362 : AD 1362 3 := by unfold AD; decide +kernel
theorem dL_1367 : decode code 1367 = .ok (.invokevirtual 152, 3) := by decide +kernel
theorem dL_1370 : decode code 1370 = .ok (.aload_n 2, 1) := by decide +kernel
theorem dA_1371 : AD 1371 1 := by unfold AD; decide +kernel
theorem dA_1376 : AD 1376 2 := by unfold AD; decide +kernel
theorem dA_1381 : AD 1381 3 := by unfold AD; decide +kernel
theorem dL_1386 : decode code 1386 = .ok (.invokevirtual 155, 3) := by decide +kernel
theorem dL_1389 : decode code 1389 = .ok (.if_icmp .eq 186, 3) := by decide +kernel
theorem dL_1394 : decode code 1394 = .ok (.aload_n 1, 1) := by decide +kernel
theorem dA_1395 : AD 1395 1 := by unfold AD; decide +kernel
theorem dA_1400 : AD 1400 2 := by unfold AD; decide +kernel
theorem dA_1405 : AD 1405 3 := by unfold AD; decide +kernel
theorem dA_1410 : AD 1410 4 := by unfold AD; decide +kernel
theorem dA_1415 : AD 1415 5 := by unfold AD; decide +kernel
theorem dL_1420 : decode code 1420 = .ok (.invokevirtual 156, 3) := by decide +kernel
theorem dL_1423 : decode code 1423 = .ok (.aload_n 2, 1) := by decide +kernel
theorem dA_1424 : AD 1424 1 := by unfold AD; decide +kernel
theorem dA_1429 : AD 1429 2 := by unfold AD; decide +kernel
theorem dA_1434 : AD 1434 3 := by unfold AD; decide +kernel
theorem dA_1439 : AD 1439 4 := by unfold AD; decide +kernel
theorem dA_1444 : AD 1444 5 := by unfold AD; decide +kernel
theorem dL_1449 : decode code 1449 = .ok (.invokevirtual 159, 3) := by decide +kernel
theorem dL_1452 : decode code 1452 = .ok (.if_icmp .eq 123, 3) := by decide +kernel
theorem dL_1457 : decode code 1457 = .ok (.aload_n 1, 1) := by decide +kernel
theorem dL_1458 : decode code 1458 = .ok (.invokevirtual 160, 3) := by decide +kernel
theorem dL_1461 : decode code 1461 = .ok (.aload_n 2, 1) := by decide +kernel
theorem dL_1462 : decode code 1462 = .ok (.invokevirtual 164, 3) := by decide +kernel
theorem dL_1465 : decode code 1465 = .ok (.if_icmp .eq 110, 3) := by decide +kernel
theorem dL_1470 : decode code 1470 = .ok (.aload_n 1, 1) := by decide +kernel
theorem dL_1471 : decode code 1471 = .ok (.invokevirtual 165, 3) := by decide +kernel
theorem dL_1474 : decode code 1474 = .ok (.aload_n 2, 1) := by decide +kernel
theorem dL_1475 : decode code 1475 = .ok (.invokevirtual 168, 3) := by decide +kernel
theorem dL_1478 : decode code 1478 = .ok (.if_icmp .eq 97, 3) := by decide +kernel
theorem dL_1483 : decode code 1483 = .ok (.aload_n 1, 1) := by decide +kernel
theorem dA_1484 : AD 1484 1 := by unfold AD; decide +kernel
theorem dL_1489 : decode code 1489 = .ok (.invokevirtual 169, 3) := by decide +kernel
theorem dL_1492 : decode code 1492 = .ok (.aload_n 2, 1) := by decide +kernel
theorem dA_1493 : AD 1493 1 := by unfold AD; decide +kernel
theorem dL_1498 : decode code 1498 = .ok (.invokevirtual 172, 3) := by decide +kernel
theorem dL_1501 : decode code 1501 = .ok (.if_icmp .eq 74, 3) := by decide +kernel
theorem dL_1506 : decode code 1506 = .ok (.aload_n 1, 1) := by decide +kernel
theorem dA_1507 : AD 1507 1 := by unfold AD; decide +kernel
theorem dL_1512 : decode code 1512 = .ok (.invokevirtual 173, 3) := by decide +kernel
theorem dL_1515 : decode code 1515 = .ok (.aload_n 2, 1) := by decide +kernel
theorem dA_1516 : AD 1516 1 := by unfold AD; decide +kernel
theorem dL_1521 : decode code 1521 = .ok (.invokevirtual 176, 3) := by decide +kernel
theorem dL_1524 : decode code 1524 = .ok (.if_icmp .eq 51, 3) := by decide +kernel
theorem dL_1529 : decode code 1529 = .ok (.aload_n 1, 1) := by decide +kernel
theorem dA_1530 : AD 1530 1 := by unfold AD; decide +kernel
theorem dL_1535 : decode code 1535 = .ok (.invokevirtual 177, 3) := by decide +kernel
theorem dL_1538 : decode code 1538 = .ok (.aload_n 2, 1) := by decide +kernel
theorem dA_1539 : AD 1539 1 := by unfold AD; decide +kernel
theorem dL_1544 : decode code 1544 = .ok (.invokevirtual 180, 3) := by decide +kernel
theorem dL_1547 : decode code 1547 = .ok (.if_icmp .eq 28, 3) := by decide +kernel
theorem dL_1552 : decode code 1552 = .ok (.aload_n 1, 1) := by decide +kernel
theorem dA_1553 : AD 1553 1 := by unfold AD; decide +kernel
theorem dL_1558 : decode code 1558 = .ok (.invokevirtual 181, 3) := by decide +kernel
theorem dL_1561 : decode code 1561 = .ok (.aload_n 2, 1) := by decide +kernel
theorem dA_1562 : AD 1562 1 := by unfold AD; decide +kernel
theorem dL_1567 : decode code 1567 = .ok (.invokevirtual 184, 3) := by decide +kernel
theorem dL_1570 : decode code 1570 = .ok (.if_icmp .eq 5, 3) := by decide +kernel
theorem dL_18 : decode code 18 = .ok (.iload_n 3, 1) := by decide +kernel
theorem dL_19 : decode code 19 = .ok (.aload_n 0, 1) := by decide +kernel
theorem dL_20 : decode code 20 = .ok (.arraylength, 1) := by decide +kernel
theorem dL_21 : decode code 21 = .ok (.bipush 6, 2) := by decide +kernel
theorem dL_23 : decode code 23 = .ok (.isub, 1) := by decide +kernel
theorem dL_24 : decode code 24 = .ok (.if_icmp .gt 1557, 3) := by decide +kernel
theorem dL_27 : decode code 27 = .ok (.aload_n 0, 1) := by decide +kernel
theorem dL_28 : decode code 28 = .ok (.iload_n 3, 1) := by decide +kernel
theorem dL_29 : decode code 29 = .ok (.iaload, 1) := by decide +kernel
theorem dL_30 : decode code 30 = .ok (.bipush 63, 2) := by decide +kernel
theorem dL_32 : decode code 32 = .ok (.iand, 1) := by decide +kernel
theorem dL_1575 : decode code 1575 = .ok (.iinc 3 6, 3) := by decide +kernel
theorem dL_1578 : decode code 1578 = .ok (.goto (-1560), 3) := by decide +kernel
theorem dL_1581 : decode code 1581 = .ok (.iconst 1, 1) := by decide +kernel
theorem dL_1582 : decode code 1582 = .ok (.ireturn, 1) := by decide +kernel
theorem dL_33 : decode code 33 = .ok (.tableswitch 1542 0 40 #[179, 212, 245, 288, 321, 364, 397, 430, 453, 476, 519, 552, 615, 638, 701, 734, 767, 790, 833, 876, 899, 922, 955, 978, 1021, 1064, 1097, 1130, 1153, 1186, 1209, 1252, 1275, 1318, 1361, 1424, 1437, 1450, 1473, 1496, 1519], 179) := by decide +kernel

