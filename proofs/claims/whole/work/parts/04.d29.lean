theorem dL_law__1214 : decode cL_law_ 1214 = .ok (.iconst 1, 1) := by decide +kernel
theorem dL_law__1215 : decode cL_law_ 1215 = .ok (.iadd, 1) := by decide +kernel
theorem dL_law__1216 : decode cL_law_ 1216 = .ok (.iaload, 1) := by decide +kernel
theorem dL_law__1217 : decode cL_law_ 1217 = .ok (.invokevirtual 171, 3) := by decide +kernel
theorem dL_law__1220 : decode cL_law_ 1220 = .ok (.istore 6, 2) := by decide +kernel
theorem dL_law__1222 : decode cL_law_ 1222 = .ok (.aload_n 2, 1) := by decide +kernel
theorem dL_law__1223 : decode cL_law_ 1223 = .ok (.invokevirtual 118, 3) := by decide +kernel
theorem dL_law__1226 : decode cL_law_ 1226 = .ok (.iload 5, 2) := by decide +kernel
theorem dL_law__1228 : decode cL_law_ 1228 = .ok (.if_icmp .eq 5, 3) := by decide +kernel
theorem dL_law__1231 : decode cL_law_ 1231 = .ok (.iconst 0, 1) := by decide +kernel
theorem dL_law__1232 : decode cL_law_ 1232 = .ok (.ireturn, 1) := by decide +kernel
theorem dL_law__1233 : decode cL_law_ 1233 = .ok (.iload 5, 2) := by decide +kernel
theorem dL_law__1235 : decode cL_law_ 1235 = .ok (.ifCond .ne 15, 3) := by decide +kernel
theorem dL_law__1238 : decode cL_law_ 1238 = .ok (.aload_n 3, 1) := by decide +kernel
theorem dL_law__1239 : decode cL_law_ 1239 = .ok (.iconst 0, 1) := by decide +kernel
theorem dL_law__1240 : decode cL_law_ 1240 = .ok (.laload, 1) := by decide +kernel
theorem dL_law__1241 : decode cL_law_ 1241 = .ok (.iload 6, 2) := by decide +kernel
theorem dL_law__1243 : decode cL_law_ 1243 = .ok (.i2l, 1) := by decide +kernel
theorem dL_law__1244 : decode cL_law_ 1244 = .ok (.lcmp, 1) := by decide +kernel
theorem dL_law__1245 : decode cL_law_ 1245 = .ok (.ifCond .eq 5, 3) := by decide +kernel
theorem dL_law__1248 : decode cL_law_ 1248 = .ok (.iconst 0, 1) := by decide +kernel
theorem dL_law__1249 : decode cL_law_ 1249 = .ok (.ireturn, 1) := by decide +kernel
theorem dL_law__1250 : decode cL_law_ 1250 = .ok (.goto 1102, 3) := by decide +kernel
theorem dL_law__1253 : decode cL_law_ 1253 = .ok (.aload_n 1, 1) := by decide +kernel
theorem dL_law__1254 : decode cL_law_ 1254 = .ok (.aload_n 0, 1) := by decide +kernel
theorem dL_law__1255 : decode cL_law_ 1255 = .ok (.iload 4, 2) := by decide +kernel
theorem dL_law__1257 : decode cL_law_ 1257 = .ok (.iconst 1, 1) := by decide +kernel
theorem dL_law__1258 : decode cL_law_ 1258 = .ok (.iadd, 1) := by decide +kernel
theorem dL_law__1259 : decode cL_law_ 1259 = .ok (.iaload, 1) := by decide +kernel
theorem dL_law__1260 : decode cL_law_ 1260 = .ok (.aload_n 0, 1) := by decide +kernel
theorem dL_law__1261 : decode cL_law_ 1261 = .ok (.iload 4, 2) := by decide +kernel
theorem dL_law__1263 : decode cL_law_ 1263 = .ok (.iconst 2, 1) := by decide +kernel
theorem dL_law__1264 : decode cL_law_ 1264 = .ok (.iadd, 1) := by decide +kernel
theorem dL_law__1265 : decode cL_law_ 1265 = .ok (.iaload, 1) := by decide +kernel
theorem dL_law__1266 : decode cL_law_ 1266 = .ok (.aload_n 3, 1) := by decide +kernel
theorem dL_law__1267 : decode cL_law_ 1267 = .ok (.invokestatic 172, 3) := by decide +kernel
theorem dL_law__1270 : decode cL_law_ 1270 = .ok (.istore 5, 2) := by decide +kernel
theorem dL_law__1272 : decode cL_law_ 1272 = .ok (.aload_n 2, 1) := by decide +kernel
theorem dL_law__1273 : decode cL_law_ 1273 = .ok (.aload_n 0, 1) := by decide +kernel
theorem dL_law__1274 : decode cL_law_ 1274 = .ok (.iload 4, 2) := by decide +kernel
theorem dL_law__1276 : decode cL_law_ 1276 = .ok (.iconst 1, 1) := by decide +kernel
theorem dL_law__1277 : decode cL_law_ 1277 = .ok (.iadd, 1) := by decide +kernel
theorem dL_law__1278 : decode cL_law_ 1278 = .ok (.iaload, 1) := by decide +kernel
theorem dL_law__1279 : decode cL_law_ 1279 = .ok (.aload_n 0, 1) := by decide +kernel
theorem dL_law__1280 : decode cL_law_ 1280 = .ok (.iload 4, 2) := by decide +kernel
theorem dL_law__1282 : decode cL_law_ 1282 = .ok (.iconst 2, 1) := by decide +kernel
theorem dL_law__1283 : decode cL_law_ 1283 = .ok (.iadd, 1) := by decide +kernel
theorem dL_law__1284 : decode cL_law_ 1284 = .ok (.iaload, 1) := by decide +kernel
theorem dL_law__1285 : decode cL_law_ 1285 = .ok (.invokevirtual 174, 3) := by decide +kernel
theorem dL_law__1288 : decode cL_law_ 1288 = .ok (.istore 6, 2) := by decide +kernel
theorem dL_law__1290 : decode cL_law_ 1290 = .ok (.aload_n 2, 1) := by decide +kernel
theorem dL_law__1291 : decode cL_law_ 1291 = .ok (.invokevirtual 118, 3) := by decide +kernel
theorem dL_law__1294 : decode cL_law_ 1294 = .ok (.iload 5, 2) := by decide +kernel
theorem dL_law__1296 : decode cL_law_ 1296 = .ok (.if_icmp .eq 5, 3) := by decide +kernel
theorem dL_law__1299 : decode cL_law_ 1299 = .ok (.iconst 0, 1) := by decide +kernel
theorem dL_law__1300 : decode cL_law_ 1300 = .ok (.ireturn, 1) := by decide +kernel
theorem dL_law__1301 : decode cL_law_ 1301 = .ok (.iload 5, 2) := by decide +kernel
theorem dL_law__1303 : decode cL_law_ 1303 = .ok (.ifCond .ne 15, 3) := by decide +kernel
theorem dL_law__1306 : decode cL_law_ 1306 = .ok (.aload_n 3, 1) := by decide +kernel
theorem dL_law__1307 : decode cL_law_ 1307 = .ok (.iconst 0, 1) := by decide +kernel
theorem dL_law__1308 : decode cL_law_ 1308 = .ok (.laload, 1) := by decide +kernel
theorem dL_law__1309 : decode cL_law_ 1309 = .ok (.iload 6, 2) := by decide +kernel
theorem dL_law__1311 : decode cL_law_ 1311 = .ok (.i2l, 1) := by decide +kernel
theorem dL_law__1312 : decode cL_law_ 1312 = .ok (.lcmp, 1) := by decide +kernel
theorem dL_law__1313 : decode cL_law_ 1313 = .ok (.ifCond .eq 5, 3) := by decide +kernel
theorem dL_law__1316 : decode cL_law_ 1316 = .ok (.iconst 0, 1) := by decide +kernel
theorem dL_law__1317 : decode cL_law_ 1317 = .ok (.ireturn, 1) := by decide +kernel
theorem dL_law__1318 : decode cL_law_ 1318 = .ok (.goto 1034, 3) := by decide +kernel
theorem dL_law__1321 : decode cL_law_ 1321 = .ok (.aload_n 1, 1) := by decide +kernel
theorem dL_law__1322 : decode cL_law_ 1322 = .ok (.aload_n 0, 1) := by decide +kernel
theorem dL_law__1323 : decode cL_law_ 1323 = .ok (.iload 4, 2) := by decide +kernel
theorem dL_law__1325 : decode cL_law_ 1325 = .ok (.iconst 1, 1) := by decide +kernel
theorem dL_law__1326 : decode cL_law_ 1326 = .ok (.iadd, 1) := by decide +kernel
theorem dL_law__1327 : decode cL_law_ 1327 = .ok (.iaload, 1) := by decide +kernel
theorem dL_law__1328 : decode cL_law_ 1328 = .ok (.aload_n 0, 1) := by decide +kernel
theorem dL_law__1329 : decode cL_law_ 1329 = .ok (.iload 4, 2) := by decide +kernel
theorem dL_law__1331 : decode cL_law_ 1331 = .ok (.iconst 2, 1) := by decide +kernel
theorem dL_law__1332 : decode cL_law_ 1332 = .ok (.iadd, 1) := by decide +kernel
theorem dL_law__1333 : decode cL_law_ 1333 = .ok (.iaload, 1) := by decide +kernel
theorem dL_law__1334 : decode cL_law_ 1334 = .ok (.aload_n 3, 1) := by decide +kernel
theorem dL_law__1335 : decode cL_law_ 1335 = .ok (.invokestatic 175, 3) := by decide +kernel
theorem dL_law__1338 : decode cL_law_ 1338 = .ok (.istore 5, 2) := by decide +kernel
theorem dL_law__1340 : decode cL_law_ 1340 = .ok (.aload_n 2, 1) := by decide +kernel
theorem dL_law__1341 : decode cL_law_ 1341 = .ok (.aload_n 0, 1) := by decide +kernel
theorem dL_law__1342 : decode cL_law_ 1342 = .ok (.iload 4, 2) := by decide +kernel
theorem dL_law__1344 : decode cL_law_ 1344 = .ok (.iconst 1, 1) := by decide +kernel
theorem dL_law__1345 : decode cL_law_ 1345 = .ok (.iadd, 1) := by decide +kernel
theorem dL_law__1346 : decode cL_law_ 1346 = .ok (.iaload, 1) := by decide +kernel
theorem dL_law__1347 : decode cL_law_ 1347 = .ok (.aload_n 0, 1) := by decide +kernel
theorem dL_law__1348 : decode cL_law_ 1348 = .ok (.iload 4, 2) := by decide +kernel
theorem dL_law__1350 : decode cL_law_ 1350 = .ok (.iconst 2, 1) := by decide +kernel
theorem dL_law__1351 : decode cL_law_ 1351 = .ok (.iadd, 1) := by decide +kernel
theorem dL_law__1352 : decode cL_law_ 1352 = .ok (.iaload, 1) := by decide +kernel
theorem dL_law__1353 : decode cL_law_ 1353 = .ok (.invokevirtual 177, 3) := by decide +kernel
theorem dL_law__1356 : decode cL_law_ 1356 = .ok (.istore 6, 2) := by decide +kernel
theorem dL_law__1358 : decode cL_law_ 1358 = .ok (.aload_n 2, 1) := by decide +kernel
theorem dL_law__1359 : decode cL_law_ 1359 = .ok (.invokevirtual 118, 3) := by decide +kernel
theorem dL_law__1362 : decode cL_law_ 1362 = .ok (.iload 5, 2) := by decide +kernel
theorem dL_law__1364 : decode cL_law_ 1364 = .ok (.if_icmp .eq 5, 3) := by decide +kernel
theorem dL_law__1367 : decode cL_law_ 1367 = .ok (.iconst 0, 1) := by decide +kernel
theorem dL_law__1368 : decode cL_law_ 1368 = .ok (.ireturn, 1) := by decide +kernel
theorem dL_law__1369 : decode cL_law_ 1369 = .ok (.iload 5, 2) := by decide +kernel
theorem dL_law__1371 : decode cL_law_ 1371 = .ok (.ifCond .ne 15, 3) := by decide +kernel
theorem dL_law__1374 : decode cL_law_ 1374 = .ok (.aload_n 3, 1) := by decide +kernel
theorem dL_law__1375 : decode cL_law_ 1375 = .ok (.iconst 0, 1) := by decide +kernel
theorem dL_law__1376 : decode cL_law_ 1376 = .ok (.laload, 1) := by decide +kernel
theorem dL_law__1377 : decode cL_law_ 1377 = .ok (.iload 6, 2) := by decide +kernel
theorem dL_law__1379 : decode cL_law_ 1379 = .ok (.i2l, 1) := by decide +kernel
theorem dL_law__1380 : decode cL_law_ 1380 = .ok (.lcmp, 1) := by decide +kernel
theorem dL_law__1381 : decode cL_law_ 1381 = .ok (.ifCond .eq 5, 3) := by decide +kernel
theorem dL_law__1384 : decode cL_law_ 1384 = .ok (.iconst 0, 1) := by decide +kernel
theorem dL_law__1385 : decode cL_law_ 1385 = .ok (.ireturn, 1) := by decide +kernel
theorem dL_law__1386 : decode cL_law_ 1386 = .ok (.goto 966, 3) := by decide +kernel
theorem dL_law__1389 : decode cL_law_ 1389 = .ok (.aload_n 1, 1) := by decide +kernel
theorem dL_law__1390 : decode cL_law_ 1390 = .ok (.aload_n 0, 1) := by decide +kernel
theorem dL_law__1391 : decode cL_law_ 1391 = .ok (.iload 4, 2) := by decide +kernel
theorem dL_law__1393 : decode cL_law_ 1393 = .ok (.iconst 1, 1) := by decide +kernel
theorem dL_law__1394 : decode cL_law_ 1394 = .ok (.iadd, 1) := by decide +kernel
theorem dL_law__1395 : decode cL_law_ 1395 = .ok (.iaload, 1) := by decide +kernel
theorem dL_law__1396 : decode cL_law_ 1396 = .ok (.aload_n 0, 1) := by decide +kernel
theorem dL_law__1397 : decode cL_law_ 1397 = .ok (.iload 4, 2) := by decide +kernel
theorem dL_law__1399 : decode cL_law_ 1399 = .ok (.iconst 2, 1) := by decide +kernel
theorem dL_law__1400 : decode cL_law_ 1400 = .ok (.iadd, 1) := by decide +kernel
theorem dL_law__1401 : decode cL_law_ 1401 = .ok (.iaload, 1) := by decide +kernel
theorem dL_law__1402 : decode cL_law_ 1402 = .ok (.aload_n 0, 1) := by decide +kernel
theorem dL_law__1403 : decode cL_law_ 1403 = .ok (.iload 4, 2) := by decide +kernel
theorem dL_law__1405 : decode cL_law_ 1405 = .ok (.iconst 3, 1) := by decide +kernel
theorem dL_law__1406 : decode cL_law_ 1406 = .ok (.iadd, 1) := by decide +kernel
theorem dL_law__1407 : decode cL_law_ 1407 = .ok (.iaload, 1) := by decide +kernel
theorem dL_law__1408 : decode cL_law_ 1408 = .ok (.aload_n 3, 1) := by decide +kernel
theorem dL_law__1409 : decode cL_law_ 1409 = .ok (.invokestatic 178, 3) := by decide +kernel
theorem dL_law__1412 : decode cL_law_ 1412 = .ok (.istore 5, 2) := by decide +kernel
theorem dL_law__1414 : decode cL_law_ 1414 = .ok (.aload_n 2, 1) := by decide +kernel
theorem dL_law__1415 : decode cL_law_ 1415 = .ok (.aload_n 0, 1) := by decide +kernel
theorem dL_law__1416 : decode cL_law_ 1416 = .ok (.iload 4, 2) := by decide +kernel
theorem dL_law__1418 : decode cL_law_ 1418 = .ok (.iconst 1, 1) := by decide +kernel
theorem dL_law__1419 : decode cL_law_ 1419 = .ok (.iadd, 1) := by decide +kernel
theorem dL_law__1420 : decode cL_law_ 1420 = .ok (.iaload, 1) := by decide +kernel
theorem dL_law__1421 : decode cL_law_ 1421 = .ok (.aload_n 0, 1) := by decide +kernel
theorem dL_law__1422 : decode cL_law_ 1422 = .ok (.iload 4, 2) := by decide +kernel
theorem dL_law__1424 : decode cL_law_ 1424 = .ok (.iconst 2, 1) := by decide +kernel
theorem dL_law__1425 : decode cL_law_ 1425 = .ok (.iadd, 1) := by decide +kernel
theorem dL_law__1426 : decode cL_law_ 1426 = .ok (.iaload, 1) := by decide +kernel
theorem dL_law__1427 : decode cL_law_ 1427 = .ok (.aload_n 0, 1) := by decide +kernel
theorem dL_law__1428 : decode cL_law_ 1428 = .ok (.iload 4, 2) := by decide +kernel
theorem dL_law__1430 : decode cL_law_ 1430 = .ok (.iconst 3, 1) := by decide +kernel
theorem dL_law__1431 : decode cL_law_ 1431 = .ok (.iadd, 1) := by decide +kernel
theorem dL_law__1432 : decode cL_law_ 1432 = .ok (.iaload, 1) := by decide +kernel
theorem dL_law__1433 : decode cL_law_ 1433 = .ok (.invokevirtual 181, 3) := by decide +kernel
theorem dL_law__1436 : decode cL_law_ 1436 = .ok (.istore 6, 2) := by decide +kernel
theorem dL_law__1438 : decode cL_law_ 1438 = .ok (.aload_n 2, 1) := by decide +kernel
theorem dL_law__1439 : decode cL_law_ 1439 = .ok (.invokevirtual 118, 3) := by decide +kernel
theorem dL_law__1442 : decode cL_law_ 1442 = .ok (.iload 5, 2) := by decide +kernel
theorem dL_law__1444 : decode cL_law_ 1444 = .ok (.if_icmp .eq 5, 3) := by decide +kernel
theorem dL_law__1447 : decode cL_law_ 1447 = .ok (.iconst 0, 1) := by decide +kernel
theorem dL_law__1448 : decode cL_law_ 1448 = .ok (.ireturn, 1) := by decide +kernel
theorem dL_law__1449 : decode cL_law_ 1449 = .ok (.iload 5, 2) := by decide +kernel
theorem dL_law__1451 : decode cL_law_ 1451 = .ok (.ifCond .ne 15, 3) := by decide +kernel
theorem dL_law__1454 : decode cL_law_ 1454 = .ok (.aload_n 3, 1) := by decide +kernel
theorem dL_law__1455 : decode cL_law_ 1455 = .ok (.iconst 0, 1) := by decide +kernel
theorem dL_law__1456 : decode cL_law_ 1456 = .ok (.laload, 1) := by decide +kernel
theorem dL_law__1457 : decode cL_law_ 1457 = .ok (.iload 6, 2) := by decide +kernel
theorem dL_law__1459 : decode cL_law_ 1459 = .ok (.i2l, 1) := by decide +kernel
theorem dL_law__1460 : decode cL_law_ 1460 = .ok (.lcmp, 1) := by decide +kernel
theorem dL_law__1461 : decode cL_law_ 1461 = .ok (.ifCond .eq 5, 3) := by decide +kernel
theorem dL_law__1464 : decode cL_law_ 1464 = .ok (.iconst 0, 1) := by decide +kernel
theorem dL_law__1465 : decode cL_law_ 1465 = .ok (.ireturn, 1) := by decide +kernel
theorem dL_law__1466 : decode cL_law_ 1466 = .ok (.goto 886, 3) := by decide +kernel
theorem dL_law__1469 : decode cL_law_ 1469 = .ok (.aload_n 1, 1) := by decide +kernel
theorem dL_law__1470 : decode cL_law_ 1470 = .ok (.aload_n 0, 1) := by decide +kernel
theorem dL_law__1471 : decode cL_law_ 1471 = .ok (.iload 4, 2) := by decide +kernel
theorem dL_law__1473 : decode cL_law_ 1473 = .ok (.iconst 1, 1) := by decide +kernel
theorem dL_law__1474 : decode cL_law_ 1474 = .ok (.iadd, 1) := by decide +kernel
theorem dL_law__1475 : decode cL_law_ 1475 = .ok (.iaload, 1) := by decide +kernel
theorem dL_law__1476 : decode cL_law_ 1476 = .ok (.aload_n 0, 1) := by decide +kernel
theorem dL_law__1477 : decode cL_law_ 1477 = .ok (.iload 4, 2) := by decide +kernel
theorem dL_law__1479 : decode cL_law_ 1479 = .ok (.iconst 2, 1) := by decide +kernel
theorem dL_law__1480 : decode cL_law_ 1480 = .ok (.iadd, 1) := by decide +kernel
theorem dL_law__1481 : decode cL_law_ 1481 = .ok (.iaload, 1) := by decide +kernel
theorem dL_law__1482 : decode cL_law_ 1482 = .ok (.aload_n 3, 1) := by decide +kernel
theorem dL_law__1483 : decode cL_law_ 1483 = .ok (.invokestatic 182, 3) := by decide +kernel
theorem dL_law__1486 : decode cL_law_ 1486 = .ok (.istore 5, 2) := by decide +kernel
theorem dL_law__1488 : decode cL_law_ 1488 = .ok (.aload_n 2, 1) := by decide +kernel
theorem dL_law__1489 : decode cL_law_ 1489 = .ok (.aload_n 0, 1) := by decide +kernel
theorem dL_law__1490 : decode cL_law_ 1490 = .ok (.iload 4, 2) := by decide +kernel
theorem dL_law__1492 : decode cL_law_ 1492 = .ok (.iconst 1, 1) := by decide +kernel
theorem dL_law__1493 : decode cL_law_ 1493 = .ok (.iadd, 1) := by decide +kernel
theorem dL_law__1494 : decode cL_law_ 1494 = .ok (.iaload, 1) := by decide +kernel
theorem dL_law__1495 : decode cL_law_ 1495 = .ok (.aload_n 0, 1) := by decide +kernel
theorem dL_law__1496 : decode cL_law_ 1496 = .ok (.iload 4, 2) := by decide +kernel
theorem dL_law__1498 : decode cL_law_ 1498 = .ok (.iconst 2, 1) := by decide +kernel
theorem dL_law__1499 : decode cL_law_ 1499 = .ok (.iadd, 1) := by decide +kernel
theorem dL_law__1500 : decode cL_law_ 1500 = .ok (.iaload, 1) := by decide +kernel
theorem dL_law__1501 : decode cL_law_ 1501 = .ok (.invokevirtual 184, 3) := by decide +kernel
theorem dL_law__1504 : decode cL_law_ 1504 = .ok (.istore 6, 2) := by decide +kernel
theorem dL_law__1506 : decode cL_law_ 1506 = .ok (.aload_n 2, 1) := by decide +kernel
theorem dL_law__1507 : decode cL_law_ 1507 = .ok (.invokevirtual 118, 3) := by decide +kernel
theorem dL_law__1510 : decode cL_law_ 1510 = .ok (.iload 5, 2) := by decide +kernel
theorem dL_law__1512 : decode cL_law_ 1512 = .ok (.if_icmp .eq 5, 3) := by decide +kernel
theorem dL_law__1515 : decode cL_law_ 1515 = .ok (.iconst 0, 1) := by decide +kernel
theorem dL_law__1516 : decode cL_law_ 1516 = .ok (.ireturn, 1) := by decide +kernel
theorem dL_law__1517 : decode cL_law_ 1517 = .ok (.iload 5, 2) := by decide +kernel
theorem dL_law__1519 : decode cL_law_ 1519 = .ok (.ifCond .ne 15, 3) := by decide +kernel
theorem dL_law__1522 : decode cL_law_ 1522 = .ok (.aload_n 3, 1) := by decide +kernel
theorem dL_law__1523 : decode cL_law_ 1523 = .ok (.iconst 0, 1) := by decide +kernel
theorem dL_law__1524 : decode cL_law_ 1524 = .ok (.laload, 1) := by decide +kernel
theorem dL_law__1525 : decode cL_law_ 1525 = .ok (.iload 6, 2) := by decide +kernel
theorem dL_law__1527 : decode cL_law_ 1527 = .ok (.i2l, 1) := by decide +kernel
theorem dL_law__1528 : decode cL_law_ 1528 = .ok (.lcmp, 1) := by decide +kernel
theorem dL_law__1529 : decode cL_law_ 1529 = .ok (.ifCond .eq 5, 3) := by decide +kernel
theorem dL_law__1532 : decode cL_law_ 1532 = .ok (.iconst 0, 1) := by decide +kernel
theorem dL_law__1533 : decode cL_law_ 1533 = .ok (.ireturn, 1) := by decide +kernel
theorem dL_law__1534 : decode cL_law_ 1534 = .ok (.goto 818, 3) := by decide +kernel
theorem dL_law__1537 : decode cL_law_ 1537 = .ok (.aload_n 1, 1) := by decide +kernel
theorem dL_law__1538 : decode cL_law_ 1538 = .ok (.aload_n 0, 1) := by decide +kernel
theorem dL_law__1539 : decode cL_law_ 1539 = .ok (.iload 4, 2) := by decide +kernel
theorem dL_law__1541 : decode cL_law_ 1541 = .ok (.iconst 1, 1) := by decide +kernel
theorem dL_law__1542 : decode cL_law_ 1542 = .ok (.iadd, 1) := by decide +kernel
theorem dL_law__1543 : decode cL_law_ 1543 = .ok (.iaload, 1) := by decide +kernel
theorem dL_law__1544 : decode cL_law_ 1544 = .ok (.aload_n 0, 1) := by decide +kernel
theorem dL_law__1545 : decode cL_law_ 1545 = .ok (.iload 4, 2) := by decide +kernel
theorem dL_law__1547 : decode cL_law_ 1547 = .ok (.iconst 2, 1) := by decide +kernel
theorem dL_law__1548 : decode cL_law_ 1548 = .ok (.iadd, 1) := by decide +kernel
theorem dL_law__1549 : decode cL_law_ 1549 = .ok (.iaload, 1) := by decide +kernel
theorem dL_law__1550 : decode cL_law_ 1550 = .ok (.aload_n 3, 1) := by decide +kernel
theorem dL_law__1551 : decode cL_law_ 1551 = .ok (.invokestatic 185, 3) := by decide +kernel
theorem dL_law__1554 : decode cL_law_ 1554 = .ok (.istore 5, 2) := by decide +kernel
theorem dL_law__1556 : decode cL_law_ 1556 = .ok (.aload_n 2, 1) := by decide +kernel
theorem dL_law__1557 : decode cL_law_ 1557 = .ok (.aload_n 0, 1) := by decide +kernel
theorem dL_law__1558 : decode cL_law_ 1558 = .ok (.iload 4, 2) := by decide +kernel
theorem dL_law__1560 : decode cL_law_ 1560 = .ok (.iconst 1, 1) := by decide +kernel
theorem dL_law__1561 : decode cL_law_ 1561 = .ok (.iadd, 1) := by decide +kernel
theorem dL_law__1562 : decode cL_law_ 1562 = .ok (.iaload, 1) := by decide +kernel
theorem dL_law__1563 : decode cL_law_ 1563 = .ok (.aload_n 0, 1) := by decide +kernel
theorem dL_law__1564 : decode cL_law_ 1564 = .ok (.iload 4, 2) := by decide +kernel
theorem dL_law__1566 : decode cL_law_ 1566 = .ok (.iconst 2, 1) := by decide +kernel
theorem dL_law__1567 : decode cL_law_ 1567 = .ok (.iadd, 1) := by decide +kernel
theorem dL_law__1568 : decode cL_law_ 1568 = .ok (.iaload, 1) := by decide +kernel
theorem dL_law__1569 : decode cL_law_ 1569 = .ok (.invokevirtual 187, 3) := by decide +kernel
theorem dL_law__1572 : decode cL_law_ 1572 = .ok (.istore 6, 2) := by decide +kernel
theorem dL_law__1574 : decode cL_law_ 1574 = .ok (.aload_n 2, 1) := by decide +kernel
theorem dL_law__1575 : decode cL_law_ 1575 = .ok (.invokevirtual 118, 3) := by decide +kernel
theorem dL_law__1578 : decode cL_law_ 1578 = .ok (.iload 5, 2) := by decide +kernel
theorem dL_law__1580 : decode cL_law_ 1580 = .ok (.if_icmp .eq 5, 3) := by decide +kernel
theorem dL_law__1583 : decode cL_law_ 1583 = .ok (.iconst 0, 1) := by decide +kernel
theorem dL_law__1584 : decode cL_law_ 1584 = .ok (.ireturn, 1) := by decide +kernel
theorem dL_law__1585 : decode cL_law_ 1585 = .ok (.iload 5, 2) := by decide +kernel
theorem dL_law__1587 : decode cL_law_ 1587 = .ok (.ifCond .ne 15, 3) := by decide +kernel
theorem dL_law__1590 : decode cL_law_ 1590 = .ok (.aload_n 3, 1) := by decide +kernel
theorem dL_law__1591 : decode cL_law_ 1591 = .ok (.iconst 0, 1) := by decide +kernel
theorem dL_law__1592 : decode cL_law_ 1592 = .ok (.laload, 1) := by decide +kernel
theorem dL_law__1593 : decode cL_law_ 1593 = .ok (.iload 6, 2) := by decide +kernel
theorem dL_law__1595 : decode cL_law_ 1595 = .ok (.i2l, 1) := by decide +kernel
theorem dL_law__1596 : decode cL_law_ 1596 = .ok (.lcmp, 1) := by decide +kernel
theorem dL_law__1597 : decode cL_law_ 1597 = .ok (.ifCond .eq 5, 3) := by decide +kernel
theorem dL_law__1600 : decode cL_law_ 1600 = .ok (.iconst 0, 1) := by decide +kernel
theorem dL_law__1601 : decode cL_law_ 1601 = .ok (.ireturn, 1) := by decide +kernel
theorem dL_law__1602 : decode cL_law_ 1602 = .ok (.goto 750, 3) := by decide +kernel
theorem dL_law__1605 : decode cL_law_ 1605 = .ok (.aload_n 1, 1) := by decide +kernel
theorem dL_law__1606 : decode cL_law_ 1606 = .ok (.aload_n 0, 1) := by decide +kernel
theorem dL_law__1607 : decode cL_law_ 1607 = .ok (.iload 4, 2) := by decide +kernel
theorem dL_law__1609 : decode cL_law_ 1609 = .ok (.iconst 1, 1) := by decide +kernel
theorem dL_law__1610 : decode cL_law_ 1610 = .ok (.iadd, 1) := by decide +kernel
theorem dL_law__1611 : decode cL_law_ 1611 = .ok (.iaload, 1) := by decide +kernel
theorem dL_law__1612 : decode cL_law_ 1612 = .ok (.aload_n 0, 1) := by decide +kernel
theorem dL_law__1613 : decode cL_law_ 1613 = .ok (.iload 4, 2) := by decide +kernel
theorem dL_law__1615 : decode cL_law_ 1615 = .ok (.iconst 2, 1) := by decide +kernel
theorem dL_law__1616 : decode cL_law_ 1616 = .ok (.iadd, 1) := by decide +kernel
theorem dL_law__1617 : decode cL_law_ 1617 = .ok (.iaload, 1) := by decide +kernel
theorem dL_law__1618 : decode cL_law_ 1618 = .ok (.aload_n 3, 1) := by decide +kernel
theorem dL_law__1619 : decode cL_law_ 1619 = .ok (.invokestatic 188, 3) := by decide +kernel
theorem dL_law__1622 : decode cL_law_ 1622 = .ok (.istore 5, 2) := by decide +kernel
theorem dL_law__1624 : decode cL_law_ 1624 = .ok (.aload_n 2, 1) := by decide +kernel
theorem dL_law__1625 : decode cL_law_ 1625 = .ok (.aload_n 0, 1) := by decide +kernel
theorem dL_law__1626 : decode cL_law_ 1626 = .ok (.iload 4, 2) := by decide +kernel
theorem dL_law__1628 : decode cL_law_ 1628 = .ok (.iconst 1, 1) := by decide +kernel
theorem dL_law__1629 : decode cL_law_ 1629 = .ok (.iadd, 1) := by decide +kernel
theorem dL_law__1630 : decode cL_law_ 1630 = .ok (.iaload, 1) := by decide +kernel
theorem dL_law__1631 : decode cL_law_ 1631 = .ok (.aload_n 0, 1) := by decide +kernel
theorem dL_law__1632 : decode cL_law_ 1632 = .ok (.iload 4, 2) := by decide +kernel
theorem dL_law__1634 : decode cL_law_ 1634 = .ok (.iconst 2, 1) := by decide +kernel
theorem dL_law__1635 : decode cL_law_ 1635 = .ok (.iadd, 1) := by decide +kernel
theorem dL_law__1636 : decode cL_law_ 1636 = .ok (.iaload, 1) := by decide +kernel
theorem dL_law__1637 : decode cL_law_ 1637 = .ok (.invokevirtual 190, 3) := by decide +kernel
theorem dL_law__1640 : decode cL_law_ 1640 = .ok (.istore 6, 2) := by decide +kernel
theorem dL_law__1642 : decode cL_law_ 1642 = .ok (.aload_n 2, 1) := by decide +kernel
theorem dL_law__1643 : decode cL_law_ 1643 = .ok (.invokevirtual 118, 3) := by decide +kernel
theorem dL_law__1646 : decode cL_law_ 1646 = .ok (.iload 5, 2) := by decide +kernel
theorem dL_law__1648 : decode cL_law_ 1648 = .ok (.if_icmp .eq 5, 3) := by decide +kernel
theorem dL_law__1651 : decode cL_law_ 1651 = .ok (.iconst 0, 1) := by decide +kernel
theorem dL_law__1652 : decode cL_law_ 1652 = .ok (.ireturn, 1) := by decide +kernel
theorem dL_law__1653 : decode cL_law_ 1653 = .ok (.iload 5, 2) := by decide +kernel
theorem dL_law__1655 : decode cL_law_ 1655 = .ok (.ifCond .ne 15, 3) := by decide +kernel
theorem dL_law__1658 : decode cL_law_ 1658 = .ok (.aload_n 3, 1) := by decide +kernel
theorem dL_law__1659 : decode cL_law_ 1659 = .ok (.iconst 0, 1) := by decide +kernel
theorem dL_law__1660 : decode cL_law_ 1660 = .ok (.laload, 1) := by decide +kernel
theorem dL_law__1661 : decode cL_law_ 1661 = .ok (.iload 6, 2) := by decide +kernel
theorem dL_law__1663 : decode cL_law_ 1663 = .ok (.i2l, 1) := by decide +kernel
theorem dL_law__1664 : decode cL_law_ 1664 = .ok (.lcmp, 1) := by decide +kernel
theorem dL_law__1665 : decode cL_law_ 1665 = .ok (.ifCond .eq 5, 3) := by decide +kernel
theorem dL_law__1668 : decode cL_law_ 1668 = .ok (.iconst 0, 1) := by decide +kernel
theorem dL_law__1669 : decode cL_law_ 1669 = .ok (.ireturn, 1) := by decide +kernel
theorem dL_law__1670 : decode cL_law_ 1670 = .ok (.goto 682, 3) := by decide +kernel
theorem dL_law__1673 : decode cL_law_ 1673 = .ok (.aload_n 1, 1) := by decide +kernel
theorem dL_law__1674 : decode cL_law_ 1674 = .ok (.aload_n 0, 1) := by decide +kernel
theorem dL_law__1675 : decode cL_law_ 1675 = .ok (.iload 4, 2) := by decide +kernel
theorem dL_law__1677 : decode cL_law_ 1677 = .ok (.iconst 1, 1) := by decide +kernel
theorem dL_law__1678 : decode cL_law_ 1678 = .ok (.iadd, 1) := by decide +kernel
theorem dL_law__1679 : decode cL_law_ 1679 = .ok (.iaload, 1) := by decide +kernel
theorem dL_law__1680 : decode cL_law_ 1680 = .ok (.aload_n 0, 1) := by decide +kernel
theorem dL_law__1681 : decode cL_law_ 1681 = .ok (.iload 4, 2) := by decide +kernel
theorem dL_law__1683 : decode cL_law_ 1683 = .ok (.iconst 2, 1) := by decide +kernel
theorem dL_law__1684 : decode cL_law_ 1684 = .ok (.iadd, 1) := by decide +kernel
theorem dL_law__1685 : decode cL_law_ 1685 = .ok (.iaload, 1) := by decide +kernel
theorem dL_law__1686 : decode cL_law_ 1686 = .ok (.aload_n 0, 1) := by decide +kernel
theorem dL_law__1687 : decode cL_law_ 1687 = .ok (.iload 4, 2) := by decide +kernel
theorem dL_law__1689 : decode cL_law_ 1689 = .ok (.iconst 3, 1) := by decide +kernel
theorem dL_law__1690 : decode cL_law_ 1690 = .ok (.iadd, 1) := by decide +kernel
theorem dL_law__1691 : decode cL_law_ 1691 = .ok (.iaload, 1) := by decide +kernel
theorem dL_law__1692 : decode cL_law_ 1692 = .ok (.aload_n 3, 1) := by decide +kernel
theorem dL_law__1693 : decode cL_law_ 1693 = .ok (.invokestatic 191, 3) := by decide +kernel
theorem dL_law__1696 : decode cL_law_ 1696 = .ok (.istore 5, 2) := by decide +kernel
theorem dL_law__1698 : decode cL_law_ 1698 = .ok (.aload_n 2, 1) := by decide +kernel
theorem dL_law__1699 : decode cL_law_ 1699 = .ok (.aload_n 0, 1) := by decide +kernel
theorem dL_law__1700 : decode cL_law_ 1700 = .ok (.iload 4, 2) := by decide +kernel
theorem dL_law__1702 : decode cL_law_ 1702 = .ok (.iconst 1, 1) := by decide +kernel
theorem dL_law__1703 : decode cL_law_ 1703 = .ok (.iadd, 1) := by decide +kernel
theorem dL_law__1704 : decode cL_law_ 1704 = .ok (.iaload, 1) := by decide +kernel
theorem dL_law__1705 : decode cL_law_ 1705 = .ok (.aload_n 0, 1) := by decide +kernel
theorem dL_law__1706 : decode cL_law_ 1706 = .ok (.iload 4, 2) := by decide +kernel
theorem dL_law__1708 : decode cL_law_ 1708 = .ok (.iconst 2, 1) := by decide +kernel
theorem dL_law__1709 : decode cL_law_ 1709 = .ok (.iadd, 1) := by decide +kernel
theorem dL_law__1710 : decode cL_law_ 1710 = .ok (.iaload, 1) := by decide +kernel
theorem dL_law__1711 : decode cL_law_ 1711 = .ok (.aload_n 0, 1) := by decide +kernel
theorem dL_law__1712 : decode cL_law_ 1712 = .ok (.iload 4, 2) := by decide +kernel
theorem dL_law__1714 : decode cL_law_ 1714 = .ok (.iconst 3, 1) := by decide +kernel
theorem dL_law__1715 : decode cL_law_ 1715 = .ok (.iadd, 1) := by decide +kernel
theorem dL_law__1716 : decode cL_law_ 1716 = .ok (.iaload, 1) := by decide +kernel
theorem dL_law__1717 : decode cL_law_ 1717 = .ok (.invokevirtual 193, 3) := by decide +kernel
theorem dL_law__1720 : decode cL_law_ 1720 = .ok (.lstore 6, 2) := by decide +kernel
theorem dL_law__1722 : decode cL_law_ 1722 = .ok (.aload_n 2, 1) := by decide +kernel
theorem dL_law__1723 : decode cL_law_ 1723 = .ok (.invokevirtual 118, 3) := by decide +kernel
theorem dL_law__1726 : decode cL_law_ 1726 = .ok (.iload 5, 2) := by decide +kernel
theorem dL_law__1728 : decode cL_law_ 1728 = .ok (.if_icmp .eq 5, 3) := by decide +kernel
theorem dL_law__1731 : decode cL_law_ 1731 = .ok (.iconst 0, 1) := by decide +kernel
theorem dL_law__1732 : decode cL_law_ 1732 = .ok (.ireturn, 1) := by decide +kernel
theorem dL_law__1733 : decode cL_law_ 1733 = .ok (.iload 5, 2) := by decide +kernel
theorem dL_law__1735 : decode cL_law_ 1735 = .ok (.ifCond .ne 14, 3) := by decide +kernel
theorem dL_law__1738 : decode cL_law_ 1738 = .ok (.aload_n 3, 1) := by decide +kernel
theorem dL_law__1739 : decode cL_law_ 1739 = .ok (.iconst 0, 1) := by decide +kernel
theorem dL_law__1740 : decode cL_law_ 1740 = .ok (.laload, 1) := by decide +kernel
theorem dL_law__1741 : decode cL_law_ 1741 = .ok (.lload 6, 2) := by decide +kernel
theorem dL_law__1743 : decode cL_law_ 1743 = .ok (.lcmp, 1) := by decide +kernel
theorem dL_law__1744 : decode cL_law_ 1744 = .ok (.ifCond .eq 5, 3) := by decide +kernel
theorem dL_law__1747 : decode cL_law_ 1747 = .ok (.iconst 0, 1) := by decide +kernel
theorem dL_law__1748 : decode cL_law_ 1748 = .ok (.ireturn, 1) := by decide +kernel
theorem dL_law__1749 : decode cL_law_ 1749 = .ok (.goto 603, 3) := by decide +kernel
theorem dL_law__1752 : decode cL_law_ 1752 = .ok (.aload_n 1, 1) := by decide +kernel
theorem dL_law__1753 : decode cL_law_ 1753 = .ok (.aload_n 0, 1) := by decide +kernel
theorem dL_law__1754 : decode cL_law_ 1754 = .ok (.iload 4, 2) := by decide +kernel
theorem dL_law__1756 : decode cL_law_ 1756 = .ok (.iconst 1, 1) := by decide +kernel
theorem dL_law__1757 : decode cL_law_ 1757 = .ok (.iadd, 1) := by decide +kernel
theorem dL_law__1758 : decode cL_law_ 1758 = .ok (.iaload, 1) := by decide +kernel
theorem dL_law__1759 : decode cL_law_ 1759 = .ok (.aload_n 0, 1) := by decide +kernel
theorem dL_law__1760 : decode cL_law_ 1760 = .ok (.iload 4, 2) := by decide +kernel
theorem dL_law__1762 : decode cL_law_ 1762 = .ok (.iconst 2, 1) := by decide +kernel
theorem dL_law__1763 : decode cL_law_ 1763 = .ok (.iadd, 1) := by decide +kernel
theorem dL_law__1764 : decode cL_law_ 1764 = .ok (.iaload, 1) := by decide +kernel
theorem dL_law__1765 : decode cL_law_ 1765 = .ok (.aload_n 0, 1) := by decide +kernel
theorem dL_law__1766 : decode cL_law_ 1766 = .ok (.iload 4, 2) := by decide +kernel
theorem dL_law__1768 : decode cL_law_ 1768 = .ok (.iconst 3, 1) := by decide +kernel
theorem dL_law__1769 : decode cL_law_ 1769 = .ok (.iadd, 1) := by decide +kernel
theorem dL_law__1770 : decode cL_law_ 1770 = .ok (.iaload, 1) := by decide +kernel
theorem dL_law__1771 : decode cL_law_ 1771 = .ok (.aload_n 3, 1) := by decide +kernel
theorem dL_law__1772 : decode cL_law_ 1772 = .ok (.invokestatic 194, 3) := by decide +kernel
theorem dL_law__1775 : decode cL_law_ 1775 = .ok (.istore 5, 2) := by decide +kernel
theorem dL_law__1777 : decode cL_law_ 1777 = .ok (.aload_n 2, 1) := by decide +kernel
theorem dL_law__1778 : decode cL_law_ 1778 = .ok (.aload_n 0, 1) := by decide +kernel
theorem dL_law__1779 : decode cL_law_ 1779 = .ok (.iload 4, 2) := by decide +kernel
theorem dL_law__1781 : decode cL_law_ 1781 = .ok (.iconst 1, 1) := by decide +kernel
theorem dL_law__1782 : decode cL_law_ 1782 = .ok (.iadd, 1) := by decide +kernel
theorem dL_law__1783 : decode cL_law_ 1783 = .ok (.iaload, 1) := by decide +kernel
theorem dL_law__1784 : decode cL_law_ 1784 = .ok (.aload_n 0, 1) := by decide +kernel
theorem dL_law__1785 : decode cL_law_ 1785 = .ok (.iload 4, 2) := by decide +kernel
theorem dL_law__1787 : decode cL_law_ 1787 = .ok (.iconst 2, 1) := by decide +kernel
theorem dL_law__1788 : decode cL_law_ 1788 = .ok (.iadd, 1) := by decide +kernel
theorem dL_law__1789 : decode cL_law_ 1789 = .ok (.iaload, 1) := by decide +kernel
theorem dL_law__1790 : decode cL_law_ 1790 = .ok (.aload_n 0, 1) := by decide +kernel
theorem dL_law__1791 : decode cL_law_ 1791 = .ok (.iload 4, 2) := by decide +kernel
theorem dL_law__1793 : decode cL_law_ 1793 = .ok (.iconst 3, 1) := by decide +kernel
theorem dL_law__1794 : decode cL_law_ 1794 = .ok (.iadd, 1) := by decide +kernel
theorem dL_law__1795 : decode cL_law_ 1795 = .ok (.iaload, 1) := by decide +kernel
theorem dL_law__1796 : decode cL_law_ 1796 = .ok (.invokevirtual 196, 3) := by decide +kernel
theorem dL_law__1799 : decode cL_law_ 1799 = .ok (.istore 6, 2) := by decide +kernel
theorem dL_law__1801 : decode cL_law_ 1801 = .ok (.aload_n 2, 1) := by decide +kernel
theorem dL_law__1802 : decode cL_law_ 1802 = .ok (.invokevirtual 118, 3) := by decide +kernel
theorem dL_law__1805 : decode cL_law_ 1805 = .ok (.iload 5, 2) := by decide +kernel
theorem dL_law__1807 : decode cL_law_ 1807 = .ok (.if_icmp .eq 5, 3) := by decide +kernel
theorem dL_law__1810 : decode cL_law_ 1810 = .ok (.iconst 0, 1) := by decide +kernel
theorem dL_law__1811 : decode cL_law_ 1811 = .ok (.ireturn, 1) := by decide +kernel
