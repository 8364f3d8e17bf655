theorem dLaw_1310g : (decode code 1310 = .ok (.iaload, 1)) ∧ (decode code 1311 = .ok (.aload_n 0, 1)) ∧ (decode code 1312 = .ok (.iload_n 3, 1)) ∧ (decode code 1313 = .ok (.iconst 4, 1)) ∧ (decode code 1314 = .ok (.iadd, 1)) ∧ (decode code 1315 = .ok (.iaload, 1)) ∧ (decode code 1316 = .ok (.aload_n 0, 1)) ∧ (decode code 1317 = .ok (.iload_n 3, 1)) ∧ (decode code 1318 = .ok (.iconst 5, 1)) ∧ (decode code 1319 = .ok (.iadd, 1)) := by decide +kernel
theorem dLaw_1310 : decode code 1310 = .ok (.iaload, 1) := dLaw_1310g.1
theorem dLaw_1311 : decode code 1311 = .ok (.aload_n 0, 1) := dLaw_1310g.2.1
theorem dLaw_1312 : decode code 1312 = .ok (.iload_n 3, 1) := dLaw_1310g.2.2.1
theorem dLaw_1313 : decode code 1313 = .ok (.iconst 4, 1) := dLaw_1310g.2.2.2.1
theorem dLaw_1314 : decode code 1314 = .ok (.iadd, 1) := dLaw_1310g.2.2.2.2.1
theorem dLaw_1315 : decode code 1315 = .ok (.iaload, 1) := dLaw_1310g.2.2.2.2.2.1
theorem dLaw_1316 : decode code 1316 = .ok (.aload_n 0, 1) := dLaw_1310g.2.2.2.2.2.2.1
theorem dLaw_1317 : decode code 1317 = .ok (.iload_n 3, 1) := dLaw_1310g.2.2.2.2.2.2.2.1
theorem dLaw_1318 : decode code 1318 = .ok (.iconst 5, 1) := dLaw_1310g.2.2.2.2.2.2.2.2.1
theorem dLaw_1319 : decode code 1319 = .ok (.iadd, 1) := dLaw_1310g.2.2.2.2.2.2.2.2.2
theorem dLaw_1320g : (decode code 1320 = .ok (.iaload, 1)) ∧ (decode code 1321 = .ok (.invokevirtual 136, 3)) ∧ (decode code 1324 = .ok (.pop, 1)) ∧ (decode code 1325 = .ok (.aload_n 2, 1)) ∧ (decode code 1326 = .ok (.aload_n 0, 1)) ∧ (decode code 1327 = .ok (.iload_n 3, 1)) ∧ (decode code 1328 = .ok (.iconst 1, 1)) ∧ (decode code 1329 = .ok (.iadd, 1)) ∧ (decode code 1330 = .ok (.iaload, 1)) ∧ (decode code 1331 = .ok (.aload_n 0, 1)) := by decide +kernel
theorem dLaw_1320 : decode code 1320 = .ok (.iaload, 1) := dLaw_1320g.1
theorem dLaw_1321 : decode code 1321 = .ok (.invokevirtual 136, 3) := dLaw_1320g.2.1
theorem dLaw_1324 : decode code 1324 = .ok (.pop, 1) := dLaw_1320g.2.2.1
theorem dLaw_1325 : decode code 1325 = .ok (.aload_n 2, 1) := dLaw_1320g.2.2.2.1
theorem dLaw_1326 : decode code 1326 = .ok (.aload_n 0, 1) := dLaw_1320g.2.2.2.2.1
theorem dLaw_1327 : decode code 1327 = .ok (.iload_n 3, 1) := dLaw_1320g.2.2.2.2.2.1
theorem dLaw_1328 : decode code 1328 = .ok (.iconst 1, 1) := dLaw_1320g.2.2.2.2.2.2.1
theorem dLaw_1329 : decode code 1329 = .ok (.iadd, 1) := dLaw_1320g.2.2.2.2.2.2.2.1
theorem dLaw_1330 : decode code 1330 = .ok (.iaload, 1) := dLaw_1320g.2.2.2.2.2.2.2.2.1
theorem dLaw_1331 : decode code 1331 = .ok (.aload_n 0, 1) := dLaw_1320g.2.2.2.2.2.2.2.2.2
theorem dLaw_1332g : (decode code 1332 = .ok (.iload_n 3, 1)) ∧ (decode code 1333 = .ok (.iconst 2, 1)) ∧ (decode code 1334 = .ok (.iadd, 1)) ∧ (decode code 1335 = .ok (.iaload, 1)) ∧ (decode code 1336 = .ok (.aload_n 0, 1)) ∧ (decode code 1337 = .ok (.iload_n 3, 1)) ∧ (decode code 1338 = .ok (.iconst 3, 1)) ∧ (decode code 1339 = .ok (.iadd, 1)) ∧ (decode code 1340 = .ok (.iaload, 1)) ∧ (decode code 1341 = .ok (.aload_n 0, 1)) := by decide +kernel
theorem dLaw_1332 : decode code 1332 = .ok (.iload_n 3, 1) := dLaw_1332g.1
theorem dLaw_1333 : decode code 1333 = .ok (.iconst 2, 1) := dLaw_1332g.2.1
theorem dLaw_1334 : decode code 1334 = .ok (.iadd, 1) := dLaw_1332g.2.2.1
theorem dLaw_1335 : decode code 1335 = .ok (.iaload, 1) := dLaw_1332g.2.2.2.1
theorem dLaw_1336 : decode code 1336 = .ok (.aload_n 0, 1) := dLaw_1332g.2.2.2.2.1
theorem dLaw_1337 : decode code 1337 = .ok (.iload_n 3, 1) := dLaw_1332g.2.2.2.2.2.1
theorem dLaw_1338 : decode code 1338 = .ok (.iconst 3, 1) := dLaw_1332g.2.2.2.2.2.2.1
theorem dLaw_1339 : decode code 1339 = .ok (.iadd, 1) := dLaw_1332g.2.2.2.2.2.2.2.1
theorem dLaw_1340 : decode code 1340 = .ok (.iaload, 1) := dLaw_1332g.2.2.2.2.2.2.2.2.1
theorem dLaw_1341 : decode code 1341 = .ok (.aload_n 0, 1) := dLaw_1332g.2.2.2.2.2.2.2.2.2
theorem dLaw_1342g : (decode code 1342 = .ok (.iload_n 3, 1)) ∧ (decode code 1343 = .ok (.iconst 4, 1)) ∧ (decode code 1344 = .ok (.iadd, 1)) ∧ (decode code 1345 = .ok (.iaload, 1)) ∧ (decode code 1346 = .ok (.aload_n 0, 1)) ∧ (decode code 1347 = .ok (.iload_n 3, 1)) ∧ (decode code 1348 = .ok (.iconst 5, 1)) ∧ (decode code 1349 = .ok (.iadd, 1)) ∧ (decode code 1350 = .ok (.iaload, 1)) ∧ (decode code 1351 = .ok (.invokevirtual 139, 3)) := by decide +kernel
theorem dLaw_1342 : decode code 1342 = .ok (.iload_n 3, 1) := dLaw_1342g.1
theorem dLaw_1343 : decode code 1343 = .ok (.iconst 4, 1) := dLaw_1342g.2.1
theorem dLaw_1344 : decode code 1344 = .ok (.iadd, 1) := dLaw_1342g.2.2.1
theorem dLaw_1345 : decode code 1345 = .ok (.iaload, 1) := dLaw_1342g.2.2.2.1
theorem dLaw_1346 : decode code 1346 = .ok (.aload_n 0, 1) := dLaw_1342g.2.2.2.2.1
theorem dLaw_1347 : decode code 1347 = .ok (.iload_n 3, 1) := dLaw_1342g.2.2.2.2.2.1
theorem dLaw_1348 : decode code 1348 = .ok (.iconst 5, 1) := dLaw_1342g.2.2.2.2.2.2.1
theorem dLaw_1349 : decode code 1349 = .ok (.iadd, 1) := dLaw_1342g.2.2.2.2.2.2.2.1
theorem dLaw_1350 : decode code 1350 = .ok (.iaload, 1) := dLaw_1342g.2.2.2.2.2.2.2.2.1
theorem dLaw_1351 : decode code 1351 = .ok (.invokevirtual 139, 3) := dLaw_1342g.2.2.2.2.2.2.2.2.2
theorem dLaw_1354g : (decode code 1354 = .ok (.pop, 1)) ∧ (decode code 1355 = .ok (.goto 649, 3)) ∧ (decode code 1358 = .ok (.aload_n 1, 1)) ∧ (decode code 1359 = .ok (.aload_n 0, 1)) ∧ (decode code 1360 = .ok (.iload_n 3, 1)) ∧ (decode code 1361 = .ok (.iconst 1, 1)) ∧ (decode code 1362 = .ok (.iadd, 1)) ∧ (decode code 1363 = .ok (.iaload, 1)) ∧ (decode code 1364 = .ok (.aload_n 0, 1)) ∧ (decode code 1365 = .ok (.iload_n 3, 1)) := by decide +kernel
theorem dLaw_1354 : decode code 1354 = .ok (.pop, 1) := dLaw_1354g.1
theorem dLaw_1355 : decode code 1355 = .ok (.goto 649, 3) := dLaw_1354g.2.1
theorem dLaw_1358 : decode code 1358 = .ok (.aload_n 1, 1) := dLaw_1354g.2.2.1
theorem dLaw_1359 : decode code 1359 = .ok (.aload_n 0, 1) := dLaw_1354g.2.2.2.1
theorem dLaw_1360 : decode code 1360 = .ok (.iload_n 3, 1) := dLaw_1354g.2.2.2.2.1
theorem dLaw_1361 : decode code 1361 = .ok (.iconst 1, 1) := dLaw_1354g.2.2.2.2.2.1
theorem dLaw_1362 : decode code 1362 = .ok (.iadd, 1) := dLaw_1354g.2.2.2.2.2.2.1
theorem dLaw_1363 : decode code 1363 = .ok (.iaload, 1) := dLaw_1354g.2.2.2.2.2.2.2.1
theorem dLaw_1364 : decode code 1364 = .ok (.aload_n 0, 1) := dLaw_1354g.2.2.2.2.2.2.2.2.1
theorem dLaw_1365 : decode code 1365 = .ok (.iload_n 3, 1) := dLaw_1354g.2.2.2.2.2.2.2.2.2
theorem dLaw_1366g : (decode code 1366 = .ok (.iconst 2, 1)) ∧ (decode code 1367 = .ok (.iadd, 1)) ∧ (decode code 1368 = .ok (.iaload, 1)) ∧ (decode code 1369 = .ok (.aload_n 0, 1)) ∧ (decode code 1370 = .ok (.iload_n 3, 1)) ∧ (decode code 1371 = .ok (.iconst 3, 1)) ∧ (decode code 1372 = .ok (.iadd, 1)) ∧ (decode code 1373 = .ok (.iaload, 1)) ∧ (decode code 1374 = .ok (.aload_n 0, 1)) ∧ (decode code 1375 = .ok (.iload_n 3, 1)) := by decide +kernel
theorem dLaw_1366 : decode code 1366 = .ok (.iconst 2, 1) := dLaw_1366g.1
theorem dLaw_1367 : decode code 1367 = .ok (.iadd, 1) := dLaw_1366g.2.1
theorem dLaw_1368 : decode code 1368 = .ok (.iaload, 1) := dLaw_1366g.2.2.1
theorem dLaw_1369 : decode code 1369 = .ok (.aload_n 0, 1) := dLaw_1366g.2.2.2.1
theorem dLaw_1370 : decode code 1370 = .ok (.iload_n 3, 1) := dLaw_1366g.2.2.2.2.1
theorem dLaw_1371 : decode code 1371 = .ok (.iconst 3, 1) := dLaw_1366g.2.2.2.2.2.1
theorem dLaw_1372 : decode code 1372 = .ok (.iadd, 1) := dLaw_1366g.2.2.2.2.2.2.1
theorem dLaw_1373 : decode code 1373 = .ok (.iaload, 1) := dLaw_1366g.2.2.2.2.2.2.2.1
theorem dLaw_1374 : decode code 1374 = .ok (.aload_n 0, 1) := dLaw_1366g.2.2.2.2.2.2.2.2.1
theorem dLaw_1375 : decode code 1375 = .ok (.iload_n 3, 1) := dLaw_1366g.2.2.2.2.2.2.2.2.2
theorem dLaw_1376g : (decode code 1376 = .ok (.iconst 4, 1)) ∧ (decode code 1377 = .ok (.iadd, 1)) ∧ (decode code 1378 = .ok (.iaload, 1)) ∧ (decode code 1379 = .ok (.invokevirtual 140, 3)) ∧ (decode code 1382 = .ok (.pop, 1)) ∧ (decode code 1383 = .ok (.aload_n 2, 1)) ∧ (decode code 1384 = .ok (.aload_n 0, 1)) ∧ (decode code 1385 = .ok (.iload_n 3, 1)) ∧ (decode code 1386 = .ok (.iconst 1, 1)) ∧ (decode code 1387 = .ok (.iadd, 1)) := by decide +kernel
theorem dLaw_1376 : decode code 1376 = .ok (.iconst 4, 1) := dLaw_1376g.1
theorem dLaw_1377 : decode code 1377 = .ok (.iadd, 1) := dLaw_1376g.2.1
theorem dLaw_1378 : decode code 1378 = .ok (.iaload, 1) := dLaw_1376g.2.2.1
theorem dLaw_1379 : decode code 1379 = .ok (.invokevirtual 140, 3) := dLaw_1376g.2.2.2.1
theorem dLaw_1382 : decode code 1382 = .ok (.pop, 1) := dLaw_1376g.2.2.2.2.1
theorem dLaw_1383 : decode code 1383 = .ok (.aload_n 2, 1) := dLaw_1376g.2.2.2.2.2.1
theorem dLaw_1384 : decode code 1384 = .ok (.aload_n 0, 1) := dLaw_1376g.2.2.2.2.2.2.1
theorem dLaw_1385 : decode code 1385 = .ok (.iload_n 3, 1) := dLaw_1376g.2.2.2.2.2.2.2.1
theorem dLaw_1386 : decode code 1386 = .ok (.iconst 1, 1) := dLaw_1376g.2.2.2.2.2.2.2.2.1
theorem dLaw_1387 : decode code 1387 = .ok (.iadd, 1) := dLaw_1376g.2.2.2.2.2.2.2.2.2
theorem dLaw_1388g : (decode code 1388 = .ok (.iaload, 1)) ∧ (decode code 1389 = .ok (.aload_n 0, 1)) ∧ (decode code 1390 = .ok (.iload_n 3, 1)) ∧ (decode code 1391 = .ok (.iconst 2, 1)) ∧ (decode code 1392 = .ok (.iadd, 1)) ∧ (decode code 1393 = .ok (.iaload, 1)) ∧ (decode code 1394 = .ok (.aload_n 0, 1)) ∧ (decode code 1395 = .ok (.iload_n 3, 1)) ∧ (decode code 1396 = .ok (.iconst 3, 1)) ∧ (decode code 1397 = .ok (.iadd, 1)) := by decide +kernel
theorem dLaw_1388 : decode code 1388 = .ok (.iaload, 1) := dLaw_1388g.1
theorem dLaw_1389 : decode code 1389 = .ok (.aload_n 0, 1) := dLaw_1388g.2.1
theorem dLaw_1390 : decode code 1390 = .ok (.iload_n 3, 1) := dLaw_1388g.2.2.1
theorem dLaw_1391 : decode code 1391 = .ok (.iconst 2, 1) := dLaw_1388g.2.2.2.1
theorem dLaw_1392 : decode code 1392 = .ok (.iadd, 1) := dLaw_1388g.2.2.2.2.1
theorem dLaw_1393 : decode code 1393 = .ok (.iaload, 1) := dLaw_1388g.2.2.2.2.2.1
theorem dLaw_1394 : decode code 1394 = .ok (.aload_n 0, 1) := dLaw_1388g.2.2.2.2.2.2.1
theorem dLaw_1395 : decode code 1395 = .ok (.iload_n 3, 1) := dLaw_1388g.2.2.2.2.2.2.2.1
theorem dLaw_1396 : decode code 1396 = .ok (.iconst 3, 1) := dLaw_1388g.2.2.2.2.2.2.2.2.1
theorem dLaw_1397 : decode code 1397 = .ok (.iadd, 1) := dLaw_1388g.2.2.2.2.2.2.2.2.2
theorem dLaw_1398g : (decode code 1398 = .ok (.iaload, 1)) ∧ (decode code 1399 = .ok (.aload_n 0, 1)) ∧ (decode code 1400 = .ok (.iload_n 3, 1)) ∧ (decode code 1401 = .ok (.iconst 4, 1)) ∧ (decode code 1402 = .ok (.iadd, 1)) ∧ (decode code 1403 = .ok (.iaload, 1)) ∧ (decode code 1404 = .ok (.invokevirtual 143, 3)) ∧ (decode code 1407 = .ok (.pop, 1)) ∧ (decode code 1408 = .ok (.goto 596, 3)) ∧ (decode code 1411 = .ok (.aload_n 1, 1)) := by decide +kernel
theorem dLaw_1398 : decode code 1398 = .ok (.iaload, 1) := dLaw_1398g.1
theorem dLaw_1399 : decode code 1399 = .ok (.aload_n 0, 1) := dLaw_1398g.2.1
theorem dLaw_1400 : decode code 1400 = .ok (.iload_n 3, 1) := dLaw_1398g.2.2.1
theorem dLaw_1401 : decode code 1401 = .ok (.iconst 4, 1) := dLaw_1398g.2.2.2.1
theorem dLaw_1402 : decode code 1402 = .ok (.iadd, 1) := dLaw_1398g.2.2.2.2.1
theorem dLaw_1403 : decode code 1403 = .ok (.iaload, 1) := dLaw_1398g.2.2.2.2.2.1
theorem dLaw_1404 : decode code 1404 = .ok (.invokevirtual 143, 3) := dLaw_1398g.2.2.2.2.2.2.1
theorem dLaw_1407 : decode code 1407 = .ok (.pop, 1) := dLaw_1398g.2.2.2.2.2.2.2.1
theorem dLaw_1408 : decode code 1408 = .ok (.goto 596, 3) := dLaw_1398g.2.2.2.2.2.2.2.2.1
theorem dLaw_1411 : decode code 1411 = .ok (.aload_n 1, 1) := dLaw_1398g.2.2.2.2.2.2.2.2.2
theorem dLaw_1412g : (decode code 1412 = .ok (.invokevirtual 144, 3)) ∧ (decode code 1415 = .ok (.aload_n 2, 1)) ∧ (decode code 1416 = .ok (.invokevirtual 147, 3)) ∧ (decode code 1419 = .ok (.if_icmp .eq 585, 3)) ∧ (decode code 1422 = .ok (.iconst 0, 1)) ∧ (decode code 1423 = .ok (.ireturn, 1)) ∧ (decode code 1424 = .ok (.aload_n 1, 1)) ∧ (decode code 1425 = .ok (.aload_n 0, 1)) ∧ (decode code 1426 = .ok (.iload_n 3, 1)) ∧ (decode code 1427 = .ok (.iconst 1, 1)) := by decide +kernel
theorem dLaw_1412 : decode code 1412 = .ok (.invokevirtual 144, 3) := dLaw_1412g.1
theorem dLaw_1415 : decode code 1415 = .ok (.aload_n 2, 1) := dLaw_1412g.2.1
theorem dLaw_1416 : decode code 1416 = .ok (.invokevirtual 147, 3) := dLaw_1412g.2.2.1
theorem dLaw_1419 : decode code 1419 = .ok (.if_icmp .eq 585, 3) := dLaw_1412g.2.2.2.1
theorem dLaw_1422 : decode code 1422 = .ok (.iconst 0, 1) := dLaw_1412g.2.2.2.2.1
theorem dLaw_1423 : decode code 1423 = .ok (.ireturn, 1) := dLaw_1412g.2.2.2.2.2.1
theorem dLaw_1424 : decode code 1424 = .ok (.aload_n 1, 1) := dLaw_1412g.2.2.2.2.2.2.1
theorem dLaw_1425 : decode code 1425 = .ok (.aload_n 0, 1) := dLaw_1412g.2.2.2.2.2.2.2.1
theorem dLaw_1426 : decode code 1426 = .ok (.iload_n 3, 1) := dLaw_1412g.2.2.2.2.2.2.2.2.1
theorem dLaw_1427 : decode code 1427 = .ok (.iconst 1, 1) := dLaw_1412g.2.2.2.2.2.2.2.2.2
