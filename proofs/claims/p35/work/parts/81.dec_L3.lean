theorem dL_law_1268_b : (decode cL_law 1268 = .ok (.iconst 1, 1)) ∧ (decode cL_law 1269 = .ok (.iadd, 1)) ∧ (decode cL_law 1270 = .ok (.iaload, 1)) ∧ (decode cL_law 1271 = .ok (.aload_n 0, 1)) ∧ (decode cL_law 1272 = .ok (.iload_n 3, 1)) ∧ (decode cL_law 1273 = .ok (.iconst 2, 1)) ∧ (decode cL_law 1274 = .ok (.iadd, 1)) ∧ (decode cL_law 1275 = .ok (.iaload, 1)) := by decide +kernel
theorem dL_law_1268 : decode cL_law 1268 = .ok (.iconst 1, 1) := dL_law_1268_b.1
theorem dL_law_1269 : decode cL_law 1269 = .ok (.iadd, 1) := dL_law_1268_b.2.1
theorem dL_law_1270 : decode cL_law 1270 = .ok (.iaload, 1) := dL_law_1268_b.2.2.1
theorem dL_law_1271 : decode cL_law 1271 = .ok (.aload_n 0, 1) := dL_law_1268_b.2.2.2.1
theorem dL_law_1272 : decode cL_law 1272 = .ok (.iload_n 3, 1) := dL_law_1268_b.2.2.2.2.1
theorem dL_law_1273 : decode cL_law 1273 = .ok (.iconst 2, 1) := dL_law_1268_b.2.2.2.2.2.1
theorem dL_law_1274 : decode cL_law 1274 = .ok (.iadd, 1) := dL_law_1268_b.2.2.2.2.2.2.1
theorem dL_law_1275 : decode cL_law 1275 = .ok (.iaload, 1) := dL_law_1268_b.2.2.2.2.2.2.2
theorem dL_law_1276_b : (decode cL_law 1276 = .ok (.aload_n 0, 1)) ∧ (decode cL_law 1277 = .ok (.iload_n 3, 1)) ∧ (decode cL_law 1278 = .ok (.iconst 3, 1)) ∧ (decode cL_law 1279 = .ok (.iadd, 1)) ∧ (decode cL_law 1280 = .ok (.iaload, 1)) ∧ (decode cL_law 1281 = .ok (.invokevirtual 143, 3)) ∧ (decode cL_law 1284 = .ok (.pop, 1)) ∧ (decode cL_law 1285 = .ok (.goto 138, 3)) := by decide +kernel
theorem dL_law_1276 : decode cL_law 1276 = .ok (.aload_n 0, 1) := dL_law_1276_b.1
theorem dL_law_1277 : decode cL_law 1277 = .ok (.iload_n 3, 1) := dL_law_1276_b.2.1
theorem dL_law_1278 : decode cL_law 1278 = .ok (.iconst 3, 1) := dL_law_1276_b.2.2.1
theorem dL_law_1279 : decode cL_law 1279 = .ok (.iadd, 1) := dL_law_1276_b.2.2.2.1
theorem dL_law_1280 : decode cL_law 1280 = .ok (.iaload, 1) := dL_law_1276_b.2.2.2.2.1
theorem dL_law_1281 : decode cL_law 1281 = .ok (.invokevirtual 143, 3) := dL_law_1276_b.2.2.2.2.2.1
theorem dL_law_1284 : decode cL_law 1284 = .ok (.pop, 1) := dL_law_1276_b.2.2.2.2.2.2.1
theorem dL_law_1285 : decode cL_law 1285 = .ok (.goto 138, 3) := dL_law_1276_b.2.2.2.2.2.2.2
theorem dL_law_1288_b : (decode cL_law 1288 = .ok (.aload_n 1, 1)) ∧ (decode cL_law 1289 = .ok (.aload_n 0, 1)) ∧ (decode cL_law 1290 = .ok (.iload_n 3, 1)) ∧ (decode cL_law 1291 = .ok (.iconst 1, 1)) ∧ (decode cL_law 1292 = .ok (.iadd, 1)) ∧ (decode cL_law 1293 = .ok (.iaload, 1)) ∧ (decode cL_law 1294 = .ok (.aload_n 0, 1)) ∧ (decode cL_law 1295 = .ok (.iload_n 3, 1)) := by decide +kernel
theorem dL_law_1288 : decode cL_law 1288 = .ok (.aload_n 1, 1) := dL_law_1288_b.1
theorem dL_law_1289 : decode cL_law 1289 = .ok (.aload_n 0, 1) := dL_law_1288_b.2.1
theorem dL_law_1290 : decode cL_law 1290 = .ok (.iload_n 3, 1) := dL_law_1288_b.2.2.1
theorem dL_law_1291 : decode cL_law 1291 = .ok (.iconst 1, 1) := dL_law_1288_b.2.2.2.1
theorem dL_law_1292 : decode cL_law 1292 = .ok (.iadd, 1) := dL_law_1288_b.2.2.2.2.1
theorem dL_law_1293 : decode cL_law 1293 = .ok (.iaload, 1) := dL_law_1288_b.2.2.2.2.2.1
theorem dL_law_1294 : decode cL_law 1294 = .ok (.aload_n 0, 1) := dL_law_1288_b.2.2.2.2.2.2.1
theorem dL_law_1295 : decode cL_law 1295 = .ok (.iload_n 3, 1) := dL_law_1288_b.2.2.2.2.2.2.2
theorem dL_law_1296_b : (decode cL_law 1296 = .ok (.iconst 2, 1)) ∧ (decode cL_law 1297 = .ok (.iadd, 1)) ∧ (decode cL_law 1298 = .ok (.iaload, 1)) ∧ (decode cL_law 1299 = .ok (.aload_n 0, 1)) ∧ (decode cL_law 1300 = .ok (.iload_n 3, 1)) ∧ (decode cL_law 1301 = .ok (.iconst 3, 1)) ∧ (decode cL_law 1302 = .ok (.iadd, 1)) ∧ (decode cL_law 1303 = .ok (.iaload, 1)) := by decide +kernel
theorem dL_law_1296 : decode cL_law 1296 = .ok (.iconst 2, 1) := dL_law_1296_b.1
theorem dL_law_1297 : decode cL_law 1297 = .ok (.iadd, 1) := dL_law_1296_b.2.1
theorem dL_law_1298 : decode cL_law 1298 = .ok (.iaload, 1) := dL_law_1296_b.2.2.1
theorem dL_law_1299 : decode cL_law 1299 = .ok (.aload_n 0, 1) := dL_law_1296_b.2.2.2.1
theorem dL_law_1300 : decode cL_law 1300 = .ok (.iload_n 3, 1) := dL_law_1296_b.2.2.2.2.1
theorem dL_law_1301 : decode cL_law 1301 = .ok (.iconst 3, 1) := dL_law_1296_b.2.2.2.2.2.1
theorem dL_law_1302 : decode cL_law 1302 = .ok (.iadd, 1) := dL_law_1296_b.2.2.2.2.2.2.1
theorem dL_law_1303 : decode cL_law 1303 = .ok (.iaload, 1) := dL_law_1296_b.2.2.2.2.2.2.2
theorem dL_law_1304_b : (decode cL_law 1304 = .ok (.invokevirtual 144, 3)) ∧ (decode cL_law 1307 = .ok (.pop, 1)) ∧ (decode cL_law 1308 = .ok (.aload_n 2, 1)) ∧ (decode cL_law 1309 = .ok (.aload_n 0, 1)) ∧ (decode cL_law 1310 = .ok (.iload_n 3, 1)) ∧ (decode cL_law 1311 = .ok (.iconst 1, 1)) ∧ (decode cL_law 1312 = .ok (.iadd, 1)) ∧ (decode cL_law 1313 = .ok (.iaload, 1)) := by decide +kernel
theorem dL_law_1304 : decode cL_law 1304 = .ok (.invokevirtual 144, 3) := dL_law_1304_b.1
theorem dL_law_1307 : decode cL_law 1307 = .ok (.pop, 1) := dL_law_1304_b.2.1
theorem dL_law_1308 : decode cL_law 1308 = .ok (.aload_n 2, 1) := dL_law_1304_b.2.2.1
theorem dL_law_1309 : decode cL_law 1309 = .ok (.aload_n 0, 1) := dL_law_1304_b.2.2.2.1
theorem dL_law_1310 : decode cL_law 1310 = .ok (.iload_n 3, 1) := dL_law_1304_b.2.2.2.2.1
theorem dL_law_1311 : decode cL_law 1311 = .ok (.iconst 1, 1) := dL_law_1304_b.2.2.2.2.2.1
theorem dL_law_1312 : decode cL_law 1312 = .ok (.iadd, 1) := dL_law_1304_b.2.2.2.2.2.2.1
theorem dL_law_1313 : decode cL_law 1313 = .ok (.iaload, 1) := dL_law_1304_b.2.2.2.2.2.2.2
theorem dL_law_1314_b : (decode cL_law 1314 = .ok (.aload_n 0, 1)) ∧ (decode cL_law 1315 = .ok (.iload_n 3, 1)) ∧ (decode cL_law 1316 = .ok (.iconst 2, 1)) ∧ (decode cL_law 1317 = .ok (.iadd, 1)) ∧ (decode cL_law 1318 = .ok (.iaload, 1)) ∧ (decode cL_law 1319 = .ok (.aload_n 0, 1)) ∧ (decode cL_law 1320 = .ok (.iload_n 3, 1)) ∧ (decode cL_law 1321 = .ok (.iconst 3, 1)) := by decide +kernel
theorem dL_law_1314 : decode cL_law 1314 = .ok (.aload_n 0, 1) := dL_law_1314_b.1
theorem dL_law_1315 : decode cL_law 1315 = .ok (.iload_n 3, 1) := dL_law_1314_b.2.1
theorem dL_law_1316 : decode cL_law 1316 = .ok (.iconst 2, 1) := dL_law_1314_b.2.2.1
theorem dL_law_1317 : decode cL_law 1317 = .ok (.iadd, 1) := dL_law_1314_b.2.2.2.1
theorem dL_law_1318 : decode cL_law 1318 = .ok (.iaload, 1) := dL_law_1314_b.2.2.2.2.1
theorem dL_law_1319 : decode cL_law 1319 = .ok (.aload_n 0, 1) := dL_law_1314_b.2.2.2.2.2.1
theorem dL_law_1320 : decode cL_law 1320 = .ok (.iload_n 3, 1) := dL_law_1314_b.2.2.2.2.2.2.1
theorem dL_law_1321 : decode cL_law 1321 = .ok (.iconst 3, 1) := dL_law_1314_b.2.2.2.2.2.2.2
theorem dL_law_1322_b : (decode cL_law 1322 = .ok (.iadd, 1)) ∧ (decode cL_law 1323 = .ok (.iaload, 1)) ∧ (decode cL_law 1324 = .ok (.invokevirtual 147, 3)) ∧ (decode cL_law 1327 = .ok (.pop, 1)) ∧ (decode cL_law 1328 = .ok (.goto 95, 3)) ∧ (decode cL_law 1331 = .ok (.aload_n 1, 1)) ∧ (decode cL_law 1332 = .ok (.invokevirtual 148, 3)) ∧ (decode cL_law 1335 = .ok (.pop, 1)) := by decide +kernel
theorem dL_law_1322 : decode cL_law 1322 = .ok (.iadd, 1) := dL_law_1322_b.1
theorem dL_law_1323 : decode cL_law 1323 = .ok (.iaload, 1) := dL_law_1322_b.2.1
theorem dL_law_1324 : decode cL_law 1324 = .ok (.invokevirtual 147, 3) := dL_law_1322_b.2.2.1
theorem dL_law_1327 : decode cL_law 1327 = .ok (.pop, 1) := dL_law_1322_b.2.2.2.1
theorem dL_law_1328 : decode cL_law 1328 = .ok (.goto 95, 3) := dL_law_1322_b.2.2.2.2.1
theorem dL_law_1331 : decode cL_law 1331 = .ok (.aload_n 1, 1) := dL_law_1322_b.2.2.2.2.2.1
theorem dL_law_1332 : decode cL_law 1332 = .ok (.invokevirtual 148, 3) := dL_law_1322_b.2.2.2.2.2.2.1
theorem dL_law_1335 : decode cL_law 1335 = .ok (.pop, 1) := dL_law_1322_b.2.2.2.2.2.2.2
theorem dL_law_1336_b : (decode cL_law 1336 = .ok (.aload_n 2, 1)) ∧ (decode cL_law 1337 = .ok (.invokevirtual 151, 3)) ∧ (decode cL_law 1340 = .ok (.pop, 1)) ∧ (decode cL_law 1341 = .ok (.goto 82, 3)) ∧ (decode cL_law 1344 = .ok (.aload_n 1, 1)) ∧ (decode cL_law 1345 = .ok (.aload_n 0, 1)) ∧ (decode cL_law 1346 = .ok (.iload_n 3, 1)) ∧ (decode cL_law 1347 = .ok (.iconst 1, 1)) := by decide +kernel
theorem dL_law_1336 : decode cL_law 1336 = .ok (.aload_n 2, 1) := dL_law_1336_b.1
theorem dL_law_1337 : decode cL_law 1337 = .ok (.invokevirtual 151, 3) := dL_law_1336_b.2.1
theorem dL_law_1340 : decode cL_law 1340 = .ok (.pop, 1) := dL_law_1336_b.2.2.1
theorem dL_law_1341 : decode cL_law 1341 = .ok (.goto 82, 3) := dL_law_1336_b.2.2.2.1
theorem dL_law_1344 : decode cL_law 1344 = .ok (.aload_n 1, 1) := dL_law_1336_b.2.2.2.2.1
theorem dL_law_1345 : decode cL_law 1345 = .ok (.aload_n 0, 1) := dL_law_1336_b.2.2.2.2.2.1
theorem dL_law_1346 : decode cL_law 1346 = .ok (.iload_n 3, 1) := dL_law_1336_b.2.2.2.2.2.2.1
theorem dL_law_1347 : decode cL_law 1347 = .ok (.iconst 1, 1) := dL_law_1336_b.2.2.2.2.2.2.2
theorem dL_law_1348_b : (decode cL_law 1348 = .ok (.iadd, 1)) ∧ (decode cL_law 1349 = .ok (.iaload, 1)) ∧ (decode cL_law 1350 = .ok (.aload_n 0, 1)) ∧ (decode cL_law 1351 = .ok (.iload_n 3, 1)) ∧ (decode cL_law 1352 = .ok (.iconst 2, 1)) ∧ (decode cL_law 1353 = .ok (.iadd, 1)) ∧ (decode cL_law 1354 = .ok (.iaload, 1)) ∧ (decode cL_law 1355 = .ok (.invokevirtual 152, 3)) := by decide +kernel
theorem dL_law_1348 : decode cL_law 1348 = .ok (.iadd, 1) := dL_law_1348_b.1
theorem dL_law_1349 : decode cL_law 1349 = .ok (.iaload, 1) := dL_law_1348_b.2.1
theorem dL_law_1350 : decode cL_law 1350 = .ok (.aload_n 0, 1) := dL_law_1348_b.2.2.1
theorem dL_law_1351 : decode cL_law 1351 = .ok (.iload_n 3, 1) := dL_law_1348_b.2.2.2.1
theorem dL_law_1352 : decode cL_law 1352 = .ok (.iconst 2, 1) := dL_law_1348_b.2.2.2.2.1
theorem dL_law_1353 : decode cL_law 1353 = .ok (.iadd, 1) := dL_law_1348_b.2.2.2.2.2.1
theorem dL_law_1354 : decode cL_law 1354 = .ok (.iaload, 1) := dL_law_1348_b.2.2.2.2.2.2.1
theorem dL_law_1355 : decode cL_law 1355 = .ok (.invokevirtual 152, 3) := dL_law_1348_b.2.2.2.2.2.2.2
theorem dL_law_1358_b : (decode cL_law 1358 = .ok (.pop, 1)) ∧ (decode cL_law 1359 = .ok (.aload_n 2, 1)) ∧ (decode cL_law 1360 = .ok (.aload_n 0, 1)) ∧ (decode cL_law 1361 = .ok (.iload_n 3, 1)) ∧ (decode cL_law 1362 = .ok (.iconst 1, 1)) ∧ (decode cL_law 1363 = .ok (.iadd, 1)) ∧ (decode cL_law 1364 = .ok (.iaload, 1)) ∧ (decode cL_law 1365 = .ok (.aload_n 0, 1)) := by decide +kernel
theorem dL_law_1358 : decode cL_law 1358 = .ok (.pop, 1) := dL_law_1358_b.1
theorem dL_law_1359 : decode cL_law 1359 = .ok (.aload_n 2, 1) := dL_law_1358_b.2.1
theorem dL_law_1360 : decode cL_law 1360 = .ok (.aload_n 0, 1) := dL_law_1358_b.2.2.1
theorem dL_law_1361 : decode cL_law 1361 = .ok (.iload_n 3, 1) := dL_law_1358_b.2.2.2.1
theorem dL_law_1362 : decode cL_law 1362 = .ok (.iconst 1, 1) := dL_law_1358_b.2.2.2.2.1
theorem dL_law_1363 : decode cL_law 1363 = .ok (.iadd, 1) := dL_law_1358_b.2.2.2.2.2.1
theorem dL_law_1364 : decode cL_law 1364 = .ok (.iaload, 1) := dL_law_1358_b.2.2.2.2.2.2.1
theorem dL_law_1365 : decode cL_law 1365 = .ok (.aload_n 0, 1) := dL_law_1358_b.2.2.2.2.2.2.2
theorem dL_law_1366_b : (decode cL_law 1366 = .ok (.iload_n 3, 1)) ∧ (decode cL_law 1367 = .ok (.iconst 2, 1)) ∧ (decode cL_law 1368 = .ok (.iadd, 1)) ∧ (decode cL_law 1369 = .ok (.iaload, 1)) ∧ (decode cL_law 1370 = .ok (.invokevirtual 155, 3)) ∧ (decode cL_law 1373 = .ok (.pop, 1)) ∧ (decode cL_law 1374 = .ok (.goto 49, 3)) ∧ (decode cL_law 1377 = .ok (.aload_n 1, 1)) := by decide +kernel
theorem dL_law_1366 : decode cL_law 1366 = .ok (.iload_n 3, 1) := dL_law_1366_b.1
theorem dL_law_1367 : decode cL_law 1367 = .ok (.iconst 2, 1) := dL_law_1366_b.2.1
theorem dL_law_1368 : decode cL_law 1368 = .ok (.iadd, 1) := dL_law_1366_b.2.2.1
theorem dL_law_1369 : decode cL_law 1369 = .ok (.iaload, 1) := dL_law_1366_b.2.2.2.1
theorem dL_law_1370 : decode cL_law 1370 = .ok (.invokevirtual 155, 3) := dL_law_1366_b.2.2.2.2.1
theorem dL_law_1373 : decode cL_law 1373 = .ok (.pop, 1) := dL_law_1366_b.2.2.2.2.2.1
theorem dL_law_1374 : decode cL_law 1374 = .ok (.goto 49, 3) := dL_law_1366_b.2.2.2.2.2.2.1
theorem dL_law_1377 : decode cL_law 1377 = .ok (.aload_n 1, 1) := dL_law_1366_b.2.2.2.2.2.2.2
theorem dL_law_1378_b : (decode cL_law 1378 = .ok (.aload_n 0, 1)) ∧ (decode cL_law 1379 = .ok (.iload_n 3, 1)) ∧ (decode cL_law 1380 = .ok (.iconst 1, 1)) ∧ (decode cL_law 1381 = .ok (.iadd, 1)) ∧ (decode cL_law 1382 = .ok (.iaload, 1)) ∧ (decode cL_law 1383 = .ok (.invokevirtual 156, 3)) ∧ (decode cL_law 1386 = .ok (.aload_n 2, 1)) ∧ (decode cL_law 1387 = .ok (.aload_n 0, 1)) := by decide +kernel
theorem dL_law_1378 : decode cL_law 1378 = .ok (.aload_n 0, 1) := dL_law_1378_b.1
theorem dL_law_1379 : decode cL_law 1379 = .ok (.iload_n 3, 1) := dL_law_1378_b.2.1
theorem dL_law_1380 : decode cL_law 1380 = .ok (.iconst 1, 1) := dL_law_1378_b.2.2.1
theorem dL_law_1381 : decode cL_law 1381 = .ok (.iadd, 1) := dL_law_1378_b.2.2.2.1
theorem dL_law_1382 : decode cL_law 1382 = .ok (.iaload, 1) := dL_law_1378_b.2.2.2.2.1
theorem dL_law_1383 : decode cL_law 1383 = .ok (.invokevirtual 156, 3) := dL_law_1378_b.2.2.2.2.2.1
theorem dL_law_1386 : decode cL_law 1386 = .ok (.aload_n 2, 1) := dL_law_1378_b.2.2.2.2.2.2.1
theorem dL_law_1387 : decode cL_law 1387 = .ok (.aload_n 0, 1) := dL_law_1378_b.2.2.2.2.2.2.2
theorem dL_law_1388_b : (decode cL_law 1388 = .ok (.iload_n 3, 1)) ∧ (decode cL_law 1389 = .ok (.iconst 1, 1)) ∧ (decode cL_law 1390 = .ok (.iadd, 1)) ∧ (decode cL_law 1391 = .ok (.iaload, 1)) ∧ (decode cL_law 1392 = .ok (.invokevirtual 159, 3)) ∧ (decode cL_law 1395 = .ok (.if_icmp .eq 28, 3)) ∧ (decode cL_law 1398 = .ok (.iconst 0, 1)) ∧ (decode cL_law 1399 = .ok (.ireturn, 1)) := by decide +kernel
theorem dL_law_1388 : decode cL_law 1388 = .ok (.iload_n 3, 1) := dL_law_1388_b.1
theorem dL_law_1389 : decode cL_law 1389 = .ok (.iconst 1, 1) := dL_law_1388_b.2.1
theorem dL_law_1390 : decode cL_law 1390 = .ok (.iadd, 1) := dL_law_1388_b.2.2.1
theorem dL_law_1391 : decode cL_law 1391 = .ok (.iaload, 1) := dL_law_1388_b.2.2.2.1
theorem dL_law_1392 : decode cL_law 1392 = .ok (.invokevirtual 159, 3) := dL_law_1388_b.2.2.2.2.1
theorem dL_law_1395 : decode cL_law 1395 = .ok (.if_icmp .eq 28, 3) := dL_law_1388_b.2.2.2.2.2.1
theorem dL_law_1398 : decode cL_law 1398 = .ok (.iconst 0, 1) := dL_law_1388_b.2.2.2.2.2.2.1
theorem dL_law_1399 : decode cL_law 1399 = .ok (.ireturn, 1) := dL_law_1388_b.2.2.2.2.2.2.2
theorem dL_law_1400_b : (decode cL_law 1400 = .ok (.aload_n 1, 1)) ∧ (decode cL_law 1401 = .ok (.aload_n 0, 1)) ∧ (decode cL_law 1402 = .ok (.iload_n 3, 1)) ∧ (decode cL_law 1403 = .ok (.iconst 1, 1)) ∧ (decode cL_law 1404 = .ok (.iadd, 1)) ∧ (decode cL_law 1405 = .ok (.iaload, 1)) ∧ (decode cL_law 1406 = .ok (.invokevirtual 160, 3)) ∧ (decode cL_law 1409 = .ok (.pop, 1)) := by decide +kernel
theorem dL_law_1400 : decode cL_law 1400 = .ok (.aload_n 1, 1) := dL_law_1400_b.1
theorem dL_law_1401 : decode cL_law 1401 = .ok (.aload_n 0, 1) := dL_law_1400_b.2.1
theorem dL_law_1402 : decode cL_law 1402 = .ok (.iload_n 3, 1) := dL_law_1400_b.2.2.1
theorem dL_law_1403 : decode cL_law 1403 = .ok (.iconst 1, 1) := dL_law_1400_b.2.2.2.1
theorem dL_law_1404 : decode cL_law 1404 = .ok (.iadd, 1) := dL_law_1400_b.2.2.2.2.1
theorem dL_law_1405 : decode cL_law 1405 = .ok (.iaload, 1) := dL_law_1400_b.2.2.2.2.2.1
theorem dL_law_1406 : decode cL_law 1406 = .ok (.invokevirtual 160, 3) := dL_law_1400_b.2.2.2.2.2.2.1
theorem dL_law_1409 : decode cL_law 1409 = .ok (.pop, 1) := dL_law_1400_b.2.2.2.2.2.2.2
theorem dL_law_1410_b : (decode cL_law 1410 = .ok (.aload_n 2, 1)) ∧ (decode cL_law 1411 = .ok (.aload_n 0, 1)) ∧ (decode cL_law 1412 = .ok (.iload_n 3, 1)) ∧ (decode cL_law 1413 = .ok (.iconst 1, 1)) ∧ (decode cL_law 1414 = .ok (.iadd, 1)) ∧ (decode cL_law 1415 = .ok (.iaload, 1)) ∧ (decode cL_law 1416 = .ok (.invokevirtual 163, 3)) ∧ (decode cL_law 1419 = .ok (.pop, 1)) := by decide +kernel
theorem dL_law_1410 : decode cL_law 1410 = .ok (.aload_n 2, 1) := dL_law_1410_b.1
theorem dL_law_1411 : decode cL_law 1411 = .ok (.aload_n 0, 1) := dL_law_1410_b.2.1
theorem dL_law_1412 : decode cL_law 1412 = .ok (.iload_n 3, 1) := dL_law_1410_b.2.2.1
theorem dL_law_1413 : decode cL_law 1413 = .ok (.iconst 1, 1) := dL_law_1410_b.2.2.2.1
theorem dL_law_1414 : decode cL_law 1414 = .ok (.iadd, 1) := dL_law_1410_b.2.2.2.2.1
theorem dL_law_1415 : decode cL_law 1415 = .ok (.iaload, 1) := dL_law_1410_b.2.2.2.2.2.1
theorem dL_law_1416 : decode cL_law 1416 = .ok (.invokevirtual 163, 3) := dL_law_1410_b.2.2.2.2.2.2.1
theorem dL_law_1419 : decode cL_law 1419 = .ok (.pop, 1) := dL_law_1410_b.2.2.2.2.2.2.2
theorem dL_law_1420_b : (decode cL_law 1420 = .ok (.goto 3, 3)) ∧ (decode cL_law 1423 = .ok (.iinc 3 7, 3)) ∧ (decode cL_law 1426 = .ok (.goto (-1408), 3)) ∧ (decode cL_law 1429 = .ok (.iconst 1, 1)) ∧ (decode cL_law 1430 = .ok (.ireturn, 1)) := by decide +kernel
theorem dL_law_1420 : decode cL_law 1420 = .ok (.goto 3, 3) := dL_law_1420_b.1
theorem dL_law_1423 : decode cL_law 1423 = .ok (.iinc 3 7, 3) := dL_law_1420_b.2.1
theorem dL_law_1426 : decode cL_law 1426 = .ok (.goto (-1408), 3) := dL_law_1420_b.2.2.1
theorem dL_law_1429 : decode cL_law 1429 = .ok (.iconst 1, 1) := dL_law_1420_b.2.2.2.1
theorem dL_law_1430 : decode cL_law 1430 = .ok (.ireturn, 1) := dL_law_1420_b.2.2.2.2
