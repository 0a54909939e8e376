theorem dL_law__1301 : decode cL_law_ 1301 = .ok (.aload_n 1, 1) := by decide +kernel
theorem dL_law__1302 : decode cL_law_ 1302 = .ok (.aload_n 0, 1) := by decide +kernel
theorem dL_law__1303 : decode cL_law_ 1303 = .ok (.iload 4, 2) := by decide +kernel
theorem dL_law__1305 : decode cL_law_ 1305 = .ok (.iconst 1, 1) := by decide +kernel
theorem dL_law__1306 : decode cL_law_ 1306 = .ok (.iadd, 1) := by decide +kernel
theorem dL_law__1307 : decode cL_law_ 1307 = .ok (.iaload, 1) := by decide +kernel
theorem dL_law__1308 : decode cL_law_ 1308 = .ok (.aload_n 3, 1) := by decide +kernel
theorem dL_law__1309 : decode cL_law_ 1309 = .ok (.invokestatic 237, 3) := by decide +kernel
theorem wi_1184 : Cond.codeWith yL_ring cL_ring 4 (some .int) [(0, 16, 19, 24)] ∈ WA := zin 1184 (by decide +kernel) (by decide +kernel)
theorem wi_1182 : Cond.methodLink RL 237 yL_ring ∈ WA := zin 1182 (by decide +kernel) (by decide +kernel)
theorem wi_1183 : Cond.static yL_ring ∈ WA := zin 1183 (by decide +kernel) (by decide +kernel)
theorem mw_L_237 : zMw RL 237 mL_ring [(0, 16, 19, 24)] 3 := ⟨wi_1182, wi_99, wi_1184, by decide, by decide +kernel, wi_1183⟩
theorem dL_law__1312 : decode cL_law_ 1312 = .ok (.istore 5, 2) := by decide +kernel
theorem dL_law__1314 : decode cL_law_ 1314 = .ok (.aload_n 2, 1) := by decide +kernel
theorem dL_law__1315 : decode cL_law_ 1315 = .ok (.aload_n 0, 1) := by decide +kernel
theorem dL_law__1316 : decode cL_law_ 1316 = .ok (.iload 4, 2) := by decide +kernel
theorem dL_law__1318 : decode cL_law_ 1318 = .ok (.iconst 1, 1) := by decide +kernel
theorem dL_law__1319 : decode cL_law_ 1319 = .ok (.iadd, 1) := by decide +kernel
theorem dL_law__1320 : decode cL_law_ 1320 = .ok (.iaload, 1) := by decide +kernel
theorem dL_law__1321 : decode cL_law_ 1321 = .ok (.invokevirtual 239, 3) := by decide +kernel
theorem wi_1864 : Cond.methodLink RL 239 yX10_ring ∈ WA := zin 1864 (by decide +kernel) (by decide +kernel)
theorem wi_1867 : Cond.code yX10_ring cX10_ring 4 (some .boolean) ∈ WA := zin 1867 (by decide +kernel) (by decide +kernel)
theorem wi_1865 : Cond.instanceMethod yX10_ring ∈ WA := zin 1865 (by decide +kernel) (by decide +kernel)
theorem wi_1866 : Cond.selects RX10 yX10_ring yX10_ring ∈ WA := zin 1866 (by decide +kernel) (by decide +kernel)
theorem mv_L_239 : zMv RL 239 RX10 mX10_ring 1 := ⟨⟨wi_1864, wi_110, wi_1867, by decide, by decide +kernel⟩, wi_1865, wi_1866⟩
theorem dL_law__1324 : decode cL_law_ 1324 = .ok (.istore 6, 2) := by decide +kernel
theorem dL_law__1326 : decode cL_law_ 1326 = .ok (.goto 484, 3) := by decide +kernel
theorem dL_law__1329 : decode cL_law_ 1329 = .ok (.aload_n 1, 1) := by decide +kernel
theorem dL_law__1330 : decode cL_law_ 1330 = .ok (.aload_n 0, 1) := by decide +kernel
theorem dL_law__1331 : decode cL_law_ 1331 = .ok (.iload 4, 2) := by decide +kernel
theorem dL_law__1333 : decode cL_law_ 1333 = .ok (.iconst 1, 1) := by decide +kernel
theorem dL_law__1334 : decode cL_law_ 1334 = .ok (.iadd, 1) := by decide +kernel
theorem dL_law__1335 : decode cL_law_ 1335 = .ok (.iaload, 1) := by decide +kernel
theorem dL_law__1336 : decode cL_law_ 1336 = .ok (.aload_n 0, 1) := by decide +kernel
theorem dL_law__1337 : decode cL_law_ 1337 = .ok (.iload 4, 2) := by decide +kernel
theorem dL_law__1339 : decode cL_law_ 1339 = .ok (.iconst 2, 1) := by decide +kernel
theorem dL_law__1340 : decode cL_law_ 1340 = .ok (.iadd, 1) := by decide +kernel
theorem dL_law__1341 : decode cL_law_ 1341 = .ok (.iaload, 1) := by decide +kernel
theorem dL_law__1342 : decode cL_law_ 1342 = .ok (.aload_n 3, 1) := by decide +kernel
theorem dL_law__1343 : decode cL_law_ 1343 = .ok (.invokestatic 240, 3) := by decide +kernel
theorem wi_1195 : Cond.codeWith yL_runs cL_runs 5 (some .int) [(0, 10, 13, 24), (0, 10, 17, 13)] ∈ WA := zin 1195 (by decide +kernel) (by decide +kernel)
theorem wi_1193 : Cond.methodLink RL 240 yL_runs ∈ WA := zin 1193 (by decide +kernel) (by decide +kernel)
theorem wi_1194 : Cond.static yL_runs ∈ WA := zin 1194 (by decide +kernel) (by decide +kernel)
theorem mw_L_240 : zMw RL 240 mL_runs [(0, 10, 13, 24), (0, 10, 17, 13)] 4 := ⟨wi_1193, wi_99, wi_1195, by decide, by decide +kernel, wi_1194⟩
theorem dL_law__1346 : decode cL_law_ 1346 = .ok (.istore 5, 2) := by decide +kernel
theorem dL_law__1348 : decode cL_law_ 1348 = .ok (.aload_n 2, 1) := by decide +kernel
theorem dL_law__1349 : decode cL_law_ 1349 = .ok (.aload_n 0, 1) := by decide +kernel
theorem dL_law__1350 : decode cL_law_ 1350 = .ok (.iload 4, 2) := by decide +kernel
theorem dL_law__1352 : decode cL_law_ 1352 = .ok (.iconst 1, 1) := by decide +kernel
theorem dL_law__1353 : decode cL_law_ 1353 = .ok (.iadd, 1) := by decide +kernel
theorem dL_law__1354 : decode cL_law_ 1354 = .ok (.iaload, 1) := by decide +kernel
theorem dL_law__1355 : decode cL_law_ 1355 = .ok (.aload_n 0, 1) := by decide +kernel
theorem dL_law__1356 : decode cL_law_ 1356 = .ok (.iload 4, 2) := by decide +kernel
theorem dL_law__1358 : decode cL_law_ 1358 = .ok (.iconst 2, 1) := by decide +kernel
theorem dL_law__1359 : decode cL_law_ 1359 = .ok (.iadd, 1) := by decide +kernel
theorem dL_law__1360 : decode cL_law_ 1360 = .ok (.iaload, 1) := by decide +kernel
theorem dL_law__1361 : decode cL_law_ 1361 = .ok (.invokevirtual 242, 3) := by decide +kernel
theorem wi_1769 : Cond.methodLink RL 242 yX10_runs ∈ WA := zin 1769 (by decide +kernel) (by decide +kernel)
theorem wi_1772 : Cond.code yX10_runs cX10_runs 4 (some .int) ∈ WA := zin 1772 (by decide +kernel) (by decide +kernel)
theorem wi_1770 : Cond.instanceMethod yX10_runs ∈ WA := zin 1770 (by decide +kernel) (by decide +kernel)
theorem wi_1771 : Cond.selects RX10 yX10_runs yX10_runs ∈ WA := zin 1771 (by decide +kernel) (by decide +kernel)
theorem mv_L_242 : zMv RL 242 RX10 mX10_runs 2 := ⟨⟨wi_1769, wi_110, wi_1772, by decide, by decide +kernel⟩, wi_1770, wi_1771⟩
theorem dL_law__1364 : decode cL_law_ 1364 = .ok (.istore 6, 2) := by decide +kernel
theorem dL_law__1366 : decode cL_law_ 1366 = .ok (.goto 444, 3) := by decide +kernel
theorem dL_law__1369 : decode cL_law_ 1369 = .ok (.aload_n 1, 1) := by decide +kernel
theorem dL_law__1370 : decode cL_law_ 1370 = .ok (.aload_n 0, 1) := by decide +kernel
theorem dL_law__1371 : decode cL_law_ 1371 = .ok (.iload 4, 2) := by decide +kernel
theorem dL_law__1373 : decode cL_law_ 1373 = .ok (.iconst 1, 1) := by decide +kernel
theorem dL_law__1374 : decode cL_law_ 1374 = .ok (.iadd, 1) := by decide +kernel
theorem dL_law__1375 : decode cL_law_ 1375 = .ok (.iaload, 1) := by decide +kernel
theorem dL_law__1376 : decode cL_law_ 1376 = .ok (.aload_n 3, 1) := by decide +kernel
theorem dL_law__1377 : decode cL_law_ 1377 = .ok (.invokestatic 243, 3) := by decide +kernel
theorem wi_1207 : Cond.codeWith yL_spent cL_spent 4 (some .int) [(0, 9, 12, 24)] ∈ WA := zin 1207 (by decide +kernel) (by decide +kernel)
theorem wi_1205 : Cond.methodLink RL 243 yL_spent ∈ WA := zin 1205 (by decide +kernel) (by decide +kernel)
theorem wi_1206 : Cond.static yL_spent ∈ WA := zin 1206 (by decide +kernel) (by decide +kernel)
theorem mw_L_243 : zMw RL 243 mL_spent [(0, 9, 12, 24)] 3 := ⟨wi_1205, wi_99, wi_1207, by decide, by decide +kernel, wi_1206⟩
theorem dL_law__1380 : decode cL_law_ 1380 = .ok (.istore 5, 2) := by decide +kernel
theorem dL_law__1382 : decode cL_law_ 1382 = .ok (.aload_n 2, 1) := by decide +kernel
theorem dL_law__1383 : decode cL_law_ 1383 = .ok (.aload_n 0, 1) := by decide +kernel
theorem dL_law__1384 : decode cL_law_ 1384 = .ok (.iload 4, 2) := by decide +kernel
theorem dL_law__1386 : decode cL_law_ 1386 = .ok (.iconst 1, 1) := by decide +kernel
theorem dL_law__1387 : decode cL_law_ 1387 = .ok (.iadd, 1) := by decide +kernel
theorem dL_law__1388 : decode cL_law_ 1388 = .ok (.iaload, 1) := by decide +kernel
theorem dL_law__1389 : decode cL_law_ 1389 = .ok (.invokevirtual 245, 3) := by decide +kernel
theorem wi_1777 : Cond.methodLink RL 245 yX10_spent ∈ WA := zin 1777 (by decide +kernel) (by decide +kernel)
theorem wi_1780 : Cond.code yX10_spent cX10_spent 4 (some .int) ∈ WA := zin 1780 (by decide +kernel) (by decide +kernel)
theorem wi_1778 : Cond.instanceMethod yX10_spent ∈ WA := zin 1778 (by decide +kernel) (by decide +kernel)
theorem wi_1779 : Cond.selects RX10 yX10_spent yX10_spent ∈ WA := zin 1779 (by decide +kernel) (by decide +kernel)
theorem mv_L_245 : zMv RL 245 RX10 mX10_spent 1 := ⟨⟨wi_1777, wi_110, wi_1780, by decide, by decide +kernel⟩, wi_1778, wi_1779⟩
theorem dL_law__1392 : decode cL_law_ 1392 = .ok (.istore 6, 2) := by decide +kernel
theorem dL_law__1394 : decode cL_law_ 1394 = .ok (.goto 416, 3) := by decide +kernel
theorem dL_law__1397 : decode cL_law_ 1397 = .ok (.aload_n 1, 1) := by decide +kernel
theorem dL_law__1398 : decode cL_law_ 1398 = .ok (.invokevirtual 246, 3) := by decide +kernel
theorem wi_449 : Cond.methodLink RL 246 yX9_oldest ∈ WA := zin 449 (by decide +kernel) (by decide +kernel)
theorem wi_452 : Cond.code yX9_oldest cX9_oldest 3 (some .int) ∈ WA := zin 452 (by decide +kernel) (by decide +kernel)
theorem wi_450 : Cond.instanceMethod yX9_oldest ∈ WA := zin 450 (by decide +kernel) (by decide +kernel)
theorem wi_451 : Cond.selects RX9 yX9_oldest yX9_oldest ∈ WA := zin 451 (by decide +kernel) (by decide +kernel)
theorem mv_L_246 : zMv RL 246 RX9 mX9_oldest 0 := ⟨⟨wi_449, wi_100, wi_452, by decide, by decide +kernel⟩, wi_450, wi_451⟩
theorem dL_law__1401 : decode cL_law_ 1401 = .ok (.pop, 1) := by decide +kernel
theorem dL_law__1402 : decode cL_law_ 1402 = .ok (.aload_n 2, 1) := by decide +kernel
theorem dL_law__1403 : decode cL_law_ 1403 = .ok (.invokevirtual 249, 3) := by decide +kernel
theorem wi_1872 : Cond.methodLink RL 249 yX10_oldest ∈ WA := zin 1872 (by decide +kernel) (by decide +kernel)
theorem wi_1875 : Cond.code yX10_oldest cX10_oldest 3 (some .int) ∈ WA := zin 1875 (by decide +kernel) (by decide +kernel)
theorem wi_1873 : Cond.instanceMethod yX10_oldest ∈ WA := zin 1873 (by decide +kernel) (by decide +kernel)
theorem wi_1874 : Cond.selects RX10 yX10_oldest yX10_oldest ∈ WA := zin 1874 (by decide +kernel) (by decide +kernel)
theorem mv_L_249 : zMv RL 249 RX10 mX10_oldest 0 := ⟨⟨wi_1872, wi_110, wi_1875, by decide, by decide +kernel⟩, wi_1873, wi_1874⟩
theorem dL_law__1406 : decode cL_law_ 1406 = .ok (.pop, 1) := by decide +kernel
theorem dL_law__1407 : decode cL_law_ 1407 = .ok (.goto 403, 3) := by decide +kernel
theorem dL_law__1410 : decode cL_law_ 1410 = .ok (.aload_n 1, 1) := by decide +kernel
theorem dL_law__1411 : decode cL_law_ 1411 = .ok (.invokevirtual 250, 3) := by decide +kernel
theorem wi_454 : Cond.methodLink RL 250 yX9_stuck ∈ WA := zin 454 (by decide +kernel) (by decide +kernel)
theorem wi_457 : Cond.code yX9_stuck cX9_stuck 1 (some .int) ∈ WA := zin 457 (by decide +kernel) (by decide +kernel)
theorem wi_455 : Cond.instanceMethod yX9_stuck ∈ WA := zin 455 (by decide +kernel) (by decide +kernel)
theorem wi_456 : Cond.selects RX9 yX9_stuck yX9_stuck ∈ WA := zin 456 (by decide +kernel) (by decide +kernel)
theorem mv_L_250 : zMv RL 250 RX9 mX9_stuck 0 := ⟨⟨wi_454, wi_100, wi_457, by decide, by decide +kernel⟩, wi_455, wi_456⟩
theorem dL_law__1414 : decode cL_law_ 1414 = .ok (.pop, 1) := by decide +kernel
theorem dL_law__1415 : decode cL_law_ 1415 = .ok (.aload_n 2, 1) := by decide +kernel
theorem dL_law__1416 : decode cL_law_ 1416 = .ok (.invokevirtual 253, 3) := by decide +kernel
theorem wi_1876 : Cond.methodLink RL 253 yX10_stuck ∈ WA := zin 1876 (by decide +kernel) (by decide +kernel)
theorem wi_1879 : Cond.code yX10_stuck cX10_stuck 1 (some .int) ∈ WA := zin 1879 (by decide +kernel) (by decide +kernel)
theorem wi_1877 : Cond.instanceMethod yX10_stuck ∈ WA := zin 1877 (by decide +kernel) (by decide +kernel)
theorem wi_1878 : Cond.selects RX10 yX10_stuck yX10_stuck ∈ WA := zin 1878 (by decide +kernel) (by decide +kernel)
theorem mv_L_253 : zMv RL 253 RX10 mX10_stuck 0 := ⟨⟨wi_1876, wi_110, wi_1879, by decide, by decide +kernel⟩, wi_1877, wi_1878⟩
theorem dL_law__1419 : decode cL_law_ 1419 = .ok (.pop, 1) := by decide +kernel
theorem dL_law__1420 : decode cL_law_ 1420 = .ok (.goto 390, 3) := by decide +kernel
theorem dL_law__1423 : decode cL_law_ 1423 = .ok (.aload_n 1, 1) := by decide +kernel
theorem dL_law__1424 : decode cL_law_ 1424 = .ok (.invokevirtual 254, 3) := by decide +kernel
theorem wi_462 : Cond.methodLink RL 254 yX9_pawned ∈ WA := zin 462 (by decide +kernel) (by decide +kernel)
theorem wi_465 : Cond.code yX9_pawned cX9_pawned 1 (some .int) ∈ WA := zin 465 (by decide +kernel) (by decide +kernel)
theorem wi_463 : Cond.instanceMethod yX9_pawned ∈ WA := zin 463 (by decide +kernel) (by decide +kernel)
theorem wi_464 : Cond.selects RX9 yX9_pawned yX9_pawned ∈ WA := zin 464 (by decide +kernel) (by decide +kernel)
theorem mv_L_254 : zMv RL 254 RX9 mX9_pawned 0 := ⟨⟨wi_462, wi_100, wi_465, by decide, by decide +kernel⟩, wi_463, wi_464⟩
theorem dL_law__1427 : decode cL_law_ 1427 = .ok (.pop, 1) := by decide +kernel
theorem dL_law__1428 : decode cL_law_ 1428 = .ok (.aload_n 2, 1) := by decide +kernel
theorem dL_law__1429 : decode cL_law_ 1429 = .ok (.invokevirtual 257, 3) := by decide +kernel
theorem wi_1880 : Cond.methodLink RL 257 yX10_pawned ∈ WA := zin 1880 (by decide +kernel) (by decide +kernel)
theorem wi_1883 : Cond.code yX10_pawned cX10_pawned 1 (some .int) ∈ WA := zin 1883 (by decide +kernel) (by decide +kernel)
theorem wi_1881 : Cond.instanceMethod yX10_pawned ∈ WA := zin 1881 (by decide +kernel) (by decide +kernel)
theorem wi_1882 : Cond.selects RX10 yX10_pawned yX10_pawned ∈ WA := zin 1882 (by decide +kernel) (by decide +kernel)
theorem mv_L_257 : zMv RL 257 RX10 mX10_pawned 0 := ⟨⟨wi_1880, wi_110, wi_1883, by decide, by decide +kernel⟩, wi_1881, wi_1882⟩
theorem dL_law__1432 : decode cL_law_ 1432 = .ok (.pop, 1) := by decide +kernel
theorem dL_law__1433 : decode cL_law_ 1433 = .ok (.goto 377, 3) := by decide +kernel
theorem dL_law__1436 : decode cL_law_ 1436 = .ok (.aload_n 1, 1) := by decide +kernel
theorem dL_law__1437 : decode cL_law_ 1437 = .ok (.invokevirtual 258, 3) := by decide +kernel
theorem wi_466 : Cond.methodLink RL 258 yX9_blue ∈ WA := zin 466 (by decide +kernel) (by decide +kernel)
theorem wi_469 : Cond.code yX9_blue cX9_blue 1 (some .int) ∈ WA := zin 469 (by decide +kernel) (by decide +kernel)
theorem wi_467 : Cond.instanceMethod yX9_blue ∈ WA := zin 467 (by decide +kernel) (by decide +kernel)
theorem wi_468 : Cond.selects RX9 yX9_blue yX9_blue ∈ WA := zin 468 (by decide +kernel) (by decide +kernel)
theorem mv_L_258 : zMv RL 258 RX9 mX9_blue 0 := ⟨⟨wi_466, wi_100, wi_469, by decide, by decide +kernel⟩, wi_467, wi_468⟩
theorem dL_law__1440 : decode cL_law_ 1440 = .ok (.pop, 1) := by decide +kernel
theorem dL_law__1441 : decode cL_law_ 1441 = .ok (.aload_n 2, 1) := by decide +kernel
theorem dL_law__1442 : decode cL_law_ 1442 = .ok (.invokevirtual 261, 3) := by decide +kernel
theorem wi_1884 : Cond.methodLink RL 261 yX10_blue ∈ WA := zin 1884 (by decide +kernel) (by decide +kernel)
theorem wi_1887 : Cond.code yX10_blue cX10_blue 1 (some .int) ∈ WA := zin 1887 (by decide +kernel) (by decide +kernel)
theorem wi_1885 : Cond.instanceMethod yX10_blue ∈ WA := zin 1885 (by decide +kernel) (by decide +kernel)
theorem wi_1886 : Cond.selects RX10 yX10_blue yX10_blue ∈ WA := zin 1886 (by decide +kernel) (by decide +kernel)
theorem mv_L_261 : zMv RL 261 RX10 mX10_blue 0 := ⟨⟨wi_1884, wi_110, wi_1887, by decide, by decide +kernel⟩, wi_1885, wi_1886⟩
theorem dL_law__1445 : decode cL_law_ 1445 = .ok (.pop, 1) := by decide +kernel
theorem dL_law__1446 : decode cL_law_ 1446 = .ok (.goto 364, 3) := by decide +kernel
theorem dL_law__1449 : decode cL_law_ 1449 = .ok (.aload_n 1, 1) := by decide +kernel
theorem dL_law__1450 : decode cL_law_ 1450 = .ok (.invokevirtual 262, 3) := by decide +kernel
theorem wi_470 : Cond.methodLink RL 262 yX9_alike ∈ WA := zin 470 (by decide +kernel) (by decide +kernel)
theorem wi_473 : Cond.code yX9_alike cX9_alike 4 (some .int) ∈ WA := zin 473 (by decide +kernel) (by decide +kernel)
theorem wi_471 : Cond.instanceMethod yX9_alike ∈ WA := zin 471 (by decide +kernel) (by decide +kernel)
theorem wi_472 : Cond.selects RX9 yX9_alike yX9_alike ∈ WA := zin 472 (by decide +kernel) (by decide +kernel)
theorem mv_L_262 : zMv RL 262 RX9 mX9_alike 0 := ⟨⟨wi_470, wi_100, wi_473, by decide, by decide +kernel⟩, wi_471, wi_472⟩
theorem dL_law__1453 : decode cL_law_ 1453 = .ok (.pop, 1) := by decide +kernel
theorem dL_law__1454 : decode cL_law_ 1454 = .ok (.aload_n 2, 1) := by decide +kernel
theorem dL_law__1455 : decode cL_law_ 1455 = .ok (.invokevirtual 265, 3) := by decide +kernel
theorem wi_1888 : Cond.methodLink RL 265 yX10_alike ∈ WA := zin 1888 (by decide +kernel) (by decide +kernel)
theorem wi_1891 : Cond.code yX10_alike cX10_alike 4 (some .int) ∈ WA := zin 1891 (by decide +kernel) (by decide +kernel)
theorem wi_1889 : Cond.instanceMethod yX10_alike ∈ WA := zin 1889 (by decide +kernel) (by decide +kernel)
theorem wi_1890 : Cond.selects RX10 yX10_alike yX10_alike ∈ WA := zin 1890 (by decide +kernel) (by decide +kernel)
theorem mv_L_265 : zMv RL 265 RX10 mX10_alike 0 := ⟨⟨wi_1888, wi_110, wi_1891, by decide, by decide +kernel⟩, wi_1889, wi_1890⟩
theorem dL_law__1458 : decode cL_law_ 1458 = .ok (.pop, 1) := by decide +kernel
theorem dL_law__1459 : decode cL_law_ 1459 = .ok (.goto 351, 3) := by decide +kernel
theorem dL_law__1462 : decode cL_law_ 1462 = .ok (.aload_n 1, 1) := by decide +kernel
theorem dL_law__1463 : decode cL_law_ 1463 = .ok (.aload_n 0, 1) := by decide +kernel
theorem dL_law__1464 : decode cL_law_ 1464 = .ok (.iload 4, 2) := by decide +kernel
theorem dL_law__1466 : decode cL_law_ 1466 = .ok (.iconst 1, 1) := by decide +kernel
theorem dL_law__1467 : decode cL_law_ 1467 = .ok (.iadd, 1) := by decide +kernel
theorem dL_law__1468 : decode cL_law_ 1468 = .ok (.iaload, 1) := by decide +kernel
theorem dL_law__1469 : decode cL_law_ 1469 = .ok (.aload_n 0, 1) := by decide +kernel
theorem dL_law__1470 : decode cL_law_ 1470 = .ok (.iload 4, 2) := by decide +kernel
theorem dL_law__1472 : decode cL_law_ 1472 = .ok (.iconst 2, 1) := by decide +kernel
theorem dL_law__1473 : decode cL_law_ 1473 = .ok (.iadd, 1) := by decide +kernel
theorem dL_law__1474 : decode cL_law_ 1474 = .ok (.iaload, 1) := by decide +kernel
theorem dL_law__1475 : decode cL_law_ 1475 = .ok (.aload_n 3, 1) := by decide +kernel
theorem dL_law__1476 : decode cL_law_ 1476 = .ok (.invokestatic 266, 3) := by decide +kernel
theorem wi_1214 : Cond.codeWith yL_share cL_share 5 (some .int) [(0, 10, 13, 24)] ∈ WA := zin 1214 (by decide +kernel) (by decide +kernel)
theorem wi_1212 : Cond.methodLink RL 266 yL_share ∈ WA := zin 1212 (by decide +kernel) (by decide +kernel)
theorem wi_1213 : Cond.static yL_share ∈ WA := zin 1213 (by decide +kernel) (by decide +kernel)
theorem mw_L_266 : zMw RL 266 mL_share [(0, 10, 13, 24)] 4 := ⟨wi_1212, wi_99, wi_1214, by decide, by decide +kernel, wi_1213⟩
theorem dL_law__1479 : decode cL_law_ 1479 = .ok (.istore 5, 2) := by decide +kernel
theorem dL_law__1481 : decode cL_law_ 1481 = .ok (.aload_n 2, 1) := by decide +kernel
theorem dL_law__1482 : decode cL_law_ 1482 = .ok (.aload_n 0, 1) := by decide +kernel
theorem dL_law__1483 : decode cL_law_ 1483 = .ok (.iload 4, 2) := by decide +kernel
theorem dL_law__1485 : decode cL_law_ 1485 = .ok (.iconst 1, 1) := by decide +kernel
theorem dL_law__1486 : decode cL_law_ 1486 = .ok (.iadd, 1) := by decide +kernel
theorem dL_law__1487 : decode cL_law_ 1487 = .ok (.iaload, 1) := by decide +kernel
theorem dL_law__1488 : decode cL_law_ 1488 = .ok (.aload_n 0, 1) := by decide +kernel
theorem dL_law__1489 : decode cL_law_ 1489 = .ok (.iload 4, 2) := by decide +kernel
theorem dL_law__1491 : decode cL_law_ 1491 = .ok (.iconst 2, 1) := by decide +kernel
theorem dL_law__1492 : decode cL_law_ 1492 = .ok (.iadd, 1) := by decide +kernel
theorem dL_law__1493 : decode cL_law_ 1493 = .ok (.iaload, 1) := by decide +kernel
theorem dL_law__1494 : decode cL_law_ 1494 = .ok (.invokevirtual 268, 3) := by decide +kernel
theorem wi_1896 : Cond.methodLink RL 268 yX10_share ∈ WA := zin 1896 (by decide +kernel) (by decide +kernel)
theorem wi_1899 : Cond.code yX10_share cX10_share 5 (some .int) ∈ WA := zin 1899 (by decide +kernel) (by decide +kernel)
theorem wi_1897 : Cond.instanceMethod yX10_share ∈ WA := zin 1897 (by decide +kernel) (by decide +kernel)
theorem wi_1898 : Cond.selects RX10 yX10_share yX10_share ∈ WA := zin 1898 (by decide +kernel) (by decide +kernel)
theorem mv_L_268 : zMv RL 268 RX10 mX10_share 2 := ⟨⟨wi_1896, wi_110, wi_1899, by decide, by decide +kernel⟩, wi_1897, wi_1898⟩
theorem dL_law__1497 : decode cL_law_ 1497 = .ok (.istore 6, 2) := by decide +kernel
theorem dL_law__1499 : decode cL_law_ 1499 = .ok (.goto 311, 3) := by decide +kernel
theorem dL_law__1502 : decode cL_law_ 1502 = .ok (.aload_n 1, 1) := by decide +kernel
theorem dL_law__1503 : decode cL_law_ 1503 = .ok (.invokevirtual 269, 3) := by decide +kernel
theorem wi_478 : Cond.methodLink RL 269 yX9_odds ∈ WA := zin 478 (by decide +kernel) (by decide +kernel)
theorem wi_481 : Cond.code yX9_odds cX9_odds 5 (some .int) ∈ WA := zin 481 (by decide +kernel) (by decide +kernel)
theorem wi_479 : Cond.instanceMethod yX9_odds ∈ WA := zin 479 (by decide +kernel) (by decide +kernel)
theorem wi_480 : Cond.selects RX9 yX9_odds yX9_odds ∈ WA := zin 480 (by decide +kernel) (by decide +kernel)
theorem mv_L_269 : zMv RL 269 RX9 mX9_odds 0 := ⟨⟨wi_478, wi_100, wi_481, by decide, by decide +kernel⟩, wi_479, wi_480⟩
theorem dL_law__1506 : decode cL_law_ 1506 = .ok (.pop, 1) := by decide +kernel
theorem dL_law__1507 : decode cL_law_ 1507 = .ok (.aload_n 2, 1) := by decide +kernel
theorem dL_law__1508 : decode cL_law_ 1508 = .ok (.invokevirtual 272, 3) := by decide +kernel
theorem wi_1900 : Cond.methodLink RL 272 yX10_odds ∈ WA := zin 1900 (by decide +kernel) (by decide +kernel)
theorem wi_1903 : Cond.code yX10_odds cX10_odds 4 (some .int) ∈ WA := zin 1903 (by decide +kernel) (by decide +kernel)
theorem wi_1901 : Cond.instanceMethod yX10_odds ∈ WA := zin 1901 (by decide +kernel) (by decide +kernel)
theorem wi_1902 : Cond.selects RX10 yX10_odds yX10_odds ∈ WA := zin 1902 (by decide +kernel) (by decide +kernel)
theorem mv_L_272 : zMv RL 272 RX10 mX10_odds 0 := ⟨⟨wi_1900, wi_110, wi_1903, by decide, by decide +kernel⟩, wi_1901, wi_1902⟩
theorem dL_law__1511 : decode cL_law_ 1511 = .ok (.pop, 1) := by decide +kernel
theorem dL_law__1512 : decode cL_law_ 1512 = .ok (.goto 298, 3) := by decide +kernel
section LawC
variable {G0 : Gx} {b0 L m i : Nat} {xs : Nat → Int32} {ad : Nat → Nat} {I : Hi} {x5 x6 : Option Value}
theorem lc_ring (h9 : gad G0 998 = b0) (hL : L ≤ 3072) (hi : i + 6 ≤ L) (hI : LI I) (kk : ∀ (J : Hi) (x5 x6 : Option Value), LI J → Rn (gw G0 ad) GAM mL_law_ (kZ (kL b0 L xs) G0 0 ad 108) 60 (8 * m) 1810 [some (.ref 998), some (.ref 0), some (.ref 94), some (.ref 107), some (.int (nI i)), x5, x6] [] J) : Rn (gw G0 ad) GAM mL_law_ (kZ (kL b0 L xs) G0 0 ad 108) 60 (8 * m + 8) 1301 [some (.ref 998), some (.ref 0), some (.ref 94), some (.ref 107), some (.int (nI i)), x5, x6] [] I := by
  refine Rn.aload_n dL_law__1301 rfl rfl ?_
  refine Rn.aload_n dL_law__1302 rfl rfl ?_
  refine Rn.iload dL_law__1303 rfl ?_
  refine Rn.iconst (v := (nI 1)) dL_law__1305 rfl ?_
  refine Rn.iadd dL_law__1306 ?_
  refine Rn.topI (nI (i + 1)) (nI_add _ _) ?_
  refine Rn.sld dL_law__1307 h9 (by omega) (by omega) rfl ?_
  refine Rn.aload_n dL_law__1308 rfl rfl ?_
  refine Rn.callW (b := 8 * m + 7) (mc := 1) (As := [_, _, _]) dL_law__1309 mw_L_237 rfl rfl (Nat.le_of_ble_eq_true rfl) (wr_ring _ _ _ _ hI.1 hI.2.1) (fun _ _ h => h) (fun v J1 h => ?_)
  obtain ⟨⟨r1, rfl⟩, hQ1⟩ := h
  refine Rn.istore dL_law__1312 (by decide) ?_
  refine Rn.aload_n dL_law__1314 rfl rfl ?_
  refine Rn.aload_n dL_law__1315 rfl rfl ?_
  refine Rn.iload dL_law__1316 rfl ?_
  refine Rn.iconst (v := (nI 1)) dL_law__1318 rfl ?_
  refine Rn.iadd dL_law__1319 ?_
  refine Rn.topI (nI (i + 1)) (nI_add _ _) ?_
  refine Rn.sld dL_law__1320 h9 (by omega) (by omega) rfl ?_
  refine Rn.callV (As := [_]) dL_law__1321 mv_L_239 (by first | rfl | exact gC0 (by assumption) | exact gL0 (by assumption)) rfl rfl rfl (Nat.le_of_ble_eq_true rfl) (mo_ring _ _ _ _ hQ1.1 hQ1.2.1) (fun _ _ h => h) (fun v J2 h => ?_)
  obtain ⟨⟨r2, rfl⟩, hQ2⟩ := h
  refine Rn.istore dL_law__1324 (by decide) ?_
  refine Rn.goto 1810 dL_law__1326 (by decide) ?_
  exact Rn.bud (by omega) (kk _ _ _ (hI.of (hQ1.tr hQ2)))
theorem lc_runs (h9 : gad G0 998 = b0) (hL : L ≤ 3072) (hi : i + 6 ≤ L) (hI : LI I) (kk : ∀ (J : Hi) (x5 x6 : Option Value), LI J → Rn (gw G0 ad) GAM mL_law_ (kZ (kL b0 L xs) G0 0 ad 108) 60 (8 * m) 1810 [some (.ref 998), some (.ref 0), some (.ref 94), some (.ref 107), some (.int (nI i)), x5, x6] [] J) : Rn (gw G0 ad) GAM mL_law_ (kZ (kL b0 L xs) G0 0 ad 108) 60 (8 * m + 8) 1329 [some (.ref 998), some (.ref 0), some (.ref 94), some (.ref 107), some (.int (nI i)), x5, x6] [] I := by
  refine Rn.aload_n dL_law__1329 rfl rfl ?_
  refine Rn.aload_n dL_law__1330 rfl rfl ?_
  refine Rn.iload dL_law__1331 rfl ?_
  refine Rn.iconst (v := (nI 1)) dL_law__1333 rfl ?_
  refine Rn.iadd dL_law__1334 ?_
  refine Rn.topI (nI (i + 1)) (nI_add _ _) ?_
  refine Rn.sld dL_law__1335 h9 (by omega) (by omega) rfl ?_
  refine Rn.aload_n dL_law__1336 rfl rfl ?_
  refine Rn.iload dL_law__1337 rfl ?_
  refine Rn.iconst (v := (nI 2)) dL_law__1339 rfl ?_
  refine Rn.iadd dL_law__1340 ?_
  refine Rn.topI (nI (i + 2)) (nI_add _ _) ?_
  refine Rn.sld dL_law__1341 h9 (by omega) (by omega) rfl ?_
  refine Rn.aload_n dL_law__1342 rfl rfl ?_
  refine Rn.callW (b := 8 * m + 6) (mc := 2) (As := [_, _, _, _]) dL_law__1343 mw_L_240 rfl rfl (Nat.le_of_ble_eq_true rfl) (wr_runs _ _ _ _ _ hI.1 hI.2.1) (fun _ _ h => h) (fun v J1 h => ?_)
  obtain ⟨⟨r1, rfl⟩, hQ1⟩ := h
  refine Rn.istore dL_law__1346 (by decide) ?_
  refine Rn.aload_n dL_law__1348 rfl rfl ?_
  refine Rn.aload_n dL_law__1349 rfl rfl ?_
  refine Rn.iload dL_law__1350 rfl ?_
  refine Rn.iconst (v := (nI 1)) dL_law__1352 rfl ?_
  refine Rn.iadd dL_law__1353 ?_
  refine Rn.topI (nI (i + 1)) (nI_add _ _) ?_
  refine Rn.sld dL_law__1354 h9 (by omega) (by omega) rfl ?_
  refine Rn.aload_n dL_law__1355 rfl rfl ?_
  refine Rn.iload dL_law__1356 rfl ?_
  refine Rn.iconst (v := (nI 2)) dL_law__1358 rfl ?_
  refine Rn.iadd dL_law__1359 ?_
  refine Rn.topI (nI (i + 2)) (nI_add _ _) ?_
  refine Rn.sld dL_law__1360 h9 (by omega) (by omega) rfl ?_
  refine Rn.callV (As := [_, _]) dL_law__1361 mv_L_242 (by first | rfl | exact gC0 (by assumption) | exact gL0 (by assumption)) rfl rfl rfl (Nat.le_of_ble_eq_true rfl) (mo_runs _ _ _ _ _ hQ1.1 hQ1.2.1) (fun _ _ h => h) (fun v J2 h => ?_)
  obtain ⟨⟨r2, rfl⟩, hQ2⟩ := h
  refine Rn.istore dL_law__1364 (by decide) ?_
  refine Rn.goto 1810 dL_law__1366 (by decide) ?_
  exact Rn.bud (by omega) (kk _ _ _ (hI.of (hQ1.tr hQ2)))
theorem lc_spent (h9 : gad G0 998 = b0) (hL : L ≤ 3072) (hi : i + 6 ≤ L) (hI : LI I) (kk : ∀ (J : Hi) (x5 x6 : Option Value), LI J → Rn (gw G0 ad) GAM mL_law_ (kZ (kL b0 L xs) G0 0 ad 108) 60 (8 * m) 1810 [some (.ref 998), some (.ref 0), some (.ref 94), some (.ref 107), some (.int (nI i)), x5, x6] [] J) : Rn (gw G0 ad) GAM mL_law_ (kZ (kL b0 L xs) G0 0 ad 108) 60 (8 * m + 8) 1369 [some (.ref 998), some (.ref 0), some (.ref 94), some (.ref 107), some (.int (nI i)), x5, x6] [] I := by
  refine Rn.aload_n dL_law__1369 rfl rfl ?_
  refine Rn.aload_n dL_law__1370 rfl rfl ?_
  refine Rn.iload dL_law__1371 rfl ?_
  refine Rn.iconst (v := (nI 1)) dL_law__1373 rfl ?_
  refine Rn.iadd dL_law__1374 ?_
  refine Rn.topI (nI (i + 1)) (nI_add _ _) ?_
  refine Rn.sld dL_law__1375 h9 (by omega) (by omega) rfl ?_
  refine Rn.aload_n dL_law__1376 rfl rfl ?_
  refine Rn.callW (b := 8 * m + 7) (mc := 1) (As := [_, _, _]) dL_law__1377 mw_L_243 rfl rfl (Nat.le_of_ble_eq_true rfl) (wr_spent _ _ _ _ hI.1 hI.2.1) (fun _ _ h => h) (fun v J1 h => ?_)
  obtain ⟨⟨r1, rfl⟩, hQ1⟩ := h
  refine Rn.istore dL_law__1380 (by decide) ?_
  refine Rn.aload_n dL_law__1382 rfl rfl ?_
  refine Rn.aload_n dL_law__1383 rfl rfl ?_
  refine Rn.iload dL_law__1384 rfl ?_
  refine Rn.iconst (v := (nI 1)) dL_law__1386 rfl ?_
  refine Rn.iadd dL_law__1387 ?_
  refine Rn.topI (nI (i + 1)) (nI_add _ _) ?_
  refine Rn.sld dL_law__1388 h9 (by omega) (by omega) rfl ?_
  refine Rn.callV (As := [_]) dL_law__1389 mv_L_245 (by first | rfl | exact gC0 (by assumption) | exact gL0 (by assumption)) rfl rfl rfl (Nat.le_of_ble_eq_true rfl) (mo_spent _ _ _ _ hQ1.1 hQ1.2.1) (fun _ _ h => h) (fun v J2 h => ?_)
  obtain ⟨⟨r2, rfl⟩, hQ2⟩ := h
  refine Rn.istore dL_law__1392 (by decide) ?_
  refine Rn.goto 1810 dL_law__1394 (by decide) ?_
  exact Rn.bud (by omega) (kk _ _ _ (hI.of (hQ1.tr hQ2)))
theorem lc_oldest (h9 : gad G0 998 = b0) (hL : L ≤ 3072) (hi : i + 6 ≤ L) (hI : LI I) (kk : ∀ (J : Hi) (x5 x6 : Option Value), LI J → Rn (gw G0 ad) GAM mL_law_ (kZ (kL b0 L xs) G0 0 ad 108) 60 (8 * m) 1810 [some (.ref 998), some (.ref 0), some (.ref 94), some (.ref 107), some (.int (nI i)), x5, x6] [] J) : Rn (gw G0 ad) GAM mL_law_ (kZ (kL b0 L xs) G0 0 ad 108) 60 (8 * m + 8) 1397 [some (.ref 998), some (.ref 0), some (.ref 94), some (.ref 107), some (.int (nI i)), x5, x6] [] I := by
  refine Rn.aload_n dL_law__1397 rfl rfl ?_
  refine Rn.callV (As := []) dL_law__1398 mv_L_246 (by first | rfl | exact gC0 (by assumption) | exact gL0 (by assumption)) rfl rfl rfl (Nat.le_of_ble_eq_true rfl) (xd_oldest _ _ _ hI.1 hI.2.1) (fun _ _ h => h) (fun v J1 h => ?_)
  obtain ⟨⟨r1, rfl⟩, hQ1⟩ := h
  refine Rn.pop dL_law__1401 rfl ?_
  refine Rn.aload_n dL_law__1402 rfl rfl ?_
  refine Rn.callV (As := []) dL_law__1403 mv_L_249 (by first | rfl | exact gC0 (by assumption) | exact gL0 (by assumption)) rfl rfl rfl (Nat.le_of_ble_eq_true rfl) (mo_oldest _ _ _ hQ1.1 hQ1.2.1) (fun _ _ h => h) (fun v J2 h => ?_)
  obtain ⟨⟨r2, rfl⟩, hQ2⟩ := h
  refine Rn.pop dL_law__1406 rfl ?_
  refine Rn.goto 1810 dL_law__1407 (by decide) ?_
  exact Rn.bud (by omega) (kk _ _ _ (hI.of (hQ1.tr hQ2)))
theorem lc_stuck (h9 : gad G0 998 = b0) (hL : L ≤ 3072) (hi : i + 6 ≤ L) (hI : LI I) (kk : ∀ (J : Hi) (x5 x6 : Option Value), LI J → Rn (gw G0 ad) GAM mL_law_ (kZ (kL b0 L xs) G0 0 ad 108) 60 (8 * m) 1810 [some (.ref 998), some (.ref 0), some (.ref 94), some (.ref 107), some (.int (nI i)), x5, x6] [] J) : Rn (gw G0 ad) GAM mL_law_ (kZ (kL b0 L xs) G0 0 ad 108) 60 (8 * m + 8) 1410 [some (.ref 998), some (.ref 0), some (.ref 94), some (.ref 107), some (.int (nI i)), x5, x6] [] I := by
  refine Rn.aload_n dL_law__1410 rfl rfl ?_
  refine Rn.callV (As := []) dL_law__1411 mv_L_250 (by first | rfl | exact gC0 (by assumption) | exact gL0 (by assumption)) rfl rfl rfl (Nat.le_of_ble_eq_true rfl) (xd_stuck _ _ _ hI.1 hI.2.1) (fun _ _ h => h) (fun v J1 h => ?_)
  obtain ⟨⟨r1, rfl⟩, hQ1⟩ := h
  refine Rn.pop dL_law__1414 rfl ?_
  refine Rn.aload_n dL_law__1415 rfl rfl ?_
  refine Rn.callV (As := []) dL_law__1416 mv_L_253 (by first | rfl | exact gC0 (by assumption) | exact gL0 (by assumption)) rfl rfl rfl (Nat.le_of_ble_eq_true rfl) (mo_stuck _ _ _ hQ1.1 hQ1.2.1) (fun _ _ h => h) (fun v J2 h => ?_)
  obtain ⟨⟨r2, rfl⟩, hQ2⟩ := h
  refine Rn.pop dL_law__1419 rfl ?_
  refine Rn.goto 1810 dL_law__1420 (by decide) ?_
  exact Rn.bud (by omega) (kk _ _ _ (hI.of (hQ1.tr hQ2)))
theorem lc_pawned (h9 : gad G0 998 = b0) (hL : L ≤ 3072) (hi : i + 6 ≤ L) (hI : LI I) (kk : ∀ (J : Hi) (x5 x6 : Option Value), LI J → Rn (gw G0 ad) GAM mL_law_ (kZ (kL b0 L xs) G0 0 ad 108) 60 (8 * m) 1810 [some (.ref 998), some (.ref 0), some (.ref 94), some (.ref 107), some (.int (nI i)), x5, x6] [] J) : Rn (gw G0 ad) GAM mL_law_ (kZ (kL b0 L xs) G0 0 ad 108) 60 (8 * m + 8) 1423 [some (.ref 998), some (.ref 0), some (.ref 94), some (.ref 107), some (.int (nI i)), x5, x6] [] I := by
  refine Rn.aload_n dL_law__1423 rfl rfl ?_
  refine Rn.callV (As := []) dL_law__1424 mv_L_254 (by first | rfl | exact gC0 (by assumption) | exact gL0 (by assumption)) rfl rfl rfl (Nat.le_of_ble_eq_true rfl) (xd_pawned _ _ _ hI.1 hI.2.1) (fun _ _ h => h) (fun v J1 h => ?_)
  obtain ⟨⟨r1, rfl⟩, hQ1⟩ := h
  refine Rn.pop dL_law__1427 rfl ?_
  refine Rn.aload_n dL_law__1428 rfl rfl ?_
  refine Rn.callV (As := []) dL_law__1429 mv_L_257 (by first | rfl | exact gC0 (by assumption) | exact gL0 (by assumption)) rfl rfl rfl (Nat.le_of_ble_eq_true rfl) (mo_pawned _ _ _ hQ1.1 hQ1.2.1) (fun _ _ h => h) (fun v J2 h => ?_)
  obtain ⟨⟨r2, rfl⟩, hQ2⟩ := h
  refine Rn.pop dL_law__1432 rfl ?_
  refine Rn.goto 1810 dL_law__1433 (by decide) ?_
  exact Rn.bud (by omega) (kk _ _ _ (hI.of (hQ1.tr hQ2)))
theorem lc_blue (h9 : gad G0 998 = b0) (hL : L ≤ 3072) (hi : i + 6 ≤ L) (hI : LI I) (kk : ∀ (J : Hi) (x5 x6 : Option Value), LI J → Rn (gw G0 ad) GAM mL_law_ (kZ (kL b0 L xs) G0 0 ad 108) 60 (8 * m) 1810 [some (.ref 998), some (.ref 0), some (.ref 94), some (.ref 107), some (.int (nI i)), x5, x6] [] J) : Rn (gw G0 ad) GAM mL_law_ (kZ (kL b0 L xs) G0 0 ad 108) 60 (8 * m + 8) 1436 [some (.ref 998), some (.ref 0), some (.ref 94), some (.ref 107), some (.int (nI i)), x5, x6] [] I := by
  refine Rn.aload_n dL_law__1436 rfl rfl ?_
  refine Rn.callV (As := []) dL_law__1437 mv_L_258 (by first | rfl | exact gC0 (by assumption) | exact gL0 (by assumption)) rfl rfl rfl (Nat.le_of_ble_eq_true rfl) (xd_blue _ _ _ hI.1 hI.2.1) (fun _ _ h => h) (fun v J1 h => ?_)
  obtain ⟨⟨r1, rfl⟩, hQ1⟩ := h
  refine Rn.pop dL_law__1440 rfl ?_
  refine Rn.aload_n dL_law__1441 rfl rfl ?_
  refine Rn.callV (As := []) dL_law__1442 mv_L_261 (by first | rfl | exact gC0 (by assumption) | exact gL0 (by assumption)) rfl rfl rfl (Nat.le_of_ble_eq_true rfl) (mo_blue _ _ _ hQ1.1 hQ1.2.1) (fun _ _ h => h) (fun v J2 h => ?_)
  obtain ⟨⟨r2, rfl⟩, hQ2⟩ := h
  refine Rn.pop dL_law__1445 rfl ?_
  refine Rn.goto 1810 dL_law__1446 (by decide) ?_
  exact Rn.bud (by omega) (kk _ _ _ (hI.of (hQ1.tr hQ2)))
theorem lc_alike (h9 : gad G0 998 = b0) (hL : L ≤ 3072) (hi : i + 6 ≤ L) (hI : LI I) (kk : ∀ (J : Hi) (x5 x6 : Option Value), LI J → Rn (gw G0 ad) GAM mL_law_ (kZ (kL b0 L xs) G0 0 ad 108) 60 (8 * m) 1810 [some (.ref 998), some (.ref 0), some (.ref 94), some (.ref 107), some (.int (nI i)), x5, x6] [] J) : Rn (gw G0 ad) GAM mL_law_ (kZ (kL b0 L xs) G0 0 ad 108) 60 (8 * m + 8) 1449 [some (.ref 998), some (.ref 0), some (.ref 94), some (.ref 107), some (.int (nI i)), x5, x6] [] I := by
  refine Rn.aload_n dL_law__1449 rfl rfl ?_
  refine Rn.callV (As := []) dL_law__1450 mv_L_262 (by first | rfl | exact gC0 (by assumption) | exact gL0 (by assumption)) rfl rfl rfl (Nat.le_of_ble_eq_true rfl) (xd_alike _ _ _ hI.1 hI.2.1) (fun _ _ h => h) (fun v J1 h => ?_)
  obtain ⟨⟨r1, rfl⟩, hQ1⟩ := h
  refine Rn.pop dL_law__1453 rfl ?_
  refine Rn.aload_n dL_law__1454 rfl rfl ?_
  refine Rn.callV (As := []) dL_law__1455 mv_L_265 (by first | rfl | exact gC0 (by assumption) | exact gL0 (by assumption)) rfl rfl rfl (Nat.le_of_ble_eq_true rfl) (mo_alike _ _ _ hQ1.1 hQ1.2.1) (fun _ _ h => h) (fun v J2 h => ?_)
  obtain ⟨⟨r2, rfl⟩, hQ2⟩ := h
  refine Rn.pop dL_law__1458 rfl ?_
  refine Rn.goto 1810 dL_law__1459 (by decide) ?_
  exact Rn.bud (by omega) (kk _ _ _ (hI.of (hQ1.tr hQ2)))
theorem lc_share (h9 : gad G0 998 = b0) (hL : L ≤ 3072) (hi : i + 6 ≤ L) (hI : LI I) (kk : ∀ (J : Hi) (x5 x6 : Option Value), LI J → Rn (gw G0 ad) GAM mL_law_ (kZ (kL b0 L xs) G0 0 ad 108) 60 (8 * m) 1810 [some (.ref 998), some (.ref 0), some (.ref 94), some (.ref 107), some (.int (nI i)), x5, x6] [] J) : Rn (gw G0 ad) GAM mL_law_ (kZ (kL b0 L xs) G0 0 ad 108) 60 (8 * m + 8) 1462 [some (.ref 998), some (.ref 0), some (.ref 94), some (.ref 107), some (.int (nI i)), x5, x6] [] I := by
  refine Rn.aload_n dL_law__1462 rfl rfl ?_
  refine Rn.aload_n dL_law__1463 rfl rfl ?_
  refine Rn.iload dL_law__1464 rfl ?_
  refine Rn.iconst (v := (nI 1)) dL_law__1466 rfl ?_
  refine Rn.iadd dL_law__1467 ?_
  refine Rn.topI (nI (i + 1)) (nI_add _ _) ?_
  refine Rn.sld dL_law__1468 h9 (by omega) (by omega) rfl ?_
  refine Rn.aload_n dL_law__1469 rfl rfl ?_
  refine Rn.iload dL_law__1470 rfl ?_
  refine Rn.iconst (v := (nI 2)) dL_law__1472 rfl ?_
  refine Rn.iadd dL_law__1473 ?_
  refine Rn.topI (nI (i + 2)) (nI_add _ _) ?_
  refine Rn.sld dL_law__1474 h9 (by omega) (by omega) rfl ?_
  refine Rn.aload_n dL_law__1475 rfl rfl ?_
  refine Rn.callW (b := 8 * m + 6) (mc := 2) (As := [_, _, _, _]) dL_law__1476 mw_L_266 rfl rfl (Nat.le_of_ble_eq_true rfl) (wr_share _ _ _ _ _ hI.1 hI.2.1) (fun _ _ h => h) (fun v J1 h => ?_)
  obtain ⟨⟨r1, rfl⟩, hQ1⟩ := h
  refine Rn.istore dL_law__1479 (by decide) ?_
  refine Rn.aload_n dL_law__1481 rfl rfl ?_
  refine Rn.aload_n dL_law__1482 rfl rfl ?_
  refine Rn.iload dL_law__1483 rfl ?_
  refine Rn.iconst (v := (nI 1)) dL_law__1485 rfl ?_
  refine Rn.iadd dL_law__1486 ?_
  refine Rn.topI (nI (i + 1)) (nI_add _ _) ?_
  refine Rn.sld dL_law__1487 h9 (by omega) (by omega) rfl ?_
  refine Rn.aload_n dL_law__1488 rfl rfl ?_
  refine Rn.iload dL_law__1489 rfl ?_
  refine Rn.iconst (v := (nI 2)) dL_law__1491 rfl ?_
  refine Rn.iadd dL_law__1492 ?_
  refine Rn.topI (nI (i + 2)) (nI_add _ _) ?_
  refine Rn.sld dL_law__1493 h9 (by omega) (by omega) rfl ?_
  refine Rn.callV (As := [_, _]) dL_law__1494 mv_L_268 (by first | rfl | exact gC0 (by assumption) | exact gL0 (by assumption)) rfl rfl rfl (Nat.le_of_ble_eq_true rfl) (mo_share _ _ _ _ _ hQ1.1 hQ1.2.1) (fun _ _ h => h) (fun v J2 h => ?_)
  obtain ⟨⟨r2, rfl⟩, hQ2⟩ := h
  refine Rn.istore dL_law__1497 (by decide) ?_
  refine Rn.goto 1810 dL_law__1499 (by decide) ?_
  exact Rn.bud (by omega) (kk _ _ _ (hI.of (hQ1.tr hQ2)))
theorem lc_odds (h9 : gad G0 998 = b0) (hL : L ≤ 3072) (hi : i + 6 ≤ L) (hI : LI I) (kk : ∀ (J : Hi) (x5 x6 : Option Value), LI J → Rn (gw G0 ad) GAM mL_law_ (kZ (kL b0 L xs) G0 0 ad 108) 60 (8 * m) 1810 [some (.ref 998), some (.ref 0), some (.ref 94), some (.ref 107), some (.int (nI i)), x5, x6] [] J) : Rn (gw G0 ad) GAM mL_law_ (kZ (kL b0 L xs) G0 0 ad 108) 60 (8 * m + 8) 1502 [some (.ref 998), some (.ref 0), some (.ref 94), some (.ref 107), some (.int (nI i)), x5, x6] [] I := by
  refine Rn.aload_n dL_law__1502 rfl rfl ?_
  refine Rn.callV (As := []) dL_law__1503 mv_L_269 (by first | rfl | exact gC0 (by assumption) | exact gL0 (by assumption)) rfl rfl rfl (Nat.le_of_ble_eq_true rfl) (xd_odds _ _ _ hI.1 hI.2.1) (fun _ _ h => h) (fun v J1 h => ?_)
  obtain ⟨⟨r1, rfl⟩, hQ1⟩ := h
  refine Rn.pop dL_law__1506 rfl ?_
  refine Rn.aload_n dL_law__1507 rfl rfl ?_
  refine Rn.callV (As := []) dL_law__1508 mv_L_272 (by first | rfl | exact gC0 (by assumption) | exact gL0 (by assumption)) rfl rfl rfl (Nat.le_of_ble_eq_true rfl) (mo_odds _ _ _ hQ1.1 hQ1.2.1) (fun _ _ h => h) (fun v J2 h => ?_)
  obtain ⟨⟨r2, rfl⟩, hQ2⟩ := h
  refine Rn.pop dL_law__1511 rfl ?_
  refine Rn.goto 1810 dL_law__1512 (by decide) ?_
  exact Rn.bud (by omega) (kk _ _ _ (hI.of (hQ1.tr hQ2)))
end LawC
