theorem dL_law__1273 : decode cL_law_ 1273 = .ok (.aload_n 1, 1) := by decide +kernel
theorem dL_law__1274 : decode cL_law_ 1274 = .ok (.aload_n 0, 1) := by decide +kernel
theorem dL_law__1275 : decode cL_law_ 1275 = .ok (.iload 4, 2) := by decide +kernel
theorem dL_law__1277 : decode cL_law_ 1277 = .ok (.iconst 1, 1) := by decide +kernel
theorem dL_law__1278 : decode cL_law_ 1278 = .ok (.iadd, 1) := by decide +kernel
theorem dL_law__1279 : decode cL_law_ 1279 = .ok (.iaload, 1) := by decide +kernel
theorem dL_law__1280 : decode cL_law_ 1280 = .ok (.aload_n 3, 1) := by decide +kernel
theorem dL_law__1281 : decode cL_law_ 1281 = .ok (.invokestatic 234, 3) := by decide +kernel
theorem wi_1184 : Cond.codeWith yL_ring cL_ring 4 (some .int) [(0, 16, 19, 24)] ∈ WA := zin 1184 (by decide +kernel) (by decide +kernel)
theorem wi_1182 : Cond.methodLink RL 234 yL_ring ∈ WA := zin 1182 (by decide +kernel) (by decide +kernel)
theorem wi_1183 : Cond.static yL_ring ∈ WA := zin 1183 (by decide +kernel) (by decide +kernel)
theorem mw_L_234 : zMw RL 234 mL_ring [(0, 16, 19, 24)] 3 := ⟨wi_1182, wi_99, wi_1184, by decide, by decide +kernel, wi_1183⟩
theorem dL_law__1284 : decode cL_law_ 1284 = .ok (.istore 5, 2) := by decide +kernel
theorem dL_law__1286 : decode cL_law_ 1286 = .ok (.aload_n 2, 1) := by decide +kernel
theorem dL_law__1287 : decode cL_law_ 1287 = .ok (.aload_n 0, 1) := by decide +kernel
theorem dL_law__1288 : decode cL_law_ 1288 = .ok (.iload 4, 2) := by decide +kernel
theorem dL_law__1290 : decode cL_law_ 1290 = .ok (.iconst 1, 1) := by decide +kernel
theorem dL_law__1291 : decode cL_law_ 1291 = .ok (.iadd, 1) := by decide +kernel
theorem dL_law__1292 : decode cL_law_ 1292 = .ok (.iaload, 1) := by decide +kernel
theorem dL_law__1293 : decode cL_law_ 1293 = .ok (.invokevirtual 236, 3) := by decide +kernel
theorem wi_1860 : Cond.methodLink RL 236 yX10_ring ∈ WA := zin 1860 (by decide +kernel) (by decide +kernel)
theorem wi_1863 : Cond.code yX10_ring cX10_ring 4 (some .boolean) ∈ WA := zin 1863 (by decide +kernel) (by decide +kernel)
theorem wi_1861 : Cond.instanceMethod yX10_ring ∈ WA := zin 1861 (by decide +kernel) (by decide +kernel)
theorem wi_1862 : Cond.selects RX10 yX10_ring yX10_ring ∈ WA := zin 1862 (by decide +kernel) (by decide +kernel)
theorem mv_L_236 : zMv RL 236 RX10 mX10_ring 1 := ⟨⟨wi_1860, wi_110, wi_1863, by decide, by decide +kernel⟩, wi_1861, wi_1862⟩
theorem dL_law__1296 : decode cL_law_ 1296 = .ok (.istore 6, 2) := by decide +kernel
theorem dL_law__1298 : decode cL_law_ 1298 = .ok (.goto 484, 3) := by decide +kernel
theorem dL_law__1301 : decode cL_law_ 1301 = .ok (.aload_n 1, 1) := by decide +kernel
theorem dL_law__1302 : decode cL_law_ 1302 = .ok (.aload_n 0, 1) := by decide +kernel
theorem dL_law__1303 : decode cL_law_ 1303 = .ok (.iload 4, 2) := by decide +kernel
theorem dL_law__1305 : decode cL_law_ 1305 = .ok (.iconst 1, 1) := by decide +kernel
theorem dL_law__1306 : decode cL_law_ 1306 = .ok (.iadd, 1) := by decide +kernel
theorem dL_law__1307 : decode cL_law_ 1307 = .ok (.iaload, 1) := by decide +kernel
theorem dL_law__1308 : decode cL_law_ 1308 = .ok (.aload_n 0, 1) := by decide +kernel
theorem dL_law__1309 : decode cL_law_ 1309 = .ok (.iload 4, 2) := by decide +kernel
theorem dL_law__1311 : decode cL_law_ 1311 = .ok (.iconst 2, 1) := by decide +kernel
theorem dL_law__1312 : decode cL_law_ 1312 = .ok (.iadd, 1) := by decide +kernel
theorem dL_law__1313 : decode cL_law_ 1313 = .ok (.iaload, 1) := by decide +kernel
theorem dL_law__1314 : decode cL_law_ 1314 = .ok (.aload_n 3, 1) := by decide +kernel
theorem dL_law__1315 : decode cL_law_ 1315 = .ok (.invokestatic 237, 3) := by decide +kernel
theorem wi_1195 : Cond.codeWith yL_runs cL_runs 5 (some .int) [(0, 10, 13, 24), (0, 10, 17, 13)] ∈ WA := zin 1195 (by decide +kernel) (by decide +kernel)
theorem wi_1193 : Cond.methodLink RL 237 yL_runs ∈ WA := zin 1193 (by decide +kernel) (by decide +kernel)
theorem wi_1194 : Cond.static yL_runs ∈ WA := zin 1194 (by decide +kernel) (by decide +kernel)
theorem mw_L_237 : zMw RL 237 mL_runs [(0, 10, 13, 24), (0, 10, 17, 13)] 4 := ⟨wi_1193, wi_99, wi_1195, by decide, by decide +kernel, wi_1194⟩
theorem dL_law__1318 : decode cL_law_ 1318 = .ok (.istore 5, 2) := by decide +kernel
theorem dL_law__1320 : decode cL_law_ 1320 = .ok (.aload_n 2, 1) := by decide +kernel
theorem dL_law__1321 : decode cL_law_ 1321 = .ok (.aload_n 0, 1) := by decide +kernel
theorem dL_law__1322 : decode cL_law_ 1322 = .ok (.iload 4, 2) := by decide +kernel
theorem dL_law__1324 : decode cL_law_ 1324 = .ok (.iconst 1, 1) := by decide +kernel
theorem dL_law__1325 : decode cL_law_ 1325 = .ok (.iadd, 1) := by decide +kernel
theorem dL_law__1326 : decode cL_law_ 1326 = .ok (.iaload, 1) := by decide +kernel
theorem dL_law__1327 : decode cL_law_ 1327 = .ok (.aload_n 0, 1) := by decide +kernel
theorem dL_law__1328 : decode cL_law_ 1328 = .ok (.iload 4, 2) := by decide +kernel
theorem dL_law__1330 : decode cL_law_ 1330 = .ok (.iconst 2, 1) := by decide +kernel
theorem dL_law__1331 : decode cL_law_ 1331 = .ok (.iadd, 1) := by decide +kernel
theorem dL_law__1332 : decode cL_law_ 1332 = .ok (.iaload, 1) := by decide +kernel
theorem dL_law__1333 : decode cL_law_ 1333 = .ok (.invokevirtual 239, 3) := by decide +kernel
theorem wi_1765 : Cond.methodLink RL 239 yX10_runs ∈ WA := zin 1765 (by decide +kernel) (by decide +kernel)
theorem wi_1768 : Cond.code yX10_runs cX10_runs 4 (some .int) ∈ WA := zin 1768 (by decide +kernel) (by decide +kernel)
theorem wi_1766 : Cond.instanceMethod yX10_runs ∈ WA := zin 1766 (by decide +kernel) (by decide +kernel)
theorem wi_1767 : Cond.selects RX10 yX10_runs yX10_runs ∈ WA := zin 1767 (by decide +kernel) (by decide +kernel)
theorem mv_L_239 : zMv RL 239 RX10 mX10_runs 2 := ⟨⟨wi_1765, wi_110, wi_1768, by decide, by decide +kernel⟩, wi_1766, wi_1767⟩
theorem dL_law__1336 : decode cL_law_ 1336 = .ok (.istore 6, 2) := by decide +kernel
theorem dL_law__1338 : decode cL_law_ 1338 = .ok (.goto 444, 3) := by decide +kernel
theorem dL_law__1341 : decode cL_law_ 1341 = .ok (.aload_n 1, 1) := by decide +kernel
theorem dL_law__1342 : decode cL_law_ 1342 = .ok (.aload_n 0, 1) := by decide +kernel
theorem dL_law__1343 : decode cL_law_ 1343 = .ok (.iload 4, 2) := by decide +kernel
theorem dL_law__1345 : decode cL_law_ 1345 = .ok (.iconst 1, 1) := by decide +kernel
theorem dL_law__1346 : decode cL_law_ 1346 = .ok (.iadd, 1) := by decide +kernel
theorem dL_law__1347 : decode cL_law_ 1347 = .ok (.iaload, 1) := by decide +kernel
theorem dL_law__1348 : decode cL_law_ 1348 = .ok (.aload_n 3, 1) := by decide +kernel
theorem dL_law__1349 : decode cL_law_ 1349 = .ok (.invokestatic 240, 3) := by decide +kernel
theorem wi_1207 : Cond.codeWith yL_spent cL_spent 4 (some .int) [(0, 9, 12, 24)] ∈ WA := zin 1207 (by decide +kernel) (by decide +kernel)
theorem wi_1205 : Cond.methodLink RL 240 yL_spent ∈ WA := zin 1205 (by decide +kernel) (by decide +kernel)
theorem wi_1206 : Cond.static yL_spent ∈ WA := zin 1206 (by decide +kernel) (by decide +kernel)
theorem mw_L_240 : zMw RL 240 mL_spent [(0, 9, 12, 24)] 3 := ⟨wi_1205, wi_99, wi_1207, by decide, by decide +kernel, wi_1206⟩
theorem dL_law__1352 : decode cL_law_ 1352 = .ok (.istore 5, 2) := by decide +kernel
theorem dL_law__1354 : decode cL_law_ 1354 = .ok (.aload_n 2, 1) := by decide +kernel
theorem dL_law__1355 : decode cL_law_ 1355 = .ok (.aload_n 0, 1) := by decide +kernel
theorem dL_law__1356 : decode cL_law_ 1356 = .ok (.iload 4, 2) := by decide +kernel
theorem dL_law__1358 : decode cL_law_ 1358 = .ok (.iconst 1, 1) := by decide +kernel
theorem dL_law__1359 : decode cL_law_ 1359 = .ok (.iadd, 1) := by decide +kernel
theorem dL_law__1360 : decode cL_law_ 1360 = .ok (.iaload, 1) := by decide +kernel
theorem dL_law__1361 : decode cL_law_ 1361 = .ok (.invokevirtual 242, 3) := by decide +kernel
theorem wi_1773 : Cond.methodLink RL 242 yX10_spent ∈ WA := zin 1773 (by decide +kernel) (by decide +kernel)
theorem wi_1776 : Cond.code yX10_spent cX10_spent 4 (some .int) ∈ WA := zin 1776 (by decide +kernel) (by decide +kernel)
theorem wi_1774 : Cond.instanceMethod yX10_spent ∈ WA := zin 1774 (by decide +kernel) (by decide +kernel)
theorem wi_1775 : Cond.selects RX10 yX10_spent yX10_spent ∈ WA := zin 1775 (by decide +kernel) (by decide +kernel)
theorem mv_L_242 : zMv RL 242 RX10 mX10_spent 1 := ⟨⟨wi_1773, wi_110, wi_1776, by decide, by decide +kernel⟩, wi_1774, wi_1775⟩
theorem dL_law__1364 : decode cL_law_ 1364 = .ok (.istore 6, 2) := by decide +kernel
theorem dL_law__1366 : decode cL_law_ 1366 = .ok (.goto 416, 3) := by decide +kernel
theorem dL_law__1369 : decode cL_law_ 1369 = .ok (.aload_n 1, 1) := by decide +kernel
theorem dL_law__1370 : decode cL_law_ 1370 = .ok (.invokevirtual 243, 3) := by decide +kernel
theorem wi_449 : Cond.methodLink RL 243 yX9_oldest ∈ WA := zin 449 (by decide +kernel) (by decide +kernel)
theorem wi_452 : Cond.code yX9_oldest cX9_oldest 3 (some .int) ∈ WA := zin 452 (by decide +kernel) (by decide +kernel)
theorem wi_450 : Cond.instanceMethod yX9_oldest ∈ WA := zin 450 (by decide +kernel) (by decide +kernel)
theorem wi_451 : Cond.selects RX9 yX9_oldest yX9_oldest ∈ WA := zin 451 (by decide +kernel) (by decide +kernel)
theorem mv_L_243 : zMv RL 243 RX9 mX9_oldest 0 := ⟨⟨wi_449, wi_100, wi_452, by decide, by decide +kernel⟩, wi_450, wi_451⟩
theorem dL_law__1373 : decode cL_law_ 1373 = .ok (.pop, 1) := by decide +kernel
theorem dL_law__1374 : decode cL_law_ 1374 = .ok (.aload_n 2, 1) := by decide +kernel
theorem dL_law__1375 : decode cL_law_ 1375 = .ok (.invokevirtual 246, 3) := by decide +kernel
theorem wi_1868 : Cond.methodLink RL 246 yX10_oldest ∈ WA := zin 1868 (by decide +kernel) (by decide +kernel)
theorem wi_1871 : Cond.code yX10_oldest cX10_oldest 3 (some .int) ∈ WA := zin 1871 (by decide +kernel) (by decide +kernel)
theorem wi_1869 : Cond.instanceMethod yX10_oldest ∈ WA := zin 1869 (by decide +kernel) (by decide +kernel)
theorem wi_1870 : Cond.selects RX10 yX10_oldest yX10_oldest ∈ WA := zin 1870 (by decide +kernel) (by decide +kernel)
theorem mv_L_246 : zMv RL 246 RX10 mX10_oldest 0 := ⟨⟨wi_1868, wi_110, wi_1871, by decide, by decide +kernel⟩, wi_1869, wi_1870⟩
theorem dL_law__1378 : decode cL_law_ 1378 = .ok (.pop, 1) := by decide +kernel
theorem dL_law__1379 : decode cL_law_ 1379 = .ok (.goto 403, 3) := by decide +kernel
theorem dL_law__1382 : decode cL_law_ 1382 = .ok (.aload_n 1, 1) := by decide +kernel
theorem dL_law__1383 : decode cL_law_ 1383 = .ok (.invokevirtual 247, 3) := by decide +kernel
theorem wi_454 : Cond.methodLink RL 247 yX9_stuck ∈ WA := zin 454 (by decide +kernel) (by decide +kernel)
theorem wi_457 : Cond.code yX9_stuck cX9_stuck 1 (some .int) ∈ WA := zin 457 (by decide +kernel) (by decide +kernel)
theorem wi_455 : Cond.instanceMethod yX9_stuck ∈ WA := zin 455 (by decide +kernel) (by decide +kernel)
theorem wi_456 : Cond.selects RX9 yX9_stuck yX9_stuck ∈ WA := zin 456 (by decide +kernel) (by decide +kernel)
theorem mv_L_247 : zMv RL 247 RX9 mX9_stuck 0 := ⟨⟨wi_454, wi_100, wi_457, by decide, by decide +kernel⟩, wi_455, wi_456⟩
theorem dL_law__1386 : decode cL_law_ 1386 = .ok (.pop, 1) := by decide +kernel
theorem dL_law__1387 : decode cL_law_ 1387 = .ok (.aload_n 2, 1) := by decide +kernel
theorem dL_law__1388 : decode cL_law_ 1388 = .ok (.invokevirtual 250, 3) := by decide +kernel
theorem wi_1872 : Cond.methodLink RL 250 yX10_stuck ∈ WA := zin 1872 (by decide +kernel) (by decide +kernel)
theorem wi_1875 : Cond.code yX10_stuck cX10_stuck 1 (some .int) ∈ WA := zin 1875 (by decide +kernel) (by decide +kernel)
theorem wi_1873 : Cond.instanceMethod yX10_stuck ∈ WA := zin 1873 (by decide +kernel) (by decide +kernel)
theorem wi_1874 : Cond.selects RX10 yX10_stuck yX10_stuck ∈ WA := zin 1874 (by decide +kernel) (by decide +kernel)
theorem mv_L_250 : zMv RL 250 RX10 mX10_stuck 0 := ⟨⟨wi_1872, wi_110, wi_1875, by decide, by decide +kernel⟩, wi_1873, wi_1874⟩
theorem dL_law__1391 : decode cL_law_ 1391 = .ok (.pop, 1) := by decide +kernel
theorem dL_law__1392 : decode cL_law_ 1392 = .ok (.goto 390, 3) := by decide +kernel
theorem dL_law__1395 : decode cL_law_ 1395 = .ok (.aload_n 1, 1) := by decide +kernel
theorem dL_law__1396 : decode cL_law_ 1396 = .ok (.invokevirtual 251, 3) := by decide +kernel
theorem wi_462 : Cond.methodLink RL 251 yX9_pawned ∈ WA := zin 462 (by decide +kernel) (by decide +kernel)
theorem wi_465 : Cond.code yX9_pawned cX9_pawned 1 (some .int) ∈ WA := zin 465 (by decide +kernel) (by decide +kernel)
theorem wi_463 : Cond.instanceMethod yX9_pawned ∈ WA := zin 463 (by decide +kernel) (by decide +kernel)
theorem wi_464 : Cond.selects RX9 yX9_pawned yX9_pawned ∈ WA := zin 464 (by decide +kernel) (by decide +kernel)
theorem mv_L_251 : zMv RL 251 RX9 mX9_pawned 0 := ⟨⟨wi_462, wi_100, wi_465, by decide, by decide +kernel⟩, wi_463, wi_464⟩
theorem dL_law__1399 : decode cL_law_ 1399 = .ok (.pop, 1) := by decide +kernel
theorem dL_law__1400 : decode cL_law_ 1400 = .ok (.aload_n 2, 1) := by decide +kernel
theorem dL_law__1401 : decode cL_law_ 1401 = .ok (.invokevirtual 254, 3) := by decide +kernel
theorem wi_1876 : Cond.methodLink RL 254 yX10_pawned ∈ WA := zin 1876 (by decide +kernel) (by decide +kernel)
theorem wi_1879 : Cond.code yX10_pawned cX10_pawned 1 (some .int) ∈ WA := zin 1879 (by decide +kernel) (by decide +kernel)
theorem wi_1877 : Cond.instanceMethod yX10_pawned ∈ WA := zin 1877 (by decide +kernel) (by decide +kernel)
theorem wi_1878 : Cond.selects RX10 yX10_pawned yX10_pawned ∈ WA := zin 1878 (by decide +kernel) (by decide +kernel)
theorem mv_L_254 : zMv RL 254 RX10 mX10_pawned 0 := ⟨⟨wi_1876, wi_110, wi_1879, by decide, by decide +kernel⟩, wi_1877, wi_1878⟩
theorem dL_law__1404 : decode cL_law_ 1404 = .ok (.pop, 1) := by decide +kernel
theorem dL_law__1405 : decode cL_law_ 1405 = .ok (.goto 377, 3) := by decide +kernel
theorem dL_law__1408 : decode cL_law_ 1408 = .ok (.aload_n 1, 1) := by decide +kernel
theorem dL_law__1409 : decode cL_law_ 1409 = .ok (.invokevirtual 255, 3) := by decide +kernel
theorem wi_466 : Cond.methodLink RL 255 yX9_blue ∈ WA := zin 466 (by decide +kernel) (by decide +kernel)
theorem wi_469 : Cond.code yX9_blue cX9_blue 1 (some .int) ∈ WA := zin 469 (by decide +kernel) (by decide +kernel)
theorem wi_467 : Cond.instanceMethod yX9_blue ∈ WA := zin 467 (by decide +kernel) (by decide +kernel)
theorem wi_468 : Cond.selects RX9 yX9_blue yX9_blue ∈ WA := zin 468 (by decide +kernel) (by decide +kernel)
theorem mv_L_255 : zMv RL 255 RX9 mX9_blue 0 := ⟨⟨wi_466, wi_100, wi_469, by decide, by decide +kernel⟩, wi_467, wi_468⟩
theorem dL_law__1412 : decode cL_law_ 1412 = .ok (.aload_n 2, 1) := by decide +kernel
theorem dL_law__1413 : decode cL_law_ 1413 = .ok (.invokevirtual 258, 3) := by decide +kernel
theorem wi_1880 : Cond.methodLink RL 258 yX10_blue ∈ WA := zin 1880 (by decide +kernel) (by decide +kernel)
theorem wi_1883 : Cond.code yX10_blue cX10_blue 1 (some .int) ∈ WA := zin 1883 (by decide +kernel) (by decide +kernel)
theorem wi_1881 : Cond.instanceMethod yX10_blue ∈ WA := zin 1881 (by decide +kernel) (by decide +kernel)
theorem wi_1882 : Cond.selects RX10 yX10_blue yX10_blue ∈ WA := zin 1882 (by decide +kernel) (by decide +kernel)
theorem mv_L_258 : zMv RL 258 RX10 mX10_blue 0 := ⟨⟨wi_1880, wi_110, wi_1883, by decide, by decide +kernel⟩, wi_1881, wi_1882⟩
theorem dL_law__1416 : decode cL_law_ 1416 = .ok (.if_icmp .eq 366, 3) := by decide +kernel
theorem dL_law__1421 : decode cL_law_ 1421 = .ok (.aload_n 1, 1) := by decide +kernel
theorem dL_law__1422 : decode cL_law_ 1422 = .ok (.invokevirtual 259, 3) := by decide +kernel
theorem wi_470 : Cond.methodLink RL 259 yX9_alike ∈ WA := zin 470 (by decide +kernel) (by decide +kernel)
theorem wi_473 : Cond.code yX9_alike cX9_alike 4 (some .int) ∈ WA := zin 473 (by decide +kernel) (by decide +kernel)
theorem wi_471 : Cond.instanceMethod yX9_alike ∈ WA := zin 471 (by decide +kernel) (by decide +kernel)
theorem wi_472 : Cond.selects RX9 yX9_alike yX9_alike ∈ WA := zin 472 (by decide +kernel) (by decide +kernel)
theorem mv_L_259 : zMv RL 259 RX9 mX9_alike 0 := ⟨⟨wi_470, wi_100, wi_473, by decide, by decide +kernel⟩, wi_471, wi_472⟩
theorem dL_law__1425 : decode cL_law_ 1425 = .ok (.pop, 1) := by decide +kernel
theorem dL_law__1426 : decode cL_law_ 1426 = .ok (.aload_n 2, 1) := by decide +kernel
theorem dL_law__1427 : decode cL_law_ 1427 = .ok (.invokevirtual 262, 3) := by decide +kernel
theorem wi_1884 : Cond.methodLink RL 262 yX10_alike ∈ WA := zin 1884 (by decide +kernel) (by decide +kernel)
theorem wi_1887 : Cond.code yX10_alike cX10_alike 4 (some .int) ∈ WA := zin 1887 (by decide +kernel) (by decide +kernel)
theorem wi_1885 : Cond.instanceMethod yX10_alike ∈ WA := zin 1885 (by decide +kernel) (by decide +kernel)
theorem wi_1886 : Cond.selects RX10 yX10_alike yX10_alike ∈ WA := zin 1886 (by decide +kernel) (by decide +kernel)
theorem mv_L_262 : zMv RL 262 RX10 mX10_alike 0 := ⟨⟨wi_1884, wi_110, wi_1887, by decide, by decide +kernel⟩, wi_1885, wi_1886⟩
theorem dL_law__1430 : decode cL_law_ 1430 = .ok (.pop, 1) := by decide +kernel
theorem dL_law__1431 : decode cL_law_ 1431 = .ok (.goto 351, 3) := by decide +kernel
theorem dL_law__1434 : decode cL_law_ 1434 = .ok (.aload_n 1, 1) := by decide +kernel
theorem dL_law__1435 : decode cL_law_ 1435 = .ok (.aload_n 0, 1) := by decide +kernel
theorem dL_law__1436 : decode cL_law_ 1436 = .ok (.iload 4, 2) := by decide +kernel
theorem dL_law__1438 : decode cL_law_ 1438 = .ok (.iconst 1, 1) := by decide +kernel
theorem dL_law__1439 : decode cL_law_ 1439 = .ok (.iadd, 1) := by decide +kernel
theorem dL_law__1440 : decode cL_law_ 1440 = .ok (.iaload, 1) := by decide +kernel
theorem dL_law__1441 : decode cL_law_ 1441 = .ok (.aload_n 0, 1) := by decide +kernel
theorem dL_law__1442 : decode cL_law_ 1442 = .ok (.iload 4, 2) := by decide +kernel
theorem dL_law__1444 : decode cL_law_ 1444 = .ok (.iconst 2, 1) := by decide +kernel
theorem dL_law__1445 : decode cL_law_ 1445 = .ok (.iadd, 1) := by decide +kernel
theorem dL_law__1446 : decode cL_law_ 1446 = .ok (.iaload, 1) := by decide +kernel
theorem dL_law__1447 : decode cL_law_ 1447 = .ok (.aload_n 3, 1) := by decide +kernel
theorem dL_law__1448 : decode cL_law_ 1448 = .ok (.invokestatic 263, 3) := by decide +kernel
theorem wi_1214 : Cond.codeWith yL_share cL_share 5 (some .int) [(0, 10, 13, 24)] ∈ WA := zin 1214 (by decide +kernel) (by decide +kernel)
theorem wi_1212 : Cond.methodLink RL 263 yL_share ∈ WA := zin 1212 (by decide +kernel) (by decide +kernel)
theorem wi_1213 : Cond.static yL_share ∈ WA := zin 1213 (by decide +kernel) (by decide +kernel)
theorem mw_L_263 : zMw RL 263 mL_share [(0, 10, 13, 24)] 4 := ⟨wi_1212, wi_99, wi_1214, by decide, by decide +kernel, wi_1213⟩
theorem dL_law__1451 : decode cL_law_ 1451 = .ok (.istore 5, 2) := by decide +kernel
theorem dL_law__1453 : decode cL_law_ 1453 = .ok (.aload_n 2, 1) := by decide +kernel
theorem dL_law__1454 : decode cL_law_ 1454 = .ok (.aload_n 0, 1) := by decide +kernel
theorem dL_law__1455 : decode cL_law_ 1455 = .ok (.iload 4, 2) := by decide +kernel
theorem dL_law__1457 : decode cL_law_ 1457 = .ok (.iconst 1, 1) := by decide +kernel
theorem dL_law__1458 : decode cL_law_ 1458 = .ok (.iadd, 1) := by decide +kernel
theorem dL_law__1459 : decode cL_law_ 1459 = .ok (.iaload, 1) := by decide +kernel
theorem dL_law__1460 : decode cL_law_ 1460 = .ok (.aload_n 0, 1) := by decide +kernel
theorem dL_law__1461 : decode cL_law_ 1461 = .ok (.iload 4, 2) := by decide +kernel
theorem dL_law__1463 : decode cL_law_ 1463 = .ok (.iconst 2, 1) := by decide +kernel
theorem dL_law__1464 : decode cL_law_ 1464 = .ok (.iadd, 1) := by decide +kernel
theorem dL_law__1465 : decode cL_law_ 1465 = .ok (.iaload, 1) := by decide +kernel
theorem dL_law__1466 : decode cL_law_ 1466 = .ok (.invokevirtual 265, 3) := by decide +kernel
theorem wi_1892 : Cond.methodLink RL 265 yX10_share ∈ WA := zin 1892 (by decide +kernel) (by decide +kernel)
theorem wi_1895 : Cond.code yX10_share cX10_share 5 (some .int) ∈ WA := zin 1895 (by decide +kernel) (by decide +kernel)
theorem wi_1893 : Cond.instanceMethod yX10_share ∈ WA := zin 1893 (by decide +kernel) (by decide +kernel)
theorem wi_1894 : Cond.selects RX10 yX10_share yX10_share ∈ WA := zin 1894 (by decide +kernel) (by decide +kernel)
theorem mv_L_265 : zMv RL 265 RX10 mX10_share 2 := ⟨⟨wi_1892, wi_110, wi_1895, by decide, by decide +kernel⟩, wi_1893, wi_1894⟩
theorem dL_law__1469 : decode cL_law_ 1469 = .ok (.istore 6, 2) := by decide +kernel
theorem dL_law__1471 : decode cL_law_ 1471 = .ok (.goto 311, 3) := by decide +kernel
theorem dL_law__1474 : decode cL_law_ 1474 = .ok (.aload_n 1, 1) := by decide +kernel
theorem dL_law__1475 : decode cL_law_ 1475 = .ok (.invokevirtual 266, 3) := by decide +kernel
theorem wi_478 : Cond.methodLink RL 266 yX9_odds ∈ WA := zin 478 (by decide +kernel) (by decide +kernel)
theorem wi_481 : Cond.code yX9_odds cX9_odds 5 (some .int) ∈ WA := zin 481 (by decide +kernel) (by decide +kernel)
theorem wi_479 : Cond.instanceMethod yX9_odds ∈ WA := zin 479 (by decide +kernel) (by decide +kernel)
theorem wi_480 : Cond.selects RX9 yX9_odds yX9_odds ∈ WA := zin 480 (by decide +kernel) (by decide +kernel)
theorem mv_L_266 : zMv RL 266 RX9 mX9_odds 0 := ⟨⟨wi_478, wi_100, wi_481, by decide, by decide +kernel⟩, wi_479, wi_480⟩
theorem dL_law__1478 : decode cL_law_ 1478 = .ok (.pop, 1) := by decide +kernel
theorem dL_law__1479 : decode cL_law_ 1479 = .ok (.aload_n 2, 1) := by decide +kernel
theorem dL_law__1480 : decode cL_law_ 1480 = .ok (.invokevirtual 269, 3) := by decide +kernel
theorem wi_1896 : Cond.methodLink RL 269 yX10_odds ∈ WA := zin 1896 (by decide +kernel) (by decide +kernel)
theorem wi_1899 : Cond.code yX10_odds cX10_odds 4 (some .int) ∈ WA := zin 1899 (by decide +kernel) (by decide +kernel)
theorem wi_1897 : Cond.instanceMethod yX10_odds ∈ WA := zin 1897 (by decide +kernel) (by decide +kernel)
theorem wi_1898 : Cond.selects RX10 yX10_odds yX10_odds ∈ WA := zin 1898 (by decide +kernel) (by decide +kernel)
theorem mv_L_269 : zMv RL 269 RX10 mX10_odds 0 := ⟨⟨wi_1896, wi_110, wi_1899, by decide, by decide +kernel⟩, wi_1897, wi_1898⟩
theorem dL_law__1483 : decode cL_law_ 1483 = .ok (.pop, 1) := by decide +kernel
theorem dL_law__1484 : decode cL_law_ 1484 = .ok (.goto 298, 3) := by decide +kernel
section LawC
variable {G0 : Gx} {b0 L m i : Nat} {xs : Nat → Int32} {ad : Nat → Nat} {I : Hi} {x5 x6 : Option Value}
theorem lc_ring (h9 : gad G0 998 = b0) (hL : L ≤ 3072) (hi : i + 6 ≤ L) (hI : LI I) (kk : ∀ (J : Hi) (x5 x6 : Option Value), LI J → Rn (gw G0 ad) GAM mL_law_ (kZ (kL b0 L xs) G0 0 ad 108) 60 (8 * m) 1782 [some (.ref 998), some (.ref 0), some (.ref 94), some (.ref 107), some (.int (nI i)), x5, x6] [] J) : Rn (gw G0 ad) GAM mL_law_ (kZ (kL b0 L xs) G0 0 ad 108) 60 (8 * m + 8) 1273 [some (.ref 998), some (.ref 0), some (.ref 94), some (.ref 107), some (.int (nI i)), x5, x6] [] I := by
  refine Rn.aload_n dL_law__1273 rfl rfl ?_
  refine Rn.aload_n dL_law__1274 rfl rfl ?_
  refine Rn.iload dL_law__1275 rfl ?_
  refine Rn.iconst (v := (nI 1)) dL_law__1277 rfl ?_
  refine Rn.iadd dL_law__1278 ?_
  refine Rn.topI (nI (i + 1)) (nI_add _ _) ?_
  refine Rn.sld dL_law__1279 h9 (by omega) (by omega) rfl ?_
  refine Rn.aload_n dL_law__1280 rfl rfl ?_
  refine Rn.callW (b := 8 * m + 7) (mc := 1) (As := [_, _, _]) dL_law__1281 mw_L_234 rfl rfl (Nat.le_of_ble_eq_true rfl) (wr_ring _ _ _ _ hI.1 hI.2.1) (fun _ _ h => h) (fun v J1 h => ?_)
  obtain ⟨⟨r1, rfl⟩, hQ1⟩ := h
  refine Rn.istore dL_law__1284 (by decide) ?_
  refine Rn.aload_n dL_law__1286 rfl rfl ?_
  refine Rn.aload_n dL_law__1287 rfl rfl ?_
  refine Rn.iload dL_law__1288 rfl ?_
  refine Rn.iconst (v := (nI 1)) dL_law__1290 rfl ?_
  refine Rn.iadd dL_law__1291 ?_
  refine Rn.topI (nI (i + 1)) (nI_add _ _) ?_
  refine Rn.sld dL_law__1292 h9 (by omega) (by omega) rfl ?_
  refine Rn.callV (As := [_]) dL_law__1293 mv_L_236 (by first | rfl | exact gC0 (by assumption) | exact gL0 (by assumption)) rfl rfl rfl (Nat.le_of_ble_eq_true rfl) (mo_ring _ _ _ _ hQ1.1 hQ1.2.1) (fun _ _ h => h) (fun v J2 h => ?_)
  obtain ⟨⟨r2, rfl⟩, hQ2⟩ := h
  refine Rn.istore dL_law__1296 (by decide) ?_
  refine Rn.goto 1782 dL_law__1298 (by decide) ?_
  exact Rn.bud (by omega) (kk _ _ _ (hI.of (hQ1.tr hQ2)))
theorem lc_runs (h9 : gad G0 998 = b0) (hL : L ≤ 3072) (hi : i + 6 ≤ L) (hI : LI I) (kk : ∀ (J : Hi) (x5 x6 : Option Value), LI J → Rn (gw G0 ad) GAM mL_law_ (kZ (kL b0 L xs) G0 0 ad 108) 60 (8 * m) 1782 [some (.ref 998), some (.ref 0), some (.ref 94), some (.ref 107), some (.int (nI i)), x5, x6] [] J) : Rn (gw G0 ad) GAM mL_law_ (kZ (kL b0 L xs) G0 0 ad 108) 60 (8 * m + 8) 1301 [some (.ref 998), some (.ref 0), some (.ref 94), some (.ref 107), some (.int (nI i)), x5, x6] [] I := by
  refine Rn.aload_n dL_law__1301 rfl rfl ?_
  refine Rn.aload_n dL_law__1302 rfl rfl ?_
  refine Rn.iload dL_law__1303 rfl ?_
  refine Rn.iconst (v := (nI 1)) dL_law__1305 rfl ?_
  refine Rn.iadd dL_law__1306 ?_
  refine Rn.topI (nI (i + 1)) (nI_add _ _) ?_
  refine Rn.sld dL_law__1307 h9 (by omega) (by omega) rfl ?_
  refine Rn.aload_n dL_law__1308 rfl rfl ?_
  refine Rn.iload dL_law__1309 rfl ?_
  refine Rn.iconst (v := (nI 2)) dL_law__1311 rfl ?_
  refine Rn.iadd dL_law__1312 ?_
  refine Rn.topI (nI (i + 2)) (nI_add _ _) ?_
  refine Rn.sld dL_law__1313 h9 (by omega) (by omega) rfl ?_
  refine Rn.aload_n dL_law__1314 rfl rfl ?_
  refine Rn.callW (b := 8 * m + 6) (mc := 2) (As := [_, _, _, _]) dL_law__1315 mw_L_237 rfl rfl (Nat.le_of_ble_eq_true rfl) (wr_runs _ _ _ _ _ hI.1 hI.2.1) (fun _ _ h => h) (fun v J1 h => ?_)
  obtain ⟨⟨r1, rfl⟩, hQ1⟩ := h
  refine Rn.istore dL_law__1318 (by decide) ?_
  refine Rn.aload_n dL_law__1320 rfl rfl ?_
  refine Rn.aload_n dL_law__1321 rfl rfl ?_
  refine Rn.iload dL_law__1322 rfl ?_
  refine Rn.iconst (v := (nI 1)) dL_law__1324 rfl ?_
  refine Rn.iadd dL_law__1325 ?_
  refine Rn.topI (nI (i + 1)) (nI_add _ _) ?_
  refine Rn.sld dL_law__1326 h9 (by omega) (by omega) rfl ?_
  refine Rn.aload_n dL_law__1327 rfl rfl ?_
  refine Rn.iload dL_law__1328 rfl ?_
  refine Rn.iconst (v := (nI 2)) dL_law__1330 rfl ?_
  refine Rn.iadd dL_law__1331 ?_
  refine Rn.topI (nI (i + 2)) (nI_add _ _) ?_
  refine Rn.sld dL_law__1332 h9 (by omega) (by omega) rfl ?_
  refine Rn.callV (As := [_, _]) dL_law__1333 mv_L_239 (by first | rfl | exact gC0 (by assumption) | exact gL0 (by assumption)) rfl rfl rfl (Nat.le_of_ble_eq_true rfl) (mo_runs _ _ _ _ _ hQ1.1 hQ1.2.1) (fun _ _ h => h) (fun v J2 h => ?_)
  obtain ⟨⟨r2, rfl⟩, hQ2⟩ := h
  refine Rn.istore dL_law__1336 (by decide) ?_
  refine Rn.goto 1782 dL_law__1338 (by decide) ?_
  exact Rn.bud (by omega) (kk _ _ _ (hI.of (hQ1.tr hQ2)))
theorem lc_spent (h9 : gad G0 998 = b0) (hL : L ≤ 3072) (hi : i + 6 ≤ L) (hI : LI I) (kk : ∀ (J : Hi) (x5 x6 : Option Value), LI J → Rn (gw G0 ad) GAM mL_law_ (kZ (kL b0 L xs) G0 0 ad 108) 60 (8 * m) 1782 [some (.ref 998), some (.ref 0), some (.ref 94), some (.ref 107), some (.int (nI i)), x5, x6] [] J) : Rn (gw G0 ad) GAM mL_law_ (kZ (kL b0 L xs) G0 0 ad 108) 60 (8 * m + 8) 1341 [some (.ref 998), some (.ref 0), some (.ref 94), some (.ref 107), some (.int (nI i)), x5, x6] [] I := by
  refine Rn.aload_n dL_law__1341 rfl rfl ?_
  refine Rn.aload_n dL_law__1342 rfl rfl ?_
  refine Rn.iload dL_law__1343 rfl ?_
  refine Rn.iconst (v := (nI 1)) dL_law__1345 rfl ?_
  refine Rn.iadd dL_law__1346 ?_
  refine Rn.topI (nI (i + 1)) (nI_add _ _) ?_
  refine Rn.sld dL_law__1347 h9 (by omega) (by omega) rfl ?_
  refine Rn.aload_n dL_law__1348 rfl rfl ?_
  refine Rn.callW (b := 8 * m + 7) (mc := 1) (As := [_, _, _]) dL_law__1349 mw_L_240 rfl rfl (Nat.le_of_ble_eq_true rfl) (wr_spent _ _ _ _ hI.1 hI.2.1) (fun _ _ h => h) (fun v J1 h => ?_)
  obtain ⟨⟨r1, rfl⟩, hQ1⟩ := h
  refine Rn.istore dL_law__1352 (by decide) ?_
  refine Rn.aload_n dL_law__1354 rfl rfl ?_
  refine Rn.aload_n dL_law__1355 rfl rfl ?_
  refine Rn.iload dL_law__1356 rfl ?_
  refine Rn.iconst (v := (nI 1)) dL_law__1358 rfl ?_
  refine Rn.iadd dL_law__1359 ?_
  refine Rn.topI (nI (i + 1)) (nI_add _ _) ?_
  refine Rn.sld dL_law__1360 h9 (by omega) (by omega) rfl ?_
  refine Rn.callV (As := [_]) dL_law__1361 mv_L_242 (by first | rfl | exact gC0 (by assumption) | exact gL0 (by assumption)) rfl rfl rfl (Nat.le_of_ble_eq_true rfl) (mo_spent _ _ _ _ hQ1.1 hQ1.2.1) (fun _ _ h => h) (fun v J2 h => ?_)
  obtain ⟨⟨r2, rfl⟩, hQ2⟩ := h
  refine Rn.istore dL_law__1364 (by decide) ?_
  refine Rn.goto 1782 dL_law__1366 (by decide) ?_
  exact Rn.bud (by omega) (kk _ _ _ (hI.of (hQ1.tr hQ2)))
theorem lc_oldest (h9 : gad G0 998 = b0) (hL : L ≤ 3072) (hi : i + 6 ≤ L) (hI : LI I) (kk : ∀ (J : Hi) (x5 x6 : Option Value), LI J → Rn (gw G0 ad) GAM mL_law_ (kZ (kL b0 L xs) G0 0 ad 108) 60 (8 * m) 1782 [some (.ref 998), some (.ref 0), some (.ref 94), some (.ref 107), some (.int (nI i)), x5, x6] [] J) : Rn (gw G0 ad) GAM mL_law_ (kZ (kL b0 L xs) G0 0 ad 108) 60 (8 * m + 8) 1369 [some (.ref 998), some (.ref 0), some (.ref 94), some (.ref 107), some (.int (nI i)), x5, x6] [] I := by
  refine Rn.aload_n dL_law__1369 rfl rfl ?_
  refine Rn.callV (As := []) dL_law__1370 mv_L_243 (by first | rfl | exact gC0 (by assumption) | exact gL0 (by assumption)) rfl rfl rfl (Nat.le_of_ble_eq_true rfl) (xd_oldest _ _ _ hI.1 hI.2.1) (fun _ _ h => h) (fun v J1 h => ?_)
  obtain ⟨⟨r1, rfl⟩, hQ1⟩ := h
  refine Rn.pop dL_law__1373 rfl ?_
  refine Rn.aload_n dL_law__1374 rfl rfl ?_
  refine Rn.callV (As := []) dL_law__1375 mv_L_246 (by first | rfl | exact gC0 (by assumption) | exact gL0 (by assumption)) rfl rfl rfl (Nat.le_of_ble_eq_true rfl) (mo_oldest _ _ _ hQ1.1 hQ1.2.1) (fun _ _ h => h) (fun v J2 h => ?_)
  obtain ⟨⟨r2, rfl⟩, hQ2⟩ := h
  refine Rn.pop dL_law__1378 rfl ?_
  refine Rn.goto 1782 dL_law__1379 (by decide) ?_
  exact Rn.bud (by omega) (kk _ _ _ (hI.of (hQ1.tr hQ2)))
theorem lc_stuck (h9 : gad G0 998 = b0) (hL : L ≤ 3072) (hi : i + 6 ≤ L) (hI : LI I) (kk : ∀ (J : Hi) (x5 x6 : Option Value), LI J → Rn (gw G0 ad) GAM mL_law_ (kZ (kL b0 L xs) G0 0 ad 108) 60 (8 * m) 1782 [some (.ref 998), some (.ref 0), some (.ref 94), some (.ref 107), some (.int (nI i)), x5, x6] [] J) : Rn (gw G0 ad) GAM mL_law_ (kZ (kL b0 L xs) G0 0 ad 108) 60 (8 * m + 8) 1382 [some (.ref 998), some (.ref 0), some (.ref 94), some (.ref 107), some (.int (nI i)), x5, x6] [] I := by
  refine Rn.aload_n dL_law__1382 rfl rfl ?_
  refine Rn.callV (As := []) dL_law__1383 mv_L_247 (by first | rfl | exact gC0 (by assumption) | exact gL0 (by assumption)) rfl rfl rfl (Nat.le_of_ble_eq_true rfl) (xd_stuck _ _ _ hI.1 hI.2.1) (fun _ _ h => h) (fun v J1 h => ?_)
  obtain ⟨⟨r1, rfl⟩, hQ1⟩ := h
  refine Rn.pop dL_law__1386 rfl ?_
  refine Rn.aload_n dL_law__1387 rfl rfl ?_
  refine Rn.callV (As := []) dL_law__1388 mv_L_250 (by first | rfl | exact gC0 (by assumption) | exact gL0 (by assumption)) rfl rfl rfl (Nat.le_of_ble_eq_true rfl) (mo_stuck _ _ _ hQ1.1 hQ1.2.1) (fun _ _ h => h) (fun v J2 h => ?_)
  obtain ⟨⟨r2, rfl⟩, hQ2⟩ := h
  refine Rn.pop dL_law__1391 rfl ?_
  refine Rn.goto 1782 dL_law__1392 (by decide) ?_
  exact Rn.bud (by omega) (kk _ _ _ (hI.of (hQ1.tr hQ2)))
theorem lc_pawned (h9 : gad G0 998 = b0) (hL : L ≤ 3072) (hi : i + 6 ≤ L) (hI : LI I) (kk : ∀ (J : Hi) (x5 x6 : Option Value), LI J → Rn (gw G0 ad) GAM mL_law_ (kZ (kL b0 L xs) G0 0 ad 108) 60 (8 * m) 1782 [some (.ref 998), some (.ref 0), some (.ref 94), some (.ref 107), some (.int (nI i)), x5, x6] [] J) : Rn (gw G0 ad) GAM mL_law_ (kZ (kL b0 L xs) G0 0 ad 108) 60 (8 * m + 8) 1395 [some (.ref 998), some (.ref 0), some (.ref 94), some (.ref 107), some (.int (nI i)), x5, x6] [] I := by
  refine Rn.aload_n dL_law__1395 rfl rfl ?_
  refine Rn.callV (As := []) dL_law__1396 mv_L_251 (by first | rfl | exact gC0 (by assumption) | exact gL0 (by assumption)) rfl rfl rfl (Nat.le_of_ble_eq_true rfl) (xd_pawned _ _ _ hI.1 hI.2.1) (fun _ _ h => h) (fun v J1 h => ?_)
  obtain ⟨⟨r1, rfl⟩, hQ1⟩ := h
  refine Rn.pop dL_law__1399 rfl ?_
  refine Rn.aload_n dL_law__1400 rfl rfl ?_
  refine Rn.callV (As := []) dL_law__1401 mv_L_254 (by first | rfl | exact gC0 (by assumption) | exact gL0 (by assumption)) rfl rfl rfl (Nat.le_of_ble_eq_true rfl) (mo_pawned _ _ _ hQ1.1 hQ1.2.1) (fun _ _ h => h) (fun v J2 h => ?_)
  obtain ⟨⟨r2, rfl⟩, hQ2⟩ := h
  refine Rn.pop dL_law__1404 rfl ?_
  refine Rn.goto 1782 dL_law__1405 (by decide) ?_
  exact Rn.bud (by omega) (kk _ _ _ (hI.of (hQ1.tr hQ2)))
theorem lc_blue (h9 : gad G0 998 = b0) (hL : L ≤ 3072) (hi : i + 6 ≤ L) (hI : LI I) (kk : ∀ (J : Hi) (x5 x6 : Option Value), LI J → Rn (gw G0 ad) GAM mL_law_ (kZ (kL b0 L xs) G0 0 ad 108) 60 (8 * m) 1782 [some (.ref 998), some (.ref 0), some (.ref 94), some (.ref 107), some (.int (nI i)), x5, x6] [] J) : Rn (gw G0 ad) GAM mL_law_ (kZ (kL b0 L xs) G0 0 ad 108) 60 (8 * m + 8) 1408 [some (.ref 998), some (.ref 0), some (.ref 94), some (.ref 107), some (.int (nI i)), x5, x6] [] I := by
  refine Rn.aload_n dL_law__1408 rfl rfl ?_
  refine Rn.callV (As := []) dL_law__1409 mv_L_255 (by first | rfl | exact gC0 (by assumption) | exact gL0 (by assumption)) rfl rfl rfl (Nat.le_of_ble_eq_true rfl) (bl_x _ _ _ hI) (fun _ _ h => h) (fun v J1 h => ?_)
  obtain ⟨T1, hT1, e1, rfl, hL1, e9⟩ := h
  refine Rn.aload_n dL_law__1412 rfl rfl ?_
  refine Rn.callV (As := []) dL_law__1413 mv_L_258 (by first | rfl | exact gC0 (by assumption) | exact gL0 (by assumption)) rfl rfl rfl (Nat.le_of_ble_eq_true rfl) (bl_m _ _ _ hL1) (fun _ _ h => h) (fun v J2 h => ?_)
  obtain ⟨T2, hT2, e2, rfl, hL2⟩ := h
  obtain rfl : T1 = T2 := (nI_eq (by omega) (by omega)).mp (e1.symm.trans ((congrFun (congrFun e9 3) 1).symm.trans e2))
  have heq : blA (fun k => I 5 (9 * k + 8)) T1 = blA (fun k => J1 5 (9 * k + 8)) T1 := by rw [e9]
  refine Rn.icmp_eq (tgt := 1782) dL_law__1416 (by decide) (fun _ => ?_) (fun h8 => absurd heq h8)
  exact Rn.bud (by omega) (kk _ _ _ hL2)
theorem lc_alike (h9 : gad G0 998 = b0) (hL : L ≤ 3072) (hi : i + 6 ≤ L) (hI : LI I) (kk : ∀ (J : Hi) (x5 x6 : Option Value), LI J → Rn (gw G0 ad) GAM mL_law_ (kZ (kL b0 L xs) G0 0 ad 108) 60 (8 * m) 1782 [some (.ref 998), some (.ref 0), some (.ref 94), some (.ref 107), some (.int (nI i)), x5, x6] [] J) : Rn (gw G0 ad) GAM mL_law_ (kZ (kL b0 L xs) G0 0 ad 108) 60 (8 * m + 8) 1421 [some (.ref 998), some (.ref 0), some (.ref 94), some (.ref 107), some (.int (nI i)), x5, x6] [] I := by
  refine Rn.aload_n dL_law__1421 rfl rfl ?_
  refine Rn.callV (As := []) dL_law__1422 mv_L_259 (by first | rfl | exact gC0 (by assumption) | exact gL0 (by assumption)) rfl rfl rfl (Nat.le_of_ble_eq_true rfl) (xd_alike _ _ _ hI.1 hI.2.1) (fun _ _ h => h) (fun v J1 h => ?_)
  obtain ⟨⟨r1, rfl⟩, hQ1⟩ := h
  refine Rn.pop dL_law__1425 rfl ?_
  refine Rn.aload_n dL_law__1426 rfl rfl ?_
  refine Rn.callV (As := []) dL_law__1427 mv_L_262 (by first | rfl | exact gC0 (by assumption) | exact gL0 (by assumption)) rfl rfl rfl (Nat.le_of_ble_eq_true rfl) (mo_alike _ _ _ hQ1.1 hQ1.2.1) (fun _ _ h => h) (fun v J2 h => ?_)
  obtain ⟨⟨r2, rfl⟩, hQ2⟩ := h
  refine Rn.pop dL_law__1430 rfl ?_
  refine Rn.goto 1782 dL_law__1431 (by decide) ?_
  exact Rn.bud (by omega) (kk _ _ _ (hI.of (hQ1.tr hQ2)))
theorem lc_share (h9 : gad G0 998 = b0) (hL : L ≤ 3072) (hi : i + 6 ≤ L) (hI : LI I) (kk : ∀ (J : Hi) (x5 x6 : Option Value), LI J → Rn (gw G0 ad) GAM mL_law_ (kZ (kL b0 L xs) G0 0 ad 108) 60 (8 * m) 1782 [some (.ref 998), some (.ref 0), some (.ref 94), some (.ref 107), some (.int (nI i)), x5, x6] [] J) : Rn (gw G0 ad) GAM mL_law_ (kZ (kL b0 L xs) G0 0 ad 108) 60 (8 * m + 8) 1434 [some (.ref 998), some (.ref 0), some (.ref 94), some (.ref 107), some (.int (nI i)), x5, x6] [] I := by
  refine Rn.aload_n dL_law__1434 rfl rfl ?_
  refine Rn.aload_n dL_law__1435 rfl rfl ?_
  refine Rn.iload dL_law__1436 rfl ?_
  refine Rn.iconst (v := (nI 1)) dL_law__1438 rfl ?_
  refine Rn.iadd dL_law__1439 ?_
  refine Rn.topI (nI (i + 1)) (nI_add _ _) ?_
  refine Rn.sld dL_law__1440 h9 (by omega) (by omega) rfl ?_
  refine Rn.aload_n dL_law__1441 rfl rfl ?_
  refine Rn.iload dL_law__1442 rfl ?_
  refine Rn.iconst (v := (nI 2)) dL_law__1444 rfl ?_
  refine Rn.iadd dL_law__1445 ?_
  refine Rn.topI (nI (i + 2)) (nI_add _ _) ?_
  refine Rn.sld dL_law__1446 h9 (by omega) (by omega) rfl ?_
  refine Rn.aload_n dL_law__1447 rfl rfl ?_
  refine Rn.callW (b := 8 * m + 6) (mc := 2) (As := [_, _, _, _]) dL_law__1448 mw_L_263 rfl rfl (Nat.le_of_ble_eq_true rfl) (wr_share _ _ _ _ _ hI.1 hI.2.1) (fun _ _ h => h) (fun v J1 h => ?_)
  obtain ⟨⟨r1, rfl⟩, hQ1⟩ := h
  refine Rn.istore dL_law__1451 (by decide) ?_
  refine Rn.aload_n dL_law__1453 rfl rfl ?_
  refine Rn.aload_n dL_law__1454 rfl rfl ?_
  refine Rn.iload dL_law__1455 rfl ?_
  refine Rn.iconst (v := (nI 1)) dL_law__1457 rfl ?_
  refine Rn.iadd dL_law__1458 ?_
  refine Rn.topI (nI (i + 1)) (nI_add _ _) ?_
  refine Rn.sld dL_law__1459 h9 (by omega) (by omega) rfl ?_
  refine Rn.aload_n dL_law__1460 rfl rfl ?_
  refine Rn.iload dL_law__1461 rfl ?_
  refine Rn.iconst (v := (nI 2)) dL_law__1463 rfl ?_
  refine Rn.iadd dL_law__1464 ?_
  refine Rn.topI (nI (i + 2)) (nI_add _ _) ?_
  refine Rn.sld dL_law__1465 h9 (by omega) (by omega) rfl ?_
  refine Rn.callV (As := [_, _]) dL_law__1466 mv_L_265 (by first | rfl | exact gC0 (by assumption) | exact gL0 (by assumption)) rfl rfl rfl (Nat.le_of_ble_eq_true rfl) (mo_share _ _ _ _ _ hQ1.1 hQ1.2.1) (fun _ _ h => h) (fun v J2 h => ?_)
  obtain ⟨⟨r2, rfl⟩, hQ2⟩ := h
  refine Rn.istore dL_law__1469 (by decide) ?_
  refine Rn.goto 1782 dL_law__1471 (by decide) ?_
  exact Rn.bud (by omega) (kk _ _ _ (hI.of (hQ1.tr hQ2)))
theorem lc_odds (h9 : gad G0 998 = b0) (hL : L ≤ 3072) (hi : i + 6 ≤ L) (hI : LI I) (kk : ∀ (J : Hi) (x5 x6 : Option Value), LI J → Rn (gw G0 ad) GAM mL_law_ (kZ (kL b0 L xs) G0 0 ad 108) 60 (8 * m) 1782 [some (.ref 998), some (.ref 0), some (.ref 94), some (.ref 107), some (.int (nI i)), x5, x6] [] J) : Rn (gw G0 ad) GAM mL_law_ (kZ (kL b0 L xs) G0 0 ad 108) 60 (8 * m + 8) 1474 [some (.ref 998), some (.ref 0), some (.ref 94), some (.ref 107), some (.int (nI i)), x5, x6] [] I := by
  refine Rn.aload_n dL_law__1474 rfl rfl ?_
  refine Rn.callV (As := []) dL_law__1475 mv_L_266 (by first | rfl | exact gC0 (by assumption) | exact gL0 (by assumption)) rfl rfl rfl (Nat.le_of_ble_eq_true rfl) (xd_odds _ _ _ hI.1 hI.2.1) (fun _ _ h => h) (fun v J1 h => ?_)
  obtain ⟨⟨r1, rfl⟩, hQ1⟩ := h
  refine Rn.pop dL_law__1478 rfl ?_
  refine Rn.aload_n dL_law__1479 rfl rfl ?_
  refine Rn.callV (As := []) dL_law__1480 mv_L_269 (by first | rfl | exact gC0 (by assumption) | exact gL0 (by assumption)) rfl rfl rfl (Nat.le_of_ble_eq_true rfl) (mo_odds _ _ _ hQ1.1 hQ1.2.1) (fun _ _ h => h) (fun v J2 h => ?_)
  obtain ⟨⟨r2, rfl⟩, hQ2⟩ := h
  refine Rn.pop dL_law__1483 rfl ?_
  refine Rn.goto 1782 dL_law__1484 (by decide) ?_
  exact Rn.bud (by omega) (kk _ _ _ (hI.of (hQ1.tr hQ2)))
end LawC
