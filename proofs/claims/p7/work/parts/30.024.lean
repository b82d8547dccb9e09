def ys1365 : ySp := (282, 2, (0, [], [], [], [(0, (2, yc 1001, yc 0)), (1, (0, yc 4, yc 0))], []), [(0, [], [], [], [], [(0, yc 97, yc 0)])], [])
def yx1365 : yCx := ([ys1345, ys1364], ys1365.2.2.2.2, yFP, zm282.2.2.1, zm282.2.2.2.1, zc282, 0, ys1365.2.2.2.1, [], [])
theorem yw1365 : ywf ys1365.2.2.1 = true := by decide +kernel
theorem yk1365 : yver yx1365 ys1365.2.2.1 4000 = true := by decide +kernel
theorem yt1365 {E : zHp → Prop} (h : yEF E yFP) : yTs E 4 ys1365 := yver_s (x := yx1365) h (yal_c (yt1345 h) (by decide) yw1345 (yal_c (yt1364 h) (by decide) yw1364 (yal_n))) yg282 yk1365
def ys1366 : ySp := (293, 3, (0, [], [], [], [(0, (0, yc 5, yc 0)), (1, (0, yc 31, yc 0)), (2, (7, yc 0, yc 0))], []), [(0, [], [], [], [], [(0, yc 5, yc 0)])], [])
def yx1366 : yCx := ([], ys1366.2.2.2.2, yFP, zm293.2.2.1, zm293.2.2.2.1, zc293, 0, ys1366.2.2.2.1, [], [])
theorem yw1366 : ywf ys1366.2.2.1 = true := by decide +kernel
theorem yk1366 : yver yx1366 ys1366.2.2.1 4000 = true := by decide +kernel
theorem yt1366 {E : zHp → Prop} (h : yEF E yFP) : yTs E 1 ys1366 := yver_s (x := yx1366) h (yal_n) yg293 yk1366
def ys1367 : ySp := (285, 2, (0, [], [], [], [(0, (0, yc 5, yc 0)), (1, (0, yc 31, yc 0))], []), [(0, [], [], [], [], [])], [])
def yx1367 : yCx := ([ys1366], ys1367.2.2.2.2, yFP, zm285.2.2.1, zm285.2.2.2.1, zc285, 0, ys1367.2.2.2.1, [], [])
theorem yw1367 : ywf ys1367.2.2.1 = true := by decide +kernel
theorem yk1367 : yver yx1367 ys1367.2.2.1 4000 = true := by decide +kernel
theorem yt1367 {E : zHp → Prop} (h : yEF E yFP) : yTs E 2 ys1367 := yver_s (x := yx1367) h (yal_c (yt1366 h) (by decide) yw1366 (yal_n)) yg285 yk1367
def ys1368 : ySp := (286, 2, (0, [], [], [], [(0, (2, yc 1020, yc 0)), (1, (0, yc 5, yc 0))], []), [(0, [], [], [], [], [(0, yc 103, yc 0)])], [])
def yx1368 : yCx := ([ys1367], ys1368.2.2.2.2, yFP, zm286.2.2.1, zm286.2.2.2.1, zc286, 0, ys1368.2.2.2.1, [], [])
theorem yw1368 : ywf ys1368.2.2.1 = true := by decide +kernel
theorem yk1368 : yver yx1368 ys1368.2.2.1 4000 = true := by decide +kernel
theorem yt1368 {E : zHp → Prop} (h : yEF E yFP) : yTs E 3 ys1368 := yver_s (x := yx1368) h (yal_c (yt1367 h) (by decide) yw1367 (yal_n)) yg286 yk1368
def ys1369 : ySp := (282, 2, (0, [], [], [], [(0, (2, yc 1001, yc 0)), (1, (0, yc 5, yc 0))], []), [(0, [], [], [], [], [(0, yc 103, yc 0)])], [])
def yx1369 : yCx := ([ys1345, ys1368], ys1369.2.2.2.2, yFP, zm282.2.2.1, zm282.2.2.2.1, zc282, 0, ys1369.2.2.2.1, [], [])
theorem yw1369 : ywf ys1369.2.2.1 = true := by decide +kernel
theorem yk1369 : yver yx1369 ys1369.2.2.1 4000 = true := by decide +kernel
theorem yt1369 {E : zHp → Prop} (h : yEF E yFP) : yTs E 4 ys1369 := yver_s (x := yx1369) h (yal_c (yt1345 h) (by decide) yw1345 (yal_c (yt1368 h) (by decide) yw1368 (yal_n))) yg282 yk1369
def ys1370 : ySp := (293, 3, (0, [], [], [], [(0, (0, yc 6, yc 0)), (1, (0, yc 31, yc 0)), (2, (7, yc 0, yc 0))], []), [(0, [], [], [], [], [(0, yc 6, yc 0)])], [])
def yx1370 : yCx := ([], ys1370.2.2.2.2, yFP, zm293.2.2.1, zm293.2.2.2.1, zc293, 0, ys1370.2.2.2.1, [], [])
theorem yw1370 : ywf ys1370.2.2.1 = true := by decide +kernel
theorem yk1370 : yver yx1370 ys1370.2.2.1 4000 = true := by decide +kernel
theorem yt1370 {E : zHp → Prop} (h : yEF E yFP) : yTs E 1 ys1370 := yver_s (x := yx1370) h (yal_n) yg293 yk1370
def ys1371 : ySp := (285, 2, (0, [], [], [], [(0, (0, yc 6, yc 0)), (1, (0, yc 31, yc 0))], []), [(0, [], [], [], [], [])], [])
def yx1371 : yCx := ([ys1370], ys1371.2.2.2.2, yFP, zm285.2.2.1, zm285.2.2.2.1, zc285, 0, ys1371.2.2.2.1, [], [])
theorem yw1371 : ywf ys1371.2.2.1 = true := by decide +kernel
theorem yk1371 : yver yx1371 ys1371.2.2.1 4000 = true := by decide +kernel
theorem yt1371 {E : zHp → Prop} (h : yEF E yFP) : yTs E 2 ys1371 := yver_s (x := yx1371) h (yal_c (yt1370 h) (by decide) yw1370 (yal_n)) yg285 yk1371
def ys1372 : ySp := (286, 2, (0, [], [], [], [(0, (2, yc 1020, yc 0)), (1, (0, yc 6, yc 0))], []), [(0, [], [], [], [], [(0, yc 101, yc 0)])], [])
def yx1372 : yCx := ([ys1371], ys1372.2.2.2.2, yFP, zm286.2.2.1, zm286.2.2.2.1, zc286, 0, ys1372.2.2.2.1, [], [])
theorem yw1372 : ywf ys1372.2.2.1 = true := by decide +kernel
theorem yk1372 : yver yx1372 ys1372.2.2.1 4000 = true := by decide +kernel
theorem yt1372 {E : zHp → Prop} (h : yEF E yFP) : yTs E 3 ys1372 := yver_s (x := yx1372) h (yal_c (yt1371 h) (by decide) yw1371 (yal_n)) yg286 yk1372
def ys1373 : ySp := (282, 2, (0, [], [], [], [(0, (2, yc 1001, yc 0)), (1, (0, yc 6, yc 0))], []), [(0, [], [], [], [], [(0, yc 101, yc 0)])], [])
def yx1373 : yCx := ([ys1345, ys1372], ys1373.2.2.2.2, yFP, zm282.2.2.1, zm282.2.2.2.1, zc282, 0, ys1373.2.2.2.1, [], [])
theorem yw1373 : ywf ys1373.2.2.1 = true := by decide +kernel
theorem yk1373 : yver yx1373 ys1373.2.2.1 4000 = true := by decide +kernel
theorem yt1373 {E : zHp → Prop} (h : yEF E yFP) : yTs E 4 ys1373 := yver_s (x := yx1373) h (yal_c (yt1345 h) (by decide) yw1345 (yal_c (yt1372 h) (by decide) yw1372 (yal_n))) yg282 yk1373
def ys1374 : ySp := (293, 3, (0, [], [], [], [(0, (0, yc 7, yc 0)), (1, (0, yc 31, yc 0)), (2, (7, yc 0, yc 0))], []), [(0, [], [], [], [], [(0, yc 7, yc 0)])], [])
def yx1374 : yCx := ([], ys1374.2.2.2.2, yFP, zm293.2.2.1, zm293.2.2.2.1, zc293, 0, ys1374.2.2.2.1, [], [])
theorem yw1374 : ywf ys1374.2.2.1 = true := by decide +kernel
theorem yk1374 : yver yx1374 ys1374.2.2.1 4000 = true := by decide +kernel
theorem yt1374 {E : zHp → Prop} (h : yEF E yFP) : yTs E 1 ys1374 := yver_s (x := yx1374) h (yal_n) yg293 yk1374
def ys1375 : ySp := (285, 2, (0, [], [], [], [(0, (0, yc 7, yc 0)), (1, (0, yc 31, yc 0))], []), [(0, [], [], [], [], [])], [])
def yx1375 : yCx := ([ys1374], ys1375.2.2.2.2, yFP, zm285.2.2.1, zm285.2.2.2.1, zc285, 0, ys1375.2.2.2.1, [], [])
theorem yw1375 : ywf ys1375.2.2.1 = true := by decide +kernel
theorem yk1375 : yver yx1375 ys1375.2.2.1 4000 = true := by decide +kernel
theorem yt1375 {E : zHp → Prop} (h : yEF E yFP) : yTs E 2 ys1375 := yver_s (x := yx1375) h (yal_c (yt1374 h) (by decide) yw1374 (yal_n)) yg285 yk1375
def ys1376 : ySp := (286, 2, (0, [], [], [], [(0, (2, yc 1020, yc 0)), (1, (0, yc 7, yc 0))], []), [(0, [], [], [], [], [(0, yc 32, yc 0)])], [])
def yx1376 : yCx := ([ys1375], ys1376.2.2.2.2, yFP, zm286.2.2.1, zm286.2.2.2.1, zc286, 0, ys1376.2.2.2.1, [], [])
theorem yw1376 : ywf ys1376.2.2.1 = true := by decide +kernel
theorem yk1376 : yver yx1376 ys1376.2.2.1 4000 = true := by decide +kernel
theorem yt1376 {E : zHp → Prop} (h : yEF E yFP) : yTs E 3 ys1376 := yver_s (x := yx1376) h (yal_c (yt1375 h) (by decide) yw1375 (yal_n)) yg286 yk1376
def ys1377 : ySp := (282, 2, (0, [], [], [], [(0, (2, yc 1001, yc 0)), (1, (0, yc 7, yc 0))], []), [(0, [], [], [], [], [(0, yc 32, yc 0)])], [])
def yx1377 : yCx := ([ys1345, ys1376], ys1377.2.2.2.2, yFP, zm282.2.2.1, zm282.2.2.2.1, zc282, 0, ys1377.2.2.2.1, [], [])
theorem yw1377 : ywf ys1377.2.2.1 = true := by decide +kernel
theorem yk1377 : yver yx1377 ys1377.2.2.1 4000 = true := by decide +kernel
theorem yt1377 {E : zHp → Prop} (h : yEF E yFP) : yTs E 4 ys1377 := yver_s (x := yx1377) h (yal_c (yt1345 h) (by decide) yw1345 (yal_c (yt1376 h) (by decide) yw1376 (yal_n))) yg282 yk1377
def ys1378 : ySp := (293, 3, (0, [], [], [], [(0, (0, yc 8, yc 0)), (1, (0, yc 31, yc 0)), (2, (7, yc 0, yc 0))], []), [(0, [], [], [], [], [(0, yc 8, yc 0)])], [])
def yx1378 : yCx := ([], ys1378.2.2.2.2, yFP, zm293.2.2.1, zm293.2.2.2.1, zc293, 0, ys1378.2.2.2.1, [], [])
theorem yw1378 : ywf ys1378.2.2.1 = true := by decide +kernel
theorem yk1378 : yver yx1378 ys1378.2.2.1 4000 = true := by decide +kernel
theorem yt1378 {E : zHp → Prop} (h : yEF E yFP) : yTs E 1 ys1378 := yver_s (x := yx1378) h (yal_n) yg293 yk1378
def ys1379 : ySp := (285, 2, (0, [], [], [], [(0, (0, yc 8, yc 0)), (1, (0, yc 31, yc 0))], []), [(0, [], [], [], [], [])], [])
def yx1379 : yCx := ([ys1378], ys1379.2.2.2.2, yFP, zm285.2.2.1, zm285.2.2.2.1, zc285, 0, ys1379.2.2.2.1, [], [])
theorem yw1379 : ywf ys1379.2.2.1 = true := by decide +kernel
theorem yk1379 : yver yx1379 ys1379.2.2.1 4000 = true := by decide +kernel
theorem yt1379 {E : zHp → Prop} (h : yEF E yFP) : yTs E 2 ys1379 := yver_s (x := yx1379) h (yal_c (yt1378 h) (by decide) yw1378 (yal_n)) yg285 yk1379
def ys1380 : ySp := (286, 2, (0, [], [], [], [(0, (2, yc 1020, yc 0)), (1, (0, yc 8, yc 0))], []), [(0, [], [], [], [], [(0, yc 116, yc 0)])], [])
def yx1380 : yCx := ([ys1379], ys1380.2.2.2.2, yFP, zm286.2.2.1, zm286.2.2.2.1, zc286, 0, ys1380.2.2.2.1, [], [])
theorem yw1380 : ywf ys1380.2.2.1 = true := by decide +kernel
theorem yk1380 : yver yx1380 ys1380.2.2.1 4000 = true := by decide +kernel
theorem yt1380 {E : zHp → Prop} (h : yEF E yFP) : yTs E 3 ys1380 := yver_s (x := yx1380) h (yal_c (yt1379 h) (by decide) yw1379 (yal_n)) yg286 yk1380
def ys1381 : ySp := (282, 2, (0, [], [], [], [(0, (2, yc 1001, yc 0)), (1, (0, yc 8, yc 0))], []), [(0, [], [], [], [], [(0, yc 116, yc 0)])], [])
def yx1381 : yCx := ([ys1345, ys1380], ys1381.2.2.2.2, yFP, zm282.2.2.1, zm282.2.2.2.1, zc282, 0, ys1381.2.2.2.1, [], [])
theorem yw1381 : ywf ys1381.2.2.1 = true := by decide +kernel
theorem yk1381 : yver yx1381 ys1381.2.2.1 4000 = true := by decide +kernel
theorem yt1381 {E : zHp → Prop} (h : yEF E yFP) : yTs E 4 ys1381 := yver_s (x := yx1381) h (yal_c (yt1345 h) (by decide) yw1345 (yal_c (yt1380 h) (by decide) yw1380 (yal_n))) yg282 yk1381
def ys1382 : ySp := (293, 3, (0, [], [], [], [(0, (0, yc 9, yc 0)), (1, (0, yc 31, yc 0)), (2, (7, yc 0, yc 0))], []), [(0, [], [], [], [], [(0, yc 9, yc 0)])], [])
def yx1382 : yCx := ([], ys1382.2.2.2.2, yFP, zm293.2.2.1, zm293.2.2.2.1, zc293, 0, ys1382.2.2.2.1, [], [])
theorem yw1382 : ywf ys1382.2.2.1 = true := by decide +kernel
theorem yk1382 : yver yx1382 ys1382.2.2.1 4000 = true := by decide +kernel
theorem yt1382 {E : zHp → Prop} (h : yEF E yFP) : yTs E 1 ys1382 := yver_s (x := yx1382) h (yal_n) yg293 yk1382
def ys1383 : ySp := (285, 2, (0, [], [], [], [(0, (0, yc 9, yc 0)), (1, (0, yc 31, yc 0))], []), [(0, [], [], [], [], [])], [])
def yx1383 : yCx := ([ys1382], ys1383.2.2.2.2, yFP, zm285.2.2.1, zm285.2.2.2.1, zc285, 0, ys1383.2.2.2.1, [], [])
theorem yw1383 : ywf ys1383.2.2.1 = true := by decide +kernel
theorem yk1383 : yver yx1383 ys1383.2.2.1 4000 = true := by decide +kernel
theorem yt1383 {E : zHp → Prop} (h : yEF E yFP) : yTs E 2 ys1383 := yver_s (x := yx1383) h (yal_c (yt1382 h) (by decide) yw1382 (yal_n)) yg285 yk1383
def ys1384 : ySp := (286, 2, (0, [], [], [], [(0, (2, yc 1020, yc 0)), (1, (0, yc 9, yc 0))], []), [(0, [], [], [], [], [(0, yc 111, yc 0)])], [])
def yx1384 : yCx := ([ys1383], ys1384.2.2.2.2, yFP, zm286.2.2.1, zm286.2.2.2.1, zc286, 0, ys1384.2.2.2.1, [], [])
theorem yw1384 : ywf ys1384.2.2.1 = true := by decide +kernel
theorem yk1384 : yver yx1384 ys1384.2.2.1 4000 = true := by decide +kernel
theorem yt1384 {E : zHp → Prop} (h : yEF E yFP) : yTs E 3 ys1384 := yver_s (x := yx1384) h (yal_c (yt1383 h) (by decide) yw1383 (yal_n)) yg286 yk1384
def ys1385 : ySp := (282, 2, (0, [], [], [], [(0, (2, yc 1001, yc 0)), (1, (0, yc 9, yc 0))], []), [(0, [], [], [], [], [(0, yc 111, yc 0)])], [])
def yx1385 : yCx := ([ys1345, ys1384], ys1385.2.2.2.2, yFP, zm282.2.2.1, zm282.2.2.2.1, zc282, 0, ys1385.2.2.2.1, [], [])
theorem yw1385 : ywf ys1385.2.2.1 = true := by decide +kernel
theorem yk1385 : yver yx1385 ys1385.2.2.1 4000 = true := by decide +kernel
theorem yt1385 {E : zHp → Prop} (h : yEF E yFP) : yTs E 4 ys1385 := yver_s (x := yx1385) h (yal_c (yt1345 h) (by decide) yw1345 (yal_c (yt1384 h) (by decide) yw1384 (yal_n))) yg282 yk1385
def ys1386 : ySp := (293, 3, (0, [], [], [], [(0, (0, yc 10, yc 0)), (1, (0, yc 31, yc 0)), (2, (7, yc 0, yc 0))], []), [(0, [], [], [], [], [(0, yc 10, yc 0)])], [])
def yx1386 : yCx := ([], ys1386.2.2.2.2, yFP, zm293.2.2.1, zm293.2.2.2.1, zc293, 0, ys1386.2.2.2.1, [], [])
theorem yw1386 : ywf ys1386.2.2.1 = true := by decide +kernel
theorem yk1386 : yver yx1386 ys1386.2.2.1 4000 = true := by decide +kernel
theorem yt1386 {E : zHp → Prop} (h : yEF E yFP) : yTs E 1 ys1386 := yver_s (x := yx1386) h (yal_n) yg293 yk1386
def ys1387 : ySp := (285, 2, (0, [], [], [], [(0, (0, yc 10, yc 0)), (1, (0, yc 31, yc 0))], []), [(0, [], [], [], [], [])], [])
def yx1387 : yCx := ([ys1386], ys1387.2.2.2.2, yFP, zm285.2.2.1, zm285.2.2.2.1, zc285, 0, ys1387.2.2.2.1, [], [])
theorem yw1387 : ywf ys1387.2.2.1 = true := by decide +kernel
theorem yk1387 : yver yx1387 ys1387.2.2.1 4000 = true := by decide +kernel
theorem yt1387 {E : zHp → Prop} (h : yEF E yFP) : yTs E 2 ys1387 := yver_s (x := yx1387) h (yal_c (yt1386 h) (by decide) yw1386 (yal_n)) yg285 yk1387
def ys1388 : ySp := (286, 2, (0, [], [], [], [(0, (2, yc 1020, yc 0)), (1, (0, yc 10, yc 0))], []), [(0, [], [], [], [], [(0, yc 111, yc 0)])], [])
def yx1388 : yCx := ([ys1387], ys1388.2.2.2.2, yFP, zm286.2.2.1, zm286.2.2.2.1, zc286, 0, ys1388.2.2.2.1, [], [])
theorem yw1388 : ywf ys1388.2.2.1 = true := by decide +kernel
theorem yk1388 : yver yx1388 ys1388.2.2.1 4000 = true := by decide +kernel
theorem yt1388 {E : zHp → Prop} (h : yEF E yFP) : yTs E 3 ys1388 := yver_s (x := yx1388) h (yal_c (yt1387 h) (by decide) yw1387 (yal_n)) yg286 yk1388
def ys1389 : ySp := (282, 2, (0, [], [], [], [(0, (2, yc 1001, yc 0)), (1, (0, yc 10, yc 0))], []), [(0, [], [], [], [], [(0, yc 111, yc 0)])], [])
def yx1389 : yCx := ([ys1345, ys1388], ys1389.2.2.2.2, yFP, zm282.2.2.1, zm282.2.2.2.1, zc282, 0, ys1389.2.2.2.1, [], [])
theorem yw1389 : ywf ys1389.2.2.1 = true := by decide +kernel
theorem yk1389 : yver yx1389 ys1389.2.2.1 4000 = true := by decide +kernel
theorem yt1389 {E : zHp → Prop} (h : yEF E yFP) : yTs E 4 ys1389 := yver_s (x := yx1389) h (yal_c (yt1345 h) (by decide) yw1345 (yal_c (yt1388 h) (by decide) yw1388 (yal_n))) yg282 yk1389
def ys1390 : ySp := (293, 3, (0, [], [], [], [(0, (0, yc 11, yc 0)), (1, (0, yc 31, yc 0)), (2, (7, yc 0, yc 0))], []), [(0, [], [], [], [], [(0, yc 11, yc 0)])], [])
def yx1390 : yCx := ([], ys1390.2.2.2.2, yFP, zm293.2.2.1, zm293.2.2.2.1, zc293, 0, ys1390.2.2.2.1, [], [])
theorem yw1390 : ywf ys1390.2.2.1 = true := by decide +kernel
theorem yk1390 : yver yx1390 ys1390.2.2.1 4000 = true := by decide +kernel
theorem yt1390 {E : zHp → Prop} (h : yEF E yFP) : yTs E 1 ys1390 := yver_s (x := yx1390) h (yal_n) yg293 yk1390
def ys1391 : ySp := (285, 2, (0, [], [], [], [(0, (0, yc 11, yc 0)), (1, (0, yc 31, yc 0))], []), [(0, [], [], [], [], [])], [])
def yx1391 : yCx := ([ys1390], ys1391.2.2.2.2, yFP, zm285.2.2.1, zm285.2.2.2.1, zc285, 0, ys1391.2.2.2.1, [], [])
theorem yw1391 : ywf ys1391.2.2.1 = true := by decide +kernel
theorem yk1391 : yver yx1391 ys1391.2.2.1 4000 = true := by decide +kernel
theorem yt1391 {E : zHp → Prop} (h : yEF E yFP) : yTs E 2 ys1391 := yver_s (x := yx1391) h (yal_c (yt1390 h) (by decide) yw1390 (yal_n)) yg285 yk1391
def ys1392 : ySp := (286, 2, (0, [], [], [], [(0, (2, yc 1020, yc 0)), (1, (0, yc 11, yc 0))], []), [(0, [], [], [], [], [(0, yc 108, yc 0)])], [])
def yx1392 : yCx := ([ys1391], ys1392.2.2.2.2, yFP, zm286.2.2.1, zm286.2.2.2.1, zc286, 0, ys1392.2.2.2.1, [], [])
theorem yw1392 : ywf ys1392.2.2.1 = true := by decide +kernel
theorem yk1392 : yver yx1392 ys1392.2.2.1 4000 = true := by decide +kernel
theorem yt1392 {E : zHp → Prop} (h : yEF E yFP) : yTs E 3 ys1392 := yver_s (x := yx1392) h (yal_c (yt1391 h) (by decide) yw1391 (yal_n)) yg286 yk1392
def ys1393 : ySp := (282, 2, (0, [], [], [], [(0, (2, yc 1001, yc 0)), (1, (0, yc 11, yc 0))], []), [(0, [], [], [], [], [(0, yc 108, yc 0)])], [])
def yx1393 : yCx := ([ys1345, ys1392], ys1393.2.2.2.2, yFP, zm282.2.2.1, zm282.2.2.2.1, zc282, 0, ys1393.2.2.2.1, [], [])
theorem yw1393 : ywf ys1393.2.2.1 = true := by decide +kernel
theorem yk1393 : yver yx1393 ys1393.2.2.1 4000 = true := by decide +kernel
theorem yt1393 {E : zHp → Prop} (h : yEF E yFP) : yTs E 4 ys1393 := yver_s (x := yx1393) h (yal_c (yt1345 h) (by decide) yw1345 (yal_c (yt1392 h) (by decide) yw1392 (yal_n))) yg282 yk1393
def ys1394 : ySp := (293, 3, (0, [], [], [], [(0, (0, yc 12, yc 0)), (1, (0, yc 31, yc 0)), (2, (7, yc 0, yc 0))], []), [(0, [], [], [], [], [(0, yc 12, yc 0)])], [])
def yx1394 : yCx := ([], ys1394.2.2.2.2, yFP, zm293.2.2.1, zm293.2.2.2.1, zc293, 0, ys1394.2.2.2.1, [], [])
theorem yw1394 : ywf ys1394.2.2.1 = true := by decide +kernel
theorem yk1394 : yver yx1394 ys1394.2.2.1 4000 = true := by decide +kernel
theorem yt1394 {E : zHp → Prop} (h : yEF E yFP) : yTs E 1 ys1394 := yver_s (x := yx1394) h (yal_n) yg293 yk1394
def ys1395 : ySp := (285, 2, (0, [], [], [], [(0, (0, yc 12, yc 0)), (1, (0, yc 31, yc 0))], []), [(0, [], [], [], [], [])], [])
def yx1395 : yCx := ([ys1394], ys1395.2.2.2.2, yFP, zm285.2.2.1, zm285.2.2.2.1, zc285, 0, ys1395.2.2.2.1, [], [])
theorem yw1395 : ywf ys1395.2.2.1 = true := by decide +kernel
theorem yk1395 : yver yx1395 ys1395.2.2.1 4000 = true := by decide +kernel
theorem yt1395 {E : zHp → Prop} (h : yEF E yFP) : yTs E 2 ys1395 := yver_s (x := yx1395) h (yal_c (yt1394 h) (by decide) yw1394 (yal_n)) yg285 yk1395
def ys1396 : ySp := (286, 2, (0, [], [], [], [(0, (2, yc 1020, yc 0)), (1, (0, yc 12, yc 0))], []), [(0, [], [], [], [], [(0, yc 32, yc 0)])], [])
def yx1396 : yCx := ([ys1395], ys1396.2.2.2.2, yFP, zm286.2.2.1, zm286.2.2.2.1, zc286, 0, ys1396.2.2.2.1, [], [])
theorem yw1396 : ywf ys1396.2.2.1 = true := by decide +kernel
theorem yk1396 : yver yx1396 ys1396.2.2.1 4000 = true := by decide +kernel
theorem yt1396 {E : zHp → Prop} (h : yEF E yFP) : yTs E 3 ys1396 := yver_s (x := yx1396) h (yal_c (yt1395 h) (by decide) yw1395 (yal_n)) yg286 yk1396
def ys1397 : ySp := (282, 2, (0, [], [], [], [(0, (2, yc 1001, yc 0)), (1, (0, yc 12, yc 0))], []), [(0, [], [], [], [], [(0, yc 32, yc 0)])], [])
def yx1397 : yCx := ([ys1345, ys1396], ys1397.2.2.2.2, yFP, zm282.2.2.1, zm282.2.2.2.1, zc282, 0, ys1397.2.2.2.1, [], [])
theorem yw1397 : ywf ys1397.2.2.1 = true := by decide +kernel
theorem yk1397 : yver yx1397 ys1397.2.2.1 4000 = true := by decide +kernel
theorem yt1397 {E : zHp → Prop} (h : yEF E yFP) : yTs E 4 ys1397 := yver_s (x := yx1397) h (yal_c (yt1345 h) (by decide) yw1345 (yal_c (yt1396 h) (by decide) yw1396 (yal_n))) yg282 yk1397
def ys1398 : ySp := (293, 3, (0, [], [], [], [(0, (0, yc 13, yc 0)), (1, (0, yc 31, yc 0)), (2, (7, yc 0, yc 0))], []), [(0, [], [], [], [], [(0, yc 13, yc 0)])], [])
def yx1398 : yCx := ([], ys1398.2.2.2.2, yFP, zm293.2.2.1, zm293.2.2.2.1, zc293, 0, ys1398.2.2.2.1, [], [])
theorem yw1398 : ywf ys1398.2.2.1 = true := by decide +kernel
theorem yk1398 : yver yx1398 ys1398.2.2.1 4000 = true := by decide +kernel
theorem yt1398 {E : zHp → Prop} (h : yEF E yFP) : yTs E 1 ys1398 := yver_s (x := yx1398) h (yal_n) yg293 yk1398
def ys1399 : ySp := (285, 2, (0, [], [], [], [(0, (0, yc 13, yc 0)), (1, (0, yc 31, yc 0))], []), [(0, [], [], [], [], [])], [])
def yx1399 : yCx := ([ys1398], ys1399.2.2.2.2, yFP, zm285.2.2.1, zm285.2.2.2.1, zc285, 0, ys1399.2.2.2.1, [], [])
theorem yw1399 : ywf ys1399.2.2.1 = true := by decide +kernel
theorem yk1399 : yver yx1399 ys1399.2.2.1 4000 = true := by decide +kernel
theorem yt1399 {E : zHp → Prop} (h : yEF E yFP) : yTs E 2 ys1399 := yver_s (x := yx1399) h (yal_c (yt1398 h) (by decide) yw1398 (yal_n)) yg285 yk1399
def ys1400 : ySp := (286, 2, (0, [], [], [], [(0, (2, yc 1020, yc 0)), (1, (0, yc 13, yc 0))], []), [(0, [], [], [], [], [(0, yc 116, yc 0)])], [])
def yx1400 : yCx := ([ys1399], ys1400.2.2.2.2, yFP, zm286.2.2.1, zm286.2.2.2.1, zc286, 0, ys1400.2.2.2.1, [], [])
theorem yw1400 : ywf ys1400.2.2.1 = true := by decide +kernel
theorem yk1400 : yver yx1400 ys1400.2.2.1 4000 = true := by decide +kernel
theorem yt1400 {E : zHp → Prop} (h : yEF E yFP) : yTs E 3 ys1400 := yver_s (x := yx1400) h (yal_c (yt1399 h) (by decide) yw1399 (yal_n)) yg286 yk1400
def ys1401 : ySp := (282, 2, (0, [], [], [], [(0, (2, yc 1001, yc 0)), (1, (0, yc 13, yc 0))], []), [(0, [], [], [], [], [(0, yc 116, yc 0)])], [])
def yx1401 : yCx := ([ys1345, ys1400], ys1401.2.2.2.2, yFP, zm282.2.2.1, zm282.2.2.2.1, zc282, 0, ys1401.2.2.2.1, [], [])
theorem yw1401 : ywf ys1401.2.2.1 = true := by decide +kernel
theorem yk1401 : yver yx1401 ys1401.2.2.1 4000 = true := by decide +kernel
theorem yt1401 {E : zHp → Prop} (h : yEF E yFP) : yTs E 4 ys1401 := yver_s (x := yx1401) h (yal_c (yt1345 h) (by decide) yw1345 (yal_c (yt1400 h) (by decide) yw1400 (yal_n))) yg282 yk1401
def ys1402 : ySp := (293, 3, (0, [], [], [], [(0, (0, yc 14, yc 0)), (1, (0, yc 31, yc 0)), (2, (7, yc 0, yc 0))], []), [(0, [], [], [], [], [(0, yc 14, yc 0)])], [])
def yx1402 : yCx := ([], ys1402.2.2.2.2, yFP, zm293.2.2.1, zm293.2.2.2.1, zc293, 0, ys1402.2.2.2.1, [], [])
theorem yw1402 : ywf ys1402.2.2.1 = true := by decide +kernel
theorem yk1402 : yver yx1402 ys1402.2.2.1 4000 = true := by decide +kernel
theorem yt1402 {E : zHp → Prop} (h : yEF E yFP) : yTs E 1 ys1402 := yver_s (x := yx1402) h (yal_n) yg293 yk1402
def ys1403 : ySp := (285, 2, (0, [], [], [], [(0, (0, yc 14, yc 0)), (1, (0, yc 31, yc 0))], []), [(0, [], [], [], [], [])], [])
def yx1403 : yCx := ([ys1402], ys1403.2.2.2.2, yFP, zm285.2.2.1, zm285.2.2.2.1, zc285, 0, ys1403.2.2.2.1, [], [])
theorem yw1403 : ywf ys1403.2.2.1 = true := by decide +kernel
theorem yk1403 : yver yx1403 ys1403.2.2.1 4000 = true := by decide +kernel
theorem yt1403 {E : zHp → Prop} (h : yEF E yFP) : yTs E 2 ys1403 := yver_s (x := yx1403) h (yal_c (yt1402 h) (by decide) yw1402 (yal_n)) yg285 yk1403
def ys1404 : ySp := (286, 2, (0, [], [], [], [(0, (2, yc 1020, yc 0)), (1, (0, yc 14, yc 0))], []), [(0, [], [], [], [], [(0, yc 114, yc 0)])], [])
def yx1404 : yCx := ([ys1403], ys1404.2.2.2.2, yFP, zm286.2.2.1, zm286.2.2.2.1, zc286, 0, ys1404.2.2.2.1, [], [])
theorem yw1404 : ywf ys1404.2.2.1 = true := by decide +kernel
theorem yk1404 : yver yx1404 ys1404.2.2.1 4000 = true := by decide +kernel
theorem yt1404 {E : zHp → Prop} (h : yEF E yFP) : yTs E 3 ys1404 := yver_s (x := yx1404) h (yal_c (yt1403 h) (by decide) yw1403 (yal_n)) yg286 yk1404
def ys1405 : ySp := (282, 2, (0, [], [], [], [(0, (2, yc 1001, yc 0)), (1, (0, yc 14, yc 0))], []), [(0, [], [], [], [], [(0, yc 114, yc 0)])], [])
def yx1405 : yCx := ([ys1345, ys1404], ys1405.2.2.2.2, yFP, zm282.2.2.1, zm282.2.2.2.1, zc282, 0, ys1405.2.2.2.1, [], [])
theorem yw1405 : ywf ys1405.2.2.1 = true := by decide +kernel
theorem yk1405 : yver yx1405 ys1405.2.2.1 4000 = true := by decide +kernel
theorem yt1405 {E : zHp → Prop} (h : yEF E yFP) : yTs E 4 ys1405 := yver_s (x := yx1405) h (yal_c (yt1345 h) (by decide) yw1345 (yal_c (yt1404 h) (by decide) yw1404 (yal_n))) yg282 yk1405
def ys1406 : ySp := (293, 3, (0, [], [], [], [(0, (0, yc 15, yc 0)), (1, (0, yc 31, yc 0)), (2, (7, yc 0, yc 0))], []), [(0, [], [], [], [], [(0, yc 15, yc 0)])], [])
def yx1406 : yCx := ([], ys1406.2.2.2.2, yFP, zm293.2.2.1, zm293.2.2.2.1, zc293, 0, ys1406.2.2.2.1, [], [])
theorem yw1406 : ywf ys1406.2.2.1 = true := by decide +kernel
theorem yk1406 : yver yx1406 ys1406.2.2.1 4000 = true := by decide +kernel
theorem yt1406 {E : zHp → Prop} (h : yEF E yFP) : yTs E 1 ys1406 := yver_s (x := yx1406) h (yal_n) yg293 yk1406
def ys1407 : ySp := (285, 2, (0, [], [], [], [(0, (0, yc 15, yc 0)), (1, (0, yc 31, yc 0))], []), [(0, [], [], [], [], [])], [])
def yx1407 : yCx := ([ys1406], ys1407.2.2.2.2, yFP, zm285.2.2.1, zm285.2.2.2.1, zc285, 0, ys1407.2.2.2.1, [], [])
theorem yw1407 : ywf ys1407.2.2.1 = true := by decide +kernel
theorem yk1407 : yver yx1407 ys1407.2.2.1 4000 = true := by decide +kernel
theorem yt1407 {E : zHp → Prop} (h : yEF E yFP) : yTs E 2 ys1407 := yver_s (x := yx1407) h (yal_c (yt1406 h) (by decide) yw1406 (yal_n)) yg285 yk1407
def ys1408 : ySp := (286, 2, (0, [], [], [], [(0, (2, yc 1020, yc 0)), (1, (0, yc 15, yc 0))], []), [(0, [], [], [], [], [(0, yc 117, yc 0)])], [])
def yx1408 : yCx := ([ys1407], ys1408.2.2.2.2, yFP, zm286.2.2.1, zm286.2.2.2.1, zc286, 0, ys1408.2.2.2.1, [], [])
theorem yw1408 : ywf ys1408.2.2.1 = true := by decide +kernel
theorem yk1408 : yver yx1408 ys1408.2.2.1 4000 = true := by decide +kernel
theorem yt1408 {E : zHp → Prop} (h : yEF E yFP) : yTs E 3 ys1408 := yver_s (x := yx1408) h (yal_c (yt1407 h) (by decide) yw1407 (yal_n)) yg286 yk1408
def ys1409 : ySp := (282, 2, (0, [], [], [], [(0, (2, yc 1001, yc 0)), (1, (0, yc 15, yc 0))], []), [(0, [], [], [], [], [(0, yc 117, yc 0)])], [])
def yx1409 : yCx := ([ys1345, ys1408], ys1409.2.2.2.2, yFP, zm282.2.2.1, zm282.2.2.2.1, zc282, 0, ys1409.2.2.2.1, [], [])
theorem yw1409 : ywf ys1409.2.2.1 = true := by decide +kernel
theorem yk1409 : yver yx1409 ys1409.2.2.1 4000 = true := by decide +kernel
theorem yt1409 {E : zHp → Prop} (h : yEF E yFP) : yTs E 4 ys1409 := yver_s (x := yx1409) h (yal_c (yt1345 h) (by decide) yw1345 (yal_c (yt1408 h) (by decide) yw1408 (yal_n))) yg282 yk1409
def ys1410 : ySp := (293, 3, (0, [], [], [], [(0, (0, yc 16, yc 0)), (1, (0, yc 31, yc 0)), (2, (7, yc 0, yc 0))], []), [(0, [], [], [], [], [(0, yc 16, yc 0)])], [])
def yx1410 : yCx := ([], ys1410.2.2.2.2, yFP, zm293.2.2.1, zm293.2.2.2.1, zc293, 0, ys1410.2.2.2.1, [], [])
theorem yw1410 : ywf ys1410.2.2.1 = true := by decide +kernel
theorem yk1410 : yver yx1410 ys1410.2.2.1 4000 = true := by decide +kernel
theorem yt1410 {E : zHp → Prop} (h : yEF E yFP) : yTs E 1 ys1410 := yver_s (x := yx1410) h (yal_n) yg293 yk1410
def ys1411 : ySp := (285, 2, (0, [], [], [], [(0, (0, yc 16, yc 0)), (1, (0, yc 31, yc 0))], []), [(0, [], [], [], [], [])], [])
def yx1411 : yCx := ([ys1410], ys1411.2.2.2.2, yFP, zm285.2.2.1, zm285.2.2.2.1, zc285, 0, ys1411.2.2.2.1, [], [])
theorem yw1411 : ywf ys1411.2.2.1 = true := by decide +kernel
theorem yk1411 : yver yx1411 ys1411.2.2.1 4000 = true := by decide +kernel
theorem yt1411 {E : zHp → Prop} (h : yEF E yFP) : yTs E 2 ys1411 := yver_s (x := yx1411) h (yal_c (yt1410 h) (by decide) yw1410 (yal_n)) yg285 yk1411
def ys1412 : ySp := (286, 2, (0, [], [], [], [(0, (2, yc 1020, yc 0)), (1, (0, yc 16, yc 0))], []), [(0, [], [], [], [], [(0, yc 115, yc 0)])], [])
def yx1412 : yCx := ([ys1411], ys1412.2.2.2.2, yFP, zm286.2.2.1, zm286.2.2.2.1, zc286, 0, ys1412.2.2.2.1, [], [])
theorem yw1412 : ywf ys1412.2.2.1 = true := by decide +kernel
theorem yk1412 : yver yx1412 ys1412.2.2.1 4000 = true := by decide +kernel
theorem yt1412 {E : zHp → Prop} (h : yEF E yFP) : yTs E 3 ys1412 := yver_s (x := yx1412) h (yal_c (yt1411 h) (by decide) yw1411 (yal_n)) yg286 yk1412
def ys1413 : ySp := (282, 2, (0, [], [], [], [(0, (2, yc 1001, yc 0)), (1, (0, yc 16, yc 0))], []), [(0, [], [], [], [], [(0, yc 115, yc 0)])], [])
def yx1413 : yCx := ([ys1345, ys1412], ys1413.2.2.2.2, yFP, zm282.2.2.1, zm282.2.2.2.1, zc282, 0, ys1413.2.2.2.1, [], [])
theorem yw1413 : ywf ys1413.2.2.1 = true := by decide +kernel
theorem yk1413 : yver yx1413 ys1413.2.2.1 4000 = true := by decide +kernel
theorem yt1413 {E : zHp → Prop} (h : yEF E yFP) : yTs E 4 ys1413 := yver_s (x := yx1413) h (yal_c (yt1345 h) (by decide) yw1345 (yal_c (yt1412 h) (by decide) yw1412 (yal_n))) yg282 yk1413
def ys1414 : ySp := (293, 3, (0, [], [], [], [(0, (0, yc 17, yc 0)), (1, (0, yc 31, yc 0)), (2, (7, yc 0, yc 0))], []), [(0, [], [], [], [], [(0, yc 17, yc 0)])], [])
def yx1414 : yCx := ([], ys1414.2.2.2.2, yFP, zm293.2.2.1, zm293.2.2.2.1, zc293, 0, ys1414.2.2.2.1, [], [])
theorem yw1414 : ywf ys1414.2.2.1 = true := by decide +kernel
theorem yk1414 : yver yx1414 ys1414.2.2.1 4000 = true := by decide +kernel
theorem yt1414 {E : zHp → Prop} (h : yEF E yFP) : yTs E 1 ys1414 := yver_s (x := yx1414) h (yal_n) yg293 yk1414
def ys1415 : ySp := (285, 2, (0, [], [], [], [(0, (0, yc 17, yc 0)), (1, (0, yc 31, yc 0))], []), [(0, [], [], [], [], [])], [])
def yx1415 : yCx := ([ys1414], ys1415.2.2.2.2, yFP, zm285.2.2.1, zm285.2.2.2.1, zc285, 0, ys1415.2.2.2.1, [], [])
theorem yw1415 : ywf ys1415.2.2.1 = true := by decide +kernel
theorem yk1415 : yver yx1415 ys1415.2.2.1 4000 = true := by decide +kernel
theorem yt1415 {E : zHp → Prop} (h : yEF E yFP) : yTs E 2 ys1415 := yver_s (x := yx1415) h (yal_c (yt1414 h) (by decide) yw1414 (yal_n)) yg285 yk1415
def ys1416 : ySp := (286, 2, (0, [], [], [], [(0, (2, yc 1020, yc 0)), (1, (0, yc 17, yc 0))], []), [(0, [], [], [], [], [(0, yc 116, yc 0)])], [])
def yx1416 : yCx := ([ys1415], ys1416.2.2.2.2, yFP, zm286.2.2.1, zm286.2.2.2.1, zc286, 0, ys1416.2.2.2.1, [], [])
theorem yw1416 : ywf ys1416.2.2.1 = true := by decide +kernel
theorem yk1416 : yver yx1416 ys1416.2.2.1 4000 = true := by decide +kernel
theorem yt1416 {E : zHp → Prop} (h : yEF E yFP) : yTs E 3 ys1416 := yver_s (x := yx1416) h (yal_c (yt1415 h) (by decide) yw1415 (yal_n)) yg286 yk1416
def ys1417 : ySp := (282, 2, (0, [], [], [], [(0, (2, yc 1001, yc 0)), (1, (0, yc 17, yc 0))], []), [(0, [], [], [], [], [(0, yc 116, yc 0)])], [])
def yx1417 : yCx := ([ys1345, ys1416], ys1417.2.2.2.2, yFP, zm282.2.2.1, zm282.2.2.2.1, zc282, 0, ys1417.2.2.2.1, [], [])
theorem yw1417 : ywf ys1417.2.2.1 = true := by decide +kernel
theorem yk1417 : yver yx1417 ys1417.2.2.1 4000 = true := by decide +kernel
theorem yt1417 {E : zHp → Prop} (h : yEF E yFP) : yTs E 4 ys1417 := yver_s (x := yx1417) h (yal_c (yt1345 h) (by decide) yw1345 (yal_c (yt1416 h) (by decide) yw1416 (yal_n))) yg282 yk1417
def ys1418 : ySp := (293, 3, (0, [], [], [], [(0, (0, yc 18, yc 0)), (1, (0, yc 31, yc 0)), (2, (7, yc 0, yc 0))], []), [(0, [], [], [], [], [(0, yc 18, yc 0)])], [])
def yx1418 : yCx := ([], ys1418.2.2.2.2, yFP, zm293.2.2.1, zm293.2.2.2.1, zc293, 0, ys1418.2.2.2.1, [], [])
theorem yw1418 : ywf ys1418.2.2.1 = true := by decide +kernel
theorem yk1418 : yver yx1418 ys1418.2.2.1 4000 = true := by decide +kernel
theorem yt1418 {E : zHp → Prop} (h : yEF E yFP) : yTs E 1 ys1418 := yver_s (x := yx1418) h (yal_n) yg293 yk1418
def ys1419 : ySp := (285, 2, (0, [], [], [], [(0, (0, yc 18, yc 0)), (1, (0, yc 31, yc 0))], []), [(0, [], [], [], [], [])], [])
def yx1419 : yCx := ([ys1418], ys1419.2.2.2.2, yFP, zm285.2.2.1, zm285.2.2.2.1, zc285, 0, ys1419.2.2.2.1, [], [])
theorem yw1419 : ywf ys1419.2.2.1 = true := by decide +kernel
theorem yk1419 : yver yx1419 ys1419.2.2.1 4000 = true := by decide +kernel
theorem yt1419 {E : zHp → Prop} (h : yEF E yFP) : yTs E 2 ys1419 := yver_s (x := yx1419) h (yal_c (yt1418 h) (by decide) yw1418 (yal_n)) yg285 yk1419
def ys1420 : ySp := (286, 2, (0, [], [], [], [(0, (2, yc 1020, yc 0)), (1, (0, yc 18, yc 0))], []), [(0, [], [], [], [], [(0, yc 32, yc 0)])], [])
def yx1420 : yCx := ([ys1419], ys1420.2.2.2.2, yFP, zm286.2.2.1, zm286.2.2.2.1, zc286, 0, ys1420.2.2.2.1, [], [])
theorem yw1420 : ywf ys1420.2.2.1 = true := by decide +kernel
theorem yk1420 : yver yx1420 ys1420.2.2.1 4000 = true := by decide +kernel
theorem yt1420 {E : zHp → Prop} (h : yEF E yFP) : yTs E 3 ys1420 := yver_s (x := yx1420) h (yal_c (yt1419 h) (by decide) yw1419 (yal_n)) yg286 yk1420
def ys1421 : ySp := (282, 2, (0, [], [], [], [(0, (2, yc 1001, yc 0)), (1, (0, yc 18, yc 0))], []), [(0, [], [], [], [], [(0, yc 32, yc 0)])], [])
def yx1421 : yCx := ([ys1345, ys1420], ys1421.2.2.2.2, yFP, zm282.2.2.1, zm282.2.2.2.1, zc282, 0, ys1421.2.2.2.1, [], [])
theorem yw1421 : ywf ys1421.2.2.1 = true := by decide +kernel
theorem yk1421 : yver yx1421 ys1421.2.2.1 4000 = true := by decide +kernel
theorem yt1421 {E : zHp → Prop} (h : yEF E yFP) : yTs E 4 ys1421 := yver_s (x := yx1421) h (yal_c (yt1345 h) (by decide) yw1345 (yal_c (yt1420 h) (by decide) yw1420 (yal_n))) yg282 yk1421
def ys1422 : ySp := (293, 3, (0, [], [], [], [(0, (0, yc 19, yc 0)), (1, (0, yc 31, yc 0)), (2, (7, yc 0, yc 0))], []), [(0, [], [], [], [], [(0, yc 19, yc 0)])], [])
def yx1422 : yCx := ([], ys1422.2.2.2.2, yFP, zm293.2.2.1, zm293.2.2.2.1, zc293, 0, ys1422.2.2.2.1, [], [])
theorem yw1422 : ywf ys1422.2.2.1 = true := by decide +kernel
theorem yk1422 : yver yx1422 ys1422.2.2.1 4000 = true := by decide +kernel
theorem yt1422 {E : zHp → Prop} (h : yEF E yFP) : yTs E 1 ys1422 := yver_s (x := yx1422) h (yal_n) yg293 yk1422
def ys1423 : ySp := (285, 2, (0, [], [], [], [(0, (0, yc 19, yc 0)), (1, (0, yc 31, yc 0))], []), [(0, [], [], [], [], [])], [])
def yx1423 : yCx := ([ys1422], ys1423.2.2.2.2, yFP, zm285.2.2.1, zm285.2.2.2.1, zc285, 0, ys1423.2.2.2.1, [], [])
theorem yw1423 : ywf ys1423.2.2.1 = true := by decide +kernel
theorem yk1423 : yver yx1423 ys1423.2.2.1 4000 = true := by decide +kernel
theorem yt1423 {E : zHp → Prop} (h : yEF E yFP) : yTs E 2 ys1423 := yver_s (x := yx1423) h (yal_c (yt1422 h) (by decide) yw1422 (yal_n)) yg285 yk1423
def ys1424 : ySp := (286, 2, (0, [], [], [], [(0, (2, yc 1020, yc 0)), (1, (0, yc 19, yc 0))], []), [(0, [], [], [], [], [(0, yc 119, yc 0)])], [])
def yx1424 : yCx := ([ys1423], ys1424.2.2.2.2, yFP, zm286.2.2.1, zm286.2.2.2.1, zc286, 0, ys1424.2.2.2.1, [], [])
theorem yw1424 : ywf ys1424.2.2.1 = true := by decide +kernel
theorem yk1424 : yver yx1424 ys1424.2.2.1 4000 = true := by decide +kernel
theorem yt1424 {E : zHp → Prop} (h : yEF E yFP) : yTs E 3 ys1424 := yver_s (x := yx1424) h (yal_c (yt1423 h) (by decide) yw1423 (yal_n)) yg286 yk1424
def ys1425 : ySp := (282, 2, (0, [], [], [], [(0, (2, yc 1001, yc 0)), (1, (0, yc 19, yc 0))], []), [(0, [], [], [], [], [(0, yc 119, yc 0)])], [])
def yx1425 : yCx := ([ys1345, ys1424], ys1425.2.2.2.2, yFP, zm282.2.2.1, zm282.2.2.2.1, zc282, 0, ys1425.2.2.2.1, [], [])
theorem yw1425 : ywf ys1425.2.2.1 = true := by decide +kernel
theorem yk1425 : yver yx1425 ys1425.2.2.1 4000 = true := by decide +kernel
theorem yt1425 {E : zHp → Prop} (h : yEF E yFP) : yTs E 4 ys1425 := yver_s (x := yx1425) h (yal_c (yt1345 h) (by decide) yw1345 (yal_c (yt1424 h) (by decide) yw1424 (yal_n))) yg282 yk1425
def ys1426 : ySp := (293, 3, (0, [], [], [], [(0, (0, yc 20, yc 0)), (1, (0, yc 31, yc 0)), (2, (7, yc 0, yc 0))], []), [(0, [], [], [], [], [(0, yc 20, yc 0)])], [])
def yx1426 : yCx := ([], ys1426.2.2.2.2, yFP, zm293.2.2.1, zm293.2.2.2.1, zc293, 0, ys1426.2.2.2.1, [], [])
theorem yw1426 : ywf ys1426.2.2.1 = true := by decide +kernel
theorem yk1426 : yver yx1426 ys1426.2.2.1 4000 = true := by decide +kernel
theorem yt1426 {E : zHp → Prop} (h : yEF E yFP) : yTs E 1 ys1426 := yver_s (x := yx1426) h (yal_n) yg293 yk1426
