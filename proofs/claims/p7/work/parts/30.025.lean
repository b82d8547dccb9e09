def ys1427 : ySp := (285, 2, (0, [], [], [], [(0, (0, yc 20, yc 0)), (1, (0, yc 31, yc 0))], []), [(0, [], [], [], [], [])], [])
def yx1427 : yCx := ([ys1426], ys1427.2.2.2.2, yFP, zm285.2.2.1, zm285.2.2.2.1, zc285, 0, ys1427.2.2.2.1, [], [])
theorem yw1427 : ywf ys1427.2.2.1 = true := by decide +kernel
theorem yk1427 : yver yx1427 ys1427.2.2.1 4000 = true := by decide +kernel
theorem yt1427 {E : zHp → Prop} (h : yEF E yFP) : yTs E 2 ys1427 := yver_s (x := yx1427) h (yal_c (yt1426 h) (by decide) yw1426 (yal_n)) yg285 yk1427
def ys1428 : ySp := (286, 2, (0, [], [], [], [(0, (2, yc 1020, yc 0)), (1, (0, yc 20, yc 0))], []), [(0, [], [], [], [], [(0, yc 111, yc 0)])], [])
def yx1428 : yCx := ([ys1427], ys1428.2.2.2.2, yFP, zm286.2.2.1, zm286.2.2.2.1, zc286, 0, ys1428.2.2.2.1, [], [])
theorem yw1428 : ywf ys1428.2.2.1 = true := by decide +kernel
theorem yk1428 : yver yx1428 ys1428.2.2.1 4000 = true := by decide +kernel
theorem yt1428 {E : zHp → Prop} (h : yEF E yFP) : yTs E 3 ys1428 := yver_s (x := yx1428) h (yal_c (yt1427 h) (by decide) yw1427 (yal_n)) yg286 yk1428
def ys1429 : ySp := (282, 2, (0, [], [], [], [(0, (2, yc 1001, yc 0)), (1, (0, yc 20, yc 0))], []), [(0, [], [], [], [], [(0, yc 111, yc 0)])], [])
def yx1429 : yCx := ([ys1345, ys1428], ys1429.2.2.2.2, yFP, zm282.2.2.1, zm282.2.2.2.1, zc282, 0, ys1429.2.2.2.1, [], [])
theorem yw1429 : ywf ys1429.2.2.1 = true := by decide +kernel
theorem yk1429 : yver yx1429 ys1429.2.2.1 4000 = true := by decide +kernel
theorem yt1429 {E : zHp → Prop} (h : yEF E yFP) : yTs E 4 ys1429 := yver_s (x := yx1429) h (yal_c (yt1345 h) (by decide) yw1345 (yal_c (yt1428 h) (by decide) yw1428 (yal_n))) yg282 yk1429
def ys1430 : ySp := (293, 3, (0, [], [], [], [(0, (0, yc 21, yc 0)), (1, (0, yc 31, yc 0)), (2, (7, yc 0, yc 0))], []), [(0, [], [], [], [], [(0, yc 21, yc 0)])], [])
def yx1430 : yCx := ([], ys1430.2.2.2.2, yFP, zm293.2.2.1, zm293.2.2.2.1, zc293, 0, ys1430.2.2.2.1, [], [])
theorem yw1430 : ywf ys1430.2.2.1 = true := by decide +kernel
theorem yk1430 : yver yx1430 ys1430.2.2.1 4000 = true := by decide +kernel
theorem yt1430 {E : zHp → Prop} (h : yEF E yFP) : yTs E 1 ys1430 := yver_s (x := yx1430) h (yal_n) yg293 yk1430
def ys1431 : ySp := (285, 2, (0, [], [], [], [(0, (0, yc 21, yc 0)), (1, (0, yc 31, yc 0))], []), [(0, [], [], [], [], [])], [])
def yx1431 : yCx := ([ys1430], ys1431.2.2.2.2, yFP, zm285.2.2.1, zm285.2.2.2.1, zc285, 0, ys1431.2.2.2.1, [], [])
theorem yw1431 : ywf ys1431.2.2.1 = true := by decide +kernel
theorem yk1431 : yver yx1431 ys1431.2.2.1 4000 = true := by decide +kernel
theorem yt1431 {E : zHp → Prop} (h : yEF E yFP) : yTs E 2 ys1431 := yver_s (x := yx1431) h (yal_c (yt1430 h) (by decide) yw1430 (yal_n)) yg285 yk1431
def ys1432 : ySp := (286, 2, (0, [], [], [], [(0, (2, yc 1020, yc 0)), (1, (0, yc 21, yc 0))], []), [(0, [], [], [], [], [(0, yc 114, yc 0)])], [])
def yx1432 : yCx := ([ys1431], ys1432.2.2.2.2, yFP, zm286.2.2.1, zm286.2.2.2.1, zc286, 0, ys1432.2.2.2.1, [], [])
theorem yw1432 : ywf ys1432.2.2.1 = true := by decide +kernel
theorem yk1432 : yver yx1432 ys1432.2.2.1 4000 = true := by decide +kernel
theorem yt1432 {E : zHp → Prop} (h : yEF E yFP) : yTs E 3 ys1432 := yver_s (x := yx1432) h (yal_c (yt1431 h) (by decide) yw1431 (yal_n)) yg286 yk1432
def ys1433 : ySp := (282, 2, (0, [], [], [], [(0, (2, yc 1001, yc 0)), (1, (0, yc 21, yc 0))], []), [(0, [], [], [], [], [(0, yc 114, yc 0)])], [])
def yx1433 : yCx := ([ys1345, ys1432], ys1433.2.2.2.2, yFP, zm282.2.2.1, zm282.2.2.2.1, zc282, 0, ys1433.2.2.2.1, [], [])
theorem yw1433 : ywf ys1433.2.2.1 = true := by decide +kernel
theorem yk1433 : yver yx1433 ys1433.2.2.1 4000 = true := by decide +kernel
theorem yt1433 {E : zHp → Prop} (h : yEF E yFP) : yTs E 4 ys1433 := yver_s (x := yx1433) h (yal_c (yt1345 h) (by decide) yw1345 (yal_c (yt1432 h) (by decide) yw1432 (yal_n))) yg282 yk1433
def ys1434 : ySp := (293, 3, (0, [], [], [], [(0, (0, yc 22, yc 0)), (1, (0, yc 31, yc 0)), (2, (7, yc 0, yc 0))], []), [(0, [], [], [], [], [(0, yc 22, yc 0)])], [])
def yx1434 : yCx := ([], ys1434.2.2.2.2, yFP, zm293.2.2.1, zm293.2.2.2.1, zc293, 0, ys1434.2.2.2.1, [], [])
theorem yw1434 : ywf ys1434.2.2.1 = true := by decide +kernel
theorem yk1434 : yver yx1434 ys1434.2.2.1 4000 = true := by decide +kernel
theorem yt1434 {E : zHp → Prop} (h : yEF E yFP) : yTs E 1 ys1434 := yver_s (x := yx1434) h (yal_n) yg293 yk1434
def ys1435 : ySp := (285, 2, (0, [], [], [], [(0, (0, yc 22, yc 0)), (1, (0, yc 31, yc 0))], []), [(0, [], [], [], [], [])], [])
def yx1435 : yCx := ([ys1434], ys1435.2.2.2.2, yFP, zm285.2.2.1, zm285.2.2.2.1, zc285, 0, ys1435.2.2.2.1, [], [])
theorem yw1435 : ywf ys1435.2.2.1 = true := by decide +kernel
theorem yk1435 : yver yx1435 ys1435.2.2.1 4000 = true := by decide +kernel
theorem yt1435 {E : zHp → Prop} (h : yEF E yFP) : yTs E 2 ys1435 := yver_s (x := yx1435) h (yal_c (yt1434 h) (by decide) yw1434 (yal_n)) yg285 yk1435
def ys1436 : ySp := (286, 2, (0, [], [], [], [(0, (2, yc 1020, yc 0)), (1, (0, yc 22, yc 0))], []), [(0, [], [], [], [], [(0, yc 107, yc 0)])], [])
def yx1436 : yCx := ([ys1435], ys1436.2.2.2.2, yFP, zm286.2.2.1, zm286.2.2.2.1, zc286, 0, ys1436.2.2.2.1, [], [])
theorem yw1436 : ywf ys1436.2.2.1 = true := by decide +kernel
theorem yk1436 : yver yx1436 ys1436.2.2.1 4000 = true := by decide +kernel
theorem yt1436 {E : zHp → Prop} (h : yEF E yFP) : yTs E 3 ys1436 := yver_s (x := yx1436) h (yal_c (yt1435 h) (by decide) yw1435 (yal_n)) yg286 yk1436
def ys1437 : ySp := (282, 2, (0, [], [], [], [(0, (2, yc 1001, yc 0)), (1, (0, yc 22, yc 0))], []), [(0, [], [], [], [], [(0, yc 107, yc 0)])], [])
def yx1437 : yCx := ([ys1345, ys1436], ys1437.2.2.2.2, yFP, zm282.2.2.1, zm282.2.2.2.1, zc282, 0, ys1437.2.2.2.1, [], [])
theorem yw1437 : ywf ys1437.2.2.1 = true := by decide +kernel
theorem yk1437 : yver yx1437 ys1437.2.2.1 4000 = true := by decide +kernel
theorem yt1437 {E : zHp → Prop} (h : yEF E yFP) : yTs E 4 ys1437 := yver_s (x := yx1437) h (yal_c (yt1345 h) (by decide) yw1345 (yal_c (yt1436 h) (by decide) yw1436 (yal_n))) yg282 yk1437
def ys1438 : ySp := (293, 3, (0, [], [], [], [(0, (0, yc 23, yc 0)), (1, (0, yc 31, yc 0)), (2, (7, yc 0, yc 0))], []), [(0, [], [], [], [], [(0, yc 23, yc 0)])], [])
def yx1438 : yCx := ([], ys1438.2.2.2.2, yFP, zm293.2.2.1, zm293.2.2.2.1, zc293, 0, ys1438.2.2.2.1, [], [])
theorem yw1438 : ywf ys1438.2.2.1 = true := by decide +kernel
theorem yk1438 : yver yx1438 ys1438.2.2.1 4000 = true := by decide +kernel
theorem yt1438 {E : zHp → Prop} (h : yEF E yFP) : yTs E 1 ys1438 := yver_s (x := yx1438) h (yal_n) yg293 yk1438
def ys1439 : ySp := (285, 2, (0, [], [], [], [(0, (0, yc 23, yc 0)), (1, (0, yc 31, yc 0))], []), [(0, [], [], [], [], [])], [])
def yx1439 : yCx := ([ys1438], ys1439.2.2.2.2, yFP, zm285.2.2.1, zm285.2.2.2.1, zc285, 0, ys1439.2.2.2.1, [], [])
theorem yw1439 : ywf ys1439.2.2.1 = true := by decide +kernel
theorem yk1439 : yver yx1439 ys1439.2.2.1 4000 = true := by decide +kernel
theorem yt1439 {E : zHp → Prop} (h : yEF E yFP) : yTs E 2 ys1439 := yver_s (x := yx1439) h (yal_c (yt1438 h) (by decide) yw1438 (yal_n)) yg285 yk1439
def ys1440 : ySp := (286, 2, (0, [], [], [], [(0, (2, yc 1020, yc 0)), (1, (0, yc 23, yc 0))], []), [(0, [], [], [], [], [(0, yc 32, yc 0)])], [])
def yx1440 : yCx := ([ys1439], ys1440.2.2.2.2, yFP, zm286.2.2.1, zm286.2.2.2.1, zc286, 0, ys1440.2.2.2.1, [], [])
theorem yw1440 : ywf ys1440.2.2.1 = true := by decide +kernel
theorem yk1440 : yver yx1440 ys1440.2.2.1 4000 = true := by decide +kernel
theorem yt1440 {E : zHp → Prop} (h : yEF E yFP) : yTs E 3 ys1440 := yver_s (x := yx1440) h (yal_c (yt1439 h) (by decide) yw1439 (yal_n)) yg286 yk1440
def ys1441 : ySp := (282, 2, (0, [], [], [], [(0, (2, yc 1001, yc 0)), (1, (0, yc 23, yc 0))], []), [(0, [], [], [], [], [(0, yc 32, yc 0)])], [])
def yx1441 : yCx := ([ys1345, ys1440], ys1441.2.2.2.2, yFP, zm282.2.2.1, zm282.2.2.2.1, zc282, 0, ys1441.2.2.2.1, [], [])
theorem yw1441 : ywf ys1441.2.2.1 = true := by decide +kernel
theorem yk1441 : yver yx1441 ys1441.2.2.1 4000 = true := by decide +kernel
theorem yt1441 {E : zHp → Prop} (h : yEF E yFP) : yTs E 4 ys1441 := yver_s (x := yx1441) h (yal_c (yt1345 h) (by decide) yw1345 (yal_c (yt1440 h) (by decide) yw1440 (yal_n))) yg282 yk1441
def ys1442 : ySp := (293, 3, (0, [], [], [], [(0, (0, yc 24, yc 0)), (1, (0, yc 31, yc 0)), (2, (7, yc 0, yc 0))], []), [(0, [], [], [], [], [(0, yc 24, yc 0)])], [])
def yx1442 : yCx := ([], ys1442.2.2.2.2, yFP, zm293.2.2.1, zm293.2.2.2.1, zc293, 0, ys1442.2.2.2.1, [], [])
theorem yw1442 : ywf ys1442.2.2.1 = true := by decide +kernel
theorem yk1442 : yver yx1442 ys1442.2.2.1 4000 = true := by decide +kernel
theorem yt1442 {E : zHp → Prop} (h : yEF E yFP) : yTs E 1 ys1442 := yver_s (x := yx1442) h (yal_n) yg293 yk1442
def ys1443 : ySp := (285, 2, (0, [], [], [], [(0, (0, yc 24, yc 0)), (1, (0, yc 31, yc 0))], []), [(0, [], [], [], [], [])], [])
def yx1443 : yCx := ([ys1442], ys1443.2.2.2.2, yFP, zm285.2.2.1, zm285.2.2.2.1, zc285, 0, ys1443.2.2.2.1, [], [])
theorem yw1443 : ywf ys1443.2.2.1 = true := by decide +kernel
theorem yk1443 : yver yx1443 ys1443.2.2.1 4000 = true := by decide +kernel
theorem yt1443 {E : zHp → Prop} (h : yEF E yFP) : yTs E 2 ys1443 := yver_s (x := yx1443) h (yal_c (yt1442 h) (by decide) yw1442 (yal_n)) yg285 yk1443
def ys1444 : ySp := (286, 2, (0, [], [], [], [(0, (2, yc 1020, yc 0)), (1, (0, yc 24, yc 0))], []), [(0, [], [], [], [], [(0, yc 116, yc 0)])], [])
def yx1444 : yCx := ([ys1443], ys1444.2.2.2.2, yFP, zm286.2.2.1, zm286.2.2.2.1, zc286, 0, ys1444.2.2.2.1, [], [])
theorem yw1444 : ywf ys1444.2.2.1 = true := by decide +kernel
theorem yk1444 : yver yx1444 ys1444.2.2.1 4000 = true := by decide +kernel
theorem yt1444 {E : zHp → Prop} (h : yEF E yFP) : yTs E 3 ys1444 := yver_s (x := yx1444) h (yal_c (yt1443 h) (by decide) yw1443 (yal_n)) yg286 yk1444
def ys1445 : ySp := (282, 2, (0, [], [], [], [(0, (2, yc 1001, yc 0)), (1, (0, yc 24, yc 0))], []), [(0, [], [], [], [], [(0, yc 116, yc 0)])], [])
def yx1445 : yCx := ([ys1345, ys1444], ys1445.2.2.2.2, yFP, zm282.2.2.1, zm282.2.2.2.1, zc282, 0, ys1445.2.2.2.1, [], [])
theorem yw1445 : ywf ys1445.2.2.1 = true := by decide +kernel
theorem yk1445 : yver yx1445 ys1445.2.2.1 4000 = true := by decide +kernel
theorem yt1445 {E : zHp → Prop} (h : yEF E yFP) : yTs E 4 ys1445 := yver_s (x := yx1445) h (yal_c (yt1345 h) (by decide) yw1345 (yal_c (yt1444 h) (by decide) yw1444 (yal_n))) yg282 yk1445
def ys1446 : ySp := (293, 3, (0, [], [], [], [(0, (0, yc 25, yc 0)), (1, (0, yc 31, yc 0)), (2, (7, yc 0, yc 0))], []), [(0, [], [], [], [], [(0, yc 25, yc 0)])], [])
def yx1446 : yCx := ([], ys1446.2.2.2.2, yFP, zm293.2.2.1, zm293.2.2.2.1, zc293, 0, ys1446.2.2.2.1, [], [])
theorem yw1446 : ywf ys1446.2.2.1 = true := by decide +kernel
theorem yk1446 : yver yx1446 ys1446.2.2.1 4000 = true := by decide +kernel
theorem yt1446 {E : zHp → Prop} (h : yEF E yFP) : yTs E 1 ys1446 := yver_s (x := yx1446) h (yal_n) yg293 yk1446
def ys1447 : ySp := (285, 2, (0, [], [], [], [(0, (0, yc 25, yc 0)), (1, (0, yc 31, yc 0))], []), [(0, [], [], [], [], [])], [])
def yx1447 : yCx := ([ys1446], ys1447.2.2.2.2, yFP, zm285.2.2.1, zm285.2.2.2.1, zc285, 0, ys1447.2.2.2.1, [], [])
theorem yw1447 : ywf ys1447.2.2.1 = true := by decide +kernel
theorem yk1447 : yver yx1447 ys1447.2.2.1 4000 = true := by decide +kernel
theorem yt1447 {E : zHp → Prop} (h : yEF E yFP) : yTs E 2 ys1447 := yver_s (x := yx1447) h (yal_c (yt1446 h) (by decide) yw1446 (yal_n)) yg285 yk1447
def ys1448 : ySp := (286, 2, (0, [], [], [], [(0, (2, yc 1020, yc 0)), (1, (0, yc 25, yc 0))], []), [(0, [], [], [], [], [(0, yc 104, yc 0)])], [])
def yx1448 : yCx := ([ys1447], ys1448.2.2.2.2, yFP, zm286.2.2.1, zm286.2.2.2.1, zc286, 0, ys1448.2.2.2.1, [], [])
theorem yw1448 : ywf ys1448.2.2.1 = true := by decide +kernel
theorem yk1448 : yver yx1448 ys1448.2.2.1 4000 = true := by decide +kernel
theorem yt1448 {E : zHp → Prop} (h : yEF E yFP) : yTs E 3 ys1448 := yver_s (x := yx1448) h (yal_c (yt1447 h) (by decide) yw1447 (yal_n)) yg286 yk1448
def ys1449 : ySp := (282, 2, (0, [], [], [], [(0, (2, yc 1001, yc 0)), (1, (0, yc 25, yc 0))], []), [(0, [], [], [], [], [(0, yc 104, yc 0)])], [])
def yx1449 : yCx := ([ys1345, ys1448], ys1449.2.2.2.2, yFP, zm282.2.2.1, zm282.2.2.2.1, zc282, 0, ys1449.2.2.2.1, [], [])
theorem yw1449 : ywf ys1449.2.2.1 = true := by decide +kernel
theorem yk1449 : yver yx1449 ys1449.2.2.1 4000 = true := by decide +kernel
theorem yt1449 {E : zHp → Prop} (h : yEF E yFP) : yTs E 4 ys1449 := yver_s (x := yx1449) h (yal_c (yt1345 h) (by decide) yw1345 (yal_c (yt1448 h) (by decide) yw1448 (yal_n))) yg282 yk1449
def ys1450 : ySp := (293, 3, (0, [], [], [], [(0, (0, yc 26, yc 0)), (1, (0, yc 31, yc 0)), (2, (7, yc 0, yc 0))], []), [(0, [], [], [], [], [(0, yc 26, yc 0)])], [])
def yx1450 : yCx := ([], ys1450.2.2.2.2, yFP, zm293.2.2.1, zm293.2.2.2.1, zc293, 0, ys1450.2.2.2.1, [], [])
theorem yw1450 : ywf ys1450.2.2.1 = true := by decide +kernel
theorem yk1450 : yver yx1450 ys1450.2.2.1 4000 = true := by decide +kernel
theorem yt1450 {E : zHp → Prop} (h : yEF E yFP) : yTs E 1 ys1450 := yver_s (x := yx1450) h (yal_n) yg293 yk1450
def ys1451 : ySp := (285, 2, (0, [], [], [], [(0, (0, yc 26, yc 0)), (1, (0, yc 31, yc 0))], []), [(0, [], [], [], [], [])], [])
def yx1451 : yCx := ([ys1450], ys1451.2.2.2.2, yFP, zm285.2.2.1, zm285.2.2.2.1, zc285, 0, ys1451.2.2.2.1, [], [])
theorem yw1451 : ywf ys1451.2.2.1 = true := by decide +kernel
theorem yk1451 : yver yx1451 ys1451.2.2.1 4000 = true := by decide +kernel
theorem yt1451 {E : zHp → Prop} (h : yEF E yFP) : yTs E 2 ys1451 := yver_s (x := yx1451) h (yal_c (yt1450 h) (by decide) yw1450 (yal_n)) yg285 yk1451
def ys1452 : ySp := (286, 2, (0, [], [], [], [(0, (2, yc 1020, yc 0)), (1, (0, yc 26, yc 0))], []), [(0, [], [], [], [], [(0, yc 97, yc 0)])], [])
def yx1452 : yCx := ([ys1451], ys1452.2.2.2.2, yFP, zm286.2.2.1, zm286.2.2.2.1, zc286, 0, ys1452.2.2.2.1, [], [])
theorem yw1452 : ywf ys1452.2.2.1 = true := by decide +kernel
theorem yk1452 : yver yx1452 ys1452.2.2.1 4000 = true := by decide +kernel
theorem yt1452 {E : zHp → Prop} (h : yEF E yFP) : yTs E 3 ys1452 := yver_s (x := yx1452) h (yal_c (yt1451 h) (by decide) yw1451 (yal_n)) yg286 yk1452
def ys1453 : ySp := (282, 2, (0, [], [], [], [(0, (2, yc 1001, yc 0)), (1, (0, yc 26, yc 0))], []), [(0, [], [], [], [], [(0, yc 97, yc 0)])], [])
def yx1453 : yCx := ([ys1345, ys1452], ys1453.2.2.2.2, yFP, zm282.2.2.1, zm282.2.2.2.1, zc282, 0, ys1453.2.2.2.1, [], [])
theorem yw1453 : ywf ys1453.2.2.1 = true := by decide +kernel
theorem yk1453 : yver yx1453 ys1453.2.2.1 4000 = true := by decide +kernel
theorem yt1453 {E : zHp → Prop} (h : yEF E yFP) : yTs E 4 ys1453 := yver_s (x := yx1453) h (yal_c (yt1345 h) (by decide) yw1345 (yal_c (yt1452 h) (by decide) yw1452 (yal_n))) yg282 yk1453
def ys1454 : ySp := (293, 3, (0, [], [], [], [(0, (0, yc 27, yc 0)), (1, (0, yc 31, yc 0)), (2, (7, yc 0, yc 0))], []), [(0, [], [], [], [], [(0, yc 27, yc 0)])], [])
def yx1454 : yCx := ([], ys1454.2.2.2.2, yFP, zm293.2.2.1, zm293.2.2.2.1, zc293, 0, ys1454.2.2.2.1, [], [])
theorem yw1454 : ywf ys1454.2.2.1 = true := by decide +kernel
theorem yk1454 : yver yx1454 ys1454.2.2.1 4000 = true := by decide +kernel
theorem yt1454 {E : zHp → Prop} (h : yEF E yFP) : yTs E 1 ys1454 := yver_s (x := yx1454) h (yal_n) yg293 yk1454
def ys1455 : ySp := (285, 2, (0, [], [], [], [(0, (0, yc 27, yc 0)), (1, (0, yc 31, yc 0))], []), [(0, [], [], [], [], [])], [])
def yx1455 : yCx := ([ys1454], ys1455.2.2.2.2, yFP, zm285.2.2.1, zm285.2.2.2.1, zc285, 0, ys1455.2.2.2.1, [], [])
theorem yw1455 : ywf ys1455.2.2.1 = true := by decide +kernel
theorem yk1455 : yver yx1455 ys1455.2.2.1 4000 = true := by decide +kernel
theorem yt1455 {E : zHp → Prop} (h : yEF E yFP) : yTs E 2 ys1455 := yver_s (x := yx1455) h (yal_c (yt1454 h) (by decide) yw1454 (yal_n)) yg285 yk1455
def ys1456 : ySp := (286, 2, (0, [], [], [], [(0, (2, yc 1020, yc 0)), (1, (0, yc 27, yc 0))], []), [(0, [], [], [], [], [(0, yc 110, yc 0)])], [])
def yx1456 : yCx := ([ys1455], ys1456.2.2.2.2, yFP, zm286.2.2.1, zm286.2.2.2.1, zc286, 0, ys1456.2.2.2.1, [], [])
theorem yw1456 : ywf ys1456.2.2.1 = true := by decide +kernel
theorem yk1456 : yver yx1456 ys1456.2.2.1 4000 = true := by decide +kernel
theorem yt1456 {E : zHp → Prop} (h : yEF E yFP) : yTs E 3 ys1456 := yver_s (x := yx1456) h (yal_c (yt1455 h) (by decide) yw1455 (yal_n)) yg286 yk1456
def ys1457 : ySp := (282, 2, (0, [], [], [], [(0, (2, yc 1001, yc 0)), (1, (0, yc 27, yc 0))], []), [(0, [], [], [], [], [(0, yc 110, yc 0)])], [])
def yx1457 : yCx := ([ys1345, ys1456], ys1457.2.2.2.2, yFP, zm282.2.2.1, zm282.2.2.2.1, zc282, 0, ys1457.2.2.2.1, [], [])
theorem yw1457 : ywf ys1457.2.2.1 = true := by decide +kernel
theorem yk1457 : yver yx1457 ys1457.2.2.1 4000 = true := by decide +kernel
theorem yt1457 {E : zHp → Prop} (h : yEF E yFP) : yTs E 4 ys1457 := yver_s (x := yx1457) h (yal_c (yt1345 h) (by decide) yw1345 (yal_c (yt1456 h) (by decide) yw1456 (yal_n))) yg282 yk1457
def ys1458 : ySp := (293, 3, (0, [], [], [], [(0, (0, yc 28, yc 0)), (1, (0, yc 31, yc 0)), (2, (7, yc 0, yc 0))], []), [(0, [], [], [], [], [(0, yc 28, yc 0)])], [])
def yx1458 : yCx := ([], ys1458.2.2.2.2, yFP, zm293.2.2.1, zm293.2.2.2.1, zc293, 0, ys1458.2.2.2.1, [], [])
theorem yw1458 : ywf ys1458.2.2.1 = true := by decide +kernel
theorem yk1458 : yver yx1458 ys1458.2.2.1 4000 = true := by decide +kernel
theorem yt1458 {E : zHp → Prop} (h : yEF E yFP) : yTs E 1 ys1458 := yver_s (x := yx1458) h (yal_n) yg293 yk1458
def ys1459 : ySp := (285, 2, (0, [], [], [], [(0, (0, yc 28, yc 0)), (1, (0, yc 31, yc 0))], []), [(0, [], [], [], [], [])], [])
def yx1459 : yCx := ([ys1458], ys1459.2.2.2.2, yFP, zm285.2.2.1, zm285.2.2.2.1, zc285, 0, ys1459.2.2.2.1, [], [])
theorem yw1459 : ywf ys1459.2.2.1 = true := by decide +kernel
theorem yk1459 : yver yx1459 ys1459.2.2.1 4000 = true := by decide +kernel
theorem yt1459 {E : zHp → Prop} (h : yEF E yFP) : yTs E 2 ys1459 := yver_s (x := yx1459) h (yal_c (yt1458 h) (by decide) yw1458 (yal_n)) yg285 yk1459
def ys1460 : ySp := (286, 2, (0, [], [], [], [(0, (2, yc 1020, yc 0)), (1, (0, yc 28, yc 0))], []), [(0, [], [], [], [], [(0, yc 107, yc 0)])], [])
def yx1460 : yCx := ([ys1459], ys1460.2.2.2.2, yFP, zm286.2.2.1, zm286.2.2.2.1, zc286, 0, ys1460.2.2.2.1, [], [])
theorem yw1460 : ywf ys1460.2.2.1 = true := by decide +kernel
theorem yk1460 : yver yx1460 ys1460.2.2.1 4000 = true := by decide +kernel
theorem yt1460 {E : zHp → Prop} (h : yEF E yFP) : yTs E 3 ys1460 := yver_s (x := yx1460) h (yal_c (yt1459 h) (by decide) yw1459 (yal_n)) yg286 yk1460
def ys1461 : ySp := (282, 2, (0, [], [], [], [(0, (2, yc 1001, yc 0)), (1, (0, yc 28, yc 0))], []), [(0, [], [], [], [], [(0, yc 107, yc 0)])], [])
def yx1461 : yCx := ([ys1345, ys1460], ys1461.2.2.2.2, yFP, zm282.2.2.1, zm282.2.2.2.1, zc282, 0, ys1461.2.2.2.1, [], [])
theorem yw1461 : ywf ys1461.2.2.1 = true := by decide +kernel
theorem yk1461 : yver yx1461 ys1461.2.2.1 4000 = true := by decide +kernel
theorem yt1461 {E : zHp → Prop} (h : yEF E yFP) : yTs E 4 ys1461 := yver_s (x := yx1461) h (yal_c (yt1345 h) (by decide) yw1345 (yal_c (yt1460 h) (by decide) yw1460 (yal_n))) yg282 yk1461
def ys1462 : ySp := (293, 3, (0, [], [], [], [(0, (0, yc 29, yc 0)), (1, (0, yc 31, yc 0)), (2, (7, yc 0, yc 0))], []), [(0, [], [], [], [], [(0, yc 29, yc 0)])], [])
def yx1462 : yCx := ([], ys1462.2.2.2.2, yFP, zm293.2.2.1, zm293.2.2.2.1, zc293, 0, ys1462.2.2.2.1, [], [])
theorem yw1462 : ywf ys1462.2.2.1 = true := by decide +kernel
theorem yk1462 : yver yx1462 ys1462.2.2.1 4000 = true := by decide +kernel
theorem yt1462 {E : zHp → Prop} (h : yEF E yFP) : yTs E 1 ys1462 := yver_s (x := yx1462) h (yal_n) yg293 yk1462
def ys1463 : ySp := (285, 2, (0, [], [], [], [(0, (0, yc 29, yc 0)), (1, (0, yc 31, yc 0))], []), [(0, [], [], [], [], [])], [])
def yx1463 : yCx := ([ys1462], ys1463.2.2.2.2, yFP, zm285.2.2.1, zm285.2.2.2.1, zc285, 0, ys1463.2.2.2.1, [], [])
theorem yw1463 : ywf ys1463.2.2.1 = true := by decide +kernel
theorem yk1463 : yver yx1463 ys1463.2.2.1 4000 = true := by decide +kernel
theorem yt1463 {E : zHp → Prop} (h : yEF E yFP) : yTs E 2 ys1463 := yver_s (x := yx1463) h (yal_c (yt1462 h) (by decide) yw1462 (yal_n)) yg285 yk1463
def ys1464 : ySp := (286, 2, (0, [], [], [], [(0, (2, yc 1020, yc 0)), (1, (0, yc 29, yc 0))], []), [(0, [], [], [], [], [(0, yc 115, yc 0)])], [])
def yx1464 : yCx := ([ys1463], ys1464.2.2.2.2, yFP, zm286.2.2.1, zm286.2.2.2.1, zc286, 0, ys1464.2.2.2.1, [], [])
theorem yw1464 : ywf ys1464.2.2.1 = true := by decide +kernel
theorem yk1464 : yver yx1464 ys1464.2.2.1 4000 = true := by decide +kernel
theorem yt1464 {E : zHp → Prop} (h : yEF E yFP) : yTs E 3 ys1464 := yver_s (x := yx1464) h (yal_c (yt1463 h) (by decide) yw1463 (yal_n)) yg286 yk1464
def ys1465 : ySp := (282, 2, (0, [], [], [], [(0, (2, yc 1001, yc 0)), (1, (0, yc 29, yc 0))], []), [(0, [], [], [], [], [(0, yc 115, yc 0)])], [])
def yx1465 : yCx := ([ys1345, ys1464], ys1465.2.2.2.2, yFP, zm282.2.2.1, zm282.2.2.2.1, zc282, 0, ys1465.2.2.2.1, [], [])
theorem yw1465 : ywf ys1465.2.2.1 = true := by decide +kernel
theorem yk1465 : yver yx1465 ys1465.2.2.1 4000 = true := by decide +kernel
theorem yt1465 {E : zHp → Prop} (h : yEF E yFP) : yTs E 4 ys1465 := yver_s (x := yx1465) h (yal_c (yt1345 h) (by decide) yw1345 (yal_c (yt1464 h) (by decide) yw1464 (yal_n))) yg282 yk1465
def ys1466 : ySp := (293, 3, (0, [], [], [], [(0, (0, yc 30, yc 0)), (1, (0, yc 31, yc 0)), (2, (7, yc 0, yc 0))], []), [(0, [], [], [], [], [(0, yc 30, yc 0)])], [])
def yx1466 : yCx := ([], ys1466.2.2.2.2, yFP, zm293.2.2.1, zm293.2.2.2.1, zc293, 0, ys1466.2.2.2.1, [], [])
theorem yw1466 : ywf ys1466.2.2.1 = true := by decide +kernel
theorem yk1466 : yver yx1466 ys1466.2.2.1 4000 = true := by decide +kernel
theorem yt1466 {E : zHp → Prop} (h : yEF E yFP) : yTs E 1 ys1466 := yver_s (x := yx1466) h (yal_n) yg293 yk1466
def ys1467 : ySp := (285, 2, (0, [], [], [], [(0, (0, yc 30, yc 0)), (1, (0, yc 31, yc 0))], []), [(0, [], [], [], [], [])], [])
def yx1467 : yCx := ([ys1466], ys1467.2.2.2.2, yFP, zm285.2.2.1, zm285.2.2.2.1, zc285, 0, ys1467.2.2.2.1, [], [])
theorem yw1467 : ywf ys1467.2.2.1 = true := by decide +kernel
theorem yk1467 : yver yx1467 ys1467.2.2.1 4000 = true := by decide +kernel
theorem yt1467 {E : zHp → Prop} (h : yEF E yFP) : yTs E 2 ys1467 := yver_s (x := yx1467) h (yal_c (yt1466 h) (by decide) yw1466 (yal_n)) yg285 yk1467
def ys1468 : ySp := (286, 2, (0, [], [], [], [(0, (2, yc 1020, yc 0)), (1, (0, yc 30, yc 0))], []), [(0, [], [], [], [], [(0, yc 32, yc 0)])], [])
def yx1468 : yCx := ([ys1467], ys1468.2.2.2.2, yFP, zm286.2.2.1, zm286.2.2.2.1, zc286, 0, ys1468.2.2.2.1, [], [])
theorem yw1468 : ywf ys1468.2.2.1 = true := by decide +kernel
theorem yk1468 : yver yx1468 ys1468.2.2.1 4000 = true := by decide +kernel
theorem yt1468 {E : zHp → Prop} (h : yEF E yFP) : yTs E 3 ys1468 := yver_s (x := yx1468) h (yal_c (yt1467 h) (by decide) yw1467 (yal_n)) yg286 yk1468
def ys1469 : ySp := (282, 2, (0, [], [], [], [(0, (2, yc 1001, yc 0)), (1, (0, yc 30, yc 0))], []), [(0, [], [], [], [], [(0, yc 32, yc 0)])], [])
def yx1469 : yCx := ([ys1345, ys1468], ys1469.2.2.2.2, yFP, zm282.2.2.1, zm282.2.2.2.1, zc282, 0, ys1469.2.2.2.1, [], [])
theorem yw1469 : ywf ys1469.2.2.1 = true := by decide +kernel
theorem yk1469 : yver yx1469 ys1469.2.2.1 4000 = true := by decide +kernel
theorem yt1469 {E : zHp → Prop} (h : yEF E yFP) : yTs E 4 ys1469 := yver_s (x := yx1469) h (yal_c (yt1345 h) (by decide) yw1345 (yal_c (yt1468 h) (by decide) yw1468 (yal_n))) yg282 yk1469
