def ys371 : ySp := (282, 2, (0, [], [], [], [(0, (2, yc 1004, yc 0)), (1, (0, yc 15, yc 0))], []), [(0, [], [], [], [], [(0, yc 32, yc 0)])], [])
def yx371 : yCx := ([ys307, ys370], ys371.2.2.2.2, yFP, zm282.2.2.1, zm282.2.2.2.1, zc282, 0, ys371.2.2.2.1, [], [])
theorem yw371 : ywf ys371.2.2.1 = true := by decide +kernel
theorem yk371 : yver yx371 ys371.2.2.1 4000 = true := by decide +kernel
theorem yt371 {E : zHp → Prop} (h : yEF E yFP) : yTs E 4 ys371 := yver_s (x := yx371) h (yal_c (yt307 h) (by decide) yw307 (yal_c (yt370 h) (by decide) yw370 (yal_n))) yg282 yk371
def ys372 : ySp := (293, 3, (0, [], [], [], [(0, (0, yc 16, yc 0)), (1, (0, yc 66, yc 0)), (2, (7, yc 0, yc 0))], []), [(0, [], [], [], [], [(0, yc 16, yc 0)])], [])
def yx372 : yCx := ([], ys372.2.2.2.2, yFP, zm293.2.2.1, zm293.2.2.2.1, zc293, 0, ys372.2.2.2.1, [], [])
theorem yw372 : ywf ys372.2.2.1 = true := by decide +kernel
theorem yk372 : yver yx372 ys372.2.2.1 4000 = true := by decide +kernel
theorem yt372 {E : zHp → Prop} (h : yEF E yFP) : yTs E 1 ys372 := yver_s (x := yx372) h (yal_n) yg293 yk372
def ys373 : ySp := (285, 2, (0, [], [], [], [(0, (0, yc 16, yc 0)), (1, (0, yc 66, yc 0))], []), [(0, [], [], [], [], [])], [])
def yx373 : yCx := ([ys372], ys373.2.2.2.2, yFP, zm285.2.2.1, zm285.2.2.2.1, zc285, 0, ys373.2.2.2.1, [], [])
theorem yw373 : ywf ys373.2.2.1 = true := by decide +kernel
theorem yk373 : yver yx373 ys373.2.2.1 4000 = true := by decide +kernel
theorem yt373 {E : zHp → Prop} (h : yEF E yFP) : yTs E 2 ys373 := yver_s (x := yx373) h (yal_c (yt372 h) (by decide) yw372 (yal_n)) yg285 yk373
def ys374 : ySp := (286, 2, (0, [], [], [], [(0, (2, yc 1023, yc 0)), (1, (0, yc 16, yc 0))], []), [(0, [], [], [], [], [(0, yc 104, yc 0)])], [])
def yx374 : yCx := ([ys373], ys374.2.2.2.2, yFP, zm286.2.2.1, zm286.2.2.2.1, zc286, 0, ys374.2.2.2.1, [], [])
theorem yw374 : ywf ys374.2.2.1 = true := by decide +kernel
theorem yk374 : yver yx374 ys374.2.2.1 4000 = true := by decide +kernel
theorem yt374 {E : zHp → Prop} (h : yEF E yFP) : yTs E 3 ys374 := yver_s (x := yx374) h (yal_c (yt373 h) (by decide) yw373 (yal_n)) yg286 yk374
def ys375 : ySp := (282, 2, (0, [], [], [], [(0, (2, yc 1004, yc 0)), (1, (0, yc 16, yc 0))], []), [(0, [], [], [], [], [(0, yc 104, yc 0)])], [])
def yx375 : yCx := ([ys307, ys374], ys375.2.2.2.2, yFP, zm282.2.2.1, zm282.2.2.2.1, zc282, 0, ys375.2.2.2.1, [], [])
theorem yw375 : ywf ys375.2.2.1 = true := by decide +kernel
theorem yk375 : yver yx375 ys375.2.2.1 4000 = true := by decide +kernel
theorem yt375 {E : zHp → Prop} (h : yEF E yFP) : yTs E 4 ys375 := yver_s (x := yx375) h (yal_c (yt307 h) (by decide) yw307 (yal_c (yt374 h) (by decide) yw374 (yal_n))) yg282 yk375
def ys376 : ySp := (293, 3, (0, [], [], [], [(0, (0, yc 17, yc 0)), (1, (0, yc 66, yc 0)), (2, (7, yc 0, yc 0))], []), [(0, [], [], [], [], [(0, yc 17, yc 0)])], [])
def yx376 : yCx := ([], ys376.2.2.2.2, yFP, zm293.2.2.1, zm293.2.2.2.1, zc293, 0, ys376.2.2.2.1, [], [])
theorem yw376 : ywf ys376.2.2.1 = true := by decide +kernel
theorem yk376 : yver yx376 ys376.2.2.1 4000 = true := by decide +kernel
theorem yt376 {E : zHp → Prop} (h : yEF E yFP) : yTs E 1 ys376 := yver_s (x := yx376) h (yal_n) yg293 yk376
def ys377 : ySp := (285, 2, (0, [], [], [], [(0, (0, yc 17, yc 0)), (1, (0, yc 66, yc 0))], []), [(0, [], [], [], [], [])], [])
def yx377 : yCx := ([ys376], ys377.2.2.2.2, yFP, zm285.2.2.1, zm285.2.2.2.1, zc285, 0, ys377.2.2.2.1, [], [])
theorem yw377 : ywf ys377.2.2.1 = true := by decide +kernel
theorem yk377 : yver yx377 ys377.2.2.1 4000 = true := by decide +kernel
theorem yt377 {E : zHp → Prop} (h : yEF E yFP) : yTs E 2 ys377 := yver_s (x := yx377) h (yal_c (yt376 h) (by decide) yw376 (yal_n)) yg285 yk377
def ys378 : ySp := (286, 2, (0, [], [], [], [(0, (2, yc 1023, yc 0)), (1, (0, yc 17, yc 0))], []), [(0, [], [], [], [], [(0, yc 111, yc 0)])], [])
def yx378 : yCx := ([ys377], ys378.2.2.2.2, yFP, zm286.2.2.1, zm286.2.2.2.1, zc286, 0, ys378.2.2.2.1, [], [])
theorem yw378 : ywf ys378.2.2.1 = true := by decide +kernel
theorem yk378 : yver yx378 ys378.2.2.1 4000 = true := by decide +kernel
theorem yt378 {E : zHp → Prop} (h : yEF E yFP) : yTs E 3 ys378 := yver_s (x := yx378) h (yal_c (yt377 h) (by decide) yw377 (yal_n)) yg286 yk378
def ys379 : ySp := (282, 2, (0, [], [], [], [(0, (2, yc 1004, yc 0)), (1, (0, yc 17, yc 0))], []), [(0, [], [], [], [], [(0, yc 111, yc 0)])], [])
def yx379 : yCx := ([ys307, ys378], ys379.2.2.2.2, yFP, zm282.2.2.1, zm282.2.2.2.1, zc282, 0, ys379.2.2.2.1, [], [])
theorem yw379 : ywf ys379.2.2.1 = true := by decide +kernel
theorem yk379 : yver yx379 ys379.2.2.1 4000 = true := by decide +kernel
theorem yt379 {E : zHp → Prop} (h : yEF E yFP) : yTs E 4 ys379 := yver_s (x := yx379) h (yal_c (yt307 h) (by decide) yw307 (yal_c (yt378 h) (by decide) yw378 (yal_n))) yg282 yk379
def ys380 : ySp := (293, 3, (0, [], [], [], [(0, (0, yc 18, yc 0)), (1, (0, yc 66, yc 0)), (2, (7, yc 0, yc 0))], []), [(0, [], [], [], [], [(0, yc 18, yc 0)])], [])
def yx380 : yCx := ([], ys380.2.2.2.2, yFP, zm293.2.2.1, zm293.2.2.2.1, zc293, 0, ys380.2.2.2.1, [], [])
theorem yw380 : ywf ys380.2.2.1 = true := by decide +kernel
theorem yk380 : yver yx380 ys380.2.2.1 4000 = true := by decide +kernel
theorem yt380 {E : zHp → Prop} (h : yEF E yFP) : yTs E 1 ys380 := yver_s (x := yx380) h (yal_n) yg293 yk380
def ys381 : ySp := (285, 2, (0, [], [], [], [(0, (0, yc 18, yc 0)), (1, (0, yc 66, yc 0))], []), [(0, [], [], [], [], [])], [])
def yx381 : yCx := ([ys380], ys381.2.2.2.2, yFP, zm285.2.2.1, zm285.2.2.2.1, zc285, 0, ys381.2.2.2.1, [], [])
theorem yw381 : ywf ys381.2.2.1 = true := by decide +kernel
theorem yk381 : yver yx381 ys381.2.2.1 4000 = true := by decide +kernel
theorem yt381 {E : zHp → Prop} (h : yEF E yFP) : yTs E 2 ys381 := yver_s (x := yx381) h (yal_c (yt380 h) (by decide) yw380 (yal_n)) yg285 yk381
def ys382 : ySp := (286, 2, (0, [], [], [], [(0, (2, yc 1023, yc 0)), (1, (0, yc 18, yc 0))], []), [(0, [], [], [], [], [(0, yc 108, yc 0)])], [])
def yx382 : yCx := ([ys381], ys382.2.2.2.2, yFP, zm286.2.2.1, zm286.2.2.2.1, zc286, 0, ys382.2.2.2.1, [], [])
theorem yw382 : ywf ys382.2.2.1 = true := by decide +kernel
theorem yk382 : yver yx382 ys382.2.2.1 4000 = true := by decide +kernel
theorem yt382 {E : zHp → Prop} (h : yEF E yFP) : yTs E 3 ys382 := yver_s (x := yx382) h (yal_c (yt381 h) (by decide) yw381 (yal_n)) yg286 yk382
def ys383 : ySp := (282, 2, (0, [], [], [], [(0, (2, yc 1004, yc 0)), (1, (0, yc 18, yc 0))], []), [(0, [], [], [], [], [(0, yc 108, yc 0)])], [])
def yx383 : yCx := ([ys307, ys382], ys383.2.2.2.2, yFP, zm282.2.2.1, zm282.2.2.2.1, zc282, 0, ys383.2.2.2.1, [], [])
theorem yw383 : ywf ys383.2.2.1 = true := by decide +kernel
theorem yk383 : yver yx383 ys383.2.2.1 4000 = true := by decide +kernel
theorem yt383 {E : zHp → Prop} (h : yEF E yFP) : yTs E 4 ys383 := yver_s (x := yx383) h (yal_c (yt307 h) (by decide) yw307 (yal_c (yt382 h) (by decide) yw382 (yal_n))) yg282 yk383
def ys384 : ySp := (293, 3, (0, [], [], [], [(0, (0, yc 19, yc 0)), (1, (0, yc 66, yc 0)), (2, (7, yc 0, yc 0))], []), [(0, [], [], [], [], [(0, yc 19, yc 0)])], [])
def yx384 : yCx := ([], ys384.2.2.2.2, yFP, zm293.2.2.1, zm293.2.2.2.1, zc293, 0, ys384.2.2.2.1, [], [])
theorem yw384 : ywf ys384.2.2.1 = true := by decide +kernel
theorem yk384 : yver yx384 ys384.2.2.1 4000 = true := by decide +kernel
theorem yt384 {E : zHp → Prop} (h : yEF E yFP) : yTs E 1 ys384 := yver_s (x := yx384) h (yal_n) yg293 yk384
def ys385 : ySp := (285, 2, (0, [], [], [], [(0, (0, yc 19, yc 0)), (1, (0, yc 66, yc 0))], []), [(0, [], [], [], [], [])], [])
def yx385 : yCx := ([ys384], ys385.2.2.2.2, yFP, zm285.2.2.1, zm285.2.2.2.1, zc285, 0, ys385.2.2.2.1, [], [])
theorem yw385 : ywf ys385.2.2.1 = true := by decide +kernel
theorem yk385 : yver yx385 ys385.2.2.1 4000 = true := by decide +kernel
theorem yt385 {E : zHp → Prop} (h : yEF E yFP) : yTs E 2 ys385 := yver_s (x := yx385) h (yal_c (yt384 h) (by decide) yw384 (yal_n)) yg285 yk385
def ys386 : ySp := (286, 2, (0, [], [], [], [(0, (2, yc 1023, yc 0)), (1, (0, yc 19, yc 0))], []), [(0, [], [], [], [], [(0, yc 100, yc 0)])], [])
def yx386 : yCx := ([ys385], ys386.2.2.2.2, yFP, zm286.2.2.1, zm286.2.2.2.1, zc286, 0, ys386.2.2.2.1, [], [])
theorem yw386 : ywf ys386.2.2.1 = true := by decide +kernel
theorem yk386 : yver yx386 ys386.2.2.1 4000 = true := by decide +kernel
theorem yt386 {E : zHp → Prop} (h : yEF E yFP) : yTs E 3 ys386 := yver_s (x := yx386) h (yal_c (yt385 h) (by decide) yw385 (yal_n)) yg286 yk386
def ys387 : ySp := (282, 2, (0, [], [], [], [(0, (2, yc 1004, yc 0)), (1, (0, yc 19, yc 0))], []), [(0, [], [], [], [], [(0, yc 100, yc 0)])], [])
def yx387 : yCx := ([ys307, ys386], ys387.2.2.2.2, yFP, zm282.2.2.1, zm282.2.2.2.1, zc282, 0, ys387.2.2.2.1, [], [])
theorem yw387 : ywf ys387.2.2.1 = true := by decide +kernel
theorem yk387 : yver yx387 ys387.2.2.1 4000 = true := by decide +kernel
theorem yt387 {E : zHp → Prop} (h : yEF E yFP) : yTs E 4 ys387 := yver_s (x := yx387) h (yal_c (yt307 h) (by decide) yw307 (yal_c (yt386 h) (by decide) yw386 (yal_n))) yg282 yk387
def ys388 : ySp := (293, 3, (0, [], [], [], [(0, (0, yc 20, yc 0)), (1, (0, yc 66, yc 0)), (2, (7, yc 0, yc 0))], []), [(0, [], [], [], [], [(0, yc 20, yc 0)])], [])
def yx388 : yCx := ([], ys388.2.2.2.2, yFP, zm293.2.2.1, zm293.2.2.2.1, zc293, 0, ys388.2.2.2.1, [], [])
theorem yw388 : ywf ys388.2.2.1 = true := by decide +kernel
theorem yk388 : yver yx388 ys388.2.2.1 4000 = true := by decide +kernel
theorem yt388 {E : zHp → Prop} (h : yEF E yFP) : yTs E 1 ys388 := yver_s (x := yx388) h (yal_n) yg293 yk388
def ys389 : ySp := (285, 2, (0, [], [], [], [(0, (0, yc 20, yc 0)), (1, (0, yc 66, yc 0))], []), [(0, [], [], [], [], [])], [])
def yx389 : yCx := ([ys388], ys389.2.2.2.2, yFP, zm285.2.2.1, zm285.2.2.2.1, zc285, 0, ys389.2.2.2.1, [], [])
theorem yw389 : ywf ys389.2.2.1 = true := by decide +kernel
theorem yk389 : yver yx389 ys389.2.2.1 4000 = true := by decide +kernel
theorem yt389 {E : zHp → Prop} (h : yEF E yFP) : yTs E 2 ys389 := yver_s (x := yx389) h (yal_c (yt388 h) (by decide) yw388 (yal_n)) yg285 yk389
def ys390 : ySp := (286, 2, (0, [], [], [], [(0, (2, yc 1023, yc 0)), (1, (0, yc 20, yc 0))], []), [(0, [], [], [], [], [(0, yc 101, yc 0)])], [])
def yx390 : yCx := ([ys389], ys390.2.2.2.2, yFP, zm286.2.2.1, zm286.2.2.2.1, zc286, 0, ys390.2.2.2.1, [], [])
theorem yw390 : ywf ys390.2.2.1 = true := by decide +kernel
theorem yk390 : yver yx390 ys390.2.2.1 4000 = true := by decide +kernel
theorem yt390 {E : zHp → Prop} (h : yEF E yFP) : yTs E 3 ys390 := yver_s (x := yx390) h (yal_c (yt389 h) (by decide) yw389 (yal_n)) yg286 yk390
def ys391 : ySp := (282, 2, (0, [], [], [], [(0, (2, yc 1004, yc 0)), (1, (0, yc 20, yc 0))], []), [(0, [], [], [], [], [(0, yc 101, yc 0)])], [])
def yx391 : yCx := ([ys307, ys390], ys391.2.2.2.2, yFP, zm282.2.2.1, zm282.2.2.2.1, zc282, 0, ys391.2.2.2.1, [], [])
theorem yw391 : ywf ys391.2.2.1 = true := by decide +kernel
theorem yk391 : yver yx391 ys391.2.2.1 4000 = true := by decide +kernel
theorem yt391 {E : zHp → Prop} (h : yEF E yFP) : yTs E 4 ys391 := yver_s (x := yx391) h (yal_c (yt307 h) (by decide) yw307 (yal_c (yt390 h) (by decide) yw390 (yal_n))) yg282 yk391
def ys392 : ySp := (293, 3, (0, [], [], [], [(0, (0, yc 21, yc 0)), (1, (0, yc 66, yc 0)), (2, (7, yc 0, yc 0))], []), [(0, [], [], [], [], [(0, yc 21, yc 0)])], [])
def yx392 : yCx := ([], ys392.2.2.2.2, yFP, zm293.2.2.1, zm293.2.2.2.1, zc293, 0, ys392.2.2.2.1, [], [])
theorem yw392 : ywf ys392.2.2.1 = true := by decide +kernel
theorem yk392 : yver yx392 ys392.2.2.1 4000 = true := by decide +kernel
theorem yt392 {E : zHp → Prop} (h : yEF E yFP) : yTs E 1 ys392 := yver_s (x := yx392) h (yal_n) yg293 yk392
def ys393 : ySp := (285, 2, (0, [], [], [], [(0, (0, yc 21, yc 0)), (1, (0, yc 66, yc 0))], []), [(0, [], [], [], [], [])], [])
def yx393 : yCx := ([ys392], ys393.2.2.2.2, yFP, zm285.2.2.1, zm285.2.2.2.1, zc285, 0, ys393.2.2.2.1, [], [])
theorem yw393 : ywf ys393.2.2.1 = true := by decide +kernel
theorem yk393 : yver yx393 ys393.2.2.1 4000 = true := by decide +kernel
theorem yt393 {E : zHp → Prop} (h : yEF E yFP) : yTs E 2 ys393 := yver_s (x := yx393) h (yal_c (yt392 h) (by decide) yw392 (yal_n)) yg285 yk393
def ys394 : ySp := (286, 2, (0, [], [], [], [(0, (2, yc 1023, yc 0)), (1, (0, yc 21, yc 0))], []), [(0, [], [], [], [], [(0, yc 114, yc 0)])], [])
def yx394 : yCx := ([ys393], ys394.2.2.2.2, yFP, zm286.2.2.1, zm286.2.2.2.1, zc286, 0, ys394.2.2.2.1, [], [])
theorem yw394 : ywf ys394.2.2.1 = true := by decide +kernel
theorem yk394 : yver yx394 ys394.2.2.1 4000 = true := by decide +kernel
theorem yt394 {E : zHp → Prop} (h : yEF E yFP) : yTs E 3 ys394 := yver_s (x := yx394) h (yal_c (yt393 h) (by decide) yw393 (yal_n)) yg286 yk394
def ys395 : ySp := (282, 2, (0, [], [], [], [(0, (2, yc 1004, yc 0)), (1, (0, yc 21, yc 0))], []), [(0, [], [], [], [], [(0, yc 114, yc 0)])], [])
def yx395 : yCx := ([ys307, ys394], ys395.2.2.2.2, yFP, zm282.2.2.1, zm282.2.2.2.1, zc282, 0, ys395.2.2.2.1, [], [])
theorem yw395 : ywf ys395.2.2.1 = true := by decide +kernel
theorem yk395 : yver yx395 ys395.2.2.1 4000 = true := by decide +kernel
theorem yt395 {E : zHp → Prop} (h : yEF E yFP) : yTs E 4 ys395 := yver_s (x := yx395) h (yal_c (yt307 h) (by decide) yw307 (yal_c (yt394 h) (by decide) yw394 (yal_n))) yg282 yk395
def ys396 : ySp := (293, 3, (0, [], [], [], [(0, (0, yc 22, yc 0)), (1, (0, yc 66, yc 0)), (2, (7, yc 0, yc 0))], []), [(0, [], [], [], [], [(0, yc 22, yc 0)])], [])
def yx396 : yCx := ([], ys396.2.2.2.2, yFP, zm293.2.2.1, zm293.2.2.2.1, zc293, 0, ys396.2.2.2.1, [], [])
theorem yw396 : ywf ys396.2.2.1 = true := by decide +kernel
theorem yk396 : yver yx396 ys396.2.2.1 4000 = true := by decide +kernel
theorem yt396 {E : zHp → Prop} (h : yEF E yFP) : yTs E 1 ys396 := yver_s (x := yx396) h (yal_n) yg293 yk396
def ys397 : ySp := (285, 2, (0, [], [], [], [(0, (0, yc 22, yc 0)), (1, (0, yc 66, yc 0))], []), [(0, [], [], [], [], [])], [])
def yx397 : yCx := ([ys396], ys397.2.2.2.2, yFP, zm285.2.2.1, zm285.2.2.2.1, zc285, 0, ys397.2.2.2.1, [], [])
theorem yw397 : ywf ys397.2.2.1 = true := by decide +kernel
theorem yk397 : yver yx397 ys397.2.2.1 4000 = true := by decide +kernel
theorem yt397 {E : zHp → Prop} (h : yEF E yFP) : yTs E 2 ys397 := yver_s (x := yx397) h (yal_c (yt396 h) (by decide) yw396 (yal_n)) yg285 yk397
def ys398 : ySp := (286, 2, (0, [], [], [], [(0, (2, yc 1023, yc 0)), (1, (0, yc 22, yc 0))], []), [(0, [], [], [], [], [(0, yc 32, yc 0)])], [])
def yx398 : yCx := ([ys397], ys398.2.2.2.2, yFP, zm286.2.2.1, zm286.2.2.2.1, zc286, 0, ys398.2.2.2.1, [], [])
theorem yw398 : ywf ys398.2.2.1 = true := by decide +kernel
theorem yk398 : yver yx398 ys398.2.2.1 4000 = true := by decide +kernel
theorem yt398 {E : zHp → Prop} (h : yEF E yFP) : yTs E 3 ys398 := yver_s (x := yx398) h (yal_c (yt397 h) (by decide) yw397 (yal_n)) yg286 yk398
def ys399 : ySp := (282, 2, (0, [], [], [], [(0, (2, yc 1004, yc 0)), (1, (0, yc 22, yc 0))], []), [(0, [], [], [], [], [(0, yc 32, yc 0)])], [])
def yx399 : yCx := ([ys307, ys398], ys399.2.2.2.2, yFP, zm282.2.2.1, zm282.2.2.2.1, zc282, 0, ys399.2.2.2.1, [], [])
theorem yw399 : ywf ys399.2.2.1 = true := by decide +kernel
theorem yk399 : yver yx399 ys399.2.2.1 4000 = true := by decide +kernel
theorem yt399 {E : zHp → Prop} (h : yEF E yFP) : yTs E 4 ys399 := yver_s (x := yx399) h (yal_c (yt307 h) (by decide) yw307 (yal_c (yt398 h) (by decide) yw398 (yal_n))) yg282 yk399
def ys400 : ySp := (293, 3, (0, [], [], [], [(0, (0, yc 23, yc 0)), (1, (0, yc 66, yc 0)), (2, (7, yc 0, yc 0))], []), [(0, [], [], [], [], [(0, yc 23, yc 0)])], [])
def yx400 : yCx := ([], ys400.2.2.2.2, yFP, zm293.2.2.1, zm293.2.2.2.1, zc293, 0, ys400.2.2.2.1, [], [])
theorem yw400 : ywf ys400.2.2.1 = true := by decide +kernel
theorem yk400 : yver yx400 ys400.2.2.1 4000 = true := by decide +kernel
theorem yt400 {E : zHp → Prop} (h : yEF E yFP) : yTs E 1 ys400 := yver_s (x := yx400) h (yal_n) yg293 yk400
def ys401 : ySp := (285, 2, (0, [], [], [], [(0, (0, yc 23, yc 0)), (1, (0, yc 66, yc 0))], []), [(0, [], [], [], [], [])], [])
def yx401 : yCx := ([ys400], ys401.2.2.2.2, yFP, zm285.2.2.1, zm285.2.2.2.1, zc285, 0, ys401.2.2.2.1, [], [])
theorem yw401 : ywf ys401.2.2.1 = true := by decide +kernel
theorem yk401 : yver yx401 ys401.2.2.1 4000 = true := by decide +kernel
theorem yt401 {E : zHp → Prop} (h : yEF E yFP) : yTs E 2 ys401 := yver_s (x := yx401) h (yal_c (yt400 h) (by decide) yw400 (yal_n)) yg285 yk401
def ys402 : ySp := (286, 2, (0, [], [], [], [(0, (2, yc 1023, yc 0)), (1, (0, yc 23, yc 0))], []), [(0, [], [], [], [], [(0, yc 116, yc 0)])], [])
def yx402 : yCx := ([ys401], ys402.2.2.2.2, yFP, zm286.2.2.1, zm286.2.2.2.1, zc286, 0, ys402.2.2.2.1, [], [])
theorem yw402 : ywf ys402.2.2.1 = true := by decide +kernel
theorem yk402 : yver yx402 ys402.2.2.1 4000 = true := by decide +kernel
theorem yt402 {E : zHp → Prop} (h : yEF E yFP) : yTs E 3 ys402 := yver_s (x := yx402) h (yal_c (yt401 h) (by decide) yw401 (yal_n)) yg286 yk402
def ys403 : ySp := (282, 2, (0, [], [], [], [(0, (2, yc 1004, yc 0)), (1, (0, yc 23, yc 0))], []), [(0, [], [], [], [], [(0, yc 116, yc 0)])], [])
def yx403 : yCx := ([ys307, ys402], ys403.2.2.2.2, yFP, zm282.2.2.1, zm282.2.2.2.1, zc282, 0, ys403.2.2.2.1, [], [])
theorem yw403 : ywf ys403.2.2.1 = true := by decide +kernel
theorem yk403 : yver yx403 ys403.2.2.1 4000 = true := by decide +kernel
theorem yt403 {E : zHp → Prop} (h : yEF E yFP) : yTs E 4 ys403 := yver_s (x := yx403) h (yal_c (yt307 h) (by decide) yw307 (yal_c (yt402 h) (by decide) yw402 (yal_n))) yg282 yk403
def ys404 : ySp := (293, 3, (0, [], [], [], [(0, (0, yc 24, yc 0)), (1, (0, yc 66, yc 0)), (2, (7, yc 0, yc 0))], []), [(0, [], [], [], [], [(0, yc 24, yc 0)])], [])
def yx404 : yCx := ([], ys404.2.2.2.2, yFP, zm293.2.2.1, zm293.2.2.2.1, zc293, 0, ys404.2.2.2.1, [], [])
theorem yw404 : ywf ys404.2.2.1 = true := by decide +kernel
theorem yk404 : yver yx404 ys404.2.2.1 4000 = true := by decide +kernel
theorem yt404 {E : zHp → Prop} (h : yEF E yFP) : yTs E 1 ys404 := yver_s (x := yx404) h (yal_n) yg293 yk404
def ys405 : ySp := (285, 2, (0, [], [], [], [(0, (0, yc 24, yc 0)), (1, (0, yc 66, yc 0))], []), [(0, [], [], [], [], [])], [])
def yx405 : yCx := ([ys404], ys405.2.2.2.2, yFP, zm285.2.2.1, zm285.2.2.2.1, zc285, 0, ys405.2.2.2.1, [], [])
theorem yw405 : ywf ys405.2.2.1 = true := by decide +kernel
theorem yk405 : yver yx405 ys405.2.2.1 4000 = true := by decide +kernel
theorem yt405 {E : zHp → Prop} (h : yEF E yFP) : yTs E 2 ys405 := yver_s (x := yx405) h (yal_c (yt404 h) (by decide) yw404 (yal_n)) yg285 yk405
def ys406 : ySp := (286, 2, (0, [], [], [], [(0, (2, yc 1023, yc 0)), (1, (0, yc 24, yc 0))], []), [(0, [], [], [], [], [(0, yc 111, yc 0)])], [])
def yx406 : yCx := ([ys405], ys406.2.2.2.2, yFP, zm286.2.2.1, zm286.2.2.2.1, zc286, 0, ys406.2.2.2.1, [], [])
theorem yw406 : ywf ys406.2.2.1 = true := by decide +kernel
theorem yk406 : yver yx406 ys406.2.2.1 4000 = true := by decide +kernel
theorem yt406 {E : zHp → Prop} (h : yEF E yFP) : yTs E 3 ys406 := yver_s (x := yx406) h (yal_c (yt405 h) (by decide) yw405 (yal_n)) yg286 yk406
def ys407 : ySp := (282, 2, (0, [], [], [], [(0, (2, yc 1004, yc 0)), (1, (0, yc 24, yc 0))], []), [(0, [], [], [], [], [(0, yc 111, yc 0)])], [])
def yx407 : yCx := ([ys307, ys406], ys407.2.2.2.2, yFP, zm282.2.2.1, zm282.2.2.2.1, zc282, 0, ys407.2.2.2.1, [], [])
theorem yw407 : ywf ys407.2.2.1 = true := by decide +kernel
theorem yk407 : yver yx407 ys407.2.2.1 4000 = true := by decide +kernel
theorem yt407 {E : zHp → Prop} (h : yEF E yFP) : yTs E 4 ys407 := yver_s (x := yx407) h (yal_c (yt307 h) (by decide) yw307 (yal_c (yt406 h) (by decide) yw406 (yal_n))) yg282 yk407
def ys408 : ySp := (293, 3, (0, [], [], [], [(0, (0, yc 25, yc 0)), (1, (0, yc 66, yc 0)), (2, (7, yc 0, yc 0))], []), [(0, [], [], [], [], [(0, yc 25, yc 0)])], [])
def yx408 : yCx := ([], ys408.2.2.2.2, yFP, zm293.2.2.1, zm293.2.2.2.1, zc293, 0, ys408.2.2.2.1, [], [])
theorem yw408 : ywf ys408.2.2.1 = true := by decide +kernel
theorem yk408 : yver yx408 ys408.2.2.1 4000 = true := by decide +kernel
theorem yt408 {E : zHp → Prop} (h : yEF E yFP) : yTs E 1 ys408 := yver_s (x := yx408) h (yal_n) yg293 yk408
def ys409 : ySp := (285, 2, (0, [], [], [], [(0, (0, yc 25, yc 0)), (1, (0, yc 66, yc 0))], []), [(0, [], [], [], [], [])], [])
def yx409 : yCx := ([ys408], ys409.2.2.2.2, yFP, zm285.2.2.1, zm285.2.2.2.1, zc285, 0, ys409.2.2.2.1, [], [])
theorem yw409 : ywf ys409.2.2.1 = true := by decide +kernel
theorem yk409 : yver yx409 ys409.2.2.1 4000 = true := by decide +kernel
theorem yt409 {E : zHp → Prop} (h : yEF E yFP) : yTs E 2 ys409 := yver_s (x := yx409) h (yal_c (yt408 h) (by decide) yw408 (yal_n)) yg285 yk409
def ys410 : ySp := (286, 2, (0, [], [], [], [(0, (2, yc 1023, yc 0)), (1, (0, yc 25, yc 0))], []), [(0, [], [], [], [], [(0, yc 32, yc 0)])], [])
def yx410 : yCx := ([ys409], ys410.2.2.2.2, yFP, zm286.2.2.1, zm286.2.2.2.1, zc286, 0, ys410.2.2.2.1, [], [])
theorem yw410 : ywf ys410.2.2.1 = true := by decide +kernel
theorem yk410 : yver yx410 ys410.2.2.1 4000 = true := by decide +kernel
theorem yt410 {E : zHp → Prop} (h : yEF E yFP) : yTs E 3 ys410 := yver_s (x := yx410) h (yal_c (yt409 h) (by decide) yw409 (yal_n)) yg286 yk410
def ys411 : ySp := (282, 2, (0, [], [], [], [(0, (2, yc 1004, yc 0)), (1, (0, yc 25, yc 0))], []), [(0, [], [], [], [], [(0, yc 32, yc 0)])], [])
def yx411 : yCx := ([ys307, ys410], ys411.2.2.2.2, yFP, zm282.2.2.1, zm282.2.2.2.1, zc282, 0, ys411.2.2.2.1, [], [])
theorem yw411 : ywf ys411.2.2.1 = true := by decide +kernel
theorem yk411 : yver yx411 ys411.2.2.1 4000 = true := by decide +kernel
theorem yt411 {E : zHp → Prop} (h : yEF E yFP) : yTs E 4 ys411 := yver_s (x := yx411) h (yal_c (yt307 h) (by decide) yw307 (yal_c (yt410 h) (by decide) yw410 (yal_n))) yg282 yk411
def ys412 : ySp := (293, 3, (0, [], [], [], [(0, (0, yc 26, yc 0)), (1, (0, yc 66, yc 0)), (2, (7, yc 0, yc 0))], []), [(0, [], [], [], [], [(0, yc 26, yc 0)])], [])
def yx412 : yCx := ([], ys412.2.2.2.2, yFP, zm293.2.2.1, zm293.2.2.2.1, zc293, 0, ys412.2.2.2.1, [], [])
theorem yw412 : ywf ys412.2.2.1 = true := by decide +kernel
theorem yk412 : yver yx412 ys412.2.2.1 4000 = true := by decide +kernel
theorem yt412 {E : zHp → Prop} (h : yEF E yFP) : yTs E 1 ys412 := yver_s (x := yx412) h (yal_n) yg293 yk412
def ys413 : ySp := (285, 2, (0, [], [], [], [(0, (0, yc 26, yc 0)), (1, (0, yc 66, yc 0))], []), [(0, [], [], [], [], [])], [])
def yx413 : yCx := ([ys412], ys413.2.2.2.2, yFP, zm285.2.2.1, zm285.2.2.2.1, zc285, 0, ys413.2.2.2.1, [], [])
theorem yw413 : ywf ys413.2.2.1 = true := by decide +kernel
theorem yk413 : yver yx413 ys413.2.2.1 4000 = true := by decide +kernel
theorem yt413 {E : zHp → Prop} (h : yEF E yFP) : yTs E 2 ys413 := yver_s (x := yx413) h (yal_c (yt412 h) (by decide) yw412 (yal_n)) yg285 yk413
def ys414 : ySp := (286, 2, (0, [], [], [], [(0, (2, yc 1023, yc 0)), (1, (0, yc 26, yc 0))], []), [(0, [], [], [], [], [(0, yc 108, yc 0)])], [])
def yx414 : yCx := ([ys413], ys414.2.2.2.2, yFP, zm286.2.2.1, zm286.2.2.2.1, zc286, 0, ys414.2.2.2.1, [], [])
theorem yw414 : ywf ys414.2.2.1 = true := by decide +kernel
theorem yk414 : yver yx414 ys414.2.2.1 4000 = true := by decide +kernel
theorem yt414 {E : zHp → Prop} (h : yEF E yFP) : yTs E 3 ys414 := yver_s (x := yx414) h (yal_c (yt413 h) (by decide) yw413 (yal_n)) yg286 yk414
def ys415 : ySp := (282, 2, (0, [], [], [], [(0, (2, yc 1004, yc 0)), (1, (0, yc 26, yc 0))], []), [(0, [], [], [], [], [(0, yc 108, yc 0)])], [])
def yx415 : yCx := ([ys307, ys414], ys415.2.2.2.2, yFP, zm282.2.2.1, zm282.2.2.2.1, zc282, 0, ys415.2.2.2.1, [], [])
theorem yw415 : ywf ys415.2.2.1 = true := by decide +kernel
theorem yk415 : yver yx415 ys415.2.2.1 4000 = true := by decide +kernel
theorem yt415 {E : zHp → Prop} (h : yEF E yFP) : yTs E 4 ys415 := yver_s (x := yx415) h (yal_c (yt307 h) (by decide) yw307 (yal_c (yt414 h) (by decide) yw414 (yal_n))) yg282 yk415
def ys416 : ySp := (293, 3, (0, [], [], [], [(0, (0, yc 27, yc 0)), (1, (0, yc 66, yc 0)), (2, (7, yc 0, yc 0))], []), [(0, [], [], [], [], [(0, yc 27, yc 0)])], [])
def yx416 : yCx := ([], ys416.2.2.2.2, yFP, zm293.2.2.1, zm293.2.2.2.1, zc293, 0, ys416.2.2.2.1, [], [])
theorem yw416 : ywf ys416.2.2.1 = true := by decide +kernel
theorem yk416 : yver yx416 ys416.2.2.1 4000 = true := by decide +kernel
theorem yt416 {E : zHp → Prop} (h : yEF E yFP) : yTs E 1 ys416 := yver_s (x := yx416) h (yal_n) yg293 yk416
def ys417 : ySp := (285, 2, (0, [], [], [], [(0, (0, yc 27, yc 0)), (1, (0, yc 66, yc 0))], []), [(0, [], [], [], [], [])], [])
def yx417 : yCx := ([ys416], ys417.2.2.2.2, yFP, zm285.2.2.1, zm285.2.2.2.1, zc285, 0, ys417.2.2.2.1, [], [])
theorem yw417 : ywf ys417.2.2.1 = true := by decide +kernel
theorem yk417 : yver yx417 ys417.2.2.1 4000 = true := by decide +kernel
theorem yt417 {E : zHp → Prop} (h : yEF E yFP) : yTs E 2 ys417 := yver_s (x := yx417) h (yal_c (yt416 h) (by decide) yw416 (yal_n)) yg285 yk417
def ys418 : ySp := (286, 2, (0, [], [], [], [(0, (2, yc 1023, yc 0)), (1, (0, yc 27, yc 0))], []), [(0, [], [], [], [], [(0, yc 101, yc 0)])], [])
def yx418 : yCx := ([ys417], ys418.2.2.2.2, yFP, zm286.2.2.1, zm286.2.2.2.1, zc286, 0, ys418.2.2.2.1, [], [])
theorem yw418 : ywf ys418.2.2.1 = true := by decide +kernel
theorem yk418 : yver yx418 ys418.2.2.1 4000 = true := by decide +kernel
theorem yt418 {E : zHp → Prop} (h : yEF E yFP) : yTs E 3 ys418 := yver_s (x := yx418) h (yal_c (yt417 h) (by decide) yw417 (yal_n)) yg286 yk418
def ys419 : ySp := (282, 2, (0, [], [], [], [(0, (2, yc 1004, yc 0)), (1, (0, yc 27, yc 0))], []), [(0, [], [], [], [], [(0, yc 101, yc 0)])], [])
def yx419 : yCx := ([ys307, ys418], ys419.2.2.2.2, yFP, zm282.2.2.1, zm282.2.2.2.1, zc282, 0, ys419.2.2.2.1, [], [])
theorem yw419 : ywf ys419.2.2.1 = true := by decide +kernel
theorem yk419 : yver yx419 ys419.2.2.1 4000 = true := by decide +kernel
theorem yt419 {E : zHp → Prop} (h : yEF E yFP) : yTs E 4 ys419 := yver_s (x := yx419) h (yal_c (yt307 h) (by decide) yw307 (yal_c (yt418 h) (by decide) yw418 (yal_n))) yg282 yk419
def ys420 : ySp := (293, 3, (0, [], [], [], [(0, (0, yc 28, yc 0)), (1, (0, yc 66, yc 0)), (2, (7, yc 0, yc 0))], []), [(0, [], [], [], [], [(0, yc 28, yc 0)])], [])
def yx420 : yCx := ([], ys420.2.2.2.2, yFP, zm293.2.2.1, zm293.2.2.2.1, zc293, 0, ys420.2.2.2.1, [], [])
theorem yw420 : ywf ys420.2.2.1 = true := by decide +kernel
theorem yk420 : yver yx420 ys420.2.2.1 4000 = true := by decide +kernel
theorem yt420 {E : zHp → Prop} (h : yEF E yFP) : yTs E 1 ys420 := yver_s (x := yx420) h (yal_n) yg293 yk420
def ys421 : ySp := (285, 2, (0, [], [], [], [(0, (0, yc 28, yc 0)), (1, (0, yc 66, yc 0))], []), [(0, [], [], [], [], [])], [])
def yx421 : yCx := ([ys420], ys421.2.2.2.2, yFP, zm285.2.2.1, zm285.2.2.2.1, zc285, 0, ys421.2.2.2.1, [], [])
theorem yw421 : ywf ys421.2.2.1 = true := by decide +kernel
theorem yk421 : yver yx421 ys421.2.2.1 4000 = true := by decide +kernel
theorem yt421 {E : zHp → Prop} (h : yEF E yFP) : yTs E 2 ys421 := yver_s (x := yx421) h (yal_c (yt420 h) (by decide) yw420 (yal_n)) yg285 yk421
def ys422 : ySp := (286, 2, (0, [], [], [], [(0, (2, yc 1023, yc 0)), (1, (0, yc 28, yc 0))], []), [(0, [], [], [], [], [(0, yc 110, yc 0)])], [])
def yx422 : yCx := ([ys421], ys422.2.2.2.2, yFP, zm286.2.2.1, zm286.2.2.2.1, zc286, 0, ys422.2.2.2.1, [], [])
theorem yw422 : ywf ys422.2.2.1 = true := by decide +kernel
theorem yk422 : yver yx422 ys422.2.2.1 4000 = true := by decide +kernel
theorem yt422 {E : zHp → Prop} (h : yEF E yFP) : yTs E 3 ys422 := yver_s (x := yx422) h (yal_c (yt421 h) (by decide) yw421 (yal_n)) yg286 yk422
def ys423 : ySp := (282, 2, (0, [], [], [], [(0, (2, yc 1004, yc 0)), (1, (0, yc 28, yc 0))], []), [(0, [], [], [], [], [(0, yc 110, yc 0)])], [])
def yx423 : yCx := ([ys307, ys422], ys423.2.2.2.2, yFP, zm282.2.2.1, zm282.2.2.2.1, zc282, 0, ys423.2.2.2.1, [], [])
theorem yw423 : ywf ys423.2.2.1 = true := by decide +kernel
theorem yk423 : yver yx423 ys423.2.2.1 4000 = true := by decide +kernel
theorem yt423 {E : zHp → Prop} (h : yEF E yFP) : yTs E 4 ys423 := yver_s (x := yx423) h (yal_c (yt307 h) (by decide) yw307 (yal_c (yt422 h) (by decide) yw422 (yal_n))) yg282 yk423
def ys424 : ySp := (293, 3, (0, [], [], [], [(0, (0, yc 29, yc 0)), (1, (0, yc 66, yc 0)), (2, (7, yc 0, yc 0))], []), [(0, [], [], [], [], [(0, yc 29, yc 0)])], [])
def yx424 : yCx := ([], ys424.2.2.2.2, yFP, zm293.2.2.1, zm293.2.2.2.1, zc293, 0, ys424.2.2.2.1, [], [])
theorem yw424 : ywf ys424.2.2.1 = true := by decide +kernel
theorem yk424 : yver yx424 ys424.2.2.1 4000 = true := by decide +kernel
theorem yt424 {E : zHp → Prop} (h : yEF E yFP) : yTs E 1 ys424 := yver_s (x := yx424) h (yal_n) yg293 yk424
def ys425 : ySp := (285, 2, (0, [], [], [], [(0, (0, yc 29, yc 0)), (1, (0, yc 66, yc 0))], []), [(0, [], [], [], [], [])], [])
def yx425 : yCx := ([ys424], ys425.2.2.2.2, yFP, zm285.2.2.1, zm285.2.2.2.1, zc285, 0, ys425.2.2.2.1, [], [])
theorem yw425 : ywf ys425.2.2.1 = true := by decide +kernel
theorem yk425 : yver yx425 ys425.2.2.1 4000 = true := by decide +kernel
theorem yt425 {E : zHp → Prop} (h : yEF E yFP) : yTs E 2 ys425 := yver_s (x := yx425) h (yal_c (yt424 h) (by decide) yw424 (yal_n)) yg285 yk425
def ys426 : ySp := (286, 2, (0, [], [], [], [(0, (2, yc 1023, yc 0)), (1, (0, yc 29, yc 0))], []), [(0, [], [], [], [], [(0, yc 116, yc 0)])], [])
def yx426 : yCx := ([ys425], ys426.2.2.2.2, yFP, zm286.2.2.1, zm286.2.2.2.1, zc286, 0, ys426.2.2.2.1, [], [])
theorem yw426 : ywf ys426.2.2.1 = true := by decide +kernel
theorem yk426 : yver yx426 ys426.2.2.1 4000 = true := by decide +kernel
theorem yt426 {E : zHp → Prop} (h : yEF E yFP) : yTs E 3 ys426 := yver_s (x := yx426) h (yal_c (yt425 h) (by decide) yw425 (yal_n)) yg286 yk426
def ys427 : ySp := (282, 2, (0, [], [], [], [(0, (2, yc 1004, yc 0)), (1, (0, yc 29, yc 0))], []), [(0, [], [], [], [], [(0, yc 116, yc 0)])], [])
def yx427 : yCx := ([ys307, ys426], ys427.2.2.2.2, yFP, zm282.2.2.1, zm282.2.2.2.1, zc282, 0, ys427.2.2.2.1, [], [])
theorem yw427 : ywf ys427.2.2.1 = true := by decide +kernel
theorem yk427 : yver yx427 ys427.2.2.1 4000 = true := by decide +kernel
theorem yt427 {E : zHp → Prop} (h : yEF E yFP) : yTs E 4 ys427 := yver_s (x := yx427) h (yal_c (yt307 h) (by decide) yw307 (yal_c (yt426 h) (by decide) yw426 (yal_n))) yg282 yk427
def ys428 : ySp := (293, 3, (0, [], [], [], [(0, (0, yc 30, yc 0)), (1, (0, yc 66, yc 0)), (2, (7, yc 0, yc 0))], []), [(0, [], [], [], [], [(0, yc 30, yc 0)])], [])
def yx428 : yCx := ([], ys428.2.2.2.2, yFP, zm293.2.2.1, zm293.2.2.2.1, zc293, 0, ys428.2.2.2.1, [], [])
theorem yw428 : ywf ys428.2.2.1 = true := by decide +kernel
theorem yk428 : yver yx428 ys428.2.2.1 4000 = true := by decide +kernel
theorem yt428 {E : zHp → Prop} (h : yEF E yFP) : yTs E 1 ys428 := yver_s (x := yx428) h (yal_n) yg293 yk428
def ys429 : ySp := (285, 2, (0, [], [], [], [(0, (0, yc 30, yc 0)), (1, (0, yc 66, yc 0))], []), [(0, [], [], [], [], [])], [])
def yx429 : yCx := ([ys428], ys429.2.2.2.2, yFP, zm285.2.2.1, zm285.2.2.2.1, zc285, 0, ys429.2.2.2.1, [], [])
theorem yw429 : ywf ys429.2.2.1 = true := by decide +kernel
theorem yk429 : yver yx429 ys429.2.2.1 4000 = true := by decide +kernel
theorem yt429 {E : zHp → Prop} (h : yEF E yFP) : yTs E 2 ys429 := yver_s (x := yx429) h (yal_c (yt428 h) (by decide) yw428 (yal_n)) yg285 yk429
def ys430 : ySp := (286, 2, (0, [], [], [], [(0, (2, yc 1023, yc 0)), (1, (0, yc 30, yc 0))], []), [(0, [], [], [], [], [(0, yc 32, yc 0)])], [])
def yx430 : yCx := ([ys429], ys430.2.2.2.2, yFP, zm286.2.2.1, zm286.2.2.2.1, zc286, 0, ys430.2.2.2.1, [], [])
theorem yw430 : ywf ys430.2.2.1 = true := by decide +kernel
theorem yk430 : yver yx430 ys430.2.2.1 4000 = true := by decide +kernel
theorem yt430 {E : zHp → Prop} (h : yEF E yFP) : yTs E 3 ys430 := yver_s (x := yx430) h (yal_c (yt429 h) (by decide) yw429 (yal_n)) yg286 yk430
def ys431 : ySp := (282, 2, (0, [], [], [], [(0, (2, yc 1004, yc 0)), (1, (0, yc 30, yc 0))], []), [(0, [], [], [], [], [(0, yc 32, yc 0)])], [])
def yx431 : yCx := ([ys307, ys430], ys431.2.2.2.2, yFP, zm282.2.2.1, zm282.2.2.2.1, zc282, 0, ys431.2.2.2.1, [], [])
theorem yw431 : ywf ys431.2.2.1 = true := by decide +kernel
theorem yk431 : yver yx431 ys431.2.2.1 4000 = true := by decide +kernel
theorem yt431 {E : zHp → Prop} (h : yEF E yFP) : yTs E 4 ys431 := yver_s (x := yx431) h (yal_c (yt307 h) (by decide) yw307 (yal_c (yt430 h) (by decide) yw430 (yal_n))) yg282 yk431
def ys432 : ySp := (293, 3, (0, [], [], [], [(0, (0, yc 31, yc 0)), (1, (0, yc 66, yc 0)), (2, (7, yc 0, yc 0))], []), [(0, [], [], [], [], [(0, yc 31, yc 0)])], [])
def yx432 : yCx := ([], ys432.2.2.2.2, yFP, zm293.2.2.1, zm293.2.2.2.1, zc293, 0, ys432.2.2.2.1, [], [])
theorem yw432 : ywf ys432.2.2.1 = true := by decide +kernel
theorem yk432 : yver yx432 ys432.2.2.1 4000 = true := by decide +kernel
theorem yt432 {E : zHp → Prop} (h : yEF E yFP) : yTs E 1 ys432 := yver_s (x := yx432) h (yal_n) yg293 yk432
