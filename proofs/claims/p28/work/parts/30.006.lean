def ys382 : ySp := (88, 4, (2, [(0, 0, 5), (1, 0, 1)], [], [], [(0, (2, yc 11, yc 0)), (1, (0, (1, 0, 0), yc 0)), (2, (0, yc 4, yc 0)), (3, (0, (1, 1, 0), yc 0))], []), [(2, [], [], [], [], [])], [(12, 12, 1000)])
def yx382 : yCx := ([], ys382.2.2.2.2, yFP, zm88.2.2.1, zm88.2.2.2.1, zc88, 2, ys382.2.2.2.1, [], [])
theorem yw382 : ywf ys382.2.2.1 = true := by decide +kernel
theorem yk382 : yver yx382 ys382.2.2.1 4000 = true := by decide +kernel
theorem yt382 {E : zHp → Prop} (h : yXt E) : yTs E ys382 := yver_s (x := yx382) h.1 (yal_n) yg88 yk382
def ys383 : ySp := (88, 4, (2, [(0, 0, 5), (1, 0, 1)], [], [], [(0, (2, yc 11, yc 0)), (1, (0, (1, 0, 0), yc 0)), (2, (0, yc 5, yc 0)), (3, (0, (1, 1, 0), yc 0))], []), [(2, [], [], [], [], [])], [(12, 12, 1000)])
def yx383 : yCx := ([], ys383.2.2.2.2, yFP, zm88.2.2.1, zm88.2.2.2.1, zc88, 2, ys383.2.2.2.1, [], [])
theorem yw383 : ywf ys383.2.2.1 = true := by decide +kernel
theorem yk383 : yver yx383 ys383.2.2.1 4000 = true := by decide +kernel
theorem yt383 {E : zHp → Prop} (h : yXt E) : yTs E ys383 := yver_s (x := yx383) h.1 (yal_n) yg88 yk383
def ys384 : ySp := (104, 3, (2, [(0, 0, 5), (1, 0, 1)], [], [], [(0, (2, yc 11, yc 0)), (1, (0, (1, 0, 0), yc 0)), (2, (0, (1, 1, 0), yc 0))], []), [(2, [], [], [], [], [])], [(12, 12, 1000)])
def yx384 : yCx := ([ys382, ys383, ys179, ys182], ys384.2.2.2.2, yFP, zm104.2.2.1, zm104.2.2.2.1, zc104, 2, ys384.2.2.2.1, [], [])
theorem yw384 : ywf ys384.2.2.1 = true := by decide +kernel
theorem yk384 : yver yx384 ys384.2.2.1 4000 = true := by decide +kernel
theorem yt384 {E : zHp → Prop} (h : yXt E) : yTs E ys384 := yver_s (x := yx384) h.1 (yal_c (yt382 h) yw382 (yal_c (yt383 h) yw383 (yal_c (yt179 h) yw179 (yal_c (yt182 h) yw182 (yal_n))))) yg104 yk384
def ys385 : ySp := (89, 3, (1, [(0, 0, 1)], [], [], [(0, (2, yc 11, yc 0)), (1, (0, (1, 0, 0), yc 0)), (2, (0, yc 3, yc 0))], []), [(2, [(1, (-2147483648), 2147483647)], [], [], [], [(0, (1, 1, 0), yc 0)])], [])
def yx385 : yCx := ([], ys385.2.2.2.2, yFP, zm89.2.2.1, zm89.2.2.2.1, zc89, 1, ys385.2.2.2.1, [], [])
theorem yw385 : ywf ys385.2.2.1 = true := by decide +kernel
theorem yk385 : yver yx385 ys385.2.2.1 4000 = true := by decide +kernel
theorem yt385 {E : zHp → Prop} (h : yXt E) : yTs E ys385 := yver_s (x := yx385) h.1 (yal_n) yg89 yk385
def ys386 : ySp := (87, 3, (1, [(0, 0, 1)], [], [], [(0, (2, yc 11, yc 0)), (1, (0, (1, 0, 0), yc 0)), (2, (0, yc 3, yc 0))], []), [(2, [(1, 0, 5)], [], [], [], [(0, (1, 1, 0), yc 0)])], [])
def yx386 : yCx := ([], ys386.2.2.2.2, yFP, zm87.2.2.1, zm87.2.2.2.1, zc87, 1, ys386.2.2.2.1, [], [])
theorem yw386 : ywf ys386.2.2.1 = true := by decide +kernel
theorem yk386 : yver yx386 ys386.2.2.1 4000 = true := by decide +kernel
theorem yt386 {E : zHp → Prop} (h : yXt E) : yTs E ys386 := yver_s (x := yx386) h.1 (yal_n) yg87 yk386
def ys387 : ySp := (87, 3, (1, [(0, 0, 1)], [], [], [(0, (2, yc 11, yc 0)), (1, (0, (1, 0, 0), yc 0)), (2, (0, yc 0, yc 0))], []), [(2, [(1, 0, 5)], [], [], [], [(0, (1, 1, 0), yc 0)])], [])
def yx387 : yCx := ([], ys387.2.2.2.2, yFP, zm87.2.2.1, zm87.2.2.2.1, zc87, 1, ys387.2.2.2.1, [], [])
theorem yw387 : ywf ys387.2.2.1 = true := by decide +kernel
theorem yk387 : yver yx387 ys387.2.2.1 4000 = true := by decide +kernel
theorem yt387 {E : zHp → Prop} (h : yXt E) : yTs E ys387 := yver_s (x := yx387) h.1 (yal_n) yg87 yk387
def ys388 : ySp := (91, 2, (1, [(0, 0, 1)], [], [], [(0, (2, yc 11, yc 0)), (1, (0, (1, 0, 0), yc 0))], []), [(2, [(1, 0, 63)], [], [], [], [(0, (1, 1, 0), yc 0)])], [])
def yx388 : yCx := ([], ys388.2.2.2.2, yFP, zm91.2.2.1, zm91.2.2.2.1, zc91, 1, ys388.2.2.2.1, [], [])
theorem yw388 : ywf ys388.2.2.1 = true := by decide +kernel
theorem yk388 : yver yx388 ys388.2.2.1 4000 = true := by decide +kernel
theorem yt388 {E : zHp → Prop} (h : yXt E) : yTs E ys388 := yver_s (x := yx388) h.1 (yal_n) yg91 yk388
def ys389 : ySp := (91, 2, (1, [(0, 0, 3)], [], [], [(0, (2, yc 11, yc 0)), (1, (0, (1, 0, 0), yc 0))], []), [(2, [(1, 0, 63)], [], [], [], [(0, (1, 1, 0), yc 0)])], [])
def yx389 : yCx := ([], ys389.2.2.2.2, yFP, zm91.2.2.1, zm91.2.2.2.1, zc91, 1, ys389.2.2.2.1, [], [])
theorem yw389 : ywf ys389.2.2.1 = true := by decide +kernel
theorem yk389 : yver yx389 ys389.2.2.1 4000 = true := by decide +kernel
theorem yt389 {E : zHp → Prop} (h : yXt E) : yTs E ys389 := yver_s (x := yx389) h.1 (yal_n) yg91 yk389
def ys390 : ySp := (91, 2, (1, [(0, 0, 5)], [], [], [(0, (2, yc 11, yc 0)), (1, (0, (1, 0, 0), yc 0))], []), [(2, [(1, 0, 63)], [], [], [], [(0, (1, 1, 0), yc 0)])], [])
def yx390 : yCx := ([], ys390.2.2.2.2, yFP, zm91.2.2.1, zm91.2.2.2.1, zc91, 1, ys390.2.2.2.1, [], [])
theorem yw390 : ywf ys390.2.2.1 = true := by decide +kernel
theorem yk390 : yver yx390 ys390.2.2.1 4000 = true := by decide +kernel
theorem yt390 {E : zHp → Prop} (h : yXt E) : yTs E ys390 := yver_s (x := yx390) h.1 (yal_n) yg91 yk390
def ys391 : ySp := (3, 5, (1, [(0, 0, 63)], [], [], [(0, (2, yc 51, yc 0)), (1, (2, yc 11, yc 0)), (2, (0, (1, 0, 0), yc 0))], []), [(1, [], [], [], [], [])], [(54, 54, 1000)])
def yx391 : yCx := ([ys148, ys390], ys391.2.2.2.2, yFP, zm3.2.2.1, zm3.2.2.2.1, zc3, 1, ys391.2.2.2.1, [(5, (3, [(0, 0, 63), (1, 0, 63), (2, 0, 6)], [], [], [(0, (2, yc 51, yc 0)), (1, (2, yc 11, yc 0)), (2, (0, (1, 0, 0), yc 0)), (3, (0, (1, 1, 0), yc 0)), (4, (0, (1, 2, 0), yc 0))], []), ([((-1), 2)], 13)), (52, (4, [(0, 0, 63), (1, 0, 63), (2, 0, 6), (3, 0, 6)], [], [(yc 12, yc 0, (0, (1, 3, 0), yc 0))], [(0, (2, yc 51, yc 0)), (1, (2, yc 11, yc 0)), (2, (0, (1, 0, 0), yc 0)), (3, (0, (1, 1, 0), yc 0)), (4, (0, (1, 2, 0), yc 0))], []), ([((-1), 2)], 6))], [])
theorem yw391 : ywf ys391.2.2.1 = true := by decide +kernel
theorem yk391 : yver yx391 ys391.2.2.1 4000 = true := by decide +kernel
theorem yt391 {E : zHp → Prop} (h : yXt E) : yTs E ys391 := yver_s (x := yx391) h.1 (yal_c (yt148 h) yw148 (yal_c (yt390 h) yw390 (yal_n))) yg3 yk391
def ys392 : ySp := (1, 7, (1, [(0, 0, 1)], [], [], [(0, (2, yc 51, yc 0)), (1, (2, yc 11, yc 0)), (2, (0, (1, 0, 0), yc 0))], []), [(1, [], [], [], [], [])], [(52, 52, 1000), (53, 53, 1000), (54, 54, 1000)])
def yx392 : yCx := ([ys357, ys391, ys148, ys386, ys387, ys328, ys356, ys354, ys355], ys392.2.2.2.2, yFP, zm1.2.2.1, zm1.2.2.2.1, zc1, 1, ys392.2.2.2.1, [(67, (6, [(0, 0, 1), (1, 0, 5), (2, 0, 63), (3, 1, 64), (4, 0, 64), (5, 0, 6)], [], [(yc 12, yc 0, (0, (1, 5, 0), yc 0))], [(0, (2, yc 51, yc 0)), (1, (2, yc 11, yc 0)), (2, (0, (1, 0, 0), yc 0)), (3, (0, (1, 1, 0), yc 0)), (4, (0, (1, 2, 0), yc 0)), (5, (0, (1, 3, 0), yc 0)), (6, (0, (1, 4, 0), yc 0))], []), ([((-1), 4)], 64))], [])
theorem yw392 : ywf ys392.2.2.1 = true := by decide +kernel
theorem yk392 : yver yx392 ys392.2.2.1 4000 = true := by decide +kernel
theorem yt392 {E : zHp → Prop} (h : yXt E) : yTs E ys392 := yver_s (x := yx392) h.1 (yal_c (yt357 h) yw357 (yal_c (yt391 h) yw391 (yal_c (yt148 h) yw148 (yal_c (yt386 h) yw386 (yal_c (yt387 h) yw387 (yal_c (yt328 h) yw328 (yal_c (yt356 h) yw356 (yal_c (yt354 h) yw354 (yal_c (yt355 h) yw355 (yal_n)))))))))) yg1 yk392
def ys393 : ySp := (89, 3, (1, [(0, 0, 1)], [], [], [(0, (2, yc 11, yc 0)), (1, (0, (1, 0, 0), yc 0)), (2, (0, yc 0, yc 0))], []), [(2, [(1, 0, 5)], [], [], [], [(0, (1, 1, 0), yc 0)])], [])
def yx393 : yCx := ([], ys393.2.2.2.2, yFP, zm89.2.2.1, zm89.2.2.2.1, zc89, 1, ys393.2.2.2.1, [], [])
theorem yw393 : ywf ys393.2.2.1 = true := by decide +kernel
theorem yk393 : yver yx393 ys393.2.2.1 4000 = true := by decide +kernel
theorem yt393 {E : zHp → Prop} (h : yXt E) : yTs E ys393 := yver_s (x := yx393) h.1 (yal_n) yg89 yk393
def ys394 : ySp := (89, 3, (1, [(0, 0, 1)], [], [], [(0, (2, yc 11, yc 0)), (1, (0, (1, 0, 0), yc 0)), (2, (0, yc 4, yc 0))], []), [(2, [(1, (-2147483648), 2147483647)], [], [], [], [(0, (1, 1, 0), yc 0)])], [])
def yx394 : yCx := ([], ys394.2.2.2.2, yFP, zm89.2.2.1, zm89.2.2.2.1, zc89, 1, ys394.2.2.2.1, [], [])
theorem yw394 : ywf ys394.2.2.1 = true := by decide +kernel
theorem yk394 : yver yx394 ys394.2.2.1 4000 = true := by decide +kernel
theorem yt394 {E : zHp → Prop} (h : yXt E) : yTs E ys394 := yver_s (x := yx394) h.1 (yal_n) yg89 yk394
def ys395 : ySp := (106, 2, (1, [(0, 0, 1)], [], [], [(0, (2, yc 11, yc 0)), (1, (0, (1, 0, 0), yc 0))], []), [(1, [], [], [], [], [(0, yc 0, yc 0)]), (1, [], [], [], [], [(0, yc 1, yc 0)])], [])
def yx395 : yCx := ([ys394], ys395.2.2.2.2, yFP, zm106.2.2.1, zm106.2.2.2.1, zc106, 1, ys395.2.2.2.1, [], [])
theorem yw395 : ywf ys395.2.2.1 = true := by decide +kernel
theorem yk395 : yver yx395 ys395.2.2.1 4000 = true := by decide +kernel
theorem yt395 {E : zHp → Prop} (h : yXt E) : yTs E ys395 := yver_s (x := yx395) h.1 (yal_c (yt394 h) yw394 (yal_n)) yg106 yk395
def ys396 : ySp := (89, 3, (1, [(0, 0, 1)], [], [], [(0, (2, yc 11, yc 0)), (1, (0, (1, 0, 0), yc 0)), (2, (0, yc 1, yc 0))], []), [(2, [(1, (-2147483648), 2147483647)], [], [], [], [(0, (1, 1, 0), yc 0)])], [])
def yx396 : yCx := ([], ys396.2.2.2.2, yFP, zm89.2.2.1, zm89.2.2.2.1, zc89, 1, ys396.2.2.2.1, [], [])
theorem yw396 : ywf ys396.2.2.1 = true := by decide +kernel
theorem yk396 : yver yx396 ys396.2.2.1 4000 = true := by decide +kernel
theorem yt396 {E : zHp → Prop} (h : yXt E) : yTs E ys396 := yver_s (x := yx396) h.1 (yal_n) yg89 yk396
def ys397 : ySp := (87, 3, (1, [(0, 0, 1)], [], [], [(0, (2, yc 11, yc 0)), (1, (0, (1, 0, 0), yc 0)), (2, (0, yc 1, yc 0))], []), [(2, [(1, (-2147483648), 2147483647)], [], [], [], [(0, (1, 1, 0), yc 0)])], [])
def yx397 : yCx := ([], ys397.2.2.2.2, yFP, zm87.2.2.1, zm87.2.2.2.1, zc87, 1, ys397.2.2.2.1, [], [])
theorem yw397 : ywf ys397.2.2.1 = true := by decide +kernel
theorem yk397 : yver yx397 ys397.2.2.1 4000 = true := by decide +kernel
theorem yt397 {E : zHp → Prop} (h : yXt E) : yTs E ys397 := yver_s (x := yx397) h.1 (yal_n) yg87 yk397
def ys398 : ySp := (97, 2, (1, [(0, 0, 1)], [], [], [(0, (2, yc 11, yc 0)), (1, (0, (1, 0, 0), yc 0))], []), [(1, [], [], [], [], [(0, yc 0, yc 0)]), (1, [], [], [], [], [(0, yc 1, yc 0)])], [])
def yx398 : yCx := ([ys386, ys387], ys398.2.2.2.2, yFP, zm97.2.2.1, zm97.2.2.2.1, zc97, 1, ys398.2.2.2.1, [], [])
theorem yw398 : ywf ys398.2.2.1 = true := by decide +kernel
theorem yk398 : yver yx398 ys398.2.2.1 4000 = true := by decide +kernel
theorem yt398 {E : zHp → Prop} (h : yXt E) : yTs E ys398 := yver_s (x := yx398) h.1 (yal_c (yt386 h) yw386 (yal_c (yt387 h) yw387 (yal_n))) yg97 yk398
def ys399 : ySp := (87, 3, (1, [(0, 0, 1)], [], [], [(0, (2, yc 11, yc 0)), (1, (0, (1, 0, 0), yc 0)), (2, (0, yc 2, yc 0))], []), [(2, [(1, (-2147483648), 2147483647)], [], [], [], [(0, (1, 1, 0), yc 0)])], [])
def yx399 : yCx := ([], ys399.2.2.2.2, yFP, zm87.2.2.1, zm87.2.2.2.1, zc87, 1, ys399.2.2.2.1, [], [])
theorem yw399 : ywf ys399.2.2.1 = true := by decide +kernel
theorem yk399 : yver yx399 ys399.2.2.1 4000 = true := by decide +kernel
theorem yt399 {E : zHp → Prop} (h : yXt E) : yTs E ys399 := yver_s (x := yx399) h.1 (yal_n) yg87 yk399
def ys400 : ySp := (87, 3, (1, [(0, 0, 1)], [], [], [(0, (2, yc 11, yc 0)), (1, (0, (1, 0, 0), yc 0)), (2, (0, yc 4, yc 0))], []), [(2, [(1, (-2147483648), 2147483647)], [], [], [], [(0, (1, 1, 0), yc 0)])], [])
def yx400 : yCx := ([], ys400.2.2.2.2, yFP, zm87.2.2.1, zm87.2.2.2.1, zc87, 1, ys400.2.2.2.1, [], [])
theorem yw400 : ywf ys400.2.2.1 = true := by decide +kernel
theorem yk400 : yver yx400 ys400.2.2.1 4000 = true := by decide +kernel
theorem yt400 {E : zHp → Prop} (h : yXt E) : yTs E ys400 := yver_s (x := yx400) h.1 (yal_n) yg87 yk400
def ys401 : ySp := (87, 3, (1, [(0, 0, 1)], [], [], [(0, (2, yc 11, yc 0)), (1, (0, (1, 0, 0), yc 0)), (2, (0, yc 5, yc 0))], []), [(2, [(1, (-2147483648), 2147483647)], [], [], [], [(0, (1, 1, 0), yc 0)])], [])
def yx401 : yCx := ([], ys401.2.2.2.2, yFP, zm87.2.2.1, zm87.2.2.2.1, zc87, 1, ys401.2.2.2.1, [], [])
theorem yw401 : ywf ys401.2.2.1 = true := by decide +kernel
theorem yk401 : yver yx401 ys401.2.2.1 4000 = true := by decide +kernel
theorem yt401 {E : zHp → Prop} (h : yXt E) : yTs E ys401 := yver_s (x := yx401) h.1 (yal_n) yg87 yk401
def ys402 : ySp := (78, 1, (0, [], [], [], [(0, (2, yc 11, yc 0))], []), [(1, [(0, (-2147483648), 2147483647)], [], [], [], [(0, (1, 0, 0), yc 0)])], [])
def yx402 : yCx := ([], ys402.2.2.2.2, yFP, zm78.2.2.1, zm78.2.2.2.1, zc78, 0, ys402.2.2.2.1, [], [])
theorem yw402 : ywf ys402.2.2.1 = true := by decide +kernel
theorem yk402 : yver yx402 ys402.2.2.1 4000 = true := by decide +kernel
theorem yt402 {E : zHp → Prop} (h : yXt E) : yTs E ys402 := yver_s (x := yx402) h.1 (yal_n) yg78 yk402
def ys403 : ySp := (98, 2, (1, [(0, 0, 1)], [], [], [(0, (2, yc 11, yc 0)), (1, (0, (1, 0, 0), yc 0))], []), [(2, [(1, 0, 2147483647)], [], [], [], [(0, (1, 1, 0), yc 0)])], [])
def yx403 : yCx := ([ys402, ys401], ys403.2.2.2.2, yFP, zm98.2.2.1, zm98.2.2.2.1, zc98, 1, ys403.2.2.2.1, [], [])
theorem yw403 : ywf ys403.2.2.1 = true := by decide +kernel
theorem yk403 : yver yx403 ys403.2.2.1 4000 = true := by decide +kernel
theorem yt403 {E : zHp → Prop} (h : yXt E) : yTs E ys403 := yver_s (x := yx403) h.1 (yal_c (yt402 h) yw402 (yal_c (yt401 h) yw401 (yal_n))) yg98 yk403
def ys404 : ySp := (100, 3, (2, [(0, 0, 1), (1, (-2147483648), 2147483647)], [], [], [(0, (2, yc 11, yc 0)), (1, (0, (1, 0, 0), yc 0)), (2, (0, (1, 1, 0), yc 0))], []), [(2, [(1, 0, 0)], [], [], [], [(0, yc 0, yc 0)]), (3, [(2, 0, 2147483647)], [], [], [], [(0, (1, 2, 0), yc 0)])], [])
def yx404 : yCx := ([ys399, ys400, ys398, ys403], ys404.2.2.2.2, yFP, zm100.2.2.1, zm100.2.2.2.1, zc100, 2, ys404.2.2.2.1, [], [])
theorem yw404 : ywf ys404.2.2.1 = true := by decide +kernel
theorem yk404 : yver yx404 ys404.2.2.1 4000 = true := by decide +kernel
theorem yt404 {E : zHp → Prop} (h : yXt E) : yTs E ys404 := yver_s (x := yx404) h.1 (yal_c (yt399 h) yw399 (yal_c (yt400 h) yw400 (yal_c (yt398 h) yw398 (yal_c (yt403 h) yw403 (yal_n))))) yg100 yk404
def ys405 : ySp := (89, 3, (1, [(0, 0, 1)], [], [], [(0, (2, yc 11, yc 0)), (1, (0, (1, 0, 0), yc 0)), (2, (0, yc 2, yc 0))], []), [(2, [(1, (-2147483648), 2147483647)], [], [], [], [(0, (1, 1, 0), yc 0)])], [])
def yx405 : yCx := ([], ys405.2.2.2.2, yFP, zm89.2.2.1, zm89.2.2.2.1, zc89, 1, ys405.2.2.2.1, [], [])
theorem yw405 : ywf ys405.2.2.1 = true := by decide +kernel
theorem yk405 : yver yx405 ys405.2.2.1 4000 = true := by decide +kernel
theorem yt405 {E : zHp → Prop} (h : yXt E) : yTs E ys405 := yver_s (x := yx405) h.1 (yal_n) yg89 yk405
def ys406 : ySp := (89, 3, (1, [(0, 0, 3)], [], [], [(0, (2, yc 11, yc 0)), (1, (0, (1, 0, 0), yc 0)), (2, (0, yc 0, yc 0))], []), [(2, [(1, 0, 5)], [], [], [], [(0, (1, 1, 0), yc 0)])], [])
def yx406 : yCx := ([], ys406.2.2.2.2, yFP, zm89.2.2.1, zm89.2.2.2.1, zc89, 1, ys406.2.2.2.1, [], [])
theorem yw406 : ywf ys406.2.2.1 = true := by decide +kernel
theorem yk406 : yver yx406 ys406.2.2.1 4000 = true := by decide +kernel
theorem yt406 {E : zHp → Prop} (h : yXt E) : yTs E ys406 := yver_s (x := yx406) h.1 (yal_n) yg89 yk406
def ys407 : ySp := (89, 3, (1, [(0, 0, 3)], [], [], [(0, (2, yc 11, yc 0)), (1, (0, (1, 0, 0), yc 0)), (2, (0, yc 4, yc 0))], []), [(2, [(1, (-2147483648), 2147483647)], [], [], [], [(0, (1, 1, 0), yc 0)])], [])
def yx407 : yCx := ([], ys407.2.2.2.2, yFP, zm89.2.2.1, zm89.2.2.2.1, zc89, 1, ys407.2.2.2.1, [], [])
theorem yw407 : ywf ys407.2.2.1 = true := by decide +kernel
theorem yk407 : yver yx407 ys407.2.2.1 4000 = true := by decide +kernel
theorem yt407 {E : zHp → Prop} (h : yXt E) : yTs E ys407 := yver_s (x := yx407) h.1 (yal_n) yg89 yk407
def ys408 : ySp := (106, 2, (1, [(0, 0, 3)], [], [], [(0, (2, yc 11, yc 0)), (1, (0, (1, 0, 0), yc 0))], []), [(1, [], [], [], [], [(0, yc 0, yc 0)]), (1, [], [], [], [], [(0, yc 1, yc 0)])], [])
def yx408 : yCx := ([ys407], ys408.2.2.2.2, yFP, zm106.2.2.1, zm106.2.2.2.1, zc106, 1, ys408.2.2.2.1, [], [])
theorem yw408 : ywf ys408.2.2.1 = true := by decide +kernel
theorem yk408 : yver yx408 ys408.2.2.1 4000 = true := by decide +kernel
theorem yt408 {E : zHp → Prop} (h : yXt E) : yTs E ys408 := yver_s (x := yx408) h.1 (yal_c (yt407 h) yw407 (yal_n)) yg106 yk408
def ys409 : ySp := (89, 3, (1, [(0, 0, 3)], [], [], [(0, (2, yc 11, yc 0)), (1, (0, (1, 0, 0), yc 0)), (2, (0, yc 1, yc 0))], []), [(2, [(1, (-2147483648), 2147483647)], [], [], [], [(0, (1, 1, 0), yc 0)])], [])
def yx409 : yCx := ([], ys409.2.2.2.2, yFP, zm89.2.2.1, zm89.2.2.2.1, zc89, 1, ys409.2.2.2.1, [], [])
theorem yw409 : ywf ys409.2.2.1 = true := by decide +kernel
theorem yk409 : yver yx409 ys409.2.2.1 4000 = true := by decide +kernel
theorem yt409 {E : zHp → Prop} (h : yXt E) : yTs E ys409 := yver_s (x := yx409) h.1 (yal_n) yg89 yk409
def ys410 : ySp := (89, 3, (1, [(0, 0, 3)], [], [], [(0, (2, yc 11, yc 0)), (1, (0, (1, 0, 0), yc 0)), (2, (0, yc 2, yc 0))], []), [(2, [(1, (-2147483648), 2147483647)], [], [], [], [(0, (1, 1, 0), yc 0)])], [])
def yx410 : yCx := ([], ys410.2.2.2.2, yFP, zm89.2.2.1, zm89.2.2.2.1, zc89, 1, ys410.2.2.2.1, [], [])
theorem yw410 : ywf ys410.2.2.1 = true := by decide +kernel
theorem yk410 : yver yx410 ys410.2.2.1 4000 = true := by decide +kernel
theorem yt410 {E : zHp → Prop} (h : yXt E) : yTs E ys410 := yver_s (x := yx410) h.1 (yal_n) yg89 yk410
def ys411 : ySp := (89, 3, (1, [(0, 0, 5)], [], [], [(0, (2, yc 11, yc 0)), (1, (0, (1, 0, 0), yc 0)), (2, (0, yc 0, yc 0))], []), [(2, [(1, 0, 5)], [], [], [], [(0, (1, 1, 0), yc 0)])], [])
def yx411 : yCx := ([], ys411.2.2.2.2, yFP, zm89.2.2.1, zm89.2.2.2.1, zc89, 1, ys411.2.2.2.1, [], [])
theorem yw411 : ywf ys411.2.2.1 = true := by decide +kernel
theorem yk411 : yver yx411 ys411.2.2.1 4000 = true := by decide +kernel
theorem yt411 {E : zHp → Prop} (h : yXt E) : yTs E ys411 := yver_s (x := yx411) h.1 (yal_n) yg89 yk411
def ys412 : ySp := (89, 3, (1, [(0, 0, 5)], [], [], [(0, (2, yc 11, yc 0)), (1, (0, (1, 0, 0), yc 0)), (2, (0, yc 4, yc 0))], []), [(2, [(1, (-2147483648), 2147483647)], [], [], [], [(0, (1, 1, 0), yc 0)])], [])
def yx412 : yCx := ([], ys412.2.2.2.2, yFP, zm89.2.2.1, zm89.2.2.2.1, zc89, 1, ys412.2.2.2.1, [], [])
theorem yw412 : ywf ys412.2.2.1 = true := by decide +kernel
theorem yk412 : yver yx412 ys412.2.2.1 4000 = true := by decide +kernel
theorem yt412 {E : zHp → Prop} (h : yXt E) : yTs E ys412 := yver_s (x := yx412) h.1 (yal_n) yg89 yk412
def ys413 : ySp := (106, 2, (1, [(0, 0, 5)], [], [], [(0, (2, yc 11, yc 0)), (1, (0, (1, 0, 0), yc 0))], []), [(1, [], [], [], [], [(0, yc 0, yc 0)]), (1, [], [], [], [], [(0, yc 1, yc 0)])], [])
def yx413 : yCx := ([ys412], ys413.2.2.2.2, yFP, zm106.2.2.1, zm106.2.2.2.1, zc106, 1, ys413.2.2.2.1, [], [])
theorem yw413 : ywf ys413.2.2.1 = true := by decide +kernel
theorem yk413 : yver yx413 ys413.2.2.1 4000 = true := by decide +kernel
theorem yt413 {E : zHp → Prop} (h : yXt E) : yTs E ys413 := yver_s (x := yx413) h.1 (yal_c (yt412 h) yw412 (yal_n)) yg106 yk413
def ys414 : ySp := (89, 3, (1, [(0, 0, 5)], [], [], [(0, (2, yc 11, yc 0)), (1, (0, (1, 0, 0), yc 0)), (2, (0, yc 1, yc 0))], []), [(2, [(1, (-2147483648), 2147483647)], [], [], [], [(0, (1, 1, 0), yc 0)])], [])
def yx414 : yCx := ([], ys414.2.2.2.2, yFP, zm89.2.2.1, zm89.2.2.2.1, zc89, 1, ys414.2.2.2.1, [], [])
theorem yw414 : ywf ys414.2.2.1 = true := by decide +kernel
theorem yk414 : yver yx414 ys414.2.2.1 4000 = true := by decide +kernel
theorem yt414 {E : zHp → Prop} (h : yXt E) : yTs E ys414 := yver_s (x := yx414) h.1 (yal_n) yg89 yk414
def ys415 : ySp := (89, 3, (1, [(0, 0, 5)], [], [], [(0, (2, yc 11, yc 0)), (1, (0, (1, 0, 0), yc 0)), (2, (0, yc 2, yc 0))], []), [(2, [(1, (-2147483648), 2147483647)], [], [], [], [(0, (1, 1, 0), yc 0)])], [])
def yx415 : yCx := ([], ys415.2.2.2.2, yFP, zm89.2.2.1, zm89.2.2.2.1, zc89, 1, ys415.2.2.2.1, [], [])
theorem yw415 : ywf ys415.2.2.1 = true := by decide +kernel
theorem yk415 : yver yx415 ys415.2.2.1 4000 = true := by decide +kernel
theorem yt415 {E : zHp → Prop} (h : yXt E) : yTs E ys415 := yver_s (x := yx415) h.1 (yal_n) yg89 yk415
def ys416 : ySp := (22, 5, (1, [(0, 0, 1)], [], [], [(0, (2, yc 50, yc 0)), (1, (2, yc 11, yc 0)), (2, (0, (1, 0, 0), yc 0))], []), [(1, [], [], [], [], [])], [(52, 52, 1000), (53, 53, 1000), (54, 54, 1000), (57, 57, 1000)])
def yx416 : yCx := ([ys392, ys397, ys411, ys414, ys415, ys404, ys413], ys416.2.2.2.2, yFP, zm22.2.2.1, zm22.2.2.2.1, zc22, 1, ys416.2.2.2.1, [(11, (2, [(0, 0, 1), (1, 0, 6)], [], [], [(0, (2, yc 50, yc 0)), (1, (2, yc 11, yc 0)), (2, (0, (1, 0, 0), yc 0)), (3, (0, (1, 1, 0), yc 0))], []), ([((-1), 1)], 6))], [])
theorem yw416 : ywf ys416.2.2.1 = true := by decide +kernel
theorem yk416 : yver yx416 ys416.2.2.1 4000 = true := by decide +kernel
theorem yt416 {E : zHp → Prop} (h : yXt E) : yTs E ys416 := yver_s (x := yx416) h.1 (yal_c (yt392 h) yw392 (yal_c (yt397 h) yw397 (yal_c (yt411 h) yw411 (yal_c (yt414 h) yw414 (yal_c (yt415 h) yw415 (yal_c (yt404 h) yw404 (yal_c (yt413 h) yw413 (yal_n)))))))) yg22 yk416
def ys417 : ySp := (89, 3, (1, [(0, 0, 3)], [], [], [(0, (2, yc 11, yc 0)), (1, (0, (1, 0, 0), yc 0)), (2, (0, yc 3, yc 0))], []), [(2, [(1, (-2147483648), 2147483647)], [], [], [], [(0, (1, 1, 0), yc 0)])], [])
def yx417 : yCx := ([], ys417.2.2.2.2, yFP, zm89.2.2.1, zm89.2.2.2.1, zc89, 1, ys417.2.2.2.1, [], [])
theorem yw417 : ywf ys417.2.2.1 = true := by decide +kernel
theorem yk417 : yver yx417 ys417.2.2.1 4000 = true := by decide +kernel
theorem yt417 {E : zHp → Prop} (h : yXt E) : yTs E ys417 := yver_s (x := yx417) h.1 (yal_n) yg89 yk417
def ys418 : ySp := (89, 3, (1, [(0, 0, 5)], [], [], [(0, (2, yc 11, yc 0)), (1, (0, (1, 0, 0), yc 0)), (2, (0, yc 3, yc 0))], []), [(2, [(1, (-2147483648), 2147483647)], [], [], [], [(0, (1, 1, 0), yc 0)])], [])
def yx418 : yCx := ([], ys418.2.2.2.2, yFP, zm89.2.2.1, zm89.2.2.2.1, zc89, 1, ys418.2.2.2.1, [], [])
theorem yw418 : ywf ys418.2.2.1 = true := by decide +kernel
theorem yk418 : yver yx418 ys418.2.2.1 4000 = true := by decide +kernel
theorem yt418 {E : zHp → Prop} (h : yXt E) : yTs E ys418 := yver_s (x := yx418) h.1 (yal_n) yg89 yk418
def ys419 : ySp := (87, 3, (1, [(0, 0, 5)], [], [], [(0, (2, yc 11, yc 0)), (1, (0, (1, 0, 0), yc 0)), (2, (0, yc 3, yc 0))], []), [(2, [(1, 0, 5)], [], [], [], [(0, (1, 1, 0), yc 0)])], [])
def yx419 : yCx := ([], ys419.2.2.2.2, yFP, zm87.2.2.1, zm87.2.2.2.1, zc87, 1, ys419.2.2.2.1, [], [])
theorem yw419 : ywf ys419.2.2.1 = true := by decide +kernel
theorem yk419 : yver yx419 ys419.2.2.1 4000 = true := by decide +kernel
theorem yt419 {E : zHp → Prop} (h : yXt E) : yTs E ys419 := yver_s (x := yx419) h.1 (yal_n) yg87 yk419
def ys420 : ySp := (87, 3, (1, [(0, 0, 5)], [], [], [(0, (2, yc 11, yc 0)), (1, (0, (1, 0, 0), yc 0)), (2, (0, yc 0, yc 0))], []), [(2, [(1, 0, 5)], [], [], [], [(0, (1, 1, 0), yc 0)])], [])
def yx420 : yCx := ([], ys420.2.2.2.2, yFP, zm87.2.2.1, zm87.2.2.2.1, zc87, 1, ys420.2.2.2.1, [], [])
theorem yw420 : ywf ys420.2.2.1 = true := by decide +kernel
theorem yk420 : yver yx420 ys420.2.2.1 4000 = true := by decide +kernel
theorem yt420 {E : zHp → Prop} (h : yXt E) : yTs E ys420 := yver_s (x := yx420) h.1 (yal_n) yg87 yk420
def ys421 : ySp := (1, 7, (1, [(0, 0, 5)], [], [], [(0, (2, yc 51, yc 0)), (1, (2, yc 11, yc 0)), (2, (0, (1, 0, 0), yc 0))], []), [(1, [], [], [], [], [])], [(52, 52, 1000), (53, 53, 1000), (54, 54, 1000)])
def yx421 : yCx := ([ys357, ys391, ys148, ys419, ys420, ys328, ys356, ys354, ys355], ys421.2.2.2.2, yFP, zm1.2.2.1, zm1.2.2.2.1, zc1, 1, ys421.2.2.2.1, [(67, (6, [(0, 0, 5), (1, 0, 5), (2, 0, 63), (3, 1, 64), (4, 0, 64), (5, 0, 6)], [], [(yc 12, yc 0, (0, (1, 5, 0), yc 0))], [(0, (2, yc 51, yc 0)), (1, (2, yc 11, yc 0)), (2, (0, (1, 0, 0), yc 0)), (3, (0, (1, 1, 0), yc 0)), (4, (0, (1, 2, 0), yc 0)), (5, (0, (1, 3, 0), yc 0)), (6, (0, (1, 4, 0), yc 0))], []), ([((-1), 4)], 64))], [])
theorem yw421 : ywf ys421.2.2.1 = true := by decide +kernel
theorem yk421 : yver yx421 ys421.2.2.1 4000 = true := by decide +kernel
theorem yt421 {E : zHp → Prop} (h : yXt E) : yTs E ys421 := yver_s (x := yx421) h.1 (yal_c (yt357 h) yw357 (yal_c (yt391 h) yw391 (yal_c (yt148 h) yw148 (yal_c (yt419 h) yw419 (yal_c (yt420 h) yw420 (yal_c (yt328 h) yw328 (yal_c (yt356 h) yw356 (yal_c (yt354 h) yw354 (yal_c (yt355 h) yw355 (yal_n)))))))))) yg1 yk421
def ys422 : ySp := (87, 3, (1, [(0, 0, 5)], [], [], [(0, (2, yc 11, yc 0)), (1, (0, (1, 0, 0), yc 0)), (2, (0, yc 1, yc 0))], []), [(2, [(1, (-2147483648), 2147483647)], [], [], [], [(0, (1, 1, 0), yc 0)])], [])
def yx422 : yCx := ([], ys422.2.2.2.2, yFP, zm87.2.2.1, zm87.2.2.2.1, zc87, 1, ys422.2.2.2.1, [], [])
theorem yw422 : ywf ys422.2.2.1 = true := by decide +kernel
theorem yk422 : yver yx422 ys422.2.2.1 4000 = true := by decide +kernel
theorem yt422 {E : zHp → Prop} (h : yXt E) : yTs E ys422 := yver_s (x := yx422) h.1 (yal_n) yg87 yk422
def ys423 : ySp := (97, 2, (1, [(0, 0, 5)], [], [], [(0, (2, yc 11, yc 0)), (1, (0, (1, 0, 0), yc 0))], []), [(1, [], [], [], [], [(0, yc 0, yc 0)]), (1, [], [], [], [], [(0, yc 1, yc 0)])], [])
def yx423 : yCx := ([ys419, ys420], ys423.2.2.2.2, yFP, zm97.2.2.1, zm97.2.2.2.1, zc97, 1, ys423.2.2.2.1, [], [])
theorem yw423 : ywf ys423.2.2.1 = true := by decide +kernel
theorem yk423 : yver yx423 ys423.2.2.1 4000 = true := by decide +kernel
theorem yt423 {E : zHp → Prop} (h : yXt E) : yTs E ys423 := yver_s (x := yx423) h.1 (yal_c (yt419 h) yw419 (yal_c (yt420 h) yw420 (yal_n))) yg97 yk423
def ys424 : ySp := (87, 3, (1, [(0, 0, 5)], [], [], [(0, (2, yc 11, yc 0)), (1, (0, (1, 0, 0), yc 0)), (2, (0, yc 2, yc 0))], []), [(2, [(1, (-2147483648), 2147483647)], [], [], [], [(0, (1, 1, 0), yc 0)])], [])
def yx424 : yCx := ([], ys424.2.2.2.2, yFP, zm87.2.2.1, zm87.2.2.2.1, zc87, 1, ys424.2.2.2.1, [], [])
theorem yw424 : ywf ys424.2.2.1 = true := by decide +kernel
theorem yk424 : yver yx424 ys424.2.2.1 4000 = true := by decide +kernel
theorem yt424 {E : zHp → Prop} (h : yXt E) : yTs E ys424 := yver_s (x := yx424) h.1 (yal_n) yg87 yk424
def ys425 : ySp := (87, 3, (1, [(0, 0, 5)], [], [], [(0, (2, yc 11, yc 0)), (1, (0, (1, 0, 0), yc 0)), (2, (0, yc 4, yc 0))], []), [(2, [(1, (-2147483648), 2147483647)], [], [], [], [(0, (1, 1, 0), yc 0)])], [])
def yx425 : yCx := ([], ys425.2.2.2.2, yFP, zm87.2.2.1, zm87.2.2.2.1, zc87, 1, ys425.2.2.2.1, [], [])
theorem yw425 : ywf ys425.2.2.1 = true := by decide +kernel
theorem yk425 : yver yx425 ys425.2.2.1 4000 = true := by decide +kernel
theorem yt425 {E : zHp → Prop} (h : yXt E) : yTs E ys425 := yver_s (x := yx425) h.1 (yal_n) yg87 yk425
def ys426 : ySp := (87, 3, (1, [(0, 0, 5)], [], [], [(0, (2, yc 11, yc 0)), (1, (0, (1, 0, 0), yc 0)), (2, (0, yc 5, yc 0))], []), [(2, [(1, (-2147483648), 2147483647)], [], [], [], [(0, (1, 1, 0), yc 0)])], [])
def yx426 : yCx := ([], ys426.2.2.2.2, yFP, zm87.2.2.1, zm87.2.2.2.1, zc87, 1, ys426.2.2.2.1, [], [])
theorem yw426 : ywf ys426.2.2.1 = true := by decide +kernel
theorem yk426 : yver yx426 ys426.2.2.1 4000 = true := by decide +kernel
theorem yt426 {E : zHp → Prop} (h : yXt E) : yTs E ys426 := yver_s (x := yx426) h.1 (yal_n) yg87 yk426
def ys427 : ySp := (98, 2, (1, [(0, 0, 5)], [], [], [(0, (2, yc 11, yc 0)), (1, (0, (1, 0, 0), yc 0))], []), [(2, [(1, 0, 2147483647)], [], [], [], [(0, (1, 1, 0), yc 0)])], [])
def yx427 : yCx := ([ys402, ys426], ys427.2.2.2.2, yFP, zm98.2.2.1, zm98.2.2.2.1, zc98, 1, ys427.2.2.2.1, [], [])
theorem yw427 : ywf ys427.2.2.1 = true := by decide +kernel
theorem yk427 : yver yx427 ys427.2.2.1 4000 = true := by decide +kernel
theorem yt427 {E : zHp → Prop} (h : yXt E) : yTs E ys427 := yver_s (x := yx427) h.1 (yal_c (yt402 h) yw402 (yal_c (yt426 h) yw426 (yal_n))) yg98 yk427
def ys428 : ySp := (100, 3, (2, [(0, 0, 5), (1, (-2147483648), 2147483647)], [], [], [(0, (2, yc 11, yc 0)), (1, (0, (1, 0, 0), yc 0)), (2, (0, (1, 1, 0), yc 0))], []), [(2, [(1, 0, 0)], [], [], [], [(0, yc 0, yc 0)]), (3, [(2, 0, 2147483647)], [], [], [], [(0, (1, 2, 0), yc 0)])], [])
def yx428 : yCx := ([ys424, ys425, ys423, ys427], ys428.2.2.2.2, yFP, zm100.2.2.1, zm100.2.2.2.1, zc100, 2, ys428.2.2.2.1, [], [])
theorem yw428 : ywf ys428.2.2.1 = true := by decide +kernel
theorem yk428 : yver yx428 ys428.2.2.1 4000 = true := by decide +kernel
theorem yt428 {E : zHp → Prop} (h : yXt E) : yTs E ys428 := yver_s (x := yx428) h.1 (yal_c (yt424 h) yw424 (yal_c (yt425 h) yw425 (yal_c (yt423 h) yw423 (yal_c (yt427 h) yw427 (yal_n))))) yg100 yk428
def ys429 : ySp := (22, 5, (1, [(0, 0, 5)], [], [], [(0, (2, yc 50, yc 0)), (1, (2, yc 11, yc 0)), (2, (0, (1, 0, 0), yc 0))], []), [(1, [], [], [], [], [])], [(52, 52, 1000), (53, 53, 1000), (54, 54, 1000), (57, 57, 1000)])
def yx429 : yCx := ([ys421, ys422, ys411, ys414, ys415, ys428, ys413], ys429.2.2.2.2, yFP, zm22.2.2.1, zm22.2.2.2.1, zc22, 1, ys429.2.2.2.1, [(11, (2, [(0, 0, 5), (1, 0, 6)], [], [], [(0, (2, yc 50, yc 0)), (1, (2, yc 11, yc 0)), (2, (0, (1, 0, 0), yc 0)), (3, (0, (1, 1, 0), yc 0))], []), ([((-1), 1)], 6))], [])
theorem yw429 : ywf ys429.2.2.1 = true := by decide +kernel
theorem yk429 : yver yx429 ys429.2.2.1 4000 = true := by decide +kernel
theorem yt429 {E : zHp → Prop} (h : yXt E) : yTs E ys429 := yver_s (x := yx429) h.1 (yal_c (yt421 h) yw421 (yal_c (yt422 h) yw422 (yal_c (yt411 h) yw411 (yal_c (yt414 h) yw414 (yal_c (yt415 h) yw415 (yal_c (yt428 h) yw428 (yal_c (yt413 h) yw413 (yal_n)))))))) yg22 yk429
def ys430 : ySp := (21, 4, (1, [(0, (-1), 5)], [], [], [(0, (2, yc 50, yc 0)), (1, (2, yc 11, yc 0)), (2, (0, (1, 0, 0), yc 0))], []), [(1, [], [], [], [], [])], [(52, 52, 1000), (53, 53, 1000), (54, 54, 1000), (57, 57, 1000), (58, 58, 1000)])
def yx430 : yCx := ([ys429, ys176, ys418], ys430.2.2.2.2, yFP, zm21.2.2.1, zm21.2.2.2.1, zc21, 1, ys430.2.2.2.1, [(2, (2, [(0, (-1), 5), (1, 0, 6)], [], [], [(0, (2, yc 50, yc 0)), (1, (2, yc 11, yc 0)), (2, (0, (1, 0, 0), yc 0)), (3, (0, (1, 1, 0), yc 0))], []), ([((-1), 1)], 13)), (37, (3, [(0, (-1), 5), (1, 0, 6), (2, 0, 6)], [], [(yc 50, yc 1, (0, (1, 2, 0), yc 0))], [(0, (2, yc 50, yc 0)), (1, (2, yc 11, yc 0)), (2, (0, (1, 0, 0), yc 0)), (3, (0, (1, 1, 0), yc 0))], []), ([((-1), 1)], 6))], [])
theorem yw430 : ywf ys430.2.2.1 = true := by decide +kernel
theorem yk430 : yver yx430 ys430.2.2.1 4000 = true := by decide +kernel
theorem yt430 {E : zHp → Prop} (h : yXt E) : yTs E ys430 := yver_s (x := yx430) h.1 (yal_c (yt429 h) yw429 (yal_c (yt176 h) yw176 (yal_c (yt418 h) yw418 (yal_n)))) yg21 yk430
def ys431 : ySp := (19, 6, (1, [(0, (-1), 5)], [], [], [(0, (2, yc 50, yc 0)), (1, (2, yc 11, yc 0)), (2, (0, (1, 0, 0), yc 0))], []), [(2, [(1, (-2147483648), 2147483647)], [], [], [], [(0, (1, 1, 0), yc 0)])], [(50, 50, 1), (52, 52, 1000), (53, 53, 1000), (54, 54, 1000), (57, 57, 1000), (58, 58, 1000), (60, 66, 1000)])
def yx431 : yCx := ([ys372, ys430, ys176, ys159, ys366], ys431.2.2.2.2, yFP, zm19.2.2.1, zm19.2.2.2.1, zc19, 1, ys431.2.2.2.1, [(52, (6, [(0, (-1), 5), (1, 1, 64), (2, (-1), 5), (3, 0, 6), (4, 0, 6), (5, 0, 6)], [], [(yc 12, yc 3, (0, (1, 3, 0), yc 0)), (yc 50, yc 1, (0, (1, 4, 0), yc 0)), (yc 12, yc 2, (0, (1, 5, 0), yc 0))], [(0, (2, yc 50, yc 0)), (1, (2, yc 11, yc 0)), (2, (0, (1, 0, 0), yc 0)), (3, (0, (1, 1, 0), yc 0)), (4, (0, (1, 2, 0), yc 0))], []), ([(67, 2)], 133)), (60, (7, [(0, (-1), 5), (1, 1, 64), (2, 0, 5), (3, 0, 64), (4, 0, 6), (5, 0, 6), (6, 0, 6)], [], [(yc 12, yc 3, (0, (1, 4, 0), yc 0)), (yc 50, yc 1, (0, (1, 5, 0), yc 0)), (yc 12, yc 2, (0, (1, 6, 0), yc 0))], [(0, (2, yc 50, yc 0)), (1, (2, yc 11, yc 0)), (2, (0, (1, 0, 0), yc 0)), (3, (0, (1, 1, 0), yc 0)), (4, (0, (1, 2, 0), yc 0)), (5, (0, (1, 3, 0), yc 0))], []), ([((-1), 3), (67, 2)], 131))], [])
theorem yw431 : ywf ys431.2.2.1 = true := by decide +kernel
theorem yk431 : yver yx431 ys431.2.2.1 4000 = true := by decide +kernel
theorem yt431 {E : zHp → Prop} (h : yXt E) : yTs E ys431 := yver_s (x := yx431) h.1 (yal_c (yt372 h) yw372 (yal_c (yt430 h) yw430 (yal_c (yt176 h) yw176 (yal_c (yt159 h) yw159 (yal_c (yt366 h) yw366 (yal_n)))))) yg19 yk431
def ys432 : ySp := (104, 3, (2, [(0, 0, 5), (1, 0, 3)], [], [], [(0, (2, yc 11, yc 0)), (1, (0, (1, 0, 0), yc 0)), (2, (0, (1, 1, 0), yc 0))], []), [(2, [], [], [], [], [])], [(12, 12, 1000)])
def yx432 : yCx := ([ys382, ys383, ys179, ys182], ys432.2.2.2.2, yFP, zm104.2.2.1, zm104.2.2.2.1, zc104, 2, ys432.2.2.2.1, [], [])
theorem yw432 : ywf ys432.2.2.1 = true := by decide +kernel
theorem yk432 : yver yx432 ys432.2.2.1 4000 = true := by decide +kernel
theorem yt432 {E : zHp → Prop} (h : yXt E) : yTs E ys432 := yver_s (x := yx432) h.1 (yal_c (yt382 h) yw382 (yal_c (yt383 h) yw383 (yal_c (yt179 h) yw179 (yal_c (yt182 h) yw182 (yal_n))))) yg104 yk432
def ys433 : ySp := (104, 3, (2, [(0, 0, 5), (1, 0, 5)], [], [], [(0, (2, yc 11, yc 0)), (1, (0, (1, 0, 0), yc 0)), (2, (0, (1, 1, 0), yc 0))], []), [(2, [], [], [], [], [])], [(12, 12, 1000)])
def yx433 : yCx := ([ys382, ys383, ys179, ys182], ys433.2.2.2.2, yFP, zm104.2.2.1, zm104.2.2.2.1, zc104, 2, ys433.2.2.2.1, [], [])
theorem yw433 : ywf ys433.2.2.1 = true := by decide +kernel
theorem yk433 : yver yx433 ys433.2.2.1 4000 = true := by decide +kernel
theorem yt433 {E : zHp → Prop} (h : yXt E) : yTs E ys433 := yver_s (x := yx433) h.1 (yal_c (yt382 h) yw382 (yal_c (yt383 h) yw383 (yal_c (yt179 h) yw179 (yal_c (yt182 h) yw182 (yal_n))))) yg104 yk433
def ys434 : ySp := (144, 7, (2, [(0, (-2147483648), 2147483647), (1, (-2147483648), 2147483647)], [], [], [(0, (2, yc 0, yc 0)), (1, (0, (1, 0, 0), yc 0)), (2, (0, (1, 1, 0), yc 0))], []), [(2, [], [], [], [], [(0, yc (-1), yc 0)]), (3, [(0, 0, 5), (1, 0, 1), (2, (-2147483648), 2147483647)], [], [], [], [(0, (1, 2, 0), yc 0)])], [(12, 12, 1000), (50, 50, 1), (52, 52, 1000), (53, 53, 1000), (54, 54, 1000), (57, 57, 1000), (58, 58, 1000), (60, 66, 1000)])
def yx434 : yCx := ([ys373, ys431, ys381, ys255, ys229, ys231, ys433], ys434.2.2.2.2, yFP, zm144.2.2.1, zm144.2.2.2.1, zc144, 2, ys434.2.2.2.1, [(49, (5, [(0, 0, 5), (1, 0, 1), (2, 0, 5), (3, (-2147483648), 2147483647), (4, 0, 6)], [], [], [(0, (2, yc 0, yc 0)), (1, (0, (1, 0, 0), yc 0)), (2, (0, (1, 1, 0), yc 0)), (3, (0, (1, 2, 0), yc 0)), (4, (0, (1, 3, 0), yc 0)), (5, (0, (1, 4, 0), yc 0))], []), ([((-1), 4)], 6))], [])
theorem yw434 : ywf ys434.2.2.1 = true := by decide +kernel
theorem yk434 : yver yx434 ys434.2.2.1 4000 = true := by decide +kernel
theorem yt434 {E : zHp → Prop} (h : yXt E) : yTs E ys434 := yver_s (x := yx434) h.1 (yal_c (yt373 h) yw373 (yal_c (yt431 h) yw431 (yal_c (yt381 h) yw381 (yal_c (yt255 h) yw255 (yal_c (yt229 h) yw229 (yal_c (yt231 h) yw231 (yal_c (yt433 h) yw433 (yal_n)))))))) yg144 yk434
def ys435 : ySp := (105, 3, (2, [(0, 0, 1), (1, 0, 1)], [], [], [(0, (2, yc 11, yc 0)), (1, (0, (1, 0, 0), yc 0)), (2, (0, (1, 1, 0), yc 0))], []), [(2, [], [], [], [], [])], [(12, 12, 1000)])
def yx435 : yCx := ([], ys435.2.2.2.2, yFP, zm105.2.2.1, zm105.2.2.2.1, zc105, 2, ys435.2.2.2.1, [], [])
theorem yw435 : ywf ys435.2.2.1 = true := by decide +kernel
theorem yk435 : yver yx435 ys435.2.2.1 4000 = true := by decide +kernel
theorem yt435 {E : zHp → Prop} (h : yXt E) : yTs E ys435 := yver_s (x := yx435) h.1 (yal_n) yg105 yk435
def ys436 : ySp := (105, 3, (2, [(0, 0, 1), (1, 0, 3)], [], [], [(0, (2, yc 11, yc 0)), (1, (0, (1, 0, 0), yc 0)), (2, (0, (1, 1, 0), yc 0))], []), [(2, [], [], [], [], [])], [(12, 12, 1000)])
def yx436 : yCx := ([], ys436.2.2.2.2, yFP, zm105.2.2.1, zm105.2.2.2.1, zc105, 2, ys436.2.2.2.1, [], [])
theorem yw436 : ywf ys436.2.2.1 = true := by decide +kernel
theorem yk436 : yver yx436 ys436.2.2.1 4000 = true := by decide +kernel
theorem yt436 {E : zHp → Prop} (h : yXt E) : yTs E ys436 := yver_s (x := yx436) h.1 (yal_n) yg105 yk436
def ys437 : ySp := (105, 3, (2, [(0, 0, 5), (1, 0, 5)], [], [], [(0, (2, yc 11, yc 0)), (1, (0, (1, 0, 0), yc 0)), (2, (0, (1, 1, 0), yc 0))], []), [(2, [], [], [], [], [])], [(12, 12, 1000)])
def yx437 : yCx := ([], ys437.2.2.2.2, yFP, zm105.2.2.1, zm105.2.2.2.1, zc105, 2, ys437.2.2.2.1, [], [])
theorem yw437 : ywf ys437.2.2.1 = true := by decide +kernel
theorem yk437 : yver yx437 ys437.2.2.1 4000 = true := by decide +kernel
theorem yt437 {E : zHp → Prop} (h : yXt E) : yTs E ys437 := yver_s (x := yx437) h.1 (yal_n) yg105 yk437
def ys438 : ySp := (145, 8, (1, [(0, (-2147483648), 2147483647)], [], [], [(0, (2, yc 0, yc 0)), (1, (0, (1, 0, 0), yc 0))], []), [(1, [], [], [], [], [(0, yc (-1), yc 0)]), (2, [(0, 0, 2), (1, (-2147483648), 2147483647)], [], [], [], [(0, (1, 1, 0), yc 0)])], [(12, 12, 1000), (50, 50, 1), (52, 52, 1000), (53, 53, 1000), (54, 54, 1000), (57, 57, 1000), (58, 58, 1000), (60, 66, 1000)])
def yx438 : yCx := ([ys373, ys431, ys381, ys296, ys255, ys280, ys437], ys438.2.2.2.2, yFP, zm145.2.2.1, zm145.2.2.2.1, zc145, 1, ys438.2.2.2.1, [(33, (5, [(0, 0, 2), (1, (-2), 5), (2, (-2), 5), (3, (-2147483648), 2147483647), (4, 0, 6)], [], [], [(0, (2, yc 0, yc 0)), (1, (0, (1, 0, 0), yc 0)), (2, (0, (1, 1, 0), yc 0)), (3, (0, (1, 2, 0), yc 0)), (4, (0, (1, 3, 0), yc 0)), (5, (0, (1, 4, 0), yc 0))], []), ([((-8), 4)], 55)), (51, (7, [(0, 0, 2), (1, (-2), 5), (2, (-2), 5), (3, (-2147483648), 2147483647), (4, 0, 5), (5, 1, 6), (6, 1, 6)], [], [(yc 10, yc 0, (0, (1, 6, 0), yc 0))], [(0, (2, yc 0, yc 0)), (1, (0, (1, 0, 0), yc 0)), (2, (0, (1, 1, 0), yc 0)), (3, (0, (1, 2, 0), yc 0)), (4, (0, (1, 3, 0), yc 0)), (5, (0, (1, 4, 0), yc 0)), (6, (0, (1, 5, 0), yc 0))], []), ([((-1), 5), ((-8), 4)], 54))], [])
theorem yw438 : ywf ys438.2.2.1 = true := by decide +kernel
theorem yk438 : yver yx438 ys438.2.2.1 4000 = true := by decide +kernel
theorem yt438 {E : zHp → Prop} (h : yXt E) : yTs E ys438 := yver_s (x := yx438) h.1 (yal_c (yt373 h) yw373 (yal_c (yt431 h) yw431 (yal_c (yt381 h) yw381 (yal_c (yt296 h) yw296 (yal_c (yt255 h) yw255 (yal_c (yt280 h) yw280 (yal_c (yt437 h) yw437 (yal_n)))))))) yg145 yk438
def ys439 : ySp := (66, 5, (0, [], [], [], [(0, (2, yc 67, yc 0)), (1, (2, yc 9, yc 0))], []), [(1, [(0, (-2147483648), 2147483647)], [], [], [], [(0, (1, 0, 0), yc 0)])], [(69, 69, 1000)])
def yx439 : yCx := ([ys255, ys260], ys439.2.2.2.2, yFP, zm66.2.2.1, zm66.2.2.2.1, zc66, 0, ys439.2.2.2.1, [(7, (2, [(0, 0, 6), (1, 0, 6)], [], [(yc 10, yc 0, (0, (1, 0, 0), yc 0))], [(0, (2, yc 67, yc 0)), (1, (2, yc 9, yc 0)), (2, (0, (1, 0, 0), yc 0)), (3, (0, (1, 1, 0), yc 0))], []), ([((-9), 1)], 132)), (22, (4, [(0, 1, 6), (1, 0, 5), (2, 0, 6), (3, (-2147483648), 2147483647)], [], [(yc 10, yc 0, (0, (1, 0, 0), yc 0)), (yc 69, yc 0, (0, (1, 3, 0), yc 0))], [(0, (2, yc 67, yc 0)), (1, (2, yc 9, yc 0)), (2, (0, (1, 0, 0), yc 0)), (3, (0, (1, 1, 0), yc 0)), (4, (0, (1, 2, 0), yc 0))], []), ([((-1), 2), ((-9), 1)], 130)), (65, (2, [(0, 0, 6), (1, 0, 6)], [], [(yc 10, yc 0, (0, (1, 0, 0), yc 0))], [(0, (2, yc 67, yc 0)), (1, (2, yc 9, yc 0)), (2, (0, (1, 0, 0), yc 0)), (3, (0, (1, 1, 0), yc 0))], []), ([((-9), 1)], 69)), (126, (3, [(0, 0, 6), (1, (-2147483648), 2147483647), (2, 0, 6)], [], [(yc 10, yc 0, (0, (1, 0, 0), yc 0))], [(0, (2, yc 67, yc 0)), (1, (2, yc 9, yc 0)), (2, (0, (1, 0, 0), yc 0)), (3, (0, (1, 1, 0), yc 0)), (4, (0, (1, 2, 0), yc 0))], []), ([((-1), 2)], 6)), (73, (3, [(0, 1, 6), (1, 0, 5), (2, 0, 6)], [], [(yc 10, yc 0, (0, (1, 0, 0), yc 0))], [(0, (2, yc 67, yc 0)), (1, (2, yc 9, yc 0)), (2, (0, (1, 0, 0), yc 0)), (3, (0, (1, 1, 0), yc 0)), (4, (0, (1, 2, 0), yc 0))], []), ([((-1), 2), ((-9), 1)], 67))], [])
theorem yw439 : ywf ys439.2.2.1 = true := by decide +kernel
theorem yk439 : yver yx439 ys439.2.2.1 4000 = true := by decide +kernel
theorem yt439 {E : zHp → Prop} (h : yXt E) : yTs E ys439 := yver_s (x := yx439) h.1 (yal_c (yt255 h) yw255 (yal_c (yt260 h) yw260 (yal_n))) yg66 yk439
def ys440 : ySp := (146, 2, (1, [(0, (-2147483648), 2147483647)], [], [], [(0, (2, yc 0, yc 0)), (1, (0, (1, 0, 0), yc 0))], []), [(1, [], [], [], [], [(0, yc (-1), yc 0)]), (2, [(0, 0, 7), (1, (-2147483648), 2147483647)], [], [], [], [(0, (1, 1, 0), yc 0)])], [(67, 67, 1), (68, 68, 1000), (69, 69, 1000)])
def yx440 : yCx := ([ys292, ys439, ys296], ys440.2.2.2.2, yFP, zm146.2.2.1, zm146.2.2.2.1, zc146, 1, ys440.2.2.2.1, [], [])
theorem yw440 : ywf ys440.2.2.1 = true := by decide +kernel
theorem yk440 : yver yx440 ys440.2.2.1 4000 = true := by decide +kernel
theorem yt440 {E : zHp → Prop} (h : yXt E) : yTs E ys440 := yver_s (x := yx440) h.1 (yal_c (yt292 h) yw292 (yal_c (yt439 h) yw439 (yal_c (yt296 h) yw296 (yal_n)))) yg146 yk440
def ys441 : ySp := (95, 4, (1, [(0, 0, 5)], [], [], [(0, (2, yc 9, yc 0)), (1, (0, (1, 0, 0), yc 0))], []), [(2, [(1, (-2147483648), 2147483647)], [], [], [], [(0, (1, 1, 0), yc 0)])], [])
def yx441 : yCx := ([ys255, ys260], ys441.2.2.2.2, yFP, zm95.2.2.1, zm95.2.2.2.1, zc95, 1, ys441.2.2.2.1, [(4, (3, [(0, 0, 5), (1, (-2147483648), 2147483647), (2, 0, 6)], [], [], [(0, (2, yc 9, yc 0)), (1, (0, (1, 0, 0), yc 0)), (2, (0, (1, 1, 0), yc 0)), (3, (0, (1, 2, 0), yc 0))], []), ([((-1), 2)], 6))], [])
theorem yw441 : ywf ys441.2.2.1 = true := by decide +kernel
theorem yk441 : yver yx441 ys441.2.2.1 4000 = true := by decide +kernel
theorem yt441 {E : zHp → Prop} (h : yXt E) : yTs E ys441 := yver_s (x := yx441) h.1 (yal_c (yt255 h) yw255 (yal_c (yt260 h) yw260 (yal_n))) yg95 yk441
def ys442 : ySp := (147, 2, (1, [(0, (-2147483648), 2147483647)], [], [], [(0, (2, yc 0, yc 0)), (1, (0, (1, 0, 0), yc 0))], []), [(2, [(1, (-2147483648), 2147483647)], [], [], [], [(0, (1, 1, 0), yc 0)])], [])
def yx442 : yCx := ([ys256, ys441], ys442.2.2.2.2, yFP, zm147.2.2.1, zm147.2.2.2.1, zc147, 1, ys442.2.2.2.1, [], [])
theorem yw442 : ywf ys442.2.2.1 = true := by decide +kernel
theorem yk442 : yver yx442 ys442.2.2.1 4000 = true := by decide +kernel
theorem yt442 {E : zHp → Prop} (h : yXt E) : yTs E ys442 := yver_s (x := yx442) h.1 (yal_c (yt256 h) yw256 (yal_c (yt441 h) yw441 (yal_n))) yg147 yk442
def ys443 : ySp := (7, 6, (4, [(0, 0, 5), (1, 0, 5), (2, 0, 5), (3, (-2147483648), 2147483647)], [], [], [(0, (2, yc 44, yc 0)), (1, (2, yc 9, yc 0)), (2, (0, (1, 0, 0), yc 0)), (3, (0, (1, 1, 0), yc 0)), (4, (0, (1, 2, 0), yc 0)), (5, (0, (1, 3, 0), yc 0))], []), [(4, [], [], [], [], [])], [(44, 44, 3), (44, 44, 5), (44, 44, 6), (44, 44, 8), (44, 44, 9), (44, 44, 10), (48, 48, 1000), (49, 49, 1000)])
def yx443 : yCx := ([ys350], ys443.2.2.2.2, yFP, zm7.2.2.1, zm7.2.2.2.1, zc7, 4, ys443.2.2.2.1, [], [])
theorem yw443 : ywf ys443.2.2.1 = true := by decide +kernel
theorem yk443 : yver yx443 ys443.2.2.1 4000 = true := by decide +kernel
theorem yt443 {E : zHp → Prop} (h : yXt E) : yTs E ys443 := yver_s (x := yx443) h.1 (yal_c (yt350 h) yw350 (yal_n)) yg7 yk443
