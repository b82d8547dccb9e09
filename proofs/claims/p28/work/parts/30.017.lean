def ys482 : ySp := (285, 2, (0, [], [], [], [(0, (0, yc 2, yc 0)), (1, (0, yc 3, yc 0))], []), [(0, [], [], [], [], [])], [])
def yx482 : yCx := ([ys481], ys482.2.2.2.2, yFP, zm285.2.2.1, zm285.2.2.2.1, zc285, 0, ys482.2.2.2.1, [], [])
theorem yw482 : ywf ys482.2.2.1 = true := by decide +kernel
theorem yk482 : yver yx482 ys482.2.2.1 4000 = true := by decide +kernel
theorem yt482 {E : zHp → Prop} (h : yEF E yFP) : yTs E 2 ys482 := yver_s (x := yx482) h (yal_c (yt481 h) (by decide) yw481 (yal_n)) yg285 yk482
def ys483 : ySp := (286, 2, (0, [], [], [], [(0, (2, yc 1024, yc 0)), (1, (0, yc 2, yc 0))], []), [(0, [], [], [], [], [(0, yc 32, yc 0)])], [])
def yx483 : yCx := ([ys482], ys483.2.2.2.2, yFP, zm286.2.2.1, zm286.2.2.2.1, zc286, 0, ys483.2.2.2.1, [], [])
theorem yw483 : ywf ys483.2.2.1 = true := by decide +kernel
theorem yk483 : yver yx483 ys483.2.2.1 4000 = true := by decide +kernel
theorem yt483 {E : zHp → Prop} (h : yEF E yFP) : yTs E 3 ys483 := yver_s (x := yx483) h (yal_c (yt482 h) (by decide) yw482 (yal_n)) yg286 yk483
def ys484 : ySp := (282, 2, (0, [], [], [], [(0, (2, yc 1005, yc 0)), (1, (0, yc 2, yc 0))], []), [(0, [], [], [], [], [(0, yc 32, yc 0)])], [])
def yx484 : yCx := ([ys472, ys483], ys484.2.2.2.2, yFP, zm282.2.2.1, zm282.2.2.2.1, zc282, 0, ys484.2.2.2.1, [], [])
theorem yw484 : ywf ys484.2.2.1 = true := by decide +kernel
theorem yk484 : yver yx484 ys484.2.2.1 4000 = true := by decide +kernel
theorem yt484 {E : zHp → Prop} (h : yEF E yFP) : yTs E 4 ys484 := yver_s (x := yx484) h (yal_c (yt472 h) (by decide) yw472 (yal_c (yt483 h) (by decide) yw483 (yal_n))) yg282 yk484
def ys485 : ySp := (59, 6, (1, [(0, 0, 2147483647)], [], [(yc 2, yc 0, (2, yc 1, yc 0)), (yc 2, yc 4, (0, (1, 0, 0), yc 0))], [(0, (2, yc 2, yc 0)), (1, (2, yc 1005, yc 0))], []), [(3, [(1, 0, 400), (2, 0, 400)], [], [(yc 2, yc 0, (2, yc 1, yc 0)), (yc 2, yc 4, (0, (1, 0, 0), yc 0)), (yc 2, yc 2, (0, (1, 1, 0), yc 0)), (yc 2, yc 1, (0, (1, 2, 0), yc 0))], [], [(0, yc (-1), yc 0)]), (3, [(1, 0, 400), (2, 0, 400)], [], [(yc 2, yc 0, (2, yc 1, yc 0)), (yc 2, yc 4, (0, (1, 0, 0), yc 0)), (yc 2, yc 1, (0, (1, 1, 0), yc 0)), (yc 2, yc 2, (0, (1, 2, 0), yc 0))], [], [(0, yc 0, yc 0)])], [(2, 2, 2), (2, 2, 3)])
def yx485 : yCx := ([ys94, ys95, ys471, ys476, ys480, ys484], ys485.2.2.2.2, yFP, zm59.2.2.1, zm59.2.2.2.1, zc59, 1, ys485.2.2.2.1, [(18, (4, [(0, 0, 2147483647), (1, 0, 400), (2, 0, 400), (3, 0, 400)], [], [(yc 2, yc 0, (2, yc 1, yc 0)), (yc 2, yc 4, (0, (1, 0, 0), yc 0)), (yc 2, yc 2, (0, (1, 2, 0), yc 0)), (yc 2, yc 1, (0, (1, 3, 0), yc 0)), (yc 2, yc 3, (0, (1, 2, 0), yc 0))], [(0, (2, yc 2, yc 0)), (1, (2, yc 1005, yc 0)), (2, (0, (1, 1, 0), yc 0))], []), ([((-1), 1)], 404)), (55, (4, [(0, 0, 2147483647), (1, 0, 400), (2, 0, 400), (3, 0, 400)], [], [(yc 2, yc 0, (2, yc 1, yc 0)), (yc 2, yc 4, (0, (1, 0, 0), yc 0)), (yc 2, yc 2, (0, (1, 2, 0), yc 0)), (yc 2, yc 1, (0, (1, 3, 0), yc 0)), (yc 2, yc 3, (0, (1, 2, 0), yc 0))], [(0, (2, yc 2, yc 0)), (1, (2, yc 1005, yc 0)), (2, (0, (1, 1, 0), yc 0)), (3, (0, yc 0, yc 0)), (4, (0, (1, 2, 0), yc 0)), (5, (0, yc 0, yc 0))], []), ([], 3)), (55, (5, [(0, 0, 2147483647), (1, 0, 400), (2, (-1), 400), (3, 0, 400), (4, 0, 400)], [([(1, 1), ((-1), 2)], 0)], [(yc 2, yc 0, (2, yc 1, yc 0)), (yc 2, yc 4, (0, (1, 0, 0), yc 0)), (yc 2, yc 2, (0, (1, 3, 0), yc 0)), (yc 2, yc 1, (0, (1, 4, 0), yc 0)), (yc 2, yc 3, (0, (1, 3, 0), yc 0))], [(0, (2, yc 2, yc 0)), (1, (2, yc 1005, yc 0)), (2, (0, (1, 1, 0), yc 0)), (3, (0, yc 0, yc 0)), (4, (0, (1, 2, 0), yc 0)), (5, (0, yc 1, yc 0))], []), ([], 2)), (55, (5, [(0, 0, 2147483647), (1, 0, 400), (2, (-1), 400), (3, 0, 400), (4, 0, 400)], [([(1, 1), ((-1), 2)], 1), ([(1, 1), ((-1), 2)], 0)], [(yc 2, yc 0, (2, yc 1, yc 0)), (yc 2, yc 4, (0, (1, 0, 0), yc 0)), (yc 2, yc 2, (0, (1, 3, 0), yc 0)), (yc 2, yc 1, (0, (1, 4, 0), yc 0)), (yc 2, yc 3, (0, (1, 3, 0), yc 0))], [(0, (2, yc 2, yc 0)), (1, (2, yc 1005, yc 0)), (2, (0, (1, 1, 0), yc 0)), (3, (0, yc 0, yc 0)), (4, (0, (1, 2, 0), yc 0)), (5, (0, yc 2, yc 0))], []), ([], 1)), (55, (4, [(0, 0, 2147483647), (1, 0, 400), (2, 0, 400), (3, 0, 400)], [], [(yc 2, yc 0, (2, yc 1, yc 0)), (yc 2, yc 4, (0, (1, 0, 0), yc 0)), (yc 2, yc 2, (0, (1, 2, 0), yc 0)), (yc 2, yc 1, (0, (1, 3, 0), yc 0)), (yc 2, yc 3, (0, (1, 2, 0), yc 0))], [(0, (2, yc 2, yc 0)), (1, (2, yc 1005, yc 0)), (2, (0, (1, 1, 0), yc 0)), (3, (0, yc 1, yc 0)), (4, (0, (1, 2, 0), yc 0)), (5, (0, yc 3, yc 0))], []), ([], 0))], [])
theorem yw485 : ywf ys485.2.2.1 = true := by decide +kernel
theorem yk485 : yver yx485 ys485.2.2.1 4000 = true := by decide +kernel
theorem yt485 {E : zHp → Prop} (h : yEF E yFP) : yTs E 5 ys485 := yver_s (x := yx485) h (yal_c (yt94 h) (by decide) yw94 (yal_c (yt95 h) (by decide) yw95 (yal_c (yt471 h) (by decide) yw471 (yal_c (yt476 h) (by decide) yw476 (yal_c (yt480 h) (by decide) yw480 (yal_c (yt484 h) (by decide) yw484 (yal_n))))))) yg59 yk485
def ys486 : ySp := (40, 2, (1, [(0, 0, 2147483647)], [], [(yc 2, yc 0, (2, yc 1, yc 0)), (yc 2, yc 4, (0, (1, 0, 0), yc 0))], [(0, (2, yc 6, yc 0)), (1, (2, yc 2, yc 0))], []), [(4, [(1, 0, 2147483647), (2, 0, 400), (3, 0, 400)], [], [(yc 2, yc 0, (2, yc 1, yc 0)), (yc 2, yc 4, (0, (1, 1, 0), yc 0)), (yc 2, yc 1, (0, (1, 2, 0), yc 0)), (yc 2, yc 2, (0, (1, 3, 0), yc 0))], [], [])], [(2, 2, 2), (2, 2, 3), (2, 2, 4), (6, 6, 1), (6, 6, 3), (6, 6, 6), (6, 6, 8), (7, 7, 1000)])
def yx486 : yCx := ([ys463, ys457, ys485], ys486.2.2.2.2, yFP, zm40.2.2.1, zm40.2.2.2.1, zc40, 1, ys486.2.2.2.1, [], [])
theorem yw486 : ywf ys486.2.2.1 = true := by decide +kernel
theorem yk486 : yver yx486 ys486.2.2.1 4000 = true := by decide +kernel
theorem yt486 {E : zHp → Prop} (h : yEF E yFP) : yTs E 6 ys486 := yver_s (x := yx486) h (yal_c (yt463 h) (by decide) yw463 (yal_c (yt457 h) (by decide) yw457 (yal_c (yt485 h) (by decide) yw485 (yal_n)))) yg40 yk486
def ys487 : ySp := (55, 2, (2, [(0, 0, 63), (1, 0, 2147483647)], [], [(yc 2, yc 0, (2, yc 1, yc 0)), (yc 2, yc 4, (0, (1, 1, 0), yc 0))], [(0, (2, yc 2, yc 0)), (1, (0, (1, 0, 0), yc 0))], []), [(4, [(2, 0, 400), (3, 0, 400)], [], [(yc 2, yc 0, (2, yc 1, yc 0)), (yc 2, yc 4, (0, (1, 1, 0), yc 0)), (yc 2, yc 2, (0, (1, 2, 0), yc 0)), (yc 2, yc 1, (0, (1, 3, 0), yc 0))], [], [(0, yc 0, yc 0)]), (4, [(2, 1, 400), (3, 1, 400)], [([(1, 2), ((-1), 3)], 0)], [(yc 2, yc 0, (2, yc 1, yc 0)), (yc 2, yc 4, (0, (1, 1, 0), yc 0)), (yc 2, yc 1, (0, (1, 2, 0), yc 0)), (yc 2, yc 2, (0, (1, 3, 0), yc 0))], [], [(0, yc 1, yc 0)])], [(2, 2, 2)])
def yx487 : yCx := ([], ys487.2.2.2.2, yFP, zm55.2.2.1, zm55.2.2.2.1, zc55, 2, ys487.2.2.2.1, [], [])
theorem yw487 : ywf ys487.2.2.1 = true := by decide +kernel
theorem yk487 : yver yx487 ys487.2.2.1 4000 = true := by decide +kernel
theorem yt487 {E : zHp → Prop} (h : yEF E yFP) : yTs E 1 ys487 := yver_s (x := yx487) h (yal_n) yg55 yk487
def ys488 : ySp := (41, 4, (1, [(0, 0, 2147483647)], [], [(yc 2, yc 0, (2, yc 1, yc 0)), (yc 2, yc 4, (0, (1, 0, 0), yc 0))], [(0, (2, yc 6, yc 0)), (1, (2, yc 2, yc 0))], []), [(4, [(1, 0, 400), (2, 0, 400), (3, 0, 2147483647)], [], [(yc 2, yc 0, (2, yc 1, yc 0)), (yc 2, yc 2, (0, (1, 1, 0), yc 0)), (yc 2, yc 1, (0, (1, 2, 0), yc 0)), (yc 2, yc 4, (0, (1, 3, 0), yc 0))], [], [])], [(2, 2, 2), (2, 2, 4), (6, 6, 1), (6, 6, 3), (6, 6, 5), (6, 6, 6), (6, 6, 8), (6, 6, 9), (7, 7, 1000), (8, 8, 1000)])
def yx488 : yCx := ([ys150, ys469, ys120, ys94, ys124, ys487], ys488.2.2.2.2, yFP, zm41.2.2.1, zm41.2.2.2.1, zc41, 1, ys488.2.2.2.1, [], [])
theorem yw488 : ywf ys488.2.2.1 = true := by decide +kernel
theorem yk488 : yver yx488 ys488.2.2.1 4000 = true := by decide +kernel
theorem yt488 {E : zHp → Prop} (h : yEF E yFP) : yTs E 4 ys488 := yver_s (x := yx488) h (yal_c (yt150 h) (by decide) yw150 (yal_c (yt469 h) (by decide) yw469 (yal_c (yt120 h) (by decide) yw120 (yal_c (yt94 h) (by decide) yw94 (yal_c (yt124 h) (by decide) yw124 (yal_c (yt487 h) (by decide) yw487 (yal_n))))))) yg41 yk488
def ys489 : ySp := (39, 1, (1, [(0, (-1), 5)], [], [], [(0, (0, (1, 0, 0), yc 0))], []), [(1, [], [], [], [], [(0, yc (-1), yc 0)])], [])
def yx489 : yCx := ([], ys489.2.2.2.2, yFP, zm39.2.2.1, zm39.2.2.2.1, zc39, 1, ys489.2.2.2.1, [], [])
theorem yw489 : ywf ys489.2.2.1 = true := by decide +kernel
theorem yk489 : yver yx489 ys489.2.2.1 4000 = true := by decide +kernel
theorem yt489 {E : zHp → Prop} (h : yEF E yFP) : yTs E 1 ys489 := yver_s (x := yx489) h (yal_n) yg39 yk489
def ys490 : ySp := (38, 3, (1, [(0, 0, 2147483647)], [], [(yc 2, yc 0, (2, yc 1, yc 0)), (yc 2, yc 4, (0, (1, 0, 0), yc 0))], [(0, (2, yc 6, yc 0)), (1, (2, yc 2, yc 0))], []), [(4, [(1, 0, 2147483647), (2, 0, 400), (3, 0, 400)], [], [(yc 2, yc 0, (2, yc 1, yc 0)), (yc 2, yc 4, (0, (1, 1, 0), yc 0)), (yc 2, yc 1, (0, (1, 2, 0), yc 0)), (yc 2, yc 2, (0, (1, 3, 0), yc 0))], [], [])], [(2, 2, 2), (2, 2, 3), (2, 2, 4), (6, 6, 1), (6, 6, 3), (6, 6, 5), (6, 6, 6), (6, 6, 7), (6, 6, 8), (6, 6, 9), (7, 7, 1000), (8, 8, 1000)])
def yx490 : yCx := ([ys489, ys466, ys486, ys488, ys465, ys469, ys94, ys124], ys490.2.2.2.2, yFP, zm38.2.2.1, zm38.2.2.2.1, zc38, 1, ys490.2.2.2.1, [], [])
theorem yw490 : ywf ys490.2.2.1 = true := by decide +kernel
theorem yk490 : yver yx490 ys490.2.2.1 4000 = true := by decide +kernel
theorem yt490 {E : zHp → Prop} (h : yEF E yFP) : yTs E 7 ys490 := yver_s (x := yx490) h (yal_c (yt489 h) (by decide) yw489 (yal_c (yt466 h) (by decide) yw466 (yal_c (yt486 h) (by decide) yw486 (yal_c (yt488 h) (by decide) yw488 (yal_c (yt465 h) (by decide) yw465 (yal_c (yt469 h) (by decide) yw469 (yal_c (yt94 h) (by decide) yw94 (yal_c (yt124 h) (by decide) yw124 (yal_n))))))))) yg38 yk490
def ys491 : ySp := (50, 3, (1, [(0, 0, 400)], [], [], [(0, (2, yc 2, yc 0)), (1, (2, yc 1, yc 0)), (2, (0, (1, 0, 0), yc 0))], []), [(2, [(1, 0, 400)], [], [(yc 2, yc 0, (2, yc 1, yc 0)), (yc 2, yc 1, (0, (1, 1, 0), yc 0)), (yc 2, yc 2, (0, yc 0, yc 0)), (yc 2, yc 4, (0, yc 0, yc 0))], [], [])], [(2, 2, 0), (2, 2, 1), (2, 2, 2), (2, 2, 4)])
def yx491 : yCx := ([], ys491.2.2.2.2, yFP, zm50.2.2.1, zm50.2.2.2.1, zc50, 1, ys491.2.2.2.1, [], [])
theorem yw491 : ywf ys491.2.2.1 = true := by decide +kernel
theorem yk491 : yver yx491 ys491.2.2.1 4000 = true := by decide +kernel
theorem yt491 {E : zHp → Prop} (h : yEF E yFP) : yTs E 1 ys491 := yver_s (x := yx491) h (yal_n) yg50 yk491
def ys492 : ySp := (127, 1, (0, [], [], [], [(0, (2, yc 0, yc 0))], []), [(1, [(0, 0, 400)], [], [(yc 2, yc 0, (2, yc 1, yc 0)), (yc 2, yc 1, (0, (1, 0, 0), yc 0)), (yc 2, yc 2, (0, yc 0, yc 0)), (yc 2, yc 4, (0, yc 0, yc 0))], [], [])], [(0, 0, 1), (2, 2, 0), (2, 2, 1), (2, 2, 2), (2, 2, 4)])
def yx492 : yCx := ([ys491], ys492.2.2.2.2, yFP, zm127.2.2.1, zm127.2.2.2.1, zc127, 0, ys492.2.2.2.1, [], [])
theorem yw492 : ywf ys492.2.2.1 = true := by decide +kernel
theorem yk492 : yver yx492 ys492.2.2.1 4000 = true := by decide +kernel
theorem yt492 {E : zHp → Prop} (h : yEF E yFP) : yTs E 2 ys492 := yver_s (x := yx492) h (yal_c (yt491 h) (by decide) yw491 (yal_n)) yg127 yk492
def ys495 : ySp := (68, 2, (0, [], [], [], [(0, (2, yc 9, yc 0)), (1, (2, yc 40, yc 0))], []), [(0, [], [], [], [], [])], [(40, 40, 1000)])
def yx495 : yCx := ([], ys495.2.2.2.2, yFP, zm68.2.2.1, zm68.2.2.2.1, zc68, 0, ys495.2.2.2.1, [], [])
theorem yw495 : ywf ys495.2.2.1 = true := by decide +kernel
theorem yk495 : yver yx495 ys495.2.2.1 4000 = true := by decide +kernel
theorem yt495 {E : zHp → Prop} (h : yEF E yFP) : yTs E 1 ys495 := yver_s (x := yx495) h (yal_n) yg68 yk495
def ys496 : ySp := (81, 1, (0, [], [], [], [(0, (2, yc 9, yc 0))], []), [(1, [(0, (-2147483648), 2147483647)], [], [], [], [(0, (1, 0, 0), yc 0)])], [])
def yx496 : yCx := ([], ys496.2.2.2.2, yFP, zm81.2.2.1, zm81.2.2.2.1, zc81, 0, ys496.2.2.2.1, [], [])
theorem yw496 : ywf ys496.2.2.1 = true := by decide +kernel
theorem yk496 : yver yx496 ys496.2.2.1 4000 = true := by decide +kernel
theorem yt496 {E : zHp → Prop} (h : yEF E yFP) : yTs E 1 ys496 := yver_s (x := yx496) h (yal_n) yg81 yk496
def ys497 : ySp := (68, 2, (0, [], [], [], [(0, (2, yc 9, yc 0)), (1, (2, yc 39, yc 0))], []), [(0, [], [], [], [], [])], [(39, 39, 1000)])
def yx497 : yCx := ([], ys497.2.2.2.2, yFP, zm68.2.2.1, zm68.2.2.2.1, zc68, 0, ys497.2.2.2.1, [], [])
theorem yw497 : ywf ys497.2.2.1 = true := by decide +kernel
theorem yk497 : yver yx497 ys497.2.2.1 4000 = true := by decide +kernel
theorem yt497 {E : zHp → Prop} (h : yEF E yFP) : yTs E 1 ys497 := yver_s (x := yx497) h (yal_n) yg68 yk497
def ys498 : ySp := (68, 2, (0, [], [], [], [(0, (2, yc 9, yc 0)), (1, (2, yc 38, yc 0))], []), [(0, [], [], [], [], [])], [(38, 38, 1000)])
def yx498 : yCx := ([], ys498.2.2.2.2, yFP, zm68.2.2.1, zm68.2.2.2.1, zc68, 0, ys498.2.2.2.1, [], [])
theorem yw498 : ywf ys498.2.2.1 = true := by decide +kernel
theorem yk498 : yver yx498 ys498.2.2.1 4000 = true := by decide +kernel
theorem yt498 {E : zHp → Prop} (h : yEF E yFP) : yTs E 1 ys498 := yver_s (x := yx498) h (yal_n) yg68 yk498
def ys499 : ySp := (68, 2, (0, [], [], [], [(0, (2, yc 9, yc 0)), (1, (2, yc 37, yc 0))], []), [(0, [], [], [], [], [])], [(37, 37, 1000)])
def yx499 : yCx := ([], ys499.2.2.2.2, yFP, zm68.2.2.1, zm68.2.2.2.1, zc68, 0, ys499.2.2.2.1, [], [])
theorem yw499 : ywf ys499.2.2.1 = true := by decide +kernel
theorem yk499 : yver yx499 ys499.2.2.1 4000 = true := by decide +kernel
theorem yt499 {E : zHp → Prop} (h : yEF E yFP) : yTs E 1 ys499 := yver_s (x := yx499) h (yal_n) yg68 yk499
def ys501 : ySp := (14, 1, (0, [], [], [], [(0, (2, yc 14, yc 0))], []), [(1, [(0, 0, 20)], [], [], [], [(0, (1, 0, 0), yc 0)])], [])
def yx501 : yCx := ([], ys501.2.2.2.2, yFP, zm14.2.2.1, zm14.2.2.2.1, zc14, 0, ys501.2.2.2.1, [], [])
theorem yw501 : ywf ys501.2.2.1 = true := by decide +kernel
theorem yk501 : yver yx501 ys501.2.2.1 4000 = true := by decide +kernel
theorem yt501 {E : zHp → Prop} (h : yEF E yFP) : yTs E 1 ys501 := yver_s (x := yx501) h (yal_n) yg14 yk501
def ys502 : ySp := (96, 3, (0, [], [], [], [(0, (2, yc 9, yc 0))], []), [(1, [(0, (-2147483648), 2147483647)], [], [], [], [(0, (1, 0, 0), yc 0)])], [])
def yx502 : yCx := ([], ys502.2.2.2.2, yFP, zm96.2.2.1, zm96.2.2.2.1, zc96, 0, ys502.2.2.2.1, [(5, (2, [(0, (-2147483648), 2147483647), (1, 78, 114)], [], [], [(0, (2, yc 9, yc 0)), (1, (0, (1, 0, 0), yc 0)), (2, (0, (1, 1, 0), yc 0))], []), ([((-1), 1)], 115))], [])
theorem yw502 : ywf ys502.2.2.1 = true := by decide +kernel
theorem yk502 : yver yx502 ys502.2.2.1 4000 = true := by decide +kernel
theorem yt502 {E : zHp → Prop} (h : yEF E yFP) : yTs E 1 ys502 := yver_s (x := yx502) h (yal_n) yg96 yk502
def ys503 : ySp := (80, 1, (1, [(0, 0, 6)], [], [(yc 10, yc 3, (0, (1, 0, 0), yc 0))], [(0, (2, yc 9, yc 0))], []), [(1, [], [], [(yc 10, yc 3, (0, (1, 0, 0), yc 0))], [], [(0, (1, 0, 0), yc 0)])], [])
def yx503 : yCx := ([], ys503.2.2.2.2, yFP, zm80.2.2.1, zm80.2.2.2.1, zc80, 1, ys503.2.2.2.1, [], [])
theorem yw503 : ywf ys503.2.2.1 = true := by decide +kernel
theorem yk503 : yver yx503 ys503.2.2.1 4000 = true := by decide +kernel
theorem yt503 {E : zHp → Prop} (h : yEF E yFP) : yTs E 1 ys503 := yver_s (x := yx503) h (yal_n) yg80 yk503
def ys506 : ySp := (89, 3, (1, [(0, 0, 5)], [], [], [(0, (2, yc 9, yc 0)), (1, (0, (1, 0, 0), yc 0)), (2, (0, yc 4, yc 0))], []), [(2, [(1, (-2147483648), 2147483647)], [], [], [], [(0, (1, 1, 0), yc 0)])], [])
def yx506 : yCx := ([], ys506.2.2.2.2, yFP, zm89.2.2.1, zm89.2.2.2.1, zc89, 1, ys506.2.2.2.1, [], [])
theorem yw506 : ywf ys506.2.2.1 = true := by decide +kernel
theorem yk506 : yver yx506 ys506.2.2.1 4000 = true := by decide +kernel
theorem yt506 {E : zHp → Prop} (h : yEF E yFP) : yTs E 1 ys506 := yver_s (x := yx506) h (yal_n) yg89 yk506
def ys507 : ySp := (106, 2, (1, [(0, 0, 5)], [], [], [(0, (2, yc 9, yc 0)), (1, (0, (1, 0, 0), yc 0))], []), [(1, [], [], [], [], [(0, yc 0, yc 0)]), (1, [], [], [], [], [(0, yc 1, yc 0)])], [])
def yx507 : yCx := ([ys506], ys507.2.2.2.2, yFP, zm106.2.2.1, zm106.2.2.2.1, zc106, 1, ys507.2.2.2.1, [], [])
theorem yw507 : ywf ys507.2.2.1 = true := by decide +kernel
theorem yk507 : yver yx507 ys507.2.2.1 4000 = true := by decide +kernel
theorem yt507 {E : zHp → Prop} (h : yEF E yFP) : yTs E 2 ys507 := yver_s (x := yx507) h (yal_c (yt506 h) (by decide) yw506 (yal_n)) yg106 yk507
def ys508 : ySp := (110, 3, (0, [], [], [], [(0, (2, yc 9, yc 0))], []), [(1, [(0, (-2147483648), 2147483647)], [], [], [], [(0, (1, 0, 0), yc 0)])], [])
def yx508 : yCx := ([ys503, ys507], ys508.2.2.2.2, yFP, zm110.2.2.1, zm110.2.2.2.1, zc110, 0, ys508.2.2.2.1, [(4, (2, [(0, (-2147483648), 2147483647), (1, 0, 6)], [], [], [(0, (2, yc 9, yc 0)), (1, (0, (1, 0, 0), yc 0)), (2, (0, (1, 1, 0), yc 0))], []), ([((-1), 1)], 7))], [])
theorem yw508 : ywf ys508.2.2.1 = true := by decide +kernel
theorem yk508 : yver yx508 ys508.2.2.1 4000 = true := by decide +kernel
theorem yt508 {E : zHp → Prop} (h : yEF E yFP) : yTs E 3 ys508 := yver_s (x := yx508) h (yal_c (yt503 h) (by decide) yw503 (yal_c (yt507 h) (by decide) yw507 (yal_n))) yg110 yk508
def ys509 : ySp := (82, 1, (0, [], [], [], [(0, (2, yc 9, yc 0))], []), [(1, [(0, (-2147483648), 2147483647)], [], [], [], [(0, (1, 0, 0), yc 0)])], [])
def yx509 : yCx := ([], ys509.2.2.2.2, yFP, zm82.2.2.1, zm82.2.2.2.1, zc82, 0, ys509.2.2.2.1, [], [])
theorem yw509 : ywf ys509.2.2.1 = true := by decide +kernel
theorem yk509 : yver yx509 ys509.2.2.1 4000 = true := by decide +kernel
theorem yt509 {E : zHp → Prop} (h : yEF E yFP) : yTs E 1 ys509 := yver_s (x := yx509) h (yal_n) yg82 yk509
def ys510 : ySp := (79, 1, (1, [(0, 0, 6)], [], [(yc 10, yc 2, (0, (1, 0, 0), yc 0))], [(0, (2, yc 9, yc 0))], []), [(1, [], [], [(yc 10, yc 2, (0, (1, 0, 0), yc 0))], [], [(0, (1, 0, 0), yc 0)])], [])
def yx510 : yCx := ([], ys510.2.2.2.2, yFP, zm79.2.2.1, zm79.2.2.2.1, zc79, 1, ys510.2.2.2.1, [], [])
theorem yw510 : ywf ys510.2.2.1 = true := by decide +kernel
theorem yk510 : yver yx510 ys510.2.2.1 4000 = true := by decide +kernel
theorem yt510 {E : zHp → Prop} (h : yEF E yFP) : yTs E 1 ys510 := yver_s (x := yx510) h (yal_n) yg79 yk510
def ys511 : ySp := (78, 1, (0, [], [], [], [(0, (2, yc 9, yc 0))], []), [(1, [(0, (-2147483648), 2147483647)], [], [], [], [(0, (1, 0, 0), yc 0)])], [])
def yx511 : yCx := ([], ys511.2.2.2.2, yFP, zm78.2.2.1, zm78.2.2.2.1, zc78, 0, ys511.2.2.2.1, [], [])
theorem yw511 : ywf ys511.2.2.1 = true := by decide +kernel
theorem yk511 : yver yx511 ys511.2.2.1 4000 = true := by decide +kernel
theorem yt511 {E : zHp → Prop} (h : yEF E yFP) : yTs E 1 ys511 := yver_s (x := yx511) h (yal_n) yg78 yk511
def ys512 : ySp := (77, 1, (1, [(0, 0, 6)], [], [(yc 10, yc 0, (0, (1, 0, 0), yc 0))], [(0, (2, yc 9, yc 0))], []), [(1, [], [], [(yc 10, yc 0, (0, (1, 0, 0), yc 0))], [], [(0, (1, 0, 0), yc 0)])], [])
def yx512 : yCx := ([], ys512.2.2.2.2, yFP, zm77.2.2.1, zm77.2.2.2.1, zc77, 1, ys512.2.2.2.1, [], [])
theorem yw512 : ywf ys512.2.2.1 = true := by decide +kernel
theorem yk512 : yver yx512 ys512.2.2.1 4000 = true := by decide +kernel
theorem yt512 {E : zHp → Prop} (h : yEF E yFP) : yTs E 1 ys512 := yver_s (x := yx512) h (yal_n) yg77 yk512
def ys513 : ySp := (154, 2, (1, [(0, (-2147483648), 2147483647)], [], [], [(0, (2, yc 0, yc 0)), (1, (0, (1, 0, 0), yc 0))], []), [(1, [], [], [], [], [(0, yc (-1), yc 0)]), (2, [(0, 0, 11), (1, (-2147483648), 2147483647)], [], [], [], [(0, (1, 1, 0), yc 0)])], [])
def yx513 : yCx := ([ys501, ys512, ys511, ys510, ys503, ys496, ys509, ys502, ys508], ys513.2.2.2.2, yFP, zm154.2.2.1, zm154.2.2.2.1, zc154, 1, ys513.2.2.2.1, [], [])
theorem yw513 : ywf ys513.2.2.1 = true := by decide +kernel
theorem yk513 : yver yx513 ys513.2.2.1 4000 = true := by decide +kernel
theorem yt513 {E : zHp → Prop} (h : yEF E yFP) : yTs E 4 ys513 := yver_s (x := yx513) h (yal_c (yt501 h) (by decide) yw501 (yal_c (yt512 h) (by decide) yw512 (yal_c (yt511 h) (by decide) yw511 (yal_c (yt510 h) (by decide) yw510 (yal_c (yt503 h) (by decide) yw503 (yal_c (yt496 h) (by decide) yw496 (yal_c (yt509 h) (by decide) yw509 (yal_c (yt502 h) (by decide) yw502 (yal_c (yt508 h) (by decide) yw508 (yal_n)))))))))) yg154 yk513
def ys515 : ySp := (215, 2, (1, [(0, 0, 5)], [], [], [(0, (2, yc 70, yc 0)), (1, (0, (1, 0, 0), yc 0))], []), [(1, [], [], [], [], [(0, yc 0, yc 0)]), (1, [], [], [], [], [(0, yc 1, yc 0)])], [])
def yx515 : yCx := ([], ys515.2.2.2.2, yFP, zm215.2.2.1, zm215.2.2.2.1, zc215, 1, ys515.2.2.2.1, [], [])
theorem yw515 : ywf ys515.2.2.1 = true := by decide +kernel
theorem yk515 : yver yx515 ys515.2.2.1 4000 = true := by decide +kernel
theorem yt515 {E : zHp → Prop} (h : yEF E yFP) : yTs E 1 ys515 := yver_s (x := yx515) h (yal_n) yg215 yk515
def ys516 : ySp := (277, 4, (1, [(0, 0, 63)], [], [], [(0, (2, yc 70, yc 0)), (1, (0, (1, 0, 0), yc 0))], []), [(1, [(0, 12, 63)], [], [], [], [(0, yc (-1), yc 0)]), (3, [(0, 0, 11), (1, (-2147483648), 2147483647), (2, 0, 400)], [], [(yc 70, yc 1, (0, (1, 2, 0), yc 0))], [], [(0, (1, 1, 0), yc 0)])], [])
def yx516 : yCx := ([ys515], ys516.2.2.2.2, yFP, zm277.2.2.1, zm277.2.2.2.1, zc277, 1, ys516.2.2.2.1, [(130, (3, [(0, 8, 8), (1, (-2147483648), 2147483647), (2, 0, 40)], [], [], [(0, (2, yc 70, yc 0)), (1, (0, yc 8, yc 0)), (2, (0, (1, 1, 0), yc 0)), (3, (0, (1, 2, 0), yc 0))], []), ([((-1), 2)], 41)), (92, (3, [(0, 7, 7), (1, (-2147483648), 2147483647), (2, 0, 6)], [], [], [(0, (2, yc 70, yc 0)), (1, (0, yc 7, yc 0)), (2, (0, (1, 1, 0), yc 0)), (3, (0, (1, 2, 0), yc 0))], []), ([((-1), 2)], 48))], [])
theorem yw516 : ywf ys516.2.2.1 = true := by decide +kernel
theorem yk516 : yver yx516 ys516.2.2.1 4000 = true := by decide +kernel
theorem yt516 {E : zHp → Prop} (h : yEF E yFP) : yTs E 2 ys516 := yver_s (x := yx516) h (yal_c (yt515 h) (by decide) yw515 (yal_n)) yg277 yk516
def ys517 : ySp := (277, 4, (1, [(0, (-2147483648), 2147483647)], [], [], [(0, (2, yc 70, yc 0)), (1, (0, (1, 0, 0), yc 0))], []), [(1, [], [], [], [], [(0, yc (-1), yc 0)]), (3, [(0, 0, 11), (1, (-2147483648), 2147483647), (2, 0, 400)], [], [(yc 70, yc 1, (0, (1, 2, 0), yc 0))], [], [(0, (1, 1, 0), yc 0)])], [])
def yx517 : yCx := ([ys515], ys517.2.2.2.2, yFP, zm277.2.2.1, zm277.2.2.2.1, zc277, 1, ys517.2.2.2.1, [(130, (3, [(0, 8, 8), (1, (-2147483648), 2147483647), (2, 0, 40)], [], [], [(0, (2, yc 70, yc 0)), (1, (0, yc 8, yc 0)), (2, (0, (1, 1, 0), yc 0)), (3, (0, (1, 2, 0), yc 0))], []), ([((-1), 2)], 41)), (92, (3, [(0, 7, 7), (1, (-2147483648), 2147483647), (2, 0, 6)], [], [], [(0, (2, yc 70, yc 0)), (1, (0, yc 7, yc 0)), (2, (0, (1, 1, 0), yc 0)), (3, (0, (1, 2, 0), yc 0))], []), ([((-1), 2)], 48))], [])
theorem yw517 : ywf ys517.2.2.1 = true := by decide +kernel
theorem yk517 : yver yx517 ys517.2.2.1 4000 = true := by decide +kernel
theorem yt517 {E : zHp → Prop} (h : yEF E yFP) : yTs E 2 ys517 := yver_s (x := yx517) h (yal_c (yt515 h) (by decide) yw515 (yal_n)) yg277 yk517
def ys518 : ySp := (76, 1, (0, [], [], [], [(0, (2, yc 9, yc 0))], []), [(0, [], [], [], [], [(0, yc 0, yc 0)]), (0, [], [], [], [], [(0, yc 1, yc 0)])], [])
def yx518 : yCx := ([ys512], ys518.2.2.2.2, yFP, zm76.2.2.1, zm76.2.2.2.1, zc76, 0, ys518.2.2.2.1, [], [])
theorem yw518 : ywf ys518.2.2.1 = true := by decide +kernel
theorem yk518 : yver yx518 ys518.2.2.1 4000 = true := by decide +kernel
theorem yt518 {E : zHp → Prop} (h : yEF E yFP) : yTs E 2 ys518 := yver_s (x := yx518) h (yal_c (yt512 h) (by decide) yw512 (yal_n)) yg76 yk518
def ys519 : ySp := (70, 2, (0, [], [], [], [(0, (2, yc 11, yc 0)), (1, (2, yc 9, yc 0))], []), [(0, [], [], [], [], [])], [(12, 12, 1000)])
def yx519 : yCx := ([], ys519.2.2.2.2, yFP, zm70.2.2.1, zm70.2.2.2.1, zc70, 0, ys519.2.2.2.1, [], [])
theorem yw519 : ywf ys519.2.2.1 = true := by decide +kernel
theorem yk519 : yver yx519 ys519.2.2.1 4000 = true := by decide +kernel
theorem yt519 {E : zHp → Prop} (h : yEF E yFP) : yTs E 1 ys519 := yver_s (x := yx519) h (yal_n) yg70 yk519
def ys520 : ySp := (79, 1, (1, [(0, 0, 6)], [], [(yc 12, yc 2, (0, (1, 0, 0), yc 0))], [(0, (2, yc 11, yc 0))], []), [(1, [], [], [(yc 12, yc 2, (0, (1, 0, 0), yc 0))], [], [(0, (1, 0, 0), yc 0)])], [])
def yx520 : yCx := ([], ys520.2.2.2.2, yFP, zm79.2.2.1, zm79.2.2.2.1, zc79, 1, ys520.2.2.2.1, [], [])
theorem yw520 : ywf ys520.2.2.1 = true := by decide +kernel
theorem yk520 : yver yx520 ys520.2.2.1 4000 = true := by decide +kernel
theorem yt520 {E : zHp → Prop} (h : yEF E yFP) : yTs E 1 ys520 := yver_s (x := yx520) h (yal_n) yg79 yk520
def ys521 : ySp := (11, 1, (0, [], [], [], [(0, (2, yc 43, yc 0))], []), [(1, [(0, 0, 2147483647)], [], [], [], [(0, (1, 0, 0), yc 0)])], [(43, 43, 0)])
def yx521 : yCx := ([], ys521.2.2.2.2, yFP, zm11.2.2.1, zm11.2.2.2.1, zc11, 0, ys521.2.2.2.1, [], [])
theorem yw521 : ywf ys521.2.2.1 = true := by decide +kernel
theorem yk521 : yver yx521 ys521.2.2.1 4000 = true := by decide +kernel
theorem yt521 {E : zHp → Prop} (h : yEF E yFP) : yTs E 1 ys521 := yver_s (x := yx521) h (yal_n) yg11 yk521
def ys522 : ySp := (77, 1, (0, [], [], [(yc 12, yc 0, (0, yc 6, yc 0))], [(0, (2, yc 11, yc 0))], []), [(0, [], [], [(yc 12, yc 0, (0, yc 6, yc 0))], [], [(0, yc 6, yc 0)])], [])
def yx522 : yCx := ([], ys522.2.2.2.2, yFP, zm77.2.2.1, zm77.2.2.2.1, zc77, 0, ys522.2.2.2.1, [], [])
theorem yw522 : ywf ys522.2.2.1 = true := by decide +kernel
theorem yk522 : yver yx522 ys522.2.2.1 4000 = true := by decide +kernel
theorem yt522 {E : zHp → Prop} (h : yEF E yFP) : yTs E 1 ys522 := yver_s (x := yx522) h (yal_n) yg77 yk522
def ys531 : ySp := (91, 2, (1, [(0, 0, 5)], [], [], [(0, (2, yc 11, yc 0)), (1, (0, (1, 0, 0), yc 0))], []), [(2, [(1, 0, 63)], [], [], [], [(0, (1, 1, 0), yc 0)])], [])
def yx531 : yCx := ([], ys531.2.2.2.2, yFP, zm91.2.2.1, zm91.2.2.2.1, zc91, 1, ys531.2.2.2.1, [], [])
theorem yw531 : ywf ys531.2.2.1 = true := by decide +kernel
theorem yk531 : yver yx531 ys531.2.2.1 4000 = true := by decide +kernel
theorem yt531 {E : zHp → Prop} (h : yEF E yFP) : yTs E 1 ys531 := yver_s (x := yx531) h (yal_n) yg91 yk531
def ys532 : ySp := (92, 3, (2, [(0, 0, 5), (1, 0, 5)], [], [], [(0, (2, yc 11, yc 0)), (1, (0, (1, 0, 0), yc 0)), (2, (0, (1, 1, 0), yc 0))], []), [(2, [], [], [], [], [(0, yc 0, yc 0)]), (2, [], [], [], [], [(0, yc 1, yc 0)])], [])
def yx532 : yCx := ([ys531], ys532.2.2.2.2, yFP, zm92.2.2.1, zm92.2.2.2.1, zc92, 2, ys532.2.2.2.1, [], [])
theorem yw532 : ywf ys532.2.2.1 = true := by decide +kernel
theorem yk532 : yver yx532 ys532.2.2.1 4000 = true := by decide +kernel
theorem yt532 {E : zHp → Prop} (h : yEF E yFP) : yTs E 2 ys532 := yver_s (x := yx532) h (yal_c (yt531 h) (by decide) yw531 (yal_n)) yg92 yk532
def ys534 : ySp := (94, 3, (2, [(0, 0, 5), (1, 0, 5)], [], [], [(0, (2, yc 11, yc 0)), (1, (0, (1, 0, 0), yc 0)), (2, (0, (1, 1, 0), yc 0))], []), [(3, [(2, (-2147483648), 2147483647)], [], [], [], [(0, (1, 2, 0), yc 0)])], [])
def yx534 : yCx := ([], ys534.2.2.2.2, yFP, zm94.2.2.1, zm94.2.2.2.1, zc94, 2, ys534.2.2.2.1, [], [])
theorem yw534 : ywf ys534.2.2.1 = true := by decide +kernel
theorem yk534 : yver yx534 ys534.2.2.1 4000 = true := by decide +kernel
theorem yt534 {E : zHp → Prop} (h : yEF E yFP) : yTs E 1 ys534 := yver_s (x := yx534) h (yal_n) yg94 yk534
def ys535 : ySp := (75, 4, (3, [(0, 0, 5), (1, 0, 5), (2, (-2147483648), 2147483647)], [], [], [(0, (2, yc 11, yc 0)), (1, (0, (1, 0, 0), yc 0)), (2, (0, (1, 1, 0), yc 0)), (3, (0, (1, 2, 0), yc 0))], []), [(3, [], [], [], [], [])], [(12, 12, 1000)])
def yx535 : yCx := ([], ys535.2.2.2.2, yFP, zm75.2.2.1, zm75.2.2.2.1, zc75, 3, ys535.2.2.2.1, [], [])
theorem yw535 : ywf ys535.2.2.1 = true := by decide +kernel
theorem yk535 : yver yx535 ys535.2.2.1 4000 = true := by decide +kernel
theorem yt535 {E : zHp → Prop} (h : yEF E yFP) : yTs E 1 ys535 := yver_s (x := yx535) h (yal_n) yg75 yk535
def ys539 : ySp := (77, 1, (0, [], [], [(yc 12, yc 0, (0, yc 5, yc 0))], [(0, (2, yc 11, yc 0))], []), [(0, [], [], [(yc 12, yc 0, (0, yc 5, yc 0))], [], [(0, yc 5, yc 0)])], [])
def yx539 : yCx := ([], ys539.2.2.2.2, yFP, zm77.2.2.1, zm77.2.2.2.1, zc77, 0, ys539.2.2.2.1, [], [])
theorem yw539 : ywf ys539.2.2.1 = true := by decide +kernel
theorem yk539 : yver yx539 ys539.2.2.1 4000 = true := by decide +kernel
theorem yt539 {E : zHp → Prop} (h : yEF E yFP) : yTs E 1 ys539 := yver_s (x := yx539) h (yal_n) yg77 yk539
def ys540 : ySp := (77, 1, (0, [], [], [(yc 12, yc 0, (0, yc 4, yc 0))], [(0, (2, yc 11, yc 0))], []), [(0, [], [], [(yc 12, yc 0, (0, yc 4, yc 0))], [], [(0, yc 4, yc 0)])], [])
def yx540 : yCx := ([], ys540.2.2.2.2, yFP, zm77.2.2.1, zm77.2.2.2.1, zc77, 0, ys540.2.2.2.1, [], [])
theorem yw540 : ywf ys540.2.2.1 = true := by decide +kernel
theorem yk540 : yver yx540 ys540.2.2.1 4000 = true := by decide +kernel
theorem yt540 {E : zHp → Prop} (h : yEF E yFP) : yTs E 1 ys540 := yver_s (x := yx540) h (yal_n) yg77 yk540
def ys541 : ySp := (77, 1, (0, [], [], [(yc 12, yc 0, (0, yc 3, yc 0))], [(0, (2, yc 11, yc 0))], []), [(0, [], [], [(yc 12, yc 0, (0, yc 3, yc 0))], [], [(0, yc 3, yc 0)])], [])
def yx541 : yCx := ([], ys541.2.2.2.2, yFP, zm77.2.2.1, zm77.2.2.2.1, zc77, 0, ys541.2.2.2.1, [], [])
theorem yw541 : ywf ys541.2.2.1 = true := by decide +kernel
theorem yk541 : yver yx541 ys541.2.2.1 4000 = true := by decide +kernel
theorem yt541 {E : zHp → Prop} (h : yEF E yFP) : yTs E 1 ys541 := yver_s (x := yx541) h (yal_n) yg77 yk541
def ys542 : ySp := (77, 1, (0, [], [], [(yc 12, yc 0, (0, yc 2, yc 0))], [(0, (2, yc 11, yc 0))], []), [(0, [], [], [(yc 12, yc 0, (0, yc 2, yc 0))], [], [(0, yc 2, yc 0)])], [])
def yx542 : yCx := ([], ys542.2.2.2.2, yFP, zm77.2.2.1, zm77.2.2.2.1, zc77, 0, ys542.2.2.2.1, [], [])
theorem yw542 : ywf ys542.2.2.1 = true := by decide +kernel
theorem yk542 : yver yx542 ys542.2.2.1 4000 = true := by decide +kernel
theorem yt542 {E : zHp → Prop} (h : yEF E yFP) : yTs E 1 ys542 := yver_s (x := yx542) h (yal_n) yg77 yk542
def ys543 : ySp := (77, 1, (0, [], [], [(yc 12, yc 0, (0, yc 1, yc 0))], [(0, (2, yc 11, yc 0))], []), [(0, [], [], [(yc 12, yc 0, (0, yc 1, yc 0))], [], [(0, yc 1, yc 0)])], [])
def yx543 : yCx := ([], ys543.2.2.2.2, yFP, zm77.2.2.1, zm77.2.2.2.1, zc77, 0, ys543.2.2.2.1, [], [])
theorem yw543 : ywf ys543.2.2.1 = true := by decide +kernel
theorem yk543 : yver yx543 ys543.2.2.1 4000 = true := by decide +kernel
theorem yt543 {E : zHp → Prop} (h : yEF E yFP) : yTs E 1 ys543 := yver_s (x := yx543) h (yal_n) yg77 yk543
def ys544 : ySp := (77, 1, (0, [], [], [(yc 12, yc 0, (0, yc 0, yc 0))], [(0, (2, yc 11, yc 0))], []), [(0, [], [], [(yc 12, yc 0, (0, yc 0, yc 0))], [], [(0, yc 0, yc 0)])], [])
def yx544 : yCx := ([], ys544.2.2.2.2, yFP, zm77.2.2.1, zm77.2.2.2.1, zc77, 0, ys544.2.2.2.1, [], [])
theorem yw544 : ywf ys544.2.2.1 = true := by decide +kernel
theorem yk544 : yver yx544 ys544.2.2.1 4000 = true := by decide +kernel
theorem yt544 {E : zHp → Prop} (h : yEF E yFP) : yTs E 1 ys544 := yver_s (x := yx544) h (yal_n) yg77 yk544
def ys545 : ySp := (87, 3, (1, [(0, 0, 5)], [], [], [(0, (2, yc 11, yc 0)), (1, (0, (1, 0, 0), yc 0)), (2, (0, yc 0, yc 0))], []), [(2, [(1, 0, 5)], [], [], [], [(0, (1, 1, 0), yc 0)])], [])
def yx545 : yCx := ([], ys545.2.2.2.2, yFP, zm87.2.2.1, zm87.2.2.2.1, zc87, 1, ys545.2.2.2.1, [], [])
theorem yw545 : ywf ys545.2.2.1 = true := by decide +kernel
theorem yk545 : yver yx545 ys545.2.2.1 4000 = true := by decide +kernel
theorem yt545 {E : zHp → Prop} (h : yEF E yFP) : yTs E 1 ys545 := yver_s (x := yx545) h (yal_n) yg87 yk545
def ys546 : ySp := (88, 4, (2, [(0, 0, 5), (1, 0, 5)], [], [], [(0, (2, yc 11, yc 0)), (1, (0, (1, 0, 0), yc 0)), (2, (0, yc 0, yc 0)), (3, (0, (1, 1, 0), yc 0))], []), [(2, [], [], [], [], [])], [(12, 12, 1000)])
def yx546 : yCx := ([], ys546.2.2.2.2, yFP, zm88.2.2.1, zm88.2.2.2.1, zc88, 2, ys546.2.2.2.1, [], [])
theorem yw546 : ywf ys546.2.2.1 = true := by decide +kernel
theorem yk546 : yver yx546 ys546.2.2.1 4000 = true := by decide +kernel
theorem yt546 {E : zHp → Prop} (h : yEF E yFP) : yTs E 1 ys546 := yver_s (x := yx546) h (yal_n) yg88 yk546
def ys547 : ySp := (88, 4, (2, [(0, 0, 5), (1, 0, 5)], [], [], [(0, (2, yc 11, yc 0)), (1, (0, (1, 0, 0), yc 0)), (2, (0, yc 3, yc 0)), (3, (0, (1, 1, 0), yc 0))], []), [(2, [], [], [], [], [])], [(12, 12, 1000)])
def yx547 : yCx := ([], ys547.2.2.2.2, yFP, zm88.2.2.1, zm88.2.2.2.1, zc88, 2, ys547.2.2.2.1, [], [])
theorem yw547 : ywf ys547.2.2.1 = true := by decide +kernel
theorem yk547 : yver yx547 ys547.2.2.1 4000 = true := by decide +kernel
theorem yt547 {E : zHp → Prop} (h : yEF E yFP) : yTs E 1 ys547 := yver_s (x := yx547) h (yal_n) yg88 yk547
def ys548 : ySp := (88, 4, (2, [(0, 0, 5), (1, 0, 1)], [], [], [(0, (2, yc 11, yc 0)), (1, (0, (1, 0, 0), yc 0)), (2, (0, yc 4, yc 0)), (3, (0, (1, 1, 0), yc 0))], []), [(2, [], [], [], [], [])], [(12, 12, 1000)])
def yx548 : yCx := ([], ys548.2.2.2.2, yFP, zm88.2.2.1, zm88.2.2.2.1, zc88, 2, ys548.2.2.2.1, [], [])
theorem yw548 : ywf ys548.2.2.1 = true := by decide +kernel
theorem yk548 : yver yx548 ys548.2.2.1 4000 = true := by decide +kernel
theorem yt548 {E : zHp → Prop} (h : yEF E yFP) : yTs E 1 ys548 := yver_s (x := yx548) h (yal_n) yg88 yk548
def ys549 : ySp := (88, 4, (2, [(0, 0, 5), (1, 0, 1)], [], [], [(0, (2, yc 11, yc 0)), (1, (0, (1, 0, 0), yc 0)), (2, (0, yc 5, yc 0)), (3, (0, (1, 1, 0), yc 0))], []), [(2, [], [], [], [], [])], [(12, 12, 1000)])
def yx549 : yCx := ([], ys549.2.2.2.2, yFP, zm88.2.2.1, zm88.2.2.2.1, zc88, 2, ys549.2.2.2.1, [], [])
theorem yw549 : ywf ys549.2.2.1 = true := by decide +kernel
theorem yk549 : yver yx549 ys549.2.2.1 4000 = true := by decide +kernel
theorem yt549 {E : zHp → Prop} (h : yEF E yFP) : yTs E 1 ys549 := yver_s (x := yx549) h (yal_n) yg88 yk549
def ys550 : ySp := (104, 3, (2, [(0, 0, 5), (1, 0, 5)], [], [], [(0, (2, yc 11, yc 0)), (1, (0, (1, 0, 0), yc 0)), (2, (0, (1, 1, 0), yc 0))], []), [(2, [], [], [], [], [])], [(12, 12, 1000)])
def yx550 : yCx := ([ys548, ys549, ys546, ys547], ys550.2.2.2.2, yFP, zm104.2.2.1, zm104.2.2.2.1, zc104, 2, ys550.2.2.2.1, [], [])
theorem yw550 : ywf ys550.2.2.1 = true := by decide +kernel
theorem yk550 : yver yx550 ys550.2.2.1 4000 = true := by decide +kernel
theorem yt550 {E : zHp → Prop} (h : yEF E yFP) : yTs E 2 ys550 := yver_s (x := yx550) h (yal_c (yt548 h) (by decide) yw548 (yal_c (yt549 h) (by decide) yw549 (yal_c (yt546 h) (by decide) yw546 (yal_c (yt547 h) (by decide) yw547 (yal_n))))) yg104 yk550
def ys551 : ySp := (103, 2, (1, [(0, 0, 5)], [], [], [(0, (2, yc 11, yc 0)), (1, (0, (1, 0, 0), yc 0))], []), [(1, [], [], [], [], [])], [(12, 12, 1000)])
def yx551 : yCx := ([ys545, ys550], ys551.2.2.2.2, yFP, zm103.2.2.1, zm103.2.2.2.1, zc103, 1, ys551.2.2.2.1, [], [])
theorem yw551 : ywf ys551.2.2.1 = true := by decide +kernel
theorem yk551 : yver yx551 ys551.2.2.1 4000 = true := by decide +kernel
theorem yt551 {E : zHp → Prop} (h : yEF E yFP) : yTs E 3 ys551 := yver_s (x := yx551) h (yal_c (yt545 h) (by decide) yw545 (yal_c (yt550 h) (by decide) yw550 (yal_n))) yg103 yk551
def ys552 : ySp := (87, 3, (1, [(0, 0, 5)], [], [], [(0, (2, yc 11, yc 0)), (1, (0, (1, 0, 0), yc 0)), (2, (0, yc 3, yc 0))], []), [(2, [(1, 0, 5)], [], [], [], [(0, (1, 1, 0), yc 0)])], [])
def yx552 : yCx := ([], ys552.2.2.2.2, yFP, zm87.2.2.1, zm87.2.2.2.1, zc87, 1, ys552.2.2.2.1, [], [])
theorem yw552 : ywf ys552.2.2.1 = true := by decide +kernel
theorem yk552 : yver yx552 ys552.2.2.1 4000 = true := by decide +kernel
theorem yt552 {E : zHp → Prop} (h : yEF E yFP) : yTs E 1 ys552 := yver_s (x := yx552) h (yal_n) yg87 yk552
def ys553 : ySp := (101, 3, (2, [(0, 0, 5), (1, 0, 5)], [], [], [(0, (2, yc 11, yc 0)), (1, (0, (1, 0, 0), yc 0)), (2, (0, (1, 1, 0), yc 0))], []), [(2, [], [], [], [], [(0, yc 0, yc 0)]), (2, [], [], [], [], [(0, yc 1, yc 0)])], [])
def yx553 : yCx := ([ys545, ys552, ys532], ys553.2.2.2.2, yFP, zm101.2.2.1, zm101.2.2.2.1, zc101, 2, ys553.2.2.2.1, [], [])
theorem yw553 : ywf ys553.2.2.1 = true := by decide +kernel
theorem yk553 : yver yx553 ys553.2.2.1 4000 = true := by decide +kernel
theorem yt553 {E : zHp → Prop} (h : yEF E yFP) : yTs E 3 ys553 := yver_s (x := yx553) h (yal_c (yt545 h) (by decide) yw545 (yal_c (yt552 h) (by decide) yw552 (yal_c (yt532 h) (by decide) yw532 (yal_n)))) yg101 yk553
def ys554 : ySp := (87, 3, (1, [(0, 0, 5)], [], [], [(0, (2, yc 11, yc 0)), (1, (0, (1, 0, 0), yc 0)), (2, (0, yc 4, yc 0))], []), [(2, [(1, (-2147483648), 2147483647)], [], [], [], [(0, (1, 1, 0), yc 0)])], [])
def yx554 : yCx := ([], ys554.2.2.2.2, yFP, zm87.2.2.1, zm87.2.2.2.1, zc87, 1, ys554.2.2.2.1, [], [])
theorem yw554 : ywf ys554.2.2.1 = true := by decide +kernel
theorem yk554 : yver yx554 ys554.2.2.1 4000 = true := by decide +kernel
theorem yt554 {E : zHp → Prop} (h : yEF E yFP) : yTs E 1 ys554 := yver_s (x := yx554) h (yal_n) yg87 yk554
def ys555 : ySp := (88, 4, (2, [(0, 0, 5), (1, (-2147483648), 2147483647)], [], [], [(0, (2, yc 11, yc 0)), (1, (0, (1, 0, 0), yc 0)), (2, (0, yc 4, yc 0)), (3, (0, (1, 1, 0), yc 0))], []), [(2, [], [], [], [], [])], [(12, 12, 1000)])
def yx555 : yCx := ([], ys555.2.2.2.2, yFP, zm88.2.2.1, zm88.2.2.2.1, zc88, 2, ys555.2.2.2.1, [], [])
theorem yw555 : ywf ys555.2.2.1 = true := by decide +kernel
theorem yk555 : yver yx555 ys555.2.2.1 4000 = true := by decide +kernel
theorem yt555 {E : zHp → Prop} (h : yEF E yFP) : yTs E 1 ys555 := yver_s (x := yx555) h (yal_n) yg88 yk555
def ys556 : ySp := (102, 4, (2, [(0, 0, 5), (1, 0, 5)], [], [], [(0, (2, yc 11, yc 0)), (1, (0, (1, 0, 0), yc 0)), (2, (0, (1, 1, 0), yc 0))], []), [(2, [], [], [], [], [])], [(12, 12, 1000)])
def yx556 : yCx := ([ys535, ys552, ys554, ys547, ys555, ys534], ys556.2.2.2.2, yFP, zm102.2.2.1, zm102.2.2.2.1, zc102, 2, ys556.2.2.2.1, [], [])
theorem yw556 : ywf ys556.2.2.1 = true := by decide +kernel
theorem yk556 : yver yx556 ys556.2.2.1 4000 = true := by decide +kernel
theorem yt556 {E : zHp → Prop} (h : yEF E yFP) : yTs E 2 ys556 := yver_s (x := yx556) h (yal_c (yt535 h) (by decide) yw535 (yal_c (yt552 h) (by decide) yw552 (yal_c (yt554 h) (by decide) yw554 (yal_c (yt547 h) (by decide) yw547 (yal_c (yt555 h) (by decide) yw555 (yal_c (yt534 h) (by decide) yw534 (yal_n))))))) yg102 yk556
def ys557 : ySp := (12, 5, (0, [], [], [], [(0, (2, yc 43, yc 0)), (1, (2, yc 11, yc 0))], []), [(1, [(0, (-2147483648), 2147483647)], [], [], [], [(0, (1, 0, 0), yc 0)])], [(12, 12, 1000), (43, 43, 0)])
def yx557 : yCx := ([ys521, ys522, ys539, ys540, ys541, ys542, ys543, ys544, ys520, ys553, ys556, ys551], ys557.2.2.2.2, yFP, zm12.2.2.1, zm12.2.2.2.1, zc12, 0, ys557.2.2.2.1, [(4, (2, [(0, (-2147483648), 2147483647), (1, 0, 6)], [], [], [(0, (2, yc 43, yc 0)), (1, (2, yc 11, yc 0)), (2, (0, (1, 0, 0), yc 0)), (3, (0, (1, 1, 0), yc 0))], []), ([((-1), 1)], 7))], [(12, 1, 12, 0)])
theorem yw557 : ywf ys557.2.2.1 = true := by decide +kernel
theorem yk557 : yver yx557 ys557.2.2.1 4000 = true := by decide +kernel
theorem yt557 {E : zHp → Prop} (h : yEF E yFP) : yTs E 4 ys557 := yver_s (x := yx557) h (yal_c (yt521 h) (by decide) yw521 (yal_c (yt522 h) (by decide) yw522 (yal_c (yt539 h) (by decide) yw539 (yal_c (yt540 h) (by decide) yw540 (yal_c (yt541 h) (by decide) yw541 (yal_c (yt542 h) (by decide) yw542 (yal_c (yt543 h) (by decide) yw543 (yal_c (yt544 h) (by decide) yw544 (yal_c (yt520 h) (by decide) yw520 (yal_c (yt553 h) (by decide) yw553 (yal_c (yt556 h) (by decide) yw556 (yal_c (yt551 h) (by decide) yw551 (yal_n))))))))))))) yg12 yk557
def ys558 : ySp := (80, 1, (1, [(0, 0, 6)], [], [(yc 12, yc 3, (0, (1, 0, 0), yc 0))], [(0, (2, yc 11, yc 0))], []), [(1, [], [], [(yc 12, yc 3, (0, (1, 0, 0), yc 0))], [], [(0, (1, 0, 0), yc 0)])], [])
def yx558 : yCx := ([], ys558.2.2.2.2, yFP, zm80.2.2.1, zm80.2.2.2.1, zc80, 1, ys558.2.2.2.1, [], [])
theorem yw558 : ywf ys558.2.2.1 = true := by decide +kernel
theorem yk558 : yver yx558 ys558.2.2.1 4000 = true := by decide +kernel
theorem yt558 {E : zHp → Prop} (h : yEF E yFP) : yTs E 1 ys558 := yver_s (x := yx558) h (yal_n) yg80 yk558
def ys567 : ySp := (78, 1, (0, [], [], [], [(0, (2, yc 11, yc 0))], []), [(1, [(0, (-2147483648), 2147483647)], [], [], [], [(0, (1, 0, 0), yc 0)])], [])
def yx567 : yCx := ([], ys567.2.2.2.2, yFP, zm78.2.2.1, zm78.2.2.2.1, zc78, 0, ys567.2.2.2.1, [], [])
theorem yw567 : ywf ys567.2.2.1 = true := by decide +kernel
theorem yk567 : yver yx567 ys567.2.2.1 4000 = true := by decide +kernel
theorem yt567 {E : zHp → Prop} (h : yEF E yFP) : yTs E 1 ys567 := yver_s (x := yx567) h (yal_n) yg78 yk567
def ys579 : ySp := (87, 3, (1, [(0, 0, 5)], [], [], [(0, (2, yc 11, yc 0)), (1, (0, (1, 0, 0), yc 0)), (2, (0, yc 1, yc 0))], []), [(2, [(1, (-2147483648), 2147483647)], [], [], [], [(0, (1, 1, 0), yc 0)])], [])
def yx579 : yCx := ([], ys579.2.2.2.2, yFP, zm87.2.2.1, zm87.2.2.2.1, zc87, 1, ys579.2.2.2.1, [], [])
theorem yw579 : ywf ys579.2.2.1 = true := by decide +kernel
theorem yk579 : yver yx579 ys579.2.2.1 4000 = true := by decide +kernel
theorem yt579 {E : zHp → Prop} (h : yEF E yFP) : yTs E 1 ys579 := yver_s (x := yx579) h (yal_n) yg87 yk579
def ys580 : ySp := (97, 2, (1, [(0, 0, 5)], [], [], [(0, (2, yc 11, yc 0)), (1, (0, (1, 0, 0), yc 0))], []), [(1, [], [], [], [], [(0, yc 0, yc 0)]), (1, [], [], [], [], [(0, yc 1, yc 0)])], [])
def yx580 : yCx := ([ys545, ys552], ys580.2.2.2.2, yFP, zm97.2.2.1, zm97.2.2.2.1, zc97, 1, ys580.2.2.2.1, [], [])
theorem yw580 : ywf ys580.2.2.1 = true := by decide +kernel
theorem yk580 : yver yx580 ys580.2.2.1 4000 = true := by decide +kernel
theorem yt580 {E : zHp → Prop} (h : yEF E yFP) : yTs E 2 ys580 := yver_s (x := yx580) h (yal_c (yt545 h) (by decide) yw545 (yal_c (yt552 h) (by decide) yw552 (yal_n))) yg97 yk580
