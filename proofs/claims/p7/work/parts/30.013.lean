def ys433 : ySp := (285, 2, (0, [], [], [], [(0, (0, yc 31, yc 0)), (1, (0, yc 66, yc 0))], []), [(0, [], [], [], [], [])], [])
def yx433 : yCx := ([ys432], ys433.2.2.2.2, yFP, zm285.2.2.1, zm285.2.2.2.1, zc285, 0, ys433.2.2.2.1, [], [])
theorem yw433 : ywf ys433.2.2.1 = true := by decide +kernel
theorem yk433 : yver yx433 ys433.2.2.1 4000 = true := by decide +kernel
theorem yt433 {E : zHp → Prop} (h : yEF E yFP) : yTs E 2 ys433 := yver_s (x := yx433) h (yal_c (yt432 h) (by decide) yw432 (yal_n)) yg285 yk433
def ys434 : ySp := (286, 2, (0, [], [], [], [(0, (2, yc 1023, yc 0)), (1, (0, yc 31, yc 0))], []), [(0, [], [], [], [], [(0, yc 115, yc 0)])], [])
def yx434 : yCx := ([ys433], ys434.2.2.2.2, yFP, zm286.2.2.1, zm286.2.2.2.1, zc286, 0, ys434.2.2.2.1, [], [])
theorem yw434 : ywf ys434.2.2.1 = true := by decide +kernel
theorem yk434 : yver yx434 ys434.2.2.1 4000 = true := by decide +kernel
theorem yt434 {E : zHp → Prop} (h : yEF E yFP) : yTs E 3 ys434 := yver_s (x := yx434) h (yal_c (yt433 h) (by decide) yw433 (yal_n)) yg286 yk434
def ys435 : ySp := (282, 2, (0, [], [], [], [(0, (2, yc 1004, yc 0)), (1, (0, yc 31, yc 0))], []), [(0, [], [], [], [], [(0, yc 115, yc 0)])], [])
def yx435 : yCx := ([ys307, ys434], ys435.2.2.2.2, yFP, zm282.2.2.1, zm282.2.2.2.1, zc282, 0, ys435.2.2.2.1, [], [])
theorem yw435 : ywf ys435.2.2.1 = true := by decide +kernel
theorem yk435 : yver yx435 ys435.2.2.1 4000 = true := by decide +kernel
theorem yt435 {E : zHp → Prop} (h : yEF E yFP) : yTs E 4 ys435 := yver_s (x := yx435) h (yal_c (yt307 h) (by decide) yw307 (yal_c (yt434 h) (by decide) yw434 (yal_n))) yg282 yk435
def ys436 : ySp := (293, 3, (0, [], [], [], [(0, (0, yc 32, yc 0)), (1, (0, yc 66, yc 0)), (2, (7, yc 0, yc 0))], []), [(0, [], [], [], [], [(0, yc 32, yc 0)])], [])
def yx436 : yCx := ([], ys436.2.2.2.2, yFP, zm293.2.2.1, zm293.2.2.2.1, zc293, 0, ys436.2.2.2.1, [], [])
theorem yw436 : ywf ys436.2.2.1 = true := by decide +kernel
theorem yk436 : yver yx436 ys436.2.2.1 4000 = true := by decide +kernel
theorem yt436 {E : zHp → Prop} (h : yEF E yFP) : yTs E 1 ys436 := yver_s (x := yx436) h (yal_n) yg293 yk436
def ys437 : ySp := (285, 2, (0, [], [], [], [(0, (0, yc 32, yc 0)), (1, (0, yc 66, yc 0))], []), [(0, [], [], [], [], [])], [])
def yx437 : yCx := ([ys436], ys437.2.2.2.2, yFP, zm285.2.2.1, zm285.2.2.2.1, zc285, 0, ys437.2.2.2.1, [], [])
theorem yw437 : ywf ys437.2.2.1 = true := by decide +kernel
theorem yk437 : yver yx437 ys437.2.2.1 4000 = true := by decide +kernel
theorem yt437 {E : zHp → Prop} (h : yEF E yFP) : yTs E 2 ys437 := yver_s (x := yx437) h (yal_c (yt436 h) (by decide) yw436 (yal_n)) yg285 yk437
def ys438 : ySp := (286, 2, (0, [], [], [], [(0, (2, yc 1023, yc 0)), (1, (0, yc 32, yc 0))], []), [(0, [], [], [], [], [(0, yc 104, yc 0)])], [])
def yx438 : yCx := ([ys437], ys438.2.2.2.2, yFP, zm286.2.2.1, zm286.2.2.2.1, zc286, 0, ys438.2.2.2.1, [], [])
theorem yw438 : ywf ys438.2.2.1 = true := by decide +kernel
theorem yk438 : yver yx438 ys438.2.2.1 4000 = true := by decide +kernel
theorem yt438 {E : zHp → Prop} (h : yEF E yFP) : yTs E 3 ys438 := yver_s (x := yx438) h (yal_c (yt437 h) (by decide) yw437 (yal_n)) yg286 yk438
def ys439 : ySp := (282, 2, (0, [], [], [], [(0, (2, yc 1004, yc 0)), (1, (0, yc 32, yc 0))], []), [(0, [], [], [], [], [(0, yc 104, yc 0)])], [])
def yx439 : yCx := ([ys307, ys438], ys439.2.2.2.2, yFP, zm282.2.2.1, zm282.2.2.2.1, zc282, 0, ys439.2.2.2.1, [], [])
theorem yw439 : ywf ys439.2.2.1 = true := by decide +kernel
theorem yk439 : yver yx439 ys439.2.2.1 4000 = true := by decide +kernel
theorem yt439 {E : zHp → Prop} (h : yEF E yFP) : yTs E 4 ys439 := yver_s (x := yx439) h (yal_c (yt307 h) (by decide) yw307 (yal_c (yt438 h) (by decide) yw438 (yal_n))) yg282 yk439
def ys440 : ySp := (293, 3, (0, [], [], [], [(0, (0, yc 33, yc 0)), (1, (0, yc 66, yc 0)), (2, (7, yc 0, yc 0))], []), [(0, [], [], [], [], [(0, yc 33, yc 0)])], [])
def yx440 : yCx := ([], ys440.2.2.2.2, yFP, zm293.2.2.1, zm293.2.2.2.1, zc293, 0, ys440.2.2.2.1, [], [])
theorem yw440 : ywf ys440.2.2.1 = true := by decide +kernel
theorem yk440 : yver yx440 ys440.2.2.1 4000 = true := by decide +kernel
theorem yt440 {E : zHp → Prop} (h : yEF E yFP) : yTs E 1 ys440 := yver_s (x := yx440) h (yal_n) yg293 yk440
def ys441 : ySp := (285, 2, (0, [], [], [], [(0, (0, yc 33, yc 0)), (1, (0, yc 66, yc 0))], []), [(0, [], [], [], [], [])], [])
def yx441 : yCx := ([ys440], ys441.2.2.2.2, yFP, zm285.2.2.1, zm285.2.2.2.1, zc285, 0, ys441.2.2.2.1, [], [])
theorem yw441 : ywf ys441.2.2.1 = true := by decide +kernel
theorem yk441 : yver yx441 ys441.2.2.1 4000 = true := by decide +kernel
theorem yt441 {E : zHp → Prop} (h : yEF E yFP) : yTs E 2 ys441 := yver_s (x := yx441) h (yal_c (yt440 h) (by decide) yw440 (yal_n)) yg285 yk441
def ys442 : ySp := (286, 2, (0, [], [], [], [(0, (2, yc 1023, yc 0)), (1, (0, yc 33, yc 0))], []), [(0, [], [], [], [], [(0, yc 97, yc 0)])], [])
def yx442 : yCx := ([ys441], ys442.2.2.2.2, yFP, zm286.2.2.1, zm286.2.2.2.1, zc286, 0, ys442.2.2.2.1, [], [])
theorem yw442 : ywf ys442.2.2.1 = true := by decide +kernel
theorem yk442 : yver yx442 ys442.2.2.1 4000 = true := by decide +kernel
theorem yt442 {E : zHp → Prop} (h : yEF E yFP) : yTs E 3 ys442 := yver_s (x := yx442) h (yal_c (yt441 h) (by decide) yw441 (yal_n)) yg286 yk442
def ys443 : ySp := (282, 2, (0, [], [], [], [(0, (2, yc 1004, yc 0)), (1, (0, yc 33, yc 0))], []), [(0, [], [], [], [], [(0, yc 97, yc 0)])], [])
def yx443 : yCx := ([ys307, ys442], ys443.2.2.2.2, yFP, zm282.2.2.1, zm282.2.2.2.1, zc282, 0, ys443.2.2.2.1, [], [])
theorem yw443 : ywf ys443.2.2.1 = true := by decide +kernel
theorem yk443 : yver yx443 ys443.2.2.1 4000 = true := by decide +kernel
theorem yt443 {E : zHp → Prop} (h : yEF E yFP) : yTs E 4 ys443 := yver_s (x := yx443) h (yal_c (yt307 h) (by decide) yw307 (yal_c (yt442 h) (by decide) yw442 (yal_n))) yg282 yk443
def ys444 : ySp := (293, 3, (0, [], [], [], [(0, (0, yc 34, yc 0)), (1, (0, yc 66, yc 0)), (2, (7, yc 0, yc 0))], []), [(0, [], [], [], [], [(0, yc 34, yc 0)])], [])
def yx444 : yCx := ([], ys444.2.2.2.2, yFP, zm293.2.2.1, zm293.2.2.2.1, zc293, 0, ys444.2.2.2.1, [], [])
theorem yw444 : ywf ys444.2.2.1 = true := by decide +kernel
theorem yk444 : yver yx444 ys444.2.2.1 4000 = true := by decide +kernel
theorem yt444 {E : zHp → Prop} (h : yEF E yFP) : yTs E 1 ys444 := yver_s (x := yx444) h (yal_n) yg293 yk444
def ys445 : ySp := (285, 2, (0, [], [], [], [(0, (0, yc 34, yc 0)), (1, (0, yc 66, yc 0))], []), [(0, [], [], [], [], [])], [])
def yx445 : yCx := ([ys444], ys445.2.2.2.2, yFP, zm285.2.2.1, zm285.2.2.2.1, zc285, 0, ys445.2.2.2.1, [], [])
theorem yw445 : ywf ys445.2.2.1 = true := by decide +kernel
theorem yk445 : yver yx445 ys445.2.2.1 4000 = true := by decide +kernel
theorem yt445 {E : zHp → Prop} (h : yEF E yFP) : yTs E 2 ys445 := yver_s (x := yx445) h (yal_c (yt444 h) (by decide) yw444 (yal_n)) yg285 yk445
def ys446 : ySp := (286, 2, (0, [], [], [], [(0, (2, yc 1023, yc 0)), (1, (0, yc 34, yc 0))], []), [(0, [], [], [], [], [(0, yc 114, yc 0)])], [])
def yx446 : yCx := ([ys445], ys446.2.2.2.2, yFP, zm286.2.2.1, zm286.2.2.2.1, zc286, 0, ys446.2.2.2.1, [], [])
theorem yw446 : ywf ys446.2.2.1 = true := by decide +kernel
theorem yk446 : yver yx446 ys446.2.2.1 4000 = true := by decide +kernel
theorem yt446 {E : zHp → Prop} (h : yEF E yFP) : yTs E 3 ys446 := yver_s (x := yx446) h (yal_c (yt445 h) (by decide) yw445 (yal_n)) yg286 yk446
def ys447 : ySp := (282, 2, (0, [], [], [], [(0, (2, yc 1004, yc 0)), (1, (0, yc 34, yc 0))], []), [(0, [], [], [], [], [(0, yc 114, yc 0)])], [])
def yx447 : yCx := ([ys307, ys446], ys447.2.2.2.2, yFP, zm282.2.2.1, zm282.2.2.2.1, zc282, 0, ys447.2.2.2.1, [], [])
theorem yw447 : ywf ys447.2.2.1 = true := by decide +kernel
theorem yk447 : yver yx447 ys447.2.2.1 4000 = true := by decide +kernel
theorem yt447 {E : zHp → Prop} (h : yEF E yFP) : yTs E 4 ys447 := yver_s (x := yx447) h (yal_c (yt307 h) (by decide) yw307 (yal_c (yt446 h) (by decide) yw446 (yal_n))) yg282 yk447
def ys448 : ySp := (293, 3, (0, [], [], [], [(0, (0, yc 35, yc 0)), (1, (0, yc 66, yc 0)), (2, (7, yc 0, yc 0))], []), [(0, [], [], [], [], [(0, yc 35, yc 0)])], [])
def yx448 : yCx := ([], ys448.2.2.2.2, yFP, zm293.2.2.1, zm293.2.2.2.1, zc293, 0, ys448.2.2.2.1, [], [])
theorem yw448 : ywf ys448.2.2.1 = true := by decide +kernel
theorem yk448 : yver yx448 ys448.2.2.1 4000 = true := by decide +kernel
theorem yt448 {E : zHp → Prop} (h : yEF E yFP) : yTs E 1 ys448 := yver_s (x := yx448) h (yal_n) yg293 yk448
def ys449 : ySp := (285, 2, (0, [], [], [], [(0, (0, yc 35, yc 0)), (1, (0, yc 66, yc 0))], []), [(0, [], [], [], [], [])], [])
def yx449 : yCx := ([ys448], ys449.2.2.2.2, yFP, zm285.2.2.1, zm285.2.2.2.1, zc285, 0, ys449.2.2.2.1, [], [])
theorem yw449 : ywf ys449.2.2.1 = true := by decide +kernel
theorem yk449 : yver yx449 ys449.2.2.1 4000 = true := by decide +kernel
theorem yt449 {E : zHp → Prop} (h : yEF E yFP) : yTs E 2 ys449 := yver_s (x := yx449) h (yal_c (yt448 h) (by decide) yw448 (yal_n)) yg285 yk449
def ys450 : ySp := (286, 2, (0, [], [], [], [(0, (2, yc 1023, yc 0)), (1, (0, yc 35, yc 0))], []), [(0, [], [], [], [], [(0, yc 112, yc 0)])], [])
def yx450 : yCx := ([ys449], ys450.2.2.2.2, yFP, zm286.2.2.1, zm286.2.2.2.1, zc286, 0, ys450.2.2.2.1, [], [])
theorem yw450 : ywf ys450.2.2.1 = true := by decide +kernel
theorem yk450 : yver yx450 ys450.2.2.1 4000 = true := by decide +kernel
theorem yt450 {E : zHp → Prop} (h : yEF E yFP) : yTs E 3 ys450 := yver_s (x := yx450) h (yal_c (yt449 h) (by decide) yw449 (yal_n)) yg286 yk450
def ys451 : ySp := (282, 2, (0, [], [], [], [(0, (2, yc 1004, yc 0)), (1, (0, yc 35, yc 0))], []), [(0, [], [], [], [], [(0, yc 112, yc 0)])], [])
def yx451 : yCx := ([ys307, ys450], ys451.2.2.2.2, yFP, zm282.2.2.1, zm282.2.2.2.1, zc282, 0, ys451.2.2.2.1, [], [])
theorem yw451 : ywf ys451.2.2.1 = true := by decide +kernel
theorem yk451 : yver yx451 ys451.2.2.1 4000 = true := by decide +kernel
theorem yt451 {E : zHp → Prop} (h : yEF E yFP) : yTs E 4 ys451 := yver_s (x := yx451) h (yal_c (yt307 h) (by decide) yw307 (yal_c (yt450 h) (by decide) yw450 (yal_n))) yg282 yk451
def ys452 : ySp := (293, 3, (0, [], [], [], [(0, (0, yc 36, yc 0)), (1, (0, yc 66, yc 0)), (2, (7, yc 0, yc 0))], []), [(0, [], [], [], [], [(0, yc 36, yc 0)])], [])
def yx452 : yCx := ([], ys452.2.2.2.2, yFP, zm293.2.2.1, zm293.2.2.2.1, zc293, 0, ys452.2.2.2.1, [], [])
theorem yw452 : ywf ys452.2.2.1 = true := by decide +kernel
theorem yk452 : yver yx452 ys452.2.2.1 4000 = true := by decide +kernel
theorem yt452 {E : zHp → Prop} (h : yEF E yFP) : yTs E 1 ys452 := yver_s (x := yx452) h (yal_n) yg293 yk452
def ys453 : ySp := (285, 2, (0, [], [], [], [(0, (0, yc 36, yc 0)), (1, (0, yc 66, yc 0))], []), [(0, [], [], [], [], [])], [])
def yx453 : yCx := ([ys452], ys453.2.2.2.2, yFP, zm285.2.2.1, zm285.2.2.2.1, zc285, 0, ys453.2.2.2.1, [], [])
theorem yw453 : ywf ys453.2.2.1 = true := by decide +kernel
theorem yk453 : yver yx453 ys453.2.2.1 4000 = true := by decide +kernel
theorem yt453 {E : zHp → Prop} (h : yEF E yFP) : yTs E 2 ys453 := yver_s (x := yx453) h (yal_c (yt452 h) (by decide) yw452 (yal_n)) yg285 yk453
def ys454 : ySp := (286, 2, (0, [], [], [], [(0, (2, yc 1023, yc 0)), (1, (0, yc 36, yc 0))], []), [(0, [], [], [], [], [(0, yc 32, yc 0)])], [])
def yx454 : yCx := ([ys453], ys454.2.2.2.2, yFP, zm286.2.2.1, zm286.2.2.2.1, zc286, 0, ys454.2.2.2.1, [], [])
theorem yw454 : ywf ys454.2.2.1 = true := by decide +kernel
theorem yk454 : yver yx454 ys454.2.2.1 4000 = true := by decide +kernel
theorem yt454 {E : zHp → Prop} (h : yEF E yFP) : yTs E 3 ys454 := yver_s (x := yx454) h (yal_c (yt453 h) (by decide) yw453 (yal_n)) yg286 yk454
def ys455 : ySp := (282, 2, (0, [], [], [], [(0, (2, yc 1004, yc 0)), (1, (0, yc 36, yc 0))], []), [(0, [], [], [], [], [(0, yc 32, yc 0)])], [])
def yx455 : yCx := ([ys307, ys454], ys455.2.2.2.2, yFP, zm282.2.2.1, zm282.2.2.2.1, zc282, 0, ys455.2.2.2.1, [], [])
theorem yw455 : ywf ys455.2.2.1 = true := by decide +kernel
theorem yk455 : yver yx455 ys455.2.2.1 4000 = true := by decide +kernel
theorem yt455 {E : zHp → Prop} (h : yEF E yFP) : yTs E 4 ys455 := yver_s (x := yx455) h (yal_c (yt307 h) (by decide) yw307 (yal_c (yt454 h) (by decide) yw454 (yal_n))) yg282 yk455
def ys456 : ySp := (293, 3, (0, [], [], [], [(0, (0, yc 37, yc 0)), (1, (0, yc 66, yc 0)), (2, (7, yc 0, yc 0))], []), [(0, [], [], [], [], [(0, yc 37, yc 0)])], [])
def yx456 : yCx := ([], ys456.2.2.2.2, yFP, zm293.2.2.1, zm293.2.2.2.1, zc293, 0, ys456.2.2.2.1, [], [])
theorem yw456 : ywf ys456.2.2.1 = true := by decide +kernel
theorem yk456 : yver yx456 ys456.2.2.1 4000 = true := by decide +kernel
theorem yt456 {E : zHp → Prop} (h : yEF E yFP) : yTs E 1 ys456 := yver_s (x := yx456) h (yal_n) yg293 yk456
def ys457 : ySp := (285, 2, (0, [], [], [], [(0, (0, yc 37, yc 0)), (1, (0, yc 66, yc 0))], []), [(0, [], [], [], [], [])], [])
def yx457 : yCx := ([ys456], ys457.2.2.2.2, yFP, zm285.2.2.1, zm285.2.2.2.1, zc285, 0, ys457.2.2.2.1, [], [])
theorem yw457 : ywf ys457.2.2.1 = true := by decide +kernel
theorem yk457 : yver yx457 ys457.2.2.1 4000 = true := by decide +kernel
theorem yt457 {E : zHp → Prop} (h : yEF E yFP) : yTs E 2 ys457 := yver_s (x := yx457) h (yal_c (yt456 h) (by decide) yw456 (yal_n)) yg285 yk457
def ys458 : ySp := (286, 2, (0, [], [], [], [(0, (2, yc 1023, yc 0)), (1, (0, yc 37, yc 0))], []), [(0, [], [], [], [], [(0, yc 111, yc 0)])], [])
def yx458 : yCx := ([ys457], ys458.2.2.2.2, yFP, zm286.2.2.1, zm286.2.2.2.1, zc286, 0, ys458.2.2.2.1, [], [])
theorem yw458 : ywf ys458.2.2.1 = true := by decide +kernel
theorem yk458 : yver yx458 ys458.2.2.1 4000 = true := by decide +kernel
theorem yt458 {E : zHp → Prop} (h : yEF E yFP) : yTs E 3 ys458 := yver_s (x := yx458) h (yal_c (yt457 h) (by decide) yw457 (yal_n)) yg286 yk458
def ys459 : ySp := (282, 2, (0, [], [], [], [(0, (2, yc 1004, yc 0)), (1, (0, yc 37, yc 0))], []), [(0, [], [], [], [], [(0, yc 111, yc 0)])], [])
def yx459 : yCx := ([ys307, ys458], ys459.2.2.2.2, yFP, zm282.2.2.1, zm282.2.2.2.1, zc282, 0, ys459.2.2.2.1, [], [])
theorem yw459 : ywf ys459.2.2.1 = true := by decide +kernel
theorem yk459 : yver yx459 ys459.2.2.1 4000 = true := by decide +kernel
theorem yt459 {E : zHp → Prop} (h : yEF E yFP) : yTs E 4 ys459 := yver_s (x := yx459) h (yal_c (yt307 h) (by decide) yw307 (yal_c (yt458 h) (by decide) yw458 (yal_n))) yg282 yk459
def ys460 : ySp := (293, 3, (0, [], [], [], [(0, (0, yc 38, yc 0)), (1, (0, yc 66, yc 0)), (2, (7, yc 0, yc 0))], []), [(0, [], [], [], [], [(0, yc 38, yc 0)])], [])
def yx460 : yCx := ([], ys460.2.2.2.2, yFP, zm293.2.2.1, zm293.2.2.2.1, zc293, 0, ys460.2.2.2.1, [], [])
theorem yw460 : ywf ys460.2.2.1 = true := by decide +kernel
theorem yk460 : yver yx460 ys460.2.2.1 4000 = true := by decide +kernel
theorem yt460 {E : zHp → Prop} (h : yEF E yFP) : yTs E 1 ys460 := yver_s (x := yx460) h (yal_n) yg293 yk460
def ys461 : ySp := (285, 2, (0, [], [], [], [(0, (0, yc 38, yc 0)), (1, (0, yc 66, yc 0))], []), [(0, [], [], [], [], [])], [])
def yx461 : yCx := ([ys460], ys461.2.2.2.2, yFP, zm285.2.2.1, zm285.2.2.2.1, zc285, 0, ys461.2.2.2.1, [], [])
theorem yw461 : ywf ys461.2.2.1 = true := by decide +kernel
theorem yk461 : yver yx461 ys461.2.2.1 4000 = true := by decide +kernel
theorem yt461 {E : zHp → Prop} (h : yEF E yFP) : yTs E 2 ys461 := yver_s (x := yx461) h (yal_c (yt460 h) (by decide) yw460 (yal_n)) yg285 yk461
def ys462 : ySp := (286, 2, (0, [], [], [], [(0, (2, yc 1023, yc 0)), (1, (0, yc 38, yc 0))], []), [(0, [], [], [], [], [(0, yc 117, yc 0)])], [])
def yx462 : yCx := ([ys461], ys462.2.2.2.2, yFP, zm286.2.2.1, zm286.2.2.2.1, zc286, 0, ys462.2.2.2.1, [], [])
theorem yw462 : ywf ys462.2.2.1 = true := by decide +kernel
theorem yk462 : yver yx462 ys462.2.2.1 4000 = true := by decide +kernel
theorem yt462 {E : zHp → Prop} (h : yEF E yFP) : yTs E 3 ys462 := yver_s (x := yx462) h (yal_c (yt461 h) (by decide) yw461 (yal_n)) yg286 yk462
def ys463 : ySp := (282, 2, (0, [], [], [], [(0, (2, yc 1004, yc 0)), (1, (0, yc 38, yc 0))], []), [(0, [], [], [], [], [(0, yc 117, yc 0)])], [])
def yx463 : yCx := ([ys307, ys462], ys463.2.2.2.2, yFP, zm282.2.2.1, zm282.2.2.2.1, zc282, 0, ys463.2.2.2.1, [], [])
theorem yw463 : ywf ys463.2.2.1 = true := by decide +kernel
theorem yk463 : yver yx463 ys463.2.2.1 4000 = true := by decide +kernel
theorem yt463 {E : zHp → Prop} (h : yEF E yFP) : yTs E 4 ys463 := yver_s (x := yx463) h (yal_c (yt307 h) (by decide) yw307 (yal_c (yt462 h) (by decide) yw462 (yal_n))) yg282 yk463
def ys464 : ySp := (293, 3, (0, [], [], [], [(0, (0, yc 39, yc 0)), (1, (0, yc 66, yc 0)), (2, (7, yc 0, yc 0))], []), [(0, [], [], [], [], [(0, yc 39, yc 0)])], [])
def yx464 : yCx := ([], ys464.2.2.2.2, yFP, zm293.2.2.1, zm293.2.2.2.1, zc293, 0, ys464.2.2.2.1, [], [])
theorem yw464 : ywf ys464.2.2.1 = true := by decide +kernel
theorem yk464 : yver yx464 ys464.2.2.1 4000 = true := by decide +kernel
theorem yt464 {E : zHp → Prop} (h : yEF E yFP) : yTs E 1 ys464 := yver_s (x := yx464) h (yal_n) yg293 yk464
def ys465 : ySp := (285, 2, (0, [], [], [], [(0, (0, yc 39, yc 0)), (1, (0, yc 66, yc 0))], []), [(0, [], [], [], [], [])], [])
def yx465 : yCx := ([ys464], ys465.2.2.2.2, yFP, zm285.2.2.1, zm285.2.2.2.1, zc285, 0, ys465.2.2.2.1, [], [])
theorem yw465 : ywf ys465.2.2.1 = true := by decide +kernel
theorem yk465 : yver yx465 ys465.2.2.1 4000 = true := by decide +kernel
theorem yt465 {E : zHp → Prop} (h : yEF E yFP) : yTs E 2 ys465 := yver_s (x := yx465) h (yal_c (yt464 h) (by decide) yw464 (yal_n)) yg285 yk465
def ys466 : ySp := (286, 2, (0, [], [], [], [(0, (2, yc 1023, yc 0)), (1, (0, yc 39, yc 0))], []), [(0, [], [], [], [], [(0, yc 116, yc 0)])], [])
def yx466 : yCx := ([ys465], ys466.2.2.2.2, yFP, zm286.2.2.1, zm286.2.2.2.1, zc286, 0, ys466.2.2.2.1, [], [])
theorem yw466 : ywf ys466.2.2.1 = true := by decide +kernel
theorem yk466 : yver yx466 ys466.2.2.1 4000 = true := by decide +kernel
theorem yt466 {E : zHp → Prop} (h : yEF E yFP) : yTs E 3 ys466 := yver_s (x := yx466) h (yal_c (yt465 h) (by decide) yw465 (yal_n)) yg286 yk466
def ys467 : ySp := (282, 2, (0, [], [], [], [(0, (2, yc 1004, yc 0)), (1, (0, yc 39, yc 0))], []), [(0, [], [], [], [], [(0, yc 116, yc 0)])], [])
def yx467 : yCx := ([ys307, ys466], ys467.2.2.2.2, yFP, zm282.2.2.1, zm282.2.2.2.1, zc282, 0, ys467.2.2.2.1, [], [])
theorem yw467 : ywf ys467.2.2.1 = true := by decide +kernel
theorem yk467 : yver yx467 ys467.2.2.1 4000 = true := by decide +kernel
theorem yt467 {E : zHp → Prop} (h : yEF E yFP) : yTs E 4 ys467 := yver_s (x := yx467) h (yal_c (yt307 h) (by decide) yw307 (yal_c (yt466 h) (by decide) yw466 (yal_n))) yg282 yk467
def ys468 : ySp := (293, 3, (0, [], [], [], [(0, (0, yc 40, yc 0)), (1, (0, yc 66, yc 0)), (2, (7, yc 0, yc 0))], []), [(0, [], [], [], [], [(0, yc 40, yc 0)])], [])
def yx468 : yCx := ([], ys468.2.2.2.2, yFP, zm293.2.2.1, zm293.2.2.2.1, zc293, 0, ys468.2.2.2.1, [], [])
theorem yw468 : ywf ys468.2.2.1 = true := by decide +kernel
theorem yk468 : yver yx468 ys468.2.2.1 4000 = true := by decide +kernel
theorem yt468 {E : zHp → Prop} (h : yEF E yFP) : yTs E 1 ys468 := yver_s (x := yx468) h (yal_n) yg293 yk468
def ys469 : ySp := (285, 2, (0, [], [], [], [(0, (0, yc 40, yc 0)), (1, (0, yc 66, yc 0))], []), [(0, [], [], [], [], [])], [])
def yx469 : yCx := ([ys468], ys469.2.2.2.2, yFP, zm285.2.2.1, zm285.2.2.2.1, zc285, 0, ys469.2.2.2.1, [], [])
theorem yw469 : ywf ys469.2.2.1 = true := by decide +kernel
theorem yk469 : yver yx469 ys469.2.2.1 4000 = true := by decide +kernel
theorem yt469 {E : zHp → Prop} (h : yEF E yFP) : yTs E 2 ys469 := yver_s (x := yx469) h (yal_c (yt468 h) (by decide) yw468 (yal_n)) yg285 yk469
def ys470 : ySp := (286, 2, (0, [], [], [], [(0, (2, yc 1023, yc 0)), (1, (0, yc 40, yc 0))], []), [(0, [], [], [], [], [(0, yc 32, yc 0)])], [])
def yx470 : yCx := ([ys469], ys470.2.2.2.2, yFP, zm286.2.2.1, zm286.2.2.2.1, zc286, 0, ys470.2.2.2.1, [], [])
theorem yw470 : ywf ys470.2.2.1 = true := by decide +kernel
theorem yk470 : yver yx470 ys470.2.2.1 4000 = true := by decide +kernel
theorem yt470 {E : zHp → Prop} (h : yEF E yFP) : yTs E 3 ys470 := yver_s (x := yx470) h (yal_c (yt469 h) (by decide) yw469 (yal_n)) yg286 yk470
def ys471 : ySp := (282, 2, (0, [], [], [], [(0, (2, yc 1004, yc 0)), (1, (0, yc 40, yc 0))], []), [(0, [], [], [], [], [(0, yc 32, yc 0)])], [])
def yx471 : yCx := ([ys307, ys470], ys471.2.2.2.2, yFP, zm282.2.2.1, zm282.2.2.2.1, zc282, 0, ys471.2.2.2.1, [], [])
theorem yw471 : ywf ys471.2.2.1 = true := by decide +kernel
theorem yk471 : yver yx471 ys471.2.2.1 4000 = true := by decide +kernel
theorem yt471 {E : zHp → Prop} (h : yEF E yFP) : yTs E 4 ys471 := yver_s (x := yx471) h (yal_c (yt307 h) (by decide) yw307 (yal_c (yt470 h) (by decide) yw470 (yal_n))) yg282 yk471
def ys472 : ySp := (293, 3, (0, [], [], [], [(0, (0, yc 41, yc 0)), (1, (0, yc 66, yc 0)), (2, (7, yc 0, yc 0))], []), [(0, [], [], [], [], [(0, yc 41, yc 0)])], [])
def yx472 : yCx := ([], ys472.2.2.2.2, yFP, zm293.2.2.1, zm293.2.2.2.1, zc293, 0, ys472.2.2.2.1, [], [])
theorem yw472 : ywf ys472.2.2.1 = true := by decide +kernel
theorem yk472 : yver yx472 ys472.2.2.1 4000 = true := by decide +kernel
theorem yt472 {E : zHp → Prop} (h : yEF E yFP) : yTs E 1 ys472 := yver_s (x := yx472) h (yal_n) yg293 yk472
def ys473 : ySp := (285, 2, (0, [], [], [], [(0, (0, yc 41, yc 0)), (1, (0, yc 66, yc 0))], []), [(0, [], [], [], [], [])], [])
def yx473 : yCx := ([ys472], ys473.2.2.2.2, yFP, zm285.2.2.1, zm285.2.2.2.1, zc285, 0, ys473.2.2.2.1, [], [])
theorem yw473 : ywf ys473.2.2.1 = true := by decide +kernel
theorem yk473 : yver yx473 ys473.2.2.1 4000 = true := by decide +kernel
theorem yt473 {E : zHp → Prop} (h : yEF E yFP) : yTs E 2 ys473 := yver_s (x := yx473) h (yal_c (yt472 h) (by decide) yw472 (yal_n)) yg285 yk473
def ys474 : ySp := (286, 2, (0, [], [], [], [(0, (2, yc 1023, yc 0)), (1, (0, yc 41, yc 0))], []), [(0, [], [], [], [], [(0, yc 100, yc 0)])], [])
def yx474 : yCx := ([ys473], ys474.2.2.2.2, yFP, zm286.2.2.1, zm286.2.2.2.1, zc286, 0, ys474.2.2.2.1, [], [])
theorem yw474 : ywf ys474.2.2.1 = true := by decide +kernel
theorem yk474 : yver yx474 ys474.2.2.1 4000 = true := by decide +kernel
theorem yt474 {E : zHp → Prop} (h : yEF E yFP) : yTs E 3 ys474 := yver_s (x := yx474) h (yal_c (yt473 h) (by decide) yw473 (yal_n)) yg286 yk474
def ys475 : ySp := (282, 2, (0, [], [], [], [(0, (2, yc 1004, yc 0)), (1, (0, yc 41, yc 0))], []), [(0, [], [], [], [], [(0, yc 100, yc 0)])], [])
def yx475 : yCx := ([ys307, ys474], ys475.2.2.2.2, yFP, zm282.2.2.1, zm282.2.2.2.1, zc282, 0, ys475.2.2.2.1, [], [])
theorem yw475 : ywf ys475.2.2.1 = true := by decide +kernel
theorem yk475 : yver yx475 ys475.2.2.1 4000 = true := by decide +kernel
theorem yt475 {E : zHp → Prop} (h : yEF E yFP) : yTs E 4 ys475 := yver_s (x := yx475) h (yal_c (yt307 h) (by decide) yw307 (yal_c (yt474 h) (by decide) yw474 (yal_n))) yg282 yk475
def ys476 : ySp := (293, 3, (0, [], [], [], [(0, (0, yc 42, yc 0)), (1, (0, yc 66, yc 0)), (2, (7, yc 0, yc 0))], []), [(0, [], [], [], [], [(0, yc 42, yc 0)])], [])
def yx476 : yCx := ([], ys476.2.2.2.2, yFP, zm293.2.2.1, zm293.2.2.2.1, zc293, 0, ys476.2.2.2.1, [], [])
theorem yw476 : ywf ys476.2.2.1 = true := by decide +kernel
theorem yk476 : yver yx476 ys476.2.2.1 4000 = true := by decide +kernel
theorem yt476 {E : zHp → Prop} (h : yEF E yFP) : yTs E 1 ys476 := yver_s (x := yx476) h (yal_n) yg293 yk476
def ys477 : ySp := (285, 2, (0, [], [], [], [(0, (0, yc 42, yc 0)), (1, (0, yc 66, yc 0))], []), [(0, [], [], [], [], [])], [])
def yx477 : yCx := ([ys476], ys477.2.2.2.2, yFP, zm285.2.2.1, zm285.2.2.2.1, zc285, 0, ys477.2.2.2.1, [], [])
theorem yw477 : ywf ys477.2.2.1 = true := by decide +kernel
theorem yk477 : yver yx477 ys477.2.2.1 4000 = true := by decide +kernel
theorem yt477 {E : zHp → Prop} (h : yEF E yFP) : yTs E 2 ys477 := yver_s (x := yx477) h (yal_c (yt476 h) (by decide) yw476 (yal_n)) yg285 yk477
def ys478 : ySp := (286, 2, (0, [], [], [], [(0, (2, yc 1023, yc 0)), (1, (0, yc 42, yc 0))], []), [(0, [], [], [], [], [(0, yc 97, yc 0)])], [])
def yx478 : yCx := ([ys477], ys478.2.2.2.2, yFP, zm286.2.2.1, zm286.2.2.2.1, zc286, 0, ys478.2.2.2.1, [], [])
theorem yw478 : ywf ys478.2.2.1 = true := by decide +kernel
theorem yk478 : yver yx478 ys478.2.2.1 4000 = true := by decide +kernel
theorem yt478 {E : zHp → Prop} (h : yEF E yFP) : yTs E 3 ys478 := yver_s (x := yx478) h (yal_c (yt477 h) (by decide) yw477 (yal_n)) yg286 yk478
def ys479 : ySp := (282, 2, (0, [], [], [], [(0, (2, yc 1004, yc 0)), (1, (0, yc 42, yc 0))], []), [(0, [], [], [], [], [(0, yc 97, yc 0)])], [])
def yx479 : yCx := ([ys307, ys478], ys479.2.2.2.2, yFP, zm282.2.2.1, zm282.2.2.2.1, zc282, 0, ys479.2.2.2.1, [], [])
theorem yw479 : ywf ys479.2.2.1 = true := by decide +kernel
theorem yk479 : yver yx479 ys479.2.2.1 4000 = true := by decide +kernel
theorem yt479 {E : zHp → Prop} (h : yEF E yFP) : yTs E 4 ys479 := yver_s (x := yx479) h (yal_c (yt307 h) (by decide) yw307 (yal_c (yt478 h) (by decide) yw478 (yal_n))) yg282 yk479
def ys480 : ySp := (293, 3, (0, [], [], [], [(0, (0, yc 43, yc 0)), (1, (0, yc 66, yc 0)), (2, (7, yc 0, yc 0))], []), [(0, [], [], [], [], [(0, yc 43, yc 0)])], [])
def yx480 : yCx := ([], ys480.2.2.2.2, yFP, zm293.2.2.1, zm293.2.2.2.1, zc293, 0, ys480.2.2.2.1, [], [])
theorem yw480 : ywf ys480.2.2.1 = true := by decide +kernel
theorem yk480 : yver yx480 ys480.2.2.1 4000 = true := by decide +kernel
theorem yt480 {E : zHp → Prop} (h : yEF E yFP) : yTs E 1 ys480 := yver_s (x := yx480) h (yal_n) yg293 yk480
def ys481 : ySp := (285, 2, (0, [], [], [], [(0, (0, yc 43, yc 0)), (1, (0, yc 66, yc 0))], []), [(0, [], [], [], [], [])], [])
def yx481 : yCx := ([ys480], ys481.2.2.2.2, yFP, zm285.2.2.1, zm285.2.2.2.1, zc285, 0, ys481.2.2.2.1, [], [])
theorem yw481 : ywf ys481.2.2.1 = true := by decide +kernel
theorem yk481 : yver yx481 ys481.2.2.1 4000 = true := by decide +kernel
theorem yt481 {E : zHp → Prop} (h : yEF E yFP) : yTs E 2 ys481 := yver_s (x := yx481) h (yal_c (yt480 h) (by decide) yw480 (yal_n)) yg285 yk481
def ys482 : ySp := (286, 2, (0, [], [], [], [(0, (2, yc 1023, yc 0)), (1, (0, yc 43, yc 0))], []), [(0, [], [], [], [], [(0, yc 121, yc 0)])], [])
def yx482 : yCx := ([ys481], ys482.2.2.2.2, yFP, zm286.2.2.1, zm286.2.2.2.1, zc286, 0, ys482.2.2.2.1, [], [])
theorem yw482 : ywf ys482.2.2.1 = true := by decide +kernel
theorem yk482 : yver yx482 ys482.2.2.1 4000 = true := by decide +kernel
theorem yt482 {E : zHp → Prop} (h : yEF E yFP) : yTs E 3 ys482 := yver_s (x := yx482) h (yal_c (yt481 h) (by decide) yw481 (yal_n)) yg286 yk482
def ys483 : ySp := (282, 2, (0, [], [], [], [(0, (2, yc 1004, yc 0)), (1, (0, yc 43, yc 0))], []), [(0, [], [], [], [], [(0, yc 121, yc 0)])], [])
def yx483 : yCx := ([ys307, ys482], ys483.2.2.2.2, yFP, zm282.2.2.1, zm282.2.2.2.1, zc282, 0, ys483.2.2.2.1, [], [])
theorem yw483 : ywf ys483.2.2.1 = true := by decide +kernel
theorem yk483 : yver yx483 ys483.2.2.1 4000 = true := by decide +kernel
theorem yt483 {E : zHp → Prop} (h : yEF E yFP) : yTs E 4 ys483 := yver_s (x := yx483) h (yal_c (yt307 h) (by decide) yw307 (yal_c (yt482 h) (by decide) yw482 (yal_n))) yg282 yk483
def ys484 : ySp := (293, 3, (0, [], [], [], [(0, (0, yc 44, yc 0)), (1, (0, yc 66, yc 0)), (2, (7, yc 0, yc 0))], []), [(0, [], [], [], [], [(0, yc 44, yc 0)])], [])
def yx484 : yCx := ([], ys484.2.2.2.2, yFP, zm293.2.2.1, zm293.2.2.2.1, zc293, 0, ys484.2.2.2.1, [], [])
theorem yw484 : ywf ys484.2.2.1 = true := by decide +kernel
theorem yk484 : yver yx484 ys484.2.2.1 4000 = true := by decide +kernel
theorem yt484 {E : zHp → Prop} (h : yEF E yFP) : yTs E 1 ys484 := yver_s (x := yx484) h (yal_n) yg293 yk484
def ys485 : ySp := (285, 2, (0, [], [], [], [(0, (0, yc 44, yc 0)), (1, (0, yc 66, yc 0))], []), [(0, [], [], [], [], [])], [])
def yx485 : yCx := ([ys484], ys485.2.2.2.2, yFP, zm285.2.2.1, zm285.2.2.2.1, zc285, 0, ys485.2.2.2.1, [], [])
theorem yw485 : ywf ys485.2.2.1 = true := by decide +kernel
theorem yk485 : yver yx485 ys485.2.2.1 4000 = true := by decide +kernel
theorem yt485 {E : zHp → Prop} (h : yEF E yFP) : yTs E 2 ys485 := yver_s (x := yx485) h (yal_c (yt484 h) (by decide) yw484 (yal_n)) yg285 yk485
def ys486 : ySp := (286, 2, (0, [], [], [], [(0, (2, yc 1023, yc 0)), (1, (0, yc 44, yc 0))], []), [(0, [], [], [], [], [(0, yc 32, yc 0)])], [])
def yx486 : yCx := ([ys485], ys486.2.2.2.2, yFP, zm286.2.2.1, zm286.2.2.2.1, zc286, 0, ys486.2.2.2.1, [], [])
theorem yw486 : ywf ys486.2.2.1 = true := by decide +kernel
theorem yk486 : yver yx486 ys486.2.2.1 4000 = true := by decide +kernel
theorem yt486 {E : zHp → Prop} (h : yEF E yFP) : yTs E 3 ys486 := yver_s (x := yx486) h (yal_c (yt485 h) (by decide) yw485 (yal_n)) yg286 yk486
def ys487 : ySp := (282, 2, (0, [], [], [], [(0, (2, yc 1004, yc 0)), (1, (0, yc 44, yc 0))], []), [(0, [], [], [], [], [(0, yc 32, yc 0)])], [])
def yx487 : yCx := ([ys307, ys486], ys487.2.2.2.2, yFP, zm282.2.2.1, zm282.2.2.2.1, zc282, 0, ys487.2.2.2.1, [], [])
theorem yw487 : ywf ys487.2.2.1 = true := by decide +kernel
theorem yk487 : yver yx487 ys487.2.2.1 4000 = true := by decide +kernel
theorem yt487 {E : zHp → Prop} (h : yEF E yFP) : yTs E 4 ys487 := yver_s (x := yx487) h (yal_c (yt307 h) (by decide) yw307 (yal_c (yt486 h) (by decide) yw486 (yal_n))) yg282 yk487
def ys488 : ySp := (293, 3, (0, [], [], [], [(0, (0, yc 45, yc 0)), (1, (0, yc 66, yc 0)), (2, (7, yc 0, yc 0))], []), [(0, [], [], [], [], [(0, yc 45, yc 0)])], [])
def yx488 : yCx := ([], ys488.2.2.2.2, yFP, zm293.2.2.1, zm293.2.2.2.1, zc293, 0, ys488.2.2.2.1, [], [])
theorem yw488 : ywf ys488.2.2.1 = true := by decide +kernel
theorem yk488 : yver yx488 ys488.2.2.1 4000 = true := by decide +kernel
theorem yt488 {E : zHp → Prop} (h : yEF E yFP) : yTs E 1 ys488 := yver_s (x := yx488) h (yal_n) yg293 yk488
def ys489 : ySp := (285, 2, (0, [], [], [], [(0, (0, yc 45, yc 0)), (1, (0, yc 66, yc 0))], []), [(0, [], [], [], [], [])], [])
def yx489 : yCx := ([ys488], ys489.2.2.2.2, yFP, zm285.2.2.1, zm285.2.2.2.1, zc285, 0, ys489.2.2.2.1, [], [])
theorem yw489 : ywf ys489.2.2.1 = true := by decide +kernel
theorem yk489 : yver yx489 ys489.2.2.1 4000 = true := by decide +kernel
theorem yt489 {E : zHp → Prop} (h : yEF E yFP) : yTs E 2 ys489 := yver_s (x := yx489) h (yal_c (yt488 h) (by decide) yw488 (yal_n)) yg285 yk489
def ys490 : ySp := (286, 2, (0, [], [], [], [(0, (2, yc 1023, yc 0)), (1, (0, yc 45, yc 0))], []), [(0, [], [], [], [], [(0, yc 110, yc 0)])], [])
def yx490 : yCx := ([ys489], ys490.2.2.2.2, yFP, zm286.2.2.1, zm286.2.2.2.1, zc286, 0, ys490.2.2.2.1, [], [])
theorem yw490 : ywf ys490.2.2.1 = true := by decide +kernel
theorem yk490 : yver yx490 ys490.2.2.1 4000 = true := by decide +kernel
theorem yt490 {E : zHp → Prop} (h : yEF E yFP) : yTs E 3 ys490 := yver_s (x := yx490) h (yal_c (yt489 h) (by decide) yw489 (yal_n)) yg286 yk490
def ys491 : ySp := (282, 2, (0, [], [], [], [(0, (2, yc 1004, yc 0)), (1, (0, yc 45, yc 0))], []), [(0, [], [], [], [], [(0, yc 110, yc 0)])], [])
def yx491 : yCx := ([ys307, ys490], ys491.2.2.2.2, yFP, zm282.2.2.1, zm282.2.2.2.1, zc282, 0, ys491.2.2.2.1, [], [])
theorem yw491 : ywf ys491.2.2.1 = true := by decide +kernel
theorem yk491 : yver yx491 ys491.2.2.1 4000 = true := by decide +kernel
theorem yt491 {E : zHp → Prop} (h : yEF E yFP) : yTs E 4 ys491 := yver_s (x := yx491) h (yal_c (yt307 h) (by decide) yw307 (yal_c (yt490 h) (by decide) yw490 (yal_n))) yg282 yk491
def ys492 : ySp := (293, 3, (0, [], [], [], [(0, (0, yc 46, yc 0)), (1, (0, yc 66, yc 0)), (2, (7, yc 0, yc 0))], []), [(0, [], [], [], [], [(0, yc 46, yc 0)])], [])
def yx492 : yCx := ([], ys492.2.2.2.2, yFP, zm293.2.2.1, zm293.2.2.2.1, zc293, 0, ys492.2.2.2.1, [], [])
theorem yw492 : ywf ys492.2.2.1 = true := by decide +kernel
theorem yk492 : yver yx492 ys492.2.2.1 4000 = true := by decide +kernel
theorem yt492 {E : zHp → Prop} (h : yEF E yFP) : yTs E 1 ys492 := yver_s (x := yx492) h (yal_n) yg293 yk492
def ys493 : ySp := (285, 2, (0, [], [], [], [(0, (0, yc 46, yc 0)), (1, (0, yc 66, yc 0))], []), [(0, [], [], [], [], [])], [])
def yx493 : yCx := ([ys492], ys493.2.2.2.2, yFP, zm285.2.2.1, zm285.2.2.2.1, zc285, 0, ys493.2.2.2.1, [], [])
theorem yw493 : ywf ys493.2.2.1 = true := by decide +kernel
theorem yk493 : yver yx493 ys493.2.2.1 4000 = true := by decide +kernel
theorem yt493 {E : zHp → Prop} (h : yEF E yFP) : yTs E 2 ys493 := yver_s (x := yx493) h (yal_c (yt492 h) (by decide) yw492 (yal_n)) yg285 yk493
def ys494 : ySp := (286, 2, (0, [], [], [], [(0, (2, yc 1023, yc 0)), (1, (0, yc 46, yc 0))], []), [(0, [], [], [], [], [(0, yc 101, yc 0)])], [])
def yx494 : yCx := ([ys493], ys494.2.2.2.2, yFP, zm286.2.2.1, zm286.2.2.2.1, zc286, 0, ys494.2.2.2.1, [], [])
theorem yw494 : ywf ys494.2.2.1 = true := by decide +kernel
theorem yk494 : yver yx494 ys494.2.2.1 4000 = true := by decide +kernel
theorem yt494 {E : zHp → Prop} (h : yEF E yFP) : yTs E 3 ys494 := yver_s (x := yx494) h (yal_c (yt493 h) (by decide) yw493 (yal_n)) yg286 yk494
