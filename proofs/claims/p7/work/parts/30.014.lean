def ys495 : ySp := (282, 2, (0, [], [], [], [(0, (2, yc 1004, yc 0)), (1, (0, yc 46, yc 0))], []), [(0, [], [], [], [], [(0, yc 101, yc 0)])], [])
def yx495 : yCx := ([ys307, ys494], ys495.2.2.2.2, yFP, zm282.2.2.1, zm282.2.2.2.1, zc282, 0, ys495.2.2.2.1, [], [])
theorem yw495 : ywf ys495.2.2.1 = true := by decide +kernel
theorem yk495 : yver yx495 ys495.2.2.1 4000 = true := by decide +kernel
theorem yt495 {E : zHp → Prop} (h : yEF E yFP) : yTs E 4 ys495 := yver_s (x := yx495) h (yal_c (yt307 h) (by decide) yw307 (yal_c (yt494 h) (by decide) yw494 (yal_n))) yg282 yk495
def ys496 : ySp := (293, 3, (0, [], [], [], [(0, (0, yc 47, yc 0)), (1, (0, yc 66, yc 0)), (2, (7, yc 0, yc 0))], []), [(0, [], [], [], [], [(0, yc 47, yc 0)])], [])
def yx496 : yCx := ([], ys496.2.2.2.2, yFP, zm293.2.2.1, zm293.2.2.2.1, zc293, 0, ys496.2.2.2.1, [], [])
theorem yw496 : ywf ys496.2.2.1 = true := by decide +kernel
theorem yk496 : yver yx496 ys496.2.2.1 4000 = true := by decide +kernel
theorem yt496 {E : zHp → Prop} (h : yEF E yFP) : yTs E 1 ys496 := yver_s (x := yx496) h (yal_n) yg293 yk496
def ys497 : ySp := (285, 2, (0, [], [], [], [(0, (0, yc 47, yc 0)), (1, (0, yc 66, yc 0))], []), [(0, [], [], [], [], [])], [])
def yx497 : yCx := ([ys496], ys497.2.2.2.2, yFP, zm285.2.2.1, zm285.2.2.2.1, zc285, 0, ys497.2.2.2.1, [], [])
theorem yw497 : ywf ys497.2.2.1 = true := by decide +kernel
theorem yk497 : yver yx497 ys497.2.2.1 4000 = true := by decide +kernel
theorem yt497 {E : zHp → Prop} (h : yEF E yFP) : yTs E 2 ys497 := yver_s (x := yx497) h (yal_c (yt496 h) (by decide) yw496 (yal_n)) yg285 yk497
def ys498 : ySp := (286, 2, (0, [], [], [], [(0, (2, yc 1023, yc 0)), (1, (0, yc 47, yc 0))], []), [(0, [], [], [], [], [(0, yc 101, yc 0)])], [])
def yx498 : yCx := ([ys497], ys498.2.2.2.2, yFP, zm286.2.2.1, zm286.2.2.2.1, zc286, 0, ys498.2.2.2.1, [], [])
theorem yw498 : ywf ys498.2.2.1 = true := by decide +kernel
theorem yk498 : yver yx498 ys498.2.2.1 4000 = true := by decide +kernel
theorem yt498 {E : zHp → Prop} (h : yEF E yFP) : yTs E 3 ys498 := yver_s (x := yx498) h (yal_c (yt497 h) (by decide) yw497 (yal_n)) yg286 yk498
def ys499 : ySp := (282, 2, (0, [], [], [], [(0, (2, yc 1004, yc 0)), (1, (0, yc 47, yc 0))], []), [(0, [], [], [], [], [(0, yc 101, yc 0)])], [])
def yx499 : yCx := ([ys307, ys498], ys499.2.2.2.2, yFP, zm282.2.2.1, zm282.2.2.2.1, zc282, 0, ys499.2.2.2.1, [], [])
theorem yw499 : ywf ys499.2.2.1 = true := by decide +kernel
theorem yk499 : yver yx499 ys499.2.2.1 4000 = true := by decide +kernel
theorem yt499 {E : zHp → Prop} (h : yEF E yFP) : yTs E 4 ys499 := yver_s (x := yx499) h (yal_c (yt307 h) (by decide) yw307 (yal_c (yt498 h) (by decide) yw498 (yal_n))) yg282 yk499
def ys500 : ySp := (293, 3, (0, [], [], [], [(0, (0, yc 48, yc 0)), (1, (0, yc 66, yc 0)), (2, (7, yc 0, yc 0))], []), [(0, [], [], [], [], [(0, yc 48, yc 0)])], [])
def yx500 : yCx := ([], ys500.2.2.2.2, yFP, zm293.2.2.1, zm293.2.2.2.1, zc293, 0, ys500.2.2.2.1, [], [])
theorem yw500 : ywf ys500.2.2.1 = true := by decide +kernel
theorem yk500 : yver yx500 ys500.2.2.1 4000 = true := by decide +kernel
theorem yt500 {E : zHp → Prop} (h : yEF E yFP) : yTs E 1 ys500 := yver_s (x := yx500) h (yal_n) yg293 yk500
def ys501 : ySp := (285, 2, (0, [], [], [], [(0, (0, yc 48, yc 0)), (1, (0, yc 66, yc 0))], []), [(0, [], [], [], [], [])], [])
def yx501 : yCx := ([ys500], ys501.2.2.2.2, yFP, zm285.2.2.1, zm285.2.2.2.1, zc285, 0, ys501.2.2.2.1, [], [])
theorem yw501 : ywf ys501.2.2.1 = true := by decide +kernel
theorem yk501 : yver yx501 ys501.2.2.1 4000 = true := by decide +kernel
theorem yt501 {E : zHp → Prop} (h : yEF E yFP) : yTs E 2 ys501 := yver_s (x := yx501) h (yal_c (yt500 h) (by decide) yw500 (yal_n)) yg285 yk501
def ys502 : ySp := (286, 2, (0, [], [], [], [(0, (2, yc 1023, yc 0)), (1, (0, yc 48, yc 0))], []), [(0, [], [], [], [], [(0, yc 100, yc 0)])], [])
def yx502 : yCx := ([ys501], ys502.2.2.2.2, yFP, zm286.2.2.1, zm286.2.2.2.1, zc286, 0, ys502.2.2.2.1, [], [])
theorem yw502 : ywf ys502.2.2.1 = true := by decide +kernel
theorem yk502 : yver yx502 ys502.2.2.1 4000 = true := by decide +kernel
theorem yt502 {E : zHp → Prop} (h : yEF E yFP) : yTs E 3 ys502 := yver_s (x := yx502) h (yal_c (yt501 h) (by decide) yw501 (yal_n)) yg286 yk502
def ys503 : ySp := (282, 2, (0, [], [], [], [(0, (2, yc 1004, yc 0)), (1, (0, yc 48, yc 0))], []), [(0, [], [], [], [], [(0, yc 100, yc 0)])], [])
def yx503 : yCx := ([ys307, ys502], ys503.2.2.2.2, yFP, zm282.2.2.1, zm282.2.2.2.1, zc282, 0, ys503.2.2.2.1, [], [])
theorem yw503 : ywf ys503.2.2.1 = true := by decide +kernel
theorem yk503 : yver yx503 ys503.2.2.1 4000 = true := by decide +kernel
theorem yt503 {E : zHp → Prop} (h : yEF E yFP) : yTs E 4 ys503 := yver_s (x := yx503) h (yal_c (yt307 h) (by decide) yw307 (yal_c (yt502 h) (by decide) yw502 (yal_n))) yg282 yk503
def ys504 : ySp := (293, 3, (0, [], [], [], [(0, (0, yc 49, yc 0)), (1, (0, yc 66, yc 0)), (2, (7, yc 0, yc 0))], []), [(0, [], [], [], [], [(0, yc 49, yc 0)])], [])
def yx504 : yCx := ([], ys504.2.2.2.2, yFP, zm293.2.2.1, zm293.2.2.2.1, zc293, 0, ys504.2.2.2.1, [], [])
theorem yw504 : ywf ys504.2.2.1 = true := by decide +kernel
theorem yk504 : yver yx504 ys504.2.2.1 4000 = true := by decide +kernel
theorem yt504 {E : zHp → Prop} (h : yEF E yFP) : yTs E 1 ys504 := yver_s (x := yx504) h (yal_n) yg293 yk504
def ys505 : ySp := (285, 2, (0, [], [], [], [(0, (0, yc 49, yc 0)), (1, (0, yc 66, yc 0))], []), [(0, [], [], [], [], [])], [])
def yx505 : yCx := ([ys504], ys505.2.2.2.2, yFP, zm285.2.2.1, zm285.2.2.2.1, zc285, 0, ys505.2.2.2.1, [], [])
theorem yw505 : ywf ys505.2.2.1 = true := by decide +kernel
theorem yk505 : yver yx505 ys505.2.2.1 4000 = true := by decide +kernel
theorem yt505 {E : zHp → Prop} (h : yEF E yFP) : yTs E 2 ys505 := yver_s (x := yx505) h (yal_c (yt504 h) (by decide) yw504 (yal_n)) yg285 yk505
def ys506 : ySp := (286, 2, (0, [], [], [], [(0, (2, yc 1023, yc 0)), (1, (0, yc 49, yc 0))], []), [(0, [], [], [], [], [(0, yc 32, yc 0)])], [])
def yx506 : yCx := ([ys505], ys506.2.2.2.2, yFP, zm286.2.2.1, zm286.2.2.2.1, zc286, 0, ys506.2.2.2.1, [], [])
theorem yw506 : ywf ys506.2.2.1 = true := by decide +kernel
theorem yk506 : yver yx506 ys506.2.2.1 4000 = true := by decide +kernel
theorem yt506 {E : zHp → Prop} (h : yEF E yFP) : yTs E 3 ys506 := yver_s (x := yx506) h (yal_c (yt505 h) (by decide) yw505 (yal_n)) yg286 yk506
def ys507 : ySp := (282, 2, (0, [], [], [], [(0, (2, yc 1004, yc 0)), (1, (0, yc 49, yc 0))], []), [(0, [], [], [], [], [(0, yc 32, yc 0)])], [])
def yx507 : yCx := ([ys307, ys506], ys507.2.2.2.2, yFP, zm282.2.2.1, zm282.2.2.2.1, zc282, 0, ys507.2.2.2.1, [], [])
theorem yw507 : ywf ys507.2.2.1 = true := by decide +kernel
theorem yk507 : yver yx507 ys507.2.2.1 4000 = true := by decide +kernel
theorem yt507 {E : zHp → Prop} (h : yEF E yFP) : yTs E 4 ys507 := yver_s (x := yx507) h (yal_c (yt307 h) (by decide) yw307 (yal_c (yt506 h) (by decide) yw506 (yal_n))) yg282 yk507
def ys508 : ySp := (293, 3, (0, [], [], [], [(0, (0, yc 50, yc 0)), (1, (0, yc 66, yc 0)), (2, (7, yc 0, yc 0))], []), [(0, [], [], [], [], [(0, yc 50, yc 0)])], [])
def yx508 : yCx := ([], ys508.2.2.2.2, yFP, zm293.2.2.1, zm293.2.2.2.1, zc293, 0, ys508.2.2.2.1, [], [])
theorem yw508 : ywf ys508.2.2.1 = true := by decide +kernel
theorem yk508 : yver yx508 ys508.2.2.1 4000 = true := by decide +kernel
theorem yt508 {E : zHp → Prop} (h : yEF E yFP) : yTs E 1 ys508 := yver_s (x := yx508) h (yal_n) yg293 yk508
def ys509 : ySp := (285, 2, (0, [], [], [], [(0, (0, yc 50, yc 0)), (1, (0, yc 66, yc 0))], []), [(0, [], [], [], [], [])], [])
def yx509 : yCx := ([ys508], ys509.2.2.2.2, yFP, zm285.2.2.1, zm285.2.2.2.1, zc285, 0, ys509.2.2.2.1, [], [])
theorem yw509 : ywf ys509.2.2.1 = true := by decide +kernel
theorem yk509 : yver yx509 ys509.2.2.1 4000 = true := by decide +kernel
theorem yt509 {E : zHp → Prop} (h : yEF E yFP) : yTs E 2 ys509 := yver_s (x := yx509) h (yal_c (yt508 h) (by decide) yw508 (yal_n)) yg285 yk509
def ys510 : ySp := (286, 2, (0, [], [], [], [(0, (2, yc 1023, yc 0)), (1, (0, yc 50, yc 0))], []), [(0, [], [], [], [], [(0, yc 112, yc 0)])], [])
def yx510 : yCx := ([ys509], ys510.2.2.2.2, yFP, zm286.2.2.1, zm286.2.2.2.1, zc286, 0, ys510.2.2.2.1, [], [])
theorem yw510 : ywf ys510.2.2.1 = true := by decide +kernel
theorem yk510 : yver yx510 ys510.2.2.1 4000 = true := by decide +kernel
theorem yt510 {E : zHp → Prop} (h : yEF E yFP) : yTs E 3 ys510 := yver_s (x := yx510) h (yal_c (yt509 h) (by decide) yw509 (yal_n)) yg286 yk510
def ys511 : ySp := (282, 2, (0, [], [], [], [(0, (2, yc 1004, yc 0)), (1, (0, yc 50, yc 0))], []), [(0, [], [], [], [], [(0, yc 112, yc 0)])], [])
def yx511 : yCx := ([ys307, ys510], ys511.2.2.2.2, yFP, zm282.2.2.1, zm282.2.2.2.1, zc282, 0, ys511.2.2.2.1, [], [])
theorem yw511 : ywf ys511.2.2.1 = true := by decide +kernel
theorem yk511 : yver yx511 ys511.2.2.1 4000 = true := by decide +kernel
theorem yt511 {E : zHp → Prop} (h : yEF E yFP) : yTs E 4 ys511 := yver_s (x := yx511) h (yal_c (yt307 h) (by decide) yw307 (yal_c (yt510 h) (by decide) yw510 (yal_n))) yg282 yk511
def ys512 : ySp := (293, 3, (0, [], [], [], [(0, (0, yc 51, yc 0)), (1, (0, yc 66, yc 0)), (2, (7, yc 0, yc 0))], []), [(0, [], [], [], [], [(0, yc 51, yc 0)])], [])
def yx512 : yCx := ([], ys512.2.2.2.2, yFP, zm293.2.2.1, zm293.2.2.2.1, zc293, 0, ys512.2.2.2.1, [], [])
theorem yw512 : ywf ys512.2.2.1 = true := by decide +kernel
theorem yk512 : yver yx512 ys512.2.2.1 4000 = true := by decide +kernel
theorem yt512 {E : zHp → Prop} (h : yEF E yFP) : yTs E 1 ys512 := yver_s (x := yx512) h (yal_n) yg293 yk512
def ys513 : ySp := (285, 2, (0, [], [], [], [(0, (0, yc 51, yc 0)), (1, (0, yc 66, yc 0))], []), [(0, [], [], [], [], [])], [])
def yx513 : yCx := ([ys512], ys513.2.2.2.2, yFP, zm285.2.2.1, zm285.2.2.2.1, zc285, 0, ys513.2.2.2.1, [], [])
theorem yw513 : ywf ys513.2.2.1 = true := by decide +kernel
theorem yk513 : yver yx513 ys513.2.2.1 4000 = true := by decide +kernel
theorem yt513 {E : zHp → Prop} (h : yEF E yFP) : yTs E 2 ys513 := yver_s (x := yx513) h (yal_c (yt512 h) (by decide) yw512 (yal_n)) yg285 yk513
def ys514 : ySp := (286, 2, (0, [], [], [], [(0, (2, yc 1023, yc 0)), (1, (0, yc 51, yc 0))], []), [(0, [], [], [], [], [(0, yc 97, yc 0)])], [])
def yx514 : yCx := ([ys513], ys514.2.2.2.2, yFP, zm286.2.2.1, zm286.2.2.2.1, zc286, 0, ys514.2.2.2.1, [], [])
theorem yw514 : ywf ys514.2.2.1 = true := by decide +kernel
theorem yk514 : yver yx514 ys514.2.2.1 4000 = true := by decide +kernel
theorem yt514 {E : zHp → Prop} (h : yEF E yFP) : yTs E 3 ys514 := yver_s (x := yx514) h (yal_c (yt513 h) (by decide) yw513 (yal_n)) yg286 yk514
def ys515 : ySp := (282, 2, (0, [], [], [], [(0, (2, yc 1004, yc 0)), (1, (0, yc 51, yc 0))], []), [(0, [], [], [], [], [(0, yc 97, yc 0)])], [])
def yx515 : yCx := ([ys307, ys514], ys515.2.2.2.2, yFP, zm282.2.2.1, zm282.2.2.2.1, zc282, 0, ys515.2.2.2.1, [], [])
theorem yw515 : ywf ys515.2.2.1 = true := by decide +kernel
theorem yk515 : yver yx515 ys515.2.2.1 4000 = true := by decide +kernel
theorem yt515 {E : zHp → Prop} (h : yEF E yFP) : yTs E 4 ys515 := yver_s (x := yx515) h (yal_c (yt307 h) (by decide) yw307 (yal_c (yt514 h) (by decide) yw514 (yal_n))) yg282 yk515
def ys516 : ySp := (293, 3, (0, [], [], [], [(0, (0, yc 52, yc 0)), (1, (0, yc 66, yc 0)), (2, (7, yc 0, yc 0))], []), [(0, [], [], [], [], [(0, yc 52, yc 0)])], [])
def yx516 : yCx := ([], ys516.2.2.2.2, yFP, zm293.2.2.1, zm293.2.2.2.1, zc293, 0, ys516.2.2.2.1, [], [])
theorem yw516 : ywf ys516.2.2.1 = true := by decide +kernel
theorem yk516 : yver yx516 ys516.2.2.1 4000 = true := by decide +kernel
theorem yt516 {E : zHp → Prop} (h : yEF E yFP) : yTs E 1 ys516 := yver_s (x := yx516) h (yal_n) yg293 yk516
def ys517 : ySp := (285, 2, (0, [], [], [], [(0, (0, yc 52, yc 0)), (1, (0, yc 66, yc 0))], []), [(0, [], [], [], [], [])], [])
def yx517 : yCx := ([ys516], ys517.2.2.2.2, yFP, zm285.2.2.1, zm285.2.2.2.1, zc285, 0, ys517.2.2.2.1, [], [])
theorem yw517 : ywf ys517.2.2.1 = true := by decide +kernel
theorem yk517 : yver yx517 ys517.2.2.1 4000 = true := by decide +kernel
theorem yt517 {E : zHp → Prop} (h : yEF E yFP) : yTs E 2 ys517 := yver_s (x := yx517) h (yal_c (yt516 h) (by decide) yw516 (yal_n)) yg285 yk517
def ys518 : ySp := (286, 2, (0, [], [], [], [(0, (2, yc 1023, yc 0)), (1, (0, yc 52, yc 0))], []), [(0, [], [], [], [], [(0, yc 121, yc 0)])], [])
def yx518 : yCx := ([ys517], ys518.2.2.2.2, yFP, zm286.2.2.1, zm286.2.2.2.1, zc286, 0, ys518.2.2.2.1, [], [])
theorem yw518 : ywf ys518.2.2.1 = true := by decide +kernel
theorem yk518 : yver yx518 ys518.2.2.1 4000 = true := by decide +kernel
theorem yt518 {E : zHp → Prop} (h : yEF E yFP) : yTs E 3 ys518 := yver_s (x := yx518) h (yal_c (yt517 h) (by decide) yw517 (yal_n)) yg286 yk518
def ys519 : ySp := (282, 2, (0, [], [], [], [(0, (2, yc 1004, yc 0)), (1, (0, yc 52, yc 0))], []), [(0, [], [], [], [], [(0, yc 121, yc 0)])], [])
def yx519 : yCx := ([ys307, ys518], ys519.2.2.2.2, yFP, zm282.2.2.1, zm282.2.2.2.1, zc282, 0, ys519.2.2.2.1, [], [])
theorem yw519 : ywf ys519.2.2.1 = true := by decide +kernel
theorem yk519 : yver yx519 ys519.2.2.1 4000 = true := by decide +kernel
theorem yt519 {E : zHp → Prop} (h : yEF E yFP) : yTs E 4 ys519 := yver_s (x := yx519) h (yal_c (yt307 h) (by decide) yw307 (yal_c (yt518 h) (by decide) yw518 (yal_n))) yg282 yk519
def ys520 : ySp := (293, 3, (0, [], [], [], [(0, (0, yc 53, yc 0)), (1, (0, yc 66, yc 0)), (2, (7, yc 0, yc 0))], []), [(0, [], [], [], [], [(0, yc 53, yc 0)])], [])
def yx520 : yCx := ([], ys520.2.2.2.2, yFP, zm293.2.2.1, zm293.2.2.2.1, zc293, 0, ys520.2.2.2.1, [], [])
theorem yw520 : ywf ys520.2.2.1 = true := by decide +kernel
theorem yk520 : yver yx520 ys520.2.2.1 4000 = true := by decide +kernel
theorem yt520 {E : zHp → Prop} (h : yEF E yFP) : yTs E 1 ys520 := yver_s (x := yx520) h (yal_n) yg293 yk520
def ys521 : ySp := (285, 2, (0, [], [], [], [(0, (0, yc 53, yc 0)), (1, (0, yc 66, yc 0))], []), [(0, [], [], [], [], [])], [])
def yx521 : yCx := ([ys520], ys521.2.2.2.2, yFP, zm285.2.2.1, zm285.2.2.2.1, zc285, 0, ys521.2.2.2.1, [], [])
theorem yw521 : ywf ys521.2.2.1 = true := by decide +kernel
theorem yk521 : yver yx521 ys521.2.2.1 4000 = true := by decide +kernel
theorem yt521 {E : zHp → Prop} (h : yEF E yFP) : yTs E 2 ys521 := yver_s (x := yx521) h (yal_c (yt520 h) (by decide) yw520 (yal_n)) yg285 yk521
def ys522 : ySp := (286, 2, (0, [], [], [], [(0, (2, yc 1023, yc 0)), (1, (0, yc 53, yc 0))], []), [(0, [], [], [], [], [(0, yc 32, yc 0)])], [])
def yx522 : yCx := ([ys521], ys522.2.2.2.2, yFP, zm286.2.2.1, zm286.2.2.2.1, zc286, 0, ys522.2.2.2.1, [], [])
theorem yw522 : ywf ys522.2.2.1 = true := by decide +kernel
theorem yk522 : yver yx522 ys522.2.2.1 4000 = true := by decide +kernel
theorem yt522 {E : zHp → Prop} (h : yEF E yFP) : yTs E 3 ys522 := yver_s (x := yx522) h (yal_c (yt521 h) (by decide) yw521 (yal_n)) yg286 yk522
def ys523 : ySp := (282, 2, (0, [], [], [], [(0, (2, yc 1004, yc 0)), (1, (0, yc 53, yc 0))], []), [(0, [], [], [], [], [(0, yc 32, yc 0)])], [])
def yx523 : yCx := ([ys307, ys522], ys523.2.2.2.2, yFP, zm282.2.2.1, zm282.2.2.2.1, zc282, 0, ys523.2.2.2.1, [], [])
theorem yw523 : ywf ys523.2.2.1 = true := by decide +kernel
theorem yk523 : yver yx523 ys523.2.2.1 4000 = true := by decide +kernel
theorem yt523 {E : zHp → Prop} (h : yEF E yFP) : yTs E 4 ys523 := yver_s (x := yx523) h (yal_c (yt307 h) (by decide) yw307 (yal_c (yt522 h) (by decide) yw522 (yal_n))) yg282 yk523
def ys524 : ySp := (293, 3, (0, [], [], [], [(0, (0, yc 54, yc 0)), (1, (0, yc 66, yc 0)), (2, (7, yc 0, yc 0))], []), [(0, [], [], [], [], [(0, yc 54, yc 0)])], [])
def yx524 : yCx := ([], ys524.2.2.2.2, yFP, zm293.2.2.1, zm293.2.2.2.1, zc293, 0, ys524.2.2.2.1, [], [])
theorem yw524 : ywf ys524.2.2.1 = true := by decide +kernel
theorem yk524 : yver yx524 ys524.2.2.1 4000 = true := by decide +kernel
theorem yt524 {E : zHp → Prop} (h : yEF E yFP) : yTs E 1 ys524 := yver_s (x := yx524) h (yal_n) yg293 yk524
def ys525 : ySp := (285, 2, (0, [], [], [], [(0, (0, yc 54, yc 0)), (1, (0, yc 66, yc 0))], []), [(0, [], [], [], [], [])], [])
def yx525 : yCx := ([ys524], ys525.2.2.2.2, yFP, zm285.2.2.1, zm285.2.2.2.1, zc285, 0, ys525.2.2.2.1, [], [])
theorem yw525 : ywf ys525.2.2.1 = true := by decide +kernel
theorem yk525 : yver yx525 ys525.2.2.1 4000 = true := by decide +kernel
theorem yt525 {E : zHp → Prop} (h : yEF E yFP) : yTs E 2 ys525 := yver_s (x := yx525) h (yal_c (yt524 h) (by decide) yw524 (yal_n)) yg285 yk525
def ys526 : ySp := (286, 2, (0, [], [], [], [(0, (2, yc 1023, yc 0)), (1, (0, yc 54, yc 0))], []), [(0, [], [], [], [], [(0, yc 111, yc 0)])], [])
def yx526 : yCx := ([ys525], ys526.2.2.2.2, yFP, zm286.2.2.1, zm286.2.2.2.1, zc286, 0, ys526.2.2.2.1, [], [])
theorem yw526 : ywf ys526.2.2.1 = true := by decide +kernel
theorem yk526 : yver yx526 ys526.2.2.1 4000 = true := by decide +kernel
theorem yt526 {E : zHp → Prop} (h : yEF E yFP) : yTs E 3 ys526 := yver_s (x := yx526) h (yal_c (yt525 h) (by decide) yw525 (yal_n)) yg286 yk526
def ys527 : ySp := (282, 2, (0, [], [], [], [(0, (2, yc 1004, yc 0)), (1, (0, yc 54, yc 0))], []), [(0, [], [], [], [], [(0, yc 111, yc 0)])], [])
def yx527 : yCx := ([ys307, ys526], ys527.2.2.2.2, yFP, zm282.2.2.1, zm282.2.2.2.1, zc282, 0, ys527.2.2.2.1, [], [])
theorem yw527 : ywf ys527.2.2.1 = true := by decide +kernel
theorem yk527 : yver yx527 ys527.2.2.1 4000 = true := by decide +kernel
theorem yt527 {E : zHp → Prop} (h : yEF E yFP) : yTs E 4 ys527 := yver_s (x := yx527) h (yal_c (yt307 h) (by decide) yw307 (yal_c (yt526 h) (by decide) yw526 (yal_n))) yg282 yk527
def ys528 : ySp := (293, 3, (0, [], [], [], [(0, (0, yc 55, yc 0)), (1, (0, yc 66, yc 0)), (2, (7, yc 0, yc 0))], []), [(0, [], [], [], [], [(0, yc 55, yc 0)])], [])
def yx528 : yCx := ([], ys528.2.2.2.2, yFP, zm293.2.2.1, zm293.2.2.2.1, zc293, 0, ys528.2.2.2.1, [], [])
theorem yw528 : ywf ys528.2.2.1 = true := by decide +kernel
theorem yk528 : yver yx528 ys528.2.2.1 4000 = true := by decide +kernel
theorem yt528 {E : zHp → Prop} (h : yEF E yFP) : yTs E 1 ys528 := yver_s (x := yx528) h (yal_n) yg293 yk528
def ys529 : ySp := (285, 2, (0, [], [], [], [(0, (0, yc 55, yc 0)), (1, (0, yc 66, yc 0))], []), [(0, [], [], [], [], [])], [])
def yx529 : yCx := ([ys528], ys529.2.2.2.2, yFP, zm285.2.2.1, zm285.2.2.2.1, zc285, 0, ys529.2.2.2.1, [], [])
theorem yw529 : ywf ys529.2.2.1 = true := by decide +kernel
theorem yk529 : yver yx529 ys529.2.2.1 4000 = true := by decide +kernel
theorem yt529 {E : zHp → Prop} (h : yEF E yFP) : yTs E 2 ys529 := yver_s (x := yx529) h (yal_c (yt528 h) (by decide) yw528 (yal_n)) yg285 yk529
def ys530 : ySp := (286, 2, (0, [], [], [], [(0, (2, yc 1023, yc 0)), (1, (0, yc 55, yc 0))], []), [(0, [], [], [], [], [(0, yc 119, yc 0)])], [])
def yx530 : yCx := ([ys529], ys530.2.2.2.2, yFP, zm286.2.2.1, zm286.2.2.2.1, zc286, 0, ys530.2.2.2.1, [], [])
theorem yw530 : ywf ys530.2.2.1 = true := by decide +kernel
theorem yk530 : yver yx530 ys530.2.2.1 4000 = true := by decide +kernel
theorem yt530 {E : zHp → Prop} (h : yEF E yFP) : yTs E 3 ys530 := yver_s (x := yx530) h (yal_c (yt529 h) (by decide) yw529 (yal_n)) yg286 yk530
def ys531 : ySp := (282, 2, (0, [], [], [], [(0, (2, yc 1004, yc 0)), (1, (0, yc 55, yc 0))], []), [(0, [], [], [], [], [(0, yc 119, yc 0)])], [])
def yx531 : yCx := ([ys307, ys530], ys531.2.2.2.2, yFP, zm282.2.2.1, zm282.2.2.2.1, zc282, 0, ys531.2.2.2.1, [], [])
theorem yw531 : ywf ys531.2.2.1 = true := by decide +kernel
theorem yk531 : yver yx531 ys531.2.2.1 4000 = true := by decide +kernel
theorem yt531 {E : zHp → Prop} (h : yEF E yFP) : yTs E 4 ys531 := yver_s (x := yx531) h (yal_c (yt307 h) (by decide) yw307 (yal_c (yt530 h) (by decide) yw530 (yal_n))) yg282 yk531
def ys532 : ySp := (293, 3, (0, [], [], [], [(0, (0, yc 56, yc 0)), (1, (0, yc 66, yc 0)), (2, (7, yc 0, yc 0))], []), [(0, [], [], [], [], [(0, yc 56, yc 0)])], [])
def yx532 : yCx := ([], ys532.2.2.2.2, yFP, zm293.2.2.1, zm293.2.2.2.1, zc293, 0, ys532.2.2.2.1, [], [])
theorem yw532 : ywf ys532.2.2.1 = true := by decide +kernel
theorem yk532 : yver yx532 ys532.2.2.1 4000 = true := by decide +kernel
theorem yt532 {E : zHp → Prop} (h : yEF E yFP) : yTs E 1 ys532 := yver_s (x := yx532) h (yal_n) yg293 yk532
def ys533 : ySp := (285, 2, (0, [], [], [], [(0, (0, yc 56, yc 0)), (1, (0, yc 66, yc 0))], []), [(0, [], [], [], [], [])], [])
def yx533 : yCx := ([ys532], ys533.2.2.2.2, yFP, zm285.2.2.1, zm285.2.2.2.1, zc285, 0, ys533.2.2.2.1, [], [])
theorem yw533 : ywf ys533.2.2.1 = true := by decide +kernel
theorem yk533 : yver yx533 ys533.2.2.1 4000 = true := by decide +kernel
theorem yt533 {E : zHp → Prop} (h : yEF E yFP) : yTs E 2 ys533 := yver_s (x := yx533) h (yal_c (yt532 h) (by decide) yw532 (yal_n)) yg285 yk533
def ys534 : ySp := (286, 2, (0, [], [], [], [(0, (2, yc 1023, yc 0)), (1, (0, yc 56, yc 0))], []), [(0, [], [], [], [], [(0, yc 101, yc 0)])], [])
def yx534 : yCx := ([ys533], ys534.2.2.2.2, yFP, zm286.2.2.1, zm286.2.2.2.1, zc286, 0, ys534.2.2.2.1, [], [])
theorem yw534 : ywf ys534.2.2.1 = true := by decide +kernel
theorem yk534 : yver yx534 ys534.2.2.1 4000 = true := by decide +kernel
theorem yt534 {E : zHp → Prop} (h : yEF E yFP) : yTs E 3 ys534 := yver_s (x := yx534) h (yal_c (yt533 h) (by decide) yw533 (yal_n)) yg286 yk534
def ys535 : ySp := (282, 2, (0, [], [], [], [(0, (2, yc 1004, yc 0)), (1, (0, yc 56, yc 0))], []), [(0, [], [], [], [], [(0, yc 101, yc 0)])], [])
def yx535 : yCx := ([ys307, ys534], ys535.2.2.2.2, yFP, zm282.2.2.1, zm282.2.2.2.1, zc282, 0, ys535.2.2.2.1, [], [])
theorem yw535 : ywf ys535.2.2.1 = true := by decide +kernel
theorem yk535 : yver yx535 ys535.2.2.1 4000 = true := by decide +kernel
theorem yt535 {E : zHp → Prop} (h : yEF E yFP) : yTs E 4 ys535 := yver_s (x := yx535) h (yal_c (yt307 h) (by decide) yw307 (yal_c (yt534 h) (by decide) yw534 (yal_n))) yg282 yk535
def ys536 : ySp := (293, 3, (0, [], [], [], [(0, (0, yc 57, yc 0)), (1, (0, yc 66, yc 0)), (2, (7, yc 0, yc 0))], []), [(0, [], [], [], [], [(0, yc 57, yc 0)])], [])
def yx536 : yCx := ([], ys536.2.2.2.2, yFP, zm293.2.2.1, zm293.2.2.2.1, zc293, 0, ys536.2.2.2.1, [], [])
theorem yw536 : ywf ys536.2.2.1 = true := by decide +kernel
theorem yk536 : yver yx536 ys536.2.2.1 4000 = true := by decide +kernel
theorem yt536 {E : zHp → Prop} (h : yEF E yFP) : yTs E 1 ys536 := yver_s (x := yx536) h (yal_n) yg293 yk536
def ys537 : ySp := (285, 2, (0, [], [], [], [(0, (0, yc 57, yc 0)), (1, (0, yc 66, yc 0))], []), [(0, [], [], [], [], [])], [])
def yx537 : yCx := ([ys536], ys537.2.2.2.2, yFP, zm285.2.2.1, zm285.2.2.2.1, zc285, 0, ys537.2.2.2.1, [], [])
theorem yw537 : ywf ys537.2.2.1 = true := by decide +kernel
theorem yk537 : yver yx537 ys537.2.2.1 4000 = true := by decide +kernel
theorem yt537 {E : zHp → Prop} (h : yEF E yFP) : yTs E 2 ys537 := yver_s (x := yx537) h (yal_c (yt536 h) (by decide) yw536 (yal_n)) yg285 yk537
def ys538 : ySp := (286, 2, (0, [], [], [], [(0, (2, yc 1023, yc 0)), (1, (0, yc 57, yc 0))], []), [(0, [], [], [], [], [(0, yc 115, yc 0)])], [])
def yx538 : yCx := ([ys537], ys538.2.2.2.2, yFP, zm286.2.2.1, zm286.2.2.2.1, zc286, 0, ys538.2.2.2.1, [], [])
theorem yw538 : ywf ys538.2.2.1 = true := by decide +kernel
theorem yk538 : yver yx538 ys538.2.2.1 4000 = true := by decide +kernel
theorem yt538 {E : zHp → Prop} (h : yEF E yFP) : yTs E 3 ys538 := yver_s (x := yx538) h (yal_c (yt537 h) (by decide) yw537 (yal_n)) yg286 yk538
def ys539 : ySp := (282, 2, (0, [], [], [], [(0, (2, yc 1004, yc 0)), (1, (0, yc 57, yc 0))], []), [(0, [], [], [], [], [(0, yc 115, yc 0)])], [])
def yx539 : yCx := ([ys307, ys538], ys539.2.2.2.2, yFP, zm282.2.2.1, zm282.2.2.2.1, zc282, 0, ys539.2.2.2.1, [], [])
theorem yw539 : ywf ys539.2.2.1 = true := by decide +kernel
theorem yk539 : yver yx539 ys539.2.2.1 4000 = true := by decide +kernel
theorem yt539 {E : zHp → Prop} (h : yEF E yFP) : yTs E 4 ys539 := yver_s (x := yx539) h (yal_c (yt307 h) (by decide) yw307 (yal_c (yt538 h) (by decide) yw538 (yal_n))) yg282 yk539
def ys540 : ySp := (293, 3, (0, [], [], [], [(0, (0, yc 58, yc 0)), (1, (0, yc 66, yc 0)), (2, (7, yc 0, yc 0))], []), [(0, [], [], [], [], [(0, yc 58, yc 0)])], [])
def yx540 : yCx := ([], ys540.2.2.2.2, yFP, zm293.2.2.1, zm293.2.2.2.1, zc293, 0, ys540.2.2.2.1, [], [])
theorem yw540 : ywf ys540.2.2.1 = true := by decide +kernel
theorem yk540 : yver yx540 ys540.2.2.1 4000 = true := by decide +kernel
theorem yt540 {E : zHp → Prop} (h : yEF E yFP) : yTs E 1 ys540 := yver_s (x := yx540) h (yal_n) yg293 yk540
def ys541 : ySp := (285, 2, (0, [], [], [], [(0, (0, yc 58, yc 0)), (1, (0, yc 66, yc 0))], []), [(0, [], [], [], [], [])], [])
def yx541 : yCx := ([ys540], ys541.2.2.2.2, yFP, zm285.2.2.1, zm285.2.2.2.1, zc285, 0, ys541.2.2.2.1, [], [])
theorem yw541 : ywf ys541.2.2.1 = true := by decide +kernel
theorem yk541 : yver yx541 ys541.2.2.1 4000 = true := by decide +kernel
theorem yt541 {E : zHp → Prop} (h : yEF E yFP) : yTs E 2 ys541 := yver_s (x := yx541) h (yal_c (yt540 h) (by decide) yw540 (yal_n)) yg285 yk541
def ys542 : ySp := (286, 2, (0, [], [], [], [(0, (2, yc 1023, yc 0)), (1, (0, yc 58, yc 0))], []), [(0, [], [], [], [], [(0, yc 32, yc 0)])], [])
def yx542 : yCx := ([ys541], ys542.2.2.2.2, yFP, zm286.2.2.1, zm286.2.2.2.1, zc286, 0, ys542.2.2.2.1, [], [])
theorem yw542 : ywf ys542.2.2.1 = true := by decide +kernel
theorem yk542 : yver yx542 ys542.2.2.1 4000 = true := by decide +kernel
theorem yt542 {E : zHp → Prop} (h : yEF E yFP) : yTs E 3 ys542 := yver_s (x := yx542) h (yal_c (yt541 h) (by decide) yw541 (yal_n)) yg286 yk542
def ys543 : ySp := (282, 2, (0, [], [], [], [(0, (2, yc 1004, yc 0)), (1, (0, yc 58, yc 0))], []), [(0, [], [], [], [], [(0, yc 32, yc 0)])], [])
def yx543 : yCx := ([ys307, ys542], ys543.2.2.2.2, yFP, zm282.2.2.1, zm282.2.2.2.1, zc282, 0, ys543.2.2.2.1, [], [])
theorem yw543 : ywf ys543.2.2.1 = true := by decide +kernel
theorem yk543 : yver yx543 ys543.2.2.1 4000 = true := by decide +kernel
theorem yt543 {E : zHp → Prop} (h : yEF E yFP) : yTs E 4 ys543 := yver_s (x := yx543) h (yal_c (yt307 h) (by decide) yw307 (yal_c (yt542 h) (by decide) yw542 (yal_n))) yg282 yk543
def ys544 : ySp := (293, 3, (0, [], [], [], [(0, (0, yc 59, yc 0)), (1, (0, yc 66, yc 0)), (2, (7, yc 0, yc 0))], []), [(0, [], [], [], [], [(0, yc 59, yc 0)])], [])
def yx544 : yCx := ([], ys544.2.2.2.2, yFP, zm293.2.2.1, zm293.2.2.2.1, zc293, 0, ys544.2.2.2.1, [], [])
theorem yw544 : ywf ys544.2.2.1 = true := by decide +kernel
theorem yk544 : yver yx544 ys544.2.2.1 4000 = true := by decide +kernel
theorem yt544 {E : zHp → Prop} (h : yEF E yFP) : yTs E 1 ys544 := yver_s (x := yx544) h (yal_n) yg293 yk544
def ys545 : ySp := (285, 2, (0, [], [], [], [(0, (0, yc 59, yc 0)), (1, (0, yc 66, yc 0))], []), [(0, [], [], [], [], [])], [])
def yx545 : yCx := ([ys544], ys545.2.2.2.2, yFP, zm285.2.2.1, zm285.2.2.2.1, zc285, 0, ys545.2.2.2.1, [], [])
theorem yw545 : ywf ys545.2.2.1 = true := by decide +kernel
theorem yk545 : yver yx545 ys545.2.2.1 4000 = true := by decide +kernel
theorem yt545 {E : zHp → Prop} (h : yEF E yFP) : yTs E 2 ys545 := yver_s (x := yx545) h (yal_c (yt544 h) (by decide) yw544 (yal_n)) yg285 yk545
def ys546 : ySp := (286, 2, (0, [], [], [], [(0, (2, yc 1023, yc 0)), (1, (0, yc 59, yc 0))], []), [(0, [], [], [], [], [(0, yc 116, yc 0)])], [])
def yx546 : yCx := ([ys545], ys546.2.2.2.2, yFP, zm286.2.2.1, zm286.2.2.2.1, zc286, 0, ys546.2.2.2.1, [], [])
theorem yw546 : ywf ys546.2.2.1 = true := by decide +kernel
theorem yk546 : yver yx546 ys546.2.2.1 4000 = true := by decide +kernel
theorem yt546 {E : zHp → Prop} (h : yEF E yFP) : yTs E 3 ys546 := yver_s (x := yx546) h (yal_c (yt545 h) (by decide) yw545 (yal_n)) yg286 yk546
def ys547 : ySp := (282, 2, (0, [], [], [], [(0, (2, yc 1004, yc 0)), (1, (0, yc 59, yc 0))], []), [(0, [], [], [], [], [(0, yc 116, yc 0)])], [])
def yx547 : yCx := ([ys307, ys546], ys547.2.2.2.2, yFP, zm282.2.2.1, zm282.2.2.2.1, zc282, 0, ys547.2.2.2.1, [], [])
theorem yw547 : ywf ys547.2.2.1 = true := by decide +kernel
theorem yk547 : yver yx547 ys547.2.2.1 4000 = true := by decide +kernel
theorem yt547 {E : zHp → Prop} (h : yEF E yFP) : yTs E 4 ys547 := yver_s (x := yx547) h (yal_c (yt307 h) (by decide) yw307 (yal_c (yt546 h) (by decide) yw546 (yal_n))) yg282 yk547
def ys548 : ySp := (293, 3, (0, [], [], [], [(0, (0, yc 60, yc 0)), (1, (0, yc 66, yc 0)), (2, (7, yc 0, yc 0))], []), [(0, [], [], [], [], [(0, yc 60, yc 0)])], [])
def yx548 : yCx := ([], ys548.2.2.2.2, yFP, zm293.2.2.1, zm293.2.2.2.1, zc293, 0, ys548.2.2.2.1, [], [])
theorem yw548 : ywf ys548.2.2.1 = true := by decide +kernel
theorem yk548 : yver yx548 ys548.2.2.1 4000 = true := by decide +kernel
theorem yt548 {E : zHp → Prop} (h : yEF E yFP) : yTs E 1 ys548 := yver_s (x := yx548) h (yal_n) yg293 yk548
def ys549 : ySp := (285, 2, (0, [], [], [], [(0, (0, yc 60, yc 0)), (1, (0, yc 66, yc 0))], []), [(0, [], [], [], [], [])], [])
def yx549 : yCx := ([ys548], ys549.2.2.2.2, yFP, zm285.2.2.1, zm285.2.2.2.1, zc285, 0, ys549.2.2.2.1, [], [])
theorem yw549 : ywf ys549.2.2.1 = true := by decide +kernel
theorem yk549 : yver yx549 ys549.2.2.1 4000 = true := by decide +kernel
theorem yt549 {E : zHp → Prop} (h : yEF E yFP) : yTs E 2 ys549 := yver_s (x := yx549) h (yal_c (yt548 h) (by decide) yw548 (yal_n)) yg285 yk549
def ys550 : ySp := (286, 2, (0, [], [], [], [(0, (2, yc 1023, yc 0)), (1, (0, yc 60, yc 0))], []), [(0, [], [], [], [], [(0, yc 114, yc 0)])], [])
def yx550 : yCx := ([ys549], ys550.2.2.2.2, yFP, zm286.2.2.1, zm286.2.2.2.1, zc286, 0, ys550.2.2.2.1, [], [])
theorem yw550 : ywf ys550.2.2.1 = true := by decide +kernel
theorem yk550 : yver yx550 ys550.2.2.1 4000 = true := by decide +kernel
theorem yt550 {E : zHp → Prop} (h : yEF E yFP) : yTs E 3 ys550 := yver_s (x := yx550) h (yal_c (yt549 h) (by decide) yw549 (yal_n)) yg286 yk550
def ys551 : ySp := (282, 2, (0, [], [], [], [(0, (2, yc 1004, yc 0)), (1, (0, yc 60, yc 0))], []), [(0, [], [], [], [], [(0, yc 114, yc 0)])], [])
def yx551 : yCx := ([ys307, ys550], ys551.2.2.2.2, yFP, zm282.2.2.1, zm282.2.2.2.1, zc282, 0, ys551.2.2.2.1, [], [])
theorem yw551 : ywf ys551.2.2.1 = true := by decide +kernel
theorem yk551 : yver yx551 ys551.2.2.1 4000 = true := by decide +kernel
theorem yt551 {E : zHp → Prop} (h : yEF E yFP) : yTs E 4 ys551 := yver_s (x := yx551) h (yal_c (yt307 h) (by decide) yw307 (yal_c (yt550 h) (by decide) yw550 (yal_n))) yg282 yk551
def ys552 : ySp := (293, 3, (0, [], [], [], [(0, (0, yc 61, yc 0)), (1, (0, yc 66, yc 0)), (2, (7, yc 0, yc 0))], []), [(0, [], [], [], [], [(0, yc 61, yc 0)])], [])
def yx552 : yCx := ([], ys552.2.2.2.2, yFP, zm293.2.2.1, zm293.2.2.2.1, zc293, 0, ys552.2.2.2.1, [], [])
theorem yw552 : ywf ys552.2.2.1 = true := by decide +kernel
theorem yk552 : yver yx552 ys552.2.2.1 4000 = true := by decide +kernel
theorem yt552 {E : zHp → Prop} (h : yEF E yFP) : yTs E 1 ys552 := yver_s (x := yx552) h (yal_n) yg293 yk552
def ys553 : ySp := (285, 2, (0, [], [], [], [(0, (0, yc 61, yc 0)), (1, (0, yc 66, yc 0))], []), [(0, [], [], [], [], [])], [])
def yx553 : yCx := ([ys552], ys553.2.2.2.2, yFP, zm285.2.2.1, zm285.2.2.2.1, zc285, 0, ys553.2.2.2.1, [], [])
theorem yw553 : ywf ys553.2.2.1 = true := by decide +kernel
theorem yk553 : yver yx553 ys553.2.2.1 4000 = true := by decide +kernel
theorem yt553 {E : zHp → Prop} (h : yEF E yFP) : yTs E 2 ys553 := yver_s (x := yx553) h (yal_c (yt552 h) (by decide) yw552 (yal_n)) yg285 yk553
def ys554 : ySp := (286, 2, (0, [], [], [], [(0, (2, yc 1023, yc 0)), (1, (0, yc 61, yc 0))], []), [(0, [], [], [], [], [(0, yc 117, yc 0)])], [])
def yx554 : yCx := ([ys553], ys554.2.2.2.2, yFP, zm286.2.2.1, zm286.2.2.2.1, zc286, 0, ys554.2.2.2.1, [], [])
theorem yw554 : ywf ys554.2.2.1 = true := by decide +kernel
theorem yk554 : yver yx554 ys554.2.2.1 4000 = true := by decide +kernel
theorem yt554 {E : zHp → Prop} (h : yEF E yFP) : yTs E 3 ys554 := yver_s (x := yx554) h (yal_c (yt553 h) (by decide) yw553 (yal_n)) yg286 yk554
def ys555 : ySp := (282, 2, (0, [], [], [], [(0, (2, yc 1004, yc 0)), (1, (0, yc 61, yc 0))], []), [(0, [], [], [], [], [(0, yc 117, yc 0)])], [])
def yx555 : yCx := ([ys307, ys554], ys555.2.2.2.2, yFP, zm282.2.2.1, zm282.2.2.2.1, zc282, 0, ys555.2.2.2.1, [], [])
theorem yw555 : ywf ys555.2.2.1 = true := by decide +kernel
theorem yk555 : yver yx555 ys555.2.2.1 4000 = true := by decide +kernel
theorem yt555 {E : zHp → Prop} (h : yEF E yFP) : yTs E 4 ys555 := yver_s (x := yx555) h (yal_c (yt307 h) (by decide) yw307 (yal_c (yt554 h) (by decide) yw554 (yal_n))) yg282 yk555
def ys556 : ySp := (293, 3, (0, [], [], [], [(0, (0, yc 62, yc 0)), (1, (0, yc 66, yc 0)), (2, (7, yc 0, yc 0))], []), [(0, [], [], [], [], [(0, yc 62, yc 0)])], [])
def yx556 : yCx := ([], ys556.2.2.2.2, yFP, zm293.2.2.1, zm293.2.2.2.1, zc293, 0, ys556.2.2.2.1, [], [])
theorem yw556 : ywf ys556.2.2.1 = true := by decide +kernel
theorem yk556 : yver yx556 ys556.2.2.1 4000 = true := by decide +kernel
theorem yt556 {E : zHp → Prop} (h : yEF E yFP) : yTs E 1 ys556 := yver_s (x := yx556) h (yal_n) yg293 yk556
