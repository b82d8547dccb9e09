def ys557 : ySp := (285, 2, (0, [], [], [], [(0, (0, yc 62, yc 0)), (1, (0, yc 66, yc 0))], []), [(0, [], [], [], [], [])], [])
def yx557 : yCx := ([ys556], ys557.2.2.2.2, yFP, zm285.2.2.1, zm285.2.2.2.1, zc285, 0, ys557.2.2.2.1, [], [])
theorem yw557 : ywf ys557.2.2.1 = true := by decide +kernel
theorem yk557 : yver yx557 ys557.2.2.1 4000 = true := by decide +kernel
theorem yt557 {E : zHp → Prop} (h : yEF E yFP) : yTs E 2 ys557 := yver_s (x := yx557) h (yal_c (yt556 h) (by decide) yw556 (yal_n)) yg285 yk557
def ys558 : ySp := (286, 2, (0, [], [], [], [(0, (2, yc 1023, yc 0)), (1, (0, yc 62, yc 0))], []), [(0, [], [], [], [], [(0, yc 115, yc 0)])], [])
def yx558 : yCx := ([ys557], ys558.2.2.2.2, yFP, zm286.2.2.1, zm286.2.2.2.1, zc286, 0, ys558.2.2.2.1, [], [])
theorem yw558 : ywf ys558.2.2.1 = true := by decide +kernel
theorem yk558 : yver yx558 ys558.2.2.1 4000 = true := by decide +kernel
theorem yt558 {E : zHp → Prop} (h : yEF E yFP) : yTs E 3 ys558 := yver_s (x := yx558) h (yal_c (yt557 h) (by decide) yw557 (yal_n)) yg286 yk558
def ys559 : ySp := (282, 2, (0, [], [], [], [(0, (2, yc 1004, yc 0)), (1, (0, yc 62, yc 0))], []), [(0, [], [], [], [], [(0, yc 115, yc 0)])], [])
def yx559 : yCx := ([ys307, ys558], ys559.2.2.2.2, yFP, zm282.2.2.1, zm282.2.2.2.1, zc282, 0, ys559.2.2.2.1, [], [])
theorem yw559 : ywf ys559.2.2.1 = true := by decide +kernel
theorem yk559 : yver yx559 ys559.2.2.1 4000 = true := by decide +kernel
theorem yt559 {E : zHp → Prop} (h : yEF E yFP) : yTs E 4 ys559 := yver_s (x := yx559) h (yal_c (yt307 h) (by decide) yw307 (yal_c (yt558 h) (by decide) yw558 (yal_n))) yg282 yk559
def ys560 : ySp := (293, 3, (0, [], [], [], [(0, (0, yc 63, yc 0)), (1, (0, yc 66, yc 0)), (2, (7, yc 0, yc 0))], []), [(0, [], [], [], [], [(0, yc 63, yc 0)])], [])
def yx560 : yCx := ([], ys560.2.2.2.2, yFP, zm293.2.2.1, zm293.2.2.2.1, zc293, 0, ys560.2.2.2.1, [], [])
theorem yw560 : ywf ys560.2.2.1 = true := by decide +kernel
theorem yk560 : yver yx560 ys560.2.2.1 4000 = true := by decide +kernel
theorem yt560 {E : zHp → Prop} (h : yEF E yFP) : yTs E 1 ys560 := yver_s (x := yx560) h (yal_n) yg293 yk560
def ys561 : ySp := (285, 2, (0, [], [], [], [(0, (0, yc 63, yc 0)), (1, (0, yc 66, yc 0))], []), [(0, [], [], [], [], [])], [])
def yx561 : yCx := ([ys560], ys561.2.2.2.2, yFP, zm285.2.2.1, zm285.2.2.2.1, zc285, 0, ys561.2.2.2.1, [], [])
theorem yw561 : ywf ys561.2.2.1 = true := by decide +kernel
theorem yk561 : yver yx561 ys561.2.2.1 4000 = true := by decide +kernel
theorem yt561 {E : zHp → Prop} (h : yEF E yFP) : yTs E 2 ys561 := yver_s (x := yx561) h (yal_c (yt560 h) (by decide) yw560 (yal_n)) yg285 yk561
def ys562 : ySp := (286, 2, (0, [], [], [], [(0, (2, yc 1023, yc 0)), (1, (0, yc 63, yc 0))], []), [(0, [], [], [], [], [(0, yc 116, yc 0)])], [])
def yx562 : yCx := ([ys561], ys562.2.2.2.2, yFP, zm286.2.2.1, zm286.2.2.2.1, zc286, 0, ys562.2.2.2.1, [], [])
theorem yw562 : ywf ys562.2.2.1 = true := by decide +kernel
theorem yk562 : yver yx562 ys562.2.2.1 4000 = true := by decide +kernel
theorem yt562 {E : zHp → Prop} (h : yEF E yFP) : yTs E 3 ys562 := yver_s (x := yx562) h (yal_c (yt561 h) (by decide) yw561 (yal_n)) yg286 yk562
def ys563 : ySp := (282, 2, (0, [], [], [], [(0, (2, yc 1004, yc 0)), (1, (0, yc 63, yc 0))], []), [(0, [], [], [], [], [(0, yc 116, yc 0)])], [])
def yx563 : yCx := ([ys307, ys562], ys563.2.2.2.2, yFP, zm282.2.2.1, zm282.2.2.2.1, zc282, 0, ys563.2.2.2.1, [], [])
theorem yw563 : ywf ys563.2.2.1 = true := by decide +kernel
theorem yk563 : yver yx563 ys563.2.2.1 4000 = true := by decide +kernel
theorem yt563 {E : zHp → Prop} (h : yEF E yFP) : yTs E 4 ys563 := yver_s (x := yx563) h (yal_c (yt307 h) (by decide) yw307 (yal_c (yt562 h) (by decide) yw562 (yal_n))) yg282 yk563
def ys564 : ySp := (293, 3, (0, [], [], [], [(0, (0, yc 64, yc 0)), (1, (0, yc 66, yc 0)), (2, (7, yc 0, yc 0))], []), [(0, [], [], [], [], [(0, yc 64, yc 0)])], [])
def yx564 : yCx := ([], ys564.2.2.2.2, yFP, zm293.2.2.1, zm293.2.2.2.1, zc293, 0, ys564.2.2.2.1, [], [])
theorem yw564 : ywf ys564.2.2.1 = true := by decide +kernel
theorem yk564 : yver yx564 ys564.2.2.1 4000 = true := by decide +kernel
theorem yt564 {E : zHp → Prop} (h : yEF E yFP) : yTs E 1 ys564 := yver_s (x := yx564) h (yal_n) yg293 yk564
def ys565 : ySp := (285, 2, (0, [], [], [], [(0, (0, yc 64, yc 0)), (1, (0, yc 66, yc 0))], []), [(0, [], [], [], [], [])], [])
def yx565 : yCx := ([ys564], ys565.2.2.2.2, yFP, zm285.2.2.1, zm285.2.2.2.1, zc285, 0, ys565.2.2.2.1, [], [])
theorem yw565 : ywf ys565.2.2.1 = true := by decide +kernel
theorem yk565 : yver yx565 ys565.2.2.1 4000 = true := by decide +kernel
theorem yt565 {E : zHp → Prop} (h : yEF E yFP) : yTs E 2 ys565 := yver_s (x := yx565) h (yal_c (yt564 h) (by decide) yw564 (yal_n)) yg285 yk565
def ys566 : ySp := (286, 2, (0, [], [], [], [(0, (2, yc 1023, yc 0)), (1, (0, yc 64, yc 0))], []), [(0, [], [], [], [], [(0, yc 115, yc 0)])], [])
def yx566 : yCx := ([ys565], ys566.2.2.2.2, yFP, zm286.2.2.1, zm286.2.2.2.1, zc286, 0, ys566.2.2.2.1, [], [])
theorem yw566 : ywf ys566.2.2.1 = true := by decide +kernel
theorem yk566 : yver yx566 ys566.2.2.1 4000 = true := by decide +kernel
theorem yt566 {E : zHp → Prop} (h : yEF E yFP) : yTs E 3 ys566 := yver_s (x := yx566) h (yal_c (yt565 h) (by decide) yw565 (yal_n)) yg286 yk566
def ys567 : ySp := (282, 2, (0, [], [], [], [(0, (2, yc 1004, yc 0)), (1, (0, yc 64, yc 0))], []), [(0, [], [], [], [], [(0, yc 115, yc 0)])], [])
def yx567 : yCx := ([ys307, ys566], ys567.2.2.2.2, yFP, zm282.2.2.1, zm282.2.2.2.1, zc282, 0, ys567.2.2.2.1, [], [])
theorem yw567 : ywf ys567.2.2.1 = true := by decide +kernel
theorem yk567 : yver yx567 ys567.2.2.1 4000 = true := by decide +kernel
theorem yt567 {E : zHp → Prop} (h : yEF E yFP) : yTs E 4 ys567 := yver_s (x := yx567) h (yal_c (yt307 h) (by decide) yw307 (yal_c (yt566 h) (by decide) yw566 (yal_n))) yg282 yk567
def ys568 : ySp := (293, 3, (0, [], [], [], [(0, (0, yc 65, yc 0)), (1, (0, yc 66, yc 0)), (2, (7, yc 0, yc 0))], []), [(0, [], [], [], [], [(0, yc 65, yc 0)])], [])
def yx568 : yCx := ([], ys568.2.2.2.2, yFP, zm293.2.2.1, zm293.2.2.2.1, zc293, 0, ys568.2.2.2.1, [], [])
theorem yw568 : ywf ys568.2.2.1 = true := by decide +kernel
theorem yk568 : yver yx568 ys568.2.2.1 4000 = true := by decide +kernel
theorem yt568 {E : zHp → Prop} (h : yEF E yFP) : yTs E 1 ys568 := yver_s (x := yx568) h (yal_n) yg293 yk568
def ys569 : ySp := (285, 2, (0, [], [], [], [(0, (0, yc 65, yc 0)), (1, (0, yc 66, yc 0))], []), [(0, [], [], [], [], [])], [])
def yx569 : yCx := ([ys568], ys569.2.2.2.2, yFP, zm285.2.2.1, zm285.2.2.2.1, zc285, 0, ys569.2.2.2.1, [], [])
theorem yw569 : ywf ys569.2.2.1 = true := by decide +kernel
theorem yk569 : yver yx569 ys569.2.2.1 4000 = true := by decide +kernel
theorem yt569 {E : zHp → Prop} (h : yEF E yFP) : yTs E 2 ys569 := yver_s (x := yx569) h (yal_c (yt568 h) (by decide) yw568 (yal_n)) yg285 yk569
def ys570 : ySp := (286, 2, (0, [], [], [], [(0, (2, yc 1023, yc 0)), (1, (0, yc 65, yc 0))], []), [(0, [], [], [], [], [(0, yc 32, yc 0)])], [])
def yx570 : yCx := ([ys569], ys570.2.2.2.2, yFP, zm286.2.2.1, zm286.2.2.2.1, zc286, 0, ys570.2.2.2.1, [], [])
theorem yw570 : ywf ys570.2.2.1 = true := by decide +kernel
theorem yk570 : yver yx570 ys570.2.2.1 4000 = true := by decide +kernel
theorem yt570 {E : zHp → Prop} (h : yEF E yFP) : yTs E 3 ys570 := yver_s (x := yx570) h (yal_c (yt569 h) (by decide) yw569 (yal_n)) yg286 yk570
def ys571 : ySp := (282, 2, (0, [], [], [], [(0, (2, yc 1004, yc 0)), (1, (0, yc 65, yc 0))], []), [(0, [], [], [], [], [(0, yc 32, yc 0)])], [])
def yx571 : yCx := ([ys307, ys570], ys571.2.2.2.2, yFP, zm282.2.2.1, zm282.2.2.2.1, zc282, 0, ys571.2.2.2.1, [], [])
theorem yw571 : ywf ys571.2.2.1 = true := by decide +kernel
theorem yk571 : yver yx571 ys571.2.2.1 4000 = true := by decide +kernel
theorem yt571 {E : zHp → Prop} (h : yEF E yFP) : yTs E 4 ys571 := yver_s (x := yx571) h (yal_c (yt307 h) (by decide) yw307 (yal_c (yt570 h) (by decide) yw570 (yal_n))) yg282 yk571
