def ys635 : ySp := (285, 2, (0, [], [], [], [(0, (0, yc 2, yc 0)), (1, (0, yc 3, yc 0))], []), [(0, [], [], [], [], [])], [])
def yx635 : yCx := ([ys634], ys635.2.2.2.2, yFP, zm285.2.2.1, zm285.2.2.2.1, zc285, 0, ys635.2.2.2.1, [], [])
theorem yw635 : ywf ys635.2.2.1 = true := by decide +kernel
theorem yk635 : yver yx635 ys635.2.2.1 4000 = true := by decide +kernel
theorem yt635 {E : zHp → Prop} (h : yEF E yFP) : yTs E 2 ys635 := yver_s (x := yx635) h (yal_c (yt634 h) (by decide) yw634 (yal_n)) yg285 yk635
def ys636 : ySp := (286, 2, (0, [], [], [], [(0, (2, yc 1024, yc 0)), (1, (0, yc 2, yc 0))], []), [(0, [], [], [], [], [(0, yc 32, yc 0)])], [])
def yx636 : yCx := ([ys635], ys636.2.2.2.2, yFP, zm286.2.2.1, zm286.2.2.2.1, zc286, 0, ys636.2.2.2.1, [], [])
theorem yw636 : ywf ys636.2.2.1 = true := by decide +kernel
theorem yk636 : yver yx636 ys636.2.2.1 4000 = true := by decide +kernel
theorem yt636 {E : zHp → Prop} (h : yEF E yFP) : yTs E 3 ys636 := yver_s (x := yx636) h (yal_c (yt635 h) (by decide) yw635 (yal_n)) yg286 yk636
def ys637 : ySp := (282, 2, (0, [], [], [], [(0, (2, yc 1005, yc 0)), (1, (0, yc 2, yc 0))], []), [(0, [], [], [], [], [(0, yc 32, yc 0)])], [])
def yx637 : yCx := ([ys625, ys636], ys637.2.2.2.2, yFP, zm282.2.2.1, zm282.2.2.2.1, zc282, 0, ys637.2.2.2.1, [], [])
theorem yw637 : ywf ys637.2.2.1 = true := by decide +kernel
theorem yk637 : yver yx637 ys637.2.2.1 4000 = true := by decide +kernel
theorem yt637 {E : zHp → Prop} (h : yEF E yFP) : yTs E 4 ys637 := yver_s (x := yx637) h (yal_c (yt625 h) (by decide) yw625 (yal_c (yt636 h) (by decide) yw636 (yal_n))) yg282 yk637
def ys638 : ySp := (59, 6, (1, [(0, 0, 2147483647)], [], [(yc 2, yc 0, (2, yc 1, yc 0)), (yc 2, yc 4, (0, (1, 0, 0), yc 0))], [(0, (2, yc 2, yc 0)), (1, (2, yc 1005, yc 0))], []), [(3, [(1, 0, 400), (2, 0, 400)], [], [(yc 2, yc 0, (2, yc 1, yc 0)), (yc 2, yc 4, (0, (1, 0, 0), yc 0)), (yc 2, yc 2, (0, (1, 1, 0), yc 0)), (yc 2, yc 1, (0, (1, 2, 0), yc 0))], [], [(0, yc (-1), yc 0)]), (3, [(1, 0, 400), (2, 0, 400)], [], [(yc 2, yc 0, (2, yc 1, yc 0)), (yc 2, yc 4, (0, (1, 0, 0), yc 0)), (yc 2, yc 1, (0, (1, 1, 0), yc 0)), (yc 2, yc 2, (0, (1, 2, 0), yc 0))], [], [(0, yc 0, yc 0)])], [(2, 2, 2), (2, 2, 3)])
def yx638 : yCx := ([ys247, ys248, ys624, ys629, ys633, ys637], ys638.2.2.2.2, yFP, zm59.2.2.1, zm59.2.2.2.1, zc59, 1, ys638.2.2.2.1, [(18, (4, [(0, 0, 2147483647), (1, 0, 400), (2, 0, 400), (3, 0, 400)], [], [(yc 2, yc 0, (2, yc 1, yc 0)), (yc 2, yc 4, (0, (1, 0, 0), yc 0)), (yc 2, yc 2, (0, (1, 2, 0), yc 0)), (yc 2, yc 1, (0, (1, 3, 0), yc 0)), (yc 2, yc 3, (0, (1, 2, 0), yc 0))], [(0, (2, yc 2, yc 0)), (1, (2, yc 1005, yc 0)), (2, (0, (1, 1, 0), yc 0))], []), ([((-1), 1)], 404)), (55, (4, [(0, 0, 2147483647), (1, 0, 400), (2, 0, 400), (3, 0, 400)], [], [(yc 2, yc 0, (2, yc 1, yc 0)), (yc 2, yc 4, (0, (1, 0, 0), yc 0)), (yc 2, yc 2, (0, (1, 2, 0), yc 0)), (yc 2, yc 1, (0, (1, 3, 0), yc 0)), (yc 2, yc 3, (0, (1, 2, 0), yc 0))], [(0, (2, yc 2, yc 0)), (1, (2, yc 1005, yc 0)), (2, (0, (1, 1, 0), yc 0)), (3, (0, yc 0, yc 0)), (4, (0, (1, 2, 0), yc 0)), (5, (0, yc 0, yc 0))], []), ([], 3)), (55, (5, [(0, 0, 2147483647), (1, 0, 400), (2, (-1), 400), (3, 0, 400), (4, 0, 400)], [([(1, 1), ((-1), 2)], 0)], [(yc 2, yc 0, (2, yc 1, yc 0)), (yc 2, yc 4, (0, (1, 0, 0), yc 0)), (yc 2, yc 2, (0, (1, 3, 0), yc 0)), (yc 2, yc 1, (0, (1, 4, 0), yc 0)), (yc 2, yc 3, (0, (1, 3, 0), yc 0))], [(0, (2, yc 2, yc 0)), (1, (2, yc 1005, yc 0)), (2, (0, (1, 1, 0), yc 0)), (3, (0, yc 0, yc 0)), (4, (0, (1, 2, 0), yc 0)), (5, (0, yc 1, yc 0))], []), ([], 2)), (55, (5, [(0, 0, 2147483647), (1, 0, 400), (2, (-1), 400), (3, 0, 400), (4, 0, 400)], [([(1, 1), ((-1), 2)], 1), ([(1, 1), ((-1), 2)], 0)], [(yc 2, yc 0, (2, yc 1, yc 0)), (yc 2, yc 4, (0, (1, 0, 0), yc 0)), (yc 2, yc 2, (0, (1, 3, 0), yc 0)), (yc 2, yc 1, (0, (1, 4, 0), yc 0)), (yc 2, yc 3, (0, (1, 3, 0), yc 0))], [(0, (2, yc 2, yc 0)), (1, (2, yc 1005, yc 0)), (2, (0, (1, 1, 0), yc 0)), (3, (0, yc 0, yc 0)), (4, (0, (1, 2, 0), yc 0)), (5, (0, yc 2, yc 0))], []), ([], 1)), (55, (4, [(0, 0, 2147483647), (1, 0, 400), (2, 0, 400), (3, 0, 400)], [], [(yc 2, yc 0, (2, yc 1, yc 0)), (yc 2, yc 4, (0, (1, 0, 0), yc 0)), (yc 2, yc 2, (0, (1, 2, 0), yc 0)), (yc 2, yc 1, (0, (1, 3, 0), yc 0)), (yc 2, yc 3, (0, (1, 2, 0), yc 0))], [(0, (2, yc 2, yc 0)), (1, (2, yc 1005, yc 0)), (2, (0, (1, 1, 0), yc 0)), (3, (0, yc 1, yc 0)), (4, (0, (1, 2, 0), yc 0)), (5, (0, yc 3, yc 0))], []), ([], 0))], [])
theorem yw638 : ywf ys638.2.2.1 = true := by decide +kernel
theorem yk638 : yver yx638 ys638.2.2.1 4000 = true := by decide +kernel
theorem yt638 {E : zHp → Prop} (h : yEF E yFP) : yTs E 5 ys638 := yver_s (x := yx638) h (yal_c (yt247 h) (by decide) yw247 (yal_c (yt248 h) (by decide) yw248 (yal_c (yt624 h) (by decide) yw624 (yal_c (yt629 h) (by decide) yw629 (yal_c (yt633 h) (by decide) yw633 (yal_c (yt637 h) (by decide) yw637 (yal_n))))))) yg59 yk638
def ys639 : ySp := (40, 2, (1, [(0, 0, 2147483647)], [], [(yc 2, yc 0, (2, yc 1, yc 0)), (yc 2, yc 4, (0, (1, 0, 0), yc 0))], [(0, (2, yc 6, yc 0)), (1, (2, yc 2, yc 0))], []), [(4, [(1, 0, 2147483647), (2, 0, 400), (3, 0, 400)], [], [(yc 2, yc 0, (2, yc 1, yc 0)), (yc 2, yc 4, (0, (1, 1, 0), yc 0)), (yc 2, yc 1, (0, (1, 2, 0), yc 0)), (yc 2, yc 2, (0, (1, 3, 0), yc 0))], [], [])], [(2, 2, 2), (2, 2, 3), (2, 2, 4), (6, 6, 1), (6, 6, 3), (6, 6, 6), (6, 6, 8), (7, 7, 1000)])
def yx639 : yCx := ([ys616, ys610, ys638], ys639.2.2.2.2, yFP, zm40.2.2.1, zm40.2.2.2.1, zc40, 1, ys639.2.2.2.1, [], [])
theorem yw639 : ywf ys639.2.2.1 = true := by decide +kernel
theorem yk639 : yver yx639 ys639.2.2.1 4000 = true := by decide +kernel
theorem yt639 {E : zHp → Prop} (h : yEF E yFP) : yTs E 6 ys639 := yver_s (x := yx639) h (yal_c (yt616 h) (by decide) yw616 (yal_c (yt610 h) (by decide) yw610 (yal_c (yt638 h) (by decide) yw638 (yal_n)))) yg40 yk639
def ys640 : ySp := (55, 2, (2, [(0, 0, 63), (1, 0, 2147483647)], [], [(yc 2, yc 0, (2, yc 1, yc 0)), (yc 2, yc 4, (0, (1, 1, 0), yc 0))], [(0, (2, yc 2, yc 0)), (1, (0, (1, 0, 0), yc 0))], []), [(4, [(2, 0, 400), (3, 0, 400)], [], [(yc 2, yc 0, (2, yc 1, yc 0)), (yc 2, yc 4, (0, (1, 1, 0), yc 0)), (yc 2, yc 2, (0, (1, 2, 0), yc 0)), (yc 2, yc 1, (0, (1, 3, 0), yc 0))], [], [(0, yc 0, yc 0)]), (4, [(2, 1, 400), (3, 1, 400)], [([(1, 2), ((-1), 3)], 0)], [(yc 2, yc 0, (2, yc 1, yc 0)), (yc 2, yc 4, (0, (1, 1, 0), yc 0)), (yc 2, yc 1, (0, (1, 2, 0), yc 0)), (yc 2, yc 2, (0, (1, 3, 0), yc 0))], [], [(0, yc 1, yc 0)])], [(2, 2, 2)])
def yx640 : yCx := ([], ys640.2.2.2.2, yFP, zm55.2.2.1, zm55.2.2.2.1, zc55, 2, ys640.2.2.2.1, [], [])
theorem yw640 : ywf ys640.2.2.1 = true := by decide +kernel
theorem yk640 : yver yx640 ys640.2.2.1 4000 = true := by decide +kernel
theorem yt640 {E : zHp → Prop} (h : yEF E yFP) : yTs E 1 ys640 := yver_s (x := yx640) h (yal_n) yg55 yk640
def ys641 : ySp := (41, 4, (1, [(0, 0, 2147483647)], [], [(yc 2, yc 0, (2, yc 1, yc 0)), (yc 2, yc 4, (0, (1, 0, 0), yc 0))], [(0, (2, yc 6, yc 0)), (1, (2, yc 2, yc 0))], []), [(4, [(1, 0, 400), (2, 0, 400), (3, 0, 2147483647)], [], [(yc 2, yc 0, (2, yc 1, yc 0)), (yc 2, yc 2, (0, (1, 1, 0), yc 0)), (yc 2, yc 1, (0, (1, 2, 0), yc 0)), (yc 2, yc 4, (0, (1, 3, 0), yc 0))], [], [])], [(2, 2, 2), (2, 2, 4), (6, 6, 1), (6, 6, 3), (6, 6, 5), (6, 6, 6), (6, 6, 8), (6, 6, 9), (7, 7, 1000), (8, 8, 1000)])
def yx641 : yCx := ([ys303, ys622, ys273, ys247, ys277, ys640], ys641.2.2.2.2, yFP, zm41.2.2.1, zm41.2.2.2.1, zc41, 1, ys641.2.2.2.1, [], [])
theorem yw641 : ywf ys641.2.2.1 = true := by decide +kernel
theorem yk641 : yver yx641 ys641.2.2.1 4000 = true := by decide +kernel
theorem yt641 {E : zHp → Prop} (h : yEF E yFP) : yTs E 4 ys641 := yver_s (x := yx641) h (yal_c (yt303 h) (by decide) yw303 (yal_c (yt622 h) (by decide) yw622 (yal_c (yt273 h) (by decide) yw273 (yal_c (yt247 h) (by decide) yw247 (yal_c (yt277 h) (by decide) yw277 (yal_c (yt640 h) (by decide) yw640 (yal_n))))))) yg41 yk641
def ys642 : ySp := (39, 1, (1, [(0, (-1), 5)], [], [], [(0, (0, (1, 0, 0), yc 0))], []), [(1, [], [], [], [], [(0, yc (-1), yc 0)])], [])
def yx642 : yCx := ([], ys642.2.2.2.2, yFP, zm39.2.2.1, zm39.2.2.2.1, zc39, 1, ys642.2.2.2.1, [], [])
theorem yw642 : ywf ys642.2.2.1 = true := by decide +kernel
theorem yk642 : yver yx642 ys642.2.2.1 4000 = true := by decide +kernel
theorem yt642 {E : zHp → Prop} (h : yEF E yFP) : yTs E 1 ys642 := yver_s (x := yx642) h (yal_n) yg39 yk642
def ys643 : ySp := (38, 3, (1, [(0, 0, 2147483647)], [], [(yc 2, yc 0, (2, yc 1, yc 0)), (yc 2, yc 4, (0, (1, 0, 0), yc 0))], [(0, (2, yc 6, yc 0)), (1, (2, yc 2, yc 0))], []), [(4, [(1, 0, 2147483647), (2, 0, 400), (3, 0, 400)], [], [(yc 2, yc 0, (2, yc 1, yc 0)), (yc 2, yc 4, (0, (1, 1, 0), yc 0)), (yc 2, yc 1, (0, (1, 2, 0), yc 0)), (yc 2, yc 2, (0, (1, 3, 0), yc 0))], [], [])], [(2, 2, 2), (2, 2, 3), (2, 2, 4), (6, 6, 1), (6, 6, 3), (6, 6, 5), (6, 6, 6), (6, 6, 7), (6, 6, 8), (6, 6, 9), (7, 7, 1000), (8, 8, 1000)])
def yx643 : yCx := ([ys642, ys619, ys639, ys641, ys618, ys622, ys247, ys277], ys643.2.2.2.2, yFP, zm38.2.2.1, zm38.2.2.2.1, zc38, 1, ys643.2.2.2.1, [], [])
theorem yw643 : ywf ys643.2.2.1 = true := by decide +kernel
theorem yk643 : yver yx643 ys643.2.2.1 4000 = true := by decide +kernel
theorem yt643 {E : zHp → Prop} (h : yEF E yFP) : yTs E 7 ys643 := yver_s (x := yx643) h (yal_c (yt642 h) (by decide) yw642 (yal_c (yt619 h) (by decide) yw619 (yal_c (yt639 h) (by decide) yw639 (yal_c (yt641 h) (by decide) yw641 (yal_c (yt618 h) (by decide) yw618 (yal_c (yt622 h) (by decide) yw622 (yal_c (yt247 h) (by decide) yw247 (yal_c (yt277 h) (by decide) yw277 (yal_n))))))))) yg38 yk643
def ys644 : ySp := (50, 3, (1, [(0, 0, 400)], [], [], [(0, (2, yc 2, yc 0)), (1, (2, yc 1, yc 0)), (2, (0, (1, 0, 0), yc 0))], []), [(2, [(1, 0, 400)], [], [(yc 2, yc 0, (2, yc 1, yc 0)), (yc 2, yc 1, (0, (1, 1, 0), yc 0)), (yc 2, yc 2, (0, yc 0, yc 0)), (yc 2, yc 4, (0, yc 0, yc 0))], [], [])], [(2, 2, 0), (2, 2, 1), (2, 2, 2), (2, 2, 4)])
def yx644 : yCx := ([], ys644.2.2.2.2, yFP, zm50.2.2.1, zm50.2.2.2.1, zc50, 1, ys644.2.2.2.1, [], [])
theorem yw644 : ywf ys644.2.2.1 = true := by decide +kernel
theorem yk644 : yver yx644 ys644.2.2.1 4000 = true := by decide +kernel
theorem yt644 {E : zHp → Prop} (h : yEF E yFP) : yTs E 1 ys644 := yver_s (x := yx644) h (yal_n) yg50 yk644
def ys645 : ySp := (127, 1, (0, [], [], [], [(0, (2, yc 0, yc 0))], []), [(1, [(0, 0, 400)], [], [(yc 2, yc 0, (2, yc 1, yc 0)), (yc 2, yc 1, (0, (1, 0, 0), yc 0)), (yc 2, yc 2, (0, yc 0, yc 0)), (yc 2, yc 4, (0, yc 0, yc 0))], [], [])], [(0, 0, 1), (2, 2, 0), (2, 2, 1), (2, 2, 2), (2, 2, 4)])
def yx645 : yCx := ([ys644], ys645.2.2.2.2, yFP, zm127.2.2.1, zm127.2.2.2.1, zc127, 0, ys645.2.2.2.1, [], [])
theorem yw645 : ywf ys645.2.2.1 = true := by decide +kernel
theorem yk645 : yver yx645 ys645.2.2.1 4000 = true := by decide +kernel
theorem yt645 {E : zHp → Prop} (h : yEF E yFP) : yTs E 2 ys645 := yver_s (x := yx645) h (yal_c (yt644 h) (by decide) yw644 (yal_n)) yg127 yk645
def ys648 : ySp := (68, 2, (0, [], [], [], [(0, (2, yc 9, yc 0)), (1, (2, yc 40, yc 0))], []), [(0, [], [], [], [], [])], [(40, 40, 1000)])
def yx648 : yCx := ([], ys648.2.2.2.2, yFP, zm68.2.2.1, zm68.2.2.2.1, zc68, 0, ys648.2.2.2.1, [], [])
theorem yw648 : ywf ys648.2.2.1 = true := by decide +kernel
theorem yk648 : yver yx648 ys648.2.2.1 4000 = true := by decide +kernel
theorem yt648 {E : zHp → Prop} (h : yEF E yFP) : yTs E 1 ys648 := yver_s (x := yx648) h (yal_n) yg68 yk648
def ys649 : ySp := (81, 1, (0, [], [], [], [(0, (2, yc 9, yc 0))], []), [(1, [(0, (-2147483648), 2147483647)], [], [], [], [(0, (1, 0, 0), yc 0)])], [])
def yx649 : yCx := ([], ys649.2.2.2.2, yFP, zm81.2.2.1, zm81.2.2.2.1, zc81, 0, ys649.2.2.2.1, [], [])
theorem yw649 : ywf ys649.2.2.1 = true := by decide +kernel
theorem yk649 : yver yx649 ys649.2.2.1 4000 = true := by decide +kernel
theorem yt649 {E : zHp → Prop} (h : yEF E yFP) : yTs E 1 ys649 := yver_s (x := yx649) h (yal_n) yg81 yk649
def ys650 : ySp := (68, 2, (0, [], [], [], [(0, (2, yc 9, yc 0)), (1, (2, yc 39, yc 0))], []), [(0, [], [], [], [], [])], [(39, 39, 1000)])
def yx650 : yCx := ([], ys650.2.2.2.2, yFP, zm68.2.2.1, zm68.2.2.2.1, zc68, 0, ys650.2.2.2.1, [], [])
theorem yw650 : ywf ys650.2.2.1 = true := by decide +kernel
theorem yk650 : yver yx650 ys650.2.2.1 4000 = true := by decide +kernel
theorem yt650 {E : zHp → Prop} (h : yEF E yFP) : yTs E 1 ys650 := yver_s (x := yx650) h (yal_n) yg68 yk650
def ys651 : ySp := (68, 2, (0, [], [], [], [(0, (2, yc 9, yc 0)), (1, (2, yc 38, yc 0))], []), [(0, [], [], [], [], [])], [(38, 38, 1000)])
def yx651 : yCx := ([], ys651.2.2.2.2, yFP, zm68.2.2.1, zm68.2.2.2.1, zc68, 0, ys651.2.2.2.1, [], [])
theorem yw651 : ywf ys651.2.2.1 = true := by decide +kernel
theorem yk651 : yver yx651 ys651.2.2.1 4000 = true := by decide +kernel
theorem yt651 {E : zHp → Prop} (h : yEF E yFP) : yTs E 1 ys651 := yver_s (x := yx651) h (yal_n) yg68 yk651
def ys652 : ySp := (68, 2, (0, [], [], [], [(0, (2, yc 9, yc 0)), (1, (2, yc 37, yc 0))], []), [(0, [], [], [], [], [])], [(37, 37, 1000)])
def yx652 : yCx := ([], ys652.2.2.2.2, yFP, zm68.2.2.1, zm68.2.2.2.1, zc68, 0, ys652.2.2.2.1, [], [])
theorem yw652 : ywf ys652.2.2.1 = true := by decide +kernel
theorem yk652 : yver yx652 ys652.2.2.1 4000 = true := by decide +kernel
theorem yt652 {E : zHp → Prop} (h : yEF E yFP) : yTs E 1 ys652 := yver_s (x := yx652) h (yal_n) yg68 yk652
def ys654 : ySp := (14, 1, (0, [], [], [], [(0, (2, yc 14, yc 0))], []), [(1, [(0, 0, 20)], [], [], [], [(0, (1, 0, 0), yc 0)])], [])
def yx654 : yCx := ([], ys654.2.2.2.2, yFP, zm14.2.2.1, zm14.2.2.2.1, zc14, 0, ys654.2.2.2.1, [], [])
theorem yw654 : ywf ys654.2.2.1 = true := by decide +kernel
theorem yk654 : yver yx654 ys654.2.2.1 4000 = true := by decide +kernel
theorem yt654 {E : zHp → Prop} (h : yEF E yFP) : yTs E 1 ys654 := yver_s (x := yx654) h (yal_n) yg14 yk654
def ys655 : ySp := (96, 3, (0, [], [], [], [(0, (2, yc 9, yc 0))], []), [(1, [(0, (-2147483648), 2147483647)], [], [], [], [(0, (1, 0, 0), yc 0)])], [])
def yx655 : yCx := ([], ys655.2.2.2.2, yFP, zm96.2.2.1, zm96.2.2.2.1, zc96, 0, ys655.2.2.2.1, [(5, (2, [(0, (-2147483648), 2147483647), (1, 78, 114)], [], [], [(0, (2, yc 9, yc 0)), (1, (0, (1, 0, 0), yc 0)), (2, (0, (1, 1, 0), yc 0))], []), ([((-1), 1)], 115))], [])
theorem yw655 : ywf ys655.2.2.1 = true := by decide +kernel
theorem yk655 : yver yx655 ys655.2.2.1 4000 = true := by decide +kernel
theorem yt655 {E : zHp → Prop} (h : yEF E yFP) : yTs E 1 ys655 := yver_s (x := yx655) h (yal_n) yg96 yk655
def ys656 : ySp := (80, 1, (1, [(0, 0, 6)], [], [(yc 10, yc 3, (0, (1, 0, 0), yc 0))], [(0, (2, yc 9, yc 0))], []), [(1, [], [], [(yc 10, yc 3, (0, (1, 0, 0), yc 0))], [], [(0, (1, 0, 0), yc 0)])], [])
def yx656 : yCx := ([], ys656.2.2.2.2, yFP, zm80.2.2.1, zm80.2.2.2.1, zc80, 1, ys656.2.2.2.1, [], [])
theorem yw656 : ywf ys656.2.2.1 = true := by decide +kernel
theorem yk656 : yver yx656 ys656.2.2.1 4000 = true := by decide +kernel
theorem yt656 {E : zHp → Prop} (h : yEF E yFP) : yTs E 1 ys656 := yver_s (x := yx656) h (yal_n) yg80 yk656
def ys659 : ySp := (89, 3, (1, [(0, 0, 5)], [], [], [(0, (2, yc 9, yc 0)), (1, (0, (1, 0, 0), yc 0)), (2, (0, yc 4, yc 0))], []), [(2, [(1, (-2147483648), 2147483647)], [], [], [], [(0, (1, 1, 0), yc 0)])], [])
def yx659 : yCx := ([], ys659.2.2.2.2, yFP, zm89.2.2.1, zm89.2.2.2.1, zc89, 1, ys659.2.2.2.1, [], [])
theorem yw659 : ywf ys659.2.2.1 = true := by decide +kernel
theorem yk659 : yver yx659 ys659.2.2.1 4000 = true := by decide +kernel
theorem yt659 {E : zHp → Prop} (h : yEF E yFP) : yTs E 1 ys659 := yver_s (x := yx659) h (yal_n) yg89 yk659
def ys660 : ySp := (106, 2, (1, [(0, 0, 5)], [], [], [(0, (2, yc 9, yc 0)), (1, (0, (1, 0, 0), yc 0))], []), [(1, [], [], [], [], [(0, yc 0, yc 0)]), (1, [], [], [], [], [(0, yc 1, yc 0)])], [])
def yx660 : yCx := ([ys659], ys660.2.2.2.2, yFP, zm106.2.2.1, zm106.2.2.2.1, zc106, 1, ys660.2.2.2.1, [], [])
theorem yw660 : ywf ys660.2.2.1 = true := by decide +kernel
theorem yk660 : yver yx660 ys660.2.2.1 4000 = true := by decide +kernel
theorem yt660 {E : zHp → Prop} (h : yEF E yFP) : yTs E 2 ys660 := yver_s (x := yx660) h (yal_c (yt659 h) (by decide) yw659 (yal_n)) yg106 yk660
def ys661 : ySp := (110, 3, (0, [], [], [], [(0, (2, yc 9, yc 0))], []), [(1, [(0, (-2147483648), 2147483647)], [], [], [], [(0, (1, 0, 0), yc 0)])], [])
def yx661 : yCx := ([ys656, ys660], ys661.2.2.2.2, yFP, zm110.2.2.1, zm110.2.2.2.1, zc110, 0, ys661.2.2.2.1, [(4, (2, [(0, (-2147483648), 2147483647), (1, 0, 6)], [], [], [(0, (2, yc 9, yc 0)), (1, (0, (1, 0, 0), yc 0)), (2, (0, (1, 1, 0), yc 0))], []), ([((-1), 1)], 7))], [])
theorem yw661 : ywf ys661.2.2.1 = true := by decide +kernel
theorem yk661 : yver yx661 ys661.2.2.1 4000 = true := by decide +kernel
theorem yt661 {E : zHp → Prop} (h : yEF E yFP) : yTs E 3 ys661 := yver_s (x := yx661) h (yal_c (yt656 h) (by decide) yw656 (yal_c (yt660 h) (by decide) yw660 (yal_n))) yg110 yk661
def ys662 : ySp := (82, 1, (0, [], [], [], [(0, (2, yc 9, yc 0))], []), [(1, [(0, (-2147483648), 2147483647)], [], [], [], [(0, (1, 0, 0), yc 0)])], [])
def yx662 : yCx := ([], ys662.2.2.2.2, yFP, zm82.2.2.1, zm82.2.2.2.1, zc82, 0, ys662.2.2.2.1, [], [])
theorem yw662 : ywf ys662.2.2.1 = true := by decide +kernel
theorem yk662 : yver yx662 ys662.2.2.1 4000 = true := by decide +kernel
theorem yt662 {E : zHp → Prop} (h : yEF E yFP) : yTs E 1 ys662 := yver_s (x := yx662) h (yal_n) yg82 yk662
def ys663 : ySp := (79, 1, (1, [(0, 0, 6)], [], [(yc 10, yc 2, (0, (1, 0, 0), yc 0))], [(0, (2, yc 9, yc 0))], []), [(1, [], [], [(yc 10, yc 2, (0, (1, 0, 0), yc 0))], [], [(0, (1, 0, 0), yc 0)])], [])
def yx663 : yCx := ([], ys663.2.2.2.2, yFP, zm79.2.2.1, zm79.2.2.2.1, zc79, 1, ys663.2.2.2.1, [], [])
theorem yw663 : ywf ys663.2.2.1 = true := by decide +kernel
theorem yk663 : yver yx663 ys663.2.2.1 4000 = true := by decide +kernel
theorem yt663 {E : zHp → Prop} (h : yEF E yFP) : yTs E 1 ys663 := yver_s (x := yx663) h (yal_n) yg79 yk663
def ys664 : ySp := (78, 1, (0, [], [], [], [(0, (2, yc 9, yc 0))], []), [(1, [(0, (-2147483648), 2147483647)], [], [], [], [(0, (1, 0, 0), yc 0)])], [])
def yx664 : yCx := ([], ys664.2.2.2.2, yFP, zm78.2.2.1, zm78.2.2.2.1, zc78, 0, ys664.2.2.2.1, [], [])
theorem yw664 : ywf ys664.2.2.1 = true := by decide +kernel
theorem yk664 : yver yx664 ys664.2.2.1 4000 = true := by decide +kernel
theorem yt664 {E : zHp → Prop} (h : yEF E yFP) : yTs E 1 ys664 := yver_s (x := yx664) h (yal_n) yg78 yk664
def ys665 : ySp := (77, 1, (1, [(0, 0, 6)], [], [(yc 10, yc 0, (0, (1, 0, 0), yc 0))], [(0, (2, yc 9, yc 0))], []), [(1, [], [], [(yc 10, yc 0, (0, (1, 0, 0), yc 0))], [], [(0, (1, 0, 0), yc 0)])], [])
def yx665 : yCx := ([], ys665.2.2.2.2, yFP, zm77.2.2.1, zm77.2.2.2.1, zc77, 1, ys665.2.2.2.1, [], [])
theorem yw665 : ywf ys665.2.2.1 = true := by decide +kernel
theorem yk665 : yver yx665 ys665.2.2.1 4000 = true := by decide +kernel
theorem yt665 {E : zHp → Prop} (h : yEF E yFP) : yTs E 1 ys665 := yver_s (x := yx665) h (yal_n) yg77 yk665
def ys666 : ySp := (154, 2, (1, [(0, (-2147483648), 2147483647)], [], [], [(0, (2, yc 0, yc 0)), (1, (0, (1, 0, 0), yc 0))], []), [(1, [], [], [], [], [(0, yc (-1), yc 0)]), (2, [(0, 0, 11), (1, (-2147483648), 2147483647)], [], [], [], [(0, (1, 1, 0), yc 0)])], [])
def yx666 : yCx := ([ys654, ys665, ys664, ys663, ys656, ys649, ys662, ys655, ys661], ys666.2.2.2.2, yFP, zm154.2.2.1, zm154.2.2.2.1, zc154, 1, ys666.2.2.2.1, [], [])
theorem yw666 : ywf ys666.2.2.1 = true := by decide +kernel
theorem yk666 : yver yx666 ys666.2.2.1 4000 = true := by decide +kernel
theorem yt666 {E : zHp → Prop} (h : yEF E yFP) : yTs E 4 ys666 := yver_s (x := yx666) h (yal_c (yt654 h) (by decide) yw654 (yal_c (yt665 h) (by decide) yw665 (yal_c (yt664 h) (by decide) yw664 (yal_c (yt663 h) (by decide) yw663 (yal_c (yt656 h) (by decide) yw656 (yal_c (yt649 h) (by decide) yw649 (yal_c (yt662 h) (by decide) yw662 (yal_c (yt655 h) (by decide) yw655 (yal_c (yt661 h) (by decide) yw661 (yal_n)))))))))) yg154 yk666
def ys668 : ySp := (215, 2, (1, [(0, 0, 5)], [], [], [(0, (2, yc 70, yc 0)), (1, (0, (1, 0, 0), yc 0))], []), [(1, [], [], [], [], [(0, yc 0, yc 0)]), (1, [], [], [], [], [(0, yc 1, yc 0)])], [])
def yx668 : yCx := ([], ys668.2.2.2.2, yFP, zm215.2.2.1, zm215.2.2.2.1, zc215, 1, ys668.2.2.2.1, [], [])
theorem yw668 : ywf ys668.2.2.1 = true := by decide +kernel
theorem yk668 : yver yx668 ys668.2.2.1 4000 = true := by decide +kernel
theorem yt668 {E : zHp → Prop} (h : yEF E yFP) : yTs E 1 ys668 := yver_s (x := yx668) h (yal_n) yg215 yk668
def ys669 : ySp := (277, 4, (1, [(0, 0, 63)], [], [], [(0, (2, yc 70, yc 0)), (1, (0, (1, 0, 0), yc 0))], []), [(1, [(0, 12, 63)], [], [], [], [(0, yc (-1), yc 0)]), (3, [(0, 0, 11), (1, (-2147483648), 2147483647), (2, 0, 400)], [], [(yc 70, yc 1, (0, (1, 2, 0), yc 0))], [], [(0, (1, 1, 0), yc 0)])], [])
def yx669 : yCx := ([ys668], ys669.2.2.2.2, yFP, zm277.2.2.1, zm277.2.2.2.1, zc277, 1, ys669.2.2.2.1, [(130, (3, [(0, 8, 8), (1, (-2147483648), 2147483647), (2, 0, 40)], [], [], [(0, (2, yc 70, yc 0)), (1, (0, yc 8, yc 0)), (2, (0, (1, 1, 0), yc 0)), (3, (0, (1, 2, 0), yc 0))], []), ([((-1), 2)], 41)), (92, (3, [(0, 7, 7), (1, (-2147483648), 2147483647), (2, 0, 6)], [], [], [(0, (2, yc 70, yc 0)), (1, (0, yc 7, yc 0)), (2, (0, (1, 1, 0), yc 0)), (3, (0, (1, 2, 0), yc 0))], []), ([((-1), 2)], 48))], [])
theorem yw669 : ywf ys669.2.2.1 = true := by decide +kernel
theorem yk669 : yver yx669 ys669.2.2.1 4000 = true := by decide +kernel
theorem yt669 {E : zHp → Prop} (h : yEF E yFP) : yTs E 2 ys669 := yver_s (x := yx669) h (yal_c (yt668 h) (by decide) yw668 (yal_n)) yg277 yk669
def ys670 : ySp := (277, 4, (1, [(0, (-2147483648), 2147483647)], [], [], [(0, (2, yc 70, yc 0)), (1, (0, (1, 0, 0), yc 0))], []), [(1, [], [], [], [], [(0, yc (-1), yc 0)]), (3, [(0, 0, 11), (1, (-2147483648), 2147483647), (2, 0, 400)], [], [(yc 70, yc 1, (0, (1, 2, 0), yc 0))], [], [(0, (1, 1, 0), yc 0)])], [])
def yx670 : yCx := ([ys668], ys670.2.2.2.2, yFP, zm277.2.2.1, zm277.2.2.2.1, zc277, 1, ys670.2.2.2.1, [(130, (3, [(0, 8, 8), (1, (-2147483648), 2147483647), (2, 0, 40)], [], [], [(0, (2, yc 70, yc 0)), (1, (0, yc 8, yc 0)), (2, (0, (1, 1, 0), yc 0)), (3, (0, (1, 2, 0), yc 0))], []), ([((-1), 2)], 41)), (92, (3, [(0, 7, 7), (1, (-2147483648), 2147483647), (2, 0, 6)], [], [], [(0, (2, yc 70, yc 0)), (1, (0, yc 7, yc 0)), (2, (0, (1, 1, 0), yc 0)), (3, (0, (1, 2, 0), yc 0))], []), ([((-1), 2)], 48))], [])
theorem yw670 : ywf ys670.2.2.1 = true := by decide +kernel
theorem yk670 : yver yx670 ys670.2.2.1 4000 = true := by decide +kernel
theorem yt670 {E : zHp → Prop} (h : yEF E yFP) : yTs E 2 ys670 := yver_s (x := yx670) h (yal_c (yt668 h) (by decide) yw668 (yal_n)) yg277 yk670
def ys671 : ySp := (76, 1, (0, [], [], [], [(0, (2, yc 9, yc 0))], []), [(0, [], [], [], [], [(0, yc 0, yc 0)]), (0, [], [], [], [], [(0, yc 1, yc 0)])], [])
def yx671 : yCx := ([ys665], ys671.2.2.2.2, yFP, zm76.2.2.1, zm76.2.2.2.1, zc76, 0, ys671.2.2.2.1, [], [])
theorem yw671 : ywf ys671.2.2.1 = true := by decide +kernel
theorem yk671 : yver yx671 ys671.2.2.1 4000 = true := by decide +kernel
theorem yt671 {E : zHp → Prop} (h : yEF E yFP) : yTs E 2 ys671 := yver_s (x := yx671) h (yal_c (yt665 h) (by decide) yw665 (yal_n)) yg76 yk671
def ys672 : ySp := (70, 2, (0, [], [], [], [(0, (2, yc 11, yc 0)), (1, (2, yc 9, yc 0))], []), [(0, [], [], [], [], [])], [(12, 12, 1000)])
def yx672 : yCx := ([], ys672.2.2.2.2, yFP, zm70.2.2.1, zm70.2.2.2.1, zc70, 0, ys672.2.2.2.1, [], [])
theorem yw672 : ywf ys672.2.2.1 = true := by decide +kernel
theorem yk672 : yver yx672 ys672.2.2.1 4000 = true := by decide +kernel
theorem yt672 {E : zHp → Prop} (h : yEF E yFP) : yTs E 1 ys672 := yver_s (x := yx672) h (yal_n) yg70 yk672
def ys673 : ySp := (79, 1, (1, [(0, 0, 6)], [], [(yc 12, yc 2, (0, (1, 0, 0), yc 0))], [(0, (2, yc 11, yc 0))], []), [(1, [], [], [(yc 12, yc 2, (0, (1, 0, 0), yc 0))], [], [(0, (1, 0, 0), yc 0)])], [])
def yx673 : yCx := ([], ys673.2.2.2.2, yFP, zm79.2.2.1, zm79.2.2.2.1, zc79, 1, ys673.2.2.2.1, [], [])
theorem yw673 : ywf ys673.2.2.1 = true := by decide +kernel
theorem yk673 : yver yx673 ys673.2.2.1 4000 = true := by decide +kernel
theorem yt673 {E : zHp → Prop} (h : yEF E yFP) : yTs E 1 ys673 := yver_s (x := yx673) h (yal_n) yg79 yk673
def ys674 : ySp := (11, 1, (0, [], [], [], [(0, (2, yc 43, yc 0))], []), [(1, [(0, 0, 2147483647)], [], [], [], [(0, (1, 0, 0), yc 0)])], [(43, 43, 0)])
def yx674 : yCx := ([], ys674.2.2.2.2, yFP, zm11.2.2.1, zm11.2.2.2.1, zc11, 0, ys674.2.2.2.1, [], [])
theorem yw674 : ywf ys674.2.2.1 = true := by decide +kernel
theorem yk674 : yver yx674 ys674.2.2.1 4000 = true := by decide +kernel
theorem yt674 {E : zHp → Prop} (h : yEF E yFP) : yTs E 1 ys674 := yver_s (x := yx674) h (yal_n) yg11 yk674
def ys675 : ySp := (77, 1, (0, [], [], [(yc 12, yc 0, (0, yc 6, yc 0))], [(0, (2, yc 11, yc 0))], []), [(0, [], [], [(yc 12, yc 0, (0, yc 6, yc 0))], [], [(0, yc 6, yc 0)])], [])
def yx675 : yCx := ([], ys675.2.2.2.2, yFP, zm77.2.2.1, zm77.2.2.2.1, zc77, 0, ys675.2.2.2.1, [], [])
theorem yw675 : ywf ys675.2.2.1 = true := by decide +kernel
theorem yk675 : yver yx675 ys675.2.2.1 4000 = true := by decide +kernel
theorem yt675 {E : zHp → Prop} (h : yEF E yFP) : yTs E 1 ys675 := yver_s (x := yx675) h (yal_n) yg77 yk675
def ys684 : ySp := (91, 2, (1, [(0, 0, 5)], [], [], [(0, (2, yc 11, yc 0)), (1, (0, (1, 0, 0), yc 0))], []), [(2, [(1, 0, 63)], [], [], [], [(0, (1, 1, 0), yc 0)])], [])
def yx684 : yCx := ([], ys684.2.2.2.2, yFP, zm91.2.2.1, zm91.2.2.2.1, zc91, 1, ys684.2.2.2.1, [], [])
theorem yw684 : ywf ys684.2.2.1 = true := by decide +kernel
theorem yk684 : yver yx684 ys684.2.2.1 4000 = true := by decide +kernel
theorem yt684 {E : zHp → Prop} (h : yEF E yFP) : yTs E 1 ys684 := yver_s (x := yx684) h (yal_n) yg91 yk684
def ys685 : ySp := (92, 3, (2, [(0, 0, 5), (1, 0, 5)], [], [], [(0, (2, yc 11, yc 0)), (1, (0, (1, 0, 0), yc 0)), (2, (0, (1, 1, 0), yc 0))], []), [(2, [], [], [], [], [(0, yc 0, yc 0)]), (2, [], [], [], [], [(0, yc 1, yc 0)])], [])
def yx685 : yCx := ([ys684], ys685.2.2.2.2, yFP, zm92.2.2.1, zm92.2.2.2.1, zc92, 2, ys685.2.2.2.1, [], [])
theorem yw685 : ywf ys685.2.2.1 = true := by decide +kernel
theorem yk685 : yver yx685 ys685.2.2.1 4000 = true := by decide +kernel
theorem yt685 {E : zHp → Prop} (h : yEF E yFP) : yTs E 2 ys685 := yver_s (x := yx685) h (yal_c (yt684 h) (by decide) yw684 (yal_n)) yg92 yk685
def ys687 : ySp := (94, 3, (2, [(0, 0, 5), (1, 0, 5)], [], [], [(0, (2, yc 11, yc 0)), (1, (0, (1, 0, 0), yc 0)), (2, (0, (1, 1, 0), yc 0))], []), [(3, [(2, (-2147483648), 2147483647)], [], [], [], [(0, (1, 2, 0), yc 0)])], [])
def yx687 : yCx := ([], ys687.2.2.2.2, yFP, zm94.2.2.1, zm94.2.2.2.1, zc94, 2, ys687.2.2.2.1, [], [])
theorem yw687 : ywf ys687.2.2.1 = true := by decide +kernel
theorem yk687 : yver yx687 ys687.2.2.1 4000 = true := by decide +kernel
theorem yt687 {E : zHp → Prop} (h : yEF E yFP) : yTs E 1 ys687 := yver_s (x := yx687) h (yal_n) yg94 yk687
def ys688 : ySp := (75, 4, (3, [(0, 0, 5), (1, 0, 5), (2, (-2147483648), 2147483647)], [], [], [(0, (2, yc 11, yc 0)), (1, (0, (1, 0, 0), yc 0)), (2, (0, (1, 1, 0), yc 0)), (3, (0, (1, 2, 0), yc 0))], []), [(3, [], [], [], [], [])], [(12, 12, 1000)])
def yx688 : yCx := ([], ys688.2.2.2.2, yFP, zm75.2.2.1, zm75.2.2.2.1, zc75, 3, ys688.2.2.2.1, [], [])
theorem yw688 : ywf ys688.2.2.1 = true := by decide +kernel
theorem yk688 : yver yx688 ys688.2.2.1 4000 = true := by decide +kernel
theorem yt688 {E : zHp → Prop} (h : yEF E yFP) : yTs E 1 ys688 := yver_s (x := yx688) h (yal_n) yg75 yk688
def ys692 : ySp := (77, 1, (0, [], [], [(yc 12, yc 0, (0, yc 5, yc 0))], [(0, (2, yc 11, yc 0))], []), [(0, [], [], [(yc 12, yc 0, (0, yc 5, yc 0))], [], [(0, yc 5, yc 0)])], [])
def yx692 : yCx := ([], ys692.2.2.2.2, yFP, zm77.2.2.1, zm77.2.2.2.1, zc77, 0, ys692.2.2.2.1, [], [])
theorem yw692 : ywf ys692.2.2.1 = true := by decide +kernel
theorem yk692 : yver yx692 ys692.2.2.1 4000 = true := by decide +kernel
theorem yt692 {E : zHp → Prop} (h : yEF E yFP) : yTs E 1 ys692 := yver_s (x := yx692) h (yal_n) yg77 yk692
def ys693 : ySp := (77, 1, (0, [], [], [(yc 12, yc 0, (0, yc 4, yc 0))], [(0, (2, yc 11, yc 0))], []), [(0, [], [], [(yc 12, yc 0, (0, yc 4, yc 0))], [], [(0, yc 4, yc 0)])], [])
def yx693 : yCx := ([], ys693.2.2.2.2, yFP, zm77.2.2.1, zm77.2.2.2.1, zc77, 0, ys693.2.2.2.1, [], [])
theorem yw693 : ywf ys693.2.2.1 = true := by decide +kernel
theorem yk693 : yver yx693 ys693.2.2.1 4000 = true := by decide +kernel
theorem yt693 {E : zHp → Prop} (h : yEF E yFP) : yTs E 1 ys693 := yver_s (x := yx693) h (yal_n) yg77 yk693
def ys694 : ySp := (77, 1, (0, [], [], [(yc 12, yc 0, (0, yc 3, yc 0))], [(0, (2, yc 11, yc 0))], []), [(0, [], [], [(yc 12, yc 0, (0, yc 3, yc 0))], [], [(0, yc 3, yc 0)])], [])
def yx694 : yCx := ([], ys694.2.2.2.2, yFP, zm77.2.2.1, zm77.2.2.2.1, zc77, 0, ys694.2.2.2.1, [], [])
theorem yw694 : ywf ys694.2.2.1 = true := by decide +kernel
theorem yk694 : yver yx694 ys694.2.2.1 4000 = true := by decide +kernel
theorem yt694 {E : zHp → Prop} (h : yEF E yFP) : yTs E 1 ys694 := yver_s (x := yx694) h (yal_n) yg77 yk694
def ys695 : ySp := (77, 1, (0, [], [], [(yc 12, yc 0, (0, yc 2, yc 0))], [(0, (2, yc 11, yc 0))], []), [(0, [], [], [(yc 12, yc 0, (0, yc 2, yc 0))], [], [(0, yc 2, yc 0)])], [])
def yx695 : yCx := ([], ys695.2.2.2.2, yFP, zm77.2.2.1, zm77.2.2.2.1, zc77, 0, ys695.2.2.2.1, [], [])
theorem yw695 : ywf ys695.2.2.1 = true := by decide +kernel
theorem yk695 : yver yx695 ys695.2.2.1 4000 = true := by decide +kernel
theorem yt695 {E : zHp → Prop} (h : yEF E yFP) : yTs E 1 ys695 := yver_s (x := yx695) h (yal_n) yg77 yk695
def ys696 : ySp := (77, 1, (0, [], [], [(yc 12, yc 0, (0, yc 1, yc 0))], [(0, (2, yc 11, yc 0))], []), [(0, [], [], [(yc 12, yc 0, (0, yc 1, yc 0))], [], [(0, yc 1, yc 0)])], [])
def yx696 : yCx := ([], ys696.2.2.2.2, yFP, zm77.2.2.1, zm77.2.2.2.1, zc77, 0, ys696.2.2.2.1, [], [])
theorem yw696 : ywf ys696.2.2.1 = true := by decide +kernel
theorem yk696 : yver yx696 ys696.2.2.1 4000 = true := by decide +kernel
theorem yt696 {E : zHp → Prop} (h : yEF E yFP) : yTs E 1 ys696 := yver_s (x := yx696) h (yal_n) yg77 yk696
def ys697 : ySp := (77, 1, (0, [], [], [(yc 12, yc 0, (0, yc 0, yc 0))], [(0, (2, yc 11, yc 0))], []), [(0, [], [], [(yc 12, yc 0, (0, yc 0, yc 0))], [], [(0, yc 0, yc 0)])], [])
def yx697 : yCx := ([], ys697.2.2.2.2, yFP, zm77.2.2.1, zm77.2.2.2.1, zc77, 0, ys697.2.2.2.1, [], [])
theorem yw697 : ywf ys697.2.2.1 = true := by decide +kernel
theorem yk697 : yver yx697 ys697.2.2.1 4000 = true := by decide +kernel
theorem yt697 {E : zHp → Prop} (h : yEF E yFP) : yTs E 1 ys697 := yver_s (x := yx697) h (yal_n) yg77 yk697
def ys698 : ySp := (87, 3, (1, [(0, 0, 5)], [], [], [(0, (2, yc 11, yc 0)), (1, (0, (1, 0, 0), yc 0)), (2, (0, yc 0, yc 0))], []), [(2, [(1, 0, 5)], [], [], [], [(0, (1, 1, 0), yc 0)])], [])
def yx698 : yCx := ([], ys698.2.2.2.2, yFP, zm87.2.2.1, zm87.2.2.2.1, zc87, 1, ys698.2.2.2.1, [], [])
theorem yw698 : ywf ys698.2.2.1 = true := by decide +kernel
theorem yk698 : yver yx698 ys698.2.2.1 4000 = true := by decide +kernel
theorem yt698 {E : zHp → Prop} (h : yEF E yFP) : yTs E 1 ys698 := yver_s (x := yx698) h (yal_n) yg87 yk698
def ys699 : ySp := (88, 4, (2, [(0, 0, 5), (1, 0, 5)], [], [], [(0, (2, yc 11, yc 0)), (1, (0, (1, 0, 0), yc 0)), (2, (0, yc 0, yc 0)), (3, (0, (1, 1, 0), yc 0))], []), [(2, [], [], [], [], [])], [(12, 12, 1000)])
def yx699 : yCx := ([], ys699.2.2.2.2, yFP, zm88.2.2.1, zm88.2.2.2.1, zc88, 2, ys699.2.2.2.1, [], [])
theorem yw699 : ywf ys699.2.2.1 = true := by decide +kernel
theorem yk699 : yver yx699 ys699.2.2.1 4000 = true := by decide +kernel
theorem yt699 {E : zHp → Prop} (h : yEF E yFP) : yTs E 1 ys699 := yver_s (x := yx699) h (yal_n) yg88 yk699
def ys700 : ySp := (88, 4, (2, [(0, 0, 5), (1, 0, 5)], [], [], [(0, (2, yc 11, yc 0)), (1, (0, (1, 0, 0), yc 0)), (2, (0, yc 3, yc 0)), (3, (0, (1, 1, 0), yc 0))], []), [(2, [], [], [], [], [])], [(12, 12, 1000)])
def yx700 : yCx := ([], ys700.2.2.2.2, yFP, zm88.2.2.1, zm88.2.2.2.1, zc88, 2, ys700.2.2.2.1, [], [])
theorem yw700 : ywf ys700.2.2.1 = true := by decide +kernel
theorem yk700 : yver yx700 ys700.2.2.1 4000 = true := by decide +kernel
theorem yt700 {E : zHp → Prop} (h : yEF E yFP) : yTs E 1 ys700 := yver_s (x := yx700) h (yal_n) yg88 yk700
def ys701 : ySp := (88, 4, (2, [(0, 0, 5), (1, 0, 1)], [], [], [(0, (2, yc 11, yc 0)), (1, (0, (1, 0, 0), yc 0)), (2, (0, yc 4, yc 0)), (3, (0, (1, 1, 0), yc 0))], []), [(2, [], [], [], [], [])], [(12, 12, 1000)])
def yx701 : yCx := ([], ys701.2.2.2.2, yFP, zm88.2.2.1, zm88.2.2.2.1, zc88, 2, ys701.2.2.2.1, [], [])
theorem yw701 : ywf ys701.2.2.1 = true := by decide +kernel
theorem yk701 : yver yx701 ys701.2.2.1 4000 = true := by decide +kernel
theorem yt701 {E : zHp → Prop} (h : yEF E yFP) : yTs E 1 ys701 := yver_s (x := yx701) h (yal_n) yg88 yk701
def ys702 : ySp := (88, 4, (2, [(0, 0, 5), (1, 0, 1)], [], [], [(0, (2, yc 11, yc 0)), (1, (0, (1, 0, 0), yc 0)), (2, (0, yc 5, yc 0)), (3, (0, (1, 1, 0), yc 0))], []), [(2, [], [], [], [], [])], [(12, 12, 1000)])
def yx702 : yCx := ([], ys702.2.2.2.2, yFP, zm88.2.2.1, zm88.2.2.2.1, zc88, 2, ys702.2.2.2.1, [], [])
theorem yw702 : ywf ys702.2.2.1 = true := by decide +kernel
theorem yk702 : yver yx702 ys702.2.2.1 4000 = true := by decide +kernel
theorem yt702 {E : zHp → Prop} (h : yEF E yFP) : yTs E 1 ys702 := yver_s (x := yx702) h (yal_n) yg88 yk702
def ys703 : ySp := (104, 3, (2, [(0, 0, 5), (1, 0, 5)], [], [], [(0, (2, yc 11, yc 0)), (1, (0, (1, 0, 0), yc 0)), (2, (0, (1, 1, 0), yc 0))], []), [(2, [], [], [], [], [])], [(12, 12, 1000)])
def yx703 : yCx := ([ys701, ys702, ys699, ys700], ys703.2.2.2.2, yFP, zm104.2.2.1, zm104.2.2.2.1, zc104, 2, ys703.2.2.2.1, [], [])
theorem yw703 : ywf ys703.2.2.1 = true := by decide +kernel
theorem yk703 : yver yx703 ys703.2.2.1 4000 = true := by decide +kernel
theorem yt703 {E : zHp → Prop} (h : yEF E yFP) : yTs E 2 ys703 := yver_s (x := yx703) h (yal_c (yt701 h) (by decide) yw701 (yal_c (yt702 h) (by decide) yw702 (yal_c (yt699 h) (by decide) yw699 (yal_c (yt700 h) (by decide) yw700 (yal_n))))) yg104 yk703
def ys704 : ySp := (103, 2, (1, [(0, 0, 5)], [], [], [(0, (2, yc 11, yc 0)), (1, (0, (1, 0, 0), yc 0))], []), [(1, [], [], [], [], [])], [(12, 12, 1000)])
def yx704 : yCx := ([ys698, ys703], ys704.2.2.2.2, yFP, zm103.2.2.1, zm103.2.2.2.1, zc103, 1, ys704.2.2.2.1, [], [])
theorem yw704 : ywf ys704.2.2.1 = true := by decide +kernel
theorem yk704 : yver yx704 ys704.2.2.1 4000 = true := by decide +kernel
theorem yt704 {E : zHp → Prop} (h : yEF E yFP) : yTs E 3 ys704 := yver_s (x := yx704) h (yal_c (yt698 h) (by decide) yw698 (yal_c (yt703 h) (by decide) yw703 (yal_n))) yg103 yk704
def ys705 : ySp := (87, 3, (1, [(0, 0, 5)], [], [], [(0, (2, yc 11, yc 0)), (1, (0, (1, 0, 0), yc 0)), (2, (0, yc 3, yc 0))], []), [(2, [(1, 0, 5)], [], [], [], [(0, (1, 1, 0), yc 0)])], [])
def yx705 : yCx := ([], ys705.2.2.2.2, yFP, zm87.2.2.1, zm87.2.2.2.1, zc87, 1, ys705.2.2.2.1, [], [])
theorem yw705 : ywf ys705.2.2.1 = true := by decide +kernel
theorem yk705 : yver yx705 ys705.2.2.1 4000 = true := by decide +kernel
theorem yt705 {E : zHp → Prop} (h : yEF E yFP) : yTs E 1 ys705 := yver_s (x := yx705) h (yal_n) yg87 yk705
def ys706 : ySp := (101, 3, (2, [(0, 0, 5), (1, 0, 5)], [], [], [(0, (2, yc 11, yc 0)), (1, (0, (1, 0, 0), yc 0)), (2, (0, (1, 1, 0), yc 0))], []), [(2, [], [], [], [], [(0, yc 0, yc 0)]), (2, [], [], [], [], [(0, yc 1, yc 0)])], [])
def yx706 : yCx := ([ys698, ys705, ys685], ys706.2.2.2.2, yFP, zm101.2.2.1, zm101.2.2.2.1, zc101, 2, ys706.2.2.2.1, [], [])
theorem yw706 : ywf ys706.2.2.1 = true := by decide +kernel
theorem yk706 : yver yx706 ys706.2.2.1 4000 = true := by decide +kernel
theorem yt706 {E : zHp → Prop} (h : yEF E yFP) : yTs E 3 ys706 := yver_s (x := yx706) h (yal_c (yt698 h) (by decide) yw698 (yal_c (yt705 h) (by decide) yw705 (yal_c (yt685 h) (by decide) yw685 (yal_n)))) yg101 yk706
def ys707 : ySp := (87, 3, (1, [(0, 0, 5)], [], [], [(0, (2, yc 11, yc 0)), (1, (0, (1, 0, 0), yc 0)), (2, (0, yc 4, yc 0))], []), [(2, [(1, (-2147483648), 2147483647)], [], [], [], [(0, (1, 1, 0), yc 0)])], [])
def yx707 : yCx := ([], ys707.2.2.2.2, yFP, zm87.2.2.1, zm87.2.2.2.1, zc87, 1, ys707.2.2.2.1, [], [])
theorem yw707 : ywf ys707.2.2.1 = true := by decide +kernel
theorem yk707 : yver yx707 ys707.2.2.1 4000 = true := by decide +kernel
theorem yt707 {E : zHp → Prop} (h : yEF E yFP) : yTs E 1 ys707 := yver_s (x := yx707) h (yal_n) yg87 yk707
def ys708 : ySp := (88, 4, (2, [(0, 0, 5), (1, (-2147483648), 2147483647)], [], [], [(0, (2, yc 11, yc 0)), (1, (0, (1, 0, 0), yc 0)), (2, (0, yc 4, yc 0)), (3, (0, (1, 1, 0), yc 0))], []), [(2, [], [], [], [], [])], [(12, 12, 1000)])
def yx708 : yCx := ([], ys708.2.2.2.2, yFP, zm88.2.2.1, zm88.2.2.2.1, zc88, 2, ys708.2.2.2.1, [], [])
theorem yw708 : ywf ys708.2.2.1 = true := by decide +kernel
theorem yk708 : yver yx708 ys708.2.2.1 4000 = true := by decide +kernel
theorem yt708 {E : zHp → Prop} (h : yEF E yFP) : yTs E 1 ys708 := yver_s (x := yx708) h (yal_n) yg88 yk708
def ys709 : ySp := (102, 4, (2, [(0, 0, 5), (1, 0, 5)], [], [], [(0, (2, yc 11, yc 0)), (1, (0, (1, 0, 0), yc 0)), (2, (0, (1, 1, 0), yc 0))], []), [(2, [], [], [], [], [])], [(12, 12, 1000)])
def yx709 : yCx := ([ys688, ys705, ys707, ys700, ys708, ys687], ys709.2.2.2.2, yFP, zm102.2.2.1, zm102.2.2.2.1, zc102, 2, ys709.2.2.2.1, [], [])
theorem yw709 : ywf ys709.2.2.1 = true := by decide +kernel
theorem yk709 : yver yx709 ys709.2.2.1 4000 = true := by decide +kernel
theorem yt709 {E : zHp → Prop} (h : yEF E yFP) : yTs E 2 ys709 := yver_s (x := yx709) h (yal_c (yt688 h) (by decide) yw688 (yal_c (yt705 h) (by decide) yw705 (yal_c (yt707 h) (by decide) yw707 (yal_c (yt700 h) (by decide) yw700 (yal_c (yt708 h) (by decide) yw708 (yal_c (yt687 h) (by decide) yw687 (yal_n))))))) yg102 yk709
def ys710 : ySp := (12, 5, (0, [], [], [], [(0, (2, yc 43, yc 0)), (1, (2, yc 11, yc 0))], []), [(1, [(0, (-2147483648), 2147483647)], [], [], [], [(0, (1, 0, 0), yc 0)])], [(12, 12, 1000), (43, 43, 0)])
def yx710 : yCx := ([ys674, ys675, ys692, ys693, ys694, ys695, ys696, ys697, ys673, ys706, ys709, ys704], ys710.2.2.2.2, yFP, zm12.2.2.1, zm12.2.2.2.1, zc12, 0, ys710.2.2.2.1, [(4, (2, [(0, (-2147483648), 2147483647), (1, 0, 6)], [], [], [(0, (2, yc 43, yc 0)), (1, (2, yc 11, yc 0)), (2, (0, (1, 0, 0), yc 0)), (3, (0, (1, 1, 0), yc 0))], []), ([((-1), 1)], 7))], [(12, 1, 12, 0)])
theorem yw710 : ywf ys710.2.2.1 = true := by decide +kernel
theorem yk710 : yver yx710 ys710.2.2.1 4000 = true := by decide +kernel
theorem yt710 {E : zHp → Prop} (h : yEF E yFP) : yTs E 4 ys710 := yver_s (x := yx710) h (yal_c (yt674 h) (by decide) yw674 (yal_c (yt675 h) (by decide) yw675 (yal_c (yt692 h) (by decide) yw692 (yal_c (yt693 h) (by decide) yw693 (yal_c (yt694 h) (by decide) yw694 (yal_c (yt695 h) (by decide) yw695 (yal_c (yt696 h) (by decide) yw696 (yal_c (yt697 h) (by decide) yw697 (yal_c (yt673 h) (by decide) yw673 (yal_c (yt706 h) (by decide) yw706 (yal_c (yt709 h) (by decide) yw709 (yal_c (yt704 h) (by decide) yw704 (yal_n))))))))))))) yg12 yk710
def ys711 : ySp := (80, 1, (1, [(0, 0, 6)], [], [(yc 12, yc 3, (0, (1, 0, 0), yc 0))], [(0, (2, yc 11, yc 0))], []), [(1, [], [], [(yc 12, yc 3, (0, (1, 0, 0), yc 0))], [], [(0, (1, 0, 0), yc 0)])], [])
def yx711 : yCx := ([], ys711.2.2.2.2, yFP, zm80.2.2.1, zm80.2.2.2.1, zc80, 1, ys711.2.2.2.1, [], [])
theorem yw711 : ywf ys711.2.2.1 = true := by decide +kernel
theorem yk711 : yver yx711 ys711.2.2.1 4000 = true := by decide +kernel
theorem yt711 {E : zHp → Prop} (h : yEF E yFP) : yTs E 1 ys711 := yver_s (x := yx711) h (yal_n) yg80 yk711
def ys720 : ySp := (78, 1, (0, [], [], [], [(0, (2, yc 11, yc 0))], []), [(1, [(0, (-2147483648), 2147483647)], [], [], [], [(0, (1, 0, 0), yc 0)])], [])
def yx720 : yCx := ([], ys720.2.2.2.2, yFP, zm78.2.2.1, zm78.2.2.2.1, zc78, 0, ys720.2.2.2.1, [], [])
theorem yw720 : ywf ys720.2.2.1 = true := by decide +kernel
theorem yk720 : yver yx720 ys720.2.2.1 4000 = true := by decide +kernel
theorem yt720 {E : zHp → Prop} (h : yEF E yFP) : yTs E 1 ys720 := yver_s (x := yx720) h (yal_n) yg78 yk720
def ys732 : ySp := (87, 3, (1, [(0, 0, 5)], [], [], [(0, (2, yc 11, yc 0)), (1, (0, (1, 0, 0), yc 0)), (2, (0, yc 1, yc 0))], []), [(2, [(1, (-2147483648), 2147483647)], [], [], [], [(0, (1, 1, 0), yc 0)])], [])
def yx732 : yCx := ([], ys732.2.2.2.2, yFP, zm87.2.2.1, zm87.2.2.2.1, zc87, 1, ys732.2.2.2.1, [], [])
theorem yw732 : ywf ys732.2.2.1 = true := by decide +kernel
theorem yk732 : yver yx732 ys732.2.2.1 4000 = true := by decide +kernel
theorem yt732 {E : zHp → Prop} (h : yEF E yFP) : yTs E 1 ys732 := yver_s (x := yx732) h (yal_n) yg87 yk732
def ys733 : ySp := (97, 2, (1, [(0, 0, 5)], [], [], [(0, (2, yc 11, yc 0)), (1, (0, (1, 0, 0), yc 0))], []), [(1, [], [], [], [], [(0, yc 0, yc 0)]), (1, [], [], [], [], [(0, yc 1, yc 0)])], [])
def yx733 : yCx := ([ys698, ys705], ys733.2.2.2.2, yFP, zm97.2.2.1, zm97.2.2.2.1, zc97, 1, ys733.2.2.2.1, [], [])
theorem yw733 : ywf ys733.2.2.1 = true := by decide +kernel
theorem yk733 : yver yx733 ys733.2.2.1 4000 = true := by decide +kernel
theorem yt733 {E : zHp → Prop} (h : yEF E yFP) : yTs E 2 ys733 := yver_s (x := yx733) h (yal_c (yt698 h) (by decide) yw698 (yal_c (yt705 h) (by decide) yw705 (yal_n))) yg97 yk733
