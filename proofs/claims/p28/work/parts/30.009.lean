def ys94 : ySp := (53, 1, (1, [(0, 0, 2147483647)], [], [(yc 2, yc 0, (2, yc 1, yc 0)), (yc 2, yc 4, (0, (1, 0, 0), yc 0))], [(0, (2, yc 2, yc 0))], []), [(3, [(1, 0, 400), (2, 0, 400)], [([(1, 1), ((-1), 2)], 0)], [(yc 2, yc 0, (2, yc 1, yc 0)), (yc 2, yc 4, (0, (1, 0, 0), yc 0)), (yc 2, yc 2, (0, (1, 1, 0), yc 0)), (yc 2, yc 1, (0, (1, 2, 0), yc 0))], [], [(0, yc (-1), yc 0)]), (4, [(1, 0, 255), (2, 0, 399), (3, 1, 400)], [([(1, 3), ((-1), 2)], (-1))], [(yc 2, yc 0, (2, yc 1, yc 0)), (yc 2, yc 4, (0, (1, 0, 0), yc 0)), (yc 2, yc 2, (0, (1, 2, 0), yc 0)), (yc 2, yc 1, (0, (1, 3, 0), yc 0))], [], [(0, (1, 1, 0), yc 0)])], [(2, 2, 2)])
def yx94 : yCx := ([], ys94.2.2.2.2, yFP, zm53.2.2.1, zm53.2.2.2.1, zc53, 1, ys94.2.2.2.1, [(0, (2, [(0, 0, 2147483647), (1, 0, 400)], [], [(yc 2, yc 0, (2, yc 1, yc 0)), (yc 2, yc 4, (0, (1, 0, 0), yc 0)), (yc 2, yc 2, (0, (1, 1, 0), yc 0))], [(0, (2, yc 2, yc 0))], []), ([((-1), 1)], 401))], [])
theorem yw94 : ywf ys94.2.2.1 = true := by decide +kernel
theorem yk94 : yver yx94 ys94.2.2.1 4000 = true := by decide +kernel
theorem yt94 {E : zHp → Prop} (h : yEF E yFP) : yTs E 1 ys94 := yver_s (x := yx94) h (yal_n) yg53 yk94
def ys95 : ySp := (57, 1, (1, [(0, 0, 255)], [], [], [(0, (0, (1, 0, 0), yc 0))], []), [(1, [], [], [], [], [(0, yc 0, yc 0)]), (1, [(0, 97, 122)], [], [], [], [(0, yc 1, yc 0)])], [])
def yx95 : yCx := ([], ys95.2.2.2.2, yFP, zm57.2.2.1, zm57.2.2.2.1, zc57, 1, ys95.2.2.2.1, [], [])
theorem yw95 : ywf ys95.2.2.1 = true := by decide +kernel
theorem yk95 : yver yx95 ys95.2.2.1 4000 = true := by decide +kernel
theorem yt95 {E : zHp → Prop} (h : yEF E yFP) : yTs E 1 ys95 := yver_s (x := yx95) h (yal_n) yg57 yk95
def ys96 : ySp := (283, 1, (0, [], [], [], [(0, (2, yc 1002, yc 0))], []), [(0, [], [], [], [], [(0, yc 0, yc 0)])], [])
def yx96 : yCx := ([], ys96.2.2.2.2, yFP, zm283.2.2.1, zm283.2.2.2.1, zc283, 0, ys96.2.2.2.1, [], [])
theorem yw96 : ywf ys96.2.2.1 = true := by decide +kernel
theorem yk96 : yver yx96 ys96.2.2.1 4000 = true := by decide +kernel
theorem yt96 {E : zHp → Prop} (h : yEF E yFP) : yTs E 1 ys96 := yver_s (x := yx96) h (yal_n) yg283 yk96
def ys97 : ySp := (281, 1, (0, [], [], [], [(0, (2, yc 1002, yc 0))], []), [(0, [], [], [], [], [(0, yc 5, yc 0)])], [])
def yx97 : yCx := ([ys96], ys97.2.2.2.2, yFP, zm281.2.2.1, zm281.2.2.2.1, zc281, 0, ys97.2.2.2.1, [], [])
theorem yw97 : ywf ys97.2.2.1 = true := by decide +kernel
theorem yk97 : yver yx97 ys97.2.2.1 4000 = true := by decide +kernel
theorem yt97 {E : zHp → Prop} (h : yEF E yFP) : yTs E 2 ys97 := yver_s (x := yx97) h (yal_c (yt96 h) (by decide) yw96 (yal_n)) yg281 yk97
def ys98 : ySp := (284, 1, (0, [], [], [], [(0, (2, yc 1002, yc 0))], []), [(0, [], [], [], [], [(0, yc 1, yc 0)])], [])
def yx98 : yCx := ([], ys98.2.2.2.2, yFP, zm284.2.2.1, zm284.2.2.2.1, zc284, 0, ys98.2.2.2.1, [], [])
theorem yw98 : ywf ys98.2.2.1 = true := by decide +kernel
theorem yk98 : yver yx98 ys98.2.2.1 4000 = true := by decide +kernel
theorem yt98 {E : zHp → Prop} (h : yEF E yFP) : yTs E 1 ys98 := yver_s (x := yx98) h (yal_n) yg284 yk98
def ys99 : ySp := (293, 3, (0, [], [], [], [(0, (0, yc 0, yc 0)), (1, (0, yc 5, yc 0)), (2, (7, yc 0, yc 0))], []), [(0, [], [], [], [], [(0, yc 0, yc 0)])], [])
def yx99 : yCx := ([], ys99.2.2.2.2, yFP, zm293.2.2.1, zm293.2.2.2.1, zc293, 0, ys99.2.2.2.1, [], [])
theorem yw99 : ywf ys99.2.2.1 = true := by decide +kernel
theorem yk99 : yver yx99 ys99.2.2.1 4000 = true := by decide +kernel
theorem yt99 {E : zHp → Prop} (h : yEF E yFP) : yTs E 1 ys99 := yver_s (x := yx99) h (yal_n) yg293 yk99
def ys100 : ySp := (285, 2, (0, [], [], [], [(0, (0, yc 0, yc 0)), (1, (0, yc 5, yc 0))], []), [(0, [], [], [], [], [])], [])
def yx100 : yCx := ([ys99], ys100.2.2.2.2, yFP, zm285.2.2.1, zm285.2.2.2.1, zc285, 0, ys100.2.2.2.1, [], [])
theorem yw100 : ywf ys100.2.2.1 = true := by decide +kernel
theorem yk100 : yver yx100 ys100.2.2.1 4000 = true := by decide +kernel
theorem yt100 {E : zHp → Prop} (h : yEF E yFP) : yTs E 2 ys100 := yver_s (x := yx100) h (yal_c (yt99 h) (by decide) yw99 (yal_n)) yg285 yk100
def ys101 : ySp := (286, 2, (0, [], [], [], [(0, (2, yc 1021, yc 0)), (1, (0, yc 0, yc 0))], []), [(0, [], [], [], [], [(0, yc 108, yc 0)])], [])
def yx101 : yCx := ([ys100], ys101.2.2.2.2, yFP, zm286.2.2.1, zm286.2.2.2.1, zc286, 0, ys101.2.2.2.1, [], [])
theorem yw101 : ywf ys101.2.2.1 = true := by decide +kernel
theorem yk101 : yver yx101 ys101.2.2.1 4000 = true := by decide +kernel
theorem yt101 {E : zHp → Prop} (h : yEF E yFP) : yTs E 3 ys101 := yver_s (x := yx101) h (yal_c (yt100 h) (by decide) yw100 (yal_n)) yg286 yk101
def ys102 : ySp := (282, 2, (0, [], [], [], [(0, (2, yc 1002, yc 0)), (1, (0, yc 0, yc 0))], []), [(0, [], [], [], [], [(0, yc 108, yc 0)])], [])
def yx102 : yCx := ([ys98, ys101], ys102.2.2.2.2, yFP, zm282.2.2.1, zm282.2.2.2.1, zc282, 0, ys102.2.2.2.1, [], [])
theorem yw102 : ywf ys102.2.2.1 = true := by decide +kernel
theorem yk102 : yver yx102 ys102.2.2.1 4000 = true := by decide +kernel
theorem yt102 {E : zHp → Prop} (h : yEF E yFP) : yTs E 4 ys102 := yver_s (x := yx102) h (yal_c (yt98 h) (by decide) yw98 (yal_c (yt101 h) (by decide) yw101 (yal_n))) yg282 yk102
def ys103 : ySp := (293, 3, (0, [], [], [], [(0, (0, yc 1, yc 0)), (1, (0, yc 5, yc 0)), (2, (7, yc 0, yc 0))], []), [(0, [], [], [], [], [(0, yc 1, yc 0)])], [])
def yx103 : yCx := ([], ys103.2.2.2.2, yFP, zm293.2.2.1, zm293.2.2.2.1, zc293, 0, ys103.2.2.2.1, [], [])
theorem yw103 : ywf ys103.2.2.1 = true := by decide +kernel
theorem yk103 : yver yx103 ys103.2.2.1 4000 = true := by decide +kernel
theorem yt103 {E : zHp → Prop} (h : yEF E yFP) : yTs E 1 ys103 := yver_s (x := yx103) h (yal_n) yg293 yk103
def ys104 : ySp := (285, 2, (0, [], [], [], [(0, (0, yc 1, yc 0)), (1, (0, yc 5, yc 0))], []), [(0, [], [], [], [], [])], [])
def yx104 : yCx := ([ys103], ys104.2.2.2.2, yFP, zm285.2.2.1, zm285.2.2.2.1, zc285, 0, ys104.2.2.2.1, [], [])
theorem yw104 : ywf ys104.2.2.1 = true := by decide +kernel
theorem yk104 : yver yx104 ys104.2.2.1 4000 = true := by decide +kernel
theorem yt104 {E : zHp → Prop} (h : yEF E yFP) : yTs E 2 ys104 := yver_s (x := yx104) h (yal_c (yt103 h) (by decide) yw103 (yal_n)) yg285 yk104
def ys105 : ySp := (286, 2, (0, [], [], [], [(0, (2, yc 1021, yc 0)), (1, (0, yc 1, yc 0))], []), [(0, [], [], [], [], [(0, yc 101, yc 0)])], [])
def yx105 : yCx := ([ys104], ys105.2.2.2.2, yFP, zm286.2.2.1, zm286.2.2.2.1, zc286, 0, ys105.2.2.2.1, [], [])
theorem yw105 : ywf ys105.2.2.1 = true := by decide +kernel
theorem yk105 : yver yx105 ys105.2.2.1 4000 = true := by decide +kernel
theorem yt105 {E : zHp → Prop} (h : yEF E yFP) : yTs E 3 ys105 := yver_s (x := yx105) h (yal_c (yt104 h) (by decide) yw104 (yal_n)) yg286 yk105
def ys106 : ySp := (282, 2, (0, [], [], [], [(0, (2, yc 1002, yc 0)), (1, (0, yc 1, yc 0))], []), [(0, [], [], [], [], [(0, yc 101, yc 0)])], [])
def yx106 : yCx := ([ys98, ys105], ys106.2.2.2.2, yFP, zm282.2.2.1, zm282.2.2.2.1, zc282, 0, ys106.2.2.2.1, [], [])
theorem yw106 : ywf ys106.2.2.1 = true := by decide +kernel
theorem yk106 : yver yx106 ys106.2.2.1 4000 = true := by decide +kernel
theorem yt106 {E : zHp → Prop} (h : yEF E yFP) : yTs E 4 ys106 := yver_s (x := yx106) h (yal_c (yt98 h) (by decide) yw98 (yal_c (yt105 h) (by decide) yw105 (yal_n))) yg282 yk106
def ys107 : ySp := (293, 3, (0, [], [], [], [(0, (0, yc 2, yc 0)), (1, (0, yc 5, yc 0)), (2, (7, yc 0, yc 0))], []), [(0, [], [], [], [], [(0, yc 2, yc 0)])], [])
def yx107 : yCx := ([], ys107.2.2.2.2, yFP, zm293.2.2.1, zm293.2.2.2.1, zc293, 0, ys107.2.2.2.1, [], [])
theorem yw107 : ywf ys107.2.2.1 = true := by decide +kernel
theorem yk107 : yver yx107 ys107.2.2.1 4000 = true := by decide +kernel
theorem yt107 {E : zHp → Prop} (h : yEF E yFP) : yTs E 1 ys107 := yver_s (x := yx107) h (yal_n) yg293 yk107
def ys108 : ySp := (285, 2, (0, [], [], [], [(0, (0, yc 2, yc 0)), (1, (0, yc 5, yc 0))], []), [(0, [], [], [], [], [])], [])
def yx108 : yCx := ([ys107], ys108.2.2.2.2, yFP, zm285.2.2.1, zm285.2.2.2.1, zc285, 0, ys108.2.2.2.1, [], [])
theorem yw108 : ywf ys108.2.2.1 = true := by decide +kernel
theorem yk108 : yver yx108 ys108.2.2.1 4000 = true := by decide +kernel
theorem yt108 {E : zHp → Prop} (h : yEF E yFP) : yTs E 2 ys108 := yver_s (x := yx108) h (yal_c (yt107 h) (by decide) yw107 (yal_n)) yg285 yk108
def ys109 : ySp := (286, 2, (0, [], [], [], [(0, (2, yc 1021, yc 0)), (1, (0, yc 2, yc 0))], []), [(0, [], [], [], [], [(0, yc 110, yc 0)])], [])
def yx109 : yCx := ([ys108], ys109.2.2.2.2, yFP, zm286.2.2.1, zm286.2.2.2.1, zc286, 0, ys109.2.2.2.1, [], [])
theorem yw109 : ywf ys109.2.2.1 = true := by decide +kernel
theorem yk109 : yver yx109 ys109.2.2.1 4000 = true := by decide +kernel
theorem yt109 {E : zHp → Prop} (h : yEF E yFP) : yTs E 3 ys109 := yver_s (x := yx109) h (yal_c (yt108 h) (by decide) yw108 (yal_n)) yg286 yk109
def ys110 : ySp := (282, 2, (0, [], [], [], [(0, (2, yc 1002, yc 0)), (1, (0, yc 2, yc 0))], []), [(0, [], [], [], [], [(0, yc 110, yc 0)])], [])
def yx110 : yCx := ([ys98, ys109], ys110.2.2.2.2, yFP, zm282.2.2.1, zm282.2.2.2.1, zc282, 0, ys110.2.2.2.1, [], [])
theorem yw110 : ywf ys110.2.2.1 = true := by decide +kernel
theorem yk110 : yver yx110 ys110.2.2.1 4000 = true := by decide +kernel
theorem yt110 {E : zHp → Prop} (h : yEF E yFP) : yTs E 4 ys110 := yver_s (x := yx110) h (yal_c (yt98 h) (by decide) yw98 (yal_c (yt109 h) (by decide) yw109 (yal_n))) yg282 yk110
def ys111 : ySp := (293, 3, (0, [], [], [], [(0, (0, yc 3, yc 0)), (1, (0, yc 5, yc 0)), (2, (7, yc 0, yc 0))], []), [(0, [], [], [], [], [(0, yc 3, yc 0)])], [])
def yx111 : yCx := ([], ys111.2.2.2.2, yFP, zm293.2.2.1, zm293.2.2.2.1, zc293, 0, ys111.2.2.2.1, [], [])
theorem yw111 : ywf ys111.2.2.1 = true := by decide +kernel
theorem yk111 : yver yx111 ys111.2.2.1 4000 = true := by decide +kernel
theorem yt111 {E : zHp → Prop} (h : yEF E yFP) : yTs E 1 ys111 := yver_s (x := yx111) h (yal_n) yg293 yk111
def ys112 : ySp := (285, 2, (0, [], [], [], [(0, (0, yc 3, yc 0)), (1, (0, yc 5, yc 0))], []), [(0, [], [], [], [], [])], [])
def yx112 : yCx := ([ys111], ys112.2.2.2.2, yFP, zm285.2.2.1, zm285.2.2.2.1, zc285, 0, ys112.2.2.2.1, [], [])
theorem yw112 : ywf ys112.2.2.1 = true := by decide +kernel
theorem yk112 : yver yx112 ys112.2.2.1 4000 = true := by decide +kernel
theorem yt112 {E : zHp → Prop} (h : yEF E yFP) : yTs E 2 ys112 := yver_s (x := yx112) h (yal_c (yt111 h) (by decide) yw111 (yal_n)) yg285 yk112
def ys113 : ySp := (286, 2, (0, [], [], [], [(0, (2, yc 1021, yc 0)), (1, (0, yc 3, yc 0))], []), [(0, [], [], [], [], [(0, yc 100, yc 0)])], [])
def yx113 : yCx := ([ys112], ys113.2.2.2.2, yFP, zm286.2.2.1, zm286.2.2.2.1, zc286, 0, ys113.2.2.2.1, [], [])
theorem yw113 : ywf ys113.2.2.1 = true := by decide +kernel
theorem yk113 : yver yx113 ys113.2.2.1 4000 = true := by decide +kernel
theorem yt113 {E : zHp → Prop} (h : yEF E yFP) : yTs E 3 ys113 := yver_s (x := yx113) h (yal_c (yt112 h) (by decide) yw112 (yal_n)) yg286 yk113
def ys114 : ySp := (282, 2, (0, [], [], [], [(0, (2, yc 1002, yc 0)), (1, (0, yc 3, yc 0))], []), [(0, [], [], [], [], [(0, yc 100, yc 0)])], [])
def yx114 : yCx := ([ys98, ys113], ys114.2.2.2.2, yFP, zm282.2.2.1, zm282.2.2.2.1, zc282, 0, ys114.2.2.2.1, [], [])
theorem yw114 : ywf ys114.2.2.1 = true := by decide +kernel
theorem yk114 : yver yx114 ys114.2.2.1 4000 = true := by decide +kernel
theorem yt114 {E : zHp → Prop} (h : yEF E yFP) : yTs E 4 ys114 := yver_s (x := yx114) h (yal_c (yt98 h) (by decide) yw98 (yal_c (yt113 h) (by decide) yw113 (yal_n))) yg282 yk114
def ys115 : ySp := (293, 3, (0, [], [], [], [(0, (0, yc 4, yc 0)), (1, (0, yc 5, yc 0)), (2, (7, yc 0, yc 0))], []), [(0, [], [], [], [], [(0, yc 4, yc 0)])], [])
def yx115 : yCx := ([], ys115.2.2.2.2, yFP, zm293.2.2.1, zm293.2.2.2.1, zc293, 0, ys115.2.2.2.1, [], [])
theorem yw115 : ywf ys115.2.2.1 = true := by decide +kernel
theorem yk115 : yver yx115 ys115.2.2.1 4000 = true := by decide +kernel
theorem yt115 {E : zHp → Prop} (h : yEF E yFP) : yTs E 1 ys115 := yver_s (x := yx115) h (yal_n) yg293 yk115
def ys116 : ySp := (285, 2, (0, [], [], [], [(0, (0, yc 4, yc 0)), (1, (0, yc 5, yc 0))], []), [(0, [], [], [], [], [])], [])
def yx116 : yCx := ([ys115], ys116.2.2.2.2, yFP, zm285.2.2.1, zm285.2.2.2.1, zc285, 0, ys116.2.2.2.1, [], [])
theorem yw116 : ywf ys116.2.2.1 = true := by decide +kernel
theorem yk116 : yver yx116 ys116.2.2.1 4000 = true := by decide +kernel
theorem yt116 {E : zHp → Prop} (h : yEF E yFP) : yTs E 2 ys116 := yver_s (x := yx116) h (yal_c (yt115 h) (by decide) yw115 (yal_n)) yg285 yk116
def ys117 : ySp := (286, 2, (0, [], [], [], [(0, (2, yc 1021, yc 0)), (1, (0, yc 4, yc 0))], []), [(0, [], [], [], [], [(0, yc 32, yc 0)])], [])
def yx117 : yCx := ([ys116], ys117.2.2.2.2, yFP, zm286.2.2.1, zm286.2.2.2.1, zc286, 0, ys117.2.2.2.1, [], [])
theorem yw117 : ywf ys117.2.2.1 = true := by decide +kernel
theorem yk117 : yver yx117 ys117.2.2.1 4000 = true := by decide +kernel
theorem yt117 {E : zHp → Prop} (h : yEF E yFP) : yTs E 3 ys117 := yver_s (x := yx117) h (yal_c (yt116 h) (by decide) yw116 (yal_n)) yg286 yk117
def ys118 : ySp := (282, 2, (0, [], [], [], [(0, (2, yc 1002, yc 0)), (1, (0, yc 4, yc 0))], []), [(0, [], [], [], [], [(0, yc 32, yc 0)])], [])
def yx118 : yCx := ([ys98, ys117], ys118.2.2.2.2, yFP, zm282.2.2.1, zm282.2.2.2.1, zc282, 0, ys118.2.2.2.1, [], [])
theorem yw118 : ywf ys118.2.2.1 = true := by decide +kernel
theorem yk118 : yver yx118 ys118.2.2.1 4000 = true := by decide +kernel
theorem yt118 {E : zHp → Prop} (h : yEF E yFP) : yTs E 4 ys118 := yver_s (x := yx118) h (yal_c (yt98 h) (by decide) yw98 (yal_c (yt117 h) (by decide) yw117 (yal_n))) yg282 yk118
def ys119 : ySp := (59, 6, (1, [(0, 0, 2147483647)], [], [(yc 2, yc 0, (2, yc 1, yc 0)), (yc 2, yc 4, (0, (1, 0, 0), yc 0))], [(0, (2, yc 2, yc 0)), (1, (2, yc 1002, yc 0))], []), [(3, [(1, 0, 400), (2, 0, 400)], [], [(yc 2, yc 0, (2, yc 1, yc 0)), (yc 2, yc 4, (0, (1, 0, 0), yc 0)), (yc 2, yc 2, (0, (1, 1, 0), yc 0)), (yc 2, yc 1, (0, (1, 2, 0), yc 0))], [], [(0, yc (-1), yc 0)]), (3, [(1, 0, 400), (2, 0, 400)], [], [(yc 2, yc 0, (2, yc 1, yc 0)), (yc 2, yc 4, (0, (1, 0, 0), yc 0)), (yc 2, yc 1, (0, (1, 1, 0), yc 0)), (yc 2, yc 2, (0, (1, 2, 0), yc 0))], [], [(0, yc 0, yc 0)])], [(2, 2, 2), (2, 2, 3)])
def yq119_0 : yCu := (18, (4, [(0, 0, 2147483647), (1, 0, 400), (2, 0, 400), (3, 0, 400)], [], [(yc 2, yc 0, (2, yc 1, yc 0)), (yc 2, yc 4, (0, (1, 0, 0), yc 0)), (yc 2, yc 2, (0, (1, 2, 0), yc 0)), (yc 2, yc 1, (0, (1, 3, 0), yc 0)), (yc 2, yc 3, (0, (1, 2, 0), yc 0))], [(0, (2, yc 2, yc 0)), (1, (2, yc 1002, yc 0)), (2, (0, (1, 1, 0), yc 0))], []), ([((-1), 1)], 406))
def yq119_1 : yCu := (55, (4, [(0, 0, 2147483647), (1, 0, 400), (2, 0, 400), (3, 0, 400)], [], [(yc 2, yc 0, (2, yc 1, yc 0)), (yc 2, yc 4, (0, (1, 0, 0), yc 0)), (yc 2, yc 2, (0, (1, 2, 0), yc 0)), (yc 2, yc 1, (0, (1, 3, 0), yc 0)), (yc 2, yc 3, (0, (1, 2, 0), yc 0))], [(0, (2, yc 2, yc 0)), (1, (2, yc 1002, yc 0)), (2, (0, (1, 1, 0), yc 0)), (3, (0, yc 0, yc 0)), (4, (0, (1, 2, 0), yc 0)), (5, (0, yc 0, yc 0))], []), ([], 5))
def yq119_2 : yCu := (55, (5, [(0, 0, 2147483647), (1, 0, 400), (2, (-1), 400), (3, 0, 400), (4, 0, 400)], [([(1, 1), ((-1), 2)], 0)], [(yc 2, yc 0, (2, yc 1, yc 0)), (yc 2, yc 4, (0, (1, 0, 0), yc 0)), (yc 2, yc 2, (0, (1, 3, 0), yc 0)), (yc 2, yc 1, (0, (1, 4, 0), yc 0)), (yc 2, yc 3, (0, (1, 3, 0), yc 0))], [(0, (2, yc 2, yc 0)), (1, (2, yc 1002, yc 0)), (2, (0, (1, 1, 0), yc 0)), (3, (0, yc 0, yc 0)), (4, (0, (1, 2, 0), yc 0)), (5, (0, yc 1, yc 0))], []), ([], 4))
def yq119_3 : yCu := (55, (5, [(0, 0, 2147483647), (1, 0, 400), (2, (-1), 400), (3, 0, 400), (4, 0, 400)], [([(1, 1), ((-1), 2)], 1), ([(1, 1), ((-1), 2)], 0)], [(yc 2, yc 0, (2, yc 1, yc 0)), (yc 2, yc 4, (0, (1, 0, 0), yc 0)), (yc 2, yc 2, (0, (1, 3, 0), yc 0)), (yc 2, yc 1, (0, (1, 4, 0), yc 0)), (yc 2, yc 3, (0, (1, 3, 0), yc 0))], [(0, (2, yc 2, yc 0)), (1, (2, yc 1002, yc 0)), (2, (0, (1, 1, 0), yc 0)), (3, (0, yc 0, yc 0)), (4, (0, (1, 2, 0), yc 0)), (5, (0, yc 2, yc 0))], []), ([], 3))
def yq119_4 : yCu := (55, (5, [(0, 0, 2147483647), (1, 0, 400), (2, (-1), 400), (3, 0, 400), (4, 0, 400)], [([(1, 1), ((-1), 2)], 2), ([(1, 1), ((-1), 2)], 1), ([(1, 1), ((-1), 2)], 0)], [(yc 2, yc 0, (2, yc 1, yc 0)), (yc 2, yc 4, (0, (1, 0, 0), yc 0)), (yc 2, yc 2, (0, (1, 3, 0), yc 0)), (yc 2, yc 1, (0, (1, 4, 0), yc 0)), (yc 2, yc 3, (0, (1, 3, 0), yc 0))], [(0, (2, yc 2, yc 0)), (1, (2, yc 1002, yc 0)), (2, (0, (1, 1, 0), yc 0)), (3, (0, yc 0, yc 0)), (4, (0, (1, 2, 0), yc 0)), (5, (0, yc 3, yc 0))], []), ([], 2))
def yq119_5 : yCu := (55, (5, [(0, 0, 2147483647), (1, 0, 400), (2, (-1), 400), (3, 0, 400), (4, 0, 400)], [([(1, 1), ((-1), 2)], 3), ([(1, 1), ((-1), 2)], 2), ([(1, 1), ((-1), 2)], 1), ([(1, 1), ((-1), 2)], 0)], [(yc 2, yc 0, (2, yc 1, yc 0)), (yc 2, yc 4, (0, (1, 0, 0), yc 0)), (yc 2, yc 2, (0, (1, 3, 0), yc 0)), (yc 2, yc 1, (0, (1, 4, 0), yc 0)), (yc 2, yc 3, (0, (1, 3, 0), yc 0))], [(0, (2, yc 2, yc 0)), (1, (2, yc 1002, yc 0)), (2, (0, (1, 1, 0), yc 0)), (3, (0, yc 0, yc 0)), (4, (0, (1, 2, 0), yc 0)), (5, (0, yc 4, yc 0))], []), ([], 1))
def yq119_6 : yCu := (55, (4, [(0, 0, 2147483647), (1, 0, 400), (2, 0, 400), (3, 0, 400)], [], [(yc 2, yc 0, (2, yc 1, yc 0)), (yc 2, yc 4, (0, (1, 0, 0), yc 0)), (yc 2, yc 2, (0, (1, 2, 0), yc 0)), (yc 2, yc 1, (0, (1, 3, 0), yc 0)), (yc 2, yc 3, (0, (1, 2, 0), yc 0))], [(0, (2, yc 2, yc 0)), (1, (2, yc 1002, yc 0)), (2, (0, (1, 1, 0), yc 0)), (3, (0, yc 1, yc 0)), (4, (0, (1, 2, 0), yc 0)), (5, (0, yc 5, yc 0))], []), ([], 0))
def yx119 : yCx := ([ys94, ys95, ys97, ys102, ys106, ys110, ys114, ys118], ys119.2.2.2.2, yFP, zm59.2.2.1, zm59.2.2.2.1, zc59, 1, ys119.2.2.2.1, [yq119_0, yq119_1, yq119_2, yq119_3, yq119_4, yq119_5, yq119_6], [])
theorem yw119 : ywf ys119.2.2.1 = true := by decide +kernel
theorem yk119_e : yver0 yx119 ys119.2.2.1 4000 = true := by decide +kernel
theorem yk119_0 : ycc yx119 4000 yq119_0 = true := by decide +kernel
theorem yk119_1 : ycc yx119 4000 yq119_1 = true := by decide +kernel
theorem yk119_2 : ycc yx119 4000 yq119_2 = true := by decide +kernel
theorem yk119_3 : ycc yx119 4000 yq119_3 = true := by decide +kernel
theorem yk119_4 : ycc yx119 4000 yq119_4 = true := by decide +kernel
theorem yk119_5 : ycc yx119 4000 yq119_5 = true := by decide +kernel
theorem yk119_6 : ycc yx119 4000 yq119_6 = true := by decide +kernel
theorem yk119 : yver yx119 ys119.2.2.1 4000 = true := yver_join yk119_e (ycc_c yk119_0 (ycc_c yk119_1 (ycc_c yk119_2 (ycc_c yk119_3 (ycc_c yk119_4 (ycc_c yk119_5 (ycc_c yk119_6 (ycc_n))))))))
theorem yt119 {E : zHp → Prop} (h : yEF E yFP) : yTs E 5 ys119 := yver_s (x := yx119) h (yal_c (yt94 h) (by decide) yw94 (yal_c (yt95 h) (by decide) yw95 (yal_c (yt97 h) (by decide) yw97 (yal_c (yt102 h) (by decide) yw102 (yal_c (yt106 h) (by decide) yw106 (yal_c (yt110 h) (by decide) yw110 (yal_c (yt114 h) (by decide) yw114 (yal_c (yt118 h) (by decide) yw118 (yal_n))))))))) yg59 yk119
def ys120 : ySp := (52, 3, (3, [(0, 0, 400), (1, 0, 1), (2, 0, 2147483647)], [], [(yc 2, yc 4, (0, (1, 2, 0), yc 0))], [(0, (2, yc 2, yc 0)), (1, (0, (1, 0, 0), yc 0)), (2, (0, (1, 1, 0), yc 0))], []), [(4, [(3, 1, 2147483647)], [], [(yc 2, yc 4, (0, (1, 3, 0), yc 0))], [], [])], [(2, 2, 4)])
def yx120 : yCx := ([], ys120.2.2.2.2, yFP, zm52.2.2.1, zm52.2.2.2.1, zc52, 3, ys120.2.2.2.1, [], [])
theorem yw120 : ywf ys120.2.2.1 = true := by decide +kernel
theorem yk120 : yver yx120 ys120.2.2.1 4000 = true := by decide +kernel
theorem yt120 {E : zHp → Prop} (h : yEF E yFP) : yTs E 1 ys120 := yver_s (x := yx120) h (yal_n) yg52 yk120
def ys121 : ySp := (60, 3, (1, [(0, 0, 2147483647)], [], [(yc 2, yc 0, (2, yc 1, yc 0)), (yc 2, yc 4, (0, (1, 0, 0), yc 0))], [(0, (2, yc 2, yc 0)), (1, (2, yc 1002, yc 0))], []), [(4, [(1, 0, 400), (2, 0, 400), (3, 1, 2147483647)], [], [(yc 2, yc 0, (2, yc 1, yc 0)), (yc 2, yc 2, (0, (1, 1, 0), yc 0)), (yc 2, yc 1, (0, (1, 2, 0), yc 0)), (yc 2, yc 4, (0, (1, 3, 0), yc 0))], [], [(0, yc (-1), yc 0)]), (3, [(1, 0, 400), (2, 0, 400)], [], [(yc 2, yc 0, (2, yc 1, yc 0)), (yc 2, yc 4, (0, (1, 0, 0), yc 0)), (yc 2, yc 1, (0, (1, 1, 0), yc 0)), (yc 2, yc 2, (0, (1, 2, 0), yc 0))], [], [(0, yc 0, yc 0)])], [(2, 2, 2), (2, 2, 3), (2, 2, 4)])
def yx121 : yCx := ([ys120, ys119], ys121.2.2.2.2, yFP, zm60.2.2.1, zm60.2.2.2.1, zc60, 1, ys121.2.2.2.1, [], [])
theorem yw121 : ywf ys121.2.2.1 = true := by decide +kernel
theorem yk121 : yver yx121 ys121.2.2.1 4000 = true := by decide +kernel
theorem yt121 {E : zHp → Prop} (h : yEF E yFP) : yTs E 6 ys121 := yver_s (x := yx121) h (yal_c (yt120 h) (by decide) yw120 (yal_c (yt119 h) (by decide) yw119 (yal_n))) yg60 yk121
def ys122 : ySp := (52, 3, (3, [(0, 0, 400), (1, 0, 4), (2, 0, 2147483647)], [], [(yc 2, yc 4, (0, (1, 2, 0), yc 0))], [(0, (2, yc 2, yc 0)), (1, (0, (1, 0, 0), yc 0)), (2, (0, (1, 1, 0), yc 0))], []), [(4, [(3, 1, 2147483647)], [], [(yc 2, yc 4, (0, (1, 3, 0), yc 0))], [], [])], [(2, 2, 4)])
def yx122 : yCx := ([], ys122.2.2.2.2, yFP, zm52.2.2.1, zm52.2.2.2.1, zc52, 3, ys122.2.2.2.1, [], [])
theorem yw122 : ywf ys122.2.2.1 = true := by decide +kernel
theorem yk122 : yver yx122 ys122.2.2.1 4000 = true := by decide +kernel
theorem yt122 {E : zHp → Prop} (h : yEF E yFP) : yTs E 1 ys122 := yver_s (x := yx122) h (yal_n) yg52 yk122
def ys123 : ySp := (34, 2, (1, [(0, 0, 2147483647)], [], [(yc 2, yc 0, (2, yc 1, yc 0)), (yc 2, yc 4, (0, (1, 0, 0), yc 0))], [(0, (2, yc 6, yc 0)), (1, (2, yc 2, yc 0))], []), [(4, [(1, 0, 400), (2, 0, 400), (3, 0, 2147483647)], [], [(yc 2, yc 0, (2, yc 1, yc 0)), (yc 2, yc 1, (0, (1, 1, 0), yc 0)), (yc 2, yc 2, (0, (1, 2, 0), yc 0)), (yc 2, yc 4, (0, (1, 3, 0), yc 0))], [], [])], [(2, 2, 2), (2, 2, 3), (2, 2, 4), (6, 6, 4), (6, 6, 8), (6, 6, 9)])
def yx123 : yCx := ([ys122, ys121], ys123.2.2.2.2, yFP, zm34.2.2.1, zm34.2.2.2.1, zc34, 1, ys123.2.2.2.1, [], [])
theorem yw123 : ywf ys123.2.2.1 = true := by decide +kernel
theorem yk123 : yver yx123 ys123.2.2.1 4000 = true := by decide +kernel
theorem yt123 {E : zHp → Prop} (h : yEF E yFP) : yTs E 7 ys123 := yver_s (x := yx123) h (yal_c (yt122 h) (by decide) yw122 (yal_c (yt121 h) (by decide) yw121 (yal_n))) yg34 yk123
def ys124 : ySp := (54, 1, (1, [(0, 0, 399)], [], [(yc 2, yc 2, (0, (1, 0, 0), yc 0))], [(0, (2, yc 2, yc 0))], []), [(1, [], [], [(yc 2, yc 2, (0, (1, 0, 1), yc 0))], [], [])], [(2, 2, 2)])
def yx124 : yCx := ([], ys124.2.2.2.2, yFP, zm54.2.2.1, zm54.2.2.2.1, zc54, 1, ys124.2.2.2.1, [], [])
theorem yw124 : ywf ys124.2.2.1 = true := by decide +kernel
theorem yk124 : yver yx124 ys124.2.2.1 4000 = true := by decide +kernel
theorem yt124 {E : zHp → Prop} (h : yEF E yFP) : yTs E 1 ys124 := yver_s (x := yx124) h (yal_n) yg54 yk124
def ys125 : ySp := (47, 2, (1, [(0, 0, 1)], [], [], [(0, (2, yc 6, yc 0)), (1, (0, (1, 0, 0), yc 0))], []), [(1, [], [], [], [], [])], [(6, 6, 3), (8, 8, 1000)])
def yx125 : yCx := ([], ys125.2.2.2.2, yFP, zm47.2.2.1, zm47.2.2.2.1, zc47, 1, ys125.2.2.2.1, [], [])
theorem yw125 : ywf ys125.2.2.1 = true := by decide +kernel
theorem yk125 : yver yx125 ys125.2.2.1 4000 = true := by decide +kernel
theorem yt125 {E : zHp → Prop} (h : yEF E yFP) : yTs E 1 ys125 := yver_s (x := yx125) h (yal_n) yg47 yk125
def ys126 : ySp := (283, 1, (0, [], [], [], [(0, (2, yc 1003, yc 0))], []), [(0, [], [], [], [], [(0, yc 0, yc 0)])], [])
def yx126 : yCx := ([], ys126.2.2.2.2, yFP, zm283.2.2.1, zm283.2.2.2.1, zc283, 0, ys126.2.2.2.1, [], [])
theorem yw126 : ywf ys126.2.2.1 = true := by decide +kernel
theorem yk126 : yver yx126 ys126.2.2.1 4000 = true := by decide +kernel
theorem yt126 {E : zHp → Prop} (h : yEF E yFP) : yTs E 1 ys126 := yver_s (x := yx126) h (yal_n) yg283 yk126
def ys127 : ySp := (281, 1, (0, [], [], [], [(0, (2, yc 1003, yc 0))], []), [(0, [], [], [], [], [(0, yc 4, yc 0)])], [])
def yx127 : yCx := ([ys126], ys127.2.2.2.2, yFP, zm281.2.2.1, zm281.2.2.2.1, zc281, 0, ys127.2.2.2.1, [], [])
theorem yw127 : ywf ys127.2.2.1 = true := by decide +kernel
theorem yk127 : yver yx127 ys127.2.2.1 4000 = true := by decide +kernel
theorem yt127 {E : zHp → Prop} (h : yEF E yFP) : yTs E 2 ys127 := yver_s (x := yx127) h (yal_c (yt126 h) (by decide) yw126 (yal_n)) yg281 yk127
def ys128 : ySp := (284, 1, (0, [], [], [], [(0, (2, yc 1003, yc 0))], []), [(0, [], [], [], [], [(0, yc 1, yc 0)])], [])
def yx128 : yCx := ([], ys128.2.2.2.2, yFP, zm284.2.2.1, zm284.2.2.2.1, zc284, 0, ys128.2.2.2.1, [], [])
theorem yw128 : ywf ys128.2.2.1 = true := by decide +kernel
theorem yk128 : yver yx128 ys128.2.2.1 4000 = true := by decide +kernel
theorem yt128 {E : zHp → Prop} (h : yEF E yFP) : yTs E 1 ys128 := yver_s (x := yx128) h (yal_n) yg284 yk128
def ys129 : ySp := (293, 3, (0, [], [], [], [(0, (0, yc 0, yc 0)), (1, (0, yc 4, yc 0)), (2, (7, yc 0, yc 0))], []), [(0, [], [], [], [], [(0, yc 0, yc 0)])], [])
def yx129 : yCx := ([], ys129.2.2.2.2, yFP, zm293.2.2.1, zm293.2.2.2.1, zc293, 0, ys129.2.2.2.1, [], [])
theorem yw129 : ywf ys129.2.2.1 = true := by decide +kernel
theorem yk129 : yver yx129 ys129.2.2.1 4000 = true := by decide +kernel
theorem yt129 {E : zHp → Prop} (h : yEF E yFP) : yTs E 1 ys129 := yver_s (x := yx129) h (yal_n) yg293 yk129
def ys130 : ySp := (285, 2, (0, [], [], [], [(0, (0, yc 0, yc 0)), (1, (0, yc 4, yc 0))], []), [(0, [], [], [], [], [])], [])
def yx130 : yCx := ([ys129], ys130.2.2.2.2, yFP, zm285.2.2.1, zm285.2.2.2.1, zc285, 0, ys130.2.2.2.1, [], [])
theorem yw130 : ywf ys130.2.2.1 = true := by decide +kernel
theorem yk130 : yver yx130 ys130.2.2.1 4000 = true := by decide +kernel
theorem yt130 {E : zHp → Prop} (h : yEF E yFP) : yTs E 2 ys130 := yver_s (x := yx130) h (yal_c (yt129 h) (by decide) yw129 (yal_n)) yg285 yk130
def ys131 : ySp := (286, 2, (0, [], [], [], [(0, (2, yc 1022, yc 0)), (1, (0, yc 0, yc 0))], []), [(0, [], [], [], [], [(0, yc 110, yc 0)])], [])
def yx131 : yCx := ([ys130], ys131.2.2.2.2, yFP, zm286.2.2.1, zm286.2.2.2.1, zc286, 0, ys131.2.2.2.1, [], [])
theorem yw131 : ywf ys131.2.2.1 = true := by decide +kernel
theorem yk131 : yver yx131 ys131.2.2.1 4000 = true := by decide +kernel
theorem yt131 {E : zHp → Prop} (h : yEF E yFP) : yTs E 3 ys131 := yver_s (x := yx131) h (yal_c (yt130 h) (by decide) yw130 (yal_n)) yg286 yk131
def ys132 : ySp := (282, 2, (0, [], [], [], [(0, (2, yc 1003, yc 0)), (1, (0, yc 0, yc 0))], []), [(0, [], [], [], [], [(0, yc 110, yc 0)])], [])
def yx132 : yCx := ([ys128, ys131], ys132.2.2.2.2, yFP, zm282.2.2.1, zm282.2.2.2.1, zc282, 0, ys132.2.2.2.1, [], [])
theorem yw132 : ywf ys132.2.2.1 = true := by decide +kernel
theorem yk132 : yver yx132 ys132.2.2.1 4000 = true := by decide +kernel
theorem yt132 {E : zHp → Prop} (h : yEF E yFP) : yTs E 4 ys132 := yver_s (x := yx132) h (yal_c (yt128 h) (by decide) yw128 (yal_c (yt131 h) (by decide) yw131 (yal_n))) yg282 yk132
def ys133 : ySp := (293, 3, (0, [], [], [], [(0, (0, yc 1, yc 0)), (1, (0, yc 4, yc 0)), (2, (7, yc 0, yc 0))], []), [(0, [], [], [], [], [(0, yc 1, yc 0)])], [])
def yx133 : yCx := ([], ys133.2.2.2.2, yFP, zm293.2.2.1, zm293.2.2.2.1, zc293, 0, ys133.2.2.2.1, [], [])
theorem yw133 : ywf ys133.2.2.1 = true := by decide +kernel
theorem yk133 : yver yx133 ys133.2.2.1 4000 = true := by decide +kernel
theorem yt133 {E : zHp → Prop} (h : yEF E yFP) : yTs E 1 ys133 := yver_s (x := yx133) h (yal_n) yg293 yk133
def ys134 : ySp := (285, 2, (0, [], [], [], [(0, (0, yc 1, yc 0)), (1, (0, yc 4, yc 0))], []), [(0, [], [], [], [], [])], [])
def yx134 : yCx := ([ys133], ys134.2.2.2.2, yFP, zm285.2.2.1, zm285.2.2.2.1, zc285, 0, ys134.2.2.2.1, [], [])
theorem yw134 : ywf ys134.2.2.1 = true := by decide +kernel
theorem yk134 : yver yx134 ys134.2.2.1 4000 = true := by decide +kernel
theorem yt134 {E : zHp → Prop} (h : yEF E yFP) : yTs E 2 ys134 := yver_s (x := yx134) h (yal_c (yt133 h) (by decide) yw133 (yal_n)) yg285 yk134
def ys135 : ySp := (286, 2, (0, [], [], [], [(0, (2, yc 1022, yc 0)), (1, (0, yc 1, yc 0))], []), [(0, [], [], [], [], [(0, yc 111, yc 0)])], [])
def yx135 : yCx := ([ys134], ys135.2.2.2.2, yFP, zm286.2.2.1, zm286.2.2.2.1, zc286, 0, ys135.2.2.2.1, [], [])
theorem yw135 : ywf ys135.2.2.1 = true := by decide +kernel
theorem yk135 : yver yx135 ys135.2.2.1 4000 = true := by decide +kernel
theorem yt135 {E : zHp → Prop} (h : yEF E yFP) : yTs E 3 ys135 := yver_s (x := yx135) h (yal_c (yt134 h) (by decide) yw134 (yal_n)) yg286 yk135
def ys136 : ySp := (282, 2, (0, [], [], [], [(0, (2, yc 1003, yc 0)), (1, (0, yc 1, yc 0))], []), [(0, [], [], [], [], [(0, yc 111, yc 0)])], [])
def yx136 : yCx := ([ys128, ys135], ys136.2.2.2.2, yFP, zm282.2.2.1, zm282.2.2.2.1, zc282, 0, ys136.2.2.2.1, [], [])
theorem yw136 : ywf ys136.2.2.1 = true := by decide +kernel
theorem yk136 : yver yx136 ys136.2.2.1 4000 = true := by decide +kernel
theorem yt136 {E : zHp → Prop} (h : yEF E yFP) : yTs E 4 ys136 := yver_s (x := yx136) h (yal_c (yt128 h) (by decide) yw128 (yal_c (yt135 h) (by decide) yw135 (yal_n))) yg282 yk136
def ys137 : ySp := (293, 3, (0, [], [], [], [(0, (0, yc 2, yc 0)), (1, (0, yc 4, yc 0)), (2, (7, yc 0, yc 0))], []), [(0, [], [], [], [], [(0, yc 2, yc 0)])], [])
def yx137 : yCx := ([], ys137.2.2.2.2, yFP, zm293.2.2.1, zm293.2.2.2.1, zc293, 0, ys137.2.2.2.1, [], [])
theorem yw137 : ywf ys137.2.2.1 = true := by decide +kernel
theorem yk137 : yver yx137 ys137.2.2.1 4000 = true := by decide +kernel
theorem yt137 {E : zHp → Prop} (h : yEF E yFP) : yTs E 1 ys137 := yver_s (x := yx137) h (yal_n) yg293 yk137
def ys138 : ySp := (285, 2, (0, [], [], [], [(0, (0, yc 2, yc 0)), (1, (0, yc 4, yc 0))], []), [(0, [], [], [], [], [])], [])
def yx138 : yCx := ([ys137], ys138.2.2.2.2, yFP, zm285.2.2.1, zm285.2.2.2.1, zc285, 0, ys138.2.2.2.1, [], [])
theorem yw138 : ywf ys138.2.2.1 = true := by decide +kernel
theorem yk138 : yver yx138 ys138.2.2.1 4000 = true := by decide +kernel
theorem yt138 {E : zHp → Prop} (h : yEF E yFP) : yTs E 2 ys138 := yver_s (x := yx138) h (yal_c (yt137 h) (by decide) yw137 (yal_n)) yg285 yk138
def ys139 : ySp := (286, 2, (0, [], [], [], [(0, (2, yc 1022, yc 0)), (1, (0, yc 2, yc 0))], []), [(0, [], [], [], [], [(0, yc 116, yc 0)])], [])
def yx139 : yCx := ([ys138], ys139.2.2.2.2, yFP, zm286.2.2.1, zm286.2.2.2.1, zc286, 0, ys139.2.2.2.1, [], [])
theorem yw139 : ywf ys139.2.2.1 = true := by decide +kernel
theorem yk139 : yver yx139 ys139.2.2.1 4000 = true := by decide +kernel
theorem yt139 {E : zHp → Prop} (h : yEF E yFP) : yTs E 3 ys139 := yver_s (x := yx139) h (yal_c (yt138 h) (by decide) yw138 (yal_n)) yg286 yk139
def ys140 : ySp := (282, 2, (0, [], [], [], [(0, (2, yc 1003, yc 0)), (1, (0, yc 2, yc 0))], []), [(0, [], [], [], [], [(0, yc 116, yc 0)])], [])
def yx140 : yCx := ([ys128, ys139], ys140.2.2.2.2, yFP, zm282.2.2.1, zm282.2.2.2.1, zc282, 0, ys140.2.2.2.1, [], [])
theorem yw140 : ywf ys140.2.2.1 = true := by decide +kernel
theorem yk140 : yver yx140 ys140.2.2.1 4000 = true := by decide +kernel
theorem yt140 {E : zHp → Prop} (h : yEF E yFP) : yTs E 4 ys140 := yver_s (x := yx140) h (yal_c (yt128 h) (by decide) yw128 (yal_c (yt139 h) (by decide) yw139 (yal_n))) yg282 yk140
def ys141 : ySp := (293, 3, (0, [], [], [], [(0, (0, yc 3, yc 0)), (1, (0, yc 4, yc 0)), (2, (7, yc 0, yc 0))], []), [(0, [], [], [], [], [(0, yc 3, yc 0)])], [])
def yx141 : yCx := ([], ys141.2.2.2.2, yFP, zm293.2.2.1, zm293.2.2.2.1, zc293, 0, ys141.2.2.2.1, [], [])
theorem yw141 : ywf ys141.2.2.1 = true := by decide +kernel
theorem yk141 : yver yx141 ys141.2.2.1 4000 = true := by decide +kernel
theorem yt141 {E : zHp → Prop} (h : yEF E yFP) : yTs E 1 ys141 := yver_s (x := yx141) h (yal_n) yg293 yk141
def ys142 : ySp := (285, 2, (0, [], [], [], [(0, (0, yc 3, yc 0)), (1, (0, yc 4, yc 0))], []), [(0, [], [], [], [], [])], [])
def yx142 : yCx := ([ys141], ys142.2.2.2.2, yFP, zm285.2.2.1, zm285.2.2.2.1, zc285, 0, ys142.2.2.2.1, [], [])
theorem yw142 : ywf ys142.2.2.1 = true := by decide +kernel
theorem yk142 : yver yx142 ys142.2.2.1 4000 = true := by decide +kernel
theorem yt142 {E : zHp → Prop} (h : yEF E yFP) : yTs E 2 ys142 := yver_s (x := yx142) h (yal_c (yt141 h) (by decide) yw141 (yal_n)) yg285 yk142
def ys143 : ySp := (286, 2, (0, [], [], [], [(0, (2, yc 1022, yc 0)), (1, (0, yc 3, yc 0))], []), [(0, [], [], [], [], [(0, yc 32, yc 0)])], [])
def yx143 : yCx := ([ys142], ys143.2.2.2.2, yFP, zm286.2.2.1, zm286.2.2.2.1, zc286, 0, ys143.2.2.2.1, [], [])
theorem yw143 : ywf ys143.2.2.1 = true := by decide +kernel
theorem yk143 : yver yx143 ys143.2.2.1 4000 = true := by decide +kernel
theorem yt143 {E : zHp → Prop} (h : yEF E yFP) : yTs E 3 ys143 := yver_s (x := yx143) h (yal_c (yt142 h) (by decide) yw142 (yal_n)) yg286 yk143
def ys144 : ySp := (282, 2, (0, [], [], [], [(0, (2, yc 1003, yc 0)), (1, (0, yc 3, yc 0))], []), [(0, [], [], [], [], [(0, yc 32, yc 0)])], [])
def yx144 : yCx := ([ys128, ys143], ys144.2.2.2.2, yFP, zm282.2.2.1, zm282.2.2.2.1, zc282, 0, ys144.2.2.2.1, [], [])
theorem yw144 : ywf ys144.2.2.1 = true := by decide +kernel
theorem yk144 : yver yx144 ys144.2.2.1 4000 = true := by decide +kernel
theorem yt144 {E : zHp → Prop} (h : yEF E yFP) : yTs E 4 ys144 := yver_s (x := yx144) h (yal_c (yt128 h) (by decide) yw128 (yal_c (yt143 h) (by decide) yw143 (yal_n))) yg282 yk144
def ys145 : ySp := (59, 6, (1, [(0, 0, 2147483647)], [], [(yc 2, yc 0, (2, yc 1, yc 0)), (yc 2, yc 4, (0, (1, 0, 0), yc 0))], [(0, (2, yc 2, yc 0)), (1, (2, yc 1003, yc 0))], []), [(3, [(1, 0, 400), (2, 0, 400)], [], [(yc 2, yc 0, (2, yc 1, yc 0)), (yc 2, yc 4, (0, (1, 0, 0), yc 0)), (yc 2, yc 2, (0, (1, 1, 0), yc 0)), (yc 2, yc 1, (0, (1, 2, 0), yc 0))], [], [(0, yc (-1), yc 0)]), (3, [(1, 0, 400), (2, 0, 400)], [], [(yc 2, yc 0, (2, yc 1, yc 0)), (yc 2, yc 4, (0, (1, 0, 0), yc 0)), (yc 2, yc 1, (0, (1, 1, 0), yc 0)), (yc 2, yc 2, (0, (1, 2, 0), yc 0))], [], [(0, yc 0, yc 0)])], [(2, 2, 2), (2, 2, 3)])
def yx145 : yCx := ([ys94, ys95, ys127, ys132, ys136, ys140, ys144], ys145.2.2.2.2, yFP, zm59.2.2.1, zm59.2.2.2.1, zc59, 1, ys145.2.2.2.1, [(18, (4, [(0, 0, 2147483647), (1, 0, 400), (2, 0, 400), (3, 0, 400)], [], [(yc 2, yc 0, (2, yc 1, yc 0)), (yc 2, yc 4, (0, (1, 0, 0), yc 0)), (yc 2, yc 2, (0, (1, 2, 0), yc 0)), (yc 2, yc 1, (0, (1, 3, 0), yc 0)), (yc 2, yc 3, (0, (1, 2, 0), yc 0))], [(0, (2, yc 2, yc 0)), (1, (2, yc 1003, yc 0)), (2, (0, (1, 1, 0), yc 0))], []), ([((-1), 1)], 405)), (55, (4, [(0, 0, 2147483647), (1, 0, 400), (2, 0, 400), (3, 0, 400)], [], [(yc 2, yc 0, (2, yc 1, yc 0)), (yc 2, yc 4, (0, (1, 0, 0), yc 0)), (yc 2, yc 2, (0, (1, 2, 0), yc 0)), (yc 2, yc 1, (0, (1, 3, 0), yc 0)), (yc 2, yc 3, (0, (1, 2, 0), yc 0))], [(0, (2, yc 2, yc 0)), (1, (2, yc 1003, yc 0)), (2, (0, (1, 1, 0), yc 0)), (3, (0, yc 0, yc 0)), (4, (0, (1, 2, 0), yc 0)), (5, (0, yc 0, yc 0))], []), ([], 4)), (55, (5, [(0, 0, 2147483647), (1, 0, 400), (2, (-1), 400), (3, 0, 400), (4, 0, 400)], [([(1, 1), ((-1), 2)], 0)], [(yc 2, yc 0, (2, yc 1, yc 0)), (yc 2, yc 4, (0, (1, 0, 0), yc 0)), (yc 2, yc 2, (0, (1, 3, 0), yc 0)), (yc 2, yc 1, (0, (1, 4, 0), yc 0)), (yc 2, yc 3, (0, (1, 3, 0), yc 0))], [(0, (2, yc 2, yc 0)), (1, (2, yc 1003, yc 0)), (2, (0, (1, 1, 0), yc 0)), (3, (0, yc 0, yc 0)), (4, (0, (1, 2, 0), yc 0)), (5, (0, yc 1, yc 0))], []), ([], 3)), (55, (5, [(0, 0, 2147483647), (1, 0, 400), (2, (-1), 400), (3, 0, 400), (4, 0, 400)], [([(1, 1), ((-1), 2)], 1), ([(1, 1), ((-1), 2)], 0)], [(yc 2, yc 0, (2, yc 1, yc 0)), (yc 2, yc 4, (0, (1, 0, 0), yc 0)), (yc 2, yc 2, (0, (1, 3, 0), yc 0)), (yc 2, yc 1, (0, (1, 4, 0), yc 0)), (yc 2, yc 3, (0, (1, 3, 0), yc 0))], [(0, (2, yc 2, yc 0)), (1, (2, yc 1003, yc 0)), (2, (0, (1, 1, 0), yc 0)), (3, (0, yc 0, yc 0)), (4, (0, (1, 2, 0), yc 0)), (5, (0, yc 2, yc 0))], []), ([], 2)), (55, (5, [(0, 0, 2147483647), (1, 0, 400), (2, (-1), 400), (3, 0, 400), (4, 0, 400)], [([(1, 1), ((-1), 2)], 2), ([(1, 1), ((-1), 2)], 1), ([(1, 1), ((-1), 2)], 0)], [(yc 2, yc 0, (2, yc 1, yc 0)), (yc 2, yc 4, (0, (1, 0, 0), yc 0)), (yc 2, yc 2, (0, (1, 3, 0), yc 0)), (yc 2, yc 1, (0, (1, 4, 0), yc 0)), (yc 2, yc 3, (0, (1, 3, 0), yc 0))], [(0, (2, yc 2, yc 0)), (1, (2, yc 1003, yc 0)), (2, (0, (1, 1, 0), yc 0)), (3, (0, yc 0, yc 0)), (4, (0, (1, 2, 0), yc 0)), (5, (0, yc 3, yc 0))], []), ([], 1)), (55, (4, [(0, 0, 2147483647), (1, 0, 400), (2, 0, 400), (3, 0, 400)], [], [(yc 2, yc 0, (2, yc 1, yc 0)), (yc 2, yc 4, (0, (1, 0, 0), yc 0)), (yc 2, yc 2, (0, (1, 2, 0), yc 0)), (yc 2, yc 1, (0, (1, 3, 0), yc 0)), (yc 2, yc 3, (0, (1, 2, 0), yc 0))], [(0, (2, yc 2, yc 0)), (1, (2, yc 1003, yc 0)), (2, (0, (1, 1, 0), yc 0)), (3, (0, yc 1, yc 0)), (4, (0, (1, 2, 0), yc 0)), (5, (0, yc 4, yc 0))], []), ([], 0))], [])
theorem yw145 : ywf ys145.2.2.1 = true := by decide +kernel
theorem yk145 : yver yx145 ys145.2.2.1 4000 = true := by decide +kernel
theorem yt145 {E : zHp → Prop} (h : yEF E yFP) : yTs E 5 ys145 := yver_s (x := yx145) h (yal_c (yt94 h) (by decide) yw94 (yal_c (yt95 h) (by decide) yw95 (yal_c (yt127 h) (by decide) yw127 (yal_c (yt132 h) (by decide) yw132 (yal_c (yt136 h) (by decide) yw136 (yal_c (yt140 h) (by decide) yw140 (yal_c (yt144 h) (by decide) yw144 (yal_n)))))))) yg59 yk145
def ys146 : ySp := (47, 2, (1, [(0, 0, 3)], [], [], [(0, (2, yc 6, yc 0)), (1, (0, (1, 0, 0), yc 0))], []), [(1, [], [], [], [], [])], [(6, 6, 3), (8, 8, 1000)])
def yx146 : yCx := ([], ys146.2.2.2.2, yFP, zm47.2.2.1, zm47.2.2.2.1, zc47, 1, ys146.2.2.2.1, [], [])
theorem yw146 : ywf ys146.2.2.1 = true := by decide +kernel
theorem yk146 : yver yx146 ys146.2.2.1 4000 = true := by decide +kernel
theorem yt146 {E : zHp → Prop} (h : yEF E yFP) : yTs E 1 ys146 := yver_s (x := yx146) h (yal_n) yg47 yk146
def ys147 : ySp := (56, 1, (1, [(0, 0, 255)], [], [], [(0, (0, (1, 0, 0), yc 0))], []), [(1, [], [], [], [], [(0, yc 0, yc 0)]), (1, [(0, 48, 57)], [], [], [], [(0, yc 1, yc 0)])], [])
def yx147 : yCx := ([], ys147.2.2.2.2, yFP, zm56.2.2.1, zm56.2.2.2.1, zc56, 1, ys147.2.2.2.1, [], [])
theorem yw147 : ywf ys147.2.2.1 = true := by decide +kernel
theorem yk147 : yver yx147 ys147.2.2.1 4000 = true := by decide +kernel
theorem yt147 {E : zHp → Prop} (h : yEF E yFP) : yTs E 1 ys147 := yver_s (x := yx147) h (yal_n) yg56 yk147
def ys148 : ySp := (58, 4, (1, [(0, 0, 2147483647)], [], [(yc 2, yc 0, (2, yc 1, yc 0)), (yc 2, yc 4, (0, (1, 0, 0), yc 0))], [(0, (2, yc 2, yc 0)), (1, (0, yc 0, yc 0)), (2, (0, yc 99999, yc 0))], []), [(5, [(1, (-2147483648), 2147483647), (2, 0, 400), (3, 0, 400), (4, 1, 2147483647)], [], [(yc 2, yc 0, (2, yc 1, yc 0)), (yc 2, yc 2, (0, (1, 2, 0), yc 0)), (yc 2, yc 1, (0, (1, 3, 0), yc 0)), (yc 2, yc 4, (0, (1, 4, 0), yc 0))], [], [(0, (1, 1, 0), yc 0)]), (4, [(1, 0, 99999), (2, 0, 400), (3, 0, 400)], [], [(yc 2, yc 0, (2, yc 1, yc 0)), (yc 2, yc 4, (0, (1, 0, 0), yc 0)), (yc 2, yc 2, (0, (1, 2, 0), yc 0)), (yc 2, yc 1, (0, (1, 3, 0), yc 0))], [], [(0, (1, 1, 0), yc 0)])], [(2, 2, 2), (2, 2, 3), (2, 2, 4)])
def yx148 : yCx := ([ys120, ys94, ys147], ys148.2.2.2.2, yFP, zm58.2.2.1, zm58.2.2.2.1, zc58, 1, ys148.2.2.2.1, [(15, (5, [(0, 0, 2147483647), (1, (-2147483648), 2147483647), (2, 0, 400), (3, 0, 400), (4, 0, 400)], [], [(yc 2, yc 0, (2, yc 1, yc 0)), (yc 2, yc 4, (0, (1, 0, 0), yc 0)), (yc 2, yc 2, (0, (1, 2, 0), yc 0)), (yc 2, yc 1, (0, (1, 3, 0), yc 0)), (yc 2, yc 3, (0, (1, 4, 0), yc 0))], [(0, (2, yc 2, yc 0)), (1, (0, yc 0, yc 0)), (2, (0, yc 99999, yc 0)), (3, (0, (1, 1, 0), yc 0))], []), ([((-1), 2)], 401))], [])
theorem yw148 : ywf ys148.2.2.1 = true := by decide +kernel
theorem yk148 : yver yx148 ys148.2.2.1 4000 = true := by decide +kernel
theorem yt148 {E : zHp → Prop} (h : yEF E yFP) : yTs E 2 ys148 := yver_s (x := yx148) h (yal_c (yt120 h) (by decide) yw120 (yal_c (yt94 h) (by decide) yw94 (yal_c (yt147 h) (by decide) yw147 (yal_n)))) yg58 yk148
def ys149 : ySp := (48, 2, (1, [(0, 0, 2147483647)], [], [], [(0, (2, yc 6, yc 0)), (1, (0, (1, 0, 0), yc 0))], []), [(1, [], [], [], [], [])], [(6, 6, 1), (7, 7, 1000)])
def yx149 : yCx := ([], ys149.2.2.2.2, yFP, zm48.2.2.1, zm48.2.2.2.1, zc48, 1, ys149.2.2.2.1, [], [])
theorem yw149 : ywf ys149.2.2.1 = true := by decide +kernel
theorem yk149 : yver yx149 ys149.2.2.1 4000 = true := by decide +kernel
theorem yt149 {E : zHp → Prop} (h : yEF E yFP) : yTs E 1 ys149 := yver_s (x := yx149) h (yal_n) yg48 yk149
def ys150 : ySp := (37, 3, (2, [(0, 0, 400), (1, 0, 2147483647)], [], [(yc 2, yc 0, (2, yc 1, yc 0)), (yc 2, yc 4, (0, (1, 1, 0), yc 0))], [(0, (2, yc 6, yc 0)), (1, (2, yc 2, yc 0)), (2, (0, (1, 0, 0), yc 0))], []), [(3, [(2, 0, 2147483647)], [], [(yc 2, yc 0, (2, yc 1, yc 0)), (yc 2, yc 4, (0, (1, 2, 0), yc 0))], [], [])], [(2, 2, 4), (6, 6, 5)])
def yx150 : yCx := ([ys122], ys150.2.2.2.2, yFP, zm37.2.2.1, zm37.2.2.2.1, zc37, 2, ys150.2.2.2.1, [], [])
theorem yw150 : ywf ys150.2.2.1 = true := by decide +kernel
theorem yk150 : yver yx150 ys150.2.2.1 4000 = true := by decide +kernel
theorem yt150 {E : zHp → Prop} (h : yEF E yFP) : yTs E 2 ys150 := yver_s (x := yx150) h (yal_c (yt122 h) (by decide) yw122 (yal_n)) yg37 yk150
def ys151 : ySp := (48, 2, (1, [(0, (-2147483648), 2147483647)], [], [], [(0, (2, yc 6, yc 0)), (1, (0, (1, 0, 0), yc 0))], []), [(1, [], [], [], [], [])], [(6, 6, 1), (7, 7, 1000)])
def yx151 : yCx := ([], ys151.2.2.2.2, yFP, zm48.2.2.1, zm48.2.2.2.1, zc48, 1, ys151.2.2.2.1, [], [])
theorem yw151 : ywf ys151.2.2.1 = true := by decide +kernel
theorem yk151 : yver yx151 ys151.2.2.1 4000 = true := by decide +kernel
theorem yt151 {E : zHp → Prop} (h : yEF E yFP) : yTs E 1 ys151 := yver_s (x := yx151) h (yal_n) yg48 yk151
def ys152 : ySp := (283, 1, (0, [], [], [], [(0, (2, yc 1004, yc 0))], []), [(0, [], [], [], [], [(0, yc 0, yc 0)])], [])
def yx152 : yCx := ([], ys152.2.2.2.2, yFP, zm283.2.2.1, zm283.2.2.2.1, zc283, 0, ys152.2.2.2.1, [], [])
theorem yw152 : ywf ys152.2.2.1 = true := by decide +kernel
theorem yk152 : yver yx152 ys152.2.2.1 4000 = true := by decide +kernel
theorem yt152 {E : zHp → Prop} (h : yEF E yFP) : yTs E 1 ys152 := yver_s (x := yx152) h (yal_n) yg283 yk152
def ys153 : ySp := (281, 1, (0, [], [], [], [(0, (2, yc 1004, yc 0))], []), [(0, [], [], [], [], [(0, yc 66, yc 0)])], [])
def yx153 : yCx := ([ys152], ys153.2.2.2.2, yFP, zm281.2.2.1, zm281.2.2.2.1, zc281, 0, ys153.2.2.2.1, [], [])
theorem yw153 : ywf ys153.2.2.1 = true := by decide +kernel
theorem yk153 : yver yx153 ys153.2.2.1 4000 = true := by decide +kernel
theorem yt153 {E : zHp → Prop} (h : yEF E yFP) : yTs E 2 ys153 := yver_s (x := yx153) h (yal_c (yt152 h) (by decide) yw152 (yal_n)) yg281 yk153
def ys154 : ySp := (284, 1, (0, [], [], [], [(0, (2, yc 1004, yc 0))], []), [(0, [], [], [], [], [(0, yc 1, yc 0)])], [])
def yx154 : yCx := ([], ys154.2.2.2.2, yFP, zm284.2.2.1, zm284.2.2.2.1, zc284, 0, ys154.2.2.2.1, [], [])
theorem yw154 : ywf ys154.2.2.1 = true := by decide +kernel
theorem yk154 : yver yx154 ys154.2.2.1 4000 = true := by decide +kernel
theorem yt154 {E : zHp → Prop} (h : yEF E yFP) : yTs E 1 ys154 := yver_s (x := yx154) h (yal_n) yg284 yk154
def ys155 : ySp := (293, 3, (0, [], [], [], [(0, (0, yc 0, yc 0)), (1, (0, yc 66, yc 0)), (2, (7, yc 0, yc 0))], []), [(0, [], [], [], [], [(0, yc 0, yc 0)])], [])
def yx155 : yCx := ([], ys155.2.2.2.2, yFP, zm293.2.2.1, zm293.2.2.2.1, zc293, 0, ys155.2.2.2.1, [], [])
theorem yw155 : ywf ys155.2.2.1 = true := by decide +kernel
theorem yk155 : yver yx155 ys155.2.2.1 4000 = true := by decide +kernel
theorem yt155 {E : zHp → Prop} (h : yEF E yFP) : yTs E 1 ys155 := yver_s (x := yx155) h (yal_n) yg293 yk155
