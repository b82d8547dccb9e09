def ys573 : ySp := (60, 3, (1, [(0, 0, 2147483647)], [], [(yc 2, yc 0, (2, yc 1, yc 0)), (yc 2, yc 4, (0, (1, 0, 0), yc 0))], [(0, (2, yc 2, yc 0)), (1, (2, yc 1004, yc 0))], []), [(4, [(1, 0, 400), (2, 0, 400), (3, 1, 2147483647)], [], [(yc 2, yc 0, (2, yc 1, yc 0)), (yc 2, yc 2, (0, (1, 1, 0), yc 0)), (yc 2, yc 1, (0, (1, 2, 0), yc 0)), (yc 2, yc 4, (0, (1, 3, 0), yc 0))], [], [(0, yc (-1), yc 0)]), (3, [(1, 0, 400), (2, 0, 400)], [], [(yc 2, yc 0, (2, yc 1, yc 0)), (yc 2, yc 4, (0, (1, 0, 0), yc 0)), (yc 2, yc 1, (0, (1, 1, 0), yc 0)), (yc 2, yc 2, (0, (1, 2, 0), yc 0))], [], [(0, yc 0, yc 0)]), (3, [(1, 0, 400), (2, 0, 400)], [], [(yc 2, yc 0, (2, yc 1, yc 0)), (yc 2, yc 4, (0, (1, 0, 0), yc 0)), (yc 2, yc 1, (0, (1, 1, 0), yc 0)), (yc 2, yc 2, (0, (1, 2, 0), yc 0))], [], [(0, yc 1, yc 0)]), (4, [(1, 2, 12), (2, 0, 400), (3, 0, 400)], [], [(yc 2, yc 0, (2, yc 1, yc 0)), (yc 2, yc 4, (0, (1, 0, 0), yc 0)), (yc 2, yc 1, (0, (1, 2, 0), yc 0)), (yc 2, yc 2, (0, (1, 3, 0), yc 0))], [], [(0, (1, 1, 0), yc 0)])], [(2, 2, 2), (2, 2, 3), (2, 2, 4)])
def yx573 : yCx := ([ys273, ys572], ys573.2.2.2.2, yFP, zm60.2.2.1, zm60.2.2.2.1, zc60, 1, ys573.2.2.2.1, [], [])
theorem yw573 : ywf ys573.2.2.1 = true := by decide +kernel
theorem yk573 : yver yx573 ys573.2.2.1 4000 = true := by decide +kernel
theorem yt573 {E : zHp → Prop} (h : yEF E yFP) : yTs E 6 ys573 := yver_s (x := yx573) h (yal_c (yt273 h) (by decide) yw273 (yal_c (yt572 h) (by decide) yw572 (yal_n))) yg60 yk573
def ys574 : ySp := (56, 1, (1, [(0, (-1), 5)], [], [], [(0, (0, (1, 0, 0), yc 0))], []), [(1, [], [], [], [], [(0, yc 0, yc 0)])], [])
def yx574 : yCx := ([], ys574.2.2.2.2, yFP, zm56.2.2.1, zm56.2.2.2.1, zc56, 1, ys574.2.2.2.1, [], [])
theorem yw574 : ywf ys574.2.2.1 = true := by decide +kernel
theorem yk574 : yver yx574 ys574.2.2.1 4000 = true := by decide +kernel
theorem yt574 {E : zHp → Prop} (h : yEF E yFP) : yTs E 1 ys574 := yver_s (x := yx574) h (yal_n) yg56 yk574
def ys575 : ySp := (36, 2, (1, [(0, 0, 2147483647)], [], [(yc 2, yc 0, (2, yc 1, yc 0)), (yc 2, yc 4, (0, (1, 0, 0), yc 0))], [(0, (2, yc 6, yc 0)), (1, (2, yc 2, yc 0))], []), [(4, [(1, 0, 400), (2, 0, 400), (3, 0, 2147483647)], [], [(yc 2, yc 2, (0, (1, 1, 0), yc 0)), (yc 2, yc 1, (0, (1, 2, 0), yc 0)), (yc 2, yc 0, (2, yc 1, yc 0)), (yc 2, yc 4, (0, (1, 3, 0), yc 0))], [], [])], [(2, 2, 2), (2, 2, 3), (2, 2, 4), (6, 6, 1), (6, 6, 5), (6, 6, 8), (7, 7, 1000)])
def yx575 : yCx := ([ys303, ys302, ys304, ys247, ys574, ys300, ys301, ys573], ys575.2.2.2.2, yFP, zm36.2.2.1, zm36.2.2.2.1, zc36, 1, ys575.2.2.2.1, [], [])
theorem yw575 : ywf ys575.2.2.1 = true := by decide +kernel
theorem yk575 : yver yx575 ys575.2.2.1 4000 = true := by decide +kernel
theorem yt575 {E : zHp → Prop} (h : yEF E yFP) : yTs E 7 ys575 := yver_s (x := yx575) h (yal_c (yt303 h) (by decide) yw303 (yal_c (yt302 h) (by decide) yw302 (yal_c (yt304 h) (by decide) yw304 (yal_c (yt247 h) (by decide) yw247 (yal_c (yt574 h) (by decide) yw574 (yal_c (yt300 h) (by decide) yw300 (yal_c (yt301 h) (by decide) yw301 (yal_c (yt573 h) (by decide) yw573 (yal_n))))))))) yg36 yk575
def ys576 : ySp := (35, 4, (1, [(0, 0, 2147483647)], [], [(yc 2, yc 0, (2, yc 1, yc 0)), (yc 2, yc 4, (0, (1, 0, 0), yc 0))], [(0, (2, yc 6, yc 0)), (1, (2, yc 2, yc 0))], []), [(4, [(1, 0, 400), (2, 0, 2147483647), (3, 0, 400)], [], [(yc 2, yc 0, (2, yc 1, yc 0)), (yc 2, yc 1, (0, (1, 1, 0), yc 0)), (yc 2, yc 4, (0, (1, 2, 0), yc 0)), (yc 2, yc 2, (0, (1, 3, 0), yc 0))], [], [])], [(2, 2, 2), (2, 2, 3), (2, 2, 4), (6, 6, 1), (6, 6, 3), (6, 6, 5), (6, 6, 6), (6, 6, 7), (6, 6, 8), (6, 6, 9), (7, 7, 1000), (8, 8, 1000)])
def yx576 : yCx := ([ys575, ys278, ys299, ys275, ys247, ys277, ys298], ys576.2.2.2.2, yFP, zm35.2.2.1, zm35.2.2.2.1, zc35, 1, ys576.2.2.2.1, [], [])
theorem yw576 : ywf ys576.2.2.1 = true := by decide +kernel
theorem yk576 : yver yx576 ys576.2.2.1 4000 = true := by decide +kernel
theorem yt576 {E : zHp → Prop} (h : yEF E yFP) : yTs E 8 ys576 := yver_s (x := yx576) h (yal_c (yt575 h) (by decide) yw575 (yal_c (yt278 h) (by decide) yw278 (yal_c (yt299 h) (by decide) yw299 (yal_c (yt275 h) (by decide) yw275 (yal_c (yt247 h) (by decide) yw247 (yal_c (yt277 h) (by decide) yw277 (yal_c (yt298 h) (by decide) yw298 (yal_n)))))))) yg35 yk576
def ys577 : ySp := (283, 1, (0, [], [], [], [(0, (2, yc 1006, yc 0))], []), [(0, [], [], [], [], [(0, yc 0, yc 0)])], [])
def yx577 : yCx := ([], ys577.2.2.2.2, yFP, zm283.2.2.1, zm283.2.2.2.1, zc283, 0, ys577.2.2.2.1, [], [])
theorem yw577 : ywf ys577.2.2.1 = true := by decide +kernel
theorem yk577 : yver yx577 ys577.2.2.1 4000 = true := by decide +kernel
theorem yt577 {E : zHp → Prop} (h : yEF E yFP) : yTs E 1 ys577 := yver_s (x := yx577) h (yal_n) yg283 yk577
def ys578 : ySp := (281, 1, (0, [], [], [], [(0, (2, yc 1006, yc 0))], []), [(0, [], [], [], [], [(0, yc 7, yc 0)])], [])
def yx578 : yCx := ([ys577], ys578.2.2.2.2, yFP, zm281.2.2.1, zm281.2.2.2.1, zc281, 0, ys578.2.2.2.1, [], [])
theorem yw578 : ywf ys578.2.2.1 = true := by decide +kernel
theorem yk578 : yver yx578 ys578.2.2.1 4000 = true := by decide +kernel
theorem yt578 {E : zHp → Prop} (h : yEF E yFP) : yTs E 2 ys578 := yver_s (x := yx578) h (yal_c (yt577 h) (by decide) yw577 (yal_n)) yg281 yk578
def ys579 : ySp := (284, 1, (0, [], [], [], [(0, (2, yc 1006, yc 0))], []), [(0, [], [], [], [], [(0, yc 1, yc 0)])], [])
def yx579 : yCx := ([], ys579.2.2.2.2, yFP, zm284.2.2.1, zm284.2.2.2.1, zc284, 0, ys579.2.2.2.1, [], [])
theorem yw579 : ywf ys579.2.2.1 = true := by decide +kernel
theorem yk579 : yver yx579 ys579.2.2.1 4000 = true := by decide +kernel
theorem yt579 {E : zHp → Prop} (h : yEF E yFP) : yTs E 1 ys579 := yver_s (x := yx579) h (yal_n) yg284 yk579
def ys580 : ySp := (293, 3, (0, [], [], [], [(0, (0, yc 0, yc 0)), (1, (0, yc 7, yc 0)), (2, (7, yc 0, yc 0))], []), [(0, [], [], [], [], [(0, yc 0, yc 0)])], [])
def yx580 : yCx := ([], ys580.2.2.2.2, yFP, zm293.2.2.1, zm293.2.2.2.1, zc293, 0, ys580.2.2.2.1, [], [])
theorem yw580 : ywf ys580.2.2.1 = true := by decide +kernel
theorem yk580 : yver yx580 ys580.2.2.1 4000 = true := by decide +kernel
theorem yt580 {E : zHp → Prop} (h : yEF E yFP) : yTs E 1 ys580 := yver_s (x := yx580) h (yal_n) yg293 yk580
def ys581 : ySp := (285, 2, (0, [], [], [], [(0, (0, yc 0, yc 0)), (1, (0, yc 7, yc 0))], []), [(0, [], [], [], [], [])], [])
def yx581 : yCx := ([ys580], ys581.2.2.2.2, yFP, zm285.2.2.1, zm285.2.2.2.1, zc285, 0, ys581.2.2.2.1, [], [])
theorem yw581 : ywf ys581.2.2.1 = true := by decide +kernel
theorem yk581 : yver yx581 ys581.2.2.1 4000 = true := by decide +kernel
theorem yt581 {E : zHp → Prop} (h : yEF E yFP) : yTs E 2 ys581 := yver_s (x := yx581) h (yal_c (yt580 h) (by decide) yw580 (yal_n)) yg285 yk581
def ys582 : ySp := (286, 2, (0, [], [], [], [(0, (2, yc 1025, yc 0)), (1, (0, yc 0, yc 0))], []), [(0, [], [], [], [], [(0, yc 97, yc 0)])], [])
def yx582 : yCx := ([ys581], ys582.2.2.2.2, yFP, zm286.2.2.1, zm286.2.2.2.1, zc286, 0, ys582.2.2.2.1, [], [])
theorem yw582 : ywf ys582.2.2.1 = true := by decide +kernel
theorem yk582 : yver yx582 ys582.2.2.1 4000 = true := by decide +kernel
theorem yt582 {E : zHp → Prop} (h : yEF E yFP) : yTs E 3 ys582 := yver_s (x := yx582) h (yal_c (yt581 h) (by decide) yw581 (yal_n)) yg286 yk582
def ys583 : ySp := (282, 2, (0, [], [], [], [(0, (2, yc 1006, yc 0)), (1, (0, yc 0, yc 0))], []), [(0, [], [], [], [], [(0, yc 97, yc 0)])], [])
def yx583 : yCx := ([ys579, ys582], ys583.2.2.2.2, yFP, zm282.2.2.1, zm282.2.2.2.1, zc282, 0, ys583.2.2.2.1, [], [])
theorem yw583 : ywf ys583.2.2.1 = true := by decide +kernel
theorem yk583 : yver yx583 ys583.2.2.1 4000 = true := by decide +kernel
theorem yt583 {E : zHp → Prop} (h : yEF E yFP) : yTs E 4 ys583 := yver_s (x := yx583) h (yal_c (yt579 h) (by decide) yw579 (yal_c (yt582 h) (by decide) yw582 (yal_n))) yg282 yk583
def ys584 : ySp := (293, 3, (0, [], [], [], [(0, (0, yc 1, yc 0)), (1, (0, yc 7, yc 0)), (2, (7, yc 0, yc 0))], []), [(0, [], [], [], [], [(0, yc 1, yc 0)])], [])
def yx584 : yCx := ([], ys584.2.2.2.2, yFP, zm293.2.2.1, zm293.2.2.2.1, zc293, 0, ys584.2.2.2.1, [], [])
theorem yw584 : ywf ys584.2.2.1 = true := by decide +kernel
theorem yk584 : yver yx584 ys584.2.2.1 4000 = true := by decide +kernel
theorem yt584 {E : zHp → Prop} (h : yEF E yFP) : yTs E 1 ys584 := yver_s (x := yx584) h (yal_n) yg293 yk584
def ys585 : ySp := (285, 2, (0, [], [], [], [(0, (0, yc 1, yc 0)), (1, (0, yc 7, yc 0))], []), [(0, [], [], [], [], [])], [])
def yx585 : yCx := ([ys584], ys585.2.2.2.2, yFP, zm285.2.2.1, zm285.2.2.2.1, zc285, 0, ys585.2.2.2.1, [], [])
theorem yw585 : ywf ys585.2.2.1 = true := by decide +kernel
theorem yk585 : yver yx585 ys585.2.2.1 4000 = true := by decide +kernel
theorem yt585 {E : zHp → Prop} (h : yEF E yFP) : yTs E 2 ys585 := yver_s (x := yx585) h (yal_c (yt584 h) (by decide) yw584 (yal_n)) yg285 yk585
def ys586 : ySp := (286, 2, (0, [], [], [], [(0, (2, yc 1025, yc 0)), (1, (0, yc 1, yc 0))], []), [(0, [], [], [], [], [(0, yc 110, yc 0)])], [])
def yx586 : yCx := ([ys585], ys586.2.2.2.2, yFP, zm286.2.2.1, zm286.2.2.2.1, zc286, 0, ys586.2.2.2.1, [], [])
theorem yw586 : ywf ys586.2.2.1 = true := by decide +kernel
theorem yk586 : yver yx586 ys586.2.2.1 4000 = true := by decide +kernel
theorem yt586 {E : zHp → Prop} (h : yEF E yFP) : yTs E 3 ys586 := yver_s (x := yx586) h (yal_c (yt585 h) (by decide) yw585 (yal_n)) yg286 yk586
def ys587 : ySp := (282, 2, (0, [], [], [], [(0, (2, yc 1006, yc 0)), (1, (0, yc 1, yc 0))], []), [(0, [], [], [], [], [(0, yc 110, yc 0)])], [])
def yx587 : yCx := ([ys579, ys586], ys587.2.2.2.2, yFP, zm282.2.2.1, zm282.2.2.2.1, zc282, 0, ys587.2.2.2.1, [], [])
theorem yw587 : ywf ys587.2.2.1 = true := by decide +kernel
theorem yk587 : yver yx587 ys587.2.2.1 4000 = true := by decide +kernel
theorem yt587 {E : zHp → Prop} (h : yEF E yFP) : yTs E 4 ys587 := yver_s (x := yx587) h (yal_c (yt579 h) (by decide) yw579 (yal_c (yt586 h) (by decide) yw586 (yal_n))) yg282 yk587
def ys588 : ySp := (293, 3, (0, [], [], [], [(0, (0, yc 2, yc 0)), (1, (0, yc 7, yc 0)), (2, (7, yc 0, yc 0))], []), [(0, [], [], [], [], [(0, yc 2, yc 0)])], [])
def yx588 : yCx := ([], ys588.2.2.2.2, yFP, zm293.2.2.1, zm293.2.2.2.1, zc293, 0, ys588.2.2.2.1, [], [])
theorem yw588 : ywf ys588.2.2.1 = true := by decide +kernel
theorem yk588 : yver yx588 ys588.2.2.1 4000 = true := by decide +kernel
theorem yt588 {E : zHp → Prop} (h : yEF E yFP) : yTs E 1 ys588 := yver_s (x := yx588) h (yal_n) yg293 yk588
def ys589 : ySp := (285, 2, (0, [], [], [], [(0, (0, yc 2, yc 0)), (1, (0, yc 7, yc 0))], []), [(0, [], [], [], [], [])], [])
def yx589 : yCx := ([ys588], ys589.2.2.2.2, yFP, zm285.2.2.1, zm285.2.2.2.1, zc285, 0, ys589.2.2.2.1, [], [])
theorem yw589 : ywf ys589.2.2.1 = true := by decide +kernel
theorem yk589 : yver yx589 ys589.2.2.1 4000 = true := by decide +kernel
theorem yt589 {E : zHp → Prop} (h : yEF E yFP) : yTs E 2 ys589 := yver_s (x := yx589) h (yal_c (yt588 h) (by decide) yw588 (yal_n)) yg285 yk589
def ys590 : ySp := (286, 2, (0, [], [], [], [(0, (2, yc 1025, yc 0)), (1, (0, yc 2, yc 0))], []), [(0, [], [], [], [], [(0, yc 100, yc 0)])], [])
def yx590 : yCx := ([ys589], ys590.2.2.2.2, yFP, zm286.2.2.1, zm286.2.2.2.1, zc286, 0, ys590.2.2.2.1, [], [])
theorem yw590 : ywf ys590.2.2.1 = true := by decide +kernel
theorem yk590 : yver yx590 ys590.2.2.1 4000 = true := by decide +kernel
theorem yt590 {E : zHp → Prop} (h : yEF E yFP) : yTs E 3 ys590 := yver_s (x := yx590) h (yal_c (yt589 h) (by decide) yw589 (yal_n)) yg286 yk590
def ys591 : ySp := (282, 2, (0, [], [], [], [(0, (2, yc 1006, yc 0)), (1, (0, yc 2, yc 0))], []), [(0, [], [], [], [], [(0, yc 100, yc 0)])], [])
def yx591 : yCx := ([ys579, ys590], ys591.2.2.2.2, yFP, zm282.2.2.1, zm282.2.2.2.1, zc282, 0, ys591.2.2.2.1, [], [])
theorem yw591 : ywf ys591.2.2.1 = true := by decide +kernel
theorem yk591 : yver yx591 ys591.2.2.1 4000 = true := by decide +kernel
theorem yt591 {E : zHp → Prop} (h : yEF E yFP) : yTs E 4 ys591 := yver_s (x := yx591) h (yal_c (yt579 h) (by decide) yw579 (yal_c (yt590 h) (by decide) yw590 (yal_n))) yg282 yk591
def ys592 : ySp := (293, 3, (0, [], [], [], [(0, (0, yc 3, yc 0)), (1, (0, yc 7, yc 0)), (2, (7, yc 0, yc 0))], []), [(0, [], [], [], [], [(0, yc 3, yc 0)])], [])
def yx592 : yCx := ([], ys592.2.2.2.2, yFP, zm293.2.2.1, zm293.2.2.2.1, zc293, 0, ys592.2.2.2.1, [], [])
theorem yw592 : ywf ys592.2.2.1 = true := by decide +kernel
theorem yk592 : yver yx592 ys592.2.2.1 4000 = true := by decide +kernel
theorem yt592 {E : zHp → Prop} (h : yEF E yFP) : yTs E 1 ys592 := yver_s (x := yx592) h (yal_n) yg293 yk592
def ys593 : ySp := (285, 2, (0, [], [], [], [(0, (0, yc 3, yc 0)), (1, (0, yc 7, yc 0))], []), [(0, [], [], [], [], [])], [])
def yx593 : yCx := ([ys592], ys593.2.2.2.2, yFP, zm285.2.2.1, zm285.2.2.2.1, zc285, 0, ys593.2.2.2.1, [], [])
theorem yw593 : ywf ys593.2.2.1 = true := by decide +kernel
theorem yk593 : yver yx593 ys593.2.2.1 4000 = true := by decide +kernel
theorem yt593 {E : zHp → Prop} (h : yEF E yFP) : yTs E 2 ys593 := yver_s (x := yx593) h (yal_c (yt592 h) (by decide) yw592 (yal_n)) yg285 yk593
def ys594 : ySp := (286, 2, (0, [], [], [], [(0, (2, yc 1025, yc 0)), (1, (0, yc 3, yc 0))], []), [(0, [], [], [], [], [(0, yc 32, yc 0)])], [])
def yx594 : yCx := ([ys593], ys594.2.2.2.2, yFP, zm286.2.2.1, zm286.2.2.2.1, zc286, 0, ys594.2.2.2.1, [], [])
theorem yw594 : ywf ys594.2.2.1 = true := by decide +kernel
theorem yk594 : yver yx594 ys594.2.2.1 4000 = true := by decide +kernel
theorem yt594 {E : zHp → Prop} (h : yEF E yFP) : yTs E 3 ys594 := yver_s (x := yx594) h (yal_c (yt593 h) (by decide) yw593 (yal_n)) yg286 yk594
def ys595 : ySp := (282, 2, (0, [], [], [], [(0, (2, yc 1006, yc 0)), (1, (0, yc 3, yc 0))], []), [(0, [], [], [], [], [(0, yc 32, yc 0)])], [])
def yx595 : yCx := ([ys579, ys594], ys595.2.2.2.2, yFP, zm282.2.2.1, zm282.2.2.2.1, zc282, 0, ys595.2.2.2.1, [], [])
theorem yw595 : ywf ys595.2.2.1 = true := by decide +kernel
theorem yk595 : yver yx595 ys595.2.2.1 4000 = true := by decide +kernel
theorem yt595 {E : zHp → Prop} (h : yEF E yFP) : yTs E 4 ys595 := yver_s (x := yx595) h (yal_c (yt579 h) (by decide) yw579 (yal_c (yt594 h) (by decide) yw594 (yal_n))) yg282 yk595
def ys596 : ySp := (293, 3, (0, [], [], [], [(0, (0, yc 4, yc 0)), (1, (0, yc 7, yc 0)), (2, (7, yc 0, yc 0))], []), [(0, [], [], [], [], [(0, yc 4, yc 0)])], [])
def yx596 : yCx := ([], ys596.2.2.2.2, yFP, zm293.2.2.1, zm293.2.2.2.1, zc293, 0, ys596.2.2.2.1, [], [])
theorem yw596 : ywf ys596.2.2.1 = true := by decide +kernel
theorem yk596 : yver yx596 ys596.2.2.1 4000 = true := by decide +kernel
theorem yt596 {E : zHp → Prop} (h : yEF E yFP) : yTs E 1 ys596 := yver_s (x := yx596) h (yal_n) yg293 yk596
def ys597 : ySp := (285, 2, (0, [], [], [], [(0, (0, yc 4, yc 0)), (1, (0, yc 7, yc 0))], []), [(0, [], [], [], [], [])], [])
def yx597 : yCx := ([ys596], ys597.2.2.2.2, yFP, zm285.2.2.1, zm285.2.2.2.1, zc285, 0, ys597.2.2.2.1, [], [])
theorem yw597 : ywf ys597.2.2.1 = true := by decide +kernel
theorem yk597 : yver yx597 ys597.2.2.1 4000 = true := by decide +kernel
theorem yt597 {E : zHp → Prop} (h : yEF E yFP) : yTs E 2 ys597 := yver_s (x := yx597) h (yal_c (yt596 h) (by decide) yw596 (yal_n)) yg285 yk597
def ys598 : ySp := (286, 2, (0, [], [], [], [(0, (2, yc 1025, yc 0)), (1, (0, yc 4, yc 0))], []), [(0, [], [], [], [], [(0, yc 111, yc 0)])], [])
def yx598 : yCx := ([ys597], ys598.2.2.2.2, yFP, zm286.2.2.1, zm286.2.2.2.1, zc286, 0, ys598.2.2.2.1, [], [])
theorem yw598 : ywf ys598.2.2.1 = true := by decide +kernel
theorem yk598 : yver yx598 ys598.2.2.1 4000 = true := by decide +kernel
theorem yt598 {E : zHp → Prop} (h : yEF E yFP) : yTs E 3 ys598 := yver_s (x := yx598) h (yal_c (yt597 h) (by decide) yw597 (yal_n)) yg286 yk598
def ys599 : ySp := (282, 2, (0, [], [], [], [(0, (2, yc 1006, yc 0)), (1, (0, yc 4, yc 0))], []), [(0, [], [], [], [], [(0, yc 111, yc 0)])], [])
def yx599 : yCx := ([ys579, ys598], ys599.2.2.2.2, yFP, zm282.2.2.1, zm282.2.2.2.1, zc282, 0, ys599.2.2.2.1, [], [])
theorem yw599 : ywf ys599.2.2.1 = true := by decide +kernel
theorem yk599 : yver yx599 ys599.2.2.1 4000 = true := by decide +kernel
theorem yt599 {E : zHp → Prop} (h : yEF E yFP) : yTs E 4 ys599 := yver_s (x := yx599) h (yal_c (yt579 h) (by decide) yw579 (yal_c (yt598 h) (by decide) yw598 (yal_n))) yg282 yk599
def ys600 : ySp := (293, 3, (0, [], [], [], [(0, (0, yc 5, yc 0)), (1, (0, yc 7, yc 0)), (2, (7, yc 0, yc 0))], []), [(0, [], [], [], [], [(0, yc 5, yc 0)])], [])
def yx600 : yCx := ([], ys600.2.2.2.2, yFP, zm293.2.2.1, zm293.2.2.2.1, zc293, 0, ys600.2.2.2.1, [], [])
theorem yw600 : ywf ys600.2.2.1 = true := by decide +kernel
theorem yk600 : yver yx600 ys600.2.2.1 4000 = true := by decide +kernel
theorem yt600 {E : zHp → Prop} (h : yEF E yFP) : yTs E 1 ys600 := yver_s (x := yx600) h (yal_n) yg293 yk600
def ys601 : ySp := (285, 2, (0, [], [], [], [(0, (0, yc 5, yc 0)), (1, (0, yc 7, yc 0))], []), [(0, [], [], [], [], [])], [])
def yx601 : yCx := ([ys600], ys601.2.2.2.2, yFP, zm285.2.2.1, zm285.2.2.2.1, zc285, 0, ys601.2.2.2.1, [], [])
theorem yw601 : ywf ys601.2.2.1 = true := by decide +kernel
theorem yk601 : yver yx601 ys601.2.2.1 4000 = true := by decide +kernel
theorem yt601 {E : zHp → Prop} (h : yEF E yFP) : yTs E 2 ys601 := yver_s (x := yx601) h (yal_c (yt600 h) (by decide) yw600 (yal_n)) yg285 yk601
def ys602 : ySp := (286, 2, (0, [], [], [], [(0, (2, yc 1025, yc 0)), (1, (0, yc 5, yc 0))], []), [(0, [], [], [], [], [(0, yc 114, yc 0)])], [])
def yx602 : yCx := ([ys601], ys602.2.2.2.2, yFP, zm286.2.2.1, zm286.2.2.2.1, zc286, 0, ys602.2.2.2.1, [], [])
theorem yw602 : ywf ys602.2.2.1 = true := by decide +kernel
theorem yk602 : yver yx602 ys602.2.2.1 4000 = true := by decide +kernel
theorem yt602 {E : zHp → Prop} (h : yEF E yFP) : yTs E 3 ys602 := yver_s (x := yx602) h (yal_c (yt601 h) (by decide) yw601 (yal_n)) yg286 yk602
def ys603 : ySp := (282, 2, (0, [], [], [], [(0, (2, yc 1006, yc 0)), (1, (0, yc 5, yc 0))], []), [(0, [], [], [], [], [(0, yc 114, yc 0)])], [])
def yx603 : yCx := ([ys579, ys602], ys603.2.2.2.2, yFP, zm282.2.2.1, zm282.2.2.2.1, zc282, 0, ys603.2.2.2.1, [], [])
theorem yw603 : ywf ys603.2.2.1 = true := by decide +kernel
theorem yk603 : yver yx603 ys603.2.2.1 4000 = true := by decide +kernel
theorem yt603 {E : zHp → Prop} (h : yEF E yFP) : yTs E 4 ys603 := yver_s (x := yx603) h (yal_c (yt579 h) (by decide) yw579 (yal_c (yt602 h) (by decide) yw602 (yal_n))) yg282 yk603
def ys604 : ySp := (293, 3, (0, [], [], [], [(0, (0, yc 6, yc 0)), (1, (0, yc 7, yc 0)), (2, (7, yc 0, yc 0))], []), [(0, [], [], [], [], [(0, yc 6, yc 0)])], [])
def yx604 : yCx := ([], ys604.2.2.2.2, yFP, zm293.2.2.1, zm293.2.2.2.1, zc293, 0, ys604.2.2.2.1, [], [])
theorem yw604 : ywf ys604.2.2.1 = true := by decide +kernel
theorem yk604 : yver yx604 ys604.2.2.1 4000 = true := by decide +kernel
theorem yt604 {E : zHp → Prop} (h : yEF E yFP) : yTs E 1 ys604 := yver_s (x := yx604) h (yal_n) yg293 yk604
def ys605 : ySp := (285, 2, (0, [], [], [], [(0, (0, yc 6, yc 0)), (1, (0, yc 7, yc 0))], []), [(0, [], [], [], [], [])], [])
def yx605 : yCx := ([ys604], ys605.2.2.2.2, yFP, zm285.2.2.1, zm285.2.2.2.1, zc285, 0, ys605.2.2.2.1, [], [])
theorem yw605 : ywf ys605.2.2.1 = true := by decide +kernel
theorem yk605 : yver yx605 ys605.2.2.1 4000 = true := by decide +kernel
theorem yt605 {E : zHp → Prop} (h : yEF E yFP) : yTs E 2 ys605 := yver_s (x := yx605) h (yal_c (yt604 h) (by decide) yw604 (yal_n)) yg285 yk605
def ys606 : ySp := (286, 2, (0, [], [], [], [(0, (2, yc 1025, yc 0)), (1, (0, yc 6, yc 0))], []), [(0, [], [], [], [], [(0, yc 32, yc 0)])], [])
def yx606 : yCx := ([ys605], ys606.2.2.2.2, yFP, zm286.2.2.1, zm286.2.2.2.1, zc286, 0, ys606.2.2.2.1, [], [])
theorem yw606 : ywf ys606.2.2.1 = true := by decide +kernel
theorem yk606 : yver yx606 ys606.2.2.1 4000 = true := by decide +kernel
theorem yt606 {E : zHp → Prop} (h : yEF E yFP) : yTs E 3 ys606 := yver_s (x := yx606) h (yal_c (yt605 h) (by decide) yw605 (yal_n)) yg286 yk606
def ys607 : ySp := (282, 2, (0, [], [], [], [(0, (2, yc 1006, yc 0)), (1, (0, yc 6, yc 0))], []), [(0, [], [], [], [], [(0, yc 32, yc 0)])], [])
def yx607 : yCx := ([ys579, ys606], ys607.2.2.2.2, yFP, zm282.2.2.1, zm282.2.2.2.1, zc282, 0, ys607.2.2.2.1, [], [])
theorem yw607 : ywf ys607.2.2.1 = true := by decide +kernel
theorem yk607 : yver yx607 ys607.2.2.1 4000 = true := by decide +kernel
theorem yt607 {E : zHp → Prop} (h : yEF E yFP) : yTs E 4 ys607 := yver_s (x := yx607) h (yal_c (yt579 h) (by decide) yw579 (yal_c (yt606 h) (by decide) yw606 (yal_n))) yg282 yk607
def ys608 : ySp := (59, 6, (1, [(0, 0, 2147483647)], [], [(yc 2, yc 0, (2, yc 1, yc 0)), (yc 2, yc 4, (0, (1, 0, 0), yc 0))], [(0, (2, yc 2, yc 0)), (1, (2, yc 1006, yc 0))], []), [(3, [(1, 0, 400), (2, 0, 400)], [], [(yc 2, yc 0, (2, yc 1, yc 0)), (yc 2, yc 4, (0, (1, 0, 0), yc 0)), (yc 2, yc 2, (0, (1, 1, 0), yc 0)), (yc 2, yc 1, (0, (1, 2, 0), yc 0))], [], [(0, yc (-1), yc 0)]), (3, [(1, 0, 400), (2, 0, 400)], [], [(yc 2, yc 0, (2, yc 1, yc 0)), (yc 2, yc 4, (0, (1, 0, 0), yc 0)), (yc 2, yc 1, (0, (1, 1, 0), yc 0)), (yc 2, yc 2, (0, (1, 2, 0), yc 0))], [], [(0, yc 0, yc 0)]), (3, [(1, 0, 400), (2, 0, 400)], [], [(yc 2, yc 0, (2, yc 1, yc 0)), (yc 2, yc 4, (0, (1, 0, 0), yc 0)), (yc 2, yc 1, (0, (1, 1, 0), yc 0)), (yc 2, yc 2, (0, (1, 2, 0), yc 0))], [], [(0, yc 1, yc 0)])], [(2, 2, 2), (2, 2, 3)])
def yq608_0 : yCu := (18, (4, [(0, 0, 2147483647), (1, 0, 400), (2, 0, 400), (3, 0, 400)], [], [(yc 2, yc 0, (2, yc 1, yc 0)), (yc 2, yc 4, (0, (1, 0, 0), yc 0)), (yc 2, yc 2, (0, (1, 2, 0), yc 0)), (yc 2, yc 1, (0, (1, 3, 0), yc 0)), (yc 2, yc 3, (0, (1, 2, 0), yc 0))], [(0, (2, yc 2, yc 0)), (1, (2, yc 1006, yc 0)), (2, (0, (1, 1, 0), yc 0))], []), ([((-1), 1)], 408))
def yq608_1 : yCu := (55, (4, [(0, 0, 2147483647), (1, 0, 400), (2, 0, 400), (3, 0, 400)], [], [(yc 2, yc 0, (2, yc 1, yc 0)), (yc 2, yc 4, (0, (1, 0, 0), yc 0)), (yc 2, yc 2, (0, (1, 2, 0), yc 0)), (yc 2, yc 1, (0, (1, 3, 0), yc 0)), (yc 2, yc 3, (0, (1, 2, 0), yc 0))], [(0, (2, yc 2, yc 0)), (1, (2, yc 1006, yc 0)), (2, (0, (1, 1, 0), yc 0)), (3, (0, yc 0, yc 0)), (4, (0, (1, 2, 0), yc 0)), (5, (0, yc 0, yc 0))], []), ([], 7))
def yq608_2 : yCu := (55, (5, [(0, 0, 2147483647), (1, 0, 400), (2, (-1), 400), (3, 0, 400), (4, 0, 400)], [([(1, 1), ((-1), 2)], 0)], [(yc 2, yc 0, (2, yc 1, yc 0)), (yc 2, yc 4, (0, (1, 0, 0), yc 0)), (yc 2, yc 2, (0, (1, 3, 0), yc 0)), (yc 2, yc 1, (0, (1, 4, 0), yc 0)), (yc 2, yc 3, (0, (1, 3, 0), yc 0))], [(0, (2, yc 2, yc 0)), (1, (2, yc 1006, yc 0)), (2, (0, (1, 1, 0), yc 0)), (3, (0, yc 0, yc 0)), (4, (0, (1, 2, 0), yc 0)), (5, (0, yc 1, yc 0))], []), ([], 6))
def yq608_3 : yCu := (55, (5, [(0, 0, 2147483647), (1, 0, 400), (2, (-1), 400), (3, 0, 400), (4, 0, 400)], [([(1, 1), ((-1), 2)], 1), ([(1, 1), ((-1), 2)], 0)], [(yc 2, yc 0, (2, yc 1, yc 0)), (yc 2, yc 4, (0, (1, 0, 0), yc 0)), (yc 2, yc 2, (0, (1, 3, 0), yc 0)), (yc 2, yc 1, (0, (1, 4, 0), yc 0)), (yc 2, yc 3, (0, (1, 3, 0), yc 0))], [(0, (2, yc 2, yc 0)), (1, (2, yc 1006, yc 0)), (2, (0, (1, 1, 0), yc 0)), (3, (0, yc 0, yc 0)), (4, (0, (1, 2, 0), yc 0)), (5, (0, yc 2, yc 0))], []), ([], 5))
def yq608_4 : yCu := (55, (5, [(0, 0, 2147483647), (1, 0, 400), (2, (-1), 400), (3, 0, 400), (4, 0, 400)], [([(1, 1), ((-1), 2)], 2), ([(1, 1), ((-1), 2)], 1), ([(1, 1), ((-1), 2)], 0)], [(yc 2, yc 0, (2, yc 1, yc 0)), (yc 2, yc 4, (0, (1, 0, 0), yc 0)), (yc 2, yc 2, (0, (1, 3, 0), yc 0)), (yc 2, yc 1, (0, (1, 4, 0), yc 0)), (yc 2, yc 3, (0, (1, 3, 0), yc 0))], [(0, (2, yc 2, yc 0)), (1, (2, yc 1006, yc 0)), (2, (0, (1, 1, 0), yc 0)), (3, (0, yc 0, yc 0)), (4, (0, (1, 2, 0), yc 0)), (5, (0, yc 3, yc 0))], []), ([], 4))
def yq608_5 : yCu := (55, (4, [(0, 0, 2147483647), (1, 0, 400), (2, 0, 400), (3, 0, 400)], [], [(yc 2, yc 0, (2, yc 1, yc 0)), (yc 2, yc 4, (0, (1, 0, 0), yc 0)), (yc 2, yc 2, (0, (1, 2, 0), yc 0)), (yc 2, yc 1, (0, (1, 3, 0), yc 0)), (yc 2, yc 3, (0, (1, 2, 0), yc 0))], [(0, (2, yc 2, yc 0)), (1, (2, yc 1006, yc 0)), (2, (0, (1, 1, 0), yc 0)), (3, (0, yc 1, yc 0)), (4, (0, (1, 2, 0), yc 0)), (5, (0, yc 4, yc 0))], []), ([], 3))
def yq608_6 : yCu := (55, (5, [(0, 0, 2147483647), (1, 0, 400), (2, (-1), 400), (3, 0, 400), (4, 0, 400)], [([(1, 1), ((-1), 2)], 0)], [(yc 2, yc 0, (2, yc 1, yc 0)), (yc 2, yc 4, (0, (1, 0, 0), yc 0)), (yc 2, yc 2, (0, (1, 3, 0), yc 0)), (yc 2, yc 1, (0, (1, 4, 0), yc 0)), (yc 2, yc 3, (0, (1, 3, 0), yc 0))], [(0, (2, yc 2, yc 0)), (1, (2, yc 1006, yc 0)), (2, (0, (1, 1, 0), yc 0)), (3, (0, yc 1, yc 0)), (4, (0, (1, 2, 0), yc 0)), (5, (0, yc 5, yc 0))], []), ([], 2))
def yq608_7 : yCu := (55, (5, [(0, 0, 2147483647), (1, 0, 400), (2, (-1), 400), (3, 0, 400), (4, 0, 400)], [([(1, 1), ((-1), 2)], 1), ([(1, 1), ((-1), 2)], 0)], [(yc 2, yc 0, (2, yc 1, yc 0)), (yc 2, yc 4, (0, (1, 0, 0), yc 0)), (yc 2, yc 2, (0, (1, 3, 0), yc 0)), (yc 2, yc 1, (0, (1, 4, 0), yc 0)), (yc 2, yc 3, (0, (1, 3, 0), yc 0))], [(0, (2, yc 2, yc 0)), (1, (2, yc 1006, yc 0)), (2, (0, (1, 1, 0), yc 0)), (3, (0, yc 1, yc 0)), (4, (0, (1, 2, 0), yc 0)), (5, (0, yc 6, yc 0))], []), ([], 1))
def yq608_8 : yCu := (55, (4, [(0, 0, 2147483647), (1, 0, 400), (2, 0, 400), (3, 0, 400)], [], [(yc 2, yc 0, (2, yc 1, yc 0)), (yc 2, yc 4, (0, (1, 0, 0), yc 0)), (yc 2, yc 2, (0, (1, 2, 0), yc 0)), (yc 2, yc 1, (0, (1, 3, 0), yc 0)), (yc 2, yc 3, (0, (1, 2, 0), yc 0))], [(0, (2, yc 2, yc 0)), (1, (2, yc 1006, yc 0)), (2, (0, (1, 1, 0), yc 0)), (3, (0, yc 2, yc 0)), (4, (0, (1, 2, 0), yc 0)), (5, (0, yc 7, yc 0))], []), ([], 0))
def yx608 : yCx := ([ys247, ys248, ys578, ys583, ys587, ys591, ys595, ys599, ys603, ys607], ys608.2.2.2.2, yFP, zm59.2.2.1, zm59.2.2.2.1, zc59, 1, ys608.2.2.2.1, [yq608_0, yq608_1, yq608_2, yq608_3, yq608_4, yq608_5, yq608_6, yq608_7, yq608_8], [])
theorem yw608 : ywf ys608.2.2.1 = true := by decide +kernel
theorem yk608_e : yver0 yx608 ys608.2.2.1 4000 = true := by decide +kernel
theorem yk608_0 : ycc yx608 4000 yq608_0 = true := by decide +kernel
theorem yk608_1 : ycc yx608 4000 yq608_1 = true := by decide +kernel
theorem yk608_2 : ycc yx608 4000 yq608_2 = true := by decide +kernel
theorem yk608_3 : ycc yx608 4000 yq608_3 = true := by decide +kernel
theorem yk608_4 : ycc yx608 4000 yq608_4 = true := by decide +kernel
theorem yk608_5 : ycc yx608 4000 yq608_5 = true := by decide +kernel
theorem yk608_6 : ycc yx608 4000 yq608_6 = true := by decide +kernel
theorem yk608_7 : ycc yx608 4000 yq608_7 = true := by decide +kernel
theorem yk608_8 : ycc yx608 4000 yq608_8 = true := by decide +kernel
theorem yk608 : yver yx608 ys608.2.2.1 4000 = true := yver_join yk608_e (ycc_c yk608_0 (ycc_c yk608_1 (ycc_c yk608_2 (ycc_c yk608_3 (ycc_c yk608_4 (ycc_c yk608_5 (ycc_c yk608_6 (ycc_c yk608_7 (ycc_c yk608_8 (ycc_n))))))))))
theorem yt608 {E : zHp → Prop} (h : yEF E yFP) : yTs E 5 ys608 := yver_s (x := yx608) h (yal_c (yt247 h) (by decide) yw247 (yal_c (yt248 h) (by decide) yw248 (yal_c (yt578 h) (by decide) yw578 (yal_c (yt583 h) (by decide) yw583 (yal_c (yt587 h) (by decide) yw587 (yal_c (yt591 h) (by decide) yw591 (yal_c (yt595 h) (by decide) yw595 (yal_c (yt599 h) (by decide) yw599 (yal_c (yt603 h) (by decide) yw603 (yal_c (yt607 h) (by decide) yw607 (yal_n))))))))))) yg59 yk608
def ys609 : ySp := (26, 1, (1, [(0, (-2147483648), 2147483647)], [], [], [(0, (0, (1, 0, 0), yc 0))], []), [(2, [(1, (-2147483648), 11)], [], [], [], [(0, (1, 1, 0), yc 0)])], [])
def yx609 : yCx := ([], ys609.2.2.2.2, yFP, zm26.2.2.1, zm26.2.2.2.1, zc26, 1, ys609.2.2.2.1, [], [])
theorem yw609 : ywf ys609.2.2.1 = true := by decide +kernel
theorem yk609 : yver yx609 ys609.2.2.1 4000 = true := by decide +kernel
theorem yt609 {E : zHp → Prop} (h : yEF E yFP) : yTs E 1 ys609 := yver_s (x := yx609) h (yal_n) yg26 yk609
def ys610 : ySp := (46, 2, (1, [(0, 0, 1)], [], [], [(0, (2, yc 6, yc 0)), (1, (0, (1, 0, 0), yc 0))], []), [(1, [], [], [], [], [])], [(6, 6, 1), (6, 6, 3), (6, 6, 6), (7, 7, 1000)])
def yx610 : yCx := ([ys609, ys304], ys610.2.2.2.2, yFP, zm46.2.2.1, zm46.2.2.2.1, zc46, 1, ys610.2.2.2.1, [(0, (2, [(0, 0, 1), (1, 0, 400)], [], [(yc 6, yc 3, (0, (1, 1, 0), yc 0))], [(0, (2, yc 6, yc 0)), (1, (0, (1, 0, 0), yc 0))], []), ([(1, 1)], 1))], [])
theorem yw610 : ywf ys610.2.2.1 = true := by decide +kernel
theorem yk610 : yver yx610 ys610.2.2.1 4000 = true := by decide +kernel
theorem yt610 {E : zHp → Prop} (h : yEF E yFP) : yTs E 2 ys610 := yver_s (x := yx610) h (yal_c (yt609 h) (by decide) yw609 (yal_c (yt304 h) (by decide) yw304 (yal_n))) yg46 yk610
def ys611 : ySp := (45, 2, (1, [(0, 0, 1)], [], [], [(0, (2, yc 6, yc 0)), (1, (0, (1, 0, 0), yc 0))], []), [(1, [], [], [], [], [])], [(6, 6, 1), (6, 6, 3), (6, 6, 6), (7, 7, 1000), (8, 8, 1000)])
def yx611 : yCx := ([ys610, ys278], ys611.2.2.2.2, yFP, zm45.2.2.1, zm45.2.2.2.1, zc45, 1, ys611.2.2.2.1, [], [])
theorem yw611 : ywf ys611.2.2.1 = true := by decide +kernel
theorem yk611 : yver yx611 ys611.2.2.1 4000 = true := by decide +kernel
theorem yt611 {E : zHp → Prop} (h : yEF E yFP) : yTs E 3 ys611 := yver_s (x := yx611) h (yal_c (yt610 h) (by decide) yw610 (yal_c (yt278 h) (by decide) yw278 (yal_n))) yg45 yk611
def ys612 : ySp := (46, 2, (1, [(0, 0, 3)], [], [], [(0, (2, yc 6, yc 0)), (1, (0, (1, 0, 0), yc 0))], []), [(1, [], [], [], [], [])], [(6, 6, 1), (6, 6, 3), (6, 6, 6), (7, 7, 1000)])
def yx612 : yCx := ([ys609, ys304], ys612.2.2.2.2, yFP, zm46.2.2.1, zm46.2.2.2.1, zc46, 1, ys612.2.2.2.1, [(0, (2, [(0, 0, 3), (1, 0, 400)], [], [(yc 6, yc 3, (0, (1, 1, 0), yc 0))], [(0, (2, yc 6, yc 0)), (1, (0, (1, 0, 0), yc 0))], []), ([(1, 1)], 1))], [])
theorem yw612 : ywf ys612.2.2.1 = true := by decide +kernel
theorem yk612 : yver yx612 ys612.2.2.1 4000 = true := by decide +kernel
theorem yt612 {E : zHp → Prop} (h : yEF E yFP) : yTs E 2 ys612 := yver_s (x := yx612) h (yal_c (yt609 h) (by decide) yw609 (yal_c (yt304 h) (by decide) yw304 (yal_n))) yg46 yk612
def ys613 : ySp := (45, 2, (1, [(0, 0, 3)], [], [], [(0, (2, yc 6, yc 0)), (1, (0, (1, 0, 0), yc 0))], []), [(1, [], [], [], [], [])], [(6, 6, 1), (6, 6, 3), (6, 6, 6), (7, 7, 1000), (8, 8, 1000)])
def yx613 : yCx := ([ys612, ys299], ys613.2.2.2.2, yFP, zm45.2.2.1, zm45.2.2.2.1, zc45, 1, ys613.2.2.2.1, [], [])
theorem yw613 : ywf ys613.2.2.1 = true := by decide +kernel
theorem yk613 : yver yx613 ys613.2.2.1 4000 = true := by decide +kernel
theorem yt613 {E : zHp → Prop} (h : yEF E yFP) : yTs E 3 ys613 := yver_s (x := yx613) h (yal_c (yt612 h) (by decide) yw612 (yal_c (yt299 h) (by decide) yw299 (yal_n))) yg45 yk613
def ys614 : ySp := (51, 1, (1, [(0, 0, 2147483647)], [], [(yc 2, yc 4, (0, (1, 0, 0), yc 0))], [(0, (2, yc 2, yc 0))], []), [(1, [(0, 1, 2147483647)], [], [(yc 2, yc 4, (0, (1, 0, 0), yc 0))], [], [(0, yc 0, yc 0)]), (1, [(0, 0, 0)], [], [(yc 2, yc 4, (0, yc 0, yc 0))], [], [(0, yc 1, yc 0)])], [])
def yx614 : yCx := ([], ys614.2.2.2.2, yFP, zm51.2.2.1, zm51.2.2.2.1, zc51, 1, ys614.2.2.2.1, [], [])
theorem yw614 : ywf ys614.2.2.1 = true := by decide +kernel
theorem yk614 : yver yx614 ys614.2.2.1 4000 = true := by decide +kernel
theorem yt614 {E : zHp → Prop} (h : yEF E yFP) : yTs E 1 ys614 := yver_s (x := yx614) h (yal_n) yg51 yk614
def ys615 : ySp := (61, 2, (1, [(0, 0, 2147483647)], [], [(yc 2, yc 0, (2, yc 1, yc 0)), (yc 2, yc 4, (0, (1, 0, 0), yc 0))], [(0, (2, yc 2, yc 0))], []), [(3, [(0, 0, 0), (1, 0, 400), (2, 0, 400)], [([(1, 1), ((-1), 2)], 0)], [(yc 2, yc 0, (2, yc 1, yc 0)), (yc 2, yc 4, (0, yc 0, yc 0)), (yc 2, yc 2, (0, (1, 1, 0), yc 0)), (yc 2, yc 1, (0, (1, 2, 0), yc 0))], [], [(0, yc 0, yc 0)]), (4, [(1, 0, 400), (2, 0, 400), (3, 1, 2147483647)], [], [(yc 2, yc 0, (2, yc 1, yc 0)), (yc 2, yc 2, (0, (1, 1, 0), yc 0)), (yc 2, yc 1, (0, (1, 2, 0), yc 0)), (yc 2, yc 4, (0, (1, 3, 0), yc 0))], [], [(0, yc 0, yc 0)]), (3, [(0, 0, 0), (1, 1, 400), (2, 1, 400)], [([(1, 1), ((-1), 2)], 0)], [(yc 2, yc 0, (2, yc 1, yc 0)), (yc 2, yc 4, (0, yc 0, yc 0)), (yc 2, yc 1, (0, (1, 1, 0), yc 0)), (yc 2, yc 2, (0, (1, 2, 0), yc 0))], [], [(0, yc 1, yc 0)])], [(2, 2, 2), (2, 2, 4)])
def yx615 : yCx := ([ys614, ys273, ys247, ys277], ys615.2.2.2.2, yFP, zm61.2.2.1, zm61.2.2.2.1, zc61, 1, ys615.2.2.2.1, [], [])
theorem yw615 : ywf ys615.2.2.1 = true := by decide +kernel
theorem yk615 : yver yx615 ys615.2.2.1 4000 = true := by decide +kernel
theorem yt615 {E : zHp → Prop} (h : yEF E yFP) : yTs E 2 ys615 := yver_s (x := yx615) h (yal_c (yt614 h) (by decide) yw614 (yal_c (yt273 h) (by decide) yw273 (yal_c (yt247 h) (by decide) yw247 (yal_c (yt277 h) (by decide) yw277 (yal_n))))) yg61 yk615
def ys616 : ySp := (44, 3, (2, [(0, 0, 63), (1, 0, 2147483647)], [], [(yc 2, yc 0, (2, yc 1, yc 0)), (yc 2, yc 4, (0, (1, 1, 0), yc 0))], [(0, (2, yc 6, yc 0)), (1, (2, yc 2, yc 0)), (2, (0, (1, 0, 0), yc 0))], []), [(5, [(2, 0, 2147483647), (3, 0, 400), (4, 0, 400)], [], [(yc 2, yc 0, (2, yc 1, yc 0)), (yc 2, yc 4, (0, (1, 2, 0), yc 0)), (yc 2, yc 1, (0, (1, 3, 0), yc 0)), (yc 2, yc 2, (0, (1, 4, 0), yc 0))], [], [])], [(2, 2, 2), (2, 2, 4), (6, 6, 1), (6, 6, 3), (6, 6, 6), (6, 6, 8), (7, 7, 1000)])
def yx616 : yCx := ([ys610, ys302, ys615], ys616.2.2.2.2, yFP, zm44.2.2.1, zm44.2.2.2.1, zc44, 2, ys616.2.2.2.1, [], [])
theorem yw616 : ywf ys616.2.2.1 = true := by decide +kernel
theorem yk616 : yver yx616 ys616.2.2.1 4000 = true := by decide +kernel
theorem yt616 {E : zHp → Prop} (h : yEF E yFP) : yTs E 3 ys616 := yver_s (x := yx616) h (yal_c (yt610 h) (by decide) yw610 (yal_c (yt302 h) (by decide) yw302 (yal_c (yt615 h) (by decide) yw615 (yal_n)))) yg44 yk616
def ys617 : ySp := (43, 1, (0, [], [], [], [(0, (2, yc 6, yc 0))], []), [(0, [], [], [], [], [])], [(6, 6, 1), (6, 6, 3), (6, 6, 6), (6, 6, 7), (6, 6, 9), (7, 7, 1000)])
def yx617 : yCx := ([ys610], ys617.2.2.2.2, yFP, zm43.2.2.1, zm43.2.2.2.1, zc43, 0, ys617.2.2.2.1, [], [])
theorem yw617 : ywf ys617.2.2.1 = true := by decide +kernel
theorem yk617 : yver yx617 ys617.2.2.1 4000 = true := by decide +kernel
theorem yt617 {E : zHp → Prop} (h : yEF E yFP) : yTs E 3 ys617 := yver_s (x := yx617) h (yal_c (yt610 h) (by decide) yw610 (yal_n)) yg43 yk617
def ys618 : ySp := (42, 3, (1, [(0, 0, 2147483647)], [], [(yc 2, yc 0, (2, yc 1, yc 0)), (yc 2, yc 4, (0, (1, 0, 0), yc 0))], [(0, (2, yc 6, yc 0)), (1, (2, yc 2, yc 0))], []), [(4, [(1, 0, 2147483647), (2, 0, 400), (3, 0, 400)], [], [(yc 2, yc 0, (2, yc 1, yc 0)), (yc 2, yc 4, (0, (1, 1, 0), yc 0)), (yc 2, yc 1, (0, (1, 2, 0), yc 0)), (yc 2, yc 2, (0, (1, 3, 0), yc 0))], [], [])], [(2, 2, 2), (2, 2, 3), (2, 2, 4), (6, 6, 1), (6, 6, 3), (6, 6, 6), (6, 6, 7), (6, 6, 8), (6, 6, 9), (7, 7, 1000), (8, 8, 1000)])
def yx618 : yCx := ([ys617, ys616, ys611, ys613, ys273, ys247, ys277, ys608], ys618.2.2.2.2, yFP, zm42.2.2.1, zm42.2.2.2.1, zc42, 1, ys618.2.2.2.1, [], [])
theorem yw618 : ywf ys618.2.2.1 = true := by decide +kernel
theorem yk618 : yver yx618 ys618.2.2.1 4000 = true := by decide +kernel
theorem yt618 {E : zHp → Prop} (h : yEF E yFP) : yTs E 6 ys618 := yver_s (x := yx618) h (yal_c (yt617 h) (by decide) yw617 (yal_c (yt616 h) (by decide) yw616 (yal_c (yt611 h) (by decide) yw611 (yal_c (yt613 h) (by decide) yw613 (yal_c (yt273 h) (by decide) yw273 (yal_c (yt247 h) (by decide) yw247 (yal_c (yt277 h) (by decide) yw277 (yal_c (yt608 h) (by decide) yw608 (yal_n))))))))) yg42 yk618
def ys619 : ySp := (39, 1, (1, [(0, 0, 255)], [], [], [(0, (0, (1, 0, 0), yc 0))], []), [(1, [], [], [], [], [(0, yc (-1), yc 0)]), (2, [(0, 37, 47), (1, 9, 13)], [], [], [], [(0, (1, 1, 0), yc 0)])], [])
def yx619 : yCx := ([], ys619.2.2.2.2, yFP, zm39.2.2.1, zm39.2.2.2.1, zc39, 1, ys619.2.2.2.1, [], [])
theorem yw619 : ywf ys619.2.2.1 = true := by decide +kernel
theorem yk619 : yver yx619 ys619.2.2.1 4000 = true := by decide +kernel
theorem yt619 {E : zHp → Prop} (h : yEF E yFP) : yTs E 1 ys619 := yver_s (x := yx619) h (yal_n) yg39 yk619
def ys620 : ySp := (46, 2, (1, [(0, 0, 63)], [], [], [(0, (2, yc 6, yc 0)), (1, (0, (1, 0, 0), yc 0))], []), [(1, [], [], [], [], [])], [(6, 6, 1), (6, 6, 3), (6, 6, 6), (7, 7, 1000)])
def yx620 : yCx := ([ys609, ys304], ys620.2.2.2.2, yFP, zm46.2.2.1, zm46.2.2.2.1, zc46, 1, ys620.2.2.2.1, [(0, (2, [(0, 0, 63), (1, 0, 400)], [], [(yc 6, yc 3, (0, (1, 1, 0), yc 0))], [(0, (2, yc 6, yc 0)), (1, (0, (1, 0, 0), yc 0))], []), ([(1, 1)], 1))], [])
theorem yw620 : ywf ys620.2.2.1 = true := by decide +kernel
theorem yk620 : yver yx620 ys620.2.2.1 4000 = true := by decide +kernel
theorem yt620 {E : zHp → Prop} (h : yEF E yFP) : yTs E 2 ys620 := yver_s (x := yx620) h (yal_c (yt609 h) (by decide) yw609 (yal_c (yt304 h) (by decide) yw304 (yal_n))) yg46 yk620
def ys621 : ySp := (47, 2, (1, [(0, 0, 63)], [], [], [(0, (2, yc 6, yc 0)), (1, (0, (1, 0, 0), yc 0))], []), [(1, [], [], [], [], [])], [(6, 6, 3), (8, 8, 1000)])
def yx621 : yCx := ([], ys621.2.2.2.2, yFP, zm47.2.2.1, zm47.2.2.2.1, zc47, 1, ys621.2.2.2.1, [], [])
theorem yw621 : ywf ys621.2.2.1 = true := by decide +kernel
theorem yk621 : yver yx621 ys621.2.2.1 4000 = true := by decide +kernel
theorem yt621 {E : zHp → Prop} (h : yEF E yFP) : yTs E 1 ys621 := yver_s (x := yx621) h (yal_n) yg47 yk621
def ys622 : ySp := (45, 2, (1, [(0, 0, 63)], [], [], [(0, (2, yc 6, yc 0)), (1, (0, (1, 0, 0), yc 0))], []), [(1, [], [], [], [], [])], [(6, 6, 1), (6, 6, 3), (6, 6, 6), (7, 7, 1000), (8, 8, 1000)])
def yx622 : yCx := ([ys620, ys621], ys622.2.2.2.2, yFP, zm45.2.2.1, zm45.2.2.2.1, zc45, 1, ys622.2.2.2.1, [], [])
theorem yw622 : ywf ys622.2.2.1 = true := by decide +kernel
theorem yk622 : yver yx622 ys622.2.2.1 4000 = true := by decide +kernel
theorem yt622 {E : zHp → Prop} (h : yEF E yFP) : yTs E 3 ys622 := yver_s (x := yx622) h (yal_c (yt620 h) (by decide) yw620 (yal_c (yt621 h) (by decide) yw621 (yal_n))) yg45 yk622
def ys623 : ySp := (283, 1, (0, [], [], [], [(0, (2, yc 1005, yc 0))], []), [(0, [], [], [], [], [(0, yc 0, yc 0)])], [])
def yx623 : yCx := ([], ys623.2.2.2.2, yFP, zm283.2.2.1, zm283.2.2.2.1, zc283, 0, ys623.2.2.2.1, [], [])
theorem yw623 : ywf ys623.2.2.1 = true := by decide +kernel
theorem yk623 : yver yx623 ys623.2.2.1 4000 = true := by decide +kernel
theorem yt623 {E : zHp → Prop} (h : yEF E yFP) : yTs E 1 ys623 := yver_s (x := yx623) h (yal_n) yg283 yk623
def ys624 : ySp := (281, 1, (0, [], [], [], [(0, (2, yc 1005, yc 0))], []), [(0, [], [], [], [], [(0, yc 3, yc 0)])], [])
def yx624 : yCx := ([ys623], ys624.2.2.2.2, yFP, zm281.2.2.1, zm281.2.2.2.1, zc281, 0, ys624.2.2.2.1, [], [])
theorem yw624 : ywf ys624.2.2.1 = true := by decide +kernel
theorem yk624 : yver yx624 ys624.2.2.1 4000 = true := by decide +kernel
theorem yt624 {E : zHp → Prop} (h : yEF E yFP) : yTs E 2 ys624 := yver_s (x := yx624) h (yal_c (yt623 h) (by decide) yw623 (yal_n)) yg281 yk624
def ys625 : ySp := (284, 1, (0, [], [], [], [(0, (2, yc 1005, yc 0))], []), [(0, [], [], [], [], [(0, yc 1, yc 0)])], [])
def yx625 : yCx := ([], ys625.2.2.2.2, yFP, zm284.2.2.1, zm284.2.2.2.1, zc284, 0, ys625.2.2.2.1, [], [])
theorem yw625 : ywf ys625.2.2.1 = true := by decide +kernel
theorem yk625 : yver yx625 ys625.2.2.1 4000 = true := by decide +kernel
theorem yt625 {E : zHp → Prop} (h : yEF E yFP) : yTs E 1 ys625 := yver_s (x := yx625) h (yal_n) yg284 yk625
def ys626 : ySp := (293, 3, (0, [], [], [], [(0, (0, yc 0, yc 0)), (1, (0, yc 3, yc 0)), (2, (7, yc 0, yc 0))], []), [(0, [], [], [], [], [(0, yc 0, yc 0)])], [])
def yx626 : yCx := ([], ys626.2.2.2.2, yFP, zm293.2.2.1, zm293.2.2.2.1, zc293, 0, ys626.2.2.2.1, [], [])
theorem yw626 : ywf ys626.2.2.1 = true := by decide +kernel
theorem yk626 : yver yx626 ys626.2.2.1 4000 = true := by decide +kernel
theorem yt626 {E : zHp → Prop} (h : yEF E yFP) : yTs E 1 ys626 := yver_s (x := yx626) h (yal_n) yg293 yk626
def ys627 : ySp := (285, 2, (0, [], [], [], [(0, (0, yc 0, yc 0)), (1, (0, yc 3, yc 0))], []), [(0, [], [], [], [], [])], [])
def yx627 : yCx := ([ys626], ys627.2.2.2.2, yFP, zm285.2.2.1, zm285.2.2.2.1, zc285, 0, ys627.2.2.2.1, [], [])
theorem yw627 : ywf ys627.2.2.1 = true := by decide +kernel
theorem yk627 : yver yx627 ys627.2.2.1 4000 = true := by decide +kernel
theorem yt627 {E : zHp → Prop} (h : yEF E yFP) : yTs E 2 ys627 := yver_s (x := yx627) h (yal_c (yt626 h) (by decide) yw626 (yal_n)) yg285 yk627
def ys628 : ySp := (286, 2, (0, [], [], [], [(0, (2, yc 1024, yc 0)), (1, (0, yc 0, yc 0))], []), [(0, [], [], [], [], [(0, yc 105, yc 0)])], [])
def yx628 : yCx := ([ys627], ys628.2.2.2.2, yFP, zm286.2.2.1, zm286.2.2.2.1, zc286, 0, ys628.2.2.2.1, [], [])
theorem yw628 : ywf ys628.2.2.1 = true := by decide +kernel
theorem yk628 : yver yx628 ys628.2.2.1 4000 = true := by decide +kernel
theorem yt628 {E : zHp → Prop} (h : yEF E yFP) : yTs E 3 ys628 := yver_s (x := yx628) h (yal_c (yt627 h) (by decide) yw627 (yal_n)) yg286 yk628
def ys629 : ySp := (282, 2, (0, [], [], [], [(0, (2, yc 1005, yc 0)), (1, (0, yc 0, yc 0))], []), [(0, [], [], [], [], [(0, yc 105, yc 0)])], [])
def yx629 : yCx := ([ys625, ys628], ys629.2.2.2.2, yFP, zm282.2.2.1, zm282.2.2.2.1, zc282, 0, ys629.2.2.2.1, [], [])
theorem yw629 : ywf ys629.2.2.1 = true := by decide +kernel
theorem yk629 : yver yx629 ys629.2.2.1 4000 = true := by decide +kernel
theorem yt629 {E : zHp → Prop} (h : yEF E yFP) : yTs E 4 ys629 := yver_s (x := yx629) h (yal_c (yt625 h) (by decide) yw625 (yal_c (yt628 h) (by decide) yw628 (yal_n))) yg282 yk629
def ys630 : ySp := (293, 3, (0, [], [], [], [(0, (0, yc 1, yc 0)), (1, (0, yc 3, yc 0)), (2, (7, yc 0, yc 0))], []), [(0, [], [], [], [], [(0, yc 1, yc 0)])], [])
def yx630 : yCx := ([], ys630.2.2.2.2, yFP, zm293.2.2.1, zm293.2.2.2.1, zc293, 0, ys630.2.2.2.1, [], [])
theorem yw630 : ywf ys630.2.2.1 = true := by decide +kernel
theorem yk630 : yver yx630 ys630.2.2.1 4000 = true := by decide +kernel
theorem yt630 {E : zHp → Prop} (h : yEF E yFP) : yTs E 1 ys630 := yver_s (x := yx630) h (yal_n) yg293 yk630
def ys631 : ySp := (285, 2, (0, [], [], [], [(0, (0, yc 1, yc 0)), (1, (0, yc 3, yc 0))], []), [(0, [], [], [], [], [])], [])
def yx631 : yCx := ([ys630], ys631.2.2.2.2, yFP, zm285.2.2.1, zm285.2.2.2.1, zc285, 0, ys631.2.2.2.1, [], [])
theorem yw631 : ywf ys631.2.2.1 = true := by decide +kernel
theorem yk631 : yver yx631 ys631.2.2.1 4000 = true := by decide +kernel
theorem yt631 {E : zHp → Prop} (h : yEF E yFP) : yTs E 2 ys631 := yver_s (x := yx631) h (yal_c (yt630 h) (by decide) yw630 (yal_n)) yg285 yk631
def ys632 : ySp := (286, 2, (0, [], [], [], [(0, (2, yc 1024, yc 0)), (1, (0, yc 1, yc 0))], []), [(0, [], [], [], [], [(0, yc 102, yc 0)])], [])
def yx632 : yCx := ([ys631], ys632.2.2.2.2, yFP, zm286.2.2.1, zm286.2.2.2.1, zc286, 0, ys632.2.2.2.1, [], [])
theorem yw632 : ywf ys632.2.2.1 = true := by decide +kernel
theorem yk632 : yver yx632 ys632.2.2.1 4000 = true := by decide +kernel
theorem yt632 {E : zHp → Prop} (h : yEF E yFP) : yTs E 3 ys632 := yver_s (x := yx632) h (yal_c (yt631 h) (by decide) yw631 (yal_n)) yg286 yk632
def ys633 : ySp := (282, 2, (0, [], [], [], [(0, (2, yc 1005, yc 0)), (1, (0, yc 1, yc 0))], []), [(0, [], [], [], [], [(0, yc 102, yc 0)])], [])
def yx633 : yCx := ([ys625, ys632], ys633.2.2.2.2, yFP, zm282.2.2.1, zm282.2.2.2.1, zc282, 0, ys633.2.2.2.1, [], [])
theorem yw633 : ywf ys633.2.2.1 = true := by decide +kernel
theorem yk633 : yver yx633 ys633.2.2.1 4000 = true := by decide +kernel
theorem yt633 {E : zHp → Prop} (h : yEF E yFP) : yTs E 4 ys633 := yver_s (x := yx633) h (yal_c (yt625 h) (by decide) yw625 (yal_c (yt632 h) (by decide) yw632 (yal_n))) yg282 yk633
def ys634 : ySp := (293, 3, (0, [], [], [], [(0, (0, yc 2, yc 0)), (1, (0, yc 3, yc 0)), (2, (7, yc 0, yc 0))], []), [(0, [], [], [], [], [(0, yc 2, yc 0)])], [])
def yx634 : yCx := ([], ys634.2.2.2.2, yFP, zm293.2.2.1, zm293.2.2.2.1, zc293, 0, ys634.2.2.2.1, [], [])
theorem yw634 : ywf ys634.2.2.1 = true := by decide +kernel
theorem yk634 : yver yx634 ys634.2.2.1 4000 = true := by decide +kernel
theorem yt634 {E : zHp → Prop} (h : yEF E yFP) : yTs E 1 ys634 := yver_s (x := yx634) h (yal_n) yg293 yk634
